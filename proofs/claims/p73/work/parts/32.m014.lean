theorem dX12_image_0 : decode cX12_image 0 = .ok (.aload_n 0, 1) := by decide +kernel
theorem dX12_image_1 : decode cX12_image 1 = .ok (.iconst 0, 1) := by decide +kernel
theorem dX12_image_2 : decode cX12_image 2 = .ok (.putfield 77, 3) := by decide +kernel
theorem dX12_image_5 : decode cX12_image 5 = .ok (.iload_n 1, 1) := by decide +kernel
theorem dX12_image_6 : decode cX12_image 6 = .ok (.i2l, 1) := by decide +kernel
theorem dX12_image_7 : decode cX12_image 7 = .ok (.lconst 0, 1) := by decide +kernel
theorem dX12_image_8 : decode cX12_image 8 = .ok (.ldc2_w 469, 3) := by decide +kernel
theorem dX12_image_11 : decode cX12_image 11 = .ok (.invokestatic 82, 3) := by decide +kernel
theorem dX12_image_14 : decode cX12_image 14 = .ok (.ifCond .ne 6, 3) := by decide +kernel
theorem dX12_image_17 : decode cX12_image 17 = .ok (.bipush (-2), 2) := by decide +kernel
theorem dX12_image_19 : decode cX12_image 19 = .ok (.ireturn, 1) := by decide +kernel
theorem dX12_image_20 : decode cX12_image 20 = .ok (.aload_n 0, 1) := by decide +kernel
theorem dX12_image_21 : decode cX12_image 21 = .ok (.iconst 0, 1) := by decide +kernel
theorem dX12_image_22 : decode cX12_image 22 = .ok (.iconst 1, 1) := by decide +kernel
theorem dX12_image_23 : decode cX12_image 23 = .ok (.iload_n 1, 1) := by decide +kernel
theorem dX12_image_24 : decode cX12_image 24 = .ok (.iadd, 1) := by decide +kernel
theorem dX12_image_25 : decode cX12_image 25 = .ok (.invokevirtual 244, 3) := by decide +kernel
theorem dX12_image_28 : decode cX12_image 28 = .ok (.aload_n 0, 1) := by decide +kernel
theorem dX12_image_29 : decode cX12_image 29 = .ok (.getfield 55, 3) := by decide +kernel
theorem dX12_image_32 : decode cX12_image 32 = .ok (.iload_n 1, 1) := by decide +kernel
theorem dX12_image_33 : decode cX12_image 33 = .ok (.iconst 1, 1) := by decide +kernel
theorem dX12_image_34 : decode cX12_image 34 = .ok (.bastore, 1) := by decide +kernel
theorem dX12_image_35 : decode cX12_image 35 = .ok (.iconst 0, 1) := by decide +kernel
theorem dX12_image_36 : decode cX12_image 36 = .ok (.ireturn, 1) := by decide +kernel
theorem mm_k144 : mm_rg 144 144 144 := ⟨by decide, by decide⟩
theorem mm_k270 : mm_rg 270 270 270 := ⟨by decide, by decide⟩
theorem mm_k630 : mm_rg 630 630 630 := ⟨by decide, by decide⟩
theorem mm_kl2 : mm_rl 2 2 2 := ⟨by decide, by decide⟩
theorem mm_casesR0_3 {v : Int32} (h : mm_rg v 0 2) : v = 0 ∨ v = 1 ∨ v = 2 := by
  have q : v.toInt = 0 ∨ v.toInt = 1 ∨ v.toInt = 2 := by have := h.1; have := h.2; omega
  rcases q with q | q | q
  · exact Or.inl (mm_eq (q.trans (by decide)))
  · exact Or.inr (Or.inl (mm_eq (q.trans (by decide))))
  · exact Or.inr (Or.inr ((mm_eq (q.trans (by decide)))))
set_option maxHeartbeats 4000000 in
set_option maxRecDepth 100000 in
theorem M344_X12_copyRow (l : Launch) (G : va_G) (cy : Nat → ClassId) (sz : Nat) (a_0 : Nat) (f_0 : Nat → Int32) (h0 : mm_ar f_0 0 7)  : mm_CV l yX12_copyRow (mm_ws yX12_copyRow cX12_copyRow 5 (none)) ({ frames := 0, cells := 0, slots := 0, locals := 0 } : Room) G cy sz [(a_0, .inl (cy 1, 15, .inl f_0))] [.ref a_0, .int 3, .int 0, .int 3] (fun u : (Nat → Int32) => [(a_0, .inl (cy 1, 15, .inl u))]) (fun u : (Nat → Int32) => mm_ar u 0 7 ∧ mm_crw f_0 u 3 0 3) 0 0 := by
  refine mm_begin (lv := [(0, .ref a_0), (1, .int 3), (2, .int 0), (3, .int 3)]) (by decide) (Nat.le_of_ble_eq_true rfl) rfl ?_
  intro p e s m below meth c A ls R args Q H locs hRe hQ hAe hx hb hr hlocks hml hown hnm hts hsz hA hS hP hK hD hZ hl
  have hRf : R.frames = 0 := by rw [hRe]
  have hRl : R.locals = 0 := by rw [hRe]
  have hRc : R.cells = 0 := by rw [hRe]
  have hRs : R.slots = 0 := by rw [hRe]
  refine lv_iconst (v := 0) hx hb dX12_copyRow_0 (by decide) ?_
  refine lv_istore (lv' := [(4, .int 0), (0, .ref a_0), (1, .int 3), (2, .int 0), (3, .int 3)]) hx hb dX12_copyRow_1 hl (by decide) rfl ?_
  clear hl
  clear ls
  intro ls hl
  have L3_48 : ∀ (n : Nat) (x3_4_46 : Int32) (z3_0_47 : Nat → Int32), mm_rg x3_4_46 0 3 → mm_ar z3_0_47 0 7 → mm_crk f_0 z3_0_47 3 0 3 x3_4_46 → (3 - x3_4_46.toInt).toNat < n → ∀ (H : Heap) (locs : List Loc), va_P G vwCl [(a_0, .inl (cy 1, 15, .inl z3_0_47))] H → va_D A [(a_0, .inl (cy 1, 15, .inl z3_0_47))] → va_S A s.heap H locs → ∀ (ls : Array Slot), lv_has ls 5 [(4, .int x3_4_46), (0, .ref a_0), (1, .int 3), (2, .int 0), (3, .int 3)] → W p l e R s m args below meth c H locs 0 0 Q (F0 m 3 ls []) := by
    intro n
    induction n with
    | zero => intro x3_4_46 z3_0_47 rx3_4_46 rz3_0_47 w48 hm; exact absurd hm (Nat.not_lt_zero _)
    | succ n ih3 =>
      intro x3_4_46 z3_0_47 rx3_4_46 rz3_0_47 w48 hm3 H locs hP hD hS ls hl
      refine lv_iload hx hb dX12_copyRow_3 (lv_at hl 0 rfl) ?_
      refine lv_iload_n hx hb dX12_copyRow_5 rfl (lv_at hl 2 rfl) ?_
      refine lv_icmp_ge (tgt := 31) hx hb dX12_copyRow_6 (by decide) (fun c50 => ?_) (fun c50 => ?_)
      · have q51 := mm_leR (mm_le c50) mm_k3 rx3_4_46
        have w52 : mm_crw f_0 z3_0_47 3 0 3 := (mm_crw_of w48 q51 (by decide))
        subst hAe
        rw [hQ]
        exact W.vret hx hb hr (fun t ht hW => ⟨⟨z3_0_47, rfl, ⟨rz3_0_47, w52⟩, by rw [ht]; exact hP, hK.warm hW, hD⟩, hS.F ht⟩) hS.2.2 dX12_copyRow_31
      · have q53 := mm_ltL (h := 2) (mm_nle c50) rx3_4_46 mm_k3 (by decide)
        refine lv_aload_n hx hb dX12_copyRow_9 rfl (lv_at hl 1 rfl) ?_
        refine lv_iload_n hx hb dX12_copyRow_10 rfl (lv_at hl 2 rfl) ?_
        refine lv_iload_n hx hb dX12_copyRow_11 rfl (lv_at hl 4 rfl) ?_
        refine lv_imul hx hb dX12_copyRow_12 ?_
        refine lv_topi (fun v54 ev54 => ?_)
        obtain rfl : v54 = 9 := ev54.trans (by decide)
        refine lv_iload hx hb dX12_copyRow_13 (lv_at hl 0 rfl) ?_
        refine lv_iadd hx hb dX12_copyRow_15 ?_
        refine lv_topi (fun v55 ev55 => ?_)
        have rv55 : mm_rg v55 9 11 := mm_add ev55 mm_k9 q53 (by decide) (by decide)
        have tv55 := mm_addEd ev55 mm_k9 q53 (by decide) (k := 9) (by decide)
        refine lv_aload_n hx hb dX12_copyRow_16 rfl (lv_at hl 1 rfl) ?_
        refine lv_iload_n hx hb dX12_copyRow_17 rfl (lv_at hl 2 rfl) ?_
        refine lv_iload_n hx hb dX12_copyRow_18 rfl (lv_at hl 3 rfl) ?_
        refine lv_imul hx hb dX12_copyRow_19 ?_
        refine lv_topi (fun v56 ev56 => ?_)
        obtain rfl : v56 = 0 := ev56.trans (by decide)
        refine lv_iload hx hb dX12_copyRow_20 (lv_at hl 0 rfl) ?_
        refine lv_iadd hx hb dX12_copyRow_22 ?_
        refine lv_topi (fun v57 ev57 => ?_)
        have rv57 : mm_rg v57 0 2 := mm_add ev57 mm_k0 q53 (by decide) (by decide)
        have tv57 := mm_addEd ev57 mm_k0 q53 (by decide) (k := 0) (by decide)
        refine va_iald hx hb hK.1 hP 0 1 rfl rfl (mm_in rv57 (by decide)) dX12_copyRow_23 ?_
        refine lv_topi (fun v58 ev58 => ?_)
        have rv58 : mm_rg v58 0 7 := mm_eqv ev58 (rz3_0_47 _)
        refine va_iast hx hb hK.1 hP hD hS 0 1 rfl rfl (mm_in rv55 (by decide)) dX12_copyRow_24 ?_
        clear hP hD hS
        clear H locs
        obtain ⟨g59, eg59⟩ : ∃ z : Nat → Int32, z = upd z3_0_47 v55.toNatClampNeg v58 := ⟨_, rfl⟩
        rw [← eg59]
        intro H locs (hP : va_P G vwCl [(a_0, .inl (cy 1, 15, .inl g59))] H) (hD : va_D A [(a_0, .inl (cy 1, 15, .inl g59))]) hS
        have rg59 : mm_ar g59 0 7 := by rw [eg59]; exact mm_ar_upd (mm_ar_wk rz3_0_47 (by decide)) (mm_wk rv58 (by decide)) _
        obtain ⟨v60, ev60⟩ : ∃ y : Int32, y = x3_4_46 + 1 := ⟨_, rfl⟩
        refine lv_iinc (v := v60) (lv' := [(4, .int v60), (0, .ref a_0), (1, .int 3), (2, .int 0), (3, .int 3)]) hx hb dX12_copyRow_25 hl (k := 0) rfl (by rw [ev60]; rfl) (by decide) rfl ?_
        clear hl
        clear ls
        intro ls hl
        have rv60 : mm_rg v60 1 3 := mm_add ev60 q53 mm_k1 (by decide) (by decide)
        have tv60 := mm_addEc ev60 q53 mm_k1 (by decide) (k := 1) (by decide)
        refine lv_goto (tgt := 3) hx hb dX12_copyRow_28 (by decide) ?_
        exact ih3 v60 g59 (mm_wk rv60 (by decide)) rg59 (mm_crk_s w48 tv60 q53 eg59 ev58 (by have := tv55; omega) (by have := tv57; omega) (by decide)) (mm_mu hm3 tv60 (by decide) (rv60).2 (by decide)) H locs hP hD hS ls (lv_sub hl [0, 1, 2, 3, 4] rfl)
  exact L3_48 _ 0 f_0 (mm_wk mm_k0 (by decide)) h0 (mm_crk_0 _ _ _ _) (Nat.lt_succ_self _) H locs hP hD hS ls (lv_sub hl [0, 1, 2, 3, 4] rfl)

set_option maxHeartbeats 4000000 in
set_option maxRecDepth 100000 in
theorem M345_X12_copyRow (l : Launch) (G : va_G) (cy : Nat → ClassId) (sz : Nat) (a_0 : Nat) (f_0 : Nat → Int32) (h0 : mm_ar f_0 0 9)  : mm_CV l yX12_copyRow (mm_ws yX12_copyRow cX12_copyRow 5 (none)) ({ frames := 0, cells := 0, slots := 0, locals := 0 } : Room) G cy sz [(a_0, .inl (cy 1, 1050, .inl f_0))] [.ref a_0, .int 210, .int 0, .int 3] (fun u : (Nat → Int32) => [(a_0, .inl (cy 1, 1050, .inl u))]) (fun u : (Nat → Int32) => mm_ar u 0 9 ∧ mm_crw f_0 u 210 0 3) 0 0 := by
  refine mm_begin (lv := [(0, .ref a_0), (1, .int 210), (2, .int 0), (3, .int 3)]) (by decide) (Nat.le_of_ble_eq_true rfl) rfl ?_
  intro p e s m below meth c A ls R args Q H locs hRe hQ hAe hx hb hr hlocks hml hown hnm hts hsz hA hS hP hK hD hZ hl
  have hRf : R.frames = 0 := by rw [hRe]
  have hRl : R.locals = 0 := by rw [hRe]
  have hRc : R.cells = 0 := by rw [hRe]
  have hRs : R.slots = 0 := by rw [hRe]
  refine lv_iconst (v := 0) hx hb dX12_copyRow_0 (by decide) ?_
  refine lv_istore (lv' := [(4, .int 0), (0, .ref a_0), (1, .int 210), (2, .int 0), (3, .int 3)]) hx hb dX12_copyRow_1 hl (by decide) rfl ?_
  clear hl
  clear ls
  intro ls hl
  have L3_148 : ∀ (n : Nat) (x3_4_146 : Int32) (z3_0_147 : Nat → Int32), mm_rg x3_4_146 0 210 → mm_ar z3_0_147 0 9 → mm_crk f_0 z3_0_147 210 0 3 x3_4_146 → (210 - x3_4_146.toInt).toNat < n → ∀ (H : Heap) (locs : List Loc), va_P G vwCl [(a_0, .inl (cy 1, 1050, .inl z3_0_147))] H → va_D A [(a_0, .inl (cy 1, 1050, .inl z3_0_147))] → va_S A s.heap H locs → ∀ (ls : Array Slot), lv_has ls 5 [(4, .int x3_4_146), (0, .ref a_0), (1, .int 210), (2, .int 0), (3, .int 3)] → W p l e R s m args below meth c H locs 0 0 Q (F0 m 3 ls []) := by
    intro n
    induction n with
    | zero => intro x3_4_146 z3_0_147 rx3_4_146 rz3_0_147 w148 hm; exact absurd hm (Nat.not_lt_zero _)
    | succ n ih3 =>
      intro x3_4_146 z3_0_147 rx3_4_146 rz3_0_147 w148 hm3 H locs hP hD hS ls hl
      refine lv_iload hx hb dX12_copyRow_3 (lv_at hl 0 rfl) ?_
      refine lv_iload_n hx hb dX12_copyRow_5 rfl (lv_at hl 2 rfl) ?_
      refine lv_icmp_ge (tgt := 31) hx hb dX12_copyRow_6 (by decide) (fun c150 => ?_) (fun c150 => ?_)
      · have q151 := mm_leR (mm_le c150) mm_k210 rx3_4_146
        have w152 : mm_crw f_0 z3_0_147 210 0 3 := (mm_crw_of w148 q151 (by decide))
        subst hAe
        rw [hQ]
        exact W.vret hx hb hr (fun t ht hW => ⟨⟨z3_0_147, rfl, ⟨rz3_0_147, w152⟩, by rw [ht]; exact hP, hK.warm hW, hD⟩, hS.F ht⟩) hS.2.2 dX12_copyRow_31
      · have q153 := mm_ltL (h := 209) (mm_nle c150) rx3_4_146 mm_k210 (by decide)
        refine lv_aload_n hx hb dX12_copyRow_9 rfl (lv_at hl 1 rfl) ?_
        refine lv_iload_n hx hb dX12_copyRow_10 rfl (lv_at hl 2 rfl) ?_
        refine lv_iload_n hx hb dX12_copyRow_11 rfl (lv_at hl 4 rfl) ?_
        refine lv_imul hx hb dX12_copyRow_12 ?_
        refine lv_topi (fun v154 ev154 => ?_)
        obtain rfl : v154 = 630 := ev154.trans (by decide)
        refine lv_iload hx hb dX12_copyRow_13 (lv_at hl 0 rfl) ?_
        refine lv_iadd hx hb dX12_copyRow_15 ?_
        refine lv_topi (fun v155 ev155 => ?_)
        have rv155 : mm_rg v155 630 839 := mm_add ev155 mm_k630 q153 (by decide) (by decide)
        have tv155 := mm_addEd ev155 mm_k630 q153 (by decide) (k := 630) (by decide)
        refine lv_aload_n hx hb dX12_copyRow_16 rfl (lv_at hl 1 rfl) ?_
        refine lv_iload_n hx hb dX12_copyRow_17 rfl (lv_at hl 2 rfl) ?_
        refine lv_iload_n hx hb dX12_copyRow_18 rfl (lv_at hl 3 rfl) ?_
        refine lv_imul hx hb dX12_copyRow_19 ?_
        refine lv_topi (fun v156 ev156 => ?_)
        obtain rfl : v156 = 0 := ev156.trans (by decide)
        refine lv_iload hx hb dX12_copyRow_20 (lv_at hl 0 rfl) ?_
        refine lv_iadd hx hb dX12_copyRow_22 ?_
        refine lv_topi (fun v157 ev157 => ?_)
        have rv157 : mm_rg v157 0 209 := mm_add ev157 mm_k0 q153 (by decide) (by decide)
        have tv157 := mm_addEd ev157 mm_k0 q153 (by decide) (k := 0) (by decide)
        refine va_iald hx hb hK.1 hP 0 1 rfl rfl (mm_in rv157 (by decide)) dX12_copyRow_23 ?_
        refine lv_topi (fun v158 ev158 => ?_)
        have rv158 : mm_rg v158 0 9 := mm_eqv ev158 (rz3_0_147 _)
        refine va_iast hx hb hK.1 hP hD hS 0 1 rfl rfl (mm_in rv155 (by decide)) dX12_copyRow_24 ?_
        clear hP hD hS
        clear H locs
        obtain ⟨g159, eg159⟩ : ∃ z : Nat → Int32, z = upd z3_0_147 v155.toNatClampNeg v158 := ⟨_, rfl⟩
        rw [← eg159]
        intro H locs (hP : va_P G vwCl [(a_0, .inl (cy 1, 1050, .inl g159))] H) (hD : va_D A [(a_0, .inl (cy 1, 1050, .inl g159))]) hS
        have rg159 : mm_ar g159 0 9 := by rw [eg159]; exact mm_ar_upd (mm_ar_wk rz3_0_147 (by decide)) (mm_wk rv158 (by decide)) _
        obtain ⟨v160, ev160⟩ : ∃ y : Int32, y = x3_4_146 + 1 := ⟨_, rfl⟩
        refine lv_iinc (v := v160) (lv' := [(4, .int v160), (0, .ref a_0), (1, .int 210), (2, .int 0), (3, .int 3)]) hx hb dX12_copyRow_25 hl (k := 0) rfl (by rw [ev160]; rfl) (by decide) rfl ?_
        clear hl
        clear ls
        intro ls hl
        have rv160 : mm_rg v160 1 210 := mm_add ev160 q153 mm_k1 (by decide) (by decide)
        have tv160 := mm_addEc ev160 q153 mm_k1 (by decide) (k := 1) (by decide)
        refine lv_goto (tgt := 3) hx hb dX12_copyRow_28 (by decide) ?_
        exact ih3 v160 g159 (mm_wk rv160 (by decide)) rg159 (mm_crk_s w148 tv160 q153 eg159 ev158 (by have := tv155; omega) (by have := tv157; omega) (by decide)) (mm_mu hm3 tv160 (by decide) (rv160).2 (by decide)) H locs hP hD hS ls (lv_sub hl [0, 1, 2, 3, 4] rfl)
  exact L3_148 _ 0 f_0 (mm_wk mm_k0 (by decide)) h0 (mm_crk_0 _ _ _ _) (Nat.lt_succ_self _) H locs hP hD hS ls (lv_sub hl [0, 1, 2, 3, 4] rfl)

set_option maxHeartbeats 4000000 in
set_option maxRecDepth 100000 in
theorem M346_X12_copyRow (l : Launch) (G : va_G) (cy : Nat → ClassId) (sz : Nat) (a_0 : Nat) (f_0 : Nat → Int32) (h0 : mm_ar f_0 0 8)  : mm_CV l yX12_copyRow (mm_ws yX12_copyRow cX12_copyRow 5 (none)) ({ frames := 0, cells := 0, slots := 0, locals := 0 } : Room) G cy sz [(a_0, .inl (cy 1, 30, .inl f_0))] [.ref a_0, .int 6, .int 0, .int 3] (fun u : (Nat → Int32) => [(a_0, .inl (cy 1, 30, .inl u))]) (fun u : (Nat → Int32) => mm_ar u 0 8 ∧ mm_crw f_0 u 6 0 3) 0 0 := by
  refine mm_begin (lv := [(0, .ref a_0), (1, .int 6), (2, .int 0), (3, .int 3)]) (by decide) (Nat.le_of_ble_eq_true rfl) rfl ?_
  intro p e s m below meth c A ls R args Q H locs hRe hQ hAe hx hb hr hlocks hml hown hnm hts hsz hA hS hP hK hD hZ hl
  have hRf : R.frames = 0 := by rw [hRe]
  have hRl : R.locals = 0 := by rw [hRe]
  have hRc : R.cells = 0 := by rw [hRe]
  have hRs : R.slots = 0 := by rw [hRe]
  refine lv_iconst (v := 0) hx hb dX12_copyRow_0 (by decide) ?_
  refine lv_istore (lv' := [(4, .int 0), (0, .ref a_0), (1, .int 6), (2, .int 0), (3, .int 3)]) hx hb dX12_copyRow_1 hl (by decide) rfl ?_
  clear hl
  clear ls
  intro ls hl
  have L3_75 : ∀ (n : Nat) (x3_4_73 : Int32) (z3_0_74 : Nat → Int32), mm_rg x3_4_73 0 6 → mm_ar z3_0_74 0 8 → mm_crk f_0 z3_0_74 6 0 3 x3_4_73 → (6 - x3_4_73.toInt).toNat < n → ∀ (H : Heap) (locs : List Loc), va_P G vwCl [(a_0, .inl (cy 1, 30, .inl z3_0_74))] H → va_D A [(a_0, .inl (cy 1, 30, .inl z3_0_74))] → va_S A s.heap H locs → ∀ (ls : Array Slot), lv_has ls 5 [(4, .int x3_4_73), (0, .ref a_0), (1, .int 6), (2, .int 0), (3, .int 3)] → W p l e R s m args below meth c H locs 0 0 Q (F0 m 3 ls []) := by
    intro n
    induction n with
    | zero => intro x3_4_73 z3_0_74 rx3_4_73 rz3_0_74 w75 hm; exact absurd hm (Nat.not_lt_zero _)
    | succ n ih3 =>
      intro x3_4_73 z3_0_74 rx3_4_73 rz3_0_74 w75 hm3 H locs hP hD hS ls hl
      refine lv_iload hx hb dX12_copyRow_3 (lv_at hl 0 rfl) ?_
      refine lv_iload_n hx hb dX12_copyRow_5 rfl (lv_at hl 2 rfl) ?_
      refine lv_icmp_ge (tgt := 31) hx hb dX12_copyRow_6 (by decide) (fun c77 => ?_) (fun c77 => ?_)
      · have q78 := mm_leR (mm_le c77) mm_k6 rx3_4_73
        have w79 : mm_crw f_0 z3_0_74 6 0 3 := (mm_crw_of w75 q78 (by decide))
        subst hAe
        rw [hQ]
        exact W.vret hx hb hr (fun t ht hW => ⟨⟨z3_0_74, rfl, ⟨rz3_0_74, w79⟩, by rw [ht]; exact hP, hK.warm hW, hD⟩, hS.F ht⟩) hS.2.2 dX12_copyRow_31
      · have q80 := mm_ltL (h := 5) (mm_nle c77) rx3_4_73 mm_k6 (by decide)
        refine lv_aload_n hx hb dX12_copyRow_9 rfl (lv_at hl 1 rfl) ?_
        refine lv_iload_n hx hb dX12_copyRow_10 rfl (lv_at hl 2 rfl) ?_
        refine lv_iload_n hx hb dX12_copyRow_11 rfl (lv_at hl 4 rfl) ?_
        refine lv_imul hx hb dX12_copyRow_12 ?_
        refine lv_topi (fun v81 ev81 => ?_)
        obtain rfl : v81 = 18 := ev81.trans (by decide)
        refine lv_iload hx hb dX12_copyRow_13 (lv_at hl 0 rfl) ?_
        refine lv_iadd hx hb dX12_copyRow_15 ?_
        refine lv_topi (fun v82 ev82 => ?_)
        have rv82 : mm_rg v82 18 23 := mm_add ev82 mm_k18 q80 (by decide) (by decide)
        have tv82 := mm_addEd ev82 mm_k18 q80 (by decide) (k := 18) (by decide)
        refine lv_aload_n hx hb dX12_copyRow_16 rfl (lv_at hl 1 rfl) ?_
        refine lv_iload_n hx hb dX12_copyRow_17 rfl (lv_at hl 2 rfl) ?_
        refine lv_iload_n hx hb dX12_copyRow_18 rfl (lv_at hl 3 rfl) ?_
        refine lv_imul hx hb dX12_copyRow_19 ?_
        refine lv_topi (fun v83 ev83 => ?_)
        obtain rfl : v83 = 0 := ev83.trans (by decide)
        refine lv_iload hx hb dX12_copyRow_20 (lv_at hl 0 rfl) ?_
        refine lv_iadd hx hb dX12_copyRow_22 ?_
        refine lv_topi (fun v84 ev84 => ?_)
        have rv84 : mm_rg v84 0 5 := mm_add ev84 mm_k0 q80 (by decide) (by decide)
        have tv84 := mm_addEd ev84 mm_k0 q80 (by decide) (k := 0) (by decide)
        refine va_iald hx hb hK.1 hP 0 1 rfl rfl (mm_in rv84 (by decide)) dX12_copyRow_23 ?_
        refine lv_topi (fun v85 ev85 => ?_)
        have rv85 : mm_rg v85 0 8 := mm_eqv ev85 (rz3_0_74 _)
        refine va_iast hx hb hK.1 hP hD hS 0 1 rfl rfl (mm_in rv82 (by decide)) dX12_copyRow_24 ?_
        clear hP hD hS
        clear H locs
        obtain ⟨g86, eg86⟩ : ∃ z : Nat → Int32, z = upd z3_0_74 v82.toNatClampNeg v85 := ⟨_, rfl⟩
        rw [← eg86]
        intro H locs (hP : va_P G vwCl [(a_0, .inl (cy 1, 30, .inl g86))] H) (hD : va_D A [(a_0, .inl (cy 1, 30, .inl g86))]) hS
        have rg86 : mm_ar g86 0 8 := by rw [eg86]; exact mm_ar_upd (mm_ar_wk rz3_0_74 (by decide)) (mm_wk rv85 (by decide)) _
        obtain ⟨v87, ev87⟩ : ∃ y : Int32, y = x3_4_73 + 1 := ⟨_, rfl⟩
        refine lv_iinc (v := v87) (lv' := [(4, .int v87), (0, .ref a_0), (1, .int 6), (2, .int 0), (3, .int 3)]) hx hb dX12_copyRow_25 hl (k := 0) rfl (by rw [ev87]; rfl) (by decide) rfl ?_
        clear hl
        clear ls
        intro ls hl
        have rv87 : mm_rg v87 1 6 := mm_add ev87 q80 mm_k1 (by decide) (by decide)
        have tv87 := mm_addEc ev87 q80 mm_k1 (by decide) (k := 1) (by decide)
        refine lv_goto (tgt := 3) hx hb dX12_copyRow_28 (by decide) ?_
        exact ih3 v87 g86 (mm_wk rv87 (by decide)) rg86 (mm_crk_s w75 tv87 q80 eg86 ev85 (by have := tv82; omega) (by have := tv84; omega) (by decide)) (mm_mu hm3 tv87 (by decide) (rv87).2 (by decide)) H locs hP hD hS ls (lv_sub hl [0, 1, 2, 3, 4] rfl)
  exact L3_75 _ 0 f_0 (mm_wk mm_k0 (by decide)) h0 (mm_crk_0 _ _ _ _) (Nat.lt_succ_self _) H locs hP hD hS ls (lv_sub hl [0, 1, 2, 3, 4] rfl)

set_option maxHeartbeats 4000000 in
set_option maxRecDepth 100000 in
theorem M347_X12_copyRow (l : Launch) (G : va_G) (cy : Nat → ClassId) (sz : Nat) (a_0 : Nat) (f_0 : Nat → Int32) (h0 : mm_ar f_0 0 9)  : mm_CV l yX12_copyRow (mm_ws yX12_copyRow cX12_copyRow 5 (none)) ({ frames := 0, cells := 0, slots := 0, locals := 0 } : Room) G cy sz [(a_0, .inl (cy 1, 240, .inl f_0))] [.ref a_0, .int 48, .int 0, .int 3] (fun u : (Nat → Int32) => [(a_0, .inl (cy 1, 240, .inl u))]) (fun u : (Nat → Int32) => mm_ar u 0 9 ∧ mm_crw f_0 u 48 0 3) 0 0 := by
  refine mm_begin (lv := [(0, .ref a_0), (1, .int 48), (2, .int 0), (3, .int 3)]) (by decide) (Nat.le_of_ble_eq_true rfl) rfl ?_
  intro p e s m below meth c A ls R args Q H locs hRe hQ hAe hx hb hr hlocks hml hown hnm hts hsz hA hS hP hK hD hZ hl
  have hRf : R.frames = 0 := by rw [hRe]
  have hRl : R.locals = 0 := by rw [hRe]
  have hRc : R.cells = 0 := by rw [hRe]
  have hRs : R.slots = 0 := by rw [hRe]
  refine lv_iconst (v := 0) hx hb dX12_copyRow_0 (by decide) ?_
  refine lv_istore (lv' := [(4, .int 0), (0, .ref a_0), (1, .int 48), (2, .int 0), (3, .int 3)]) hx hb dX12_copyRow_1 hl (by decide) rfl ?_
  clear hl
  clear ls
  intro ls hl
  have L3_130 : ∀ (n : Nat) (x3_4_128 : Int32) (z3_0_129 : Nat → Int32), mm_rg x3_4_128 0 48 → mm_ar z3_0_129 0 9 → mm_crk f_0 z3_0_129 48 0 3 x3_4_128 → (48 - x3_4_128.toInt).toNat < n → ∀ (H : Heap) (locs : List Loc), va_P G vwCl [(a_0, .inl (cy 1, 240, .inl z3_0_129))] H → va_D A [(a_0, .inl (cy 1, 240, .inl z3_0_129))] → va_S A s.heap H locs → ∀ (ls : Array Slot), lv_has ls 5 [(4, .int x3_4_128), (0, .ref a_0), (1, .int 48), (2, .int 0), (3, .int 3)] → W p l e R s m args below meth c H locs 0 0 Q (F0 m 3 ls []) := by
    intro n
    induction n with
    | zero => intro x3_4_128 z3_0_129 rx3_4_128 rz3_0_129 w130 hm; exact absurd hm (Nat.not_lt_zero _)
    | succ n ih3 =>
      intro x3_4_128 z3_0_129 rx3_4_128 rz3_0_129 w130 hm3 H locs hP hD hS ls hl
      refine lv_iload hx hb dX12_copyRow_3 (lv_at hl 0 rfl) ?_
      refine lv_iload_n hx hb dX12_copyRow_5 rfl (lv_at hl 2 rfl) ?_
      refine lv_icmp_ge (tgt := 31) hx hb dX12_copyRow_6 (by decide) (fun c132 => ?_) (fun c132 => ?_)
      · have q133 := mm_leR (mm_le c132) mm_k48 rx3_4_128
        have w134 : mm_crw f_0 z3_0_129 48 0 3 := (mm_crw_of w130 q133 (by decide))
        subst hAe
        rw [hQ]
        exact W.vret hx hb hr (fun t ht hW => ⟨⟨z3_0_129, rfl, ⟨rz3_0_129, w134⟩, by rw [ht]; exact hP, hK.warm hW, hD⟩, hS.F ht⟩) hS.2.2 dX12_copyRow_31
      · have q135 := mm_ltL (h := 47) (mm_nle c132) rx3_4_128 mm_k48 (by decide)
        refine lv_aload_n hx hb dX12_copyRow_9 rfl (lv_at hl 1 rfl) ?_
        refine lv_iload_n hx hb dX12_copyRow_10 rfl (lv_at hl 2 rfl) ?_
        refine lv_iload_n hx hb dX12_copyRow_11 rfl (lv_at hl 4 rfl) ?_
        refine lv_imul hx hb dX12_copyRow_12 ?_
        refine lv_topi (fun v136 ev136 => ?_)
        obtain rfl : v136 = 144 := ev136.trans (by decide)
        refine lv_iload hx hb dX12_copyRow_13 (lv_at hl 0 rfl) ?_
        refine lv_iadd hx hb dX12_copyRow_15 ?_
        refine lv_topi (fun v137 ev137 => ?_)
        have rv137 : mm_rg v137 144 191 := mm_add ev137 mm_k144 q135 (by decide) (by decide)
        have tv137 := mm_addEd ev137 mm_k144 q135 (by decide) (k := 144) (by decide)
        refine lv_aload_n hx hb dX12_copyRow_16 rfl (lv_at hl 1 rfl) ?_
        refine lv_iload_n hx hb dX12_copyRow_17 rfl (lv_at hl 2 rfl) ?_
        refine lv_iload_n hx hb dX12_copyRow_18 rfl (lv_at hl 3 rfl) ?_
        refine lv_imul hx hb dX12_copyRow_19 ?_
        refine lv_topi (fun v138 ev138 => ?_)
        obtain rfl : v138 = 0 := ev138.trans (by decide)
        refine lv_iload hx hb dX12_copyRow_20 (lv_at hl 0 rfl) ?_
        refine lv_iadd hx hb dX12_copyRow_22 ?_
        refine lv_topi (fun v139 ev139 => ?_)
        have rv139 : mm_rg v139 0 47 := mm_add ev139 mm_k0 q135 (by decide) (by decide)
        have tv139 := mm_addEd ev139 mm_k0 q135 (by decide) (k := 0) (by decide)
        refine va_iald hx hb hK.1 hP 0 1 rfl rfl (mm_in rv139 (by decide)) dX12_copyRow_23 ?_
        refine lv_topi (fun v140 ev140 => ?_)
        have rv140 : mm_rg v140 0 9 := mm_eqv ev140 (rz3_0_129 _)
        refine va_iast hx hb hK.1 hP hD hS 0 1 rfl rfl (mm_in rv137 (by decide)) dX12_copyRow_24 ?_
        clear hP hD hS
        clear H locs
        obtain ⟨g141, eg141⟩ : ∃ z : Nat → Int32, z = upd z3_0_129 v137.toNatClampNeg v140 := ⟨_, rfl⟩
        rw [← eg141]
        intro H locs (hP : va_P G vwCl [(a_0, .inl (cy 1, 240, .inl g141))] H) (hD : va_D A [(a_0, .inl (cy 1, 240, .inl g141))]) hS
        have rg141 : mm_ar g141 0 9 := by rw [eg141]; exact mm_ar_upd (mm_ar_wk rz3_0_129 (by decide)) (mm_wk rv140 (by decide)) _
        obtain ⟨v142, ev142⟩ : ∃ y : Int32, y = x3_4_128 + 1 := ⟨_, rfl⟩
        refine lv_iinc (v := v142) (lv' := [(4, .int v142), (0, .ref a_0), (1, .int 48), (2, .int 0), (3, .int 3)]) hx hb dX12_copyRow_25 hl (k := 0) rfl (by rw [ev142]; rfl) (by decide) rfl ?_
        clear hl
        clear ls
        intro ls hl
        have rv142 : mm_rg v142 1 48 := mm_add ev142 q135 mm_k1 (by decide) (by decide)
        have tv142 := mm_addEc ev142 q135 mm_k1 (by decide) (k := 1) (by decide)
        refine lv_goto (tgt := 3) hx hb dX12_copyRow_28 (by decide) ?_
        exact ih3 v142 g141 (mm_wk rv142 (by decide)) rg141 (mm_crk_s w130 tv142 q135 eg141 ev140 (by have := tv137; omega) (by have := tv139; omega) (by decide)) (mm_mu hm3 tv142 (by decide) (rv142).2 (by decide)) H locs hP hD hS ls (lv_sub hl [0, 1, 2, 3, 4] rfl)
  exact L3_130 _ 0 f_0 (mm_wk mm_k0 (by decide)) h0 (mm_crk_0 _ _ _ _) (Nat.lt_succ_self _) H locs hP hD hS ls (lv_sub hl [0, 1, 2, 3, 4] rfl)

set_option maxHeartbeats 4000000 in
set_option maxRecDepth 100000 in
theorem M348_X12_copyRow (l : Launch) (G : va_G) (cy : Nat → ClassId) (sz : Nat) (a_0 : Nat) (f_0 : Nat → Int32) (h0 : mm_ar f_0 (-1) 99)  : mm_CV l yX12_copyRow (mm_ws yX12_copyRow cX12_copyRow 5 (none)) ({ frames := 0, cells := 0, slots := 0, locals := 0 } : Room) G cy sz [(a_0, .inl (cy 1, 450, .inl f_0))] [.ref a_0, .int 90, .int 0, .int 3] (fun u : (Nat → Int32) => [(a_0, .inl (cy 1, 450, .inl u))]) (fun u : (Nat → Int32) => mm_ar u (-1) 99 ∧ mm_crw f_0 u 90 0 3) 0 0 := by
  refine mm_begin (lv := [(0, .ref a_0), (1, .int 90), (2, .int 0), (3, .int 3)]) (by decide) (Nat.le_of_ble_eq_true rfl) rfl ?_
  intro p e s m below meth c A ls R args Q H locs hRe hQ hAe hx hb hr hlocks hml hown hnm hts hsz hA hS hP hK hD hZ hl
  have hRf : R.frames = 0 := by rw [hRe]
  have hRl : R.locals = 0 := by rw [hRe]
  have hRc : R.cells = 0 := by rw [hRe]
  have hRs : R.slots = 0 := by rw [hRe]
  refine lv_iconst (v := 0) hx hb dX12_copyRow_0 (by decide) ?_
  refine lv_istore (lv' := [(4, .int 0), (0, .ref a_0), (1, .int 90), (2, .int 0), (3, .int 3)]) hx hb dX12_copyRow_1 hl (by decide) rfl ?_
  clear hl
  clear ls
  intro ls hl
  have L3_139 : ∀ (n : Nat) (x3_4_137 : Int32) (z3_0_138 : Nat → Int32), mm_rg x3_4_137 0 90 → mm_ar z3_0_138 (-1) 99 → mm_crk f_0 z3_0_138 90 0 3 x3_4_137 → (90 - x3_4_137.toInt).toNat < n → ∀ (H : Heap) (locs : List Loc), va_P G vwCl [(a_0, .inl (cy 1, 450, .inl z3_0_138))] H → va_D A [(a_0, .inl (cy 1, 450, .inl z3_0_138))] → va_S A s.heap H locs → ∀ (ls : Array Slot), lv_has ls 5 [(4, .int x3_4_137), (0, .ref a_0), (1, .int 90), (2, .int 0), (3, .int 3)] → W p l e R s m args below meth c H locs 0 0 Q (F0 m 3 ls []) := by
    intro n
    induction n with
    | zero => intro x3_4_137 z3_0_138 rx3_4_137 rz3_0_138 w139 hm; exact absurd hm (Nat.not_lt_zero _)
    | succ n ih3 =>
      intro x3_4_137 z3_0_138 rx3_4_137 rz3_0_138 w139 hm3 H locs hP hD hS ls hl
      refine lv_iload hx hb dX12_copyRow_3 (lv_at hl 0 rfl) ?_
      refine lv_iload_n hx hb dX12_copyRow_5 rfl (lv_at hl 2 rfl) ?_
      refine lv_icmp_ge (tgt := 31) hx hb dX12_copyRow_6 (by decide) (fun c141 => ?_) (fun c141 => ?_)
      · have q142 := mm_leR (mm_le c141) mm_k90 rx3_4_137
        have w143 : mm_crw f_0 z3_0_138 90 0 3 := (mm_crw_of w139 q142 (by decide))
        subst hAe
        rw [hQ]
        exact W.vret hx hb hr (fun t ht hW => ⟨⟨z3_0_138, rfl, ⟨rz3_0_138, w143⟩, by rw [ht]; exact hP, hK.warm hW, hD⟩, hS.F ht⟩) hS.2.2 dX12_copyRow_31
      · have q144 := mm_ltL (h := 89) (mm_nle c141) rx3_4_137 mm_k90 (by decide)
        refine lv_aload_n hx hb dX12_copyRow_9 rfl (lv_at hl 1 rfl) ?_
        refine lv_iload_n hx hb dX12_copyRow_10 rfl (lv_at hl 2 rfl) ?_
        refine lv_iload_n hx hb dX12_copyRow_11 rfl (lv_at hl 4 rfl) ?_
        refine lv_imul hx hb dX12_copyRow_12 ?_
        refine lv_topi (fun v145 ev145 => ?_)
        obtain rfl : v145 = 270 := ev145.trans (by decide)
        refine lv_iload hx hb dX12_copyRow_13 (lv_at hl 0 rfl) ?_
        refine lv_iadd hx hb dX12_copyRow_15 ?_
        refine lv_topi (fun v146 ev146 => ?_)
        have rv146 : mm_rg v146 270 359 := mm_add ev146 mm_k270 q144 (by decide) (by decide)
        have tv146 := mm_addEd ev146 mm_k270 q144 (by decide) (k := 270) (by decide)
        refine lv_aload_n hx hb dX12_copyRow_16 rfl (lv_at hl 1 rfl) ?_
        refine lv_iload_n hx hb dX12_copyRow_17 rfl (lv_at hl 2 rfl) ?_
        refine lv_iload_n hx hb dX12_copyRow_18 rfl (lv_at hl 3 rfl) ?_
        refine lv_imul hx hb dX12_copyRow_19 ?_
        refine lv_topi (fun v147 ev147 => ?_)
        obtain rfl : v147 = 0 := ev147.trans (by decide)
        refine lv_iload hx hb dX12_copyRow_20 (lv_at hl 0 rfl) ?_
        refine lv_iadd hx hb dX12_copyRow_22 ?_
        refine lv_topi (fun v148 ev148 => ?_)
        have rv148 : mm_rg v148 0 89 := mm_add ev148 mm_k0 q144 (by decide) (by decide)
        have tv148 := mm_addEd ev148 mm_k0 q144 (by decide) (k := 0) (by decide)
        refine va_iald hx hb hK.1 hP 0 1 rfl rfl (mm_in rv148 (by decide)) dX12_copyRow_23 ?_
        refine lv_topi (fun v149 ev149 => ?_)
        have rv149 : mm_rg v149 (-1) 99 := mm_eqv ev149 (rz3_0_138 _)
        refine va_iast hx hb hK.1 hP hD hS 0 1 rfl rfl (mm_in rv146 (by decide)) dX12_copyRow_24 ?_
        clear hP hD hS
        clear H locs
        obtain ⟨g150, eg150⟩ : ∃ z : Nat → Int32, z = upd z3_0_138 v146.toNatClampNeg v149 := ⟨_, rfl⟩
        rw [← eg150]
        intro H locs (hP : va_P G vwCl [(a_0, .inl (cy 1, 450, .inl g150))] H) (hD : va_D A [(a_0, .inl (cy 1, 450, .inl g150))]) hS
        have rg150 : mm_ar g150 (-1) 99 := by rw [eg150]; exact mm_ar_upd (mm_ar_wk rz3_0_138 (by decide)) (mm_wk rv149 (by decide)) _
        obtain ⟨v151, ev151⟩ : ∃ y : Int32, y = x3_4_137 + 1 := ⟨_, rfl⟩
        refine lv_iinc (v := v151) (lv' := [(4, .int v151), (0, .ref a_0), (1, .int 90), (2, .int 0), (3, .int 3)]) hx hb dX12_copyRow_25 hl (k := 0) rfl (by rw [ev151]; rfl) (by decide) rfl ?_
        clear hl
        clear ls
        intro ls hl
        have rv151 : mm_rg v151 1 90 := mm_add ev151 q144 mm_k1 (by decide) (by decide)
        have tv151 := mm_addEc ev151 q144 mm_k1 (by decide) (k := 1) (by decide)
        refine lv_goto (tgt := 3) hx hb dX12_copyRow_28 (by decide) ?_
        exact ih3 v151 g150 (mm_wk rv151 (by decide)) rg150 (mm_crk_s w139 tv151 q144 eg150 ev149 (by have := tv146; omega) (by have := tv148; omega) (by decide)) (mm_mu hm3 tv151 (by decide) (rv151).2 (by decide)) H locs hP hD hS ls (lv_sub hl [0, 1, 2, 3, 4] rfl)
  exact L3_139 _ 0 f_0 (mm_wk mm_k0 (by decide)) h0 (mm_crk_0 _ _ _ _) (Nat.lt_succ_self _) H locs hP hD hS ls (lv_sub hl [0, 1, 2, 3, 4] rfl)

set_option maxHeartbeats 4000000 in
set_option maxRecDepth 100000 in
theorem M349_X12_copyBook (l : Launch) (G : va_G) (cy : Nat → ClassId) (sz : Nat) (a_0 : Nat) (i_0 : Int32) (a_1 : Nat) (a_2 : Nat) (a_3 : Nat) (a_4 : Nat) (a_5 : Nat) (i_1 : Int32) (i_2 : Int32) (i_3 : Int32) (i_4 : Int32) (i_5 : Int32) (j_0 : Int64) (i_6 : Int32) (i_7 : Int32) (i_8 : Int32) (i_9 : Int32) (a_6 : Nat) (a_7 : Nat) (a_8 : Nat) (a_9 : Nat) (a_10 : Nat) (a_11 : Nat) (a_12 : Nat) (a_13 : Nat) (a_14 : Nat) (a_15 : Nat) (a_16 : Nat) (a_17 : Nat) (a_18 : Nat) (i_10 : Int32) (i_11 : Int32) (i_12 : Int32) (i_13 : Int32) (i_14 : Int32) (i_15 : Int32) (a_19 : Nat) (i_16 : Int32) (a_20 : Nat) (i_17 : Int32) (i_18 : Int32) (i_19 : Int32) (i_20 : Int32) (i_21 : Int32) (i_22 : Int32) (i_23 : Int32) (i_24 : Int32) (i_25 : Int32) (i_26 : Int32) (i_27 : Int32) (i_28 : Int32) (i_29 : Int32) (i_30 : Int32) (i_31 : Int32) (i_32 : Int32) (i_33 : Int32) (i_34 : Int32) (i_35 : Int32) (i_36 : Int32) (i_37 : Int32) (i_38 : Int32) (i_39 : Int32) (i_40 : Int32) (i_41 : Int32) (i_42 : Int32) (i_43 : Int32) (i_44 : Int32) (i_45 : Int32) (i_46 : Int32) (i_47 : Int32) (i_48 : Int32) (i_49 : Int32) (i_50 : Int32) (i_51 : Int32) (f_0 : Nat → Int32) (f_1 : Nat → Int32) (f_2 : Nat → Int32) (f_3 : Nat → Int32) (f_4 : Nat → Int32) (f_5 : Nat → Int32) (h0 : mm_rg i_17 0 601) (h1 : mm_rg i_18 0 601) (h2 : mm_rg i_19 0 601) (h3 : mm_rg i_20 0 601) (h4 : mm_rg i_21 0 601) (h5 : mm_rg i_22 0 10) (h6 : mm_rg i_23 0 99) (h7 : mm_rg i_24 0 9) (h8 : mm_rg i_25 0 3) (h9 : mm_rg i_26 0 6) (h10 : mm_rg i_27 0 30) (h11 : mm_rg i_28 0 10) (h12 : mm_rg i_29 0 99) (h13 : mm_rg i_30 0 9) (h14 : mm_rg i_31 0 3) (h15 : mm_rg i_32 0 6) (h16 : mm_rg i_33 0 30) (h17 : mm_rg i_34 0 10) (h18 : mm_rg i_35 0 99) (h19 : mm_rg i_36 0 9) (h20 : mm_rg i_37 0 3) (h21 : mm_rg i_38 0 6) (h22 : mm_rg i_39 0 30) (h23 : mm_rg i_40 0 10) (h24 : mm_rg i_41 0 99) (h25 : mm_rg i_42 0 9) (h26 : mm_rg i_43 0 3) (h27 : mm_rg i_44 0 6) (h28 : mm_rg i_45 0 30) (h29 : mm_rg i_46 0 10) (h30 : mm_rg i_47 0 99) (h31 : mm_rg i_48 0 9) (h32 : mm_rg i_49 0 3) (h33 : mm_rg i_50 0 6) (h34 : mm_rg i_51 0 30) (h35 : mm_ar f_0 0 99) (h36 : mm_ar f_1 0 7) (h37 : mm_ar f_2 0 9) (h38 : mm_ar f_3 0 8) (h39 : mm_ar f_4 0 9) (h40 : mm_ar f_5 (-1) 99) (h41 : mm_rls f_1 f_2 0 i_24 i_25) (h42 : mm_txs f_3 f_4 0 i_24 i_26) (h43 : mm_acs f_5 0 i_24 i_25 i_27) (h44 : mm_tl i_17 i_25 i_26) (h45 : mm_rls f_1 f_2 1 i_30 i_31) (h46 : mm_txs f_3 f_4 1 i_30 i_32) (h47 : mm_acs f_5 1 i_30 i_31 i_33) (h48 : mm_tl i_18 i_31 i_32) (h49 : mm_rls f_1 f_2 2 i_36 i_37) (h50 : mm_txs f_3 f_4 2 i_36 i_38) (h51 : mm_acs f_5 2 i_36 i_37 i_39) (h52 : mm_tl i_19 i_37 i_38) (h53 : mm_rls f_1 f_2 3 i_42 i_43) (h54 : mm_txs f_3 f_4 3 i_42 i_44) (h55 : mm_acs f_5 3 i_42 i_43 i_45) (h56 : mm_tl i_20 i_43 i_44)  : mm_CV l yX12_copyBook (mm_ws yX12_copyBook cX12_copyBook 3 (none)) ({ frames := 1, cells := 0, slots := 0, locals := 24 } : Room) G cy sz [(a_0, .inr (12, [.int i_0, .ref a_1, .ref a_2, .ref a_3, .ref a_4, .ref a_5, .int i_1, .int i_2, .int i_3, .int i_4, .int i_5, .long j_0, .int i_6, .int i_7, .int i_8, .int i_9, .ref a_6, .ref a_7, .ref a_8, .ref a_9, .ref a_10, .ref a_11, .ref a_12, .ref a_13, .ref a_14, .ref a_15, .ref a_16, .ref a_17, .ref a_18, .int i_10, .int i_11, .int i_12, .int i_13, .int i_14, .int i_15, .ref a_19, .int i_16, .ref a_20])), (a_6, .inl (cy 1, 5, .inl (mm_g [i_17, i_18, i_19, i_20, i_21]))), (a_7, .inl (cy 1, 30, .inl (mm_g [i_22, i_23, i_24, i_25, i_26, i_27, i_28, i_29, i_30, i_31, i_32, i_33, i_34, i_35, i_36, i_37, i_38, i_39, i_40, i_41, i_42, i_43, i_44, i_45, i_46, i_47, i_48, i_49, i_50, i_51]))), (a_8, .inl (cy 1, 90, .inl f_0)), (a_9, .inl (cy 1, 15, .inl f_1)), (a_10, .inl (cy 1, 1050, .inl f_2)), (a_11, .inl (cy 1, 30, .inl f_3)), (a_12, .inl (cy 1, 240, .inl f_4)), (a_13, .inl (cy 1, 450, .inl f_5))] [.ref a_0, .int 0, .int 3] (fun u : (Nat → Int32) × (Nat → Int32) × (Nat → Int32) × (Nat → Int32) × (Nat → Int32) × (Nat → Int32) => [(a_0, .inr (12, [.int i_0, .ref a_1, .ref a_2, .ref a_3, .ref a_4, .ref a_5, .int i_1, .int i_2, .int i_3, .int i_4, .int i_5, .long j_0, .int i_6, .int i_7, .int i_8, .int i_9, .ref a_6, .ref a_7, .ref a_8, .ref a_9, .ref a_10, .ref a_11, .ref a_12, .ref a_13, .ref a_14, .ref a_15, .ref a_16, .ref a_17, .ref a_18, .int i_10, .int i_11, .int i_12, .int i_13, .int i_14, .int i_15, .ref a_19, .int i_16, .ref a_20])), (a_6, .inl (cy 1, 5, .inl (mm_g [i_17, i_18, i_19, i_17, i_21]))), (a_7, .inl (cy 1, 30, .inl (mm_g [i_22, i_23, i_24, i_25, i_26, i_27, i_28, i_29, i_30, i_31, i_32, i_33, i_34, i_35, i_36, i_37, i_38, i_39, i_22, i_23, i_24, i_25, i_26, i_27, i_46, i_47, i_48, i_49, i_50, i_51]))), (a_8, .inl (cy 1, 90, .inl u.1)), (a_9, .inl (cy 1, 15, .inl u.2.1)), (a_10, .inl (cy 1, 1050, .inl u.2.2.1)), (a_11, .inl (cy 1, 30, .inl u.2.2.2.1)), (a_12, .inl (cy 1, 240, .inl u.2.2.2.2.1)), (a_13, .inl (cy 1, 450, .inl u.2.2.2.2.2))]) (fun u : (Nat → Int32) × (Nat → Int32) × (Nat → Int32) × (Nat → Int32) × (Nat → Int32) × (Nat → Int32) => mm_ar u.1 0 99 ∧ mm_ar u.2.1 0 7 ∧ mm_ar u.2.2.1 0 9 ∧ mm_ar u.2.2.2.1 0 8 ∧ mm_ar u.2.2.2.2.1 0 9 ∧ mm_ar u.2.2.2.2.2 (-1) 99 ∧ mm_rls u.2.1 u.2.2.1 0 i_24 i_25 ∧ mm_txs u.2.2.2.1 u.2.2.2.2.1 0 i_24 i_26 ∧ mm_acs u.2.2.2.2.2 0 i_24 i_25 i_27 ∧ mm_rls u.2.1 u.2.2.1 1 i_30 i_31 ∧ mm_txs u.2.2.2.1 u.2.2.2.2.1 1 i_30 i_32 ∧ mm_acs u.2.2.2.2.2 1 i_30 i_31 i_33 ∧ mm_rls u.2.1 u.2.2.1 2 i_36 i_37 ∧ mm_txs u.2.2.2.1 u.2.2.2.2.1 2 i_36 i_38 ∧ mm_acs u.2.2.2.2.2 2 i_36 i_37 i_39 ∧ mm_rls u.2.1 u.2.2.1 3 i_24 i_25 ∧ mm_txs u.2.2.2.1 u.2.2.2.2.1 3 i_24 i_26 ∧ mm_acs u.2.2.2.2.2 3 i_24 i_25 i_27) 0 0 := by
  refine mm_begin (lv := [(0, .ref a_0), (1, .int 0), (2, .int 3)]) (by decide) (Nat.le_of_ble_eq_true rfl) rfl ?_
  intro p e s m below meth c A ls R args Q H locs hRe hQ hAe hx hb hr hlocks hml hown hnm hts hsz hA hS hP hK hD hZ hl
  have hRf : R.frames = 1 := by rw [hRe]
  have hRl : R.locals = 24 := by rw [hRe]
  have hRc : R.cells = 0 := by rw [hRe]
  have hRs : R.slots = 0 := by rw [hRe]
  refine lv_aload_n hx hb dX12_copyBook_0 rfl (lv_at hl 0 rfl) ?_
  refine va_get (D := G) (ci := 12) (v := .ref a_6) (C := RX12) (T := TX12) (N := 38) hx hb hts (mm_i inlX12) hown hK.1 hP 0 rfl rfl 16 (by decide) (mm_h hts mm_w148) (fun _ h9 => h9) rfl dX12_copyBook_1 ?_
  refine lv_iconst (v := 1) hx hb dX12_copyBook_4 (by decide) ?_
  refine lv_iload_n hx hb dX12_copyBook_5 rfl (lv_at hl 1 rfl) ?_
  refine lv_iload_n hx hb dX12_copyBook_6 rfl (lv_at hl 2 rfl) ?_
  refine mm_finv (va_runS (As := [.ref a_6, .int 1, .int 0, .int 3]) (rest := []) ⟨hx, hb, hml, hown, hts⟩ (M341_X12_copyRow l G cy H.size a_6 i_17 i_18 i_19 i_20 i_21 h0 h1 h2 h3 h4) (va_cwS 4 hts (mm_gS mm_w557 mm_w558 mm_w5 mm_w559) rfl rfl rfl hs_X12_copyRow ⟨by rw [hRf]; exact Nat.le_of_ble_eq_true rfl, by rw [hRl]; exact Nat.le_of_ble_eq_true rfl⟩) (mm_preS hK hZ hS hA hP hD [1] rfl rfl) rfl rfl hl.1 rfl (lv_room (Nat.le_of_ble_eq_true rfl)) dX12_copyBook_7 ⟨by rw [hRc]; exact Nat.le_of_ble_eq_true rfl, by rw [hRs]; exact Nat.le_of_ble_eq_true rfl⟩) hP hD hS hA (fun u : Unit => [(a_0, .inr (12, [.int i_0, .ref a_1, .ref a_2, .ref a_3, .ref a_4, .ref a_5, .int i_1, .int i_2, .int i_3, .int i_4, .int i_5, .long j_0, .int i_6, .int i_7, .int i_8, .int i_9, .ref a_6, .ref a_7, .ref a_8, .ref a_9, .ref a_10, .ref a_11, .ref a_12, .ref a_13, .ref a_14, .ref a_15, .ref a_16, .ref a_17, .ref a_18, .int i_10, .int i_11, .int i_12, .int i_13, .int i_14, .int i_15, .ref a_19, .int i_16, .ref a_20])), (a_6, .inl (cy 1, 5, .inl (mm_g [i_17, i_18, i_19, i_17, i_21]))), (a_7, .inl (cy 1, 30, .inl (mm_g [i_22, i_23, i_24, i_25, i_26, i_27, i_28, i_29, i_30, i_31, i_32, i_33, i_34, i_35, i_36, i_37, i_38, i_39, i_40, i_41, i_42, i_43, i_44, i_45, i_46, i_47, i_48, i_49, i_50, i_51]))), (a_8, .inl (cy 1, 90, .inl f_0)), (a_9, .inl (cy 1, 15, .inl f_1)), (a_10, .inl (cy 1, 1050, .inl f_2)), (a_11, .inl (cy 1, 30, .inl f_3)), (a_12, .inl (cy 1, 240, .inl f_4)), (a_13, .inl (cy 1, 450, .inl f_5))]) [1] [0, 2, 3, 4, 5, 6, 7, 8] (n := 9) (fun _ => rfl) (by decide +kernel) (by decide +kernel) rfl (fun _ => rfl) (wr := [(a_0, .inr (12, [.int i_0, .ref a_1, .ref a_2, .ref a_3, .ref a_4, .ref a_5, .int i_1, .int i_2, .int i_3, .int i_4, .int i_5, .long j_0, .int i_6, .int i_7, .int i_8, .int i_9, .ref a_6, .ref a_7, .ref a_8, .ref a_9, .ref a_10, .ref a_11, .ref a_12, .ref a_13, .ref a_14, .ref a_15, .ref a_16, .ref a_17, .ref a_18, .int i_10, .int i_11, .int i_12, .int i_13, .int i_14, .int i_15, .ref a_19, .int i_16, .ref a_20])), (a_7, .inl (cy 1, 30, .inl (mm_g [i_22, i_23, i_24, i_25, i_26, i_27, i_28, i_29, i_30, i_31, i_32, i_33, i_34, i_35, i_36, i_37, i_38, i_39, i_40, i_41, i_42, i_43, i_44, i_45, i_46, i_47, i_48, i_49, i_50, i_51]))), (a_8, .inl (cy 1, 90, .inl f_0)), (a_9, .inl (cy 1, 15, .inl f_1)), (a_10, .inl (cy 1, 1050, .inl f_2)), (a_11, .inl (cy 1, 30, .inl f_3)), (a_12, .inl (cy 1, 240, .inl f_4)), (a_13, .inl (cy 1, 450, .inl f_5))]) rfl (fun _ => rfl) (fun _ => @rfl _ ([a_6] : List Nat)) ?_
  clear hP hD hS
  clear H locs
  intro _u H locs hw (hP : va_P G vwCl [(a_0, .inr (12, [.int i_0, .ref a_1, .ref a_2, .ref a_3, .ref a_4, .ref a_5, .int i_1, .int i_2, .int i_3, .int i_4, .int i_5, .long j_0, .int i_6, .int i_7, .int i_8, .int i_9, .ref a_6, .ref a_7, .ref a_8, .ref a_9, .ref a_10, .ref a_11, .ref a_12, .ref a_13, .ref a_14, .ref a_15, .ref a_16, .ref a_17, .ref a_18, .int i_10, .int i_11, .int i_12, .int i_13, .int i_14, .int i_15, .ref a_19, .int i_16, .ref a_20])), (a_6, .inl (cy 1, 5, .inl (mm_g [i_17, i_18, i_19, i_17, i_21]))), (a_7, .inl (cy 1, 30, .inl (mm_g [i_22, i_23, i_24, i_25, i_26, i_27, i_28, i_29, i_30, i_31, i_32, i_33, i_34, i_35, i_36, i_37, i_38, i_39, i_40, i_41, i_42, i_43, i_44, i_45, i_46, i_47, i_48, i_49, i_50, i_51]))), (a_8, .inl (cy 1, 90, .inl f_0)), (a_9, .inl (cy 1, 15, .inl f_1)), (a_10, .inl (cy 1, 1050, .inl f_2)), (a_11, .inl (cy 1, 30, .inl f_3)), (a_12, .inl (cy 1, 240, .inl f_4)), (a_13, .inl (cy 1, 450, .inl f_5))] H) (hD : va_D A [(a_0, .inr (12, [.int i_0, .ref a_1, .ref a_2, .ref a_3, .ref a_4, .ref a_5, .int i_1, .int i_2, .int i_3, .int i_4, .int i_5, .long j_0, .int i_6, .int i_7, .int i_8, .int i_9, .ref a_6, .ref a_7, .ref a_8, .ref a_9, .ref a_10, .ref a_11, .ref a_12, .ref a_13, .ref a_14, .ref a_15, .ref a_16, .ref a_17, .ref a_18, .int i_10, .int i_11, .int i_12, .int i_13, .int i_14, .int i_15, .ref a_19, .int i_16, .ref a_20])), (a_6, .inl (cy 1, 5, .inl (mm_g [i_17, i_18, i_19, i_17, i_21]))), (a_7, .inl (cy 1, 30, .inl (mm_g [i_22, i_23, i_24, i_25, i_26, i_27, i_28, i_29, i_30, i_31, i_32, i_33, i_34, i_35, i_36, i_37, i_38, i_39, i_40, i_41, i_42, i_43, i_44, i_45, i_46, i_47, i_48, i_49, i_50, i_51]))), (a_8, .inl (cy 1, 90, .inl f_0)), (a_9, .inl (cy 1, 15, .inl f_1)), (a_10, .inl (cy 1, 1050, .inl f_2)), (a_11, .inl (cy 1, 30, .inl f_3)), (a_12, .inl (cy 1, 240, .inl f_4)), (a_13, .inl (cy 1, 450, .inl f_5))]) hS
  refine lv_aload_n hx hb dX12_copyBook_10 rfl (lv_at hl 0 rfl) ?_
  refine va_get (D := G) (ci := 12) (v := .ref a_7) (C := RX12) (T := TX12) (N := 38) hx hb hts (mm_i inlX12) hown hK.1 hP 0 rfl rfl 17 (by decide) (mm_h hts mm_w149) (fun _ h9 => h9) rfl dX12_copyBook_11 ?_
  refine lv_bipush (v := 6) hx hb dX12_copyBook_14 (by decide) ?_
  refine lv_iload_n hx hb dX12_copyBook_16 rfl (lv_at hl 1 rfl) ?_
  refine lv_iload_n hx hb dX12_copyBook_17 rfl (lv_at hl 2 rfl) ?_
  refine mm_finv (va_runS (As := [.ref a_7, .int 6, .int 0, .int 3]) (rest := []) ⟨hx, hb, hml, hown, hts⟩ (M342_X12_copyRow l G cy H.size a_7 i_22 i_23 i_24 i_25 i_26 i_27 i_28 i_29 i_30 i_31 i_32 i_33 i_34 i_35 i_36 i_37 i_38 i_39 i_40 i_41 i_42 i_43 i_44 i_45 i_46 i_47 i_48 i_49 i_50 i_51 h5 h6 h7 h8 h9 h10 h11 h12 h13 h14 h15 h16 h17 h18 h19 h20 h21 h22 h23 h24 h25 h26 h27 h28 h29 h30 h31 h32 h33 h34) (va_cwS 4 hts (mm_gS mm_w557 mm_w558 mm_w5 mm_w559) rfl rfl rfl hs_X12_copyRow ⟨by rw [hRf]; exact Nat.le_of_ble_eq_true rfl, by rw [hRl]; exact Nat.le_of_ble_eq_true rfl⟩) (mm_preS hK hZ hS hA hP hD [2] rfl rfl) rfl rfl hl.1 rfl (lv_room (Nat.le_of_ble_eq_true rfl)) dX12_copyBook_18 ⟨by rw [hRc]; exact Nat.le_of_ble_eq_true rfl, by rw [hRs]; exact Nat.le_of_ble_eq_true rfl⟩) hP hD hS hA (fun u : Unit => [(a_0, .inr (12, [.int i_0, .ref a_1, .ref a_2, .ref a_3, .ref a_4, .ref a_5, .int i_1, .int i_2, .int i_3, .int i_4, .int i_5, .long j_0, .int i_6, .int i_7, .int i_8, .int i_9, .ref a_6, .ref a_7, .ref a_8, .ref a_9, .ref a_10, .ref a_11, .ref a_12, .ref a_13, .ref a_14, .ref a_15, .ref a_16, .ref a_17, .ref a_18, .int i_10, .int i_11, .int i_12, .int i_13, .int i_14, .int i_15, .ref a_19, .int i_16, .ref a_20])), (a_6, .inl (cy 1, 5, .inl (mm_g [i_17, i_18, i_19, i_17, i_21]))), (a_7, .inl (cy 1, 30, .inl (mm_g [i_22, i_23, i_24, i_25, i_26, i_27, i_28, i_29, i_30, i_31, i_32, i_33, i_34, i_35, i_36, i_37, i_38, i_39, i_22, i_23, i_24, i_25, i_26, i_27, i_46, i_47, i_48, i_49, i_50, i_51]))), (a_8, .inl (cy 1, 90, .inl f_0)), (a_9, .inl (cy 1, 15, .inl f_1)), (a_10, .inl (cy 1, 1050, .inl f_2)), (a_11, .inl (cy 1, 30, .inl f_3)), (a_12, .inl (cy 1, 240, .inl f_4)), (a_13, .inl (cy 1, 450, .inl f_5))]) [2] [0, 1, 3, 4, 5, 6, 7, 8] (n := 9) (fun _ => rfl) (by decide +kernel) (by decide +kernel) rfl (fun _ => rfl) (wr := [(a_0, .inr (12, [.int i_0, .ref a_1, .ref a_2, .ref a_3, .ref a_4, .ref a_5, .int i_1, .int i_2, .int i_3, .int i_4, .int i_5, .long j_0, .int i_6, .int i_7, .int i_8, .int i_9, .ref a_6, .ref a_7, .ref a_8, .ref a_9, .ref a_10, .ref a_11, .ref a_12, .ref a_13, .ref a_14, .ref a_15, .ref a_16, .ref a_17, .ref a_18, .int i_10, .int i_11, .int i_12, .int i_13, .int i_14, .int i_15, .ref a_19, .int i_16, .ref a_20])), (a_6, .inl (cy 1, 5, .inl (mm_g [i_17, i_18, i_19, i_17, i_21]))), (a_8, .inl (cy 1, 90, .inl f_0)), (a_9, .inl (cy 1, 15, .inl f_1)), (a_10, .inl (cy 1, 1050, .inl f_2)), (a_11, .inl (cy 1, 30, .inl f_3)), (a_12, .inl (cy 1, 240, .inl f_4)), (a_13, .inl (cy 1, 450, .inl f_5))]) rfl (fun _ => rfl) (fun _ => @rfl _ ([a_7] : List Nat)) ?_
  clear hP hD hS
  clear H locs
  intro _u H locs hw (hP : va_P G vwCl [(a_0, .inr (12, [.int i_0, .ref a_1, .ref a_2, .ref a_3, .ref a_4, .ref a_5, .int i_1, .int i_2, .int i_3, .int i_4, .int i_5, .long j_0, .int i_6, .int i_7, .int i_8, .int i_9, .ref a_6, .ref a_7, .ref a_8, .ref a_9, .ref a_10, .ref a_11, .ref a_12, .ref a_13, .ref a_14, .ref a_15, .ref a_16, .ref a_17, .ref a_18, .int i_10, .int i_11, .int i_12, .int i_13, .int i_14, .int i_15, .ref a_19, .int i_16, .ref a_20])), (a_6, .inl (cy 1, 5, .inl (mm_g [i_17, i_18, i_19, i_17, i_21]))), (a_7, .inl (cy 1, 30, .inl (mm_g [i_22, i_23, i_24, i_25, i_26, i_27, i_28, i_29, i_30, i_31, i_32, i_33, i_34, i_35, i_36, i_37, i_38, i_39, i_22, i_23, i_24, i_25, i_26, i_27, i_46, i_47, i_48, i_49, i_50, i_51]))), (a_8, .inl (cy 1, 90, .inl f_0)), (a_9, .inl (cy 1, 15, .inl f_1)), (a_10, .inl (cy 1, 1050, .inl f_2)), (a_11, .inl (cy 1, 30, .inl f_3)), (a_12, .inl (cy 1, 240, .inl f_4)), (a_13, .inl (cy 1, 450, .inl f_5))] H) (hD : va_D A [(a_0, .inr (12, [.int i_0, .ref a_1, .ref a_2, .ref a_3, .ref a_4, .ref a_5, .int i_1, .int i_2, .int i_3, .int i_4, .int i_5, .long j_0, .int i_6, .int i_7, .int i_8, .int i_9, .ref a_6, .ref a_7, .ref a_8, .ref a_9, .ref a_10, .ref a_11, .ref a_12, .ref a_13, .ref a_14, .ref a_15, .ref a_16, .ref a_17, .ref a_18, .int i_10, .int i_11, .int i_12, .int i_13, .int i_14, .int i_15, .ref a_19, .int i_16, .ref a_20])), (a_6, .inl (cy 1, 5, .inl (mm_g [i_17, i_18, i_19, i_17, i_21]))), (a_7, .inl (cy 1, 30, .inl (mm_g [i_22, i_23, i_24, i_25, i_26, i_27, i_28, i_29, i_30, i_31, i_32, i_33, i_34, i_35, i_36, i_37, i_38, i_39, i_22, i_23, i_24, i_25, i_26, i_27, i_46, i_47, i_48, i_49, i_50, i_51]))), (a_8, .inl (cy 1, 90, .inl f_0)), (a_9, .inl (cy 1, 15, .inl f_1)), (a_10, .inl (cy 1, 1050, .inl f_2)), (a_11, .inl (cy 1, 30, .inl f_3)), (a_12, .inl (cy 1, 240, .inl f_4)), (a_13, .inl (cy 1, 450, .inl f_5))]) hS
  refine lv_aload_n hx hb dX12_copyBook_21 rfl (lv_at hl 0 rfl) ?_
  refine va_get (D := G) (ci := 12) (v := .ref a_8) (C := RX12) (T := TX12) (N := 38) hx hb hts (mm_i inlX12) hown hK.1 hP 0 rfl rfl 18 (by decide) (mm_h hts mm_w150) (fun _ h9 => h9) rfl dX12_copyBook_22 ?_
  refine lv_bipush (v := 18) hx hb dX12_copyBook_25 (by decide) ?_
  refine lv_iload_n hx hb dX12_copyBook_27 rfl (lv_at hl 1 rfl) ?_
  refine lv_iload_n hx hb dX12_copyBook_28 rfl (lv_at hl 2 rfl) ?_
  refine mm_finv (va_runS (As := [.ref a_8, .int 18, .int 0, .int 3]) (rest := []) ⟨hx, hb, hml, hown, hts⟩ (M343_X12_copyRow l G cy H.size a_8 f_0 h35) (va_cwS 4 hts (mm_gS mm_w557 mm_w558 mm_w5 mm_w559) rfl rfl rfl hs_X12_copyRow ⟨by rw [hRf]; exact Nat.le_of_ble_eq_true rfl, by rw [hRl]; exact Nat.le_of_ble_eq_true rfl⟩) (mm_preS hK hZ hS hA hP hD [3] rfl rfl) rfl rfl hl.1 rfl (lv_room (Nat.le_of_ble_eq_true rfl)) dX12_copyBook_29 ⟨by rw [hRc]; exact Nat.le_of_ble_eq_true rfl, by rw [hRs]; exact Nat.le_of_ble_eq_true rfl⟩) hP hD hS hA (fun u : (Nat → Int32) => [(a_0, .inr (12, [.int i_0, .ref a_1, .ref a_2, .ref a_3, .ref a_4, .ref a_5, .int i_1, .int i_2, .int i_3, .int i_4, .int i_5, .long j_0, .int i_6, .int i_7, .int i_8, .int i_9, .ref a_6, .ref a_7, .ref a_8, .ref a_9, .ref a_10, .ref a_11, .ref a_12, .ref a_13, .ref a_14, .ref a_15, .ref a_16, .ref a_17, .ref a_18, .int i_10, .int i_11, .int i_12, .int i_13, .int i_14, .int i_15, .ref a_19, .int i_16, .ref a_20])), (a_6, .inl (cy 1, 5, .inl (mm_g [i_17, i_18, i_19, i_17, i_21]))), (a_7, .inl (cy 1, 30, .inl (mm_g [i_22, i_23, i_24, i_25, i_26, i_27, i_28, i_29, i_30, i_31, i_32, i_33, i_34, i_35, i_36, i_37, i_38, i_39, i_22, i_23, i_24, i_25, i_26, i_27, i_46, i_47, i_48, i_49, i_50, i_51]))), (a_8, .inl (cy 1, 90, .inl u)), (a_9, .inl (cy 1, 15, .inl f_1)), (a_10, .inl (cy 1, 1050, .inl f_2)), (a_11, .inl (cy 1, 30, .inl f_3)), (a_12, .inl (cy 1, 240, .inl f_4)), (a_13, .inl (cy 1, 450, .inl f_5))]) [3] [0, 1, 2, 4, 5, 6, 7, 8] (n := 9) (fun _ => rfl) (by decide +kernel) (by decide +kernel) rfl (fun _ => rfl) (wr := [(a_0, .inr (12, [.int i_0, .ref a_1, .ref a_2, .ref a_3, .ref a_4, .ref a_5, .int i_1, .int i_2, .int i_3, .int i_4, .int i_5, .long j_0, .int i_6, .int i_7, .int i_8, .int i_9, .ref a_6, .ref a_7, .ref a_8, .ref a_9, .ref a_10, .ref a_11, .ref a_12, .ref a_13, .ref a_14, .ref a_15, .ref a_16, .ref a_17, .ref a_18, .int i_10, .int i_11, .int i_12, .int i_13, .int i_14, .int i_15, .ref a_19, .int i_16, .ref a_20])), (a_6, .inl (cy 1, 5, .inl (mm_g [i_17, i_18, i_19, i_17, i_21]))), (a_7, .inl (cy 1, 30, .inl (mm_g [i_22, i_23, i_24, i_25, i_26, i_27, i_28, i_29, i_30, i_31, i_32, i_33, i_34, i_35, i_36, i_37, i_38, i_39, i_22, i_23, i_24, i_25, i_26, i_27, i_46, i_47, i_48, i_49, i_50, i_51]))), (a_9, .inl (cy 1, 15, .inl f_1)), (a_10, .inl (cy 1, 1050, .inl f_2)), (a_11, .inl (cy 1, 30, .inl f_3)), (a_12, .inl (cy 1, 240, .inl f_4)), (a_13, .inl (cy 1, 450, .inl f_5))]) rfl (fun _ => rfl) (fun _ => rfl) ?_
  clear hP hD hS
  clear H locs
  intro n1 H locs hw (hP : va_P G vwCl [(a_0, .inr (12, [.int i_0, .ref a_1, .ref a_2, .ref a_3, .ref a_4, .ref a_5, .int i_1, .int i_2, .int i_3, .int i_4, .int i_5, .long j_0, .int i_6, .int i_7, .int i_8, .int i_9, .ref a_6, .ref a_7, .ref a_8, .ref a_9, .ref a_10, .ref a_11, .ref a_12, .ref a_13, .ref a_14, .ref a_15, .ref a_16, .ref a_17, .ref a_18, .int i_10, .int i_11, .int i_12, .int i_13, .int i_14, .int i_15, .ref a_19, .int i_16, .ref a_20])), (a_6, .inl (cy 1, 5, .inl (mm_g [i_17, i_18, i_19, i_17, i_21]))), (a_7, .inl (cy 1, 30, .inl (mm_g [i_22, i_23, i_24, i_25, i_26, i_27, i_28, i_29, i_30, i_31, i_32, i_33, i_34, i_35, i_36, i_37, i_38, i_39, i_22, i_23, i_24, i_25, i_26, i_27, i_46, i_47, i_48, i_49, i_50, i_51]))), (a_8, .inl (cy 1, 90, .inl n1)), (a_9, .inl (cy 1, 15, .inl f_1)), (a_10, .inl (cy 1, 1050, .inl f_2)), (a_11, .inl (cy 1, 30, .inl f_3)), (a_12, .inl (cy 1, 240, .inl f_4)), (a_13, .inl (cy 1, 450, .inl f_5))] H) (hD : va_D A [(a_0, .inr (12, [.int i_0, .ref a_1, .ref a_2, .ref a_3, .ref a_4, .ref a_5, .int i_1, .int i_2, .int i_3, .int i_4, .int i_5, .long j_0, .int i_6, .int i_7, .int i_8, .int i_9, .ref a_6, .ref a_7, .ref a_8, .ref a_9, .ref a_10, .ref a_11, .ref a_12, .ref a_13, .ref a_14, .ref a_15, .ref a_16, .ref a_17, .ref a_18, .int i_10, .int i_11, .int i_12, .int i_13, .int i_14, .int i_15, .ref a_19, .int i_16, .ref a_20])), (a_6, .inl (cy 1, 5, .inl (mm_g [i_17, i_18, i_19, i_17, i_21]))), (a_7, .inl (cy 1, 30, .inl (mm_g [i_22, i_23, i_24, i_25, i_26, i_27, i_28, i_29, i_30, i_31, i_32, i_33, i_34, i_35, i_36, i_37, i_38, i_39, i_22, i_23, i_24, i_25, i_26, i_27, i_46, i_47, i_48, i_49, i_50, i_51]))), (a_8, .inl (cy 1, 90, .inl n1)), (a_9, .inl (cy 1, 15, .inl f_1)), (a_10, .inl (cy 1, 1050, .inl f_2)), (a_11, .inl (cy 1, 30, .inl f_3)), (a_12, .inl (cy 1, 240, .inl f_4)), (a_13, .inl (cy 1, 450, .inl f_5))]) hS
  obtain ⟨w2, w3⟩ := hw
  refine lv_aload_n hx hb dX12_copyBook_32 rfl (lv_at hl 0 rfl) ?_
  refine va_get (D := G) (ci := 12) (v := .ref a_9) (C := RX12) (T := TX12) (N := 38) hx hb hts (mm_i inlX12) hown hK.1 hP 0 rfl rfl 19 (by decide) (mm_h hts mm_w151) (fun _ h9 => h9) rfl dX12_copyBook_33 ?_
  refine lv_iconst (v := 3) hx hb dX12_copyBook_36 (by decide) ?_
  refine lv_iload_n hx hb dX12_copyBook_37 rfl (lv_at hl 1 rfl) ?_
  refine lv_iload_n hx hb dX12_copyBook_38 rfl (lv_at hl 2 rfl) ?_
  refine mm_finv (va_runS (As := [.ref a_9, .int 3, .int 0, .int 3]) (rest := []) ⟨hx, hb, hml, hown, hts⟩ (M344_X12_copyRow l G cy H.size a_9 f_1 h36) (va_cwS 4 hts (mm_gS mm_w557 mm_w558 mm_w5 mm_w559) rfl rfl rfl hs_X12_copyRow ⟨by rw [hRf]; exact Nat.le_of_ble_eq_true rfl, by rw [hRl]; exact Nat.le_of_ble_eq_true rfl⟩) (mm_preS hK hZ hS hA hP hD [4] rfl rfl) rfl rfl hl.1 rfl (lv_room (Nat.le_of_ble_eq_true rfl)) dX12_copyBook_39 ⟨by rw [hRc]; exact Nat.le_of_ble_eq_true rfl, by rw [hRs]; exact Nat.le_of_ble_eq_true rfl⟩) hP hD hS hA (fun u : (Nat → Int32) => [(a_0, .inr (12, [.int i_0, .ref a_1, .ref a_2, .ref a_3, .ref a_4, .ref a_5, .int i_1, .int i_2, .int i_3, .int i_4, .int i_5, .long j_0, .int i_6, .int i_7, .int i_8, .int i_9, .ref a_6, .ref a_7, .ref a_8, .ref a_9, .ref a_10, .ref a_11, .ref a_12, .ref a_13, .ref a_14, .ref a_15, .ref a_16, .ref a_17, .ref a_18, .int i_10, .int i_11, .int i_12, .int i_13, .int i_14, .int i_15, .ref a_19, .int i_16, .ref a_20])), (a_6, .inl (cy 1, 5, .inl (mm_g [i_17, i_18, i_19, i_17, i_21]))), (a_7, .inl (cy 1, 30, .inl (mm_g [i_22, i_23, i_24, i_25, i_26, i_27, i_28, i_29, i_30, i_31, i_32, i_33, i_34, i_35, i_36, i_37, i_38, i_39, i_22, i_23, i_24, i_25, i_26, i_27, i_46, i_47, i_48, i_49, i_50, i_51]))), (a_8, .inl (cy 1, 90, .inl n1)), (a_9, .inl (cy 1, 15, .inl u)), (a_10, .inl (cy 1, 1050, .inl f_2)), (a_11, .inl (cy 1, 30, .inl f_3)), (a_12, .inl (cy 1, 240, .inl f_4)), (a_13, .inl (cy 1, 450, .inl f_5))]) [4] [0, 1, 2, 3, 5, 6, 7, 8] (n := 9) (fun _ => rfl) (by decide +kernel) (by decide +kernel) rfl (fun _ => rfl) (wr := [(a_0, .inr (12, [.int i_0, .ref a_1, .ref a_2, .ref a_3, .ref a_4, .ref a_5, .int i_1, .int i_2, .int i_3, .int i_4, .int i_5, .long j_0, .int i_6, .int i_7, .int i_8, .int i_9, .ref a_6, .ref a_7, .ref a_8, .ref a_9, .ref a_10, .ref a_11, .ref a_12, .ref a_13, .ref a_14, .ref a_15, .ref a_16, .ref a_17, .ref a_18, .int i_10, .int i_11, .int i_12, .int i_13, .int i_14, .int i_15, .ref a_19, .int i_16, .ref a_20])), (a_6, .inl (cy 1, 5, .inl (mm_g [i_17, i_18, i_19, i_17, i_21]))), (a_7, .inl (cy 1, 30, .inl (mm_g [i_22, i_23, i_24, i_25, i_26, i_27, i_28, i_29, i_30, i_31, i_32, i_33, i_34, i_35, i_36, i_37, i_38, i_39, i_22, i_23, i_24, i_25, i_26, i_27, i_46, i_47, i_48, i_49, i_50, i_51]))), (a_8, .inl (cy 1, 90, .inl n1)), (a_10, .inl (cy 1, 1050, .inl f_2)), (a_11, .inl (cy 1, 30, .inl f_3)), (a_12, .inl (cy 1, 240, .inl f_4)), (a_13, .inl (cy 1, 450, .inl f_5))]) rfl (fun _ => rfl) (fun _ => rfl) ?_
  clear hP hD hS
  clear H locs
  intro n4 H locs hw (hP : va_P G vwCl [(a_0, .inr (12, [.int i_0, .ref a_1, .ref a_2, .ref a_3, .ref a_4, .ref a_5, .int i_1, .int i_2, .int i_3, .int i_4, .int i_5, .long j_0, .int i_6, .int i_7, .int i_8, .int i_9, .ref a_6, .ref a_7, .ref a_8, .ref a_9, .ref a_10, .ref a_11, .ref a_12, .ref a_13, .ref a_14, .ref a_15, .ref a_16, .ref a_17, .ref a_18, .int i_10, .int i_11, .int i_12, .int i_13, .int i_14, .int i_15, .ref a_19, .int i_16, .ref a_20])), (a_6, .inl (cy 1, 5, .inl (mm_g [i_17, i_18, i_19, i_17, i_21]))), (a_7, .inl (cy 1, 30, .inl (mm_g [i_22, i_23, i_24, i_25, i_26, i_27, i_28, i_29, i_30, i_31, i_32, i_33, i_34, i_35, i_36, i_37, i_38, i_39, i_22, i_23, i_24, i_25, i_26, i_27, i_46, i_47, i_48, i_49, i_50, i_51]))), (a_8, .inl (cy 1, 90, .inl n1)), (a_9, .inl (cy 1, 15, .inl n4)), (a_10, .inl (cy 1, 1050, .inl f_2)), (a_11, .inl (cy 1, 30, .inl f_3)), (a_12, .inl (cy 1, 240, .inl f_4)), (a_13, .inl (cy 1, 450, .inl f_5))] H) (hD : va_D A [(a_0, .inr (12, [.int i_0, .ref a_1, .ref a_2, .ref a_3, .ref a_4, .ref a_5, .int i_1, .int i_2, .int i_3, .int i_4, .int i_5, .long j_0, .int i_6, .int i_7, .int i_8, .int i_9, .ref a_6, .ref a_7, .ref a_8, .ref a_9, .ref a_10, .ref a_11, .ref a_12, .ref a_13, .ref a_14, .ref a_15, .ref a_16, .ref a_17, .ref a_18, .int i_10, .int i_11, .int i_12, .int i_13, .int i_14, .int i_15, .ref a_19, .int i_16, .ref a_20])), (a_6, .inl (cy 1, 5, .inl (mm_g [i_17, i_18, i_19, i_17, i_21]))), (a_7, .inl (cy 1, 30, .inl (mm_g [i_22, i_23, i_24, i_25, i_26, i_27, i_28, i_29, i_30, i_31, i_32, i_33, i_34, i_35, i_36, i_37, i_38, i_39, i_22, i_23, i_24, i_25, i_26, i_27, i_46, i_47, i_48, i_49, i_50, i_51]))), (a_8, .inl (cy 1, 90, .inl n1)), (a_9, .inl (cy 1, 15, .inl n4)), (a_10, .inl (cy 1, 1050, .inl f_2)), (a_11, .inl (cy 1, 30, .inl f_3)), (a_12, .inl (cy 1, 240, .inl f_4)), (a_13, .inl (cy 1, 450, .inl f_5))]) hS
  obtain ⟨w5, w6⟩ := hw
  refine lv_aload_n hx hb dX12_copyBook_42 rfl (lv_at hl 0 rfl) ?_
  refine va_get (D := G) (ci := 12) (v := .ref a_10) (C := RX12) (T := TX12) (N := 38) hx hb hts (mm_i inlX12) hown hK.1 hP 0 rfl rfl 20 (by decide) (mm_h hts mm_w152) (fun _ h9 => h9) rfl dX12_copyBook_43 ?_
  refine lv_sipush (v := 210) hx hb dX12_copyBook_46 (by decide) ?_
  refine lv_iload_n hx hb dX12_copyBook_49 rfl (lv_at hl 1 rfl) ?_
  refine lv_iload_n hx hb dX12_copyBook_50 rfl (lv_at hl 2 rfl) ?_
  refine mm_finv (va_runS (As := [.ref a_10, .int 210, .int 0, .int 3]) (rest := []) ⟨hx, hb, hml, hown, hts⟩ (M345_X12_copyRow l G cy H.size a_10 f_2 h37) (va_cwS 4 hts (mm_gS mm_w557 mm_w558 mm_w5 mm_w559) rfl rfl rfl hs_X12_copyRow ⟨by rw [hRf]; exact Nat.le_of_ble_eq_true rfl, by rw [hRl]; exact Nat.le_of_ble_eq_true rfl⟩) (mm_preS hK hZ hS hA hP hD [5] rfl rfl) rfl rfl hl.1 rfl (lv_room (Nat.le_of_ble_eq_true rfl)) dX12_copyBook_51 ⟨by rw [hRc]; exact Nat.le_of_ble_eq_true rfl, by rw [hRs]; exact Nat.le_of_ble_eq_true rfl⟩) hP hD hS hA (fun u : (Nat → Int32) => [(a_0, .inr (12, [.int i_0, .ref a_1, .ref a_2, .ref a_3, .ref a_4, .ref a_5, .int i_1, .int i_2, .int i_3, .int i_4, .int i_5, .long j_0, .int i_6, .int i_7, .int i_8, .int i_9, .ref a_6, .ref a_7, .ref a_8, .ref a_9, .ref a_10, .ref a_11, .ref a_12, .ref a_13, .ref a_14, .ref a_15, .ref a_16, .ref a_17, .ref a_18, .int i_10, .int i_11, .int i_12, .int i_13, .int i_14, .int i_15, .ref a_19, .int i_16, .ref a_20])), (a_6, .inl (cy 1, 5, .inl (mm_g [i_17, i_18, i_19, i_17, i_21]))), (a_7, .inl (cy 1, 30, .inl (mm_g [i_22, i_23, i_24, i_25, i_26, i_27, i_28, i_29, i_30, i_31, i_32, i_33, i_34, i_35, i_36, i_37, i_38, i_39, i_22, i_23, i_24, i_25, i_26, i_27, i_46, i_47, i_48, i_49, i_50, i_51]))), (a_8, .inl (cy 1, 90, .inl n1)), (a_9, .inl (cy 1, 15, .inl n4)), (a_10, .inl (cy 1, 1050, .inl u)), (a_11, .inl (cy 1, 30, .inl f_3)), (a_12, .inl (cy 1, 240, .inl f_4)), (a_13, .inl (cy 1, 450, .inl f_5))]) [5] [0, 1, 2, 3, 4, 6, 7, 8] (n := 9) (fun _ => rfl) (by decide +kernel) (by decide +kernel) rfl (fun _ => rfl) (wr := [(a_0, .inr (12, [.int i_0, .ref a_1, .ref a_2, .ref a_3, .ref a_4, .ref a_5, .int i_1, .int i_2, .int i_3, .int i_4, .int i_5, .long j_0, .int i_6, .int i_7, .int i_8, .int i_9, .ref a_6, .ref a_7, .ref a_8, .ref a_9, .ref a_10, .ref a_11, .ref a_12, .ref a_13, .ref a_14, .ref a_15, .ref a_16, .ref a_17, .ref a_18, .int i_10, .int i_11, .int i_12, .int i_13, .int i_14, .int i_15, .ref a_19, .int i_16, .ref a_20])), (a_6, .inl (cy 1, 5, .inl (mm_g [i_17, i_18, i_19, i_17, i_21]))), (a_7, .inl (cy 1, 30, .inl (mm_g [i_22, i_23, i_24, i_25, i_26, i_27, i_28, i_29, i_30, i_31, i_32, i_33, i_34, i_35, i_36, i_37, i_38, i_39, i_22, i_23, i_24, i_25, i_26, i_27, i_46, i_47, i_48, i_49, i_50, i_51]))), (a_8, .inl (cy 1, 90, .inl n1)), (a_9, .inl (cy 1, 15, .inl n4)), (a_11, .inl (cy 1, 30, .inl f_3)), (a_12, .inl (cy 1, 240, .inl f_4)), (a_13, .inl (cy 1, 450, .inl f_5))]) rfl (fun _ => rfl) (fun _ => rfl) ?_
  clear hP hD hS
  clear H locs
  intro n7 H locs hw (hP : va_P G vwCl [(a_0, .inr (12, [.int i_0, .ref a_1, .ref a_2, .ref a_3, .ref a_4, .ref a_5, .int i_1, .int i_2, .int i_3, .int i_4, .int i_5, .long j_0, .int i_6, .int i_7, .int i_8, .int i_9, .ref a_6, .ref a_7, .ref a_8, .ref a_9, .ref a_10, .ref a_11, .ref a_12, .ref a_13, .ref a_14, .ref a_15, .ref a_16, .ref a_17, .ref a_18, .int i_10, .int i_11, .int i_12, .int i_13, .int i_14, .int i_15, .ref a_19, .int i_16, .ref a_20])), (a_6, .inl (cy 1, 5, .inl (mm_g [i_17, i_18, i_19, i_17, i_21]))), (a_7, .inl (cy 1, 30, .inl (mm_g [i_22, i_23, i_24, i_25, i_26, i_27, i_28, i_29, i_30, i_31, i_32, i_33, i_34, i_35, i_36, i_37, i_38, i_39, i_22, i_23, i_24, i_25, i_26, i_27, i_46, i_47, i_48, i_49, i_50, i_51]))), (a_8, .inl (cy 1, 90, .inl n1)), (a_9, .inl (cy 1, 15, .inl n4)), (a_10, .inl (cy 1, 1050, .inl n7)), (a_11, .inl (cy 1, 30, .inl f_3)), (a_12, .inl (cy 1, 240, .inl f_4)), (a_13, .inl (cy 1, 450, .inl f_5))] H) (hD : va_D A [(a_0, .inr (12, [.int i_0, .ref a_1, .ref a_2, .ref a_3, .ref a_4, .ref a_5, .int i_1, .int i_2, .int i_3, .int i_4, .int i_5, .long j_0, .int i_6, .int i_7, .int i_8, .int i_9, .ref a_6, .ref a_7, .ref a_8, .ref a_9, .ref a_10, .ref a_11, .ref a_12, .ref a_13, .ref a_14, .ref a_15, .ref a_16, .ref a_17, .ref a_18, .int i_10, .int i_11, .int i_12, .int i_13, .int i_14, .int i_15, .ref a_19, .int i_16, .ref a_20])), (a_6, .inl (cy 1, 5, .inl (mm_g [i_17, i_18, i_19, i_17, i_21]))), (a_7, .inl (cy 1, 30, .inl (mm_g [i_22, i_23, i_24, i_25, i_26, i_27, i_28, i_29, i_30, i_31, i_32, i_33, i_34, i_35, i_36, i_37, i_38, i_39, i_22, i_23, i_24, i_25, i_26, i_27, i_46, i_47, i_48, i_49, i_50, i_51]))), (a_8, .inl (cy 1, 90, .inl n1)), (a_9, .inl (cy 1, 15, .inl n4)), (a_10, .inl (cy 1, 1050, .inl n7)), (a_11, .inl (cy 1, 30, .inl f_3)), (a_12, .inl (cy 1, 240, .inl f_4)), (a_13, .inl (cy 1, 450, .inl f_5))]) hS
  obtain ⟨w8, w9⟩ := hw
  refine lv_aload_n hx hb dX12_copyBook_54 rfl (lv_at hl 0 rfl) ?_
  refine va_get (D := G) (ci := 12) (v := .ref a_11) (C := RX12) (T := TX12) (N := 38) hx hb hts (mm_i inlX12) hown hK.1 hP 0 rfl rfl 21 (by decide) (mm_h hts mm_w153) (fun _ h9 => h9) rfl dX12_copyBook_55 ?_
  refine lv_bipush (v := 6) hx hb dX12_copyBook_58 (by decide) ?_
  refine lv_iload_n hx hb dX12_copyBook_60 rfl (lv_at hl 1 rfl) ?_
  refine lv_iload_n hx hb dX12_copyBook_61 rfl (lv_at hl 2 rfl) ?_
  refine mm_finv (va_runS (As := [.ref a_11, .int 6, .int 0, .int 3]) (rest := []) ⟨hx, hb, hml, hown, hts⟩ (M346_X12_copyRow l G cy H.size a_11 f_3 h38) (va_cwS 4 hts (mm_gS mm_w557 mm_w558 mm_w5 mm_w559) rfl rfl rfl hs_X12_copyRow ⟨by rw [hRf]; exact Nat.le_of_ble_eq_true rfl, by rw [hRl]; exact Nat.le_of_ble_eq_true rfl⟩) (mm_preS hK hZ hS hA hP hD [6] rfl rfl) rfl rfl hl.1 rfl (lv_room (Nat.le_of_ble_eq_true rfl)) dX12_copyBook_62 ⟨by rw [hRc]; exact Nat.le_of_ble_eq_true rfl, by rw [hRs]; exact Nat.le_of_ble_eq_true rfl⟩) hP hD hS hA (fun u : (Nat → Int32) => [(a_0, .inr (12, [.int i_0, .ref a_1, .ref a_2, .ref a_3, .ref a_4, .ref a_5, .int i_1, .int i_2, .int i_3, .int i_4, .int i_5, .long j_0, .int i_6, .int i_7, .int i_8, .int i_9, .ref a_6, .ref a_7, .ref a_8, .ref a_9, .ref a_10, .ref a_11, .ref a_12, .ref a_13, .ref a_14, .ref a_15, .ref a_16, .ref a_17, .ref a_18, .int i_10, .int i_11, .int i_12, .int i_13, .int i_14, .int i_15, .ref a_19, .int i_16, .ref a_20])), (a_6, .inl (cy 1, 5, .inl (mm_g [i_17, i_18, i_19, i_17, i_21]))), (a_7, .inl (cy 1, 30, .inl (mm_g [i_22, i_23, i_24, i_25, i_26, i_27, i_28, i_29, i_30, i_31, i_32, i_33, i_34, i_35, i_36, i_37, i_38, i_39, i_22, i_23, i_24, i_25, i_26, i_27, i_46, i_47, i_48, i_49, i_50, i_51]))), (a_8, .inl (cy 1, 90, .inl n1)), (a_9, .inl (cy 1, 15, .inl n4)), (a_10, .inl (cy 1, 1050, .inl n7)), (a_11, .inl (cy 1, 30, .inl u)), (a_12, .inl (cy 1, 240, .inl f_4)), (a_13, .inl (cy 1, 450, .inl f_5))]) [6] [0, 1, 2, 3, 4, 5, 7, 8] (n := 9) (fun _ => rfl) (by decide +kernel) (by decide +kernel) rfl (fun _ => rfl) (wr := [(a_0, .inr (12, [.int i_0, .ref a_1, .ref a_2, .ref a_3, .ref a_4, .ref a_5, .int i_1, .int i_2, .int i_3, .int i_4, .int i_5, .long j_0, .int i_6, .int i_7, .int i_8, .int i_9, .ref a_6, .ref a_7, .ref a_8, .ref a_9, .ref a_10, .ref a_11, .ref a_12, .ref a_13, .ref a_14, .ref a_15, .ref a_16, .ref a_17, .ref a_18, .int i_10, .int i_11, .int i_12, .int i_13, .int i_14, .int i_15, .ref a_19, .int i_16, .ref a_20])), (a_6, .inl (cy 1, 5, .inl (mm_g [i_17, i_18, i_19, i_17, i_21]))), (a_7, .inl (cy 1, 30, .inl (mm_g [i_22, i_23, i_24, i_25, i_26, i_27, i_28, i_29, i_30, i_31, i_32, i_33, i_34, i_35, i_36, i_37, i_38, i_39, i_22, i_23, i_24, i_25, i_26, i_27, i_46, i_47, i_48, i_49, i_50, i_51]))), (a_8, .inl (cy 1, 90, .inl n1)), (a_9, .inl (cy 1, 15, .inl n4)), (a_10, .inl (cy 1, 1050, .inl n7)), (a_12, .inl (cy 1, 240, .inl f_4)), (a_13, .inl (cy 1, 450, .inl f_5))]) rfl (fun _ => rfl) (fun _ => rfl) ?_
  clear hP hD hS
  clear H locs
  intro n10 H locs hw (hP : va_P G vwCl [(a_0, .inr (12, [.int i_0, .ref a_1, .ref a_2, .ref a_3, .ref a_4, .ref a_5, .int i_1, .int i_2, .int i_3, .int i_4, .int i_5, .long j_0, .int i_6, .int i_7, .int i_8, .int i_9, .ref a_6, .ref a_7, .ref a_8, .ref a_9, .ref a_10, .ref a_11, .ref a_12, .ref a_13, .ref a_14, .ref a_15, .ref a_16, .ref a_17, .ref a_18, .int i_10, .int i_11, .int i_12, .int i_13, .int i_14, .int i_15, .ref a_19, .int i_16, .ref a_20])), (a_6, .inl (cy 1, 5, .inl (mm_g [i_17, i_18, i_19, i_17, i_21]))), (a_7, .inl (cy 1, 30, .inl (mm_g [i_22, i_23, i_24, i_25, i_26, i_27, i_28, i_29, i_30, i_31, i_32, i_33, i_34, i_35, i_36, i_37, i_38, i_39, i_22, i_23, i_24, i_25, i_26, i_27, i_46, i_47, i_48, i_49, i_50, i_51]))), (a_8, .inl (cy 1, 90, .inl n1)), (a_9, .inl (cy 1, 15, .inl n4)), (a_10, .inl (cy 1, 1050, .inl n7)), (a_11, .inl (cy 1, 30, .inl n10)), (a_12, .inl (cy 1, 240, .inl f_4)), (a_13, .inl (cy 1, 450, .inl f_5))] H) (hD : va_D A [(a_0, .inr (12, [.int i_0, .ref a_1, .ref a_2, .ref a_3, .ref a_4, .ref a_5, .int i_1, .int i_2, .int i_3, .int i_4, .int i_5, .long j_0, .int i_6, .int i_7, .int i_8, .int i_9, .ref a_6, .ref a_7, .ref a_8, .ref a_9, .ref a_10, .ref a_11, .ref a_12, .ref a_13, .ref a_14, .ref a_15, .ref a_16, .ref a_17, .ref a_18, .int i_10, .int i_11, .int i_12, .int i_13, .int i_14, .int i_15, .ref a_19, .int i_16, .ref a_20])), (a_6, .inl (cy 1, 5, .inl (mm_g [i_17, i_18, i_19, i_17, i_21]))), (a_7, .inl (cy 1, 30, .inl (mm_g [i_22, i_23, i_24, i_25, i_26, i_27, i_28, i_29, i_30, i_31, i_32, i_33, i_34, i_35, i_36, i_37, i_38, i_39, i_22, i_23, i_24, i_25, i_26, i_27, i_46, i_47, i_48, i_49, i_50, i_51]))), (a_8, .inl (cy 1, 90, .inl n1)), (a_9, .inl (cy 1, 15, .inl n4)), (a_10, .inl (cy 1, 1050, .inl n7)), (a_11, .inl (cy 1, 30, .inl n10)), (a_12, .inl (cy 1, 240, .inl f_4)), (a_13, .inl (cy 1, 450, .inl f_5))]) hS
  obtain ⟨w11, w12⟩ := hw
  refine lv_aload_n hx hb dX12_copyBook_65 rfl (lv_at hl 0 rfl) ?_
  refine va_get (D := G) (ci := 12) (v := .ref a_12) (C := RX12) (T := TX12) (N := 38) hx hb hts (mm_i inlX12) hown hK.1 hP 0 rfl rfl 22 (by decide) (mm_h hts mm_w154) (fun _ h9 => h9) rfl dX12_copyBook_66 ?_
  refine lv_bipush (v := 48) hx hb dX12_copyBook_69 (by decide) ?_
  refine lv_iload_n hx hb dX12_copyBook_71 rfl (lv_at hl 1 rfl) ?_
  refine lv_iload_n hx hb dX12_copyBook_72 rfl (lv_at hl 2 rfl) ?_
  refine mm_finv (va_runS (As := [.ref a_12, .int 48, .int 0, .int 3]) (rest := []) ⟨hx, hb, hml, hown, hts⟩ (M347_X12_copyRow l G cy H.size a_12 f_4 h39) (va_cwS 4 hts (mm_gS mm_w557 mm_w558 mm_w5 mm_w559) rfl rfl rfl hs_X12_copyRow ⟨by rw [hRf]; exact Nat.le_of_ble_eq_true rfl, by rw [hRl]; exact Nat.le_of_ble_eq_true rfl⟩) (mm_preS hK hZ hS hA hP hD [7] rfl rfl) rfl rfl hl.1 rfl (lv_room (Nat.le_of_ble_eq_true rfl)) dX12_copyBook_73 ⟨by rw [hRc]; exact Nat.le_of_ble_eq_true rfl, by rw [hRs]; exact Nat.le_of_ble_eq_true rfl⟩) hP hD hS hA (fun u : (Nat → Int32) => [(a_0, .inr (12, [.int i_0, .ref a_1, .ref a_2, .ref a_3, .ref a_4, .ref a_5, .int i_1, .int i_2, .int i_3, .int i_4, .int i_5, .long j_0, .int i_6, .int i_7, .int i_8, .int i_9, .ref a_6, .ref a_7, .ref a_8, .ref a_9, .ref a_10, .ref a_11, .ref a_12, .ref a_13, .ref a_14, .ref a_15, .ref a_16, .ref a_17, .ref a_18, .int i_10, .int i_11, .int i_12, .int i_13, .int i_14, .int i_15, .ref a_19, .int i_16, .ref a_20])), (a_6, .inl (cy 1, 5, .inl (mm_g [i_17, i_18, i_19, i_17, i_21]))), (a_7, .inl (cy 1, 30, .inl (mm_g [i_22, i_23, i_24, i_25, i_26, i_27, i_28, i_29, i_30, i_31, i_32, i_33, i_34, i_35, i_36, i_37, i_38, i_39, i_22, i_23, i_24, i_25, i_26, i_27, i_46, i_47, i_48, i_49, i_50, i_51]))), (a_8, .inl (cy 1, 90, .inl n1)), (a_9, .inl (cy 1, 15, .inl n4)), (a_10, .inl (cy 1, 1050, .inl n7)), (a_11, .inl (cy 1, 30, .inl n10)), (a_12, .inl (cy 1, 240, .inl u)), (a_13, .inl (cy 1, 450, .inl f_5))]) [7] [0, 1, 2, 3, 4, 5, 6, 8] (n := 9) (fun _ => rfl) (by decide +kernel) (by decide +kernel) rfl (fun _ => rfl) (wr := [(a_0, .inr (12, [.int i_0, .ref a_1, .ref a_2, .ref a_3, .ref a_4, .ref a_5, .int i_1, .int i_2, .int i_3, .int i_4, .int i_5, .long j_0, .int i_6, .int i_7, .int i_8, .int i_9, .ref a_6, .ref a_7, .ref a_8, .ref a_9, .ref a_10, .ref a_11, .ref a_12, .ref a_13, .ref a_14, .ref a_15, .ref a_16, .ref a_17, .ref a_18, .int i_10, .int i_11, .int i_12, .int i_13, .int i_14, .int i_15, .ref a_19, .int i_16, .ref a_20])), (a_6, .inl (cy 1, 5, .inl (mm_g [i_17, i_18, i_19, i_17, i_21]))), (a_7, .inl (cy 1, 30, .inl (mm_g [i_22, i_23, i_24, i_25, i_26, i_27, i_28, i_29, i_30, i_31, i_32, i_33, i_34, i_35, i_36, i_37, i_38, i_39, i_22, i_23, i_24, i_25, i_26, i_27, i_46, i_47, i_48, i_49, i_50, i_51]))), (a_8, .inl (cy 1, 90, .inl n1)), (a_9, .inl (cy 1, 15, .inl n4)), (a_10, .inl (cy 1, 1050, .inl n7)), (a_11, .inl (cy 1, 30, .inl n10)), (a_13, .inl (cy 1, 450, .inl f_5))]) rfl (fun _ => rfl) (fun _ => rfl) ?_
  clear hP hD hS
  clear H locs
  intro n13 H locs hw (hP : va_P G vwCl [(a_0, .inr (12, [.int i_0, .ref a_1, .ref a_2, .ref a_3, .ref a_4, .ref a_5, .int i_1, .int i_2, .int i_3, .int i_4, .int i_5, .long j_0, .int i_6, .int i_7, .int i_8, .int i_9, .ref a_6, .ref a_7, .ref a_8, .ref a_9, .ref a_10, .ref a_11, .ref a_12, .ref a_13, .ref a_14, .ref a_15, .ref a_16, .ref a_17, .ref a_18, .int i_10, .int i_11, .int i_12, .int i_13, .int i_14, .int i_15, .ref a_19, .int i_16, .ref a_20])), (a_6, .inl (cy 1, 5, .inl (mm_g [i_17, i_18, i_19, i_17, i_21]))), (a_7, .inl (cy 1, 30, .inl (mm_g [i_22, i_23, i_24, i_25, i_26, i_27, i_28, i_29, i_30, i_31, i_32, i_33, i_34, i_35, i_36, i_37, i_38, i_39, i_22, i_23, i_24, i_25, i_26, i_27, i_46, i_47, i_48, i_49, i_50, i_51]))), (a_8, .inl (cy 1, 90, .inl n1)), (a_9, .inl (cy 1, 15, .inl n4)), (a_10, .inl (cy 1, 1050, .inl n7)), (a_11, .inl (cy 1, 30, .inl n10)), (a_12, .inl (cy 1, 240, .inl n13)), (a_13, .inl (cy 1, 450, .inl f_5))] H) (hD : va_D A [(a_0, .inr (12, [.int i_0, .ref a_1, .ref a_2, .ref a_3, .ref a_4, .ref a_5, .int i_1, .int i_2, .int i_3, .int i_4, .int i_5, .long j_0, .int i_6, .int i_7, .int i_8, .int i_9, .ref a_6, .ref a_7, .ref a_8, .ref a_9, .ref a_10, .ref a_11, .ref a_12, .ref a_13, .ref a_14, .ref a_15, .ref a_16, .ref a_17, .ref a_18, .int i_10, .int i_11, .int i_12, .int i_13, .int i_14, .int i_15, .ref a_19, .int i_16, .ref a_20])), (a_6, .inl (cy 1, 5, .inl (mm_g [i_17, i_18, i_19, i_17, i_21]))), (a_7, .inl (cy 1, 30, .inl (mm_g [i_22, i_23, i_24, i_25, i_26, i_27, i_28, i_29, i_30, i_31, i_32, i_33, i_34, i_35, i_36, i_37, i_38, i_39, i_22, i_23, i_24, i_25, i_26, i_27, i_46, i_47, i_48, i_49, i_50, i_51]))), (a_8, .inl (cy 1, 90, .inl n1)), (a_9, .inl (cy 1, 15, .inl n4)), (a_10, .inl (cy 1, 1050, .inl n7)), (a_11, .inl (cy 1, 30, .inl n10)), (a_12, .inl (cy 1, 240, .inl n13)), (a_13, .inl (cy 1, 450, .inl f_5))]) hS
  obtain ⟨w14, w15⟩ := hw
  refine lv_aload_n hx hb dX12_copyBook_76 rfl (lv_at hl 0 rfl) ?_
  refine va_get (D := G) (ci := 12) (v := .ref a_13) (C := RX12) (T := TX12) (N := 38) hx hb hts (mm_i inlX12) hown hK.1 hP 0 rfl rfl 23 (by decide) (mm_h hts mm_w155) (fun _ h9 => h9) rfl dX12_copyBook_77 ?_
  refine lv_bipush (v := 90) hx hb dX12_copyBook_80 (by decide) ?_
  refine lv_iload_n hx hb dX12_copyBook_82 rfl (lv_at hl 1 rfl) ?_
  refine lv_iload_n hx hb dX12_copyBook_83 rfl (lv_at hl 2 rfl) ?_
  refine mm_finv (va_runS (As := [.ref a_13, .int 90, .int 0, .int 3]) (rest := []) ⟨hx, hb, hml, hown, hts⟩ (M348_X12_copyRow l G cy H.size a_13 f_5 h40) (va_cwS 4 hts (mm_gS mm_w557 mm_w558 mm_w5 mm_w559) rfl rfl rfl hs_X12_copyRow ⟨by rw [hRf]; exact Nat.le_of_ble_eq_true rfl, by rw [hRl]; exact Nat.le_of_ble_eq_true rfl⟩) (mm_preS hK hZ hS hA hP hD [8] rfl rfl) rfl rfl hl.1 rfl (lv_room (Nat.le_of_ble_eq_true rfl)) dX12_copyBook_84 ⟨by rw [hRc]; exact Nat.le_of_ble_eq_true rfl, by rw [hRs]; exact Nat.le_of_ble_eq_true rfl⟩) hP hD hS hA (fun u : (Nat → Int32) => [(a_0, .inr (12, [.int i_0, .ref a_1, .ref a_2, .ref a_3, .ref a_4, .ref a_5, .int i_1, .int i_2, .int i_3, .int i_4, .int i_5, .long j_0, .int i_6, .int i_7, .int i_8, .int i_9, .ref a_6, .ref a_7, .ref a_8, .ref a_9, .ref a_10, .ref a_11, .ref a_12, .ref a_13, .ref a_14, .ref a_15, .ref a_16, .ref a_17, .ref a_18, .int i_10, .int i_11, .int i_12, .int i_13, .int i_14, .int i_15, .ref a_19, .int i_16, .ref a_20])), (a_6, .inl (cy 1, 5, .inl (mm_g [i_17, i_18, i_19, i_17, i_21]))), (a_7, .inl (cy 1, 30, .inl (mm_g [i_22, i_23, i_24, i_25, i_26, i_27, i_28, i_29, i_30, i_31, i_32, i_33, i_34, i_35, i_36, i_37, i_38, i_39, i_22, i_23, i_24, i_25, i_26, i_27, i_46, i_47, i_48, i_49, i_50, i_51]))), (a_8, .inl (cy 1, 90, .inl n1)), (a_9, .inl (cy 1, 15, .inl n4)), (a_10, .inl (cy 1, 1050, .inl n7)), (a_11, .inl (cy 1, 30, .inl n10)), (a_12, .inl (cy 1, 240, .inl n13)), (a_13, .inl (cy 1, 450, .inl u))]) [8] [0, 1, 2, 3, 4, 5, 6, 7] (n := 9) (fun _ => rfl) (by decide +kernel) (by decide +kernel) rfl (fun _ => rfl) (wr := [(a_0, .inr (12, [.int i_0, .ref a_1, .ref a_2, .ref a_3, .ref a_4, .ref a_5, .int i_1, .int i_2, .int i_3, .int i_4, .int i_5, .long j_0, .int i_6, .int i_7, .int i_8, .int i_9, .ref a_6, .ref a_7, .ref a_8, .ref a_9, .ref a_10, .ref a_11, .ref a_12, .ref a_13, .ref a_14, .ref a_15, .ref a_16, .ref a_17, .ref a_18, .int i_10, .int i_11, .int i_12, .int i_13, .int i_14, .int i_15, .ref a_19, .int i_16, .ref a_20])), (a_6, .inl (cy 1, 5, .inl (mm_g [i_17, i_18, i_19, i_17, i_21]))), (a_7, .inl (cy 1, 30, .inl (mm_g [i_22, i_23, i_24, i_25, i_26, i_27, i_28, i_29, i_30, i_31, i_32, i_33, i_34, i_35, i_36, i_37, i_38, i_39, i_22, i_23, i_24, i_25, i_26, i_27, i_46, i_47, i_48, i_49, i_50, i_51]))), (a_8, .inl (cy 1, 90, .inl n1)), (a_9, .inl (cy 1, 15, .inl n4)), (a_10, .inl (cy 1, 1050, .inl n7)), (a_11, .inl (cy 1, 30, .inl n10)), (a_12, .inl (cy 1, 240, .inl n13))]) rfl (fun _ => rfl) (fun _ => rfl) ?_
  clear hP hD hS
  clear H locs
  intro n16 H locs hw (hP : va_P G vwCl [(a_0, .inr (12, [.int i_0, .ref a_1, .ref a_2, .ref a_3, .ref a_4, .ref a_5, .int i_1, .int i_2, .int i_3, .int i_4, .int i_5, .long j_0, .int i_6, .int i_7, .int i_8, .int i_9, .ref a_6, .ref a_7, .ref a_8, .ref a_9, .ref a_10, .ref a_11, .ref a_12, .ref a_13, .ref a_14, .ref a_15, .ref a_16, .ref a_17, .ref a_18, .int i_10, .int i_11, .int i_12, .int i_13, .int i_14, .int i_15, .ref a_19, .int i_16, .ref a_20])), (a_6, .inl (cy 1, 5, .inl (mm_g [i_17, i_18, i_19, i_17, i_21]))), (a_7, .inl (cy 1, 30, .inl (mm_g [i_22, i_23, i_24, i_25, i_26, i_27, i_28, i_29, i_30, i_31, i_32, i_33, i_34, i_35, i_36, i_37, i_38, i_39, i_22, i_23, i_24, i_25, i_26, i_27, i_46, i_47, i_48, i_49, i_50, i_51]))), (a_8, .inl (cy 1, 90, .inl n1)), (a_9, .inl (cy 1, 15, .inl n4)), (a_10, .inl (cy 1, 1050, .inl n7)), (a_11, .inl (cy 1, 30, .inl n10)), (a_12, .inl (cy 1, 240, .inl n13)), (a_13, .inl (cy 1, 450, .inl n16))] H) (hD : va_D A [(a_0, .inr (12, [.int i_0, .ref a_1, .ref a_2, .ref a_3, .ref a_4, .ref a_5, .int i_1, .int i_2, .int i_3, .int i_4, .int i_5, .long j_0, .int i_6, .int i_7, .int i_8, .int i_9, .ref a_6, .ref a_7, .ref a_8, .ref a_9, .ref a_10, .ref a_11, .ref a_12, .ref a_13, .ref a_14, .ref a_15, .ref a_16, .ref a_17, .ref a_18, .int i_10, .int i_11, .int i_12, .int i_13, .int i_14, .int i_15, .ref a_19, .int i_16, .ref a_20])), (a_6, .inl (cy 1, 5, .inl (mm_g [i_17, i_18, i_19, i_17, i_21]))), (a_7, .inl (cy 1, 30, .inl (mm_g [i_22, i_23, i_24, i_25, i_26, i_27, i_28, i_29, i_30, i_31, i_32, i_33, i_34, i_35, i_36, i_37, i_38, i_39, i_22, i_23, i_24, i_25, i_26, i_27, i_46, i_47, i_48, i_49, i_50, i_51]))), (a_8, .inl (cy 1, 90, .inl n1)), (a_9, .inl (cy 1, 15, .inl n4)), (a_10, .inl (cy 1, 1050, .inl n7)), (a_11, .inl (cy 1, 30, .inl n10)), (a_12, .inl (cy 1, 240, .inl n13)), (a_13, .inl (cy 1, 450, .inl n16))]) hS
  obtain ⟨w17, w18⟩ := hw
  have w19 : mm_rls n4 n7 0 i_24 i_25 := (mm_rls_ck h41 w6 w9 (by decide))
  have w20 : mm_txs n10 n13 0 i_24 i_26 := (mm_txs_ck h42 w12 w15 (by decide))
  have w21 : mm_acs n16 0 i_24 i_25 i_27 := (mm_acs_ck h43 w18 (by decide))
  have w22 : mm_rls n4 n7 1 i_30 i_31 := (mm_rls_ck h45 w6 w9 (by decide))
  have w23 : mm_txs n10 n13 1 i_30 i_32 := (mm_txs_ck h46 w12 w15 (by decide))
  have w24 : mm_acs n16 1 i_30 i_31 i_33 := (mm_acs_ck h47 w18 (by decide))
  have w25 : mm_rls n4 n7 2 i_36 i_37 := (mm_rls_ck h49 w6 w9 (by decide))
  have w26 : mm_txs n10 n13 2 i_36 i_38 := (mm_txs_ck h50 w12 w15 (by decide))
  have w27 : mm_acs n16 2 i_36 i_37 i_39 := (mm_acs_ck h51 w18 (by decide))
  have w28 : mm_rls n4 n7 3 i_24 i_25 := (mm_rls_cp h41 w6 w9)
  have w29 : mm_txs n10 n13 3 i_24 i_26 := (mm_txs_cp h42 w12 w15)
  have w30 : mm_acs n16 3 i_24 i_25 i_27 := (mm_acs_cp h43 w18)
  subst hAe
  rw [hQ]
  exact W.vret hx hb hr (fun t ht hW => ⟨⟨(n1, n4, n7, n10, n13, n16), rfl, ⟨w2, w5, w8, w11, w14, w17, w19, w20, w21, w22, w23, w24, w25, w26, w27, w28, w29, w30⟩, by rw [ht]; exact hP, hK.warm hW, hD⟩, hS.F ht⟩) hS.2.2 dX12_copyBook_87

set_option maxHeartbeats 4000000 in
set_option maxRecDepth 100000 in
theorem M350_X12_image (l : Launch) (G : va_G) (cy : Nat → ClassId) (sz : Nat) (a_0 : Nat) (i_0 : Int32) (i_1 : Int32) (a_1 : Nat) (a_2 : Nat) (a_3 : Nat) (a_4 : Nat) (a_5 : Nat) (i_2 : Int32) (i_3 : Int32) (i_4 : Int32) (i_5 : Int32) (i_6 : Int32) (j_0 : Int64) (i_7 : Int32) (i_8 : Int32) (i_9 : Int32) (i_10 : Int32) (a_6 : Nat) (a_7 : Nat) (a_8 : Nat) (a_9 : Nat) (a_10 : Nat) (a_11 : Nat) (a_12 : Nat) (a_13 : Nat) (a_14 : Nat) (a_15 : Nat) (a_16 : Nat) (a_17 : Nat) (a_18 : Nat) (i_11 : Int32) (i_12 : Int32) (i_13 : Int32) (i_14 : Int32) (i_15 : Int32) (i_16 : Int32) (a_19 : Nat) (i_17 : Int32) (a_20 : Nat) (i_18 : Int32) (i_19 : Int32) (i_20 : Int32) (i_21 : Int32) (i_22 : Int32) (i_23 : Int32) (i_24 : Int32) (i_25 : Int32) (i_26 : Int32) (i_27 : Int32) (i_28 : Int32) (i_29 : Int32) (i_30 : Int32) (i_31 : Int32) (i_32 : Int32) (i_33 : Int32) (i_34 : Int32) (i_35 : Int32) (i_36 : Int32) (i_37 : Int32) (i_38 : Int32) (i_39 : Int32) (i_40 : Int32) (i_41 : Int32) (i_42 : Int32) (i_43 : Int32) (i_44 : Int32) (i_45 : Int32) (i_46 : Int32) (i_47 : Int32) (i_48 : Int32) (i_49 : Int32) (i_50 : Int32) (i_51 : Int32) (i_52 : Int32) (f_0 : Nat → Int32) (f_1 : Nat → Int32) (f_2 : Nat → Int32) (f_3 : Nat → Int32) (f_4 : Nat → Int32) (f_5 : Nat → Int32) (f_6 : Nat → Int32) (h0 : mm_rg i_18 0 601) (h1 : mm_rg i_19 0 601) (h2 : mm_rg i_20 0 601) (h3 : mm_rg i_21 0 601) (h4 : mm_rg i_22 0 601) (h5 : mm_rg i_23 0 10) (h6 : mm_rg i_24 0 99) (h7 : mm_rg i_25 0 9) (h8 : mm_rg i_26 0 3) (h9 : mm_rg i_27 0 6) (h10 : mm_rg i_28 0 30) (h11 : mm_rg i_29 0 10) (h12 : mm_rg i_30 0 99) (h13 : mm_rg i_31 0 9) (h14 : mm_rg i_32 0 3) (h15 : mm_rg i_33 0 6) (h16 : mm_rg i_34 0 30) (h17 : mm_rg i_35 0 10) (h18 : mm_rg i_36 0 99) (h19 : mm_rg i_37 0 9) (h20 : mm_rg i_38 0 3) (h21 : mm_rg i_39 0 6) (h22 : mm_rg i_40 0 30) (h23 : mm_rg i_41 0 10) (h24 : mm_rg i_42 0 99) (h25 : mm_rg i_43 0 9) (h26 : mm_rg i_44 0 3) (h27 : mm_rg i_45 0 6) (h28 : mm_rg i_46 0 30) (h29 : mm_rg i_47 0 10) (h30 : mm_rg i_48 0 99) (h31 : mm_rg i_49 0 9) (h32 : mm_rg i_50 0 3) (h33 : mm_rg i_51 0 6) (h34 : mm_rg i_52 0 30) (h35 : mm_ar f_0 0 99) (h36 : mm_ar f_1 0 7) (h37 : mm_ar f_2 0 9) (h38 : mm_ar f_3 0 8) (h39 : mm_ar f_4 0 9) (h40 : mm_ar f_5 (-1) 99) (h41 : mm_ar f_6 0 1) (h42 : mm_rls f_1 f_2 0 i_25 i_26) (h43 : mm_txs f_3 f_4 0 i_25 i_27) (h44 : mm_acs f_5 0 i_25 i_26 i_28) (h45 : mm_tl i_18 i_26 i_27) (h46 : mm_rls f_1 f_2 1 i_31 i_32) (h47 : mm_txs f_3 f_4 1 i_31 i_33) (h48 : mm_acs f_5 1 i_31 i_32 i_34) (h49 : mm_tl i_19 i_32 i_33) (h50 : mm_rls f_1 f_2 2 i_37 i_38) (h51 : mm_txs f_3 f_4 2 i_37 i_39) (h52 : mm_acs f_5 2 i_37 i_38 i_40) (h53 : mm_tl i_20 i_38 i_39) (h54 : mm_rls f_1 f_2 3 i_43 i_44) (h55 : mm_txs f_3 f_4 3 i_43 i_45) (h56 : mm_acs f_5 3 i_43 i_44 i_46) (h57 : mm_tl i_21 i_44 i_45)  : mm_CI l yX12_image (mm_ws yX12_image cX12_image 2 (some .int)) ({ frames := 2, cells := 0, slots := 0, locals := 46 } : Room) G cy sz [(a_0, .inr (12, [.int i_1, .ref a_1, .ref a_2, .ref a_3, .ref a_4, .ref a_5, .int i_2, .int i_3, .int i_4, .int i_5, .int i_6, .long j_0, .int i_7, .int i_8, .int i_9, .int i_10, .ref a_6, .ref a_7, .ref a_8, .ref a_9, .ref a_10, .ref a_11, .ref a_12, .ref a_13, .ref a_14, .ref a_15, .ref a_16, .ref a_17, .ref a_18, .int i_11, .int i_12, .int i_13, .int i_14, .int i_15, .int i_16, .ref a_19, .int i_17, .ref a_20])), (a_6, .inl (cy 1, 5, .inl (mm_g [i_18, i_19, i_20, i_21, i_22]))), (a_7, .inl (cy 1, 30, .inl (mm_g [i_23, i_24, i_25, i_26, i_27, i_28, i_29, i_30, i_31, i_32, i_33, i_34, i_35, i_36, i_37, i_38, i_39, i_40, i_41, i_42, i_43, i_44, i_45, i_46, i_47, i_48, i_49, i_50, i_51, i_52]))), (a_8, .inl (cy 1, 90, .inl f_0)), (a_9, .inl (cy 1, 15, .inl f_1)), (a_10, .inl (cy 1, 1050, .inl f_2)), (a_11, .inl (cy 1, 30, .inl f_3)), (a_12, .inl (cy 1, 240, .inl f_4)), (a_13, .inl (cy 1, 450, .inl f_5)), (a_14, .inl (cy 3, 3, .inl f_6))] [.ref a_0, .int i_0] (fun u : Int32 × Int32 × Int32 × Int32 × Int32 × Int32 × Int32 × Int32 × Int32 × Int32 × Int32 × Int32 × Int32 × Int32 × Int32 × Int32 × Int32 × Int32 × Int32 × Int32 × Int32 × (Nat → Int32) × (Nat → Int32) × (Nat → Int32) × (Nat → Int32) × (Nat → Int32) × (Nat → Int32) × (Nat → Int32) => [(a_0, .inr (12, [.int 0, .ref a_1, .ref a_2, .ref a_3, .ref a_4, .ref a_5, .int i_2, .int i_3, .int i_4, .int i_5, .int i_6, .long j_0, .int i_7, .int i_8, .int i_9, .int i_10, .ref a_6, .ref a_7, .ref a_8, .ref a_9, .ref a_10, .ref a_11, .ref a_12, .ref a_13, .ref a_14, .ref a_15, .ref a_16, .ref a_17, .ref a_18, .int i_11, .int i_12, .int i_13, .int i_14, .int i_15, .int i_16, .ref a_19, .int i_17, .ref a_20])), (a_6, .inl (cy 1, 5, .inl (mm_g [i_18, u.1, u.2.1, u.2.2.1, i_22]))), (a_7, .inl (cy 1, 30, .inl (mm_g [i_23, i_24, i_25, i_26, i_27, i_28, u.2.2.2.1, u.2.2.2.2.1, u.2.2.2.2.2.1, u.2.2.2.2.2.2.1, u.2.2.2.2.2.2.2.1, u.2.2.2.2.2.2.2.2.1, u.2.2.2.2.2.2.2.2.2.1, u.2.2.2.2.2.2.2.2.2.2.1, u.2.2.2.2.2.2.2.2.2.2.2.1, u.2.2.2.2.2.2.2.2.2.2.2.2.1, u.2.2.2.2.2.2.2.2.2.2.2.2.2.1, u.2.2.2.2.2.2.2.2.2.2.2.2.2.2.1, u.2.2.2.2.2.2.2.2.2.2.2.2.2.2.2.1, u.2.2.2.2.2.2.2.2.2.2.2.2.2.2.2.2.1, u.2.2.2.2.2.2.2.2.2.2.2.2.2.2.2.2.2.1, u.2.2.2.2.2.2.2.2.2.2.2.2.2.2.2.2.2.2.1, u.2.2.2.2.2.2.2.2.2.2.2.2.2.2.2.2.2.2.2.1, u.2.2.2.2.2.2.2.2.2.2.2.2.2.2.2.2.2.2.2.2.1, i_47, i_48, i_49, i_50, i_51, i_52]))), (a_8, .inl (cy 1, 90, .inl u.2.2.2.2.2.2.2.2.2.2.2.2.2.2.2.2.2.2.2.2.2.1)), (a_9, .inl (cy 1, 15, .inl u.2.2.2.2.2.2.2.2.2.2.2.2.2.2.2.2.2.2.2.2.2.2.1)), (a_10, .inl (cy 1, 1050, .inl u.2.2.2.2.2.2.2.2.2.2.2.2.2.2.2.2.2.2.2.2.2.2.2.1)), (a_11, .inl (cy 1, 30, .inl u.2.2.2.2.2.2.2.2.2.2.2.2.2.2.2.2.2.2.2.2.2.2.2.2.1)), (a_12, .inl (cy 1, 240, .inl u.2.2.2.2.2.2.2.2.2.2.2.2.2.2.2.2.2.2.2.2.2.2.2.2.2.1)), (a_13, .inl (cy 1, 450, .inl u.2.2.2.2.2.2.2.2.2.2.2.2.2.2.2.2.2.2.2.2.2.2.2.2.2.2.1)), (a_14, .inl (cy 3, 3, .inl u.2.2.2.2.2.2.2.2.2.2.2.2.2.2.2.2.2.2.2.2.2.2.2.2.2.2.2))]) (fun (r : Int32) (u : Int32 × Int32 × Int32 × Int32 × Int32 × Int32 × Int32 × Int32 × Int32 × Int32 × Int32 × Int32 × Int32 × Int32 × Int32 × Int32 × Int32 × Int32 × Int32 × Int32 × Int32 × (Nat → Int32) × (Nat → Int32) × (Nat → Int32) × (Nat → Int32) × (Nat → Int32) × (Nat → Int32) × (Nat → Int32)) => mm_rg u.1 0 601 ∧ mm_rg u.2.1 0 601 ∧ mm_rg u.2.2.1 0 601 ∧ mm_rg u.2.2.2.1 0 10 ∧ mm_rg u.2.2.2.2.1 0 99 ∧ mm_rg u.2.2.2.2.2.1 0 9 ∧ mm_rg u.2.2.2.2.2.2.1 0 3 ∧ mm_rg u.2.2.2.2.2.2.2.1 0 6 ∧ mm_rg u.2.2.2.2.2.2.2.2.1 0 30 ∧ mm_rg u.2.2.2.2.2.2.2.2.2.1 0 10 ∧ mm_rg u.2.2.2.2.2.2.2.2.2.2.1 0 99 ∧ mm_rg u.2.2.2.2.2.2.2.2.2.2.2.1 0 9 ∧ mm_rg u.2.2.2.2.2.2.2.2.2.2.2.2.1 0 3 ∧ mm_rg u.2.2.2.2.2.2.2.2.2.2.2.2.2.1 0 6 ∧ mm_rg u.2.2.2.2.2.2.2.2.2.2.2.2.2.2.1 0 30 ∧ mm_rg u.2.2.2.2.2.2.2.2.2.2.2.2.2.2.2.1 0 10 ∧ mm_rg u.2.2.2.2.2.2.2.2.2.2.2.2.2.2.2.2.1 0 99 ∧ mm_rg u.2.2.2.2.2.2.2.2.2.2.2.2.2.2.2.2.2.1 0 9 ∧ mm_rg u.2.2.2.2.2.2.2.2.2.2.2.2.2.2.2.2.2.2.1 0 3 ∧ mm_rg u.2.2.2.2.2.2.2.2.2.2.2.2.2.2.2.2.2.2.2.1 0 6 ∧ mm_rg u.2.2.2.2.2.2.2.2.2.2.2.2.2.2.2.2.2.2.2.2.1 0 30 ∧ mm_ar u.2.2.2.2.2.2.2.2.2.2.2.2.2.2.2.2.2.2.2.2.2.1 0 99 ∧ mm_ar u.2.2.2.2.2.2.2.2.2.2.2.2.2.2.2.2.2.2.2.2.2.2.1 0 7 ∧ mm_ar u.2.2.2.2.2.2.2.2.2.2.2.2.2.2.2.2.2.2.2.2.2.2.2.1 0 9 ∧ mm_ar u.2.2.2.2.2.2.2.2.2.2.2.2.2.2.2.2.2.2.2.2.2.2.2.2.1 0 8 ∧ mm_ar u.2.2.2.2.2.2.2.2.2.2.2.2.2.2.2.2.2.2.2.2.2.2.2.2.2.1 0 9 ∧ mm_ar u.2.2.2.2.2.2.2.2.2.2.2.2.2.2.2.2.2.2.2.2.2.2.2.2.2.2.1 (-1) 99 ∧ mm_ar u.2.2.2.2.2.2.2.2.2.2.2.2.2.2.2.2.2.2.2.2.2.2.2.2.2.2.2 0 1 ∧ mm_rls u.2.2.2.2.2.2.2.2.2.2.2.2.2.2.2.2.2.2.2.2.2.2.1 u.2.2.2.2.2.2.2.2.2.2.2.2.2.2.2.2.2.2.2.2.2.2.2.1 0 i_25 i_26 ∧ mm_txs u.2.2.2.2.2.2.2.2.2.2.2.2.2.2.2.2.2.2.2.2.2.2.2.2.1 u.2.2.2.2.2.2.2.2.2.2.2.2.2.2.2.2.2.2.2.2.2.2.2.2.2.1 0 i_25 i_27 ∧ mm_acs u.2.2.2.2.2.2.2.2.2.2.2.2.2.2.2.2.2.2.2.2.2.2.2.2.2.2.1 0 i_25 i_26 i_28 ∧ mm_rls u.2.2.2.2.2.2.2.2.2.2.2.2.2.2.2.2.2.2.2.2.2.2.1 u.2.2.2.2.2.2.2.2.2.2.2.2.2.2.2.2.2.2.2.2.2.2.2.1 1 u.2.2.2.2.2.1 u.2.2.2.2.2.2.1 ∧ mm_txs u.2.2.2.2.2.2.2.2.2.2.2.2.2.2.2.2.2.2.2.2.2.2.2.2.1 u.2.2.2.2.2.2.2.2.2.2.2.2.2.2.2.2.2.2.2.2.2.2.2.2.2.1 1 u.2.2.2.2.2.1 u.2.2.2.2.2.2.2.1 ∧ mm_acs u.2.2.2.2.2.2.2.2.2.2.2.2.2.2.2.2.2.2.2.2.2.2.2.2.2.2.1 1 u.2.2.2.2.2.1 u.2.2.2.2.2.2.1 u.2.2.2.2.2.2.2.2.1 ∧ mm_tl u.1 u.2.2.2.2.2.2.1 u.2.2.2.2.2.2.2.1 ∧ mm_rls u.2.2.2.2.2.2.2.2.2.2.2.2.2.2.2.2.2.2.2.2.2.2.1 u.2.2.2.2.2.2.2.2.2.2.2.2.2.2.2.2.2.2.2.2.2.2.2.1 2 u.2.2.2.2.2.2.2.2.2.2.2.1 u.2.2.2.2.2.2.2.2.2.2.2.2.1 ∧ mm_txs u.2.2.2.2.2.2.2.2.2.2.2.2.2.2.2.2.2.2.2.2.2.2.2.2.1 u.2.2.2.2.2.2.2.2.2.2.2.2.2.2.2.2.2.2.2.2.2.2.2.2.2.1 2 u.2.2.2.2.2.2.2.2.2.2.2.1 u.2.2.2.2.2.2.2.2.2.2.2.2.2.1 ∧ mm_acs u.2.2.2.2.2.2.2.2.2.2.2.2.2.2.2.2.2.2.2.2.2.2.2.2.2.2.1 2 u.2.2.2.2.2.2.2.2.2.2.2.1 u.2.2.2.2.2.2.2.2.2.2.2.2.1 u.2.2.2.2.2.2.2.2.2.2.2.2.2.2.1 ∧ mm_tl u.2.1 u.2.2.2.2.2.2.2.2.2.2.2.2.1 u.2.2.2.2.2.2.2.2.2.2.2.2.2.1 ∧ mm_rls u.2.2.2.2.2.2.2.2.2.2.2.2.2.2.2.2.2.2.2.2.2.2.1 u.2.2.2.2.2.2.2.2.2.2.2.2.2.2.2.2.2.2.2.2.2.2.2.1 3 u.2.2.2.2.2.2.2.2.2.2.2.2.2.2.2.2.2.1 u.2.2.2.2.2.2.2.2.2.2.2.2.2.2.2.2.2.2.1 ∧ mm_txs u.2.2.2.2.2.2.2.2.2.2.2.2.2.2.2.2.2.2.2.2.2.2.2.2.1 u.2.2.2.2.2.2.2.2.2.2.2.2.2.2.2.2.2.2.2.2.2.2.2.2.2.1 3 u.2.2.2.2.2.2.2.2.2.2.2.2.2.2.2.2.2.1 u.2.2.2.2.2.2.2.2.2.2.2.2.2.2.2.2.2.2.2.1 ∧ mm_acs u.2.2.2.2.2.2.2.2.2.2.2.2.2.2.2.2.2.2.2.2.2.2.2.2.2.2.1 3 u.2.2.2.2.2.2.2.2.2.2.2.2.2.2.2.2.2.1 u.2.2.2.2.2.2.2.2.2.2.2.2.2.2.2.2.2.2.1 u.2.2.2.2.2.2.2.2.2.2.2.2.2.2.2.2.2.2.2.2.1 ∧ mm_tl u.2.2.1 u.2.2.2.2.2.2.2.2.2.2.2.2.2.2.2.2.2.2.1 u.2.2.2.2.2.2.2.2.2.2.2.2.2.2.2.2.2.2.2.1 ∧ mm_rg r (-2) 0) 0 0 := by
  refine mm_begin (lv := [(0, .ref a_0), (1, .int i_0)]) (by decide) (Nat.le_of_ble_eq_true rfl) rfl ?_
  intro p e s m below meth c A ls R args Q H locs hRe hQ hAe hx hb hr hlocks hml hown hnm hts hsz hA hS hP hK hD hZ hl
  have hRf : R.frames = 2 := by rw [hRe]
  have hRl : R.locals = 46 := by rw [hRe]
  have hRc : R.cells = 0 := by rw [hRe]
  have hRs : R.slots = 0 := by rw [hRe]
  refine lv_aload_n hx hb dX12_image_0 rfl (lv_at hl 0 rfl) ?_
  refine lv_iconst (v := 0) hx hb dX12_image_1 (by decide) ?_
  refine va_put (D := G) (ci := 12) (v := .int 0) (ty := tyX12 0) (C := RX12) (T := TX12) (N := 38) hx hb hts (mm_i inlX12) tyX12 tyX12_ok nmX12 hown hK.1 hP hD hS 0 rfl rfl 0 (by decide) (mm_h hts mm_w177) (fun _ h9 => h9) rfl (tyX12_ok 0 (by decide)) rfl rfl (Nat.le_of_ble_eq_true rfl) dX12_image_2 ?_
  clear hP hD hS
  clear H locs
  intro H locs (hP : va_P G vwCl [(a_0, .inr (12, [.int 0, .ref a_1, .ref a_2, .ref a_3, .ref a_4, .ref a_5, .int i_2, .int i_3, .int i_4, .int i_5, .int i_6, .long j_0, .int i_7, .int i_8, .int i_9, .int i_10, .ref a_6, .ref a_7, .ref a_8, .ref a_9, .ref a_10, .ref a_11, .ref a_12, .ref a_13, .ref a_14, .ref a_15, .ref a_16, .ref a_17, .ref a_18, .int i_11, .int i_12, .int i_13, .int i_14, .int i_15, .int i_16, .ref a_19, .int i_17, .ref a_20])), (a_6, .inl (cy 1, 5, .inl (mm_g [i_18, i_19, i_20, i_21, i_22]))), (a_7, .inl (cy 1, 30, .inl (mm_g [i_23, i_24, i_25, i_26, i_27, i_28, i_29, i_30, i_31, i_32, i_33, i_34, i_35, i_36, i_37, i_38, i_39, i_40, i_41, i_42, i_43, i_44, i_45, i_46, i_47, i_48, i_49, i_50, i_51, i_52]))), (a_8, .inl (cy 1, 90, .inl f_0)), (a_9, .inl (cy 1, 15, .inl f_1)), (a_10, .inl (cy 1, 1050, .inl f_2)), (a_11, .inl (cy 1, 30, .inl f_3)), (a_12, .inl (cy 1, 240, .inl f_4)), (a_13, .inl (cy 1, 450, .inl f_5)), (a_14, .inl (cy 3, 3, .inl f_6))] H) (hD : va_D A [(a_0, .inr (12, [.int 0, .ref a_1, .ref a_2, .ref a_3, .ref a_4, .ref a_5, .int i_2, .int i_3, .int i_4, .int i_5, .int i_6, .long j_0, .int i_7, .int i_8, .int i_9, .int i_10, .ref a_6, .ref a_7, .ref a_8, .ref a_9, .ref a_10, .ref a_11, .ref a_12, .ref a_13, .ref a_14, .ref a_15, .ref a_16, .ref a_17, .ref a_18, .int i_11, .int i_12, .int i_13, .int i_14, .int i_15, .int i_16, .ref a_19, .int i_17, .ref a_20])), (a_6, .inl (cy 1, 5, .inl (mm_g [i_18, i_19, i_20, i_21, i_22]))), (a_7, .inl (cy 1, 30, .inl (mm_g [i_23, i_24, i_25, i_26, i_27, i_28, i_29, i_30, i_31, i_32, i_33, i_34, i_35, i_36, i_37, i_38, i_39, i_40, i_41, i_42, i_43, i_44, i_45, i_46, i_47, i_48, i_49, i_50, i_51, i_52]))), (a_8, .inl (cy 1, 90, .inl f_0)), (a_9, .inl (cy 1, 15, .inl f_1)), (a_10, .inl (cy 1, 1050, .inl f_2)), (a_11, .inl (cy 1, 30, .inl f_3)), (a_12, .inl (cy 1, 240, .inl f_4)), (a_13, .inl (cy 1, 450, .inl f_5)), (a_14, .inl (cy 3, 3, .inl f_6))]) hS
  refine lv_iload_n hx hb dX12_image_5 rfl (lv_at hl 1 rfl) ?_
  obtain ⟨v1, ev1⟩ : ∃ y : Int64, y = i_0.toInt64 := ⟨_, rfl⟩
  refine lv_i2l hx hb dX12_image_6 ev1.symm ?_
  have rv1 : mm_rl v1 (-2147483648) 2147483647 := mm_i2l ev1 (mm_top i_0)
  refine lv_lconst (v := 0) hx hb dX12_image_7 (by decide) ?_
  refine lv_ldc2 (v := 2) hx hb hown (mm_h hts mm_w1664) dX12_image_8 ?_
  refine mm_finir (va_runS (As := [.long v1, .long 0, .long 2]) (rest := []) ⟨hx, hb, hml, hown, hts⟩ (M7_X12_in l G cy H.size v1 2 ) (va_cwS 3 hts (mm_gS mm_w191 mm_w192 mm_w5 mm_w193) rfl rfl rfl hs_X12_in ⟨by rw [hRf]; exact Nat.le_of_ble_eq_true rfl, by rw [hRl]; exact Nat.le_of_ble_eq_true rfl⟩) (mm_preS hK hZ hS hA hP hD [] rfl rfl) rfl rfl hl.1 rfl (lv_room (Nat.le_of_ble_eq_true rfl)) dX12_image_11 ⟨by rw [hRc]; exact Nat.le_of_ble_eq_true rfl, by rw [hRs]; exact Nat.le_of_ble_eq_true rfl⟩) hP hD hS hA [] rfl (fun _ => rfl) ?_
  clear hP hD hS
  clear H locs
  intro v2 _u H locs hw hP hD hS
  rcases hw with ⟨rfl, w3⟩ | ⟨rfl, w4, w5, w6, w7⟩
  · refine lv_if_ne (tgt := 20) hx hb dX12_image_14 (by decide) (fun c8 => ?_) (fun c8 => ?_)
    · exact absurd rfl (mm_ne c8)
    · refine lv_bipush (v := (-2)) hx hb dX12_image_17 (by decide) ?_
      subst hAe
      rw [hQ]
      exact W.iret (v := (-2)) hx hb hr (fun t ht hW => ⟨⟨(-2), (i_19, i_20, i_21, i_29, i_30, i_31, i_32, i_33, i_34, i_35, i_36, i_37, i_38, i_39, i_40, i_41, i_42, i_43, i_44, i_45, i_46, f_0, f_1, f_2, f_3, f_4, f_5, f_6), rfl, ⟨h1, h2, h3, h11, h12, h13, h14, h15, h16, h17, h18, h19, h20, h21, h22, h23, h24, h25, h26, h27, h28, h35, h36, h37, h38, h39, h40, h41, h42, h43, h44, h46, h47, h48, h49, h50, h51, h52, h53, h54, h55, h56, h57, (mm_wk mm_km2 (by decide))⟩, by rw [ht]; exact hP, hK.warm hW, hD⟩, hS.F ht⟩) hS.2.2 dX12_image_19
  · have q9 := mm_meetl (lo := 0) (hi := 2147483647) w4 rv1 (by decide)
    have q10 := mm_meet (lo := 0) (hi := 2147483647) (mm_l2x ev1 q9) (mm_top i_0) (by decide)
    have q11 := mm_leLl w6 q9 mm_kl2
    have q12 := mm_meet (lo := 0) (hi := 2) (mm_l2x ev1 q11) q10 (by decide)
    refine lv_if_ne (tgt := 20) hx hb dX12_image_14 (by decide) (fun c13 => ?_) (fun c13 => ?_)
    · rcases mm_casesR0_3 q12 with rfl | rfl | rfl
      · refine lv_aload_n hx hb dX12_image_20 rfl (lv_at hl 0 rfl) ?_
        refine lv_iconst (v := 0) hx hb dX12_image_21 (by decide) ?_
        refine lv_iconst (v := 1) hx hb dX12_image_22 (by decide) ?_
        refine lv_iload_n hx hb dX12_image_23 rfl (lv_at hl 1 rfl) ?_
        refine lv_iadd hx hb dX12_image_24 ?_
        refine lv_topi (fun v14 ev14 => ?_)
        obtain rfl : v14 = 1 := ev14.trans (by decide)
        refine mm_finv (va_runV (As := [.int 0, .int 1]) (rest := []) ⟨hx, hb, hml, hown, hts⟩ (M331_X12_copyBook l G cy H.size a_0 0 a_1 a_2 a_3 a_4 a_5 i_2 i_3 i_4 i_5 i_6 j_0 i_7 i_8 i_9 i_10 a_6 a_7 a_8 a_9 a_10 a_11 a_12 a_13 a_14 a_15 a_16 a_17 a_18 i_11 i_12 i_13 i_14 i_15 i_16 a_19 i_17 a_20 i_18 i_19 i_20 i_21 i_22 i_23 i_24 i_25 i_26 i_27 i_28 i_29 i_30 i_31 i_32 i_33 i_34 i_35 i_36 i_37 i_38 i_39 i_40 i_41 i_42 i_43 i_44 i_45 i_46 i_47 i_48 i_49 i_50 i_51 i_52 f_0 f_1 f_2 f_3 f_4 f_5 h0 h1 h2 h3 h4 h5 h6 h7 h8 h9 h10 h11 h12 h13 h14 h15 h16 h17 h18 h19 h20 h21 h22 h23 h24 h25 h26 h27 h28 h29 h30 h31 h32 h33 h34 h35 h36 h37 h38 h39 h40 h42 h43 h44 h45 h46 h47 h48 h49 h50 h51 h52 h53 h54 h55 h56 h57) (cwV 2 hts (mm_gV mm_w553 mm_w554 mm_w555 mm_w5 mm_w556) rfl rfl rfl hd_X12_copyBook ⟨by rw [hRf]; exact Nat.le_of_ble_eq_true rfl, by rw [hRl]; exact Nat.le_of_ble_eq_true rfl⟩) (mm_preV hK hZ hS hA hP hD [0, 1, 2, 3, 4, 5, 6, 7, 8] rfl rfl 0 rfl rfl rfl) rfl rfl hl.1 rfl (lv_room (Nat.le_of_ble_eq_true rfl)) dX12_image_25 ⟨by rw [hRc]; exact Nat.le_of_ble_eq_true rfl, by rw [hRs]; exact Nat.le_of_ble_eq_true rfl⟩) hP hD hS hA (fun u : (Nat → Int32) × (Nat → Int32) × (Nat → Int32) × (Nat → Int32) × (Nat → Int32) × (Nat → Int32) => [(a_0, .inr (12, [.int 0, .ref a_1, .ref a_2, .ref a_3, .ref a_4, .ref a_5, .int i_2, .int i_3, .int i_4, .int i_5, .int i_6, .long j_0, .int i_7, .int i_8, .int i_9, .int i_10, .ref a_6, .ref a_7, .ref a_8, .ref a_9, .ref a_10, .ref a_11, .ref a_12, .ref a_13, .ref a_14, .ref a_15, .ref a_16, .ref a_17, .ref a_18, .int i_11, .int i_12, .int i_13, .int i_14, .int i_15, .int i_16, .ref a_19, .int i_17, .ref a_20])), (a_6, .inl (cy 1, 5, .inl (mm_g [i_18, i_18, i_20, i_21, i_22]))), (a_7, .inl (cy 1, 30, .inl (mm_g [i_23, i_24, i_25, i_26, i_27, i_28, i_23, i_24, i_25, i_26, i_27, i_28, i_35, i_36, i_37, i_38, i_39, i_40, i_41, i_42, i_43, i_44, i_45, i_46, i_47, i_48, i_49, i_50, i_51, i_52]))), (a_8, .inl (cy 1, 90, .inl u.1)), (a_9, .inl (cy 1, 15, .inl u.2.1)), (a_10, .inl (cy 1, 1050, .inl u.2.2.1)), (a_11, .inl (cy 1, 30, .inl u.2.2.2.1)), (a_12, .inl (cy 1, 240, .inl u.2.2.2.2.1)), (a_13, .inl (cy 1, 450, .inl u.2.2.2.2.2)), (a_14, .inl (cy 3, 3, .inl f_6))]) [0, 1, 2, 3, 4, 5, 6, 7, 8] [9] (n := 10) (fun _ => rfl) (by decide +kernel) (by decide +kernel) rfl (fun _ => rfl) (wr := [(a_14, .inl (cy 3, 3, .inl f_6))]) rfl (fun _ => rfl) (fun _ => @rfl _ ([a_0, a_6, a_7, a_8, a_9, a_10, a_11, a_12, a_13] : List Nat)) ?_
        clear hP hD hS
        clear H locs
        intro u
        obtain ⟨n15, n16, n17, n18, n19, n20⟩ := u
        intro H locs hw (hP : va_P G vwCl [(a_0, .inr (12, [.int 0, .ref a_1, .ref a_2, .ref a_3, .ref a_4, .ref a_5, .int i_2, .int i_3, .int i_4, .int i_5, .int i_6, .long j_0, .int i_7, .int i_8, .int i_9, .int i_10, .ref a_6, .ref a_7, .ref a_8, .ref a_9, .ref a_10, .ref a_11, .ref a_12, .ref a_13, .ref a_14, .ref a_15, .ref a_16, .ref a_17, .ref a_18, .int i_11, .int i_12, .int i_13, .int i_14, .int i_15, .int i_16, .ref a_19, .int i_17, .ref a_20])), (a_6, .inl (cy 1, 5, .inl (mm_g [i_18, i_18, i_20, i_21, i_22]))), (a_7, .inl (cy 1, 30, .inl (mm_g [i_23, i_24, i_25, i_26, i_27, i_28, i_23, i_24, i_25, i_26, i_27, i_28, i_35, i_36, i_37, i_38, i_39, i_40, i_41, i_42, i_43, i_44, i_45, i_46, i_47, i_48, i_49, i_50, i_51, i_52]))), (a_8, .inl (cy 1, 90, .inl n15)), (a_9, .inl (cy 1, 15, .inl n16)), (a_10, .inl (cy 1, 1050, .inl n17)), (a_11, .inl (cy 1, 30, .inl n18)), (a_12, .inl (cy 1, 240, .inl n19)), (a_13, .inl (cy 1, 450, .inl n20)), (a_14, .inl (cy 3, 3, .inl f_6))] H) (hD : va_D A [(a_0, .inr (12, [.int 0, .ref a_1, .ref a_2, .ref a_3, .ref a_4, .ref a_5, .int i_2, .int i_3, .int i_4, .int i_5, .int i_6, .long j_0, .int i_7, .int i_8, .int i_9, .int i_10, .ref a_6, .ref a_7, .ref a_8, .ref a_9, .ref a_10, .ref a_11, .ref a_12, .ref a_13, .ref a_14, .ref a_15, .ref a_16, .ref a_17, .ref a_18, .int i_11, .int i_12, .int i_13, .int i_14, .int i_15, .int i_16, .ref a_19, .int i_17, .ref a_20])), (a_6, .inl (cy 1, 5, .inl (mm_g [i_18, i_18, i_20, i_21, i_22]))), (a_7, .inl (cy 1, 30, .inl (mm_g [i_23, i_24, i_25, i_26, i_27, i_28, i_23, i_24, i_25, i_26, i_27, i_28, i_35, i_36, i_37, i_38, i_39, i_40, i_41, i_42, i_43, i_44, i_45, i_46, i_47, i_48, i_49, i_50, i_51, i_52]))), (a_8, .inl (cy 1, 90, .inl n15)), (a_9, .inl (cy 1, 15, .inl n16)), (a_10, .inl (cy 1, 1050, .inl n17)), (a_11, .inl (cy 1, 30, .inl n18)), (a_12, .inl (cy 1, 240, .inl n19)), (a_13, .inl (cy 1, 450, .inl n20)), (a_14, .inl (cy 3, 3, .inl f_6))]) hS
        obtain ⟨w21, w22, w23, w24, w25, w26, w27, w28, w29, w30, w31, w32, w33, w34, w35, w36, w37, w38⟩ := hw
        replace w27 : mm_rls n16 n17 0 i_25 i_26 := w27
        replace w28 : mm_txs n18 n19 0 i_25 i_27 := w28
        replace w29 : mm_acs n20 0 i_25 i_26 i_28 := w29
        replace w30 : mm_rls n16 n17 1 i_25 i_26 := w30
        replace w31 : mm_txs n18 n19 1 i_25 i_27 := w31
        replace w32 : mm_acs n20 1 i_25 i_26 i_28 := w32
        replace w33 : mm_rls n16 n17 2 i_37 i_38 := w33
        replace w34 : mm_txs n18 n19 2 i_37 i_39 := w34
        replace w35 : mm_acs n20 2 i_37 i_38 i_40 := w35
        replace w36 : mm_rls n16 n17 3 i_43 i_44 := w36
        replace w37 : mm_txs n18 n19 3 i_43 i_45 := w37
        replace w38 : mm_acs n20 3 i_43 i_44 i_46 := w38
        refine lv_aload_n hx hb dX12_image_28 rfl (lv_at hl 0 rfl) ?_
        refine va_get (D := G) (ci := 12) (v := .ref a_14) (C := RX12) (T := TX12) (N := 38) hx hb hts (mm_i inlX12) hown hK.1 hP 0 rfl rfl 24 (by decide) (mm_h hts mm_w156) (fun _ h9 => h9) rfl dX12_image_29 ?_
        refine lv_iload_n hx hb dX12_image_32 rfl (lv_at hl 1 rfl) ?_
        refine lv_iconst (v := 1) hx hb dX12_image_33 (by decide) ?_
        refine va_zast hx hb hK.1 hP hD hS 9 3 rfl rfl (mm_in mm_k0 (by decide)) dX12_image_34 ?_
        clear hP hD hS
        clear H locs
        obtain ⟨g39, eg39⟩ : ∃ z : Nat → Int32, z = upd f_6 (0 : Int32).toNatClampNeg (vp_nar .boolean 1) := ⟨_, rfl⟩
        rw [← eg39]
        intro H locs (hP : va_P G vwCl [(a_0, .inr (12, [.int 0, .ref a_1, .ref a_2, .ref a_3, .ref a_4, .ref a_5, .int i_2, .int i_3, .int i_4, .int i_5, .int i_6, .long j_0, .int i_7, .int i_8, .int i_9, .int i_10, .ref a_6, .ref a_7, .ref a_8, .ref a_9, .ref a_10, .ref a_11, .ref a_12, .ref a_13, .ref a_14, .ref a_15, .ref a_16, .ref a_17, .ref a_18, .int i_11, .int i_12, .int i_13, .int i_14, .int i_15, .int i_16, .ref a_19, .int i_17, .ref a_20])), (a_6, .inl (cy 1, 5, .inl (mm_g [i_18, i_18, i_20, i_21, i_22]))), (a_7, .inl (cy 1, 30, .inl (mm_g [i_23, i_24, i_25, i_26, i_27, i_28, i_23, i_24, i_25, i_26, i_27, i_28, i_35, i_36, i_37, i_38, i_39, i_40, i_41, i_42, i_43, i_44, i_45, i_46, i_47, i_48, i_49, i_50, i_51, i_52]))), (a_8, .inl (cy 1, 90, .inl n15)), (a_9, .inl (cy 1, 15, .inl n16)), (a_10, .inl (cy 1, 1050, .inl n17)), (a_11, .inl (cy 1, 30, .inl n18)), (a_12, .inl (cy 1, 240, .inl n19)), (a_13, .inl (cy 1, 450, .inl n20)), (a_14, .inl (cy 3, 3, .inl g39))] H) (hD : va_D A [(a_0, .inr (12, [.int 0, .ref a_1, .ref a_2, .ref a_3, .ref a_4, .ref a_5, .int i_2, .int i_3, .int i_4, .int i_5, .int i_6, .long j_0, .int i_7, .int i_8, .int i_9, .int i_10, .ref a_6, .ref a_7, .ref a_8, .ref a_9, .ref a_10, .ref a_11, .ref a_12, .ref a_13, .ref a_14, .ref a_15, .ref a_16, .ref a_17, .ref a_18, .int i_11, .int i_12, .int i_13, .int i_14, .int i_15, .int i_16, .ref a_19, .int i_17, .ref a_20])), (a_6, .inl (cy 1, 5, .inl (mm_g [i_18, i_18, i_20, i_21, i_22]))), (a_7, .inl (cy 1, 30, .inl (mm_g [i_23, i_24, i_25, i_26, i_27, i_28, i_23, i_24, i_25, i_26, i_27, i_28, i_35, i_36, i_37, i_38, i_39, i_40, i_41, i_42, i_43, i_44, i_45, i_46, i_47, i_48, i_49, i_50, i_51, i_52]))), (a_8, .inl (cy 1, 90, .inl n15)), (a_9, .inl (cy 1, 15, .inl n16)), (a_10, .inl (cy 1, 1050, .inl n17)), (a_11, .inl (cy 1, 30, .inl n18)), (a_12, .inl (cy 1, 240, .inl n19)), (a_13, .inl (cy 1, 450, .inl n20)), (a_14, .inl (cy 3, 3, .inl g39))]) hS
        have rg39 : mm_ar g39 0 1 := by rw [eg39]; exact mm_ar_upd (mm_ar_wk h41 (by decide)) (mm_nz1 1) _
        refine lv_iconst (v := 0) hx hb dX12_image_35 (by decide) ?_
        subst hAe
        rw [hQ]
        exact W.iret (v := 0) hx hb hr (fun t ht hW => ⟨⟨0, (i_18, i_20, i_21, i_23, i_24, i_25, i_26, i_27, i_28, i_35, i_36, i_37, i_38, i_39, i_40, i_41, i_42, i_43, i_44, i_45, i_46, n15, n16, n17, n18, n19, n20, g39), rfl, ⟨h0, h2, h3, h5, h6, h7, h8, h9, h10, h17, h18, h19, h20, h21, h22, h23, h24, h25, h26, h27, h28, w21, w22, w23, w24, w25, w26, rg39, w27, w28, w29, w30, w31, w32, h45, w33, w34, w35, h53, w36, w37, w38, h57, (mm_wk mm_k0 (by decide))⟩, by rw [ht]; exact hP, hK.warm hW, hD⟩, hS.F ht⟩) hS.2.2 dX12_image_36
      · refine lv_aload_n hx hb dX12_image_20 rfl (lv_at hl 0 rfl) ?_
        refine lv_iconst (v := 0) hx hb dX12_image_21 (by decide) ?_
        refine lv_iconst (v := 1) hx hb dX12_image_22 (by decide) ?_
        refine lv_iload_n hx hb dX12_image_23 rfl (lv_at hl 1 rfl) ?_
        refine lv_iadd hx hb dX12_image_24 ?_
        refine lv_topi (fun v40 ev40 => ?_)
        obtain rfl : v40 = 2 := ev40.trans (by decide)
        refine mm_finv (va_runV (As := [.int 0, .int 2]) (rest := []) ⟨hx, hb, hml, hown, hts⟩ (M340_X12_copyBook l G cy H.size a_0 0 a_1 a_2 a_3 a_4 a_5 i_2 i_3 i_4 i_5 i_6 j_0 i_7 i_8 i_9 i_10 a_6 a_7 a_8 a_9 a_10 a_11 a_12 a_13 a_14 a_15 a_16 a_17 a_18 i_11 i_12 i_13 i_14 i_15 i_16 a_19 i_17 a_20 i_18 i_19 i_20 i_21 i_22 i_23 i_24 i_25 i_26 i_27 i_28 i_29 i_30 i_31 i_32 i_33 i_34 i_35 i_36 i_37 i_38 i_39 i_40 i_41 i_42 i_43 i_44 i_45 i_46 i_47 i_48 i_49 i_50 i_51 i_52 f_0 f_1 f_2 f_3 f_4 f_5 h0 h1 h2 h3 h4 h5 h6 h7 h8 h9 h10 h11 h12 h13 h14 h15 h16 h17 h18 h19 h20 h21 h22 h23 h24 h25 h26 h27 h28 h29 h30 h31 h32 h33 h34 h35 h36 h37 h38 h39 h40 h42 h43 h44 h45 h46 h47 h48 h49 h50 h51 h52 h53 h54 h55 h56 h57) (cwV 2 hts (mm_gV mm_w553 mm_w554 mm_w555 mm_w5 mm_w556) rfl rfl rfl hd_X12_copyBook ⟨by rw [hRf]; exact Nat.le_of_ble_eq_true rfl, by rw [hRl]; exact Nat.le_of_ble_eq_true rfl⟩) (mm_preV hK hZ hS hA hP hD [0, 1, 2, 3, 4, 5, 6, 7, 8] rfl rfl 0 rfl rfl rfl) rfl rfl hl.1 rfl (lv_room (Nat.le_of_ble_eq_true rfl)) dX12_image_25 ⟨by rw [hRc]; exact Nat.le_of_ble_eq_true rfl, by rw [hRs]; exact Nat.le_of_ble_eq_true rfl⟩) hP hD hS hA (fun u : (Nat → Int32) × (Nat → Int32) × (Nat → Int32) × (Nat → Int32) × (Nat → Int32) × (Nat → Int32) => [(a_0, .inr (12, [.int 0, .ref a_1, .ref a_2, .ref a_3, .ref a_4, .ref a_5, .int i_2, .int i_3, .int i_4, .int i_5, .int i_6, .long j_0, .int i_7, .int i_8, .int i_9, .int i_10, .ref a_6, .ref a_7, .ref a_8, .ref a_9, .ref a_10, .ref a_11, .ref a_12, .ref a_13, .ref a_14, .ref a_15, .ref a_16, .ref a_17, .ref a_18, .int i_11, .int i_12, .int i_13, .int i_14, .int i_15, .int i_16, .ref a_19, .int i_17, .ref a_20])), (a_6, .inl (cy 1, 5, .inl (mm_g [i_18, i_19, i_18, i_21, i_22]))), (a_7, .inl (cy 1, 30, .inl (mm_g [i_23, i_24, i_25, i_26, i_27, i_28, i_29, i_30, i_31, i_32, i_33, i_34, i_23, i_24, i_25, i_26, i_27, i_28, i_41, i_42, i_43, i_44, i_45, i_46, i_47, i_48, i_49, i_50, i_51, i_52]))), (a_8, .inl (cy 1, 90, .inl u.1)), (a_9, .inl (cy 1, 15, .inl u.2.1)), (a_10, .inl (cy 1, 1050, .inl u.2.2.1)), (a_11, .inl (cy 1, 30, .inl u.2.2.2.1)), (a_12, .inl (cy 1, 240, .inl u.2.2.2.2.1)), (a_13, .inl (cy 1, 450, .inl u.2.2.2.2.2)), (a_14, .inl (cy 3, 3, .inl f_6))]) [0, 1, 2, 3, 4, 5, 6, 7, 8] [9] (n := 10) (fun _ => rfl) (by decide +kernel) (by decide +kernel) rfl (fun _ => rfl) (wr := [(a_14, .inl (cy 3, 3, .inl f_6))]) rfl (fun _ => rfl) (fun _ => @rfl _ ([a_0, a_6, a_7, a_8, a_9, a_10, a_11, a_12, a_13] : List Nat)) ?_
        clear hP hD hS
        clear H locs
        intro u
        obtain ⟨n41, n42, n43, n44, n45, n46⟩ := u
        intro H locs hw (hP : va_P G vwCl [(a_0, .inr (12, [.int 0, .ref a_1, .ref a_2, .ref a_3, .ref a_4, .ref a_5, .int i_2, .int i_3, .int i_4, .int i_5, .int i_6, .long j_0, .int i_7, .int i_8, .int i_9, .int i_10, .ref a_6, .ref a_7, .ref a_8, .ref a_9, .ref a_10, .ref a_11, .ref a_12, .ref a_13, .ref a_14, .ref a_15, .ref a_16, .ref a_17, .ref a_18, .int i_11, .int i_12, .int i_13, .int i_14, .int i_15, .int i_16, .ref a_19, .int i_17, .ref a_20])), (a_6, .inl (cy 1, 5, .inl (mm_g [i_18, i_19, i_18, i_21, i_22]))), (a_7, .inl (cy 1, 30, .inl (mm_g [i_23, i_24, i_25, i_26, i_27, i_28, i_29, i_30, i_31, i_32, i_33, i_34, i_23, i_24, i_25, i_26, i_27, i_28, i_41, i_42, i_43, i_44, i_45, i_46, i_47, i_48, i_49, i_50, i_51, i_52]))), (a_8, .inl (cy 1, 90, .inl n41)), (a_9, .inl (cy 1, 15, .inl n42)), (a_10, .inl (cy 1, 1050, .inl n43)), (a_11, .inl (cy 1, 30, .inl n44)), (a_12, .inl (cy 1, 240, .inl n45)), (a_13, .inl (cy 1, 450, .inl n46)), (a_14, .inl (cy 3, 3, .inl f_6))] H) (hD : va_D A [(a_0, .inr (12, [.int 0, .ref a_1, .ref a_2, .ref a_3, .ref a_4, .ref a_5, .int i_2, .int i_3, .int i_4, .int i_5, .int i_6, .long j_0, .int i_7, .int i_8, .int i_9, .int i_10, .ref a_6, .ref a_7, .ref a_8, .ref a_9, .ref a_10, .ref a_11, .ref a_12, .ref a_13, .ref a_14, .ref a_15, .ref a_16, .ref a_17, .ref a_18, .int i_11, .int i_12, .int i_13, .int i_14, .int i_15, .int i_16, .ref a_19, .int i_17, .ref a_20])), (a_6, .inl (cy 1, 5, .inl (mm_g [i_18, i_19, i_18, i_21, i_22]))), (a_7, .inl (cy 1, 30, .inl (mm_g [i_23, i_24, i_25, i_26, i_27, i_28, i_29, i_30, i_31, i_32, i_33, i_34, i_23, i_24, i_25, i_26, i_27, i_28, i_41, i_42, i_43, i_44, i_45, i_46, i_47, i_48, i_49, i_50, i_51, i_52]))), (a_8, .inl (cy 1, 90, .inl n41)), (a_9, .inl (cy 1, 15, .inl n42)), (a_10, .inl (cy 1, 1050, .inl n43)), (a_11, .inl (cy 1, 30, .inl n44)), (a_12, .inl (cy 1, 240, .inl n45)), (a_13, .inl (cy 1, 450, .inl n46)), (a_14, .inl (cy 3, 3, .inl f_6))]) hS
        obtain ⟨w47, w48, w49, w50, w51, w52, w53, w54, w55, w56, w57, w58, w59, w60, w61, w62, w63, w64⟩ := hw
        replace w53 : mm_rls n42 n43 0 i_25 i_26 := w53
        replace w54 : mm_txs n44 n45 0 i_25 i_27 := w54
        replace w55 : mm_acs n46 0 i_25 i_26 i_28 := w55
        replace w56 : mm_rls n42 n43 1 i_31 i_32 := w56
        replace w57 : mm_txs n44 n45 1 i_31 i_33 := w57
        replace w58 : mm_acs n46 1 i_31 i_32 i_34 := w58
        replace w59 : mm_rls n42 n43 2 i_25 i_26 := w59
        replace w60 : mm_txs n44 n45 2 i_25 i_27 := w60
        replace w61 : mm_acs n46 2 i_25 i_26 i_28 := w61
        replace w62 : mm_rls n42 n43 3 i_43 i_44 := w62
        replace w63 : mm_txs n44 n45 3 i_43 i_45 := w63
        replace w64 : mm_acs n46 3 i_43 i_44 i_46 := w64
        refine lv_aload_n hx hb dX12_image_28 rfl (lv_at hl 0 rfl) ?_
        refine va_get (D := G) (ci := 12) (v := .ref a_14) (C := RX12) (T := TX12) (N := 38) hx hb hts (mm_i inlX12) hown hK.1 hP 0 rfl rfl 24 (by decide) (mm_h hts mm_w156) (fun _ h9 => h9) rfl dX12_image_29 ?_
        refine lv_iload_n hx hb dX12_image_32 rfl (lv_at hl 1 rfl) ?_
        refine lv_iconst (v := 1) hx hb dX12_image_33 (by decide) ?_
        refine va_zast hx hb hK.1 hP hD hS 9 3 rfl rfl (mm_in mm_k1 (by decide)) dX12_image_34 ?_
        clear hP hD hS
        clear H locs
        obtain ⟨g65, eg65⟩ : ∃ z : Nat → Int32, z = upd f_6 (1 : Int32).toNatClampNeg (vp_nar .boolean 1) := ⟨_, rfl⟩
        rw [← eg65]
        intro H locs (hP : va_P G vwCl [(a_0, .inr (12, [.int 0, .ref a_1, .ref a_2, .ref a_3, .ref a_4, .ref a_5, .int i_2, .int i_3, .int i_4, .int i_5, .int i_6, .long j_0, .int i_7, .int i_8, .int i_9, .int i_10, .ref a_6, .ref a_7, .ref a_8, .ref a_9, .ref a_10, .ref a_11, .ref a_12, .ref a_13, .ref a_14, .ref a_15, .ref a_16, .ref a_17, .ref a_18, .int i_11, .int i_12, .int i_13, .int i_14, .int i_15, .int i_16, .ref a_19, .int i_17, .ref a_20])), (a_6, .inl (cy 1, 5, .inl (mm_g [i_18, i_19, i_18, i_21, i_22]))), (a_7, .inl (cy 1, 30, .inl (mm_g [i_23, i_24, i_25, i_26, i_27, i_28, i_29, i_30, i_31, i_32, i_33, i_34, i_23, i_24, i_25, i_26, i_27, i_28, i_41, i_42, i_43, i_44, i_45, i_46, i_47, i_48, i_49, i_50, i_51, i_52]))), (a_8, .inl (cy 1, 90, .inl n41)), (a_9, .inl (cy 1, 15, .inl n42)), (a_10, .inl (cy 1, 1050, .inl n43)), (a_11, .inl (cy 1, 30, .inl n44)), (a_12, .inl (cy 1, 240, .inl n45)), (a_13, .inl (cy 1, 450, .inl n46)), (a_14, .inl (cy 3, 3, .inl g65))] H) (hD : va_D A [(a_0, .inr (12, [.int 0, .ref a_1, .ref a_2, .ref a_3, .ref a_4, .ref a_5, .int i_2, .int i_3, .int i_4, .int i_5, .int i_6, .long j_0, .int i_7, .int i_8, .int i_9, .int i_10, .ref a_6, .ref a_7, .ref a_8, .ref a_9, .ref a_10, .ref a_11, .ref a_12, .ref a_13, .ref a_14, .ref a_15, .ref a_16, .ref a_17, .ref a_18, .int i_11, .int i_12, .int i_13, .int i_14, .int i_15, .int i_16, .ref a_19, .int i_17, .ref a_20])), (a_6, .inl (cy 1, 5, .inl (mm_g [i_18, i_19, i_18, i_21, i_22]))), (a_7, .inl (cy 1, 30, .inl (mm_g [i_23, i_24, i_25, i_26, i_27, i_28, i_29, i_30, i_31, i_32, i_33, i_34, i_23, i_24, i_25, i_26, i_27, i_28, i_41, i_42, i_43, i_44, i_45, i_46, i_47, i_48, i_49, i_50, i_51, i_52]))), (a_8, .inl (cy 1, 90, .inl n41)), (a_9, .inl (cy 1, 15, .inl n42)), (a_10, .inl (cy 1, 1050, .inl n43)), (a_11, .inl (cy 1, 30, .inl n44)), (a_12, .inl (cy 1, 240, .inl n45)), (a_13, .inl (cy 1, 450, .inl n46)), (a_14, .inl (cy 3, 3, .inl g65))]) hS
        have rg65 : mm_ar g65 0 1 := by rw [eg65]; exact mm_ar_upd (mm_ar_wk h41 (by decide)) (mm_nz1 1) _
        refine lv_iconst (v := 0) hx hb dX12_image_35 (by decide) ?_
        subst hAe
        rw [hQ]
        exact W.iret (v := 0) hx hb hr (fun t ht hW => ⟨⟨0, (i_19, i_18, i_21, i_29, i_30, i_31, i_32, i_33, i_34, i_23, i_24, i_25, i_26, i_27, i_28, i_41, i_42, i_43, i_44, i_45, i_46, n41, n42, n43, n44, n45, n46, g65), rfl, ⟨h1, h0, h3, h11, h12, h13, h14, h15, h16, h5, h6, h7, h8, h9, h10, h23, h24, h25, h26, h27, h28, w47, w48, w49, w50, w51, w52, rg65, w53, w54, w55, w56, w57, w58, h49, w59, w60, w61, h45, w62, w63, w64, h57, (mm_wk mm_k0 (by decide))⟩, by rw [ht]; exact hP, hK.warm hW, hD⟩, hS.F ht⟩) hS.2.2 dX12_image_36
      · refine lv_aload_n hx hb dX12_image_20 rfl (lv_at hl 0 rfl) ?_
        refine lv_iconst (v := 0) hx hb dX12_image_21 (by decide) ?_
        refine lv_iconst (v := 1) hx hb dX12_image_22 (by decide) ?_
        refine lv_iload_n hx hb dX12_image_23 rfl (lv_at hl 1 rfl) ?_
        refine lv_iadd hx hb dX12_image_24 ?_
        refine lv_topi (fun v66 ev66 => ?_)
        obtain rfl : v66 = 3 := ev66.trans (by decide)
        refine mm_finv (va_runV (As := [.int 0, .int 3]) (rest := []) ⟨hx, hb, hml, hown, hts⟩ (M349_X12_copyBook l G cy H.size a_0 0 a_1 a_2 a_3 a_4 a_5 i_2 i_3 i_4 i_5 i_6 j_0 i_7 i_8 i_9 i_10 a_6 a_7 a_8 a_9 a_10 a_11 a_12 a_13 a_14 a_15 a_16 a_17 a_18 i_11 i_12 i_13 i_14 i_15 i_16 a_19 i_17 a_20 i_18 i_19 i_20 i_21 i_22 i_23 i_24 i_25 i_26 i_27 i_28 i_29 i_30 i_31 i_32 i_33 i_34 i_35 i_36 i_37 i_38 i_39 i_40 i_41 i_42 i_43 i_44 i_45 i_46 i_47 i_48 i_49 i_50 i_51 i_52 f_0 f_1 f_2 f_3 f_4 f_5 h0 h1 h2 h3 h4 h5 h6 h7 h8 h9 h10 h11 h12 h13 h14 h15 h16 h17 h18 h19 h20 h21 h22 h23 h24 h25 h26 h27 h28 h29 h30 h31 h32 h33 h34 h35 h36 h37 h38 h39 h40 h42 h43 h44 h45 h46 h47 h48 h49 h50 h51 h52 h53 h54 h55 h56 h57) (cwV 2 hts (mm_gV mm_w553 mm_w554 mm_w555 mm_w5 mm_w556) rfl rfl rfl hd_X12_copyBook ⟨by rw [hRf]; exact Nat.le_of_ble_eq_true rfl, by rw [hRl]; exact Nat.le_of_ble_eq_true rfl⟩) (mm_preV hK hZ hS hA hP hD [0, 1, 2, 3, 4, 5, 6, 7, 8] rfl rfl 0 rfl rfl rfl) rfl rfl hl.1 rfl (lv_room (Nat.le_of_ble_eq_true rfl)) dX12_image_25 ⟨by rw [hRc]; exact Nat.le_of_ble_eq_true rfl, by rw [hRs]; exact Nat.le_of_ble_eq_true rfl⟩) hP hD hS hA (fun u : (Nat → Int32) × (Nat → Int32) × (Nat → Int32) × (Nat → Int32) × (Nat → Int32) × (Nat → Int32) => [(a_0, .inr (12, [.int 0, .ref a_1, .ref a_2, .ref a_3, .ref a_4, .ref a_5, .int i_2, .int i_3, .int i_4, .int i_5, .int i_6, .long j_0, .int i_7, .int i_8, .int i_9, .int i_10, .ref a_6, .ref a_7, .ref a_8, .ref a_9, .ref a_10, .ref a_11, .ref a_12, .ref a_13, .ref a_14, .ref a_15, .ref a_16, .ref a_17, .ref a_18, .int i_11, .int i_12, .int i_13, .int i_14, .int i_15, .int i_16, .ref a_19, .int i_17, .ref a_20])), (a_6, .inl (cy 1, 5, .inl (mm_g [i_18, i_19, i_20, i_18, i_22]))), (a_7, .inl (cy 1, 30, .inl (mm_g [i_23, i_24, i_25, i_26, i_27, i_28, i_29, i_30, i_31, i_32, i_33, i_34, i_35, i_36, i_37, i_38, i_39, i_40, i_23, i_24, i_25, i_26, i_27, i_28, i_47, i_48, i_49, i_50, i_51, i_52]))), (a_8, .inl (cy 1, 90, .inl u.1)), (a_9, .inl (cy 1, 15, .inl u.2.1)), (a_10, .inl (cy 1, 1050, .inl u.2.2.1)), (a_11, .inl (cy 1, 30, .inl u.2.2.2.1)), (a_12, .inl (cy 1, 240, .inl u.2.2.2.2.1)), (a_13, .inl (cy 1, 450, .inl u.2.2.2.2.2)), (a_14, .inl (cy 3, 3, .inl f_6))]) [0, 1, 2, 3, 4, 5, 6, 7, 8] [9] (n := 10) (fun _ => rfl) (by decide +kernel) (by decide +kernel) rfl (fun _ => rfl) (wr := [(a_14, .inl (cy 3, 3, .inl f_6))]) rfl (fun _ => rfl) (fun _ => @rfl _ ([a_0, a_6, a_7, a_8, a_9, a_10, a_11, a_12, a_13] : List Nat)) ?_
        clear hP hD hS
        clear H locs
        intro u
        obtain ⟨n67, n68, n69, n70, n71, n72⟩ := u
        intro H locs hw (hP : va_P G vwCl [(a_0, .inr (12, [.int 0, .ref a_1, .ref a_2, .ref a_3, .ref a_4, .ref a_5, .int i_2, .int i_3, .int i_4, .int i_5, .int i_6, .long j_0, .int i_7, .int i_8, .int i_9, .int i_10, .ref a_6, .ref a_7, .ref a_8, .ref a_9, .ref a_10, .ref a_11, .ref a_12, .ref a_13, .ref a_14, .ref a_15, .ref a_16, .ref a_17, .ref a_18, .int i_11, .int i_12, .int i_13, .int i_14, .int i_15, .int i_16, .ref a_19, .int i_17, .ref a_20])), (a_6, .inl (cy 1, 5, .inl (mm_g [i_18, i_19, i_20, i_18, i_22]))), (a_7, .inl (cy 1, 30, .inl (mm_g [i_23, i_24, i_25, i_26, i_27, i_28, i_29, i_30, i_31, i_32, i_33, i_34, i_35, i_36, i_37, i_38, i_39, i_40, i_23, i_24, i_25, i_26, i_27, i_28, i_47, i_48, i_49, i_50, i_51, i_52]))), (a_8, .inl (cy 1, 90, .inl n67)), (a_9, .inl (cy 1, 15, .inl n68)), (a_10, .inl (cy 1, 1050, .inl n69)), (a_11, .inl (cy 1, 30, .inl n70)), (a_12, .inl (cy 1, 240, .inl n71)), (a_13, .inl (cy 1, 450, .inl n72)), (a_14, .inl (cy 3, 3, .inl f_6))] H) (hD : va_D A [(a_0, .inr (12, [.int 0, .ref a_1, .ref a_2, .ref a_3, .ref a_4, .ref a_5, .int i_2, .int i_3, .int i_4, .int i_5, .int i_6, .long j_0, .int i_7, .int i_8, .int i_9, .int i_10, .ref a_6, .ref a_7, .ref a_8, .ref a_9, .ref a_10, .ref a_11, .ref a_12, .ref a_13, .ref a_14, .ref a_15, .ref a_16, .ref a_17, .ref a_18, .int i_11, .int i_12, .int i_13, .int i_14, .int i_15, .int i_16, .ref a_19, .int i_17, .ref a_20])), (a_6, .inl (cy 1, 5, .inl (mm_g [i_18, i_19, i_20, i_18, i_22]))), (a_7, .inl (cy 1, 30, .inl (mm_g [i_23, i_24, i_25, i_26, i_27, i_28, i_29, i_30, i_31, i_32, i_33, i_34, i_35, i_36, i_37, i_38, i_39, i_40, i_23, i_24, i_25, i_26, i_27, i_28, i_47, i_48, i_49, i_50, i_51, i_52]))), (a_8, .inl (cy 1, 90, .inl n67)), (a_9, .inl (cy 1, 15, .inl n68)), (a_10, .inl (cy 1, 1050, .inl n69)), (a_11, .inl (cy 1, 30, .inl n70)), (a_12, .inl (cy 1, 240, .inl n71)), (a_13, .inl (cy 1, 450, .inl n72)), (a_14, .inl (cy 3, 3, .inl f_6))]) hS
        obtain ⟨w73, w74, w75, w76, w77, w78, w79, w80, w81, w82, w83, w84, w85, w86, w87, w88, w89, w90⟩ := hw
        replace w79 : mm_rls n68 n69 0 i_25 i_26 := w79
        replace w80 : mm_txs n70 n71 0 i_25 i_27 := w80
        replace w81 : mm_acs n72 0 i_25 i_26 i_28 := w81
        replace w82 : mm_rls n68 n69 1 i_31 i_32 := w82
        replace w83 : mm_txs n70 n71 1 i_31 i_33 := w83
        replace w84 : mm_acs n72 1 i_31 i_32 i_34 := w84
        replace w85 : mm_rls n68 n69 2 i_37 i_38 := w85
        replace w86 : mm_txs n70 n71 2 i_37 i_39 := w86
        replace w87 : mm_acs n72 2 i_37 i_38 i_40 := w87
        replace w88 : mm_rls n68 n69 3 i_25 i_26 := w88
        replace w89 : mm_txs n70 n71 3 i_25 i_27 := w89
        replace w90 : mm_acs n72 3 i_25 i_26 i_28 := w90
        refine lv_aload_n hx hb dX12_image_28 rfl (lv_at hl 0 rfl) ?_
        refine va_get (D := G) (ci := 12) (v := .ref a_14) (C := RX12) (T := TX12) (N := 38) hx hb hts (mm_i inlX12) hown hK.1 hP 0 rfl rfl 24 (by decide) (mm_h hts mm_w156) (fun _ h9 => h9) rfl dX12_image_29 ?_
        refine lv_iload_n hx hb dX12_image_32 rfl (lv_at hl 1 rfl) ?_
        refine lv_iconst (v := 1) hx hb dX12_image_33 (by decide) ?_
        refine va_zast hx hb hK.1 hP hD hS 9 3 rfl rfl (mm_in mm_k2 (by decide)) dX12_image_34 ?_
        clear hP hD hS
        clear H locs
        obtain ⟨g91, eg91⟩ : ∃ z : Nat → Int32, z = upd f_6 (2 : Int32).toNatClampNeg (vp_nar .boolean 1) := ⟨_, rfl⟩
        rw [← eg91]
        intro H locs (hP : va_P G vwCl [(a_0, .inr (12, [.int 0, .ref a_1, .ref a_2, .ref a_3, .ref a_4, .ref a_5, .int i_2, .int i_3, .int i_4, .int i_5, .int i_6, .long j_0, .int i_7, .int i_8, .int i_9, .int i_10, .ref a_6, .ref a_7, .ref a_8, .ref a_9, .ref a_10, .ref a_11, .ref a_12, .ref a_13, .ref a_14, .ref a_15, .ref a_16, .ref a_17, .ref a_18, .int i_11, .int i_12, .int i_13, .int i_14, .int i_15, .int i_16, .ref a_19, .int i_17, .ref a_20])), (a_6, .inl (cy 1, 5, .inl (mm_g [i_18, i_19, i_20, i_18, i_22]))), (a_7, .inl (cy 1, 30, .inl (mm_g [i_23, i_24, i_25, i_26, i_27, i_28, i_29, i_30, i_31, i_32, i_33, i_34, i_35, i_36, i_37, i_38, i_39, i_40, i_23, i_24, i_25, i_26, i_27, i_28, i_47, i_48, i_49, i_50, i_51, i_52]))), (a_8, .inl (cy 1, 90, .inl n67)), (a_9, .inl (cy 1, 15, .inl n68)), (a_10, .inl (cy 1, 1050, .inl n69)), (a_11, .inl (cy 1, 30, .inl n70)), (a_12, .inl (cy 1, 240, .inl n71)), (a_13, .inl (cy 1, 450, .inl n72)), (a_14, .inl (cy 3, 3, .inl g91))] H) (hD : va_D A [(a_0, .inr (12, [.int 0, .ref a_1, .ref a_2, .ref a_3, .ref a_4, .ref a_5, .int i_2, .int i_3, .int i_4, .int i_5, .int i_6, .long j_0, .int i_7, .int i_8, .int i_9, .int i_10, .ref a_6, .ref a_7, .ref a_8, .ref a_9, .ref a_10, .ref a_11, .ref a_12, .ref a_13, .ref a_14, .ref a_15, .ref a_16, .ref a_17, .ref a_18, .int i_11, .int i_12, .int i_13, .int i_14, .int i_15, .int i_16, .ref a_19, .int i_17, .ref a_20])), (a_6, .inl (cy 1, 5, .inl (mm_g [i_18, i_19, i_20, i_18, i_22]))), (a_7, .inl (cy 1, 30, .inl (mm_g [i_23, i_24, i_25, i_26, i_27, i_28, i_29, i_30, i_31, i_32, i_33, i_34, i_35, i_36, i_37, i_38, i_39, i_40, i_23, i_24, i_25, i_26, i_27, i_28, i_47, i_48, i_49, i_50, i_51, i_52]))), (a_8, .inl (cy 1, 90, .inl n67)), (a_9, .inl (cy 1, 15, .inl n68)), (a_10, .inl (cy 1, 1050, .inl n69)), (a_11, .inl (cy 1, 30, .inl n70)), (a_12, .inl (cy 1, 240, .inl n71)), (a_13, .inl (cy 1, 450, .inl n72)), (a_14, .inl (cy 3, 3, .inl g91))]) hS
        have rg91 : mm_ar g91 0 1 := by rw [eg91]; exact mm_ar_upd (mm_ar_wk h41 (by decide)) (mm_nz1 1) _
        refine lv_iconst (v := 0) hx hb dX12_image_35 (by decide) ?_
        subst hAe
        rw [hQ]
        exact W.iret (v := 0) hx hb hr (fun t ht hW => ⟨⟨0, (i_19, i_20, i_18, i_29, i_30, i_31, i_32, i_33, i_34, i_35, i_36, i_37, i_38, i_39, i_40, i_23, i_24, i_25, i_26, i_27, i_28, n67, n68, n69, n70, n71, n72, g91), rfl, ⟨h1, h2, h0, h11, h12, h13, h14, h15, h16, h17, h18, h19, h20, h21, h22, h5, h6, h7, h8, h9, h10, w73, w74, w75, w76, w77, w78, rg91, w79, w80, w81, w82, w83, w84, h49, w85, w86, w87, h53, w88, w89, w90, h45, (mm_wk mm_k0 (by decide))⟩, by rw [ht]; exact hP, hK.warm hW, hD⟩, hS.F ht⟩) hS.2.2 dX12_image_36
    · exact mm_eqN c13.symm mm_k0 mm_k1 (by decide)

set_option maxHeartbeats 4000000 in
set_option maxRecDepth 100000 in
theorem M351_X12_copyRow (l : Launch) (G : va_G) (cy : Nat → ClassId) (sz : Nat) (a_0 : Nat) (i_0 : Int32) (i_1 : Int32) (i_2 : Int32) (i_3 : Int32) (i_4 : Int32) (h0 : mm_rg i_0 0 601) (h1 : mm_rg i_1 0 601) (h2 : mm_rg i_2 0 601) (h3 : mm_rg i_3 0 601) (h4 : mm_rg i_4 0 601)  : mm_CV l yX12_copyRow (mm_ws yX12_copyRow cX12_copyRow 5 (none)) ({ frames := 0, cells := 0, slots := 0, locals := 0 } : Room) G cy sz [(a_0, .inl (cy 1, 5, .inl (mm_g [i_0, i_1, i_2, i_3, i_4])))] [.ref a_0, .int 1, .int 1, .int 0] (fun u : Unit => [(a_0, .inl (cy 1, 5, .inl (mm_g [i_1, i_1, i_2, i_3, i_4])))]) (fun u : Unit => True) 0 0 := by
  refine mm_begin (lv := [(0, .ref a_0), (1, .int 1), (2, .int 1), (3, .int 0)]) (by decide) (Nat.le_of_ble_eq_true rfl) rfl ?_
  intro p e s m below meth c A ls R args Q H locs hRe hQ hAe hx hb hr hlocks hml hown hnm hts hsz hA hS hP hK hD hZ hl
  have hRf : R.frames = 0 := by rw [hRe]
  have hRl : R.locals = 0 := by rw [hRe]
  have hRc : R.cells = 0 := by rw [hRe]
  have hRs : R.slots = 0 := by rw [hRe]
  refine lv_iconst (v := 0) hx hb dX12_copyRow_0 (by decide) ?_
  refine lv_istore (lv' := [(4, .int 0), (0, .ref a_0), (1, .int 1), (2, .int 1), (3, .int 0)]) hx hb dX12_copyRow_1 hl (by decide) rfl ?_
  clear hl
  clear ls
  intro ls hl
  refine lv_iload hx hb dX12_copyRow_3 (lv_at hl 0 rfl) ?_
  refine lv_iload_n hx hb dX12_copyRow_5 rfl (lv_at hl 2 rfl) ?_
  refine lv_icmp_ge (tgt := 31) hx hb dX12_copyRow_6 (by decide) (fun c1 => ?_) (fun c1 => ?_)
  · have q2 := mm_leL (mm_le c1) mm_k1 mm_k0
    exact mm_no q2 (by decide)
  · refine lv_aload_n hx hb dX12_copyRow_9 rfl (lv_at hl 1 rfl) ?_
    refine lv_iload_n hx hb dX12_copyRow_10 rfl (lv_at hl 2 rfl) ?_
    refine lv_iload_n hx hb dX12_copyRow_11 rfl (lv_at hl 4 rfl) ?_
    refine lv_imul hx hb dX12_copyRow_12 ?_
    refine lv_topi (fun v3 ev3 => ?_)
    obtain rfl : v3 = 0 := ev3.trans (by decide)
    refine lv_iload hx hb dX12_copyRow_13 (lv_at hl 0 rfl) ?_
    refine lv_iadd hx hb dX12_copyRow_15 ?_
    refine lv_topi (fun v4 ev4 => ?_)
    obtain rfl : v4 = 0 := ev4.trans (by decide)
    refine lv_aload_n hx hb dX12_copyRow_16 rfl (lv_at hl 1 rfl) ?_
    refine lv_iload_n hx hb dX12_copyRow_17 rfl (lv_at hl 2 rfl) ?_
    refine lv_iload_n hx hb dX12_copyRow_18 rfl (lv_at hl 3 rfl) ?_
    refine lv_imul hx hb dX12_copyRow_19 ?_
    refine lv_topi (fun v5 ev5 => ?_)
    obtain rfl : v5 = 1 := ev5.trans (by decide)
    refine lv_iload hx hb dX12_copyRow_20 (lv_at hl 0 rfl) ?_
    refine lv_iadd hx hb dX12_copyRow_22 ?_
    refine lv_topi (fun v6 ev6 => ?_)
    obtain rfl : v6 = 1 := ev6.trans (by decide)
    refine va_iald hx hb hK.1 hP 0 1 rfl rfl (mm_in mm_k1 (by decide)) dX12_copyRow_23 ?_
    rw [show (mm_g [i_0, i_1, i_2, i_3, i_4]) (1 : Int32).toNatClampNeg = i_1 from mm_ge 1 (by decide) rfl]
    refine va_iast hx hb hK.1 hP hD hS 0 1 rfl rfl (mm_in mm_k0 (by decide)) dX12_copyRow_24 ?_
    clear hP hD hS
    clear H locs
    rw [show upd (mm_g [i_0, i_1, i_2, i_3, i_4]) (0 : Int32).toNatClampNeg i_1 = (mm_g [i_1, i_1, i_2, i_3, i_4]) from mm_gs2 0 5 (by decide) rfl rfl rfl]
    intro H locs (hP : va_P G vwCl [(a_0, .inl (cy 1, 5, .inl (mm_g [i_1, i_1, i_2, i_3, i_4])))] H) (hD : va_D A [(a_0, .inl (cy 1, 5, .inl (mm_g [i_1, i_1, i_2, i_3, i_4])))]) hS
    refine lv_iinc (v := 1) (lv' := [(4, .int 1), (0, .ref a_0), (1, .int 1), (2, .int 1), (3, .int 0)]) hx hb dX12_copyRow_25 hl (k := 0) rfl (by decide) (by decide) rfl ?_
    clear hl
    clear ls
    intro ls hl
    refine lv_goto (tgt := 3) hx hb dX12_copyRow_28 (by decide) ?_
    refine lv_iload hx hb dX12_copyRow_3 (lv_at hl 0 rfl) ?_
    refine lv_iload_n hx hb dX12_copyRow_5 rfl (lv_at hl 2 rfl) ?_
    refine lv_icmp_ge (tgt := 31) hx hb dX12_copyRow_6 (by decide) (fun c7 => ?_) (fun c7 => ?_)
    · subst hAe
      rw [hQ]
      exact W.vret hx hb hr (fun t ht hW => ⟨⟨(), rfl, trivial, by rw [ht]; exact hP, hK.warm hW, hD⟩, hS.F ht⟩) hS.2.2 dX12_copyRow_31
    · have q8 := mm_ltL (h := 0) (mm_nle c7) mm_k1 mm_k1 (by decide)
      exact mm_no q8 (by decide)

set_option maxHeartbeats 4000000 in
set_option maxRecDepth 100000 in
theorem M352_X12_copyRow (l : Launch) (G : va_G) (cy : Nat → ClassId) (sz : Nat) (a_0 : Nat) (i_0 : Int32) (i_1 : Int32) (i_2 : Int32) (i_3 : Int32) (i_4 : Int32) (i_5 : Int32) (i_6 : Int32) (i_7 : Int32) (i_8 : Int32) (i_9 : Int32) (i_10 : Int32) (i_11 : Int32) (i_12 : Int32) (i_13 : Int32) (i_14 : Int32) (i_15 : Int32) (i_16 : Int32) (i_17 : Int32) (i_18 : Int32) (i_19 : Int32) (i_20 : Int32) (i_21 : Int32) (i_22 : Int32) (i_23 : Int32) (i_24 : Int32) (i_25 : Int32) (i_26 : Int32) (i_27 : Int32) (i_28 : Int32) (i_29 : Int32) (h0 : mm_rg i_0 0 10) (h1 : mm_rg i_1 0 99) (h2 : mm_rg i_2 0 9) (h3 : mm_rg i_3 0 3) (h4 : mm_rg i_4 0 6) (h5 : mm_rg i_5 0 30) (h6 : mm_rg i_6 0 10) (h7 : mm_rg i_7 0 99) (h8 : mm_rg i_8 0 9) (h9 : mm_rg i_9 0 3) (h10 : mm_rg i_10 0 6) (h11 : mm_rg i_11 0 30) (h12 : mm_rg i_12 0 10) (h13 : mm_rg i_13 0 99) (h14 : mm_rg i_14 0 9) (h15 : mm_rg i_15 0 3) (h16 : mm_rg i_16 0 6) (h17 : mm_rg i_17 0 30) (h18 : mm_rg i_18 0 10) (h19 : mm_rg i_19 0 99) (h20 : mm_rg i_20 0 9) (h21 : mm_rg i_21 0 3) (h22 : mm_rg i_22 0 6) (h23 : mm_rg i_23 0 30) (h24 : mm_rg i_24 0 10) (h25 : mm_rg i_25 0 99) (h26 : mm_rg i_26 0 9) (h27 : mm_rg i_27 0 3) (h28 : mm_rg i_28 0 6) (h29 : mm_rg i_29 0 30)  : mm_CV l yX12_copyRow (mm_ws yX12_copyRow cX12_copyRow 5 (none)) ({ frames := 0, cells := 0, slots := 0, locals := 0 } : Room) G cy sz [(a_0, .inl (cy 1, 30, .inl (mm_g [i_0, i_1, i_2, i_3, i_4, i_5, i_6, i_7, i_8, i_9, i_10, i_11, i_12, i_13, i_14, i_15, i_16, i_17, i_18, i_19, i_20, i_21, i_22, i_23, i_24, i_25, i_26, i_27, i_28, i_29])))] [.ref a_0, .int 6, .int 1, .int 0] (fun u : Unit => [(a_0, .inl (cy 1, 30, .inl (mm_g [i_6, i_7, i_8, i_9, i_10, i_11, i_6, i_7, i_8, i_9, i_10, i_11, i_12, i_13, i_14, i_15, i_16, i_17, i_18, i_19, i_20, i_21, i_22, i_23, i_24, i_25, i_26, i_27, i_28, i_29])))]) (fun u : Unit => True) 0 0 := by
  refine mm_begin (lv := [(0, .ref a_0), (1, .int 6), (2, .int 1), (3, .int 0)]) (by decide) (Nat.le_of_ble_eq_true rfl) rfl ?_
  intro p e s m below meth c A ls R args Q H locs hRe hQ hAe hx hb hr hlocks hml hown hnm hts hsz hA hS hP hK hD hZ hl
  have hRf : R.frames = 0 := by rw [hRe]
  have hRl : R.locals = 0 := by rw [hRe]
  have hRc : R.cells = 0 := by rw [hRe]
  have hRs : R.slots = 0 := by rw [hRe]
  refine lv_iconst (v := 0) hx hb dX12_copyRow_0 (by decide) ?_
  refine lv_istore (lv' := [(4, .int 0), (0, .ref a_0), (1, .int 6), (2, .int 1), (3, .int 0)]) hx hb dX12_copyRow_1 hl (by decide) rfl ?_
  clear hl
  clear ls
  intro ls hl
  refine lv_iload hx hb dX12_copyRow_3 (lv_at hl 0 rfl) ?_
  refine lv_iload_n hx hb dX12_copyRow_5 rfl (lv_at hl 2 rfl) ?_
  refine lv_icmp_ge (tgt := 31) hx hb dX12_copyRow_6 (by decide) (fun c1 => ?_) (fun c1 => ?_)
  · have q2 := mm_leL (mm_le c1) mm_k6 mm_k0
    exact mm_no q2 (by decide)
  · refine lv_aload_n hx hb dX12_copyRow_9 rfl (lv_at hl 1 rfl) ?_
    refine lv_iload_n hx hb dX12_copyRow_10 rfl (lv_at hl 2 rfl) ?_
    refine lv_iload_n hx hb dX12_copyRow_11 rfl (lv_at hl 4 rfl) ?_
    refine lv_imul hx hb dX12_copyRow_12 ?_
    refine lv_topi (fun v3 ev3 => ?_)
    obtain rfl : v3 = 0 := ev3.trans (by decide)
    refine lv_iload hx hb dX12_copyRow_13 (lv_at hl 0 rfl) ?_
    refine lv_iadd hx hb dX12_copyRow_15 ?_
    refine lv_topi (fun v4 ev4 => ?_)
    obtain rfl : v4 = 0 := ev4.trans (by decide)
    refine lv_aload_n hx hb dX12_copyRow_16 rfl (lv_at hl 1 rfl) ?_
    refine lv_iload_n hx hb dX12_copyRow_17 rfl (lv_at hl 2 rfl) ?_
    refine lv_iload_n hx hb dX12_copyRow_18 rfl (lv_at hl 3 rfl) ?_
    refine lv_imul hx hb dX12_copyRow_19 ?_
    refine lv_topi (fun v5 ev5 => ?_)
    obtain rfl : v5 = 6 := ev5.trans (by decide)
    refine lv_iload hx hb dX12_copyRow_20 (lv_at hl 0 rfl) ?_
    refine lv_iadd hx hb dX12_copyRow_22 ?_
    refine lv_topi (fun v6 ev6 => ?_)
    obtain rfl : v6 = 6 := ev6.trans (by decide)
    refine va_iald hx hb hK.1 hP 0 1 rfl rfl (mm_in mm_k6 (by decide)) dX12_copyRow_23 ?_
    rw [show (mm_g [i_0, i_1, i_2, i_3, i_4, i_5, i_6, i_7, i_8, i_9, i_10, i_11, i_12, i_13, i_14, i_15, i_16, i_17, i_18, i_19, i_20, i_21, i_22, i_23, i_24, i_25, i_26, i_27, i_28, i_29]) (6 : Int32).toNatClampNeg = i_6 from mm_ge 6 (by decide) rfl]
    refine va_iast hx hb hK.1 hP hD hS 0 1 rfl rfl (mm_in mm_k0 (by decide)) dX12_copyRow_24 ?_
    clear hP hD hS
    clear H locs
    rw [show upd (mm_g [i_0, i_1, i_2, i_3, i_4, i_5, i_6, i_7, i_8, i_9, i_10, i_11, i_12, i_13, i_14, i_15, i_16, i_17, i_18, i_19, i_20, i_21, i_22, i_23, i_24, i_25, i_26, i_27, i_28, i_29]) (0 : Int32).toNatClampNeg i_6 = (mm_g [i_6, i_1, i_2, i_3, i_4, i_5, i_6, i_7, i_8, i_9, i_10, i_11, i_12, i_13, i_14, i_15, i_16, i_17, i_18, i_19, i_20, i_21, i_22, i_23, i_24, i_25, i_26, i_27, i_28, i_29]) from mm_gs2 0 30 (by decide) rfl rfl rfl]
    intro H locs (hP : va_P G vwCl [(a_0, .inl (cy 1, 30, .inl (mm_g [i_6, i_1, i_2, i_3, i_4, i_5, i_6, i_7, i_8, i_9, i_10, i_11, i_12, i_13, i_14, i_15, i_16, i_17, i_18, i_19, i_20, i_21, i_22, i_23, i_24, i_25, i_26, i_27, i_28, i_29])))] H) (hD : va_D A [(a_0, .inl (cy 1, 30, .inl (mm_g [i_6, i_1, i_2, i_3, i_4, i_5, i_6, i_7, i_8, i_9, i_10, i_11, i_12, i_13, i_14, i_15, i_16, i_17, i_18, i_19, i_20, i_21, i_22, i_23, i_24, i_25, i_26, i_27, i_28, i_29])))]) hS
    refine lv_iinc (v := 1) (lv' := [(4, .int 1), (0, .ref a_0), (1, .int 6), (2, .int 1), (3, .int 0)]) hx hb dX12_copyRow_25 hl (k := 0) rfl (by decide) (by decide) rfl ?_
    clear hl
    clear ls
    intro ls hl
    refine lv_goto (tgt := 3) hx hb dX12_copyRow_28 (by decide) ?_
    refine lv_iload hx hb dX12_copyRow_3 (lv_at hl 0 rfl) ?_
    refine lv_iload_n hx hb dX12_copyRow_5 rfl (lv_at hl 2 rfl) ?_
    refine lv_icmp_ge (tgt := 31) hx hb dX12_copyRow_6 (by decide) (fun c7 => ?_) (fun c7 => ?_)
    · have q8 := mm_leL (mm_le c7) mm_k6 mm_k1
      exact mm_no q8 (by decide)
    · refine lv_aload_n hx hb dX12_copyRow_9 rfl (lv_at hl 1 rfl) ?_
      refine lv_iload_n hx hb dX12_copyRow_10 rfl (lv_at hl 2 rfl) ?_
      refine lv_iload_n hx hb dX12_copyRow_11 rfl (lv_at hl 4 rfl) ?_
      refine lv_imul hx hb dX12_copyRow_12 ?_
      refine lv_topi (fun v9 ev9 => ?_)
      obtain rfl : v9 = 0 := ev9.trans (by decide)
      refine lv_iload hx hb dX12_copyRow_13 (lv_at hl 0 rfl) ?_
      refine lv_iadd hx hb dX12_copyRow_15 ?_
      refine lv_topi (fun v10 ev10 => ?_)
      obtain rfl : v10 = 1 := ev10.trans (by decide)
      refine lv_aload_n hx hb dX12_copyRow_16 rfl (lv_at hl 1 rfl) ?_
      refine lv_iload_n hx hb dX12_copyRow_17 rfl (lv_at hl 2 rfl) ?_
      refine lv_iload_n hx hb dX12_copyRow_18 rfl (lv_at hl 3 rfl) ?_
      refine lv_imul hx hb dX12_copyRow_19 ?_
      refine lv_topi (fun v11 ev11 => ?_)
      obtain rfl : v11 = 6 := ev11.trans (by decide)
      refine lv_iload hx hb dX12_copyRow_20 (lv_at hl 0 rfl) ?_
      refine lv_iadd hx hb dX12_copyRow_22 ?_
      refine lv_topi (fun v12 ev12 => ?_)
      obtain rfl : v12 = 7 := ev12.trans (by decide)
      refine va_iald hx hb hK.1 hP 0 1 rfl rfl (mm_in mm_k7 (by decide)) dX12_copyRow_23 ?_
      rw [show (mm_g [i_6, i_1, i_2, i_3, i_4, i_5, i_6, i_7, i_8, i_9, i_10, i_11, i_12, i_13, i_14, i_15, i_16, i_17, i_18, i_19, i_20, i_21, i_22, i_23, i_24, i_25, i_26, i_27, i_28, i_29]) (7 : Int32).toNatClampNeg = i_7 from mm_ge 7 (by decide) rfl]
      refine va_iast hx hb hK.1 hP hD hS 0 1 rfl rfl (mm_in mm_k1 (by decide)) dX12_copyRow_24 ?_
      clear hP hD hS
      clear H locs
      rw [show upd (mm_g [i_6, i_1, i_2, i_3, i_4, i_5, i_6, i_7, i_8, i_9, i_10, i_11, i_12, i_13, i_14, i_15, i_16, i_17, i_18, i_19, i_20, i_21, i_22, i_23, i_24, i_25, i_26, i_27, i_28, i_29]) (1 : Int32).toNatClampNeg i_7 = (mm_g [i_6, i_7, i_2, i_3, i_4, i_5, i_6, i_7, i_8, i_9, i_10, i_11, i_12, i_13, i_14, i_15, i_16, i_17, i_18, i_19, i_20, i_21, i_22, i_23, i_24, i_25, i_26, i_27, i_28, i_29]) from mm_gs2 1 30 (by decide) rfl rfl rfl]
      intro H locs (hP : va_P G vwCl [(a_0, .inl (cy 1, 30, .inl (mm_g [i_6, i_7, i_2, i_3, i_4, i_5, i_6, i_7, i_8, i_9, i_10, i_11, i_12, i_13, i_14, i_15, i_16, i_17, i_18, i_19, i_20, i_21, i_22, i_23, i_24, i_25, i_26, i_27, i_28, i_29])))] H) (hD : va_D A [(a_0, .inl (cy 1, 30, .inl (mm_g [i_6, i_7, i_2, i_3, i_4, i_5, i_6, i_7, i_8, i_9, i_10, i_11, i_12, i_13, i_14, i_15, i_16, i_17, i_18, i_19, i_20, i_21, i_22, i_23, i_24, i_25, i_26, i_27, i_28, i_29])))]) hS
      refine lv_iinc (v := 2) (lv' := [(4, .int 2), (0, .ref a_0), (1, .int 6), (2, .int 1), (3, .int 0)]) hx hb dX12_copyRow_25 hl (k := 0) rfl (by decide) (by decide) rfl ?_
      clear hl
      clear ls
      intro ls hl
      refine lv_goto (tgt := 3) hx hb dX12_copyRow_28 (by decide) ?_
      refine lv_iload hx hb dX12_copyRow_3 (lv_at hl 0 rfl) ?_
      refine lv_iload_n hx hb dX12_copyRow_5 rfl (lv_at hl 2 rfl) ?_
      refine lv_icmp_ge (tgt := 31) hx hb dX12_copyRow_6 (by decide) (fun c13 => ?_) (fun c13 => ?_)
      · have q14 := mm_leL (mm_le c13) mm_k6 mm_k2
        exact mm_no q14 (by decide)
      · refine lv_aload_n hx hb dX12_copyRow_9 rfl (lv_at hl 1 rfl) ?_
        refine lv_iload_n hx hb dX12_copyRow_10 rfl (lv_at hl 2 rfl) ?_
        refine lv_iload_n hx hb dX12_copyRow_11 rfl (lv_at hl 4 rfl) ?_
        refine lv_imul hx hb dX12_copyRow_12 ?_
        refine lv_topi (fun v15 ev15 => ?_)
        obtain rfl : v15 = 0 := ev15.trans (by decide)
        refine lv_iload hx hb dX12_copyRow_13 (lv_at hl 0 rfl) ?_
        refine lv_iadd hx hb dX12_copyRow_15 ?_
        refine lv_topi (fun v16 ev16 => ?_)
        obtain rfl : v16 = 2 := ev16.trans (by decide)
        refine lv_aload_n hx hb dX12_copyRow_16 rfl (lv_at hl 1 rfl) ?_
        refine lv_iload_n hx hb dX12_copyRow_17 rfl (lv_at hl 2 rfl) ?_
        refine lv_iload_n hx hb dX12_copyRow_18 rfl (lv_at hl 3 rfl) ?_
        refine lv_imul hx hb dX12_copyRow_19 ?_
        refine lv_topi (fun v17 ev17 => ?_)
        obtain rfl : v17 = 6 := ev17.trans (by decide)
        refine lv_iload hx hb dX12_copyRow_20 (lv_at hl 0 rfl) ?_
        refine lv_iadd hx hb dX12_copyRow_22 ?_
        refine lv_topi (fun v18 ev18 => ?_)
        obtain rfl : v18 = 8 := ev18.trans (by decide)
        refine va_iald hx hb hK.1 hP 0 1 rfl rfl (mm_in mm_k8 (by decide)) dX12_copyRow_23 ?_
        rw [show (mm_g [i_6, i_7, i_2, i_3, i_4, i_5, i_6, i_7, i_8, i_9, i_10, i_11, i_12, i_13, i_14, i_15, i_16, i_17, i_18, i_19, i_20, i_21, i_22, i_23, i_24, i_25, i_26, i_27, i_28, i_29]) (8 : Int32).toNatClampNeg = i_8 from mm_ge 8 (by decide) rfl]
        refine va_iast hx hb hK.1 hP hD hS 0 1 rfl rfl (mm_in mm_k2 (by decide)) dX12_copyRow_24 ?_
        clear hP hD hS
        clear H locs
        rw [show upd (mm_g [i_6, i_7, i_2, i_3, i_4, i_5, i_6, i_7, i_8, i_9, i_10, i_11, i_12, i_13, i_14, i_15, i_16, i_17, i_18, i_19, i_20, i_21, i_22, i_23, i_24, i_25, i_26, i_27, i_28, i_29]) (2 : Int32).toNatClampNeg i_8 = (mm_g [i_6, i_7, i_8, i_3, i_4, i_5, i_6, i_7, i_8, i_9, i_10, i_11, i_12, i_13, i_14, i_15, i_16, i_17, i_18, i_19, i_20, i_21, i_22, i_23, i_24, i_25, i_26, i_27, i_28, i_29]) from mm_gs2 2 30 (by decide) rfl rfl rfl]
        intro H locs (hP : va_P G vwCl [(a_0, .inl (cy 1, 30, .inl (mm_g [i_6, i_7, i_8, i_3, i_4, i_5, i_6, i_7, i_8, i_9, i_10, i_11, i_12, i_13, i_14, i_15, i_16, i_17, i_18, i_19, i_20, i_21, i_22, i_23, i_24, i_25, i_26, i_27, i_28, i_29])))] H) (hD : va_D A [(a_0, .inl (cy 1, 30, .inl (mm_g [i_6, i_7, i_8, i_3, i_4, i_5, i_6, i_7, i_8, i_9, i_10, i_11, i_12, i_13, i_14, i_15, i_16, i_17, i_18, i_19, i_20, i_21, i_22, i_23, i_24, i_25, i_26, i_27, i_28, i_29])))]) hS
        refine lv_iinc (v := 3) (lv' := [(4, .int 3), (0, .ref a_0), (1, .int 6), (2, .int 1), (3, .int 0)]) hx hb dX12_copyRow_25 hl (k := 0) rfl (by decide) (by decide) rfl ?_
        clear hl
        clear ls
        intro ls hl
        refine lv_goto (tgt := 3) hx hb dX12_copyRow_28 (by decide) ?_
        refine lv_iload hx hb dX12_copyRow_3 (lv_at hl 0 rfl) ?_
        refine lv_iload_n hx hb dX12_copyRow_5 rfl (lv_at hl 2 rfl) ?_
        refine lv_icmp_ge (tgt := 31) hx hb dX12_copyRow_6 (by decide) (fun c19 => ?_) (fun c19 => ?_)
        · have q20 := mm_leL (mm_le c19) mm_k6 mm_k3
          exact mm_no q20 (by decide)
        · refine lv_aload_n hx hb dX12_copyRow_9 rfl (lv_at hl 1 rfl) ?_
          refine lv_iload_n hx hb dX12_copyRow_10 rfl (lv_at hl 2 rfl) ?_
          refine lv_iload_n hx hb dX12_copyRow_11 rfl (lv_at hl 4 rfl) ?_
          refine lv_imul hx hb dX12_copyRow_12 ?_
          refine lv_topi (fun v21 ev21 => ?_)
          obtain rfl : v21 = 0 := ev21.trans (by decide)
          refine lv_iload hx hb dX12_copyRow_13 (lv_at hl 0 rfl) ?_
          refine lv_iadd hx hb dX12_copyRow_15 ?_
          refine lv_topi (fun v22 ev22 => ?_)
          obtain rfl : v22 = 3 := ev22.trans (by decide)
          refine lv_aload_n hx hb dX12_copyRow_16 rfl (lv_at hl 1 rfl) ?_
          refine lv_iload_n hx hb dX12_copyRow_17 rfl (lv_at hl 2 rfl) ?_
          refine lv_iload_n hx hb dX12_copyRow_18 rfl (lv_at hl 3 rfl) ?_
          refine lv_imul hx hb dX12_copyRow_19 ?_
          refine lv_topi (fun v23 ev23 => ?_)
          obtain rfl : v23 = 6 := ev23.trans (by decide)
          refine lv_iload hx hb dX12_copyRow_20 (lv_at hl 0 rfl) ?_
          refine lv_iadd hx hb dX12_copyRow_22 ?_
          refine lv_topi (fun v24 ev24 => ?_)
          obtain rfl : v24 = 9 := ev24.trans (by decide)
          refine va_iald hx hb hK.1 hP 0 1 rfl rfl (mm_in mm_k9 (by decide)) dX12_copyRow_23 ?_
          rw [show (mm_g [i_6, i_7, i_8, i_3, i_4, i_5, i_6, i_7, i_8, i_9, i_10, i_11, i_12, i_13, i_14, i_15, i_16, i_17, i_18, i_19, i_20, i_21, i_22, i_23, i_24, i_25, i_26, i_27, i_28, i_29]) (9 : Int32).toNatClampNeg = i_9 from mm_ge 9 (by decide) rfl]
          refine va_iast hx hb hK.1 hP hD hS 0 1 rfl rfl (mm_in mm_k3 (by decide)) dX12_copyRow_24 ?_
          clear hP hD hS
          clear H locs
          rw [show upd (mm_g [i_6, i_7, i_8, i_3, i_4, i_5, i_6, i_7, i_8, i_9, i_10, i_11, i_12, i_13, i_14, i_15, i_16, i_17, i_18, i_19, i_20, i_21, i_22, i_23, i_24, i_25, i_26, i_27, i_28, i_29]) (3 : Int32).toNatClampNeg i_9 = (mm_g [i_6, i_7, i_8, i_9, i_4, i_5, i_6, i_7, i_8, i_9, i_10, i_11, i_12, i_13, i_14, i_15, i_16, i_17, i_18, i_19, i_20, i_21, i_22, i_23, i_24, i_25, i_26, i_27, i_28, i_29]) from mm_gs2 3 30 (by decide) rfl rfl rfl]
          intro H locs (hP : va_P G vwCl [(a_0, .inl (cy 1, 30, .inl (mm_g [i_6, i_7, i_8, i_9, i_4, i_5, i_6, i_7, i_8, i_9, i_10, i_11, i_12, i_13, i_14, i_15, i_16, i_17, i_18, i_19, i_20, i_21, i_22, i_23, i_24, i_25, i_26, i_27, i_28, i_29])))] H) (hD : va_D A [(a_0, .inl (cy 1, 30, .inl (mm_g [i_6, i_7, i_8, i_9, i_4, i_5, i_6, i_7, i_8, i_9, i_10, i_11, i_12, i_13, i_14, i_15, i_16, i_17, i_18, i_19, i_20, i_21, i_22, i_23, i_24, i_25, i_26, i_27, i_28, i_29])))]) hS
          refine lv_iinc (v := 4) (lv' := [(4, .int 4), (0, .ref a_0), (1, .int 6), (2, .int 1), (3, .int 0)]) hx hb dX12_copyRow_25 hl (k := 0) rfl (by decide) (by decide) rfl ?_
          clear hl
          clear ls
          intro ls hl
          refine lv_goto (tgt := 3) hx hb dX12_copyRow_28 (by decide) ?_
          refine lv_iload hx hb dX12_copyRow_3 (lv_at hl 0 rfl) ?_
          refine lv_iload_n hx hb dX12_copyRow_5 rfl (lv_at hl 2 rfl) ?_
          refine lv_icmp_ge (tgt := 31) hx hb dX12_copyRow_6 (by decide) (fun c25 => ?_) (fun c25 => ?_)
          · have q26 := mm_leL (mm_le c25) mm_k6 mm_k4
            exact mm_no q26 (by decide)
          · refine lv_aload_n hx hb dX12_copyRow_9 rfl (lv_at hl 1 rfl) ?_
            refine lv_iload_n hx hb dX12_copyRow_10 rfl (lv_at hl 2 rfl) ?_
            refine lv_iload_n hx hb dX12_copyRow_11 rfl (lv_at hl 4 rfl) ?_
            refine lv_imul hx hb dX12_copyRow_12 ?_
            refine lv_topi (fun v27 ev27 => ?_)
            obtain rfl : v27 = 0 := ev27.trans (by decide)
            refine lv_iload hx hb dX12_copyRow_13 (lv_at hl 0 rfl) ?_
            refine lv_iadd hx hb dX12_copyRow_15 ?_
            refine lv_topi (fun v28 ev28 => ?_)
            obtain rfl : v28 = 4 := ev28.trans (by decide)
            refine lv_aload_n hx hb dX12_copyRow_16 rfl (lv_at hl 1 rfl) ?_
            refine lv_iload_n hx hb dX12_copyRow_17 rfl (lv_at hl 2 rfl) ?_
            refine lv_iload_n hx hb dX12_copyRow_18 rfl (lv_at hl 3 rfl) ?_
            refine lv_imul hx hb dX12_copyRow_19 ?_
            refine lv_topi (fun v29 ev29 => ?_)
            obtain rfl : v29 = 6 := ev29.trans (by decide)
            refine lv_iload hx hb dX12_copyRow_20 (lv_at hl 0 rfl) ?_
            refine lv_iadd hx hb dX12_copyRow_22 ?_
            refine lv_topi (fun v30 ev30 => ?_)
            obtain rfl : v30 = 10 := ev30.trans (by decide)
            refine va_iald hx hb hK.1 hP 0 1 rfl rfl (mm_in mm_k10 (by decide)) dX12_copyRow_23 ?_
            rw [show (mm_g [i_6, i_7, i_8, i_9, i_4, i_5, i_6, i_7, i_8, i_9, i_10, i_11, i_12, i_13, i_14, i_15, i_16, i_17, i_18, i_19, i_20, i_21, i_22, i_23, i_24, i_25, i_26, i_27, i_28, i_29]) (10 : Int32).toNatClampNeg = i_10 from mm_ge 10 (by decide) rfl]
            refine va_iast hx hb hK.1 hP hD hS 0 1 rfl rfl (mm_in mm_k4 (by decide)) dX12_copyRow_24 ?_
            clear hP hD hS
            clear H locs
            rw [show upd (mm_g [i_6, i_7, i_8, i_9, i_4, i_5, i_6, i_7, i_8, i_9, i_10, i_11, i_12, i_13, i_14, i_15, i_16, i_17, i_18, i_19, i_20, i_21, i_22, i_23, i_24, i_25, i_26, i_27, i_28, i_29]) (4 : Int32).toNatClampNeg i_10 = (mm_g [i_6, i_7, i_8, i_9, i_10, i_5, i_6, i_7, i_8, i_9, i_10, i_11, i_12, i_13, i_14, i_15, i_16, i_17, i_18, i_19, i_20, i_21, i_22, i_23, i_24, i_25, i_26, i_27, i_28, i_29]) from mm_gs2 4 30 (by decide) rfl rfl rfl]
            intro H locs (hP : va_P G vwCl [(a_0, .inl (cy 1, 30, .inl (mm_g [i_6, i_7, i_8, i_9, i_10, i_5, i_6, i_7, i_8, i_9, i_10, i_11, i_12, i_13, i_14, i_15, i_16, i_17, i_18, i_19, i_20, i_21, i_22, i_23, i_24, i_25, i_26, i_27, i_28, i_29])))] H) (hD : va_D A [(a_0, .inl (cy 1, 30, .inl (mm_g [i_6, i_7, i_8, i_9, i_10, i_5, i_6, i_7, i_8, i_9, i_10, i_11, i_12, i_13, i_14, i_15, i_16, i_17, i_18, i_19, i_20, i_21, i_22, i_23, i_24, i_25, i_26, i_27, i_28, i_29])))]) hS
            refine lv_iinc (v := 5) (lv' := [(4, .int 5), (0, .ref a_0), (1, .int 6), (2, .int 1), (3, .int 0)]) hx hb dX12_copyRow_25 hl (k := 0) rfl (by decide) (by decide) rfl ?_
            clear hl
            clear ls
            intro ls hl
            refine lv_goto (tgt := 3) hx hb dX12_copyRow_28 (by decide) ?_
            refine lv_iload hx hb dX12_copyRow_3 (lv_at hl 0 rfl) ?_
            refine lv_iload_n hx hb dX12_copyRow_5 rfl (lv_at hl 2 rfl) ?_
            refine lv_icmp_ge (tgt := 31) hx hb dX12_copyRow_6 (by decide) (fun c31 => ?_) (fun c31 => ?_)
            · have q32 := mm_leL (mm_le c31) mm_k6 mm_k5
              exact mm_no q32 (by decide)
            · refine lv_aload_n hx hb dX12_copyRow_9 rfl (lv_at hl 1 rfl) ?_
              refine lv_iload_n hx hb dX12_copyRow_10 rfl (lv_at hl 2 rfl) ?_
              refine lv_iload_n hx hb dX12_copyRow_11 rfl (lv_at hl 4 rfl) ?_
              refine lv_imul hx hb dX12_copyRow_12 ?_
              refine lv_topi (fun v33 ev33 => ?_)
              obtain rfl : v33 = 0 := ev33.trans (by decide)
              refine lv_iload hx hb dX12_copyRow_13 (lv_at hl 0 rfl) ?_
              refine lv_iadd hx hb dX12_copyRow_15 ?_
              refine lv_topi (fun v34 ev34 => ?_)
              obtain rfl : v34 = 5 := ev34.trans (by decide)
              refine lv_aload_n hx hb dX12_copyRow_16 rfl (lv_at hl 1 rfl) ?_
              refine lv_iload_n hx hb dX12_copyRow_17 rfl (lv_at hl 2 rfl) ?_
              refine lv_iload_n hx hb dX12_copyRow_18 rfl (lv_at hl 3 rfl) ?_
              refine lv_imul hx hb dX12_copyRow_19 ?_
              refine lv_topi (fun v35 ev35 => ?_)
              obtain rfl : v35 = 6 := ev35.trans (by decide)
              refine lv_iload hx hb dX12_copyRow_20 (lv_at hl 0 rfl) ?_
              refine lv_iadd hx hb dX12_copyRow_22 ?_
              refine lv_topi (fun v36 ev36 => ?_)
              obtain rfl : v36 = 11 := ev36.trans (by decide)
              refine va_iald hx hb hK.1 hP 0 1 rfl rfl (mm_in mm_k11 (by decide)) dX12_copyRow_23 ?_
              rw [show (mm_g [i_6, i_7, i_8, i_9, i_10, i_5, i_6, i_7, i_8, i_9, i_10, i_11, i_12, i_13, i_14, i_15, i_16, i_17, i_18, i_19, i_20, i_21, i_22, i_23, i_24, i_25, i_26, i_27, i_28, i_29]) (11 : Int32).toNatClampNeg = i_11 from mm_ge 11 (by decide) rfl]
              refine va_iast hx hb hK.1 hP hD hS 0 1 rfl rfl (mm_in mm_k5 (by decide)) dX12_copyRow_24 ?_
              clear hP hD hS
              clear H locs
              rw [show upd (mm_g [i_6, i_7, i_8, i_9, i_10, i_5, i_6, i_7, i_8, i_9, i_10, i_11, i_12, i_13, i_14, i_15, i_16, i_17, i_18, i_19, i_20, i_21, i_22, i_23, i_24, i_25, i_26, i_27, i_28, i_29]) (5 : Int32).toNatClampNeg i_11 = (mm_g [i_6, i_7, i_8, i_9, i_10, i_11, i_6, i_7, i_8, i_9, i_10, i_11, i_12, i_13, i_14, i_15, i_16, i_17, i_18, i_19, i_20, i_21, i_22, i_23, i_24, i_25, i_26, i_27, i_28, i_29]) from mm_gs2 5 30 (by decide) rfl rfl rfl]
              intro H locs (hP : va_P G vwCl [(a_0, .inl (cy 1, 30, .inl (mm_g [i_6, i_7, i_8, i_9, i_10, i_11, i_6, i_7, i_8, i_9, i_10, i_11, i_12, i_13, i_14, i_15, i_16, i_17, i_18, i_19, i_20, i_21, i_22, i_23, i_24, i_25, i_26, i_27, i_28, i_29])))] H) (hD : va_D A [(a_0, .inl (cy 1, 30, .inl (mm_g [i_6, i_7, i_8, i_9, i_10, i_11, i_6, i_7, i_8, i_9, i_10, i_11, i_12, i_13, i_14, i_15, i_16, i_17, i_18, i_19, i_20, i_21, i_22, i_23, i_24, i_25, i_26, i_27, i_28, i_29])))]) hS
              refine lv_iinc (v := 6) (lv' := [(4, .int 6), (0, .ref a_0), (1, .int 6), (2, .int 1), (3, .int 0)]) hx hb dX12_copyRow_25 hl (k := 0) rfl (by decide) (by decide) rfl ?_
              clear hl
              clear ls
              intro ls hl
              refine lv_goto (tgt := 3) hx hb dX12_copyRow_28 (by decide) ?_
              refine lv_iload hx hb dX12_copyRow_3 (lv_at hl 0 rfl) ?_
              refine lv_iload_n hx hb dX12_copyRow_5 rfl (lv_at hl 2 rfl) ?_
              refine lv_icmp_ge (tgt := 31) hx hb dX12_copyRow_6 (by decide) (fun c37 => ?_) (fun c37 => ?_)
              · subst hAe
                rw [hQ]
                exact W.vret hx hb hr (fun t ht hW => ⟨⟨(), rfl, trivial, by rw [ht]; exact hP, hK.warm hW, hD⟩, hS.F ht⟩) hS.2.2 dX12_copyRow_31
              · have q38 := mm_ltL (h := 5) (mm_nle c37) mm_k6 mm_k6 (by decide)
                exact mm_no q38 (by decide)

set_option maxHeartbeats 4000000 in
set_option maxRecDepth 100000 in
theorem M353_X12_copyRow (l : Launch) (G : va_G) (cy : Nat → ClassId) (sz : Nat) (a_0 : Nat) (f_0 : Nat → Int32) (h0 : mm_ar f_0 0 99)  : mm_CV l yX12_copyRow (mm_ws yX12_copyRow cX12_copyRow 5 (none)) ({ frames := 0, cells := 0, slots := 0, locals := 0 } : Room) G cy sz [(a_0, .inl (cy 1, 90, .inl f_0))] [.ref a_0, .int 18, .int 1, .int 0] (fun u : (Nat → Int32) => [(a_0, .inl (cy 1, 90, .inl u))]) (fun u : (Nat → Int32) => mm_ar u 0 99 ∧ mm_crw f_0 u 18 1 0) 0 0 := by
  refine mm_begin (lv := [(0, .ref a_0), (1, .int 18), (2, .int 1), (3, .int 0)]) (by decide) (Nat.le_of_ble_eq_true rfl) rfl ?_
  intro p e s m below meth c A ls R args Q H locs hRe hQ hAe hx hb hr hlocks hml hown hnm hts hsz hA hS hP hK hD hZ hl
  have hRf : R.frames = 0 := by rw [hRe]
  have hRl : R.locals = 0 := by rw [hRe]
  have hRc : R.cells = 0 := by rw [hRe]
  have hRs : R.slots = 0 := by rw [hRe]
  refine lv_iconst (v := 0) hx hb dX12_copyRow_0 (by decide) ?_
  refine lv_istore (lv' := [(4, .int 0), (0, .ref a_0), (1, .int 18), (2, .int 1), (3, .int 0)]) hx hb dX12_copyRow_1 hl (by decide) rfl ?_
  clear hl
  clear ls
  intro ls hl
  have L3_130 : ∀ (n : Nat) (x3_4_128 : Int32) (z3_0_129 : Nat → Int32), mm_rg x3_4_128 0 18 → mm_ar z3_0_129 0 99 → mm_crk f_0 z3_0_129 18 1 0 x3_4_128 → (18 - x3_4_128.toInt).toNat < n → ∀ (H : Heap) (locs : List Loc), va_P G vwCl [(a_0, .inl (cy 1, 90, .inl z3_0_129))] H → va_D A [(a_0, .inl (cy 1, 90, .inl z3_0_129))] → va_S A s.heap H locs → ∀ (ls : Array Slot), lv_has ls 5 [(4, .int x3_4_128), (0, .ref a_0), (1, .int 18), (2, .int 1), (3, .int 0)] → W p l e R s m args below meth c H locs 0 0 Q (F0 m 3 ls []) := by
    intro n
    induction n with
    | zero => intro x3_4_128 z3_0_129 rx3_4_128 rz3_0_129 w130 hm; exact absurd hm (Nat.not_lt_zero _)
    | succ n ih3 =>
      intro x3_4_128 z3_0_129 rx3_4_128 rz3_0_129 w130 hm3 H locs hP hD hS ls hl
      refine lv_iload hx hb dX12_copyRow_3 (lv_at hl 0 rfl) ?_
      refine lv_iload_n hx hb dX12_copyRow_5 rfl (lv_at hl 2 rfl) ?_
      refine lv_icmp_ge (tgt := 31) hx hb dX12_copyRow_6 (by decide) (fun c132 => ?_) (fun c132 => ?_)
      · have q133 := mm_leR (mm_le c132) mm_k18 rx3_4_128
        have w134 : mm_crw f_0 z3_0_129 18 1 0 := (mm_crw_of w130 q133 (by decide))
        subst hAe
        rw [hQ]
        exact W.vret hx hb hr (fun t ht hW => ⟨⟨z3_0_129, rfl, ⟨rz3_0_129, w134⟩, by rw [ht]; exact hP, hK.warm hW, hD⟩, hS.F ht⟩) hS.2.2 dX12_copyRow_31
      · have q135 := mm_ltL (h := 17) (mm_nle c132) rx3_4_128 mm_k18 (by decide)
        refine lv_aload_n hx hb dX12_copyRow_9 rfl (lv_at hl 1 rfl) ?_
        refine lv_iload_n hx hb dX12_copyRow_10 rfl (lv_at hl 2 rfl) ?_
        refine lv_iload_n hx hb dX12_copyRow_11 rfl (lv_at hl 4 rfl) ?_
        refine lv_imul hx hb dX12_copyRow_12 ?_
        refine lv_topi (fun v136 ev136 => ?_)
        obtain rfl : v136 = 0 := ev136.trans (by decide)
        refine lv_iload hx hb dX12_copyRow_13 (lv_at hl 0 rfl) ?_
        refine lv_iadd hx hb dX12_copyRow_15 ?_
        refine lv_topi (fun v137 ev137 => ?_)
        have rv137 : mm_rg v137 0 17 := mm_add ev137 mm_k0 q135 (by decide) (by decide)
        have tv137 := mm_addEd ev137 mm_k0 q135 (by decide) (k := 0) (by decide)
        refine lv_aload_n hx hb dX12_copyRow_16 rfl (lv_at hl 1 rfl) ?_
        refine lv_iload_n hx hb dX12_copyRow_17 rfl (lv_at hl 2 rfl) ?_
        refine lv_iload_n hx hb dX12_copyRow_18 rfl (lv_at hl 3 rfl) ?_
        refine lv_imul hx hb dX12_copyRow_19 ?_
        refine lv_topi (fun v138 ev138 => ?_)
        obtain rfl : v138 = 18 := ev138.trans (by decide)
        refine lv_iload hx hb dX12_copyRow_20 (lv_at hl 0 rfl) ?_
        refine lv_iadd hx hb dX12_copyRow_22 ?_
        refine lv_topi (fun v139 ev139 => ?_)
        have rv139 : mm_rg v139 18 35 := mm_add ev139 mm_k18 q135 (by decide) (by decide)
        have tv139 := mm_addEd ev139 mm_k18 q135 (by decide) (k := 18) (by decide)
        refine va_iald hx hb hK.1 hP 0 1 rfl rfl (mm_in rv139 (by decide)) dX12_copyRow_23 ?_
        refine lv_topi (fun v140 ev140 => ?_)
        have rv140 : mm_rg v140 0 99 := mm_eqv ev140 (rz3_0_129 _)
        refine va_iast hx hb hK.1 hP hD hS 0 1 rfl rfl (mm_in rv137 (by decide)) dX12_copyRow_24 ?_
        clear hP hD hS
        clear H locs
        obtain ⟨g141, eg141⟩ : ∃ z : Nat → Int32, z = upd z3_0_129 v137.toNatClampNeg v140 := ⟨_, rfl⟩
        rw [← eg141]
        intro H locs (hP : va_P G vwCl [(a_0, .inl (cy 1, 90, .inl g141))] H) (hD : va_D A [(a_0, .inl (cy 1, 90, .inl g141))]) hS
        have rg141 : mm_ar g141 0 99 := by rw [eg141]; exact mm_ar_upd (mm_ar_wk rz3_0_129 (by decide)) (mm_wk rv140 (by decide)) _
        obtain ⟨v142, ev142⟩ : ∃ y : Int32, y = x3_4_128 + 1 := ⟨_, rfl⟩
        refine lv_iinc (v := v142) (lv' := [(4, .int v142), (0, .ref a_0), (1, .int 18), (2, .int 1), (3, .int 0)]) hx hb dX12_copyRow_25 hl (k := 0) rfl (by rw [ev142]; rfl) (by decide) rfl ?_
        clear hl
        clear ls
        intro ls hl
        have rv142 : mm_rg v142 1 18 := mm_add ev142 q135 mm_k1 (by decide) (by decide)
        have tv142 := mm_addEc ev142 q135 mm_k1 (by decide) (k := 1) (by decide)
        refine lv_goto (tgt := 3) hx hb dX12_copyRow_28 (by decide) ?_
        exact ih3 v142 g141 (mm_wk rv142 (by decide)) rg141 (mm_crk_s w130 tv142 q135 eg141 ev140 (by have := tv137; omega) (by have := tv139; omega) (by decide)) (mm_mu hm3 tv142 (by decide) (rv142).2 (by decide)) H locs hP hD hS ls (lv_sub hl [0, 1, 2, 3, 4] rfl)
  exact L3_130 _ 0 f_0 (mm_wk mm_k0 (by decide)) h0 (mm_crk_0 _ _ _ _) (Nat.lt_succ_self _) H locs hP hD hS ls (lv_sub hl [0, 1, 2, 3, 4] rfl)

set_option maxHeartbeats 4000000 in
set_option maxRecDepth 100000 in
theorem M354_X12_copyRow (l : Launch) (G : va_G) (cy : Nat → ClassId) (sz : Nat) (a_0 : Nat) (f_0 : Nat → Int32) (h0 : mm_ar f_0 0 7)  : mm_CV l yX12_copyRow (mm_ws yX12_copyRow cX12_copyRow 5 (none)) ({ frames := 0, cells := 0, slots := 0, locals := 0 } : Room) G cy sz [(a_0, .inl (cy 1, 15, .inl f_0))] [.ref a_0, .int 3, .int 1, .int 0] (fun u : (Nat → Int32) => [(a_0, .inl (cy 1, 15, .inl u))]) (fun u : (Nat → Int32) => mm_ar u 0 7 ∧ mm_crw f_0 u 3 1 0) 0 0 := by
  refine mm_begin (lv := [(0, .ref a_0), (1, .int 3), (2, .int 1), (3, .int 0)]) (by decide) (Nat.le_of_ble_eq_true rfl) rfl ?_
  intro p e s m below meth c A ls R args Q H locs hRe hQ hAe hx hb hr hlocks hml hown hnm hts hsz hA hS hP hK hD hZ hl
  have hRf : R.frames = 0 := by rw [hRe]
  have hRl : R.locals = 0 := by rw [hRe]
  have hRc : R.cells = 0 := by rw [hRe]
  have hRs : R.slots = 0 := by rw [hRe]
  refine lv_iconst (v := 0) hx hb dX12_copyRow_0 (by decide) ?_
  refine lv_istore (lv' := [(4, .int 0), (0, .ref a_0), (1, .int 3), (2, .int 1), (3, .int 0)]) hx hb dX12_copyRow_1 hl (by decide) rfl ?_
  clear hl
  clear ls
  intro ls hl
  have L3_48 : ∀ (n : Nat) (x3_4_46 : Int32) (z3_0_47 : Nat → Int32), mm_rg x3_4_46 0 3 → mm_ar z3_0_47 0 7 → mm_crk f_0 z3_0_47 3 1 0 x3_4_46 → (3 - x3_4_46.toInt).toNat < n → ∀ (H : Heap) (locs : List Loc), va_P G vwCl [(a_0, .inl (cy 1, 15, .inl z3_0_47))] H → va_D A [(a_0, .inl (cy 1, 15, .inl z3_0_47))] → va_S A s.heap H locs → ∀ (ls : Array Slot), lv_has ls 5 [(4, .int x3_4_46), (0, .ref a_0), (1, .int 3), (2, .int 1), (3, .int 0)] → W p l e R s m args below meth c H locs 0 0 Q (F0 m 3 ls []) := by
    intro n
    induction n with
    | zero => intro x3_4_46 z3_0_47 rx3_4_46 rz3_0_47 w48 hm; exact absurd hm (Nat.not_lt_zero _)
    | succ n ih3 =>
      intro x3_4_46 z3_0_47 rx3_4_46 rz3_0_47 w48 hm3 H locs hP hD hS ls hl
      refine lv_iload hx hb dX12_copyRow_3 (lv_at hl 0 rfl) ?_
      refine lv_iload_n hx hb dX12_copyRow_5 rfl (lv_at hl 2 rfl) ?_
      refine lv_icmp_ge (tgt := 31) hx hb dX12_copyRow_6 (by decide) (fun c50 => ?_) (fun c50 => ?_)
      · have q51 := mm_leR (mm_le c50) mm_k3 rx3_4_46
        have w52 : mm_crw f_0 z3_0_47 3 1 0 := (mm_crw_of w48 q51 (by decide))
        subst hAe
        rw [hQ]
        exact W.vret hx hb hr (fun t ht hW => ⟨⟨z3_0_47, rfl, ⟨rz3_0_47, w52⟩, by rw [ht]; exact hP, hK.warm hW, hD⟩, hS.F ht⟩) hS.2.2 dX12_copyRow_31
      · have q53 := mm_ltL (h := 2) (mm_nle c50) rx3_4_46 mm_k3 (by decide)
        refine lv_aload_n hx hb dX12_copyRow_9 rfl (lv_at hl 1 rfl) ?_
        refine lv_iload_n hx hb dX12_copyRow_10 rfl (lv_at hl 2 rfl) ?_
        refine lv_iload_n hx hb dX12_copyRow_11 rfl (lv_at hl 4 rfl) ?_
        refine lv_imul hx hb dX12_copyRow_12 ?_
        refine lv_topi (fun v54 ev54 => ?_)
        obtain rfl : v54 = 0 := ev54.trans (by decide)
        refine lv_iload hx hb dX12_copyRow_13 (lv_at hl 0 rfl) ?_
        refine lv_iadd hx hb dX12_copyRow_15 ?_
        refine lv_topi (fun v55 ev55 => ?_)
        have rv55 : mm_rg v55 0 2 := mm_add ev55 mm_k0 q53 (by decide) (by decide)
        have tv55 := mm_addEd ev55 mm_k0 q53 (by decide) (k := 0) (by decide)
        refine lv_aload_n hx hb dX12_copyRow_16 rfl (lv_at hl 1 rfl) ?_
        refine lv_iload_n hx hb dX12_copyRow_17 rfl (lv_at hl 2 rfl) ?_
        refine lv_iload_n hx hb dX12_copyRow_18 rfl (lv_at hl 3 rfl) ?_
        refine lv_imul hx hb dX12_copyRow_19 ?_
        refine lv_topi (fun v56 ev56 => ?_)
        obtain rfl : v56 = 3 := ev56.trans (by decide)
        refine lv_iload hx hb dX12_copyRow_20 (lv_at hl 0 rfl) ?_
        refine lv_iadd hx hb dX12_copyRow_22 ?_
        refine lv_topi (fun v57 ev57 => ?_)
        have rv57 : mm_rg v57 3 5 := mm_add ev57 mm_k3 q53 (by decide) (by decide)
        have tv57 := mm_addEd ev57 mm_k3 q53 (by decide) (k := 3) (by decide)
        refine va_iald hx hb hK.1 hP 0 1 rfl rfl (mm_in rv57 (by decide)) dX12_copyRow_23 ?_
        refine lv_topi (fun v58 ev58 => ?_)
        have rv58 : mm_rg v58 0 7 := mm_eqv ev58 (rz3_0_47 _)
        refine va_iast hx hb hK.1 hP hD hS 0 1 rfl rfl (mm_in rv55 (by decide)) dX12_copyRow_24 ?_
        clear hP hD hS
        clear H locs
        obtain ⟨g59, eg59⟩ : ∃ z : Nat → Int32, z = upd z3_0_47 v55.toNatClampNeg v58 := ⟨_, rfl⟩
        rw [← eg59]
        intro H locs (hP : va_P G vwCl [(a_0, .inl (cy 1, 15, .inl g59))] H) (hD : va_D A [(a_0, .inl (cy 1, 15, .inl g59))]) hS
        have rg59 : mm_ar g59 0 7 := by rw [eg59]; exact mm_ar_upd (mm_ar_wk rz3_0_47 (by decide)) (mm_wk rv58 (by decide)) _
        obtain ⟨v60, ev60⟩ : ∃ y : Int32, y = x3_4_46 + 1 := ⟨_, rfl⟩
        refine lv_iinc (v := v60) (lv' := [(4, .int v60), (0, .ref a_0), (1, .int 3), (2, .int 1), (3, .int 0)]) hx hb dX12_copyRow_25 hl (k := 0) rfl (by rw [ev60]; rfl) (by decide) rfl ?_
        clear hl
        clear ls
        intro ls hl
        have rv60 : mm_rg v60 1 3 := mm_add ev60 q53 mm_k1 (by decide) (by decide)
        have tv60 := mm_addEc ev60 q53 mm_k1 (by decide) (k := 1) (by decide)
        refine lv_goto (tgt := 3) hx hb dX12_copyRow_28 (by decide) ?_
        exact ih3 v60 g59 (mm_wk rv60 (by decide)) rg59 (mm_crk_s w48 tv60 q53 eg59 ev58 (by have := tv55; omega) (by have := tv57; omega) (by decide)) (mm_mu hm3 tv60 (by decide) (rv60).2 (by decide)) H locs hP hD hS ls (lv_sub hl [0, 1, 2, 3, 4] rfl)
  exact L3_48 _ 0 f_0 (mm_wk mm_k0 (by decide)) h0 (mm_crk_0 _ _ _ _) (Nat.lt_succ_self _) H locs hP hD hS ls (lv_sub hl [0, 1, 2, 3, 4] rfl)

set_option maxHeartbeats 4000000 in
set_option maxRecDepth 100000 in
theorem M355_X12_copyRow (l : Launch) (G : va_G) (cy : Nat → ClassId) (sz : Nat) (a_0 : Nat) (f_0 : Nat → Int32) (h0 : mm_ar f_0 0 9)  : mm_CV l yX12_copyRow (mm_ws yX12_copyRow cX12_copyRow 5 (none)) ({ frames := 0, cells := 0, slots := 0, locals := 0 } : Room) G cy sz [(a_0, .inl (cy 1, 1050, .inl f_0))] [.ref a_0, .int 210, .int 1, .int 0] (fun u : (Nat → Int32) => [(a_0, .inl (cy 1, 1050, .inl u))]) (fun u : (Nat → Int32) => mm_ar u 0 9 ∧ mm_crw f_0 u 210 1 0) 0 0 := by
  refine mm_begin (lv := [(0, .ref a_0), (1, .int 210), (2, .int 1), (3, .int 0)]) (by decide) (Nat.le_of_ble_eq_true rfl) rfl ?_
  intro p e s m below meth c A ls R args Q H locs hRe hQ hAe hx hb hr hlocks hml hown hnm hts hsz hA hS hP hK hD hZ hl
  have hRf : R.frames = 0 := by rw [hRe]
  have hRl : R.locals = 0 := by rw [hRe]
  have hRc : R.cells = 0 := by rw [hRe]
  have hRs : R.slots = 0 := by rw [hRe]
  refine lv_iconst (v := 0) hx hb dX12_copyRow_0 (by decide) ?_
  refine lv_istore (lv' := [(4, .int 0), (0, .ref a_0), (1, .int 210), (2, .int 1), (3, .int 0)]) hx hb dX12_copyRow_1 hl (by decide) rfl ?_
  clear hl
  clear ls
  intro ls hl
  have L3_148 : ∀ (n : Nat) (x3_4_146 : Int32) (z3_0_147 : Nat → Int32), mm_rg x3_4_146 0 210 → mm_ar z3_0_147 0 9 → mm_crk f_0 z3_0_147 210 1 0 x3_4_146 → (210 - x3_4_146.toInt).toNat < n → ∀ (H : Heap) (locs : List Loc), va_P G vwCl [(a_0, .inl (cy 1, 1050, .inl z3_0_147))] H → va_D A [(a_0, .inl (cy 1, 1050, .inl z3_0_147))] → va_S A s.heap H locs → ∀ (ls : Array Slot), lv_has ls 5 [(4, .int x3_4_146), (0, .ref a_0), (1, .int 210), (2, .int 1), (3, .int 0)] → W p l e R s m args below meth c H locs 0 0 Q (F0 m 3 ls []) := by
    intro n
    induction n with
    | zero => intro x3_4_146 z3_0_147 rx3_4_146 rz3_0_147 w148 hm; exact absurd hm (Nat.not_lt_zero _)
    | succ n ih3 =>
      intro x3_4_146 z3_0_147 rx3_4_146 rz3_0_147 w148 hm3 H locs hP hD hS ls hl
      refine lv_iload hx hb dX12_copyRow_3 (lv_at hl 0 rfl) ?_
      refine lv_iload_n hx hb dX12_copyRow_5 rfl (lv_at hl 2 rfl) ?_
      refine lv_icmp_ge (tgt := 31) hx hb dX12_copyRow_6 (by decide) (fun c150 => ?_) (fun c150 => ?_)
      · have q151 := mm_leR (mm_le c150) mm_k210 rx3_4_146
        have w152 : mm_crw f_0 z3_0_147 210 1 0 := (mm_crw_of w148 q151 (by decide))
        subst hAe
        rw [hQ]
        exact W.vret hx hb hr (fun t ht hW => ⟨⟨z3_0_147, rfl, ⟨rz3_0_147, w152⟩, by rw [ht]; exact hP, hK.warm hW, hD⟩, hS.F ht⟩) hS.2.2 dX12_copyRow_31
      · have q153 := mm_ltL (h := 209) (mm_nle c150) rx3_4_146 mm_k210 (by decide)
        refine lv_aload_n hx hb dX12_copyRow_9 rfl (lv_at hl 1 rfl) ?_
        refine lv_iload_n hx hb dX12_copyRow_10 rfl (lv_at hl 2 rfl) ?_
        refine lv_iload_n hx hb dX12_copyRow_11 rfl (lv_at hl 4 rfl) ?_
        refine lv_imul hx hb dX12_copyRow_12 ?_
        refine lv_topi (fun v154 ev154 => ?_)
        obtain rfl : v154 = 0 := ev154.trans (by decide)
        refine lv_iload hx hb dX12_copyRow_13 (lv_at hl 0 rfl) ?_
        refine lv_iadd hx hb dX12_copyRow_15 ?_
        refine lv_topi (fun v155 ev155 => ?_)
        have rv155 : mm_rg v155 0 209 := mm_add ev155 mm_k0 q153 (by decide) (by decide)
        have tv155 := mm_addEd ev155 mm_k0 q153 (by decide) (k := 0) (by decide)
        refine lv_aload_n hx hb dX12_copyRow_16 rfl (lv_at hl 1 rfl) ?_
        refine lv_iload_n hx hb dX12_copyRow_17 rfl (lv_at hl 2 rfl) ?_
        refine lv_iload_n hx hb dX12_copyRow_18 rfl (lv_at hl 3 rfl) ?_
        refine lv_imul hx hb dX12_copyRow_19 ?_
        refine lv_topi (fun v156 ev156 => ?_)
        obtain rfl : v156 = 210 := ev156.trans (by decide)
        refine lv_iload hx hb dX12_copyRow_20 (lv_at hl 0 rfl) ?_
        refine lv_iadd hx hb dX12_copyRow_22 ?_
        refine lv_topi (fun v157 ev157 => ?_)
        have rv157 : mm_rg v157 210 419 := mm_add ev157 mm_k210 q153 (by decide) (by decide)
        have tv157 := mm_addEd ev157 mm_k210 q153 (by decide) (k := 210) (by decide)
        refine va_iald hx hb hK.1 hP 0 1 rfl rfl (mm_in rv157 (by decide)) dX12_copyRow_23 ?_
        refine lv_topi (fun v158 ev158 => ?_)
        have rv158 : mm_rg v158 0 9 := mm_eqv ev158 (rz3_0_147 _)
        refine va_iast hx hb hK.1 hP hD hS 0 1 rfl rfl (mm_in rv155 (by decide)) dX12_copyRow_24 ?_
        clear hP hD hS
        clear H locs
        obtain ⟨g159, eg159⟩ : ∃ z : Nat → Int32, z = upd z3_0_147 v155.toNatClampNeg v158 := ⟨_, rfl⟩
        rw [← eg159]
        intro H locs (hP : va_P G vwCl [(a_0, .inl (cy 1, 1050, .inl g159))] H) (hD : va_D A [(a_0, .inl (cy 1, 1050, .inl g159))]) hS
        have rg159 : mm_ar g159 0 9 := by rw [eg159]; exact mm_ar_upd (mm_ar_wk rz3_0_147 (by decide)) (mm_wk rv158 (by decide)) _
        obtain ⟨v160, ev160⟩ : ∃ y : Int32, y = x3_4_146 + 1 := ⟨_, rfl⟩
        refine lv_iinc (v := v160) (lv' := [(4, .int v160), (0, .ref a_0), (1, .int 210), (2, .int 1), (3, .int 0)]) hx hb dX12_copyRow_25 hl (k := 0) rfl (by rw [ev160]; rfl) (by decide) rfl ?_
        clear hl
        clear ls
        intro ls hl
        have rv160 : mm_rg v160 1 210 := mm_add ev160 q153 mm_k1 (by decide) (by decide)
        have tv160 := mm_addEc ev160 q153 mm_k1 (by decide) (k := 1) (by decide)
        refine lv_goto (tgt := 3) hx hb dX12_copyRow_28 (by decide) ?_
        exact ih3 v160 g159 (mm_wk rv160 (by decide)) rg159 (mm_crk_s w148 tv160 q153 eg159 ev158 (by have := tv155; omega) (by have := tv157; omega) (by decide)) (mm_mu hm3 tv160 (by decide) (rv160).2 (by decide)) H locs hP hD hS ls (lv_sub hl [0, 1, 2, 3, 4] rfl)
  exact L3_148 _ 0 f_0 (mm_wk mm_k0 (by decide)) h0 (mm_crk_0 _ _ _ _) (Nat.lt_succ_self _) H locs hP hD hS ls (lv_sub hl [0, 1, 2, 3, 4] rfl)

set_option maxHeartbeats 4000000 in
set_option maxRecDepth 100000 in
theorem M356_X12_copyRow (l : Launch) (G : va_G) (cy : Nat → ClassId) (sz : Nat) (a_0 : Nat) (f_0 : Nat → Int32) (h0 : mm_ar f_0 0 8)  : mm_CV l yX12_copyRow (mm_ws yX12_copyRow cX12_copyRow 5 (none)) ({ frames := 0, cells := 0, slots := 0, locals := 0 } : Room) G cy sz [(a_0, .inl (cy 1, 30, .inl f_0))] [.ref a_0, .int 6, .int 1, .int 0] (fun u : (Nat → Int32) => [(a_0, .inl (cy 1, 30, .inl u))]) (fun u : (Nat → Int32) => mm_ar u 0 8 ∧ mm_crw f_0 u 6 1 0) 0 0 := by
  refine mm_begin (lv := [(0, .ref a_0), (1, .int 6), (2, .int 1), (3, .int 0)]) (by decide) (Nat.le_of_ble_eq_true rfl) rfl ?_
  intro p e s m below meth c A ls R args Q H locs hRe hQ hAe hx hb hr hlocks hml hown hnm hts hsz hA hS hP hK hD hZ hl
  have hRf : R.frames = 0 := by rw [hRe]
  have hRl : R.locals = 0 := by rw [hRe]
  have hRc : R.cells = 0 := by rw [hRe]
  have hRs : R.slots = 0 := by rw [hRe]
  refine lv_iconst (v := 0) hx hb dX12_copyRow_0 (by decide) ?_
  refine lv_istore (lv' := [(4, .int 0), (0, .ref a_0), (1, .int 6), (2, .int 1), (3, .int 0)]) hx hb dX12_copyRow_1 hl (by decide) rfl ?_
  clear hl
  clear ls
  intro ls hl
  have L3_75 : ∀ (n : Nat) (x3_4_73 : Int32) (z3_0_74 : Nat → Int32), mm_rg x3_4_73 0 6 → mm_ar z3_0_74 0 8 → mm_crk f_0 z3_0_74 6 1 0 x3_4_73 → (6 - x3_4_73.toInt).toNat < n → ∀ (H : Heap) (locs : List Loc), va_P G vwCl [(a_0, .inl (cy 1, 30, .inl z3_0_74))] H → va_D A [(a_0, .inl (cy 1, 30, .inl z3_0_74))] → va_S A s.heap H locs → ∀ (ls : Array Slot), lv_has ls 5 [(4, .int x3_4_73), (0, .ref a_0), (1, .int 6), (2, .int 1), (3, .int 0)] → W p l e R s m args below meth c H locs 0 0 Q (F0 m 3 ls []) := by
    intro n
    induction n with
    | zero => intro x3_4_73 z3_0_74 rx3_4_73 rz3_0_74 w75 hm; exact absurd hm (Nat.not_lt_zero _)
    | succ n ih3 =>
      intro x3_4_73 z3_0_74 rx3_4_73 rz3_0_74 w75 hm3 H locs hP hD hS ls hl
      refine lv_iload hx hb dX12_copyRow_3 (lv_at hl 0 rfl) ?_
      refine lv_iload_n hx hb dX12_copyRow_5 rfl (lv_at hl 2 rfl) ?_
      refine lv_icmp_ge (tgt := 31) hx hb dX12_copyRow_6 (by decide) (fun c77 => ?_) (fun c77 => ?_)
      · have q78 := mm_leR (mm_le c77) mm_k6 rx3_4_73
        have w79 : mm_crw f_0 z3_0_74 6 1 0 := (mm_crw_of w75 q78 (by decide))
        subst hAe
        rw [hQ]
        exact W.vret hx hb hr (fun t ht hW => ⟨⟨z3_0_74, rfl, ⟨rz3_0_74, w79⟩, by rw [ht]; exact hP, hK.warm hW, hD⟩, hS.F ht⟩) hS.2.2 dX12_copyRow_31
      · have q80 := mm_ltL (h := 5) (mm_nle c77) rx3_4_73 mm_k6 (by decide)
        refine lv_aload_n hx hb dX12_copyRow_9 rfl (lv_at hl 1 rfl) ?_
        refine lv_iload_n hx hb dX12_copyRow_10 rfl (lv_at hl 2 rfl) ?_
        refine lv_iload_n hx hb dX12_copyRow_11 rfl (lv_at hl 4 rfl) ?_
        refine lv_imul hx hb dX12_copyRow_12 ?_
        refine lv_topi (fun v81 ev81 => ?_)
        obtain rfl : v81 = 0 := ev81.trans (by decide)
        refine lv_iload hx hb dX12_copyRow_13 (lv_at hl 0 rfl) ?_
        refine lv_iadd hx hb dX12_copyRow_15 ?_
        refine lv_topi (fun v82 ev82 => ?_)
        have rv82 : mm_rg v82 0 5 := mm_add ev82 mm_k0 q80 (by decide) (by decide)
        have tv82 := mm_addEd ev82 mm_k0 q80 (by decide) (k := 0) (by decide)
        refine lv_aload_n hx hb dX12_copyRow_16 rfl (lv_at hl 1 rfl) ?_
        refine lv_iload_n hx hb dX12_copyRow_17 rfl (lv_at hl 2 rfl) ?_
        refine lv_iload_n hx hb dX12_copyRow_18 rfl (lv_at hl 3 rfl) ?_
        refine lv_imul hx hb dX12_copyRow_19 ?_
        refine lv_topi (fun v83 ev83 => ?_)
        obtain rfl : v83 = 6 := ev83.trans (by decide)
        refine lv_iload hx hb dX12_copyRow_20 (lv_at hl 0 rfl) ?_
        refine lv_iadd hx hb dX12_copyRow_22 ?_
        refine lv_topi (fun v84 ev84 => ?_)
        have rv84 : mm_rg v84 6 11 := mm_add ev84 mm_k6 q80 (by decide) (by decide)
        have tv84 := mm_addEd ev84 mm_k6 q80 (by decide) (k := 6) (by decide)
        refine va_iald hx hb hK.1 hP 0 1 rfl rfl (mm_in rv84 (by decide)) dX12_copyRow_23 ?_
        refine lv_topi (fun v85 ev85 => ?_)
        have rv85 : mm_rg v85 0 8 := mm_eqv ev85 (rz3_0_74 _)
        refine va_iast hx hb hK.1 hP hD hS 0 1 rfl rfl (mm_in rv82 (by decide)) dX12_copyRow_24 ?_
        clear hP hD hS
        clear H locs
        obtain ⟨g86, eg86⟩ : ∃ z : Nat → Int32, z = upd z3_0_74 v82.toNatClampNeg v85 := ⟨_, rfl⟩
        rw [← eg86]
        intro H locs (hP : va_P G vwCl [(a_0, .inl (cy 1, 30, .inl g86))] H) (hD : va_D A [(a_0, .inl (cy 1, 30, .inl g86))]) hS
        have rg86 : mm_ar g86 0 8 := by rw [eg86]; exact mm_ar_upd (mm_ar_wk rz3_0_74 (by decide)) (mm_wk rv85 (by decide)) _
        obtain ⟨v87, ev87⟩ : ∃ y : Int32, y = x3_4_73 + 1 := ⟨_, rfl⟩
        refine lv_iinc (v := v87) (lv' := [(4, .int v87), (0, .ref a_0), (1, .int 6), (2, .int 1), (3, .int 0)]) hx hb dX12_copyRow_25 hl (k := 0) rfl (by rw [ev87]; rfl) (by decide) rfl ?_
        clear hl
        clear ls
        intro ls hl
        have rv87 : mm_rg v87 1 6 := mm_add ev87 q80 mm_k1 (by decide) (by decide)
        have tv87 := mm_addEc ev87 q80 mm_k1 (by decide) (k := 1) (by decide)
        refine lv_goto (tgt := 3) hx hb dX12_copyRow_28 (by decide) ?_
        exact ih3 v87 g86 (mm_wk rv87 (by decide)) rg86 (mm_crk_s w75 tv87 q80 eg86 ev85 (by have := tv82; omega) (by have := tv84; omega) (by decide)) (mm_mu hm3 tv87 (by decide) (rv87).2 (by decide)) H locs hP hD hS ls (lv_sub hl [0, 1, 2, 3, 4] rfl)
  exact L3_75 _ 0 f_0 (mm_wk mm_k0 (by decide)) h0 (mm_crk_0 _ _ _ _) (Nat.lt_succ_self _) H locs hP hD hS ls (lv_sub hl [0, 1, 2, 3, 4] rfl)

set_option maxHeartbeats 4000000 in
set_option maxRecDepth 100000 in
theorem M357_X12_copyRow (l : Launch) (G : va_G) (cy : Nat → ClassId) (sz : Nat) (a_0 : Nat) (f_0 : Nat → Int32) (h0 : mm_ar f_0 0 9)  : mm_CV l yX12_copyRow (mm_ws yX12_copyRow cX12_copyRow 5 (none)) ({ frames := 0, cells := 0, slots := 0, locals := 0 } : Room) G cy sz [(a_0, .inl (cy 1, 240, .inl f_0))] [.ref a_0, .int 48, .int 1, .int 0] (fun u : (Nat → Int32) => [(a_0, .inl (cy 1, 240, .inl u))]) (fun u : (Nat → Int32) => mm_ar u 0 9 ∧ mm_crw f_0 u 48 1 0) 0 0 := by
  refine mm_begin (lv := [(0, .ref a_0), (1, .int 48), (2, .int 1), (3, .int 0)]) (by decide) (Nat.le_of_ble_eq_true rfl) rfl ?_
  intro p e s m below meth c A ls R args Q H locs hRe hQ hAe hx hb hr hlocks hml hown hnm hts hsz hA hS hP hK hD hZ hl
  have hRf : R.frames = 0 := by rw [hRe]
  have hRl : R.locals = 0 := by rw [hRe]
  have hRc : R.cells = 0 := by rw [hRe]
  have hRs : R.slots = 0 := by rw [hRe]
  refine lv_iconst (v := 0) hx hb dX12_copyRow_0 (by decide) ?_
  refine lv_istore (lv' := [(4, .int 0), (0, .ref a_0), (1, .int 48), (2, .int 1), (3, .int 0)]) hx hb dX12_copyRow_1 hl (by decide) rfl ?_
  clear hl
  clear ls
  intro ls hl
  have L3_130 : ∀ (n : Nat) (x3_4_128 : Int32) (z3_0_129 : Nat → Int32), mm_rg x3_4_128 0 48 → mm_ar z3_0_129 0 9 → mm_crk f_0 z3_0_129 48 1 0 x3_4_128 → (48 - x3_4_128.toInt).toNat < n → ∀ (H : Heap) (locs : List Loc), va_P G vwCl [(a_0, .inl (cy 1, 240, .inl z3_0_129))] H → va_D A [(a_0, .inl (cy 1, 240, .inl z3_0_129))] → va_S A s.heap H locs → ∀ (ls : Array Slot), lv_has ls 5 [(4, .int x3_4_128), (0, .ref a_0), (1, .int 48), (2, .int 1), (3, .int 0)] → W p l e R s m args below meth c H locs 0 0 Q (F0 m 3 ls []) := by
    intro n
    induction n with
    | zero => intro x3_4_128 z3_0_129 rx3_4_128 rz3_0_129 w130 hm; exact absurd hm (Nat.not_lt_zero _)
    | succ n ih3 =>
      intro x3_4_128 z3_0_129 rx3_4_128 rz3_0_129 w130 hm3 H locs hP hD hS ls hl
      refine lv_iload hx hb dX12_copyRow_3 (lv_at hl 0 rfl) ?_
      refine lv_iload_n hx hb dX12_copyRow_5 rfl (lv_at hl 2 rfl) ?_
      refine lv_icmp_ge (tgt := 31) hx hb dX12_copyRow_6 (by decide) (fun c132 => ?_) (fun c132 => ?_)
      · have q133 := mm_leR (mm_le c132) mm_k48 rx3_4_128
        have w134 : mm_crw f_0 z3_0_129 48 1 0 := (mm_crw_of w130 q133 (by decide))
        subst hAe
        rw [hQ]
        exact W.vret hx hb hr (fun t ht hW => ⟨⟨z3_0_129, rfl, ⟨rz3_0_129, w134⟩, by rw [ht]; exact hP, hK.warm hW, hD⟩, hS.F ht⟩) hS.2.2 dX12_copyRow_31
      · have q135 := mm_ltL (h := 47) (mm_nle c132) rx3_4_128 mm_k48 (by decide)
        refine lv_aload_n hx hb dX12_copyRow_9 rfl (lv_at hl 1 rfl) ?_
        refine lv_iload_n hx hb dX12_copyRow_10 rfl (lv_at hl 2 rfl) ?_
        refine lv_iload_n hx hb dX12_copyRow_11 rfl (lv_at hl 4 rfl) ?_
        refine lv_imul hx hb dX12_copyRow_12 ?_
        refine lv_topi (fun v136 ev136 => ?_)
        obtain rfl : v136 = 0 := ev136.trans (by decide)
        refine lv_iload hx hb dX12_copyRow_13 (lv_at hl 0 rfl) ?_
        refine lv_iadd hx hb dX12_copyRow_15 ?_
        refine lv_topi (fun v137 ev137 => ?_)
        have rv137 : mm_rg v137 0 47 := mm_add ev137 mm_k0 q135 (by decide) (by decide)
        have tv137 := mm_addEd ev137 mm_k0 q135 (by decide) (k := 0) (by decide)
        refine lv_aload_n hx hb dX12_copyRow_16 rfl (lv_at hl 1 rfl) ?_
        refine lv_iload_n hx hb dX12_copyRow_17 rfl (lv_at hl 2 rfl) ?_
        refine lv_iload_n hx hb dX12_copyRow_18 rfl (lv_at hl 3 rfl) ?_
        refine lv_imul hx hb dX12_copyRow_19 ?_
        refine lv_topi (fun v138 ev138 => ?_)
        obtain rfl : v138 = 48 := ev138.trans (by decide)
        refine lv_iload hx hb dX12_copyRow_20 (lv_at hl 0 rfl) ?_
        refine lv_iadd hx hb dX12_copyRow_22 ?_
        refine lv_topi (fun v139 ev139 => ?_)
        have rv139 : mm_rg v139 48 95 := mm_add ev139 mm_k48 q135 (by decide) (by decide)
        have tv139 := mm_addEd ev139 mm_k48 q135 (by decide) (k := 48) (by decide)
        refine va_iald hx hb hK.1 hP 0 1 rfl rfl (mm_in rv139 (by decide)) dX12_copyRow_23 ?_
        refine lv_topi (fun v140 ev140 => ?_)
        have rv140 : mm_rg v140 0 9 := mm_eqv ev140 (rz3_0_129 _)
        refine va_iast hx hb hK.1 hP hD hS 0 1 rfl rfl (mm_in rv137 (by decide)) dX12_copyRow_24 ?_
        clear hP hD hS
        clear H locs
        obtain ⟨g141, eg141⟩ : ∃ z : Nat → Int32, z = upd z3_0_129 v137.toNatClampNeg v140 := ⟨_, rfl⟩
        rw [← eg141]
        intro H locs (hP : va_P G vwCl [(a_0, .inl (cy 1, 240, .inl g141))] H) (hD : va_D A [(a_0, .inl (cy 1, 240, .inl g141))]) hS
        have rg141 : mm_ar g141 0 9 := by rw [eg141]; exact mm_ar_upd (mm_ar_wk rz3_0_129 (by decide)) (mm_wk rv140 (by decide)) _
        obtain ⟨v142, ev142⟩ : ∃ y : Int32, y = x3_4_128 + 1 := ⟨_, rfl⟩
        refine lv_iinc (v := v142) (lv' := [(4, .int v142), (0, .ref a_0), (1, .int 48), (2, .int 1), (3, .int 0)]) hx hb dX12_copyRow_25 hl (k := 0) rfl (by rw [ev142]; rfl) (by decide) rfl ?_
        clear hl
        clear ls
        intro ls hl
        have rv142 : mm_rg v142 1 48 := mm_add ev142 q135 mm_k1 (by decide) (by decide)
        have tv142 := mm_addEc ev142 q135 mm_k1 (by decide) (k := 1) (by decide)
        refine lv_goto (tgt := 3) hx hb dX12_copyRow_28 (by decide) ?_
        exact ih3 v142 g141 (mm_wk rv142 (by decide)) rg141 (mm_crk_s w130 tv142 q135 eg141 ev140 (by have := tv137; omega) (by have := tv139; omega) (by decide)) (mm_mu hm3 tv142 (by decide) (rv142).2 (by decide)) H locs hP hD hS ls (lv_sub hl [0, 1, 2, 3, 4] rfl)
  exact L3_130 _ 0 f_0 (mm_wk mm_k0 (by decide)) h0 (mm_crk_0 _ _ _ _) (Nat.lt_succ_self _) H locs hP hD hS ls (lv_sub hl [0, 1, 2, 3, 4] rfl)

set_option maxHeartbeats 4000000 in
set_option maxRecDepth 100000 in
theorem M358_X12_copyRow (l : Launch) (G : va_G) (cy : Nat → ClassId) (sz : Nat) (a_0 : Nat) (f_0 : Nat → Int32) (h0 : mm_ar f_0 (-1) 99)  : mm_CV l yX12_copyRow (mm_ws yX12_copyRow cX12_copyRow 5 (none)) ({ frames := 0, cells := 0, slots := 0, locals := 0 } : Room) G cy sz [(a_0, .inl (cy 1, 450, .inl f_0))] [.ref a_0, .int 90, .int 1, .int 0] (fun u : (Nat → Int32) => [(a_0, .inl (cy 1, 450, .inl u))]) (fun u : (Nat → Int32) => mm_ar u (-1) 99 ∧ mm_crw f_0 u 90 1 0) 0 0 := by
  refine mm_begin (lv := [(0, .ref a_0), (1, .int 90), (2, .int 1), (3, .int 0)]) (by decide) (Nat.le_of_ble_eq_true rfl) rfl ?_
  intro p e s m below meth c A ls R args Q H locs hRe hQ hAe hx hb hr hlocks hml hown hnm hts hsz hA hS hP hK hD hZ hl
  have hRf : R.frames = 0 := by rw [hRe]
  have hRl : R.locals = 0 := by rw [hRe]
  have hRc : R.cells = 0 := by rw [hRe]
  have hRs : R.slots = 0 := by rw [hRe]
  refine lv_iconst (v := 0) hx hb dX12_copyRow_0 (by decide) ?_
  refine lv_istore (lv' := [(4, .int 0), (0, .ref a_0), (1, .int 90), (2, .int 1), (3, .int 0)]) hx hb dX12_copyRow_1 hl (by decide) rfl ?_
  clear hl
  clear ls
  intro ls hl
  have L3_139 : ∀ (n : Nat) (x3_4_137 : Int32) (z3_0_138 : Nat → Int32), mm_rg x3_4_137 0 90 → mm_ar z3_0_138 (-1) 99 → mm_crk f_0 z3_0_138 90 1 0 x3_4_137 → (90 - x3_4_137.toInt).toNat < n → ∀ (H : Heap) (locs : List Loc), va_P G vwCl [(a_0, .inl (cy 1, 450, .inl z3_0_138))] H → va_D A [(a_0, .inl (cy 1, 450, .inl z3_0_138))] → va_S A s.heap H locs → ∀ (ls : Array Slot), lv_has ls 5 [(4, .int x3_4_137), (0, .ref a_0), (1, .int 90), (2, .int 1), (3, .int 0)] → W p l e R s m args below meth c H locs 0 0 Q (F0 m 3 ls []) := by
    intro n
    induction n with
    | zero => intro x3_4_137 z3_0_138 rx3_4_137 rz3_0_138 w139 hm; exact absurd hm (Nat.not_lt_zero _)
    | succ n ih3 =>
      intro x3_4_137 z3_0_138 rx3_4_137 rz3_0_138 w139 hm3 H locs hP hD hS ls hl
      refine lv_iload hx hb dX12_copyRow_3 (lv_at hl 0 rfl) ?_
      refine lv_iload_n hx hb dX12_copyRow_5 rfl (lv_at hl 2 rfl) ?_
      refine lv_icmp_ge (tgt := 31) hx hb dX12_copyRow_6 (by decide) (fun c141 => ?_) (fun c141 => ?_)
      · have q142 := mm_leR (mm_le c141) mm_k90 rx3_4_137
        have w143 : mm_crw f_0 z3_0_138 90 1 0 := (mm_crw_of w139 q142 (by decide))
        subst hAe
        rw [hQ]
        exact W.vret hx hb hr (fun t ht hW => ⟨⟨z3_0_138, rfl, ⟨rz3_0_138, w143⟩, by rw [ht]; exact hP, hK.warm hW, hD⟩, hS.F ht⟩) hS.2.2 dX12_copyRow_31
      · have q144 := mm_ltL (h := 89) (mm_nle c141) rx3_4_137 mm_k90 (by decide)
        refine lv_aload_n hx hb dX12_copyRow_9 rfl (lv_at hl 1 rfl) ?_
        refine lv_iload_n hx hb dX12_copyRow_10 rfl (lv_at hl 2 rfl) ?_
        refine lv_iload_n hx hb dX12_copyRow_11 rfl (lv_at hl 4 rfl) ?_
        refine lv_imul hx hb dX12_copyRow_12 ?_
        refine lv_topi (fun v145 ev145 => ?_)
        obtain rfl : v145 = 0 := ev145.trans (by decide)
        refine lv_iload hx hb dX12_copyRow_13 (lv_at hl 0 rfl) ?_
        refine lv_iadd hx hb dX12_copyRow_15 ?_
        refine lv_topi (fun v146 ev146 => ?_)
        have rv146 : mm_rg v146 0 89 := mm_add ev146 mm_k0 q144 (by decide) (by decide)
        have tv146 := mm_addEd ev146 mm_k0 q144 (by decide) (k := 0) (by decide)
        refine lv_aload_n hx hb dX12_copyRow_16 rfl (lv_at hl 1 rfl) ?_
        refine lv_iload_n hx hb dX12_copyRow_17 rfl (lv_at hl 2 rfl) ?_
        refine lv_iload_n hx hb dX12_copyRow_18 rfl (lv_at hl 3 rfl) ?_
        refine lv_imul hx hb dX12_copyRow_19 ?_
        refine lv_topi (fun v147 ev147 => ?_)
        obtain rfl : v147 = 90 := ev147.trans (by decide)
        refine lv_iload hx hb dX12_copyRow_20 (lv_at hl 0 rfl) ?_
        refine lv_iadd hx hb dX12_copyRow_22 ?_
        refine lv_topi (fun v148 ev148 => ?_)
        have rv148 : mm_rg v148 90 179 := mm_add ev148 mm_k90 q144 (by decide) (by decide)
        have tv148 := mm_addEd ev148 mm_k90 q144 (by decide) (k := 90) (by decide)
        refine va_iald hx hb hK.1 hP 0 1 rfl rfl (mm_in rv148 (by decide)) dX12_copyRow_23 ?_
        refine lv_topi (fun v149 ev149 => ?_)
        have rv149 : mm_rg v149 (-1) 99 := mm_eqv ev149 (rz3_0_138 _)
        refine va_iast hx hb hK.1 hP hD hS 0 1 rfl rfl (mm_in rv146 (by decide)) dX12_copyRow_24 ?_
        clear hP hD hS
        clear H locs
        obtain ⟨g150, eg150⟩ : ∃ z : Nat → Int32, z = upd z3_0_138 v146.toNatClampNeg v149 := ⟨_, rfl⟩
        rw [← eg150]
        intro H locs (hP : va_P G vwCl [(a_0, .inl (cy 1, 450, .inl g150))] H) (hD : va_D A [(a_0, .inl (cy 1, 450, .inl g150))]) hS
        have rg150 : mm_ar g150 (-1) 99 := by rw [eg150]; exact mm_ar_upd (mm_ar_wk rz3_0_138 (by decide)) (mm_wk rv149 (by decide)) _
        obtain ⟨v151, ev151⟩ : ∃ y : Int32, y = x3_4_137 + 1 := ⟨_, rfl⟩
        refine lv_iinc (v := v151) (lv' := [(4, .int v151), (0, .ref a_0), (1, .int 90), (2, .int 1), (3, .int 0)]) hx hb dX12_copyRow_25 hl (k := 0) rfl (by rw [ev151]; rfl) (by decide) rfl ?_
        clear hl
        clear ls
        intro ls hl
        have rv151 : mm_rg v151 1 90 := mm_add ev151 q144 mm_k1 (by decide) (by decide)
        have tv151 := mm_addEc ev151 q144 mm_k1 (by decide) (k := 1) (by decide)
        refine lv_goto (tgt := 3) hx hb dX12_copyRow_28 (by decide) ?_
        exact ih3 v151 g150 (mm_wk rv151 (by decide)) rg150 (mm_crk_s w139 tv151 q144 eg150 ev149 (by have := tv146; omega) (by have := tv148; omega) (by decide)) (mm_mu hm3 tv151 (by decide) (rv151).2 (by decide)) H locs hP hD hS ls (lv_sub hl [0, 1, 2, 3, 4] rfl)
  exact L3_139 _ 0 f_0 (mm_wk mm_k0 (by decide)) h0 (mm_crk_0 _ _ _ _) (Nat.lt_succ_self _) H locs hP hD hS ls (lv_sub hl [0, 1, 2, 3, 4] rfl)

set_option maxHeartbeats 4000000 in
set_option maxRecDepth 100000 in
theorem M359_X12_copyBook (l : Launch) (G : va_G) (cy : Nat → ClassId) (sz : Nat) (a_0 : Nat) (i_0 : Int32) (a_1 : Nat) (a_2 : Nat) (a_3 : Nat) (a_4 : Nat) (a_5 : Nat) (i_1 : Int32) (i_2 : Int32) (i_3 : Int32) (i_4 : Int32) (i_5 : Int32) (j_0 : Int64) (i_6 : Int32) (i_7 : Int32) (i_8 : Int32) (i_9 : Int32) (a_6 : Nat) (a_7 : Nat) (a_8 : Nat) (a_9 : Nat) (a_10 : Nat) (a_11 : Nat) (a_12 : Nat) (a_13 : Nat) (a_14 : Nat) (a_15 : Nat) (a_16 : Nat) (a_17 : Nat) (a_18 : Nat) (i_10 : Int32) (i_11 : Int32) (i_12 : Int32) (i_13 : Int32) (i_14 : Int32) (i_15 : Int32) (a_19 : Nat) (i_16 : Int32) (a_20 : Nat) (i_17 : Int32) (i_18 : Int32) (i_19 : Int32) (i_20 : Int32) (i_21 : Int32) (i_22 : Int32) (i_23 : Int32) (i_24 : Int32) (i_25 : Int32) (i_26 : Int32) (i_27 : Int32) (i_28 : Int32) (i_29 : Int32) (i_30 : Int32) (i_31 : Int32) (i_32 : Int32) (i_33 : Int32) (i_34 : Int32) (i_35 : Int32) (i_36 : Int32) (i_37 : Int32) (i_38 : Int32) (i_39 : Int32) (i_40 : Int32) (i_41 : Int32) (i_42 : Int32) (i_43 : Int32) (i_44 : Int32) (i_45 : Int32) (i_46 : Int32) (i_47 : Int32) (i_48 : Int32) (i_49 : Int32) (i_50 : Int32) (i_51 : Int32) (f_0 : Nat → Int32) (f_1 : Nat → Int32) (f_2 : Nat → Int32) (f_3 : Nat → Int32) (f_4 : Nat → Int32) (f_5 : Nat → Int32) (h0 : mm_rg i_17 0 601) (h1 : mm_rg i_18 0 601) (h2 : mm_rg i_19 0 601) (h3 : mm_rg i_20 0 601) (h4 : mm_rg i_21 0 601) (h5 : mm_rg i_22 0 10) (h6 : mm_rg i_23 0 99) (h7 : mm_rg i_24 0 9) (h8 : mm_rg i_25 0 3) (h9 : mm_rg i_26 0 6) (h10 : mm_rg i_27 0 30) (h11 : mm_rg i_28 0 10) (h12 : mm_rg i_29 0 99) (h13 : mm_rg i_30 0 9) (h14 : mm_rg i_31 0 3) (h15 : mm_rg i_32 0 6) (h16 : mm_rg i_33 0 30) (h17 : mm_rg i_34 0 10) (h18 : mm_rg i_35 0 99) (h19 : mm_rg i_36 0 9) (h20 : mm_rg i_37 0 3) (h21 : mm_rg i_38 0 6) (h22 : mm_rg i_39 0 30) (h23 : mm_rg i_40 0 10) (h24 : mm_rg i_41 0 99) (h25 : mm_rg i_42 0 9) (h26 : mm_rg i_43 0 3) (h27 : mm_rg i_44 0 6) (h28 : mm_rg i_45 0 30) (h29 : mm_rg i_46 0 10) (h30 : mm_rg i_47 0 99) (h31 : mm_rg i_48 0 9) (h32 : mm_rg i_49 0 3) (h33 : mm_rg i_50 0 6) (h34 : mm_rg i_51 0 30) (h35 : mm_ar f_0 0 99) (h36 : mm_ar f_1 0 7) (h37 : mm_ar f_2 0 9) (h38 : mm_ar f_3 0 8) (h39 : mm_ar f_4 0 9) (h40 : mm_ar f_5 (-1) 99) (h41 : mm_rls f_1 f_2 0 i_24 i_25) (h42 : mm_txs f_3 f_4 0 i_24 i_26) (h43 : mm_acs f_5 0 i_24 i_25 i_27) (h44 : mm_tl i_17 i_25 i_26) (h45 : mm_rls f_1 f_2 1 i_30 i_31) (h46 : mm_txs f_3 f_4 1 i_30 i_32) (h47 : mm_acs f_5 1 i_30 i_31 i_33) (h48 : mm_tl i_18 i_31 i_32) (h49 : mm_rls f_1 f_2 2 i_36 i_37) (h50 : mm_txs f_3 f_4 2 i_36 i_38) (h51 : mm_acs f_5 2 i_36 i_37 i_39) (h52 : mm_tl i_19 i_37 i_38) (h53 : mm_rls f_1 f_2 3 i_42 i_43) (h54 : mm_txs f_3 f_4 3 i_42 i_44) (h55 : mm_acs f_5 3 i_42 i_43 i_45) (h56 : mm_tl i_20 i_43 i_44)  : mm_CV l yX12_copyBook (mm_ws yX12_copyBook cX12_copyBook 3 (none)) ({ frames := 1, cells := 0, slots := 0, locals := 24 } : Room) G cy sz [(a_0, .inr (12, [.int i_0, .ref a_1, .ref a_2, .ref a_3, .ref a_4, .ref a_5, .int i_1, .int i_2, .int i_3, .int i_4, .int i_5, .long j_0, .int i_6, .int i_7, .int i_8, .int i_9, .ref a_6, .ref a_7, .ref a_8, .ref a_9, .ref a_10, .ref a_11, .ref a_12, .ref a_13, .ref a_14, .ref a_15, .ref a_16, .ref a_17, .ref a_18, .int i_10, .int i_11, .int i_12, .int i_13, .int i_14, .int i_15, .ref a_19, .int i_16, .ref a_20])), (a_6, .inl (cy 1, 5, .inl (mm_g [i_17, i_18, i_19, i_20, i_21]))), (a_7, .inl (cy 1, 30, .inl (mm_g [i_22, i_23, i_24, i_25, i_26, i_27, i_28, i_29, i_30, i_31, i_32, i_33, i_34, i_35, i_36, i_37, i_38, i_39, i_40, i_41, i_42, i_43, i_44, i_45, i_46, i_47, i_48, i_49, i_50, i_51]))), (a_8, .inl (cy 1, 90, .inl f_0)), (a_9, .inl (cy 1, 15, .inl f_1)), (a_10, .inl (cy 1, 1050, .inl f_2)), (a_11, .inl (cy 1, 30, .inl f_3)), (a_12, .inl (cy 1, 240, .inl f_4)), (a_13, .inl (cy 1, 450, .inl f_5))] [.ref a_0, .int 1, .int 0] (fun u : (Nat → Int32) × (Nat → Int32) × (Nat → Int32) × (Nat → Int32) × (Nat → Int32) × (Nat → Int32) => [(a_0, .inr (12, [.int i_0, .ref a_1, .ref a_2, .ref a_3, .ref a_4, .ref a_5, .int i_1, .int i_2, .int i_3, .int i_4, .int i_5, .long j_0, .int i_6, .int i_7, .int i_8, .int i_9, .ref a_6, .ref a_7, .ref a_8, .ref a_9, .ref a_10, .ref a_11, .ref a_12, .ref a_13, .ref a_14, .ref a_15, .ref a_16, .ref a_17, .ref a_18, .int i_10, .int i_11, .int i_12, .int i_13, .int i_14, .int i_15, .ref a_19, .int i_16, .ref a_20])), (a_6, .inl (cy 1, 5, .inl (mm_g [i_18, i_18, i_19, i_20, i_21]))), (a_7, .inl (cy 1, 30, .inl (mm_g [i_28, i_29, i_30, i_31, i_32, i_33, i_28, i_29, i_30, i_31, i_32, i_33, i_34, i_35, i_36, i_37, i_38, i_39, i_40, i_41, i_42, i_43, i_44, i_45, i_46, i_47, i_48, i_49, i_50, i_51]))), (a_8, .inl (cy 1, 90, .inl u.1)), (a_9, .inl (cy 1, 15, .inl u.2.1)), (a_10, .inl (cy 1, 1050, .inl u.2.2.1)), (a_11, .inl (cy 1, 30, .inl u.2.2.2.1)), (a_12, .inl (cy 1, 240, .inl u.2.2.2.2.1)), (a_13, .inl (cy 1, 450, .inl u.2.2.2.2.2))]) (fun u : (Nat → Int32) × (Nat → Int32) × (Nat → Int32) × (Nat → Int32) × (Nat → Int32) × (Nat → Int32) => mm_ar u.1 0 99 ∧ mm_ar u.2.1 0 7 ∧ mm_ar u.2.2.1 0 9 ∧ mm_ar u.2.2.2.1 0 8 ∧ mm_ar u.2.2.2.2.1 0 9 ∧ mm_ar u.2.2.2.2.2 (-1) 99 ∧ mm_rls u.2.1 u.2.2.1 0 i_30 i_31 ∧ mm_txs u.2.2.2.1 u.2.2.2.2.1 0 i_30 i_32 ∧ mm_acs u.2.2.2.2.2 0 i_30 i_31 i_33 ∧ mm_rls u.2.1 u.2.2.1 1 i_30 i_31 ∧ mm_txs u.2.2.2.1 u.2.2.2.2.1 1 i_30 i_32 ∧ mm_acs u.2.2.2.2.2 1 i_30 i_31 i_33 ∧ mm_rls u.2.1 u.2.2.1 2 i_36 i_37 ∧ mm_txs u.2.2.2.1 u.2.2.2.2.1 2 i_36 i_38 ∧ mm_acs u.2.2.2.2.2 2 i_36 i_37 i_39 ∧ mm_rls u.2.1 u.2.2.1 3 i_42 i_43 ∧ mm_txs u.2.2.2.1 u.2.2.2.2.1 3 i_42 i_44 ∧ mm_acs u.2.2.2.2.2 3 i_42 i_43 i_45) 0 0 := by
  refine mm_begin (lv := [(0, .ref a_0), (1, .int 1), (2, .int 0)]) (by decide) (Nat.le_of_ble_eq_true rfl) rfl ?_
  intro p e s m below meth c A ls R args Q H locs hRe hQ hAe hx hb hr hlocks hml hown hnm hts hsz hA hS hP hK hD hZ hl
  have hRf : R.frames = 1 := by rw [hRe]
  have hRl : R.locals = 24 := by rw [hRe]
  have hRc : R.cells = 0 := by rw [hRe]
  have hRs : R.slots = 0 := by rw [hRe]
  refine lv_aload_n hx hb dX12_copyBook_0 rfl (lv_at hl 0 rfl) ?_
  refine va_get (D := G) (ci := 12) (v := .ref a_6) (C := RX12) (T := TX12) (N := 38) hx hb hts (mm_i inlX12) hown hK.1 hP 0 rfl rfl 16 (by decide) (mm_h hts mm_w148) (fun _ h9 => h9) rfl dX12_copyBook_1 ?_
  refine lv_iconst (v := 1) hx hb dX12_copyBook_4 (by decide) ?_
  refine lv_iload_n hx hb dX12_copyBook_5 rfl (lv_at hl 1 rfl) ?_
  refine lv_iload_n hx hb dX12_copyBook_6 rfl (lv_at hl 2 rfl) ?_
  refine mm_finv (va_runS (As := [.ref a_6, .int 1, .int 1, .int 0]) (rest := []) ⟨hx, hb, hml, hown, hts⟩ (M351_X12_copyRow l G cy H.size a_6 i_17 i_18 i_19 i_20 i_21 h0 h1 h2 h3 h4) (va_cwS 4 hts (mm_gS mm_w557 mm_w558 mm_w5 mm_w559) rfl rfl rfl hs_X12_copyRow ⟨by rw [hRf]; exact Nat.le_of_ble_eq_true rfl, by rw [hRl]; exact Nat.le_of_ble_eq_true rfl⟩) (mm_preS hK hZ hS hA hP hD [1] rfl rfl) rfl rfl hl.1 rfl (lv_room (Nat.le_of_ble_eq_true rfl)) dX12_copyBook_7 ⟨by rw [hRc]; exact Nat.le_of_ble_eq_true rfl, by rw [hRs]; exact Nat.le_of_ble_eq_true rfl⟩) hP hD hS hA (fun u : Unit => [(a_0, .inr (12, [.int i_0, .ref a_1, .ref a_2, .ref a_3, .ref a_4, .ref a_5, .int i_1, .int i_2, .int i_3, .int i_4, .int i_5, .long j_0, .int i_6, .int i_7, .int i_8, .int i_9, .ref a_6, .ref a_7, .ref a_8, .ref a_9, .ref a_10, .ref a_11, .ref a_12, .ref a_13, .ref a_14, .ref a_15, .ref a_16, .ref a_17, .ref a_18, .int i_10, .int i_11, .int i_12, .int i_13, .int i_14, .int i_15, .ref a_19, .int i_16, .ref a_20])), (a_6, .inl (cy 1, 5, .inl (mm_g [i_18, i_18, i_19, i_20, i_21]))), (a_7, .inl (cy 1, 30, .inl (mm_g [i_22, i_23, i_24, i_25, i_26, i_27, i_28, i_29, i_30, i_31, i_32, i_33, i_34, i_35, i_36, i_37, i_38, i_39, i_40, i_41, i_42, i_43, i_44, i_45, i_46, i_47, i_48, i_49, i_50, i_51]))), (a_8, .inl (cy 1, 90, .inl f_0)), (a_9, .inl (cy 1, 15, .inl f_1)), (a_10, .inl (cy 1, 1050, .inl f_2)), (a_11, .inl (cy 1, 30, .inl f_3)), (a_12, .inl (cy 1, 240, .inl f_4)), (a_13, .inl (cy 1, 450, .inl f_5))]) [1] [0, 2, 3, 4, 5, 6, 7, 8] (n := 9) (fun _ => rfl) (by decide +kernel) (by decide +kernel) rfl (fun _ => rfl) (wr := [(a_0, .inr (12, [.int i_0, .ref a_1, .ref a_2, .ref a_3, .ref a_4, .ref a_5, .int i_1, .int i_2, .int i_3, .int i_4, .int i_5, .long j_0, .int i_6, .int i_7, .int i_8, .int i_9, .ref a_6, .ref a_7, .ref a_8, .ref a_9, .ref a_10, .ref a_11, .ref a_12, .ref a_13, .ref a_14, .ref a_15, .ref a_16, .ref a_17, .ref a_18, .int i_10, .int i_11, .int i_12, .int i_13, .int i_14, .int i_15, .ref a_19, .int i_16, .ref a_20])), (a_7, .inl (cy 1, 30, .inl (mm_g [i_22, i_23, i_24, i_25, i_26, i_27, i_28, i_29, i_30, i_31, i_32, i_33, i_34, i_35, i_36, i_37, i_38, i_39, i_40, i_41, i_42, i_43, i_44, i_45, i_46, i_47, i_48, i_49, i_50, i_51]))), (a_8, .inl (cy 1, 90, .inl f_0)), (a_9, .inl (cy 1, 15, .inl f_1)), (a_10, .inl (cy 1, 1050, .inl f_2)), (a_11, .inl (cy 1, 30, .inl f_3)), (a_12, .inl (cy 1, 240, .inl f_4)), (a_13, .inl (cy 1, 450, .inl f_5))]) rfl (fun _ => rfl) (fun _ => @rfl _ ([a_6] : List Nat)) ?_
  clear hP hD hS
  clear H locs
  intro _u H locs hw (hP : va_P G vwCl [(a_0, .inr (12, [.int i_0, .ref a_1, .ref a_2, .ref a_3, .ref a_4, .ref a_5, .int i_1, .int i_2, .int i_3, .int i_4, .int i_5, .long j_0, .int i_6, .int i_7, .int i_8, .int i_9, .ref a_6, .ref a_7, .ref a_8, .ref a_9, .ref a_10, .ref a_11, .ref a_12, .ref a_13, .ref a_14, .ref a_15, .ref a_16, .ref a_17, .ref a_18, .int i_10, .int i_11, .int i_12, .int i_13, .int i_14, .int i_15, .ref a_19, .int i_16, .ref a_20])), (a_6, .inl (cy 1, 5, .inl (mm_g [i_18, i_18, i_19, i_20, i_21]))), (a_7, .inl (cy 1, 30, .inl (mm_g [i_22, i_23, i_24, i_25, i_26, i_27, i_28, i_29, i_30, i_31, i_32, i_33, i_34, i_35, i_36, i_37, i_38, i_39, i_40, i_41, i_42, i_43, i_44, i_45, i_46, i_47, i_48, i_49, i_50, i_51]))), (a_8, .inl (cy 1, 90, .inl f_0)), (a_9, .inl (cy 1, 15, .inl f_1)), (a_10, .inl (cy 1, 1050, .inl f_2)), (a_11, .inl (cy 1, 30, .inl f_3)), (a_12, .inl (cy 1, 240, .inl f_4)), (a_13, .inl (cy 1, 450, .inl f_5))] H) (hD : va_D A [(a_0, .inr (12, [.int i_0, .ref a_1, .ref a_2, .ref a_3, .ref a_4, .ref a_5, .int i_1, .int i_2, .int i_3, .int i_4, .int i_5, .long j_0, .int i_6, .int i_7, .int i_8, .int i_9, .ref a_6, .ref a_7, .ref a_8, .ref a_9, .ref a_10, .ref a_11, .ref a_12, .ref a_13, .ref a_14, .ref a_15, .ref a_16, .ref a_17, .ref a_18, .int i_10, .int i_11, .int i_12, .int i_13, .int i_14, .int i_15, .ref a_19, .int i_16, .ref a_20])), (a_6, .inl (cy 1, 5, .inl (mm_g [i_18, i_18, i_19, i_20, i_21]))), (a_7, .inl (cy 1, 30, .inl (mm_g [i_22, i_23, i_24, i_25, i_26, i_27, i_28, i_29, i_30, i_31, i_32, i_33, i_34, i_35, i_36, i_37, i_38, i_39, i_40, i_41, i_42, i_43, i_44, i_45, i_46, i_47, i_48, i_49, i_50, i_51]))), (a_8, .inl (cy 1, 90, .inl f_0)), (a_9, .inl (cy 1, 15, .inl f_1)), (a_10, .inl (cy 1, 1050, .inl f_2)), (a_11, .inl (cy 1, 30, .inl f_3)), (a_12, .inl (cy 1, 240, .inl f_4)), (a_13, .inl (cy 1, 450, .inl f_5))]) hS
  refine lv_aload_n hx hb dX12_copyBook_10 rfl (lv_at hl 0 rfl) ?_
  refine va_get (D := G) (ci := 12) (v := .ref a_7) (C := RX12) (T := TX12) (N := 38) hx hb hts (mm_i inlX12) hown hK.1 hP 0 rfl rfl 17 (by decide) (mm_h hts mm_w149) (fun _ h9 => h9) rfl dX12_copyBook_11 ?_
  refine lv_bipush (v := 6) hx hb dX12_copyBook_14 (by decide) ?_
  refine lv_iload_n hx hb dX12_copyBook_16 rfl (lv_at hl 1 rfl) ?_
  refine lv_iload_n hx hb dX12_copyBook_17 rfl (lv_at hl 2 rfl) ?_
  refine mm_finv (va_runS (As := [.ref a_7, .int 6, .int 1, .int 0]) (rest := []) ⟨hx, hb, hml, hown, hts⟩ (M352_X12_copyRow l G cy H.size a_7 i_22 i_23 i_24 i_25 i_26 i_27 i_28 i_29 i_30 i_31 i_32 i_33 i_34 i_35 i_36 i_37 i_38 i_39 i_40 i_41 i_42 i_43 i_44 i_45 i_46 i_47 i_48 i_49 i_50 i_51 h5 h6 h7 h8 h9 h10 h11 h12 h13 h14 h15 h16 h17 h18 h19 h20 h21 h22 h23 h24 h25 h26 h27 h28 h29 h30 h31 h32 h33 h34) (va_cwS 4 hts (mm_gS mm_w557 mm_w558 mm_w5 mm_w559) rfl rfl rfl hs_X12_copyRow ⟨by rw [hRf]; exact Nat.le_of_ble_eq_true rfl, by rw [hRl]; exact Nat.le_of_ble_eq_true rfl⟩) (mm_preS hK hZ hS hA hP hD [2] rfl rfl) rfl rfl hl.1 rfl (lv_room (Nat.le_of_ble_eq_true rfl)) dX12_copyBook_18 ⟨by rw [hRc]; exact Nat.le_of_ble_eq_true rfl, by rw [hRs]; exact Nat.le_of_ble_eq_true rfl⟩) hP hD hS hA (fun u : Unit => [(a_0, .inr (12, [.int i_0, .ref a_1, .ref a_2, .ref a_3, .ref a_4, .ref a_5, .int i_1, .int i_2, .int i_3, .int i_4, .int i_5, .long j_0, .int i_6, .int i_7, .int i_8, .int i_9, .ref a_6, .ref a_7, .ref a_8, .ref a_9, .ref a_10, .ref a_11, .ref a_12, .ref a_13, .ref a_14, .ref a_15, .ref a_16, .ref a_17, .ref a_18, .int i_10, .int i_11, .int i_12, .int i_13, .int i_14, .int i_15, .ref a_19, .int i_16, .ref a_20])), (a_6, .inl (cy 1, 5, .inl (mm_g [i_18, i_18, i_19, i_20, i_21]))), (a_7, .inl (cy 1, 30, .inl (mm_g [i_28, i_29, i_30, i_31, i_32, i_33, i_28, i_29, i_30, i_31, i_32, i_33, i_34, i_35, i_36, i_37, i_38, i_39, i_40, i_41, i_42, i_43, i_44, i_45, i_46, i_47, i_48, i_49, i_50, i_51]))), (a_8, .inl (cy 1, 90, .inl f_0)), (a_9, .inl (cy 1, 15, .inl f_1)), (a_10, .inl (cy 1, 1050, .inl f_2)), (a_11, .inl (cy 1, 30, .inl f_3)), (a_12, .inl (cy 1, 240, .inl f_4)), (a_13, .inl (cy 1, 450, .inl f_5))]) [2] [0, 1, 3, 4, 5, 6, 7, 8] (n := 9) (fun _ => rfl) (by decide +kernel) (by decide +kernel) rfl (fun _ => rfl) (wr := [(a_0, .inr (12, [.int i_0, .ref a_1, .ref a_2, .ref a_3, .ref a_4, .ref a_5, .int i_1, .int i_2, .int i_3, .int i_4, .int i_5, .long j_0, .int i_6, .int i_7, .int i_8, .int i_9, .ref a_6, .ref a_7, .ref a_8, .ref a_9, .ref a_10, .ref a_11, .ref a_12, .ref a_13, .ref a_14, .ref a_15, .ref a_16, .ref a_17, .ref a_18, .int i_10, .int i_11, .int i_12, .int i_13, .int i_14, .int i_15, .ref a_19, .int i_16, .ref a_20])), (a_6, .inl (cy 1, 5, .inl (mm_g [i_18, i_18, i_19, i_20, i_21]))), (a_8, .inl (cy 1, 90, .inl f_0)), (a_9, .inl (cy 1, 15, .inl f_1)), (a_10, .inl (cy 1, 1050, .inl f_2)), (a_11, .inl (cy 1, 30, .inl f_3)), (a_12, .inl (cy 1, 240, .inl f_4)), (a_13, .inl (cy 1, 450, .inl f_5))]) rfl (fun _ => rfl) (fun _ => @rfl _ ([a_7] : List Nat)) ?_
  clear hP hD hS
  clear H locs
  intro _u H locs hw (hP : va_P G vwCl [(a_0, .inr (12, [.int i_0, .ref a_1, .ref a_2, .ref a_3, .ref a_4, .ref a_5, .int i_1, .int i_2, .int i_3, .int i_4, .int i_5, .long j_0, .int i_6, .int i_7, .int i_8, .int i_9, .ref a_6, .ref a_7, .ref a_8, .ref a_9, .ref a_10, .ref a_11, .ref a_12, .ref a_13, .ref a_14, .ref a_15, .ref a_16, .ref a_17, .ref a_18, .int i_10, .int i_11, .int i_12, .int i_13, .int i_14, .int i_15, .ref a_19, .int i_16, .ref a_20])), (a_6, .inl (cy 1, 5, .inl (mm_g [i_18, i_18, i_19, i_20, i_21]))), (a_7, .inl (cy 1, 30, .inl (mm_g [i_28, i_29, i_30, i_31, i_32, i_33, i_28, i_29, i_30, i_31, i_32, i_33, i_34, i_35, i_36, i_37, i_38, i_39, i_40, i_41, i_42, i_43, i_44, i_45, i_46, i_47, i_48, i_49, i_50, i_51]))), (a_8, .inl (cy 1, 90, .inl f_0)), (a_9, .inl (cy 1, 15, .inl f_1)), (a_10, .inl (cy 1, 1050, .inl f_2)), (a_11, .inl (cy 1, 30, .inl f_3)), (a_12, .inl (cy 1, 240, .inl f_4)), (a_13, .inl (cy 1, 450, .inl f_5))] H) (hD : va_D A [(a_0, .inr (12, [.int i_0, .ref a_1, .ref a_2, .ref a_3, .ref a_4, .ref a_5, .int i_1, .int i_2, .int i_3, .int i_4, .int i_5, .long j_0, .int i_6, .int i_7, .int i_8, .int i_9, .ref a_6, .ref a_7, .ref a_8, .ref a_9, .ref a_10, .ref a_11, .ref a_12, .ref a_13, .ref a_14, .ref a_15, .ref a_16, .ref a_17, .ref a_18, .int i_10, .int i_11, .int i_12, .int i_13, .int i_14, .int i_15, .ref a_19, .int i_16, .ref a_20])), (a_6, .inl (cy 1, 5, .inl (mm_g [i_18, i_18, i_19, i_20, i_21]))), (a_7, .inl (cy 1, 30, .inl (mm_g [i_28, i_29, i_30, i_31, i_32, i_33, i_28, i_29, i_30, i_31, i_32, i_33, i_34, i_35, i_36, i_37, i_38, i_39, i_40, i_41, i_42, i_43, i_44, i_45, i_46, i_47, i_48, i_49, i_50, i_51]))), (a_8, .inl (cy 1, 90, .inl f_0)), (a_9, .inl (cy 1, 15, .inl f_1)), (a_10, .inl (cy 1, 1050, .inl f_2)), (a_11, .inl (cy 1, 30, .inl f_3)), (a_12, .inl (cy 1, 240, .inl f_4)), (a_13, .inl (cy 1, 450, .inl f_5))]) hS
  refine lv_aload_n hx hb dX12_copyBook_21 rfl (lv_at hl 0 rfl) ?_
  refine va_get (D := G) (ci := 12) (v := .ref a_8) (C := RX12) (T := TX12) (N := 38) hx hb hts (mm_i inlX12) hown hK.1 hP 0 rfl rfl 18 (by decide) (mm_h hts mm_w150) (fun _ h9 => h9) rfl dX12_copyBook_22 ?_
  refine lv_bipush (v := 18) hx hb dX12_copyBook_25 (by decide) ?_
  refine lv_iload_n hx hb dX12_copyBook_27 rfl (lv_at hl 1 rfl) ?_
  refine lv_iload_n hx hb dX12_copyBook_28 rfl (lv_at hl 2 rfl) ?_
  refine mm_finv (va_runS (As := [.ref a_8, .int 18, .int 1, .int 0]) (rest := []) ⟨hx, hb, hml, hown, hts⟩ (M353_X12_copyRow l G cy H.size a_8 f_0 h35) (va_cwS 4 hts (mm_gS mm_w557 mm_w558 mm_w5 mm_w559) rfl rfl rfl hs_X12_copyRow ⟨by rw [hRf]; exact Nat.le_of_ble_eq_true rfl, by rw [hRl]; exact Nat.le_of_ble_eq_true rfl⟩) (mm_preS hK hZ hS hA hP hD [3] rfl rfl) rfl rfl hl.1 rfl (lv_room (Nat.le_of_ble_eq_true rfl)) dX12_copyBook_29 ⟨by rw [hRc]; exact Nat.le_of_ble_eq_true rfl, by rw [hRs]; exact Nat.le_of_ble_eq_true rfl⟩) hP hD hS hA (fun u : (Nat → Int32) => [(a_0, .inr (12, [.int i_0, .ref a_1, .ref a_2, .ref a_3, .ref a_4, .ref a_5, .int i_1, .int i_2, .int i_3, .int i_4, .int i_5, .long j_0, .int i_6, .int i_7, .int i_8, .int i_9, .ref a_6, .ref a_7, .ref a_8, .ref a_9, .ref a_10, .ref a_11, .ref a_12, .ref a_13, .ref a_14, .ref a_15, .ref a_16, .ref a_17, .ref a_18, .int i_10, .int i_11, .int i_12, .int i_13, .int i_14, .int i_15, .ref a_19, .int i_16, .ref a_20])), (a_6, .inl (cy 1, 5, .inl (mm_g [i_18, i_18, i_19, i_20, i_21]))), (a_7, .inl (cy 1, 30, .inl (mm_g [i_28, i_29, i_30, i_31, i_32, i_33, i_28, i_29, i_30, i_31, i_32, i_33, i_34, i_35, i_36, i_37, i_38, i_39, i_40, i_41, i_42, i_43, i_44, i_45, i_46, i_47, i_48, i_49, i_50, i_51]))), (a_8, .inl (cy 1, 90, .inl u)), (a_9, .inl (cy 1, 15, .inl f_1)), (a_10, .inl (cy 1, 1050, .inl f_2)), (a_11, .inl (cy 1, 30, .inl f_3)), (a_12, .inl (cy 1, 240, .inl f_4)), (a_13, .inl (cy 1, 450, .inl f_5))]) [3] [0, 1, 2, 4, 5, 6, 7, 8] (n := 9) (fun _ => rfl) (by decide +kernel) (by decide +kernel) rfl (fun _ => rfl) (wr := [(a_0, .inr (12, [.int i_0, .ref a_1, .ref a_2, .ref a_3, .ref a_4, .ref a_5, .int i_1, .int i_2, .int i_3, .int i_4, .int i_5, .long j_0, .int i_6, .int i_7, .int i_8, .int i_9, .ref a_6, .ref a_7, .ref a_8, .ref a_9, .ref a_10, .ref a_11, .ref a_12, .ref a_13, .ref a_14, .ref a_15, .ref a_16, .ref a_17, .ref a_18, .int i_10, .int i_11, .int i_12, .int i_13, .int i_14, .int i_15, .ref a_19, .int i_16, .ref a_20])), (a_6, .inl (cy 1, 5, .inl (mm_g [i_18, i_18, i_19, i_20, i_21]))), (a_7, .inl (cy 1, 30, .inl (mm_g [i_28, i_29, i_30, i_31, i_32, i_33, i_28, i_29, i_30, i_31, i_32, i_33, i_34, i_35, i_36, i_37, i_38, i_39, i_40, i_41, i_42, i_43, i_44, i_45, i_46, i_47, i_48, i_49, i_50, i_51]))), (a_9, .inl (cy 1, 15, .inl f_1)), (a_10, .inl (cy 1, 1050, .inl f_2)), (a_11, .inl (cy 1, 30, .inl f_3)), (a_12, .inl (cy 1, 240, .inl f_4)), (a_13, .inl (cy 1, 450, .inl f_5))]) rfl (fun _ => rfl) (fun _ => rfl) ?_
  clear hP hD hS
  clear H locs
  intro n1 H locs hw (hP : va_P G vwCl [(a_0, .inr (12, [.int i_0, .ref a_1, .ref a_2, .ref a_3, .ref a_4, .ref a_5, .int i_1, .int i_2, .int i_3, .int i_4, .int i_5, .long j_0, .int i_6, .int i_7, .int i_8, .int i_9, .ref a_6, .ref a_7, .ref a_8, .ref a_9, .ref a_10, .ref a_11, .ref a_12, .ref a_13, .ref a_14, .ref a_15, .ref a_16, .ref a_17, .ref a_18, .int i_10, .int i_11, .int i_12, .int i_13, .int i_14, .int i_15, .ref a_19, .int i_16, .ref a_20])), (a_6, .inl (cy 1, 5, .inl (mm_g [i_18, i_18, i_19, i_20, i_21]))), (a_7, .inl (cy 1, 30, .inl (mm_g [i_28, i_29, i_30, i_31, i_32, i_33, i_28, i_29, i_30, i_31, i_32, i_33, i_34, i_35, i_36, i_37, i_38, i_39, i_40, i_41, i_42, i_43, i_44, i_45, i_46, i_47, i_48, i_49, i_50, i_51]))), (a_8, .inl (cy 1, 90, .inl n1)), (a_9, .inl (cy 1, 15, .inl f_1)), (a_10, .inl (cy 1, 1050, .inl f_2)), (a_11, .inl (cy 1, 30, .inl f_3)), (a_12, .inl (cy 1, 240, .inl f_4)), (a_13, .inl (cy 1, 450, .inl f_5))] H) (hD : va_D A [(a_0, .inr (12, [.int i_0, .ref a_1, .ref a_2, .ref a_3, .ref a_4, .ref a_5, .int i_1, .int i_2, .int i_3, .int i_4, .int i_5, .long j_0, .int i_6, .int i_7, .int i_8, .int i_9, .ref a_6, .ref a_7, .ref a_8, .ref a_9, .ref a_10, .ref a_11, .ref a_12, .ref a_13, .ref a_14, .ref a_15, .ref a_16, .ref a_17, .ref a_18, .int i_10, .int i_11, .int i_12, .int i_13, .int i_14, .int i_15, .ref a_19, .int i_16, .ref a_20])), (a_6, .inl (cy 1, 5, .inl (mm_g [i_18, i_18, i_19, i_20, i_21]))), (a_7, .inl (cy 1, 30, .inl (mm_g [i_28, i_29, i_30, i_31, i_32, i_33, i_28, i_29, i_30, i_31, i_32, i_33, i_34, i_35, i_36, i_37, i_38, i_39, i_40, i_41, i_42, i_43, i_44, i_45, i_46, i_47, i_48, i_49, i_50, i_51]))), (a_8, .inl (cy 1, 90, .inl n1)), (a_9, .inl (cy 1, 15, .inl f_1)), (a_10, .inl (cy 1, 1050, .inl f_2)), (a_11, .inl (cy 1, 30, .inl f_3)), (a_12, .inl (cy 1, 240, .inl f_4)), (a_13, .inl (cy 1, 450, .inl f_5))]) hS
  obtain ⟨w2, w3⟩ := hw
  refine lv_aload_n hx hb dX12_copyBook_32 rfl (lv_at hl 0 rfl) ?_
  refine va_get (D := G) (ci := 12) (v := .ref a_9) (C := RX12) (T := TX12) (N := 38) hx hb hts (mm_i inlX12) hown hK.1 hP 0 rfl rfl 19 (by decide) (mm_h hts mm_w151) (fun _ h9 => h9) rfl dX12_copyBook_33 ?_
  refine lv_iconst (v := 3) hx hb dX12_copyBook_36 (by decide) ?_
  refine lv_iload_n hx hb dX12_copyBook_37 rfl (lv_at hl 1 rfl) ?_
  refine lv_iload_n hx hb dX12_copyBook_38 rfl (lv_at hl 2 rfl) ?_
  refine mm_finv (va_runS (As := [.ref a_9, .int 3, .int 1, .int 0]) (rest := []) ⟨hx, hb, hml, hown, hts⟩ (M354_X12_copyRow l G cy H.size a_9 f_1 h36) (va_cwS 4 hts (mm_gS mm_w557 mm_w558 mm_w5 mm_w559) rfl rfl rfl hs_X12_copyRow ⟨by rw [hRf]; exact Nat.le_of_ble_eq_true rfl, by rw [hRl]; exact Nat.le_of_ble_eq_true rfl⟩) (mm_preS hK hZ hS hA hP hD [4] rfl rfl) rfl rfl hl.1 rfl (lv_room (Nat.le_of_ble_eq_true rfl)) dX12_copyBook_39 ⟨by rw [hRc]; exact Nat.le_of_ble_eq_true rfl, by rw [hRs]; exact Nat.le_of_ble_eq_true rfl⟩) hP hD hS hA (fun u : (Nat → Int32) => [(a_0, .inr (12, [.int i_0, .ref a_1, .ref a_2, .ref a_3, .ref a_4, .ref a_5, .int i_1, .int i_2, .int i_3, .int i_4, .int i_5, .long j_0, .int i_6, .int i_7, .int i_8, .int i_9, .ref a_6, .ref a_7, .ref a_8, .ref a_9, .ref a_10, .ref a_11, .ref a_12, .ref a_13, .ref a_14, .ref a_15, .ref a_16, .ref a_17, .ref a_18, .int i_10, .int i_11, .int i_12, .int i_13, .int i_14, .int i_15, .ref a_19, .int i_16, .ref a_20])), (a_6, .inl (cy 1, 5, .inl (mm_g [i_18, i_18, i_19, i_20, i_21]))), (a_7, .inl (cy 1, 30, .inl (mm_g [i_28, i_29, i_30, i_31, i_32, i_33, i_28, i_29, i_30, i_31, i_32, i_33, i_34, i_35, i_36, i_37, i_38, i_39, i_40, i_41, i_42, i_43, i_44, i_45, i_46, i_47, i_48, i_49, i_50, i_51]))), (a_8, .inl (cy 1, 90, .inl n1)), (a_9, .inl (cy 1, 15, .inl u)), (a_10, .inl (cy 1, 1050, .inl f_2)), (a_11, .inl (cy 1, 30, .inl f_3)), (a_12, .inl (cy 1, 240, .inl f_4)), (a_13, .inl (cy 1, 450, .inl f_5))]) [4] [0, 1, 2, 3, 5, 6, 7, 8] (n := 9) (fun _ => rfl) (by decide +kernel) (by decide +kernel) rfl (fun _ => rfl) (wr := [(a_0, .inr (12, [.int i_0, .ref a_1, .ref a_2, .ref a_3, .ref a_4, .ref a_5, .int i_1, .int i_2, .int i_3, .int i_4, .int i_5, .long j_0, .int i_6, .int i_7, .int i_8, .int i_9, .ref a_6, .ref a_7, .ref a_8, .ref a_9, .ref a_10, .ref a_11, .ref a_12, .ref a_13, .ref a_14, .ref a_15, .ref a_16, .ref a_17, .ref a_18, .int i_10, .int i_11, .int i_12, .int i_13, .int i_14, .int i_15, .ref a_19, .int i_16, .ref a_20])), (a_6, .inl (cy 1, 5, .inl (mm_g [i_18, i_18, i_19, i_20, i_21]))), (a_7, .inl (cy 1, 30, .inl (mm_g [i_28, i_29, i_30, i_31, i_32, i_33, i_28, i_29, i_30, i_31, i_32, i_33, i_34, i_35, i_36, i_37, i_38, i_39, i_40, i_41, i_42, i_43, i_44, i_45, i_46, i_47, i_48, i_49, i_50, i_51]))), (a_8, .inl (cy 1, 90, .inl n1)), (a_10, .inl (cy 1, 1050, .inl f_2)), (a_11, .inl (cy 1, 30, .inl f_3)), (a_12, .inl (cy 1, 240, .inl f_4)), (a_13, .inl (cy 1, 450, .inl f_5))]) rfl (fun _ => rfl) (fun _ => rfl) ?_
  clear hP hD hS
  clear H locs
  intro n4 H locs hw (hP : va_P G vwCl [(a_0, .inr (12, [.int i_0, .ref a_1, .ref a_2, .ref a_3, .ref a_4, .ref a_5, .int i_1, .int i_2, .int i_3, .int i_4, .int i_5, .long j_0, .int i_6, .int i_7, .int i_8, .int i_9, .ref a_6, .ref a_7, .ref a_8, .ref a_9, .ref a_10, .ref a_11, .ref a_12, .ref a_13, .ref a_14, .ref a_15, .ref a_16, .ref a_17, .ref a_18, .int i_10, .int i_11, .int i_12, .int i_13, .int i_14, .int i_15, .ref a_19, .int i_16, .ref a_20])), (a_6, .inl (cy 1, 5, .inl (mm_g [i_18, i_18, i_19, i_20, i_21]))), (a_7, .inl (cy 1, 30, .inl (mm_g [i_28, i_29, i_30, i_31, i_32, i_33, i_28, i_29, i_30, i_31, i_32, i_33, i_34, i_35, i_36, i_37, i_38, i_39, i_40, i_41, i_42, i_43, i_44, i_45, i_46, i_47, i_48, i_49, i_50, i_51]))), (a_8, .inl (cy 1, 90, .inl n1)), (a_9, .inl (cy 1, 15, .inl n4)), (a_10, .inl (cy 1, 1050, .inl f_2)), (a_11, .inl (cy 1, 30, .inl f_3)), (a_12, .inl (cy 1, 240, .inl f_4)), (a_13, .inl (cy 1, 450, .inl f_5))] H) (hD : va_D A [(a_0, .inr (12, [.int i_0, .ref a_1, .ref a_2, .ref a_3, .ref a_4, .ref a_5, .int i_1, .int i_2, .int i_3, .int i_4, .int i_5, .long j_0, .int i_6, .int i_7, .int i_8, .int i_9, .ref a_6, .ref a_7, .ref a_8, .ref a_9, .ref a_10, .ref a_11, .ref a_12, .ref a_13, .ref a_14, .ref a_15, .ref a_16, .ref a_17, .ref a_18, .int i_10, .int i_11, .int i_12, .int i_13, .int i_14, .int i_15, .ref a_19, .int i_16, .ref a_20])), (a_6, .inl (cy 1, 5, .inl (mm_g [i_18, i_18, i_19, i_20, i_21]))), (a_7, .inl (cy 1, 30, .inl (mm_g [i_28, i_29, i_30, i_31, i_32, i_33, i_28, i_29, i_30, i_31, i_32, i_33, i_34, i_35, i_36, i_37, i_38, i_39, i_40, i_41, i_42, i_43, i_44, i_45, i_46, i_47, i_48, i_49, i_50, i_51]))), (a_8, .inl (cy 1, 90, .inl n1)), (a_9, .inl (cy 1, 15, .inl n4)), (a_10, .inl (cy 1, 1050, .inl f_2)), (a_11, .inl (cy 1, 30, .inl f_3)), (a_12, .inl (cy 1, 240, .inl f_4)), (a_13, .inl (cy 1, 450, .inl f_5))]) hS
  obtain ⟨w5, w6⟩ := hw
  refine lv_aload_n hx hb dX12_copyBook_42 rfl (lv_at hl 0 rfl) ?_
  refine va_get (D := G) (ci := 12) (v := .ref a_10) (C := RX12) (T := TX12) (N := 38) hx hb hts (mm_i inlX12) hown hK.1 hP 0 rfl rfl 20 (by decide) (mm_h hts mm_w152) (fun _ h9 => h9) rfl dX12_copyBook_43 ?_
  refine lv_sipush (v := 210) hx hb dX12_copyBook_46 (by decide) ?_
  refine lv_iload_n hx hb dX12_copyBook_49 rfl (lv_at hl 1 rfl) ?_
  refine lv_iload_n hx hb dX12_copyBook_50 rfl (lv_at hl 2 rfl) ?_
  refine mm_finv (va_runS (As := [.ref a_10, .int 210, .int 1, .int 0]) (rest := []) ⟨hx, hb, hml, hown, hts⟩ (M355_X12_copyRow l G cy H.size a_10 f_2 h37) (va_cwS 4 hts (mm_gS mm_w557 mm_w558 mm_w5 mm_w559) rfl rfl rfl hs_X12_copyRow ⟨by rw [hRf]; exact Nat.le_of_ble_eq_true rfl, by rw [hRl]; exact Nat.le_of_ble_eq_true rfl⟩) (mm_preS hK hZ hS hA hP hD [5] rfl rfl) rfl rfl hl.1 rfl (lv_room (Nat.le_of_ble_eq_true rfl)) dX12_copyBook_51 ⟨by rw [hRc]; exact Nat.le_of_ble_eq_true rfl, by rw [hRs]; exact Nat.le_of_ble_eq_true rfl⟩) hP hD hS hA (fun u : (Nat → Int32) => [(a_0, .inr (12, [.int i_0, .ref a_1, .ref a_2, .ref a_3, .ref a_4, .ref a_5, .int i_1, .int i_2, .int i_3, .int i_4, .int i_5, .long j_0, .int i_6, .int i_7, .int i_8, .int i_9, .ref a_6, .ref a_7, .ref a_8, .ref a_9, .ref a_10, .ref a_11, .ref a_12, .ref a_13, .ref a_14, .ref a_15, .ref a_16, .ref a_17, .ref a_18, .int i_10, .int i_11, .int i_12, .int i_13, .int i_14, .int i_15, .ref a_19, .int i_16, .ref a_20])), (a_6, .inl (cy 1, 5, .inl (mm_g [i_18, i_18, i_19, i_20, i_21]))), (a_7, .inl (cy 1, 30, .inl (mm_g [i_28, i_29, i_30, i_31, i_32, i_33, i_28, i_29, i_30, i_31, i_32, i_33, i_34, i_35, i_36, i_37, i_38, i_39, i_40, i_41, i_42, i_43, i_44, i_45, i_46, i_47, i_48, i_49, i_50, i_51]))), (a_8, .inl (cy 1, 90, .inl n1)), (a_9, .inl (cy 1, 15, .inl n4)), (a_10, .inl (cy 1, 1050, .inl u)), (a_11, .inl (cy 1, 30, .inl f_3)), (a_12, .inl (cy 1, 240, .inl f_4)), (a_13, .inl (cy 1, 450, .inl f_5))]) [5] [0, 1, 2, 3, 4, 6, 7, 8] (n := 9) (fun _ => rfl) (by decide +kernel) (by decide +kernel) rfl (fun _ => rfl) (wr := [(a_0, .inr (12, [.int i_0, .ref a_1, .ref a_2, .ref a_3, .ref a_4, .ref a_5, .int i_1, .int i_2, .int i_3, .int i_4, .int i_5, .long j_0, .int i_6, .int i_7, .int i_8, .int i_9, .ref a_6, .ref a_7, .ref a_8, .ref a_9, .ref a_10, .ref a_11, .ref a_12, .ref a_13, .ref a_14, .ref a_15, .ref a_16, .ref a_17, .ref a_18, .int i_10, .int i_11, .int i_12, .int i_13, .int i_14, .int i_15, .ref a_19, .int i_16, .ref a_20])), (a_6, .inl (cy 1, 5, .inl (mm_g [i_18, i_18, i_19, i_20, i_21]))), (a_7, .inl (cy 1, 30, .inl (mm_g [i_28, i_29, i_30, i_31, i_32, i_33, i_28, i_29, i_30, i_31, i_32, i_33, i_34, i_35, i_36, i_37, i_38, i_39, i_40, i_41, i_42, i_43, i_44, i_45, i_46, i_47, i_48, i_49, i_50, i_51]))), (a_8, .inl (cy 1, 90, .inl n1)), (a_9, .inl (cy 1, 15, .inl n4)), (a_11, .inl (cy 1, 30, .inl f_3)), (a_12, .inl (cy 1, 240, .inl f_4)), (a_13, .inl (cy 1, 450, .inl f_5))]) rfl (fun _ => rfl) (fun _ => rfl) ?_
  clear hP hD hS
  clear H locs
  intro n7 H locs hw (hP : va_P G vwCl [(a_0, .inr (12, [.int i_0, .ref a_1, .ref a_2, .ref a_3, .ref a_4, .ref a_5, .int i_1, .int i_2, .int i_3, .int i_4, .int i_5, .long j_0, .int i_6, .int i_7, .int i_8, .int i_9, .ref a_6, .ref a_7, .ref a_8, .ref a_9, .ref a_10, .ref a_11, .ref a_12, .ref a_13, .ref a_14, .ref a_15, .ref a_16, .ref a_17, .ref a_18, .int i_10, .int i_11, .int i_12, .int i_13, .int i_14, .int i_15, .ref a_19, .int i_16, .ref a_20])), (a_6, .inl (cy 1, 5, .inl (mm_g [i_18, i_18, i_19, i_20, i_21]))), (a_7, .inl (cy 1, 30, .inl (mm_g [i_28, i_29, i_30, i_31, i_32, i_33, i_28, i_29, i_30, i_31, i_32, i_33, i_34, i_35, i_36, i_37, i_38, i_39, i_40, i_41, i_42, i_43, i_44, i_45, i_46, i_47, i_48, i_49, i_50, i_51]))), (a_8, .inl (cy 1, 90, .inl n1)), (a_9, .inl (cy 1, 15, .inl n4)), (a_10, .inl (cy 1, 1050, .inl n7)), (a_11, .inl (cy 1, 30, .inl f_3)), (a_12, .inl (cy 1, 240, .inl f_4)), (a_13, .inl (cy 1, 450, .inl f_5))] H) (hD : va_D A [(a_0, .inr (12, [.int i_0, .ref a_1, .ref a_2, .ref a_3, .ref a_4, .ref a_5, .int i_1, .int i_2, .int i_3, .int i_4, .int i_5, .long j_0, .int i_6, .int i_7, .int i_8, .int i_9, .ref a_6, .ref a_7, .ref a_8, .ref a_9, .ref a_10, .ref a_11, .ref a_12, .ref a_13, .ref a_14, .ref a_15, .ref a_16, .ref a_17, .ref a_18, .int i_10, .int i_11, .int i_12, .int i_13, .int i_14, .int i_15, .ref a_19, .int i_16, .ref a_20])), (a_6, .inl (cy 1, 5, .inl (mm_g [i_18, i_18, i_19, i_20, i_21]))), (a_7, .inl (cy 1, 30, .inl (mm_g [i_28, i_29, i_30, i_31, i_32, i_33, i_28, i_29, i_30, i_31, i_32, i_33, i_34, i_35, i_36, i_37, i_38, i_39, i_40, i_41, i_42, i_43, i_44, i_45, i_46, i_47, i_48, i_49, i_50, i_51]))), (a_8, .inl (cy 1, 90, .inl n1)), (a_9, .inl (cy 1, 15, .inl n4)), (a_10, .inl (cy 1, 1050, .inl n7)), (a_11, .inl (cy 1, 30, .inl f_3)), (a_12, .inl (cy 1, 240, .inl f_4)), (a_13, .inl (cy 1, 450, .inl f_5))]) hS
  obtain ⟨w8, w9⟩ := hw
  refine lv_aload_n hx hb dX12_copyBook_54 rfl (lv_at hl 0 rfl) ?_
  refine va_get (D := G) (ci := 12) (v := .ref a_11) (C := RX12) (T := TX12) (N := 38) hx hb hts (mm_i inlX12) hown hK.1 hP 0 rfl rfl 21 (by decide) (mm_h hts mm_w153) (fun _ h9 => h9) rfl dX12_copyBook_55 ?_
  refine lv_bipush (v := 6) hx hb dX12_copyBook_58 (by decide) ?_
  refine lv_iload_n hx hb dX12_copyBook_60 rfl (lv_at hl 1 rfl) ?_
  refine lv_iload_n hx hb dX12_copyBook_61 rfl (lv_at hl 2 rfl) ?_
  refine mm_finv (va_runS (As := [.ref a_11, .int 6, .int 1, .int 0]) (rest := []) ⟨hx, hb, hml, hown, hts⟩ (M356_X12_copyRow l G cy H.size a_11 f_3 h38) (va_cwS 4 hts (mm_gS mm_w557 mm_w558 mm_w5 mm_w559) rfl rfl rfl hs_X12_copyRow ⟨by rw [hRf]; exact Nat.le_of_ble_eq_true rfl, by rw [hRl]; exact Nat.le_of_ble_eq_true rfl⟩) (mm_preS hK hZ hS hA hP hD [6] rfl rfl) rfl rfl hl.1 rfl (lv_room (Nat.le_of_ble_eq_true rfl)) dX12_copyBook_62 ⟨by rw [hRc]; exact Nat.le_of_ble_eq_true rfl, by rw [hRs]; exact Nat.le_of_ble_eq_true rfl⟩) hP hD hS hA (fun u : (Nat → Int32) => [(a_0, .inr (12, [.int i_0, .ref a_1, .ref a_2, .ref a_3, .ref a_4, .ref a_5, .int i_1, .int i_2, .int i_3, .int i_4, .int i_5, .long j_0, .int i_6, .int i_7, .int i_8, .int i_9, .ref a_6, .ref a_7, .ref a_8, .ref a_9, .ref a_10, .ref a_11, .ref a_12, .ref a_13, .ref a_14, .ref a_15, .ref a_16, .ref a_17, .ref a_18, .int i_10, .int i_11, .int i_12, .int i_13, .int i_14, .int i_15, .ref a_19, .int i_16, .ref a_20])), (a_6, .inl (cy 1, 5, .inl (mm_g [i_18, i_18, i_19, i_20, i_21]))), (a_7, .inl (cy 1, 30, .inl (mm_g [i_28, i_29, i_30, i_31, i_32, i_33, i_28, i_29, i_30, i_31, i_32, i_33, i_34, i_35, i_36, i_37, i_38, i_39, i_40, i_41, i_42, i_43, i_44, i_45, i_46, i_47, i_48, i_49, i_50, i_51]))), (a_8, .inl (cy 1, 90, .inl n1)), (a_9, .inl (cy 1, 15, .inl n4)), (a_10, .inl (cy 1, 1050, .inl n7)), (a_11, .inl (cy 1, 30, .inl u)), (a_12, .inl (cy 1, 240, .inl f_4)), (a_13, .inl (cy 1, 450, .inl f_5))]) [6] [0, 1, 2, 3, 4, 5, 7, 8] (n := 9) (fun _ => rfl) (by decide +kernel) (by decide +kernel) rfl (fun _ => rfl) (wr := [(a_0, .inr (12, [.int i_0, .ref a_1, .ref a_2, .ref a_3, .ref a_4, .ref a_5, .int i_1, .int i_2, .int i_3, .int i_4, .int i_5, .long j_0, .int i_6, .int i_7, .int i_8, .int i_9, .ref a_6, .ref a_7, .ref a_8, .ref a_9, .ref a_10, .ref a_11, .ref a_12, .ref a_13, .ref a_14, .ref a_15, .ref a_16, .ref a_17, .ref a_18, .int i_10, .int i_11, .int i_12, .int i_13, .int i_14, .int i_15, .ref a_19, .int i_16, .ref a_20])), (a_6, .inl (cy 1, 5, .inl (mm_g [i_18, i_18, i_19, i_20, i_21]))), (a_7, .inl (cy 1, 30, .inl (mm_g [i_28, i_29, i_30, i_31, i_32, i_33, i_28, i_29, i_30, i_31, i_32, i_33, i_34, i_35, i_36, i_37, i_38, i_39, i_40, i_41, i_42, i_43, i_44, i_45, i_46, i_47, i_48, i_49, i_50, i_51]))), (a_8, .inl (cy 1, 90, .inl n1)), (a_9, .inl (cy 1, 15, .inl n4)), (a_10, .inl (cy 1, 1050, .inl n7)), (a_12, .inl (cy 1, 240, .inl f_4)), (a_13, .inl (cy 1, 450, .inl f_5))]) rfl (fun _ => rfl) (fun _ => rfl) ?_
  clear hP hD hS
  clear H locs
  intro n10 H locs hw (hP : va_P G vwCl [(a_0, .inr (12, [.int i_0, .ref a_1, .ref a_2, .ref a_3, .ref a_4, .ref a_5, .int i_1, .int i_2, .int i_3, .int i_4, .int i_5, .long j_0, .int i_6, .int i_7, .int i_8, .int i_9, .ref a_6, .ref a_7, .ref a_8, .ref a_9, .ref a_10, .ref a_11, .ref a_12, .ref a_13, .ref a_14, .ref a_15, .ref a_16, .ref a_17, .ref a_18, .int i_10, .int i_11, .int i_12, .int i_13, .int i_14, .int i_15, .ref a_19, .int i_16, .ref a_20])), (a_6, .inl (cy 1, 5, .inl (mm_g [i_18, i_18, i_19, i_20, i_21]))), (a_7, .inl (cy 1, 30, .inl (mm_g [i_28, i_29, i_30, i_31, i_32, i_33, i_28, i_29, i_30, i_31, i_32, i_33, i_34, i_35, i_36, i_37, i_38, i_39, i_40, i_41, i_42, i_43, i_44, i_45, i_46, i_47, i_48, i_49, i_50, i_51]))), (a_8, .inl (cy 1, 90, .inl n1)), (a_9, .inl (cy 1, 15, .inl n4)), (a_10, .inl (cy 1, 1050, .inl n7)), (a_11, .inl (cy 1, 30, .inl n10)), (a_12, .inl (cy 1, 240, .inl f_4)), (a_13, .inl (cy 1, 450, .inl f_5))] H) (hD : va_D A [(a_0, .inr (12, [.int i_0, .ref a_1, .ref a_2, .ref a_3, .ref a_4, .ref a_5, .int i_1, .int i_2, .int i_3, .int i_4, .int i_5, .long j_0, .int i_6, .int i_7, .int i_8, .int i_9, .ref a_6, .ref a_7, .ref a_8, .ref a_9, .ref a_10, .ref a_11, .ref a_12, .ref a_13, .ref a_14, .ref a_15, .ref a_16, .ref a_17, .ref a_18, .int i_10, .int i_11, .int i_12, .int i_13, .int i_14, .int i_15, .ref a_19, .int i_16, .ref a_20])), (a_6, .inl (cy 1, 5, .inl (mm_g [i_18, i_18, i_19, i_20, i_21]))), (a_7, .inl (cy 1, 30, .inl (mm_g [i_28, i_29, i_30, i_31, i_32, i_33, i_28, i_29, i_30, i_31, i_32, i_33, i_34, i_35, i_36, i_37, i_38, i_39, i_40, i_41, i_42, i_43, i_44, i_45, i_46, i_47, i_48, i_49, i_50, i_51]))), (a_8, .inl (cy 1, 90, .inl n1)), (a_9, .inl (cy 1, 15, .inl n4)), (a_10, .inl (cy 1, 1050, .inl n7)), (a_11, .inl (cy 1, 30, .inl n10)), (a_12, .inl (cy 1, 240, .inl f_4)), (a_13, .inl (cy 1, 450, .inl f_5))]) hS
  obtain ⟨w11, w12⟩ := hw
  refine lv_aload_n hx hb dX12_copyBook_65 rfl (lv_at hl 0 rfl) ?_
  refine va_get (D := G) (ci := 12) (v := .ref a_12) (C := RX12) (T := TX12) (N := 38) hx hb hts (mm_i inlX12) hown hK.1 hP 0 rfl rfl 22 (by decide) (mm_h hts mm_w154) (fun _ h9 => h9) rfl dX12_copyBook_66 ?_
  refine lv_bipush (v := 48) hx hb dX12_copyBook_69 (by decide) ?_
  refine lv_iload_n hx hb dX12_copyBook_71 rfl (lv_at hl 1 rfl) ?_
  refine lv_iload_n hx hb dX12_copyBook_72 rfl (lv_at hl 2 rfl) ?_
  refine mm_finv (va_runS (As := [.ref a_12, .int 48, .int 1, .int 0]) (rest := []) ⟨hx, hb, hml, hown, hts⟩ (M357_X12_copyRow l G cy H.size a_12 f_4 h39) (va_cwS 4 hts (mm_gS mm_w557 mm_w558 mm_w5 mm_w559) rfl rfl rfl hs_X12_copyRow ⟨by rw [hRf]; exact Nat.le_of_ble_eq_true rfl, by rw [hRl]; exact Nat.le_of_ble_eq_true rfl⟩) (mm_preS hK hZ hS hA hP hD [7] rfl rfl) rfl rfl hl.1 rfl (lv_room (Nat.le_of_ble_eq_true rfl)) dX12_copyBook_73 ⟨by rw [hRc]; exact Nat.le_of_ble_eq_true rfl, by rw [hRs]; exact Nat.le_of_ble_eq_true rfl⟩) hP hD hS hA (fun u : (Nat → Int32) => [(a_0, .inr (12, [.int i_0, .ref a_1, .ref a_2, .ref a_3, .ref a_4, .ref a_5, .int i_1, .int i_2, .int i_3, .int i_4, .int i_5, .long j_0, .int i_6, .int i_7, .int i_8, .int i_9, .ref a_6, .ref a_7, .ref a_8, .ref a_9, .ref a_10, .ref a_11, .ref a_12, .ref a_13, .ref a_14, .ref a_15, .ref a_16, .ref a_17, .ref a_18, .int i_10, .int i_11, .int i_12, .int i_13, .int i_14, .int i_15, .ref a_19, .int i_16, .ref a_20])), (a_6, .inl (cy 1, 5, .inl (mm_g [i_18, i_18, i_19, i_20, i_21]))), (a_7, .inl (cy 1, 30, .inl (mm_g [i_28, i_29, i_30, i_31, i_32, i_33, i_28, i_29, i_30, i_31, i_32, i_33, i_34, i_35, i_36, i_37, i_38, i_39, i_40, i_41, i_42, i_43, i_44, i_45, i_46, i_47, i_48, i_49, i_50, i_51]))), (a_8, .inl (cy 1, 90, .inl n1)), (a_9, .inl (cy 1, 15, .inl n4)), (a_10, .inl (cy 1, 1050, .inl n7)), (a_11, .inl (cy 1, 30, .inl n10)), (a_12, .inl (cy 1, 240, .inl u)), (a_13, .inl (cy 1, 450, .inl f_5))]) [7] [0, 1, 2, 3, 4, 5, 6, 8] (n := 9) (fun _ => rfl) (by decide +kernel) (by decide +kernel) rfl (fun _ => rfl) (wr := [(a_0, .inr (12, [.int i_0, .ref a_1, .ref a_2, .ref a_3, .ref a_4, .ref a_5, .int i_1, .int i_2, .int i_3, .int i_4, .int i_5, .long j_0, .int i_6, .int i_7, .int i_8, .int i_9, .ref a_6, .ref a_7, .ref a_8, .ref a_9, .ref a_10, .ref a_11, .ref a_12, .ref a_13, .ref a_14, .ref a_15, .ref a_16, .ref a_17, .ref a_18, .int i_10, .int i_11, .int i_12, .int i_13, .int i_14, .int i_15, .ref a_19, .int i_16, .ref a_20])), (a_6, .inl (cy 1, 5, .inl (mm_g [i_18, i_18, i_19, i_20, i_21]))), (a_7, .inl (cy 1, 30, .inl (mm_g [i_28, i_29, i_30, i_31, i_32, i_33, i_28, i_29, i_30, i_31, i_32, i_33, i_34, i_35, i_36, i_37, i_38, i_39, i_40, i_41, i_42, i_43, i_44, i_45, i_46, i_47, i_48, i_49, i_50, i_51]))), (a_8, .inl (cy 1, 90, .inl n1)), (a_9, .inl (cy 1, 15, .inl n4)), (a_10, .inl (cy 1, 1050, .inl n7)), (a_11, .inl (cy 1, 30, .inl n10)), (a_13, .inl (cy 1, 450, .inl f_5))]) rfl (fun _ => rfl) (fun _ => rfl) ?_
  clear hP hD hS
  clear H locs
  intro n13 H locs hw (hP : va_P G vwCl [(a_0, .inr (12, [.int i_0, .ref a_1, .ref a_2, .ref a_3, .ref a_4, .ref a_5, .int i_1, .int i_2, .int i_3, .int i_4, .int i_5, .long j_0, .int i_6, .int i_7, .int i_8, .int i_9, .ref a_6, .ref a_7, .ref a_8, .ref a_9, .ref a_10, .ref a_11, .ref a_12, .ref a_13, .ref a_14, .ref a_15, .ref a_16, .ref a_17, .ref a_18, .int i_10, .int i_11, .int i_12, .int i_13, .int i_14, .int i_15, .ref a_19, .int i_16, .ref a_20])), (a_6, .inl (cy 1, 5, .inl (mm_g [i_18, i_18, i_19, i_20, i_21]))), (a_7, .inl (cy 1, 30, .inl (mm_g [i_28, i_29, i_30, i_31, i_32, i_33, i_28, i_29, i_30, i_31, i_32, i_33, i_34, i_35, i_36, i_37, i_38, i_39, i_40, i_41, i_42, i_43, i_44, i_45, i_46, i_47, i_48, i_49, i_50, i_51]))), (a_8, .inl (cy 1, 90, .inl n1)), (a_9, .inl (cy 1, 15, .inl n4)), (a_10, .inl (cy 1, 1050, .inl n7)), (a_11, .inl (cy 1, 30, .inl n10)), (a_12, .inl (cy 1, 240, .inl n13)), (a_13, .inl (cy 1, 450, .inl f_5))] H) (hD : va_D A [(a_0, .inr (12, [.int i_0, .ref a_1, .ref a_2, .ref a_3, .ref a_4, .ref a_5, .int i_1, .int i_2, .int i_3, .int i_4, .int i_5, .long j_0, .int i_6, .int i_7, .int i_8, .int i_9, .ref a_6, .ref a_7, .ref a_8, .ref a_9, .ref a_10, .ref a_11, .ref a_12, .ref a_13, .ref a_14, .ref a_15, .ref a_16, .ref a_17, .ref a_18, .int i_10, .int i_11, .int i_12, .int i_13, .int i_14, .int i_15, .ref a_19, .int i_16, .ref a_20])), (a_6, .inl (cy 1, 5, .inl (mm_g [i_18, i_18, i_19, i_20, i_21]))), (a_7, .inl (cy 1, 30, .inl (mm_g [i_28, i_29, i_30, i_31, i_32, i_33, i_28, i_29, i_30, i_31, i_32, i_33, i_34, i_35, i_36, i_37, i_38, i_39, i_40, i_41, i_42, i_43, i_44, i_45, i_46, i_47, i_48, i_49, i_50, i_51]))), (a_8, .inl (cy 1, 90, .inl n1)), (a_9, .inl (cy 1, 15, .inl n4)), (a_10, .inl (cy 1, 1050, .inl n7)), (a_11, .inl (cy 1, 30, .inl n10)), (a_12, .inl (cy 1, 240, .inl n13)), (a_13, .inl (cy 1, 450, .inl f_5))]) hS
  obtain ⟨w14, w15⟩ := hw
  refine lv_aload_n hx hb dX12_copyBook_76 rfl (lv_at hl 0 rfl) ?_
  refine va_get (D := G) (ci := 12) (v := .ref a_13) (C := RX12) (T := TX12) (N := 38) hx hb hts (mm_i inlX12) hown hK.1 hP 0 rfl rfl 23 (by decide) (mm_h hts mm_w155) (fun _ h9 => h9) rfl dX12_copyBook_77 ?_
  refine lv_bipush (v := 90) hx hb dX12_copyBook_80 (by decide) ?_
  refine lv_iload_n hx hb dX12_copyBook_82 rfl (lv_at hl 1 rfl) ?_
  refine lv_iload_n hx hb dX12_copyBook_83 rfl (lv_at hl 2 rfl) ?_
  refine mm_finv (va_runS (As := [.ref a_13, .int 90, .int 1, .int 0]) (rest := []) ⟨hx, hb, hml, hown, hts⟩ (M358_X12_copyRow l G cy H.size a_13 f_5 h40) (va_cwS 4 hts (mm_gS mm_w557 mm_w558 mm_w5 mm_w559) rfl rfl rfl hs_X12_copyRow ⟨by rw [hRf]; exact Nat.le_of_ble_eq_true rfl, by rw [hRl]; exact Nat.le_of_ble_eq_true rfl⟩) (mm_preS hK hZ hS hA hP hD [8] rfl rfl) rfl rfl hl.1 rfl (lv_room (Nat.le_of_ble_eq_true rfl)) dX12_copyBook_84 ⟨by rw [hRc]; exact Nat.le_of_ble_eq_true rfl, by rw [hRs]; exact Nat.le_of_ble_eq_true rfl⟩) hP hD hS hA (fun u : (Nat → Int32) => [(a_0, .inr (12, [.int i_0, .ref a_1, .ref a_2, .ref a_3, .ref a_4, .ref a_5, .int i_1, .int i_2, .int i_3, .int i_4, .int i_5, .long j_0, .int i_6, .int i_7, .int i_8, .int i_9, .ref a_6, .ref a_7, .ref a_8, .ref a_9, .ref a_10, .ref a_11, .ref a_12, .ref a_13, .ref a_14, .ref a_15, .ref a_16, .ref a_17, .ref a_18, .int i_10, .int i_11, .int i_12, .int i_13, .int i_14, .int i_15, .ref a_19, .int i_16, .ref a_20])), (a_6, .inl (cy 1, 5, .inl (mm_g [i_18, i_18, i_19, i_20, i_21]))), (a_7, .inl (cy 1, 30, .inl (mm_g [i_28, i_29, i_30, i_31, i_32, i_33, i_28, i_29, i_30, i_31, i_32, i_33, i_34, i_35, i_36, i_37, i_38, i_39, i_40, i_41, i_42, i_43, i_44, i_45, i_46, i_47, i_48, i_49, i_50, i_51]))), (a_8, .inl (cy 1, 90, .inl n1)), (a_9, .inl (cy 1, 15, .inl n4)), (a_10, .inl (cy 1, 1050, .inl n7)), (a_11, .inl (cy 1, 30, .inl n10)), (a_12, .inl (cy 1, 240, .inl n13)), (a_13, .inl (cy 1, 450, .inl u))]) [8] [0, 1, 2, 3, 4, 5, 6, 7] (n := 9) (fun _ => rfl) (by decide +kernel) (by decide +kernel) rfl (fun _ => rfl) (wr := [(a_0, .inr (12, [.int i_0, .ref a_1, .ref a_2, .ref a_3, .ref a_4, .ref a_5, .int i_1, .int i_2, .int i_3, .int i_4, .int i_5, .long j_0, .int i_6, .int i_7, .int i_8, .int i_9, .ref a_6, .ref a_7, .ref a_8, .ref a_9, .ref a_10, .ref a_11, .ref a_12, .ref a_13, .ref a_14, .ref a_15, .ref a_16, .ref a_17, .ref a_18, .int i_10, .int i_11, .int i_12, .int i_13, .int i_14, .int i_15, .ref a_19, .int i_16, .ref a_20])), (a_6, .inl (cy 1, 5, .inl (mm_g [i_18, i_18, i_19, i_20, i_21]))), (a_7, .inl (cy 1, 30, .inl (mm_g [i_28, i_29, i_30, i_31, i_32, i_33, i_28, i_29, i_30, i_31, i_32, i_33, i_34, i_35, i_36, i_37, i_38, i_39, i_40, i_41, i_42, i_43, i_44, i_45, i_46, i_47, i_48, i_49, i_50, i_51]))), (a_8, .inl (cy 1, 90, .inl n1)), (a_9, .inl (cy 1, 15, .inl n4)), (a_10, .inl (cy 1, 1050, .inl n7)), (a_11, .inl (cy 1, 30, .inl n10)), (a_12, .inl (cy 1, 240, .inl n13))]) rfl (fun _ => rfl) (fun _ => rfl) ?_
  clear hP hD hS
  clear H locs
  intro n16 H locs hw (hP : va_P G vwCl [(a_0, .inr (12, [.int i_0, .ref a_1, .ref a_2, .ref a_3, .ref a_4, .ref a_5, .int i_1, .int i_2, .int i_3, .int i_4, .int i_5, .long j_0, .int i_6, .int i_7, .int i_8, .int i_9, .ref a_6, .ref a_7, .ref a_8, .ref a_9, .ref a_10, .ref a_11, .ref a_12, .ref a_13, .ref a_14, .ref a_15, .ref a_16, .ref a_17, .ref a_18, .int i_10, .int i_11, .int i_12, .int i_13, .int i_14, .int i_15, .ref a_19, .int i_16, .ref a_20])), (a_6, .inl (cy 1, 5, .inl (mm_g [i_18, i_18, i_19, i_20, i_21]))), (a_7, .inl (cy 1, 30, .inl (mm_g [i_28, i_29, i_30, i_31, i_32, i_33, i_28, i_29, i_30, i_31, i_32, i_33, i_34, i_35, i_36, i_37, i_38, i_39, i_40, i_41, i_42, i_43, i_44, i_45, i_46, i_47, i_48, i_49, i_50, i_51]))), (a_8, .inl (cy 1, 90, .inl n1)), (a_9, .inl (cy 1, 15, .inl n4)), (a_10, .inl (cy 1, 1050, .inl n7)), (a_11, .inl (cy 1, 30, .inl n10)), (a_12, .inl (cy 1, 240, .inl n13)), (a_13, .inl (cy 1, 450, .inl n16))] H) (hD : va_D A [(a_0, .inr (12, [.int i_0, .ref a_1, .ref a_2, .ref a_3, .ref a_4, .ref a_5, .int i_1, .int i_2, .int i_3, .int i_4, .int i_5, .long j_0, .int i_6, .int i_7, .int i_8, .int i_9, .ref a_6, .ref a_7, .ref a_8, .ref a_9, .ref a_10, .ref a_11, .ref a_12, .ref a_13, .ref a_14, .ref a_15, .ref a_16, .ref a_17, .ref a_18, .int i_10, .int i_11, .int i_12, .int i_13, .int i_14, .int i_15, .ref a_19, .int i_16, .ref a_20])), (a_6, .inl (cy 1, 5, .inl (mm_g [i_18, i_18, i_19, i_20, i_21]))), (a_7, .inl (cy 1, 30, .inl (mm_g [i_28, i_29, i_30, i_31, i_32, i_33, i_28, i_29, i_30, i_31, i_32, i_33, i_34, i_35, i_36, i_37, i_38, i_39, i_40, i_41, i_42, i_43, i_44, i_45, i_46, i_47, i_48, i_49, i_50, i_51]))), (a_8, .inl (cy 1, 90, .inl n1)), (a_9, .inl (cy 1, 15, .inl n4)), (a_10, .inl (cy 1, 1050, .inl n7)), (a_11, .inl (cy 1, 30, .inl n10)), (a_12, .inl (cy 1, 240, .inl n13)), (a_13, .inl (cy 1, 450, .inl n16))]) hS
  obtain ⟨w17, w18⟩ := hw
  have w19 : mm_rls n4 n7 0 i_30 i_31 := (mm_rls_cp h45 w6 w9)
  have w20 : mm_txs n10 n13 0 i_30 i_32 := (mm_txs_cp h46 w12 w15)
  have w21 : mm_acs n16 0 i_30 i_31 i_33 := (mm_acs_cp h47 w18)
  have w22 : mm_rls n4 n7 1 i_30 i_31 := (mm_rls_ck h45 w6 w9 (by decide))
  have w23 : mm_txs n10 n13 1 i_30 i_32 := (mm_txs_ck h46 w12 w15 (by decide))
  have w24 : mm_acs n16 1 i_30 i_31 i_33 := (mm_acs_ck h47 w18 (by decide))
  have w25 : mm_rls n4 n7 2 i_36 i_37 := (mm_rls_ck h49 w6 w9 (by decide))
  have w26 : mm_txs n10 n13 2 i_36 i_38 := (mm_txs_ck h50 w12 w15 (by decide))
  have w27 : mm_acs n16 2 i_36 i_37 i_39 := (mm_acs_ck h51 w18 (by decide))
  have w28 : mm_rls n4 n7 3 i_42 i_43 := (mm_rls_ck h53 w6 w9 (by decide))
  have w29 : mm_txs n10 n13 3 i_42 i_44 := (mm_txs_ck h54 w12 w15 (by decide))
  have w30 : mm_acs n16 3 i_42 i_43 i_45 := (mm_acs_ck h55 w18 (by decide))
  subst hAe
  rw [hQ]
  exact W.vret hx hb hr (fun t ht hW => ⟨⟨(n1, n4, n7, n10, n13, n16), rfl, ⟨w2, w5, w8, w11, w14, w17, w19, w20, w21, w22, w23, w24, w25, w26, w27, w28, w29, w30⟩, by rw [ht]; exact hP, hK.warm hW, hD⟩, hS.F ht⟩) hS.2.2 dX12_copyBook_87

set_option maxHeartbeats 4000000 in
set_option maxRecDepth 100000 in
theorem M360_X12_copyRow (l : Launch) (G : va_G) (cy : Nat → ClassId) (sz : Nat) (a_0 : Nat) (i_0 : Int32) (i_1 : Int32) (i_2 : Int32) (i_3 : Int32) (i_4 : Int32) (h0 : mm_rg i_0 0 601) (h1 : mm_rg i_1 0 601) (h2 : mm_rg i_2 0 601) (h3 : mm_rg i_3 0 601) (h4 : mm_rg i_4 0 601)  : mm_CV l yX12_copyRow (mm_ws yX12_copyRow cX12_copyRow 5 (none)) ({ frames := 0, cells := 0, slots := 0, locals := 0 } : Room) G cy sz [(a_0, .inl (cy 1, 5, .inl (mm_g [i_0, i_1, i_2, i_3, i_4])))] [.ref a_0, .int 1, .int 2, .int 0] (fun u : Unit => [(a_0, .inl (cy 1, 5, .inl (mm_g [i_2, i_1, i_2, i_3, i_4])))]) (fun u : Unit => True) 0 0 := by
  refine mm_begin (lv := [(0, .ref a_0), (1, .int 1), (2, .int 2), (3, .int 0)]) (by decide) (Nat.le_of_ble_eq_true rfl) rfl ?_
  intro p e s m below meth c A ls R args Q H locs hRe hQ hAe hx hb hr hlocks hml hown hnm hts hsz hA hS hP hK hD hZ hl
  have hRf : R.frames = 0 := by rw [hRe]
  have hRl : R.locals = 0 := by rw [hRe]
  have hRc : R.cells = 0 := by rw [hRe]
  have hRs : R.slots = 0 := by rw [hRe]
  refine lv_iconst (v := 0) hx hb dX12_copyRow_0 (by decide) ?_
  refine lv_istore (lv' := [(4, .int 0), (0, .ref a_0), (1, .int 1), (2, .int 2), (3, .int 0)]) hx hb dX12_copyRow_1 hl (by decide) rfl ?_
  clear hl
  clear ls
  intro ls hl
  refine lv_iload hx hb dX12_copyRow_3 (lv_at hl 0 rfl) ?_
  refine lv_iload_n hx hb dX12_copyRow_5 rfl (lv_at hl 2 rfl) ?_
  refine lv_icmp_ge (tgt := 31) hx hb dX12_copyRow_6 (by decide) (fun c1 => ?_) (fun c1 => ?_)
  · have q2 := mm_leL (mm_le c1) mm_k1 mm_k0
    exact mm_no q2 (by decide)
  · refine lv_aload_n hx hb dX12_copyRow_9 rfl (lv_at hl 1 rfl) ?_
    refine lv_iload_n hx hb dX12_copyRow_10 rfl (lv_at hl 2 rfl) ?_
    refine lv_iload_n hx hb dX12_copyRow_11 rfl (lv_at hl 4 rfl) ?_
    refine lv_imul hx hb dX12_copyRow_12 ?_
    refine lv_topi (fun v3 ev3 => ?_)
    obtain rfl : v3 = 0 := ev3.trans (by decide)
    refine lv_iload hx hb dX12_copyRow_13 (lv_at hl 0 rfl) ?_
    refine lv_iadd hx hb dX12_copyRow_15 ?_
    refine lv_topi (fun v4 ev4 => ?_)
    obtain rfl : v4 = 0 := ev4.trans (by decide)
    refine lv_aload_n hx hb dX12_copyRow_16 rfl (lv_at hl 1 rfl) ?_
    refine lv_iload_n hx hb dX12_copyRow_17 rfl (lv_at hl 2 rfl) ?_
    refine lv_iload_n hx hb dX12_copyRow_18 rfl (lv_at hl 3 rfl) ?_
    refine lv_imul hx hb dX12_copyRow_19 ?_
    refine lv_topi (fun v5 ev5 => ?_)
    obtain rfl : v5 = 2 := ev5.trans (by decide)
    refine lv_iload hx hb dX12_copyRow_20 (lv_at hl 0 rfl) ?_
    refine lv_iadd hx hb dX12_copyRow_22 ?_
    refine lv_topi (fun v6 ev6 => ?_)
    obtain rfl : v6 = 2 := ev6.trans (by decide)
    refine va_iald hx hb hK.1 hP 0 1 rfl rfl (mm_in mm_k2 (by decide)) dX12_copyRow_23 ?_
    rw [show (mm_g [i_0, i_1, i_2, i_3, i_4]) (2 : Int32).toNatClampNeg = i_2 from mm_ge 2 (by decide) rfl]
    refine va_iast hx hb hK.1 hP hD hS 0 1 rfl rfl (mm_in mm_k0 (by decide)) dX12_copyRow_24 ?_
    clear hP hD hS
    clear H locs
    rw [show upd (mm_g [i_0, i_1, i_2, i_3, i_4]) (0 : Int32).toNatClampNeg i_2 = (mm_g [i_2, i_1, i_2, i_3, i_4]) from mm_gs2 0 5 (by decide) rfl rfl rfl]
    intro H locs (hP : va_P G vwCl [(a_0, .inl (cy 1, 5, .inl (mm_g [i_2, i_1, i_2, i_3, i_4])))] H) (hD : va_D A [(a_0, .inl (cy 1, 5, .inl (mm_g [i_2, i_1, i_2, i_3, i_4])))]) hS
    refine lv_iinc (v := 1) (lv' := [(4, .int 1), (0, .ref a_0), (1, .int 1), (2, .int 2), (3, .int 0)]) hx hb dX12_copyRow_25 hl (k := 0) rfl (by decide) (by decide) rfl ?_
    clear hl
    clear ls
    intro ls hl
    refine lv_goto (tgt := 3) hx hb dX12_copyRow_28 (by decide) ?_
    refine lv_iload hx hb dX12_copyRow_3 (lv_at hl 0 rfl) ?_
    refine lv_iload_n hx hb dX12_copyRow_5 rfl (lv_at hl 2 rfl) ?_
    refine lv_icmp_ge (tgt := 31) hx hb dX12_copyRow_6 (by decide) (fun c7 => ?_) (fun c7 => ?_)
    · subst hAe
      rw [hQ]
      exact W.vret hx hb hr (fun t ht hW => ⟨⟨(), rfl, trivial, by rw [ht]; exact hP, hK.warm hW, hD⟩, hS.F ht⟩) hS.2.2 dX12_copyRow_31
    · have q8 := mm_ltL (h := 0) (mm_nle c7) mm_k1 mm_k1 (by decide)
      exact mm_no q8 (by decide)

set_option maxHeartbeats 4000000 in
set_option maxRecDepth 100000 in
theorem M361_X12_copyRow (l : Launch) (G : va_G) (cy : Nat → ClassId) (sz : Nat) (a_0 : Nat) (i_0 : Int32) (i_1 : Int32) (i_2 : Int32) (i_3 : Int32) (i_4 : Int32) (i_5 : Int32) (i_6 : Int32) (i_7 : Int32) (i_8 : Int32) (i_9 : Int32) (i_10 : Int32) (i_11 : Int32) (i_12 : Int32) (i_13 : Int32) (i_14 : Int32) (i_15 : Int32) (i_16 : Int32) (i_17 : Int32) (i_18 : Int32) (i_19 : Int32) (i_20 : Int32) (i_21 : Int32) (i_22 : Int32) (i_23 : Int32) (i_24 : Int32) (i_25 : Int32) (i_26 : Int32) (i_27 : Int32) (i_28 : Int32) (i_29 : Int32) (h0 : mm_rg i_0 0 10) (h1 : mm_rg i_1 0 99) (h2 : mm_rg i_2 0 9) (h3 : mm_rg i_3 0 3) (h4 : mm_rg i_4 0 6) (h5 : mm_rg i_5 0 30) (h6 : mm_rg i_6 0 10) (h7 : mm_rg i_7 0 99) (h8 : mm_rg i_8 0 9) (h9 : mm_rg i_9 0 3) (h10 : mm_rg i_10 0 6) (h11 : mm_rg i_11 0 30) (h12 : mm_rg i_12 0 10) (h13 : mm_rg i_13 0 99) (h14 : mm_rg i_14 0 9) (h15 : mm_rg i_15 0 3) (h16 : mm_rg i_16 0 6) (h17 : mm_rg i_17 0 30) (h18 : mm_rg i_18 0 10) (h19 : mm_rg i_19 0 99) (h20 : mm_rg i_20 0 9) (h21 : mm_rg i_21 0 3) (h22 : mm_rg i_22 0 6) (h23 : mm_rg i_23 0 30) (h24 : mm_rg i_24 0 10) (h25 : mm_rg i_25 0 99) (h26 : mm_rg i_26 0 9) (h27 : mm_rg i_27 0 3) (h28 : mm_rg i_28 0 6) (h29 : mm_rg i_29 0 30)  : mm_CV l yX12_copyRow (mm_ws yX12_copyRow cX12_copyRow 5 (none)) ({ frames := 0, cells := 0, slots := 0, locals := 0 } : Room) G cy sz [(a_0, .inl (cy 1, 30, .inl (mm_g [i_0, i_1, i_2, i_3, i_4, i_5, i_6, i_7, i_8, i_9, i_10, i_11, i_12, i_13, i_14, i_15, i_16, i_17, i_18, i_19, i_20, i_21, i_22, i_23, i_24, i_25, i_26, i_27, i_28, i_29])))] [.ref a_0, .int 6, .int 2, .int 0] (fun u : Unit => [(a_0, .inl (cy 1, 30, .inl (mm_g [i_12, i_13, i_14, i_15, i_16, i_17, i_6, i_7, i_8, i_9, i_10, i_11, i_12, i_13, i_14, i_15, i_16, i_17, i_18, i_19, i_20, i_21, i_22, i_23, i_24, i_25, i_26, i_27, i_28, i_29])))]) (fun u : Unit => True) 0 0 := by
  refine mm_begin (lv := [(0, .ref a_0), (1, .int 6), (2, .int 2), (3, .int 0)]) (by decide) (Nat.le_of_ble_eq_true rfl) rfl ?_
  intro p e s m below meth c A ls R args Q H locs hRe hQ hAe hx hb hr hlocks hml hown hnm hts hsz hA hS hP hK hD hZ hl
  have hRf : R.frames = 0 := by rw [hRe]
  have hRl : R.locals = 0 := by rw [hRe]
  have hRc : R.cells = 0 := by rw [hRe]
  have hRs : R.slots = 0 := by rw [hRe]
  refine lv_iconst (v := 0) hx hb dX12_copyRow_0 (by decide) ?_
  refine lv_istore (lv' := [(4, .int 0), (0, .ref a_0), (1, .int 6), (2, .int 2), (3, .int 0)]) hx hb dX12_copyRow_1 hl (by decide) rfl ?_
  clear hl
  clear ls
  intro ls hl
  refine lv_iload hx hb dX12_copyRow_3 (lv_at hl 0 rfl) ?_
  refine lv_iload_n hx hb dX12_copyRow_5 rfl (lv_at hl 2 rfl) ?_
  refine lv_icmp_ge (tgt := 31) hx hb dX12_copyRow_6 (by decide) (fun c1 => ?_) (fun c1 => ?_)
  · have q2 := mm_leL (mm_le c1) mm_k6 mm_k0
    exact mm_no q2 (by decide)
  · refine lv_aload_n hx hb dX12_copyRow_9 rfl (lv_at hl 1 rfl) ?_
    refine lv_iload_n hx hb dX12_copyRow_10 rfl (lv_at hl 2 rfl) ?_
    refine lv_iload_n hx hb dX12_copyRow_11 rfl (lv_at hl 4 rfl) ?_
    refine lv_imul hx hb dX12_copyRow_12 ?_
    refine lv_topi (fun v3 ev3 => ?_)
    obtain rfl : v3 = 0 := ev3.trans (by decide)
    refine lv_iload hx hb dX12_copyRow_13 (lv_at hl 0 rfl) ?_
    refine lv_iadd hx hb dX12_copyRow_15 ?_
    refine lv_topi (fun v4 ev4 => ?_)
    obtain rfl : v4 = 0 := ev4.trans (by decide)
    refine lv_aload_n hx hb dX12_copyRow_16 rfl (lv_at hl 1 rfl) ?_
    refine lv_iload_n hx hb dX12_copyRow_17 rfl (lv_at hl 2 rfl) ?_
    refine lv_iload_n hx hb dX12_copyRow_18 rfl (lv_at hl 3 rfl) ?_
    refine lv_imul hx hb dX12_copyRow_19 ?_
    refine lv_topi (fun v5 ev5 => ?_)
    obtain rfl : v5 = 12 := ev5.trans (by decide)
    refine lv_iload hx hb dX12_copyRow_20 (lv_at hl 0 rfl) ?_
    refine lv_iadd hx hb dX12_copyRow_22 ?_
    refine lv_topi (fun v6 ev6 => ?_)
    obtain rfl : v6 = 12 := ev6.trans (by decide)
    refine va_iald hx hb hK.1 hP 0 1 rfl rfl (mm_in mm_k12 (by decide)) dX12_copyRow_23 ?_
    rw [show (mm_g [i_0, i_1, i_2, i_3, i_4, i_5, i_6, i_7, i_8, i_9, i_10, i_11, i_12, i_13, i_14, i_15, i_16, i_17, i_18, i_19, i_20, i_21, i_22, i_23, i_24, i_25, i_26, i_27, i_28, i_29]) (12 : Int32).toNatClampNeg = i_12 from mm_ge 12 (by decide) rfl]
    refine va_iast hx hb hK.1 hP hD hS 0 1 rfl rfl (mm_in mm_k0 (by decide)) dX12_copyRow_24 ?_
    clear hP hD hS
    clear H locs
    rw [show upd (mm_g [i_0, i_1, i_2, i_3, i_4, i_5, i_6, i_7, i_8, i_9, i_10, i_11, i_12, i_13, i_14, i_15, i_16, i_17, i_18, i_19, i_20, i_21, i_22, i_23, i_24, i_25, i_26, i_27, i_28, i_29]) (0 : Int32).toNatClampNeg i_12 = (mm_g [i_12, i_1, i_2, i_3, i_4, i_5, i_6, i_7, i_8, i_9, i_10, i_11, i_12, i_13, i_14, i_15, i_16, i_17, i_18, i_19, i_20, i_21, i_22, i_23, i_24, i_25, i_26, i_27, i_28, i_29]) from mm_gs2 0 30 (by decide) rfl rfl rfl]
    intro H locs (hP : va_P G vwCl [(a_0, .inl (cy 1, 30, .inl (mm_g [i_12, i_1, i_2, i_3, i_4, i_5, i_6, i_7, i_8, i_9, i_10, i_11, i_12, i_13, i_14, i_15, i_16, i_17, i_18, i_19, i_20, i_21, i_22, i_23, i_24, i_25, i_26, i_27, i_28, i_29])))] H) (hD : va_D A [(a_0, .inl (cy 1, 30, .inl (mm_g [i_12, i_1, i_2, i_3, i_4, i_5, i_6, i_7, i_8, i_9, i_10, i_11, i_12, i_13, i_14, i_15, i_16, i_17, i_18, i_19, i_20, i_21, i_22, i_23, i_24, i_25, i_26, i_27, i_28, i_29])))]) hS
    refine lv_iinc (v := 1) (lv' := [(4, .int 1), (0, .ref a_0), (1, .int 6), (2, .int 2), (3, .int 0)]) hx hb dX12_copyRow_25 hl (k := 0) rfl (by decide) (by decide) rfl ?_
    clear hl
    clear ls
    intro ls hl
    refine lv_goto (tgt := 3) hx hb dX12_copyRow_28 (by decide) ?_
    refine lv_iload hx hb dX12_copyRow_3 (lv_at hl 0 rfl) ?_
    refine lv_iload_n hx hb dX12_copyRow_5 rfl (lv_at hl 2 rfl) ?_
    refine lv_icmp_ge (tgt := 31) hx hb dX12_copyRow_6 (by decide) (fun c7 => ?_) (fun c7 => ?_)
    · have q8 := mm_leL (mm_le c7) mm_k6 mm_k1
      exact mm_no q8 (by decide)
    · refine lv_aload_n hx hb dX12_copyRow_9 rfl (lv_at hl 1 rfl) ?_
      refine lv_iload_n hx hb dX12_copyRow_10 rfl (lv_at hl 2 rfl) ?_
      refine lv_iload_n hx hb dX12_copyRow_11 rfl (lv_at hl 4 rfl) ?_
      refine lv_imul hx hb dX12_copyRow_12 ?_
      refine lv_topi (fun v9 ev9 => ?_)
      obtain rfl : v9 = 0 := ev9.trans (by decide)
      refine lv_iload hx hb dX12_copyRow_13 (lv_at hl 0 rfl) ?_
      refine lv_iadd hx hb dX12_copyRow_15 ?_
      refine lv_topi (fun v10 ev10 => ?_)
      obtain rfl : v10 = 1 := ev10.trans (by decide)
      refine lv_aload_n hx hb dX12_copyRow_16 rfl (lv_at hl 1 rfl) ?_
      refine lv_iload_n hx hb dX12_copyRow_17 rfl (lv_at hl 2 rfl) ?_
      refine lv_iload_n hx hb dX12_copyRow_18 rfl (lv_at hl 3 rfl) ?_
      refine lv_imul hx hb dX12_copyRow_19 ?_
      refine lv_topi (fun v11 ev11 => ?_)
      obtain rfl : v11 = 12 := ev11.trans (by decide)
      refine lv_iload hx hb dX12_copyRow_20 (lv_at hl 0 rfl) ?_
      refine lv_iadd hx hb dX12_copyRow_22 ?_
      refine lv_topi (fun v12 ev12 => ?_)
      obtain rfl : v12 = 13 := ev12.trans (by decide)
      refine va_iald hx hb hK.1 hP 0 1 rfl rfl (mm_in mm_k13 (by decide)) dX12_copyRow_23 ?_
      rw [show (mm_g [i_12, i_1, i_2, i_3, i_4, i_5, i_6, i_7, i_8, i_9, i_10, i_11, i_12, i_13, i_14, i_15, i_16, i_17, i_18, i_19, i_20, i_21, i_22, i_23, i_24, i_25, i_26, i_27, i_28, i_29]) (13 : Int32).toNatClampNeg = i_13 from mm_ge 13 (by decide) rfl]
      refine va_iast hx hb hK.1 hP hD hS 0 1 rfl rfl (mm_in mm_k1 (by decide)) dX12_copyRow_24 ?_
      clear hP hD hS
      clear H locs
      rw [show upd (mm_g [i_12, i_1, i_2, i_3, i_4, i_5, i_6, i_7, i_8, i_9, i_10, i_11, i_12, i_13, i_14, i_15, i_16, i_17, i_18, i_19, i_20, i_21, i_22, i_23, i_24, i_25, i_26, i_27, i_28, i_29]) (1 : Int32).toNatClampNeg i_13 = (mm_g [i_12, i_13, i_2, i_3, i_4, i_5, i_6, i_7, i_8, i_9, i_10, i_11, i_12, i_13, i_14, i_15, i_16, i_17, i_18, i_19, i_20, i_21, i_22, i_23, i_24, i_25, i_26, i_27, i_28, i_29]) from mm_gs2 1 30 (by decide) rfl rfl rfl]
      intro H locs (hP : va_P G vwCl [(a_0, .inl (cy 1, 30, .inl (mm_g [i_12, i_13, i_2, i_3, i_4, i_5, i_6, i_7, i_8, i_9, i_10, i_11, i_12, i_13, i_14, i_15, i_16, i_17, i_18, i_19, i_20, i_21, i_22, i_23, i_24, i_25, i_26, i_27, i_28, i_29])))] H) (hD : va_D A [(a_0, .inl (cy 1, 30, .inl (mm_g [i_12, i_13, i_2, i_3, i_4, i_5, i_6, i_7, i_8, i_9, i_10, i_11, i_12, i_13, i_14, i_15, i_16, i_17, i_18, i_19, i_20, i_21, i_22, i_23, i_24, i_25, i_26, i_27, i_28, i_29])))]) hS
      refine lv_iinc (v := 2) (lv' := [(4, .int 2), (0, .ref a_0), (1, .int 6), (2, .int 2), (3, .int 0)]) hx hb dX12_copyRow_25 hl (k := 0) rfl (by decide) (by decide) rfl ?_
      clear hl
      clear ls
      intro ls hl
      refine lv_goto (tgt := 3) hx hb dX12_copyRow_28 (by decide) ?_
      refine lv_iload hx hb dX12_copyRow_3 (lv_at hl 0 rfl) ?_
      refine lv_iload_n hx hb dX12_copyRow_5 rfl (lv_at hl 2 rfl) ?_
      refine lv_icmp_ge (tgt := 31) hx hb dX12_copyRow_6 (by decide) (fun c13 => ?_) (fun c13 => ?_)
      · have q14 := mm_leL (mm_le c13) mm_k6 mm_k2
        exact mm_no q14 (by decide)
      · refine lv_aload_n hx hb dX12_copyRow_9 rfl (lv_at hl 1 rfl) ?_
        refine lv_iload_n hx hb dX12_copyRow_10 rfl (lv_at hl 2 rfl) ?_
        refine lv_iload_n hx hb dX12_copyRow_11 rfl (lv_at hl 4 rfl) ?_
        refine lv_imul hx hb dX12_copyRow_12 ?_
        refine lv_topi (fun v15 ev15 => ?_)
        obtain rfl : v15 = 0 := ev15.trans (by decide)
        refine lv_iload hx hb dX12_copyRow_13 (lv_at hl 0 rfl) ?_
        refine lv_iadd hx hb dX12_copyRow_15 ?_
        refine lv_topi (fun v16 ev16 => ?_)
        obtain rfl : v16 = 2 := ev16.trans (by decide)
        refine lv_aload_n hx hb dX12_copyRow_16 rfl (lv_at hl 1 rfl) ?_
        refine lv_iload_n hx hb dX12_copyRow_17 rfl (lv_at hl 2 rfl) ?_
        refine lv_iload_n hx hb dX12_copyRow_18 rfl (lv_at hl 3 rfl) ?_
        refine lv_imul hx hb dX12_copyRow_19 ?_
        refine lv_topi (fun v17 ev17 => ?_)
        obtain rfl : v17 = 12 := ev17.trans (by decide)
        refine lv_iload hx hb dX12_copyRow_20 (lv_at hl 0 rfl) ?_
        refine lv_iadd hx hb dX12_copyRow_22 ?_
        refine lv_topi (fun v18 ev18 => ?_)
        obtain rfl : v18 = 14 := ev18.trans (by decide)
        refine va_iald hx hb hK.1 hP 0 1 rfl rfl (mm_in mm_k14 (by decide)) dX12_copyRow_23 ?_
        rw [show (mm_g [i_12, i_13, i_2, i_3, i_4, i_5, i_6, i_7, i_8, i_9, i_10, i_11, i_12, i_13, i_14, i_15, i_16, i_17, i_18, i_19, i_20, i_21, i_22, i_23, i_24, i_25, i_26, i_27, i_28, i_29]) (14 : Int32).toNatClampNeg = i_14 from mm_ge 14 (by decide) rfl]
        refine va_iast hx hb hK.1 hP hD hS 0 1 rfl rfl (mm_in mm_k2 (by decide)) dX12_copyRow_24 ?_
        clear hP hD hS
        clear H locs
        rw [show upd (mm_g [i_12, i_13, i_2, i_3, i_4, i_5, i_6, i_7, i_8, i_9, i_10, i_11, i_12, i_13, i_14, i_15, i_16, i_17, i_18, i_19, i_20, i_21, i_22, i_23, i_24, i_25, i_26, i_27, i_28, i_29]) (2 : Int32).toNatClampNeg i_14 = (mm_g [i_12, i_13, i_14, i_3, i_4, i_5, i_6, i_7, i_8, i_9, i_10, i_11, i_12, i_13, i_14, i_15, i_16, i_17, i_18, i_19, i_20, i_21, i_22, i_23, i_24, i_25, i_26, i_27, i_28, i_29]) from mm_gs2 2 30 (by decide) rfl rfl rfl]
        intro H locs (hP : va_P G vwCl [(a_0, .inl (cy 1, 30, .inl (mm_g [i_12, i_13, i_14, i_3, i_4, i_5, i_6, i_7, i_8, i_9, i_10, i_11, i_12, i_13, i_14, i_15, i_16, i_17, i_18, i_19, i_20, i_21, i_22, i_23, i_24, i_25, i_26, i_27, i_28, i_29])))] H) (hD : va_D A [(a_0, .inl (cy 1, 30, .inl (mm_g [i_12, i_13, i_14, i_3, i_4, i_5, i_6, i_7, i_8, i_9, i_10, i_11, i_12, i_13, i_14, i_15, i_16, i_17, i_18, i_19, i_20, i_21, i_22, i_23, i_24, i_25, i_26, i_27, i_28, i_29])))]) hS
        refine lv_iinc (v := 3) (lv' := [(4, .int 3), (0, .ref a_0), (1, .int 6), (2, .int 2), (3, .int 0)]) hx hb dX12_copyRow_25 hl (k := 0) rfl (by decide) (by decide) rfl ?_
        clear hl
        clear ls
        intro ls hl
        refine lv_goto (tgt := 3) hx hb dX12_copyRow_28 (by decide) ?_
        refine lv_iload hx hb dX12_copyRow_3 (lv_at hl 0 rfl) ?_
        refine lv_iload_n hx hb dX12_copyRow_5 rfl (lv_at hl 2 rfl) ?_
        refine lv_icmp_ge (tgt := 31) hx hb dX12_copyRow_6 (by decide) (fun c19 => ?_) (fun c19 => ?_)
        · have q20 := mm_leL (mm_le c19) mm_k6 mm_k3
          exact mm_no q20 (by decide)
        · refine lv_aload_n hx hb dX12_copyRow_9 rfl (lv_at hl 1 rfl) ?_
          refine lv_iload_n hx hb dX12_copyRow_10 rfl (lv_at hl 2 rfl) ?_
          refine lv_iload_n hx hb dX12_copyRow_11 rfl (lv_at hl 4 rfl) ?_
          refine lv_imul hx hb dX12_copyRow_12 ?_
          refine lv_topi (fun v21 ev21 => ?_)
          obtain rfl : v21 = 0 := ev21.trans (by decide)
          refine lv_iload hx hb dX12_copyRow_13 (lv_at hl 0 rfl) ?_
          refine lv_iadd hx hb dX12_copyRow_15 ?_
          refine lv_topi (fun v22 ev22 => ?_)
          obtain rfl : v22 = 3 := ev22.trans (by decide)
          refine lv_aload_n hx hb dX12_copyRow_16 rfl (lv_at hl 1 rfl) ?_
          refine lv_iload_n hx hb dX12_copyRow_17 rfl (lv_at hl 2 rfl) ?_
          refine lv_iload_n hx hb dX12_copyRow_18 rfl (lv_at hl 3 rfl) ?_
          refine lv_imul hx hb dX12_copyRow_19 ?_
          refine lv_topi (fun v23 ev23 => ?_)
          obtain rfl : v23 = 12 := ev23.trans (by decide)
          refine lv_iload hx hb dX12_copyRow_20 (lv_at hl 0 rfl) ?_
          refine lv_iadd hx hb dX12_copyRow_22 ?_
          refine lv_topi (fun v24 ev24 => ?_)
          obtain rfl : v24 = 15 := ev24.trans (by decide)
          refine va_iald hx hb hK.1 hP 0 1 rfl rfl (mm_in mm_k15 (by decide)) dX12_copyRow_23 ?_
          rw [show (mm_g [i_12, i_13, i_14, i_3, i_4, i_5, i_6, i_7, i_8, i_9, i_10, i_11, i_12, i_13, i_14, i_15, i_16, i_17, i_18, i_19, i_20, i_21, i_22, i_23, i_24, i_25, i_26, i_27, i_28, i_29]) (15 : Int32).toNatClampNeg = i_15 from mm_ge 15 (by decide) rfl]
          refine va_iast hx hb hK.1 hP hD hS 0 1 rfl rfl (mm_in mm_k3 (by decide)) dX12_copyRow_24 ?_
          clear hP hD hS
          clear H locs
          rw [show upd (mm_g [i_12, i_13, i_14, i_3, i_4, i_5, i_6, i_7, i_8, i_9, i_10, i_11, i_12, i_13, i_14, i_15, i_16, i_17, i_18, i_19, i_20, i_21, i_22, i_23, i_24, i_25, i_26, i_27, i_28, i_29]) (3 : Int32).toNatClampNeg i_15 = (mm_g [i_12, i_13, i_14, i_15, i_4, i_5, i_6, i_7, i_8, i_9, i_10, i_11, i_12, i_13, i_14, i_15, i_16, i_17, i_18, i_19, i_20, i_21, i_22, i_23, i_24, i_25, i_26, i_27, i_28, i_29]) from mm_gs2 3 30 (by decide) rfl rfl rfl]
          intro H locs (hP : va_P G vwCl [(a_0, .inl (cy 1, 30, .inl (mm_g [i_12, i_13, i_14, i_15, i_4, i_5, i_6, i_7, i_8, i_9, i_10, i_11, i_12, i_13, i_14, i_15, i_16, i_17, i_18, i_19, i_20, i_21, i_22, i_23, i_24, i_25, i_26, i_27, i_28, i_29])))] H) (hD : va_D A [(a_0, .inl (cy 1, 30, .inl (mm_g [i_12, i_13, i_14, i_15, i_4, i_5, i_6, i_7, i_8, i_9, i_10, i_11, i_12, i_13, i_14, i_15, i_16, i_17, i_18, i_19, i_20, i_21, i_22, i_23, i_24, i_25, i_26, i_27, i_28, i_29])))]) hS
          refine lv_iinc (v := 4) (lv' := [(4, .int 4), (0, .ref a_0), (1, .int 6), (2, .int 2), (3, .int 0)]) hx hb dX12_copyRow_25 hl (k := 0) rfl (by decide) (by decide) rfl ?_
          clear hl
          clear ls
          intro ls hl
          refine lv_goto (tgt := 3) hx hb dX12_copyRow_28 (by decide) ?_
          refine lv_iload hx hb dX12_copyRow_3 (lv_at hl 0 rfl) ?_
          refine lv_iload_n hx hb dX12_copyRow_5 rfl (lv_at hl 2 rfl) ?_
          refine lv_icmp_ge (tgt := 31) hx hb dX12_copyRow_6 (by decide) (fun c25 => ?_) (fun c25 => ?_)
          · have q26 := mm_leL (mm_le c25) mm_k6 mm_k4
            exact mm_no q26 (by decide)
          · refine lv_aload_n hx hb dX12_copyRow_9 rfl (lv_at hl 1 rfl) ?_
            refine lv_iload_n hx hb dX12_copyRow_10 rfl (lv_at hl 2 rfl) ?_
            refine lv_iload_n hx hb dX12_copyRow_11 rfl (lv_at hl 4 rfl) ?_
            refine lv_imul hx hb dX12_copyRow_12 ?_
            refine lv_topi (fun v27 ev27 => ?_)
            obtain rfl : v27 = 0 := ev27.trans (by decide)
            refine lv_iload hx hb dX12_copyRow_13 (lv_at hl 0 rfl) ?_
            refine lv_iadd hx hb dX12_copyRow_15 ?_
            refine lv_topi (fun v28 ev28 => ?_)
            obtain rfl : v28 = 4 := ev28.trans (by decide)
            refine lv_aload_n hx hb dX12_copyRow_16 rfl (lv_at hl 1 rfl) ?_
            refine lv_iload_n hx hb dX12_copyRow_17 rfl (lv_at hl 2 rfl) ?_
            refine lv_iload_n hx hb dX12_copyRow_18 rfl (lv_at hl 3 rfl) ?_
            refine lv_imul hx hb dX12_copyRow_19 ?_
            refine lv_topi (fun v29 ev29 => ?_)
            obtain rfl : v29 = 12 := ev29.trans (by decide)
            refine lv_iload hx hb dX12_copyRow_20 (lv_at hl 0 rfl) ?_
            refine lv_iadd hx hb dX12_copyRow_22 ?_
            refine lv_topi (fun v30 ev30 => ?_)
            obtain rfl : v30 = 16 := ev30.trans (by decide)
            refine va_iald hx hb hK.1 hP 0 1 rfl rfl (mm_in mm_k16 (by decide)) dX12_copyRow_23 ?_
            rw [show (mm_g [i_12, i_13, i_14, i_15, i_4, i_5, i_6, i_7, i_8, i_9, i_10, i_11, i_12, i_13, i_14, i_15, i_16, i_17, i_18, i_19, i_20, i_21, i_22, i_23, i_24, i_25, i_26, i_27, i_28, i_29]) (16 : Int32).toNatClampNeg = i_16 from mm_ge 16 (by decide) rfl]
            refine va_iast hx hb hK.1 hP hD hS 0 1 rfl rfl (mm_in mm_k4 (by decide)) dX12_copyRow_24 ?_
            clear hP hD hS
            clear H locs
            rw [show upd (mm_g [i_12, i_13, i_14, i_15, i_4, i_5, i_6, i_7, i_8, i_9, i_10, i_11, i_12, i_13, i_14, i_15, i_16, i_17, i_18, i_19, i_20, i_21, i_22, i_23, i_24, i_25, i_26, i_27, i_28, i_29]) (4 : Int32).toNatClampNeg i_16 = (mm_g [i_12, i_13, i_14, i_15, i_16, i_5, i_6, i_7, i_8, i_9, i_10, i_11, i_12, i_13, i_14, i_15, i_16, i_17, i_18, i_19, i_20, i_21, i_22, i_23, i_24, i_25, i_26, i_27, i_28, i_29]) from mm_gs2 4 30 (by decide) rfl rfl rfl]
            intro H locs (hP : va_P G vwCl [(a_0, .inl (cy 1, 30, .inl (mm_g [i_12, i_13, i_14, i_15, i_16, i_5, i_6, i_7, i_8, i_9, i_10, i_11, i_12, i_13, i_14, i_15, i_16, i_17, i_18, i_19, i_20, i_21, i_22, i_23, i_24, i_25, i_26, i_27, i_28, i_29])))] H) (hD : va_D A [(a_0, .inl (cy 1, 30, .inl (mm_g [i_12, i_13, i_14, i_15, i_16, i_5, i_6, i_7, i_8, i_9, i_10, i_11, i_12, i_13, i_14, i_15, i_16, i_17, i_18, i_19, i_20, i_21, i_22, i_23, i_24, i_25, i_26, i_27, i_28, i_29])))]) hS
            refine lv_iinc (v := 5) (lv' := [(4, .int 5), (0, .ref a_0), (1, .int 6), (2, .int 2), (3, .int 0)]) hx hb dX12_copyRow_25 hl (k := 0) rfl (by decide) (by decide) rfl ?_
            clear hl
            clear ls
            intro ls hl
            refine lv_goto (tgt := 3) hx hb dX12_copyRow_28 (by decide) ?_
            refine lv_iload hx hb dX12_copyRow_3 (lv_at hl 0 rfl) ?_
            refine lv_iload_n hx hb dX12_copyRow_5 rfl (lv_at hl 2 rfl) ?_
            refine lv_icmp_ge (tgt := 31) hx hb dX12_copyRow_6 (by decide) (fun c31 => ?_) (fun c31 => ?_)
            · have q32 := mm_leL (mm_le c31) mm_k6 mm_k5
              exact mm_no q32 (by decide)
            · refine lv_aload_n hx hb dX12_copyRow_9 rfl (lv_at hl 1 rfl) ?_
              refine lv_iload_n hx hb dX12_copyRow_10 rfl (lv_at hl 2 rfl) ?_
              refine lv_iload_n hx hb dX12_copyRow_11 rfl (lv_at hl 4 rfl) ?_
              refine lv_imul hx hb dX12_copyRow_12 ?_
              refine lv_topi (fun v33 ev33 => ?_)
              obtain rfl : v33 = 0 := ev33.trans (by decide)
              refine lv_iload hx hb dX12_copyRow_13 (lv_at hl 0 rfl) ?_
              refine lv_iadd hx hb dX12_copyRow_15 ?_
              refine lv_topi (fun v34 ev34 => ?_)
              obtain rfl : v34 = 5 := ev34.trans (by decide)
              refine lv_aload_n hx hb dX12_copyRow_16 rfl (lv_at hl 1 rfl) ?_
              refine lv_iload_n hx hb dX12_copyRow_17 rfl (lv_at hl 2 rfl) ?_
              refine lv_iload_n hx hb dX12_copyRow_18 rfl (lv_at hl 3 rfl) ?_
              refine lv_imul hx hb dX12_copyRow_19 ?_
              refine lv_topi (fun v35 ev35 => ?_)
              obtain rfl : v35 = 12 := ev35.trans (by decide)
              refine lv_iload hx hb dX12_copyRow_20 (lv_at hl 0 rfl) ?_
              refine lv_iadd hx hb dX12_copyRow_22 ?_
              refine lv_topi (fun v36 ev36 => ?_)
              obtain rfl : v36 = 17 := ev36.trans (by decide)
              refine va_iald hx hb hK.1 hP 0 1 rfl rfl (mm_in mm_k17 (by decide)) dX12_copyRow_23 ?_
              rw [show (mm_g [i_12, i_13, i_14, i_15, i_16, i_5, i_6, i_7, i_8, i_9, i_10, i_11, i_12, i_13, i_14, i_15, i_16, i_17, i_18, i_19, i_20, i_21, i_22, i_23, i_24, i_25, i_26, i_27, i_28, i_29]) (17 : Int32).toNatClampNeg = i_17 from mm_ge 17 (by decide) rfl]
              refine va_iast hx hb hK.1 hP hD hS 0 1 rfl rfl (mm_in mm_k5 (by decide)) dX12_copyRow_24 ?_
              clear hP hD hS
              clear H locs
              rw [show upd (mm_g [i_12, i_13, i_14, i_15, i_16, i_5, i_6, i_7, i_8, i_9, i_10, i_11, i_12, i_13, i_14, i_15, i_16, i_17, i_18, i_19, i_20, i_21, i_22, i_23, i_24, i_25, i_26, i_27, i_28, i_29]) (5 : Int32).toNatClampNeg i_17 = (mm_g [i_12, i_13, i_14, i_15, i_16, i_17, i_6, i_7, i_8, i_9, i_10, i_11, i_12, i_13, i_14, i_15, i_16, i_17, i_18, i_19, i_20, i_21, i_22, i_23, i_24, i_25, i_26, i_27, i_28, i_29]) from mm_gs2 5 30 (by decide) rfl rfl rfl]
              intro H locs (hP : va_P G vwCl [(a_0, .inl (cy 1, 30, .inl (mm_g [i_12, i_13, i_14, i_15, i_16, i_17, i_6, i_7, i_8, i_9, i_10, i_11, i_12, i_13, i_14, i_15, i_16, i_17, i_18, i_19, i_20, i_21, i_22, i_23, i_24, i_25, i_26, i_27, i_28, i_29])))] H) (hD : va_D A [(a_0, .inl (cy 1, 30, .inl (mm_g [i_12, i_13, i_14, i_15, i_16, i_17, i_6, i_7, i_8, i_9, i_10, i_11, i_12, i_13, i_14, i_15, i_16, i_17, i_18, i_19, i_20, i_21, i_22, i_23, i_24, i_25, i_26, i_27, i_28, i_29])))]) hS
              refine lv_iinc (v := 6) (lv' := [(4, .int 6), (0, .ref a_0), (1, .int 6), (2, .int 2), (3, .int 0)]) hx hb dX12_copyRow_25 hl (k := 0) rfl (by decide) (by decide) rfl ?_
              clear hl
              clear ls
              intro ls hl
              refine lv_goto (tgt := 3) hx hb dX12_copyRow_28 (by decide) ?_
              refine lv_iload hx hb dX12_copyRow_3 (lv_at hl 0 rfl) ?_
              refine lv_iload_n hx hb dX12_copyRow_5 rfl (lv_at hl 2 rfl) ?_
              refine lv_icmp_ge (tgt := 31) hx hb dX12_copyRow_6 (by decide) (fun c37 => ?_) (fun c37 => ?_)
              · subst hAe
                rw [hQ]
                exact W.vret hx hb hr (fun t ht hW => ⟨⟨(), rfl, trivial, by rw [ht]; exact hP, hK.warm hW, hD⟩, hS.F ht⟩) hS.2.2 dX12_copyRow_31
              · have q38 := mm_ltL (h := 5) (mm_nle c37) mm_k6 mm_k6 (by decide)
                exact mm_no q38 (by decide)

set_option maxHeartbeats 4000000 in
set_option maxRecDepth 100000 in
theorem M362_X12_copyRow (l : Launch) (G : va_G) (cy : Nat → ClassId) (sz : Nat) (a_0 : Nat) (f_0 : Nat → Int32) (h0 : mm_ar f_0 0 99)  : mm_CV l yX12_copyRow (mm_ws yX12_copyRow cX12_copyRow 5 (none)) ({ frames := 0, cells := 0, slots := 0, locals := 0 } : Room) G cy sz [(a_0, .inl (cy 1, 90, .inl f_0))] [.ref a_0, .int 18, .int 2, .int 0] (fun u : (Nat → Int32) => [(a_0, .inl (cy 1, 90, .inl u))]) (fun u : (Nat → Int32) => mm_ar u 0 99 ∧ mm_crw f_0 u 18 2 0) 0 0 := by
  refine mm_begin (lv := [(0, .ref a_0), (1, .int 18), (2, .int 2), (3, .int 0)]) (by decide) (Nat.le_of_ble_eq_true rfl) rfl ?_
  intro p e s m below meth c A ls R args Q H locs hRe hQ hAe hx hb hr hlocks hml hown hnm hts hsz hA hS hP hK hD hZ hl
  have hRf : R.frames = 0 := by rw [hRe]
  have hRl : R.locals = 0 := by rw [hRe]
  have hRc : R.cells = 0 := by rw [hRe]
  have hRs : R.slots = 0 := by rw [hRe]
  refine lv_iconst (v := 0) hx hb dX12_copyRow_0 (by decide) ?_
  refine lv_istore (lv' := [(4, .int 0), (0, .ref a_0), (1, .int 18), (2, .int 2), (3, .int 0)]) hx hb dX12_copyRow_1 hl (by decide) rfl ?_
  clear hl
  clear ls
  intro ls hl
  have L3_130 : ∀ (n : Nat) (x3_4_128 : Int32) (z3_0_129 : Nat → Int32), mm_rg x3_4_128 0 18 → mm_ar z3_0_129 0 99 → mm_crk f_0 z3_0_129 18 2 0 x3_4_128 → (18 - x3_4_128.toInt).toNat < n → ∀ (H : Heap) (locs : List Loc), va_P G vwCl [(a_0, .inl (cy 1, 90, .inl z3_0_129))] H → va_D A [(a_0, .inl (cy 1, 90, .inl z3_0_129))] → va_S A s.heap H locs → ∀ (ls : Array Slot), lv_has ls 5 [(4, .int x3_4_128), (0, .ref a_0), (1, .int 18), (2, .int 2), (3, .int 0)] → W p l e R s m args below meth c H locs 0 0 Q (F0 m 3 ls []) := by
    intro n
    induction n with
    | zero => intro x3_4_128 z3_0_129 rx3_4_128 rz3_0_129 w130 hm; exact absurd hm (Nat.not_lt_zero _)
    | succ n ih3 =>
      intro x3_4_128 z3_0_129 rx3_4_128 rz3_0_129 w130 hm3 H locs hP hD hS ls hl
      refine lv_iload hx hb dX12_copyRow_3 (lv_at hl 0 rfl) ?_
      refine lv_iload_n hx hb dX12_copyRow_5 rfl (lv_at hl 2 rfl) ?_
      refine lv_icmp_ge (tgt := 31) hx hb dX12_copyRow_6 (by decide) (fun c132 => ?_) (fun c132 => ?_)
      · have q133 := mm_leR (mm_le c132) mm_k18 rx3_4_128
        have w134 : mm_crw f_0 z3_0_129 18 2 0 := (mm_crw_of w130 q133 (by decide))
        subst hAe
        rw [hQ]
        exact W.vret hx hb hr (fun t ht hW => ⟨⟨z3_0_129, rfl, ⟨rz3_0_129, w134⟩, by rw [ht]; exact hP, hK.warm hW, hD⟩, hS.F ht⟩) hS.2.2 dX12_copyRow_31
      · have q135 := mm_ltL (h := 17) (mm_nle c132) rx3_4_128 mm_k18 (by decide)
        refine lv_aload_n hx hb dX12_copyRow_9 rfl (lv_at hl 1 rfl) ?_
        refine lv_iload_n hx hb dX12_copyRow_10 rfl (lv_at hl 2 rfl) ?_
        refine lv_iload_n hx hb dX12_copyRow_11 rfl (lv_at hl 4 rfl) ?_
        refine lv_imul hx hb dX12_copyRow_12 ?_
        refine lv_topi (fun v136 ev136 => ?_)
        obtain rfl : v136 = 0 := ev136.trans (by decide)
        refine lv_iload hx hb dX12_copyRow_13 (lv_at hl 0 rfl) ?_
        refine lv_iadd hx hb dX12_copyRow_15 ?_
        refine lv_topi (fun v137 ev137 => ?_)
        have rv137 : mm_rg v137 0 17 := mm_add ev137 mm_k0 q135 (by decide) (by decide)
        have tv137 := mm_addEd ev137 mm_k0 q135 (by decide) (k := 0) (by decide)
        refine lv_aload_n hx hb dX12_copyRow_16 rfl (lv_at hl 1 rfl) ?_
        refine lv_iload_n hx hb dX12_copyRow_17 rfl (lv_at hl 2 rfl) ?_
        refine lv_iload_n hx hb dX12_copyRow_18 rfl (lv_at hl 3 rfl) ?_
        refine lv_imul hx hb dX12_copyRow_19 ?_
        refine lv_topi (fun v138 ev138 => ?_)
        obtain rfl : v138 = 36 := ev138.trans (by decide)
        refine lv_iload hx hb dX12_copyRow_20 (lv_at hl 0 rfl) ?_
        refine lv_iadd hx hb dX12_copyRow_22 ?_
        refine lv_topi (fun v139 ev139 => ?_)
        have rv139 : mm_rg v139 36 53 := mm_add ev139 mm_k36 q135 (by decide) (by decide)
        have tv139 := mm_addEd ev139 mm_k36 q135 (by decide) (k := 36) (by decide)
        refine va_iald hx hb hK.1 hP 0 1 rfl rfl (mm_in rv139 (by decide)) dX12_copyRow_23 ?_
        refine lv_topi (fun v140 ev140 => ?_)
        have rv140 : mm_rg v140 0 99 := mm_eqv ev140 (rz3_0_129 _)
        refine va_iast hx hb hK.1 hP hD hS 0 1 rfl rfl (mm_in rv137 (by decide)) dX12_copyRow_24 ?_
        clear hP hD hS
        clear H locs
        obtain ⟨g141, eg141⟩ : ∃ z : Nat → Int32, z = upd z3_0_129 v137.toNatClampNeg v140 := ⟨_, rfl⟩
        rw [← eg141]
        intro H locs (hP : va_P G vwCl [(a_0, .inl (cy 1, 90, .inl g141))] H) (hD : va_D A [(a_0, .inl (cy 1, 90, .inl g141))]) hS
        have rg141 : mm_ar g141 0 99 := by rw [eg141]; exact mm_ar_upd (mm_ar_wk rz3_0_129 (by decide)) (mm_wk rv140 (by decide)) _
        obtain ⟨v142, ev142⟩ : ∃ y : Int32, y = x3_4_128 + 1 := ⟨_, rfl⟩
        refine lv_iinc (v := v142) (lv' := [(4, .int v142), (0, .ref a_0), (1, .int 18), (2, .int 2), (3, .int 0)]) hx hb dX12_copyRow_25 hl (k := 0) rfl (by rw [ev142]; rfl) (by decide) rfl ?_
        clear hl
        clear ls
        intro ls hl
        have rv142 : mm_rg v142 1 18 := mm_add ev142 q135 mm_k1 (by decide) (by decide)
        have tv142 := mm_addEc ev142 q135 mm_k1 (by decide) (k := 1) (by decide)
        refine lv_goto (tgt := 3) hx hb dX12_copyRow_28 (by decide) ?_
        exact ih3 v142 g141 (mm_wk rv142 (by decide)) rg141 (mm_crk_s w130 tv142 q135 eg141 ev140 (by have := tv137; omega) (by have := tv139; omega) (by decide)) (mm_mu hm3 tv142 (by decide) (rv142).2 (by decide)) H locs hP hD hS ls (lv_sub hl [0, 1, 2, 3, 4] rfl)
  exact L3_130 _ 0 f_0 (mm_wk mm_k0 (by decide)) h0 (mm_crk_0 _ _ _ _) (Nat.lt_succ_self _) H locs hP hD hS ls (lv_sub hl [0, 1, 2, 3, 4] rfl)

set_option maxHeartbeats 4000000 in
set_option maxRecDepth 100000 in
theorem M363_X12_copyRow (l : Launch) (G : va_G) (cy : Nat → ClassId) (sz : Nat) (a_0 : Nat) (f_0 : Nat → Int32) (h0 : mm_ar f_0 0 7)  : mm_CV l yX12_copyRow (mm_ws yX12_copyRow cX12_copyRow 5 (none)) ({ frames := 0, cells := 0, slots := 0, locals := 0 } : Room) G cy sz [(a_0, .inl (cy 1, 15, .inl f_0))] [.ref a_0, .int 3, .int 2, .int 0] (fun u : (Nat → Int32) => [(a_0, .inl (cy 1, 15, .inl u))]) (fun u : (Nat → Int32) => mm_ar u 0 7 ∧ mm_crw f_0 u 3 2 0) 0 0 := by
  refine mm_begin (lv := [(0, .ref a_0), (1, .int 3), (2, .int 2), (3, .int 0)]) (by decide) (Nat.le_of_ble_eq_true rfl) rfl ?_
  intro p e s m below meth c A ls R args Q H locs hRe hQ hAe hx hb hr hlocks hml hown hnm hts hsz hA hS hP hK hD hZ hl
  have hRf : R.frames = 0 := by rw [hRe]
  have hRl : R.locals = 0 := by rw [hRe]
  have hRc : R.cells = 0 := by rw [hRe]
  have hRs : R.slots = 0 := by rw [hRe]
  refine lv_iconst (v := 0) hx hb dX12_copyRow_0 (by decide) ?_
  refine lv_istore (lv' := [(4, .int 0), (0, .ref a_0), (1, .int 3), (2, .int 2), (3, .int 0)]) hx hb dX12_copyRow_1 hl (by decide) rfl ?_
  clear hl
  clear ls
  intro ls hl
  have L3_48 : ∀ (n : Nat) (x3_4_46 : Int32) (z3_0_47 : Nat → Int32), mm_rg x3_4_46 0 3 → mm_ar z3_0_47 0 7 → mm_crk f_0 z3_0_47 3 2 0 x3_4_46 → (3 - x3_4_46.toInt).toNat < n → ∀ (H : Heap) (locs : List Loc), va_P G vwCl [(a_0, .inl (cy 1, 15, .inl z3_0_47))] H → va_D A [(a_0, .inl (cy 1, 15, .inl z3_0_47))] → va_S A s.heap H locs → ∀ (ls : Array Slot), lv_has ls 5 [(4, .int x3_4_46), (0, .ref a_0), (1, .int 3), (2, .int 2), (3, .int 0)] → W p l e R s m args below meth c H locs 0 0 Q (F0 m 3 ls []) := by
    intro n
    induction n with
    | zero => intro x3_4_46 z3_0_47 rx3_4_46 rz3_0_47 w48 hm; exact absurd hm (Nat.not_lt_zero _)
    | succ n ih3 =>
      intro x3_4_46 z3_0_47 rx3_4_46 rz3_0_47 w48 hm3 H locs hP hD hS ls hl
      refine lv_iload hx hb dX12_copyRow_3 (lv_at hl 0 rfl) ?_
      refine lv_iload_n hx hb dX12_copyRow_5 rfl (lv_at hl 2 rfl) ?_
      refine lv_icmp_ge (tgt := 31) hx hb dX12_copyRow_6 (by decide) (fun c50 => ?_) (fun c50 => ?_)
      · have q51 := mm_leR (mm_le c50) mm_k3 rx3_4_46
        have w52 : mm_crw f_0 z3_0_47 3 2 0 := (mm_crw_of w48 q51 (by decide))
        subst hAe
        rw [hQ]
        exact W.vret hx hb hr (fun t ht hW => ⟨⟨z3_0_47, rfl, ⟨rz3_0_47, w52⟩, by rw [ht]; exact hP, hK.warm hW, hD⟩, hS.F ht⟩) hS.2.2 dX12_copyRow_31
      · have q53 := mm_ltL (h := 2) (mm_nle c50) rx3_4_46 mm_k3 (by decide)
        refine lv_aload_n hx hb dX12_copyRow_9 rfl (lv_at hl 1 rfl) ?_
        refine lv_iload_n hx hb dX12_copyRow_10 rfl (lv_at hl 2 rfl) ?_
        refine lv_iload_n hx hb dX12_copyRow_11 rfl (lv_at hl 4 rfl) ?_
        refine lv_imul hx hb dX12_copyRow_12 ?_
        refine lv_topi (fun v54 ev54 => ?_)
        obtain rfl : v54 = 0 := ev54.trans (by decide)
        refine lv_iload hx hb dX12_copyRow_13 (lv_at hl 0 rfl) ?_
        refine lv_iadd hx hb dX12_copyRow_15 ?_
        refine lv_topi (fun v55 ev55 => ?_)
        have rv55 : mm_rg v55 0 2 := mm_add ev55 mm_k0 q53 (by decide) (by decide)
        have tv55 := mm_addEd ev55 mm_k0 q53 (by decide) (k := 0) (by decide)
        refine lv_aload_n hx hb dX12_copyRow_16 rfl (lv_at hl 1 rfl) ?_
        refine lv_iload_n hx hb dX12_copyRow_17 rfl (lv_at hl 2 rfl) ?_
        refine lv_iload_n hx hb dX12_copyRow_18 rfl (lv_at hl 3 rfl) ?_
        refine lv_imul hx hb dX12_copyRow_19 ?_
        refine lv_topi (fun v56 ev56 => ?_)
        obtain rfl : v56 = 6 := ev56.trans (by decide)
        refine lv_iload hx hb dX12_copyRow_20 (lv_at hl 0 rfl) ?_
        refine lv_iadd hx hb dX12_copyRow_22 ?_
        refine lv_topi (fun v57 ev57 => ?_)
        have rv57 : mm_rg v57 6 8 := mm_add ev57 mm_k6 q53 (by decide) (by decide)
        have tv57 := mm_addEd ev57 mm_k6 q53 (by decide) (k := 6) (by decide)
        refine va_iald hx hb hK.1 hP 0 1 rfl rfl (mm_in rv57 (by decide)) dX12_copyRow_23 ?_
        refine lv_topi (fun v58 ev58 => ?_)
        have rv58 : mm_rg v58 0 7 := mm_eqv ev58 (rz3_0_47 _)
        refine va_iast hx hb hK.1 hP hD hS 0 1 rfl rfl (mm_in rv55 (by decide)) dX12_copyRow_24 ?_
        clear hP hD hS
        clear H locs
        obtain ⟨g59, eg59⟩ : ∃ z : Nat → Int32, z = upd z3_0_47 v55.toNatClampNeg v58 := ⟨_, rfl⟩
        rw [← eg59]
        intro H locs (hP : va_P G vwCl [(a_0, .inl (cy 1, 15, .inl g59))] H) (hD : va_D A [(a_0, .inl (cy 1, 15, .inl g59))]) hS
        have rg59 : mm_ar g59 0 7 := by rw [eg59]; exact mm_ar_upd (mm_ar_wk rz3_0_47 (by decide)) (mm_wk rv58 (by decide)) _
        obtain ⟨v60, ev60⟩ : ∃ y : Int32, y = x3_4_46 + 1 := ⟨_, rfl⟩
        refine lv_iinc (v := v60) (lv' := [(4, .int v60), (0, .ref a_0), (1, .int 3), (2, .int 2), (3, .int 0)]) hx hb dX12_copyRow_25 hl (k := 0) rfl (by rw [ev60]; rfl) (by decide) rfl ?_
        clear hl
        clear ls
        intro ls hl
        have rv60 : mm_rg v60 1 3 := mm_add ev60 q53 mm_k1 (by decide) (by decide)
        have tv60 := mm_addEc ev60 q53 mm_k1 (by decide) (k := 1) (by decide)
        refine lv_goto (tgt := 3) hx hb dX12_copyRow_28 (by decide) ?_
        exact ih3 v60 g59 (mm_wk rv60 (by decide)) rg59 (mm_crk_s w48 tv60 q53 eg59 ev58 (by have := tv55; omega) (by have := tv57; omega) (by decide)) (mm_mu hm3 tv60 (by decide) (rv60).2 (by decide)) H locs hP hD hS ls (lv_sub hl [0, 1, 2, 3, 4] rfl)
  exact L3_48 _ 0 f_0 (mm_wk mm_k0 (by decide)) h0 (mm_crk_0 _ _ _ _) (Nat.lt_succ_self _) H locs hP hD hS ls (lv_sub hl [0, 1, 2, 3, 4] rfl)

set_option maxHeartbeats 4000000 in
set_option maxRecDepth 100000 in
theorem M364_X12_copyRow (l : Launch) (G : va_G) (cy : Nat → ClassId) (sz : Nat) (a_0 : Nat) (f_0 : Nat → Int32) (h0 : mm_ar f_0 0 9)  : mm_CV l yX12_copyRow (mm_ws yX12_copyRow cX12_copyRow 5 (none)) ({ frames := 0, cells := 0, slots := 0, locals := 0 } : Room) G cy sz [(a_0, .inl (cy 1, 1050, .inl f_0))] [.ref a_0, .int 210, .int 2, .int 0] (fun u : (Nat → Int32) => [(a_0, .inl (cy 1, 1050, .inl u))]) (fun u : (Nat → Int32) => mm_ar u 0 9 ∧ mm_crw f_0 u 210 2 0) 0 0 := by
  refine mm_begin (lv := [(0, .ref a_0), (1, .int 210), (2, .int 2), (3, .int 0)]) (by decide) (Nat.le_of_ble_eq_true rfl) rfl ?_
  intro p e s m below meth c A ls R args Q H locs hRe hQ hAe hx hb hr hlocks hml hown hnm hts hsz hA hS hP hK hD hZ hl
  have hRf : R.frames = 0 := by rw [hRe]
  have hRl : R.locals = 0 := by rw [hRe]
  have hRc : R.cells = 0 := by rw [hRe]
  have hRs : R.slots = 0 := by rw [hRe]
  refine lv_iconst (v := 0) hx hb dX12_copyRow_0 (by decide) ?_
  refine lv_istore (lv' := [(4, .int 0), (0, .ref a_0), (1, .int 210), (2, .int 2), (3, .int 0)]) hx hb dX12_copyRow_1 hl (by decide) rfl ?_
  clear hl
  clear ls
  intro ls hl
  have L3_148 : ∀ (n : Nat) (x3_4_146 : Int32) (z3_0_147 : Nat → Int32), mm_rg x3_4_146 0 210 → mm_ar z3_0_147 0 9 → mm_crk f_0 z3_0_147 210 2 0 x3_4_146 → (210 - x3_4_146.toInt).toNat < n → ∀ (H : Heap) (locs : List Loc), va_P G vwCl [(a_0, .inl (cy 1, 1050, .inl z3_0_147))] H → va_D A [(a_0, .inl (cy 1, 1050, .inl z3_0_147))] → va_S A s.heap H locs → ∀ (ls : Array Slot), lv_has ls 5 [(4, .int x3_4_146), (0, .ref a_0), (1, .int 210), (2, .int 2), (3, .int 0)] → W p l e R s m args below meth c H locs 0 0 Q (F0 m 3 ls []) := by
    intro n
    induction n with
    | zero => intro x3_4_146 z3_0_147 rx3_4_146 rz3_0_147 w148 hm; exact absurd hm (Nat.not_lt_zero _)
    | succ n ih3 =>
      intro x3_4_146 z3_0_147 rx3_4_146 rz3_0_147 w148 hm3 H locs hP hD hS ls hl
      refine lv_iload hx hb dX12_copyRow_3 (lv_at hl 0 rfl) ?_
      refine lv_iload_n hx hb dX12_copyRow_5 rfl (lv_at hl 2 rfl) ?_
      refine lv_icmp_ge (tgt := 31) hx hb dX12_copyRow_6 (by decide) (fun c150 => ?_) (fun c150 => ?_)
      · have q151 := mm_leR (mm_le c150) mm_k210 rx3_4_146
        have w152 : mm_crw f_0 z3_0_147 210 2 0 := (mm_crw_of w148 q151 (by decide))
        subst hAe
        rw [hQ]
        exact W.vret hx hb hr (fun t ht hW => ⟨⟨z3_0_147, rfl, ⟨rz3_0_147, w152⟩, by rw [ht]; exact hP, hK.warm hW, hD⟩, hS.F ht⟩) hS.2.2 dX12_copyRow_31
      · have q153 := mm_ltL (h := 209) (mm_nle c150) rx3_4_146 mm_k210 (by decide)
        refine lv_aload_n hx hb dX12_copyRow_9 rfl (lv_at hl 1 rfl) ?_
        refine lv_iload_n hx hb dX12_copyRow_10 rfl (lv_at hl 2 rfl) ?_
        refine lv_iload_n hx hb dX12_copyRow_11 rfl (lv_at hl 4 rfl) ?_
        refine lv_imul hx hb dX12_copyRow_12 ?_
        refine lv_topi (fun v154 ev154 => ?_)
        obtain rfl : v154 = 0 := ev154.trans (by decide)
        refine lv_iload hx hb dX12_copyRow_13 (lv_at hl 0 rfl) ?_
        refine lv_iadd hx hb dX12_copyRow_15 ?_
        refine lv_topi (fun v155 ev155 => ?_)
        have rv155 : mm_rg v155 0 209 := mm_add ev155 mm_k0 q153 (by decide) (by decide)
        have tv155 := mm_addEd ev155 mm_k0 q153 (by decide) (k := 0) (by decide)
        refine lv_aload_n hx hb dX12_copyRow_16 rfl (lv_at hl 1 rfl) ?_
        refine lv_iload_n hx hb dX12_copyRow_17 rfl (lv_at hl 2 rfl) ?_
        refine lv_iload_n hx hb dX12_copyRow_18 rfl (lv_at hl 3 rfl) ?_
        refine lv_imul hx hb dX12_copyRow_19 ?_
        refine lv_topi (fun v156 ev156 => ?_)
        obtain rfl : v156 = 420 := ev156.trans (by decide)
        refine lv_iload hx hb dX12_copyRow_20 (lv_at hl 0 rfl) ?_
        refine lv_iadd hx hb dX12_copyRow_22 ?_
        refine lv_topi (fun v157 ev157 => ?_)
        have rv157 : mm_rg v157 420 629 := mm_add ev157 mm_k420 q153 (by decide) (by decide)
        have tv157 := mm_addEd ev157 mm_k420 q153 (by decide) (k := 420) (by decide)
        refine va_iald hx hb hK.1 hP 0 1 rfl rfl (mm_in rv157 (by decide)) dX12_copyRow_23 ?_
        refine lv_topi (fun v158 ev158 => ?_)
        have rv158 : mm_rg v158 0 9 := mm_eqv ev158 (rz3_0_147 _)
        refine va_iast hx hb hK.1 hP hD hS 0 1 rfl rfl (mm_in rv155 (by decide)) dX12_copyRow_24 ?_
        clear hP hD hS
        clear H locs
        obtain ⟨g159, eg159⟩ : ∃ z : Nat → Int32, z = upd z3_0_147 v155.toNatClampNeg v158 := ⟨_, rfl⟩
        rw [← eg159]
        intro H locs (hP : va_P G vwCl [(a_0, .inl (cy 1, 1050, .inl g159))] H) (hD : va_D A [(a_0, .inl (cy 1, 1050, .inl g159))]) hS
        have rg159 : mm_ar g159 0 9 := by rw [eg159]; exact mm_ar_upd (mm_ar_wk rz3_0_147 (by decide)) (mm_wk rv158 (by decide)) _
        obtain ⟨v160, ev160⟩ : ∃ y : Int32, y = x3_4_146 + 1 := ⟨_, rfl⟩
        refine lv_iinc (v := v160) (lv' := [(4, .int v160), (0, .ref a_0), (1, .int 210), (2, .int 2), (3, .int 0)]) hx hb dX12_copyRow_25 hl (k := 0) rfl (by rw [ev160]; rfl) (by decide) rfl ?_
        clear hl
        clear ls
        intro ls hl
        have rv160 : mm_rg v160 1 210 := mm_add ev160 q153 mm_k1 (by decide) (by decide)
        have tv160 := mm_addEc ev160 q153 mm_k1 (by decide) (k := 1) (by decide)
        refine lv_goto (tgt := 3) hx hb dX12_copyRow_28 (by decide) ?_
        exact ih3 v160 g159 (mm_wk rv160 (by decide)) rg159 (mm_crk_s w148 tv160 q153 eg159 ev158 (by have := tv155; omega) (by have := tv157; omega) (by decide)) (mm_mu hm3 tv160 (by decide) (rv160).2 (by decide)) H locs hP hD hS ls (lv_sub hl [0, 1, 2, 3, 4] rfl)
  exact L3_148 _ 0 f_0 (mm_wk mm_k0 (by decide)) h0 (mm_crk_0 _ _ _ _) (Nat.lt_succ_self _) H locs hP hD hS ls (lv_sub hl [0, 1, 2, 3, 4] rfl)

set_option maxHeartbeats 4000000 in
set_option maxRecDepth 100000 in
theorem M365_X12_copyRow (l : Launch) (G : va_G) (cy : Nat → ClassId) (sz : Nat) (a_0 : Nat) (f_0 : Nat → Int32) (h0 : mm_ar f_0 0 8)  : mm_CV l yX12_copyRow (mm_ws yX12_copyRow cX12_copyRow 5 (none)) ({ frames := 0, cells := 0, slots := 0, locals := 0 } : Room) G cy sz [(a_0, .inl (cy 1, 30, .inl f_0))] [.ref a_0, .int 6, .int 2, .int 0] (fun u : (Nat → Int32) => [(a_0, .inl (cy 1, 30, .inl u))]) (fun u : (Nat → Int32) => mm_ar u 0 8 ∧ mm_crw f_0 u 6 2 0) 0 0 := by
  refine mm_begin (lv := [(0, .ref a_0), (1, .int 6), (2, .int 2), (3, .int 0)]) (by decide) (Nat.le_of_ble_eq_true rfl) rfl ?_
  intro p e s m below meth c A ls R args Q H locs hRe hQ hAe hx hb hr hlocks hml hown hnm hts hsz hA hS hP hK hD hZ hl
  have hRf : R.frames = 0 := by rw [hRe]
  have hRl : R.locals = 0 := by rw [hRe]
  have hRc : R.cells = 0 := by rw [hRe]
  have hRs : R.slots = 0 := by rw [hRe]
  refine lv_iconst (v := 0) hx hb dX12_copyRow_0 (by decide) ?_
  refine lv_istore (lv' := [(4, .int 0), (0, .ref a_0), (1, .int 6), (2, .int 2), (3, .int 0)]) hx hb dX12_copyRow_1 hl (by decide) rfl ?_
  clear hl
  clear ls
  intro ls hl
  have L3_75 : ∀ (n : Nat) (x3_4_73 : Int32) (z3_0_74 : Nat → Int32), mm_rg x3_4_73 0 6 → mm_ar z3_0_74 0 8 → mm_crk f_0 z3_0_74 6 2 0 x3_4_73 → (6 - x3_4_73.toInt).toNat < n → ∀ (H : Heap) (locs : List Loc), va_P G vwCl [(a_0, .inl (cy 1, 30, .inl z3_0_74))] H → va_D A [(a_0, .inl (cy 1, 30, .inl z3_0_74))] → va_S A s.heap H locs → ∀ (ls : Array Slot), lv_has ls 5 [(4, .int x3_4_73), (0, .ref a_0), (1, .int 6), (2, .int 2), (3, .int 0)] → W p l e R s m args below meth c H locs 0 0 Q (F0 m 3 ls []) := by
    intro n
    induction n with
    | zero => intro x3_4_73 z3_0_74 rx3_4_73 rz3_0_74 w75 hm; exact absurd hm (Nat.not_lt_zero _)
    | succ n ih3 =>
      intro x3_4_73 z3_0_74 rx3_4_73 rz3_0_74 w75 hm3 H locs hP hD hS ls hl
      refine lv_iload hx hb dX12_copyRow_3 (lv_at hl 0 rfl) ?_
      refine lv_iload_n hx hb dX12_copyRow_5 rfl (lv_at hl 2 rfl) ?_
      refine lv_icmp_ge (tgt := 31) hx hb dX12_copyRow_6 (by decide) (fun c77 => ?_) (fun c77 => ?_)
      · have q78 := mm_leR (mm_le c77) mm_k6 rx3_4_73
        have w79 : mm_crw f_0 z3_0_74 6 2 0 := (mm_crw_of w75 q78 (by decide))
        subst hAe
        rw [hQ]
        exact W.vret hx hb hr (fun t ht hW => ⟨⟨z3_0_74, rfl, ⟨rz3_0_74, w79⟩, by rw [ht]; exact hP, hK.warm hW, hD⟩, hS.F ht⟩) hS.2.2 dX12_copyRow_31
      · have q80 := mm_ltL (h := 5) (mm_nle c77) rx3_4_73 mm_k6 (by decide)
        refine lv_aload_n hx hb dX12_copyRow_9 rfl (lv_at hl 1 rfl) ?_
        refine lv_iload_n hx hb dX12_copyRow_10 rfl (lv_at hl 2 rfl) ?_
        refine lv_iload_n hx hb dX12_copyRow_11 rfl (lv_at hl 4 rfl) ?_
        refine lv_imul hx hb dX12_copyRow_12 ?_
        refine lv_topi (fun v81 ev81 => ?_)
        obtain rfl : v81 = 0 := ev81.trans (by decide)
        refine lv_iload hx hb dX12_copyRow_13 (lv_at hl 0 rfl) ?_
        refine lv_iadd hx hb dX12_copyRow_15 ?_
        refine lv_topi (fun v82 ev82 => ?_)
        have rv82 : mm_rg v82 0 5 := mm_add ev82 mm_k0 q80 (by decide) (by decide)
        have tv82 := mm_addEd ev82 mm_k0 q80 (by decide) (k := 0) (by decide)
        refine lv_aload_n hx hb dX12_copyRow_16 rfl (lv_at hl 1 rfl) ?_
        refine lv_iload_n hx hb dX12_copyRow_17 rfl (lv_at hl 2 rfl) ?_
        refine lv_iload_n hx hb dX12_copyRow_18 rfl (lv_at hl 3 rfl) ?_
        refine lv_imul hx hb dX12_copyRow_19 ?_
        refine lv_topi (fun v83 ev83 => ?_)
        obtain rfl : v83 = 12 := ev83.trans (by decide)
        refine lv_iload hx hb dX12_copyRow_20 (lv_at hl 0 rfl) ?_
        refine lv_iadd hx hb dX12_copyRow_22 ?_
        refine lv_topi (fun v84 ev84 => ?_)
        have rv84 : mm_rg v84 12 17 := mm_add ev84 mm_k12 q80 (by decide) (by decide)
        have tv84 := mm_addEd ev84 mm_k12 q80 (by decide) (k := 12) (by decide)
        refine va_iald hx hb hK.1 hP 0 1 rfl rfl (mm_in rv84 (by decide)) dX12_copyRow_23 ?_
        refine lv_topi (fun v85 ev85 => ?_)
        have rv85 : mm_rg v85 0 8 := mm_eqv ev85 (rz3_0_74 _)
        refine va_iast hx hb hK.1 hP hD hS 0 1 rfl rfl (mm_in rv82 (by decide)) dX12_copyRow_24 ?_
        clear hP hD hS
        clear H locs
        obtain ⟨g86, eg86⟩ : ∃ z : Nat → Int32, z = upd z3_0_74 v82.toNatClampNeg v85 := ⟨_, rfl⟩
        rw [← eg86]
        intro H locs (hP : va_P G vwCl [(a_0, .inl (cy 1, 30, .inl g86))] H) (hD : va_D A [(a_0, .inl (cy 1, 30, .inl g86))]) hS
        have rg86 : mm_ar g86 0 8 := by rw [eg86]; exact mm_ar_upd (mm_ar_wk rz3_0_74 (by decide)) (mm_wk rv85 (by decide)) _
        obtain ⟨v87, ev87⟩ : ∃ y : Int32, y = x3_4_73 + 1 := ⟨_, rfl⟩
        refine lv_iinc (v := v87) (lv' := [(4, .int v87), (0, .ref a_0), (1, .int 6), (2, .int 2), (3, .int 0)]) hx hb dX12_copyRow_25 hl (k := 0) rfl (by rw [ev87]; rfl) (by decide) rfl ?_
        clear hl
        clear ls
        intro ls hl
        have rv87 : mm_rg v87 1 6 := mm_add ev87 q80 mm_k1 (by decide) (by decide)
        have tv87 := mm_addEc ev87 q80 mm_k1 (by decide) (k := 1) (by decide)
        refine lv_goto (tgt := 3) hx hb dX12_copyRow_28 (by decide) ?_
        exact ih3 v87 g86 (mm_wk rv87 (by decide)) rg86 (mm_crk_s w75 tv87 q80 eg86 ev85 (by have := tv82; omega) (by have := tv84; omega) (by decide)) (mm_mu hm3 tv87 (by decide) (rv87).2 (by decide)) H locs hP hD hS ls (lv_sub hl [0, 1, 2, 3, 4] rfl)
  exact L3_75 _ 0 f_0 (mm_wk mm_k0 (by decide)) h0 (mm_crk_0 _ _ _ _) (Nat.lt_succ_self _) H locs hP hD hS ls (lv_sub hl [0, 1, 2, 3, 4] rfl)

set_option maxHeartbeats 4000000 in
set_option maxRecDepth 100000 in
theorem M366_X12_copyRow (l : Launch) (G : va_G) (cy : Nat → ClassId) (sz : Nat) (a_0 : Nat) (f_0 : Nat → Int32) (h0 : mm_ar f_0 0 9)  : mm_CV l yX12_copyRow (mm_ws yX12_copyRow cX12_copyRow 5 (none)) ({ frames := 0, cells := 0, slots := 0, locals := 0 } : Room) G cy sz [(a_0, .inl (cy 1, 240, .inl f_0))] [.ref a_0, .int 48, .int 2, .int 0] (fun u : (Nat → Int32) => [(a_0, .inl (cy 1, 240, .inl u))]) (fun u : (Nat → Int32) => mm_ar u 0 9 ∧ mm_crw f_0 u 48 2 0) 0 0 := by
  refine mm_begin (lv := [(0, .ref a_0), (1, .int 48), (2, .int 2), (3, .int 0)]) (by decide) (Nat.le_of_ble_eq_true rfl) rfl ?_
  intro p e s m below meth c A ls R args Q H locs hRe hQ hAe hx hb hr hlocks hml hown hnm hts hsz hA hS hP hK hD hZ hl
  have hRf : R.frames = 0 := by rw [hRe]
  have hRl : R.locals = 0 := by rw [hRe]
  have hRc : R.cells = 0 := by rw [hRe]
  have hRs : R.slots = 0 := by rw [hRe]
  refine lv_iconst (v := 0) hx hb dX12_copyRow_0 (by decide) ?_
  refine lv_istore (lv' := [(4, .int 0), (0, .ref a_0), (1, .int 48), (2, .int 2), (3, .int 0)]) hx hb dX12_copyRow_1 hl (by decide) rfl ?_
  clear hl
  clear ls
  intro ls hl
  have L3_130 : ∀ (n : Nat) (x3_4_128 : Int32) (z3_0_129 : Nat → Int32), mm_rg x3_4_128 0 48 → mm_ar z3_0_129 0 9 → mm_crk f_0 z3_0_129 48 2 0 x3_4_128 → (48 - x3_4_128.toInt).toNat < n → ∀ (H : Heap) (locs : List Loc), va_P G vwCl [(a_0, .inl (cy 1, 240, .inl z3_0_129))] H → va_D A [(a_0, .inl (cy 1, 240, .inl z3_0_129))] → va_S A s.heap H locs → ∀ (ls : Array Slot), lv_has ls 5 [(4, .int x3_4_128), (0, .ref a_0), (1, .int 48), (2, .int 2), (3, .int 0)] → W p l e R s m args below meth c H locs 0 0 Q (F0 m 3 ls []) := by
    intro n
    induction n with
    | zero => intro x3_4_128 z3_0_129 rx3_4_128 rz3_0_129 w130 hm; exact absurd hm (Nat.not_lt_zero _)
    | succ n ih3 =>
      intro x3_4_128 z3_0_129 rx3_4_128 rz3_0_129 w130 hm3 H locs hP hD hS ls hl
      refine lv_iload hx hb dX12_copyRow_3 (lv_at hl 0 rfl) ?_
      refine lv_iload_n hx hb dX12_copyRow_5 rfl (lv_at hl 2 rfl) ?_
      refine lv_icmp_ge (tgt := 31) hx hb dX12_copyRow_6 (by decide) (fun c132 => ?_) (fun c132 => ?_)
      · have q133 := mm_leR (mm_le c132) mm_k48 rx3_4_128
        have w134 : mm_crw f_0 z3_0_129 48 2 0 := (mm_crw_of w130 q133 (by decide))
        subst hAe
        rw [hQ]
        exact W.vret hx hb hr (fun t ht hW => ⟨⟨z3_0_129, rfl, ⟨rz3_0_129, w134⟩, by rw [ht]; exact hP, hK.warm hW, hD⟩, hS.F ht⟩) hS.2.2 dX12_copyRow_31
      · have q135 := mm_ltL (h := 47) (mm_nle c132) rx3_4_128 mm_k48 (by decide)
        refine lv_aload_n hx hb dX12_copyRow_9 rfl (lv_at hl 1 rfl) ?_
        refine lv_iload_n hx hb dX12_copyRow_10 rfl (lv_at hl 2 rfl) ?_
        refine lv_iload_n hx hb dX12_copyRow_11 rfl (lv_at hl 4 rfl) ?_
        refine lv_imul hx hb dX12_copyRow_12 ?_
        refine lv_topi (fun v136 ev136 => ?_)
        obtain rfl : v136 = 0 := ev136.trans (by decide)
        refine lv_iload hx hb dX12_copyRow_13 (lv_at hl 0 rfl) ?_
        refine lv_iadd hx hb dX12_copyRow_15 ?_
        refine lv_topi (fun v137 ev137 => ?_)
        have rv137 : mm_rg v137 0 47 := mm_add ev137 mm_k0 q135 (by decide) (by decide)
        have tv137 := mm_addEd ev137 mm_k0 q135 (by decide) (k := 0) (by decide)
        refine lv_aload_n hx hb dX12_copyRow_16 rfl (lv_at hl 1 rfl) ?_
        refine lv_iload_n hx hb dX12_copyRow_17 rfl (lv_at hl 2 rfl) ?_
        refine lv_iload_n hx hb dX12_copyRow_18 rfl (lv_at hl 3 rfl) ?_
        refine lv_imul hx hb dX12_copyRow_19 ?_
        refine lv_topi (fun v138 ev138 => ?_)
        obtain rfl : v138 = 96 := ev138.trans (by decide)
        refine lv_iload hx hb dX12_copyRow_20 (lv_at hl 0 rfl) ?_
        refine lv_iadd hx hb dX12_copyRow_22 ?_
        refine lv_topi (fun v139 ev139 => ?_)
        have rv139 : mm_rg v139 96 143 := mm_add ev139 mm_k96 q135 (by decide) (by decide)
        have tv139 := mm_addEd ev139 mm_k96 q135 (by decide) (k := 96) (by decide)
        refine va_iald hx hb hK.1 hP 0 1 rfl rfl (mm_in rv139 (by decide)) dX12_copyRow_23 ?_
        refine lv_topi (fun v140 ev140 => ?_)
        have rv140 : mm_rg v140 0 9 := mm_eqv ev140 (rz3_0_129 _)
        refine va_iast hx hb hK.1 hP hD hS 0 1 rfl rfl (mm_in rv137 (by decide)) dX12_copyRow_24 ?_
        clear hP hD hS
        clear H locs
        obtain ⟨g141, eg141⟩ : ∃ z : Nat → Int32, z = upd z3_0_129 v137.toNatClampNeg v140 := ⟨_, rfl⟩
        rw [← eg141]
        intro H locs (hP : va_P G vwCl [(a_0, .inl (cy 1, 240, .inl g141))] H) (hD : va_D A [(a_0, .inl (cy 1, 240, .inl g141))]) hS
        have rg141 : mm_ar g141 0 9 := by rw [eg141]; exact mm_ar_upd (mm_ar_wk rz3_0_129 (by decide)) (mm_wk rv140 (by decide)) _
        obtain ⟨v142, ev142⟩ : ∃ y : Int32, y = x3_4_128 + 1 := ⟨_, rfl⟩
        refine lv_iinc (v := v142) (lv' := [(4, .int v142), (0, .ref a_0), (1, .int 48), (2, .int 2), (3, .int 0)]) hx hb dX12_copyRow_25 hl (k := 0) rfl (by rw [ev142]; rfl) (by decide) rfl ?_
        clear hl
        clear ls
        intro ls hl
        have rv142 : mm_rg v142 1 48 := mm_add ev142 q135 mm_k1 (by decide) (by decide)
        have tv142 := mm_addEc ev142 q135 mm_k1 (by decide) (k := 1) (by decide)
        refine lv_goto (tgt := 3) hx hb dX12_copyRow_28 (by decide) ?_
        exact ih3 v142 g141 (mm_wk rv142 (by decide)) rg141 (mm_crk_s w130 tv142 q135 eg141 ev140 (by have := tv137; omega) (by have := tv139; omega) (by decide)) (mm_mu hm3 tv142 (by decide) (rv142).2 (by decide)) H locs hP hD hS ls (lv_sub hl [0, 1, 2, 3, 4] rfl)
  exact L3_130 _ 0 f_0 (mm_wk mm_k0 (by decide)) h0 (mm_crk_0 _ _ _ _) (Nat.lt_succ_self _) H locs hP hD hS ls (lv_sub hl [0, 1, 2, 3, 4] rfl)

set_option maxHeartbeats 4000000 in
set_option maxRecDepth 100000 in
theorem M367_X12_copyRow (l : Launch) (G : va_G) (cy : Nat → ClassId) (sz : Nat) (a_0 : Nat) (f_0 : Nat → Int32) (h0 : mm_ar f_0 (-1) 99)  : mm_CV l yX12_copyRow (mm_ws yX12_copyRow cX12_copyRow 5 (none)) ({ frames := 0, cells := 0, slots := 0, locals := 0 } : Room) G cy sz [(a_0, .inl (cy 1, 450, .inl f_0))] [.ref a_0, .int 90, .int 2, .int 0] (fun u : (Nat → Int32) => [(a_0, .inl (cy 1, 450, .inl u))]) (fun u : (Nat → Int32) => mm_ar u (-1) 99 ∧ mm_crw f_0 u 90 2 0) 0 0 := by
  refine mm_begin (lv := [(0, .ref a_0), (1, .int 90), (2, .int 2), (3, .int 0)]) (by decide) (Nat.le_of_ble_eq_true rfl) rfl ?_
  intro p e s m below meth c A ls R args Q H locs hRe hQ hAe hx hb hr hlocks hml hown hnm hts hsz hA hS hP hK hD hZ hl
  have hRf : R.frames = 0 := by rw [hRe]
  have hRl : R.locals = 0 := by rw [hRe]
  have hRc : R.cells = 0 := by rw [hRe]
  have hRs : R.slots = 0 := by rw [hRe]
  refine lv_iconst (v := 0) hx hb dX12_copyRow_0 (by decide) ?_
  refine lv_istore (lv' := [(4, .int 0), (0, .ref a_0), (1, .int 90), (2, .int 2), (3, .int 0)]) hx hb dX12_copyRow_1 hl (by decide) rfl ?_
  clear hl
  clear ls
  intro ls hl
  have L3_139 : ∀ (n : Nat) (x3_4_137 : Int32) (z3_0_138 : Nat → Int32), mm_rg x3_4_137 0 90 → mm_ar z3_0_138 (-1) 99 → mm_crk f_0 z3_0_138 90 2 0 x3_4_137 → (90 - x3_4_137.toInt).toNat < n → ∀ (H : Heap) (locs : List Loc), va_P G vwCl [(a_0, .inl (cy 1, 450, .inl z3_0_138))] H → va_D A [(a_0, .inl (cy 1, 450, .inl z3_0_138))] → va_S A s.heap H locs → ∀ (ls : Array Slot), lv_has ls 5 [(4, .int x3_4_137), (0, .ref a_0), (1, .int 90), (2, .int 2), (3, .int 0)] → W p l e R s m args below meth c H locs 0 0 Q (F0 m 3 ls []) := by
    intro n
    induction n with
    | zero => intro x3_4_137 z3_0_138 rx3_4_137 rz3_0_138 w139 hm; exact absurd hm (Nat.not_lt_zero _)
    | succ n ih3 =>
      intro x3_4_137 z3_0_138 rx3_4_137 rz3_0_138 w139 hm3 H locs hP hD hS ls hl
      refine lv_iload hx hb dX12_copyRow_3 (lv_at hl 0 rfl) ?_
      refine lv_iload_n hx hb dX12_copyRow_5 rfl (lv_at hl 2 rfl) ?_
      refine lv_icmp_ge (tgt := 31) hx hb dX12_copyRow_6 (by decide) (fun c141 => ?_) (fun c141 => ?_)
      · have q142 := mm_leR (mm_le c141) mm_k90 rx3_4_137
        have w143 : mm_crw f_0 z3_0_138 90 2 0 := (mm_crw_of w139 q142 (by decide))
        subst hAe
        rw [hQ]
        exact W.vret hx hb hr (fun t ht hW => ⟨⟨z3_0_138, rfl, ⟨rz3_0_138, w143⟩, by rw [ht]; exact hP, hK.warm hW, hD⟩, hS.F ht⟩) hS.2.2 dX12_copyRow_31
      · have q144 := mm_ltL (h := 89) (mm_nle c141) rx3_4_137 mm_k90 (by decide)
        refine lv_aload_n hx hb dX12_copyRow_9 rfl (lv_at hl 1 rfl) ?_
        refine lv_iload_n hx hb dX12_copyRow_10 rfl (lv_at hl 2 rfl) ?_
        refine lv_iload_n hx hb dX12_copyRow_11 rfl (lv_at hl 4 rfl) ?_
        refine lv_imul hx hb dX12_copyRow_12 ?_
        refine lv_topi (fun v145 ev145 => ?_)
        obtain rfl : v145 = 0 := ev145.trans (by decide)
        refine lv_iload hx hb dX12_copyRow_13 (lv_at hl 0 rfl) ?_
        refine lv_iadd hx hb dX12_copyRow_15 ?_
        refine lv_topi (fun v146 ev146 => ?_)
        have rv146 : mm_rg v146 0 89 := mm_add ev146 mm_k0 q144 (by decide) (by decide)
        have tv146 := mm_addEd ev146 mm_k0 q144 (by decide) (k := 0) (by decide)
        refine lv_aload_n hx hb dX12_copyRow_16 rfl (lv_at hl 1 rfl) ?_
        refine lv_iload_n hx hb dX12_copyRow_17 rfl (lv_at hl 2 rfl) ?_
        refine lv_iload_n hx hb dX12_copyRow_18 rfl (lv_at hl 3 rfl) ?_
        refine lv_imul hx hb dX12_copyRow_19 ?_
        refine lv_topi (fun v147 ev147 => ?_)
        obtain rfl : v147 = 180 := ev147.trans (by decide)
        refine lv_iload hx hb dX12_copyRow_20 (lv_at hl 0 rfl) ?_
        refine lv_iadd hx hb dX12_copyRow_22 ?_
        refine lv_topi (fun v148 ev148 => ?_)
        have rv148 : mm_rg v148 180 269 := mm_add ev148 mm_k180 q144 (by decide) (by decide)
        have tv148 := mm_addEd ev148 mm_k180 q144 (by decide) (k := 180) (by decide)
        refine va_iald hx hb hK.1 hP 0 1 rfl rfl (mm_in rv148 (by decide)) dX12_copyRow_23 ?_
        refine lv_topi (fun v149 ev149 => ?_)
        have rv149 : mm_rg v149 (-1) 99 := mm_eqv ev149 (rz3_0_138 _)
        refine va_iast hx hb hK.1 hP hD hS 0 1 rfl rfl (mm_in rv146 (by decide)) dX12_copyRow_24 ?_
        clear hP hD hS
        clear H locs
        obtain ⟨g150, eg150⟩ : ∃ z : Nat → Int32, z = upd z3_0_138 v146.toNatClampNeg v149 := ⟨_, rfl⟩
        rw [← eg150]
        intro H locs (hP : va_P G vwCl [(a_0, .inl (cy 1, 450, .inl g150))] H) (hD : va_D A [(a_0, .inl (cy 1, 450, .inl g150))]) hS
        have rg150 : mm_ar g150 (-1) 99 := by rw [eg150]; exact mm_ar_upd (mm_ar_wk rz3_0_138 (by decide)) (mm_wk rv149 (by decide)) _
        obtain ⟨v151, ev151⟩ : ∃ y : Int32, y = x3_4_137 + 1 := ⟨_, rfl⟩
        refine lv_iinc (v := v151) (lv' := [(4, .int v151), (0, .ref a_0), (1, .int 90), (2, .int 2), (3, .int 0)]) hx hb dX12_copyRow_25 hl (k := 0) rfl (by rw [ev151]; rfl) (by decide) rfl ?_
        clear hl
        clear ls
        intro ls hl
        have rv151 : mm_rg v151 1 90 := mm_add ev151 q144 mm_k1 (by decide) (by decide)
        have tv151 := mm_addEc ev151 q144 mm_k1 (by decide) (k := 1) (by decide)
        refine lv_goto (tgt := 3) hx hb dX12_copyRow_28 (by decide) ?_
        exact ih3 v151 g150 (mm_wk rv151 (by decide)) rg150 (mm_crk_s w139 tv151 q144 eg150 ev149 (by have := tv146; omega) (by have := tv148; omega) (by decide)) (mm_mu hm3 tv151 (by decide) (rv151).2 (by decide)) H locs hP hD hS ls (lv_sub hl [0, 1, 2, 3, 4] rfl)
  exact L3_139 _ 0 f_0 (mm_wk mm_k0 (by decide)) h0 (mm_crk_0 _ _ _ _) (Nat.lt_succ_self _) H locs hP hD hS ls (lv_sub hl [0, 1, 2, 3, 4] rfl)

set_option maxHeartbeats 4000000 in
set_option maxRecDepth 100000 in
theorem M368_X12_copyBook (l : Launch) (G : va_G) (cy : Nat → ClassId) (sz : Nat) (a_0 : Nat) (i_0 : Int32) (a_1 : Nat) (a_2 : Nat) (a_3 : Nat) (a_4 : Nat) (a_5 : Nat) (i_1 : Int32) (i_2 : Int32) (i_3 : Int32) (i_4 : Int32) (i_5 : Int32) (j_0 : Int64) (i_6 : Int32) (i_7 : Int32) (i_8 : Int32) (i_9 : Int32) (a_6 : Nat) (a_7 : Nat) (a_8 : Nat) (a_9 : Nat) (a_10 : Nat) (a_11 : Nat) (a_12 : Nat) (a_13 : Nat) (a_14 : Nat) (a_15 : Nat) (a_16 : Nat) (a_17 : Nat) (a_18 : Nat) (i_10 : Int32) (i_11 : Int32) (i_12 : Int32) (i_13 : Int32) (i_14 : Int32) (i_15 : Int32) (a_19 : Nat) (i_16 : Int32) (a_20 : Nat) (i_17 : Int32) (i_18 : Int32) (i_19 : Int32) (i_20 : Int32) (i_21 : Int32) (i_22 : Int32) (i_23 : Int32) (i_24 : Int32) (i_25 : Int32) (i_26 : Int32) (i_27 : Int32) (i_28 : Int32) (i_29 : Int32) (i_30 : Int32) (i_31 : Int32) (i_32 : Int32) (i_33 : Int32) (i_34 : Int32) (i_35 : Int32) (i_36 : Int32) (i_37 : Int32) (i_38 : Int32) (i_39 : Int32) (i_40 : Int32) (i_41 : Int32) (i_42 : Int32) (i_43 : Int32) (i_44 : Int32) (i_45 : Int32) (i_46 : Int32) (i_47 : Int32) (i_48 : Int32) (i_49 : Int32) (i_50 : Int32) (i_51 : Int32) (f_0 : Nat → Int32) (f_1 : Nat → Int32) (f_2 : Nat → Int32) (f_3 : Nat → Int32) (f_4 : Nat → Int32) (f_5 : Nat → Int32) (h0 : mm_rg i_17 0 601) (h1 : mm_rg i_18 0 601) (h2 : mm_rg i_19 0 601) (h3 : mm_rg i_20 0 601) (h4 : mm_rg i_21 0 601) (h5 : mm_rg i_22 0 10) (h6 : mm_rg i_23 0 99) (h7 : mm_rg i_24 0 9) (h8 : mm_rg i_25 0 3) (h9 : mm_rg i_26 0 6) (h10 : mm_rg i_27 0 30) (h11 : mm_rg i_28 0 10) (h12 : mm_rg i_29 0 99) (h13 : mm_rg i_30 0 9) (h14 : mm_rg i_31 0 3) (h15 : mm_rg i_32 0 6) (h16 : mm_rg i_33 0 30) (h17 : mm_rg i_34 0 10) (h18 : mm_rg i_35 0 99) (h19 : mm_rg i_36 0 9) (h20 : mm_rg i_37 0 3) (h21 : mm_rg i_38 0 6) (h22 : mm_rg i_39 0 30) (h23 : mm_rg i_40 0 10) (h24 : mm_rg i_41 0 99) (h25 : mm_rg i_42 0 9) (h26 : mm_rg i_43 0 3) (h27 : mm_rg i_44 0 6) (h28 : mm_rg i_45 0 30) (h29 : mm_rg i_46 0 10) (h30 : mm_rg i_47 0 99) (h31 : mm_rg i_48 0 9) (h32 : mm_rg i_49 0 3) (h33 : mm_rg i_50 0 6) (h34 : mm_rg i_51 0 30) (h35 : mm_ar f_0 0 99) (h36 : mm_ar f_1 0 7) (h37 : mm_ar f_2 0 9) (h38 : mm_ar f_3 0 8) (h39 : mm_ar f_4 0 9) (h40 : mm_ar f_5 (-1) 99) (h41 : mm_rls f_1 f_2 0 i_24 i_25) (h42 : mm_txs f_3 f_4 0 i_24 i_26) (h43 : mm_acs f_5 0 i_24 i_25 i_27) (h44 : mm_tl i_17 i_25 i_26) (h45 : mm_rls f_1 f_2 1 i_30 i_31) (h46 : mm_txs f_3 f_4 1 i_30 i_32) (h47 : mm_acs f_5 1 i_30 i_31 i_33) (h48 : mm_tl i_18 i_31 i_32) (h49 : mm_rls f_1 f_2 2 i_36 i_37) (h50 : mm_txs f_3 f_4 2 i_36 i_38) (h51 : mm_acs f_5 2 i_36 i_37 i_39) (h52 : mm_tl i_19 i_37 i_38) (h53 : mm_rls f_1 f_2 3 i_42 i_43) (h54 : mm_txs f_3 f_4 3 i_42 i_44) (h55 : mm_acs f_5 3 i_42 i_43 i_45) (h56 : mm_tl i_20 i_43 i_44)  : mm_CV l yX12_copyBook (mm_ws yX12_copyBook cX12_copyBook 3 (none)) ({ frames := 1, cells := 0, slots := 0, locals := 24 } : Room) G cy sz [(a_0, .inr (12, [.int i_0, .ref a_1, .ref a_2, .ref a_3, .ref a_4, .ref a_5, .int i_1, .int i_2, .int i_3, .int i_4, .int i_5, .long j_0, .int i_6, .int i_7, .int i_8, .int i_9, .ref a_6, .ref a_7, .ref a_8, .ref a_9, .ref a_10, .ref a_11, .ref a_12, .ref a_13, .ref a_14, .ref a_15, .ref a_16, .ref a_17, .ref a_18, .int i_10, .int i_11, .int i_12, .int i_13, .int i_14, .int i_15, .ref a_19, .int i_16, .ref a_20])), (a_6, .inl (cy 1, 5, .inl (mm_g [i_17, i_18, i_19, i_20, i_21]))), (a_7, .inl (cy 1, 30, .inl (mm_g [i_22, i_23, i_24, i_25, i_26, i_27, i_28, i_29, i_30, i_31, i_32, i_33, i_34, i_35, i_36, i_37, i_38, i_39, i_40, i_41, i_42, i_43, i_44, i_45, i_46, i_47, i_48, i_49, i_50, i_51]))), (a_8, .inl (cy 1, 90, .inl f_0)), (a_9, .inl (cy 1, 15, .inl f_1)), (a_10, .inl (cy 1, 1050, .inl f_2)), (a_11, .inl (cy 1, 30, .inl f_3)), (a_12, .inl (cy 1, 240, .inl f_4)), (a_13, .inl (cy 1, 450, .inl f_5))] [.ref a_0, .int 2, .int 0] (fun u : (Nat → Int32) × (Nat → Int32) × (Nat → Int32) × (Nat → Int32) × (Nat → Int32) × (Nat → Int32) => [(a_0, .inr (12, [.int i_0, .ref a_1, .ref a_2, .ref a_3, .ref a_4, .ref a_5, .int i_1, .int i_2, .int i_3, .int i_4, .int i_5, .long j_0, .int i_6, .int i_7, .int i_8, .int i_9, .ref a_6, .ref a_7, .ref a_8, .ref a_9, .ref a_10, .ref a_11, .ref a_12, .ref a_13, .ref a_14, .ref a_15, .ref a_16, .ref a_17, .ref a_18, .int i_10, .int i_11, .int i_12, .int i_13, .int i_14, .int i_15, .ref a_19, .int i_16, .ref a_20])), (a_6, .inl (cy 1, 5, .inl (mm_g [i_19, i_18, i_19, i_20, i_21]))), (a_7, .inl (cy 1, 30, .inl (mm_g [i_34, i_35, i_36, i_37, i_38, i_39, i_28, i_29, i_30, i_31, i_32, i_33, i_34, i_35, i_36, i_37, i_38, i_39, i_40, i_41, i_42, i_43, i_44, i_45, i_46, i_47, i_48, i_49, i_50, i_51]))), (a_8, .inl (cy 1, 90, .inl u.1)), (a_9, .inl (cy 1, 15, .inl u.2.1)), (a_10, .inl (cy 1, 1050, .inl u.2.2.1)), (a_11, .inl (cy 1, 30, .inl u.2.2.2.1)), (a_12, .inl (cy 1, 240, .inl u.2.2.2.2.1)), (a_13, .inl (cy 1, 450, .inl u.2.2.2.2.2))]) (fun u : (Nat → Int32) × (Nat → Int32) × (Nat → Int32) × (Nat → Int32) × (Nat → Int32) × (Nat → Int32) => mm_ar u.1 0 99 ∧ mm_ar u.2.1 0 7 ∧ mm_ar u.2.2.1 0 9 ∧ mm_ar u.2.2.2.1 0 8 ∧ mm_ar u.2.2.2.2.1 0 9 ∧ mm_ar u.2.2.2.2.2 (-1) 99 ∧ mm_rls u.2.1 u.2.2.1 0 i_36 i_37 ∧ mm_txs u.2.2.2.1 u.2.2.2.2.1 0 i_36 i_38 ∧ mm_acs u.2.2.2.2.2 0 i_36 i_37 i_39 ∧ mm_rls u.2.1 u.2.2.1 1 i_30 i_31 ∧ mm_txs u.2.2.2.1 u.2.2.2.2.1 1 i_30 i_32 ∧ mm_acs u.2.2.2.2.2 1 i_30 i_31 i_33 ∧ mm_rls u.2.1 u.2.2.1 2 i_36 i_37 ∧ mm_txs u.2.2.2.1 u.2.2.2.2.1 2 i_36 i_38 ∧ mm_acs u.2.2.2.2.2 2 i_36 i_37 i_39 ∧ mm_rls u.2.1 u.2.2.1 3 i_42 i_43 ∧ mm_txs u.2.2.2.1 u.2.2.2.2.1 3 i_42 i_44 ∧ mm_acs u.2.2.2.2.2 3 i_42 i_43 i_45) 0 0 := by
  refine mm_begin (lv := [(0, .ref a_0), (1, .int 2), (2, .int 0)]) (by decide) (Nat.le_of_ble_eq_true rfl) rfl ?_
  intro p e s m below meth c A ls R args Q H locs hRe hQ hAe hx hb hr hlocks hml hown hnm hts hsz hA hS hP hK hD hZ hl
  have hRf : R.frames = 1 := by rw [hRe]
  have hRl : R.locals = 24 := by rw [hRe]
  have hRc : R.cells = 0 := by rw [hRe]
  have hRs : R.slots = 0 := by rw [hRe]
  refine lv_aload_n hx hb dX12_copyBook_0 rfl (lv_at hl 0 rfl) ?_
  refine va_get (D := G) (ci := 12) (v := .ref a_6) (C := RX12) (T := TX12) (N := 38) hx hb hts (mm_i inlX12) hown hK.1 hP 0 rfl rfl 16 (by decide) (mm_h hts mm_w148) (fun _ h9 => h9) rfl dX12_copyBook_1 ?_
  refine lv_iconst (v := 1) hx hb dX12_copyBook_4 (by decide) ?_
  refine lv_iload_n hx hb dX12_copyBook_5 rfl (lv_at hl 1 rfl) ?_
  refine lv_iload_n hx hb dX12_copyBook_6 rfl (lv_at hl 2 rfl) ?_
  refine mm_finv (va_runS (As := [.ref a_6, .int 1, .int 2, .int 0]) (rest := []) ⟨hx, hb, hml, hown, hts⟩ (M360_X12_copyRow l G cy H.size a_6 i_17 i_18 i_19 i_20 i_21 h0 h1 h2 h3 h4) (va_cwS 4 hts (mm_gS mm_w557 mm_w558 mm_w5 mm_w559) rfl rfl rfl hs_X12_copyRow ⟨by rw [hRf]; exact Nat.le_of_ble_eq_true rfl, by rw [hRl]; exact Nat.le_of_ble_eq_true rfl⟩) (mm_preS hK hZ hS hA hP hD [1] rfl rfl) rfl rfl hl.1 rfl (lv_room (Nat.le_of_ble_eq_true rfl)) dX12_copyBook_7 ⟨by rw [hRc]; exact Nat.le_of_ble_eq_true rfl, by rw [hRs]; exact Nat.le_of_ble_eq_true rfl⟩) hP hD hS hA (fun u : Unit => [(a_0, .inr (12, [.int i_0, .ref a_1, .ref a_2, .ref a_3, .ref a_4, .ref a_5, .int i_1, .int i_2, .int i_3, .int i_4, .int i_5, .long j_0, .int i_6, .int i_7, .int i_8, .int i_9, .ref a_6, .ref a_7, .ref a_8, .ref a_9, .ref a_10, .ref a_11, .ref a_12, .ref a_13, .ref a_14, .ref a_15, .ref a_16, .ref a_17, .ref a_18, .int i_10, .int i_11, .int i_12, .int i_13, .int i_14, .int i_15, .ref a_19, .int i_16, .ref a_20])), (a_6, .inl (cy 1, 5, .inl (mm_g [i_19, i_18, i_19, i_20, i_21]))), (a_7, .inl (cy 1, 30, .inl (mm_g [i_22, i_23, i_24, i_25, i_26, i_27, i_28, i_29, i_30, i_31, i_32, i_33, i_34, i_35, i_36, i_37, i_38, i_39, i_40, i_41, i_42, i_43, i_44, i_45, i_46, i_47, i_48, i_49, i_50, i_51]))), (a_8, .inl (cy 1, 90, .inl f_0)), (a_9, .inl (cy 1, 15, .inl f_1)), (a_10, .inl (cy 1, 1050, .inl f_2)), (a_11, .inl (cy 1, 30, .inl f_3)), (a_12, .inl (cy 1, 240, .inl f_4)), (a_13, .inl (cy 1, 450, .inl f_5))]) [1] [0, 2, 3, 4, 5, 6, 7, 8] (n := 9) (fun _ => rfl) (by decide +kernel) (by decide +kernel) rfl (fun _ => rfl) (wr := [(a_0, .inr (12, [.int i_0, .ref a_1, .ref a_2, .ref a_3, .ref a_4, .ref a_5, .int i_1, .int i_2, .int i_3, .int i_4, .int i_5, .long j_0, .int i_6, .int i_7, .int i_8, .int i_9, .ref a_6, .ref a_7, .ref a_8, .ref a_9, .ref a_10, .ref a_11, .ref a_12, .ref a_13, .ref a_14, .ref a_15, .ref a_16, .ref a_17, .ref a_18, .int i_10, .int i_11, .int i_12, .int i_13, .int i_14, .int i_15, .ref a_19, .int i_16, .ref a_20])), (a_7, .inl (cy 1, 30, .inl (mm_g [i_22, i_23, i_24, i_25, i_26, i_27, i_28, i_29, i_30, i_31, i_32, i_33, i_34, i_35, i_36, i_37, i_38, i_39, i_40, i_41, i_42, i_43, i_44, i_45, i_46, i_47, i_48, i_49, i_50, i_51]))), (a_8, .inl (cy 1, 90, .inl f_0)), (a_9, .inl (cy 1, 15, .inl f_1)), (a_10, .inl (cy 1, 1050, .inl f_2)), (a_11, .inl (cy 1, 30, .inl f_3)), (a_12, .inl (cy 1, 240, .inl f_4)), (a_13, .inl (cy 1, 450, .inl f_5))]) rfl (fun _ => rfl) (fun _ => @rfl _ ([a_6] : List Nat)) ?_
  clear hP hD hS
  clear H locs
  intro _u H locs hw (hP : va_P G vwCl [(a_0, .inr (12, [.int i_0, .ref a_1, .ref a_2, .ref a_3, .ref a_4, .ref a_5, .int i_1, .int i_2, .int i_3, .int i_4, .int i_5, .long j_0, .int i_6, .int i_7, .int i_8, .int i_9, .ref a_6, .ref a_7, .ref a_8, .ref a_9, .ref a_10, .ref a_11, .ref a_12, .ref a_13, .ref a_14, .ref a_15, .ref a_16, .ref a_17, .ref a_18, .int i_10, .int i_11, .int i_12, .int i_13, .int i_14, .int i_15, .ref a_19, .int i_16, .ref a_20])), (a_6, .inl (cy 1, 5, .inl (mm_g [i_19, i_18, i_19, i_20, i_21]))), (a_7, .inl (cy 1, 30, .inl (mm_g [i_22, i_23, i_24, i_25, i_26, i_27, i_28, i_29, i_30, i_31, i_32, i_33, i_34, i_35, i_36, i_37, i_38, i_39, i_40, i_41, i_42, i_43, i_44, i_45, i_46, i_47, i_48, i_49, i_50, i_51]))), (a_8, .inl (cy 1, 90, .inl f_0)), (a_9, .inl (cy 1, 15, .inl f_1)), (a_10, .inl (cy 1, 1050, .inl f_2)), (a_11, .inl (cy 1, 30, .inl f_3)), (a_12, .inl (cy 1, 240, .inl f_4)), (a_13, .inl (cy 1, 450, .inl f_5))] H) (hD : va_D A [(a_0, .inr (12, [.int i_0, .ref a_1, .ref a_2, .ref a_3, .ref a_4, .ref a_5, .int i_1, .int i_2, .int i_3, .int i_4, .int i_5, .long j_0, .int i_6, .int i_7, .int i_8, .int i_9, .ref a_6, .ref a_7, .ref a_8, .ref a_9, .ref a_10, .ref a_11, .ref a_12, .ref a_13, .ref a_14, .ref a_15, .ref a_16, .ref a_17, .ref a_18, .int i_10, .int i_11, .int i_12, .int i_13, .int i_14, .int i_15, .ref a_19, .int i_16, .ref a_20])), (a_6, .inl (cy 1, 5, .inl (mm_g [i_19, i_18, i_19, i_20, i_21]))), (a_7, .inl (cy 1, 30, .inl (mm_g [i_22, i_23, i_24, i_25, i_26, i_27, i_28, i_29, i_30, i_31, i_32, i_33, i_34, i_35, i_36, i_37, i_38, i_39, i_40, i_41, i_42, i_43, i_44, i_45, i_46, i_47, i_48, i_49, i_50, i_51]))), (a_8, .inl (cy 1, 90, .inl f_0)), (a_9, .inl (cy 1, 15, .inl f_1)), (a_10, .inl (cy 1, 1050, .inl f_2)), (a_11, .inl (cy 1, 30, .inl f_3)), (a_12, .inl (cy 1, 240, .inl f_4)), (a_13, .inl (cy 1, 450, .inl f_5))]) hS
  refine lv_aload_n hx hb dX12_copyBook_10 rfl (lv_at hl 0 rfl) ?_
  refine va_get (D := G) (ci := 12) (v := .ref a_7) (C := RX12) (T := TX12) (N := 38) hx hb hts (mm_i inlX12) hown hK.1 hP 0 rfl rfl 17 (by decide) (mm_h hts mm_w149) (fun _ h9 => h9) rfl dX12_copyBook_11 ?_
  refine lv_bipush (v := 6) hx hb dX12_copyBook_14 (by decide) ?_
  refine lv_iload_n hx hb dX12_copyBook_16 rfl (lv_at hl 1 rfl) ?_
  refine lv_iload_n hx hb dX12_copyBook_17 rfl (lv_at hl 2 rfl) ?_
  refine mm_finv (va_runS (As := [.ref a_7, .int 6, .int 2, .int 0]) (rest := []) ⟨hx, hb, hml, hown, hts⟩ (M361_X12_copyRow l G cy H.size a_7 i_22 i_23 i_24 i_25 i_26 i_27 i_28 i_29 i_30 i_31 i_32 i_33 i_34 i_35 i_36 i_37 i_38 i_39 i_40 i_41 i_42 i_43 i_44 i_45 i_46 i_47 i_48 i_49 i_50 i_51 h5 h6 h7 h8 h9 h10 h11 h12 h13 h14 h15 h16 h17 h18 h19 h20 h21 h22 h23 h24 h25 h26 h27 h28 h29 h30 h31 h32 h33 h34) (va_cwS 4 hts (mm_gS mm_w557 mm_w558 mm_w5 mm_w559) rfl rfl rfl hs_X12_copyRow ⟨by rw [hRf]; exact Nat.le_of_ble_eq_true rfl, by rw [hRl]; exact Nat.le_of_ble_eq_true rfl⟩) (mm_preS hK hZ hS hA hP hD [2] rfl rfl) rfl rfl hl.1 rfl (lv_room (Nat.le_of_ble_eq_true rfl)) dX12_copyBook_18 ⟨by rw [hRc]; exact Nat.le_of_ble_eq_true rfl, by rw [hRs]; exact Nat.le_of_ble_eq_true rfl⟩) hP hD hS hA (fun u : Unit => [(a_0, .inr (12, [.int i_0, .ref a_1, .ref a_2, .ref a_3, .ref a_4, .ref a_5, .int i_1, .int i_2, .int i_3, .int i_4, .int i_5, .long j_0, .int i_6, .int i_7, .int i_8, .int i_9, .ref a_6, .ref a_7, .ref a_8, .ref a_9, .ref a_10, .ref a_11, .ref a_12, .ref a_13, .ref a_14, .ref a_15, .ref a_16, .ref a_17, .ref a_18, .int i_10, .int i_11, .int i_12, .int i_13, .int i_14, .int i_15, .ref a_19, .int i_16, .ref a_20])), (a_6, .inl (cy 1, 5, .inl (mm_g [i_19, i_18, i_19, i_20, i_21]))), (a_7, .inl (cy 1, 30, .inl (mm_g [i_34, i_35, i_36, i_37, i_38, i_39, i_28, i_29, i_30, i_31, i_32, i_33, i_34, i_35, i_36, i_37, i_38, i_39, i_40, i_41, i_42, i_43, i_44, i_45, i_46, i_47, i_48, i_49, i_50, i_51]))), (a_8, .inl (cy 1, 90, .inl f_0)), (a_9, .inl (cy 1, 15, .inl f_1)), (a_10, .inl (cy 1, 1050, .inl f_2)), (a_11, .inl (cy 1, 30, .inl f_3)), (a_12, .inl (cy 1, 240, .inl f_4)), (a_13, .inl (cy 1, 450, .inl f_5))]) [2] [0, 1, 3, 4, 5, 6, 7, 8] (n := 9) (fun _ => rfl) (by decide +kernel) (by decide +kernel) rfl (fun _ => rfl) (wr := [(a_0, .inr (12, [.int i_0, .ref a_1, .ref a_2, .ref a_3, .ref a_4, .ref a_5, .int i_1, .int i_2, .int i_3, .int i_4, .int i_5, .long j_0, .int i_6, .int i_7, .int i_8, .int i_9, .ref a_6, .ref a_7, .ref a_8, .ref a_9, .ref a_10, .ref a_11, .ref a_12, .ref a_13, .ref a_14, .ref a_15, .ref a_16, .ref a_17, .ref a_18, .int i_10, .int i_11, .int i_12, .int i_13, .int i_14, .int i_15, .ref a_19, .int i_16, .ref a_20])), (a_6, .inl (cy 1, 5, .inl (mm_g [i_19, i_18, i_19, i_20, i_21]))), (a_8, .inl (cy 1, 90, .inl f_0)), (a_9, .inl (cy 1, 15, .inl f_1)), (a_10, .inl (cy 1, 1050, .inl f_2)), (a_11, .inl (cy 1, 30, .inl f_3)), (a_12, .inl (cy 1, 240, .inl f_4)), (a_13, .inl (cy 1, 450, .inl f_5))]) rfl (fun _ => rfl) (fun _ => @rfl _ ([a_7] : List Nat)) ?_
  clear hP hD hS
  clear H locs
  intro _u H locs hw (hP : va_P G vwCl [(a_0, .inr (12, [.int i_0, .ref a_1, .ref a_2, .ref a_3, .ref a_4, .ref a_5, .int i_1, .int i_2, .int i_3, .int i_4, .int i_5, .long j_0, .int i_6, .int i_7, .int i_8, .int i_9, .ref a_6, .ref a_7, .ref a_8, .ref a_9, .ref a_10, .ref a_11, .ref a_12, .ref a_13, .ref a_14, .ref a_15, .ref a_16, .ref a_17, .ref a_18, .int i_10, .int i_11, .int i_12, .int i_13, .int i_14, .int i_15, .ref a_19, .int i_16, .ref a_20])), (a_6, .inl (cy 1, 5, .inl (mm_g [i_19, i_18, i_19, i_20, i_21]))), (a_7, .inl (cy 1, 30, .inl (mm_g [i_34, i_35, i_36, i_37, i_38, i_39, i_28, i_29, i_30, i_31, i_32, i_33, i_34, i_35, i_36, i_37, i_38, i_39, i_40, i_41, i_42, i_43, i_44, i_45, i_46, i_47, i_48, i_49, i_50, i_51]))), (a_8, .inl (cy 1, 90, .inl f_0)), (a_9, .inl (cy 1, 15, .inl f_1)), (a_10, .inl (cy 1, 1050, .inl f_2)), (a_11, .inl (cy 1, 30, .inl f_3)), (a_12, .inl (cy 1, 240, .inl f_4)), (a_13, .inl (cy 1, 450, .inl f_5))] H) (hD : va_D A [(a_0, .inr (12, [.int i_0, .ref a_1, .ref a_2, .ref a_3, .ref a_4, .ref a_5, .int i_1, .int i_2, .int i_3, .int i_4, .int i_5, .long j_0, .int i_6, .int i_7, .int i_8, .int i_9, .ref a_6, .ref a_7, .ref a_8, .ref a_9, .ref a_10, .ref a_11, .ref a_12, .ref a_13, .ref a_14, .ref a_15, .ref a_16, .ref a_17, .ref a_18, .int i_10, .int i_11, .int i_12, .int i_13, .int i_14, .int i_15, .ref a_19, .int i_16, .ref a_20])), (a_6, .inl (cy 1, 5, .inl (mm_g [i_19, i_18, i_19, i_20, i_21]))), (a_7, .inl (cy 1, 30, .inl (mm_g [i_34, i_35, i_36, i_37, i_38, i_39, i_28, i_29, i_30, i_31, i_32, i_33, i_34, i_35, i_36, i_37, i_38, i_39, i_40, i_41, i_42, i_43, i_44, i_45, i_46, i_47, i_48, i_49, i_50, i_51]))), (a_8, .inl (cy 1, 90, .inl f_0)), (a_9, .inl (cy 1, 15, .inl f_1)), (a_10, .inl (cy 1, 1050, .inl f_2)), (a_11, .inl (cy 1, 30, .inl f_3)), (a_12, .inl (cy 1, 240, .inl f_4)), (a_13, .inl (cy 1, 450, .inl f_5))]) hS
  refine lv_aload_n hx hb dX12_copyBook_21 rfl (lv_at hl 0 rfl) ?_
  refine va_get (D := G) (ci := 12) (v := .ref a_8) (C := RX12) (T := TX12) (N := 38) hx hb hts (mm_i inlX12) hown hK.1 hP 0 rfl rfl 18 (by decide) (mm_h hts mm_w150) (fun _ h9 => h9) rfl dX12_copyBook_22 ?_
  refine lv_bipush (v := 18) hx hb dX12_copyBook_25 (by decide) ?_
  refine lv_iload_n hx hb dX12_copyBook_27 rfl (lv_at hl 1 rfl) ?_
  refine lv_iload_n hx hb dX12_copyBook_28 rfl (lv_at hl 2 rfl) ?_
  refine mm_finv (va_runS (As := [.ref a_8, .int 18, .int 2, .int 0]) (rest := []) ⟨hx, hb, hml, hown, hts⟩ (M362_X12_copyRow l G cy H.size a_8 f_0 h35) (va_cwS 4 hts (mm_gS mm_w557 mm_w558 mm_w5 mm_w559) rfl rfl rfl hs_X12_copyRow ⟨by rw [hRf]; exact Nat.le_of_ble_eq_true rfl, by rw [hRl]; exact Nat.le_of_ble_eq_true rfl⟩) (mm_preS hK hZ hS hA hP hD [3] rfl rfl) rfl rfl hl.1 rfl (lv_room (Nat.le_of_ble_eq_true rfl)) dX12_copyBook_29 ⟨by rw [hRc]; exact Nat.le_of_ble_eq_true rfl, by rw [hRs]; exact Nat.le_of_ble_eq_true rfl⟩) hP hD hS hA (fun u : (Nat → Int32) => [(a_0, .inr (12, [.int i_0, .ref a_1, .ref a_2, .ref a_3, .ref a_4, .ref a_5, .int i_1, .int i_2, .int i_3, .int i_4, .int i_5, .long j_0, .int i_6, .int i_7, .int i_8, .int i_9, .ref a_6, .ref a_7, .ref a_8, .ref a_9, .ref a_10, .ref a_11, .ref a_12, .ref a_13, .ref a_14, .ref a_15, .ref a_16, .ref a_17, .ref a_18, .int i_10, .int i_11, .int i_12, .int i_13, .int i_14, .int i_15, .ref a_19, .int i_16, .ref a_20])), (a_6, .inl (cy 1, 5, .inl (mm_g [i_19, i_18, i_19, i_20, i_21]))), (a_7, .inl (cy 1, 30, .inl (mm_g [i_34, i_35, i_36, i_37, i_38, i_39, i_28, i_29, i_30, i_31, i_32, i_33, i_34, i_35, i_36, i_37, i_38, i_39, i_40, i_41, i_42, i_43, i_44, i_45, i_46, i_47, i_48, i_49, i_50, i_51]))), (a_8, .inl (cy 1, 90, .inl u)), (a_9, .inl (cy 1, 15, .inl f_1)), (a_10, .inl (cy 1, 1050, .inl f_2)), (a_11, .inl (cy 1, 30, .inl f_3)), (a_12, .inl (cy 1, 240, .inl f_4)), (a_13, .inl (cy 1, 450, .inl f_5))]) [3] [0, 1, 2, 4, 5, 6, 7, 8] (n := 9) (fun _ => rfl) (by decide +kernel) (by decide +kernel) rfl (fun _ => rfl) (wr := [(a_0, .inr (12, [.int i_0, .ref a_1, .ref a_2, .ref a_3, .ref a_4, .ref a_5, .int i_1, .int i_2, .int i_3, .int i_4, .int i_5, .long j_0, .int i_6, .int i_7, .int i_8, .int i_9, .ref a_6, .ref a_7, .ref a_8, .ref a_9, .ref a_10, .ref a_11, .ref a_12, .ref a_13, .ref a_14, .ref a_15, .ref a_16, .ref a_17, .ref a_18, .int i_10, .int i_11, .int i_12, .int i_13, .int i_14, .int i_15, .ref a_19, .int i_16, .ref a_20])), (a_6, .inl (cy 1, 5, .inl (mm_g [i_19, i_18, i_19, i_20, i_21]))), (a_7, .inl (cy 1, 30, .inl (mm_g [i_34, i_35, i_36, i_37, i_38, i_39, i_28, i_29, i_30, i_31, i_32, i_33, i_34, i_35, i_36, i_37, i_38, i_39, i_40, i_41, i_42, i_43, i_44, i_45, i_46, i_47, i_48, i_49, i_50, i_51]))), (a_9, .inl (cy 1, 15, .inl f_1)), (a_10, .inl (cy 1, 1050, .inl f_2)), (a_11, .inl (cy 1, 30, .inl f_3)), (a_12, .inl (cy 1, 240, .inl f_4)), (a_13, .inl (cy 1, 450, .inl f_5))]) rfl (fun _ => rfl) (fun _ => rfl) ?_
  clear hP hD hS
  clear H locs
  intro n1 H locs hw (hP : va_P G vwCl [(a_0, .inr (12, [.int i_0, .ref a_1, .ref a_2, .ref a_3, .ref a_4, .ref a_5, .int i_1, .int i_2, .int i_3, .int i_4, .int i_5, .long j_0, .int i_6, .int i_7, .int i_8, .int i_9, .ref a_6, .ref a_7, .ref a_8, .ref a_9, .ref a_10, .ref a_11, .ref a_12, .ref a_13, .ref a_14, .ref a_15, .ref a_16, .ref a_17, .ref a_18, .int i_10, .int i_11, .int i_12, .int i_13, .int i_14, .int i_15, .ref a_19, .int i_16, .ref a_20])), (a_6, .inl (cy 1, 5, .inl (mm_g [i_19, i_18, i_19, i_20, i_21]))), (a_7, .inl (cy 1, 30, .inl (mm_g [i_34, i_35, i_36, i_37, i_38, i_39, i_28, i_29, i_30, i_31, i_32, i_33, i_34, i_35, i_36, i_37, i_38, i_39, i_40, i_41, i_42, i_43, i_44, i_45, i_46, i_47, i_48, i_49, i_50, i_51]))), (a_8, .inl (cy 1, 90, .inl n1)), (a_9, .inl (cy 1, 15, .inl f_1)), (a_10, .inl (cy 1, 1050, .inl f_2)), (a_11, .inl (cy 1, 30, .inl f_3)), (a_12, .inl (cy 1, 240, .inl f_4)), (a_13, .inl (cy 1, 450, .inl f_5))] H) (hD : va_D A [(a_0, .inr (12, [.int i_0, .ref a_1, .ref a_2, .ref a_3, .ref a_4, .ref a_5, .int i_1, .int i_2, .int i_3, .int i_4, .int i_5, .long j_0, .int i_6, .int i_7, .int i_8, .int i_9, .ref a_6, .ref a_7, .ref a_8, .ref a_9, .ref a_10, .ref a_11, .ref a_12, .ref a_13, .ref a_14, .ref a_15, .ref a_16, .ref a_17, .ref a_18, .int i_10, .int i_11, .int i_12, .int i_13, .int i_14, .int i_15, .ref a_19, .int i_16, .ref a_20])), (a_6, .inl (cy 1, 5, .inl (mm_g [i_19, i_18, i_19, i_20, i_21]))), (a_7, .inl (cy 1, 30, .inl (mm_g [i_34, i_35, i_36, i_37, i_38, i_39, i_28, i_29, i_30, i_31, i_32, i_33, i_34, i_35, i_36, i_37, i_38, i_39, i_40, i_41, i_42, i_43, i_44, i_45, i_46, i_47, i_48, i_49, i_50, i_51]))), (a_8, .inl (cy 1, 90, .inl n1)), (a_9, .inl (cy 1, 15, .inl f_1)), (a_10, .inl (cy 1, 1050, .inl f_2)), (a_11, .inl (cy 1, 30, .inl f_3)), (a_12, .inl (cy 1, 240, .inl f_4)), (a_13, .inl (cy 1, 450, .inl f_5))]) hS
  obtain ⟨w2, w3⟩ := hw
  refine lv_aload_n hx hb dX12_copyBook_32 rfl (lv_at hl 0 rfl) ?_
  refine va_get (D := G) (ci := 12) (v := .ref a_9) (C := RX12) (T := TX12) (N := 38) hx hb hts (mm_i inlX12) hown hK.1 hP 0 rfl rfl 19 (by decide) (mm_h hts mm_w151) (fun _ h9 => h9) rfl dX12_copyBook_33 ?_
  refine lv_iconst (v := 3) hx hb dX12_copyBook_36 (by decide) ?_
  refine lv_iload_n hx hb dX12_copyBook_37 rfl (lv_at hl 1 rfl) ?_
  refine lv_iload_n hx hb dX12_copyBook_38 rfl (lv_at hl 2 rfl) ?_
  refine mm_finv (va_runS (As := [.ref a_9, .int 3, .int 2, .int 0]) (rest := []) ⟨hx, hb, hml, hown, hts⟩ (M363_X12_copyRow l G cy H.size a_9 f_1 h36) (va_cwS 4 hts (mm_gS mm_w557 mm_w558 mm_w5 mm_w559) rfl rfl rfl hs_X12_copyRow ⟨by rw [hRf]; exact Nat.le_of_ble_eq_true rfl, by rw [hRl]; exact Nat.le_of_ble_eq_true rfl⟩) (mm_preS hK hZ hS hA hP hD [4] rfl rfl) rfl rfl hl.1 rfl (lv_room (Nat.le_of_ble_eq_true rfl)) dX12_copyBook_39 ⟨by rw [hRc]; exact Nat.le_of_ble_eq_true rfl, by rw [hRs]; exact Nat.le_of_ble_eq_true rfl⟩) hP hD hS hA (fun u : (Nat → Int32) => [(a_0, .inr (12, [.int i_0, .ref a_1, .ref a_2, .ref a_3, .ref a_4, .ref a_5, .int i_1, .int i_2, .int i_3, .int i_4, .int i_5, .long j_0, .int i_6, .int i_7, .int i_8, .int i_9, .ref a_6, .ref a_7, .ref a_8, .ref a_9, .ref a_10, .ref a_11, .ref a_12, .ref a_13, .ref a_14, .ref a_15, .ref a_16, .ref a_17, .ref a_18, .int i_10, .int i_11, .int i_12, .int i_13, .int i_14, .int i_15, .ref a_19, .int i_16, .ref a_20])), (a_6, .inl (cy 1, 5, .inl (mm_g [i_19, i_18, i_19, i_20, i_21]))), (a_7, .inl (cy 1, 30, .inl (mm_g [i_34, i_35, i_36, i_37, i_38, i_39, i_28, i_29, i_30, i_31, i_32, i_33, i_34, i_35, i_36, i_37, i_38, i_39, i_40, i_41, i_42, i_43, i_44, i_45, i_46, i_47, i_48, i_49, i_50, i_51]))), (a_8, .inl (cy 1, 90, .inl n1)), (a_9, .inl (cy 1, 15, .inl u)), (a_10, .inl (cy 1, 1050, .inl f_2)), (a_11, .inl (cy 1, 30, .inl f_3)), (a_12, .inl (cy 1, 240, .inl f_4)), (a_13, .inl (cy 1, 450, .inl f_5))]) [4] [0, 1, 2, 3, 5, 6, 7, 8] (n := 9) (fun _ => rfl) (by decide +kernel) (by decide +kernel) rfl (fun _ => rfl) (wr := [(a_0, .inr (12, [.int i_0, .ref a_1, .ref a_2, .ref a_3, .ref a_4, .ref a_5, .int i_1, .int i_2, .int i_3, .int i_4, .int i_5, .long j_0, .int i_6, .int i_7, .int i_8, .int i_9, .ref a_6, .ref a_7, .ref a_8, .ref a_9, .ref a_10, .ref a_11, .ref a_12, .ref a_13, .ref a_14, .ref a_15, .ref a_16, .ref a_17, .ref a_18, .int i_10, .int i_11, .int i_12, .int i_13, .int i_14, .int i_15, .ref a_19, .int i_16, .ref a_20])), (a_6, .inl (cy 1, 5, .inl (mm_g [i_19, i_18, i_19, i_20, i_21]))), (a_7, .inl (cy 1, 30, .inl (mm_g [i_34, i_35, i_36, i_37, i_38, i_39, i_28, i_29, i_30, i_31, i_32, i_33, i_34, i_35, i_36, i_37, i_38, i_39, i_40, i_41, i_42, i_43, i_44, i_45, i_46, i_47, i_48, i_49, i_50, i_51]))), (a_8, .inl (cy 1, 90, .inl n1)), (a_10, .inl (cy 1, 1050, .inl f_2)), (a_11, .inl (cy 1, 30, .inl f_3)), (a_12, .inl (cy 1, 240, .inl f_4)), (a_13, .inl (cy 1, 450, .inl f_5))]) rfl (fun _ => rfl) (fun _ => rfl) ?_
  clear hP hD hS
  clear H locs
  intro n4 H locs hw (hP : va_P G vwCl [(a_0, .inr (12, [.int i_0, .ref a_1, .ref a_2, .ref a_3, .ref a_4, .ref a_5, .int i_1, .int i_2, .int i_3, .int i_4, .int i_5, .long j_0, .int i_6, .int i_7, .int i_8, .int i_9, .ref a_6, .ref a_7, .ref a_8, .ref a_9, .ref a_10, .ref a_11, .ref a_12, .ref a_13, .ref a_14, .ref a_15, .ref a_16, .ref a_17, .ref a_18, .int i_10, .int i_11, .int i_12, .int i_13, .int i_14, .int i_15, .ref a_19, .int i_16, .ref a_20])), (a_6, .inl (cy 1, 5, .inl (mm_g [i_19, i_18, i_19, i_20, i_21]))), (a_7, .inl (cy 1, 30, .inl (mm_g [i_34, i_35, i_36, i_37, i_38, i_39, i_28, i_29, i_30, i_31, i_32, i_33, i_34, i_35, i_36, i_37, i_38, i_39, i_40, i_41, i_42, i_43, i_44, i_45, i_46, i_47, i_48, i_49, i_50, i_51]))), (a_8, .inl (cy 1, 90, .inl n1)), (a_9, .inl (cy 1, 15, .inl n4)), (a_10, .inl (cy 1, 1050, .inl f_2)), (a_11, .inl (cy 1, 30, .inl f_3)), (a_12, .inl (cy 1, 240, .inl f_4)), (a_13, .inl (cy 1, 450, .inl f_5))] H) (hD : va_D A [(a_0, .inr (12, [.int i_0, .ref a_1, .ref a_2, .ref a_3, .ref a_4, .ref a_5, .int i_1, .int i_2, .int i_3, .int i_4, .int i_5, .long j_0, .int i_6, .int i_7, .int i_8, .int i_9, .ref a_6, .ref a_7, .ref a_8, .ref a_9, .ref a_10, .ref a_11, .ref a_12, .ref a_13, .ref a_14, .ref a_15, .ref a_16, .ref a_17, .ref a_18, .int i_10, .int i_11, .int i_12, .int i_13, .int i_14, .int i_15, .ref a_19, .int i_16, .ref a_20])), (a_6, .inl (cy 1, 5, .inl (mm_g [i_19, i_18, i_19, i_20, i_21]))), (a_7, .inl (cy 1, 30, .inl (mm_g [i_34, i_35, i_36, i_37, i_38, i_39, i_28, i_29, i_30, i_31, i_32, i_33, i_34, i_35, i_36, i_37, i_38, i_39, i_40, i_41, i_42, i_43, i_44, i_45, i_46, i_47, i_48, i_49, i_50, i_51]))), (a_8, .inl (cy 1, 90, .inl n1)), (a_9, .inl (cy 1, 15, .inl n4)), (a_10, .inl (cy 1, 1050, .inl f_2)), (a_11, .inl (cy 1, 30, .inl f_3)), (a_12, .inl (cy 1, 240, .inl f_4)), (a_13, .inl (cy 1, 450, .inl f_5))]) hS
  obtain ⟨w5, w6⟩ := hw
  refine lv_aload_n hx hb dX12_copyBook_42 rfl (lv_at hl 0 rfl) ?_
  refine va_get (D := G) (ci := 12) (v := .ref a_10) (C := RX12) (T := TX12) (N := 38) hx hb hts (mm_i inlX12) hown hK.1 hP 0 rfl rfl 20 (by decide) (mm_h hts mm_w152) (fun _ h9 => h9) rfl dX12_copyBook_43 ?_
  refine lv_sipush (v := 210) hx hb dX12_copyBook_46 (by decide) ?_
  refine lv_iload_n hx hb dX12_copyBook_49 rfl (lv_at hl 1 rfl) ?_
  refine lv_iload_n hx hb dX12_copyBook_50 rfl (lv_at hl 2 rfl) ?_
  refine mm_finv (va_runS (As := [.ref a_10, .int 210, .int 2, .int 0]) (rest := []) ⟨hx, hb, hml, hown, hts⟩ (M364_X12_copyRow l G cy H.size a_10 f_2 h37) (va_cwS 4 hts (mm_gS mm_w557 mm_w558 mm_w5 mm_w559) rfl rfl rfl hs_X12_copyRow ⟨by rw [hRf]; exact Nat.le_of_ble_eq_true rfl, by rw [hRl]; exact Nat.le_of_ble_eq_true rfl⟩) (mm_preS hK hZ hS hA hP hD [5] rfl rfl) rfl rfl hl.1 rfl (lv_room (Nat.le_of_ble_eq_true rfl)) dX12_copyBook_51 ⟨by rw [hRc]; exact Nat.le_of_ble_eq_true rfl, by rw [hRs]; exact Nat.le_of_ble_eq_true rfl⟩) hP hD hS hA (fun u : (Nat → Int32) => [(a_0, .inr (12, [.int i_0, .ref a_1, .ref a_2, .ref a_3, .ref a_4, .ref a_5, .int i_1, .int i_2, .int i_3, .int i_4, .int i_5, .long j_0, .int i_6, .int i_7, .int i_8, .int i_9, .ref a_6, .ref a_7, .ref a_8, .ref a_9, .ref a_10, .ref a_11, .ref a_12, .ref a_13, .ref a_14, .ref a_15, .ref a_16, .ref a_17, .ref a_18, .int i_10, .int i_11, .int i_12, .int i_13, .int i_14, .int i_15, .ref a_19, .int i_16, .ref a_20])), (a_6, .inl (cy 1, 5, .inl (mm_g [i_19, i_18, i_19, i_20, i_21]))), (a_7, .inl (cy 1, 30, .inl (mm_g [i_34, i_35, i_36, i_37, i_38, i_39, i_28, i_29, i_30, i_31, i_32, i_33, i_34, i_35, i_36, i_37, i_38, i_39, i_40, i_41, i_42, i_43, i_44, i_45, i_46, i_47, i_48, i_49, i_50, i_51]))), (a_8, .inl (cy 1, 90, .inl n1)), (a_9, .inl (cy 1, 15, .inl n4)), (a_10, .inl (cy 1, 1050, .inl u)), (a_11, .inl (cy 1, 30, .inl f_3)), (a_12, .inl (cy 1, 240, .inl f_4)), (a_13, .inl (cy 1, 450, .inl f_5))]) [5] [0, 1, 2, 3, 4, 6, 7, 8] (n := 9) (fun _ => rfl) (by decide +kernel) (by decide +kernel) rfl (fun _ => rfl) (wr := [(a_0, .inr (12, [.int i_0, .ref a_1, .ref a_2, .ref a_3, .ref a_4, .ref a_5, .int i_1, .int i_2, .int i_3, .int i_4, .int i_5, .long j_0, .int i_6, .int i_7, .int i_8, .int i_9, .ref a_6, .ref a_7, .ref a_8, .ref a_9, .ref a_10, .ref a_11, .ref a_12, .ref a_13, .ref a_14, .ref a_15, .ref a_16, .ref a_17, .ref a_18, .int i_10, .int i_11, .int i_12, .int i_13, .int i_14, .int i_15, .ref a_19, .int i_16, .ref a_20])), (a_6, .inl (cy 1, 5, .inl (mm_g [i_19, i_18, i_19, i_20, i_21]))), (a_7, .inl (cy 1, 30, .inl (mm_g [i_34, i_35, i_36, i_37, i_38, i_39, i_28, i_29, i_30, i_31, i_32, i_33, i_34, i_35, i_36, i_37, i_38, i_39, i_40, i_41, i_42, i_43, i_44, i_45, i_46, i_47, i_48, i_49, i_50, i_51]))), (a_8, .inl (cy 1, 90, .inl n1)), (a_9, .inl (cy 1, 15, .inl n4)), (a_11, .inl (cy 1, 30, .inl f_3)), (a_12, .inl (cy 1, 240, .inl f_4)), (a_13, .inl (cy 1, 450, .inl f_5))]) rfl (fun _ => rfl) (fun _ => rfl) ?_
  clear hP hD hS
  clear H locs
  intro n7 H locs hw (hP : va_P G vwCl [(a_0, .inr (12, [.int i_0, .ref a_1, .ref a_2, .ref a_3, .ref a_4, .ref a_5, .int i_1, .int i_2, .int i_3, .int i_4, .int i_5, .long j_0, .int i_6, .int i_7, .int i_8, .int i_9, .ref a_6, .ref a_7, .ref a_8, .ref a_9, .ref a_10, .ref a_11, .ref a_12, .ref a_13, .ref a_14, .ref a_15, .ref a_16, .ref a_17, .ref a_18, .int i_10, .int i_11, .int i_12, .int i_13, .int i_14, .int i_15, .ref a_19, .int i_16, .ref a_20])), (a_6, .inl (cy 1, 5, .inl (mm_g [i_19, i_18, i_19, i_20, i_21]))), (a_7, .inl (cy 1, 30, .inl (mm_g [i_34, i_35, i_36, i_37, i_38, i_39, i_28, i_29, i_30, i_31, i_32, i_33, i_34, i_35, i_36, i_37, i_38, i_39, i_40, i_41, i_42, i_43, i_44, i_45, i_46, i_47, i_48, i_49, i_50, i_51]))), (a_8, .inl (cy 1, 90, .inl n1)), (a_9, .inl (cy 1, 15, .inl n4)), (a_10, .inl (cy 1, 1050, .inl n7)), (a_11, .inl (cy 1, 30, .inl f_3)), (a_12, .inl (cy 1, 240, .inl f_4)), (a_13, .inl (cy 1, 450, .inl f_5))] H) (hD : va_D A [(a_0, .inr (12, [.int i_0, .ref a_1, .ref a_2, .ref a_3, .ref a_4, .ref a_5, .int i_1, .int i_2, .int i_3, .int i_4, .int i_5, .long j_0, .int i_6, .int i_7, .int i_8, .int i_9, .ref a_6, .ref a_7, .ref a_8, .ref a_9, .ref a_10, .ref a_11, .ref a_12, .ref a_13, .ref a_14, .ref a_15, .ref a_16, .ref a_17, .ref a_18, .int i_10, .int i_11, .int i_12, .int i_13, .int i_14, .int i_15, .ref a_19, .int i_16, .ref a_20])), (a_6, .inl (cy 1, 5, .inl (mm_g [i_19, i_18, i_19, i_20, i_21]))), (a_7, .inl (cy 1, 30, .inl (mm_g [i_34, i_35, i_36, i_37, i_38, i_39, i_28, i_29, i_30, i_31, i_32, i_33, i_34, i_35, i_36, i_37, i_38, i_39, i_40, i_41, i_42, i_43, i_44, i_45, i_46, i_47, i_48, i_49, i_50, i_51]))), (a_8, .inl (cy 1, 90, .inl n1)), (a_9, .inl (cy 1, 15, .inl n4)), (a_10, .inl (cy 1, 1050, .inl n7)), (a_11, .inl (cy 1, 30, .inl f_3)), (a_12, .inl (cy 1, 240, .inl f_4)), (a_13, .inl (cy 1, 450, .inl f_5))]) hS
  obtain ⟨w8, w9⟩ := hw
  refine lv_aload_n hx hb dX12_copyBook_54 rfl (lv_at hl 0 rfl) ?_
  refine va_get (D := G) (ci := 12) (v := .ref a_11) (C := RX12) (T := TX12) (N := 38) hx hb hts (mm_i inlX12) hown hK.1 hP 0 rfl rfl 21 (by decide) (mm_h hts mm_w153) (fun _ h9 => h9) rfl dX12_copyBook_55 ?_
  refine lv_bipush (v := 6) hx hb dX12_copyBook_58 (by decide) ?_
  refine lv_iload_n hx hb dX12_copyBook_60 rfl (lv_at hl 1 rfl) ?_
  refine lv_iload_n hx hb dX12_copyBook_61 rfl (lv_at hl 2 rfl) ?_
  refine mm_finv (va_runS (As := [.ref a_11, .int 6, .int 2, .int 0]) (rest := []) ⟨hx, hb, hml, hown, hts⟩ (M365_X12_copyRow l G cy H.size a_11 f_3 h38) (va_cwS 4 hts (mm_gS mm_w557 mm_w558 mm_w5 mm_w559) rfl rfl rfl hs_X12_copyRow ⟨by rw [hRf]; exact Nat.le_of_ble_eq_true rfl, by rw [hRl]; exact Nat.le_of_ble_eq_true rfl⟩) (mm_preS hK hZ hS hA hP hD [6] rfl rfl) rfl rfl hl.1 rfl (lv_room (Nat.le_of_ble_eq_true rfl)) dX12_copyBook_62 ⟨by rw [hRc]; exact Nat.le_of_ble_eq_true rfl, by rw [hRs]; exact Nat.le_of_ble_eq_true rfl⟩) hP hD hS hA (fun u : (Nat → Int32) => [(a_0, .inr (12, [.int i_0, .ref a_1, .ref a_2, .ref a_3, .ref a_4, .ref a_5, .int i_1, .int i_2, .int i_3, .int i_4, .int i_5, .long j_0, .int i_6, .int i_7, .int i_8, .int i_9, .ref a_6, .ref a_7, .ref a_8, .ref a_9, .ref a_10, .ref a_11, .ref a_12, .ref a_13, .ref a_14, .ref a_15, .ref a_16, .ref a_17, .ref a_18, .int i_10, .int i_11, .int i_12, .int i_13, .int i_14, .int i_15, .ref a_19, .int i_16, .ref a_20])), (a_6, .inl (cy 1, 5, .inl (mm_g [i_19, i_18, i_19, i_20, i_21]))), (a_7, .inl (cy 1, 30, .inl (mm_g [i_34, i_35, i_36, i_37, i_38, i_39, i_28, i_29, i_30, i_31, i_32, i_33, i_34, i_35, i_36, i_37, i_38, i_39, i_40, i_41, i_42, i_43, i_44, i_45, i_46, i_47, i_48, i_49, i_50, i_51]))), (a_8, .inl (cy 1, 90, .inl n1)), (a_9, .inl (cy 1, 15, .inl n4)), (a_10, .inl (cy 1, 1050, .inl n7)), (a_11, .inl (cy 1, 30, .inl u)), (a_12, .inl (cy 1, 240, .inl f_4)), (a_13, .inl (cy 1, 450, .inl f_5))]) [6] [0, 1, 2, 3, 4, 5, 7, 8] (n := 9) (fun _ => rfl) (by decide +kernel) (by decide +kernel) rfl (fun _ => rfl) (wr := [(a_0, .inr (12, [.int i_0, .ref a_1, .ref a_2, .ref a_3, .ref a_4, .ref a_5, .int i_1, .int i_2, .int i_3, .int i_4, .int i_5, .long j_0, .int i_6, .int i_7, .int i_8, .int i_9, .ref a_6, .ref a_7, .ref a_8, .ref a_9, .ref a_10, .ref a_11, .ref a_12, .ref a_13, .ref a_14, .ref a_15, .ref a_16, .ref a_17, .ref a_18, .int i_10, .int i_11, .int i_12, .int i_13, .int i_14, .int i_15, .ref a_19, .int i_16, .ref a_20])), (a_6, .inl (cy 1, 5, .inl (mm_g [i_19, i_18, i_19, i_20, i_21]))), (a_7, .inl (cy 1, 30, .inl (mm_g [i_34, i_35, i_36, i_37, i_38, i_39, i_28, i_29, i_30, i_31, i_32, i_33, i_34, i_35, i_36, i_37, i_38, i_39, i_40, i_41, i_42, i_43, i_44, i_45, i_46, i_47, i_48, i_49, i_50, i_51]))), (a_8, .inl (cy 1, 90, .inl n1)), (a_9, .inl (cy 1, 15, .inl n4)), (a_10, .inl (cy 1, 1050, .inl n7)), (a_12, .inl (cy 1, 240, .inl f_4)), (a_13, .inl (cy 1, 450, .inl f_5))]) rfl (fun _ => rfl) (fun _ => rfl) ?_
  clear hP hD hS
  clear H locs
  intro n10 H locs hw (hP : va_P G vwCl [(a_0, .inr (12, [.int i_0, .ref a_1, .ref a_2, .ref a_3, .ref a_4, .ref a_5, .int i_1, .int i_2, .int i_3, .int i_4, .int i_5, .long j_0, .int i_6, .int i_7, .int i_8, .int i_9, .ref a_6, .ref a_7, .ref a_8, .ref a_9, .ref a_10, .ref a_11, .ref a_12, .ref a_13, .ref a_14, .ref a_15, .ref a_16, .ref a_17, .ref a_18, .int i_10, .int i_11, .int i_12, .int i_13, .int i_14, .int i_15, .ref a_19, .int i_16, .ref a_20])), (a_6, .inl (cy 1, 5, .inl (mm_g [i_19, i_18, i_19, i_20, i_21]))), (a_7, .inl (cy 1, 30, .inl (mm_g [i_34, i_35, i_36, i_37, i_38, i_39, i_28, i_29, i_30, i_31, i_32, i_33, i_34, i_35, i_36, i_37, i_38, i_39, i_40, i_41, i_42, i_43, i_44, i_45, i_46, i_47, i_48, i_49, i_50, i_51]))), (a_8, .inl (cy 1, 90, .inl n1)), (a_9, .inl (cy 1, 15, .inl n4)), (a_10, .inl (cy 1, 1050, .inl n7)), (a_11, .inl (cy 1, 30, .inl n10)), (a_12, .inl (cy 1, 240, .inl f_4)), (a_13, .inl (cy 1, 450, .inl f_5))] H) (hD : va_D A [(a_0, .inr (12, [.int i_0, .ref a_1, .ref a_2, .ref a_3, .ref a_4, .ref a_5, .int i_1, .int i_2, .int i_3, .int i_4, .int i_5, .long j_0, .int i_6, .int i_7, .int i_8, .int i_9, .ref a_6, .ref a_7, .ref a_8, .ref a_9, .ref a_10, .ref a_11, .ref a_12, .ref a_13, .ref a_14, .ref a_15, .ref a_16, .ref a_17, .ref a_18, .int i_10, .int i_11, .int i_12, .int i_13, .int i_14, .int i_15, .ref a_19, .int i_16, .ref a_20])), (a_6, .inl (cy 1, 5, .inl (mm_g [i_19, i_18, i_19, i_20, i_21]))), (a_7, .inl (cy 1, 30, .inl (mm_g [i_34, i_35, i_36, i_37, i_38, i_39, i_28, i_29, i_30, i_31, i_32, i_33, i_34, i_35, i_36, i_37, i_38, i_39, i_40, i_41, i_42, i_43, i_44, i_45, i_46, i_47, i_48, i_49, i_50, i_51]))), (a_8, .inl (cy 1, 90, .inl n1)), (a_9, .inl (cy 1, 15, .inl n4)), (a_10, .inl (cy 1, 1050, .inl n7)), (a_11, .inl (cy 1, 30, .inl n10)), (a_12, .inl (cy 1, 240, .inl f_4)), (a_13, .inl (cy 1, 450, .inl f_5))]) hS
  obtain ⟨w11, w12⟩ := hw
  refine lv_aload_n hx hb dX12_copyBook_65 rfl (lv_at hl 0 rfl) ?_
  refine va_get (D := G) (ci := 12) (v := .ref a_12) (C := RX12) (T := TX12) (N := 38) hx hb hts (mm_i inlX12) hown hK.1 hP 0 rfl rfl 22 (by decide) (mm_h hts mm_w154) (fun _ h9 => h9) rfl dX12_copyBook_66 ?_
  refine lv_bipush (v := 48) hx hb dX12_copyBook_69 (by decide) ?_
  refine lv_iload_n hx hb dX12_copyBook_71 rfl (lv_at hl 1 rfl) ?_
  refine lv_iload_n hx hb dX12_copyBook_72 rfl (lv_at hl 2 rfl) ?_
  refine mm_finv (va_runS (As := [.ref a_12, .int 48, .int 2, .int 0]) (rest := []) ⟨hx, hb, hml, hown, hts⟩ (M366_X12_copyRow l G cy H.size a_12 f_4 h39) (va_cwS 4 hts (mm_gS mm_w557 mm_w558 mm_w5 mm_w559) rfl rfl rfl hs_X12_copyRow ⟨by rw [hRf]; exact Nat.le_of_ble_eq_true rfl, by rw [hRl]; exact Nat.le_of_ble_eq_true rfl⟩) (mm_preS hK hZ hS hA hP hD [7] rfl rfl) rfl rfl hl.1 rfl (lv_room (Nat.le_of_ble_eq_true rfl)) dX12_copyBook_73 ⟨by rw [hRc]; exact Nat.le_of_ble_eq_true rfl, by rw [hRs]; exact Nat.le_of_ble_eq_true rfl⟩) hP hD hS hA (fun u : (Nat → Int32) => [(a_0, .inr (12, [.int i_0, .ref a_1, .ref a_2, .ref a_3, .ref a_4, .ref a_5, .int i_1, .int i_2, .int i_3, .int i_4, .int i_5, .long j_0, .int i_6, .int i_7, .int i_8, .int i_9, .ref a_6, .ref a_7, .ref a_8, .ref a_9, .ref a_10, .ref a_11, .ref a_12, .ref a_13, .ref a_14, .ref a_15, .ref a_16, .ref a_17, .ref a_18, .int i_10, .int i_11, .int i_12, .int i_13, .int i_14, .int i_15, .ref a_19, .int i_16, .ref a_20])), (a_6, .inl (cy 1, 5, .inl (mm_g [i_19, i_18, i_19, i_20, i_21]))), (a_7, .inl (cy 1, 30, .inl (mm_g [i_34, i_35, i_36, i_37, i_38, i_39, i_28, i_29, i_30, i_31, i_32, i_33, i_34, i_35, i_36, i_37, i_38, i_39, i_40, i_41, i_42, i_43, i_44, i_45, i_46, i_47, i_48, i_49, i_50, i_51]))), (a_8, .inl (cy 1, 90, .inl n1)), (a_9, .inl (cy 1, 15, .inl n4)), (a_10, .inl (cy 1, 1050, .inl n7)), (a_11, .inl (cy 1, 30, .inl n10)), (a_12, .inl (cy 1, 240, .inl u)), (a_13, .inl (cy 1, 450, .inl f_5))]) [7] [0, 1, 2, 3, 4, 5, 6, 8] (n := 9) (fun _ => rfl) (by decide +kernel) (by decide +kernel) rfl (fun _ => rfl) (wr := [(a_0, .inr (12, [.int i_0, .ref a_1, .ref a_2, .ref a_3, .ref a_4, .ref a_5, .int i_1, .int i_2, .int i_3, .int i_4, .int i_5, .long j_0, .int i_6, .int i_7, .int i_8, .int i_9, .ref a_6, .ref a_7, .ref a_8, .ref a_9, .ref a_10, .ref a_11, .ref a_12, .ref a_13, .ref a_14, .ref a_15, .ref a_16, .ref a_17, .ref a_18, .int i_10, .int i_11, .int i_12, .int i_13, .int i_14, .int i_15, .ref a_19, .int i_16, .ref a_20])), (a_6, .inl (cy 1, 5, .inl (mm_g [i_19, i_18, i_19, i_20, i_21]))), (a_7, .inl (cy 1, 30, .inl (mm_g [i_34, i_35, i_36, i_37, i_38, i_39, i_28, i_29, i_30, i_31, i_32, i_33, i_34, i_35, i_36, i_37, i_38, i_39, i_40, i_41, i_42, i_43, i_44, i_45, i_46, i_47, i_48, i_49, i_50, i_51]))), (a_8, .inl (cy 1, 90, .inl n1)), (a_9, .inl (cy 1, 15, .inl n4)), (a_10, .inl (cy 1, 1050, .inl n7)), (a_11, .inl (cy 1, 30, .inl n10)), (a_13, .inl (cy 1, 450, .inl f_5))]) rfl (fun _ => rfl) (fun _ => rfl) ?_
  clear hP hD hS
  clear H locs
  intro n13 H locs hw (hP : va_P G vwCl [(a_0, .inr (12, [.int i_0, .ref a_1, .ref a_2, .ref a_3, .ref a_4, .ref a_5, .int i_1, .int i_2, .int i_3, .int i_4, .int i_5, .long j_0, .int i_6, .int i_7, .int i_8, .int i_9, .ref a_6, .ref a_7, .ref a_8, .ref a_9, .ref a_10, .ref a_11, .ref a_12, .ref a_13, .ref a_14, .ref a_15, .ref a_16, .ref a_17, .ref a_18, .int i_10, .int i_11, .int i_12, .int i_13, .int i_14, .int i_15, .ref a_19, .int i_16, .ref a_20])), (a_6, .inl (cy 1, 5, .inl (mm_g [i_19, i_18, i_19, i_20, i_21]))), (a_7, .inl (cy 1, 30, .inl (mm_g [i_34, i_35, i_36, i_37, i_38, i_39, i_28, i_29, i_30, i_31, i_32, i_33, i_34, i_35, i_36, i_37, i_38, i_39, i_40, i_41, i_42, i_43, i_44, i_45, i_46, i_47, i_48, i_49, i_50, i_51]))), (a_8, .inl (cy 1, 90, .inl n1)), (a_9, .inl (cy 1, 15, .inl n4)), (a_10, .inl (cy 1, 1050, .inl n7)), (a_11, .inl (cy 1, 30, .inl n10)), (a_12, .inl (cy 1, 240, .inl n13)), (a_13, .inl (cy 1, 450, .inl f_5))] H) (hD : va_D A [(a_0, .inr (12, [.int i_0, .ref a_1, .ref a_2, .ref a_3, .ref a_4, .ref a_5, .int i_1, .int i_2, .int i_3, .int i_4, .int i_5, .long j_0, .int i_6, .int i_7, .int i_8, .int i_9, .ref a_6, .ref a_7, .ref a_8, .ref a_9, .ref a_10, .ref a_11, .ref a_12, .ref a_13, .ref a_14, .ref a_15, .ref a_16, .ref a_17, .ref a_18, .int i_10, .int i_11, .int i_12, .int i_13, .int i_14, .int i_15, .ref a_19, .int i_16, .ref a_20])), (a_6, .inl (cy 1, 5, .inl (mm_g [i_19, i_18, i_19, i_20, i_21]))), (a_7, .inl (cy 1, 30, .inl (mm_g [i_34, i_35, i_36, i_37, i_38, i_39, i_28, i_29, i_30, i_31, i_32, i_33, i_34, i_35, i_36, i_37, i_38, i_39, i_40, i_41, i_42, i_43, i_44, i_45, i_46, i_47, i_48, i_49, i_50, i_51]))), (a_8, .inl (cy 1, 90, .inl n1)), (a_9, .inl (cy 1, 15, .inl n4)), (a_10, .inl (cy 1, 1050, .inl n7)), (a_11, .inl (cy 1, 30, .inl n10)), (a_12, .inl (cy 1, 240, .inl n13)), (a_13, .inl (cy 1, 450, .inl f_5))]) hS
  obtain ⟨w14, w15⟩ := hw
  refine lv_aload_n hx hb dX12_copyBook_76 rfl (lv_at hl 0 rfl) ?_
  refine va_get (D := G) (ci := 12) (v := .ref a_13) (C := RX12) (T := TX12) (N := 38) hx hb hts (mm_i inlX12) hown hK.1 hP 0 rfl rfl 23 (by decide) (mm_h hts mm_w155) (fun _ h9 => h9) rfl dX12_copyBook_77 ?_
  refine lv_bipush (v := 90) hx hb dX12_copyBook_80 (by decide) ?_
  refine lv_iload_n hx hb dX12_copyBook_82 rfl (lv_at hl 1 rfl) ?_
  refine lv_iload_n hx hb dX12_copyBook_83 rfl (lv_at hl 2 rfl) ?_
  refine mm_finv (va_runS (As := [.ref a_13, .int 90, .int 2, .int 0]) (rest := []) ⟨hx, hb, hml, hown, hts⟩ (M367_X12_copyRow l G cy H.size a_13 f_5 h40) (va_cwS 4 hts (mm_gS mm_w557 mm_w558 mm_w5 mm_w559) rfl rfl rfl hs_X12_copyRow ⟨by rw [hRf]; exact Nat.le_of_ble_eq_true rfl, by rw [hRl]; exact Nat.le_of_ble_eq_true rfl⟩) (mm_preS hK hZ hS hA hP hD [8] rfl rfl) rfl rfl hl.1 rfl (lv_room (Nat.le_of_ble_eq_true rfl)) dX12_copyBook_84 ⟨by rw [hRc]; exact Nat.le_of_ble_eq_true rfl, by rw [hRs]; exact Nat.le_of_ble_eq_true rfl⟩) hP hD hS hA (fun u : (Nat → Int32) => [(a_0, .inr (12, [.int i_0, .ref a_1, .ref a_2, .ref a_3, .ref a_4, .ref a_5, .int i_1, .int i_2, .int i_3, .int i_4, .int i_5, .long j_0, .int i_6, .int i_7, .int i_8, .int i_9, .ref a_6, .ref a_7, .ref a_8, .ref a_9, .ref a_10, .ref a_11, .ref a_12, .ref a_13, .ref a_14, .ref a_15, .ref a_16, .ref a_17, .ref a_18, .int i_10, .int i_11, .int i_12, .int i_13, .int i_14, .int i_15, .ref a_19, .int i_16, .ref a_20])), (a_6, .inl (cy 1, 5, .inl (mm_g [i_19, i_18, i_19, i_20, i_21]))), (a_7, .inl (cy 1, 30, .inl (mm_g [i_34, i_35, i_36, i_37, i_38, i_39, i_28, i_29, i_30, i_31, i_32, i_33, i_34, i_35, i_36, i_37, i_38, i_39, i_40, i_41, i_42, i_43, i_44, i_45, i_46, i_47, i_48, i_49, i_50, i_51]))), (a_8, .inl (cy 1, 90, .inl n1)), (a_9, .inl (cy 1, 15, .inl n4)), (a_10, .inl (cy 1, 1050, .inl n7)), (a_11, .inl (cy 1, 30, .inl n10)), (a_12, .inl (cy 1, 240, .inl n13)), (a_13, .inl (cy 1, 450, .inl u))]) [8] [0, 1, 2, 3, 4, 5, 6, 7] (n := 9) (fun _ => rfl) (by decide +kernel) (by decide +kernel) rfl (fun _ => rfl) (wr := [(a_0, .inr (12, [.int i_0, .ref a_1, .ref a_2, .ref a_3, .ref a_4, .ref a_5, .int i_1, .int i_2, .int i_3, .int i_4, .int i_5, .long j_0, .int i_6, .int i_7, .int i_8, .int i_9, .ref a_6, .ref a_7, .ref a_8, .ref a_9, .ref a_10, .ref a_11, .ref a_12, .ref a_13, .ref a_14, .ref a_15, .ref a_16, .ref a_17, .ref a_18, .int i_10, .int i_11, .int i_12, .int i_13, .int i_14, .int i_15, .ref a_19, .int i_16, .ref a_20])), (a_6, .inl (cy 1, 5, .inl (mm_g [i_19, i_18, i_19, i_20, i_21]))), (a_7, .inl (cy 1, 30, .inl (mm_g [i_34, i_35, i_36, i_37, i_38, i_39, i_28, i_29, i_30, i_31, i_32, i_33, i_34, i_35, i_36, i_37, i_38, i_39, i_40, i_41, i_42, i_43, i_44, i_45, i_46, i_47, i_48, i_49, i_50, i_51]))), (a_8, .inl (cy 1, 90, .inl n1)), (a_9, .inl (cy 1, 15, .inl n4)), (a_10, .inl (cy 1, 1050, .inl n7)), (a_11, .inl (cy 1, 30, .inl n10)), (a_12, .inl (cy 1, 240, .inl n13))]) rfl (fun _ => rfl) (fun _ => rfl) ?_
  clear hP hD hS
  clear H locs
  intro n16 H locs hw (hP : va_P G vwCl [(a_0, .inr (12, [.int i_0, .ref a_1, .ref a_2, .ref a_3, .ref a_4, .ref a_5, .int i_1, .int i_2, .int i_3, .int i_4, .int i_5, .long j_0, .int i_6, .int i_7, .int i_8, .int i_9, .ref a_6, .ref a_7, .ref a_8, .ref a_9, .ref a_10, .ref a_11, .ref a_12, .ref a_13, .ref a_14, .ref a_15, .ref a_16, .ref a_17, .ref a_18, .int i_10, .int i_11, .int i_12, .int i_13, .int i_14, .int i_15, .ref a_19, .int i_16, .ref a_20])), (a_6, .inl (cy 1, 5, .inl (mm_g [i_19, i_18, i_19, i_20, i_21]))), (a_7, .inl (cy 1, 30, .inl (mm_g [i_34, i_35, i_36, i_37, i_38, i_39, i_28, i_29, i_30, i_31, i_32, i_33, i_34, i_35, i_36, i_37, i_38, i_39, i_40, i_41, i_42, i_43, i_44, i_45, i_46, i_47, i_48, i_49, i_50, i_51]))), (a_8, .inl (cy 1, 90, .inl n1)), (a_9, .inl (cy 1, 15, .inl n4)), (a_10, .inl (cy 1, 1050, .inl n7)), (a_11, .inl (cy 1, 30, .inl n10)), (a_12, .inl (cy 1, 240, .inl n13)), (a_13, .inl (cy 1, 450, .inl n16))] H) (hD : va_D A [(a_0, .inr (12, [.int i_0, .ref a_1, .ref a_2, .ref a_3, .ref a_4, .ref a_5, .int i_1, .int i_2, .int i_3, .int i_4, .int i_5, .long j_0, .int i_6, .int i_7, .int i_8, .int i_9, .ref a_6, .ref a_7, .ref a_8, .ref a_9, .ref a_10, .ref a_11, .ref a_12, .ref a_13, .ref a_14, .ref a_15, .ref a_16, .ref a_17, .ref a_18, .int i_10, .int i_11, .int i_12, .int i_13, .int i_14, .int i_15, .ref a_19, .int i_16, .ref a_20])), (a_6, .inl (cy 1, 5, .inl (mm_g [i_19, i_18, i_19, i_20, i_21]))), (a_7, .inl (cy 1, 30, .inl (mm_g [i_34, i_35, i_36, i_37, i_38, i_39, i_28, i_29, i_30, i_31, i_32, i_33, i_34, i_35, i_36, i_37, i_38, i_39, i_40, i_41, i_42, i_43, i_44, i_45, i_46, i_47, i_48, i_49, i_50, i_51]))), (a_8, .inl (cy 1, 90, .inl n1)), (a_9, .inl (cy 1, 15, .inl n4)), (a_10, .inl (cy 1, 1050, .inl n7)), (a_11, .inl (cy 1, 30, .inl n10)), (a_12, .inl (cy 1, 240, .inl n13)), (a_13, .inl (cy 1, 450, .inl n16))]) hS
  obtain ⟨w17, w18⟩ := hw
  have w19 : mm_rls n4 n7 0 i_36 i_37 := (mm_rls_cp h49 w6 w9)
  have w20 : mm_txs n10 n13 0 i_36 i_38 := (mm_txs_cp h50 w12 w15)
  have w21 : mm_acs n16 0 i_36 i_37 i_39 := (mm_acs_cp h51 w18)
  have w22 : mm_rls n4 n7 1 i_30 i_31 := (mm_rls_ck h45 w6 w9 (by decide))
  have w23 : mm_txs n10 n13 1 i_30 i_32 := (mm_txs_ck h46 w12 w15 (by decide))
  have w24 : mm_acs n16 1 i_30 i_31 i_33 := (mm_acs_ck h47 w18 (by decide))
  have w25 : mm_rls n4 n7 2 i_36 i_37 := (mm_rls_ck h49 w6 w9 (by decide))
  have w26 : mm_txs n10 n13 2 i_36 i_38 := (mm_txs_ck h50 w12 w15 (by decide))
  have w27 : mm_acs n16 2 i_36 i_37 i_39 := (mm_acs_ck h51 w18 (by decide))
  have w28 : mm_rls n4 n7 3 i_42 i_43 := (mm_rls_ck h53 w6 w9 (by decide))
  have w29 : mm_txs n10 n13 3 i_42 i_44 := (mm_txs_ck h54 w12 w15 (by decide))
  have w30 : mm_acs n16 3 i_42 i_43 i_45 := (mm_acs_ck h55 w18 (by decide))
  subst hAe
  rw [hQ]
  exact W.vret hx hb hr (fun t ht hW => ⟨⟨(n1, n4, n7, n10, n13, n16), rfl, ⟨w2, w5, w8, w11, w14, w17, w19, w20, w21, w22, w23, w24, w25, w26, w27, w28, w29, w30⟩, by rw [ht]; exact hP, hK.warm hW, hD⟩, hS.F ht⟩) hS.2.2 dX12_copyBook_87

set_option maxHeartbeats 4000000 in
set_option maxRecDepth 100000 in
theorem M369_X12_copyRow (l : Launch) (G : va_G) (cy : Nat → ClassId) (sz : Nat) (a_0 : Nat) (i_0 : Int32) (i_1 : Int32) (i_2 : Int32) (i_3 : Int32) (i_4 : Int32) (h0 : mm_rg i_0 0 601) (h1 : mm_rg i_1 0 601) (h2 : mm_rg i_2 0 601) (h3 : mm_rg i_3 0 601) (h4 : mm_rg i_4 0 601)  : mm_CV l yX12_copyRow (mm_ws yX12_copyRow cX12_copyRow 5 (none)) ({ frames := 0, cells := 0, slots := 0, locals := 0 } : Room) G cy sz [(a_0, .inl (cy 1, 5, .inl (mm_g [i_0, i_1, i_2, i_3, i_4])))] [.ref a_0, .int 1, .int 3, .int 0] (fun u : Unit => [(a_0, .inl (cy 1, 5, .inl (mm_g [i_3, i_1, i_2, i_3, i_4])))]) (fun u : Unit => True) 0 0 := by
  refine mm_begin (lv := [(0, .ref a_0), (1, .int 1), (2, .int 3), (3, .int 0)]) (by decide) (Nat.le_of_ble_eq_true rfl) rfl ?_
  intro p e s m below meth c A ls R args Q H locs hRe hQ hAe hx hb hr hlocks hml hown hnm hts hsz hA hS hP hK hD hZ hl
  have hRf : R.frames = 0 := by rw [hRe]
  have hRl : R.locals = 0 := by rw [hRe]
  have hRc : R.cells = 0 := by rw [hRe]
  have hRs : R.slots = 0 := by rw [hRe]
  refine lv_iconst (v := 0) hx hb dX12_copyRow_0 (by decide) ?_
  refine lv_istore (lv' := [(4, .int 0), (0, .ref a_0), (1, .int 1), (2, .int 3), (3, .int 0)]) hx hb dX12_copyRow_1 hl (by decide) rfl ?_
  clear hl
  clear ls
  intro ls hl
  refine lv_iload hx hb dX12_copyRow_3 (lv_at hl 0 rfl) ?_
  refine lv_iload_n hx hb dX12_copyRow_5 rfl (lv_at hl 2 rfl) ?_
  refine lv_icmp_ge (tgt := 31) hx hb dX12_copyRow_6 (by decide) (fun c1 => ?_) (fun c1 => ?_)
  · have q2 := mm_leL (mm_le c1) mm_k1 mm_k0
    exact mm_no q2 (by decide)
  · refine lv_aload_n hx hb dX12_copyRow_9 rfl (lv_at hl 1 rfl) ?_
    refine lv_iload_n hx hb dX12_copyRow_10 rfl (lv_at hl 2 rfl) ?_
    refine lv_iload_n hx hb dX12_copyRow_11 rfl (lv_at hl 4 rfl) ?_
    refine lv_imul hx hb dX12_copyRow_12 ?_
    refine lv_topi (fun v3 ev3 => ?_)
    obtain rfl : v3 = 0 := ev3.trans (by decide)
    refine lv_iload hx hb dX12_copyRow_13 (lv_at hl 0 rfl) ?_
    refine lv_iadd hx hb dX12_copyRow_15 ?_
    refine lv_topi (fun v4 ev4 => ?_)
    obtain rfl : v4 = 0 := ev4.trans (by decide)
    refine lv_aload_n hx hb dX12_copyRow_16 rfl (lv_at hl 1 rfl) ?_
    refine lv_iload_n hx hb dX12_copyRow_17 rfl (lv_at hl 2 rfl) ?_
    refine lv_iload_n hx hb dX12_copyRow_18 rfl (lv_at hl 3 rfl) ?_
    refine lv_imul hx hb dX12_copyRow_19 ?_
    refine lv_topi (fun v5 ev5 => ?_)
    obtain rfl : v5 = 3 := ev5.trans (by decide)
    refine lv_iload hx hb dX12_copyRow_20 (lv_at hl 0 rfl) ?_
    refine lv_iadd hx hb dX12_copyRow_22 ?_
    refine lv_topi (fun v6 ev6 => ?_)
    obtain rfl : v6 = 3 := ev6.trans (by decide)
    refine va_iald hx hb hK.1 hP 0 1 rfl rfl (mm_in mm_k3 (by decide)) dX12_copyRow_23 ?_
    rw [show (mm_g [i_0, i_1, i_2, i_3, i_4]) (3 : Int32).toNatClampNeg = i_3 from mm_ge 3 (by decide) rfl]
    refine va_iast hx hb hK.1 hP hD hS 0 1 rfl rfl (mm_in mm_k0 (by decide)) dX12_copyRow_24 ?_
    clear hP hD hS
    clear H locs
    rw [show upd (mm_g [i_0, i_1, i_2, i_3, i_4]) (0 : Int32).toNatClampNeg i_3 = (mm_g [i_3, i_1, i_2, i_3, i_4]) from mm_gs2 0 5 (by decide) rfl rfl rfl]
    intro H locs (hP : va_P G vwCl [(a_0, .inl (cy 1, 5, .inl (mm_g [i_3, i_1, i_2, i_3, i_4])))] H) (hD : va_D A [(a_0, .inl (cy 1, 5, .inl (mm_g [i_3, i_1, i_2, i_3, i_4])))]) hS
    refine lv_iinc (v := 1) (lv' := [(4, .int 1), (0, .ref a_0), (1, .int 1), (2, .int 3), (3, .int 0)]) hx hb dX12_copyRow_25 hl (k := 0) rfl (by decide) (by decide) rfl ?_
    clear hl
    clear ls
    intro ls hl
    refine lv_goto (tgt := 3) hx hb dX12_copyRow_28 (by decide) ?_
    refine lv_iload hx hb dX12_copyRow_3 (lv_at hl 0 rfl) ?_
    refine lv_iload_n hx hb dX12_copyRow_5 rfl (lv_at hl 2 rfl) ?_
    refine lv_icmp_ge (tgt := 31) hx hb dX12_copyRow_6 (by decide) (fun c7 => ?_) (fun c7 => ?_)
    · subst hAe
      rw [hQ]
      exact W.vret hx hb hr (fun t ht hW => ⟨⟨(), rfl, trivial, by rw [ht]; exact hP, hK.warm hW, hD⟩, hS.F ht⟩) hS.2.2 dX12_copyRow_31
    · have q8 := mm_ltL (h := 0) (mm_nle c7) mm_k1 mm_k1 (by decide)
      exact mm_no q8 (by decide)

set_option maxHeartbeats 4000000 in
set_option maxRecDepth 100000 in
theorem M370_X12_copyRow (l : Launch) (G : va_G) (cy : Nat → ClassId) (sz : Nat) (a_0 : Nat) (i_0 : Int32) (i_1 : Int32) (i_2 : Int32) (i_3 : Int32) (i_4 : Int32) (i_5 : Int32) (i_6 : Int32) (i_7 : Int32) (i_8 : Int32) (i_9 : Int32) (i_10 : Int32) (i_11 : Int32) (i_12 : Int32) (i_13 : Int32) (i_14 : Int32) (i_15 : Int32) (i_16 : Int32) (i_17 : Int32) (i_18 : Int32) (i_19 : Int32) (i_20 : Int32) (i_21 : Int32) (i_22 : Int32) (i_23 : Int32) (i_24 : Int32) (i_25 : Int32) (i_26 : Int32) (i_27 : Int32) (i_28 : Int32) (i_29 : Int32) (h0 : mm_rg i_0 0 10) (h1 : mm_rg i_1 0 99) (h2 : mm_rg i_2 0 9) (h3 : mm_rg i_3 0 3) (h4 : mm_rg i_4 0 6) (h5 : mm_rg i_5 0 30) (h6 : mm_rg i_6 0 10) (h7 : mm_rg i_7 0 99) (h8 : mm_rg i_8 0 9) (h9 : mm_rg i_9 0 3) (h10 : mm_rg i_10 0 6) (h11 : mm_rg i_11 0 30) (h12 : mm_rg i_12 0 10) (h13 : mm_rg i_13 0 99) (h14 : mm_rg i_14 0 9) (h15 : mm_rg i_15 0 3) (h16 : mm_rg i_16 0 6) (h17 : mm_rg i_17 0 30) (h18 : mm_rg i_18 0 10) (h19 : mm_rg i_19 0 99) (h20 : mm_rg i_20 0 9) (h21 : mm_rg i_21 0 3) (h22 : mm_rg i_22 0 6) (h23 : mm_rg i_23 0 30) (h24 : mm_rg i_24 0 10) (h25 : mm_rg i_25 0 99) (h26 : mm_rg i_26 0 9) (h27 : mm_rg i_27 0 3) (h28 : mm_rg i_28 0 6) (h29 : mm_rg i_29 0 30)  : mm_CV l yX12_copyRow (mm_ws yX12_copyRow cX12_copyRow 5 (none)) ({ frames := 0, cells := 0, slots := 0, locals := 0 } : Room) G cy sz [(a_0, .inl (cy 1, 30, .inl (mm_g [i_0, i_1, i_2, i_3, i_4, i_5, i_6, i_7, i_8, i_9, i_10, i_11, i_12, i_13, i_14, i_15, i_16, i_17, i_18, i_19, i_20, i_21, i_22, i_23, i_24, i_25, i_26, i_27, i_28, i_29])))] [.ref a_0, .int 6, .int 3, .int 0] (fun u : Unit => [(a_0, .inl (cy 1, 30, .inl (mm_g [i_18, i_19, i_20, i_21, i_22, i_23, i_6, i_7, i_8, i_9, i_10, i_11, i_12, i_13, i_14, i_15, i_16, i_17, i_18, i_19, i_20, i_21, i_22, i_23, i_24, i_25, i_26, i_27, i_28, i_29])))]) (fun u : Unit => True) 0 0 := by
  refine mm_begin (lv := [(0, .ref a_0), (1, .int 6), (2, .int 3), (3, .int 0)]) (by decide) (Nat.le_of_ble_eq_true rfl) rfl ?_
  intro p e s m below meth c A ls R args Q H locs hRe hQ hAe hx hb hr hlocks hml hown hnm hts hsz hA hS hP hK hD hZ hl
  have hRf : R.frames = 0 := by rw [hRe]
  have hRl : R.locals = 0 := by rw [hRe]
  have hRc : R.cells = 0 := by rw [hRe]
  have hRs : R.slots = 0 := by rw [hRe]
  refine lv_iconst (v := 0) hx hb dX12_copyRow_0 (by decide) ?_
  refine lv_istore (lv' := [(4, .int 0), (0, .ref a_0), (1, .int 6), (2, .int 3), (3, .int 0)]) hx hb dX12_copyRow_1 hl (by decide) rfl ?_
  clear hl
  clear ls
  intro ls hl
  refine lv_iload hx hb dX12_copyRow_3 (lv_at hl 0 rfl) ?_
  refine lv_iload_n hx hb dX12_copyRow_5 rfl (lv_at hl 2 rfl) ?_
  refine lv_icmp_ge (tgt := 31) hx hb dX12_copyRow_6 (by decide) (fun c1 => ?_) (fun c1 => ?_)
  · have q2 := mm_leL (mm_le c1) mm_k6 mm_k0
    exact mm_no q2 (by decide)
  · refine lv_aload_n hx hb dX12_copyRow_9 rfl (lv_at hl 1 rfl) ?_
    refine lv_iload_n hx hb dX12_copyRow_10 rfl (lv_at hl 2 rfl) ?_
    refine lv_iload_n hx hb dX12_copyRow_11 rfl (lv_at hl 4 rfl) ?_
    refine lv_imul hx hb dX12_copyRow_12 ?_
    refine lv_topi (fun v3 ev3 => ?_)
    obtain rfl : v3 = 0 := ev3.trans (by decide)
    refine lv_iload hx hb dX12_copyRow_13 (lv_at hl 0 rfl) ?_
    refine lv_iadd hx hb dX12_copyRow_15 ?_
    refine lv_topi (fun v4 ev4 => ?_)
    obtain rfl : v4 = 0 := ev4.trans (by decide)
    refine lv_aload_n hx hb dX12_copyRow_16 rfl (lv_at hl 1 rfl) ?_
    refine lv_iload_n hx hb dX12_copyRow_17 rfl (lv_at hl 2 rfl) ?_
    refine lv_iload_n hx hb dX12_copyRow_18 rfl (lv_at hl 3 rfl) ?_
    refine lv_imul hx hb dX12_copyRow_19 ?_
    refine lv_topi (fun v5 ev5 => ?_)
    obtain rfl : v5 = 18 := ev5.trans (by decide)
    refine lv_iload hx hb dX12_copyRow_20 (lv_at hl 0 rfl) ?_
    refine lv_iadd hx hb dX12_copyRow_22 ?_
    refine lv_topi (fun v6 ev6 => ?_)
    obtain rfl : v6 = 18 := ev6.trans (by decide)
    refine va_iald hx hb hK.1 hP 0 1 rfl rfl (mm_in mm_k18 (by decide)) dX12_copyRow_23 ?_
    rw [show (mm_g [i_0, i_1, i_2, i_3, i_4, i_5, i_6, i_7, i_8, i_9, i_10, i_11, i_12, i_13, i_14, i_15, i_16, i_17, i_18, i_19, i_20, i_21, i_22, i_23, i_24, i_25, i_26, i_27, i_28, i_29]) (18 : Int32).toNatClampNeg = i_18 from mm_ge 18 (by decide) rfl]
    refine va_iast hx hb hK.1 hP hD hS 0 1 rfl rfl (mm_in mm_k0 (by decide)) dX12_copyRow_24 ?_
    clear hP hD hS
    clear H locs
    rw [show upd (mm_g [i_0, i_1, i_2, i_3, i_4, i_5, i_6, i_7, i_8, i_9, i_10, i_11, i_12, i_13, i_14, i_15, i_16, i_17, i_18, i_19, i_20, i_21, i_22, i_23, i_24, i_25, i_26, i_27, i_28, i_29]) (0 : Int32).toNatClampNeg i_18 = (mm_g [i_18, i_1, i_2, i_3, i_4, i_5, i_6, i_7, i_8, i_9, i_10, i_11, i_12, i_13, i_14, i_15, i_16, i_17, i_18, i_19, i_20, i_21, i_22, i_23, i_24, i_25, i_26, i_27, i_28, i_29]) from mm_gs2 0 30 (by decide) rfl rfl rfl]
    intro H locs (hP : va_P G vwCl [(a_0, .inl (cy 1, 30, .inl (mm_g [i_18, i_1, i_2, i_3, i_4, i_5, i_6, i_7, i_8, i_9, i_10, i_11, i_12, i_13, i_14, i_15, i_16, i_17, i_18, i_19, i_20, i_21, i_22, i_23, i_24, i_25, i_26, i_27, i_28, i_29])))] H) (hD : va_D A [(a_0, .inl (cy 1, 30, .inl (mm_g [i_18, i_1, i_2, i_3, i_4, i_5, i_6, i_7, i_8, i_9, i_10, i_11, i_12, i_13, i_14, i_15, i_16, i_17, i_18, i_19, i_20, i_21, i_22, i_23, i_24, i_25, i_26, i_27, i_28, i_29])))]) hS
    refine lv_iinc (v := 1) (lv' := [(4, .int 1), (0, .ref a_0), (1, .int 6), (2, .int 3), (3, .int 0)]) hx hb dX12_copyRow_25 hl (k := 0) rfl (by decide) (by decide) rfl ?_
    clear hl
    clear ls
    intro ls hl
    refine lv_goto (tgt := 3) hx hb dX12_copyRow_28 (by decide) ?_
    refine lv_iload hx hb dX12_copyRow_3 (lv_at hl 0 rfl) ?_
    refine lv_iload_n hx hb dX12_copyRow_5 rfl (lv_at hl 2 rfl) ?_
    refine lv_icmp_ge (tgt := 31) hx hb dX12_copyRow_6 (by decide) (fun c7 => ?_) (fun c7 => ?_)
    · have q8 := mm_leL (mm_le c7) mm_k6 mm_k1
      exact mm_no q8 (by decide)
    · refine lv_aload_n hx hb dX12_copyRow_9 rfl (lv_at hl 1 rfl) ?_
      refine lv_iload_n hx hb dX12_copyRow_10 rfl (lv_at hl 2 rfl) ?_
      refine lv_iload_n hx hb dX12_copyRow_11 rfl (lv_at hl 4 rfl) ?_
      refine lv_imul hx hb dX12_copyRow_12 ?_
      refine lv_topi (fun v9 ev9 => ?_)
      obtain rfl : v9 = 0 := ev9.trans (by decide)
      refine lv_iload hx hb dX12_copyRow_13 (lv_at hl 0 rfl) ?_
      refine lv_iadd hx hb dX12_copyRow_15 ?_
      refine lv_topi (fun v10 ev10 => ?_)
      obtain rfl : v10 = 1 := ev10.trans (by decide)
      refine lv_aload_n hx hb dX12_copyRow_16 rfl (lv_at hl 1 rfl) ?_
      refine lv_iload_n hx hb dX12_copyRow_17 rfl (lv_at hl 2 rfl) ?_
      refine lv_iload_n hx hb dX12_copyRow_18 rfl (lv_at hl 3 rfl) ?_
      refine lv_imul hx hb dX12_copyRow_19 ?_
      refine lv_topi (fun v11 ev11 => ?_)
      obtain rfl : v11 = 18 := ev11.trans (by decide)
      refine lv_iload hx hb dX12_copyRow_20 (lv_at hl 0 rfl) ?_
      refine lv_iadd hx hb dX12_copyRow_22 ?_
      refine lv_topi (fun v12 ev12 => ?_)
      obtain rfl : v12 = 19 := ev12.trans (by decide)
      refine va_iald hx hb hK.1 hP 0 1 rfl rfl (mm_in mm_k19 (by decide)) dX12_copyRow_23 ?_
      rw [show (mm_g [i_18, i_1, i_2, i_3, i_4, i_5, i_6, i_7, i_8, i_9, i_10, i_11, i_12, i_13, i_14, i_15, i_16, i_17, i_18, i_19, i_20, i_21, i_22, i_23, i_24, i_25, i_26, i_27, i_28, i_29]) (19 : Int32).toNatClampNeg = i_19 from mm_ge 19 (by decide) rfl]
      refine va_iast hx hb hK.1 hP hD hS 0 1 rfl rfl (mm_in mm_k1 (by decide)) dX12_copyRow_24 ?_
      clear hP hD hS
      clear H locs
      rw [show upd (mm_g [i_18, i_1, i_2, i_3, i_4, i_5, i_6, i_7, i_8, i_9, i_10, i_11, i_12, i_13, i_14, i_15, i_16, i_17, i_18, i_19, i_20, i_21, i_22, i_23, i_24, i_25, i_26, i_27, i_28, i_29]) (1 : Int32).toNatClampNeg i_19 = (mm_g [i_18, i_19, i_2, i_3, i_4, i_5, i_6, i_7, i_8, i_9, i_10, i_11, i_12, i_13, i_14, i_15, i_16, i_17, i_18, i_19, i_20, i_21, i_22, i_23, i_24, i_25, i_26, i_27, i_28, i_29]) from mm_gs2 1 30 (by decide) rfl rfl rfl]
      intro H locs (hP : va_P G vwCl [(a_0, .inl (cy 1, 30, .inl (mm_g [i_18, i_19, i_2, i_3, i_4, i_5, i_6, i_7, i_8, i_9, i_10, i_11, i_12, i_13, i_14, i_15, i_16, i_17, i_18, i_19, i_20, i_21, i_22, i_23, i_24, i_25, i_26, i_27, i_28, i_29])))] H) (hD : va_D A [(a_0, .inl (cy 1, 30, .inl (mm_g [i_18, i_19, i_2, i_3, i_4, i_5, i_6, i_7, i_8, i_9, i_10, i_11, i_12, i_13, i_14, i_15, i_16, i_17, i_18, i_19, i_20, i_21, i_22, i_23, i_24, i_25, i_26, i_27, i_28, i_29])))]) hS
      refine lv_iinc (v := 2) (lv' := [(4, .int 2), (0, .ref a_0), (1, .int 6), (2, .int 3), (3, .int 0)]) hx hb dX12_copyRow_25 hl (k := 0) rfl (by decide) (by decide) rfl ?_
      clear hl
      clear ls
      intro ls hl
      refine lv_goto (tgt := 3) hx hb dX12_copyRow_28 (by decide) ?_
      refine lv_iload hx hb dX12_copyRow_3 (lv_at hl 0 rfl) ?_
      refine lv_iload_n hx hb dX12_copyRow_5 rfl (lv_at hl 2 rfl) ?_
      refine lv_icmp_ge (tgt := 31) hx hb dX12_copyRow_6 (by decide) (fun c13 => ?_) (fun c13 => ?_)
      · have q14 := mm_leL (mm_le c13) mm_k6 mm_k2
        exact mm_no q14 (by decide)
      · refine lv_aload_n hx hb dX12_copyRow_9 rfl (lv_at hl 1 rfl) ?_
        refine lv_iload_n hx hb dX12_copyRow_10 rfl (lv_at hl 2 rfl) ?_
        refine lv_iload_n hx hb dX12_copyRow_11 rfl (lv_at hl 4 rfl) ?_
        refine lv_imul hx hb dX12_copyRow_12 ?_
        refine lv_topi (fun v15 ev15 => ?_)
        obtain rfl : v15 = 0 := ev15.trans (by decide)
        refine lv_iload hx hb dX12_copyRow_13 (lv_at hl 0 rfl) ?_
        refine lv_iadd hx hb dX12_copyRow_15 ?_
        refine lv_topi (fun v16 ev16 => ?_)
        obtain rfl : v16 = 2 := ev16.trans (by decide)
        refine lv_aload_n hx hb dX12_copyRow_16 rfl (lv_at hl 1 rfl) ?_
        refine lv_iload_n hx hb dX12_copyRow_17 rfl (lv_at hl 2 rfl) ?_
        refine lv_iload_n hx hb dX12_copyRow_18 rfl (lv_at hl 3 rfl) ?_
        refine lv_imul hx hb dX12_copyRow_19 ?_
        refine lv_topi (fun v17 ev17 => ?_)
        obtain rfl : v17 = 18 := ev17.trans (by decide)
        refine lv_iload hx hb dX12_copyRow_20 (lv_at hl 0 rfl) ?_
        refine lv_iadd hx hb dX12_copyRow_22 ?_
        refine lv_topi (fun v18 ev18 => ?_)
        obtain rfl : v18 = 20 := ev18.trans (by decide)
        refine va_iald hx hb hK.1 hP 0 1 rfl rfl (mm_in mm_k20 (by decide)) dX12_copyRow_23 ?_
        rw [show (mm_g [i_18, i_19, i_2, i_3, i_4, i_5, i_6, i_7, i_8, i_9, i_10, i_11, i_12, i_13, i_14, i_15, i_16, i_17, i_18, i_19, i_20, i_21, i_22, i_23, i_24, i_25, i_26, i_27, i_28, i_29]) (20 : Int32).toNatClampNeg = i_20 from mm_ge 20 (by decide) rfl]
        refine va_iast hx hb hK.1 hP hD hS 0 1 rfl rfl (mm_in mm_k2 (by decide)) dX12_copyRow_24 ?_
        clear hP hD hS
        clear H locs
        rw [show upd (mm_g [i_18, i_19, i_2, i_3, i_4, i_5, i_6, i_7, i_8, i_9, i_10, i_11, i_12, i_13, i_14, i_15, i_16, i_17, i_18, i_19, i_20, i_21, i_22, i_23, i_24, i_25, i_26, i_27, i_28, i_29]) (2 : Int32).toNatClampNeg i_20 = (mm_g [i_18, i_19, i_20, i_3, i_4, i_5, i_6, i_7, i_8, i_9, i_10, i_11, i_12, i_13, i_14, i_15, i_16, i_17, i_18, i_19, i_20, i_21, i_22, i_23, i_24, i_25, i_26, i_27, i_28, i_29]) from mm_gs2 2 30 (by decide) rfl rfl rfl]
        intro H locs (hP : va_P G vwCl [(a_0, .inl (cy 1, 30, .inl (mm_g [i_18, i_19, i_20, i_3, i_4, i_5, i_6, i_7, i_8, i_9, i_10, i_11, i_12, i_13, i_14, i_15, i_16, i_17, i_18, i_19, i_20, i_21, i_22, i_23, i_24, i_25, i_26, i_27, i_28, i_29])))] H) (hD : va_D A [(a_0, .inl (cy 1, 30, .inl (mm_g [i_18, i_19, i_20, i_3, i_4, i_5, i_6, i_7, i_8, i_9, i_10, i_11, i_12, i_13, i_14, i_15, i_16, i_17, i_18, i_19, i_20, i_21, i_22, i_23, i_24, i_25, i_26, i_27, i_28, i_29])))]) hS
        refine lv_iinc (v := 3) (lv' := [(4, .int 3), (0, .ref a_0), (1, .int 6), (2, .int 3), (3, .int 0)]) hx hb dX12_copyRow_25 hl (k := 0) rfl (by decide) (by decide) rfl ?_
        clear hl
        clear ls
        intro ls hl
        refine lv_goto (tgt := 3) hx hb dX12_copyRow_28 (by decide) ?_
        refine lv_iload hx hb dX12_copyRow_3 (lv_at hl 0 rfl) ?_
        refine lv_iload_n hx hb dX12_copyRow_5 rfl (lv_at hl 2 rfl) ?_
        refine lv_icmp_ge (tgt := 31) hx hb dX12_copyRow_6 (by decide) (fun c19 => ?_) (fun c19 => ?_)
        · have q20 := mm_leL (mm_le c19) mm_k6 mm_k3
          exact mm_no q20 (by decide)
        · refine lv_aload_n hx hb dX12_copyRow_9 rfl (lv_at hl 1 rfl) ?_
          refine lv_iload_n hx hb dX12_copyRow_10 rfl (lv_at hl 2 rfl) ?_
          refine lv_iload_n hx hb dX12_copyRow_11 rfl (lv_at hl 4 rfl) ?_
          refine lv_imul hx hb dX12_copyRow_12 ?_
          refine lv_topi (fun v21 ev21 => ?_)
          obtain rfl : v21 = 0 := ev21.trans (by decide)
          refine lv_iload hx hb dX12_copyRow_13 (lv_at hl 0 rfl) ?_
          refine lv_iadd hx hb dX12_copyRow_15 ?_
          refine lv_topi (fun v22 ev22 => ?_)
          obtain rfl : v22 = 3 := ev22.trans (by decide)
          refine lv_aload_n hx hb dX12_copyRow_16 rfl (lv_at hl 1 rfl) ?_
          refine lv_iload_n hx hb dX12_copyRow_17 rfl (lv_at hl 2 rfl) ?_
          refine lv_iload_n hx hb dX12_copyRow_18 rfl (lv_at hl 3 rfl) ?_
          refine lv_imul hx hb dX12_copyRow_19 ?_
          refine lv_topi (fun v23 ev23 => ?_)
          obtain rfl : v23 = 18 := ev23.trans (by decide)
          refine lv_iload hx hb dX12_copyRow_20 (lv_at hl 0 rfl) ?_
          refine lv_iadd hx hb dX12_copyRow_22 ?_
          refine lv_topi (fun v24 ev24 => ?_)
          obtain rfl : v24 = 21 := ev24.trans (by decide)
          refine va_iald hx hb hK.1 hP 0 1 rfl rfl (mm_in mm_k21 (by decide)) dX12_copyRow_23 ?_
          rw [show (mm_g [i_18, i_19, i_20, i_3, i_4, i_5, i_6, i_7, i_8, i_9, i_10, i_11, i_12, i_13, i_14, i_15, i_16, i_17, i_18, i_19, i_20, i_21, i_22, i_23, i_24, i_25, i_26, i_27, i_28, i_29]) (21 : Int32).toNatClampNeg = i_21 from mm_ge 21 (by decide) rfl]
          refine va_iast hx hb hK.1 hP hD hS 0 1 rfl rfl (mm_in mm_k3 (by decide)) dX12_copyRow_24 ?_
          clear hP hD hS
          clear H locs
          rw [show upd (mm_g [i_18, i_19, i_20, i_3, i_4, i_5, i_6, i_7, i_8, i_9, i_10, i_11, i_12, i_13, i_14, i_15, i_16, i_17, i_18, i_19, i_20, i_21, i_22, i_23, i_24, i_25, i_26, i_27, i_28, i_29]) (3 : Int32).toNatClampNeg i_21 = (mm_g [i_18, i_19, i_20, i_21, i_4, i_5, i_6, i_7, i_8, i_9, i_10, i_11, i_12, i_13, i_14, i_15, i_16, i_17, i_18, i_19, i_20, i_21, i_22, i_23, i_24, i_25, i_26, i_27, i_28, i_29]) from mm_gs2 3 30 (by decide) rfl rfl rfl]
          intro H locs (hP : va_P G vwCl [(a_0, .inl (cy 1, 30, .inl (mm_g [i_18, i_19, i_20, i_21, i_4, i_5, i_6, i_7, i_8, i_9, i_10, i_11, i_12, i_13, i_14, i_15, i_16, i_17, i_18, i_19, i_20, i_21, i_22, i_23, i_24, i_25, i_26, i_27, i_28, i_29])))] H) (hD : va_D A [(a_0, .inl (cy 1, 30, .inl (mm_g [i_18, i_19, i_20, i_21, i_4, i_5, i_6, i_7, i_8, i_9, i_10, i_11, i_12, i_13, i_14, i_15, i_16, i_17, i_18, i_19, i_20, i_21, i_22, i_23, i_24, i_25, i_26, i_27, i_28, i_29])))]) hS
          refine lv_iinc (v := 4) (lv' := [(4, .int 4), (0, .ref a_0), (1, .int 6), (2, .int 3), (3, .int 0)]) hx hb dX12_copyRow_25 hl (k := 0) rfl (by decide) (by decide) rfl ?_
          clear hl
          clear ls
          intro ls hl
          refine lv_goto (tgt := 3) hx hb dX12_copyRow_28 (by decide) ?_
          refine lv_iload hx hb dX12_copyRow_3 (lv_at hl 0 rfl) ?_
          refine lv_iload_n hx hb dX12_copyRow_5 rfl (lv_at hl 2 rfl) ?_
          refine lv_icmp_ge (tgt := 31) hx hb dX12_copyRow_6 (by decide) (fun c25 => ?_) (fun c25 => ?_)
          · have q26 := mm_leL (mm_le c25) mm_k6 mm_k4
            exact mm_no q26 (by decide)
          · refine lv_aload_n hx hb dX12_copyRow_9 rfl (lv_at hl 1 rfl) ?_
            refine lv_iload_n hx hb dX12_copyRow_10 rfl (lv_at hl 2 rfl) ?_
            refine lv_iload_n hx hb dX12_copyRow_11 rfl (lv_at hl 4 rfl) ?_
            refine lv_imul hx hb dX12_copyRow_12 ?_
            refine lv_topi (fun v27 ev27 => ?_)
            obtain rfl : v27 = 0 := ev27.trans (by decide)
            refine lv_iload hx hb dX12_copyRow_13 (lv_at hl 0 rfl) ?_
            refine lv_iadd hx hb dX12_copyRow_15 ?_
            refine lv_topi (fun v28 ev28 => ?_)
            obtain rfl : v28 = 4 := ev28.trans (by decide)
            refine lv_aload_n hx hb dX12_copyRow_16 rfl (lv_at hl 1 rfl) ?_
            refine lv_iload_n hx hb dX12_copyRow_17 rfl (lv_at hl 2 rfl) ?_
            refine lv_iload_n hx hb dX12_copyRow_18 rfl (lv_at hl 3 rfl) ?_
            refine lv_imul hx hb dX12_copyRow_19 ?_
            refine lv_topi (fun v29 ev29 => ?_)
            obtain rfl : v29 = 18 := ev29.trans (by decide)
            refine lv_iload hx hb dX12_copyRow_20 (lv_at hl 0 rfl) ?_
            refine lv_iadd hx hb dX12_copyRow_22 ?_
            refine lv_topi (fun v30 ev30 => ?_)
            obtain rfl : v30 = 22 := ev30.trans (by decide)
            refine va_iald hx hb hK.1 hP 0 1 rfl rfl (mm_in mm_k22 (by decide)) dX12_copyRow_23 ?_
            rw [show (mm_g [i_18, i_19, i_20, i_21, i_4, i_5, i_6, i_7, i_8, i_9, i_10, i_11, i_12, i_13, i_14, i_15, i_16, i_17, i_18, i_19, i_20, i_21, i_22, i_23, i_24, i_25, i_26, i_27, i_28, i_29]) (22 : Int32).toNatClampNeg = i_22 from mm_ge 22 (by decide) rfl]
            refine va_iast hx hb hK.1 hP hD hS 0 1 rfl rfl (mm_in mm_k4 (by decide)) dX12_copyRow_24 ?_
            clear hP hD hS
            clear H locs
            rw [show upd (mm_g [i_18, i_19, i_20, i_21, i_4, i_5, i_6, i_7, i_8, i_9, i_10, i_11, i_12, i_13, i_14, i_15, i_16, i_17, i_18, i_19, i_20, i_21, i_22, i_23, i_24, i_25, i_26, i_27, i_28, i_29]) (4 : Int32).toNatClampNeg i_22 = (mm_g [i_18, i_19, i_20, i_21, i_22, i_5, i_6, i_7, i_8, i_9, i_10, i_11, i_12, i_13, i_14, i_15, i_16, i_17, i_18, i_19, i_20, i_21, i_22, i_23, i_24, i_25, i_26, i_27, i_28, i_29]) from mm_gs2 4 30 (by decide) rfl rfl rfl]
            intro H locs (hP : va_P G vwCl [(a_0, .inl (cy 1, 30, .inl (mm_g [i_18, i_19, i_20, i_21, i_22, i_5, i_6, i_7, i_8, i_9, i_10, i_11, i_12, i_13, i_14, i_15, i_16, i_17, i_18, i_19, i_20, i_21, i_22, i_23, i_24, i_25, i_26, i_27, i_28, i_29])))] H) (hD : va_D A [(a_0, .inl (cy 1, 30, .inl (mm_g [i_18, i_19, i_20, i_21, i_22, i_5, i_6, i_7, i_8, i_9, i_10, i_11, i_12, i_13, i_14, i_15, i_16, i_17, i_18, i_19, i_20, i_21, i_22, i_23, i_24, i_25, i_26, i_27, i_28, i_29])))]) hS
            refine lv_iinc (v := 5) (lv' := [(4, .int 5), (0, .ref a_0), (1, .int 6), (2, .int 3), (3, .int 0)]) hx hb dX12_copyRow_25 hl (k := 0) rfl (by decide) (by decide) rfl ?_
            clear hl
            clear ls
            intro ls hl
            refine lv_goto (tgt := 3) hx hb dX12_copyRow_28 (by decide) ?_
            refine lv_iload hx hb dX12_copyRow_3 (lv_at hl 0 rfl) ?_
            refine lv_iload_n hx hb dX12_copyRow_5 rfl (lv_at hl 2 rfl) ?_
            refine lv_icmp_ge (tgt := 31) hx hb dX12_copyRow_6 (by decide) (fun c31 => ?_) (fun c31 => ?_)
            · have q32 := mm_leL (mm_le c31) mm_k6 mm_k5
              exact mm_no q32 (by decide)
            · refine lv_aload_n hx hb dX12_copyRow_9 rfl (lv_at hl 1 rfl) ?_
              refine lv_iload_n hx hb dX12_copyRow_10 rfl (lv_at hl 2 rfl) ?_
              refine lv_iload_n hx hb dX12_copyRow_11 rfl (lv_at hl 4 rfl) ?_
              refine lv_imul hx hb dX12_copyRow_12 ?_
              refine lv_topi (fun v33 ev33 => ?_)
              obtain rfl : v33 = 0 := ev33.trans (by decide)
              refine lv_iload hx hb dX12_copyRow_13 (lv_at hl 0 rfl) ?_
              refine lv_iadd hx hb dX12_copyRow_15 ?_
              refine lv_topi (fun v34 ev34 => ?_)
              obtain rfl : v34 = 5 := ev34.trans (by decide)
              refine lv_aload_n hx hb dX12_copyRow_16 rfl (lv_at hl 1 rfl) ?_
              refine lv_iload_n hx hb dX12_copyRow_17 rfl (lv_at hl 2 rfl) ?_
              refine lv_iload_n hx hb dX12_copyRow_18 rfl (lv_at hl 3 rfl) ?_
              refine lv_imul hx hb dX12_copyRow_19 ?_
              refine lv_topi (fun v35 ev35 => ?_)
              obtain rfl : v35 = 18 := ev35.trans (by decide)
              refine lv_iload hx hb dX12_copyRow_20 (lv_at hl 0 rfl) ?_
              refine lv_iadd hx hb dX12_copyRow_22 ?_
              refine lv_topi (fun v36 ev36 => ?_)
              obtain rfl : v36 = 23 := ev36.trans (by decide)
              refine va_iald hx hb hK.1 hP 0 1 rfl rfl (mm_in mm_k23 (by decide)) dX12_copyRow_23 ?_
              rw [show (mm_g [i_18, i_19, i_20, i_21, i_22, i_5, i_6, i_7, i_8, i_9, i_10, i_11, i_12, i_13, i_14, i_15, i_16, i_17, i_18, i_19, i_20, i_21, i_22, i_23, i_24, i_25, i_26, i_27, i_28, i_29]) (23 : Int32).toNatClampNeg = i_23 from mm_ge 23 (by decide) rfl]
              refine va_iast hx hb hK.1 hP hD hS 0 1 rfl rfl (mm_in mm_k5 (by decide)) dX12_copyRow_24 ?_
              clear hP hD hS
              clear H locs
              rw [show upd (mm_g [i_18, i_19, i_20, i_21, i_22, i_5, i_6, i_7, i_8, i_9, i_10, i_11, i_12, i_13, i_14, i_15, i_16, i_17, i_18, i_19, i_20, i_21, i_22, i_23, i_24, i_25, i_26, i_27, i_28, i_29]) (5 : Int32).toNatClampNeg i_23 = (mm_g [i_18, i_19, i_20, i_21, i_22, i_23, i_6, i_7, i_8, i_9, i_10, i_11, i_12, i_13, i_14, i_15, i_16, i_17, i_18, i_19, i_20, i_21, i_22, i_23, i_24, i_25, i_26, i_27, i_28, i_29]) from mm_gs2 5 30 (by decide) rfl rfl rfl]
              intro H locs (hP : va_P G vwCl [(a_0, .inl (cy 1, 30, .inl (mm_g [i_18, i_19, i_20, i_21, i_22, i_23, i_6, i_7, i_8, i_9, i_10, i_11, i_12, i_13, i_14, i_15, i_16, i_17, i_18, i_19, i_20, i_21, i_22, i_23, i_24, i_25, i_26, i_27, i_28, i_29])))] H) (hD : va_D A [(a_0, .inl (cy 1, 30, .inl (mm_g [i_18, i_19, i_20, i_21, i_22, i_23, i_6, i_7, i_8, i_9, i_10, i_11, i_12, i_13, i_14, i_15, i_16, i_17, i_18, i_19, i_20, i_21, i_22, i_23, i_24, i_25, i_26, i_27, i_28, i_29])))]) hS
              refine lv_iinc (v := 6) (lv' := [(4, .int 6), (0, .ref a_0), (1, .int 6), (2, .int 3), (3, .int 0)]) hx hb dX12_copyRow_25 hl (k := 0) rfl (by decide) (by decide) rfl ?_
              clear hl
              clear ls
              intro ls hl
              refine lv_goto (tgt := 3) hx hb dX12_copyRow_28 (by decide) ?_
              refine lv_iload hx hb dX12_copyRow_3 (lv_at hl 0 rfl) ?_
              refine lv_iload_n hx hb dX12_copyRow_5 rfl (lv_at hl 2 rfl) ?_
              refine lv_icmp_ge (tgt := 31) hx hb dX12_copyRow_6 (by decide) (fun c37 => ?_) (fun c37 => ?_)
              · subst hAe
                rw [hQ]
                exact W.vret hx hb hr (fun t ht hW => ⟨⟨(), rfl, trivial, by rw [ht]; exact hP, hK.warm hW, hD⟩, hS.F ht⟩) hS.2.2 dX12_copyRow_31
              · have q38 := mm_ltL (h := 5) (mm_nle c37) mm_k6 mm_k6 (by decide)
                exact mm_no q38 (by decide)

