set_option maxHeartbeats 4000000 in
set_option maxRecDepth 100000 in
theorem M261_X12_power (l : Launch) (G : va_G) (cy : Nat → ClassId) (sz : Nat) (i_0 : Int32) (h0 : mm_rg i_0 0 7)  : mm_CL l yX12_power (mm_ws yX12_power cX12_power 3 (some .long)) ({ frames := 7, cells := 0, slots := 0, locals := 154 } : Room) G cy sz [] [.long 10, .int i_0] (fun u : Unit => []) (fun (r : Int64) (u : Unit) => mm_rl r 1 10000000 ∧ mm_pw i_0 r) 0 0 := by
  refine mm_begin (lv := [(0, .long 10), (2, .int i_0)]) (by decide) (Nat.le_of_ble_eq_true rfl) rfl ?_
  intro p e s m below meth c A ls R args Q H locs hRe hQ hAe hx hb hr hlocks hml hown hnm hts hsz hA hS hP hK hD hZ hl
  have hRf : R.frames = 7 := by rw [hRe]
  have hRl : R.locals = 154 := by rw [hRe]
  have hRc : R.cells = 0 := by rw [hRe]
  have hRs : R.slots = 0 := by rw [hRe]
  refine lv_iload_n hx hb dX12_power_0 rfl (lv_at hl 1 rfl) ?_
  refine lv_if_ne (tgt := 8) hx hb dX12_power_1 (by decide) (fun c1 => ?_) (fun c1 => ?_)
  · have q2 := mm_neL (lo := 1) (mm_ne c1) h0 mm_k0 (by decide) (by decide)
    refine lv_lload_n hx hb dX12_power_8 rfl (lv_at hl 0 rfl) ?_
    refine lv_lload_n hx hb dX12_power_9 rfl (lv_at hl 0 rfl) ?_
    refine lv_iload_n hx hb dX12_power_10 rfl (lv_at hl 1 rfl) ?_
    refine lv_iconst (v := 1) hx hb dX12_power_11 (by decide) ?_
    refine lv_isub hx hb dX12_power_12 ?_
    refine lv_topi (fun v3 ev3 => ?_)
    have rv3 : mm_rg v3 0 6 := mm_sub ev3 q2 mm_k1 (by decide) (by decide)
    have tv3 := mm_subEc ev3 q2 mm_k1 (by decide) (k := (-1)) (by decide)
    refine mm_finlr (va_runS (As := [.long 10, .int v3]) (rest := [.long 10]) ⟨hx, hb, hml, hown, hts⟩ (M260_X12_power l G cy H.size v3 rv3) (va_cwS 2 hts (mm_gS mm_w1523 mm_w1524 mm_w5 mm_w1525) rfl rfl rfl hs_X12_power ⟨by rw [hRf]; exact Nat.le_of_ble_eq_true rfl, by rw [hRl]; exact Nat.le_of_ble_eq_true rfl⟩) (mm_preS hK hZ hS hA hP hD [] rfl rfl) rfl rfl hl.1 rfl (lv_room (Nat.le_of_ble_eq_true rfl)) dX12_power_13 ⟨by rw [hRc]; exact Nat.le_of_ble_eq_true rfl, by rw [hRs]; exact Nat.le_of_ble_eq_true rfl⟩) hP hD hS hA [] rfl (fun _ => rfl) ?_
    clear hP hD hS
    clear H locs
    intro v4 _u H locs hw hP hD hS
    obtain ⟨w5, w6⟩ := hw
    refine lv_lmul hx hb dX12_power_16 ?_
    refine lv_topl (fun v7 ev7 => ?_)
    have rv7 : mm_rl v7 10 10000000 := mm_mull ev7 mm_kl10 w5 (by decide) (by decide)
    have w8 : mm_pw i_0 v7 := (mm_pw_s w6 tv3 ev7 mm_kl10 w5 rv3 (by decide))
    subst hAe
    rw [hQ]
    exact W.lret (v := v7) hx hb hr (fun t ht hW => ⟨⟨v7, (), rfl, ⟨(mm_wkl rv7 (by decide)), w8⟩, by rw [ht]; exact hP, hK.warm hW, hD⟩, hS.F ht⟩) hS.2.2 dX12_power_17
  · have q9 := mm_eqI (lo := 0) (hi := 0) c1 h0 mm_k0 (by decide)
    refine lv_lconst (v := 1) hx hb dX12_power_4 (by decide) ?_
    refine lv_goto (tgt := 17) hx hb dX12_power_5 (by decide) ?_
    have w10 : mm_pw i_0 1 := (mm_pw_0 _)
    subst hAe
    rw [hQ]
    exact W.lret (v := 1) hx hb hr (fun t ht hW => ⟨⟨1, (), rfl, ⟨(mm_wkl mm_kl1 (by decide)), w10⟩, by rw [ht]; exact hP, hK.warm hW, hD⟩, hS.F ht⟩) hS.2.2 dX12_power_17

set_option maxHeartbeats 4000000 in
set_option maxRecDepth 100000 in
theorem M262_X12_common_ (l : Launch) (G : va_G) (cy : Nat → ClassId) (sz : Nat) (j_0 : Int64) (j_1 : Int64) (h0 : mm_rl j_0 1 4611686018427387904) (h1 : mm_rl j_1 0 255)  : mm_CL l yX12_common_ (mm_ws yX12_common_ cX12_common_ 4 (some .long)) ({ frames := 15, cells := 0, slots := 0, locals := 345 } : Room) G cy sz [] [.long j_0, .long j_1] (fun u : Unit => []) (fun (r : Int64) (u : Unit) => mm_rl r 1 4611686018427387904) 0 0 := by
  refine mm_begin (lv := [(0, .long j_0), (2, .long j_1)]) (by decide) (Nat.le_of_ble_eq_true rfl) rfl ?_
  intro p e s m below meth c A ls R args Q H locs hRe hQ hAe hx hb hr hlocks hml hown hnm hts hsz hA hS hP hK hD hZ hl
  have hRf : R.frames = 15 := by rw [hRe]
  have hRl : R.locals = 345 := by rw [hRe]
  have hRc : R.cells = 0 := by rw [hRe]
  have hRs : R.slots = 0 := by rw [hRe]
  refine lv_lload_n hx hb dX12_common__0 rfl (lv_at hl 1 rfl) ?_
  refine lv_lconst (v := 0) hx hb dX12_common__1 (by decide) ?_
  refine W.lcmp hx hb dX12_common__2 ?_
  refine lv_topi (fun v1 ev1 => ?_)
  refine lv_if_ne (tgt := 10) hx hb dX12_common__3 (by decide) (fun c2 => ?_) (fun c2 => ?_)
  · have q3 := mm_neLl (lo := 1) (mm_cmp_ne ev1 c2) h1 mm_kl0 (by decide) (by decide)
    refine lv_lload_n hx hb dX12_common__10 rfl (lv_at hl 1 rfl) ?_
    refine lv_lload_n hx hb dX12_common__11 rfl (lv_at hl 0 rfl) ?_
    refine lv_lload_n hx hb dX12_common__12 rfl (lv_at hl 1 rfl) ?_
    refine lv_lrem hx hb dX12_common__13 (mm_nzl q3 (by decide)) ?_
    refine lv_topl (fun v4 ev4 => ?_)
    have rv4 : mm_rl v4 0 254 := mm_reml ev4 h0 q3 (by decide) (by decide)
    have w5 := mm_remlLt ev4 h0 q3 (by decide)
    refine mm_finlr (va_runS (As := [.long j_1, .long v4]) (rest := []) ⟨hx, hb, hml, hown, hts⟩ (M173_X12_common_ l G cy H.size j_1 v4 q3 rv4 w5) (va_cwS 2 hts (mm_gS mm_w1043 mm_w1044 mm_w5 mm_w1045) rfl rfl rfl hs_X12_common_ ⟨by rw [hRf]; exact Nat.le_of_ble_eq_true rfl, by rw [hRl]; exact Nat.le_of_ble_eq_true rfl⟩) (mm_preS hK hZ hS hA hP hD [] rfl rfl) rfl rfl hl.1 rfl (lv_room (Nat.le_of_ble_eq_true rfl)) dX12_common__14 ⟨by rw [hRc]; exact Nat.le_of_ble_eq_true rfl, by rw [hRs]; exact Nat.le_of_ble_eq_true rfl⟩) hP hD hS hA [] rfl (fun _ => rfl) ?_
    clear hP hD hS
    clear H locs
    intro v6 _u H locs hw hP hD hS
    have w7 := hw
    subst hAe
    rw [hQ]
    exact W.lret (v := v6) hx hb hr (fun t ht hW => ⟨⟨v6, (), rfl, w7, by rw [ht]; exact hP, hK.warm hW, hD⟩, hS.F ht⟩) hS.2.2 dX12_common__17
  · have q8 := mm_eqIl (lo := 0) (hi := 0) (mm_cmp_eq ev1 c2) h1 mm_kl0 (by decide)
    refine lv_lload_n hx hb dX12_common__6 rfl (lv_at hl 0 rfl) ?_
    refine lv_goto (tgt := 17) hx hb dX12_common__7 (by decide) ?_
    subst hAe
    rw [hQ]
    exact W.lret (v := j_0) hx hb hr (fun t ht hW => ⟨⟨j_0, (), rfl, h0, by rw [ht]; exact hP, hK.warm hW, hD⟩, hS.F ht⟩) hS.2.2 dX12_common__17

set_option maxHeartbeats 4000000 in
set_option maxRecDepth 100000 in
theorem M263_X12_common_ (l : Launch) (G : va_G) (cy : Nat → ClassId) (sz : Nat) (j_0 : Int64) (j_1 : Int64) (h0 : mm_rl j_0 1 511) (h1 : mm_rl j_1 0 510) (h2 : (j_1 : Int64).toInt < (j_0 : Int64).toInt)  : mm_CL l yX12_common_ (mm_ws yX12_common_ cX12_common_ 4 (some .long)) ({ frames := 16, cells := 0, slots := 0, locals := 368 } : Room) G cy sz [] [.long j_0, .long j_1] (fun u : Unit => []) (fun (r : Int64) (u : Unit) => mm_rl r 1 4611686018427387904) 0 0 := by
  refine mm_begin (lv := [(0, .long j_0), (2, .long j_1)]) (by decide) (Nat.le_of_ble_eq_true rfl) rfl ?_
  intro p e s m below meth c A ls R args Q H locs hRe hQ hAe hx hb hr hlocks hml hown hnm hts hsz hA hS hP hK hD hZ hl
  have hRf : R.frames = 16 := by rw [hRe]
  have hRl : R.locals = 368 := by rw [hRe]
  have hRc : R.cells = 0 := by rw [hRe]
  have hRs : R.slots = 0 := by rw [hRe]
  refine lv_lload_n hx hb dX12_common__0 rfl (lv_at hl 1 rfl) ?_
  refine lv_lconst (v := 0) hx hb dX12_common__1 (by decide) ?_
  refine W.lcmp hx hb dX12_common__2 ?_
  refine lv_topi (fun v1 ev1 => ?_)
  refine lv_if_ne (tgt := 10) hx hb dX12_common__3 (by decide) (fun c2 => ?_) (fun c2 => ?_)
  · have q3 := mm_neLl (lo := 1) (mm_cmp_ne ev1 c2) h1 mm_kl0 (by decide) (by decide)
    refine lv_lload_n hx hb dX12_common__10 rfl (lv_at hl 1 rfl) ?_
    refine lv_lload_n hx hb dX12_common__11 rfl (lv_at hl 0 rfl) ?_
    refine lv_lload_n hx hb dX12_common__12 rfl (lv_at hl 1 rfl) ?_
    refine lv_lrem hx hb dX12_common__13 (mm_nzl q3 (by decide)) ?_
    refine lv_topl (fun v4 ev4 => ?_)
    have rv4 : mm_rl v4 0 509 := mm_reml ev4 h0 q3 (by decide) (by decide)
    have w5 := mm_remlLt ev4 h0 q3 (by decide)
    have q6 : mm_rl v4 0 255 := mm_remlHalf ev4 (Int.le_of_lt h2) h0 q3 (by decide)
    refine mm_finlr (va_runS (As := [.long j_1, .long v4]) (rest := []) ⟨hx, hb, hml, hown, hts⟩ (M262_X12_common_ l G cy H.size j_1 v4 (mm_wkl q3 (by decide)) q6) (va_cwS 2 hts (mm_gS mm_w1043 mm_w1044 mm_w5 mm_w1045) rfl rfl rfl hs_X12_common_ ⟨by rw [hRf]; exact Nat.le_of_ble_eq_true rfl, by rw [hRl]; exact Nat.le_of_ble_eq_true rfl⟩) (mm_preS hK hZ hS hA hP hD [] rfl rfl) rfl rfl hl.1 rfl (lv_room (Nat.le_of_ble_eq_true rfl)) dX12_common__14 ⟨by rw [hRc]; exact Nat.le_of_ble_eq_true rfl, by rw [hRs]; exact Nat.le_of_ble_eq_true rfl⟩) hP hD hS hA [] rfl (fun _ => rfl) ?_
    clear hP hD hS
    clear H locs
    intro v7 _u H locs hw hP hD hS
    have w8 := hw
    subst hAe
    rw [hQ]
    exact W.lret (v := v7) hx hb hr (fun t ht hW => ⟨⟨v7, (), rfl, w8, by rw [ht]; exact hP, hK.warm hW, hD⟩, hS.F ht⟩) hS.2.2 dX12_common__17
  · have q9 := mm_eqIl (lo := 0) (hi := 0) (mm_cmp_eq ev1 c2) h1 mm_kl0 (by decide)
    refine lv_lload_n hx hb dX12_common__6 rfl (lv_at hl 0 rfl) ?_
    refine lv_goto (tgt := 17) hx hb dX12_common__7 (by decide) ?_
    subst hAe
    rw [hQ]
    exact W.lret (v := j_0) hx hb hr (fun t ht hW => ⟨⟨j_0, (), rfl, (mm_wkl h0 (by decide)), by rw [ht]; exact hP, hK.warm hW, hD⟩, hS.F ht⟩) hS.2.2 dX12_common__17

set_option maxHeartbeats 4000000 in
set_option maxRecDepth 100000 in
theorem M264_X12_common_ (l : Launch) (G : va_G) (cy : Nat → ClassId) (sz : Nat) (j_0 : Int64) (j_1 : Int64) (h0 : mm_rl j_0 1 4611686018427387904) (h1 : mm_rl j_1 0 511)  : mm_CL l yX12_common_ (mm_ws yX12_common_ cX12_common_ 4 (some .long)) ({ frames := 17, cells := 0, slots := 0, locals := 391 } : Room) G cy sz [] [.long j_0, .long j_1] (fun u : Unit => []) (fun (r : Int64) (u : Unit) => mm_rl r 1 4611686018427387904) 0 0 := by
  refine mm_begin (lv := [(0, .long j_0), (2, .long j_1)]) (by decide) (Nat.le_of_ble_eq_true rfl) rfl ?_
  intro p e s m below meth c A ls R args Q H locs hRe hQ hAe hx hb hr hlocks hml hown hnm hts hsz hA hS hP hK hD hZ hl
  have hRf : R.frames = 17 := by rw [hRe]
  have hRl : R.locals = 391 := by rw [hRe]
  have hRc : R.cells = 0 := by rw [hRe]
  have hRs : R.slots = 0 := by rw [hRe]
  refine lv_lload_n hx hb dX12_common__0 rfl (lv_at hl 1 rfl) ?_
  refine lv_lconst (v := 0) hx hb dX12_common__1 (by decide) ?_
  refine W.lcmp hx hb dX12_common__2 ?_
  refine lv_topi (fun v1 ev1 => ?_)
  refine lv_if_ne (tgt := 10) hx hb dX12_common__3 (by decide) (fun c2 => ?_) (fun c2 => ?_)
  · have q3 := mm_neLl (lo := 1) (mm_cmp_ne ev1 c2) h1 mm_kl0 (by decide) (by decide)
    refine lv_lload_n hx hb dX12_common__10 rfl (lv_at hl 1 rfl) ?_
    refine lv_lload_n hx hb dX12_common__11 rfl (lv_at hl 0 rfl) ?_
    refine lv_lload_n hx hb dX12_common__12 rfl (lv_at hl 1 rfl) ?_
    refine lv_lrem hx hb dX12_common__13 (mm_nzl q3 (by decide)) ?_
    refine lv_topl (fun v4 ev4 => ?_)
    have rv4 : mm_rl v4 0 510 := mm_reml ev4 h0 q3 (by decide) (by decide)
    have w5 := mm_remlLt ev4 h0 q3 (by decide)
    refine mm_finlr (va_runS (As := [.long j_1, .long v4]) (rest := []) ⟨hx, hb, hml, hown, hts⟩ (M263_X12_common_ l G cy H.size j_1 v4 q3 rv4 w5) (va_cwS 2 hts (mm_gS mm_w1043 mm_w1044 mm_w5 mm_w1045) rfl rfl rfl hs_X12_common_ ⟨by rw [hRf]; exact Nat.le_of_ble_eq_true rfl, by rw [hRl]; exact Nat.le_of_ble_eq_true rfl⟩) (mm_preS hK hZ hS hA hP hD [] rfl rfl) rfl rfl hl.1 rfl (lv_room (Nat.le_of_ble_eq_true rfl)) dX12_common__14 ⟨by rw [hRc]; exact Nat.le_of_ble_eq_true rfl, by rw [hRs]; exact Nat.le_of_ble_eq_true rfl⟩) hP hD hS hA [] rfl (fun _ => rfl) ?_
    clear hP hD hS
    clear H locs
    intro v6 _u H locs hw hP hD hS
    have w7 := hw
    subst hAe
    rw [hQ]
    exact W.lret (v := v6) hx hb hr (fun t ht hW => ⟨⟨v6, (), rfl, w7, by rw [ht]; exact hP, hK.warm hW, hD⟩, hS.F ht⟩) hS.2.2 dX12_common__17
  · have q8 := mm_eqIl (lo := 0) (hi := 0) (mm_cmp_eq ev1 c2) h1 mm_kl0 (by decide)
    refine lv_lload_n hx hb dX12_common__6 rfl (lv_at hl 0 rfl) ?_
    refine lv_goto (tgt := 17) hx hb dX12_common__7 (by decide) ?_
    subst hAe
    rw [hQ]
    exact W.lret (v := j_0) hx hb hr (fun t ht hW => ⟨⟨j_0, (), rfl, h0, by rw [ht]; exact hP, hK.warm hW, hD⟩, hS.F ht⟩) hS.2.2 dX12_common__17

set_option maxHeartbeats 4000000 in
set_option maxRecDepth 100000 in
theorem M265_X12_common_ (l : Launch) (G : va_G) (cy : Nat → ClassId) (sz : Nat) (j_0 : Int64) (j_1 : Int64) (h0 : mm_rl j_0 1 1023) (h1 : mm_rl j_1 0 1022) (h2 : (j_1 : Int64).toInt < (j_0 : Int64).toInt)  : mm_CL l yX12_common_ (mm_ws yX12_common_ cX12_common_ 4 (some .long)) ({ frames := 18, cells := 0, slots := 0, locals := 414 } : Room) G cy sz [] [.long j_0, .long j_1] (fun u : Unit => []) (fun (r : Int64) (u : Unit) => mm_rl r 1 4611686018427387904) 0 0 := by
  refine mm_begin (lv := [(0, .long j_0), (2, .long j_1)]) (by decide) (Nat.le_of_ble_eq_true rfl) rfl ?_
  intro p e s m below meth c A ls R args Q H locs hRe hQ hAe hx hb hr hlocks hml hown hnm hts hsz hA hS hP hK hD hZ hl
  have hRf : R.frames = 18 := by rw [hRe]
  have hRl : R.locals = 414 := by rw [hRe]
  have hRc : R.cells = 0 := by rw [hRe]
  have hRs : R.slots = 0 := by rw [hRe]
  refine lv_lload_n hx hb dX12_common__0 rfl (lv_at hl 1 rfl) ?_
  refine lv_lconst (v := 0) hx hb dX12_common__1 (by decide) ?_
  refine W.lcmp hx hb dX12_common__2 ?_
  refine lv_topi (fun v1 ev1 => ?_)
  refine lv_if_ne (tgt := 10) hx hb dX12_common__3 (by decide) (fun c2 => ?_) (fun c2 => ?_)
  · have q3 := mm_neLl (lo := 1) (mm_cmp_ne ev1 c2) h1 mm_kl0 (by decide) (by decide)
    refine lv_lload_n hx hb dX12_common__10 rfl (lv_at hl 1 rfl) ?_
    refine lv_lload_n hx hb dX12_common__11 rfl (lv_at hl 0 rfl) ?_
    refine lv_lload_n hx hb dX12_common__12 rfl (lv_at hl 1 rfl) ?_
    refine lv_lrem hx hb dX12_common__13 (mm_nzl q3 (by decide)) ?_
    refine lv_topl (fun v4 ev4 => ?_)
    have rv4 : mm_rl v4 0 1021 := mm_reml ev4 h0 q3 (by decide) (by decide)
    have w5 := mm_remlLt ev4 h0 q3 (by decide)
    have q6 : mm_rl v4 0 511 := mm_remlHalf ev4 (Int.le_of_lt h2) h0 q3 (by decide)
    refine mm_finlr (va_runS (As := [.long j_1, .long v4]) (rest := []) ⟨hx, hb, hml, hown, hts⟩ (M264_X12_common_ l G cy H.size j_1 v4 (mm_wkl q3 (by decide)) q6) (va_cwS 2 hts (mm_gS mm_w1043 mm_w1044 mm_w5 mm_w1045) rfl rfl rfl hs_X12_common_ ⟨by rw [hRf]; exact Nat.le_of_ble_eq_true rfl, by rw [hRl]; exact Nat.le_of_ble_eq_true rfl⟩) (mm_preS hK hZ hS hA hP hD [] rfl rfl) rfl rfl hl.1 rfl (lv_room (Nat.le_of_ble_eq_true rfl)) dX12_common__14 ⟨by rw [hRc]; exact Nat.le_of_ble_eq_true rfl, by rw [hRs]; exact Nat.le_of_ble_eq_true rfl⟩) hP hD hS hA [] rfl (fun _ => rfl) ?_
    clear hP hD hS
    clear H locs
    intro v7 _u H locs hw hP hD hS
    have w8 := hw
    subst hAe
    rw [hQ]
    exact W.lret (v := v7) hx hb hr (fun t ht hW => ⟨⟨v7, (), rfl, w8, by rw [ht]; exact hP, hK.warm hW, hD⟩, hS.F ht⟩) hS.2.2 dX12_common__17
  · have q9 := mm_eqIl (lo := 0) (hi := 0) (mm_cmp_eq ev1 c2) h1 mm_kl0 (by decide)
    refine lv_lload_n hx hb dX12_common__6 rfl (lv_at hl 0 rfl) ?_
    refine lv_goto (tgt := 17) hx hb dX12_common__7 (by decide) ?_
    subst hAe
    rw [hQ]
    exact W.lret (v := j_0) hx hb hr (fun t ht hW => ⟨⟨j_0, (), rfl, (mm_wkl h0 (by decide)), by rw [ht]; exact hP, hK.warm hW, hD⟩, hS.F ht⟩) hS.2.2 dX12_common__17

set_option maxHeartbeats 4000000 in
set_option maxRecDepth 100000 in
theorem M266_X12_common_ (l : Launch) (G : va_G) (cy : Nat → ClassId) (sz : Nat) (j_0 : Int64) (j_1 : Int64) (h0 : mm_rl j_0 1 4611686018427387904) (h1 : mm_rl j_1 0 1023)  : mm_CL l yX12_common_ (mm_ws yX12_common_ cX12_common_ 4 (some .long)) ({ frames := 19, cells := 0, slots := 0, locals := 437 } : Room) G cy sz [] [.long j_0, .long j_1] (fun u : Unit => []) (fun (r : Int64) (u : Unit) => mm_rl r 1 4611686018427387904) 0 0 := by
  refine mm_begin (lv := [(0, .long j_0), (2, .long j_1)]) (by decide) (Nat.le_of_ble_eq_true rfl) rfl ?_
  intro p e s m below meth c A ls R args Q H locs hRe hQ hAe hx hb hr hlocks hml hown hnm hts hsz hA hS hP hK hD hZ hl
  have hRf : R.frames = 19 := by rw [hRe]
  have hRl : R.locals = 437 := by rw [hRe]
  have hRc : R.cells = 0 := by rw [hRe]
  have hRs : R.slots = 0 := by rw [hRe]
  refine lv_lload_n hx hb dX12_common__0 rfl (lv_at hl 1 rfl) ?_
  refine lv_lconst (v := 0) hx hb dX12_common__1 (by decide) ?_
  refine W.lcmp hx hb dX12_common__2 ?_
  refine lv_topi (fun v1 ev1 => ?_)
  refine lv_if_ne (tgt := 10) hx hb dX12_common__3 (by decide) (fun c2 => ?_) (fun c2 => ?_)
  · have q3 := mm_neLl (lo := 1) (mm_cmp_ne ev1 c2) h1 mm_kl0 (by decide) (by decide)
    refine lv_lload_n hx hb dX12_common__10 rfl (lv_at hl 1 rfl) ?_
    refine lv_lload_n hx hb dX12_common__11 rfl (lv_at hl 0 rfl) ?_
    refine lv_lload_n hx hb dX12_common__12 rfl (lv_at hl 1 rfl) ?_
    refine lv_lrem hx hb dX12_common__13 (mm_nzl q3 (by decide)) ?_
    refine lv_topl (fun v4 ev4 => ?_)
    have rv4 : mm_rl v4 0 1022 := mm_reml ev4 h0 q3 (by decide) (by decide)
    have w5 := mm_remlLt ev4 h0 q3 (by decide)
    refine mm_finlr (va_runS (As := [.long j_1, .long v4]) (rest := []) ⟨hx, hb, hml, hown, hts⟩ (M265_X12_common_ l G cy H.size j_1 v4 q3 rv4 w5) (va_cwS 2 hts (mm_gS mm_w1043 mm_w1044 mm_w5 mm_w1045) rfl rfl rfl hs_X12_common_ ⟨by rw [hRf]; exact Nat.le_of_ble_eq_true rfl, by rw [hRl]; exact Nat.le_of_ble_eq_true rfl⟩) (mm_preS hK hZ hS hA hP hD [] rfl rfl) rfl rfl hl.1 rfl (lv_room (Nat.le_of_ble_eq_true rfl)) dX12_common__14 ⟨by rw [hRc]; exact Nat.le_of_ble_eq_true rfl, by rw [hRs]; exact Nat.le_of_ble_eq_true rfl⟩) hP hD hS hA [] rfl (fun _ => rfl) ?_
    clear hP hD hS
    clear H locs
    intro v6 _u H locs hw hP hD hS
    have w7 := hw
    subst hAe
    rw [hQ]
    exact W.lret (v := v6) hx hb hr (fun t ht hW => ⟨⟨v6, (), rfl, w7, by rw [ht]; exact hP, hK.warm hW, hD⟩, hS.F ht⟩) hS.2.2 dX12_common__17
  · have q8 := mm_eqIl (lo := 0) (hi := 0) (mm_cmp_eq ev1 c2) h1 mm_kl0 (by decide)
    refine lv_lload_n hx hb dX12_common__6 rfl (lv_at hl 0 rfl) ?_
    refine lv_goto (tgt := 17) hx hb dX12_common__7 (by decide) ?_
    subst hAe
    rw [hQ]
    exact W.lret (v := j_0) hx hb hr (fun t ht hW => ⟨⟨j_0, (), rfl, h0, by rw [ht]; exact hP, hK.warm hW, hD⟩, hS.F ht⟩) hS.2.2 dX12_common__17

set_option maxHeartbeats 4000000 in
set_option maxRecDepth 100000 in
theorem M267_X12_common_ (l : Launch) (G : va_G) (cy : Nat → ClassId) (sz : Nat) (j_0 : Int64) (j_1 : Int64) (h0 : mm_rl j_0 1 2047) (h1 : mm_rl j_1 0 2046) (h2 : (j_1 : Int64).toInt < (j_0 : Int64).toInt)  : mm_CL l yX12_common_ (mm_ws yX12_common_ cX12_common_ 4 (some .long)) ({ frames := 20, cells := 0, slots := 0, locals := 460 } : Room) G cy sz [] [.long j_0, .long j_1] (fun u : Unit => []) (fun (r : Int64) (u : Unit) => mm_rl r 1 4611686018427387904) 0 0 := by
  refine mm_begin (lv := [(0, .long j_0), (2, .long j_1)]) (by decide) (Nat.le_of_ble_eq_true rfl) rfl ?_
  intro p e s m below meth c A ls R args Q H locs hRe hQ hAe hx hb hr hlocks hml hown hnm hts hsz hA hS hP hK hD hZ hl
  have hRf : R.frames = 20 := by rw [hRe]
  have hRl : R.locals = 460 := by rw [hRe]
  have hRc : R.cells = 0 := by rw [hRe]
  have hRs : R.slots = 0 := by rw [hRe]
  refine lv_lload_n hx hb dX12_common__0 rfl (lv_at hl 1 rfl) ?_
  refine lv_lconst (v := 0) hx hb dX12_common__1 (by decide) ?_
  refine W.lcmp hx hb dX12_common__2 ?_
  refine lv_topi (fun v1 ev1 => ?_)
  refine lv_if_ne (tgt := 10) hx hb dX12_common__3 (by decide) (fun c2 => ?_) (fun c2 => ?_)
  · have q3 := mm_neLl (lo := 1) (mm_cmp_ne ev1 c2) h1 mm_kl0 (by decide) (by decide)
    refine lv_lload_n hx hb dX12_common__10 rfl (lv_at hl 1 rfl) ?_
    refine lv_lload_n hx hb dX12_common__11 rfl (lv_at hl 0 rfl) ?_
    refine lv_lload_n hx hb dX12_common__12 rfl (lv_at hl 1 rfl) ?_
    refine lv_lrem hx hb dX12_common__13 (mm_nzl q3 (by decide)) ?_
    refine lv_topl (fun v4 ev4 => ?_)
    have rv4 : mm_rl v4 0 2045 := mm_reml ev4 h0 q3 (by decide) (by decide)
    have w5 := mm_remlLt ev4 h0 q3 (by decide)
    have q6 : mm_rl v4 0 1023 := mm_remlHalf ev4 (Int.le_of_lt h2) h0 q3 (by decide)
    refine mm_finlr (va_runS (As := [.long j_1, .long v4]) (rest := []) ⟨hx, hb, hml, hown, hts⟩ (M266_X12_common_ l G cy H.size j_1 v4 (mm_wkl q3 (by decide)) q6) (va_cwS 2 hts (mm_gS mm_w1043 mm_w1044 mm_w5 mm_w1045) rfl rfl rfl hs_X12_common_ ⟨by rw [hRf]; exact Nat.le_of_ble_eq_true rfl, by rw [hRl]; exact Nat.le_of_ble_eq_true rfl⟩) (mm_preS hK hZ hS hA hP hD [] rfl rfl) rfl rfl hl.1 rfl (lv_room (Nat.le_of_ble_eq_true rfl)) dX12_common__14 ⟨by rw [hRc]; exact Nat.le_of_ble_eq_true rfl, by rw [hRs]; exact Nat.le_of_ble_eq_true rfl⟩) hP hD hS hA [] rfl (fun _ => rfl) ?_
    clear hP hD hS
    clear H locs
    intro v7 _u H locs hw hP hD hS
    have w8 := hw
    subst hAe
    rw [hQ]
    exact W.lret (v := v7) hx hb hr (fun t ht hW => ⟨⟨v7, (), rfl, w8, by rw [ht]; exact hP, hK.warm hW, hD⟩, hS.F ht⟩) hS.2.2 dX12_common__17
  · have q9 := mm_eqIl (lo := 0) (hi := 0) (mm_cmp_eq ev1 c2) h1 mm_kl0 (by decide)
    refine lv_lload_n hx hb dX12_common__6 rfl (lv_at hl 0 rfl) ?_
    refine lv_goto (tgt := 17) hx hb dX12_common__7 (by decide) ?_
    subst hAe
    rw [hQ]
    exact W.lret (v := j_0) hx hb hr (fun t ht hW => ⟨⟨j_0, (), rfl, (mm_wkl h0 (by decide)), by rw [ht]; exact hP, hK.warm hW, hD⟩, hS.F ht⟩) hS.2.2 dX12_common__17

set_option maxHeartbeats 4000000 in
set_option maxRecDepth 100000 in
theorem M268_X12_common_ (l : Launch) (G : va_G) (cy : Nat → ClassId) (sz : Nat) (j_0 : Int64) (j_1 : Int64) (h0 : mm_rl j_0 1 4611686018427387904) (h1 : mm_rl j_1 0 2047)  : mm_CL l yX12_common_ (mm_ws yX12_common_ cX12_common_ 4 (some .long)) ({ frames := 21, cells := 0, slots := 0, locals := 483 } : Room) G cy sz [] [.long j_0, .long j_1] (fun u : Unit => []) (fun (r : Int64) (u : Unit) => mm_rl r 1 4611686018427387904) 0 0 := by
  refine mm_begin (lv := [(0, .long j_0), (2, .long j_1)]) (by decide) (Nat.le_of_ble_eq_true rfl) rfl ?_
  intro p e s m below meth c A ls R args Q H locs hRe hQ hAe hx hb hr hlocks hml hown hnm hts hsz hA hS hP hK hD hZ hl
  have hRf : R.frames = 21 := by rw [hRe]
  have hRl : R.locals = 483 := by rw [hRe]
  have hRc : R.cells = 0 := by rw [hRe]
  have hRs : R.slots = 0 := by rw [hRe]
  refine lv_lload_n hx hb dX12_common__0 rfl (lv_at hl 1 rfl) ?_
  refine lv_lconst (v := 0) hx hb dX12_common__1 (by decide) ?_
  refine W.lcmp hx hb dX12_common__2 ?_
  refine lv_topi (fun v1 ev1 => ?_)
  refine lv_if_ne (tgt := 10) hx hb dX12_common__3 (by decide) (fun c2 => ?_) (fun c2 => ?_)
  · have q3 := mm_neLl (lo := 1) (mm_cmp_ne ev1 c2) h1 mm_kl0 (by decide) (by decide)
    refine lv_lload_n hx hb dX12_common__10 rfl (lv_at hl 1 rfl) ?_
    refine lv_lload_n hx hb dX12_common__11 rfl (lv_at hl 0 rfl) ?_
    refine lv_lload_n hx hb dX12_common__12 rfl (lv_at hl 1 rfl) ?_
    refine lv_lrem hx hb dX12_common__13 (mm_nzl q3 (by decide)) ?_
    refine lv_topl (fun v4 ev4 => ?_)
    have rv4 : mm_rl v4 0 2046 := mm_reml ev4 h0 q3 (by decide) (by decide)
    have w5 := mm_remlLt ev4 h0 q3 (by decide)
    refine mm_finlr (va_runS (As := [.long j_1, .long v4]) (rest := []) ⟨hx, hb, hml, hown, hts⟩ (M267_X12_common_ l G cy H.size j_1 v4 q3 rv4 w5) (va_cwS 2 hts (mm_gS mm_w1043 mm_w1044 mm_w5 mm_w1045) rfl rfl rfl hs_X12_common_ ⟨by rw [hRf]; exact Nat.le_of_ble_eq_true rfl, by rw [hRl]; exact Nat.le_of_ble_eq_true rfl⟩) (mm_preS hK hZ hS hA hP hD [] rfl rfl) rfl rfl hl.1 rfl (lv_room (Nat.le_of_ble_eq_true rfl)) dX12_common__14 ⟨by rw [hRc]; exact Nat.le_of_ble_eq_true rfl, by rw [hRs]; exact Nat.le_of_ble_eq_true rfl⟩) hP hD hS hA [] rfl (fun _ => rfl) ?_
    clear hP hD hS
    clear H locs
    intro v6 _u H locs hw hP hD hS
    have w7 := hw
    subst hAe
    rw [hQ]
    exact W.lret (v := v6) hx hb hr (fun t ht hW => ⟨⟨v6, (), rfl, w7, by rw [ht]; exact hP, hK.warm hW, hD⟩, hS.F ht⟩) hS.2.2 dX12_common__17
  · have q8 := mm_eqIl (lo := 0) (hi := 0) (mm_cmp_eq ev1 c2) h1 mm_kl0 (by decide)
    refine lv_lload_n hx hb dX12_common__6 rfl (lv_at hl 0 rfl) ?_
    refine lv_goto (tgt := 17) hx hb dX12_common__7 (by decide) ?_
    subst hAe
    rw [hQ]
    exact W.lret (v := j_0) hx hb hr (fun t ht hW => ⟨⟨j_0, (), rfl, h0, by rw [ht]; exact hP, hK.warm hW, hD⟩, hS.F ht⟩) hS.2.2 dX12_common__17

set_option maxHeartbeats 4000000 in
set_option maxRecDepth 100000 in
theorem M269_X12_common_ (l : Launch) (G : va_G) (cy : Nat → ClassId) (sz : Nat) (j_0 : Int64) (j_1 : Int64) (h0 : mm_rl j_0 1 4095) (h1 : mm_rl j_1 0 4094) (h2 : (j_1 : Int64).toInt < (j_0 : Int64).toInt)  : mm_CL l yX12_common_ (mm_ws yX12_common_ cX12_common_ 4 (some .long)) ({ frames := 22, cells := 0, slots := 0, locals := 506 } : Room) G cy sz [] [.long j_0, .long j_1] (fun u : Unit => []) (fun (r : Int64) (u : Unit) => mm_rl r 1 4611686018427387904) 0 0 := by
  refine mm_begin (lv := [(0, .long j_0), (2, .long j_1)]) (by decide) (Nat.le_of_ble_eq_true rfl) rfl ?_
  intro p e s m below meth c A ls R args Q H locs hRe hQ hAe hx hb hr hlocks hml hown hnm hts hsz hA hS hP hK hD hZ hl
  have hRf : R.frames = 22 := by rw [hRe]
  have hRl : R.locals = 506 := by rw [hRe]
  have hRc : R.cells = 0 := by rw [hRe]
  have hRs : R.slots = 0 := by rw [hRe]
  refine lv_lload_n hx hb dX12_common__0 rfl (lv_at hl 1 rfl) ?_
  refine lv_lconst (v := 0) hx hb dX12_common__1 (by decide) ?_
  refine W.lcmp hx hb dX12_common__2 ?_
  refine lv_topi (fun v1 ev1 => ?_)
  refine lv_if_ne (tgt := 10) hx hb dX12_common__3 (by decide) (fun c2 => ?_) (fun c2 => ?_)
  · have q3 := mm_neLl (lo := 1) (mm_cmp_ne ev1 c2) h1 mm_kl0 (by decide) (by decide)
    refine lv_lload_n hx hb dX12_common__10 rfl (lv_at hl 1 rfl) ?_
    refine lv_lload_n hx hb dX12_common__11 rfl (lv_at hl 0 rfl) ?_
    refine lv_lload_n hx hb dX12_common__12 rfl (lv_at hl 1 rfl) ?_
    refine lv_lrem hx hb dX12_common__13 (mm_nzl q3 (by decide)) ?_
    refine lv_topl (fun v4 ev4 => ?_)
    have rv4 : mm_rl v4 0 4093 := mm_reml ev4 h0 q3 (by decide) (by decide)
    have w5 := mm_remlLt ev4 h0 q3 (by decide)
    have q6 : mm_rl v4 0 2047 := mm_remlHalf ev4 (Int.le_of_lt h2) h0 q3 (by decide)
    refine mm_finlr (va_runS (As := [.long j_1, .long v4]) (rest := []) ⟨hx, hb, hml, hown, hts⟩ (M268_X12_common_ l G cy H.size j_1 v4 (mm_wkl q3 (by decide)) q6) (va_cwS 2 hts (mm_gS mm_w1043 mm_w1044 mm_w5 mm_w1045) rfl rfl rfl hs_X12_common_ ⟨by rw [hRf]; exact Nat.le_of_ble_eq_true rfl, by rw [hRl]; exact Nat.le_of_ble_eq_true rfl⟩) (mm_preS hK hZ hS hA hP hD [] rfl rfl) rfl rfl hl.1 rfl (lv_room (Nat.le_of_ble_eq_true rfl)) dX12_common__14 ⟨by rw [hRc]; exact Nat.le_of_ble_eq_true rfl, by rw [hRs]; exact Nat.le_of_ble_eq_true rfl⟩) hP hD hS hA [] rfl (fun _ => rfl) ?_
    clear hP hD hS
    clear H locs
    intro v7 _u H locs hw hP hD hS
    have w8 := hw
    subst hAe
    rw [hQ]
    exact W.lret (v := v7) hx hb hr (fun t ht hW => ⟨⟨v7, (), rfl, w8, by rw [ht]; exact hP, hK.warm hW, hD⟩, hS.F ht⟩) hS.2.2 dX12_common__17
  · have q9 := mm_eqIl (lo := 0) (hi := 0) (mm_cmp_eq ev1 c2) h1 mm_kl0 (by decide)
    refine lv_lload_n hx hb dX12_common__6 rfl (lv_at hl 0 rfl) ?_
    refine lv_goto (tgt := 17) hx hb dX12_common__7 (by decide) ?_
    subst hAe
    rw [hQ]
    exact W.lret (v := j_0) hx hb hr (fun t ht hW => ⟨⟨j_0, (), rfl, (mm_wkl h0 (by decide)), by rw [ht]; exact hP, hK.warm hW, hD⟩, hS.F ht⟩) hS.2.2 dX12_common__17

set_option maxHeartbeats 4000000 in
set_option maxRecDepth 100000 in
theorem M270_X12_common_ (l : Launch) (G : va_G) (cy : Nat → ClassId) (sz : Nat) (j_0 : Int64) (j_1 : Int64) (h0 : mm_rl j_0 1 4611686018427387904) (h1 : mm_rl j_1 0 4095)  : mm_CL l yX12_common_ (mm_ws yX12_common_ cX12_common_ 4 (some .long)) ({ frames := 23, cells := 0, slots := 0, locals := 529 } : Room) G cy sz [] [.long j_0, .long j_1] (fun u : Unit => []) (fun (r : Int64) (u : Unit) => mm_rl r 1 4611686018427387904) 0 0 := by
  refine mm_begin (lv := [(0, .long j_0), (2, .long j_1)]) (by decide) (Nat.le_of_ble_eq_true rfl) rfl ?_
  intro p e s m below meth c A ls R args Q H locs hRe hQ hAe hx hb hr hlocks hml hown hnm hts hsz hA hS hP hK hD hZ hl
  have hRf : R.frames = 23 := by rw [hRe]
  have hRl : R.locals = 529 := by rw [hRe]
  have hRc : R.cells = 0 := by rw [hRe]
  have hRs : R.slots = 0 := by rw [hRe]
  refine lv_lload_n hx hb dX12_common__0 rfl (lv_at hl 1 rfl) ?_
  refine lv_lconst (v := 0) hx hb dX12_common__1 (by decide) ?_
  refine W.lcmp hx hb dX12_common__2 ?_
  refine lv_topi (fun v1 ev1 => ?_)
  refine lv_if_ne (tgt := 10) hx hb dX12_common__3 (by decide) (fun c2 => ?_) (fun c2 => ?_)
  · have q3 := mm_neLl (lo := 1) (mm_cmp_ne ev1 c2) h1 mm_kl0 (by decide) (by decide)
    refine lv_lload_n hx hb dX12_common__10 rfl (lv_at hl 1 rfl) ?_
    refine lv_lload_n hx hb dX12_common__11 rfl (lv_at hl 0 rfl) ?_
    refine lv_lload_n hx hb dX12_common__12 rfl (lv_at hl 1 rfl) ?_
    refine lv_lrem hx hb dX12_common__13 (mm_nzl q3 (by decide)) ?_
    refine lv_topl (fun v4 ev4 => ?_)
    have rv4 : mm_rl v4 0 4094 := mm_reml ev4 h0 q3 (by decide) (by decide)
    have w5 := mm_remlLt ev4 h0 q3 (by decide)
    refine mm_finlr (va_runS (As := [.long j_1, .long v4]) (rest := []) ⟨hx, hb, hml, hown, hts⟩ (M269_X12_common_ l G cy H.size j_1 v4 q3 rv4 w5) (va_cwS 2 hts (mm_gS mm_w1043 mm_w1044 mm_w5 mm_w1045) rfl rfl rfl hs_X12_common_ ⟨by rw [hRf]; exact Nat.le_of_ble_eq_true rfl, by rw [hRl]; exact Nat.le_of_ble_eq_true rfl⟩) (mm_preS hK hZ hS hA hP hD [] rfl rfl) rfl rfl hl.1 rfl (lv_room (Nat.le_of_ble_eq_true rfl)) dX12_common__14 ⟨by rw [hRc]; exact Nat.le_of_ble_eq_true rfl, by rw [hRs]; exact Nat.le_of_ble_eq_true rfl⟩) hP hD hS hA [] rfl (fun _ => rfl) ?_
    clear hP hD hS
    clear H locs
    intro v6 _u H locs hw hP hD hS
    have w7 := hw
    subst hAe
    rw [hQ]
    exact W.lret (v := v6) hx hb hr (fun t ht hW => ⟨⟨v6, (), rfl, w7, by rw [ht]; exact hP, hK.warm hW, hD⟩, hS.F ht⟩) hS.2.2 dX12_common__17
  · have q8 := mm_eqIl (lo := 0) (hi := 0) (mm_cmp_eq ev1 c2) h1 mm_kl0 (by decide)
    refine lv_lload_n hx hb dX12_common__6 rfl (lv_at hl 0 rfl) ?_
    refine lv_goto (tgt := 17) hx hb dX12_common__7 (by decide) ?_
    subst hAe
    rw [hQ]
    exact W.lret (v := j_0) hx hb hr (fun t ht hW => ⟨⟨j_0, (), rfl, h0, by rw [ht]; exact hP, hK.warm hW, hD⟩, hS.F ht⟩) hS.2.2 dX12_common__17

set_option maxHeartbeats 4000000 in
set_option maxRecDepth 100000 in
theorem M271_X12_common_ (l : Launch) (G : va_G) (cy : Nat → ClassId) (sz : Nat) (j_0 : Int64) (j_1 : Int64) (h0 : mm_rl j_0 1 8191) (h1 : mm_rl j_1 0 8190) (h2 : (j_1 : Int64).toInt < (j_0 : Int64).toInt)  : mm_CL l yX12_common_ (mm_ws yX12_common_ cX12_common_ 4 (some .long)) ({ frames := 24, cells := 0, slots := 0, locals := 552 } : Room) G cy sz [] [.long j_0, .long j_1] (fun u : Unit => []) (fun (r : Int64) (u : Unit) => mm_rl r 1 4611686018427387904) 0 0 := by
  refine mm_begin (lv := [(0, .long j_0), (2, .long j_1)]) (by decide) (Nat.le_of_ble_eq_true rfl) rfl ?_
  intro p e s m below meth c A ls R args Q H locs hRe hQ hAe hx hb hr hlocks hml hown hnm hts hsz hA hS hP hK hD hZ hl
  have hRf : R.frames = 24 := by rw [hRe]
  have hRl : R.locals = 552 := by rw [hRe]
  have hRc : R.cells = 0 := by rw [hRe]
  have hRs : R.slots = 0 := by rw [hRe]
  refine lv_lload_n hx hb dX12_common__0 rfl (lv_at hl 1 rfl) ?_
  refine lv_lconst (v := 0) hx hb dX12_common__1 (by decide) ?_
  refine W.lcmp hx hb dX12_common__2 ?_
  refine lv_topi (fun v1 ev1 => ?_)
  refine lv_if_ne (tgt := 10) hx hb dX12_common__3 (by decide) (fun c2 => ?_) (fun c2 => ?_)
  · have q3 := mm_neLl (lo := 1) (mm_cmp_ne ev1 c2) h1 mm_kl0 (by decide) (by decide)
    refine lv_lload_n hx hb dX12_common__10 rfl (lv_at hl 1 rfl) ?_
    refine lv_lload_n hx hb dX12_common__11 rfl (lv_at hl 0 rfl) ?_
    refine lv_lload_n hx hb dX12_common__12 rfl (lv_at hl 1 rfl) ?_
    refine lv_lrem hx hb dX12_common__13 (mm_nzl q3 (by decide)) ?_
    refine lv_topl (fun v4 ev4 => ?_)
    have rv4 : mm_rl v4 0 8189 := mm_reml ev4 h0 q3 (by decide) (by decide)
    have w5 := mm_remlLt ev4 h0 q3 (by decide)
    have q6 : mm_rl v4 0 4095 := mm_remlHalf ev4 (Int.le_of_lt h2) h0 q3 (by decide)
    refine mm_finlr (va_runS (As := [.long j_1, .long v4]) (rest := []) ⟨hx, hb, hml, hown, hts⟩ (M270_X12_common_ l G cy H.size j_1 v4 (mm_wkl q3 (by decide)) q6) (va_cwS 2 hts (mm_gS mm_w1043 mm_w1044 mm_w5 mm_w1045) rfl rfl rfl hs_X12_common_ ⟨by rw [hRf]; exact Nat.le_of_ble_eq_true rfl, by rw [hRl]; exact Nat.le_of_ble_eq_true rfl⟩) (mm_preS hK hZ hS hA hP hD [] rfl rfl) rfl rfl hl.1 rfl (lv_room (Nat.le_of_ble_eq_true rfl)) dX12_common__14 ⟨by rw [hRc]; exact Nat.le_of_ble_eq_true rfl, by rw [hRs]; exact Nat.le_of_ble_eq_true rfl⟩) hP hD hS hA [] rfl (fun _ => rfl) ?_
    clear hP hD hS
    clear H locs
    intro v7 _u H locs hw hP hD hS
    have w8 := hw
    subst hAe
    rw [hQ]
    exact W.lret (v := v7) hx hb hr (fun t ht hW => ⟨⟨v7, (), rfl, w8, by rw [ht]; exact hP, hK.warm hW, hD⟩, hS.F ht⟩) hS.2.2 dX12_common__17
  · have q9 := mm_eqIl (lo := 0) (hi := 0) (mm_cmp_eq ev1 c2) h1 mm_kl0 (by decide)
    refine lv_lload_n hx hb dX12_common__6 rfl (lv_at hl 0 rfl) ?_
    refine lv_goto (tgt := 17) hx hb dX12_common__7 (by decide) ?_
    subst hAe
    rw [hQ]
    exact W.lret (v := j_0) hx hb hr (fun t ht hW => ⟨⟨j_0, (), rfl, (mm_wkl h0 (by decide)), by rw [ht]; exact hP, hK.warm hW, hD⟩, hS.F ht⟩) hS.2.2 dX12_common__17

set_option maxHeartbeats 4000000 in
set_option maxRecDepth 100000 in
theorem M272_X12_common_ (l : Launch) (G : va_G) (cy : Nat → ClassId) (sz : Nat) (j_0 : Int64) (j_1 : Int64) (h0 : mm_rl j_0 1 4611686018427387904) (h1 : mm_rl j_1 0 8191)  : mm_CL l yX12_common_ (mm_ws yX12_common_ cX12_common_ 4 (some .long)) ({ frames := 25, cells := 0, slots := 0, locals := 575 } : Room) G cy sz [] [.long j_0, .long j_1] (fun u : Unit => []) (fun (r : Int64) (u : Unit) => mm_rl r 1 4611686018427387904) 0 0 := by
  refine mm_begin (lv := [(0, .long j_0), (2, .long j_1)]) (by decide) (Nat.le_of_ble_eq_true rfl) rfl ?_
  intro p e s m below meth c A ls R args Q H locs hRe hQ hAe hx hb hr hlocks hml hown hnm hts hsz hA hS hP hK hD hZ hl
  have hRf : R.frames = 25 := by rw [hRe]
  have hRl : R.locals = 575 := by rw [hRe]
  have hRc : R.cells = 0 := by rw [hRe]
  have hRs : R.slots = 0 := by rw [hRe]
  refine lv_lload_n hx hb dX12_common__0 rfl (lv_at hl 1 rfl) ?_
  refine lv_lconst (v := 0) hx hb dX12_common__1 (by decide) ?_
  refine W.lcmp hx hb dX12_common__2 ?_
  refine lv_topi (fun v1 ev1 => ?_)
  refine lv_if_ne (tgt := 10) hx hb dX12_common__3 (by decide) (fun c2 => ?_) (fun c2 => ?_)
  · have q3 := mm_neLl (lo := 1) (mm_cmp_ne ev1 c2) h1 mm_kl0 (by decide) (by decide)
    refine lv_lload_n hx hb dX12_common__10 rfl (lv_at hl 1 rfl) ?_
    refine lv_lload_n hx hb dX12_common__11 rfl (lv_at hl 0 rfl) ?_
    refine lv_lload_n hx hb dX12_common__12 rfl (lv_at hl 1 rfl) ?_
    refine lv_lrem hx hb dX12_common__13 (mm_nzl q3 (by decide)) ?_
    refine lv_topl (fun v4 ev4 => ?_)
    have rv4 : mm_rl v4 0 8190 := mm_reml ev4 h0 q3 (by decide) (by decide)
    have w5 := mm_remlLt ev4 h0 q3 (by decide)
    refine mm_finlr (va_runS (As := [.long j_1, .long v4]) (rest := []) ⟨hx, hb, hml, hown, hts⟩ (M271_X12_common_ l G cy H.size j_1 v4 q3 rv4 w5) (va_cwS 2 hts (mm_gS mm_w1043 mm_w1044 mm_w5 mm_w1045) rfl rfl rfl hs_X12_common_ ⟨by rw [hRf]; exact Nat.le_of_ble_eq_true rfl, by rw [hRl]; exact Nat.le_of_ble_eq_true rfl⟩) (mm_preS hK hZ hS hA hP hD [] rfl rfl) rfl rfl hl.1 rfl (lv_room (Nat.le_of_ble_eq_true rfl)) dX12_common__14 ⟨by rw [hRc]; exact Nat.le_of_ble_eq_true rfl, by rw [hRs]; exact Nat.le_of_ble_eq_true rfl⟩) hP hD hS hA [] rfl (fun _ => rfl) ?_
    clear hP hD hS
    clear H locs
    intro v6 _u H locs hw hP hD hS
    have w7 := hw
    subst hAe
    rw [hQ]
    exact W.lret (v := v6) hx hb hr (fun t ht hW => ⟨⟨v6, (), rfl, w7, by rw [ht]; exact hP, hK.warm hW, hD⟩, hS.F ht⟩) hS.2.2 dX12_common__17
  · have q8 := mm_eqIl (lo := 0) (hi := 0) (mm_cmp_eq ev1 c2) h1 mm_kl0 (by decide)
    refine lv_lload_n hx hb dX12_common__6 rfl (lv_at hl 0 rfl) ?_
    refine lv_goto (tgt := 17) hx hb dX12_common__7 (by decide) ?_
    subst hAe
    rw [hQ]
    exact W.lret (v := j_0) hx hb hr (fun t ht hW => ⟨⟨j_0, (), rfl, h0, by rw [ht]; exact hP, hK.warm hW, hD⟩, hS.F ht⟩) hS.2.2 dX12_common__17

set_option maxHeartbeats 4000000 in
set_option maxRecDepth 100000 in
theorem M273_X12_common_ (l : Launch) (G : va_G) (cy : Nat → ClassId) (sz : Nat) (j_0 : Int64) (j_1 : Int64) (h0 : mm_rl j_0 1 16383) (h1 : mm_rl j_1 0 16382) (h2 : (j_1 : Int64).toInt < (j_0 : Int64).toInt)  : mm_CL l yX12_common_ (mm_ws yX12_common_ cX12_common_ 4 (some .long)) ({ frames := 26, cells := 0, slots := 0, locals := 598 } : Room) G cy sz [] [.long j_0, .long j_1] (fun u : Unit => []) (fun (r : Int64) (u : Unit) => mm_rl r 1 4611686018427387904) 0 0 := by
  refine mm_begin (lv := [(0, .long j_0), (2, .long j_1)]) (by decide) (Nat.le_of_ble_eq_true rfl) rfl ?_
  intro p e s m below meth c A ls R args Q H locs hRe hQ hAe hx hb hr hlocks hml hown hnm hts hsz hA hS hP hK hD hZ hl
  have hRf : R.frames = 26 := by rw [hRe]
  have hRl : R.locals = 598 := by rw [hRe]
  have hRc : R.cells = 0 := by rw [hRe]
  have hRs : R.slots = 0 := by rw [hRe]
  refine lv_lload_n hx hb dX12_common__0 rfl (lv_at hl 1 rfl) ?_
  refine lv_lconst (v := 0) hx hb dX12_common__1 (by decide) ?_
  refine W.lcmp hx hb dX12_common__2 ?_
  refine lv_topi (fun v1 ev1 => ?_)
  refine lv_if_ne (tgt := 10) hx hb dX12_common__3 (by decide) (fun c2 => ?_) (fun c2 => ?_)
  · have q3 := mm_neLl (lo := 1) (mm_cmp_ne ev1 c2) h1 mm_kl0 (by decide) (by decide)
    refine lv_lload_n hx hb dX12_common__10 rfl (lv_at hl 1 rfl) ?_
    refine lv_lload_n hx hb dX12_common__11 rfl (lv_at hl 0 rfl) ?_
    refine lv_lload_n hx hb dX12_common__12 rfl (lv_at hl 1 rfl) ?_
    refine lv_lrem hx hb dX12_common__13 (mm_nzl q3 (by decide)) ?_
    refine lv_topl (fun v4 ev4 => ?_)
    have rv4 : mm_rl v4 0 16381 := mm_reml ev4 h0 q3 (by decide) (by decide)
    have w5 := mm_remlLt ev4 h0 q3 (by decide)
    have q6 : mm_rl v4 0 8191 := mm_remlHalf ev4 (Int.le_of_lt h2) h0 q3 (by decide)
    refine mm_finlr (va_runS (As := [.long j_1, .long v4]) (rest := []) ⟨hx, hb, hml, hown, hts⟩ (M272_X12_common_ l G cy H.size j_1 v4 (mm_wkl q3 (by decide)) q6) (va_cwS 2 hts (mm_gS mm_w1043 mm_w1044 mm_w5 mm_w1045) rfl rfl rfl hs_X12_common_ ⟨by rw [hRf]; exact Nat.le_of_ble_eq_true rfl, by rw [hRl]; exact Nat.le_of_ble_eq_true rfl⟩) (mm_preS hK hZ hS hA hP hD [] rfl rfl) rfl rfl hl.1 rfl (lv_room (Nat.le_of_ble_eq_true rfl)) dX12_common__14 ⟨by rw [hRc]; exact Nat.le_of_ble_eq_true rfl, by rw [hRs]; exact Nat.le_of_ble_eq_true rfl⟩) hP hD hS hA [] rfl (fun _ => rfl) ?_
    clear hP hD hS
    clear H locs
    intro v7 _u H locs hw hP hD hS
    have w8 := hw
    subst hAe
    rw [hQ]
    exact W.lret (v := v7) hx hb hr (fun t ht hW => ⟨⟨v7, (), rfl, w8, by rw [ht]; exact hP, hK.warm hW, hD⟩, hS.F ht⟩) hS.2.2 dX12_common__17
  · have q9 := mm_eqIl (lo := 0) (hi := 0) (mm_cmp_eq ev1 c2) h1 mm_kl0 (by decide)
    refine lv_lload_n hx hb dX12_common__6 rfl (lv_at hl 0 rfl) ?_
    refine lv_goto (tgt := 17) hx hb dX12_common__7 (by decide) ?_
    subst hAe
    rw [hQ]
    exact W.lret (v := j_0) hx hb hr (fun t ht hW => ⟨⟨j_0, (), rfl, (mm_wkl h0 (by decide)), by rw [ht]; exact hP, hK.warm hW, hD⟩, hS.F ht⟩) hS.2.2 dX12_common__17

set_option maxHeartbeats 4000000 in
set_option maxRecDepth 100000 in
theorem M274_X12_common_ (l : Launch) (G : va_G) (cy : Nat → ClassId) (sz : Nat) (j_0 : Int64) (j_1 : Int64) (h0 : mm_rl j_0 1 4611686018427387904) (h1 : mm_rl j_1 0 16383)  : mm_CL l yX12_common_ (mm_ws yX12_common_ cX12_common_ 4 (some .long)) ({ frames := 27, cells := 0, slots := 0, locals := 621 } : Room) G cy sz [] [.long j_0, .long j_1] (fun u : Unit => []) (fun (r : Int64) (u : Unit) => mm_rl r 1 4611686018427387904) 0 0 := by
  refine mm_begin (lv := [(0, .long j_0), (2, .long j_1)]) (by decide) (Nat.le_of_ble_eq_true rfl) rfl ?_
  intro p e s m below meth c A ls R args Q H locs hRe hQ hAe hx hb hr hlocks hml hown hnm hts hsz hA hS hP hK hD hZ hl
  have hRf : R.frames = 27 := by rw [hRe]
  have hRl : R.locals = 621 := by rw [hRe]
  have hRc : R.cells = 0 := by rw [hRe]
  have hRs : R.slots = 0 := by rw [hRe]
  refine lv_lload_n hx hb dX12_common__0 rfl (lv_at hl 1 rfl) ?_
  refine lv_lconst (v := 0) hx hb dX12_common__1 (by decide) ?_
  refine W.lcmp hx hb dX12_common__2 ?_
  refine lv_topi (fun v1 ev1 => ?_)
  refine lv_if_ne (tgt := 10) hx hb dX12_common__3 (by decide) (fun c2 => ?_) (fun c2 => ?_)
  · have q3 := mm_neLl (lo := 1) (mm_cmp_ne ev1 c2) h1 mm_kl0 (by decide) (by decide)
    refine lv_lload_n hx hb dX12_common__10 rfl (lv_at hl 1 rfl) ?_
    refine lv_lload_n hx hb dX12_common__11 rfl (lv_at hl 0 rfl) ?_
    refine lv_lload_n hx hb dX12_common__12 rfl (lv_at hl 1 rfl) ?_
    refine lv_lrem hx hb dX12_common__13 (mm_nzl q3 (by decide)) ?_
    refine lv_topl (fun v4 ev4 => ?_)
    have rv4 : mm_rl v4 0 16382 := mm_reml ev4 h0 q3 (by decide) (by decide)
    have w5 := mm_remlLt ev4 h0 q3 (by decide)
    refine mm_finlr (va_runS (As := [.long j_1, .long v4]) (rest := []) ⟨hx, hb, hml, hown, hts⟩ (M273_X12_common_ l G cy H.size j_1 v4 q3 rv4 w5) (va_cwS 2 hts (mm_gS mm_w1043 mm_w1044 mm_w5 mm_w1045) rfl rfl rfl hs_X12_common_ ⟨by rw [hRf]; exact Nat.le_of_ble_eq_true rfl, by rw [hRl]; exact Nat.le_of_ble_eq_true rfl⟩) (mm_preS hK hZ hS hA hP hD [] rfl rfl) rfl rfl hl.1 rfl (lv_room (Nat.le_of_ble_eq_true rfl)) dX12_common__14 ⟨by rw [hRc]; exact Nat.le_of_ble_eq_true rfl, by rw [hRs]; exact Nat.le_of_ble_eq_true rfl⟩) hP hD hS hA [] rfl (fun _ => rfl) ?_
    clear hP hD hS
    clear H locs
    intro v6 _u H locs hw hP hD hS
    have w7 := hw
    subst hAe
    rw [hQ]
    exact W.lret (v := v6) hx hb hr (fun t ht hW => ⟨⟨v6, (), rfl, w7, by rw [ht]; exact hP, hK.warm hW, hD⟩, hS.F ht⟩) hS.2.2 dX12_common__17
  · have q8 := mm_eqIl (lo := 0) (hi := 0) (mm_cmp_eq ev1 c2) h1 mm_kl0 (by decide)
    refine lv_lload_n hx hb dX12_common__6 rfl (lv_at hl 0 rfl) ?_
    refine lv_goto (tgt := 17) hx hb dX12_common__7 (by decide) ?_
    subst hAe
    rw [hQ]
    exact W.lret (v := j_0) hx hb hr (fun t ht hW => ⟨⟨j_0, (), rfl, h0, by rw [ht]; exact hP, hK.warm hW, hD⟩, hS.F ht⟩) hS.2.2 dX12_common__17

set_option maxHeartbeats 4000000 in
set_option maxRecDepth 100000 in
theorem M275_X12_common_ (l : Launch) (G : va_G) (cy : Nat → ClassId) (sz : Nat) (j_0 : Int64) (j_1 : Int64) (h0 : mm_rl j_0 1 32767) (h1 : mm_rl j_1 0 32766) (h2 : (j_1 : Int64).toInt < (j_0 : Int64).toInt)  : mm_CL l yX12_common_ (mm_ws yX12_common_ cX12_common_ 4 (some .long)) ({ frames := 28, cells := 0, slots := 0, locals := 644 } : Room) G cy sz [] [.long j_0, .long j_1] (fun u : Unit => []) (fun (r : Int64) (u : Unit) => mm_rl r 1 4611686018427387904) 0 0 := by
  refine mm_begin (lv := [(0, .long j_0), (2, .long j_1)]) (by decide) (Nat.le_of_ble_eq_true rfl) rfl ?_
  intro p e s m below meth c A ls R args Q H locs hRe hQ hAe hx hb hr hlocks hml hown hnm hts hsz hA hS hP hK hD hZ hl
  have hRf : R.frames = 28 := by rw [hRe]
  have hRl : R.locals = 644 := by rw [hRe]
  have hRc : R.cells = 0 := by rw [hRe]
  have hRs : R.slots = 0 := by rw [hRe]
  refine lv_lload_n hx hb dX12_common__0 rfl (lv_at hl 1 rfl) ?_
  refine lv_lconst (v := 0) hx hb dX12_common__1 (by decide) ?_
  refine W.lcmp hx hb dX12_common__2 ?_
  refine lv_topi (fun v1 ev1 => ?_)
  refine lv_if_ne (tgt := 10) hx hb dX12_common__3 (by decide) (fun c2 => ?_) (fun c2 => ?_)
  · have q3 := mm_neLl (lo := 1) (mm_cmp_ne ev1 c2) h1 mm_kl0 (by decide) (by decide)
    refine lv_lload_n hx hb dX12_common__10 rfl (lv_at hl 1 rfl) ?_
    refine lv_lload_n hx hb dX12_common__11 rfl (lv_at hl 0 rfl) ?_
    refine lv_lload_n hx hb dX12_common__12 rfl (lv_at hl 1 rfl) ?_
    refine lv_lrem hx hb dX12_common__13 (mm_nzl q3 (by decide)) ?_
    refine lv_topl (fun v4 ev4 => ?_)
    have rv4 : mm_rl v4 0 32765 := mm_reml ev4 h0 q3 (by decide) (by decide)
    have w5 := mm_remlLt ev4 h0 q3 (by decide)
    have q6 : mm_rl v4 0 16383 := mm_remlHalf ev4 (Int.le_of_lt h2) h0 q3 (by decide)
    refine mm_finlr (va_runS (As := [.long j_1, .long v4]) (rest := []) ⟨hx, hb, hml, hown, hts⟩ (M274_X12_common_ l G cy H.size j_1 v4 (mm_wkl q3 (by decide)) q6) (va_cwS 2 hts (mm_gS mm_w1043 mm_w1044 mm_w5 mm_w1045) rfl rfl rfl hs_X12_common_ ⟨by rw [hRf]; exact Nat.le_of_ble_eq_true rfl, by rw [hRl]; exact Nat.le_of_ble_eq_true rfl⟩) (mm_preS hK hZ hS hA hP hD [] rfl rfl) rfl rfl hl.1 rfl (lv_room (Nat.le_of_ble_eq_true rfl)) dX12_common__14 ⟨by rw [hRc]; exact Nat.le_of_ble_eq_true rfl, by rw [hRs]; exact Nat.le_of_ble_eq_true rfl⟩) hP hD hS hA [] rfl (fun _ => rfl) ?_
    clear hP hD hS
    clear H locs
    intro v7 _u H locs hw hP hD hS
    have w8 := hw
    subst hAe
    rw [hQ]
    exact W.lret (v := v7) hx hb hr (fun t ht hW => ⟨⟨v7, (), rfl, w8, by rw [ht]; exact hP, hK.warm hW, hD⟩, hS.F ht⟩) hS.2.2 dX12_common__17
  · have q9 := mm_eqIl (lo := 0) (hi := 0) (mm_cmp_eq ev1 c2) h1 mm_kl0 (by decide)
    refine lv_lload_n hx hb dX12_common__6 rfl (lv_at hl 0 rfl) ?_
    refine lv_goto (tgt := 17) hx hb dX12_common__7 (by decide) ?_
    subst hAe
    rw [hQ]
    exact W.lret (v := j_0) hx hb hr (fun t ht hW => ⟨⟨j_0, (), rfl, (mm_wkl h0 (by decide)), by rw [ht]; exact hP, hK.warm hW, hD⟩, hS.F ht⟩) hS.2.2 dX12_common__17

set_option maxHeartbeats 4000000 in
set_option maxRecDepth 100000 in
theorem M276_X12_common_ (l : Launch) (G : va_G) (cy : Nat → ClassId) (sz : Nat) (j_0 : Int64) (j_1 : Int64) (h0 : mm_rl j_0 1 4611686018427387904) (h1 : mm_rl j_1 0 32767)  : mm_CL l yX12_common_ (mm_ws yX12_common_ cX12_common_ 4 (some .long)) ({ frames := 29, cells := 0, slots := 0, locals := 667 } : Room) G cy sz [] [.long j_0, .long j_1] (fun u : Unit => []) (fun (r : Int64) (u : Unit) => mm_rl r 1 4611686018427387904) 0 0 := by
  refine mm_begin (lv := [(0, .long j_0), (2, .long j_1)]) (by decide) (Nat.le_of_ble_eq_true rfl) rfl ?_
  intro p e s m below meth c A ls R args Q H locs hRe hQ hAe hx hb hr hlocks hml hown hnm hts hsz hA hS hP hK hD hZ hl
  have hRf : R.frames = 29 := by rw [hRe]
  have hRl : R.locals = 667 := by rw [hRe]
  have hRc : R.cells = 0 := by rw [hRe]
  have hRs : R.slots = 0 := by rw [hRe]
  refine lv_lload_n hx hb dX12_common__0 rfl (lv_at hl 1 rfl) ?_
  refine lv_lconst (v := 0) hx hb dX12_common__1 (by decide) ?_
  refine W.lcmp hx hb dX12_common__2 ?_
  refine lv_topi (fun v1 ev1 => ?_)
  refine lv_if_ne (tgt := 10) hx hb dX12_common__3 (by decide) (fun c2 => ?_) (fun c2 => ?_)
  · have q3 := mm_neLl (lo := 1) (mm_cmp_ne ev1 c2) h1 mm_kl0 (by decide) (by decide)
    refine lv_lload_n hx hb dX12_common__10 rfl (lv_at hl 1 rfl) ?_
    refine lv_lload_n hx hb dX12_common__11 rfl (lv_at hl 0 rfl) ?_
    refine lv_lload_n hx hb dX12_common__12 rfl (lv_at hl 1 rfl) ?_
    refine lv_lrem hx hb dX12_common__13 (mm_nzl q3 (by decide)) ?_
    refine lv_topl (fun v4 ev4 => ?_)
    have rv4 : mm_rl v4 0 32766 := mm_reml ev4 h0 q3 (by decide) (by decide)
    have w5 := mm_remlLt ev4 h0 q3 (by decide)
    refine mm_finlr (va_runS (As := [.long j_1, .long v4]) (rest := []) ⟨hx, hb, hml, hown, hts⟩ (M275_X12_common_ l G cy H.size j_1 v4 q3 rv4 w5) (va_cwS 2 hts (mm_gS mm_w1043 mm_w1044 mm_w5 mm_w1045) rfl rfl rfl hs_X12_common_ ⟨by rw [hRf]; exact Nat.le_of_ble_eq_true rfl, by rw [hRl]; exact Nat.le_of_ble_eq_true rfl⟩) (mm_preS hK hZ hS hA hP hD [] rfl rfl) rfl rfl hl.1 rfl (lv_room (Nat.le_of_ble_eq_true rfl)) dX12_common__14 ⟨by rw [hRc]; exact Nat.le_of_ble_eq_true rfl, by rw [hRs]; exact Nat.le_of_ble_eq_true rfl⟩) hP hD hS hA [] rfl (fun _ => rfl) ?_
    clear hP hD hS
    clear H locs
    intro v6 _u H locs hw hP hD hS
    have w7 := hw
    subst hAe
    rw [hQ]
    exact W.lret (v := v6) hx hb hr (fun t ht hW => ⟨⟨v6, (), rfl, w7, by rw [ht]; exact hP, hK.warm hW, hD⟩, hS.F ht⟩) hS.2.2 dX12_common__17
  · have q8 := mm_eqIl (lo := 0) (hi := 0) (mm_cmp_eq ev1 c2) h1 mm_kl0 (by decide)
    refine lv_lload_n hx hb dX12_common__6 rfl (lv_at hl 0 rfl) ?_
    refine lv_goto (tgt := 17) hx hb dX12_common__7 (by decide) ?_
    subst hAe
    rw [hQ]
    exact W.lret (v := j_0) hx hb hr (fun t ht hW => ⟨⟨j_0, (), rfl, h0, by rw [ht]; exact hP, hK.warm hW, hD⟩, hS.F ht⟩) hS.2.2 dX12_common__17

set_option maxHeartbeats 4000000 in
set_option maxRecDepth 100000 in
theorem M277_X12_common_ (l : Launch) (G : va_G) (cy : Nat → ClassId) (sz : Nat) (j_0 : Int64) (j_1 : Int64) (h0 : mm_rl j_0 1 65535) (h1 : mm_rl j_1 0 65534) (h2 : (j_1 : Int64).toInt < (j_0 : Int64).toInt)  : mm_CL l yX12_common_ (mm_ws yX12_common_ cX12_common_ 4 (some .long)) ({ frames := 30, cells := 0, slots := 0, locals := 690 } : Room) G cy sz [] [.long j_0, .long j_1] (fun u : Unit => []) (fun (r : Int64) (u : Unit) => mm_rl r 1 4611686018427387904) 0 0 := by
  refine mm_begin (lv := [(0, .long j_0), (2, .long j_1)]) (by decide) (Nat.le_of_ble_eq_true rfl) rfl ?_
  intro p e s m below meth c A ls R args Q H locs hRe hQ hAe hx hb hr hlocks hml hown hnm hts hsz hA hS hP hK hD hZ hl
  have hRf : R.frames = 30 := by rw [hRe]
  have hRl : R.locals = 690 := by rw [hRe]
  have hRc : R.cells = 0 := by rw [hRe]
  have hRs : R.slots = 0 := by rw [hRe]
  refine lv_lload_n hx hb dX12_common__0 rfl (lv_at hl 1 rfl) ?_
  refine lv_lconst (v := 0) hx hb dX12_common__1 (by decide) ?_
  refine W.lcmp hx hb dX12_common__2 ?_
  refine lv_topi (fun v1 ev1 => ?_)
  refine lv_if_ne (tgt := 10) hx hb dX12_common__3 (by decide) (fun c2 => ?_) (fun c2 => ?_)
  · have q3 := mm_neLl (lo := 1) (mm_cmp_ne ev1 c2) h1 mm_kl0 (by decide) (by decide)
    refine lv_lload_n hx hb dX12_common__10 rfl (lv_at hl 1 rfl) ?_
    refine lv_lload_n hx hb dX12_common__11 rfl (lv_at hl 0 rfl) ?_
    refine lv_lload_n hx hb dX12_common__12 rfl (lv_at hl 1 rfl) ?_
    refine lv_lrem hx hb dX12_common__13 (mm_nzl q3 (by decide)) ?_
    refine lv_topl (fun v4 ev4 => ?_)
    have rv4 : mm_rl v4 0 65533 := mm_reml ev4 h0 q3 (by decide) (by decide)
    have w5 := mm_remlLt ev4 h0 q3 (by decide)
    have q6 : mm_rl v4 0 32767 := mm_remlHalf ev4 (Int.le_of_lt h2) h0 q3 (by decide)
    refine mm_finlr (va_runS (As := [.long j_1, .long v4]) (rest := []) ⟨hx, hb, hml, hown, hts⟩ (M276_X12_common_ l G cy H.size j_1 v4 (mm_wkl q3 (by decide)) q6) (va_cwS 2 hts (mm_gS mm_w1043 mm_w1044 mm_w5 mm_w1045) rfl rfl rfl hs_X12_common_ ⟨by rw [hRf]; exact Nat.le_of_ble_eq_true rfl, by rw [hRl]; exact Nat.le_of_ble_eq_true rfl⟩) (mm_preS hK hZ hS hA hP hD [] rfl rfl) rfl rfl hl.1 rfl (lv_room (Nat.le_of_ble_eq_true rfl)) dX12_common__14 ⟨by rw [hRc]; exact Nat.le_of_ble_eq_true rfl, by rw [hRs]; exact Nat.le_of_ble_eq_true rfl⟩) hP hD hS hA [] rfl (fun _ => rfl) ?_
    clear hP hD hS
    clear H locs
    intro v7 _u H locs hw hP hD hS
    have w8 := hw
    subst hAe
    rw [hQ]
    exact W.lret (v := v7) hx hb hr (fun t ht hW => ⟨⟨v7, (), rfl, w8, by rw [ht]; exact hP, hK.warm hW, hD⟩, hS.F ht⟩) hS.2.2 dX12_common__17
  · have q9 := mm_eqIl (lo := 0) (hi := 0) (mm_cmp_eq ev1 c2) h1 mm_kl0 (by decide)
    refine lv_lload_n hx hb dX12_common__6 rfl (lv_at hl 0 rfl) ?_
    refine lv_goto (tgt := 17) hx hb dX12_common__7 (by decide) ?_
    subst hAe
    rw [hQ]
    exact W.lret (v := j_0) hx hb hr (fun t ht hW => ⟨⟨j_0, (), rfl, (mm_wkl h0 (by decide)), by rw [ht]; exact hP, hK.warm hW, hD⟩, hS.F ht⟩) hS.2.2 dX12_common__17

set_option maxHeartbeats 4000000 in
set_option maxRecDepth 100000 in
theorem M278_X12_common_ (l : Launch) (G : va_G) (cy : Nat → ClassId) (sz : Nat) (j_0 : Int64) (j_1 : Int64) (h0 : mm_rl j_0 1 4611686018427387904) (h1 : mm_rl j_1 0 65535)  : mm_CL l yX12_common_ (mm_ws yX12_common_ cX12_common_ 4 (some .long)) ({ frames := 31, cells := 0, slots := 0, locals := 713 } : Room) G cy sz [] [.long j_0, .long j_1] (fun u : Unit => []) (fun (r : Int64) (u : Unit) => mm_rl r 1 4611686018427387904) 0 0 := by
  refine mm_begin (lv := [(0, .long j_0), (2, .long j_1)]) (by decide) (Nat.le_of_ble_eq_true rfl) rfl ?_
  intro p e s m below meth c A ls R args Q H locs hRe hQ hAe hx hb hr hlocks hml hown hnm hts hsz hA hS hP hK hD hZ hl
  have hRf : R.frames = 31 := by rw [hRe]
  have hRl : R.locals = 713 := by rw [hRe]
  have hRc : R.cells = 0 := by rw [hRe]
  have hRs : R.slots = 0 := by rw [hRe]
  refine lv_lload_n hx hb dX12_common__0 rfl (lv_at hl 1 rfl) ?_
  refine lv_lconst (v := 0) hx hb dX12_common__1 (by decide) ?_
  refine W.lcmp hx hb dX12_common__2 ?_
  refine lv_topi (fun v1 ev1 => ?_)
  refine lv_if_ne (tgt := 10) hx hb dX12_common__3 (by decide) (fun c2 => ?_) (fun c2 => ?_)
  · have q3 := mm_neLl (lo := 1) (mm_cmp_ne ev1 c2) h1 mm_kl0 (by decide) (by decide)
    refine lv_lload_n hx hb dX12_common__10 rfl (lv_at hl 1 rfl) ?_
    refine lv_lload_n hx hb dX12_common__11 rfl (lv_at hl 0 rfl) ?_
    refine lv_lload_n hx hb dX12_common__12 rfl (lv_at hl 1 rfl) ?_
    refine lv_lrem hx hb dX12_common__13 (mm_nzl q3 (by decide)) ?_
    refine lv_topl (fun v4 ev4 => ?_)
    have rv4 : mm_rl v4 0 65534 := mm_reml ev4 h0 q3 (by decide) (by decide)
    have w5 := mm_remlLt ev4 h0 q3 (by decide)
    refine mm_finlr (va_runS (As := [.long j_1, .long v4]) (rest := []) ⟨hx, hb, hml, hown, hts⟩ (M277_X12_common_ l G cy H.size j_1 v4 q3 rv4 w5) (va_cwS 2 hts (mm_gS mm_w1043 mm_w1044 mm_w5 mm_w1045) rfl rfl rfl hs_X12_common_ ⟨by rw [hRf]; exact Nat.le_of_ble_eq_true rfl, by rw [hRl]; exact Nat.le_of_ble_eq_true rfl⟩) (mm_preS hK hZ hS hA hP hD [] rfl rfl) rfl rfl hl.1 rfl (lv_room (Nat.le_of_ble_eq_true rfl)) dX12_common__14 ⟨by rw [hRc]; exact Nat.le_of_ble_eq_true rfl, by rw [hRs]; exact Nat.le_of_ble_eq_true rfl⟩) hP hD hS hA [] rfl (fun _ => rfl) ?_
    clear hP hD hS
    clear H locs
    intro v6 _u H locs hw hP hD hS
    have w7 := hw
    subst hAe
    rw [hQ]
    exact W.lret (v := v6) hx hb hr (fun t ht hW => ⟨⟨v6, (), rfl, w7, by rw [ht]; exact hP, hK.warm hW, hD⟩, hS.F ht⟩) hS.2.2 dX12_common__17
  · have q8 := mm_eqIl (lo := 0) (hi := 0) (mm_cmp_eq ev1 c2) h1 mm_kl0 (by decide)
    refine lv_lload_n hx hb dX12_common__6 rfl (lv_at hl 0 rfl) ?_
    refine lv_goto (tgt := 17) hx hb dX12_common__7 (by decide) ?_
    subst hAe
    rw [hQ]
    exact W.lret (v := j_0) hx hb hr (fun t ht hW => ⟨⟨j_0, (), rfl, h0, by rw [ht]; exact hP, hK.warm hW, hD⟩, hS.F ht⟩) hS.2.2 dX12_common__17

set_option maxHeartbeats 4000000 in
set_option maxRecDepth 100000 in
theorem M279_X12_common_ (l : Launch) (G : va_G) (cy : Nat → ClassId) (sz : Nat) (j_0 : Int64) (j_1 : Int64) (h0 : mm_rl j_0 1 131071) (h1 : mm_rl j_1 0 131070) (h2 : (j_1 : Int64).toInt < (j_0 : Int64).toInt)  : mm_CL l yX12_common_ (mm_ws yX12_common_ cX12_common_ 4 (some .long)) ({ frames := 32, cells := 0, slots := 0, locals := 736 } : Room) G cy sz [] [.long j_0, .long j_1] (fun u : Unit => []) (fun (r : Int64) (u : Unit) => mm_rl r 1 4611686018427387904) 0 0 := by
  refine mm_begin (lv := [(0, .long j_0), (2, .long j_1)]) (by decide) (Nat.le_of_ble_eq_true rfl) rfl ?_
  intro p e s m below meth c A ls R args Q H locs hRe hQ hAe hx hb hr hlocks hml hown hnm hts hsz hA hS hP hK hD hZ hl
  have hRf : R.frames = 32 := by rw [hRe]
  have hRl : R.locals = 736 := by rw [hRe]
  have hRc : R.cells = 0 := by rw [hRe]
  have hRs : R.slots = 0 := by rw [hRe]
  refine lv_lload_n hx hb dX12_common__0 rfl (lv_at hl 1 rfl) ?_
  refine lv_lconst (v := 0) hx hb dX12_common__1 (by decide) ?_
  refine W.lcmp hx hb dX12_common__2 ?_
  refine lv_topi (fun v1 ev1 => ?_)
  refine lv_if_ne (tgt := 10) hx hb dX12_common__3 (by decide) (fun c2 => ?_) (fun c2 => ?_)
  · have q3 := mm_neLl (lo := 1) (mm_cmp_ne ev1 c2) h1 mm_kl0 (by decide) (by decide)
    refine lv_lload_n hx hb dX12_common__10 rfl (lv_at hl 1 rfl) ?_
    refine lv_lload_n hx hb dX12_common__11 rfl (lv_at hl 0 rfl) ?_
    refine lv_lload_n hx hb dX12_common__12 rfl (lv_at hl 1 rfl) ?_
    refine lv_lrem hx hb dX12_common__13 (mm_nzl q3 (by decide)) ?_
    refine lv_topl (fun v4 ev4 => ?_)
    have rv4 : mm_rl v4 0 131069 := mm_reml ev4 h0 q3 (by decide) (by decide)
    have w5 := mm_remlLt ev4 h0 q3 (by decide)
    have q6 : mm_rl v4 0 65535 := mm_remlHalf ev4 (Int.le_of_lt h2) h0 q3 (by decide)
    refine mm_finlr (va_runS (As := [.long j_1, .long v4]) (rest := []) ⟨hx, hb, hml, hown, hts⟩ (M278_X12_common_ l G cy H.size j_1 v4 (mm_wkl q3 (by decide)) q6) (va_cwS 2 hts (mm_gS mm_w1043 mm_w1044 mm_w5 mm_w1045) rfl rfl rfl hs_X12_common_ ⟨by rw [hRf]; exact Nat.le_of_ble_eq_true rfl, by rw [hRl]; exact Nat.le_of_ble_eq_true rfl⟩) (mm_preS hK hZ hS hA hP hD [] rfl rfl) rfl rfl hl.1 rfl (lv_room (Nat.le_of_ble_eq_true rfl)) dX12_common__14 ⟨by rw [hRc]; exact Nat.le_of_ble_eq_true rfl, by rw [hRs]; exact Nat.le_of_ble_eq_true rfl⟩) hP hD hS hA [] rfl (fun _ => rfl) ?_
    clear hP hD hS
    clear H locs
    intro v7 _u H locs hw hP hD hS
    have w8 := hw
    subst hAe
    rw [hQ]
    exact W.lret (v := v7) hx hb hr (fun t ht hW => ⟨⟨v7, (), rfl, w8, by rw [ht]; exact hP, hK.warm hW, hD⟩, hS.F ht⟩) hS.2.2 dX12_common__17
  · have q9 := mm_eqIl (lo := 0) (hi := 0) (mm_cmp_eq ev1 c2) h1 mm_kl0 (by decide)
    refine lv_lload_n hx hb dX12_common__6 rfl (lv_at hl 0 rfl) ?_
    refine lv_goto (tgt := 17) hx hb dX12_common__7 (by decide) ?_
    subst hAe
    rw [hQ]
    exact W.lret (v := j_0) hx hb hr (fun t ht hW => ⟨⟨j_0, (), rfl, (mm_wkl h0 (by decide)), by rw [ht]; exact hP, hK.warm hW, hD⟩, hS.F ht⟩) hS.2.2 dX12_common__17

set_option maxHeartbeats 4000000 in
set_option maxRecDepth 100000 in
theorem M280_X12_common_ (l : Launch) (G : va_G) (cy : Nat → ClassId) (sz : Nat) (j_0 : Int64) (j_1 : Int64) (h0 : mm_rl j_0 1 4611686018427387904) (h1 : mm_rl j_1 0 131071)  : mm_CL l yX12_common_ (mm_ws yX12_common_ cX12_common_ 4 (some .long)) ({ frames := 33, cells := 0, slots := 0, locals := 759 } : Room) G cy sz [] [.long j_0, .long j_1] (fun u : Unit => []) (fun (r : Int64) (u : Unit) => mm_rl r 1 4611686018427387904) 0 0 := by
  refine mm_begin (lv := [(0, .long j_0), (2, .long j_1)]) (by decide) (Nat.le_of_ble_eq_true rfl) rfl ?_
  intro p e s m below meth c A ls R args Q H locs hRe hQ hAe hx hb hr hlocks hml hown hnm hts hsz hA hS hP hK hD hZ hl
  have hRf : R.frames = 33 := by rw [hRe]
  have hRl : R.locals = 759 := by rw [hRe]
  have hRc : R.cells = 0 := by rw [hRe]
  have hRs : R.slots = 0 := by rw [hRe]
  refine lv_lload_n hx hb dX12_common__0 rfl (lv_at hl 1 rfl) ?_
  refine lv_lconst (v := 0) hx hb dX12_common__1 (by decide) ?_
  refine W.lcmp hx hb dX12_common__2 ?_
  refine lv_topi (fun v1 ev1 => ?_)
  refine lv_if_ne (tgt := 10) hx hb dX12_common__3 (by decide) (fun c2 => ?_) (fun c2 => ?_)
  · have q3 := mm_neLl (lo := 1) (mm_cmp_ne ev1 c2) h1 mm_kl0 (by decide) (by decide)
    refine lv_lload_n hx hb dX12_common__10 rfl (lv_at hl 1 rfl) ?_
    refine lv_lload_n hx hb dX12_common__11 rfl (lv_at hl 0 rfl) ?_
    refine lv_lload_n hx hb dX12_common__12 rfl (lv_at hl 1 rfl) ?_
    refine lv_lrem hx hb dX12_common__13 (mm_nzl q3 (by decide)) ?_
    refine lv_topl (fun v4 ev4 => ?_)
    have rv4 : mm_rl v4 0 131070 := mm_reml ev4 h0 q3 (by decide) (by decide)
    have w5 := mm_remlLt ev4 h0 q3 (by decide)
    refine mm_finlr (va_runS (As := [.long j_1, .long v4]) (rest := []) ⟨hx, hb, hml, hown, hts⟩ (M279_X12_common_ l G cy H.size j_1 v4 q3 rv4 w5) (va_cwS 2 hts (mm_gS mm_w1043 mm_w1044 mm_w5 mm_w1045) rfl rfl rfl hs_X12_common_ ⟨by rw [hRf]; exact Nat.le_of_ble_eq_true rfl, by rw [hRl]; exact Nat.le_of_ble_eq_true rfl⟩) (mm_preS hK hZ hS hA hP hD [] rfl rfl) rfl rfl hl.1 rfl (lv_room (Nat.le_of_ble_eq_true rfl)) dX12_common__14 ⟨by rw [hRc]; exact Nat.le_of_ble_eq_true rfl, by rw [hRs]; exact Nat.le_of_ble_eq_true rfl⟩) hP hD hS hA [] rfl (fun _ => rfl) ?_
    clear hP hD hS
    clear H locs
    intro v6 _u H locs hw hP hD hS
    have w7 := hw
    subst hAe
    rw [hQ]
    exact W.lret (v := v6) hx hb hr (fun t ht hW => ⟨⟨v6, (), rfl, w7, by rw [ht]; exact hP, hK.warm hW, hD⟩, hS.F ht⟩) hS.2.2 dX12_common__17
  · have q8 := mm_eqIl (lo := 0) (hi := 0) (mm_cmp_eq ev1 c2) h1 mm_kl0 (by decide)
    refine lv_lload_n hx hb dX12_common__6 rfl (lv_at hl 0 rfl) ?_
    refine lv_goto (tgt := 17) hx hb dX12_common__7 (by decide) ?_
    subst hAe
    rw [hQ]
    exact W.lret (v := j_0) hx hb hr (fun t ht hW => ⟨⟨j_0, (), rfl, h0, by rw [ht]; exact hP, hK.warm hW, hD⟩, hS.F ht⟩) hS.2.2 dX12_common__17

set_option maxHeartbeats 4000000 in
set_option maxRecDepth 100000 in
theorem M281_X12_common_ (l : Launch) (G : va_G) (cy : Nat → ClassId) (sz : Nat) (j_0 : Int64) (j_1 : Int64) (h0 : mm_rl j_0 1 262143) (h1 : mm_rl j_1 0 262142) (h2 : (j_1 : Int64).toInt < (j_0 : Int64).toInt)  : mm_CL l yX12_common_ (mm_ws yX12_common_ cX12_common_ 4 (some .long)) ({ frames := 34, cells := 0, slots := 0, locals := 782 } : Room) G cy sz [] [.long j_0, .long j_1] (fun u : Unit => []) (fun (r : Int64) (u : Unit) => mm_rl r 1 4611686018427387904) 0 0 := by
  refine mm_begin (lv := [(0, .long j_0), (2, .long j_1)]) (by decide) (Nat.le_of_ble_eq_true rfl) rfl ?_
  intro p e s m below meth c A ls R args Q H locs hRe hQ hAe hx hb hr hlocks hml hown hnm hts hsz hA hS hP hK hD hZ hl
  have hRf : R.frames = 34 := by rw [hRe]
  have hRl : R.locals = 782 := by rw [hRe]
  have hRc : R.cells = 0 := by rw [hRe]
  have hRs : R.slots = 0 := by rw [hRe]
  refine lv_lload_n hx hb dX12_common__0 rfl (lv_at hl 1 rfl) ?_
  refine lv_lconst (v := 0) hx hb dX12_common__1 (by decide) ?_
  refine W.lcmp hx hb dX12_common__2 ?_
  refine lv_topi (fun v1 ev1 => ?_)
  refine lv_if_ne (tgt := 10) hx hb dX12_common__3 (by decide) (fun c2 => ?_) (fun c2 => ?_)
  · have q3 := mm_neLl (lo := 1) (mm_cmp_ne ev1 c2) h1 mm_kl0 (by decide) (by decide)
    refine lv_lload_n hx hb dX12_common__10 rfl (lv_at hl 1 rfl) ?_
    refine lv_lload_n hx hb dX12_common__11 rfl (lv_at hl 0 rfl) ?_
    refine lv_lload_n hx hb dX12_common__12 rfl (lv_at hl 1 rfl) ?_
    refine lv_lrem hx hb dX12_common__13 (mm_nzl q3 (by decide)) ?_
    refine lv_topl (fun v4 ev4 => ?_)
    have rv4 : mm_rl v4 0 262141 := mm_reml ev4 h0 q3 (by decide) (by decide)
    have w5 := mm_remlLt ev4 h0 q3 (by decide)
    have q6 : mm_rl v4 0 131071 := mm_remlHalf ev4 (Int.le_of_lt h2) h0 q3 (by decide)
    refine mm_finlr (va_runS (As := [.long j_1, .long v4]) (rest := []) ⟨hx, hb, hml, hown, hts⟩ (M280_X12_common_ l G cy H.size j_1 v4 (mm_wkl q3 (by decide)) q6) (va_cwS 2 hts (mm_gS mm_w1043 mm_w1044 mm_w5 mm_w1045) rfl rfl rfl hs_X12_common_ ⟨by rw [hRf]; exact Nat.le_of_ble_eq_true rfl, by rw [hRl]; exact Nat.le_of_ble_eq_true rfl⟩) (mm_preS hK hZ hS hA hP hD [] rfl rfl) rfl rfl hl.1 rfl (lv_room (Nat.le_of_ble_eq_true rfl)) dX12_common__14 ⟨by rw [hRc]; exact Nat.le_of_ble_eq_true rfl, by rw [hRs]; exact Nat.le_of_ble_eq_true rfl⟩) hP hD hS hA [] rfl (fun _ => rfl) ?_
    clear hP hD hS
    clear H locs
    intro v7 _u H locs hw hP hD hS
    have w8 := hw
    subst hAe
    rw [hQ]
    exact W.lret (v := v7) hx hb hr (fun t ht hW => ⟨⟨v7, (), rfl, w8, by rw [ht]; exact hP, hK.warm hW, hD⟩, hS.F ht⟩) hS.2.2 dX12_common__17
  · have q9 := mm_eqIl (lo := 0) (hi := 0) (mm_cmp_eq ev1 c2) h1 mm_kl0 (by decide)
    refine lv_lload_n hx hb dX12_common__6 rfl (lv_at hl 0 rfl) ?_
    refine lv_goto (tgt := 17) hx hb dX12_common__7 (by decide) ?_
    subst hAe
    rw [hQ]
    exact W.lret (v := j_0) hx hb hr (fun t ht hW => ⟨⟨j_0, (), rfl, (mm_wkl h0 (by decide)), by rw [ht]; exact hP, hK.warm hW, hD⟩, hS.F ht⟩) hS.2.2 dX12_common__17

set_option maxHeartbeats 4000000 in
set_option maxRecDepth 100000 in
theorem M282_X12_common_ (l : Launch) (G : va_G) (cy : Nat → ClassId) (sz : Nat) (j_0 : Int64) (j_1 : Int64) (h0 : mm_rl j_0 1 4611686018427387904) (h1 : mm_rl j_1 0 262143)  : mm_CL l yX12_common_ (mm_ws yX12_common_ cX12_common_ 4 (some .long)) ({ frames := 35, cells := 0, slots := 0, locals := 805 } : Room) G cy sz [] [.long j_0, .long j_1] (fun u : Unit => []) (fun (r : Int64) (u : Unit) => mm_rl r 1 4611686018427387904) 0 0 := by
  refine mm_begin (lv := [(0, .long j_0), (2, .long j_1)]) (by decide) (Nat.le_of_ble_eq_true rfl) rfl ?_
  intro p e s m below meth c A ls R args Q H locs hRe hQ hAe hx hb hr hlocks hml hown hnm hts hsz hA hS hP hK hD hZ hl
  have hRf : R.frames = 35 := by rw [hRe]
  have hRl : R.locals = 805 := by rw [hRe]
  have hRc : R.cells = 0 := by rw [hRe]
  have hRs : R.slots = 0 := by rw [hRe]
  refine lv_lload_n hx hb dX12_common__0 rfl (lv_at hl 1 rfl) ?_
  refine lv_lconst (v := 0) hx hb dX12_common__1 (by decide) ?_
  refine W.lcmp hx hb dX12_common__2 ?_
  refine lv_topi (fun v1 ev1 => ?_)
  refine lv_if_ne (tgt := 10) hx hb dX12_common__3 (by decide) (fun c2 => ?_) (fun c2 => ?_)
  · have q3 := mm_neLl (lo := 1) (mm_cmp_ne ev1 c2) h1 mm_kl0 (by decide) (by decide)
    refine lv_lload_n hx hb dX12_common__10 rfl (lv_at hl 1 rfl) ?_
    refine lv_lload_n hx hb dX12_common__11 rfl (lv_at hl 0 rfl) ?_
    refine lv_lload_n hx hb dX12_common__12 rfl (lv_at hl 1 rfl) ?_
    refine lv_lrem hx hb dX12_common__13 (mm_nzl q3 (by decide)) ?_
    refine lv_topl (fun v4 ev4 => ?_)
    have rv4 : mm_rl v4 0 262142 := mm_reml ev4 h0 q3 (by decide) (by decide)
    have w5 := mm_remlLt ev4 h0 q3 (by decide)
    refine mm_finlr (va_runS (As := [.long j_1, .long v4]) (rest := []) ⟨hx, hb, hml, hown, hts⟩ (M281_X12_common_ l G cy H.size j_1 v4 q3 rv4 w5) (va_cwS 2 hts (mm_gS mm_w1043 mm_w1044 mm_w5 mm_w1045) rfl rfl rfl hs_X12_common_ ⟨by rw [hRf]; exact Nat.le_of_ble_eq_true rfl, by rw [hRl]; exact Nat.le_of_ble_eq_true rfl⟩) (mm_preS hK hZ hS hA hP hD [] rfl rfl) rfl rfl hl.1 rfl (lv_room (Nat.le_of_ble_eq_true rfl)) dX12_common__14 ⟨by rw [hRc]; exact Nat.le_of_ble_eq_true rfl, by rw [hRs]; exact Nat.le_of_ble_eq_true rfl⟩) hP hD hS hA [] rfl (fun _ => rfl) ?_
    clear hP hD hS
    clear H locs
    intro v6 _u H locs hw hP hD hS
    have w7 := hw
    subst hAe
    rw [hQ]
    exact W.lret (v := v6) hx hb hr (fun t ht hW => ⟨⟨v6, (), rfl, w7, by rw [ht]; exact hP, hK.warm hW, hD⟩, hS.F ht⟩) hS.2.2 dX12_common__17
  · have q8 := mm_eqIl (lo := 0) (hi := 0) (mm_cmp_eq ev1 c2) h1 mm_kl0 (by decide)
    refine lv_lload_n hx hb dX12_common__6 rfl (lv_at hl 0 rfl) ?_
    refine lv_goto (tgt := 17) hx hb dX12_common__7 (by decide) ?_
    subst hAe
    rw [hQ]
    exact W.lret (v := j_0) hx hb hr (fun t ht hW => ⟨⟨j_0, (), rfl, h0, by rw [ht]; exact hP, hK.warm hW, hD⟩, hS.F ht⟩) hS.2.2 dX12_common__17

set_option maxHeartbeats 4000000 in
set_option maxRecDepth 100000 in
theorem M283_X12_common_ (l : Launch) (G : va_G) (cy : Nat → ClassId) (sz : Nat) (j_0 : Int64) (j_1 : Int64) (h0 : mm_rl j_0 1 524287) (h1 : mm_rl j_1 0 524286) (h2 : (j_1 : Int64).toInt < (j_0 : Int64).toInt)  : mm_CL l yX12_common_ (mm_ws yX12_common_ cX12_common_ 4 (some .long)) ({ frames := 36, cells := 0, slots := 0, locals := 828 } : Room) G cy sz [] [.long j_0, .long j_1] (fun u : Unit => []) (fun (r : Int64) (u : Unit) => mm_rl r 1 4611686018427387904) 0 0 := by
  refine mm_begin (lv := [(0, .long j_0), (2, .long j_1)]) (by decide) (Nat.le_of_ble_eq_true rfl) rfl ?_
  intro p e s m below meth c A ls R args Q H locs hRe hQ hAe hx hb hr hlocks hml hown hnm hts hsz hA hS hP hK hD hZ hl
  have hRf : R.frames = 36 := by rw [hRe]
  have hRl : R.locals = 828 := by rw [hRe]
  have hRc : R.cells = 0 := by rw [hRe]
  have hRs : R.slots = 0 := by rw [hRe]
  refine lv_lload_n hx hb dX12_common__0 rfl (lv_at hl 1 rfl) ?_
  refine lv_lconst (v := 0) hx hb dX12_common__1 (by decide) ?_
  refine W.lcmp hx hb dX12_common__2 ?_
  refine lv_topi (fun v1 ev1 => ?_)
  refine lv_if_ne (tgt := 10) hx hb dX12_common__3 (by decide) (fun c2 => ?_) (fun c2 => ?_)
  · have q3 := mm_neLl (lo := 1) (mm_cmp_ne ev1 c2) h1 mm_kl0 (by decide) (by decide)
    refine lv_lload_n hx hb dX12_common__10 rfl (lv_at hl 1 rfl) ?_
    refine lv_lload_n hx hb dX12_common__11 rfl (lv_at hl 0 rfl) ?_
    refine lv_lload_n hx hb dX12_common__12 rfl (lv_at hl 1 rfl) ?_
    refine lv_lrem hx hb dX12_common__13 (mm_nzl q3 (by decide)) ?_
    refine lv_topl (fun v4 ev4 => ?_)
    have rv4 : mm_rl v4 0 524285 := mm_reml ev4 h0 q3 (by decide) (by decide)
    have w5 := mm_remlLt ev4 h0 q3 (by decide)
    have q6 : mm_rl v4 0 262143 := mm_remlHalf ev4 (Int.le_of_lt h2) h0 q3 (by decide)
    refine mm_finlr (va_runS (As := [.long j_1, .long v4]) (rest := []) ⟨hx, hb, hml, hown, hts⟩ (M282_X12_common_ l G cy H.size j_1 v4 (mm_wkl q3 (by decide)) q6) (va_cwS 2 hts (mm_gS mm_w1043 mm_w1044 mm_w5 mm_w1045) rfl rfl rfl hs_X12_common_ ⟨by rw [hRf]; exact Nat.le_of_ble_eq_true rfl, by rw [hRl]; exact Nat.le_of_ble_eq_true rfl⟩) (mm_preS hK hZ hS hA hP hD [] rfl rfl) rfl rfl hl.1 rfl (lv_room (Nat.le_of_ble_eq_true rfl)) dX12_common__14 ⟨by rw [hRc]; exact Nat.le_of_ble_eq_true rfl, by rw [hRs]; exact Nat.le_of_ble_eq_true rfl⟩) hP hD hS hA [] rfl (fun _ => rfl) ?_
    clear hP hD hS
    clear H locs
    intro v7 _u H locs hw hP hD hS
    have w8 := hw
    subst hAe
    rw [hQ]
    exact W.lret (v := v7) hx hb hr (fun t ht hW => ⟨⟨v7, (), rfl, w8, by rw [ht]; exact hP, hK.warm hW, hD⟩, hS.F ht⟩) hS.2.2 dX12_common__17
  · have q9 := mm_eqIl (lo := 0) (hi := 0) (mm_cmp_eq ev1 c2) h1 mm_kl0 (by decide)
    refine lv_lload_n hx hb dX12_common__6 rfl (lv_at hl 0 rfl) ?_
    refine lv_goto (tgt := 17) hx hb dX12_common__7 (by decide) ?_
    subst hAe
    rw [hQ]
    exact W.lret (v := j_0) hx hb hr (fun t ht hW => ⟨⟨j_0, (), rfl, (mm_wkl h0 (by decide)), by rw [ht]; exact hP, hK.warm hW, hD⟩, hS.F ht⟩) hS.2.2 dX12_common__17

set_option maxHeartbeats 4000000 in
set_option maxRecDepth 100000 in
theorem M284_X12_common_ (l : Launch) (G : va_G) (cy : Nat → ClassId) (sz : Nat) (j_0 : Int64) (j_1 : Int64) (h0 : mm_rl j_0 1 4611686018427387904) (h1 : mm_rl j_1 0 524287)  : mm_CL l yX12_common_ (mm_ws yX12_common_ cX12_common_ 4 (some .long)) ({ frames := 37, cells := 0, slots := 0, locals := 851 } : Room) G cy sz [] [.long j_0, .long j_1] (fun u : Unit => []) (fun (r : Int64) (u : Unit) => mm_rl r 1 4611686018427387904) 0 0 := by
  refine mm_begin (lv := [(0, .long j_0), (2, .long j_1)]) (by decide) (Nat.le_of_ble_eq_true rfl) rfl ?_
  intro p e s m below meth c A ls R args Q H locs hRe hQ hAe hx hb hr hlocks hml hown hnm hts hsz hA hS hP hK hD hZ hl
  have hRf : R.frames = 37 := by rw [hRe]
  have hRl : R.locals = 851 := by rw [hRe]
  have hRc : R.cells = 0 := by rw [hRe]
  have hRs : R.slots = 0 := by rw [hRe]
  refine lv_lload_n hx hb dX12_common__0 rfl (lv_at hl 1 rfl) ?_
  refine lv_lconst (v := 0) hx hb dX12_common__1 (by decide) ?_
  refine W.lcmp hx hb dX12_common__2 ?_
  refine lv_topi (fun v1 ev1 => ?_)
  refine lv_if_ne (tgt := 10) hx hb dX12_common__3 (by decide) (fun c2 => ?_) (fun c2 => ?_)
  · have q3 := mm_neLl (lo := 1) (mm_cmp_ne ev1 c2) h1 mm_kl0 (by decide) (by decide)
    refine lv_lload_n hx hb dX12_common__10 rfl (lv_at hl 1 rfl) ?_
    refine lv_lload_n hx hb dX12_common__11 rfl (lv_at hl 0 rfl) ?_
    refine lv_lload_n hx hb dX12_common__12 rfl (lv_at hl 1 rfl) ?_
    refine lv_lrem hx hb dX12_common__13 (mm_nzl q3 (by decide)) ?_
    refine lv_topl (fun v4 ev4 => ?_)
    have rv4 : mm_rl v4 0 524286 := mm_reml ev4 h0 q3 (by decide) (by decide)
    have w5 := mm_remlLt ev4 h0 q3 (by decide)
    refine mm_finlr (va_runS (As := [.long j_1, .long v4]) (rest := []) ⟨hx, hb, hml, hown, hts⟩ (M283_X12_common_ l G cy H.size j_1 v4 q3 rv4 w5) (va_cwS 2 hts (mm_gS mm_w1043 mm_w1044 mm_w5 mm_w1045) rfl rfl rfl hs_X12_common_ ⟨by rw [hRf]; exact Nat.le_of_ble_eq_true rfl, by rw [hRl]; exact Nat.le_of_ble_eq_true rfl⟩) (mm_preS hK hZ hS hA hP hD [] rfl rfl) rfl rfl hl.1 rfl (lv_room (Nat.le_of_ble_eq_true rfl)) dX12_common__14 ⟨by rw [hRc]; exact Nat.le_of_ble_eq_true rfl, by rw [hRs]; exact Nat.le_of_ble_eq_true rfl⟩) hP hD hS hA [] rfl (fun _ => rfl) ?_
    clear hP hD hS
    clear H locs
    intro v6 _u H locs hw hP hD hS
    have w7 := hw
    subst hAe
    rw [hQ]
    exact W.lret (v := v6) hx hb hr (fun t ht hW => ⟨⟨v6, (), rfl, w7, by rw [ht]; exact hP, hK.warm hW, hD⟩, hS.F ht⟩) hS.2.2 dX12_common__17
  · have q8 := mm_eqIl (lo := 0) (hi := 0) (mm_cmp_eq ev1 c2) h1 mm_kl0 (by decide)
    refine lv_lload_n hx hb dX12_common__6 rfl (lv_at hl 0 rfl) ?_
    refine lv_goto (tgt := 17) hx hb dX12_common__7 (by decide) ?_
    subst hAe
    rw [hQ]
    exact W.lret (v := j_0) hx hb hr (fun t ht hW => ⟨⟨j_0, (), rfl, h0, by rw [ht]; exact hP, hK.warm hW, hD⟩, hS.F ht⟩) hS.2.2 dX12_common__17

set_option maxHeartbeats 4000000 in
set_option maxRecDepth 100000 in
theorem M285_X12_common_ (l : Launch) (G : va_G) (cy : Nat → ClassId) (sz : Nat) (j_0 : Int64) (j_1 : Int64) (h0 : mm_rl j_0 1 1048575) (h1 : mm_rl j_1 0 1048574) (h2 : (j_1 : Int64).toInt < (j_0 : Int64).toInt)  : mm_CL l yX12_common_ (mm_ws yX12_common_ cX12_common_ 4 (some .long)) ({ frames := 38, cells := 0, slots := 0, locals := 874 } : Room) G cy sz [] [.long j_0, .long j_1] (fun u : Unit => []) (fun (r : Int64) (u : Unit) => mm_rl r 1 4611686018427387904) 0 0 := by
  refine mm_begin (lv := [(0, .long j_0), (2, .long j_1)]) (by decide) (Nat.le_of_ble_eq_true rfl) rfl ?_
  intro p e s m below meth c A ls R args Q H locs hRe hQ hAe hx hb hr hlocks hml hown hnm hts hsz hA hS hP hK hD hZ hl
  have hRf : R.frames = 38 := by rw [hRe]
  have hRl : R.locals = 874 := by rw [hRe]
  have hRc : R.cells = 0 := by rw [hRe]
  have hRs : R.slots = 0 := by rw [hRe]
  refine lv_lload_n hx hb dX12_common__0 rfl (lv_at hl 1 rfl) ?_
  refine lv_lconst (v := 0) hx hb dX12_common__1 (by decide) ?_
  refine W.lcmp hx hb dX12_common__2 ?_
  refine lv_topi (fun v1 ev1 => ?_)
  refine lv_if_ne (tgt := 10) hx hb dX12_common__3 (by decide) (fun c2 => ?_) (fun c2 => ?_)
  · have q3 := mm_neLl (lo := 1) (mm_cmp_ne ev1 c2) h1 mm_kl0 (by decide) (by decide)
    refine lv_lload_n hx hb dX12_common__10 rfl (lv_at hl 1 rfl) ?_
    refine lv_lload_n hx hb dX12_common__11 rfl (lv_at hl 0 rfl) ?_
    refine lv_lload_n hx hb dX12_common__12 rfl (lv_at hl 1 rfl) ?_
    refine lv_lrem hx hb dX12_common__13 (mm_nzl q3 (by decide)) ?_
    refine lv_topl (fun v4 ev4 => ?_)
    have rv4 : mm_rl v4 0 1048573 := mm_reml ev4 h0 q3 (by decide) (by decide)
    have w5 := mm_remlLt ev4 h0 q3 (by decide)
    have q6 : mm_rl v4 0 524287 := mm_remlHalf ev4 (Int.le_of_lt h2) h0 q3 (by decide)
    refine mm_finlr (va_runS (As := [.long j_1, .long v4]) (rest := []) ⟨hx, hb, hml, hown, hts⟩ (M284_X12_common_ l G cy H.size j_1 v4 (mm_wkl q3 (by decide)) q6) (va_cwS 2 hts (mm_gS mm_w1043 mm_w1044 mm_w5 mm_w1045) rfl rfl rfl hs_X12_common_ ⟨by rw [hRf]; exact Nat.le_of_ble_eq_true rfl, by rw [hRl]; exact Nat.le_of_ble_eq_true rfl⟩) (mm_preS hK hZ hS hA hP hD [] rfl rfl) rfl rfl hl.1 rfl (lv_room (Nat.le_of_ble_eq_true rfl)) dX12_common__14 ⟨by rw [hRc]; exact Nat.le_of_ble_eq_true rfl, by rw [hRs]; exact Nat.le_of_ble_eq_true rfl⟩) hP hD hS hA [] rfl (fun _ => rfl) ?_
    clear hP hD hS
    clear H locs
    intro v7 _u H locs hw hP hD hS
    have w8 := hw
    subst hAe
    rw [hQ]
    exact W.lret (v := v7) hx hb hr (fun t ht hW => ⟨⟨v7, (), rfl, w8, by rw [ht]; exact hP, hK.warm hW, hD⟩, hS.F ht⟩) hS.2.2 dX12_common__17
  · have q9 := mm_eqIl (lo := 0) (hi := 0) (mm_cmp_eq ev1 c2) h1 mm_kl0 (by decide)
    refine lv_lload_n hx hb dX12_common__6 rfl (lv_at hl 0 rfl) ?_
    refine lv_goto (tgt := 17) hx hb dX12_common__7 (by decide) ?_
    subst hAe
    rw [hQ]
    exact W.lret (v := j_0) hx hb hr (fun t ht hW => ⟨⟨j_0, (), rfl, (mm_wkl h0 (by decide)), by rw [ht]; exact hP, hK.warm hW, hD⟩, hS.F ht⟩) hS.2.2 dX12_common__17

set_option maxHeartbeats 4000000 in
set_option maxRecDepth 100000 in
theorem M286_X12_common_ (l : Launch) (G : va_G) (cy : Nat → ClassId) (sz : Nat) (j_0 : Int64) (j_1 : Int64) (h0 : mm_rl j_0 1 4611686018427387904) (h1 : mm_rl j_1 0 1048575)  : mm_CL l yX12_common_ (mm_ws yX12_common_ cX12_common_ 4 (some .long)) ({ frames := 39, cells := 0, slots := 0, locals := 897 } : Room) G cy sz [] [.long j_0, .long j_1] (fun u : Unit => []) (fun (r : Int64) (u : Unit) => mm_rl r 1 4611686018427387904) 0 0 := by
  refine mm_begin (lv := [(0, .long j_0), (2, .long j_1)]) (by decide) (Nat.le_of_ble_eq_true rfl) rfl ?_
  intro p e s m below meth c A ls R args Q H locs hRe hQ hAe hx hb hr hlocks hml hown hnm hts hsz hA hS hP hK hD hZ hl
  have hRf : R.frames = 39 := by rw [hRe]
  have hRl : R.locals = 897 := by rw [hRe]
  have hRc : R.cells = 0 := by rw [hRe]
  have hRs : R.slots = 0 := by rw [hRe]
  refine lv_lload_n hx hb dX12_common__0 rfl (lv_at hl 1 rfl) ?_
  refine lv_lconst (v := 0) hx hb dX12_common__1 (by decide) ?_
  refine W.lcmp hx hb dX12_common__2 ?_
  refine lv_topi (fun v1 ev1 => ?_)
  refine lv_if_ne (tgt := 10) hx hb dX12_common__3 (by decide) (fun c2 => ?_) (fun c2 => ?_)
  · have q3 := mm_neLl (lo := 1) (mm_cmp_ne ev1 c2) h1 mm_kl0 (by decide) (by decide)
    refine lv_lload_n hx hb dX12_common__10 rfl (lv_at hl 1 rfl) ?_
    refine lv_lload_n hx hb dX12_common__11 rfl (lv_at hl 0 rfl) ?_
    refine lv_lload_n hx hb dX12_common__12 rfl (lv_at hl 1 rfl) ?_
    refine lv_lrem hx hb dX12_common__13 (mm_nzl q3 (by decide)) ?_
    refine lv_topl (fun v4 ev4 => ?_)
    have rv4 : mm_rl v4 0 1048574 := mm_reml ev4 h0 q3 (by decide) (by decide)
    have w5 := mm_remlLt ev4 h0 q3 (by decide)
    refine mm_finlr (va_runS (As := [.long j_1, .long v4]) (rest := []) ⟨hx, hb, hml, hown, hts⟩ (M285_X12_common_ l G cy H.size j_1 v4 q3 rv4 w5) (va_cwS 2 hts (mm_gS mm_w1043 mm_w1044 mm_w5 mm_w1045) rfl rfl rfl hs_X12_common_ ⟨by rw [hRf]; exact Nat.le_of_ble_eq_true rfl, by rw [hRl]; exact Nat.le_of_ble_eq_true rfl⟩) (mm_preS hK hZ hS hA hP hD [] rfl rfl) rfl rfl hl.1 rfl (lv_room (Nat.le_of_ble_eq_true rfl)) dX12_common__14 ⟨by rw [hRc]; exact Nat.le_of_ble_eq_true rfl, by rw [hRs]; exact Nat.le_of_ble_eq_true rfl⟩) hP hD hS hA [] rfl (fun _ => rfl) ?_
    clear hP hD hS
    clear H locs
    intro v6 _u H locs hw hP hD hS
    have w7 := hw
    subst hAe
    rw [hQ]
    exact W.lret (v := v6) hx hb hr (fun t ht hW => ⟨⟨v6, (), rfl, w7, by rw [ht]; exact hP, hK.warm hW, hD⟩, hS.F ht⟩) hS.2.2 dX12_common__17
  · have q8 := mm_eqIl (lo := 0) (hi := 0) (mm_cmp_eq ev1 c2) h1 mm_kl0 (by decide)
    refine lv_lload_n hx hb dX12_common__6 rfl (lv_at hl 0 rfl) ?_
    refine lv_goto (tgt := 17) hx hb dX12_common__7 (by decide) ?_
    subst hAe
    rw [hQ]
    exact W.lret (v := j_0) hx hb hr (fun t ht hW => ⟨⟨j_0, (), rfl, h0, by rw [ht]; exact hP, hK.warm hW, hD⟩, hS.F ht⟩) hS.2.2 dX12_common__17

set_option maxHeartbeats 4000000 in
set_option maxRecDepth 100000 in
theorem M287_X12_common_ (l : Launch) (G : va_G) (cy : Nat → ClassId) (sz : Nat) (j_0 : Int64) (j_1 : Int64) (h0 : mm_rl j_0 1 2097151) (h1 : mm_rl j_1 0 2097150) (h2 : (j_1 : Int64).toInt < (j_0 : Int64).toInt)  : mm_CL l yX12_common_ (mm_ws yX12_common_ cX12_common_ 4 (some .long)) ({ frames := 40, cells := 0, slots := 0, locals := 920 } : Room) G cy sz [] [.long j_0, .long j_1] (fun u : Unit => []) (fun (r : Int64) (u : Unit) => mm_rl r 1 4611686018427387904) 0 0 := by
  refine mm_begin (lv := [(0, .long j_0), (2, .long j_1)]) (by decide) (Nat.le_of_ble_eq_true rfl) rfl ?_
  intro p e s m below meth c A ls R args Q H locs hRe hQ hAe hx hb hr hlocks hml hown hnm hts hsz hA hS hP hK hD hZ hl
  have hRf : R.frames = 40 := by rw [hRe]
  have hRl : R.locals = 920 := by rw [hRe]
  have hRc : R.cells = 0 := by rw [hRe]
  have hRs : R.slots = 0 := by rw [hRe]
  refine lv_lload_n hx hb dX12_common__0 rfl (lv_at hl 1 rfl) ?_
  refine lv_lconst (v := 0) hx hb dX12_common__1 (by decide) ?_
  refine W.lcmp hx hb dX12_common__2 ?_
  refine lv_topi (fun v1 ev1 => ?_)
  refine lv_if_ne (tgt := 10) hx hb dX12_common__3 (by decide) (fun c2 => ?_) (fun c2 => ?_)
  · have q3 := mm_neLl (lo := 1) (mm_cmp_ne ev1 c2) h1 mm_kl0 (by decide) (by decide)
    refine lv_lload_n hx hb dX12_common__10 rfl (lv_at hl 1 rfl) ?_
    refine lv_lload_n hx hb dX12_common__11 rfl (lv_at hl 0 rfl) ?_
    refine lv_lload_n hx hb dX12_common__12 rfl (lv_at hl 1 rfl) ?_
    refine lv_lrem hx hb dX12_common__13 (mm_nzl q3 (by decide)) ?_
    refine lv_topl (fun v4 ev4 => ?_)
    have rv4 : mm_rl v4 0 2097149 := mm_reml ev4 h0 q3 (by decide) (by decide)
    have w5 := mm_remlLt ev4 h0 q3 (by decide)
    have q6 : mm_rl v4 0 1048575 := mm_remlHalf ev4 (Int.le_of_lt h2) h0 q3 (by decide)
    refine mm_finlr (va_runS (As := [.long j_1, .long v4]) (rest := []) ⟨hx, hb, hml, hown, hts⟩ (M286_X12_common_ l G cy H.size j_1 v4 (mm_wkl q3 (by decide)) q6) (va_cwS 2 hts (mm_gS mm_w1043 mm_w1044 mm_w5 mm_w1045) rfl rfl rfl hs_X12_common_ ⟨by rw [hRf]; exact Nat.le_of_ble_eq_true rfl, by rw [hRl]; exact Nat.le_of_ble_eq_true rfl⟩) (mm_preS hK hZ hS hA hP hD [] rfl rfl) rfl rfl hl.1 rfl (lv_room (Nat.le_of_ble_eq_true rfl)) dX12_common__14 ⟨by rw [hRc]; exact Nat.le_of_ble_eq_true rfl, by rw [hRs]; exact Nat.le_of_ble_eq_true rfl⟩) hP hD hS hA [] rfl (fun _ => rfl) ?_
    clear hP hD hS
    clear H locs
    intro v7 _u H locs hw hP hD hS
    have w8 := hw
    subst hAe
    rw [hQ]
    exact W.lret (v := v7) hx hb hr (fun t ht hW => ⟨⟨v7, (), rfl, w8, by rw [ht]; exact hP, hK.warm hW, hD⟩, hS.F ht⟩) hS.2.2 dX12_common__17
  · have q9 := mm_eqIl (lo := 0) (hi := 0) (mm_cmp_eq ev1 c2) h1 mm_kl0 (by decide)
    refine lv_lload_n hx hb dX12_common__6 rfl (lv_at hl 0 rfl) ?_
    refine lv_goto (tgt := 17) hx hb dX12_common__7 (by decide) ?_
    subst hAe
    rw [hQ]
    exact W.lret (v := j_0) hx hb hr (fun t ht hW => ⟨⟨j_0, (), rfl, (mm_wkl h0 (by decide)), by rw [ht]; exact hP, hK.warm hW, hD⟩, hS.F ht⟩) hS.2.2 dX12_common__17

set_option maxHeartbeats 4000000 in
set_option maxRecDepth 100000 in
theorem M288_X12_common_ (l : Launch) (G : va_G) (cy : Nat → ClassId) (sz : Nat) (j_0 : Int64) (j_1 : Int64) (h0 : mm_rl j_0 1 4611686018427387904) (h1 : mm_rl j_1 0 2097151)  : mm_CL l yX12_common_ (mm_ws yX12_common_ cX12_common_ 4 (some .long)) ({ frames := 41, cells := 0, slots := 0, locals := 943 } : Room) G cy sz [] [.long j_0, .long j_1] (fun u : Unit => []) (fun (r : Int64) (u : Unit) => mm_rl r 1 4611686018427387904) 0 0 := by
  refine mm_begin (lv := [(0, .long j_0), (2, .long j_1)]) (by decide) (Nat.le_of_ble_eq_true rfl) rfl ?_
  intro p e s m below meth c A ls R args Q H locs hRe hQ hAe hx hb hr hlocks hml hown hnm hts hsz hA hS hP hK hD hZ hl
  have hRf : R.frames = 41 := by rw [hRe]
  have hRl : R.locals = 943 := by rw [hRe]
  have hRc : R.cells = 0 := by rw [hRe]
  have hRs : R.slots = 0 := by rw [hRe]
  refine lv_lload_n hx hb dX12_common__0 rfl (lv_at hl 1 rfl) ?_
  refine lv_lconst (v := 0) hx hb dX12_common__1 (by decide) ?_
  refine W.lcmp hx hb dX12_common__2 ?_
  refine lv_topi (fun v1 ev1 => ?_)
  refine lv_if_ne (tgt := 10) hx hb dX12_common__3 (by decide) (fun c2 => ?_) (fun c2 => ?_)
  · have q3 := mm_neLl (lo := 1) (mm_cmp_ne ev1 c2) h1 mm_kl0 (by decide) (by decide)
    refine lv_lload_n hx hb dX12_common__10 rfl (lv_at hl 1 rfl) ?_
    refine lv_lload_n hx hb dX12_common__11 rfl (lv_at hl 0 rfl) ?_
    refine lv_lload_n hx hb dX12_common__12 rfl (lv_at hl 1 rfl) ?_
    refine lv_lrem hx hb dX12_common__13 (mm_nzl q3 (by decide)) ?_
    refine lv_topl (fun v4 ev4 => ?_)
    have rv4 : mm_rl v4 0 2097150 := mm_reml ev4 h0 q3 (by decide) (by decide)
    have w5 := mm_remlLt ev4 h0 q3 (by decide)
    refine mm_finlr (va_runS (As := [.long j_1, .long v4]) (rest := []) ⟨hx, hb, hml, hown, hts⟩ (M287_X12_common_ l G cy H.size j_1 v4 q3 rv4 w5) (va_cwS 2 hts (mm_gS mm_w1043 mm_w1044 mm_w5 mm_w1045) rfl rfl rfl hs_X12_common_ ⟨by rw [hRf]; exact Nat.le_of_ble_eq_true rfl, by rw [hRl]; exact Nat.le_of_ble_eq_true rfl⟩) (mm_preS hK hZ hS hA hP hD [] rfl rfl) rfl rfl hl.1 rfl (lv_room (Nat.le_of_ble_eq_true rfl)) dX12_common__14 ⟨by rw [hRc]; exact Nat.le_of_ble_eq_true rfl, by rw [hRs]; exact Nat.le_of_ble_eq_true rfl⟩) hP hD hS hA [] rfl (fun _ => rfl) ?_
    clear hP hD hS
    clear H locs
    intro v6 _u H locs hw hP hD hS
    have w7 := hw
    subst hAe
    rw [hQ]
    exact W.lret (v := v6) hx hb hr (fun t ht hW => ⟨⟨v6, (), rfl, w7, by rw [ht]; exact hP, hK.warm hW, hD⟩, hS.F ht⟩) hS.2.2 dX12_common__17
  · have q8 := mm_eqIl (lo := 0) (hi := 0) (mm_cmp_eq ev1 c2) h1 mm_kl0 (by decide)
    refine lv_lload_n hx hb dX12_common__6 rfl (lv_at hl 0 rfl) ?_
    refine lv_goto (tgt := 17) hx hb dX12_common__7 (by decide) ?_
    subst hAe
    rw [hQ]
    exact W.lret (v := j_0) hx hb hr (fun t ht hW => ⟨⟨j_0, (), rfl, h0, by rw [ht]; exact hP, hK.warm hW, hD⟩, hS.F ht⟩) hS.2.2 dX12_common__17

set_option maxHeartbeats 4000000 in
set_option maxRecDepth 100000 in
theorem M289_X12_common_ (l : Launch) (G : va_G) (cy : Nat → ClassId) (sz : Nat) (j_0 : Int64) (j_1 : Int64) (h0 : mm_rl j_0 1 4194303) (h1 : mm_rl j_1 0 4194302) (h2 : (j_1 : Int64).toInt < (j_0 : Int64).toInt)  : mm_CL l yX12_common_ (mm_ws yX12_common_ cX12_common_ 4 (some .long)) ({ frames := 42, cells := 0, slots := 0, locals := 966 } : Room) G cy sz [] [.long j_0, .long j_1] (fun u : Unit => []) (fun (r : Int64) (u : Unit) => mm_rl r 1 4611686018427387904) 0 0 := by
  refine mm_begin (lv := [(0, .long j_0), (2, .long j_1)]) (by decide) (Nat.le_of_ble_eq_true rfl) rfl ?_
  intro p e s m below meth c A ls R args Q H locs hRe hQ hAe hx hb hr hlocks hml hown hnm hts hsz hA hS hP hK hD hZ hl
  have hRf : R.frames = 42 := by rw [hRe]
  have hRl : R.locals = 966 := by rw [hRe]
  have hRc : R.cells = 0 := by rw [hRe]
  have hRs : R.slots = 0 := by rw [hRe]
  refine lv_lload_n hx hb dX12_common__0 rfl (lv_at hl 1 rfl) ?_
  refine lv_lconst (v := 0) hx hb dX12_common__1 (by decide) ?_
  refine W.lcmp hx hb dX12_common__2 ?_
  refine lv_topi (fun v1 ev1 => ?_)
  refine lv_if_ne (tgt := 10) hx hb dX12_common__3 (by decide) (fun c2 => ?_) (fun c2 => ?_)
  · have q3 := mm_neLl (lo := 1) (mm_cmp_ne ev1 c2) h1 mm_kl0 (by decide) (by decide)
    refine lv_lload_n hx hb dX12_common__10 rfl (lv_at hl 1 rfl) ?_
    refine lv_lload_n hx hb dX12_common__11 rfl (lv_at hl 0 rfl) ?_
    refine lv_lload_n hx hb dX12_common__12 rfl (lv_at hl 1 rfl) ?_
    refine lv_lrem hx hb dX12_common__13 (mm_nzl q3 (by decide)) ?_
    refine lv_topl (fun v4 ev4 => ?_)
    have rv4 : mm_rl v4 0 4194301 := mm_reml ev4 h0 q3 (by decide) (by decide)
    have w5 := mm_remlLt ev4 h0 q3 (by decide)
    have q6 : mm_rl v4 0 2097151 := mm_remlHalf ev4 (Int.le_of_lt h2) h0 q3 (by decide)
    refine mm_finlr (va_runS (As := [.long j_1, .long v4]) (rest := []) ⟨hx, hb, hml, hown, hts⟩ (M288_X12_common_ l G cy H.size j_1 v4 (mm_wkl q3 (by decide)) q6) (va_cwS 2 hts (mm_gS mm_w1043 mm_w1044 mm_w5 mm_w1045) rfl rfl rfl hs_X12_common_ ⟨by rw [hRf]; exact Nat.le_of_ble_eq_true rfl, by rw [hRl]; exact Nat.le_of_ble_eq_true rfl⟩) (mm_preS hK hZ hS hA hP hD [] rfl rfl) rfl rfl hl.1 rfl (lv_room (Nat.le_of_ble_eq_true rfl)) dX12_common__14 ⟨by rw [hRc]; exact Nat.le_of_ble_eq_true rfl, by rw [hRs]; exact Nat.le_of_ble_eq_true rfl⟩) hP hD hS hA [] rfl (fun _ => rfl) ?_
    clear hP hD hS
    clear H locs
    intro v7 _u H locs hw hP hD hS
    have w8 := hw
    subst hAe
    rw [hQ]
    exact W.lret (v := v7) hx hb hr (fun t ht hW => ⟨⟨v7, (), rfl, w8, by rw [ht]; exact hP, hK.warm hW, hD⟩, hS.F ht⟩) hS.2.2 dX12_common__17
  · have q9 := mm_eqIl (lo := 0) (hi := 0) (mm_cmp_eq ev1 c2) h1 mm_kl0 (by decide)
    refine lv_lload_n hx hb dX12_common__6 rfl (lv_at hl 0 rfl) ?_
    refine lv_goto (tgt := 17) hx hb dX12_common__7 (by decide) ?_
    subst hAe
    rw [hQ]
    exact W.lret (v := j_0) hx hb hr (fun t ht hW => ⟨⟨j_0, (), rfl, (mm_wkl h0 (by decide)), by rw [ht]; exact hP, hK.warm hW, hD⟩, hS.F ht⟩) hS.2.2 dX12_common__17

set_option maxHeartbeats 4000000 in
set_option maxRecDepth 100000 in
theorem M290_X12_common_ (l : Launch) (G : va_G) (cy : Nat → ClassId) (sz : Nat) (j_0 : Int64) (j_1 : Int64) (h0 : mm_rl j_0 1 4611686018427387904) (h1 : mm_rl j_1 0 4194303)  : mm_CL l yX12_common_ (mm_ws yX12_common_ cX12_common_ 4 (some .long)) ({ frames := 43, cells := 0, slots := 0, locals := 989 } : Room) G cy sz [] [.long j_0, .long j_1] (fun u : Unit => []) (fun (r : Int64) (u : Unit) => mm_rl r 1 4611686018427387904) 0 0 := by
  refine mm_begin (lv := [(0, .long j_0), (2, .long j_1)]) (by decide) (Nat.le_of_ble_eq_true rfl) rfl ?_
  intro p e s m below meth c A ls R args Q H locs hRe hQ hAe hx hb hr hlocks hml hown hnm hts hsz hA hS hP hK hD hZ hl
  have hRf : R.frames = 43 := by rw [hRe]
  have hRl : R.locals = 989 := by rw [hRe]
  have hRc : R.cells = 0 := by rw [hRe]
  have hRs : R.slots = 0 := by rw [hRe]
  refine lv_lload_n hx hb dX12_common__0 rfl (lv_at hl 1 rfl) ?_
  refine lv_lconst (v := 0) hx hb dX12_common__1 (by decide) ?_
  refine W.lcmp hx hb dX12_common__2 ?_
  refine lv_topi (fun v1 ev1 => ?_)
  refine lv_if_ne (tgt := 10) hx hb dX12_common__3 (by decide) (fun c2 => ?_) (fun c2 => ?_)
  · have q3 := mm_neLl (lo := 1) (mm_cmp_ne ev1 c2) h1 mm_kl0 (by decide) (by decide)
    refine lv_lload_n hx hb dX12_common__10 rfl (lv_at hl 1 rfl) ?_
    refine lv_lload_n hx hb dX12_common__11 rfl (lv_at hl 0 rfl) ?_
    refine lv_lload_n hx hb dX12_common__12 rfl (lv_at hl 1 rfl) ?_
    refine lv_lrem hx hb dX12_common__13 (mm_nzl q3 (by decide)) ?_
    refine lv_topl (fun v4 ev4 => ?_)
    have rv4 : mm_rl v4 0 4194302 := mm_reml ev4 h0 q3 (by decide) (by decide)
    have w5 := mm_remlLt ev4 h0 q3 (by decide)
    refine mm_finlr (va_runS (As := [.long j_1, .long v4]) (rest := []) ⟨hx, hb, hml, hown, hts⟩ (M289_X12_common_ l G cy H.size j_1 v4 q3 rv4 w5) (va_cwS 2 hts (mm_gS mm_w1043 mm_w1044 mm_w5 mm_w1045) rfl rfl rfl hs_X12_common_ ⟨by rw [hRf]; exact Nat.le_of_ble_eq_true rfl, by rw [hRl]; exact Nat.le_of_ble_eq_true rfl⟩) (mm_preS hK hZ hS hA hP hD [] rfl rfl) rfl rfl hl.1 rfl (lv_room (Nat.le_of_ble_eq_true rfl)) dX12_common__14 ⟨by rw [hRc]; exact Nat.le_of_ble_eq_true rfl, by rw [hRs]; exact Nat.le_of_ble_eq_true rfl⟩) hP hD hS hA [] rfl (fun _ => rfl) ?_
    clear hP hD hS
    clear H locs
    intro v6 _u H locs hw hP hD hS
    have w7 := hw
    subst hAe
    rw [hQ]
    exact W.lret (v := v6) hx hb hr (fun t ht hW => ⟨⟨v6, (), rfl, w7, by rw [ht]; exact hP, hK.warm hW, hD⟩, hS.F ht⟩) hS.2.2 dX12_common__17
  · have q8 := mm_eqIl (lo := 0) (hi := 0) (mm_cmp_eq ev1 c2) h1 mm_kl0 (by decide)
    refine lv_lload_n hx hb dX12_common__6 rfl (lv_at hl 0 rfl) ?_
    refine lv_goto (tgt := 17) hx hb dX12_common__7 (by decide) ?_
    subst hAe
    rw [hQ]
    exact W.lret (v := j_0) hx hb hr (fun t ht hW => ⟨⟨j_0, (), rfl, h0, by rw [ht]; exact hP, hK.warm hW, hD⟩, hS.F ht⟩) hS.2.2 dX12_common__17

