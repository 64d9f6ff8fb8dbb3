set_option maxHeartbeats 4000000 in
set_option maxRecDepth 100000 in
theorem C544_X11_isSlot (l : Launch) (G : va_G) (cy : Nat → ClassId) (sz : Nat) (i_0 : Int32)   : mm_CI l yX11_isSlot (mm_ws yX11_isSlot cX11_isSlot 1 (some .boolean)) ({ frames := 0, cells := 0, slots := 0, locals := 0 } : Room) G cy sz [] [.int i_0] (fun u : Unit => []) (fun (r : Int32) (u : Unit) => ((0 = r ∧ mm_rg i_0 (-2147483648) (-1)) ∨ (0 = r ∧ mm_rg i_0 4 2147483647) ∨ (1 = r ∧ mm_rg i_0 0 3))) 0 0 := by
  refine mm_begin (lv := [(0, .int i_0)]) (by decide) (Nat.le_of_ble_eq_true rfl) rfl ?_
  intro p e s m below meth c A ls R args Q H locs hRe hQ hAe hx hb hr hlocks hml hown hnm hts hsz hA hS hP hK hD hZ hl
  have hRf : R.frames = 0 := by rw [hRe]
  have hRl : R.locals = 0 := by rw [hRe]
  have hRc : R.cells = 0 := by rw [hRe]
  have hRs : R.slots = 0 := by rw [hRe]
  refine lv_iload_n hx hb dX11_isSlot_0 rfl (lv_at hl 0 rfl) ?_
  refine lv_if_lt (tgt := 13) hx hb dX11_isSlot_1 (by decide) (fun c1 => ?_) (fun c1 => ?_)
  · have q2 := mm_ltL (h := (-1)) (mm_lt c1) (mm_top i_0) mm_k0 (by decide)
    refine lv_iconst (v := 0) hx hb dX11_isSlot_13 (by decide) ?_
    subst hAe
    rw [hQ]
    exact W.zret (v := 0) hx hb hr rfl (fun t ht hW => ⟨⟨0, (), rfl, (Or.inl ⟨rfl, q2⟩), by rw [ht]; exact hP, hK.warm hW, hD⟩, hS.F ht⟩) hS.2.2 dX11_isSlot_14
  · have q3 := mm_leR (mm_nlt c1) mm_k0 (mm_top i_0)
    refine lv_iload_n hx hb dX11_isSlot_4 rfl (lv_at hl 0 rfl) ?_
    refine lv_iconst (v := 4) hx hb dX11_isSlot_5 (by decide) ?_
    refine lv_icmp_ge (tgt := 13) hx hb dX11_isSlot_6 (by decide) (fun c4 => ?_) (fun c4 => ?_)
    · have q5 := mm_leR (mm_le c4) mm_k4 q3
      refine lv_iconst (v := 0) hx hb dX11_isSlot_13 (by decide) ?_
      subst hAe
      rw [hQ]
      exact W.zret (v := 0) hx hb hr rfl (fun t ht hW => ⟨⟨0, (), rfl, (Or.inr (Or.inl ⟨rfl, q5⟩)), by rw [ht]; exact hP, hK.warm hW, hD⟩, hS.F ht⟩) hS.2.2 dX11_isSlot_14
    · have q6 := mm_ltL (h := 3) (mm_nle c4) q3 mm_k4 (by decide)
      refine lv_iconst (v := 1) hx hb dX11_isSlot_9 (by decide) ?_
      refine lv_goto (tgt := 14) hx hb dX11_isSlot_10 (by decide) ?_
      subst hAe
      rw [hQ]
      exact W.zret (v := 1) hx hb hr rfl (fun t ht hW => ⟨⟨1, (), rfl, (Or.inr (Or.inr ⟨rfl, q6⟩)), by rw [ht]; exact hP, hK.warm hW, hD⟩, hS.F ht⟩) hS.2.2 dX11_isSlot_14

set_option maxHeartbeats 4000000 in
set_option maxRecDepth 100000 in
theorem C545_X6_begin (l : Launch) (G : va_G) (cy : Nat → ClassId) (sz : Nat) (a_0 : Nat) (i_0 : Int32) (i_1 : Int32) (i_2 : Int32) (i_3 : Int32) (i_4 : Int32) (a_1 : Nat) (f_0 : Nat → Int64) (h0 : mm_rg i_0 0 3) (h1 : mm_rg i_1 0 60) (h2 : mm_rg i_2 0 1) (h3 : mm_rg i_3 0 3) (h4 : mm_rg i_4 0 60)  : mm_CV l yX6_begin (mm_ws yX6_begin cX6_begin 3 (none)) ({ frames := 1, cells := 0, slots := 0, locals := 40 } : Room) G cy sz [(a_0, .inr (6, [.int i_2, .int i_3, .int i_4, .ref a_1])), (a_1, .inl (cy 2, 60, .inr (.inl f_0)))] [.ref a_0, .int i_0, .int i_1] (fun u : Int32 × (Nat → Int64) => [(a_0, .inr (6, [.int 1, .int i_0, .int u.1, .ref a_1])), (a_1, .inl (cy 2, 60, .inr (.inl u.2)))]) (fun u : Int32 × (Nat → Int64) => mm_rg u.1 0 60 ∧ mm_mn i_1 u.1) 0 0 := by
  refine mm_begin (lv := [(0, .ref a_0), (1, .int i_0), (2, .int i_1)]) (by decide) (Nat.le_of_ble_eq_true rfl) rfl ?_
  intro p e s m below meth c A ls R args Q H locs hRe hQ hAe hx hb hr hlocks hml hown hnm hts hsz hA hS hP hK hD hZ hl
  have hRf : R.frames = 1 := by rw [hRe]
  have hRl : R.locals = 40 := by rw [hRe]
  have hRc : R.cells = 0 := by rw [hRe]
  have hRs : R.slots = 0 := by rw [hRe]
  refine lv_aload_n hx hb dX6_begin_0 rfl (lv_at hl 0 rfl) ?_
  refine lv_iconst (v := 1) hx hb dX6_begin_1 (by decide) ?_
  refine va_put (D := G) (ci := 6) (v := .int 1) (ty := tyX6 0) (C := RX6) (T := TX6) (N := 4) hx hb hts (mm_i inlX6) tyX6 tyX6_ok nmX6 hown hK.1 hP hD hS 0 rfl rfl 0 (by decide) (mm_h hts mm_w1681) (fun _ h9 => h9) rfl (tyX6_ok 0 (by decide)) rfl rfl (Nat.le_of_ble_eq_true rfl) dX6_begin_2 ?_
  clear hP hD hS
  clear H locs
  intro H locs (hP : va_P G vwCl [(a_0, .inr (6, [.int 1, .int i_3, .int i_4, .ref a_1])), (a_1, .inl (cy 2, 60, .inr (.inl f_0)))] H) (hD : va_D A [(a_0, .inr (6, [.int 1, .int i_3, .int i_4, .ref a_1])), (a_1, .inl (cy 2, 60, .inr (.inl f_0)))]) hS
  refine lv_aload_n hx hb dX6_begin_5 rfl (lv_at hl 0 rfl) ?_
  refine lv_iload_n hx hb dX6_begin_6 rfl (lv_at hl 1 rfl) ?_
  refine va_put (D := G) (ci := 6) (v := .int i_0) (ty := tyX6 1) (C := RX6) (T := TX6) (N := 4) hx hb hts (mm_i inlX6) tyX6 tyX6_ok nmX6 hown hK.1 hP hD hS 0 rfl rfl 1 (by decide) (mm_h hts mm_w1682) (fun _ h9 => h9) rfl (tyX6_ok 1 (by decide)) rfl rfl (Nat.le_of_ble_eq_true rfl) dX6_begin_7 ?_
  clear hP hD hS
  clear H locs
  intro H locs (hP : va_P G vwCl [(a_0, .inr (6, [.int 1, .int i_0, .int i_4, .ref a_1])), (a_1, .inl (cy 2, 60, .inr (.inl f_0)))] H) (hD : va_D A [(a_0, .inr (6, [.int 1, .int i_0, .int i_4, .ref a_1])), (a_1, .inl (cy 2, 60, .inr (.inl f_0)))]) hS
  refine lv_aload_n hx hb dX6_begin_10 rfl (lv_at hl 0 rfl) ?_
  refine lv_iload_n hx hb dX6_begin_11 rfl (lv_at hl 2 rfl) ?_
  refine lv_bipush (v := 60) hx hb dX6_begin_12 (by decide) ?_
  refine va_mmin hx hb (by rw [hml]; exact hl.1.symm) hown (mm_h hts mm_w1683) (mm_h hts mm_w385) (mm_h hts mm_w346) (mm_h hts mm_w386) (by rw [hRf]; exact Nat.le_of_ble_eq_true rfl) (by rw [hRl]; exact Nat.le_of_ble_eq_true rfl) (by rw [hRc]; exact Nat.le_of_ble_eq_true rfl) (by rw [hRs]; exact Nat.le_of_ble_eq_true rfl) dX6_begin_14 ?_
  refine lv_topi (fun v1 ev1 => ?_)
  have rv1 : mm_rg v1 0 60 := mm_min ev1 h1 mm_k60 (by decide)
  refine va_put (D := G) (ci := 6) (v := .int v1) (ty := tyX6 2) (C := RX6) (T := TX6) (N := 4) hx hb hts (mm_i inlX6) tyX6 tyX6_ok nmX6 hown hK.1 hP hD hS 0 rfl rfl 2 (by decide) (mm_h hts mm_w1684) (fun _ h9 => h9) rfl (tyX6_ok 2 (by decide)) rfl rfl (Nat.le_of_ble_eq_true rfl) dX6_begin_17 ?_
  clear hP hD hS
  clear H locs
  intro H locs (hP : va_P G vwCl [(a_0, .inr (6, [.int 1, .int i_0, .int v1, .ref a_1])), (a_1, .inl (cy 2, 60, .inr (.inl f_0)))] H) (hD : va_D A [(a_0, .inr (6, [.int 1, .int i_0, .int v1, .ref a_1])), (a_1, .inl (cy 2, 60, .inr (.inl f_0)))]) hS
  refine lv_aload_n hx hb dX6_begin_20 rfl (lv_at hl 0 rfl) ?_
  refine va_get (D := G) (ci := 6) (v := .ref a_1) (C := RX6) (T := TX6) (N := 4) hx hb hts (mm_i inlX6) hown hK.1 hP 0 rfl rfl 3 (by decide) (mm_h hts mm_w104) (fun _ h9 => h9) rfl dX6_begin_21 ?_
  refine lv_lconst (v := 0) hx hb dX6_begin_24 (by decide) ?_
  refine mm_finv (va_runS (As := [.ref a_1, .long 0]) (rest := []) ⟨hx, hb, hml, hown, hts⟩ (K536_J7_fill_d0a16 l G cy H.size a_1 f_0 ) (va_cwS 2 hts (mm_gS mm_w1685 mm_w1505 mm_w225 mm_w1506) rfl rfl rfl hs_J7_fill_d0a16 ⟨by rw [hRf]; exact Nat.le_of_ble_eq_true rfl, by rw [hRl]; exact Nat.le_of_ble_eq_true rfl⟩) (mm_preS hK hZ hS hA hP hD [1] rfl rfl) rfl rfl hl.1 rfl (lv_room (Nat.le_of_ble_eq_true rfl)) dX6_begin_25 ⟨by rw [hRc]; exact Nat.le_of_ble_eq_true rfl, by rw [hRs]; exact Nat.le_of_ble_eq_true rfl⟩) hP hD hS hA (fun u : (Nat → Int64) => [(a_0, .inr (6, [.int 1, .int i_0, .int v1, .ref a_1])), (a_1, .inl (cy 2, 60, .inr (.inl u)))]) [1] [0] (n := 2) (fun _ => rfl) (by decide +kernel) (by decide +kernel) rfl (fun _ => rfl) (wr := [(a_0, .inr (6, [.int 1, .int i_0, .int v1, .ref a_1]))]) rfl (fun _ => rfl) (fun _ => rfl) ?_
  clear hP hD hS
  clear H locs
  intro n2 H locs hw (hP : va_P G vwCl [(a_0, .inr (6, [.int 1, .int i_0, .int v1, .ref a_1])), (a_1, .inl (cy 2, 60, .inr (.inl n2)))] H) (hD : va_D A [(a_0, .inr (6, [.int 1, .int i_0, .int v1, .ref a_1])), (a_1, .inl (cy 2, 60, .inr (.inl n2)))]) hS
  have w3 : mm_mn i_1 v1 := (mm_mn_of ev1)
  subst hAe
  rw [hQ]
  exact W.vret hx hb hr (fun t ht hW => ⟨⟨(v1, n2), rfl, ⟨rv1, w3⟩, by rw [ht]; exact hP, hK.warm hW, hD⟩, hS.F ht⟩) hS.2.2 dX6_begin_28

set_option maxHeartbeats 4000000 in
set_option maxRecDepth 100000 in
theorem C546_X11_row (l : Launch) (G : va_G) (cy : Nat → ClassId) (sz : Nat) (a_0 : Nat) (i_0 : Int32) (i_1 : Int32) (i_2 : Int32) (a_1 : Nat) (a_2 : Nat) (a_3 : Nat) (a_4 : Nat) (a_5 : Nat) (a_6 : Nat) (a_7 : Nat) (a_8 : Nat) (a_9 : Nat) (a_10 : Nat) (a_11 : Nat) (a_12 : Nat) (a_13 : Nat) (a_14 : Nat) (a_15 : Nat) (i_3 : Int32) (i_4 : Int32) (i_5 : Int32) (a_16 : Nat) (f_0 : Nat → Int64) (i_6 : Int32) (i_7 : Int32) (i_8 : Int32) (a_17 : Nat) (f_1 : Nat → Int64) (i_9 : Int32) (i_10 : Int32) (i_11 : Int32) (a_18 : Nat) (f_2 : Nat → Int64) (i_12 : Int32) (i_13 : Int32) (i_14 : Int32) (a_19 : Nat) (f_3 : Nat → Int64) (h0 : mm_rg i_3 0 1) (h1 : mm_rg i_4 0 3) (h2 : mm_rg i_5 0 60) (h3 : mm_rg i_6 0 1) (h4 : mm_rg i_7 0 3) (h5 : mm_rg i_8 0 60) (h6 : mm_rg i_9 0 1) (h7 : mm_rg i_10 0 3) (h8 : mm_rg i_11 0 60) (h9 : mm_rg i_12 0 1) (h10 : mm_rg i_13 0 3) (h11 : mm_rg i_14 0 60)  : mm_CI l yX11_row (mm_ws yX11_row cX11_row 4 (some .int)) ({ frames := 2, cells := 0, slots := 0, locals := 62 } : Room) G cy sz [(a_0, .inr (11, [.ref a_1, .ref a_2, .ref a_3, .ref a_4, .ref a_5, .ref a_6, .ref a_7, .ref a_8, .ref a_9, .ref a_10, .ref a_11])), (a_6, .inl (cy 6, 4, .inr (.inr (.inr (.inr (va_up (va_up (va_up (va_up (fun _ => none) 0 (some a_12)) 1 (some a_13)) 2 (some a_14)) 3 (some a_15))))))), (a_12, .inr (6, [.int i_3, .int i_4, .int i_5, .ref a_16])), (a_16, .inl (cy 2, 60, .inr (.inl f_0))), (a_13, .inr (6, [.int i_6, .int i_7, .int i_8, .ref a_17])), (a_17, .inl (cy 2, 60, .inr (.inl f_1))), (a_14, .inr (6, [.int i_9, .int i_10, .int i_11, .ref a_18])), (a_18, .inl (cy 2, 60, .inr (.inl f_2))), (a_15, .inr (6, [.int i_12, .int i_13, .int i_14, .ref a_19])), (a_19, .inl (cy 2, 60, .inr (.inl f_3)))] [.ref a_0, .int i_0, .int i_1, .int i_2] (fun u : Int32 × Int32 × Int32 × (Nat → Int64) × Int32 × Int32 × Int32 × (Nat → Int64) × Int32 × Int32 × Int32 × (Nat → Int64) × Int32 × Int32 × Int32 × (Nat → Int64) => [(a_0, .inr (11, [.ref a_1, .ref a_2, .ref a_3, .ref a_4, .ref a_5, .ref a_6, .ref a_7, .ref a_8, .ref a_9, .ref a_10, .ref a_11])), (a_6, .inl (cy 6, 4, .inr (.inr (.inr (.inr (va_up (va_up (va_up (va_up (fun _ => none) 0 (some a_12)) 1 (some a_13)) 2 (some a_14)) 3 (some a_15))))))), (a_12, .inr (6, [.int u.1, .int u.2.1, .int u.2.2.1, .ref a_16])), (a_16, .inl (cy 2, 60, .inr (.inl u.2.2.2.1))), (a_13, .inr (6, [.int u.2.2.2.2.1, .int u.2.2.2.2.2.1, .int u.2.2.2.2.2.2.1, .ref a_17])), (a_17, .inl (cy 2, 60, .inr (.inl u.2.2.2.2.2.2.2.1))), (a_14, .inr (6, [.int u.2.2.2.2.2.2.2.2.1, .int u.2.2.2.2.2.2.2.2.2.1, .int u.2.2.2.2.2.2.2.2.2.2.1, .ref a_18])), (a_18, .inl (cy 2, 60, .inr (.inl u.2.2.2.2.2.2.2.2.2.2.2.1))), (a_15, .inr (6, [.int u.2.2.2.2.2.2.2.2.2.2.2.2.1, .int u.2.2.2.2.2.2.2.2.2.2.2.2.2.1, .int u.2.2.2.2.2.2.2.2.2.2.2.2.2.2.1, .ref a_19])), (a_19, .inl (cy 2, 60, .inr (.inl u.2.2.2.2.2.2.2.2.2.2.2.2.2.2.2)))]) (fun (r : Int32) (u : Int32 × Int32 × Int32 × (Nat → Int64) × Int32 × Int32 × Int32 × (Nat → Int64) × Int32 × Int32 × Int32 × (Nat → Int64) × Int32 × Int32 × Int32 × (Nat → Int64)) => mm_rg u.1 0 1 ∧ mm_rg u.2.1 0 3 ∧ mm_rg u.2.2.1 0 60 ∧ mm_rg u.2.2.2.2.1 0 1 ∧ mm_rg u.2.2.2.2.2.1 0 3 ∧ mm_rg u.2.2.2.2.2.2.1 0 60 ∧ mm_rg u.2.2.2.2.2.2.2.2.1 0 1 ∧ mm_rg u.2.2.2.2.2.2.2.2.2.1 0 3 ∧ mm_rg u.2.2.2.2.2.2.2.2.2.2.1 0 60 ∧ mm_rg u.2.2.2.2.2.2.2.2.2.2.2.2.1 0 1 ∧ mm_rg u.2.2.2.2.2.2.2.2.2.2.2.2.2.1 0 3 ∧ mm_rg u.2.2.2.2.2.2.2.2.2.2.2.2.2.2.1 0 60 ∧ mm_xr 0 i_3 i_4 i_5 u.1 u.2.1 u.2.2.1 i_0 i_1 i_2 ∧ mm_xr 1 i_6 i_7 i_8 u.2.2.2.2.1 u.2.2.2.2.2.1 u.2.2.2.2.2.2.1 i_0 i_1 i_2 ∧ mm_xr 2 i_9 i_10 i_11 u.2.2.2.2.2.2.2.2.1 u.2.2.2.2.2.2.2.2.2.1 u.2.2.2.2.2.2.2.2.2.2.1 i_0 i_1 i_2 ∧ mm_xr 3 i_12 i_13 i_14 u.2.2.2.2.2.2.2.2.2.2.2.2.1 u.2.2.2.2.2.2.2.2.2.2.2.2.2.1 u.2.2.2.2.2.2.2.2.2.2.2.2.2.2.1 i_0 i_1 i_2 ∧ (((-2) = r ∧ mm_rg i_0 (-2147483648) (-1)) ∨ ((-2) = r ∧ mm_rg i_0 4 2147483647) ∨ ((-2) = r ∧ mm_rg i_0 0 3 ∧ mm_rg i_1 (-2147483648) (-1)) ∨ ((-2) = r ∧ mm_rg i_0 0 3 ∧ mm_rg i_1 4 2147483647) ∨ (0 = r ∧ mm_rg i_0 0 3 ∧ mm_rg i_1 0 3 ∧ mm_rg i_2 0 60) ∨ ((-3) = r ∧ mm_rg i_0 0 3 ∧ mm_rg i_1 0 3 ∧ mm_rg i_2 (-2147483648) (-1)) ∨ ((-2) = r ∧ mm_rg i_0 0 3 ∧ mm_rg i_1 0 3 ∧ mm_rg i_2 61 2147483647))) 0 0 := by
  refine mm_begin (lv := [(0, .ref a_0), (1, .int i_0), (2, .int i_1), (3, .int i_2)]) (by decide) (Nat.le_of_ble_eq_true rfl) rfl ?_
  intro p e s m below meth c A ls R args Q H locs hRe hQ hAe hx hb hr hlocks hml hown hnm hts hsz hA hS hP hK hD hZ hl
  have hRf : R.frames = 2 := by rw [hRe]
  have hRl : R.locals = 62 := by rw [hRe]
  have hRc : R.cells = 0 := by rw [hRe]
  have hRs : R.slots = 0 := by rw [hRe]
  refine lv_iload_n hx hb dX11_row_0 rfl (lv_at hl 1 rfl) ?_
  refine mm_finir (va_runS (As := [.int i_0]) (rest := []) ⟨hx, hb, hml, hown, hts⟩ (C544_X11_isSlot l G cy H.size i_0 ) (va_cwS 1 hts (mm_gS mm_w1232 mm_w1233 mm_w2 mm_w1234) rfl rfl rfl hs_X11_isSlot ⟨by rw [hRf]; exact Nat.le_of_ble_eq_true rfl, by rw [hRl]; exact Nat.le_of_ble_eq_true rfl⟩) (mm_preS hK hZ hS hA hP hD [] rfl rfl) rfl rfl hl.1 rfl (lv_room (Nat.le_of_ble_eq_true rfl)) dX11_row_1 ⟨by rw [hRc]; exact Nat.le_of_ble_eq_true rfl, by rw [hRs]; exact Nat.le_of_ble_eq_true rfl⟩) hP hD hS hA [] rfl (fun _ => rfl) ?_
  clear hP hD hS
  clear H locs
  intro v1 _u H locs hw hP hD hS
  rcases hw with ⟨rfl, w2⟩ | ⟨rfl, w3⟩ | ⟨rfl, w4⟩
  · refine lv_if_eq (tgt := 22) hx hb dX11_row_4 (by decide) (fun c5 => ?_) (fun c5 => ?_)
    · refine lv_bipush (v := (-2)) hx hb dX11_row_22 (by decide) ?_
      have w6 : mm_xr 0 i_3 i_4 i_5 i_3 i_4 i_5 i_0 i_1 i_2 := (mm_xr_n w2 (mm_top i_1) (mm_top i_2) (by decide))
      have w7 : mm_xr 1 i_6 i_7 i_8 i_6 i_7 i_8 i_0 i_1 i_2 := (mm_xr_n w2 (mm_top i_1) (mm_top i_2) (by decide))
      have w8 : mm_xr 2 i_9 i_10 i_11 i_9 i_10 i_11 i_0 i_1 i_2 := (mm_xr_n w2 (mm_top i_1) (mm_top i_2) (by decide))
      have w9 : mm_xr 3 i_12 i_13 i_14 i_12 i_13 i_14 i_0 i_1 i_2 := (mm_xr_n w2 (mm_top i_1) (mm_top i_2) (by decide))
      subst hAe
      rw [hQ]
      exact W.iret (v := (-2)) hx hb hr (fun t ht hW => ⟨⟨(-2), (i_3, i_4, i_5, f_0, i_6, i_7, i_8, f_1, i_9, i_10, i_11, f_2, i_12, i_13, i_14, f_3), rfl, ⟨h0, h1, h2, h3, h4, h5, h6, h7, h8, h9, h10, h11, w6, w7, w8, w9, (Or.inl ⟨rfl, w2⟩)⟩, by rw [ht]; exact hP, hK.warm hW, hD⟩, hS.F ht⟩) hS.2.2 dX11_row_24
    · have q10 := mm_neL (lo := 1) (mm_ne c5) mm_k0 mm_k0 (by decide) (by decide)
      exact mm_no q10 (by decide)
  · refine lv_if_eq (tgt := 22) hx hb dX11_row_4 (by decide) (fun c11 => ?_) (fun c11 => ?_)
    · refine lv_bipush (v := (-2)) hx hb dX11_row_22 (by decide) ?_
      have w12 : mm_xr 0 i_3 i_4 i_5 i_3 i_4 i_5 i_0 i_1 i_2 := (mm_xr_n w3 (mm_top i_1) (mm_top i_2) (by decide))
      have w13 : mm_xr 1 i_6 i_7 i_8 i_6 i_7 i_8 i_0 i_1 i_2 := (mm_xr_n w3 (mm_top i_1) (mm_top i_2) (by decide))
      have w14 : mm_xr 2 i_9 i_10 i_11 i_9 i_10 i_11 i_0 i_1 i_2 := (mm_xr_n w3 (mm_top i_1) (mm_top i_2) (by decide))
      have w15 : mm_xr 3 i_12 i_13 i_14 i_12 i_13 i_14 i_0 i_1 i_2 := (mm_xr_n w3 (mm_top i_1) (mm_top i_2) (by decide))
      subst hAe
      rw [hQ]
      exact W.iret (v := (-2)) hx hb hr (fun t ht hW => ⟨⟨(-2), (i_3, i_4, i_5, f_0, i_6, i_7, i_8, f_1, i_9, i_10, i_11, f_2, i_12, i_13, i_14, f_3), rfl, ⟨h0, h1, h2, h3, h4, h5, h6, h7, h8, h9, h10, h11, w12, w13, w14, w15, (Or.inr (Or.inl ⟨rfl, w3⟩))⟩, by rw [ht]; exact hP, hK.warm hW, hD⟩, hS.F ht⟩) hS.2.2 dX11_row_24
    · have q16 := mm_neL (lo := 1) (mm_ne c11) mm_k0 mm_k0 (by decide) (by decide)
      exact mm_no q16 (by decide)
  · refine lv_if_eq (tgt := 22) hx hb dX11_row_4 (by decide) (fun c17 => ?_) (fun c17 => ?_)
    · exact mm_eqN c17.symm mm_k0 mm_k1 (by decide)
    · refine lv_iload_n hx hb dX11_row_7 rfl (lv_at hl 2 rfl) ?_
      refine lv_if_lt (tgt := 22) hx hb dX11_row_8 (by decide) (fun c18 => ?_) (fun c18 => ?_)
      · have q19 := mm_ltL (h := (-1)) (mm_lt c18) (mm_top i_1) mm_k0 (by decide)
        refine lv_bipush (v := (-2)) hx hb dX11_row_22 (by decide) ?_
        have w20 : mm_xr 0 i_3 i_4 i_5 i_3 i_4 i_5 i_0 i_1 i_2 := (mm_xr_n w4 q19 (mm_top i_2) (by decide))
        have w21 : mm_xr 1 i_6 i_7 i_8 i_6 i_7 i_8 i_0 i_1 i_2 := (mm_xr_n w4 q19 (mm_top i_2) (by decide))
        have w22 : mm_xr 2 i_9 i_10 i_11 i_9 i_10 i_11 i_0 i_1 i_2 := (mm_xr_n w4 q19 (mm_top i_2) (by decide))
        have w23 : mm_xr 3 i_12 i_13 i_14 i_12 i_13 i_14 i_0 i_1 i_2 := (mm_xr_n w4 q19 (mm_top i_2) (by decide))
        subst hAe
        rw [hQ]
        exact W.iret (v := (-2)) hx hb hr (fun t ht hW => ⟨⟨(-2), (i_3, i_4, i_5, f_0, i_6, i_7, i_8, f_1, i_9, i_10, i_11, f_2, i_12, i_13, i_14, f_3), rfl, ⟨h0, h1, h2, h3, h4, h5, h6, h7, h8, h9, h10, h11, w20, w21, w22, w23, (Or.inr (Or.inr (Or.inl ⟨rfl, w4, q19⟩)))⟩, by rw [ht]; exact hP, hK.warm hW, hD⟩, hS.F ht⟩) hS.2.2 dX11_row_24
      · have q24 := mm_leR (mm_nlt c18) mm_k0 (mm_top i_1)
        refine lv_iload_n hx hb dX11_row_11 rfl (lv_at hl 2 rfl) ?_
        refine lv_iconst (v := 3) hx hb dX11_row_12 (by decide) ?_
        refine lv_icmp_gt (tgt := 22) hx hb dX11_row_13 (by decide) (fun c25 => ?_) (fun c25 => ?_)
        · have q26 := mm_ltR (lo := 4) (mm_lt c25) mm_k3 q24 (by decide)
          refine lv_bipush (v := (-2)) hx hb dX11_row_22 (by decide) ?_
          have w27 : mm_xr 0 i_3 i_4 i_5 i_3 i_4 i_5 i_0 i_1 i_2 := (mm_xr_n w4 q26 (mm_top i_2) (by decide))
          have w28 : mm_xr 1 i_6 i_7 i_8 i_6 i_7 i_8 i_0 i_1 i_2 := (mm_xr_n w4 q26 (mm_top i_2) (by decide))
          have w29 : mm_xr 2 i_9 i_10 i_11 i_9 i_10 i_11 i_0 i_1 i_2 := (mm_xr_n w4 q26 (mm_top i_2) (by decide))
          have w30 : mm_xr 3 i_12 i_13 i_14 i_12 i_13 i_14 i_0 i_1 i_2 := (mm_xr_n w4 q26 (mm_top i_2) (by decide))
          subst hAe
          rw [hQ]
          exact W.iret (v := (-2)) hx hb hr (fun t ht hW => ⟨⟨(-2), (i_3, i_4, i_5, f_0, i_6, i_7, i_8, f_1, i_9, i_10, i_11, f_2, i_12, i_13, i_14, f_3), rfl, ⟨h0, h1, h2, h3, h4, h5, h6, h7, h8, h9, h10, h11, w27, w28, w29, w30, (Or.inr (Or.inr (Or.inr (Or.inl ⟨rfl, w4, q26⟩))))⟩, by rw [ht]; exact hP, hK.warm hW, hD⟩, hS.F ht⟩) hS.2.2 dX11_row_24
        · have q31 := mm_leL (mm_nlt c25) q24 mm_k3
          refine lv_iload_n hx hb dX11_row_16 rfl (lv_at hl 3 rfl) ?_
          refine lv_bipush (v := 60) hx hb dX11_row_17 (by decide) ?_
          refine lv_icmp_le (tgt := 25) hx hb dX11_row_19 (by decide) (fun c32 => ?_) (fun c32 => ?_)
          · have q33 := mm_leL (mm_le c32) (mm_top i_2) mm_k60
            refine lv_iload_n hx hb dX11_row_25 rfl (lv_at hl 3 rfl) ?_
            refine lv_if_ge (tgt := 32) hx hb dX11_row_26 (by decide) (fun c34 => ?_) (fun c34 => ?_)
            · have q35 := mm_leR (mm_le c34) mm_k0 q33
              refine lv_aload_n hx hb dX11_row_32 rfl (lv_at hl 0 rfl) ?_
              refine va_get (D := G) (ci := 11) (v := .ref a_6) (C := RX11) (T := TX11) (N := 11) hx hb hts (mm_i inlX11) hown hK.1 hP 0 rfl rfl 5 (by decide) (mm_h hts mm_w32) (fun _ h9 => h9) rfl dX11_row_33 ?_
              refine lv_iload_n hx hb dX11_row_36 rfl (lv_at hl 1 rfl) ?_
              refine va_aldq hx hb hK.1 hP 1 6 rfl rfl (mm_in w4 (by decide)) dX11_row_37 ?_
              have c36 := mm_cases4 w4
              rcases c36 with rfl | rfl | rfl | rfl
              · refine W.eq (g2 := F0 m 38 ls [.ref a_12]) rfl ?_
                refine lv_iload_n hx hb dX11_row_38 rfl (lv_at hl 2 rfl) ?_
                refine lv_iload_n hx hb dX11_row_39 rfl (lv_at hl 3 rfl) ?_
                refine mm_finv (va_runV (As := [.int i_1, .int i_2]) (rest := []) ⟨hx, hb, hml, hown, hts⟩ (C545_X6_begin l G cy H.size a_12 i_1 i_2 i_3 i_4 i_5 a_16 f_0 q31 q35 h0 h1 h2) (cwV 2 hts (mm_gV mm_w1677 mm_w1678 mm_w1679 mm_w34 mm_w1680) rfl rfl rfl hd_X6_begin ⟨by rw [hRf]; exact Nat.le_of_ble_eq_true rfl, by rw [hRl]; exact Nat.le_of_ble_eq_true rfl⟩) (mm_preV hK hZ hS hA hP hD [2, 3] rfl rfl 2 rfl rfl rfl) rfl rfl hl.1 rfl (lv_room (Nat.le_of_ble_eq_true rfl)) dX11_row_40 ⟨by rw [hRc]; exact Nat.le_of_ble_eq_true rfl, by rw [hRs]; exact Nat.le_of_ble_eq_true rfl⟩) hP hD hS hA (fun u : Int32 × (Nat → Int64) => [(a_0, .inr (11, [.ref a_1, .ref a_2, .ref a_3, .ref a_4, .ref a_5, .ref a_6, .ref a_7, .ref a_8, .ref a_9, .ref a_10, .ref a_11])), (a_6, .inl (cy 6, 4, .inr (.inr (.inr (.inr (va_up (va_up (va_up (va_up (fun _ => none) 0 (some a_12)) 1 (some a_13)) 2 (some a_14)) 3 (some a_15))))))), (a_12, .inr (6, [.int 1, .int i_1, .int u.1, .ref a_16])), (a_16, .inl (cy 2, 60, .inr (.inl u.2))), (a_13, .inr (6, [.int i_6, .int i_7, .int i_8, .ref a_17])), (a_17, .inl (cy 2, 60, .inr (.inl f_1))), (a_14, .inr (6, [.int i_9, .int i_10, .int i_11, .ref a_18])), (a_18, .inl (cy 2, 60, .inr (.inl f_2))), (a_15, .inr (6, [.int i_12, .int i_13, .int i_14, .ref a_19])), (a_19, .inl (cy 2, 60, .inr (.inl f_3)))]) [2, 3] [0, 1, 4, 5, 6, 7, 8, 9] (n := 10) (fun _ => rfl) (by decide +kernel) (by decide +kernel) rfl (fun _ => rfl) (wr := [(a_0, .inr (11, [.ref a_1, .ref a_2, .ref a_3, .ref a_4, .ref a_5, .ref a_6, .ref a_7, .ref a_8, .ref a_9, .ref a_10, .ref a_11])), (a_6, .inl (cy 6, 4, .inr (.inr (.inr (.inr (va_up (va_up (va_up (va_up (fun _ => none) 0 (some a_12)) 1 (some a_13)) 2 (some a_14)) 3 (some a_15))))))), (a_13, .inr (6, [.int i_6, .int i_7, .int i_8, .ref a_17])), (a_17, .inl (cy 2, 60, .inr (.inl f_1))), (a_14, .inr (6, [.int i_9, .int i_10, .int i_11, .ref a_18])), (a_18, .inl (cy 2, 60, .inr (.inl f_2))), (a_15, .inr (6, [.int i_12, .int i_13, .int i_14, .ref a_19])), (a_19, .inl (cy 2, 60, .inr (.inl f_3)))]) rfl (fun _ => rfl) (fun _ => rfl) ?_
                clear hP hD hS
                clear H locs
                intro u
                obtain ⟨n37, n38⟩ := u
                intro H locs hw (hP : va_P G vwCl [(a_0, .inr (11, [.ref a_1, .ref a_2, .ref a_3, .ref a_4, .ref a_5, .ref a_6, .ref a_7, .ref a_8, .ref a_9, .ref a_10, .ref a_11])), (a_6, .inl (cy 6, 4, .inr (.inr (.inr (.inr (va_up (va_up (va_up (va_up (fun _ => none) 0 (some a_12)) 1 (some a_13)) 2 (some a_14)) 3 (some a_15))))))), (a_12, .inr (6, [.int 1, .int i_1, .int n37, .ref a_16])), (a_16, .inl (cy 2, 60, .inr (.inl n38))), (a_13, .inr (6, [.int i_6, .int i_7, .int i_8, .ref a_17])), (a_17, .inl (cy 2, 60, .inr (.inl f_1))), (a_14, .inr (6, [.int i_9, .int i_10, .int i_11, .ref a_18])), (a_18, .inl (cy 2, 60, .inr (.inl f_2))), (a_15, .inr (6, [.int i_12, .int i_13, .int i_14, .ref a_19])), (a_19, .inl (cy 2, 60, .inr (.inl f_3)))] H) (hD : va_D A [(a_0, .inr (11, [.ref a_1, .ref a_2, .ref a_3, .ref a_4, .ref a_5, .ref a_6, .ref a_7, .ref a_8, .ref a_9, .ref a_10, .ref a_11])), (a_6, .inl (cy 6, 4, .inr (.inr (.inr (.inr (va_up (va_up (va_up (va_up (fun _ => none) 0 (some a_12)) 1 (some a_13)) 2 (some a_14)) 3 (some a_15))))))), (a_12, .inr (6, [.int 1, .int i_1, .int n37, .ref a_16])), (a_16, .inl (cy 2, 60, .inr (.inl n38))), (a_13, .inr (6, [.int i_6, .int i_7, .int i_8, .ref a_17])), (a_17, .inl (cy 2, 60, .inr (.inl f_1))), (a_14, .inr (6, [.int i_9, .int i_10, .int i_11, .ref a_18])), (a_18, .inl (cy 2, 60, .inr (.inl f_2))), (a_15, .inr (6, [.int i_12, .int i_13, .int i_14, .ref a_19])), (a_19, .inl (cy 2, 60, .inr (.inl f_3)))]) hS
                obtain ⟨w39, w40⟩ := hw
                replace w40 : mm_mn i_2 n37 := w40
                refine lv_iconst (v := 0) hx hb dX11_row_43 (by decide) ?_
                have w41 : mm_xr 0 i_3 i_4 i_5 1 i_1 n37 0 i_1 i_2 := (mm_xr_y w40 mm_k0 q31 q35 (by decide))
                have w42 : mm_xr 1 i_6 i_7 i_8 i_6 i_7 i_8 0 i_1 i_2 := (mm_xr_n mm_k0 q31 q35 (by decide))
                have w43 : mm_xr 2 i_9 i_10 i_11 i_9 i_10 i_11 0 i_1 i_2 := (mm_xr_n mm_k0 q31 q35 (by decide))
                have w44 : mm_xr 3 i_12 i_13 i_14 i_12 i_13 i_14 0 i_1 i_2 := (mm_xr_n mm_k0 q31 q35 (by decide))
                subst hAe
                rw [hQ]
                exact W.iret (v := 0) hx hb hr (fun t ht hW => ⟨⟨0, (1, i_1, n37, n38, i_6, i_7, i_8, f_1, i_9, i_10, i_11, f_2, i_12, i_13, i_14, f_3), rfl, ⟨(mm_wk mm_k1 (by decide)), q31, w39, h3, h4, h5, h6, h7, h8, h9, h10, h11, w41, w42, w43, w44, (Or.inr (Or.inr (Or.inr (Or.inr (Or.inl ⟨rfl, (mm_wk mm_k0 (by decide)), q31, q35⟩)))))⟩, by rw [ht]; exact hP, hK.warm hW, hD⟩, hS.F ht⟩) hS.2.2 dX11_row_44
              · refine W.eq (g2 := F0 m 38 ls [.ref a_13]) rfl ?_
                refine lv_iload_n hx hb dX11_row_38 rfl (lv_at hl 2 rfl) ?_
                refine lv_iload_n hx hb dX11_row_39 rfl (lv_at hl 3 rfl) ?_
                refine mm_finv (va_runV (As := [.int i_1, .int i_2]) (rest := []) ⟨hx, hb, hml, hown, hts⟩ (C545_X6_begin l G cy H.size a_13 i_1 i_2 i_6 i_7 i_8 a_17 f_1 q31 q35 h3 h4 h5) (cwV 2 hts (mm_gV mm_w1677 mm_w1678 mm_w1679 mm_w34 mm_w1680) rfl rfl rfl hd_X6_begin ⟨by rw [hRf]; exact Nat.le_of_ble_eq_true rfl, by rw [hRl]; exact Nat.le_of_ble_eq_true rfl⟩) (mm_preV hK hZ hS hA hP hD [4, 5] rfl rfl 4 rfl rfl rfl) rfl rfl hl.1 rfl (lv_room (Nat.le_of_ble_eq_true rfl)) dX11_row_40 ⟨by rw [hRc]; exact Nat.le_of_ble_eq_true rfl, by rw [hRs]; exact Nat.le_of_ble_eq_true rfl⟩) hP hD hS hA (fun u : Int32 × (Nat → Int64) => [(a_0, .inr (11, [.ref a_1, .ref a_2, .ref a_3, .ref a_4, .ref a_5, .ref a_6, .ref a_7, .ref a_8, .ref a_9, .ref a_10, .ref a_11])), (a_6, .inl (cy 6, 4, .inr (.inr (.inr (.inr (va_up (va_up (va_up (va_up (fun _ => none) 0 (some a_12)) 1 (some a_13)) 2 (some a_14)) 3 (some a_15))))))), (a_12, .inr (6, [.int i_3, .int i_4, .int i_5, .ref a_16])), (a_16, .inl (cy 2, 60, .inr (.inl f_0))), (a_13, .inr (6, [.int 1, .int i_1, .int u.1, .ref a_17])), (a_17, .inl (cy 2, 60, .inr (.inl u.2))), (a_14, .inr (6, [.int i_9, .int i_10, .int i_11, .ref a_18])), (a_18, .inl (cy 2, 60, .inr (.inl f_2))), (a_15, .inr (6, [.int i_12, .int i_13, .int i_14, .ref a_19])), (a_19, .inl (cy 2, 60, .inr (.inl f_3)))]) [4, 5] [0, 1, 2, 3, 6, 7, 8, 9] (n := 10) (fun _ => rfl) (by decide +kernel) (by decide +kernel) rfl (fun _ => rfl) (wr := [(a_0, .inr (11, [.ref a_1, .ref a_2, .ref a_3, .ref a_4, .ref a_5, .ref a_6, .ref a_7, .ref a_8, .ref a_9, .ref a_10, .ref a_11])), (a_6, .inl (cy 6, 4, .inr (.inr (.inr (.inr (va_up (va_up (va_up (va_up (fun _ => none) 0 (some a_12)) 1 (some a_13)) 2 (some a_14)) 3 (some a_15))))))), (a_12, .inr (6, [.int i_3, .int i_4, .int i_5, .ref a_16])), (a_16, .inl (cy 2, 60, .inr (.inl f_0))), (a_14, .inr (6, [.int i_9, .int i_10, .int i_11, .ref a_18])), (a_18, .inl (cy 2, 60, .inr (.inl f_2))), (a_15, .inr (6, [.int i_12, .int i_13, .int i_14, .ref a_19])), (a_19, .inl (cy 2, 60, .inr (.inl f_3)))]) rfl (fun _ => rfl) (fun _ => rfl) ?_
                clear hP hD hS
                clear H locs
                intro u
                obtain ⟨n45, n46⟩ := u
                intro H locs hw (hP : va_P G vwCl [(a_0, .inr (11, [.ref a_1, .ref a_2, .ref a_3, .ref a_4, .ref a_5, .ref a_6, .ref a_7, .ref a_8, .ref a_9, .ref a_10, .ref a_11])), (a_6, .inl (cy 6, 4, .inr (.inr (.inr (.inr (va_up (va_up (va_up (va_up (fun _ => none) 0 (some a_12)) 1 (some a_13)) 2 (some a_14)) 3 (some a_15))))))), (a_12, .inr (6, [.int i_3, .int i_4, .int i_5, .ref a_16])), (a_16, .inl (cy 2, 60, .inr (.inl f_0))), (a_13, .inr (6, [.int 1, .int i_1, .int n45, .ref a_17])), (a_17, .inl (cy 2, 60, .inr (.inl n46))), (a_14, .inr (6, [.int i_9, .int i_10, .int i_11, .ref a_18])), (a_18, .inl (cy 2, 60, .inr (.inl f_2))), (a_15, .inr (6, [.int i_12, .int i_13, .int i_14, .ref a_19])), (a_19, .inl (cy 2, 60, .inr (.inl f_3)))] H) (hD : va_D A [(a_0, .inr (11, [.ref a_1, .ref a_2, .ref a_3, .ref a_4, .ref a_5, .ref a_6, .ref a_7, .ref a_8, .ref a_9, .ref a_10, .ref a_11])), (a_6, .inl (cy 6, 4, .inr (.inr (.inr (.inr (va_up (va_up (va_up (va_up (fun _ => none) 0 (some a_12)) 1 (some a_13)) 2 (some a_14)) 3 (some a_15))))))), (a_12, .inr (6, [.int i_3, .int i_4, .int i_5, .ref a_16])), (a_16, .inl (cy 2, 60, .inr (.inl f_0))), (a_13, .inr (6, [.int 1, .int i_1, .int n45, .ref a_17])), (a_17, .inl (cy 2, 60, .inr (.inl n46))), (a_14, .inr (6, [.int i_9, .int i_10, .int i_11, .ref a_18])), (a_18, .inl (cy 2, 60, .inr (.inl f_2))), (a_15, .inr (6, [.int i_12, .int i_13, .int i_14, .ref a_19])), (a_19, .inl (cy 2, 60, .inr (.inl f_3)))]) hS
                obtain ⟨w47, w48⟩ := hw
                replace w48 : mm_mn i_2 n45 := w48
                refine lv_iconst (v := 0) hx hb dX11_row_43 (by decide) ?_
                have w49 : mm_xr 0 i_3 i_4 i_5 i_3 i_4 i_5 1 i_1 i_2 := (mm_xr_n mm_k1 q31 q35 (by decide))
                have w50 : mm_xr 1 i_6 i_7 i_8 1 i_1 n45 1 i_1 i_2 := (mm_xr_y w48 mm_k1 q31 q35 (by decide))
                have w51 : mm_xr 2 i_9 i_10 i_11 i_9 i_10 i_11 1 i_1 i_2 := (mm_xr_n mm_k1 q31 q35 (by decide))
                have w52 : mm_xr 3 i_12 i_13 i_14 i_12 i_13 i_14 1 i_1 i_2 := (mm_xr_n mm_k1 q31 q35 (by decide))
                subst hAe
                rw [hQ]
                exact W.iret (v := 0) hx hb hr (fun t ht hW => ⟨⟨0, (i_3, i_4, i_5, f_0, 1, i_1, n45, n46, i_9, i_10, i_11, f_2, i_12, i_13, i_14, f_3), rfl, ⟨h0, h1, h2, (mm_wk mm_k1 (by decide)), q31, w47, h6, h7, h8, h9, h10, h11, w49, w50, w51, w52, (Or.inr (Or.inr (Or.inr (Or.inr (Or.inl ⟨rfl, (mm_wk mm_k1 (by decide)), q31, q35⟩)))))⟩, by rw [ht]; exact hP, hK.warm hW, hD⟩, hS.F ht⟩) hS.2.2 dX11_row_44
              · refine W.eq (g2 := F0 m 38 ls [.ref a_14]) rfl ?_
                refine lv_iload_n hx hb dX11_row_38 rfl (lv_at hl 2 rfl) ?_
                refine lv_iload_n hx hb dX11_row_39 rfl (lv_at hl 3 rfl) ?_
                refine mm_finv (va_runV (As := [.int i_1, .int i_2]) (rest := []) ⟨hx, hb, hml, hown, hts⟩ (C545_X6_begin l G cy H.size a_14 i_1 i_2 i_9 i_10 i_11 a_18 f_2 q31 q35 h6 h7 h8) (cwV 2 hts (mm_gV mm_w1677 mm_w1678 mm_w1679 mm_w34 mm_w1680) rfl rfl rfl hd_X6_begin ⟨by rw [hRf]; exact Nat.le_of_ble_eq_true rfl, by rw [hRl]; exact Nat.le_of_ble_eq_true rfl⟩) (mm_preV hK hZ hS hA hP hD [6, 7] rfl rfl 6 rfl rfl rfl) rfl rfl hl.1 rfl (lv_room (Nat.le_of_ble_eq_true rfl)) dX11_row_40 ⟨by rw [hRc]; exact Nat.le_of_ble_eq_true rfl, by rw [hRs]; exact Nat.le_of_ble_eq_true rfl⟩) hP hD hS hA (fun u : Int32 × (Nat → Int64) => [(a_0, .inr (11, [.ref a_1, .ref a_2, .ref a_3, .ref a_4, .ref a_5, .ref a_6, .ref a_7, .ref a_8, .ref a_9, .ref a_10, .ref a_11])), (a_6, .inl (cy 6, 4, .inr (.inr (.inr (.inr (va_up (va_up (va_up (va_up (fun _ => none) 0 (some a_12)) 1 (some a_13)) 2 (some a_14)) 3 (some a_15))))))), (a_12, .inr (6, [.int i_3, .int i_4, .int i_5, .ref a_16])), (a_16, .inl (cy 2, 60, .inr (.inl f_0))), (a_13, .inr (6, [.int i_6, .int i_7, .int i_8, .ref a_17])), (a_17, .inl (cy 2, 60, .inr (.inl f_1))), (a_14, .inr (6, [.int 1, .int i_1, .int u.1, .ref a_18])), (a_18, .inl (cy 2, 60, .inr (.inl u.2))), (a_15, .inr (6, [.int i_12, .int i_13, .int i_14, .ref a_19])), (a_19, .inl (cy 2, 60, .inr (.inl f_3)))]) [6, 7] [0, 1, 2, 3, 4, 5, 8, 9] (n := 10) (fun _ => rfl) (by decide +kernel) (by decide +kernel) rfl (fun _ => rfl) (wr := [(a_0, .inr (11, [.ref a_1, .ref a_2, .ref a_3, .ref a_4, .ref a_5, .ref a_6, .ref a_7, .ref a_8, .ref a_9, .ref a_10, .ref a_11])), (a_6, .inl (cy 6, 4, .inr (.inr (.inr (.inr (va_up (va_up (va_up (va_up (fun _ => none) 0 (some a_12)) 1 (some a_13)) 2 (some a_14)) 3 (some a_15))))))), (a_12, .inr (6, [.int i_3, .int i_4, .int i_5, .ref a_16])), (a_16, .inl (cy 2, 60, .inr (.inl f_0))), (a_13, .inr (6, [.int i_6, .int i_7, .int i_8, .ref a_17])), (a_17, .inl (cy 2, 60, .inr (.inl f_1))), (a_15, .inr (6, [.int i_12, .int i_13, .int i_14, .ref a_19])), (a_19, .inl (cy 2, 60, .inr (.inl f_3)))]) rfl (fun _ => rfl) (fun _ => rfl) ?_
                clear hP hD hS
                clear H locs
                intro u
                obtain ⟨n53, n54⟩ := u
                intro H locs hw (hP : va_P G vwCl [(a_0, .inr (11, [.ref a_1, .ref a_2, .ref a_3, .ref a_4, .ref a_5, .ref a_6, .ref a_7, .ref a_8, .ref a_9, .ref a_10, .ref a_11])), (a_6, .inl (cy 6, 4, .inr (.inr (.inr (.inr (va_up (va_up (va_up (va_up (fun _ => none) 0 (some a_12)) 1 (some a_13)) 2 (some a_14)) 3 (some a_15))))))), (a_12, .inr (6, [.int i_3, .int i_4, .int i_5, .ref a_16])), (a_16, .inl (cy 2, 60, .inr (.inl f_0))), (a_13, .inr (6, [.int i_6, .int i_7, .int i_8, .ref a_17])), (a_17, .inl (cy 2, 60, .inr (.inl f_1))), (a_14, .inr (6, [.int 1, .int i_1, .int n53, .ref a_18])), (a_18, .inl (cy 2, 60, .inr (.inl n54))), (a_15, .inr (6, [.int i_12, .int i_13, .int i_14, .ref a_19])), (a_19, .inl (cy 2, 60, .inr (.inl f_3)))] H) (hD : va_D A [(a_0, .inr (11, [.ref a_1, .ref a_2, .ref a_3, .ref a_4, .ref a_5, .ref a_6, .ref a_7, .ref a_8, .ref a_9, .ref a_10, .ref a_11])), (a_6, .inl (cy 6, 4, .inr (.inr (.inr (.inr (va_up (va_up (va_up (va_up (fun _ => none) 0 (some a_12)) 1 (some a_13)) 2 (some a_14)) 3 (some a_15))))))), (a_12, .inr (6, [.int i_3, .int i_4, .int i_5, .ref a_16])), (a_16, .inl (cy 2, 60, .inr (.inl f_0))), (a_13, .inr (6, [.int i_6, .int i_7, .int i_8, .ref a_17])), (a_17, .inl (cy 2, 60, .inr (.inl f_1))), (a_14, .inr (6, [.int 1, .int i_1, .int n53, .ref a_18])), (a_18, .inl (cy 2, 60, .inr (.inl n54))), (a_15, .inr (6, [.int i_12, .int i_13, .int i_14, .ref a_19])), (a_19, .inl (cy 2, 60, .inr (.inl f_3)))]) hS
                obtain ⟨w55, w56⟩ := hw
                replace w56 : mm_mn i_2 n53 := w56
                refine lv_iconst (v := 0) hx hb dX11_row_43 (by decide) ?_
                have w57 : mm_xr 0 i_3 i_4 i_5 i_3 i_4 i_5 2 i_1 i_2 := (mm_xr_n mm_k2 q31 q35 (by decide))
                have w58 : mm_xr 1 i_6 i_7 i_8 i_6 i_7 i_8 2 i_1 i_2 := (mm_xr_n mm_k2 q31 q35 (by decide))
                have w59 : mm_xr 2 i_9 i_10 i_11 1 i_1 n53 2 i_1 i_2 := (mm_xr_y w56 mm_k2 q31 q35 (by decide))
                have w60 : mm_xr 3 i_12 i_13 i_14 i_12 i_13 i_14 2 i_1 i_2 := (mm_xr_n mm_k2 q31 q35 (by decide))
                subst hAe
                rw [hQ]
                exact W.iret (v := 0) hx hb hr (fun t ht hW => ⟨⟨0, (i_3, i_4, i_5, f_0, i_6, i_7, i_8, f_1, 1, i_1, n53, n54, i_12, i_13, i_14, f_3), rfl, ⟨h0, h1, h2, h3, h4, h5, (mm_wk mm_k1 (by decide)), q31, w55, h9, h10, h11, w57, w58, w59, w60, (Or.inr (Or.inr (Or.inr (Or.inr (Or.inl ⟨rfl, (mm_wk mm_k2 (by decide)), q31, q35⟩)))))⟩, by rw [ht]; exact hP, hK.warm hW, hD⟩, hS.F ht⟩) hS.2.2 dX11_row_44
              · refine W.eq (g2 := F0 m 38 ls [.ref a_15]) rfl ?_
                refine lv_iload_n hx hb dX11_row_38 rfl (lv_at hl 2 rfl) ?_
                refine lv_iload_n hx hb dX11_row_39 rfl (lv_at hl 3 rfl) ?_
                refine mm_finv (va_runV (As := [.int i_1, .int i_2]) (rest := []) ⟨hx, hb, hml, hown, hts⟩ (C545_X6_begin l G cy H.size a_15 i_1 i_2 i_12 i_13 i_14 a_19 f_3 q31 q35 h9 h10 h11) (cwV 2 hts (mm_gV mm_w1677 mm_w1678 mm_w1679 mm_w34 mm_w1680) rfl rfl rfl hd_X6_begin ⟨by rw [hRf]; exact Nat.le_of_ble_eq_true rfl, by rw [hRl]; exact Nat.le_of_ble_eq_true rfl⟩) (mm_preV hK hZ hS hA hP hD [8, 9] rfl rfl 8 rfl rfl rfl) rfl rfl hl.1 rfl (lv_room (Nat.le_of_ble_eq_true rfl)) dX11_row_40 ⟨by rw [hRc]; exact Nat.le_of_ble_eq_true rfl, by rw [hRs]; exact Nat.le_of_ble_eq_true rfl⟩) hP hD hS hA (fun u : Int32 × (Nat → Int64) => [(a_0, .inr (11, [.ref a_1, .ref a_2, .ref a_3, .ref a_4, .ref a_5, .ref a_6, .ref a_7, .ref a_8, .ref a_9, .ref a_10, .ref a_11])), (a_6, .inl (cy 6, 4, .inr (.inr (.inr (.inr (va_up (va_up (va_up (va_up (fun _ => none) 0 (some a_12)) 1 (some a_13)) 2 (some a_14)) 3 (some a_15))))))), (a_12, .inr (6, [.int i_3, .int i_4, .int i_5, .ref a_16])), (a_16, .inl (cy 2, 60, .inr (.inl f_0))), (a_13, .inr (6, [.int i_6, .int i_7, .int i_8, .ref a_17])), (a_17, .inl (cy 2, 60, .inr (.inl f_1))), (a_14, .inr (6, [.int i_9, .int i_10, .int i_11, .ref a_18])), (a_18, .inl (cy 2, 60, .inr (.inl f_2))), (a_15, .inr (6, [.int 1, .int i_1, .int u.1, .ref a_19])), (a_19, .inl (cy 2, 60, .inr (.inl u.2)))]) [8, 9] [0, 1, 2, 3, 4, 5, 6, 7] (n := 10) (fun _ => rfl) (by decide +kernel) (by decide +kernel) rfl (fun _ => rfl) (wr := [(a_0, .inr (11, [.ref a_1, .ref a_2, .ref a_3, .ref a_4, .ref a_5, .ref a_6, .ref a_7, .ref a_8, .ref a_9, .ref a_10, .ref a_11])), (a_6, .inl (cy 6, 4, .inr (.inr (.inr (.inr (va_up (va_up (va_up (va_up (fun _ => none) 0 (some a_12)) 1 (some a_13)) 2 (some a_14)) 3 (some a_15))))))), (a_12, .inr (6, [.int i_3, .int i_4, .int i_5, .ref a_16])), (a_16, .inl (cy 2, 60, .inr (.inl f_0))), (a_13, .inr (6, [.int i_6, .int i_7, .int i_8, .ref a_17])), (a_17, .inl (cy 2, 60, .inr (.inl f_1))), (a_14, .inr (6, [.int i_9, .int i_10, .int i_11, .ref a_18])), (a_18, .inl (cy 2, 60, .inr (.inl f_2)))]) rfl (fun _ => rfl) (fun _ => rfl) ?_
                clear hP hD hS
                clear H locs
                intro u
                obtain ⟨n61, n62⟩ := u
                intro H locs hw (hP : va_P G vwCl [(a_0, .inr (11, [.ref a_1, .ref a_2, .ref a_3, .ref a_4, .ref a_5, .ref a_6, .ref a_7, .ref a_8, .ref a_9, .ref a_10, .ref a_11])), (a_6, .inl (cy 6, 4, .inr (.inr (.inr (.inr (va_up (va_up (va_up (va_up (fun _ => none) 0 (some a_12)) 1 (some a_13)) 2 (some a_14)) 3 (some a_15))))))), (a_12, .inr (6, [.int i_3, .int i_4, .int i_5, .ref a_16])), (a_16, .inl (cy 2, 60, .inr (.inl f_0))), (a_13, .inr (6, [.int i_6, .int i_7, .int i_8, .ref a_17])), (a_17, .inl (cy 2, 60, .inr (.inl f_1))), (a_14, .inr (6, [.int i_9, .int i_10, .int i_11, .ref a_18])), (a_18, .inl (cy 2, 60, .inr (.inl f_2))), (a_15, .inr (6, [.int 1, .int i_1, .int n61, .ref a_19])), (a_19, .inl (cy 2, 60, .inr (.inl n62)))] H) (hD : va_D A [(a_0, .inr (11, [.ref a_1, .ref a_2, .ref a_3, .ref a_4, .ref a_5, .ref a_6, .ref a_7, .ref a_8, .ref a_9, .ref a_10, .ref a_11])), (a_6, .inl (cy 6, 4, .inr (.inr (.inr (.inr (va_up (va_up (va_up (va_up (fun _ => none) 0 (some a_12)) 1 (some a_13)) 2 (some a_14)) 3 (some a_15))))))), (a_12, .inr (6, [.int i_3, .int i_4, .int i_5, .ref a_16])), (a_16, .inl (cy 2, 60, .inr (.inl f_0))), (a_13, .inr (6, [.int i_6, .int i_7, .int i_8, .ref a_17])), (a_17, .inl (cy 2, 60, .inr (.inl f_1))), (a_14, .inr (6, [.int i_9, .int i_10, .int i_11, .ref a_18])), (a_18, .inl (cy 2, 60, .inr (.inl f_2))), (a_15, .inr (6, [.int 1, .int i_1, .int n61, .ref a_19])), (a_19, .inl (cy 2, 60, .inr (.inl n62)))]) hS
                obtain ⟨w63, w64⟩ := hw
                replace w64 : mm_mn i_2 n61 := w64
                refine lv_iconst (v := 0) hx hb dX11_row_43 (by decide) ?_
                have w65 : mm_xr 0 i_3 i_4 i_5 i_3 i_4 i_5 3 i_1 i_2 := (mm_xr_n mm_k3 q31 q35 (by decide))
                have w66 : mm_xr 1 i_6 i_7 i_8 i_6 i_7 i_8 3 i_1 i_2 := (mm_xr_n mm_k3 q31 q35 (by decide))
                have w67 : mm_xr 2 i_9 i_10 i_11 i_9 i_10 i_11 3 i_1 i_2 := (mm_xr_n mm_k3 q31 q35 (by decide))
                have w68 : mm_xr 3 i_12 i_13 i_14 1 i_1 n61 3 i_1 i_2 := (mm_xr_y w64 mm_k3 q31 q35 (by decide))
                subst hAe
                rw [hQ]
                exact W.iret (v := 0) hx hb hr (fun t ht hW => ⟨⟨0, (i_3, i_4, i_5, f_0, i_6, i_7, i_8, f_1, i_9, i_10, i_11, f_2, 1, i_1, n61, n62), rfl, ⟨h0, h1, h2, h3, h4, h5, h6, h7, h8, (mm_wk mm_k1 (by decide)), q31, w63, w65, w66, w67, w68, (Or.inr (Or.inr (Or.inr (Or.inr (Or.inl ⟨rfl, (mm_wk mm_k3 (by decide)), q31, q35⟩)))))⟩, by rw [ht]; exact hP, hK.warm hW, hD⟩, hS.F ht⟩) hS.2.2 dX11_row_44
            · have q69 := mm_ltL (h := (-1)) (mm_nle c34) q33 mm_k0 (by decide)
              refine lv_bipush (v := (-3)) hx hb dX11_row_29 (by decide) ?_
              have w70 : mm_xr 0 i_3 i_4 i_5 i_3 i_4 i_5 i_0 i_1 i_2 := (mm_xr_n w4 q31 q69 (by decide))
              have w71 : mm_xr 1 i_6 i_7 i_8 i_6 i_7 i_8 i_0 i_1 i_2 := (mm_xr_n w4 q31 q69 (by decide))
              have w72 : mm_xr 2 i_9 i_10 i_11 i_9 i_10 i_11 i_0 i_1 i_2 := (mm_xr_n w4 q31 q69 (by decide))
              have w73 : mm_xr 3 i_12 i_13 i_14 i_12 i_13 i_14 i_0 i_1 i_2 := (mm_xr_n w4 q31 q69 (by decide))
              subst hAe
              rw [hQ]
              exact W.iret (v := (-3)) hx hb hr (fun t ht hW => ⟨⟨(-3), (i_3, i_4, i_5, f_0, i_6, i_7, i_8, f_1, i_9, i_10, i_11, f_2, i_12, i_13, i_14, f_3), rfl, ⟨h0, h1, h2, h3, h4, h5, h6, h7, h8, h9, h10, h11, w70, w71, w72, w73, (Or.inr (Or.inr (Or.inr (Or.inr (Or.inr (Or.inl ⟨rfl, w4, q31, q69⟩))))))⟩, by rw [ht]; exact hP, hK.warm hW, hD⟩, hS.F ht⟩) hS.2.2 dX11_row_31
          · have q74 := mm_ltR (lo := 61) (mm_nle c32) mm_k60 (mm_top i_2) (by decide)
            refine lv_bipush (v := (-2)) hx hb dX11_row_22 (by decide) ?_
            have w75 : mm_xr 0 i_3 i_4 i_5 i_3 i_4 i_5 i_0 i_1 i_2 := (mm_xr_n w4 q31 q74 (by decide))
            have w76 : mm_xr 1 i_6 i_7 i_8 i_6 i_7 i_8 i_0 i_1 i_2 := (mm_xr_n w4 q31 q74 (by decide))
            have w77 : mm_xr 2 i_9 i_10 i_11 i_9 i_10 i_11 i_0 i_1 i_2 := (mm_xr_n w4 q31 q74 (by decide))
            have w78 : mm_xr 3 i_12 i_13 i_14 i_12 i_13 i_14 i_0 i_1 i_2 := (mm_xr_n w4 q31 q74 (by decide))
            subst hAe
            rw [hQ]
            exact W.iret (v := (-2)) hx hb hr (fun t ht hW => ⟨⟨(-2), (i_3, i_4, i_5, f_0, i_6, i_7, i_8, f_1, i_9, i_10, i_11, f_2, i_12, i_13, i_14, f_3), rfl, ⟨h0, h1, h2, h3, h4, h5, h6, h7, h8, h9, h10, h11, w75, w76, w77, w78, (Or.inr (Or.inr (Or.inr (Or.inr (Or.inr (Or.inr ⟨rfl, w4, q31, q74⟩))))))⟩, by rw [ht]; exact hP, hK.warm hW, hD⟩, hS.F ht⟩) hS.2.2 dX11_row_24

set_option maxHeartbeats 4000000 in
set_option maxRecDepth 100000 in
theorem C547_X6_put (l : Launch) (G : va_G) (cy : Nat → ClassId) (sz : Nat) (a_0 : Nat) (i_0 : Int32) (j_0 : Int64) (i_1 : Int32) (i_2 : Int32) (i_3 : Int32) (a_1 : Nat) (f_0 : Nat → Int64) (h0 : mm_rg i_0 0 59) (h1 : mm_rg i_2 0 3)  : mm_CV l yX6_put (mm_ws yX6_put cX6_put 4 (none)) ({ frames := 0, cells := 0, slots := 0, locals := 0 } : Room) G cy sz [(a_0, .inr (6, [.int i_1, .int i_2, .int i_3, .ref a_1])), (a_1, .inl (cy 2, 60, .inr (.inl f_0)))] [.ref a_0, .int i_0, .long j_0] (fun u : Int32 × (Nat → Int64) => [(a_0, .inr (6, [.int i_1, .int u.1, .int i_3, .ref a_1])), (a_1, .inl (cy 2, 60, .inr (.inl u.2)))]) (fun u : Int32 × (Nat → Int64) => mm_rg u.1 0 3 ∧ u.1 = i_2) 0 0 := by
  refine mm_begin (lv := [(0, .ref a_0), (1, .int i_0), (2, .long j_0)]) (by decide) (Nat.le_of_ble_eq_true rfl) rfl ?_
  intro p e s m below meth c A ls R args Q H locs hRe hQ hAe hx hb hr hlocks hml hown hnm hts hsz hA hS hP hK hD hZ hl
  have hRf : R.frames = 0 := by rw [hRe]
  have hRl : R.locals = 0 := by rw [hRe]
  have hRc : R.cells = 0 := by rw [hRe]
  have hRs : R.slots = 0 := by rw [hRe]
  refine lv_aload_n hx hb dX6_put_0 rfl (lv_at hl 0 rfl) ?_
  refine va_get (D := G) (ci := 6) (v := .int i_2) (C := RX6) (T := TX6) (N := 4) hx hb hts (mm_i inlX6) hown hK.1 hP 0 rfl rfl 1 (by decide) (mm_h hts mm_w1682) (fun _ h9 => h9) rfl dX6_put_1 ?_
  rcases mm_out i_2 0 2 with c1 | c1 | c1
  · exact absurd c1 (by have := (h1).1; omega)
  · have q2 : mm_rg i_2 3 3 := ⟨by omega, (h1).2⟩
    refine lv_tableOut (tgt := 70) hx hb dX6_put_4 (Or.inr c1) (by decide) ?_
    refine lv_aload_n hx hb dX6_put_70 rfl (lv_at hl 0 rfl) ?_
    refine va_get (D := G) (ci := 6) (v := .ref a_1) (C := RX6) (T := TX6) (N := 4) hx hb hts (mm_i inlX6) hown hK.1 hP 0 rfl rfl 3 (by decide) (mm_h hts mm_w104) (fun _ h9 => h9) rfl dX6_put_71 ?_
    refine lv_iload_n hx hb dX6_put_74 rfl (lv_at hl 1 rfl) ?_
    refine lv_lload_n hx hb dX6_put_75 rfl (lv_at hl 2 rfl) ?_
    refine va_last hx hb hK.1 hP hD hS 1 2 rfl rfl (mm_in h0 (by decide)) dX6_put_76 ?_
    clear hP hD hS
    clear H locs
    obtain ⟨g3, eg3⟩ : ∃ z : Nat → Int64, z = vp_updL f_0 i_0.toNatClampNeg j_0 := ⟨_, rfl⟩
    rw [← eg3]
    intro H locs (hP : va_P G vwCl [(a_0, .inr (6, [.int i_1, .int i_2, .int i_3, .ref a_1])), (a_1, .inl (cy 2, 60, .inr (.inl g3)))] H) (hD : va_D A [(a_0, .inr (6, [.int i_1, .int i_2, .int i_3, .ref a_1])), (a_1, .inl (cy 2, 60, .inr (.inl g3)))]) hS
    subst hAe
    rw [hQ]
    exact W.vret hx hb hr (fun t ht hW => ⟨⟨(i_2, g3), rfl, ⟨(mm_wk q2 (by decide)), rfl⟩, by rw [ht]; exact hP, hK.warm hW, hD⟩, hS.F ht⟩) hS.2.2 dX6_put_77
  · have c4 := mm_cases3 c1
    rcases c4 with rfl | rfl | rfl
    · refine lv_tableIn (tgt := 32) hx hb dX6_put_4 (by decide) (by decide) rfl (by decide) ?_
      refine lv_aload_n hx hb dX6_put_32 rfl (lv_at hl 0 rfl) ?_
      refine va_get (D := G) (ci := 6) (v := .ref a_1) (C := RX6) (T := TX6) (N := 4) hx hb hts (mm_i inlX6) hown hK.1 hP 0 rfl rfl 3 (by decide) (mm_h hts mm_w104) (fun _ h9 => h9) rfl dX6_put_33 ?_
      refine lv_iload_n hx hb dX6_put_36 rfl (lv_at hl 1 rfl) ?_
      refine lv_lload_n hx hb dX6_put_37 rfl (lv_at hl 2 rfl) ?_
      obtain ⟨v5, ev5⟩ : ∃ y : Int32, y = j_0.toInt32 := ⟨_, rfl⟩
      refine lv_l2i hx hb dX6_put_38 ev5.symm ?_
      obtain ⟨v6, ev6⟩ : ∃ y : Int32, y = v5.toInt8.toInt32 := ⟨_, rfl⟩
      refine lv_i2b hx hb dX6_put_39 ev6.symm ?_
      have rv6 : mm_rg v6 (-128) 127 := mm_i2b ev6
      obtain ⟨v7, ev7⟩ : ∃ y : Int64, y = v6.toInt64 := ⟨_, rfl⟩
      refine lv_i2l hx hb dX6_put_40 ev7.symm ?_
      have rv7 : mm_rl v7 (-128) 127 := mm_i2l ev7 rv6
      refine va_last hx hb hK.1 hP hD hS 1 2 rfl rfl (mm_in h0 (by decide)) dX6_put_41 ?_
      clear hP hD hS
      clear H locs
      obtain ⟨g8, eg8⟩ : ∃ z : Nat → Int64, z = vp_updL f_0 i_0.toNatClampNeg v7 := ⟨_, rfl⟩
      rw [← eg8]
      intro H locs (hP : va_P G vwCl [(a_0, .inr (6, [.int i_1, .int 0, .int i_3, .ref a_1])), (a_1, .inl (cy 2, 60, .inr (.inl g8)))] H) (hD : va_D A [(a_0, .inr (6, [.int i_1, .int 0, .int i_3, .ref a_1])), (a_1, .inl (cy 2, 60, .inr (.inl g8)))]) hS
      refine lv_goto (tgt := 77) hx hb dX6_put_42 (by decide) ?_
      subst hAe
      rw [hQ]
      exact W.vret hx hb hr (fun t ht hW => ⟨⟨(0, g8), rfl, ⟨(mm_wk mm_k0 (by decide)), rfl⟩, by rw [ht]; exact hP, hK.warm hW, hD⟩, hS.F ht⟩) hS.2.2 dX6_put_77
    · refine lv_tableIn (tgt := 45) hx hb dX6_put_4 (by decide) (by decide) rfl (by decide) ?_
      refine lv_aload_n hx hb dX6_put_45 rfl (lv_at hl 0 rfl) ?_
      refine va_get (D := G) (ci := 6) (v := .ref a_1) (C := RX6) (T := TX6) (N := 4) hx hb hts (mm_i inlX6) hown hK.1 hP 0 rfl rfl 3 (by decide) (mm_h hts mm_w104) (fun _ h9 => h9) rfl dX6_put_46 ?_
      refine lv_iload_n hx hb dX6_put_49 rfl (lv_at hl 1 rfl) ?_
      refine lv_lload_n hx hb dX6_put_50 rfl (lv_at hl 2 rfl) ?_
      obtain ⟨v9, ev9⟩ : ∃ y : Int32, y = j_0.toInt32 := ⟨_, rfl⟩
      refine lv_l2i hx hb dX6_put_51 ev9.symm ?_
      obtain ⟨v10, ev10⟩ : ∃ y : Int32, y = v9.toInt16.toInt32 := ⟨_, rfl⟩
      refine lv_i2s hx hb dX6_put_52 ev10.symm ?_
      obtain ⟨v11, ev11⟩ : ∃ y : Int64, y = v10.toInt64 := ⟨_, rfl⟩
      refine lv_i2l hx hb dX6_put_53 ev11.symm ?_
      have rv11 : mm_rl v11 (-2147483648) 2147483647 := mm_i2l ev11 (mm_top v10)
      refine va_last hx hb hK.1 hP hD hS 1 2 rfl rfl (mm_in h0 (by decide)) dX6_put_54 ?_
      clear hP hD hS
      clear H locs
      obtain ⟨g12, eg12⟩ : ∃ z : Nat → Int64, z = vp_updL f_0 i_0.toNatClampNeg v11 := ⟨_, rfl⟩
      rw [← eg12]
      intro H locs (hP : va_P G vwCl [(a_0, .inr (6, [.int i_1, .int 1, .int i_3, .ref a_1])), (a_1, .inl (cy 2, 60, .inr (.inl g12)))] H) (hD : va_D A [(a_0, .inr (6, [.int i_1, .int 1, .int i_3, .ref a_1])), (a_1, .inl (cy 2, 60, .inr (.inl g12)))]) hS
      refine lv_goto (tgt := 77) hx hb dX6_put_55 (by decide) ?_
      subst hAe
      rw [hQ]
      exact W.vret hx hb hr (fun t ht hW => ⟨⟨(1, g12), rfl, ⟨(mm_wk mm_k1 (by decide)), rfl⟩, by rw [ht]; exact hP, hK.warm hW, hD⟩, hS.F ht⟩) hS.2.2 dX6_put_77
    · refine lv_tableIn (tgt := 58) hx hb dX6_put_4 (by decide) (by decide) rfl (by decide) ?_
      refine lv_aload_n hx hb dX6_put_58 rfl (lv_at hl 0 rfl) ?_
      refine va_get (D := G) (ci := 6) (v := .ref a_1) (C := RX6) (T := TX6) (N := 4) hx hb hts (mm_i inlX6) hown hK.1 hP 0 rfl rfl 3 (by decide) (mm_h hts mm_w104) (fun _ h9 => h9) rfl dX6_put_59 ?_
      refine lv_iload_n hx hb dX6_put_62 rfl (lv_at hl 1 rfl) ?_
      refine lv_lload_n hx hb dX6_put_63 rfl (lv_at hl 2 rfl) ?_
      obtain ⟨v13, ev13⟩ : ∃ y : Int32, y = j_0.toInt32 := ⟨_, rfl⟩
      refine lv_l2i hx hb dX6_put_64 ev13.symm ?_
      obtain ⟨v14, ev14⟩ : ∃ y : Int64, y = v13.toInt64 := ⟨_, rfl⟩
      refine lv_i2l hx hb dX6_put_65 ev14.symm ?_
      have rv14 : mm_rl v14 (-2147483648) 2147483647 := mm_i2l ev14 (mm_top v13)
      refine va_last hx hb hK.1 hP hD hS 1 2 rfl rfl (mm_in h0 (by decide)) dX6_put_66 ?_
      clear hP hD hS
      clear H locs
      obtain ⟨g15, eg15⟩ : ∃ z : Nat → Int64, z = vp_updL f_0 i_0.toNatClampNeg v14 := ⟨_, rfl⟩
      rw [← eg15]
      intro H locs (hP : va_P G vwCl [(a_0, .inr (6, [.int i_1, .int 2, .int i_3, .ref a_1])), (a_1, .inl (cy 2, 60, .inr (.inl g15)))] H) (hD : va_D A [(a_0, .inr (6, [.int i_1, .int 2, .int i_3, .ref a_1])), (a_1, .inl (cy 2, 60, .inr (.inl g15)))]) hS
      refine lv_goto (tgt := 77) hx hb dX6_put_67 (by decide) ?_
      subst hAe
      rw [hQ]
      exact W.vret hx hb hr (fun t ht hW => ⟨⟨(2, g15), rfl, ⟨(mm_wk mm_k2 (by decide)), rfl⟩, by rw [ht]; exact hP, hK.warm hW, hD⟩, hS.F ht⟩) hS.2.2 dX6_put_77

set_option maxHeartbeats 4000000 in
set_option maxRecDepth 100000 in
theorem C548_X11_write (l : Launch) (G : va_G) (cy : Nat → ClassId) (sz : Nat) (a_0 : Nat) (i_0 : Int32) (i_1 : Int32) (j_0 : Int64) (a_1 : Nat) (a_2 : Nat) (a_3 : Nat) (a_4 : Nat) (a_5 : Nat) (a_6 : Nat) (a_7 : Nat) (a_8 : Nat) (a_9 : Nat) (a_10 : Nat) (a_11 : Nat) (a_12 : Nat) (a_13 : Nat) (a_14 : Nat) (a_15 : Nat) (i_2 : Int32) (i_3 : Int32) (i_4 : Int32) (a_16 : Nat) (f_0 : Nat → Int64) (i_5 : Int32) (i_6 : Int32) (i_7 : Int32) (a_17 : Nat) (f_1 : Nat → Int64) (i_8 : Int32) (i_9 : Int32) (i_10 : Int32) (a_18 : Nat) (f_2 : Nat → Int64) (i_11 : Int32) (i_12 : Int32) (i_13 : Int32) (a_19 : Nat) (f_3 : Nat → Int64) (h0 : mm_rg i_2 0 1) (h1 : mm_rg i_3 0 3) (h2 : mm_rg i_4 0 60) (h3 : mm_rg i_5 0 1) (h4 : mm_rg i_6 0 3) (h5 : mm_rg i_7 0 60) (h6 : mm_rg i_8 0 1) (h7 : mm_rg i_9 0 3) (h8 : mm_rg i_10 0 60) (h9 : mm_rg i_11 0 1) (h10 : mm_rg i_12 0 3) (h11 : mm_rg i_13 0 60)  : mm_CI l yX11_write (mm_ws yX11_write cX11_write 5 (some .int)) ({ frames := 1, cells := 0, slots := 0, locals := 23 } : Room) G cy sz [(a_0, .inr (11, [.ref a_1, .ref a_2, .ref a_3, .ref a_4, .ref a_5, .ref a_6, .ref a_7, .ref a_8, .ref a_9, .ref a_10, .ref a_11])), (a_6, .inl (cy 6, 4, .inr (.inr (.inr (.inr (va_up (va_up (va_up (va_up (fun _ => none) 0 (some a_12)) 1 (some a_13)) 2 (some a_14)) 3 (some a_15))))))), (a_12, .inr (6, [.int i_2, .int i_3, .int i_4, .ref a_16])), (a_16, .inl (cy 2, 60, .inr (.inl f_0))), (a_13, .inr (6, [.int i_5, .int i_6, .int i_7, .ref a_17])), (a_17, .inl (cy 2, 60, .inr (.inl f_1))), (a_14, .inr (6, [.int i_8, .int i_9, .int i_10, .ref a_18])), (a_18, .inl (cy 2, 60, .inr (.inl f_2))), (a_15, .inr (6, [.int i_11, .int i_12, .int i_13, .ref a_19])), (a_19, .inl (cy 2, 60, .inr (.inl f_3)))] [.ref a_0, .int i_0, .int i_1, .long j_0] (fun u : Int32 × (Nat → Int64) × Int32 × (Nat → Int64) × Int32 × (Nat → Int64) × Int32 × (Nat → Int64) => [(a_0, .inr (11, [.ref a_1, .ref a_2, .ref a_3, .ref a_4, .ref a_5, .ref a_6, .ref a_7, .ref a_8, .ref a_9, .ref a_10, .ref a_11])), (a_6, .inl (cy 6, 4, .inr (.inr (.inr (.inr (va_up (va_up (va_up (va_up (fun _ => none) 0 (some a_12)) 1 (some a_13)) 2 (some a_14)) 3 (some a_15))))))), (a_12, .inr (6, [.int i_2, .int u.1, .int i_4, .ref a_16])), (a_16, .inl (cy 2, 60, .inr (.inl u.2.1))), (a_13, .inr (6, [.int i_5, .int u.2.2.1, .int i_7, .ref a_17])), (a_17, .inl (cy 2, 60, .inr (.inl u.2.2.2.1))), (a_14, .inr (6, [.int i_8, .int u.2.2.2.2.1, .int i_10, .ref a_18])), (a_18, .inl (cy 2, 60, .inr (.inl u.2.2.2.2.2.1))), (a_15, .inr (6, [.int i_11, .int u.2.2.2.2.2.2.1, .int i_13, .ref a_19])), (a_19, .inl (cy 2, 60, .inr (.inl u.2.2.2.2.2.2.2)))]) (fun (r : Int32) (u : Int32 × (Nat → Int64) × Int32 × (Nat → Int64) × Int32 × (Nat → Int64) × Int32 × (Nat → Int64)) => mm_rg u.1 0 3 ∧ mm_rg u.2.2.1 0 3 ∧ mm_rg u.2.2.2.2.1 0 3 ∧ mm_rg u.2.2.2.2.2.2.1 0 3 ∧ u.1 = i_3 ∧ u.2.2.1 = i_6 ∧ u.2.2.2.2.1 = i_9 ∧ u.2.2.2.2.2.2.1 = i_12 ∧ (((-2) = r ∧ mm_rg i_0 (-2147483648) (-1)) ∨ ((-2) = r ∧ mm_rg i_0 4 2147483647) ∨ ((-7) = r ∧ mm_rg i_0 0 0 ∧ mm_rg i_1 (-2147483648) (-1) ∧ mm_rg i_2 1 1) ∨ (0 = r ∧ mm_rg i_0 0 0 ∧ mm_rg i_1 0 59 ∧ mm_rg i_2 1 1 ∧ (i_1 : Int32).toInt < (i_4 : Int32).toInt) ∨ ((-7) = r ∧ mm_rg i_0 0 0 ∧ mm_rg i_1 0 2147483647 ∧ mm_rg i_2 1 1 ∧ (i_4 : Int32).toInt ≤ (i_1 : Int32).toInt) ∨ ((-6) = r ∧ mm_rg i_0 0 0 ∧ mm_rg i_2 0 0) ∨ ((-7) = r ∧ mm_rg i_0 1 1 ∧ mm_rg i_1 (-2147483648) (-1) ∧ mm_rg i_5 1 1) ∨ (0 = r ∧ mm_rg i_0 1 1 ∧ mm_rg i_1 0 59 ∧ mm_rg i_5 1 1 ∧ (i_1 : Int32).toInt < (i_7 : Int32).toInt) ∨ ((-7) = r ∧ mm_rg i_0 1 1 ∧ mm_rg i_1 0 2147483647 ∧ mm_rg i_5 1 1 ∧ (i_7 : Int32).toInt ≤ (i_1 : Int32).toInt) ∨ ((-6) = r ∧ mm_rg i_0 1 1 ∧ mm_rg i_5 0 0) ∨ ((-7) = r ∧ mm_rg i_0 2 2 ∧ mm_rg i_1 (-2147483648) (-1) ∧ mm_rg i_8 1 1) ∨ (0 = r ∧ mm_rg i_0 2 2 ∧ mm_rg i_1 0 59 ∧ mm_rg i_8 1 1 ∧ (i_1 : Int32).toInt < (i_10 : Int32).toInt) ∨ ((-7) = r ∧ mm_rg i_0 2 2 ∧ mm_rg i_1 0 2147483647 ∧ mm_rg i_8 1 1 ∧ (i_10 : Int32).toInt ≤ (i_1 : Int32).toInt) ∨ ((-6) = r ∧ mm_rg i_0 2 2 ∧ mm_rg i_8 0 0) ∨ ((-7) = r ∧ mm_rg i_0 3 3 ∧ mm_rg i_1 (-2147483648) (-1) ∧ mm_rg i_11 1 1) ∨ (0 = r ∧ mm_rg i_0 3 3 ∧ mm_rg i_1 0 59 ∧ mm_rg i_11 1 1 ∧ (i_1 : Int32).toInt < (i_13 : Int32).toInt) ∨ ((-7) = r ∧ mm_rg i_0 3 3 ∧ mm_rg i_1 0 2147483647 ∧ mm_rg i_11 1 1 ∧ (i_13 : Int32).toInt ≤ (i_1 : Int32).toInt) ∨ ((-6) = r ∧ mm_rg i_0 3 3 ∧ mm_rg i_11 0 0))) 0 0 := by
  refine mm_begin (lv := [(0, .ref a_0), (1, .int i_0), (2, .int i_1), (3, .long j_0)]) (by decide) (Nat.le_of_ble_eq_true rfl) rfl ?_
  intro p e s m below meth c A ls R args Q H locs hRe hQ hAe hx hb hr hlocks hml hown hnm hts hsz hA hS hP hK hD hZ hl
  have hRf : R.frames = 1 := by rw [hRe]
  have hRl : R.locals = 23 := by rw [hRe]
  have hRc : R.cells = 0 := by rw [hRe]
  have hRs : R.slots = 0 := by rw [hRe]
  refine lv_iload_n hx hb dX11_write_0 rfl (lv_at hl 1 rfl) ?_
  refine mm_finir (va_runS (As := [.int i_0]) (rest := []) ⟨hx, hb, hml, hown, hts⟩ (C544_X11_isSlot l G cy H.size i_0 ) (va_cwS 1 hts (mm_gS mm_w1232 mm_w1233 mm_w2 mm_w1234) rfl rfl rfl hs_X11_isSlot ⟨by rw [hRf]; exact Nat.le_of_ble_eq_true rfl, by rw [hRl]; exact Nat.le_of_ble_eq_true rfl⟩) (mm_preS hK hZ hS hA hP hD [] rfl rfl) rfl rfl hl.1 rfl (lv_room (Nat.le_of_ble_eq_true rfl)) dX11_write_1 ⟨by rw [hRc]; exact Nat.le_of_ble_eq_true rfl, by rw [hRs]; exact Nat.le_of_ble_eq_true rfl⟩) hP hD hS hA [] rfl (fun _ => rfl) ?_
  clear hP hD hS
  clear H locs
  intro v1 _u H locs hw hP hD hS
  rcases hw with ⟨rfl, w2⟩ | ⟨rfl, w3⟩ | ⟨rfl, w4⟩
  · refine lv_if_ne (tgt := 10) hx hb dX11_write_4 (by decide) (fun c5 => ?_) (fun c5 => ?_)
    · have q6 := mm_neL (lo := 1) (mm_ne c5) mm_k0 mm_k0 (by decide) (by decide)
      exact mm_no q6 (by decide)
    · refine lv_bipush (v := (-2)) hx hb dX11_write_7 (by decide) ?_
      subst hAe
      rw [hQ]
      exact W.iret (v := (-2)) hx hb hr (fun t ht hW => ⟨⟨(-2), (i_3, f_0, i_6, f_1, i_9, f_2, i_12, f_3), rfl, ⟨h1, h4, h7, h10, rfl, rfl, rfl, rfl, (Or.inl ⟨rfl, w2⟩)⟩, by rw [ht]; exact hP, hK.warm hW, hD⟩, hS.F ht⟩) hS.2.2 dX11_write_9
  · refine lv_if_ne (tgt := 10) hx hb dX11_write_4 (by decide) (fun c7 => ?_) (fun c7 => ?_)
    · have q8 := mm_neL (lo := 1) (mm_ne c7) mm_k0 mm_k0 (by decide) (by decide)
      exact mm_no q8 (by decide)
    · refine lv_bipush (v := (-2)) hx hb dX11_write_7 (by decide) ?_
      subst hAe
      rw [hQ]
      exact W.iret (v := (-2)) hx hb hr (fun t ht hW => ⟨⟨(-2), (i_3, f_0, i_6, f_1, i_9, f_2, i_12, f_3), rfl, ⟨h1, h4, h7, h10, rfl, rfl, rfl, rfl, (Or.inr (Or.inl ⟨rfl, w3⟩))⟩, by rw [ht]; exact hP, hK.warm hW, hD⟩, hS.F ht⟩) hS.2.2 dX11_write_9
  · refine lv_if_ne (tgt := 10) hx hb dX11_write_4 (by decide) (fun c9 => ?_) (fun c9 => ?_)
    · refine lv_aload_n hx hb dX11_write_10 rfl (lv_at hl 0 rfl) ?_
      refine va_get (D := G) (ci := 11) (v := .ref a_6) (C := RX11) (T := TX11) (N := 11) hx hb hts (mm_i inlX11) hown hK.1 hP 0 rfl rfl 5 (by decide) (mm_h hts mm_w32) (fun _ h9 => h9) rfl dX11_write_11 ?_
      refine lv_iload_n hx hb dX11_write_14 rfl (lv_at hl 1 rfl) ?_
      refine va_aldq hx hb hK.1 hP 1 6 rfl rfl (mm_in w4 (by decide)) dX11_write_15 ?_
      have c10 := mm_cases4 w4
      rcases c10 with rfl | rfl | rfl | rfl
      · refine W.eq (g2 := F0 m 16 ls [.ref a_12]) rfl ?_
        refine va_get (D := G) (ci := 6) (v := .int i_2) (C := RX6) (T := TX6) (N := 4) hx hb hts (mm_i inlX6) hown hK.1 hP 2 rfl rfl 0 (by decide) (mm_h hts mm_w1239) (fun _ h9 => h9) rfl dX11_write_16 ?_
        refine lv_if_ne (tgt := 25) hx hb dX11_write_19 (by decide) (fun c11 => ?_) (fun c11 => ?_)
        · have q12 := mm_neL (lo := 1) (mm_ne c11) h0 mm_k0 (by decide) (by decide)
          refine lv_iload_n hx hb dX11_write_25 rfl (lv_at hl 2 rfl) ?_
          refine lv_if_lt (tgt := 42) hx hb dX11_write_26 (by decide) (fun c13 => ?_) (fun c13 => ?_)
          · have q14 := mm_ltL (h := (-1)) (mm_lt c13) (mm_top i_1) mm_k0 (by decide)
            refine lv_bipush (v := (-7)) hx hb dX11_write_42 (by decide) ?_
            subst hAe
            rw [hQ]
            exact W.iret (v := (-7)) hx hb hr (fun t ht hW => ⟨⟨(-7), (i_3, f_0, i_6, f_1, i_9, f_2, i_12, f_3), rfl, ⟨h1, h4, h7, h10, rfl, rfl, rfl, rfl, (Or.inr (Or.inr (Or.inl ⟨rfl, mm_k0, q14, q12⟩)))⟩, by rw [ht]; exact hP, hK.warm hW, hD⟩, hS.F ht⟩) hS.2.2 dX11_write_44
          · have q15 := mm_leR (mm_nlt c13) mm_k0 (mm_top i_1)
            refine lv_iload_n hx hb dX11_write_29 rfl (lv_at hl 2 rfl) ?_
            refine lv_aload_n hx hb dX11_write_30 rfl (lv_at hl 0 rfl) ?_
            refine va_get (D := G) (ci := 11) (v := .ref a_6) (C := RX11) (T := TX11) (N := 11) hx hb hts (mm_i inlX11) hown hK.1 hP 0 rfl rfl 5 (by decide) (mm_h hts mm_w32) (fun _ h9 => h9) rfl dX11_write_31 ?_
            refine lv_iload_n hx hb dX11_write_34 rfl (lv_at hl 1 rfl) ?_
            refine va_aldq hx hb hK.1 hP 1 6 rfl rfl (mm_in mm_k0 (by decide)) dX11_write_35 ?_
            refine W.eq (g2 := F0 m 36 ls [.ref a_12, .int i_1]) rfl ?_
            refine va_get (D := G) (ci := 6) (v := .int i_4) (C := RX6) (T := TX6) (N := 4) hx hb hts (mm_i inlX6) hown hK.1 hP 2 rfl rfl 2 (by decide) (mm_h hts mm_w1694) (fun _ h9 => h9) rfl dX11_write_36 ?_
            refine lv_icmp_lt (tgt := 45) hx hb dX11_write_39 (by decide) (fun c16 => ?_) (fun c16 => ?_)
            · have q17 := mm_ltL (h := 59) (mm_lt c16) q15 h2 (by decide)
              have q18 := mm_ltR (lo := 1) (mm_lt c16) q15 h2 (by decide)
              refine lv_aload_n hx hb dX11_write_45 rfl (lv_at hl 0 rfl) ?_
              refine va_get (D := G) (ci := 11) (v := .ref a_6) (C := RX11) (T := TX11) (N := 11) hx hb hts (mm_i inlX11) hown hK.1 hP 0 rfl rfl 5 (by decide) (mm_h hts mm_w32) (fun _ h9 => h9) rfl dX11_write_46 ?_
              refine lv_iload_n hx hb dX11_write_49 rfl (lv_at hl 1 rfl) ?_
              refine va_aldq hx hb hK.1 hP 1 6 rfl rfl (mm_in mm_k0 (by decide)) dX11_write_50 ?_
              refine W.eq (g2 := F0 m 51 ls [.ref a_12]) rfl ?_
              refine lv_iload_n hx hb dX11_write_51 rfl (lv_at hl 2 rfl) ?_
              refine lv_lload_n hx hb dX11_write_52 rfl (lv_at hl 3 rfl) ?_
              refine mm_finv (va_runV (As := [.int i_1, .long j_0]) (rest := []) ⟨hx, hb, hml, hown, hts⟩ (C547_X6_put l G cy H.size a_12 i_1 j_0 i_2 i_3 i_4 a_16 f_0 q17 h1) (cwV 2 hts (mm_gV mm_w1695 mm_w1696 mm_w1697 mm_w34 mm_w1698) rfl rfl rfl hd_X6_put ⟨by rw [hRf]; exact Nat.le_of_ble_eq_true rfl, by rw [hRl]; exact Nat.le_of_ble_eq_true rfl⟩) (mm_preV hK hZ hS hA hP hD [2, 3] rfl rfl 2 rfl rfl rfl) rfl rfl hl.1 rfl (lv_room (Nat.le_of_ble_eq_true rfl)) dX11_write_53 ⟨by rw [hRc]; exact Nat.le_of_ble_eq_true rfl, by rw [hRs]; exact Nat.le_of_ble_eq_true rfl⟩) hP hD hS hA (fun u : Int32 × (Nat → Int64) => [(a_0, .inr (11, [.ref a_1, .ref a_2, .ref a_3, .ref a_4, .ref a_5, .ref a_6, .ref a_7, .ref a_8, .ref a_9, .ref a_10, .ref a_11])), (a_6, .inl (cy 6, 4, .inr (.inr (.inr (.inr (va_up (va_up (va_up (va_up (fun _ => none) 0 (some a_12)) 1 (some a_13)) 2 (some a_14)) 3 (some a_15))))))), (a_12, .inr (6, [.int i_2, .int u.1, .int i_4, .ref a_16])), (a_16, .inl (cy 2, 60, .inr (.inl u.2))), (a_13, .inr (6, [.int i_5, .int i_6, .int i_7, .ref a_17])), (a_17, .inl (cy 2, 60, .inr (.inl f_1))), (a_14, .inr (6, [.int i_8, .int i_9, .int i_10, .ref a_18])), (a_18, .inl (cy 2, 60, .inr (.inl f_2))), (a_15, .inr (6, [.int i_11, .int i_12, .int i_13, .ref a_19])), (a_19, .inl (cy 2, 60, .inr (.inl f_3)))]) [2, 3] [0, 1, 4, 5, 6, 7, 8, 9] (n := 10) (fun _ => rfl) (by decide +kernel) (by decide +kernel) rfl (fun _ => rfl) (wr := [(a_0, .inr (11, [.ref a_1, .ref a_2, .ref a_3, .ref a_4, .ref a_5, .ref a_6, .ref a_7, .ref a_8, .ref a_9, .ref a_10, .ref a_11])), (a_6, .inl (cy 6, 4, .inr (.inr (.inr (.inr (va_up (va_up (va_up (va_up (fun _ => none) 0 (some a_12)) 1 (some a_13)) 2 (some a_14)) 3 (some a_15))))))), (a_13, .inr (6, [.int i_5, .int i_6, .int i_7, .ref a_17])), (a_17, .inl (cy 2, 60, .inr (.inl f_1))), (a_14, .inr (6, [.int i_8, .int i_9, .int i_10, .ref a_18])), (a_18, .inl (cy 2, 60, .inr (.inl f_2))), (a_15, .inr (6, [.int i_11, .int i_12, .int i_13, .ref a_19])), (a_19, .inl (cy 2, 60, .inr (.inl f_3)))]) rfl (fun _ => rfl) (fun _ => rfl) ?_
              clear hP hD hS
              clear H locs
              intro u
              obtain ⟨n19, n20⟩ := u
              intro H locs hw (hP : va_P G vwCl [(a_0, .inr (11, [.ref a_1, .ref a_2, .ref a_3, .ref a_4, .ref a_5, .ref a_6, .ref a_7, .ref a_8, .ref a_9, .ref a_10, .ref a_11])), (a_6, .inl (cy 6, 4, .inr (.inr (.inr (.inr (va_up (va_up (va_up (va_up (fun _ => none) 0 (some a_12)) 1 (some a_13)) 2 (some a_14)) 3 (some a_15))))))), (a_12, .inr (6, [.int i_2, .int n19, .int i_4, .ref a_16])), (a_16, .inl (cy 2, 60, .inr (.inl n20))), (a_13, .inr (6, [.int i_5, .int i_6, .int i_7, .ref a_17])), (a_17, .inl (cy 2, 60, .inr (.inl f_1))), (a_14, .inr (6, [.int i_8, .int i_9, .int i_10, .ref a_18])), (a_18, .inl (cy 2, 60, .inr (.inl f_2))), (a_15, .inr (6, [.int i_11, .int i_12, .int i_13, .ref a_19])), (a_19, .inl (cy 2, 60, .inr (.inl f_3)))] H) (hD : va_D A [(a_0, .inr (11, [.ref a_1, .ref a_2, .ref a_3, .ref a_4, .ref a_5, .ref a_6, .ref a_7, .ref a_8, .ref a_9, .ref a_10, .ref a_11])), (a_6, .inl (cy 6, 4, .inr (.inr (.inr (.inr (va_up (va_up (va_up (va_up (fun _ => none) 0 (some a_12)) 1 (some a_13)) 2 (some a_14)) 3 (some a_15))))))), (a_12, .inr (6, [.int i_2, .int n19, .int i_4, .ref a_16])), (a_16, .inl (cy 2, 60, .inr (.inl n20))), (a_13, .inr (6, [.int i_5, .int i_6, .int i_7, .ref a_17])), (a_17, .inl (cy 2, 60, .inr (.inl f_1))), (a_14, .inr (6, [.int i_8, .int i_9, .int i_10, .ref a_18])), (a_18, .inl (cy 2, 60, .inr (.inl f_2))), (a_15, .inr (6, [.int i_11, .int i_12, .int i_13, .ref a_19])), (a_19, .inl (cy 2, 60, .inr (.inl f_3)))]) hS
              obtain ⟨w21, w22⟩ := hw
              refine lv_iconst (v := 0) hx hb dX11_write_56 (by decide) ?_
              have w23 : (i_1 : Int32).toInt < (i_4 : Int32).toInt := (mm_lt c16)
              subst hAe
              rw [hQ]
              exact W.iret (v := 0) hx hb hr (fun t ht hW => ⟨⟨0, (n19, n20, i_6, f_1, i_9, f_2, i_12, f_3), rfl, ⟨w21, h4, h7, h10, w22, rfl, rfl, rfl, (Or.inr (Or.inr (Or.inr (Or.inl ⟨rfl, mm_k0, q17, q12, w23⟩))))⟩, by rw [ht]; exact hP, hK.warm hW, hD⟩, hS.F ht⟩) hS.2.2 dX11_write_57
            · refine lv_bipush (v := (-7)) hx hb dX11_write_42 (by decide) ?_
              have w24 : (i_4 : Int32).toInt ≤ (i_1 : Int32).toInt := (mm_nlt c16)
              subst hAe
              rw [hQ]
              exact W.iret (v := (-7)) hx hb hr (fun t ht hW => ⟨⟨(-7), (i_3, f_0, i_6, f_1, i_9, f_2, i_12, f_3), rfl, ⟨h1, h4, h7, h10, rfl, rfl, rfl, rfl, (Or.inr (Or.inr (Or.inr (Or.inr (Or.inl ⟨rfl, mm_k0, q15, q12, w24⟩)))))⟩, by rw [ht]; exact hP, hK.warm hW, hD⟩, hS.F ht⟩) hS.2.2 dX11_write_44
        · have q25 := mm_eqI (lo := 0) (hi := 0) c11 h0 mm_k0 (by decide)
          refine lv_bipush (v := (-6)) hx hb dX11_write_22 (by decide) ?_
          subst hAe
          rw [hQ]
          exact W.iret (v := (-6)) hx hb hr (fun t ht hW => ⟨⟨(-6), (i_3, f_0, i_6, f_1, i_9, f_2, i_12, f_3), rfl, ⟨h1, h4, h7, h10, rfl, rfl, rfl, rfl, (Or.inr (Or.inr (Or.inr (Or.inr (Or.inr (Or.inl ⟨rfl, mm_k0, q25⟩))))))⟩, by rw [ht]; exact hP, hK.warm hW, hD⟩, hS.F ht⟩) hS.2.2 dX11_write_24
      · refine W.eq (g2 := F0 m 16 ls [.ref a_13]) rfl ?_
        refine va_get (D := G) (ci := 6) (v := .int i_5) (C := RX6) (T := TX6) (N := 4) hx hb hts (mm_i inlX6) hown hK.1 hP 4 rfl rfl 0 (by decide) (mm_h hts mm_w1239) (fun _ h9 => h9) rfl dX11_write_16 ?_
        refine lv_if_ne (tgt := 25) hx hb dX11_write_19 (by decide) (fun c26 => ?_) (fun c26 => ?_)
        · have q27 := mm_neL (lo := 1) (mm_ne c26) h3 mm_k0 (by decide) (by decide)
          refine lv_iload_n hx hb dX11_write_25 rfl (lv_at hl 2 rfl) ?_
          refine lv_if_lt (tgt := 42) hx hb dX11_write_26 (by decide) (fun c28 => ?_) (fun c28 => ?_)
          · have q29 := mm_ltL (h := (-1)) (mm_lt c28) (mm_top i_1) mm_k0 (by decide)
            refine lv_bipush (v := (-7)) hx hb dX11_write_42 (by decide) ?_
            subst hAe
            rw [hQ]
            exact W.iret (v := (-7)) hx hb hr (fun t ht hW => ⟨⟨(-7), (i_3, f_0, i_6, f_1, i_9, f_2, i_12, f_3), rfl, ⟨h1, h4, h7, h10, rfl, rfl, rfl, rfl, (Or.inr (Or.inr (Or.inr (Or.inr (Or.inr (Or.inr (Or.inl ⟨rfl, mm_k1, q29, q27⟩)))))))⟩, by rw [ht]; exact hP, hK.warm hW, hD⟩, hS.F ht⟩) hS.2.2 dX11_write_44
          · have q30 := mm_leR (mm_nlt c28) mm_k0 (mm_top i_1)
            refine lv_iload_n hx hb dX11_write_29 rfl (lv_at hl 2 rfl) ?_
            refine lv_aload_n hx hb dX11_write_30 rfl (lv_at hl 0 rfl) ?_
            refine va_get (D := G) (ci := 11) (v := .ref a_6) (C := RX11) (T := TX11) (N := 11) hx hb hts (mm_i inlX11) hown hK.1 hP 0 rfl rfl 5 (by decide) (mm_h hts mm_w32) (fun _ h9 => h9) rfl dX11_write_31 ?_
            refine lv_iload_n hx hb dX11_write_34 rfl (lv_at hl 1 rfl) ?_
            refine va_aldq hx hb hK.1 hP 1 6 rfl rfl (mm_in mm_k1 (by decide)) dX11_write_35 ?_
            refine W.eq (g2 := F0 m 36 ls [.ref a_13, .int i_1]) rfl ?_
            refine va_get (D := G) (ci := 6) (v := .int i_7) (C := RX6) (T := TX6) (N := 4) hx hb hts (mm_i inlX6) hown hK.1 hP 4 rfl rfl 2 (by decide) (mm_h hts mm_w1694) (fun _ h9 => h9) rfl dX11_write_36 ?_
            refine lv_icmp_lt (tgt := 45) hx hb dX11_write_39 (by decide) (fun c31 => ?_) (fun c31 => ?_)
            · have q32 := mm_ltL (h := 59) (mm_lt c31) q30 h5 (by decide)
              have q33 := mm_ltR (lo := 1) (mm_lt c31) q30 h5 (by decide)
              refine lv_aload_n hx hb dX11_write_45 rfl (lv_at hl 0 rfl) ?_
              refine va_get (D := G) (ci := 11) (v := .ref a_6) (C := RX11) (T := TX11) (N := 11) hx hb hts (mm_i inlX11) hown hK.1 hP 0 rfl rfl 5 (by decide) (mm_h hts mm_w32) (fun _ h9 => h9) rfl dX11_write_46 ?_
              refine lv_iload_n hx hb dX11_write_49 rfl (lv_at hl 1 rfl) ?_
              refine va_aldq hx hb hK.1 hP 1 6 rfl rfl (mm_in mm_k1 (by decide)) dX11_write_50 ?_
              refine W.eq (g2 := F0 m 51 ls [.ref a_13]) rfl ?_
              refine lv_iload_n hx hb dX11_write_51 rfl (lv_at hl 2 rfl) ?_
              refine lv_lload_n hx hb dX11_write_52 rfl (lv_at hl 3 rfl) ?_
              refine mm_finv (va_runV (As := [.int i_1, .long j_0]) (rest := []) ⟨hx, hb, hml, hown, hts⟩ (C547_X6_put l G cy H.size a_13 i_1 j_0 i_5 i_6 i_7 a_17 f_1 q32 h4) (cwV 2 hts (mm_gV mm_w1695 mm_w1696 mm_w1697 mm_w34 mm_w1698) rfl rfl rfl hd_X6_put ⟨by rw [hRf]; exact Nat.le_of_ble_eq_true rfl, by rw [hRl]; exact Nat.le_of_ble_eq_true rfl⟩) (mm_preV hK hZ hS hA hP hD [4, 5] rfl rfl 4 rfl rfl rfl) rfl rfl hl.1 rfl (lv_room (Nat.le_of_ble_eq_true rfl)) dX11_write_53 ⟨by rw [hRc]; exact Nat.le_of_ble_eq_true rfl, by rw [hRs]; exact Nat.le_of_ble_eq_true rfl⟩) hP hD hS hA (fun u : Int32 × (Nat → Int64) => [(a_0, .inr (11, [.ref a_1, .ref a_2, .ref a_3, .ref a_4, .ref a_5, .ref a_6, .ref a_7, .ref a_8, .ref a_9, .ref a_10, .ref a_11])), (a_6, .inl (cy 6, 4, .inr (.inr (.inr (.inr (va_up (va_up (va_up (va_up (fun _ => none) 0 (some a_12)) 1 (some a_13)) 2 (some a_14)) 3 (some a_15))))))), (a_12, .inr (6, [.int i_2, .int i_3, .int i_4, .ref a_16])), (a_16, .inl (cy 2, 60, .inr (.inl f_0))), (a_13, .inr (6, [.int i_5, .int u.1, .int i_7, .ref a_17])), (a_17, .inl (cy 2, 60, .inr (.inl u.2))), (a_14, .inr (6, [.int i_8, .int i_9, .int i_10, .ref a_18])), (a_18, .inl (cy 2, 60, .inr (.inl f_2))), (a_15, .inr (6, [.int i_11, .int i_12, .int i_13, .ref a_19])), (a_19, .inl (cy 2, 60, .inr (.inl f_3)))]) [4, 5] [0, 1, 2, 3, 6, 7, 8, 9] (n := 10) (fun _ => rfl) (by decide +kernel) (by decide +kernel) rfl (fun _ => rfl) (wr := [(a_0, .inr (11, [.ref a_1, .ref a_2, .ref a_3, .ref a_4, .ref a_5, .ref a_6, .ref a_7, .ref a_8, .ref a_9, .ref a_10, .ref a_11])), (a_6, .inl (cy 6, 4, .inr (.inr (.inr (.inr (va_up (va_up (va_up (va_up (fun _ => none) 0 (some a_12)) 1 (some a_13)) 2 (some a_14)) 3 (some a_15))))))), (a_12, .inr (6, [.int i_2, .int i_3, .int i_4, .ref a_16])), (a_16, .inl (cy 2, 60, .inr (.inl f_0))), (a_14, .inr (6, [.int i_8, .int i_9, .int i_10, .ref a_18])), (a_18, .inl (cy 2, 60, .inr (.inl f_2))), (a_15, .inr (6, [.int i_11, .int i_12, .int i_13, .ref a_19])), (a_19, .inl (cy 2, 60, .inr (.inl f_3)))]) rfl (fun _ => rfl) (fun _ => rfl) ?_
              clear hP hD hS
              clear H locs
              intro u
              obtain ⟨n34, n35⟩ := u
              intro H locs hw (hP : va_P G vwCl [(a_0, .inr (11, [.ref a_1, .ref a_2, .ref a_3, .ref a_4, .ref a_5, .ref a_6, .ref a_7, .ref a_8, .ref a_9, .ref a_10, .ref a_11])), (a_6, .inl (cy 6, 4, .inr (.inr (.inr (.inr (va_up (va_up (va_up (va_up (fun _ => none) 0 (some a_12)) 1 (some a_13)) 2 (some a_14)) 3 (some a_15))))))), (a_12, .inr (6, [.int i_2, .int i_3, .int i_4, .ref a_16])), (a_16, .inl (cy 2, 60, .inr (.inl f_0))), (a_13, .inr (6, [.int i_5, .int n34, .int i_7, .ref a_17])), (a_17, .inl (cy 2, 60, .inr (.inl n35))), (a_14, .inr (6, [.int i_8, .int i_9, .int i_10, .ref a_18])), (a_18, .inl (cy 2, 60, .inr (.inl f_2))), (a_15, .inr (6, [.int i_11, .int i_12, .int i_13, .ref a_19])), (a_19, .inl (cy 2, 60, .inr (.inl f_3)))] H) (hD : va_D A [(a_0, .inr (11, [.ref a_1, .ref a_2, .ref a_3, .ref a_4, .ref a_5, .ref a_6, .ref a_7, .ref a_8, .ref a_9, .ref a_10, .ref a_11])), (a_6, .inl (cy 6, 4, .inr (.inr (.inr (.inr (va_up (va_up (va_up (va_up (fun _ => none) 0 (some a_12)) 1 (some a_13)) 2 (some a_14)) 3 (some a_15))))))), (a_12, .inr (6, [.int i_2, .int i_3, .int i_4, .ref a_16])), (a_16, .inl (cy 2, 60, .inr (.inl f_0))), (a_13, .inr (6, [.int i_5, .int n34, .int i_7, .ref a_17])), (a_17, .inl (cy 2, 60, .inr (.inl n35))), (a_14, .inr (6, [.int i_8, .int i_9, .int i_10, .ref a_18])), (a_18, .inl (cy 2, 60, .inr (.inl f_2))), (a_15, .inr (6, [.int i_11, .int i_12, .int i_13, .ref a_19])), (a_19, .inl (cy 2, 60, .inr (.inl f_3)))]) hS
              obtain ⟨w36, w37⟩ := hw
              refine lv_iconst (v := 0) hx hb dX11_write_56 (by decide) ?_
              have w38 : (i_1 : Int32).toInt < (i_7 : Int32).toInt := (mm_lt c31)
              subst hAe
              rw [hQ]
              exact W.iret (v := 0) hx hb hr (fun t ht hW => ⟨⟨0, (i_3, f_0, n34, n35, i_9, f_2, i_12, f_3), rfl, ⟨h1, w36, h7, h10, rfl, w37, rfl, rfl, (Or.inr (Or.inr (Or.inr (Or.inr (Or.inr (Or.inr (Or.inr (Or.inl ⟨rfl, mm_k1, q32, q27, w38⟩))))))))⟩, by rw [ht]; exact hP, hK.warm hW, hD⟩, hS.F ht⟩) hS.2.2 dX11_write_57
            · refine lv_bipush (v := (-7)) hx hb dX11_write_42 (by decide) ?_
              have w39 : (i_7 : Int32).toInt ≤ (i_1 : Int32).toInt := (mm_nlt c31)
              subst hAe
              rw [hQ]
              exact W.iret (v := (-7)) hx hb hr (fun t ht hW => ⟨⟨(-7), (i_3, f_0, i_6, f_1, i_9, f_2, i_12, f_3), rfl, ⟨h1, h4, h7, h10, rfl, rfl, rfl, rfl, (Or.inr (Or.inr (Or.inr (Or.inr (Or.inr (Or.inr (Or.inr (Or.inr (Or.inl ⟨rfl, mm_k1, q30, q27, w39⟩)))))))))⟩, by rw [ht]; exact hP, hK.warm hW, hD⟩, hS.F ht⟩) hS.2.2 dX11_write_44
        · have q40 := mm_eqI (lo := 0) (hi := 0) c26 h3 mm_k0 (by decide)
          refine lv_bipush (v := (-6)) hx hb dX11_write_22 (by decide) ?_
          subst hAe
          rw [hQ]
          exact W.iret (v := (-6)) hx hb hr (fun t ht hW => ⟨⟨(-6), (i_3, f_0, i_6, f_1, i_9, f_2, i_12, f_3), rfl, ⟨h1, h4, h7, h10, rfl, rfl, rfl, rfl, (Or.inr (Or.inr (Or.inr (Or.inr (Or.inr (Or.inr (Or.inr (Or.inr (Or.inr (Or.inl ⟨rfl, mm_k1, q40⟩))))))))))⟩, by rw [ht]; exact hP, hK.warm hW, hD⟩, hS.F ht⟩) hS.2.2 dX11_write_24
      · refine W.eq (g2 := F0 m 16 ls [.ref a_14]) rfl ?_
        refine va_get (D := G) (ci := 6) (v := .int i_8) (C := RX6) (T := TX6) (N := 4) hx hb hts (mm_i inlX6) hown hK.1 hP 6 rfl rfl 0 (by decide) (mm_h hts mm_w1239) (fun _ h9 => h9) rfl dX11_write_16 ?_
        refine lv_if_ne (tgt := 25) hx hb dX11_write_19 (by decide) (fun c41 => ?_) (fun c41 => ?_)
        · have q42 := mm_neL (lo := 1) (mm_ne c41) h6 mm_k0 (by decide) (by decide)
          refine lv_iload_n hx hb dX11_write_25 rfl (lv_at hl 2 rfl) ?_
          refine lv_if_lt (tgt := 42) hx hb dX11_write_26 (by decide) (fun c43 => ?_) (fun c43 => ?_)
          · have q44 := mm_ltL (h := (-1)) (mm_lt c43) (mm_top i_1) mm_k0 (by decide)
            refine lv_bipush (v := (-7)) hx hb dX11_write_42 (by decide) ?_
            subst hAe
            rw [hQ]
            exact W.iret (v := (-7)) hx hb hr (fun t ht hW => ⟨⟨(-7), (i_3, f_0, i_6, f_1, i_9, f_2, i_12, f_3), rfl, ⟨h1, h4, h7, h10, rfl, rfl, rfl, rfl, (Or.inr (Or.inr (Or.inr (Or.inr (Or.inr (Or.inr (Or.inr (Or.inr (Or.inr (Or.inr (Or.inl ⟨rfl, mm_k2, q44, q42⟩)))))))))))⟩, by rw [ht]; exact hP, hK.warm hW, hD⟩, hS.F ht⟩) hS.2.2 dX11_write_44
          · have q45 := mm_leR (mm_nlt c43) mm_k0 (mm_top i_1)
            refine lv_iload_n hx hb dX11_write_29 rfl (lv_at hl 2 rfl) ?_
            refine lv_aload_n hx hb dX11_write_30 rfl (lv_at hl 0 rfl) ?_
            refine va_get (D := G) (ci := 11) (v := .ref a_6) (C := RX11) (T := TX11) (N := 11) hx hb hts (mm_i inlX11) hown hK.1 hP 0 rfl rfl 5 (by decide) (mm_h hts mm_w32) (fun _ h9 => h9) rfl dX11_write_31 ?_
            refine lv_iload_n hx hb dX11_write_34 rfl (lv_at hl 1 rfl) ?_
            refine va_aldq hx hb hK.1 hP 1 6 rfl rfl (mm_in mm_k2 (by decide)) dX11_write_35 ?_
            refine W.eq (g2 := F0 m 36 ls [.ref a_14, .int i_1]) rfl ?_
            refine va_get (D := G) (ci := 6) (v := .int i_10) (C := RX6) (T := TX6) (N := 4) hx hb hts (mm_i inlX6) hown hK.1 hP 6 rfl rfl 2 (by decide) (mm_h hts mm_w1694) (fun _ h9 => h9) rfl dX11_write_36 ?_
            refine lv_icmp_lt (tgt := 45) hx hb dX11_write_39 (by decide) (fun c46 => ?_) (fun c46 => ?_)
            · have q47 := mm_ltL (h := 59) (mm_lt c46) q45 h8 (by decide)
              have q48 := mm_ltR (lo := 1) (mm_lt c46) q45 h8 (by decide)
              refine lv_aload_n hx hb dX11_write_45 rfl (lv_at hl 0 rfl) ?_
              refine va_get (D := G) (ci := 11) (v := .ref a_6) (C := RX11) (T := TX11) (N := 11) hx hb hts (mm_i inlX11) hown hK.1 hP 0 rfl rfl 5 (by decide) (mm_h hts mm_w32) (fun _ h9 => h9) rfl dX11_write_46 ?_
              refine lv_iload_n hx hb dX11_write_49 rfl (lv_at hl 1 rfl) ?_
              refine va_aldq hx hb hK.1 hP 1 6 rfl rfl (mm_in mm_k2 (by decide)) dX11_write_50 ?_
              refine W.eq (g2 := F0 m 51 ls [.ref a_14]) rfl ?_
              refine lv_iload_n hx hb dX11_write_51 rfl (lv_at hl 2 rfl) ?_
              refine lv_lload_n hx hb dX11_write_52 rfl (lv_at hl 3 rfl) ?_
              refine mm_finv (va_runV (As := [.int i_1, .long j_0]) (rest := []) ⟨hx, hb, hml, hown, hts⟩ (C547_X6_put l G cy H.size a_14 i_1 j_0 i_8 i_9 i_10 a_18 f_2 q47 h7) (cwV 2 hts (mm_gV mm_w1695 mm_w1696 mm_w1697 mm_w34 mm_w1698) rfl rfl rfl hd_X6_put ⟨by rw [hRf]; exact Nat.le_of_ble_eq_true rfl, by rw [hRl]; exact Nat.le_of_ble_eq_true rfl⟩) (mm_preV hK hZ hS hA hP hD [6, 7] rfl rfl 6 rfl rfl rfl) rfl rfl hl.1 rfl (lv_room (Nat.le_of_ble_eq_true rfl)) dX11_write_53 ⟨by rw [hRc]; exact Nat.le_of_ble_eq_true rfl, by rw [hRs]; exact Nat.le_of_ble_eq_true rfl⟩) hP hD hS hA (fun u : Int32 × (Nat → Int64) => [(a_0, .inr (11, [.ref a_1, .ref a_2, .ref a_3, .ref a_4, .ref a_5, .ref a_6, .ref a_7, .ref a_8, .ref a_9, .ref a_10, .ref a_11])), (a_6, .inl (cy 6, 4, .inr (.inr (.inr (.inr (va_up (va_up (va_up (va_up (fun _ => none) 0 (some a_12)) 1 (some a_13)) 2 (some a_14)) 3 (some a_15))))))), (a_12, .inr (6, [.int i_2, .int i_3, .int i_4, .ref a_16])), (a_16, .inl (cy 2, 60, .inr (.inl f_0))), (a_13, .inr (6, [.int i_5, .int i_6, .int i_7, .ref a_17])), (a_17, .inl (cy 2, 60, .inr (.inl f_1))), (a_14, .inr (6, [.int i_8, .int u.1, .int i_10, .ref a_18])), (a_18, .inl (cy 2, 60, .inr (.inl u.2))), (a_15, .inr (6, [.int i_11, .int i_12, .int i_13, .ref a_19])), (a_19, .inl (cy 2, 60, .inr (.inl f_3)))]) [6, 7] [0, 1, 2, 3, 4, 5, 8, 9] (n := 10) (fun _ => rfl) (by decide +kernel) (by decide +kernel) rfl (fun _ => rfl) (wr := [(a_0, .inr (11, [.ref a_1, .ref a_2, .ref a_3, .ref a_4, .ref a_5, .ref a_6, .ref a_7, .ref a_8, .ref a_9, .ref a_10, .ref a_11])), (a_6, .inl (cy 6, 4, .inr (.inr (.inr (.inr (va_up (va_up (va_up (va_up (fun _ => none) 0 (some a_12)) 1 (some a_13)) 2 (some a_14)) 3 (some a_15))))))), (a_12, .inr (6, [.int i_2, .int i_3, .int i_4, .ref a_16])), (a_16, .inl (cy 2, 60, .inr (.inl f_0))), (a_13, .inr (6, [.int i_5, .int i_6, .int i_7, .ref a_17])), (a_17, .inl (cy 2, 60, .inr (.inl f_1))), (a_15, .inr (6, [.int i_11, .int i_12, .int i_13, .ref a_19])), (a_19, .inl (cy 2, 60, .inr (.inl f_3)))]) rfl (fun _ => rfl) (fun _ => rfl) ?_
              clear hP hD hS
              clear H locs
              intro u
              obtain ⟨n49, n50⟩ := u
              intro H locs hw (hP : va_P G vwCl [(a_0, .inr (11, [.ref a_1, .ref a_2, .ref a_3, .ref a_4, .ref a_5, .ref a_6, .ref a_7, .ref a_8, .ref a_9, .ref a_10, .ref a_11])), (a_6, .inl (cy 6, 4, .inr (.inr (.inr (.inr (va_up (va_up (va_up (va_up (fun _ => none) 0 (some a_12)) 1 (some a_13)) 2 (some a_14)) 3 (some a_15))))))), (a_12, .inr (6, [.int i_2, .int i_3, .int i_4, .ref a_16])), (a_16, .inl (cy 2, 60, .inr (.inl f_0))), (a_13, .inr (6, [.int i_5, .int i_6, .int i_7, .ref a_17])), (a_17, .inl (cy 2, 60, .inr (.inl f_1))), (a_14, .inr (6, [.int i_8, .int n49, .int i_10, .ref a_18])), (a_18, .inl (cy 2, 60, .inr (.inl n50))), (a_15, .inr (6, [.int i_11, .int i_12, .int i_13, .ref a_19])), (a_19, .inl (cy 2, 60, .inr (.inl f_3)))] H) (hD : va_D A [(a_0, .inr (11, [.ref a_1, .ref a_2, .ref a_3, .ref a_4, .ref a_5, .ref a_6, .ref a_7, .ref a_8, .ref a_9, .ref a_10, .ref a_11])), (a_6, .inl (cy 6, 4, .inr (.inr (.inr (.inr (va_up (va_up (va_up (va_up (fun _ => none) 0 (some a_12)) 1 (some a_13)) 2 (some a_14)) 3 (some a_15))))))), (a_12, .inr (6, [.int i_2, .int i_3, .int i_4, .ref a_16])), (a_16, .inl (cy 2, 60, .inr (.inl f_0))), (a_13, .inr (6, [.int i_5, .int i_6, .int i_7, .ref a_17])), (a_17, .inl (cy 2, 60, .inr (.inl f_1))), (a_14, .inr (6, [.int i_8, .int n49, .int i_10, .ref a_18])), (a_18, .inl (cy 2, 60, .inr (.inl n50))), (a_15, .inr (6, [.int i_11, .int i_12, .int i_13, .ref a_19])), (a_19, .inl (cy 2, 60, .inr (.inl f_3)))]) hS
              obtain ⟨w51, w52⟩ := hw
              refine lv_iconst (v := 0) hx hb dX11_write_56 (by decide) ?_
              have w53 : (i_1 : Int32).toInt < (i_10 : Int32).toInt := (mm_lt c46)
              subst hAe
              rw [hQ]
              exact W.iret (v := 0) hx hb hr (fun t ht hW => ⟨⟨0, (i_3, f_0, i_6, f_1, n49, n50, i_12, f_3), rfl, ⟨h1, h4, w51, h10, rfl, rfl, w52, rfl, (Or.inr (Or.inr (Or.inr (Or.inr (Or.inr (Or.inr (Or.inr (Or.inr (Or.inr (Or.inr (Or.inr (Or.inl ⟨rfl, mm_k2, q47, q42, w53⟩))))))))))))⟩, by rw [ht]; exact hP, hK.warm hW, hD⟩, hS.F ht⟩) hS.2.2 dX11_write_57
            · refine lv_bipush (v := (-7)) hx hb dX11_write_42 (by decide) ?_
              have w54 : (i_10 : Int32).toInt ≤ (i_1 : Int32).toInt := (mm_nlt c46)
              subst hAe
              rw [hQ]
              exact W.iret (v := (-7)) hx hb hr (fun t ht hW => ⟨⟨(-7), (i_3, f_0, i_6, f_1, i_9, f_2, i_12, f_3), rfl, ⟨h1, h4, h7, h10, rfl, rfl, rfl, rfl, (Or.inr (Or.inr (Or.inr (Or.inr (Or.inr (Or.inr (Or.inr (Or.inr (Or.inr (Or.inr (Or.inr (Or.inr (Or.inl ⟨rfl, mm_k2, q45, q42, w54⟩)))))))))))))⟩, by rw [ht]; exact hP, hK.warm hW, hD⟩, hS.F ht⟩) hS.2.2 dX11_write_44
        · have q55 := mm_eqI (lo := 0) (hi := 0) c41 h6 mm_k0 (by decide)
          refine lv_bipush (v := (-6)) hx hb dX11_write_22 (by decide) ?_
          subst hAe
          rw [hQ]
          exact W.iret (v := (-6)) hx hb hr (fun t ht hW => ⟨⟨(-6), (i_3, f_0, i_6, f_1, i_9, f_2, i_12, f_3), rfl, ⟨h1, h4, h7, h10, rfl, rfl, rfl, rfl, (Or.inr (Or.inr (Or.inr (Or.inr (Or.inr (Or.inr (Or.inr (Or.inr (Or.inr (Or.inr (Or.inr (Or.inr (Or.inr (Or.inl ⟨rfl, mm_k2, q55⟩))))))))))))))⟩, by rw [ht]; exact hP, hK.warm hW, hD⟩, hS.F ht⟩) hS.2.2 dX11_write_24
      · refine W.eq (g2 := F0 m 16 ls [.ref a_15]) rfl ?_
        refine va_get (D := G) (ci := 6) (v := .int i_11) (C := RX6) (T := TX6) (N := 4) hx hb hts (mm_i inlX6) hown hK.1 hP 8 rfl rfl 0 (by decide) (mm_h hts mm_w1239) (fun _ h9 => h9) rfl dX11_write_16 ?_
        refine lv_if_ne (tgt := 25) hx hb dX11_write_19 (by decide) (fun c56 => ?_) (fun c56 => ?_)
        · have q57 := mm_neL (lo := 1) (mm_ne c56) h9 mm_k0 (by decide) (by decide)
          refine lv_iload_n hx hb dX11_write_25 rfl (lv_at hl 2 rfl) ?_
          refine lv_if_lt (tgt := 42) hx hb dX11_write_26 (by decide) (fun c58 => ?_) (fun c58 => ?_)
          · have q59 := mm_ltL (h := (-1)) (mm_lt c58) (mm_top i_1) mm_k0 (by decide)
            refine lv_bipush (v := (-7)) hx hb dX11_write_42 (by decide) ?_
            subst hAe
            rw [hQ]
            exact W.iret (v := (-7)) hx hb hr (fun t ht hW => ⟨⟨(-7), (i_3, f_0, i_6, f_1, i_9, f_2, i_12, f_3), rfl, ⟨h1, h4, h7, h10, rfl, rfl, rfl, rfl, (Or.inr (Or.inr (Or.inr (Or.inr (Or.inr (Or.inr (Or.inr (Or.inr (Or.inr (Or.inr (Or.inr (Or.inr (Or.inr (Or.inr (Or.inl ⟨rfl, mm_k3, q59, q57⟩)))))))))))))))⟩, by rw [ht]; exact hP, hK.warm hW, hD⟩, hS.F ht⟩) hS.2.2 dX11_write_44
          · have q60 := mm_leR (mm_nlt c58) mm_k0 (mm_top i_1)
            refine lv_iload_n hx hb dX11_write_29 rfl (lv_at hl 2 rfl) ?_
            refine lv_aload_n hx hb dX11_write_30 rfl (lv_at hl 0 rfl) ?_
            refine va_get (D := G) (ci := 11) (v := .ref a_6) (C := RX11) (T := TX11) (N := 11) hx hb hts (mm_i inlX11) hown hK.1 hP 0 rfl rfl 5 (by decide) (mm_h hts mm_w32) (fun _ h9 => h9) rfl dX11_write_31 ?_
            refine lv_iload_n hx hb dX11_write_34 rfl (lv_at hl 1 rfl) ?_
            refine va_aldq hx hb hK.1 hP 1 6 rfl rfl (mm_in mm_k3 (by decide)) dX11_write_35 ?_
            refine W.eq (g2 := F0 m 36 ls [.ref a_15, .int i_1]) rfl ?_
            refine va_get (D := G) (ci := 6) (v := .int i_13) (C := RX6) (T := TX6) (N := 4) hx hb hts (mm_i inlX6) hown hK.1 hP 8 rfl rfl 2 (by decide) (mm_h hts mm_w1694) (fun _ h9 => h9) rfl dX11_write_36 ?_
            refine lv_icmp_lt (tgt := 45) hx hb dX11_write_39 (by decide) (fun c61 => ?_) (fun c61 => ?_)
            · have q62 := mm_ltL (h := 59) (mm_lt c61) q60 h11 (by decide)
              have q63 := mm_ltR (lo := 1) (mm_lt c61) q60 h11 (by decide)
              refine lv_aload_n hx hb dX11_write_45 rfl (lv_at hl 0 rfl) ?_
              refine va_get (D := G) (ci := 11) (v := .ref a_6) (C := RX11) (T := TX11) (N := 11) hx hb hts (mm_i inlX11) hown hK.1 hP 0 rfl rfl 5 (by decide) (mm_h hts mm_w32) (fun _ h9 => h9) rfl dX11_write_46 ?_
              refine lv_iload_n hx hb dX11_write_49 rfl (lv_at hl 1 rfl) ?_
              refine va_aldq hx hb hK.1 hP 1 6 rfl rfl (mm_in mm_k3 (by decide)) dX11_write_50 ?_
              refine W.eq (g2 := F0 m 51 ls [.ref a_15]) rfl ?_
              refine lv_iload_n hx hb dX11_write_51 rfl (lv_at hl 2 rfl) ?_
              refine lv_lload_n hx hb dX11_write_52 rfl (lv_at hl 3 rfl) ?_
              refine mm_finv (va_runV (As := [.int i_1, .long j_0]) (rest := []) ⟨hx, hb, hml, hown, hts⟩ (C547_X6_put l G cy H.size a_15 i_1 j_0 i_11 i_12 i_13 a_19 f_3 q62 h10) (cwV 2 hts (mm_gV mm_w1695 mm_w1696 mm_w1697 mm_w34 mm_w1698) rfl rfl rfl hd_X6_put ⟨by rw [hRf]; exact Nat.le_of_ble_eq_true rfl, by rw [hRl]; exact Nat.le_of_ble_eq_true rfl⟩) (mm_preV hK hZ hS hA hP hD [8, 9] rfl rfl 8 rfl rfl rfl) rfl rfl hl.1 rfl (lv_room (Nat.le_of_ble_eq_true rfl)) dX11_write_53 ⟨by rw [hRc]; exact Nat.le_of_ble_eq_true rfl, by rw [hRs]; exact Nat.le_of_ble_eq_true rfl⟩) hP hD hS hA (fun u : Int32 × (Nat → Int64) => [(a_0, .inr (11, [.ref a_1, .ref a_2, .ref a_3, .ref a_4, .ref a_5, .ref a_6, .ref a_7, .ref a_8, .ref a_9, .ref a_10, .ref a_11])), (a_6, .inl (cy 6, 4, .inr (.inr (.inr (.inr (va_up (va_up (va_up (va_up (fun _ => none) 0 (some a_12)) 1 (some a_13)) 2 (some a_14)) 3 (some a_15))))))), (a_12, .inr (6, [.int i_2, .int i_3, .int i_4, .ref a_16])), (a_16, .inl (cy 2, 60, .inr (.inl f_0))), (a_13, .inr (6, [.int i_5, .int i_6, .int i_7, .ref a_17])), (a_17, .inl (cy 2, 60, .inr (.inl f_1))), (a_14, .inr (6, [.int i_8, .int i_9, .int i_10, .ref a_18])), (a_18, .inl (cy 2, 60, .inr (.inl f_2))), (a_15, .inr (6, [.int i_11, .int u.1, .int i_13, .ref a_19])), (a_19, .inl (cy 2, 60, .inr (.inl u.2)))]) [8, 9] [0, 1, 2, 3, 4, 5, 6, 7] (n := 10) (fun _ => rfl) (by decide +kernel) (by decide +kernel) rfl (fun _ => rfl) (wr := [(a_0, .inr (11, [.ref a_1, .ref a_2, .ref a_3, .ref a_4, .ref a_5, .ref a_6, .ref a_7, .ref a_8, .ref a_9, .ref a_10, .ref a_11])), (a_6, .inl (cy 6, 4, .inr (.inr (.inr (.inr (va_up (va_up (va_up (va_up (fun _ => none) 0 (some a_12)) 1 (some a_13)) 2 (some a_14)) 3 (some a_15))))))), (a_12, .inr (6, [.int i_2, .int i_3, .int i_4, .ref a_16])), (a_16, .inl (cy 2, 60, .inr (.inl f_0))), (a_13, .inr (6, [.int i_5, .int i_6, .int i_7, .ref a_17])), (a_17, .inl (cy 2, 60, .inr (.inl f_1))), (a_14, .inr (6, [.int i_8, .int i_9, .int i_10, .ref a_18])), (a_18, .inl (cy 2, 60, .inr (.inl f_2)))]) rfl (fun _ => rfl) (fun _ => rfl) ?_
              clear hP hD hS
              clear H locs
              intro u
              obtain ⟨n64, n65⟩ := u
              intro H locs hw (hP : va_P G vwCl [(a_0, .inr (11, [.ref a_1, .ref a_2, .ref a_3, .ref a_4, .ref a_5, .ref a_6, .ref a_7, .ref a_8, .ref a_9, .ref a_10, .ref a_11])), (a_6, .inl (cy 6, 4, .inr (.inr (.inr (.inr (va_up (va_up (va_up (va_up (fun _ => none) 0 (some a_12)) 1 (some a_13)) 2 (some a_14)) 3 (some a_15))))))), (a_12, .inr (6, [.int i_2, .int i_3, .int i_4, .ref a_16])), (a_16, .inl (cy 2, 60, .inr (.inl f_0))), (a_13, .inr (6, [.int i_5, .int i_6, .int i_7, .ref a_17])), (a_17, .inl (cy 2, 60, .inr (.inl f_1))), (a_14, .inr (6, [.int i_8, .int i_9, .int i_10, .ref a_18])), (a_18, .inl (cy 2, 60, .inr (.inl f_2))), (a_15, .inr (6, [.int i_11, .int n64, .int i_13, .ref a_19])), (a_19, .inl (cy 2, 60, .inr (.inl n65)))] H) (hD : va_D A [(a_0, .inr (11, [.ref a_1, .ref a_2, .ref a_3, .ref a_4, .ref a_5, .ref a_6, .ref a_7, .ref a_8, .ref a_9, .ref a_10, .ref a_11])), (a_6, .inl (cy 6, 4, .inr (.inr (.inr (.inr (va_up (va_up (va_up (va_up (fun _ => none) 0 (some a_12)) 1 (some a_13)) 2 (some a_14)) 3 (some a_15))))))), (a_12, .inr (6, [.int i_2, .int i_3, .int i_4, .ref a_16])), (a_16, .inl (cy 2, 60, .inr (.inl f_0))), (a_13, .inr (6, [.int i_5, .int i_6, .int i_7, .ref a_17])), (a_17, .inl (cy 2, 60, .inr (.inl f_1))), (a_14, .inr (6, [.int i_8, .int i_9, .int i_10, .ref a_18])), (a_18, .inl (cy 2, 60, .inr (.inl f_2))), (a_15, .inr (6, [.int i_11, .int n64, .int i_13, .ref a_19])), (a_19, .inl (cy 2, 60, .inr (.inl n65)))]) hS
              obtain ⟨w66, w67⟩ := hw
              refine lv_iconst (v := 0) hx hb dX11_write_56 (by decide) ?_
              have w68 : (i_1 : Int32).toInt < (i_13 : Int32).toInt := (mm_lt c61)
              subst hAe
              rw [hQ]
              exact W.iret (v := 0) hx hb hr (fun t ht hW => ⟨⟨0, (i_3, f_0, i_6, f_1, i_9, f_2, n64, n65), rfl, ⟨h1, h4, h7, w66, rfl, rfl, rfl, w67, (Or.inr (Or.inr (Or.inr (Or.inr (Or.inr (Or.inr (Or.inr (Or.inr (Or.inr (Or.inr (Or.inr (Or.inr (Or.inr (Or.inr (Or.inr (Or.inl ⟨rfl, mm_k3, q62, q57, w68⟩))))))))))))))))⟩, by rw [ht]; exact hP, hK.warm hW, hD⟩, hS.F ht⟩) hS.2.2 dX11_write_57
            · refine lv_bipush (v := (-7)) hx hb dX11_write_42 (by decide) ?_
              have w69 : (i_13 : Int32).toInt ≤ (i_1 : Int32).toInt := (mm_nlt c61)
              subst hAe
              rw [hQ]
              exact W.iret (v := (-7)) hx hb hr (fun t ht hW => ⟨⟨(-7), (i_3, f_0, i_6, f_1, i_9, f_2, i_12, f_3), rfl, ⟨h1, h4, h7, h10, rfl, rfl, rfl, rfl, (Or.inr (Or.inr (Or.inr (Or.inr (Or.inr (Or.inr (Or.inr (Or.inr (Or.inr (Or.inr (Or.inr (Or.inr (Or.inr (Or.inr (Or.inr (Or.inr (Or.inl ⟨rfl, mm_k3, q60, q57, w69⟩)))))))))))))))))⟩, by rw [ht]; exact hP, hK.warm hW, hD⟩, hS.F ht⟩) hS.2.2 dX11_write_44
        · have q70 := mm_eqI (lo := 0) (hi := 0) c56 h9 mm_k0 (by decide)
          refine lv_bipush (v := (-6)) hx hb dX11_write_22 (by decide) ?_
          subst hAe
          rw [hQ]
          exact W.iret (v := (-6)) hx hb hr (fun t ht hW => ⟨⟨(-6), (i_3, f_0, i_6, f_1, i_9, f_2, i_12, f_3), rfl, ⟨h1, h4, h7, h10, rfl, rfl, rfl, rfl, (Or.inr (Or.inr (Or.inr (Or.inr (Or.inr (Or.inr (Or.inr (Or.inr (Or.inr (Or.inr (Or.inr (Or.inr (Or.inr (Or.inr (Or.inr (Or.inr (Or.inr ⟨rfl, mm_k3, q70⟩)))))))))))))))))⟩, by rw [ht]; exact hP, hK.warm hW, hD⟩, hS.F ht⟩) hS.2.2 dX11_write_24
    · exact mm_eqN c9.symm mm_k0 mm_k1 (by decide)

set_option maxHeartbeats 4000000 in
set_option maxRecDepth 100000 in
theorem C383_X12_in (l : Launch) (G : va_G) (cy : Nat → ClassId) (sz : Nat) (j_0 : Int64)   : mm_CI l yX12_in (mm_ws yX12_in cX12_in 6 (some .boolean)) ({ frames := 0, cells := 0, slots := 0, locals := 0 } : Room) G cy sz [] [.long j_0, .long 0, .long 3] (fun u : Unit => []) (fun (r : Int32) (u : Unit) => ((0 = r ∧ mm_rl j_0 (-9223372036854775808) (-1)) ∨ (0 = r ∧ mm_rl j_0 4 9223372036854775807 ∧ (3 : Int64).toInt < (j_0 : Int64).toInt) ∨ (1 = r ∧ mm_rl j_0 0 3 ∧ (j_0 : Int64).toInt ≤ (3 : Int64).toInt ∧ (0 : Int64).toInt ≤ (j_0 : Int64).toInt))) 0 0 := by
  refine mm_begin (lv := [(0, .long j_0), (2, .long 0), (4, .long 3)]) (by decide) (Nat.le_of_ble_eq_true rfl) rfl ?_
  intro p e s m below meth c A ls R args Q H locs hRe hQ hAe hx hb hr hlocks hml hown hnm hts hsz hA hS hP hK hD hZ hl
  have hRf : R.frames = 0 := by rw [hRe]
  have hRl : R.locals = 0 := by rw [hRe]
  have hRc : R.cells = 0 := by rw [hRe]
  have hRs : R.slots = 0 := by rw [hRe]
  refine lv_lload_n hx hb dX12_in_0 rfl (lv_at hl 0 rfl) ?_
  refine lv_lload_n hx hb dX12_in_1 rfl (lv_at hl 1 rfl) ?_
  refine W.lcmp hx hb dX12_in_2 ?_
  refine lv_topi (fun v1 ev1 => ?_)
  refine lv_if_lt (tgt := 17) hx hb dX12_in_3 (by decide) (fun c2 => ?_) (fun c2 => ?_)
  · have q3 := mm_ltLl (h := (-1)) (mm_cmp_lt ev1 c2) (mm_topl j_0) mm_kl0 (by decide)
    refine lv_iconst (v := 0) hx hb dX12_in_17 (by decide) ?_
    subst hAe
    rw [hQ]
    exact W.zret (v := 0) hx hb hr rfl (fun t ht hW => ⟨⟨0, (), rfl, (Or.inl ⟨rfl, q3⟩), by rw [ht]; exact hP, hK.warm hW, hD⟩, hS.F ht⟩) hS.2.2 dX12_in_18
  · have q4 := mm_leRl (mm_cmp_ge ev1 (mm_n_lt c2)) mm_kl0 (mm_topl j_0)
    refine lv_lload_n hx hb dX12_in_6 rfl (lv_at hl 0 rfl) ?_
    refine lv_lload hx hb dX12_in_7 (lv_at hl 2 rfl) ?_
    refine W.lcmp hx hb dX12_in_9 ?_
    refine lv_topi (fun v5 ev5 => ?_)
    refine lv_if_gt (tgt := 17) hx hb dX12_in_10 (by decide) (fun c6 => ?_) (fun c6 => ?_)
    · have q7 := mm_ltRl (lo := 4) (mm_cmp_gt ev5 c6) mm_kl3 q4 (by decide)
      refine lv_iconst (v := 0) hx hb dX12_in_17 (by decide) ?_
      have w8 : (3 : Int64).toInt < (j_0 : Int64).toInt := (mm_cmp_gt ev5 c6)
      subst hAe
      rw [hQ]
      exact W.zret (v := 0) hx hb hr rfl (fun t ht hW => ⟨⟨0, (), rfl, (Or.inr (Or.inl ⟨rfl, q7, w8⟩)), by rw [ht]; exact hP, hK.warm hW, hD⟩, hS.F ht⟩) hS.2.2 dX12_in_18
    · have q9 := mm_leLl (mm_cmp_le ev5 (mm_n_gt c6)) q4 mm_kl3
      refine lv_iconst (v := 1) hx hb dX12_in_13 (by decide) ?_
      refine lv_goto (tgt := 18) hx hb dX12_in_14 (by decide) ?_
      have w10 : (j_0 : Int64).toInt ≤ (3 : Int64).toInt := (mm_cmp_le ev5 (mm_n_gt c6))
      have w11 : (0 : Int64).toInt ≤ (j_0 : Int64).toInt := (mm_cmp_ge ev1 (mm_n_lt c2))
      subst hAe
      rw [hQ]
      exact W.zret (v := 1) hx hb hr rfl (fun t ht hW => ⟨⟨1, (), rfl, (Or.inr (Or.inr ⟨rfl, q9, w10, w11⟩)), by rw [ht]; exact hP, hK.warm hW, hD⟩, hS.F ht⟩) hS.2.2 dX12_in_18

set_option maxHeartbeats 4000000 in
set_option maxRecDepth 100000 in
theorem C384_X12_isSlot (l : Launch) (G : va_G) (cy : Nat → ClassId) (sz : Nat) (i_0 : Int32)   : mm_CI l yX12_isSlot (mm_ws yX12_isSlot cX12_isSlot 1 (some .boolean)) ({ frames := 1, cells := 0, slots := 0, locals := 25 } : Room) G cy sz [] [.int i_0] (fun u : Unit => []) (fun (r : Int32) (u : Unit) => ((0 = r ∧ mm_rg i_0 (-2147483648) (-1)) ∨ (0 = r ∧ mm_rg i_0 4 2147483647) ∨ (1 = r ∧ mm_rg i_0 0 3))) 0 0 := by
  refine mm_begin (lv := [(0, .int i_0)]) (by decide) (Nat.le_of_ble_eq_true rfl) rfl ?_
  intro p e s m below meth c A ls R args Q H locs hRe hQ hAe hx hb hr hlocks hml hown hnm hts hsz hA hS hP hK hD hZ hl
  have hRf : R.frames = 1 := by rw [hRe]
  have hRl : R.locals = 25 := by rw [hRe]
  have hRc : R.cells = 0 := by rw [hRe]
  have hRs : R.slots = 0 := by rw [hRe]
  refine lv_iload_n hx hb dX12_isSlot_0 rfl (lv_at hl 0 rfl) ?_
  obtain ⟨v1, ev1⟩ : ∃ y : Int64, y = i_0.toInt64 := ⟨_, rfl⟩
  refine lv_i2l hx hb dX12_isSlot_1 ev1.symm ?_
  have rv1 : mm_rl v1 (-2147483648) 2147483647 := mm_i2l ev1 (mm_top i_0)
  refine lv_lconst (v := 0) hx hb dX12_isSlot_2 (by decide) ?_
  refine lv_ldc2 (v := 3) hx hb hown (mm_h hts mm_w1272) dX12_isSlot_3 ?_
  refine mm_finir (va_runS (As := [.long v1, .long 0, .long 3]) (rest := []) ⟨hx, hb, hml, hown, hts⟩ (C383_X12_in l G cy H.size v1 ) (va_cwS 3 hts (mm_gS mm_w191 mm_w192 mm_w5 mm_w193) rfl rfl rfl hs_X12_in ⟨by rw [hRf]; exact Nat.le_of_ble_eq_true rfl, by rw [hRl]; exact Nat.le_of_ble_eq_true rfl⟩) (mm_preS hK hZ hS hA hP hD [] rfl rfl) rfl rfl hl.1 rfl (lv_room (Nat.le_of_ble_eq_true rfl)) dX12_isSlot_6 ⟨by rw [hRc]; exact Nat.le_of_ble_eq_true rfl, by rw [hRs]; exact Nat.le_of_ble_eq_true rfl⟩) hP hD hS hA [] rfl (fun _ => rfl) ?_
  clear hP hD hS
  clear H locs
  intro v2 _u H locs hw hP hD hS
  rcases hw with ⟨rfl, w3⟩ | ⟨rfl, w4, w5⟩ | ⟨rfl, w6, w7, w8⟩
  · have q9 := mm_meetl (lo := (-2147483648)) (hi := (-1)) w3 rv1 (by decide)
    have q10 := mm_meet (lo := (-2147483648)) (hi := (-1)) (mm_l2x ev1 q9) (mm_top i_0) (by decide)
    subst hAe
    rw [hQ]
    exact W.zret (v := 0) hx hb hr rfl (fun t ht hW => ⟨⟨0, (), rfl, (Or.inl ⟨rfl, q10⟩), by rw [ht]; exact hP, hK.warm hW, hD⟩, hS.F ht⟩) hS.2.2 dX12_isSlot_9
  · have q11 := mm_meetl (lo := 4) (hi := 2147483647) w4 rv1 (by decide)
    have q12 := mm_meet (lo := 4) (hi := 2147483647) (mm_l2x ev1 q11) (mm_top i_0) (by decide)
    subst hAe
    rw [hQ]
    exact W.zret (v := 0) hx hb hr rfl (fun t ht hW => ⟨⟨0, (), rfl, (Or.inr (Or.inl ⟨rfl, q12⟩)), by rw [ht]; exact hP, hK.warm hW, hD⟩, hS.F ht⟩) hS.2.2 dX12_isSlot_9
  · have q13 := mm_meet (lo := 0) (hi := 3) (mm_l2x ev1 w6) (mm_top i_0) (by decide)
    subst hAe
    rw [hQ]
    exact W.zret (v := 1) hx hb hr rfl (fun t ht hW => ⟨⟨1, (), rfl, (Or.inr (Or.inr ⟨rfl, q13⟩)), by rw [ht]; exact hP, hK.warm hW, hD⟩, hS.F ht⟩) hS.2.2 dX12_isSlot_9

set_option maxHeartbeats 4000000 in
set_option maxRecDepth 100000 in
theorem C385_X12_row (l : Launch) (G : va_G) (cy : Nat → ClassId) (sz : Nat) (a_0 : Nat) (i_0 : Int32) (i_1 : Int32) (i_2 : Int32) (i_3 : Int32) (a_1 : Nat) (a_2 : Nat) (a_3 : Nat) (a_4 : Nat) (a_5 : Nat) (i_4 : Int32) (i_5 : Int32) (i_6 : Int32) (i_7 : Int32) (i_8 : Int32) (j_0 : Int64) (i_9 : Int32) (i_10 : Int32) (i_11 : Int32) (i_12 : Int32) (a_6 : Nat) (a_7 : Nat) (a_8 : Nat) (a_9 : Nat) (a_10 : Nat) (a_11 : Nat) (a_12 : Nat) (a_13 : Nat) (a_14 : Nat) (a_15 : Nat) (a_16 : Nat) (a_17 : Nat) (a_18 : Nat) (i_13 : Int32) (i_14 : Int32) (i_15 : Int32) (i_16 : Int32) (i_17 : Int32) (i_18 : Int32) (a_19 : Nat) (i_19 : Int32) (a_20 : Nat) (f_0 : Nat → Int32) (f_1 : Nat → Int32) (f_2 : Nat → Int64) (h0 : mm_ar f_0 (-1) 3) (h1 : mm_ar f_1 0 60)  : mm_CI l yX12_row (mm_ws yX12_row cX12_row 5 (some .int)) ({ frames := 2, cells := 0, slots := 0, locals := 45 } : Room) G cy sz [(a_0, .inr (12, [.int i_3, .ref a_1, .ref a_2, .ref a_3, .ref a_4, .ref a_5, .int i_4, .int i_5, .int i_6, .int i_7, .int i_8, .long j_0, .int i_9, .int i_10, .int i_11, .int i_12, .ref a_6, .ref a_7, .ref a_8, .ref a_9, .ref a_10, .ref a_11, .ref a_12, .ref a_13, .ref a_14, .ref a_15, .ref a_16, .ref a_17, .ref a_18, .int i_13, .int i_14, .int i_15, .int i_16, .int i_17, .int i_18, .ref a_19, .int i_19, .ref a_20])), (a_1, .inl (cy 1, 4, .inl f_0)), (a_2, .inl (cy 1, 4, .inl f_1)), (a_3, .inl (cy 2, 240, .inr (.inl f_2)))] [.ref a_0, .int i_0, .int i_1, .int i_2] (fun u : (Nat → Int32) × (Nat → Int32) × (Nat → Int64) => [(a_0, .inr (12, [.int 0, .ref a_1, .ref a_2, .ref a_3, .ref a_4, .ref a_5, .int i_4, .int i_5, .int i_6, .int i_7, .int i_8, .long j_0, .int i_9, .int i_10, .int i_11, .int i_12, .ref a_6, .ref a_7, .ref a_8, .ref a_9, .ref a_10, .ref a_11, .ref a_12, .ref a_13, .ref a_14, .ref a_15, .ref a_16, .ref a_17, .ref a_18, .int i_13, .int i_14, .int i_15, .int i_16, .int i_17, .int i_18, .ref a_19, .int i_19, .ref a_20])), (a_1, .inl (cy 1, 4, .inl u.1)), (a_2, .inl (cy 1, 4, .inl u.2.1)), (a_3, .inl (cy 2, 240, .inr (.inl u.2.2)))]) (fun (r : Int32) (u : (Nat → Int32) × (Nat → Int32) × (Nat → Int64)) => mm_ar u.1 (-1) 3 ∧ mm_ar u.2.1 0 60 ∧ mm_mr f_0 f_1 u.1 u.2.1 i_0 i_1 i_2 ∧ (((-2) = r ∧ mm_rg i_0 (-2147483648) (-1)) ∨ ((-2) = r ∧ mm_rg i_0 4 2147483647) ∨ ((-2) = r ∧ mm_rg i_0 0 3 ∧ mm_rg i_1 (-2147483648) (-1)) ∨ ((-2) = r ∧ mm_rg i_0 0 3 ∧ mm_rg i_1 4 2147483647) ∨ (0 = r ∧ mm_rg i_0 0 3 ∧ mm_rg i_1 0 3 ∧ mm_rg i_2 0 60) ∨ ((-3) = r ∧ mm_rg i_0 0 3 ∧ mm_rg i_1 0 3 ∧ mm_rg i_2 (-2147483648) (-1)) ∨ ((-2) = r ∧ mm_rg i_0 0 3 ∧ mm_rg i_1 0 3 ∧ mm_rg i_2 61 2147483647))) 0 0 := by
  refine mm_begin (lv := [(0, .ref a_0), (1, .int i_0), (2, .int i_1), (3, .int i_2)]) (by decide) (Nat.le_of_ble_eq_true rfl) rfl ?_
  intro p e s m below meth c A ls R args Q H locs hRe hQ hAe hx hb hr hlocks hml hown hnm hts hsz hA hS hP hK hD hZ hl
  have hRf : R.frames = 2 := by rw [hRe]
  have hRl : R.locals = 45 := by rw [hRe]
  have hRc : R.cells = 0 := by rw [hRe]
  have hRs : R.slots = 0 := by rw [hRe]
  refine lv_aload_n hx hb dX12_row_0 rfl (lv_at hl 0 rfl) ?_
  refine lv_iconst (v := 0) hx hb dX12_row_1 (by decide) ?_
  refine va_put (D := G) (ci := 12) (v := .int 0) (ty := tyX12 0) (C := RX12) (T := TX12) (N := 38) hx hb hts (mm_i inlX12) tyX12 tyX12_ok nmX12 hown hK.1 hP hD hS 0 rfl rfl 0 (by decide) (mm_h hts mm_w177) (fun _ h9 => h9) rfl (tyX12_ok 0 (by decide)) rfl rfl (Nat.le_of_ble_eq_true rfl) dX12_row_2 ?_
  clear hP hD hS
  clear H locs
  intro H locs (hP : va_P G vwCl [(a_0, .inr (12, [.int 0, .ref a_1, .ref a_2, .ref a_3, .ref a_4, .ref a_5, .int i_4, .int i_5, .int i_6, .int i_7, .int i_8, .long j_0, .int i_9, .int i_10, .int i_11, .int i_12, .ref a_6, .ref a_7, .ref a_8, .ref a_9, .ref a_10, .ref a_11, .ref a_12, .ref a_13, .ref a_14, .ref a_15, .ref a_16, .ref a_17, .ref a_18, .int i_13, .int i_14, .int i_15, .int i_16, .int i_17, .int i_18, .ref a_19, .int i_19, .ref a_20])), (a_1, .inl (cy 1, 4, .inl f_0)), (a_2, .inl (cy 1, 4, .inl f_1)), (a_3, .inl (cy 2, 240, .inr (.inl f_2)))] H) (hD : va_D A [(a_0, .inr (12, [.int 0, .ref a_1, .ref a_2, .ref a_3, .ref a_4, .ref a_5, .int i_4, .int i_5, .int i_6, .int i_7, .int i_8, .long j_0, .int i_9, .int i_10, .int i_11, .int i_12, .ref a_6, .ref a_7, .ref a_8, .ref a_9, .ref a_10, .ref a_11, .ref a_12, .ref a_13, .ref a_14, .ref a_15, .ref a_16, .ref a_17, .ref a_18, .int i_13, .int i_14, .int i_15, .int i_16, .int i_17, .int i_18, .ref a_19, .int i_19, .ref a_20])), (a_1, .inl (cy 1, 4, .inl f_0)), (a_2, .inl (cy 1, 4, .inl f_1)), (a_3, .inl (cy 2, 240, .inr (.inl f_2)))]) hS
  refine lv_iload_n hx hb dX12_row_5 rfl (lv_at hl 1 rfl) ?_
  refine mm_finir (va_runS (As := [.int i_0]) (rest := []) ⟨hx, hb, hml, hown, hts⟩ (C384_X12_isSlot l G cy H.size i_0 ) (va_cwS 1 hts (mm_gS mm_w1269 mm_w1270 mm_w5 mm_w1271) rfl rfl rfl hs_X12_isSlot ⟨by rw [hRf]; exact Nat.le_of_ble_eq_true rfl, by rw [hRl]; exact Nat.le_of_ble_eq_true rfl⟩) (mm_preS hK hZ hS hA hP hD [] rfl rfl) rfl rfl hl.1 rfl (lv_room (Nat.le_of_ble_eq_true rfl)) dX12_row_6 ⟨by rw [hRc]; exact Nat.le_of_ble_eq_true rfl, by rw [hRs]; exact Nat.le_of_ble_eq_true rfl⟩) hP hD hS hA [] rfl (fun _ => rfl) ?_
  clear hP hD hS
  clear H locs
  intro v1 _u H locs hw hP hD hS
  rcases hw with ⟨rfl, w2⟩ | ⟨rfl, w3⟩ | ⟨rfl, w4⟩
  · refine lv_if_eq (tgt := 30) hx hb dX12_row_9 (by decide) (fun c5 => ?_) (fun c5 => ?_)
    · refine lv_bipush (v := (-2)) hx hb dX12_row_30 (by decide) ?_
      have w6 : mm_mr f_0 f_1 f_0 f_1 i_0 i_1 i_2 := (mm_mr_n w2 (mm_top i_1) (mm_top i_2) (by decide))
      subst hAe
      rw [hQ]
      exact W.iret (v := (-2)) hx hb hr (fun t ht hW => ⟨⟨(-2), (f_0, f_1, f_2), rfl, ⟨h0, h1, w6, (Or.inl ⟨rfl, w2⟩)⟩, by rw [ht]; exact hP, hK.warm hW, hD⟩, hS.F ht⟩) hS.2.2 dX12_row_32
    · have q7 := mm_neL (lo := 1) (mm_ne c5) mm_k0 mm_k0 (by decide) (by decide)
      exact mm_no q7 (by decide)
  · refine lv_if_eq (tgt := 30) hx hb dX12_row_9 (by decide) (fun c8 => ?_) (fun c8 => ?_)
    · refine lv_bipush (v := (-2)) hx hb dX12_row_30 (by decide) ?_
      have w9 : mm_mr f_0 f_1 f_0 f_1 i_0 i_1 i_2 := (mm_mr_n w3 (mm_top i_1) (mm_top i_2) (by decide))
      subst hAe
      rw [hQ]
      exact W.iret (v := (-2)) hx hb hr (fun t ht hW => ⟨⟨(-2), (f_0, f_1, f_2), rfl, ⟨h0, h1, w9, (Or.inr (Or.inl ⟨rfl, w3⟩))⟩, by rw [ht]; exact hP, hK.warm hW, hD⟩, hS.F ht⟩) hS.2.2 dX12_row_32
    · have q10 := mm_neL (lo := 1) (mm_ne c8) mm_k0 mm_k0 (by decide) (by decide)
      exact mm_no q10 (by decide)
  · refine lv_if_eq (tgt := 30) hx hb dX12_row_9 (by decide) (fun c11 => ?_) (fun c11 => ?_)
    · exact mm_eqN c11.symm mm_k0 mm_k1 (by decide)
    · refine lv_iload_n hx hb dX12_row_12 rfl (lv_at hl 2 rfl) ?_
      obtain ⟨v12, ev12⟩ : ∃ y : Int64, y = i_1.toInt64 := ⟨_, rfl⟩
      refine lv_i2l hx hb dX12_row_13 ev12.symm ?_
      have rv12 : mm_rl v12 (-2147483648) 2147483647 := mm_i2l ev12 (mm_top i_1)
      refine lv_lconst (v := 0) hx hb dX12_row_14 (by decide) ?_
      refine lv_ldc2 (v := 3) hx hb hown (mm_h hts mm_w1272) dX12_row_15 ?_
      refine mm_finir (va_runS (As := [.long v12, .long 0, .long 3]) (rest := []) ⟨hx, hb, hml, hown, hts⟩ (C383_X12_in l G cy H.size v12 ) (va_cwS 3 hts (mm_gS mm_w191 mm_w192 mm_w5 mm_w193) rfl rfl rfl hs_X12_in ⟨by rw [hRf]; exact Nat.le_of_ble_eq_true rfl, by rw [hRl]; exact Nat.le_of_ble_eq_true rfl⟩) (mm_preS hK hZ hS hA hP hD [] rfl rfl) rfl rfl hl.1 rfl (lv_room (Nat.le_of_ble_eq_true rfl)) dX12_row_18 ⟨by rw [hRc]; exact Nat.le_of_ble_eq_true rfl, by rw [hRs]; exact Nat.le_of_ble_eq_true rfl⟩) hP hD hS hA [] rfl (fun _ => rfl) ?_
      clear hP hD hS
      clear H locs
      intro v13 _u H locs hw hP hD hS
      rcases hw with ⟨rfl, w14⟩ | ⟨rfl, w15, w16⟩ | ⟨rfl, w17, w18, w19⟩
      · have q20 := mm_meetl (lo := (-2147483648)) (hi := (-1)) w14 rv12 (by decide)
        have q21 := mm_meet (lo := (-2147483648)) (hi := (-1)) (mm_l2x ev12 q20) (mm_top i_1) (by decide)
        refine lv_if_eq (tgt := 30) hx hb dX12_row_21 (by decide) (fun c22 => ?_) (fun c22 => ?_)
        · refine lv_bipush (v := (-2)) hx hb dX12_row_30 (by decide) ?_
          have w23 : mm_mr f_0 f_1 f_0 f_1 i_0 i_1 i_2 := (mm_mr_n w4 q21 (mm_top i_2) (by decide))
          subst hAe
          rw [hQ]
          exact W.iret (v := (-2)) hx hb hr (fun t ht hW => ⟨⟨(-2), (f_0, f_1, f_2), rfl, ⟨h0, h1, w23, (Or.inr (Or.inr (Or.inl ⟨rfl, w4, q21⟩)))⟩, by rw [ht]; exact hP, hK.warm hW, hD⟩, hS.F ht⟩) hS.2.2 dX12_row_32
        · have q24 := mm_neL (lo := 1) (mm_ne c22) mm_k0 mm_k0 (by decide) (by decide)
          exact mm_no q24 (by decide)
      · have q25 := mm_meetl (lo := 4) (hi := 2147483647) w15 rv12 (by decide)
        have q26 := mm_meet (lo := 4) (hi := 2147483647) (mm_l2x ev12 q25) (mm_top i_1) (by decide)
        refine lv_if_eq (tgt := 30) hx hb dX12_row_21 (by decide) (fun c27 => ?_) (fun c27 => ?_)
        · refine lv_bipush (v := (-2)) hx hb dX12_row_30 (by decide) ?_
          have w28 : mm_mr f_0 f_1 f_0 f_1 i_0 i_1 i_2 := (mm_mr_n w4 q26 (mm_top i_2) (by decide))
          subst hAe
          rw [hQ]
          exact W.iret (v := (-2)) hx hb hr (fun t ht hW => ⟨⟨(-2), (f_0, f_1, f_2), rfl, ⟨h0, h1, w28, (Or.inr (Or.inr (Or.inr (Or.inl ⟨rfl, w4, q26⟩))))⟩, by rw [ht]; exact hP, hK.warm hW, hD⟩, hS.F ht⟩) hS.2.2 dX12_row_32
        · have q29 := mm_neL (lo := 1) (mm_ne c27) mm_k0 mm_k0 (by decide) (by decide)
          exact mm_no q29 (by decide)
      · have q30 := mm_meet (lo := 0) (hi := 3) (mm_l2x ev12 w17) (mm_top i_1) (by decide)
        refine lv_if_eq (tgt := 30) hx hb dX12_row_21 (by decide) (fun c31 => ?_) (fun c31 => ?_)
        · exact mm_eqN c31.symm mm_k0 mm_k1 (by decide)
        · refine lv_iload_n hx hb dX12_row_24 rfl (lv_at hl 3 rfl) ?_
          refine lv_bipush (v := 60) hx hb dX12_row_25 (by decide) ?_
          refine lv_icmp_le (tgt := 33) hx hb dX12_row_27 (by decide) (fun c32 => ?_) (fun c32 => ?_)
          · have q33 := mm_leL (mm_le c32) (mm_top i_2) mm_k60
            refine lv_iload_n hx hb dX12_row_33 rfl (lv_at hl 3 rfl) ?_
            refine lv_if_ge (tgt := 40) hx hb dX12_row_34 (by decide) (fun c34 => ?_) (fun c34 => ?_)
            · have q35 := mm_leR (mm_le c34) mm_k0 q33
              refine lv_aload_n hx hb dX12_row_40 rfl (lv_at hl 0 rfl) ?_
              refine va_get (D := G) (ci := 12) (v := .ref a_1) (C := RX12) (T := TX12) (N := 38) hx hb hts (mm_i inlX12) hown hK.1 hP 0 rfl rfl 1 (by decide) (mm_h hts mm_w142) (fun _ h9 => h9) rfl dX12_row_41 ?_
              refine lv_iload_n hx hb dX12_row_44 rfl (lv_at hl 1 rfl) ?_
              refine lv_iload_n hx hb dX12_row_45 rfl (lv_at hl 2 rfl) ?_
              refine va_iast hx hb hK.1 hP hD hS 1 1 rfl rfl (mm_in w4 (by decide)) dX12_row_46 ?_
              clear hP hD hS
              clear H locs
              obtain ⟨g36, eg36⟩ : ∃ z : Nat → Int32, z = upd f_0 i_0.toNatClampNeg i_1 := ⟨_, rfl⟩
              rw [← eg36]
              intro H locs (hP : va_P G vwCl [(a_0, .inr (12, [.int 0, .ref a_1, .ref a_2, .ref a_3, .ref a_4, .ref a_5, .int i_4, .int i_5, .int i_6, .int i_7, .int i_8, .long j_0, .int i_9, .int i_10, .int i_11, .int i_12, .ref a_6, .ref a_7, .ref a_8, .ref a_9, .ref a_10, .ref a_11, .ref a_12, .ref a_13, .ref a_14, .ref a_15, .ref a_16, .ref a_17, .ref a_18, .int i_13, .int i_14, .int i_15, .int i_16, .int i_17, .int i_18, .ref a_19, .int i_19, .ref a_20])), (a_1, .inl (cy 1, 4, .inl g36)), (a_2, .inl (cy 1, 4, .inl f_1)), (a_3, .inl (cy 2, 240, .inr (.inl f_2)))] H) (hD : va_D A [(a_0, .inr (12, [.int 0, .ref a_1, .ref a_2, .ref a_3, .ref a_4, .ref a_5, .int i_4, .int i_5, .int i_6, .int i_7, .int i_8, .long j_0, .int i_9, .int i_10, .int i_11, .int i_12, .ref a_6, .ref a_7, .ref a_8, .ref a_9, .ref a_10, .ref a_11, .ref a_12, .ref a_13, .ref a_14, .ref a_15, .ref a_16, .ref a_17, .ref a_18, .int i_13, .int i_14, .int i_15, .int i_16, .int i_17, .int i_18, .ref a_19, .int i_19, .ref a_20])), (a_1, .inl (cy 1, 4, .inl g36)), (a_2, .inl (cy 1, 4, .inl f_1)), (a_3, .inl (cy 2, 240, .inr (.inl f_2)))]) hS
              have rg36 : mm_ar g36 (-1) 3 := by rw [eg36]; exact mm_ar_upd (mm_ar_wk h0 (by decide)) (mm_wk q30 (by decide)) _
              refine lv_aload_n hx hb dX12_row_47 rfl (lv_at hl 0 rfl) ?_
              refine va_get (D := G) (ci := 12) (v := .ref a_2) (C := RX12) (T := TX12) (N := 38) hx hb hts (mm_i inlX12) hown hK.1 hP 0 rfl rfl 2 (by decide) (mm_h hts mm_w143) (fun _ h9 => h9) rfl dX12_row_48 ?_
              refine lv_iload_n hx hb dX12_row_51 rfl (lv_at hl 1 rfl) ?_
              refine lv_iload_n hx hb dX12_row_52 rfl (lv_at hl 3 rfl) ?_
              refine va_iast hx hb hK.1 hP hD hS 2 1 rfl rfl (mm_in w4 (by decide)) dX12_row_53 ?_
              clear hP hD hS
              clear H locs
              obtain ⟨g37, eg37⟩ : ∃ z : Nat → Int32, z = upd f_1 i_0.toNatClampNeg i_2 := ⟨_, rfl⟩
              rw [← eg37]
              intro H locs (hP : va_P G vwCl [(a_0, .inr (12, [.int 0, .ref a_1, .ref a_2, .ref a_3, .ref a_4, .ref a_5, .int i_4, .int i_5, .int i_6, .int i_7, .int i_8, .long j_0, .int i_9, .int i_10, .int i_11, .int i_12, .ref a_6, .ref a_7, .ref a_8, .ref a_9, .ref a_10, .ref a_11, .ref a_12, .ref a_13, .ref a_14, .ref a_15, .ref a_16, .ref a_17, .ref a_18, .int i_13, .int i_14, .int i_15, .int i_16, .int i_17, .int i_18, .ref a_19, .int i_19, .ref a_20])), (a_1, .inl (cy 1, 4, .inl g36)), (a_2, .inl (cy 1, 4, .inl g37)), (a_3, .inl (cy 2, 240, .inr (.inl f_2)))] H) (hD : va_D A [(a_0, .inr (12, [.int 0, .ref a_1, .ref a_2, .ref a_3, .ref a_4, .ref a_5, .int i_4, .int i_5, .int i_6, .int i_7, .int i_8, .long j_0, .int i_9, .int i_10, .int i_11, .int i_12, .ref a_6, .ref a_7, .ref a_8, .ref a_9, .ref a_10, .ref a_11, .ref a_12, .ref a_13, .ref a_14, .ref a_15, .ref a_16, .ref a_17, .ref a_18, .int i_13, .int i_14, .int i_15, .int i_16, .int i_17, .int i_18, .ref a_19, .int i_19, .ref a_20])), (a_1, .inl (cy 1, 4, .inl g36)), (a_2, .inl (cy 1, 4, .inl g37)), (a_3, .inl (cy 2, 240, .inr (.inl f_2)))]) hS
              have rg37 : mm_ar g37 0 60 := by rw [eg37]; exact mm_ar_upd (mm_ar_wk h1 (by decide)) (mm_wk q35 (by decide)) _
              refine lv_iconst (v := 0) hx hb dX12_row_54 (by decide) ?_
              refine lv_istore (lv' := [(4, .int 0), (0, .ref a_0), (1, .int i_0), (2, .int i_1), (3, .int i_2)]) hx hb dX12_row_55 hl (by decide) rfl ?_
              clear hl
              clear ls
              intro ls hl
              have L57_136 : ∀ (n : Nat) (x57_4_135 : Int32) (z57_3_136 : Nat → Int64), mm_rg x57_4_135 0 60 → (60 - x57_4_135.toInt).toNat < n → ∀ (H : Heap) (locs : List Loc), va_P G vwCl [(a_0, .inr (12, [.int 0, .ref a_1, .ref a_2, .ref a_3, .ref a_4, .ref a_5, .int i_4, .int i_5, .int i_6, .int i_7, .int i_8, .long j_0, .int i_9, .int i_10, .int i_11, .int i_12, .ref a_6, .ref a_7, .ref a_8, .ref a_9, .ref a_10, .ref a_11, .ref a_12, .ref a_13, .ref a_14, .ref a_15, .ref a_16, .ref a_17, .ref a_18, .int i_13, .int i_14, .int i_15, .int i_16, .int i_17, .int i_18, .ref a_19, .int i_19, .ref a_20])), (a_1, .inl (cy 1, 4, .inl g36)), (a_2, .inl (cy 1, 4, .inl g37)), (a_3, .inl (cy 2, 240, .inr (.inl z57_3_136)))] H → va_D A [(a_0, .inr (12, [.int 0, .ref a_1, .ref a_2, .ref a_3, .ref a_4, .ref a_5, .int i_4, .int i_5, .int i_6, .int i_7, .int i_8, .long j_0, .int i_9, .int i_10, .int i_11, .int i_12, .ref a_6, .ref a_7, .ref a_8, .ref a_9, .ref a_10, .ref a_11, .ref a_12, .ref a_13, .ref a_14, .ref a_15, .ref a_16, .ref a_17, .ref a_18, .int i_13, .int i_14, .int i_15, .int i_16, .int i_17, .int i_18, .ref a_19, .int i_19, .ref a_20])), (a_1, .inl (cy 1, 4, .inl g36)), (a_2, .inl (cy 1, 4, .inl g37)), (a_3, .inl (cy 2, 240, .inr (.inl z57_3_136)))] → va_S A s.heap H locs → ∀ (ls : Array Slot), lv_has ls 5 [(4, .int x57_4_135), (0, .ref a_0), (1, .int i_0), (2, .int i_1), (3, .int i_2)] → W p l e R s m args below meth c H locs 0 0 Q (F0 m 57 ls []) := by
                intro n
                induction n with
                | zero => intro x57_4_135 z57_3_136 rx57_4_135 hm; exact absurd hm (Nat.not_lt_zero _)
                | succ n ih57 =>
                  intro x57_4_135 z57_3_136 rx57_4_135 hm57 H locs hP hD hS ls hl
                  refine lv_iload hx hb dX12_row_57 (lv_at hl 0 rfl) ?_
                  refine lv_iload_n hx hb dX12_row_59 rfl (lv_at hl 4 rfl) ?_
                  refine lv_icmp_ge (tgt := 82) hx hb dX12_row_60 (by decide) (fun c138 => ?_) (fun c138 => ?_)
                  · refine lv_iconst (v := 0) hx hb dX12_row_82 (by decide) ?_
                    have w139 : mm_mr f_0 f_1 g36 g37 i_0 i_1 i_2 := (mm_mr_y eg36 eg37 w4 q30 q35 (by decide))
                    subst hAe
                    rw [hQ]
                    exact W.iret (v := 0) hx hb hr (fun t ht hW => ⟨⟨0, (g36, g37, z57_3_136), rfl, ⟨rg36, rg37, w139, (Or.inr (Or.inr (Or.inr (Or.inr (Or.inl ⟨rfl, w4, q30, q35⟩)))))⟩, by rw [ht]; exact hP, hK.warm hW, hD⟩, hS.F ht⟩) hS.2.2 dX12_row_83
                  · have q140 := mm_ltL (h := 59) (mm_nle c138) rx57_4_135 q35 (by decide)
                    have q141 := mm_ltR (lo := 1) (mm_nle c138) rx57_4_135 q35 (by decide)
                    refine lv_aload_n hx hb dX12_row_63 rfl (lv_at hl 1 rfl) ?_
                    refine va_get (D := G) (ci := 12) (v := .ref a_3) (C := RX12) (T := TX12) (N := 38) hx hb hts (mm_i inlX12) hown hK.1 hP 0 rfl rfl 3 (by decide) (mm_h hts mm_w144) (fun _ h9 => h9) rfl dX12_row_64 ?_
                    refine lv_bipush (v := 60) hx hb dX12_row_67 (by decide) ?_
                    refine lv_iload_n hx hb dX12_row_69 rfl (lv_at hl 2 rfl) ?_
                    refine lv_imul hx hb dX12_row_70 ?_
                    refine lv_topi (fun v142 ev142 => ?_)
                    have rv142 : mm_rg v142 0 180 := mm_mul ev142 mm_k60 w4 (by decide) (by decide)
                    have tv142 := mm_mulEc ev142 mm_k60 w4 (by decide) (k := 60) (by decide)
                    refine lv_iload hx hb dX12_row_71 (lv_at hl 0 rfl) ?_
                    refine lv_iadd hx hb dX12_row_73 ?_
                    refine lv_topi (fun v143 ev143 => ?_)
                    have rv143 : mm_rg v143 0 239 := mm_add ev143 rv142 q140 (by decide) (by decide)
                    have tv143 := mm_addE ev143 rv142 q140 (by decide)
                    refine lv_lconst (v := 0) hx hb dX12_row_74 (by decide) ?_
                    refine va_last hx hb hK.1 hP hD hS 3 2 rfl rfl (mm_in rv143 (by decide)) dX12_row_75 ?_
                    clear hP hD hS
                    clear H locs
                    obtain ⟨g144, eg144⟩ : ∃ z : Nat → Int64, z = vp_updL z57_3_136 v143.toNatClampNeg 0 := ⟨_, rfl⟩
                    rw [← eg144]
                    intro H locs (hP : va_P G vwCl [(a_0, .inr (12, [.int 0, .ref a_1, .ref a_2, .ref a_3, .ref a_4, .ref a_5, .int i_4, .int i_5, .int i_6, .int i_7, .int i_8, .long j_0, .int i_9, .int i_10, .int i_11, .int i_12, .ref a_6, .ref a_7, .ref a_8, .ref a_9, .ref a_10, .ref a_11, .ref a_12, .ref a_13, .ref a_14, .ref a_15, .ref a_16, .ref a_17, .ref a_18, .int i_13, .int i_14, .int i_15, .int i_16, .int i_17, .int i_18, .ref a_19, .int i_19, .ref a_20])), (a_1, .inl (cy 1, 4, .inl g36)), (a_2, .inl (cy 1, 4, .inl g37)), (a_3, .inl (cy 2, 240, .inr (.inl g144)))] H) (hD : va_D A [(a_0, .inr (12, [.int 0, .ref a_1, .ref a_2, .ref a_3, .ref a_4, .ref a_5, .int i_4, .int i_5, .int i_6, .int i_7, .int i_8, .long j_0, .int i_9, .int i_10, .int i_11, .int i_12, .ref a_6, .ref a_7, .ref a_8, .ref a_9, .ref a_10, .ref a_11, .ref a_12, .ref a_13, .ref a_14, .ref a_15, .ref a_16, .ref a_17, .ref a_18, .int i_13, .int i_14, .int i_15, .int i_16, .int i_17, .int i_18, .ref a_19, .int i_19, .ref a_20])), (a_1, .inl (cy 1, 4, .inl g36)), (a_2, .inl (cy 1, 4, .inl g37)), (a_3, .inl (cy 2, 240, .inr (.inl g144)))]) hS
                    obtain ⟨v145, ev145⟩ : ∃ y : Int32, y = x57_4_135 + 1 := ⟨_, rfl⟩
                    refine lv_iinc (v := v145) (lv' := [(4, .int v145), (0, .ref a_0), (1, .int i_0), (2, .int i_1), (3, .int i_2)]) hx hb dX12_row_76 hl (k := 0) rfl (by rw [ev145]; rfl) (by decide) rfl ?_
                    clear hl
                    clear ls
                    intro ls hl
                    have rv145 : mm_rg v145 1 60 := mm_add ev145 q140 mm_k1 (by decide) (by decide)
                    have tv145 := mm_addEc ev145 q140 mm_k1 (by decide) (k := 1) (by decide)
                    refine lv_goto (tgt := 57) hx hb dX12_row_79 (by decide) ?_
                    exact ih57 v145 g144 (mm_wk rv145 (by decide)) (mm_mu hm57 tv145 (by decide) (rv145).2 (by decide)) H locs hP hD hS ls (lv_sub hl [0, 1, 2, 3, 4] rfl)
              exact L57_136 _ 0 f_2 (mm_wk mm_k0 (by decide)) (Nat.lt_succ_self _) H locs hP hD hS ls (lv_sub hl [0, 1, 2, 3, 4] rfl)
            · have q146 := mm_ltL (h := (-1)) (mm_nle c34) q33 mm_k0 (by decide)
              refine lv_bipush (v := (-3)) hx hb dX12_row_37 (by decide) ?_
              have w147 : mm_mr f_0 f_1 f_0 f_1 i_0 i_1 i_2 := (mm_mr_n w4 q30 q146 (by decide))
              subst hAe
              rw [hQ]
              exact W.iret (v := (-3)) hx hb hr (fun t ht hW => ⟨⟨(-3), (f_0, f_1, f_2), rfl, ⟨h0, h1, w147, (Or.inr (Or.inr (Or.inr (Or.inr (Or.inr (Or.inl ⟨rfl, w4, q30, q146⟩))))))⟩, by rw [ht]; exact hP, hK.warm hW, hD⟩, hS.F ht⟩) hS.2.2 dX12_row_39
          · have q148 := mm_ltR (lo := 61) (mm_nle c32) mm_k60 (mm_top i_2) (by decide)
            refine lv_bipush (v := (-2)) hx hb dX12_row_30 (by decide) ?_
            have w149 : mm_mr f_0 f_1 f_0 f_1 i_0 i_1 i_2 := (mm_mr_n w4 q30 q148 (by decide))
            subst hAe
            rw [hQ]
            exact W.iret (v := (-2)) hx hb hr (fun t ht hW => ⟨⟨(-2), (f_0, f_1, f_2), rfl, ⟨h0, h1, w149, (Or.inr (Or.inr (Or.inr (Or.inr (Or.inr (Or.inr ⟨rfl, w4, q30, q148⟩))))))⟩, by rw [ht]; exact hP, hK.warm hW, hD⟩, hS.F ht⟩) hS.2.2 dX12_row_32

set_option maxHeartbeats 4000000 in
set_option maxRecDepth 100000 in
theorem C386_X12_in (l : Launch) (G : va_G) (cy : Nat → ClassId) (sz : Nat) (j_0 : Int64) (j_1 : Int64) (h0 : mm_rl j_1 (-1) 59)  : mm_CI l yX12_in (mm_ws yX12_in cX12_in 6 (some .boolean)) ({ frames := 0, cells := 0, slots := 0, locals := 0 } : Room) G cy sz [] [.long j_0, .long 0, .long j_1] (fun u : Unit => []) (fun (r : Int32) (u : Unit) => ((0 = r ∧ mm_rl j_0 (-9223372036854775808) (-1)) ∨ (0 = r ∧ mm_rl j_0 0 9223372036854775807 ∧ (j_1 : Int64).toInt < (j_0 : Int64).toInt) ∨ (1 = r ∧ mm_rl j_0 0 59 ∧ mm_rl j_1 0 59 ∧ (j_0 : Int64).toInt ≤ (j_1 : Int64).toInt ∧ (0 : Int64).toInt ≤ (j_0 : Int64).toInt))) 0 0 := by
  refine mm_begin (lv := [(0, .long j_0), (2, .long 0), (4, .long j_1)]) (by decide) (Nat.le_of_ble_eq_true rfl) rfl ?_
  intro p e s m below meth c A ls R args Q H locs hRe hQ hAe hx hb hr hlocks hml hown hnm hts hsz hA hS hP hK hD hZ hl
  have hRf : R.frames = 0 := by rw [hRe]
  have hRl : R.locals = 0 := by rw [hRe]
  have hRc : R.cells = 0 := by rw [hRe]
  have hRs : R.slots = 0 := by rw [hRe]
  refine lv_lload_n hx hb dX12_in_0 rfl (lv_at hl 0 rfl) ?_
  refine lv_lload_n hx hb dX12_in_1 rfl (lv_at hl 1 rfl) ?_
  refine W.lcmp hx hb dX12_in_2 ?_
  refine lv_topi (fun v1 ev1 => ?_)
  refine lv_if_lt (tgt := 17) hx hb dX12_in_3 (by decide) (fun c2 => ?_) (fun c2 => ?_)
  · have q3 := mm_ltLl (h := (-1)) (mm_cmp_lt ev1 c2) (mm_topl j_0) mm_kl0 (by decide)
    refine lv_iconst (v := 0) hx hb dX12_in_17 (by decide) ?_
    subst hAe
    rw [hQ]
    exact W.zret (v := 0) hx hb hr rfl (fun t ht hW => ⟨⟨0, (), rfl, (Or.inl ⟨rfl, q3⟩), by rw [ht]; exact hP, hK.warm hW, hD⟩, hS.F ht⟩) hS.2.2 dX12_in_18
  · have q4 := mm_leRl (mm_cmp_ge ev1 (mm_n_lt c2)) mm_kl0 (mm_topl j_0)
    refine lv_lload_n hx hb dX12_in_6 rfl (lv_at hl 0 rfl) ?_
    refine lv_lload hx hb dX12_in_7 (lv_at hl 2 rfl) ?_
    refine W.lcmp hx hb dX12_in_9 ?_
    refine lv_topi (fun v5 ev5 => ?_)
    refine lv_if_gt (tgt := 17) hx hb dX12_in_10 (by decide) (fun c6 => ?_) (fun c6 => ?_)
    · refine lv_iconst (v := 0) hx hb dX12_in_17 (by decide) ?_
      have w7 : (j_1 : Int64).toInt < (j_0 : Int64).toInt := (mm_cmp_gt ev5 c6)
      subst hAe
      rw [hQ]
      exact W.zret (v := 0) hx hb hr rfl (fun t ht hW => ⟨⟨0, (), rfl, (Or.inr (Or.inl ⟨rfl, q4, w7⟩)), by rw [ht]; exact hP, hK.warm hW, hD⟩, hS.F ht⟩) hS.2.2 dX12_in_18
    · have q8 := mm_leLl (mm_cmp_le ev5 (mm_n_gt c6)) q4 h0
      have q9 := mm_leRl (mm_cmp_le ev5 (mm_n_gt c6)) q4 h0
      refine lv_iconst (v := 1) hx hb dX12_in_13 (by decide) ?_
      refine lv_goto (tgt := 18) hx hb dX12_in_14 (by decide) ?_
      have w10 : (j_0 : Int64).toInt ≤ (j_1 : Int64).toInt := (mm_cmp_le ev5 (mm_n_gt c6))
      have w11 : (0 : Int64).toInt ≤ (j_0 : Int64).toInt := (mm_cmp_ge ev1 (mm_n_lt c2))
      subst hAe
      rw [hQ]
      exact W.zret (v := 1) hx hb hr rfl (fun t ht hW => ⟨⟨1, (), rfl, (Or.inr (Or.inr ⟨rfl, q8, q9, w10, w11⟩)), by rw [ht]; exact hP, hK.warm hW, hD⟩, hS.F ht⟩) hS.2.2 dX12_in_18

set_option maxHeartbeats 4000000 in
set_option maxRecDepth 100000 in
theorem C387_X12_write (l : Launch) (G : va_G) (cy : Nat → ClassId) (sz : Nat) (a_0 : Nat) (i_0 : Int32) (i_1 : Int32) (j_0 : Int64) (i_2 : Int32) (a_1 : Nat) (a_2 : Nat) (a_3 : Nat) (a_4 : Nat) (a_5 : Nat) (i_3 : Int32) (i_4 : Int32) (i_5 : Int32) (i_6 : Int32) (i_7 : Int32) (j_1 : Int64) (i_8 : Int32) (i_9 : Int32) (i_10 : Int32) (i_11 : Int32) (a_6 : Nat) (a_7 : Nat) (a_8 : Nat) (a_9 : Nat) (a_10 : Nat) (a_11 : Nat) (a_12 : Nat) (a_13 : Nat) (a_14 : Nat) (a_15 : Nat) (a_16 : Nat) (a_17 : Nat) (a_18 : Nat) (i_12 : Int32) (i_13 : Int32) (i_14 : Int32) (i_15 : Int32) (i_16 : Int32) (i_17 : Int32) (a_19 : Nat) (i_18 : Int32) (a_20 : Nat) (f_0 : Nat → Int32) (f_1 : Nat → Int32) (f_2 : Nat → Int64) (h0 : mm_ar f_0 (-1) 3) (h1 : mm_ar f_1 0 60)  : mm_CI l yX12_write (mm_ws yX12_write cX12_write 5 (some .int)) ({ frames := 2, cells := 0, slots := 0, locals := 45 } : Room) G cy sz [(a_0, .inr (12, [.int i_2, .ref a_1, .ref a_2, .ref a_3, .ref a_4, .ref a_5, .int i_3, .int i_4, .int i_5, .int i_6, .int i_7, .long j_1, .int i_8, .int i_9, .int i_10, .int i_11, .ref a_6, .ref a_7, .ref a_8, .ref a_9, .ref a_10, .ref a_11, .ref a_12, .ref a_13, .ref a_14, .ref a_15, .ref a_16, .ref a_17, .ref a_18, .int i_12, .int i_13, .int i_14, .int i_15, .int i_16, .int i_17, .ref a_19, .int i_18, .ref a_20])), (a_1, .inl (cy 1, 4, .inl f_0)), (a_2, .inl (cy 1, 4, .inl f_1)), (a_3, .inl (cy 2, 240, .inr (.inl f_2)))] [.ref a_0, .int i_0, .int i_1, .long j_0] (fun u : (Nat → Int64) => [(a_0, .inr (12, [.int 0, .ref a_1, .ref a_2, .ref a_3, .ref a_4, .ref a_5, .int i_3, .int i_4, .int i_5, .int i_6, .int i_7, .long j_1, .int i_8, .int i_9, .int i_10, .int i_11, .ref a_6, .ref a_7, .ref a_8, .ref a_9, .ref a_10, .ref a_11, .ref a_12, .ref a_13, .ref a_14, .ref a_15, .ref a_16, .ref a_17, .ref a_18, .int i_12, .int i_13, .int i_14, .int i_15, .int i_16, .int i_17, .ref a_19, .int i_18, .ref a_20])), (a_1, .inl (cy 1, 4, .inl f_0)), (a_2, .inl (cy 1, 4, .inl f_1)), (a_3, .inl (cy 2, 240, .inr (.inl u)))]) (fun (r : Int32) (u : (Nat → Int64)) => (((-2) = r ∧ mm_rg i_0 (-2147483648) (-1)) ∨ ((-2) = r ∧ mm_rg i_0 4 2147483647) ∨ ((-7) = r ∧ mm_rg i_0 0 3 ∧ mm_rg i_1 (-2147483648) (-1) ∧ mm_z1 f_0 i_0) ∨ ((-7) = r ∧ mm_rg i_0 0 3 ∧ mm_rg i_1 0 2147483647 ∧ mm_z1 f_0 i_0 ∧ mm_wg f_1 i_0 i_1) ∨ (0 = r ∧ mm_rg i_0 0 3 ∧ mm_rg i_1 0 59 ∧ mm_z1 f_0 i_0 ∧ mm_wl f_1 i_0 i_1) ∨ ((-6) = r ∧ mm_rg i_0 0 3 ∧ mm_z0 f_0 i_0))) 0 0 := by
  refine mm_begin (lv := [(0, .ref a_0), (1, .int i_0), (2, .int i_1), (3, .long j_0)]) (by decide) (Nat.le_of_ble_eq_true rfl) rfl ?_
  intro p e s m below meth c A ls R args Q H locs hRe hQ hAe hx hb hr hlocks hml hown hnm hts hsz hA hS hP hK hD hZ hl
  have hRf : R.frames = 2 := by rw [hRe]
  have hRl : R.locals = 45 := by rw [hRe]
  have hRc : R.cells = 0 := by rw [hRe]
  have hRs : R.slots = 0 := by rw [hRe]
  refine lv_aload_n hx hb dX12_write_0 rfl (lv_at hl 0 rfl) ?_
  refine lv_iconst (v := 0) hx hb dX12_write_1 (by decide) ?_
  refine va_put (D := G) (ci := 12) (v := .int 0) (ty := tyX12 0) (C := RX12) (T := TX12) (N := 38) hx hb hts (mm_i inlX12) tyX12 tyX12_ok nmX12 hown hK.1 hP hD hS 0 rfl rfl 0 (by decide) (mm_h hts mm_w177) (fun _ h9 => h9) rfl (tyX12_ok 0 (by decide)) rfl rfl (Nat.le_of_ble_eq_true rfl) dX12_write_2 ?_
  clear hP hD hS
  clear H locs
  intro H locs (hP : va_P G vwCl [(a_0, .inr (12, [.int 0, .ref a_1, .ref a_2, .ref a_3, .ref a_4, .ref a_5, .int i_3, .int i_4, .int i_5, .int i_6, .int i_7, .long j_1, .int i_8, .int i_9, .int i_10, .int i_11, .ref a_6, .ref a_7, .ref a_8, .ref a_9, .ref a_10, .ref a_11, .ref a_12, .ref a_13, .ref a_14, .ref a_15, .ref a_16, .ref a_17, .ref a_18, .int i_12, .int i_13, .int i_14, .int i_15, .int i_16, .int i_17, .ref a_19, .int i_18, .ref a_20])), (a_1, .inl (cy 1, 4, .inl f_0)), (a_2, .inl (cy 1, 4, .inl f_1)), (a_3, .inl (cy 2, 240, .inr (.inl f_2)))] H) (hD : va_D A [(a_0, .inr (12, [.int 0, .ref a_1, .ref a_2, .ref a_3, .ref a_4, .ref a_5, .int i_3, .int i_4, .int i_5, .int i_6, .int i_7, .long j_1, .int i_8, .int i_9, .int i_10, .int i_11, .ref a_6, .ref a_7, .ref a_8, .ref a_9, .ref a_10, .ref a_11, .ref a_12, .ref a_13, .ref a_14, .ref a_15, .ref a_16, .ref a_17, .ref a_18, .int i_12, .int i_13, .int i_14, .int i_15, .int i_16, .int i_17, .ref a_19, .int i_18, .ref a_20])), (a_1, .inl (cy 1, 4, .inl f_0)), (a_2, .inl (cy 1, 4, .inl f_1)), (a_3, .inl (cy 2, 240, .inr (.inl f_2)))]) hS
  refine lv_iload_n hx hb dX12_write_5 rfl (lv_at hl 1 rfl) ?_
  refine mm_finir (va_runS (As := [.int i_0]) (rest := []) ⟨hx, hb, hml, hown, hts⟩ (C384_X12_isSlot l G cy H.size i_0 ) (va_cwS 1 hts (mm_gS mm_w1269 mm_w1270 mm_w5 mm_w1271) rfl rfl rfl hs_X12_isSlot ⟨by rw [hRf]; exact Nat.le_of_ble_eq_true rfl, by rw [hRl]; exact Nat.le_of_ble_eq_true rfl⟩) (mm_preS hK hZ hS hA hP hD [] rfl rfl) rfl rfl hl.1 rfl (lv_room (Nat.le_of_ble_eq_true rfl)) dX12_write_6 ⟨by rw [hRc]; exact Nat.le_of_ble_eq_true rfl, by rw [hRs]; exact Nat.le_of_ble_eq_true rfl⟩) hP hD hS hA [] rfl (fun _ => rfl) ?_
  clear hP hD hS
  clear H locs
  intro v1 _u H locs hw hP hD hS
  rcases hw with ⟨rfl, w2⟩ | ⟨rfl, w3⟩ | ⟨rfl, w4⟩
  · refine lv_if_ne (tgt := 15) hx hb dX12_write_9 (by decide) (fun c5 => ?_) (fun c5 => ?_)
    · have q6 := mm_neL (lo := 1) (mm_ne c5) mm_k0 mm_k0 (by decide) (by decide)
      exact mm_no q6 (by decide)
    · refine lv_bipush (v := (-2)) hx hb dX12_write_12 (by decide) ?_
      subst hAe
      rw [hQ]
      exact W.iret (v := (-2)) hx hb hr (fun t ht hW => ⟨⟨(-2), f_2, rfl, (Or.inl ⟨rfl, w2⟩), by rw [ht]; exact hP, hK.warm hW, hD⟩, hS.F ht⟩) hS.2.2 dX12_write_14
  · refine lv_if_ne (tgt := 15) hx hb dX12_write_9 (by decide) (fun c7 => ?_) (fun c7 => ?_)
    · have q8 := mm_neL (lo := 1) (mm_ne c7) mm_k0 mm_k0 (by decide) (by decide)
      exact mm_no q8 (by decide)
    · refine lv_bipush (v := (-2)) hx hb dX12_write_12 (by decide) ?_
      subst hAe
      rw [hQ]
      exact W.iret (v := (-2)) hx hb hr (fun t ht hW => ⟨⟨(-2), f_2, rfl, (Or.inr (Or.inl ⟨rfl, w3⟩)), by rw [ht]; exact hP, hK.warm hW, hD⟩, hS.F ht⟩) hS.2.2 dX12_write_14
  · refine lv_if_ne (tgt := 15) hx hb dX12_write_9 (by decide) (fun c9 => ?_) (fun c9 => ?_)
    · refine lv_aload_n hx hb dX12_write_15 rfl (lv_at hl 0 rfl) ?_
      refine va_get (D := G) (ci := 12) (v := .ref a_1) (C := RX12) (T := TX12) (N := 38) hx hb hts (mm_i inlX12) hown hK.1 hP 0 rfl rfl 1 (by decide) (mm_h hts mm_w142) (fun _ h9 => h9) rfl dX12_write_16 ?_
      refine lv_iload_n hx hb dX12_write_19 rfl (lv_at hl 1 rfl) ?_
      refine va_iald hx hb hK.1 hP 1 1 rfl rfl (mm_in w4 (by decide)) dX12_write_20 ?_
      refine lv_topi (fun v10 ev10 => ?_)
      have rv10 : mm_rg v10 (-1) 3 := mm_eqv ev10 (h0 _)
      refine lv_iconst (v := (-1)) hx hb dX12_write_21 (by decide) ?_
      refine lv_icmp_ne (tgt := 28) hx hb dX12_write_22 (by decide) (fun c11 => ?_) (fun c11 => ?_)
      · have q12 := mm_neL (lo := 0) (mm_ne c11) rv10 mm_km1 (by decide) (by decide)
        refine lv_iload_n hx hb dX12_write_28 rfl (lv_at hl 2 rfl) ?_
        obtain ⟨v13, ev13⟩ : ∃ y : Int64, y = i_1.toInt64 := ⟨_, rfl⟩
        refine lv_i2l hx hb dX12_write_29 ev13.symm ?_
        have rv13 : mm_rl v13 (-2147483648) 2147483647 := mm_i2l ev13 (mm_top i_1)
        refine lv_lconst (v := 0) hx hb dX12_write_30 (by decide) ?_
        refine lv_aload_n hx hb dX12_write_31 rfl (lv_at hl 0 rfl) ?_
        refine va_get (D := G) (ci := 12) (v := .ref a_2) (C := RX12) (T := TX12) (N := 38) hx hb hts (mm_i inlX12) hown hK.1 hP 0 rfl rfl 2 (by decide) (mm_h hts mm_w143) (fun _ h9 => h9) rfl dX12_write_32 ?_
        refine lv_iload_n hx hb dX12_write_35 rfl (lv_at hl 1 rfl) ?_
        refine va_iald hx hb hK.1 hP 2 1 rfl rfl (mm_in w4 (by decide)) dX12_write_36 ?_
        refine lv_topi (fun v14 ev14 => ?_)
        have rv14 : mm_rg v14 0 60 := mm_eqv ev14 (h1 _)
        refine lv_iconst (v := 1) hx hb dX12_write_37 (by decide) ?_
        refine lv_isub hx hb dX12_write_38 ?_
        refine lv_topi (fun v15 ev15 => ?_)
        have rv15 : mm_rg v15 (-1) 59 := mm_sub ev15 rv14 mm_k1 (by decide) (by decide)
        have tv15 := mm_subEc ev15 rv14 mm_k1 (by decide) (k := (-1)) (by decide)
        obtain ⟨v16, ev16⟩ : ∃ y : Int64, y = v15.toInt64 := ⟨_, rfl⟩
        refine lv_i2l hx hb dX12_write_39 ev16.symm ?_
        have rv16 : mm_rl v16 (-1) 59 := mm_i2l ev16 rv15
        refine mm_finir (va_runS (As := [.long v13, .long 0, .long v16]) (rest := []) ⟨hx, hb, hml, hown, hts⟩ (C386_X12_in l G cy H.size v13 v16 rv16) (va_cwS 3 hts (mm_gS mm_w191 mm_w192 mm_w5 mm_w193) rfl rfl rfl hs_X12_in ⟨by rw [hRf]; exact Nat.le_of_ble_eq_true rfl, by rw [hRl]; exact Nat.le_of_ble_eq_true rfl⟩) (mm_preS hK hZ hS hA hP hD [] rfl rfl) rfl rfl hl.1 rfl (lv_room (Nat.le_of_ble_eq_true rfl)) dX12_write_40 ⟨by rw [hRc]; exact Nat.le_of_ble_eq_true rfl, by rw [hRs]; exact Nat.le_of_ble_eq_true rfl⟩) hP hD hS hA [] rfl (fun _ => rfl) ?_
        clear hP hD hS
        clear H locs
        intro v17 _u H locs hw hP hD hS
        rcases hw with ⟨rfl, w18⟩ | ⟨rfl, w19, w20⟩ | ⟨rfl, w21, w22, w23, w24⟩
        · have q25 := mm_meetl (lo := (-2147483648)) (hi := (-1)) w18 rv13 (by decide)
          have q26 := mm_meet (lo := (-2147483648)) (hi := (-1)) (mm_l2x ev13 q25) (mm_top i_1) (by decide)
          refine lv_if_ne (tgt := 49) hx hb dX12_write_43 (by decide) (fun c27 => ?_) (fun c27 => ?_)
          · have q28 := mm_neL (lo := 1) (mm_ne c27) mm_k0 mm_k0 (by decide) (by decide)
            exact mm_no q28 (by decide)
          · refine lv_bipush (v := (-7)) hx hb dX12_write_46 (by decide) ?_
            have w29 : mm_z1 f_0 i_0 := (mm_z1_of ev10 (mm_ne c11))
            subst hAe
            rw [hQ]
            exact W.iret (v := (-7)) hx hb hr (fun t ht hW => ⟨⟨(-7), f_2, rfl, (Or.inr (Or.inr (Or.inl ⟨rfl, w4, q26, w29⟩))), by rw [ht]; exact hP, hK.warm hW, hD⟩, hS.F ht⟩) hS.2.2 dX12_write_48
        · have q30 := mm_meetl (lo := 0) (hi := 2147483647) w19 rv13 (by decide)
          have q31 := mm_meet (lo := 0) (hi := 2147483647) (mm_l2x ev13 q30) (mm_top i_1) (by decide)
          have w32 : (v15 : Int32).toInt < (i_1 : Int32).toInt := by have := (mm_i2lE ev16); have := (mm_i2lE ev13); have := w20; omega
          refine lv_if_ne (tgt := 49) hx hb dX12_write_43 (by decide) (fun c33 => ?_) (fun c33 => ?_)
          · have q34 := mm_neL (lo := 1) (mm_ne c33) mm_k0 mm_k0 (by decide) (by decide)
            exact mm_no q34 (by decide)
          · refine lv_bipush (v := (-7)) hx hb dX12_write_46 (by decide) ?_
            have w35 : mm_z1 f_0 i_0 := (mm_z1_of ev10 (mm_ne c11))
            have w36 : mm_wg f_1 i_0 i_1 := (mm_wg_of ev14 (by have := tv15; have := w32; omega))
            subst hAe
            rw [hQ]
            exact W.iret (v := (-7)) hx hb hr (fun t ht hW => ⟨⟨(-7), f_2, rfl, (Or.inr (Or.inr (Or.inr (Or.inl ⟨rfl, w4, q31, w35, w36⟩)))), by rw [ht]; exact hP, hK.warm hW, hD⟩, hS.F ht⟩) hS.2.2 dX12_write_48
        · have q37 := mm_meet (lo := 0) (hi := 59) (mm_l2x ev13 w21) (mm_top i_1) (by decide)
          have q38 := mm_meet (lo := 0) (hi := 59) (mm_l2x ev16 w22) rv15 (by decide)
          have w39 : (i_1 : Int32).toInt ≤ (v15 : Int32).toInt := by have := (mm_i2lE ev13); have := (mm_i2lE ev16); have := w23; omega
          have q40 : mm_rg v14 1 60 := mm_unadd tv15 q38 rv14 (by decide) (by decide)
          refine lv_if_ne (tgt := 49) hx hb dX12_write_43 (by decide) (fun c41 => ?_) (fun c41 => ?_)
          · refine lv_aload_n hx hb dX12_write_49 rfl (lv_at hl 0 rfl) ?_
            refine va_get (D := G) (ci := 12) (v := .ref a_3) (C := RX12) (T := TX12) (N := 38) hx hb hts (mm_i inlX12) hown hK.1 hP 0 rfl rfl 3 (by decide) (mm_h hts mm_w144) (fun _ h9 => h9) rfl dX12_write_50 ?_
            refine lv_bipush (v := 60) hx hb dX12_write_53 (by decide) ?_
            refine lv_iload_n hx hb dX12_write_55 rfl (lv_at hl 1 rfl) ?_
            refine lv_imul hx hb dX12_write_56 ?_
            refine lv_topi (fun v42 ev42 => ?_)
            have rv42 : mm_rg v42 0 180 := mm_mul ev42 mm_k60 w4 (by decide) (by decide)
            have tv42 := mm_mulEc ev42 mm_k60 w4 (by decide) (k := 60) (by decide)
            refine lv_iload_n hx hb dX12_write_57 rfl (lv_at hl 2 rfl) ?_
            refine lv_iadd hx hb dX12_write_58 ?_
            refine lv_topi (fun v43 ev43 => ?_)
            have rv43 : mm_rg v43 0 239 := mm_add ev43 rv42 q37 (by decide) (by decide)
            have tv43 := mm_addE ev43 rv42 q37 (by decide)
            refine lv_lload_n hx hb dX12_write_59 rfl (lv_at hl 3 rfl) ?_
            refine lv_aload_n hx hb dX12_write_60 rfl (lv_at hl 0 rfl) ?_
            refine va_get (D := G) (ci := 12) (v := .ref a_1) (C := RX12) (T := TX12) (N := 38) hx hb hts (mm_i inlX12) hown hK.1 hP 0 rfl rfl 1 (by decide) (mm_h hts mm_w142) (fun _ h9 => h9) rfl dX12_write_61 ?_
            refine lv_iload_n hx hb dX12_write_64 rfl (lv_at hl 1 rfl) ?_
            refine va_iald hx hb hK.1 hP 1 1 rfl rfl (mm_in w4 (by decide)) dX12_write_65 ?_
            refine lv_topi (fun v44 ev44 => ?_)
            have rv44 : mm_rg v44 (-1) 3 := mm_eqv ev44 (h0 _)
            obtain rfl : v10 = v44 := ev10.trans ev44.symm
            refine mm_finlr (va_runS (As := [.long j_0, .int v10]) (rest := [.int v43, .ref a_3]) ⟨hx, hb, hml, hown, hts⟩ (M380_X12_cut l G cy H.size j_0 v10 (mm_wk q12 (by decide))) (va_cwS 2 hts (mm_gS mm_w1703 mm_w1704 mm_w5 mm_w1705) rfl rfl rfl hs_X12_cut ⟨by rw [hRf]; exact Nat.le_of_ble_eq_true rfl, by rw [hRl]; exact Nat.le_of_ble_eq_true rfl⟩) (mm_preS hK hZ hS hA hP hD [] rfl rfl) rfl rfl hl.1 rfl (lv_room (Nat.le_of_ble_eq_true rfl)) dX12_write_66 ⟨by rw [hRc]; exact Nat.le_of_ble_eq_true rfl, by rw [hRs]; exact Nat.le_of_ble_eq_true rfl⟩) hP hD hS hA [] rfl (fun _ => rfl) ?_
            clear hP hD hS
            clear H locs
            intro v45 _u H locs hw hP hD hS
            refine va_last hx hb hK.1 hP hD hS 3 2 rfl rfl (mm_in rv43 (by decide)) dX12_write_69 ?_
            clear hP hD hS
            clear H locs
            obtain ⟨g46, eg46⟩ : ∃ z : Nat → Int64, z = vp_updL f_2 v43.toNatClampNeg v45 := ⟨_, rfl⟩
            rw [← eg46]
            intro H locs (hP : va_P G vwCl [(a_0, .inr (12, [.int 0, .ref a_1, .ref a_2, .ref a_3, .ref a_4, .ref a_5, .int i_3, .int i_4, .int i_5, .int i_6, .int i_7, .long j_1, .int i_8, .int i_9, .int i_10, .int i_11, .ref a_6, .ref a_7, .ref a_8, .ref a_9, .ref a_10, .ref a_11, .ref a_12, .ref a_13, .ref a_14, .ref a_15, .ref a_16, .ref a_17, .ref a_18, .int i_12, .int i_13, .int i_14, .int i_15, .int i_16, .int i_17, .ref a_19, .int i_18, .ref a_20])), (a_1, .inl (cy 1, 4, .inl f_0)), (a_2, .inl (cy 1, 4, .inl f_1)), (a_3, .inl (cy 2, 240, .inr (.inl g46)))] H) (hD : va_D A [(a_0, .inr (12, [.int 0, .ref a_1, .ref a_2, .ref a_3, .ref a_4, .ref a_5, .int i_3, .int i_4, .int i_5, .int i_6, .int i_7, .long j_1, .int i_8, .int i_9, .int i_10, .int i_11, .ref a_6, .ref a_7, .ref a_8, .ref a_9, .ref a_10, .ref a_11, .ref a_12, .ref a_13, .ref a_14, .ref a_15, .ref a_16, .ref a_17, .ref a_18, .int i_12, .int i_13, .int i_14, .int i_15, .int i_16, .int i_17, .ref a_19, .int i_18, .ref a_20])), (a_1, .inl (cy 1, 4, .inl f_0)), (a_2, .inl (cy 1, 4, .inl f_1)), (a_3, .inl (cy 2, 240, .inr (.inl g46)))]) hS
            refine lv_iconst (v := 0) hx hb dX12_write_70 (by decide) ?_
            have w47 : mm_z1 f_0 i_0 := (mm_z1_of ev10 (mm_ne c11))
            have w48 : mm_wl f_1 i_0 i_1 := (mm_wl_of ev14 (by have := tv15; have := w39; omega))
            subst hAe
            rw [hQ]
            exact W.iret (v := 0) hx hb hr (fun t ht hW => ⟨⟨0, g46, rfl, (Or.inr (Or.inr (Or.inr (Or.inr (Or.inl ⟨rfl, w4, q37, w47, w48⟩))))), by rw [ht]; exact hP, hK.warm hW, hD⟩, hS.F ht⟩) hS.2.2 dX12_write_71
          · exact mm_eqN c41.symm mm_k0 mm_k1 (by decide)
      · have q49 := mm_eqI (lo := (-1)) (hi := (-1)) c11 rv10 mm_km1 (by decide)
        refine lv_bipush (v := (-6)) hx hb dX12_write_25 (by decide) ?_
        have w50 : mm_z0 f_0 i_0 := (mm_z0_of ev10 c11)
        subst hAe
        rw [hQ]
        exact W.iret (v := (-6)) hx hb hr (fun t ht hW => ⟨⟨(-6), f_2, rfl, (Or.inr (Or.inr (Or.inr (Or.inr (Or.inr ⟨rfl, w4, w50⟩))))), by rw [ht]; exact hP, hK.warm hW, hD⟩, hS.F ht⟩) hS.2.2 dX12_write_27
    · exact mm_eqN c9.symm mm_k0 mm_k1 (by decide)

