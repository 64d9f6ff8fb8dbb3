set_option maxHeartbeats 4000000 in
set_option maxRecDepth 100000 in
theorem C544_X11_isSlot (l : Launch) (G : va_G) (cy : Nat → ClassId) (sz : Nat) (i_0 : Int32)   : mm_CI l yX11_isSlot (mm_ws yX11_isSlot cX11_isSlot 1 (some .boolean)) ({ frames := 0, cells := 0, slots := 0, locals := 0 } : Room) G cy sz [] [.int i_0] (fun u : Unit => []) (fun (r : Int32) (u : Unit) => ((0 = r ∧ mm_rg i_0 (-2147483648) (-1)) ∨ (0 = r ∧ mm_rg i_0 4 2147483647) ∨ (1 = r ∧ mm_rg i_0 0 3))) 0 0 := by
  refine mm_begin (lv := [(0, .int i_0)]) (by decide) (Nat.le_of_ble_eq_true rfl) rfl ?_
  intro p e s m below meth c A ls R args Q H locs hRe hQ hAe hx hb hr hlocks hml hown hnm hts hsz hA hS hP hK hD hZ hl
  have hRf : R.frames = 0 := by rw [hRe]
  have hRl : R.locals = 0 := by rw [hRe]
  have hRc : R.cells = 0 := by rw [hRe]
  have hRs : R.slots = 0 := by rw [hRe]
  refine lv_iload_n hx hb dX11_isSlot_0 rfl (lv_at hl 0 rfl) ?_
  refine lv_if_lt (tgt := 13) hx hb dX11_isSlot_1 (by decide) (fun c1 => ?_) (fun c1 => ?_)
  · have q2 := mm_ltL (h := (-1)) (mm_lt c1) (mm_top i_0) mm_k0 (by decide)
    refine lv_iconst (v := 0) hx hb dX11_isSlot_13 (by decide) ?_
    subst hAe
    rw [hQ]
    exact W.zret (v := 0) hx hb hr rfl (fun t ht hW => ⟨⟨0, (), rfl, (Or.inl ⟨rfl, q2⟩), by rw [ht]; exact hP, hK.warm hW, hD⟩, hS.F ht⟩) hS.2.2 dX11_isSlot_14
  · have q3 := mm_leR (mm_nlt c1) mm_k0 (mm_top i_0)
    refine lv_iload_n hx hb dX11_isSlot_4 rfl (lv_at hl 0 rfl) ?_
    refine lv_iconst (v := 4) hx hb dX11_isSlot_5 (by decide) ?_
    refine lv_icmp_ge (tgt := 13) hx hb dX11_isSlot_6 (by decide) (fun c4 => ?_) (fun c4 => ?_)
    · have q5 := mm_leR (mm_le c4) mm_k4 q3
      refine lv_iconst (v := 0) hx hb dX11_isSlot_13 (by decide) ?_
      subst hAe
      rw [hQ]
      exact W.zret (v := 0) hx hb hr rfl (fun t ht hW => ⟨⟨0, (), rfl, (Or.inr (Or.inl ⟨rfl, q5⟩)), by rw [ht]; exact hP, hK.warm hW, hD⟩, hS.F ht⟩) hS.2.2 dX11_isSlot_14
    · have q6 := mm_ltL (h := 3) (mm_nle c4) q3 mm_k4 (by decide)
      refine lv_iconst (v := 1) hx hb dX11_isSlot_9 (by decide) ?_
      refine lv_goto (tgt := 14) hx hb dX11_isSlot_10 (by decide) ?_
      subst hAe
      rw [hQ]
      exact W.zret (v := 1) hx hb hr rfl (fun t ht hW => ⟨⟨1, (), rfl, (Or.inr (Or.inr ⟨rfl, q6⟩)), by rw [ht]; exact hP, hK.warm hW, hD⟩, hS.F ht⟩) hS.2.2 dX11_isSlot_14

set_option maxHeartbeats 4000000 in
set_option maxRecDepth 100000 in
theorem C545_X6_begin (l : Launch) (G : va_G) (cy : Nat → ClassId) (sz : Nat) (a_0 : Nat) (i_0 : Int32) (i_1 : Int32) (i_2 : Int32) (i_3 : Int32) (i_4 : Int32) (a_1 : Nat) (f_0 : Nat → Int64) (h0 : mm_rg i_0 0 3) (h1 : mm_rg i_1 0 60) (h2 : mm_rg i_2 0 1) (h3 : mm_rg i_3 0 3) (h4 : mm_rg i_4 0 60)  : mm_CV l yX6_begin (mm_ws yX6_begin cX6_begin 3 (none)) ({ frames := 1, cells := 0, slots := 0, locals := 40 } : Room) G cy sz [(a_0, .inr (6, [.int i_2, .int i_3, .int i_4, .ref a_1])), (a_1, .inl (cy 2, 60, .inr (.inl f_0)))] [.ref a_0, .int i_0, .int i_1] (fun u : Int32 × (Nat → Int64) => [(a_0, .inr (6, [.int 1, .int i_0, .int u.1, .ref a_1])), (a_1, .inl (cy 2, 60, .inr (.inl u.2)))]) (fun u : Int32 × (Nat → Int64) => mm_rg u.1 0 60 ∧ mm_mn i_1 u.1) 0 0 := by
  refine mm_begin (lv := [(0, .ref a_0), (1, .int i_0), (2, .int i_1)]) (by decide) (Nat.le_of_ble_eq_true rfl) rfl ?_
  intro p e s m below meth c A ls R args Q H locs hRe hQ hAe hx hb hr hlocks hml hown hnm hts hsz hA hS hP hK hD hZ hl
  have hRf : R.frames = 1 := by rw [hRe]
  have hRl : R.locals = 40 := by rw [hRe]
  have hRc : R.cells = 0 := by rw [hRe]
  have hRs : R.slots = 0 := by rw [hRe]
  refine lv_aload_n hx hb dX6_begin_0 rfl (lv_at hl 0 rfl) ?_
  refine lv_iconst (v := 1) hx hb dX6_begin_1 (by decide) ?_
  refine va_put (D := G) (ci := 6) (v := .int 1) (ty := tyX6 0) (C := RX6) (T := TX6) (N := 4) hx hb hts (mm_i inlX6) tyX6 tyX6_ok nmX6 hown hK.1 hP hD hS 0 rfl rfl 0 (by decide) (mm_h hts mm_w1681) (fun _ h9 => h9) rfl (tyX6_ok 0 (by decide)) rfl rfl (Nat.le_of_ble_eq_true rfl) dX6_begin_2 ?_
  clear hP hD hS
  clear H locs
  intro H locs (hP : va_P G vwCl [(a_0, .inr (6, [.int 1, .int i_3, .int i_4, .ref a_1])), (a_1, .inl (cy 2, 60, .inr (.inl f_0)))] H) (hD : va_D A [(a_0, .inr (6, [.int 1, .int i_3, .int i_4, .ref a_1])), (a_1, .inl (cy 2, 60, .inr (.inl f_0)))]) hS
  refine lv_aload_n hx hb dX6_begin_5 rfl (lv_at hl 0 rfl) ?_
  refine lv_iload_n hx hb dX6_begin_6 rfl (lv_at hl 1 rfl) ?_
  refine va_put (D := G) (ci := 6) (v := .int i_0) (ty := tyX6 1) (C := RX6) (T := TX6) (N := 4) hx hb hts (mm_i inlX6) tyX6 tyX6_ok nmX6 hown hK.1 hP hD hS 0 rfl rfl 1 (by decide) (mm_h hts mm_w1682) (fun _ h9 => h9) rfl (tyX6_ok 1 (by decide)) rfl rfl (Nat.le_of_ble_eq_true rfl) dX6_begin_7 ?_
  clear hP hD hS
  clear H locs
  intro H locs (hP : va_P G vwCl [(a_0, .inr (6, [.int 1, .int i_0, .int i_4, .ref a_1])), (a_1, .inl (cy 2, 60, .inr (.inl f_0)))] H) (hD : va_D A [(a_0, .inr (6, [.int 1, .int i_0, .int i_4, .ref a_1])), (a_1, .inl (cy 2, 60, .inr (.inl f_0)))]) hS
  refine lv_aload_n hx hb dX6_begin_10 rfl (lv_at hl 0 rfl) ?_
  refine lv_iload_n hx hb dX6_begin_11 rfl (lv_at hl 2 rfl) ?_
  refine lv_bipush (v := 60) hx hb dX6_begin_12 (by decide) ?_
  refine va_mmin hx hb (by rw [hml]; exact hl.1.symm) hown (mm_h hts mm_w1683) (mm_h hts mm_w385) (mm_h hts mm_w346) (mm_h hts mm_w386) (by rw [hRf]; exact Nat.le_of_ble_eq_true rfl) (by rw [hRl]; exact Nat.le_of_ble_eq_true rfl) (by rw [hRc]; exact Nat.le_of_ble_eq_true rfl) (by rw [hRs]; exact Nat.le_of_ble_eq_true rfl) dX6_begin_14 ?_
  refine lv_topi (fun v1 ev1 => ?_)
  have rv1 : mm_rg v1 0 60 := mm_min ev1 h1 mm_k60 (by decide)
  refine va_put (D := G) (ci := 6) (v := .int v1) (ty := tyX6 2) (C := RX6) (T := TX6) (N := 4) hx hb hts (mm_i inlX6) tyX6 tyX6_ok nmX6 hown hK.1 hP hD hS 0 rfl rfl 2 (by decide) (mm_h hts mm_w1684) (fun _ h9 => h9) rfl (tyX6_ok 2 (by decide)) rfl rfl (Nat.le_of_ble_eq_true rfl) dX6_begin_17 ?_
  clear hP hD hS
  clear H locs
  intro H locs (hP : va_P G vwCl [(a_0, .inr (6, [.int 1, .int i_0, .int v1, .ref a_1])), (a_1, .inl (cy 2, 60, .inr (.inl f_0)))] H) (hD : va_D A [(a_0, .inr (6, [.int 1, .int i_0, .int v1, .ref a_1])), (a_1, .inl (cy 2, 60, .inr (.inl f_0)))]) hS
  refine lv_aload_n hx hb dX6_begin_20 rfl (lv_at hl 0 rfl) ?_
  refine va_get (D := G) (ci := 6) (v := .ref a_1) (C := RX6) (T := TX6) (N := 4) hx hb hts (mm_i inlX6) hown hK.1 hP 0 rfl rfl 3 (by decide) (mm_h hts mm_w104) (fun _ h9 => h9) rfl dX6_begin_21 ?_
  refine lv_lconst (v := 0) hx hb dX6_begin_24 (by decide) ?_
  refine mm_finv (va_runS (As := [.ref a_1, .long 0]) (rest := []) ⟨hx, hb, hml, hown, hts⟩ (K536_J7_fill_d0a16 l G cy H.size a_1 f_0 ) (va_cwS 2 hts (mm_gS mm_w1685 mm_w1505 mm_w225 mm_w1506) rfl rfl rfl hs_J7_fill_d0a16 ⟨by rw [hRf]; exact Nat.le_of_ble_eq_true rfl, by rw [hRl]; exact Nat.le_of_ble_eq_true rfl⟩) (mm_preS hK hZ hS hA hP hD [1] rfl rfl) rfl rfl hl.1 rfl (lv_room (Nat.le_of_ble_eq_true rfl)) dX6_begin_25 ⟨by rw [hRc]; exact Nat.le_of_ble_eq_true rfl, by rw [hRs]; exact Nat.le_of_ble_eq_true rfl⟩) hP hD hS hA (fun u : (Nat → Int64) => [(a_0, .inr (6, [.int 1, .int i_0, .int v1, .ref a_1])), (a_1, .inl (cy 2, 60, .inr (.inl u)))]) [1] [0] (n := 2) (fun _ => rfl) (by decide +kernel) (by decide +kernel) rfl (fun _ => rfl) (wr := [(a_0, .inr (6, [.int 1, .int i_0, .int v1, .ref a_1]))]) rfl (fun _ => rfl) (fun _ => rfl) ?_
  clear hP hD hS
  clear H locs
  intro n2 H locs hw (hP : va_P G vwCl [(a_0, .inr (6, [.int 1, .int i_0, .int v1, .ref a_1])), (a_1, .inl (cy 2, 60, .inr (.inl n2)))] H) (hD : va_D A [(a_0, .inr (6, [.int 1, .int i_0, .int v1, .ref a_1])), (a_1, .inl (cy 2, 60, .inr (.inl n2)))]) hS
  have w3 : mm_mn i_1 v1 := (mm_mn_of ev1)
  subst hAe
  rw [hQ]
  exact W.vret hx hb hr (fun t ht hW => ⟨⟨(v1, n2), rfl, ⟨rv1, w3⟩, by rw [ht]; exact hP, hK.warm hW, hD⟩, hS.F ht⟩) hS.2.2 dX6_begin_28

set_option maxHeartbeats 4000000 in
set_option maxRecDepth 100000 in
theorem C546_X11_row (l : Launch) (G : va_G) (cy : Nat → ClassId) (sz : Nat) (a_0 : Nat) (i_0 : Int32) (i_1 : Int32) (i_2 : Int32) (a_1 : Nat) (a_2 : Nat) (a_3 : Nat) (a_4 : Nat) (a_5 : Nat) (a_6 : Nat) (a_7 : Nat) (a_8 : Nat) (a_9 : Nat) (a_10 : Nat) (a_11 : Nat) (a_12 : Nat) (a_13 : Nat) (a_14 : Nat) (a_15 : Nat) (i_3 : Int32) (i_4 : Int32) (i_5 : Int32) (a_16 : Nat) (f_0 : Nat → Int64) (i_6 : Int32) (i_7 : Int32) (i_8 : Int32) (a_17 : Nat) (f_1 : Nat → Int64) (i_9 : Int32) (i_10 : Int32) (i_11 : Int32) (a_18 : Nat) (f_2 : Nat → Int64) (i_12 : Int32) (i_13 : Int32) (i_14 : Int32) (a_19 : Nat) (f_3 : Nat → Int64) (h0 : mm_rg i_3 0 1) (h1 : mm_rg i_4 0 3) (h2 : mm_rg i_5 0 60) (h3 : mm_rg i_6 0 1) (h4 : mm_rg i_7 0 3) (h5 : mm_rg i_8 0 60) (h6 : mm_rg i_9 0 1) (h7 : mm_rg i_10 0 3) (h8 : mm_rg i_11 0 60) (h9 : mm_rg i_12 0 1) (h10 : mm_rg i_13 0 3) (h11 : mm_rg i_14 0 60)  : mm_CI l yX11_row (mm_ws yX11_row cX11_row 4 (some .int)) ({ frames := 2, cells := 0, slots := 0, locals := 62 } : Room) G cy sz [(a_0, .inr (11, [.ref a_1, .ref a_2, .ref a_3, .ref a_4, .ref a_5, .ref a_6, .ref a_7, .ref a_8, .ref a_9, .ref a_10, .ref a_11])), (a_6, .inl (cy 6, 4, .inr (.inr (.inr (.inr (va_up (va_up (va_up (va_up (fun _ => none) 0 (some a_12)) 1 (some a_13)) 2 (some a_14)) 3 (some a_15))))))), (a_12, .inr (6, [.int i_3, .int i_4, .int i_5, .ref a_16])), (a_16, .inl (cy 2, 60, .inr (.inl f_0))), (a_13, .inr (6, [.int i_6, .int i_7, .int i_8, .ref a_17])), (a_17, .inl (cy 2, 60, .inr (.inl f_1))), (a_14, .inr (6, [.int i_9, .int i_10, .int i_11, .ref a_18])), (a_18, .inl (cy 2, 60, .inr (.inl f_2))), (a_15, .inr (6, [.int i_12, .int i_13, .int i_14, .ref a_19])), (a_19, .inl (cy 2, 60, .inr (.inl f_3)))] [.ref a_0, .int i_0, .int i_1, .int i_2] (fun u : Int32 × Int32 × Int32 × (Nat → Int64) × Int32 × Int32 × Int32 × (Nat → Int64) × Int32 × Int32 × Int32 × (Nat → Int64) × Int32 × Int32 × Int32 × (Nat → Int64) => [(a_0, .inr (11, [.ref a_1, .ref a_2, .ref a_3, .ref a_4, .ref a_5, .ref a_6, .ref a_7, .ref a_8, .ref a_9, .ref a_10, .ref a_11])), (a_6, .inl (cy 6, 4, .inr (.inr (.inr (.inr (va_up (va_up (va_up (va_up (fun _ => none) 0 (some a_12)) 1 (some a_13)) 2 (some a_14)) 3 (some a_15))))))), (a_12, .inr (6, [.int u.1, .int u.2.1, .int u.2.2.1, .ref a_16])), (a_16, .inl (cy 2, 60, .inr (.inl u.2.2.2.1))), (a_13, .inr (6, [.int u.2.2.2.2.1, .int u.2.2.2.2.2.1, .int u.2.2.2.2.2.2.1, .ref a_17])), (a_17, .inl (cy 2, 60, .inr (.inl u.2.2.2.2.2.2.2.1))), (a_14, .inr (6, [.int u.2.2.2.2.2.2.2.2.1, .int u.2.2.2.2.2.2.2.2.2.1, .int u.2.2.2.2.2.2.2.2.2.2.1, .ref a_18])), (a_18, .inl (cy 2, 60, .inr (.inl u.2.2.2.2.2.2.2.2.2.2.2.1))), (a_15, .inr (6, [.int u.2.2.2.2.2.2.2.2.2.2.2.2.1, .int u.2.2.2.2.2.2.2.2.2.2.2.2.2.1, .int u.2.2.2.2.2.2.2.2.2.2.2.2.2.2.1, .ref a_19])), (a_19, .inl (cy 2, 60, .inr (.inl u.2.2.2.2.2.2.2.2.2.2.2.2.2.2.2)))]) (fun (r : Int32) (u : Int32 × Int32 × Int32 × (Nat → Int64) × Int32 × Int32 × Int32 × (Nat → Int64) × Int32 × Int32 × Int32 × (Nat → Int64) × Int32 × Int32 × Int32 × (Nat → Int64)) => mm_rg u.1 0 1 ∧ mm_rg u.2.1 0 3 ∧ mm_rg u.2.2.1 0 60 ∧ mm_rg u.2.2.2.2.1 0 1 ∧ mm_rg u.2.2.2.2.2.1 0 3 ∧ mm_rg u.2.2.2.2.2.2.1 0 60 ∧ mm_rg u.2.2.2.2.2.2.2.2.1 0 1 ∧ mm_rg u.2.2.2.2.2.2.2.2.2.1 0 3 ∧ mm_rg u.2.2.2.2.2.2.2.2.2.2.1 0 60 ∧ mm_rg u.2.2.2.2.2.2.2.2.2.2.2.2.1 0 1 ∧ mm_rg u.2.2.2.2.2.2.2.2.2.2.2.2.2.1 0 3 ∧ mm_rg u.2.2.2.2.2.2.2.2.2.2.2.2.2.2.1 0 60 ∧ mm_xr 0 i_3 i_4 i_5 u.1 u.2.1 u.2.2.1 i_0 i_1 i_2 ∧ mm_xr 1 i_6 i_7 i_8 u.2.2.2.2.1 u.2.2.2.2.2.1 u.2.2.2.2.2.2.1 i_0 i_1 i_2 ∧ mm_xr 2 i_9 i_10 i_11 u.2.2.2.2.2.2.2.2.1 u.2.2.2.2.2.2.2.2.2.1 u.2.2.2.2.2.2.2.2.2.2.1 i_0 i_1 i_2 ∧ mm_xr 3 i_12 i_13 i_14 u.2.2.2.2.2.2.2.2.2.2.2.2.1 u.2.2.2.2.2.2.2.2.2.2.2.2.2.1 u.2.2.2.2.2.2.2.2.2.2.2.2.2.2.1 i_0 i_1 i_2 ∧ (((-2) = r ∧ mm_rg i_0 (-2147483648) (-1)) ∨ ((-2) = r ∧ mm_rg i_0 4 2147483647) ∨ ((-2) = r ∧ mm_rg i_0 0 3 ∧ mm_rg i_1 (-2147483648) (-1)) ∨ ((-2) = r ∧ mm_rg i_0 0 3 ∧ mm_rg i_1 4 2147483647) ∨ (0 = r ∧ mm_rg i_0 0 3 ∧ mm_rg i_1 0 3 ∧ mm_rg i_2 0 60) ∨ ((-3) = r ∧ mm_rg i_0 0 3 ∧ mm_rg i_1 0 3 ∧ mm_rg i_2 (-2147483648) (-1)) ∨ ((-2) = r ∧ mm_rg i_0 0 3 ∧ mm_rg i_1 0 3 ∧ mm_rg i_2 61 2147483647))) 0 0 := by
  refine mm_begin (lv := [(0, .ref a_0), (1, .int i_0), (2, .int i_1), (3, .int i_2)]) (by decide) (Nat.le_of_ble_eq_true rfl) rfl ?_
  intro p e s m below meth c A ls R args Q H locs hRe hQ hAe hx hb hr hlocks hml hown hnm hts hsz hA hS hP hK hD hZ hl
  have hRf : R.frames = 2 := by rw [hRe]
  have hRl : R.locals = 62 := by rw [hRe]
  have hRc : R.cells = 0 := by rw [hRe]
  have hRs : R.slots = 0 := by rw [hRe]
  refine lv_iload_n hx hb dX11_row_0 rfl (lv_at hl 1 rfl) ?_
  refine mm_finir (va_runS (As := [.int i_0]) (rest := []) ⟨hx, hb, hml, hown, hts⟩ (C544_X11_isSlot l G cy H.size i_0 ) (va_cwS 1 hts (mm_gS mm_w1232 mm_w1233 mm_w2 mm_w1234) rfl rfl rfl hs_X11_isSlot ⟨by rw [hRf]; exact Nat.le_of_ble_eq_true rfl, by rw [hRl]; exact Nat.le_of_ble_eq_true rfl⟩) (mm_preS hK hZ hS hA hP hD [] rfl rfl) rfl rfl hl.1 rfl (lv_room (Nat.le_of_ble_eq_true rfl)) dX11_row_1 ⟨by rw [hRc]; exact Nat.le_of_ble_eq_true rfl, by rw [hRs]; exact Nat.le_of_ble_eq_true rfl⟩) hP hD hS hA [] rfl (fun _ => rfl) ?_
  clear hP hD hS
  clear H locs
  intro v1 _u H locs hw hP hD hS
  rcases hw with ⟨rfl, w2⟩ | ⟨rfl, w3⟩ | ⟨rfl, w4⟩
  · refine lv_if_eq (tgt := 22) hx hb dX11_row_4 (by decide) (fun c5 => ?_) (fun c5 => ?_)
    · refine lv_bipush (v := (-2)) hx hb dX11_row_22 (by decide) ?_
      have w6 : mm_xr 0 i_3 i_4 i_5 i_3 i_4 i_5 i_0 i_1 i_2 := (mm_xr_n w2 (mm_top i_1) (mm_top i_2) (by decide))
      have w7 : mm_xr 1 i_6 i_7 i_8 i_6 i_7 i_8 i_0 i_1 i_2 := (mm_xr_n w2 (mm_top i_1) (mm_top i_2) (by decide))
      have w8 : mm_xr 2 i_9 i_10 i_11 i_9 i_10 i_11 i_0 i_1 i_2 := (mm_xr_n w2 (mm_top i_1) (mm_top i_2) (by decide))
      have w9 : mm_xr 3 i_12 i_13 i_14 i_12 i_13 i_14 i_0 i_1 i_2 := (mm_xr_n w2 (mm_top i_1) (mm_top i_2) (by decide))
      subst hAe
      rw [hQ]
      exact W.iret (v := (-2)) hx hb hr (fun t ht hW => ⟨⟨(-2), (i_3, i_4, i_5, f_0, i_6, i_7, i_8, f_1, i_9, i_10, i_11, f_2, i_12, i_13, i_14, f_3), rfl, ⟨h0, h1, h2, h3, h4, h5, h6, h7, h8, h9, h10, h11, w6, w7, w8, w9, (Or.inl ⟨rfl, w2⟩)⟩, by rw [ht]; exact hP, hK.warm hW, hD⟩, hS.F ht⟩) hS.2.2 dX11_row_24
    · exact absurd rfl (mm_ne c5)
  · refine lv_if_eq (tgt := 22) hx hb dX11_row_4 (by decide) (fun c10 => ?_) (fun c10 => ?_)
    · refine lv_bipush (v := (-2)) hx hb dX11_row_22 (by decide) ?_
      have w11 : mm_xr 0 i_3 i_4 i_5 i_3 i_4 i_5 i_0 i_1 i_2 := (mm_xr_n w3 (mm_top i_1) (mm_top i_2) (by decide))
      have w12 : mm_xr 1 i_6 i_7 i_8 i_6 i_7 i_8 i_0 i_1 i_2 := (mm_xr_n w3 (mm_top i_1) (mm_top i_2) (by decide))
      have w13 : mm_xr 2 i_9 i_10 i_11 i_9 i_10 i_11 i_0 i_1 i_2 := (mm_xr_n w3 (mm_top i_1) (mm_top i_2) (by decide))
      have w14 : mm_xr 3 i_12 i_13 i_14 i_12 i_13 i_14 i_0 i_1 i_2 := (mm_xr_n w3 (mm_top i_1) (mm_top i_2) (by decide))
      subst hAe
      rw [hQ]
      exact W.iret (v := (-2)) hx hb hr (fun t ht hW => ⟨⟨(-2), (i_3, i_4, i_5, f_0, i_6, i_7, i_8, f_1, i_9, i_10, i_11, f_2, i_12, i_13, i_14, f_3), rfl, ⟨h0, h1, h2, h3, h4, h5, h6, h7, h8, h9, h10, h11, w11, w12, w13, w14, (Or.inr (Or.inl ⟨rfl, w3⟩))⟩, by rw [ht]; exact hP, hK.warm hW, hD⟩, hS.F ht⟩) hS.2.2 dX11_row_24
    · exact absurd rfl (mm_ne c10)
  · refine lv_if_eq (tgt := 22) hx hb dX11_row_4 (by decide) (fun c15 => ?_) (fun c15 => ?_)
    · exact mm_eqN c15.symm mm_k0 mm_k1 (by decide)
    · refine lv_iload_n hx hb dX11_row_7 rfl (lv_at hl 2 rfl) ?_
      refine lv_if_lt (tgt := 22) hx hb dX11_row_8 (by decide) (fun c16 => ?_) (fun c16 => ?_)
      · have q17 := mm_ltL (h := (-1)) (mm_lt c16) (mm_top i_1) mm_k0 (by decide)
        refine lv_bipush (v := (-2)) hx hb dX11_row_22 (by decide) ?_
        have w18 : mm_xr 0 i_3 i_4 i_5 i_3 i_4 i_5 i_0 i_1 i_2 := (mm_xr_n w4 q17 (mm_top i_2) (by decide))
        have w19 : mm_xr 1 i_6 i_7 i_8 i_6 i_7 i_8 i_0 i_1 i_2 := (mm_xr_n w4 q17 (mm_top i_2) (by decide))
        have w20 : mm_xr 2 i_9 i_10 i_11 i_9 i_10 i_11 i_0 i_1 i_2 := (mm_xr_n w4 q17 (mm_top i_2) (by decide))
        have w21 : mm_xr 3 i_12 i_13 i_14 i_12 i_13 i_14 i_0 i_1 i_2 := (mm_xr_n w4 q17 (mm_top i_2) (by decide))
        subst hAe
        rw [hQ]
        exact W.iret (v := (-2)) hx hb hr (fun t ht hW => ⟨⟨(-2), (i_3, i_4, i_5, f_0, i_6, i_7, i_8, f_1, i_9, i_10, i_11, f_2, i_12, i_13, i_14, f_3), rfl, ⟨h0, h1, h2, h3, h4, h5, h6, h7, h8, h9, h10, h11, w18, w19, w20, w21, (Or.inr (Or.inr (Or.inl ⟨rfl, w4, q17⟩)))⟩, by rw [ht]; exact hP, hK.warm hW, hD⟩, hS.F ht⟩) hS.2.2 dX11_row_24
      · have q22 := mm_leR (mm_nlt c16) mm_k0 (mm_top i_1)
        refine lv_iload_n hx hb dX11_row_11 rfl (lv_at hl 2 rfl) ?_
        refine lv_iconst (v := 3) hx hb dX11_row_12 (by decide) ?_
        refine lv_icmp_gt (tgt := 22) hx hb dX11_row_13 (by decide) (fun c23 => ?_) (fun c23 => ?_)
        · have q24 := mm_ltR (lo := 4) (mm_lt c23) mm_k3 q22 (by decide)
          refine lv_bipush (v := (-2)) hx hb dX11_row_22 (by decide) ?_
          have w25 : mm_xr 0 i_3 i_4 i_5 i_3 i_4 i_5 i_0 i_1 i_2 := (mm_xr_n w4 q24 (mm_top i_2) (by decide))
          have w26 : mm_xr 1 i_6 i_7 i_8 i_6 i_7 i_8 i_0 i_1 i_2 := (mm_xr_n w4 q24 (mm_top i_2) (by decide))
          have w27 : mm_xr 2 i_9 i_10 i_11 i_9 i_10 i_11 i_0 i_1 i_2 := (mm_xr_n w4 q24 (mm_top i_2) (by decide))
          have w28 : mm_xr 3 i_12 i_13 i_14 i_12 i_13 i_14 i_0 i_1 i_2 := (mm_xr_n w4 q24 (mm_top i_2) (by decide))
          subst hAe
          rw [hQ]
          exact W.iret (v := (-2)) hx hb hr (fun t ht hW => ⟨⟨(-2), (i_3, i_4, i_5, f_0, i_6, i_7, i_8, f_1, i_9, i_10, i_11, f_2, i_12, i_13, i_14, f_3), rfl, ⟨h0, h1, h2, h3, h4, h5, h6, h7, h8, h9, h10, h11, w25, w26, w27, w28, (Or.inr (Or.inr (Or.inr (Or.inl ⟨rfl, w4, q24⟩))))⟩, by rw [ht]; exact hP, hK.warm hW, hD⟩, hS.F ht⟩) hS.2.2 dX11_row_24
        · have q29 := mm_leL (mm_nlt c23) q22 mm_k3
          refine lv_iload_n hx hb dX11_row_16 rfl (lv_at hl 3 rfl) ?_
          refine lv_bipush (v := 60) hx hb dX11_row_17 (by decide) ?_
          refine lv_icmp_le (tgt := 25) hx hb dX11_row_19 (by decide) (fun c30 => ?_) (fun c30 => ?_)
          · have q31 := mm_leL (mm_le c30) (mm_top i_2) mm_k60
            refine lv_iload_n hx hb dX11_row_25 rfl (lv_at hl 3 rfl) ?_
            refine lv_if_ge (tgt := 32) hx hb dX11_row_26 (by decide) (fun c32 => ?_) (fun c32 => ?_)
            · have q33 := mm_leR (mm_le c32) mm_k0 q31
              refine lv_aload_n hx hb dX11_row_32 rfl (lv_at hl 0 rfl) ?_
              refine va_get (D := G) (ci := 11) (v := .ref a_6) (C := RX11) (T := TX11) (N := 11) hx hb hts (mm_i inlX11) hown hK.1 hP 0 rfl rfl 5 (by decide) (mm_h hts mm_w32) (fun _ h9 => h9) rfl dX11_row_33 ?_
              refine lv_iload_n hx hb dX11_row_36 rfl (lv_at hl 1 rfl) ?_
              refine va_aldq hx hb hK.1 hP 1 6 rfl rfl (mm_in w4 (by decide)) dX11_row_37 ?_
              have c34 := mm_cases4 w4
              rcases c34 with rfl | rfl | rfl | rfl
              · refine W.eq (g2 := F0 m 38 ls [.ref a_12]) rfl ?_
                refine lv_iload_n hx hb dX11_row_38 rfl (lv_at hl 2 rfl) ?_
                refine lv_iload_n hx hb dX11_row_39 rfl (lv_at hl 3 rfl) ?_
                refine mm_finv (va_runV (As := [.int i_1, .int i_2]) (rest := []) ⟨hx, hb, hml, hown, hts⟩ (C545_X6_begin l G cy H.size a_12 i_1 i_2 i_3 i_4 i_5 a_16 f_0 q29 q33 h0 h1 h2) (cwV 2 hts (mm_gV mm_w1677 mm_w1678 mm_w1679 mm_w34 mm_w1680) rfl rfl rfl hd_X6_begin ⟨by rw [hRf]; exact Nat.le_of_ble_eq_true rfl, by rw [hRl]; exact Nat.le_of_ble_eq_true rfl⟩) (mm_preV hK hZ hS hA hP hD [2, 3] rfl rfl 2 rfl rfl rfl) rfl rfl hl.1 rfl (lv_room (Nat.le_of_ble_eq_true rfl)) dX11_row_40 ⟨by rw [hRc]; exact Nat.le_of_ble_eq_true rfl, by rw [hRs]; exact Nat.le_of_ble_eq_true rfl⟩) hP hD hS hA (fun u : Int32 × (Nat → Int64) => [(a_0, .inr (11, [.ref a_1, .ref a_2, .ref a_3, .ref a_4, .ref a_5, .ref a_6, .ref a_7, .ref a_8, .ref a_9, .ref a_10, .ref a_11])), (a_6, .inl (cy 6, 4, .inr (.inr (.inr (.inr (va_up (va_up (va_up (va_up (fun _ => none) 0 (some a_12)) 1 (some a_13)) 2 (some a_14)) 3 (some a_15))))))), (a_12, .inr (6, [.int 1, .int i_1, .int u.1, .ref a_16])), (a_16, .inl (cy 2, 60, .inr (.inl u.2))), (a_13, .inr (6, [.int i_6, .int i_7, .int i_8, .ref a_17])), (a_17, .inl (cy 2, 60, .inr (.inl f_1))), (a_14, .inr (6, [.int i_9, .int i_10, .int i_11, .ref a_18])), (a_18, .inl (cy 2, 60, .inr (.inl f_2))), (a_15, .inr (6, [.int i_12, .int i_13, .int i_14, .ref a_19])), (a_19, .inl (cy 2, 60, .inr (.inl f_3)))]) [2, 3] [0, 1, 4, 5, 6, 7, 8, 9] (n := 10) (fun _ => rfl) (by decide +kernel) (by decide +kernel) rfl (fun _ => rfl) (wr := [(a_0, .inr (11, [.ref a_1, .ref a_2, .ref a_3, .ref a_4, .ref a_5, .ref a_6, .ref a_7, .ref a_8, .ref a_9, .ref a_10, .ref a_11])), (a_6, .inl (cy 6, 4, .inr (.inr (.inr (.inr (va_up (va_up (va_up (va_up (fun _ => none) 0 (some a_12)) 1 (some a_13)) 2 (some a_14)) 3 (some a_15))))))), (a_13, .inr (6, [.int i_6, .int i_7, .int i_8, .ref a_17])), (a_17, .inl (cy 2, 60, .inr (.inl f_1))), (a_14, .inr (6, [.int i_9, .int i_10, .int i_11, .ref a_18])), (a_18, .inl (cy 2, 60, .inr (.inl f_2))), (a_15, .inr (6, [.int i_12, .int i_13, .int i_14, .ref a_19])), (a_19, .inl (cy 2, 60, .inr (.inl f_3)))]) rfl (fun _ => rfl) (fun _ => rfl) ?_
                clear hP hD hS
                clear H locs
                intro u
                obtain ⟨n35, n36⟩ := u
                intro H locs hw (hP : va_P G vwCl [(a_0, .inr (11, [.ref a_1, .ref a_2, .ref a_3, .ref a_4, .ref a_5, .ref a_6, .ref a_7, .ref a_8, .ref a_9, .ref a_10, .ref a_11])), (a_6, .inl (cy 6, 4, .inr (.inr (.inr (.inr (va_up (va_up (va_up (va_up (fun _ => none) 0 (some a_12)) 1 (some a_13)) 2 (some a_14)) 3 (some a_15))))))), (a_12, .inr (6, [.int 1, .int i_1, .int n35, .ref a_16])), (a_16, .inl (cy 2, 60, .inr (.inl n36))), (a_13, .inr (6, [.int i_6, .int i_7, .int i_8, .ref a_17])), (a_17, .inl (cy 2, 60, .inr (.inl f_1))), (a_14, .inr (6, [.int i_9, .int i_10, .int i_11, .ref a_18])), (a_18, .inl (cy 2, 60, .inr (.inl f_2))), (a_15, .inr (6, [.int i_12, .int i_13, .int i_14, .ref a_19])), (a_19, .inl (cy 2, 60, .inr (.inl f_3)))] H) (hD : va_D A [(a_0, .inr (11, [.ref a_1, .ref a_2, .ref a_3, .ref a_4, .ref a_5, .ref a_6, .ref a_7, .ref a_8, .ref a_9, .ref a_10, .ref a_11])), (a_6, .inl (cy 6, 4, .inr (.inr (.inr (.inr (va_up (va_up (va_up (va_up (fun _ => none) 0 (some a_12)) 1 (some a_13)) 2 (some a_14)) 3 (some a_15))))))), (a_12, .inr (6, [.int 1, .int i_1, .int n35, .ref a_16])), (a_16, .inl (cy 2, 60, .inr (.inl n36))), (a_13, .inr (6, [.int i_6, .int i_7, .int i_8, .ref a_17])), (a_17, .inl (cy 2, 60, .inr (.inl f_1))), (a_14, .inr (6, [.int i_9, .int i_10, .int i_11, .ref a_18])), (a_18, .inl (cy 2, 60, .inr (.inl f_2))), (a_15, .inr (6, [.int i_12, .int i_13, .int i_14, .ref a_19])), (a_19, .inl (cy 2, 60, .inr (.inl f_3)))]) hS
                obtain ⟨w37, w38⟩ := hw
                replace w38 : mm_mn i_2 n35 := w38
                refine lv_iconst (v := 0) hx hb dX11_row_43 (by decide) ?_
                have w39 : mm_xr 0 i_3 i_4 i_5 1 i_1 n35 0 i_1 i_2 := (mm_xr_y w38 mm_k0 q29 q33 (by decide))
                have w40 : mm_xr 1 i_6 i_7 i_8 i_6 i_7 i_8 0 i_1 i_2 := (mm_xr_n mm_k0 q29 q33 (by decide))
                have w41 : mm_xr 2 i_9 i_10 i_11 i_9 i_10 i_11 0 i_1 i_2 := (mm_xr_n mm_k0 q29 q33 (by decide))
                have w42 : mm_xr 3 i_12 i_13 i_14 i_12 i_13 i_14 0 i_1 i_2 := (mm_xr_n mm_k0 q29 q33 (by decide))
                subst hAe
                rw [hQ]
                exact W.iret (v := 0) hx hb hr (fun t ht hW => ⟨⟨0, (1, i_1, n35, n36, i_6, i_7, i_8, f_1, i_9, i_10, i_11, f_2, i_12, i_13, i_14, f_3), rfl, ⟨(mm_wk mm_k1 (by decide)), q29, w37, h3, h4, h5, h6, h7, h8, h9, h10, h11, w39, w40, w41, w42, (Or.inr (Or.inr (Or.inr (Or.inr (Or.inl ⟨rfl, (mm_wk mm_k0 (by decide)), q29, q33⟩)))))⟩, by rw [ht]; exact hP, hK.warm hW, hD⟩, hS.F ht⟩) hS.2.2 dX11_row_44
              · refine W.eq (g2 := F0 m 38 ls [.ref a_13]) rfl ?_
                refine lv_iload_n hx hb dX11_row_38 rfl (lv_at hl 2 rfl) ?_
                refine lv_iload_n hx hb dX11_row_39 rfl (lv_at hl 3 rfl) ?_
                refine mm_finv (va_runV (As := [.int i_1, .int i_2]) (rest := []) ⟨hx, hb, hml, hown, hts⟩ (C545_X6_begin l G cy H.size a_13 i_1 i_2 i_6 i_7 i_8 a_17 f_1 q29 q33 h3 h4 h5) (cwV 2 hts (mm_gV mm_w1677 mm_w1678 mm_w1679 mm_w34 mm_w1680) rfl rfl rfl hd_X6_begin ⟨by rw [hRf]; exact Nat.le_of_ble_eq_true rfl, by rw [hRl]; exact Nat.le_of_ble_eq_true rfl⟩) (mm_preV hK hZ hS hA hP hD [4, 5] rfl rfl 4 rfl rfl rfl) rfl rfl hl.1 rfl (lv_room (Nat.le_of_ble_eq_true rfl)) dX11_row_40 ⟨by rw [hRc]; exact Nat.le_of_ble_eq_true rfl, by rw [hRs]; exact Nat.le_of_ble_eq_true rfl⟩) hP hD hS hA (fun u : Int32 × (Nat → Int64) => [(a_0, .inr (11, [.ref a_1, .ref a_2, .ref a_3, .ref a_4, .ref a_5, .ref a_6, .ref a_7, .ref a_8, .ref a_9, .ref a_10, .ref a_11])), (a_6, .inl (cy 6, 4, .inr (.inr (.inr (.inr (va_up (va_up (va_up (va_up (fun _ => none) 0 (some a_12)) 1 (some a_13)) 2 (some a_14)) 3 (some a_15))))))), (a_12, .inr (6, [.int i_3, .int i_4, .int i_5, .ref a_16])), (a_16, .inl (cy 2, 60, .inr (.inl f_0))), (a_13, .inr (6, [.int 1, .int i_1, .int u.1, .ref a_17])), (a_17, .inl (cy 2, 60, .inr (.inl u.2))), (a_14, .inr (6, [.int i_9, .int i_10, .int i_11, .ref a_18])), (a_18, .inl (cy 2, 60, .inr (.inl f_2))), (a_15, .inr (6, [.int i_12, .int i_13, .int i_14, .ref a_19])), (a_19, .inl (cy 2, 60, .inr (.inl f_3)))]) [4, 5] [0, 1, 2, 3, 6, 7, 8, 9] (n := 10) (fun _ => rfl) (by decide +kernel) (by decide +kernel) rfl (fun _ => rfl) (wr := [(a_0, .inr (11, [.ref a_1, .ref a_2, .ref a_3, .ref a_4, .ref a_5, .ref a_6, .ref a_7, .ref a_8, .ref a_9, .ref a_10, .ref a_11])), (a_6, .inl (cy 6, 4, .inr (.inr (.inr (.inr (va_up (va_up (va_up (va_up (fun _ => none) 0 (some a_12)) 1 (some a_13)) 2 (some a_14)) 3 (some a_15))))))), (a_12, .inr (6, [.int i_3, .int i_4, .int i_5, .ref a_16])), (a_16, .inl (cy 2, 60, .inr (.inl f_0))), (a_14, .inr (6, [.int i_9, .int i_10, .int i_11, .ref a_18])), (a_18, .inl (cy 2, 60, .inr (.inl f_2))), (a_15, .inr (6, [.int i_12, .int i_13, .int i_14, .ref a_19])), (a_19, .inl (cy 2, 60, .inr (.inl f_3)))]) rfl (fun _ => rfl) (fun _ => rfl) ?_
                clear hP hD hS
                clear H locs
                intro u
                obtain ⟨n43, n44⟩ := u
                intro H locs hw (hP : va_P G vwCl [(a_0, .inr (11, [.ref a_1, .ref a_2, .ref a_3, .ref a_4, .ref a_5, .ref a_6, .ref a_7, .ref a_8, .ref a_9, .ref a_10, .ref a_11])), (a_6, .inl (cy 6, 4, .inr (.inr (.inr (.inr (va_up (va_up (va_up (va_up (fun _ => none) 0 (some a_12)) 1 (some a_13)) 2 (some a_14)) 3 (some a_15))))))), (a_12, .inr (6, [.int i_3, .int i_4, .int i_5, .ref a_16])), (a_16, .inl (cy 2, 60, .inr (.inl f_0))), (a_13, .inr (6, [.int 1, .int i_1, .int n43, .ref a_17])), (a_17, .inl (cy 2, 60, .inr (.inl n44))), (a_14, .inr (6, [.int i_9, .int i_10, .int i_11, .ref a_18])), (a_18, .inl (cy 2, 60, .inr (.inl f_2))), (a_15, .inr (6, [.int i_12, .int i_13, .int i_14, .ref a_19])), (a_19, .inl (cy 2, 60, .inr (.inl f_3)))] H) (hD : va_D A [(a_0, .inr (11, [.ref a_1, .ref a_2, .ref a_3, .ref a_4, .ref a_5, .ref a_6, .ref a_7, .ref a_8, .ref a_9, .ref a_10, .ref a_11])), (a_6, .inl (cy 6, 4, .inr (.inr (.inr (.inr (va_up (va_up (va_up (va_up (fun _ => none) 0 (some a_12)) 1 (some a_13)) 2 (some a_14)) 3 (some a_15))))))), (a_12, .inr (6, [.int i_3, .int i_4, .int i_5, .ref a_16])), (a_16, .inl (cy 2, 60, .inr (.inl f_0))), (a_13, .inr (6, [.int 1, .int i_1, .int n43, .ref a_17])), (a_17, .inl (cy 2, 60, .inr (.inl n44))), (a_14, .inr (6, [.int i_9, .int i_10, .int i_11, .ref a_18])), (a_18, .inl (cy 2, 60, .inr (.inl f_2))), (a_15, .inr (6, [.int i_12, .int i_13, .int i_14, .ref a_19])), (a_19, .inl (cy 2, 60, .inr (.inl f_3)))]) hS
                obtain ⟨w45, w46⟩ := hw
                replace w46 : mm_mn i_2 n43 := w46
                refine lv_iconst (v := 0) hx hb dX11_row_43 (by decide) ?_
                have w47 : mm_xr 0 i_3 i_4 i_5 i_3 i_4 i_5 1 i_1 i_2 := (mm_xr_n mm_k1 q29 q33 (by decide))
                have w48 : mm_xr 1 i_6 i_7 i_8 1 i_1 n43 1 i_1 i_2 := (mm_xr_y w46 mm_k1 q29 q33 (by decide))
                have w49 : mm_xr 2 i_9 i_10 i_11 i_9 i_10 i_11 1 i_1 i_2 := (mm_xr_n mm_k1 q29 q33 (by decide))
                have w50 : mm_xr 3 i_12 i_13 i_14 i_12 i_13 i_14 1 i_1 i_2 := (mm_xr_n mm_k1 q29 q33 (by decide))
                subst hAe
                rw [hQ]
                exact W.iret (v := 0) hx hb hr (fun t ht hW => ⟨⟨0, (i_3, i_4, i_5, f_0, 1, i_1, n43, n44, i_9, i_10, i_11, f_2, i_12, i_13, i_14, f_3), rfl, ⟨h0, h1, h2, (mm_wk mm_k1 (by decide)), q29, w45, h6, h7, h8, h9, h10, h11, w47, w48, w49, w50, (Or.inr (Or.inr (Or.inr (Or.inr (Or.inl ⟨rfl, (mm_wk mm_k1 (by decide)), q29, q33⟩)))))⟩, by rw [ht]; exact hP, hK.warm hW, hD⟩, hS.F ht⟩) hS.2.2 dX11_row_44
              · refine W.eq (g2 := F0 m 38 ls [.ref a_14]) rfl ?_
                refine lv_iload_n hx hb dX11_row_38 rfl (lv_at hl 2 rfl) ?_
                refine lv_iload_n hx hb dX11_row_39 rfl (lv_at hl 3 rfl) ?_
                refine mm_finv (va_runV (As := [.int i_1, .int i_2]) (rest := []) ⟨hx, hb, hml, hown, hts⟩ (C545_X6_begin l G cy H.size a_14 i_1 i_2 i_9 i_10 i_11 a_18 f_2 q29 q33 h6 h7 h8) (cwV 2 hts (mm_gV mm_w1677 mm_w1678 mm_w1679 mm_w34 mm_w1680) rfl rfl rfl hd_X6_begin ⟨by rw [hRf]; exact Nat.le_of_ble_eq_true rfl, by rw [hRl]; exact Nat.le_of_ble_eq_true rfl⟩) (mm_preV hK hZ hS hA hP hD [6, 7] rfl rfl 6 rfl rfl rfl) rfl rfl hl.1 rfl (lv_room (Nat.le_of_ble_eq_true rfl)) dX11_row_40 ⟨by rw [hRc]; exact Nat.le_of_ble_eq_true rfl, by rw [hRs]; exact Nat.le_of_ble_eq_true rfl⟩) hP hD hS hA (fun u : Int32 × (Nat → Int64) => [(a_0, .inr (11, [.ref a_1, .ref a_2, .ref a_3, .ref a_4, .ref a_5, .ref a_6, .ref a_7, .ref a_8, .ref a_9, .ref a_10, .ref a_11])), (a_6, .inl (cy 6, 4, .inr (.inr (.inr (.inr (va_up (va_up (va_up (va_up (fun _ => none) 0 (some a_12)) 1 (some a_13)) 2 (some a_14)) 3 (some a_15))))))), (a_12, .inr (6, [.int i_3, .int i_4, .int i_5, .ref a_16])), (a_16, .inl (cy 2, 60, .inr (.inl f_0))), (a_13, .inr (6, [.int i_6, .int i_7, .int i_8, .ref a_17])), (a_17, .inl (cy 2, 60, .inr (.inl f_1))), (a_14, .inr (6, [.int 1, .int i_1, .int u.1, .ref a_18])), (a_18, .inl (cy 2, 60, .inr (.inl u.2))), (a_15, .inr (6, [.int i_12, .int i_13, .int i_14, .ref a_19])), (a_19, .inl (cy 2, 60, .inr (.inl f_3)))]) [6, 7] [0, 1, 2, 3, 4, 5, 8, 9] (n := 10) (fun _ => rfl) (by decide +kernel) (by decide +kernel) rfl (fun _ => rfl) (wr := [(a_0, .inr (11, [.ref a_1, .ref a_2, .ref a_3, .ref a_4, .ref a_5, .ref a_6, .ref a_7, .ref a_8, .ref a_9, .ref a_10, .ref a_11])), (a_6, .inl (cy 6, 4, .inr (.inr (.inr (.inr (va_up (va_up (va_up (va_up (fun _ => none) 0 (some a_12)) 1 (some a_13)) 2 (some a_14)) 3 (some a_15))))))), (a_12, .inr (6, [.int i_3, .int i_4, .int i_5, .ref a_16])), (a_16, .inl (cy 2, 60, .inr (.inl f_0))), (a_13, .inr (6, [.int i_6, .int i_7, .int i_8, .ref a_17])), (a_17, .inl (cy 2, 60, .inr (.inl f_1))), (a_15, .inr (6, [.int i_12, .int i_13, .int i_14, .ref a_19])), (a_19, .inl (cy 2, 60, .inr (.inl f_3)))]) rfl (fun _ => rfl) (fun _ => rfl) ?_
                clear hP hD hS
                clear H locs
                intro u
                obtain ⟨n51, n52⟩ := u
                intro H locs hw (hP : va_P G vwCl [(a_0, .inr (11, [.ref a_1, .ref a_2, .ref a_3, .ref a_4, .ref a_5, .ref a_6, .ref a_7, .ref a_8, .ref a_9, .ref a_10, .ref a_11])), (a_6, .inl (cy 6, 4, .inr (.inr (.inr (.inr (va_up (va_up (va_up (va_up (fun _ => none) 0 (some a_12)) 1 (some a_13)) 2 (some a_14)) 3 (some a_15))))))), (a_12, .inr (6, [.int i_3, .int i_4, .int i_5, .ref a_16])), (a_16, .inl (cy 2, 60, .inr (.inl f_0))), (a_13, .inr (6, [.int i_6, .int i_7, .int i_8, .ref a_17])), (a_17, .inl (cy 2, 60, .inr (.inl f_1))), (a_14, .inr (6, [.int 1, .int i_1, .int n51, .ref a_18])), (a_18, .inl (cy 2, 60, .inr (.inl n52))), (a_15, .inr (6, [.int i_12, .int i_13, .int i_14, .ref a_19])), (a_19, .inl (cy 2, 60, .inr (.inl f_3)))] H) (hD : va_D A [(a_0, .inr (11, [.ref a_1, .ref a_2, .ref a_3, .ref a_4, .ref a_5, .ref a_6, .ref a_7, .ref a_8, .ref a_9, .ref a_10, .ref a_11])), (a_6, .inl (cy 6, 4, .inr (.inr (.inr (.inr (va_up (va_up (va_up (va_up (fun _ => none) 0 (some a_12)) 1 (some a_13)) 2 (some a_14)) 3 (some a_15))))))), (a_12, .inr (6, [.int i_3, .int i_4, .int i_5, .ref a_16])), (a_16, .inl (cy 2, 60, .inr (.inl f_0))), (a_13, .inr (6, [.int i_6, .int i_7, .int i_8, .ref a_17])), (a_17, .inl (cy 2, 60, .inr (.inl f_1))), (a_14, .inr (6, [.int 1, .int i_1, .int n51, .ref a_18])), (a_18, .inl (cy 2, 60, .inr (.inl n52))), (a_15, .inr (6, [.int i_12, .int i_13, .int i_14, .ref a_19])), (a_19, .inl (cy 2, 60, .inr (.inl f_3)))]) hS
                obtain ⟨w53, w54⟩ := hw
                replace w54 : mm_mn i_2 n51 := w54
                refine lv_iconst (v := 0) hx hb dX11_row_43 (by decide) ?_
                have w55 : mm_xr 0 i_3 i_4 i_5 i_3 i_4 i_5 2 i_1 i_2 := (mm_xr_n mm_k2 q29 q33 (by decide))
                have w56 : mm_xr 1 i_6 i_7 i_8 i_6 i_7 i_8 2 i_1 i_2 := (mm_xr_n mm_k2 q29 q33 (by decide))
                have w57 : mm_xr 2 i_9 i_10 i_11 1 i_1 n51 2 i_1 i_2 := (mm_xr_y w54 mm_k2 q29 q33 (by decide))
                have w58 : mm_xr 3 i_12 i_13 i_14 i_12 i_13 i_14 2 i_1 i_2 := (mm_xr_n mm_k2 q29 q33 (by decide))
                subst hAe
                rw [hQ]
                exact W.iret (v := 0) hx hb hr (fun t ht hW => ⟨⟨0, (i_3, i_4, i_5, f_0, i_6, i_7, i_8, f_1, 1, i_1, n51, n52, i_12, i_13, i_14, f_3), rfl, ⟨h0, h1, h2, h3, h4, h5, (mm_wk mm_k1 (by decide)), q29, w53, h9, h10, h11, w55, w56, w57, w58, (Or.inr (Or.inr (Or.inr (Or.inr (Or.inl ⟨rfl, (mm_wk mm_k2 (by decide)), q29, q33⟩)))))⟩, by rw [ht]; exact hP, hK.warm hW, hD⟩, hS.F ht⟩) hS.2.2 dX11_row_44
              · refine W.eq (g2 := F0 m 38 ls [.ref a_15]) rfl ?_
                refine lv_iload_n hx hb dX11_row_38 rfl (lv_at hl 2 rfl) ?_
                refine lv_iload_n hx hb dX11_row_39 rfl (lv_at hl 3 rfl) ?_
                refine mm_finv (va_runV (As := [.int i_1, .int i_2]) (rest := []) ⟨hx, hb, hml, hown, hts⟩ (C545_X6_begin l G cy H.size a_15 i_1 i_2 i_12 i_13 i_14 a_19 f_3 q29 q33 h9 h10 h11) (cwV 2 hts (mm_gV mm_w1677 mm_w1678 mm_w1679 mm_w34 mm_w1680) rfl rfl rfl hd_X6_begin ⟨by rw [hRf]; exact Nat.le_of_ble_eq_true rfl, by rw [hRl]; exact Nat.le_of_ble_eq_true rfl⟩) (mm_preV hK hZ hS hA hP hD [8, 9] rfl rfl 8 rfl rfl rfl) rfl rfl hl.1 rfl (lv_room (Nat.le_of_ble_eq_true rfl)) dX11_row_40 ⟨by rw [hRc]; exact Nat.le_of_ble_eq_true rfl, by rw [hRs]; exact Nat.le_of_ble_eq_true rfl⟩) hP hD hS hA (fun u : Int32 × (Nat → Int64) => [(a_0, .inr (11, [.ref a_1, .ref a_2, .ref a_3, .ref a_4, .ref a_5, .ref a_6, .ref a_7, .ref a_8, .ref a_9, .ref a_10, .ref a_11])), (a_6, .inl (cy 6, 4, .inr (.inr (.inr (.inr (va_up (va_up (va_up (va_up (fun _ => none) 0 (some a_12)) 1 (some a_13)) 2 (some a_14)) 3 (some a_15))))))), (a_12, .inr (6, [.int i_3, .int i_4, .int i_5, .ref a_16])), (a_16, .inl (cy 2, 60, .inr (.inl f_0))), (a_13, .inr (6, [.int i_6, .int i_7, .int i_8, .ref a_17])), (a_17, .inl (cy 2, 60, .inr (.inl f_1))), (a_14, .inr (6, [.int i_9, .int i_10, .int i_11, .ref a_18])), (a_18, .inl (cy 2, 60, .inr (.inl f_2))), (a_15, .inr (6, [.int 1, .int i_1, .int u.1, .ref a_19])), (a_19, .inl (cy 2, 60, .inr (.inl u.2)))]) [8, 9] [0, 1, 2, 3, 4, 5, 6, 7] (n := 10) (fun _ => rfl) (by decide +kernel) (by decide +kernel) rfl (fun _ => rfl) (wr := [(a_0, .inr (11, [.ref a_1, .ref a_2, .ref a_3, .ref a_4, .ref a_5, .ref a_6, .ref a_7, .ref a_8, .ref a_9, .ref a_10, .ref a_11])), (a_6, .inl (cy 6, 4, .inr (.inr (.inr (.inr (va_up (va_up (va_up (va_up (fun _ => none) 0 (some a_12)) 1 (some a_13)) 2 (some a_14)) 3 (some a_15))))))), (a_12, .inr (6, [.int i_3, .int i_4, .int i_5, .ref a_16])), (a_16, .inl (cy 2, 60, .inr (.inl f_0))), (a_13, .inr (6, [.int i_6, .int i_7, .int i_8, .ref a_17])), (a_17, .inl (cy 2, 60, .inr (.inl f_1))), (a_14, .inr (6, [.int i_9, .int i_10, .int i_11, .ref a_18])), (a_18, .inl (cy 2, 60, .inr (.inl f_2)))]) rfl (fun _ => rfl) (fun _ => rfl) ?_
                clear hP hD hS
                clear H locs
                intro u
                obtain ⟨n59, n60⟩ := u
                intro H locs hw (hP : va_P G vwCl [(a_0, .inr (11, [.ref a_1, .ref a_2, .ref a_3, .ref a_4, .ref a_5, .ref a_6, .ref a_7, .ref a_8, .ref a_9, .ref a_10, .ref a_11])), (a_6, .inl (cy 6, 4, .inr (.inr (.inr (.inr (va_up (va_up (va_up (va_up (fun _ => none) 0 (some a_12)) 1 (some a_13)) 2 (some a_14)) 3 (some a_15))))))), (a_12, .inr (6, [.int i_3, .int i_4, .int i_5, .ref a_16])), (a_16, .inl (cy 2, 60, .inr (.inl f_0))), (a_13, .inr (6, [.int i_6, .int i_7, .int i_8, .ref a_17])), (a_17, .inl (cy 2, 60, .inr (.inl f_1))), (a_14, .inr (6, [.int i_9, .int i_10, .int i_11, .ref a_18])), (a_18, .inl (cy 2, 60, .inr (.inl f_2))), (a_15, .inr (6, [.int 1, .int i_1, .int n59, .ref a_19])), (a_19, .inl (cy 2, 60, .inr (.inl n60)))] H) (hD : va_D A [(a_0, .inr (11, [.ref a_1, .ref a_2, .ref a_3, .ref a_4, .ref a_5, .ref a_6, .ref a_7, .ref a_8, .ref a_9, .ref a_10, .ref a_11])), (a_6, .inl (cy 6, 4, .inr (.inr (.inr (.inr (va_up (va_up (va_up (va_up (fun _ => none) 0 (some a_12)) 1 (some a_13)) 2 (some a_14)) 3 (some a_15))))))), (a_12, .inr (6, [.int i_3, .int i_4, .int i_5, .ref a_16])), (a_16, .inl (cy 2, 60, .inr (.inl f_0))), (a_13, .inr (6, [.int i_6, .int i_7, .int i_8, .ref a_17])), (a_17, .inl (cy 2, 60, .inr (.inl f_1))), (a_14, .inr (6, [.int i_9, .int i_10, .int i_11, .ref a_18])), (a_18, .inl (cy 2, 60, .inr (.inl f_2))), (a_15, .inr (6, [.int 1, .int i_1, .int n59, .ref a_19])), (a_19, .inl (cy 2, 60, .inr (.inl n60)))]) hS
                obtain ⟨w61, w62⟩ := hw
                replace w62 : mm_mn i_2 n59 := w62
                refine lv_iconst (v := 0) hx hb dX11_row_43 (by decide) ?_
                have w63 : mm_xr 0 i_3 i_4 i_5 i_3 i_4 i_5 3 i_1 i_2 := (mm_xr_n mm_k3 q29 q33 (by decide))
                have w64 : mm_xr 1 i_6 i_7 i_8 i_6 i_7 i_8 3 i_1 i_2 := (mm_xr_n mm_k3 q29 q33 (by decide))
                have w65 : mm_xr 2 i_9 i_10 i_11 i_9 i_10 i_11 3 i_1 i_2 := (mm_xr_n mm_k3 q29 q33 (by decide))
                have w66 : mm_xr 3 i_12 i_13 i_14 1 i_1 n59 3 i_1 i_2 := (mm_xr_y w62 mm_k3 q29 q33 (by decide))
                subst hAe
                rw [hQ]
                exact W.iret (v := 0) hx hb hr (fun t ht hW => ⟨⟨0, (i_3, i_4, i_5, f_0, i_6, i_7, i_8, f_1, i_9, i_10, i_11, f_2, 1, i_1, n59, n60), rfl, ⟨h0, h1, h2, h3, h4, h5, h6, h7, h8, (mm_wk mm_k1 (by decide)), q29, w61, w63, w64, w65, w66, (Or.inr (Or.inr (Or.inr (Or.inr (Or.inl ⟨rfl, (mm_wk mm_k3 (by decide)), q29, q33⟩)))))⟩, by rw [ht]; exact hP, hK.warm hW, hD⟩, hS.F ht⟩) hS.2.2 dX11_row_44
            · have q67 := mm_ltL (h := (-1)) (mm_nle c32) q31 mm_k0 (by decide)
              refine lv_bipush (v := (-3)) hx hb dX11_row_29 (by decide) ?_
              have w68 : mm_xr 0 i_3 i_4 i_5 i_3 i_4 i_5 i_0 i_1 i_2 := (mm_xr_n w4 q29 q67 (by decide))
              have w69 : mm_xr 1 i_6 i_7 i_8 i_6 i_7 i_8 i_0 i_1 i_2 := (mm_xr_n w4 q29 q67 (by decide))
              have w70 : mm_xr 2 i_9 i_10 i_11 i_9 i_10 i_11 i_0 i_1 i_2 := (mm_xr_n w4 q29 q67 (by decide))
              have w71 : mm_xr 3 i_12 i_13 i_14 i_12 i_13 i_14 i_0 i_1 i_2 := (mm_xr_n w4 q29 q67 (by decide))
              subst hAe
              rw [hQ]
              exact W.iret (v := (-3)) hx hb hr (fun t ht hW => ⟨⟨(-3), (i_3, i_4, i_5, f_0, i_6, i_7, i_8, f_1, i_9, i_10, i_11, f_2, i_12, i_13, i_14, f_3), rfl, ⟨h0, h1, h2, h3, h4, h5, h6, h7, h8, h9, h10, h11, w68, w69, w70, w71, (Or.inr (Or.inr (Or.inr (Or.inr (Or.inr (Or.inl ⟨rfl, w4, q29, q67⟩))))))⟩, by rw [ht]; exact hP, hK.warm hW, hD⟩, hS.F ht⟩) hS.2.2 dX11_row_31
          · have q72 := mm_ltR (lo := 61) (mm_nle c30) mm_k60 (mm_top i_2) (by decide)
            refine lv_bipush (v := (-2)) hx hb dX11_row_22 (by decide) ?_
            have w73 : mm_xr 0 i_3 i_4 i_5 i_3 i_4 i_5 i_0 i_1 i_2 := (mm_xr_n w4 q29 q72 (by decide))
            have w74 : mm_xr 1 i_6 i_7 i_8 i_6 i_7 i_8 i_0 i_1 i_2 := (mm_xr_n w4 q29 q72 (by decide))
            have w75 : mm_xr 2 i_9 i_10 i_11 i_9 i_10 i_11 i_0 i_1 i_2 := (mm_xr_n w4 q29 q72 (by decide))
            have w76 : mm_xr 3 i_12 i_13 i_14 i_12 i_13 i_14 i_0 i_1 i_2 := (mm_xr_n w4 q29 q72 (by decide))
            subst hAe
            rw [hQ]
            exact W.iret (v := (-2)) hx hb hr (fun t ht hW => ⟨⟨(-2), (i_3, i_4, i_5, f_0, i_6, i_7, i_8, f_1, i_9, i_10, i_11, f_2, i_12, i_13, i_14, f_3), rfl, ⟨h0, h1, h2, h3, h4, h5, h6, h7, h8, h9, h10, h11, w73, w74, w75, w76, (Or.inr (Or.inr (Or.inr (Or.inr (Or.inr (Or.inr ⟨rfl, w4, q29, q72⟩))))))⟩, by rw [ht]; exact hP, hK.warm hW, hD⟩, hS.F ht⟩) hS.2.2 dX11_row_24

set_option maxHeartbeats 4000000 in
set_option maxRecDepth 100000 in
theorem C547_X6_put (l : Launch) (G : va_G) (cy : Nat → ClassId) (sz : Nat) (a_0 : Nat) (i_0 : Int32) (j_0 : Int64) (i_1 : Int32) (i_2 : Int32) (i_3 : Int32) (a_1 : Nat) (f_0 : Nat → Int64) (h0 : mm_rg i_0 0 59) (h1 : mm_rg i_2 0 3)  : mm_CV l yX6_put (mm_ws yX6_put cX6_put 4 (none)) ({ frames := 0, cells := 0, slots := 0, locals := 0 } : Room) G cy sz [(a_0, .inr (6, [.int i_1, .int i_2, .int i_3, .ref a_1])), (a_1, .inl (cy 2, 60, .inr (.inl f_0)))] [.ref a_0, .int i_0, .long j_0] (fun u : Int32 × (Nat → Int64) => [(a_0, .inr (6, [.int i_1, .int u.1, .int i_3, .ref a_1])), (a_1, .inl (cy 2, 60, .inr (.inl u.2)))]) (fun u : Int32 × (Nat → Int64) => mm_rg u.1 0 3 ∧ u.1 = i_2) 0 0 := by
  refine mm_begin (lv := [(0, .ref a_0), (1, .int i_0), (2, .long j_0)]) (by decide) (Nat.le_of_ble_eq_true rfl) rfl ?_
  intro p e s m below meth c A ls R args Q H locs hRe hQ hAe hx hb hr hlocks hml hown hnm hts hsz hA hS hP hK hD hZ hl
  have hRf : R.frames = 0 := by rw [hRe]
  have hRl : R.locals = 0 := by rw [hRe]
  have hRc : R.cells = 0 := by rw [hRe]
  have hRs : R.slots = 0 := by rw [hRe]
  refine lv_aload_n hx hb dX6_put_0 rfl (lv_at hl 0 rfl) ?_
  refine va_get (D := G) (ci := 6) (v := .int i_2) (C := RX6) (T := TX6) (N := 4) hx hb hts (mm_i inlX6) hown hK.1 hP 0 rfl rfl 1 (by decide) (mm_h hts mm_w1682) (fun _ h9 => h9) rfl dX6_put_1 ?_
  rcases mm_out i_2 0 2 with c1 | c1 | c1
  · exact absurd c1 (by have := (h1).1; omega)
  · have q2 : mm_rg i_2 3 3 := ⟨by omega, (h1).2⟩
    refine lv_tableOut (tgt := 70) hx hb dX6_put_4 (Or.inr c1) (by decide) ?_
    refine lv_aload_n hx hb dX6_put_70 rfl (lv_at hl 0 rfl) ?_
    refine va_get (D := G) (ci := 6) (v := .ref a_1) (C := RX6) (T := TX6) (N := 4) hx hb hts (mm_i inlX6) hown hK.1 hP 0 rfl rfl 3 (by decide) (mm_h hts mm_w104) (fun _ h9 => h9) rfl dX6_put_71 ?_
    refine lv_iload_n hx hb dX6_put_74 rfl (lv_at hl 1 rfl) ?_
    refine lv_lload_n hx hb dX6_put_75 rfl (lv_at hl 2 rfl) ?_
    refine va_last hx hb hK.1 hP hD hS 1 2 rfl rfl (mm_in h0 (by decide)) dX6_put_76 ?_
    clear hP hD hS
    clear H locs
    obtain ⟨g3, eg3⟩ : ∃ z : Nat → Int64, z = vp_updL f_0 i_0.toNatClampNeg j_0 := ⟨_, rfl⟩
    rw [← eg3]
    intro H locs (hP : va_P G vwCl [(a_0, .inr (6, [.int i_1, .int i_2, .int i_3, .ref a_1])), (a_1, .inl (cy 2, 60, .inr (.inl g3)))] H) (hD : va_D A [(a_0, .inr (6, [.int i_1, .int i_2, .int i_3, .ref a_1])), (a_1, .inl (cy 2, 60, .inr (.inl g3)))]) hS
    subst hAe
    rw [hQ]
    exact W.vret hx hb hr (fun t ht hW => ⟨⟨(i_2, g3), rfl, ⟨(mm_wk q2 (by decide)), rfl⟩, by rw [ht]; exact hP, hK.warm hW, hD⟩, hS.F ht⟩) hS.2.2 dX6_put_77
  · have c4 := mm_cases3 c1
    rcases c4 with rfl | rfl | rfl
    · refine lv_tableIn (tgt := 32) hx hb dX6_put_4 (by decide) (by decide) rfl (by decide) ?_
      refine lv_aload_n hx hb dX6_put_32 rfl (lv_at hl 0 rfl) ?_
      refine va_get (D := G) (ci := 6) (v := .ref a_1) (C := RX6) (T := TX6) (N := 4) hx hb hts (mm_i inlX6) hown hK.1 hP 0 rfl rfl 3 (by decide) (mm_h hts mm_w104) (fun _ h9 => h9) rfl dX6_put_33 ?_
      refine lv_iload_n hx hb dX6_put_36 rfl (lv_at hl 1 rfl) ?_
      refine lv_lload_n hx hb dX6_put_37 rfl (lv_at hl 2 rfl) ?_
      obtain ⟨v5, ev5⟩ : ∃ y : Int32, y = j_0.toInt32 := ⟨_, rfl⟩
      refine lv_l2i hx hb dX6_put_38 ev5.symm ?_
      obtain ⟨v6, ev6⟩ : ∃ y : Int32, y = v5.toInt8.toInt32 := ⟨_, rfl⟩
      refine lv_i2b hx hb dX6_put_39 ev6.symm ?_
      have rv6 : mm_rg v6 (-128) 127 := mm_i2b ev6
      obtain ⟨v7, ev7⟩ : ∃ y : Int64, y = v6.toInt64 := ⟨_, rfl⟩
      refine lv_i2l hx hb dX6_put_40 ev7.symm ?_
      have rv7 : mm_rl v7 (-128) 127 := mm_i2l ev7 rv6
      refine va_last hx hb hK.1 hP hD hS 1 2 rfl rfl (mm_in h0 (by decide)) dX6_put_41 ?_
      clear hP hD hS
      clear H locs
      obtain ⟨g8, eg8⟩ : ∃ z : Nat → Int64, z = vp_updL f_0 i_0.toNatClampNeg v7 := ⟨_, rfl⟩
      rw [← eg8]
      intro H locs (hP : va_P G vwCl [(a_0, .inr (6, [.int i_1, .int 0, .int i_3, .ref a_1])), (a_1, .inl (cy 2, 60, .inr (.inl g8)))] H) (hD : va_D A [(a_0, .inr (6, [.int i_1, .int 0, .int i_3, .ref a_1])), (a_1, .inl (cy 2, 60, .inr (.inl g8)))]) hS
      refine lv_goto (tgt := 77) hx hb dX6_put_42 (by decide) ?_
      subst hAe
      rw [hQ]
      exact W.vret hx hb hr (fun t ht hW => ⟨⟨(0, g8), rfl, ⟨(mm_wk mm_k0 (by decide)), rfl⟩, by rw [ht]; exact hP, hK.warm hW, hD⟩, hS.F ht⟩) hS.2.2 dX6_put_77
    · refine lv_tableIn (tgt := 45) hx hb dX6_put_4 (by decide) (by decide) rfl (by decide) ?_
      refine lv_aload_n hx hb dX6_put_45 rfl (lv_at hl 0 rfl) ?_
      refine va_get (D := G) (ci := 6) (v := .ref a_1) (C := RX6) (T := TX6) (N := 4) hx hb hts (mm_i inlX6) hown hK.1 hP 0 rfl rfl 3 (by decide) (mm_h hts mm_w104) (fun _ h9 => h9) rfl dX6_put_46 ?_
      refine lv_iload_n hx hb dX6_put_49 rfl (lv_at hl 1 rfl) ?_
      refine lv_lload_n hx hb dX6_put_50 rfl (lv_at hl 2 rfl) ?_
      obtain ⟨v9, ev9⟩ : ∃ y : Int32, y = j_0.toInt32 := ⟨_, rfl⟩
      refine lv_l2i hx hb dX6_put_51 ev9.symm ?_
      obtain ⟨v10, ev10⟩ : ∃ y : Int32, y = v9.toInt16.toInt32 := ⟨_, rfl⟩
      refine lv_i2s hx hb dX6_put_52 ev10.symm ?_
      obtain ⟨v11, ev11⟩ : ∃ y : Int64, y = v10.toInt64 := ⟨_, rfl⟩
      refine lv_i2l hx hb dX6_put_53 ev11.symm ?_
      have rv11 : mm_rl v11 (-2147483648) 2147483647 := mm_i2l ev11 (mm_top v10)
      refine va_last hx hb hK.1 hP hD hS 1 2 rfl rfl (mm_in h0 (by decide)) dX6_put_54 ?_
      clear hP hD hS
      clear H locs
      obtain ⟨g12, eg12⟩ : ∃ z : Nat → Int64, z = vp_updL f_0 i_0.toNatClampNeg v11 := ⟨_, rfl⟩
      rw [← eg12]
      intro H locs (hP : va_P G vwCl [(a_0, .inr (6, [.int i_1, .int 1, .int i_3, .ref a_1])), (a_1, .inl (cy 2, 60, .inr (.inl g12)))] H) (hD : va_D A [(a_0, .inr (6, [.int i_1, .int 1, .int i_3, .ref a_1])), (a_1, .inl (cy 2, 60, .inr (.inl g12)))]) hS
      refine lv_goto (tgt := 77) hx hb dX6_put_55 (by decide) ?_
      subst hAe
      rw [hQ]
      exact W.vret hx hb hr (fun t ht hW => ⟨⟨(1, g12), rfl, ⟨(mm_wk mm_k1 (by decide)), rfl⟩, by rw [ht]; exact hP, hK.warm hW, hD⟩, hS.F ht⟩) hS.2.2 dX6_put_77
    · refine lv_tableIn (tgt := 58) hx hb dX6_put_4 (by decide) (by decide) rfl (by decide) ?_
      refine lv_aload_n hx hb dX6_put_58 rfl (lv_at hl 0 rfl) ?_
      refine va_get (D := G) (ci := 6) (v := .ref a_1) (C := RX6) (T := TX6) (N := 4) hx hb hts (mm_i inlX6) hown hK.1 hP 0 rfl rfl 3 (by decide) (mm_h hts mm_w104) (fun _ h9 => h9) rfl dX6_put_59 ?_
      refine lv_iload_n hx hb dX6_put_62 rfl (lv_at hl 1 rfl) ?_
      refine lv_lload_n hx hb dX6_put_63 rfl (lv_at hl 2 rfl) ?_
      obtain ⟨v13, ev13⟩ : ∃ y : Int32, y = j_0.toInt32 := ⟨_, rfl⟩
      refine lv_l2i hx hb dX6_put_64 ev13.symm ?_
      obtain ⟨v14, ev14⟩ : ∃ y : Int64, y = v13.toInt64 := ⟨_, rfl⟩
      refine lv_i2l hx hb dX6_put_65 ev14.symm ?_
      have rv14 : mm_rl v14 (-2147483648) 2147483647 := mm_i2l ev14 (mm_top v13)
      refine va_last hx hb hK.1 hP hD hS 1 2 rfl rfl (mm_in h0 (by decide)) dX6_put_66 ?_
      clear hP hD hS
      clear H locs
      obtain ⟨g15, eg15⟩ : ∃ z : Nat → Int64, z = vp_updL f_0 i_0.toNatClampNeg v14 := ⟨_, rfl⟩
      rw [← eg15]
      intro H locs (hP : va_P G vwCl [(a_0, .inr (6, [.int i_1, .int 2, .int i_3, .ref a_1])), (a_1, .inl (cy 2, 60, .inr (.inl g15)))] H) (hD : va_D A [(a_0, .inr (6, [.int i_1, .int 2, .int i_3, .ref a_1])), (a_1, .inl (cy 2, 60, .inr (.inl g15)))]) hS
      refine lv_goto (tgt := 77) hx hb dX6_put_67 (by decide) ?_
      subst hAe
      rw [hQ]
      exact W.vret hx hb hr (fun t ht hW => ⟨⟨(2, g15), rfl, ⟨(mm_wk mm_k2 (by decide)), rfl⟩, by rw [ht]; exact hP, hK.warm hW, hD⟩, hS.F ht⟩) hS.2.2 dX6_put_77

set_option maxHeartbeats 4000000 in
set_option maxRecDepth 100000 in
theorem C548_X11_write (l : Launch) (G : va_G) (cy : Nat → ClassId) (sz : Nat) (a_0 : Nat) (i_0 : Int32) (i_1 : Int32) (j_0 : Int64) (a_1 : Nat) (a_2 : Nat) (a_3 : Nat) (a_4 : Nat) (a_5 : Nat) (a_6 : Nat) (a_7 : Nat) (a_8 : Nat) (a_9 : Nat) (a_10 : Nat) (a_11 : Nat) (a_12 : Nat) (a_13 : Nat) (a_14 : Nat) (a_15 : Nat) (i_2 : Int32) (i_3 : Int32) (i_4 : Int32) (a_16 : Nat) (f_0 : Nat → Int64) (i_5 : Int32) (i_6 : Int32) (i_7 : Int32) (a_17 : Nat) (f_1 : Nat → Int64) (i_8 : Int32) (i_9 : Int32) (i_10 : Int32) (a_18 : Nat) (f_2 : Nat → Int64) (i_11 : Int32) (i_12 : Int32) (i_13 : Int32) (a_19 : Nat) (f_3 : Nat → Int64) (h0 : mm_rg i_2 0 1) (h1 : mm_rg i_3 0 3) (h2 : mm_rg i_4 0 60) (h3 : mm_rg i_5 0 1) (h4 : mm_rg i_6 0 3) (h5 : mm_rg i_7 0 60) (h6 : mm_rg i_8 0 1) (h7 : mm_rg i_9 0 3) (h8 : mm_rg i_10 0 60) (h9 : mm_rg i_11 0 1) (h10 : mm_rg i_12 0 3) (h11 : mm_rg i_13 0 60)  : mm_CI l yX11_write (mm_ws yX11_write cX11_write 5 (some .int)) ({ frames := 1, cells := 0, slots := 0, locals := 23 } : Room) G cy sz [(a_0, .inr (11, [.ref a_1, .ref a_2, .ref a_3, .ref a_4, .ref a_5, .ref a_6, .ref a_7, .ref a_8, .ref a_9, .ref a_10, .ref a_11])), (a_6, .inl (cy 6, 4, .inr (.inr (.inr (.inr (va_up (va_up (va_up (va_up (fun _ => none) 0 (some a_12)) 1 (some a_13)) 2 (some a_14)) 3 (some a_15))))))), (a_12, .inr (6, [.int i_2, .int i_3, .int i_4, .ref a_16])), (a_16, .inl (cy 2, 60, .inr (.inl f_0))), (a_13, .inr (6, [.int i_5, .int i_6, .int i_7, .ref a_17])), (a_17, .inl (cy 2, 60, .inr (.inl f_1))), (a_14, .inr (6, [.int i_8, .int i_9, .int i_10, .ref a_18])), (a_18, .inl (cy 2, 60, .inr (.inl f_2))), (a_15, .inr (6, [.int i_11, .int i_12, .int i_13, .ref a_19])), (a_19, .inl (cy 2, 60, .inr (.inl f_3)))] [.ref a_0, .int i_0, .int i_1, .long j_0] (fun u : Int32 × (Nat → Int64) × Int32 × (Nat → Int64) × Int32 × (Nat → Int64) × Int32 × (Nat → Int64) => [(a_0, .inr (11, [.ref a_1, .ref a_2, .ref a_3, .ref a_4, .ref a_5, .ref a_6, .ref a_7, .ref a_8, .ref a_9, .ref a_10, .ref a_11])), (a_6, .inl (cy 6, 4, .inr (.inr (.inr (.inr (va_up (va_up (va_up (va_up (fun _ => none) 0 (some a_12)) 1 (some a_13)) 2 (some a_14)) 3 (some a_15))))))), (a_12, .inr (6, [.int i_2, .int u.1, .int i_4, .ref a_16])), (a_16, .inl (cy 2, 60, .inr (.inl u.2.1))), (a_13, .inr (6, [.int i_5, .int u.2.2.1, .int i_7, .ref a_17])), (a_17, .inl (cy 2, 60, .inr (.inl u.2.2.2.1))), (a_14, .inr (6, [.int i_8, .int u.2.2.2.2.1, .int i_10, .ref a_18])), (a_18, .inl (cy 2, 60, .inr (.inl u.2.2.2.2.2.1))), (a_15, .inr (6, [.int i_11, .int u.2.2.2.2.2.2.1, .int i_13, .ref a_19])), (a_19, .inl (cy 2, 60, .inr (.inl u.2.2.2.2.2.2.2)))]) (fun (r : Int32) (u : Int32 × (Nat → Int64) × Int32 × (Nat → Int64) × Int32 × (Nat → Int64) × Int32 × (Nat → Int64)) => mm_rg u.1 0 3 ∧ mm_rg u.2.2.1 0 3 ∧ mm_rg u.2.2.2.2.1 0 3 ∧ mm_rg u.2.2.2.2.2.2.1 0 3 ∧ u.1 = i_3 ∧ u.2.2.1 = i_6 ∧ u.2.2.2.2.1 = i_9 ∧ u.2.2.2.2.2.2.1 = i_12 ∧ mm_rg r (-7) 0) 0 0 := by
  refine mm_begin (lv := [(0, .ref a_0), (1, .int i_0), (2, .int i_1), (3, .long j_0)]) (by decide) (Nat.le_of_ble_eq_true rfl) rfl ?_
  intro p e s m below meth c A ls R args Q H locs hRe hQ hAe hx hb hr hlocks hml hown hnm hts hsz hA hS hP hK hD hZ hl
  have hRf : R.frames = 1 := by rw [hRe]
  have hRl : R.locals = 23 := by rw [hRe]
  have hRc : R.cells = 0 := by rw [hRe]
  have hRs : R.slots = 0 := by rw [hRe]
  refine lv_iload_n hx hb dX11_write_0 rfl (lv_at hl 1 rfl) ?_
  refine mm_finir (va_runS (As := [.int i_0]) (rest := []) ⟨hx, hb, hml, hown, hts⟩ (C544_X11_isSlot l G cy H.size i_0 ) (va_cwS 1 hts (mm_gS mm_w1232 mm_w1233 mm_w2 mm_w1234) rfl rfl rfl hs_X11_isSlot ⟨by rw [hRf]; exact Nat.le_of_ble_eq_true rfl, by rw [hRl]; exact Nat.le_of_ble_eq_true rfl⟩) (mm_preS hK hZ hS hA hP hD [] rfl rfl) rfl rfl hl.1 rfl (lv_room (Nat.le_of_ble_eq_true rfl)) dX11_write_1 ⟨by rw [hRc]; exact Nat.le_of_ble_eq_true rfl, by rw [hRs]; exact Nat.le_of_ble_eq_true rfl⟩) hP hD hS hA [] rfl (fun _ => rfl) ?_
  clear hP hD hS
  clear H locs
  intro v1 _u H locs hw hP hD hS
  rcases hw with ⟨rfl, w2⟩ | ⟨rfl, w3⟩ | ⟨rfl, w4⟩
  · refine lv_if_ne (tgt := 10) hx hb dX11_write_4 (by decide) (fun c5 => ?_) (fun c5 => ?_)
    · exact absurd rfl (mm_ne c5)
    · refine lv_bipush (v := (-2)) hx hb dX11_write_7 (by decide) ?_
      subst hAe
      rw [hQ]
      exact W.iret (v := (-2)) hx hb hr (fun t ht hW => ⟨⟨(-2), (i_3, f_0, i_6, f_1, i_9, f_2, i_12, f_3), rfl, ⟨h1, h4, h7, h10, rfl, rfl, rfl, rfl, (mm_wk mm_km2 (by decide))⟩, by rw [ht]; exact hP, hK.warm hW, hD⟩, hS.F ht⟩) hS.2.2 dX11_write_9
  · refine lv_if_ne (tgt := 10) hx hb dX11_write_4 (by decide) (fun c6 => ?_) (fun c6 => ?_)
    · exact absurd rfl (mm_ne c6)
    · refine lv_bipush (v := (-2)) hx hb dX11_write_7 (by decide) ?_
      subst hAe
      rw [hQ]
      exact W.iret (v := (-2)) hx hb hr (fun t ht hW => ⟨⟨(-2), (i_3, f_0, i_6, f_1, i_9, f_2, i_12, f_3), rfl, ⟨h1, h4, h7, h10, rfl, rfl, rfl, rfl, (mm_wk mm_km2 (by decide))⟩, by rw [ht]; exact hP, hK.warm hW, hD⟩, hS.F ht⟩) hS.2.2 dX11_write_9
  · refine lv_if_ne (tgt := 10) hx hb dX11_write_4 (by decide) (fun c7 => ?_) (fun c7 => ?_)
    · refine lv_aload_n hx hb dX11_write_10 rfl (lv_at hl 0 rfl) ?_
      refine va_get (D := G) (ci := 11) (v := .ref a_6) (C := RX11) (T := TX11) (N := 11) hx hb hts (mm_i inlX11) hown hK.1 hP 0 rfl rfl 5 (by decide) (mm_h hts mm_w32) (fun _ h9 => h9) rfl dX11_write_11 ?_
      refine lv_iload_n hx hb dX11_write_14 rfl (lv_at hl 1 rfl) ?_
      refine va_aldq hx hb hK.1 hP 1 6 rfl rfl (mm_in w4 (by decide)) dX11_write_15 ?_
      have c8 := mm_cases4 w4
      rcases c8 with rfl | rfl | rfl | rfl
      · refine W.eq (g2 := F0 m 16 ls [.ref a_12]) rfl ?_
        refine va_get (D := G) (ci := 6) (v := .int i_2) (C := RX6) (T := TX6) (N := 4) hx hb hts (mm_i inlX6) hown hK.1 hP 2 rfl rfl 0 (by decide) (mm_h hts mm_w1239) (fun _ h9 => h9) rfl dX11_write_16 ?_
        refine lv_if_ne (tgt := 25) hx hb dX11_write_19 (by decide) (fun c9 => ?_) (fun c9 => ?_)
        · have q10 := mm_neL (lo := 1) (mm_ne c9) h0 mm_k0 (by decide) (by decide)
          refine lv_iload_n hx hb dX11_write_25 rfl (lv_at hl 2 rfl) ?_
          refine lv_if_lt (tgt := 42) hx hb dX11_write_26 (by decide) (fun c11 => ?_) (fun c11 => ?_)
          · have q12 := mm_ltL (h := (-1)) (mm_lt c11) (mm_top i_1) mm_k0 (by decide)
            refine lv_bipush (v := (-7)) hx hb dX11_write_42 (by decide) ?_
            subst hAe
            rw [hQ]
            exact W.iret (v := (-7)) hx hb hr (fun t ht hW => ⟨⟨(-7), (i_3, f_0, i_6, f_1, i_9, f_2, i_12, f_3), rfl, ⟨h1, h4, h7, h10, rfl, rfl, rfl, rfl, (mm_wk mm_km7 (by decide))⟩, by rw [ht]; exact hP, hK.warm hW, hD⟩, hS.F ht⟩) hS.2.2 dX11_write_44
          · have q13 := mm_leR (mm_nlt c11) mm_k0 (mm_top i_1)
            refine lv_iload_n hx hb dX11_write_29 rfl (lv_at hl 2 rfl) ?_
            refine lv_aload_n hx hb dX11_write_30 rfl (lv_at hl 0 rfl) ?_
            refine va_get (D := G) (ci := 11) (v := .ref a_6) (C := RX11) (T := TX11) (N := 11) hx hb hts (mm_i inlX11) hown hK.1 hP 0 rfl rfl 5 (by decide) (mm_h hts mm_w32) (fun _ h9 => h9) rfl dX11_write_31 ?_
            refine lv_iload_n hx hb dX11_write_34 rfl (lv_at hl 1 rfl) ?_
            refine va_aldq hx hb hK.1 hP 1 6 rfl rfl (mm_in mm_k0 (by decide)) dX11_write_35 ?_
            refine W.eq (g2 := F0 m 36 ls [.ref a_12, .int i_1]) rfl ?_
            refine va_get (D := G) (ci := 6) (v := .int i_4) (C := RX6) (T := TX6) (N := 4) hx hb hts (mm_i inlX6) hown hK.1 hP 2 rfl rfl 2 (by decide) (mm_h hts mm_w1694) (fun _ h9 => h9) rfl dX11_write_36 ?_
            refine lv_icmp_lt (tgt := 45) hx hb dX11_write_39 (by decide) (fun c14 => ?_) (fun c14 => ?_)
            · have q15 := mm_ltL (h := 59) (mm_lt c14) q13 h2 (by decide)
              have q16 := mm_ltR (lo := 1) (mm_lt c14) q13 h2 (by decide)
              refine lv_aload_n hx hb dX11_write_45 rfl (lv_at hl 0 rfl) ?_
              refine va_get (D := G) (ci := 11) (v := .ref a_6) (C := RX11) (T := TX11) (N := 11) hx hb hts (mm_i inlX11) hown hK.1 hP 0 rfl rfl 5 (by decide) (mm_h hts mm_w32) (fun _ h9 => h9) rfl dX11_write_46 ?_
              refine lv_iload_n hx hb dX11_write_49 rfl (lv_at hl 1 rfl) ?_
              refine va_aldq hx hb hK.1 hP 1 6 rfl rfl (mm_in mm_k0 (by decide)) dX11_write_50 ?_
              refine W.eq (g2 := F0 m 51 ls [.ref a_12]) rfl ?_
              refine lv_iload_n hx hb dX11_write_51 rfl (lv_at hl 2 rfl) ?_
              refine lv_lload_n hx hb dX11_write_52 rfl (lv_at hl 3 rfl) ?_
              refine mm_finv (va_runV (As := [.int i_1, .long j_0]) (rest := []) ⟨hx, hb, hml, hown, hts⟩ (C547_X6_put l G cy H.size a_12 i_1 j_0 i_2 i_3 i_4 a_16 f_0 q15 h1) (cwV 2 hts (mm_gV mm_w1695 mm_w1696 mm_w1697 mm_w34 mm_w1698) rfl rfl rfl hd_X6_put ⟨by rw [hRf]; exact Nat.le_of_ble_eq_true rfl, by rw [hRl]; exact Nat.le_of_ble_eq_true rfl⟩) (mm_preV hK hZ hS hA hP hD [2, 3] rfl rfl 2 rfl rfl rfl) rfl rfl hl.1 rfl (lv_room (Nat.le_of_ble_eq_true rfl)) dX11_write_53 ⟨by rw [hRc]; exact Nat.le_of_ble_eq_true rfl, by rw [hRs]; exact Nat.le_of_ble_eq_true rfl⟩) hP hD hS hA (fun u : Int32 × (Nat → Int64) => [(a_0, .inr (11, [.ref a_1, .ref a_2, .ref a_3, .ref a_4, .ref a_5, .ref a_6, .ref a_7, .ref a_8, .ref a_9, .ref a_10, .ref a_11])), (a_6, .inl (cy 6, 4, .inr (.inr (.inr (.inr (va_up (va_up (va_up (va_up (fun _ => none) 0 (some a_12)) 1 (some a_13)) 2 (some a_14)) 3 (some a_15))))))), (a_12, .inr (6, [.int i_2, .int u.1, .int i_4, .ref a_16])), (a_16, .inl (cy 2, 60, .inr (.inl u.2))), (a_13, .inr (6, [.int i_5, .int i_6, .int i_7, .ref a_17])), (a_17, .inl (cy 2, 60, .inr (.inl f_1))), (a_14, .inr (6, [.int i_8, .int i_9, .int i_10, .ref a_18])), (a_18, .inl (cy 2, 60, .inr (.inl f_2))), (a_15, .inr (6, [.int i_11, .int i_12, .int i_13, .ref a_19])), (a_19, .inl (cy 2, 60, .inr (.inl f_3)))]) [2, 3] [0, 1, 4, 5, 6, 7, 8, 9] (n := 10) (fun _ => rfl) (by decide +kernel) (by decide +kernel) rfl (fun _ => rfl) (wr := [(a_0, .inr (11, [.ref a_1, .ref a_2, .ref a_3, .ref a_4, .ref a_5, .ref a_6, .ref a_7, .ref a_8, .ref a_9, .ref a_10, .ref a_11])), (a_6, .inl (cy 6, 4, .inr (.inr (.inr (.inr (va_up (va_up (va_up (va_up (fun _ => none) 0 (some a_12)) 1 (some a_13)) 2 (some a_14)) 3 (some a_15))))))), (a_13, .inr (6, [.int i_5, .int i_6, .int i_7, .ref a_17])), (a_17, .inl (cy 2, 60, .inr (.inl f_1))), (a_14, .inr (6, [.int i_8, .int i_9, .int i_10, .ref a_18])), (a_18, .inl (cy 2, 60, .inr (.inl f_2))), (a_15, .inr (6, [.int i_11, .int i_12, .int i_13, .ref a_19])), (a_19, .inl (cy 2, 60, .inr (.inl f_3)))]) rfl (fun _ => rfl) (fun _ => rfl) ?_
              clear hP hD hS
              clear H locs
              intro u
              obtain ⟨n17, n18⟩ := u
              intro H locs hw (hP : va_P G vwCl [(a_0, .inr (11, [.ref a_1, .ref a_2, .ref a_3, .ref a_4, .ref a_5, .ref a_6, .ref a_7, .ref a_8, .ref a_9, .ref a_10, .ref a_11])), (a_6, .inl (cy 6, 4, .inr (.inr (.inr (.inr (va_up (va_up (va_up (va_up (fun _ => none) 0 (some a_12)) 1 (some a_13)) 2 (some a_14)) 3 (some a_15))))))), (a_12, .inr (6, [.int i_2, .int n17, .int i_4, .ref a_16])), (a_16, .inl (cy 2, 60, .inr (.inl n18))), (a_13, .inr (6, [.int i_5, .int i_6, .int i_7, .ref a_17])), (a_17, .inl (cy 2, 60, .inr (.inl f_1))), (a_14, .inr (6, [.int i_8, .int i_9, .int i_10, .ref a_18])), (a_18, .inl (cy 2, 60, .inr (.inl f_2))), (a_15, .inr (6, [.int i_11, .int i_12, .int i_13, .ref a_19])), (a_19, .inl (cy 2, 60, .inr (.inl f_3)))] H) (hD : va_D A [(a_0, .inr (11, [.ref a_1, .ref a_2, .ref a_3, .ref a_4, .ref a_5, .ref a_6, .ref a_7, .ref a_8, .ref a_9, .ref a_10, .ref a_11])), (a_6, .inl (cy 6, 4, .inr (.inr (.inr (.inr (va_up (va_up (va_up (va_up (fun _ => none) 0 (some a_12)) 1 (some a_13)) 2 (some a_14)) 3 (some a_15))))))), (a_12, .inr (6, [.int i_2, .int n17, .int i_4, .ref a_16])), (a_16, .inl (cy 2, 60, .inr (.inl n18))), (a_13, .inr (6, [.int i_5, .int i_6, .int i_7, .ref a_17])), (a_17, .inl (cy 2, 60, .inr (.inl f_1))), (a_14, .inr (6, [.int i_8, .int i_9, .int i_10, .ref a_18])), (a_18, .inl (cy 2, 60, .inr (.inl f_2))), (a_15, .inr (6, [.int i_11, .int i_12, .int i_13, .ref a_19])), (a_19, .inl (cy 2, 60, .inr (.inl f_3)))]) hS
              obtain ⟨w19, w20⟩ := hw
              refine lv_iconst (v := 0) hx hb dX11_write_56 (by decide) ?_
              subst hAe
              rw [hQ]
              exact W.iret (v := 0) hx hb hr (fun t ht hW => ⟨⟨0, (n17, n18, i_6, f_1, i_9, f_2, i_12, f_3), rfl, ⟨w19, h4, h7, h10, w20, rfl, rfl, rfl, (mm_wk mm_k0 (by decide))⟩, by rw [ht]; exact hP, hK.warm hW, hD⟩, hS.F ht⟩) hS.2.2 dX11_write_57
            · refine lv_bipush (v := (-7)) hx hb dX11_write_42 (by decide) ?_
              subst hAe
              rw [hQ]
              exact W.iret (v := (-7)) hx hb hr (fun t ht hW => ⟨⟨(-7), (i_3, f_0, i_6, f_1, i_9, f_2, i_12, f_3), rfl, ⟨h1, h4, h7, h10, rfl, rfl, rfl, rfl, (mm_wk mm_km7 (by decide))⟩, by rw [ht]; exact hP, hK.warm hW, hD⟩, hS.F ht⟩) hS.2.2 dX11_write_44
        · have q21 := mm_eqI (lo := 0) (hi := 0) c9 h0 mm_k0 (by decide)
          refine lv_bipush (v := (-6)) hx hb dX11_write_22 (by decide) ?_
          subst hAe
          rw [hQ]
          exact W.iret (v := (-6)) hx hb hr (fun t ht hW => ⟨⟨(-6), (i_3, f_0, i_6, f_1, i_9, f_2, i_12, f_3), rfl, ⟨h1, h4, h7, h10, rfl, rfl, rfl, rfl, (mm_wk mm_km6 (by decide))⟩, by rw [ht]; exact hP, hK.warm hW, hD⟩, hS.F ht⟩) hS.2.2 dX11_write_24
      · refine W.eq (g2 := F0 m 16 ls [.ref a_13]) rfl ?_
        refine va_get (D := G) (ci := 6) (v := .int i_5) (C := RX6) (T := TX6) (N := 4) hx hb hts (mm_i inlX6) hown hK.1 hP 4 rfl rfl 0 (by decide) (mm_h hts mm_w1239) (fun _ h9 => h9) rfl dX11_write_16 ?_
        refine lv_if_ne (tgt := 25) hx hb dX11_write_19 (by decide) (fun c22 => ?_) (fun c22 => ?_)
        · have q23 := mm_neL (lo := 1) (mm_ne c22) h3 mm_k0 (by decide) (by decide)
          refine lv_iload_n hx hb dX11_write_25 rfl (lv_at hl 2 rfl) ?_
          refine lv_if_lt (tgt := 42) hx hb dX11_write_26 (by decide) (fun c24 => ?_) (fun c24 => ?_)
          · have q25 := mm_ltL (h := (-1)) (mm_lt c24) (mm_top i_1) mm_k0 (by decide)
            refine lv_bipush (v := (-7)) hx hb dX11_write_42 (by decide) ?_
            subst hAe
            rw [hQ]
            exact W.iret (v := (-7)) hx hb hr (fun t ht hW => ⟨⟨(-7), (i_3, f_0, i_6, f_1, i_9, f_2, i_12, f_3), rfl, ⟨h1, h4, h7, h10, rfl, rfl, rfl, rfl, (mm_wk mm_km7 (by decide))⟩, by rw [ht]; exact hP, hK.warm hW, hD⟩, hS.F ht⟩) hS.2.2 dX11_write_44
          · have q26 := mm_leR (mm_nlt c24) mm_k0 (mm_top i_1)
            refine lv_iload_n hx hb dX11_write_29 rfl (lv_at hl 2 rfl) ?_
            refine lv_aload_n hx hb dX11_write_30 rfl (lv_at hl 0 rfl) ?_
            refine va_get (D := G) (ci := 11) (v := .ref a_6) (C := RX11) (T := TX11) (N := 11) hx hb hts (mm_i inlX11) hown hK.1 hP 0 rfl rfl 5 (by decide) (mm_h hts mm_w32) (fun _ h9 => h9) rfl dX11_write_31 ?_
            refine lv_iload_n hx hb dX11_write_34 rfl (lv_at hl 1 rfl) ?_
            refine va_aldq hx hb hK.1 hP 1 6 rfl rfl (mm_in mm_k1 (by decide)) dX11_write_35 ?_
            refine W.eq (g2 := F0 m 36 ls [.ref a_13, .int i_1]) rfl ?_
            refine va_get (D := G) (ci := 6) (v := .int i_7) (C := RX6) (T := TX6) (N := 4) hx hb hts (mm_i inlX6) hown hK.1 hP 4 rfl rfl 2 (by decide) (mm_h hts mm_w1694) (fun _ h9 => h9) rfl dX11_write_36 ?_
            refine lv_icmp_lt (tgt := 45) hx hb dX11_write_39 (by decide) (fun c27 => ?_) (fun c27 => ?_)
            · have q28 := mm_ltL (h := 59) (mm_lt c27) q26 h5 (by decide)
              have q29 := mm_ltR (lo := 1) (mm_lt c27) q26 h5 (by decide)
              refine lv_aload_n hx hb dX11_write_45 rfl (lv_at hl 0 rfl) ?_
              refine va_get (D := G) (ci := 11) (v := .ref a_6) (C := RX11) (T := TX11) (N := 11) hx hb hts (mm_i inlX11) hown hK.1 hP 0 rfl rfl 5 (by decide) (mm_h hts mm_w32) (fun _ h9 => h9) rfl dX11_write_46 ?_
              refine lv_iload_n hx hb dX11_write_49 rfl (lv_at hl 1 rfl) ?_
              refine va_aldq hx hb hK.1 hP 1 6 rfl rfl (mm_in mm_k1 (by decide)) dX11_write_50 ?_
              refine W.eq (g2 := F0 m 51 ls [.ref a_13]) rfl ?_
              refine lv_iload_n hx hb dX11_write_51 rfl (lv_at hl 2 rfl) ?_
              refine lv_lload_n hx hb dX11_write_52 rfl (lv_at hl 3 rfl) ?_
              refine mm_finv (va_runV (As := [.int i_1, .long j_0]) (rest := []) ⟨hx, hb, hml, hown, hts⟩ (C547_X6_put l G cy H.size a_13 i_1 j_0 i_5 i_6 i_7 a_17 f_1 q28 h4) (cwV 2 hts (mm_gV mm_w1695 mm_w1696 mm_w1697 mm_w34 mm_w1698) rfl rfl rfl hd_X6_put ⟨by rw [hRf]; exact Nat.le_of_ble_eq_true rfl, by rw [hRl]; exact Nat.le_of_ble_eq_true rfl⟩) (mm_preV hK hZ hS hA hP hD [4, 5] rfl rfl 4 rfl rfl rfl) rfl rfl hl.1 rfl (lv_room (Nat.le_of_ble_eq_true rfl)) dX11_write_53 ⟨by rw [hRc]; exact Nat.le_of_ble_eq_true rfl, by rw [hRs]; exact Nat.le_of_ble_eq_true rfl⟩) hP hD hS hA (fun u : Int32 × (Nat → Int64) => [(a_0, .inr (11, [.ref a_1, .ref a_2, .ref a_3, .ref a_4, .ref a_5, .ref a_6, .ref a_7, .ref a_8, .ref a_9, .ref a_10, .ref a_11])), (a_6, .inl (cy 6, 4, .inr (.inr (.inr (.inr (va_up (va_up (va_up (va_up (fun _ => none) 0 (some a_12)) 1 (some a_13)) 2 (some a_14)) 3 (some a_15))))))), (a_12, .inr (6, [.int i_2, .int i_3, .int i_4, .ref a_16])), (a_16, .inl (cy 2, 60, .inr (.inl f_0))), (a_13, .inr (6, [.int i_5, .int u.1, .int i_7, .ref a_17])), (a_17, .inl (cy 2, 60, .inr (.inl u.2))), (a_14, .inr (6, [.int i_8, .int i_9, .int i_10, .ref a_18])), (a_18, .inl (cy 2, 60, .inr (.inl f_2))), (a_15, .inr (6, [.int i_11, .int i_12, .int i_13, .ref a_19])), (a_19, .inl (cy 2, 60, .inr (.inl f_3)))]) [4, 5] [0, 1, 2, 3, 6, 7, 8, 9] (n := 10) (fun _ => rfl) (by decide +kernel) (by decide +kernel) rfl (fun _ => rfl) (wr := [(a_0, .inr (11, [.ref a_1, .ref a_2, .ref a_3, .ref a_4, .ref a_5, .ref a_6, .ref a_7, .ref a_8, .ref a_9, .ref a_10, .ref a_11])), (a_6, .inl (cy 6, 4, .inr (.inr (.inr (.inr (va_up (va_up (va_up (va_up (fun _ => none) 0 (some a_12)) 1 (some a_13)) 2 (some a_14)) 3 (some a_15))))))), (a_12, .inr (6, [.int i_2, .int i_3, .int i_4, .ref a_16])), (a_16, .inl (cy 2, 60, .inr (.inl f_0))), (a_14, .inr (6, [.int i_8, .int i_9, .int i_10, .ref a_18])), (a_18, .inl (cy 2, 60, .inr (.inl f_2))), (a_15, .inr (6, [.int i_11, .int i_12, .int i_13, .ref a_19])), (a_19, .inl (cy 2, 60, .inr (.inl f_3)))]) rfl (fun _ => rfl) (fun _ => rfl) ?_
              clear hP hD hS
              clear H locs
              intro u
              obtain ⟨n30, n31⟩ := u
              intro H locs hw (hP : va_P G vwCl [(a_0, .inr (11, [.ref a_1, .ref a_2, .ref a_3, .ref a_4, .ref a_5, .ref a_6, .ref a_7, .ref a_8, .ref a_9, .ref a_10, .ref a_11])), (a_6, .inl (cy 6, 4, .inr (.inr (.inr (.inr (va_up (va_up (va_up (va_up (fun _ => none) 0 (some a_12)) 1 (some a_13)) 2 (some a_14)) 3 (some a_15))))))), (a_12, .inr (6, [.int i_2, .int i_3, .int i_4, .ref a_16])), (a_16, .inl (cy 2, 60, .inr (.inl f_0))), (a_13, .inr (6, [.int i_5, .int n30, .int i_7, .ref a_17])), (a_17, .inl (cy 2, 60, .inr (.inl n31))), (a_14, .inr (6, [.int i_8, .int i_9, .int i_10, .ref a_18])), (a_18, .inl (cy 2, 60, .inr (.inl f_2))), (a_15, .inr (6, [.int i_11, .int i_12, .int i_13, .ref a_19])), (a_19, .inl (cy 2, 60, .inr (.inl f_3)))] H) (hD : va_D A [(a_0, .inr (11, [.ref a_1, .ref a_2, .ref a_3, .ref a_4, .ref a_5, .ref a_6, .ref a_7, .ref a_8, .ref a_9, .ref a_10, .ref a_11])), (a_6, .inl (cy 6, 4, .inr (.inr (.inr (.inr (va_up (va_up (va_up (va_up (fun _ => none) 0 (some a_12)) 1 (some a_13)) 2 (some a_14)) 3 (some a_15))))))), (a_12, .inr (6, [.int i_2, .int i_3, .int i_4, .ref a_16])), (a_16, .inl (cy 2, 60, .inr (.inl f_0))), (a_13, .inr (6, [.int i_5, .int n30, .int i_7, .ref a_17])), (a_17, .inl (cy 2, 60, .inr (.inl n31))), (a_14, .inr (6, [.int i_8, .int i_9, .int i_10, .ref a_18])), (a_18, .inl (cy 2, 60, .inr (.inl f_2))), (a_15, .inr (6, [.int i_11, .int i_12, .int i_13, .ref a_19])), (a_19, .inl (cy 2, 60, .inr (.inl f_3)))]) hS
              obtain ⟨w32, w33⟩ := hw
              refine lv_iconst (v := 0) hx hb dX11_write_56 (by decide) ?_
              subst hAe
              rw [hQ]
              exact W.iret (v := 0) hx hb hr (fun t ht hW => ⟨⟨0, (i_3, f_0, n30, n31, i_9, f_2, i_12, f_3), rfl, ⟨h1, w32, h7, h10, rfl, w33, rfl, rfl, (mm_wk mm_k0 (by decide))⟩, by rw [ht]; exact hP, hK.warm hW, hD⟩, hS.F ht⟩) hS.2.2 dX11_write_57
            · refine lv_bipush (v := (-7)) hx hb dX11_write_42 (by decide) ?_
              subst hAe
              rw [hQ]
              exact W.iret (v := (-7)) hx hb hr (fun t ht hW => ⟨⟨(-7), (i_3, f_0, i_6, f_1, i_9, f_2, i_12, f_3), rfl, ⟨h1, h4, h7, h10, rfl, rfl, rfl, rfl, (mm_wk mm_km7 (by decide))⟩, by rw [ht]; exact hP, hK.warm hW, hD⟩, hS.F ht⟩) hS.2.2 dX11_write_44
        · have q34 := mm_eqI (lo := 0) (hi := 0) c22 h3 mm_k0 (by decide)
          refine lv_bipush (v := (-6)) hx hb dX11_write_22 (by decide) ?_
          subst hAe
          rw [hQ]
          exact W.iret (v := (-6)) hx hb hr (fun t ht hW => ⟨⟨(-6), (i_3, f_0, i_6, f_1, i_9, f_2, i_12, f_3), rfl, ⟨h1, h4, h7, h10, rfl, rfl, rfl, rfl, (mm_wk mm_km6 (by decide))⟩, by rw [ht]; exact hP, hK.warm hW, hD⟩, hS.F ht⟩) hS.2.2 dX11_write_24
      · refine W.eq (g2 := F0 m 16 ls [.ref a_14]) rfl ?_
        refine va_get (D := G) (ci := 6) (v := .int i_8) (C := RX6) (T := TX6) (N := 4) hx hb hts (mm_i inlX6) hown hK.1 hP 6 rfl rfl 0 (by decide) (mm_h hts mm_w1239) (fun _ h9 => h9) rfl dX11_write_16 ?_
        refine lv_if_ne (tgt := 25) hx hb dX11_write_19 (by decide) (fun c35 => ?_) (fun c35 => ?_)
        · have q36 := mm_neL (lo := 1) (mm_ne c35) h6 mm_k0 (by decide) (by decide)
          refine lv_iload_n hx hb dX11_write_25 rfl (lv_at hl 2 rfl) ?_
          refine lv_if_lt (tgt := 42) hx hb dX11_write_26 (by decide) (fun c37 => ?_) (fun c37 => ?_)
          · have q38 := mm_ltL (h := (-1)) (mm_lt c37) (mm_top i_1) mm_k0 (by decide)
            refine lv_bipush (v := (-7)) hx hb dX11_write_42 (by decide) ?_
            subst hAe
            rw [hQ]
            exact W.iret (v := (-7)) hx hb hr (fun t ht hW => ⟨⟨(-7), (i_3, f_0, i_6, f_1, i_9, f_2, i_12, f_3), rfl, ⟨h1, h4, h7, h10, rfl, rfl, rfl, rfl, (mm_wk mm_km7 (by decide))⟩, by rw [ht]; exact hP, hK.warm hW, hD⟩, hS.F ht⟩) hS.2.2 dX11_write_44
          · have q39 := mm_leR (mm_nlt c37) mm_k0 (mm_top i_1)
            refine lv_iload_n hx hb dX11_write_29 rfl (lv_at hl 2 rfl) ?_
            refine lv_aload_n hx hb dX11_write_30 rfl (lv_at hl 0 rfl) ?_
            refine va_get (D := G) (ci := 11) (v := .ref a_6) (C := RX11) (T := TX11) (N := 11) hx hb hts (mm_i inlX11) hown hK.1 hP 0 rfl rfl 5 (by decide) (mm_h hts mm_w32) (fun _ h9 => h9) rfl dX11_write_31 ?_
            refine lv_iload_n hx hb dX11_write_34 rfl (lv_at hl 1 rfl) ?_
            refine va_aldq hx hb hK.1 hP 1 6 rfl rfl (mm_in mm_k2 (by decide)) dX11_write_35 ?_
            refine W.eq (g2 := F0 m 36 ls [.ref a_14, .int i_1]) rfl ?_
            refine va_get (D := G) (ci := 6) (v := .int i_10) (C := RX6) (T := TX6) (N := 4) hx hb hts (mm_i inlX6) hown hK.1 hP 6 rfl rfl 2 (by decide) (mm_h hts mm_w1694) (fun _ h9 => h9) rfl dX11_write_36 ?_
            refine lv_icmp_lt (tgt := 45) hx hb dX11_write_39 (by decide) (fun c40 => ?_) (fun c40 => ?_)
            · have q41 := mm_ltL (h := 59) (mm_lt c40) q39 h8 (by decide)
              have q42 := mm_ltR (lo := 1) (mm_lt c40) q39 h8 (by decide)
              refine lv_aload_n hx hb dX11_write_45 rfl (lv_at hl 0 rfl) ?_
              refine va_get (D := G) (ci := 11) (v := .ref a_6) (C := RX11) (T := TX11) (N := 11) hx hb hts (mm_i inlX11) hown hK.1 hP 0 rfl rfl 5 (by decide) (mm_h hts mm_w32) (fun _ h9 => h9) rfl dX11_write_46 ?_
              refine lv_iload_n hx hb dX11_write_49 rfl (lv_at hl 1 rfl) ?_
              refine va_aldq hx hb hK.1 hP 1 6 rfl rfl (mm_in mm_k2 (by decide)) dX11_write_50 ?_
              refine W.eq (g2 := F0 m 51 ls [.ref a_14]) rfl ?_
              refine lv_iload_n hx hb dX11_write_51 rfl (lv_at hl 2 rfl) ?_
              refine lv_lload_n hx hb dX11_write_52 rfl (lv_at hl 3 rfl) ?_
              refine mm_finv (va_runV (As := [.int i_1, .long j_0]) (rest := []) ⟨hx, hb, hml, hown, hts⟩ (C547_X6_put l G cy H.size a_14 i_1 j_0 i_8 i_9 i_10 a_18 f_2 q41 h7) (cwV 2 hts (mm_gV mm_w1695 mm_w1696 mm_w1697 mm_w34 mm_w1698) rfl rfl rfl hd_X6_put ⟨by rw [hRf]; exact Nat.le_of_ble_eq_true rfl, by rw [hRl]; exact Nat.le_of_ble_eq_true rfl⟩) (mm_preV hK hZ hS hA hP hD [6, 7] rfl rfl 6 rfl rfl rfl) rfl rfl hl.1 rfl (lv_room (Nat.le_of_ble_eq_true rfl)) dX11_write_53 ⟨by rw [hRc]; exact Nat.le_of_ble_eq_true rfl, by rw [hRs]; exact Nat.le_of_ble_eq_true rfl⟩) hP hD hS hA (fun u : Int32 × (Nat → Int64) => [(a_0, .inr (11, [.ref a_1, .ref a_2, .ref a_3, .ref a_4, .ref a_5, .ref a_6, .ref a_7, .ref a_8, .ref a_9, .ref a_10, .ref a_11])), (a_6, .inl (cy 6, 4, .inr (.inr (.inr (.inr (va_up (va_up (va_up (va_up (fun _ => none) 0 (some a_12)) 1 (some a_13)) 2 (some a_14)) 3 (some a_15))))))), (a_12, .inr (6, [.int i_2, .int i_3, .int i_4, .ref a_16])), (a_16, .inl (cy 2, 60, .inr (.inl f_0))), (a_13, .inr (6, [.int i_5, .int i_6, .int i_7, .ref a_17])), (a_17, .inl (cy 2, 60, .inr (.inl f_1))), (a_14, .inr (6, [.int i_8, .int u.1, .int i_10, .ref a_18])), (a_18, .inl (cy 2, 60, .inr (.inl u.2))), (a_15, .inr (6, [.int i_11, .int i_12, .int i_13, .ref a_19])), (a_19, .inl (cy 2, 60, .inr (.inl f_3)))]) [6, 7] [0, 1, 2, 3, 4, 5, 8, 9] (n := 10) (fun _ => rfl) (by decide +kernel) (by decide +kernel) rfl (fun _ => rfl) (wr := [(a_0, .inr (11, [.ref a_1, .ref a_2, .ref a_3, .ref a_4, .ref a_5, .ref a_6, .ref a_7, .ref a_8, .ref a_9, .ref a_10, .ref a_11])), (a_6, .inl (cy 6, 4, .inr (.inr (.inr (.inr (va_up (va_up (va_up (va_up (fun _ => none) 0 (some a_12)) 1 (some a_13)) 2 (some a_14)) 3 (some a_15))))))), (a_12, .inr (6, [.int i_2, .int i_3, .int i_4, .ref a_16])), (a_16, .inl (cy 2, 60, .inr (.inl f_0))), (a_13, .inr (6, [.int i_5, .int i_6, .int i_7, .ref a_17])), (a_17, .inl (cy 2, 60, .inr (.inl f_1))), (a_15, .inr (6, [.int i_11, .int i_12, .int i_13, .ref a_19])), (a_19, .inl (cy 2, 60, .inr (.inl f_3)))]) rfl (fun _ => rfl) (fun _ => rfl) ?_
              clear hP hD hS
              clear H locs
              intro u
              obtain ⟨n43, n44⟩ := u
              intro H locs hw (hP : va_P G vwCl [(a_0, .inr (11, [.ref a_1, .ref a_2, .ref a_3, .ref a_4, .ref a_5, .ref a_6, .ref a_7, .ref a_8, .ref a_9, .ref a_10, .ref a_11])), (a_6, .inl (cy 6, 4, .inr (.inr (.inr (.inr (va_up (va_up (va_up (va_up (fun _ => none) 0 (some a_12)) 1 (some a_13)) 2 (some a_14)) 3 (some a_15))))))), (a_12, .inr (6, [.int i_2, .int i_3, .int i_4, .ref a_16])), (a_16, .inl (cy 2, 60, .inr (.inl f_0))), (a_13, .inr (6, [.int i_5, .int i_6, .int i_7, .ref a_17])), (a_17, .inl (cy 2, 60, .inr (.inl f_1))), (a_14, .inr (6, [.int i_8, .int n43, .int i_10, .ref a_18])), (a_18, .inl (cy 2, 60, .inr (.inl n44))), (a_15, .inr (6, [.int i_11, .int i_12, .int i_13, .ref a_19])), (a_19, .inl (cy 2, 60, .inr (.inl f_3)))] H) (hD : va_D A [(a_0, .inr (11, [.ref a_1, .ref a_2, .ref a_3, .ref a_4, .ref a_5, .ref a_6, .ref a_7, .ref a_8, .ref a_9, .ref a_10, .ref a_11])), (a_6, .inl (cy 6, 4, .inr (.inr (.inr (.inr (va_up (va_up (va_up (va_up (fun _ => none) 0 (some a_12)) 1 (some a_13)) 2 (some a_14)) 3 (some a_15))))))), (a_12, .inr (6, [.int i_2, .int i_3, .int i_4, .ref a_16])), (a_16, .inl (cy 2, 60, .inr (.inl f_0))), (a_13, .inr (6, [.int i_5, .int i_6, .int i_7, .ref a_17])), (a_17, .inl (cy 2, 60, .inr (.inl f_1))), (a_14, .inr (6, [.int i_8, .int n43, .int i_10, .ref a_18])), (a_18, .inl (cy 2, 60, .inr (.inl n44))), (a_15, .inr (6, [.int i_11, .int i_12, .int i_13, .ref a_19])), (a_19, .inl (cy 2, 60, .inr (.inl f_3)))]) hS
              obtain ⟨w45, w46⟩ := hw
              refine lv_iconst (v := 0) hx hb dX11_write_56 (by decide) ?_
              subst hAe
              rw [hQ]
              exact W.iret (v := 0) hx hb hr (fun t ht hW => ⟨⟨0, (i_3, f_0, i_6, f_1, n43, n44, i_12, f_3), rfl, ⟨h1, h4, w45, h10, rfl, rfl, w46, rfl, (mm_wk mm_k0 (by decide))⟩, by rw [ht]; exact hP, hK.warm hW, hD⟩, hS.F ht⟩) hS.2.2 dX11_write_57
            · refine lv_bipush (v := (-7)) hx hb dX11_write_42 (by decide) ?_
              subst hAe
              rw [hQ]
              exact W.iret (v := (-7)) hx hb hr (fun t ht hW => ⟨⟨(-7), (i_3, f_0, i_6, f_1, i_9, f_2, i_12, f_3), rfl, ⟨h1, h4, h7, h10, rfl, rfl, rfl, rfl, (mm_wk mm_km7 (by decide))⟩, by rw [ht]; exact hP, hK.warm hW, hD⟩, hS.F ht⟩) hS.2.2 dX11_write_44
        · have q47 := mm_eqI (lo := 0) (hi := 0) c35 h6 mm_k0 (by decide)
          refine lv_bipush (v := (-6)) hx hb dX11_write_22 (by decide) ?_
          subst hAe
          rw [hQ]
          exact W.iret (v := (-6)) hx hb hr (fun t ht hW => ⟨⟨(-6), (i_3, f_0, i_6, f_1, i_9, f_2, i_12, f_3), rfl, ⟨h1, h4, h7, h10, rfl, rfl, rfl, rfl, (mm_wk mm_km6 (by decide))⟩, by rw [ht]; exact hP, hK.warm hW, hD⟩, hS.F ht⟩) hS.2.2 dX11_write_24
      · refine W.eq (g2 := F0 m 16 ls [.ref a_15]) rfl ?_
        refine va_get (D := G) (ci := 6) (v := .int i_11) (C := RX6) (T := TX6) (N := 4) hx hb hts (mm_i inlX6) hown hK.1 hP 8 rfl rfl 0 (by decide) (mm_h hts mm_w1239) (fun _ h9 => h9) rfl dX11_write_16 ?_
        refine lv_if_ne (tgt := 25) hx hb dX11_write_19 (by decide) (fun c48 => ?_) (fun c48 => ?_)
        · have q49 := mm_neL (lo := 1) (mm_ne c48) h9 mm_k0 (by decide) (by decide)
          refine lv_iload_n hx hb dX11_write_25 rfl (lv_at hl 2 rfl) ?_
          refine lv_if_lt (tgt := 42) hx hb dX11_write_26 (by decide) (fun c50 => ?_) (fun c50 => ?_)
          · have q51 := mm_ltL (h := (-1)) (mm_lt c50) (mm_top i_1) mm_k0 (by decide)
            refine lv_bipush (v := (-7)) hx hb dX11_write_42 (by decide) ?_
            subst hAe
            rw [hQ]
            exact W.iret (v := (-7)) hx hb hr (fun t ht hW => ⟨⟨(-7), (i_3, f_0, i_6, f_1, i_9, f_2, i_12, f_3), rfl, ⟨h1, h4, h7, h10, rfl, rfl, rfl, rfl, (mm_wk mm_km7 (by decide))⟩, by rw [ht]; exact hP, hK.warm hW, hD⟩, hS.F ht⟩) hS.2.2 dX11_write_44
          · have q52 := mm_leR (mm_nlt c50) mm_k0 (mm_top i_1)
            refine lv_iload_n hx hb dX11_write_29 rfl (lv_at hl 2 rfl) ?_
            refine lv_aload_n hx hb dX11_write_30 rfl (lv_at hl 0 rfl) ?_
            refine va_get (D := G) (ci := 11) (v := .ref a_6) (C := RX11) (T := TX11) (N := 11) hx hb hts (mm_i inlX11) hown hK.1 hP 0 rfl rfl 5 (by decide) (mm_h hts mm_w32) (fun _ h9 => h9) rfl dX11_write_31 ?_
            refine lv_iload_n hx hb dX11_write_34 rfl (lv_at hl 1 rfl) ?_
            refine va_aldq hx hb hK.1 hP 1 6 rfl rfl (mm_in mm_k3 (by decide)) dX11_write_35 ?_
            refine W.eq (g2 := F0 m 36 ls [.ref a_15, .int i_1]) rfl ?_
            refine va_get (D := G) (ci := 6) (v := .int i_13) (C := RX6) (T := TX6) (N := 4) hx hb hts (mm_i inlX6) hown hK.1 hP 8 rfl rfl 2 (by decide) (mm_h hts mm_w1694) (fun _ h9 => h9) rfl dX11_write_36 ?_
            refine lv_icmp_lt (tgt := 45) hx hb dX11_write_39 (by decide) (fun c53 => ?_) (fun c53 => ?_)
            · have q54 := mm_ltL (h := 59) (mm_lt c53) q52 h11 (by decide)
              have q55 := mm_ltR (lo := 1) (mm_lt c53) q52 h11 (by decide)
              refine lv_aload_n hx hb dX11_write_45 rfl (lv_at hl 0 rfl) ?_
              refine va_get (D := G) (ci := 11) (v := .ref a_6) (C := RX11) (T := TX11) (N := 11) hx hb hts (mm_i inlX11) hown hK.1 hP 0 rfl rfl 5 (by decide) (mm_h hts mm_w32) (fun _ h9 => h9) rfl dX11_write_46 ?_
              refine lv_iload_n hx hb dX11_write_49 rfl (lv_at hl 1 rfl) ?_
              refine va_aldq hx hb hK.1 hP 1 6 rfl rfl (mm_in mm_k3 (by decide)) dX11_write_50 ?_
              refine W.eq (g2 := F0 m 51 ls [.ref a_15]) rfl ?_
              refine lv_iload_n hx hb dX11_write_51 rfl (lv_at hl 2 rfl) ?_
              refine lv_lload_n hx hb dX11_write_52 rfl (lv_at hl 3 rfl) ?_
              refine mm_finv (va_runV (As := [.int i_1, .long j_0]) (rest := []) ⟨hx, hb, hml, hown, hts⟩ (C547_X6_put l G cy H.size a_15 i_1 j_0 i_11 i_12 i_13 a_19 f_3 q54 h10) (cwV 2 hts (mm_gV mm_w1695 mm_w1696 mm_w1697 mm_w34 mm_w1698) rfl rfl rfl hd_X6_put ⟨by rw [hRf]; exact Nat.le_of_ble_eq_true rfl, by rw [hRl]; exact Nat.le_of_ble_eq_true rfl⟩) (mm_preV hK hZ hS hA hP hD [8, 9] rfl rfl 8 rfl rfl rfl) rfl rfl hl.1 rfl (lv_room (Nat.le_of_ble_eq_true rfl)) dX11_write_53 ⟨by rw [hRc]; exact Nat.le_of_ble_eq_true rfl, by rw [hRs]; exact Nat.le_of_ble_eq_true rfl⟩) hP hD hS hA (fun u : Int32 × (Nat → Int64) => [(a_0, .inr (11, [.ref a_1, .ref a_2, .ref a_3, .ref a_4, .ref a_5, .ref a_6, .ref a_7, .ref a_8, .ref a_9, .ref a_10, .ref a_11])), (a_6, .inl (cy 6, 4, .inr (.inr (.inr (.inr (va_up (va_up (va_up (va_up (fun _ => none) 0 (some a_12)) 1 (some a_13)) 2 (some a_14)) 3 (some a_15))))))), (a_12, .inr (6, [.int i_2, .int i_3, .int i_4, .ref a_16])), (a_16, .inl (cy 2, 60, .inr (.inl f_0))), (a_13, .inr (6, [.int i_5, .int i_6, .int i_7, .ref a_17])), (a_17, .inl (cy 2, 60, .inr (.inl f_1))), (a_14, .inr (6, [.int i_8, .int i_9, .int i_10, .ref a_18])), (a_18, .inl (cy 2, 60, .inr (.inl f_2))), (a_15, .inr (6, [.int i_11, .int u.1, .int i_13, .ref a_19])), (a_19, .inl (cy 2, 60, .inr (.inl u.2)))]) [8, 9] [0, 1, 2, 3, 4, 5, 6, 7] (n := 10) (fun _ => rfl) (by decide +kernel) (by decide +kernel) rfl (fun _ => rfl) (wr := [(a_0, .inr (11, [.ref a_1, .ref a_2, .ref a_3, .ref a_4, .ref a_5, .ref a_6, .ref a_7, .ref a_8, .ref a_9, .ref a_10, .ref a_11])), (a_6, .inl (cy 6, 4, .inr (.inr (.inr (.inr (va_up (va_up (va_up (va_up (fun _ => none) 0 (some a_12)) 1 (some a_13)) 2 (some a_14)) 3 (some a_15))))))), (a_12, .inr (6, [.int i_2, .int i_3, .int i_4, .ref a_16])), (a_16, .inl (cy 2, 60, .inr (.inl f_0))), (a_13, .inr (6, [.int i_5, .int i_6, .int i_7, .ref a_17])), (a_17, .inl (cy 2, 60, .inr (.inl f_1))), (a_14, .inr (6, [.int i_8, .int i_9, .int i_10, .ref a_18])), (a_18, .inl (cy 2, 60, .inr (.inl f_2)))]) rfl (fun _ => rfl) (fun _ => rfl) ?_
              clear hP hD hS
              clear H locs
              intro u
              obtain ⟨n56, n57⟩ := u
              intro H locs hw (hP : va_P G vwCl [(a_0, .inr (11, [.ref a_1, .ref a_2, .ref a_3, .ref a_4, .ref a_5, .ref a_6, .ref a_7, .ref a_8, .ref a_9, .ref a_10, .ref a_11])), (a_6, .inl (cy 6, 4, .inr (.inr (.inr (.inr (va_up (va_up (va_up (va_up (fun _ => none) 0 (some a_12)) 1 (some a_13)) 2 (some a_14)) 3 (some a_15))))))), (a_12, .inr (6, [.int i_2, .int i_3, .int i_4, .ref a_16])), (a_16, .inl (cy 2, 60, .inr (.inl f_0))), (a_13, .inr (6, [.int i_5, .int i_6, .int i_7, .ref a_17])), (a_17, .inl (cy 2, 60, .inr (.inl f_1))), (a_14, .inr (6, [.int i_8, .int i_9, .int i_10, .ref a_18])), (a_18, .inl (cy 2, 60, .inr (.inl f_2))), (a_15, .inr (6, [.int i_11, .int n56, .int i_13, .ref a_19])), (a_19, .inl (cy 2, 60, .inr (.inl n57)))] H) (hD : va_D A [(a_0, .inr (11, [.ref a_1, .ref a_2, .ref a_3, .ref a_4, .ref a_5, .ref a_6, .ref a_7, .ref a_8, .ref a_9, .ref a_10, .ref a_11])), (a_6, .inl (cy 6, 4, .inr (.inr (.inr (.inr (va_up (va_up (va_up (va_up (fun _ => none) 0 (some a_12)) 1 (some a_13)) 2 (some a_14)) 3 (some a_15))))))), (a_12, .inr (6, [.int i_2, .int i_3, .int i_4, .ref a_16])), (a_16, .inl (cy 2, 60, .inr (.inl f_0))), (a_13, .inr (6, [.int i_5, .int i_6, .int i_7, .ref a_17])), (a_17, .inl (cy 2, 60, .inr (.inl f_1))), (a_14, .inr (6, [.int i_8, .int i_9, .int i_10, .ref a_18])), (a_18, .inl (cy 2, 60, .inr (.inl f_2))), (a_15, .inr (6, [.int i_11, .int n56, .int i_13, .ref a_19])), (a_19, .inl (cy 2, 60, .inr (.inl n57)))]) hS
              obtain ⟨w58, w59⟩ := hw
              refine lv_iconst (v := 0) hx hb dX11_write_56 (by decide) ?_
              subst hAe
              rw [hQ]
              exact W.iret (v := 0) hx hb hr (fun t ht hW => ⟨⟨0, (i_3, f_0, i_6, f_1, i_9, f_2, n56, n57), rfl, ⟨h1, h4, h7, w58, rfl, rfl, rfl, w59, (mm_wk mm_k0 (by decide))⟩, by rw [ht]; exact hP, hK.warm hW, hD⟩, hS.F ht⟩) hS.2.2 dX11_write_57
            · refine lv_bipush (v := (-7)) hx hb dX11_write_42 (by decide) ?_
              subst hAe
              rw [hQ]
              exact W.iret (v := (-7)) hx hb hr (fun t ht hW => ⟨⟨(-7), (i_3, f_0, i_6, f_1, i_9, f_2, i_12, f_3), rfl, ⟨h1, h4, h7, h10, rfl, rfl, rfl, rfl, (mm_wk mm_km7 (by decide))⟩, by rw [ht]; exact hP, hK.warm hW, hD⟩, hS.F ht⟩) hS.2.2 dX11_write_44
        · have q60 := mm_eqI (lo := 0) (hi := 0) c48 h9 mm_k0 (by decide)
          refine lv_bipush (v := (-6)) hx hb dX11_write_22 (by decide) ?_
          subst hAe
          rw [hQ]
          exact W.iret (v := (-6)) hx hb hr (fun t ht hW => ⟨⟨(-6), (i_3, f_0, i_6, f_1, i_9, f_2, i_12, f_3), rfl, ⟨h1, h4, h7, h10, rfl, rfl, rfl, rfl, (mm_wk mm_km6 (by decide))⟩, by rw [ht]; exact hP, hK.warm hW, hD⟩, hS.F ht⟩) hS.2.2 dX11_write_24
    · exact mm_eqN c7.symm mm_k0 mm_k1 (by decide)

set_option maxHeartbeats 4000000 in
set_option maxRecDepth 100000 in
theorem C549_X6_reaches (l : Launch) (G : va_G) (cy : Nat → ClassId) (sz : Nat) (a_0 : Nat) (i_0 : Int32) (i_1 : Int32) (i_2 : Int32) (i_3 : Int32) (i_4 : Int32) (a_1 : Nat) (h0 : mm_rg i_4 0 60)  : mm_CI l yX6_reaches (mm_ws yX6_reaches cX6_reaches 3 (some .boolean)) ({ frames := 0, cells := 0, slots := 0, locals := 0 } : Room) G cy sz [(a_0, .inr (6, [.int i_2, .int i_3, .int i_4, .ref a_1]))] [.ref a_0, .int i_0, .int i_1] (fun u : Unit => [(a_0, .inr (6, [.int i_2, .int i_3, .int i_4, .ref a_1]))]) (fun (r : Int32) (u : Unit) => ((0 = r ∧ mm_rg i_0 (-2147483648) 2147483647 ∧ mm_nrc i_0 i_1 i_4) ∨ (1 = r ∧ mm_rg i_0 0 60 ∧ mm_rg i_1 0 60 ∧ mm_rch i_0 i_1 i_4))) 0 0 := by
  refine mm_begin (lv := [(0, .ref a_0), (1, .int i_0), (2, .int i_1)]) (by decide) (Nat.le_of_ble_eq_true rfl) rfl ?_
  intro p e s m below meth c A ls R args Q H locs hRe hQ hAe hx hb hr hlocks hml hown hnm hts hsz hA hS hP hK hD hZ hl
  have hRf : R.frames = 0 := by rw [hRe]
  have hRl : R.locals = 0 := by rw [hRe]
  have hRc : R.cells = 0 := by rw [hRe]
  have hRs : R.slots = 0 := by rw [hRe]
  refine lv_iload_n hx hb dX6_reaches_0 rfl (lv_at hl 1 rfl) ?_
  refine lv_if_lt (tgt := 30) hx hb dX6_reaches_1 (by decide) (fun c1 => ?_) (fun c1 => ?_)
  · have q2 := mm_ltL (h := (-1)) (mm_lt c1) (mm_top i_0) mm_k0 (by decide)
    refine lv_iconst (v := 0) hx hb dX6_reaches_30 (by decide) ?_
    have w3 : mm_nrc i_0 i_1 i_4 := (mm_nrc_1 q2 (by decide))
    subst hAe
    rw [hQ]
    exact W.zret (v := 0) hx hb hr rfl (fun t ht hW => ⟨⟨0, (), rfl, (Or.inl ⟨rfl, (mm_wk q2 (by decide)), w3⟩), by rw [ht]; exact hP, hK.warm hW, hD⟩, hS.F ht⟩) hS.2.2 dX6_reaches_31
  · have q4 := mm_leR (mm_nlt c1) mm_k0 (mm_top i_0)
    refine lv_iload_n hx hb dX6_reaches_4 rfl (lv_at hl 2 rfl) ?_
    refine lv_if_lt (tgt := 30) hx hb dX6_reaches_5 (by decide) (fun c5 => ?_) (fun c5 => ?_)
    · have q6 := mm_ltL (h := (-1)) (mm_lt c5) (mm_top i_1) mm_k0 (by decide)
      refine lv_iconst (v := 0) hx hb dX6_reaches_30 (by decide) ?_
      have w7 : mm_nrc i_0 i_1 i_4 := (mm_nrc_2 q6 (by decide))
      subst hAe
      rw [hQ]
      exact W.zret (v := 0) hx hb hr rfl (fun t ht hW => ⟨⟨0, (), rfl, (Or.inl ⟨rfl, (mm_wk q4 (by decide)), w7⟩), by rw [ht]; exact hP, hK.warm hW, hD⟩, hS.F ht⟩) hS.2.2 dX6_reaches_31
    · have q8 := mm_leR (mm_nlt c5) mm_k0 (mm_top i_1)
      refine lv_iload_n hx hb dX6_reaches_8 rfl (lv_at hl 2 rfl) ?_
      refine lv_aload_n hx hb dX6_reaches_9 rfl (lv_at hl 0 rfl) ?_
      refine va_get (D := G) (ci := 6) (v := .int i_4) (C := RX6) (T := TX6) (N := 4) hx hb hts (mm_i inlX6) hown hK.1 hP 0 rfl rfl 2 (by decide) (mm_h hts mm_w1684) (fun _ h9 => h9) rfl dX6_reaches_10 ?_
      refine lv_icmp_gt (tgt := 30) hx hb dX6_reaches_13 (by decide) (fun c9 => ?_) (fun c9 => ?_)
      · have q10 := mm_ltR (lo := 1) (mm_lt c9) h0 q8 (by decide)
        refine lv_iconst (v := 0) hx hb dX6_reaches_30 (by decide) ?_
        have w11 : mm_nrc i_0 i_1 i_4 := (mm_nrc_3 (mm_lt c9))
        subst hAe
        rw [hQ]
        exact W.zret (v := 0) hx hb hr rfl (fun t ht hW => ⟨⟨0, (), rfl, (Or.inl ⟨rfl, (mm_wk q4 (by decide)), w11⟩), by rw [ht]; exact hP, hK.warm hW, hD⟩, hS.F ht⟩) hS.2.2 dX6_reaches_31
      · have q12 := mm_leL (mm_nlt c9) q8 h0
        refine lv_iload_n hx hb dX6_reaches_16 rfl (lv_at hl 1 rfl) ?_
        refine lv_aload_n hx hb dX6_reaches_17 rfl (lv_at hl 0 rfl) ?_
        refine va_get (D := G) (ci := 6) (v := .int i_4) (C := RX6) (T := TX6) (N := 4) hx hb hts (mm_i inlX6) hown hK.1 hP 0 rfl rfl 2 (by decide) (mm_h hts mm_w1684) (fun _ h9 => h9) rfl dX6_reaches_18 ?_
        refine lv_iload_n hx hb dX6_reaches_21 rfl (lv_at hl 2 rfl) ?_
        refine lv_isub hx hb dX6_reaches_22 ?_
        refine lv_topi (fun v13 ev13 => ?_)
        have rv13 : mm_rg v13 (-60) 60 := mm_sub ev13 h0 q12 (by decide) (by decide)
        have tv13 := mm_subE ev13 h0 q12 (by decide)
        have q14 : mm_rg v13 0 60 := mm_sub0 ev13 (mm_nlt c9) h0 q12 (by decide)
        refine lv_icmp_gt (tgt := 30) hx hb dX6_reaches_23 (by decide) (fun c15 => ?_) (fun c15 => ?_)
        · have q16 := mm_ltR (lo := 1) (mm_lt c15) q14 q4 (by decide)
          refine lv_iconst (v := 0) hx hb dX6_reaches_30 (by decide) ?_
          have w17 : mm_nrc i_0 i_1 i_4 := (mm_nrc_4 (mm_lt c15) tv13)
          subst hAe
          rw [hQ]
          exact W.zret (v := 0) hx hb hr rfl (fun t ht hW => ⟨⟨0, (), rfl, (Or.inl ⟨rfl, (mm_wk q16 (by decide)), w17⟩), by rw [ht]; exact hP, hK.warm hW, hD⟩, hS.F ht⟩) hS.2.2 dX6_reaches_31
        · have q18 := mm_leL (mm_nlt c15) q4 q14
          refine lv_iconst (v := 1) hx hb dX6_reaches_26 (by decide) ?_
          refine lv_goto (tgt := 31) hx hb dX6_reaches_27 (by decide) ?_
          have w19 : mm_rch i_0 i_1 i_4 := (mm_rch_of (mm_nlt c15) tv13)
          subst hAe
          rw [hQ]
          exact W.zret (v := 1) hx hb hr rfl (fun t ht hW => ⟨⟨1, (), rfl, (Or.inr ⟨rfl, q18, q12, w19⟩), by rw [ht]; exact hP, hK.warm hW, hD⟩, hS.F ht⟩) hS.2.2 dX6_reaches_31

set_option maxHeartbeats 4000000 in
set_option maxRecDepth 100000 in
theorem C550_X6_reaches (l : Launch) (G : va_G) (cy : Nat → ClassId) (sz : Nat) (a_0 : Nat) (i_0 : Int32) (i_1 : Int32) (i_2 : Int32) (i_3 : Int32) (i_4 : Int32) (a_1 : Nat) (h0 : mm_rg i_1 0 60) (h1 : mm_rg i_4 0 60)  : mm_CI l yX6_reaches (mm_ws yX6_reaches cX6_reaches 3 (some .boolean)) ({ frames := 0, cells := 0, slots := 0, locals := 0 } : Room) G cy sz [(a_0, .inr (6, [.int i_2, .int i_3, .int i_4, .ref a_1]))] [.ref a_0, .int i_0, .int i_1] (fun u : Unit => [(a_0, .inr (6, [.int i_2, .int i_3, .int i_4, .ref a_1]))]) (fun (r : Int32) (u : Unit) => ((0 = r ∧ mm_rg i_0 (-2147483648) 2147483647 ∧ mm_nrc i_0 i_1 i_4) ∨ (1 = r ∧ mm_rg i_0 0 60 ∧ mm_rch i_0 i_1 i_4))) 0 0 := by
  refine mm_begin (lv := [(0, .ref a_0), (1, .int i_0), (2, .int i_1)]) (by decide) (Nat.le_of_ble_eq_true rfl) rfl ?_
  intro p e s m below meth c A ls R args Q H locs hRe hQ hAe hx hb hr hlocks hml hown hnm hts hsz hA hS hP hK hD hZ hl
  have hRf : R.frames = 0 := by rw [hRe]
  have hRl : R.locals = 0 := by rw [hRe]
  have hRc : R.cells = 0 := by rw [hRe]
  have hRs : R.slots = 0 := by rw [hRe]
  refine lv_iload_n hx hb dX6_reaches_0 rfl (lv_at hl 1 rfl) ?_
  refine lv_if_lt (tgt := 30) hx hb dX6_reaches_1 (by decide) (fun c1 => ?_) (fun c1 => ?_)
  · have q2 := mm_ltL (h := (-1)) (mm_lt c1) (mm_top i_0) mm_k0 (by decide)
    refine lv_iconst (v := 0) hx hb dX6_reaches_30 (by decide) ?_
    have w3 : mm_nrc i_0 i_1 i_4 := (mm_nrc_1 q2 (by decide))
    subst hAe
    rw [hQ]
    exact W.zret (v := 0) hx hb hr rfl (fun t ht hW => ⟨⟨0, (), rfl, (Or.inl ⟨rfl, (mm_wk q2 (by decide)), w3⟩), by rw [ht]; exact hP, hK.warm hW, hD⟩, hS.F ht⟩) hS.2.2 dX6_reaches_31
  · have q4 := mm_leR (mm_nlt c1) mm_k0 (mm_top i_0)
    refine lv_iload_n hx hb dX6_reaches_4 rfl (lv_at hl 2 rfl) ?_
    refine lv_if_lt (tgt := 30) hx hb dX6_reaches_5 (by decide) (fun c5 => ?_) (fun c5 => ?_)
    · have q6 := mm_ltL (h := (-1)) (mm_lt c5) h0 mm_k0 (by decide)
      exact mm_no q6 (by decide)
    · refine lv_iload_n hx hb dX6_reaches_8 rfl (lv_at hl 2 rfl) ?_
      refine lv_aload_n hx hb dX6_reaches_9 rfl (lv_at hl 0 rfl) ?_
      refine va_get (D := G) (ci := 6) (v := .int i_4) (C := RX6) (T := TX6) (N := 4) hx hb hts (mm_i inlX6) hown hK.1 hP 0 rfl rfl 2 (by decide) (mm_h hts mm_w1684) (fun _ h9 => h9) rfl dX6_reaches_10 ?_
      refine lv_icmp_gt (tgt := 30) hx hb dX6_reaches_13 (by decide) (fun c7 => ?_) (fun c7 => ?_)
      · have q8 := mm_ltL (h := 59) (mm_lt c7) h1 h0 (by decide)
        have q9 := mm_ltR (lo := 1) (mm_lt c7) h1 h0 (by decide)
        refine lv_iconst (v := 0) hx hb dX6_reaches_30 (by decide) ?_
        have w10 : mm_nrc i_0 i_1 i_4 := (mm_nrc_3 (mm_lt c7))
        subst hAe
        rw [hQ]
        exact W.zret (v := 0) hx hb hr rfl (fun t ht hW => ⟨⟨0, (), rfl, (Or.inl ⟨rfl, (mm_wk q4 (by decide)), w10⟩), by rw [ht]; exact hP, hK.warm hW, hD⟩, hS.F ht⟩) hS.2.2 dX6_reaches_31
      · refine lv_iload_n hx hb dX6_reaches_16 rfl (lv_at hl 1 rfl) ?_
        refine lv_aload_n hx hb dX6_reaches_17 rfl (lv_at hl 0 rfl) ?_
        refine va_get (D := G) (ci := 6) (v := .int i_4) (C := RX6) (T := TX6) (N := 4) hx hb hts (mm_i inlX6) hown hK.1 hP 0 rfl rfl 2 (by decide) (mm_h hts mm_w1684) (fun _ h9 => h9) rfl dX6_reaches_18 ?_
        refine lv_iload_n hx hb dX6_reaches_21 rfl (lv_at hl 2 rfl) ?_
        refine lv_isub hx hb dX6_reaches_22 ?_
        refine lv_topi (fun v11 ev11 => ?_)
        have rv11 : mm_rg v11 (-60) 60 := mm_sub ev11 h1 h0 (by decide) (by decide)
        have tv11 := mm_subE ev11 h1 h0 (by decide)
        have q12 : mm_rg v11 0 60 := mm_sub0 ev11 (mm_nlt c7) h1 h0 (by decide)
        refine lv_icmp_gt (tgt := 30) hx hb dX6_reaches_23 (by decide) (fun c13 => ?_) (fun c13 => ?_)
        · have q14 := mm_ltR (lo := 1) (mm_lt c13) q12 q4 (by decide)
          refine lv_iconst (v := 0) hx hb dX6_reaches_30 (by decide) ?_
          have w15 : mm_nrc i_0 i_1 i_4 := (mm_nrc_4 (mm_lt c13) tv11)
          subst hAe
          rw [hQ]
          exact W.zret (v := 0) hx hb hr rfl (fun t ht hW => ⟨⟨0, (), rfl, (Or.inl ⟨rfl, (mm_wk q14 (by decide)), w15⟩), by rw [ht]; exact hP, hK.warm hW, hD⟩, hS.F ht⟩) hS.2.2 dX6_reaches_31
        · have q16 := mm_leL (mm_nlt c13) q4 q12
          refine lv_iconst (v := 1) hx hb dX6_reaches_26 (by decide) ?_
          refine lv_goto (tgt := 31) hx hb dX6_reaches_27 (by decide) ?_
          have w17 : mm_rch i_0 i_1 i_4 := (mm_rch_of (mm_nlt c13) tv11)
          subst hAe
          rw [hQ]
          exact W.zret (v := 1) hx hb hr rfl (fun t ht hW => ⟨⟨1, (), rfl, (Or.inr ⟨rfl, q16, w17⟩), by rw [ht]; exact hP, hK.warm hW, hD⟩, hS.F ht⟩) hS.2.2 dX6_reaches_31

set_option maxHeartbeats 4000000 in
set_option maxRecDepth 100000 in
theorem C551_X11_paste (l : Launch) (G : va_G) (cy : Nat → ClassId) (sz : Nat) (a_0 : Nat) (i_0 : Int32) (i_1 : Int32) (i_2 : Int32) (i_3 : Int32) (i_4 : Int32) (a_1 : Nat) (a_2 : Nat) (a_3 : Nat) (a_4 : Nat) (a_5 : Nat) (a_6 : Nat) (a_7 : Nat) (a_8 : Nat) (a_9 : Nat) (a_10 : Nat) (a_11 : Nat) (a_12 : Nat) (a_13 : Nat) (a_14 : Nat) (a_15 : Nat) (i_5 : Int32) (i_6 : Int32) (i_7 : Int32) (a_16 : Nat) (f_0 : Nat → Int64) (i_8 : Int32) (i_9 : Int32) (i_10 : Int32) (a_17 : Nat) (f_1 : Nat → Int64) (i_11 : Int32) (i_12 : Int32) (i_13 : Int32) (a_18 : Nat) (f_2 : Nat → Int64) (i_14 : Int32) (i_15 : Int32) (i_16 : Int32) (a_19 : Nat) (f_3 : Nat → Int64) (h0 : mm_rg i_5 0 1) (h1 : mm_rg i_6 0 3) (h2 : mm_rg i_7 0 60) (h3 : mm_rg i_8 0 1) (h4 : mm_rg i_9 0 3) (h5 : mm_rg i_10 0 60) (h6 : mm_rg i_11 0 1) (h7 : mm_rg i_12 0 3) (h8 : mm_rg i_13 0 60) (h9 : mm_rg i_14 0 1) (h10 : mm_rg i_15 0 3) (h11 : mm_rg i_16 0 60)  : mm_CI l yX11_paste (mm_ws yX11_paste cX11_paste 6 (some .int)) ({ frames := 1, cells := 0, slots := 0, locals := 64 } : Room) G cy sz [(a_0, .inr (11, [.ref a_1, .ref a_2, .ref a_3, .ref a_4, .ref a_5, .ref a_6, .ref a_7, .ref a_8, .ref a_9, .ref a_10, .ref a_11])), (a_6, .inl (cy 6, 4, .inr (.inr (.inr (.inr (va_up (va_up (va_up (va_up (fun _ => none) 0 (some a_12)) 1 (some a_13)) 2 (some a_14)) 3 (some a_15))))))), (a_12, .inr (6, [.int i_5, .int i_6, .int i_7, .ref a_16])), (a_16, .inl (cy 2, 60, .inr (.inl f_0))), (a_13, .inr (6, [.int i_8, .int i_9, .int i_10, .ref a_17])), (a_17, .inl (cy 2, 60, .inr (.inl f_1))), (a_14, .inr (6, [.int i_11, .int i_12, .int i_13, .ref a_18])), (a_18, .inl (cy 2, 60, .inr (.inl f_2))), (a_15, .inr (6, [.int i_14, .int i_15, .int i_16, .ref a_19])), (a_19, .inl (cy 2, 60, .inr (.inl f_3)))] [.ref a_0, .int i_0, .int i_1, .int i_2, .int i_3, .int i_4] (fun u : (Nat → Int64) × (Nat → Int64) × (Nat → Int64) × (Nat → Int64) => [(a_0, .inr (11, [.ref a_1, .ref a_2, .ref a_3, .ref a_4, .ref a_5, .ref a_6, .ref a_7, .ref a_8, .ref a_9, .ref a_10, .ref a_11])), (a_6, .inl (cy 6, 4, .inr (.inr (.inr (.inr (va_up (va_up (va_up (va_up (fun _ => none) 0 (some a_12)) 1 (some a_13)) 2 (some a_14)) 3 (some a_15))))))), (a_12, .inr (6, [.int i_5, .int i_6, .int i_7, .ref a_16])), (a_16, .inl (cy 2, 60, .inr (.inl u.1))), (a_13, .inr (6, [.int i_8, .int i_9, .int i_10, .ref a_17])), (a_17, .inl (cy 2, 60, .inr (.inl u.2.1))), (a_14, .inr (6, [.int i_11, .int i_12, .int i_13, .ref a_18])), (a_18, .inl (cy 2, 60, .inr (.inl u.2.2.1))), (a_15, .inr (6, [.int i_14, .int i_15, .int i_16, .ref a_19])), (a_19, .inl (cy 2, 60, .inr (.inl u.2.2.2)))]) (fun (r : Int32) (u : (Nat → Int64) × (Nat → Int64) × (Nat → Int64) × (Nat → Int64)) => (((-2) = r ∧ mm_rg i_0 (-2147483648) (-1)) ∨ ((-2) = r ∧ mm_rg i_0 4 2147483647) ∨ ((-2) = r ∧ mm_rg i_0 0 3 ∧ mm_rg i_2 (-2147483648) (-1)) ∨ ((-2) = r ∧ mm_rg i_0 0 3 ∧ mm_rg i_2 4 2147483647) ∨ ((-6) = r ∧ mm_rg i_0 0 3 ∧ mm_rg i_2 0 3 ∧ mm_y0 i_5 i_8 i_11 i_14 i_0) ∨ ((-7) = r ∧ mm_rg i_0 0 3 ∧ mm_rg i_2 0 3 ∧ mm_y1 i_5 i_8 i_11 i_14 i_0 ∧ mm_y1 i_5 i_8 i_11 i_14 i_2 ∧ mm_ye i_6 i_9 i_12 i_15 i_0 i_2 ∧ mm_yb i_7 i_10 i_13 i_16 i_0 i_2 i_1 i_3 i_4) ∨ (0 = r ∧ mm_rg i_0 0 3 ∧ mm_rg i_2 0 3 ∧ mm_y1 i_5 i_8 i_11 i_14 i_0 ∧ mm_y1 i_5 i_8 i_11 i_14 i_2 ∧ mm_ye i_6 i_9 i_12 i_15 i_0 i_2 ∧ mm_yg i_7 i_10 i_13 i_16 i_0 i_2 i_1 i_3 i_4) ∨ ((-8) = r ∧ mm_rg i_0 0 3 ∧ mm_rg i_2 0 3 ∧ mm_y1 i_5 i_8 i_11 i_14 i_0 ∧ mm_y1 i_5 i_8 i_11 i_14 i_2 ∧ mm_yn i_6 i_9 i_12 i_15 i_0 i_2) ∨ ((-6) = r ∧ mm_rg i_0 0 3 ∧ mm_rg i_2 0 3 ∧ mm_y1 i_5 i_8 i_11 i_14 i_0 ∧ mm_y0 i_5 i_8 i_11 i_14 i_2))) 0 0 := by
  refine mm_begin (lv := [(0, .ref a_0), (1, .int i_0), (2, .int i_1), (3, .int i_2), (4, .int i_3), (5, .int i_4)]) (by decide) (Nat.le_of_ble_eq_true rfl) rfl ?_
  intro p e s m below meth c A ls R args Q H locs hRe hQ hAe hx hb hr hlocks hml hown hnm hts hsz hA hS hP hK hD hZ hl
  have hRf : R.frames = 1 := by rw [hRe]
  have hRl : R.locals = 64 := by rw [hRe]
  have hRc : R.cells = 0 := by rw [hRe]
  have hRs : R.slots = 0 := by rw [hRe]
  refine lv_iload_n hx hb dX11_paste_0 rfl (lv_at hl 1 rfl) ?_
  refine mm_finir (va_runS (As := [.int i_0]) (rest := []) ⟨hx, hb, hml, hown, hts⟩ (C544_X11_isSlot l G cy H.size i_0 ) (va_cwS 1 hts (mm_gS mm_w1232 mm_w1233 mm_w2 mm_w1234) rfl rfl rfl hs_X11_isSlot ⟨by rw [hRf]; exact Nat.le_of_ble_eq_true rfl, by rw [hRl]; exact Nat.le_of_ble_eq_true rfl⟩) (mm_preS hK hZ hS hA hP hD [] rfl rfl) rfl rfl hl.1 rfl (lv_room (Nat.le_of_ble_eq_true rfl)) dX11_paste_1 ⟨by rw [hRc]; exact Nat.le_of_ble_eq_true rfl, by rw [hRs]; exact Nat.le_of_ble_eq_true rfl⟩) hP hD hS hA [] rfl (fun _ => rfl) ?_
  clear hP hD hS
  clear H locs
  intro v1 _u H locs hw hP hD hS
  rcases hw with ⟨rfl, w2⟩ | ⟨rfl, w3⟩ | ⟨rfl, w4⟩
  · refine lv_if_eq (tgt := 14) hx hb dX11_paste_4 (by decide) (fun c5 => ?_) (fun c5 => ?_)
    · refine lv_bipush (v := (-2)) hx hb dX11_paste_14 (by decide) ?_
      subst hAe
      rw [hQ]
      exact W.iret (v := (-2)) hx hb hr (fun t ht hW => ⟨⟨(-2), (f_0, f_1, f_2, f_3), rfl, (Or.inl ⟨rfl, w2⟩), by rw [ht]; exact hP, hK.warm hW, hD⟩, hS.F ht⟩) hS.2.2 dX11_paste_16
    · exact absurd rfl (mm_ne c5)
  · refine lv_if_eq (tgt := 14) hx hb dX11_paste_4 (by decide) (fun c6 => ?_) (fun c6 => ?_)
    · refine lv_bipush (v := (-2)) hx hb dX11_paste_14 (by decide) ?_
      subst hAe
      rw [hQ]
      exact W.iret (v := (-2)) hx hb hr (fun t ht hW => ⟨⟨(-2), (f_0, f_1, f_2, f_3), rfl, (Or.inr (Or.inl ⟨rfl, w3⟩)), by rw [ht]; exact hP, hK.warm hW, hD⟩, hS.F ht⟩) hS.2.2 dX11_paste_16
    · exact absurd rfl (mm_ne c6)
  · refine lv_if_eq (tgt := 14) hx hb dX11_paste_4 (by decide) (fun c7 => ?_) (fun c7 => ?_)
    · exact mm_eqN c7.symm mm_k0 mm_k1 (by decide)
    · refine lv_iload_n hx hb dX11_paste_7 rfl (lv_at hl 3 rfl) ?_
      refine mm_finir (va_runS (As := [.int i_2]) (rest := []) ⟨hx, hb, hml, hown, hts⟩ (C544_X11_isSlot l G cy H.size i_2 ) (va_cwS 1 hts (mm_gS mm_w1232 mm_w1233 mm_w2 mm_w1234) rfl rfl rfl hs_X11_isSlot ⟨by rw [hRf]; exact Nat.le_of_ble_eq_true rfl, by rw [hRl]; exact Nat.le_of_ble_eq_true rfl⟩) (mm_preS hK hZ hS hA hP hD [] rfl rfl) rfl rfl hl.1 rfl (lv_room (Nat.le_of_ble_eq_true rfl)) dX11_paste_8 ⟨by rw [hRc]; exact Nat.le_of_ble_eq_true rfl, by rw [hRs]; exact Nat.le_of_ble_eq_true rfl⟩) hP hD hS hA [] rfl (fun _ => rfl) ?_
      clear hP hD hS
      clear H locs
      intro v8 _u H locs hw hP hD hS
      rcases hw with ⟨rfl, w9⟩ | ⟨rfl, w10⟩ | ⟨rfl, w11⟩
      · refine lv_if_ne (tgt := 17) hx hb dX11_paste_11 (by decide) (fun c12 => ?_) (fun c12 => ?_)
        · exact absurd rfl (mm_ne c12)
        · refine lv_bipush (v := (-2)) hx hb dX11_paste_14 (by decide) ?_
          subst hAe
          rw [hQ]
          exact W.iret (v := (-2)) hx hb hr (fun t ht hW => ⟨⟨(-2), (f_0, f_1, f_2, f_3), rfl, (Or.inr (Or.inr (Or.inl ⟨rfl, w4, w9⟩))), by rw [ht]; exact hP, hK.warm hW, hD⟩, hS.F ht⟩) hS.2.2 dX11_paste_16
      · refine lv_if_ne (tgt := 17) hx hb dX11_paste_11 (by decide) (fun c13 => ?_) (fun c13 => ?_)
        · exact absurd rfl (mm_ne c13)
        · refine lv_bipush (v := (-2)) hx hb dX11_paste_14 (by decide) ?_
          subst hAe
          rw [hQ]
          exact W.iret (v := (-2)) hx hb hr (fun t ht hW => ⟨⟨(-2), (f_0, f_1, f_2, f_3), rfl, (Or.inr (Or.inr (Or.inr (Or.inl ⟨rfl, w4, w10⟩)))), by rw [ht]; exact hP, hK.warm hW, hD⟩, hS.F ht⟩) hS.2.2 dX11_paste_16
      · refine lv_if_ne (tgt := 17) hx hb dX11_paste_11 (by decide) (fun c14 => ?_) (fun c14 => ?_)
        · refine lv_aload_n hx hb dX11_paste_17 rfl (lv_at hl 0 rfl) ?_
          refine va_get (D := G) (ci := 11) (v := .ref a_6) (C := RX11) (T := TX11) (N := 11) hx hb hts (mm_i inlX11) hown hK.1 hP 0 rfl rfl 5 (by decide) (mm_h hts mm_w32) (fun _ h9 => h9) rfl dX11_paste_18 ?_
          refine lv_iload_n hx hb dX11_paste_21 rfl (lv_at hl 1 rfl) ?_
          refine va_aldq hx hb hK.1 hP 1 6 rfl rfl (mm_in w4 (by decide)) dX11_paste_22 ?_
          have c15 := mm_cases4 w4
          rcases c15 with rfl | rfl | rfl | rfl
          · refine W.eq (g2 := F0 m 23 ls [.ref a_12]) rfl ?_
            refine va_get (D := G) (ci := 6) (v := .int i_5) (C := RX6) (T := TX6) (N := 4) hx hb hts (mm_i inlX6) hown hK.1 hP 2 rfl rfl 0 (by decide) (mm_h hts mm_w1239) (fun _ h9 => h9) rfl dX11_paste_23 ?_
            refine lv_if_eq (tgt := 41) hx hb dX11_paste_26 (by decide) (fun c16 => ?_) (fun c16 => ?_)
            · have q17 := mm_eqI (lo := 0) (hi := 0) c16 h0 mm_k0 (by decide)
              refine lv_bipush (v := (-6)) hx hb dX11_paste_41 (by decide) ?_
              have w18 : mm_y0 i_5 i_8 i_11 i_14 0 := (mm_y0_of (mm_4_0 _ _ _ _) q17 (by decide))
              subst hAe
              rw [hQ]
              exact W.iret (v := (-6)) hx hb hr (fun t ht hW => ⟨⟨(-6), (f_0, f_1, f_2, f_3), rfl, (Or.inr (Or.inr (Or.inr (Or.inr (Or.inl ⟨rfl, (mm_wk mm_k0 (by decide)), w11, w18⟩))))), by rw [ht]; exact hP, hK.warm hW, hD⟩, hS.F ht⟩) hS.2.2 dX11_paste_43
            · have q19 := mm_neL (lo := 1) (mm_ne c16) h0 mm_k0 (by decide) (by decide)
              refine lv_aload_n hx hb dX11_paste_29 rfl (lv_at hl 0 rfl) ?_
              refine va_get (D := G) (ci := 11) (v := .ref a_6) (C := RX11) (T := TX11) (N := 11) hx hb hts (mm_i inlX11) hown hK.1 hP 0 rfl rfl 5 (by decide) (mm_h hts mm_w32) (fun _ h9 => h9) rfl dX11_paste_30 ?_
              refine lv_iload_n hx hb dX11_paste_33 rfl (lv_at hl 3 rfl) ?_
              refine va_aldq hx hb hK.1 hP 1 6 rfl rfl (mm_in w11 (by decide)) dX11_paste_34 ?_
              have c20 := mm_cases4 w11
              rcases c20 with rfl | rfl | rfl | rfl
              · refine W.eq (g2 := F0 m 35 ls [.ref a_12]) rfl ?_
                refine va_get (D := G) (ci := 6) (v := .int i_5) (C := RX6) (T := TX6) (N := 4) hx hb hts (mm_i inlX6) hown hK.1 hP 2 rfl rfl 0 (by decide) (mm_h hts mm_w1239) (fun _ h9 => h9) rfl dX11_paste_35 ?_
                refine lv_if_ne (tgt := 44) hx hb dX11_paste_38 (by decide) (fun c21 => ?_) (fun c21 => ?_)
                · refine lv_aload_n hx hb dX11_paste_44 rfl (lv_at hl 0 rfl) ?_
                  refine va_get (D := G) (ci := 11) (v := .ref a_6) (C := RX11) (T := TX11) (N := 11) hx hb hts (mm_i inlX11) hown hK.1 hP 0 rfl rfl 5 (by decide) (mm_h hts mm_w32) (fun _ h9 => h9) rfl dX11_paste_45 ?_
                  refine lv_iload_n hx hb dX11_paste_48 rfl (lv_at hl 1 rfl) ?_
                  refine va_aldq hx hb hK.1 hP 1 6 rfl rfl (mm_in mm_k0 (by decide)) dX11_paste_49 ?_
                  refine W.eq (g2 := F0 m 50 ls [.ref a_12]) rfl ?_
                  refine va_get (D := G) (ci := 6) (v := .int i_6) (C := RX6) (T := TX6) (N := 4) hx hb hts (mm_i inlX6) hown hK.1 hP 2 rfl rfl 1 (by decide) (mm_h hts mm_w1710) (fun _ h9 => h9) rfl dX11_paste_50 ?_
                  refine lv_aload_n hx hb dX11_paste_53 rfl (lv_at hl 0 rfl) ?_
                  refine va_get (D := G) (ci := 11) (v := .ref a_6) (C := RX11) (T := TX11) (N := 11) hx hb hts (mm_i inlX11) hown hK.1 hP 0 rfl rfl 5 (by decide) (mm_h hts mm_w32) (fun _ h9 => h9) rfl dX11_paste_54 ?_
                  refine lv_iload_n hx hb dX11_paste_57 rfl (lv_at hl 3 rfl) ?_
                  refine va_aldq hx hb hK.1 hP 1 6 rfl rfl (mm_in mm_k0 (by decide)) dX11_paste_58 ?_
                  refine W.eq (g2 := F0 m 59 ls [.ref a_12, .int i_6]) rfl ?_
                  refine va_get (D := G) (ci := 6) (v := .int i_6) (C := RX6) (T := TX6) (N := 4) hx hb hts (mm_i inlX6) hown hK.1 hP 2 rfl rfl 1 (by decide) (mm_h hts mm_w1710) (fun _ h9 => h9) rfl dX11_paste_59 ?_
                  refine lv_icmp_eq (tgt := 68) hx hb dX11_paste_62 (by decide) (fun c22 => ?_) (fun c22 => ?_)
                  · refine lv_aload_n hx hb dX11_paste_68 rfl (lv_at hl 0 rfl) ?_
                    refine va_get (D := G) (ci := 11) (v := .ref a_6) (C := RX11) (T := TX11) (N := 11) hx hb hts (mm_i inlX11) hown hK.1 hP 0 rfl rfl 5 (by decide) (mm_h hts mm_w32) (fun _ h9 => h9) rfl dX11_paste_69 ?_
                    refine lv_iload_n hx hb dX11_paste_72 rfl (lv_at hl 1 rfl) ?_
                    refine va_aldq hx hb hK.1 hP 1 6 rfl rfl (mm_in mm_k0 (by decide)) dX11_paste_73 ?_
                    refine W.eq (g2 := F0 m 74 ls [.ref a_12]) rfl ?_
                    refine lv_iload_n hx hb dX11_paste_74 rfl (lv_at hl 2 rfl) ?_
                    refine lv_iload hx hb dX11_paste_75 (lv_at hl 5 rfl) ?_
                    refine mm_finir (va_runV (As := [.int i_1, .int i_4]) (rest := []) ⟨hx, hb, hml, hown, hts⟩ (C549_X6_reaches l G cy H.size a_12 i_1 i_4 i_5 i_6 i_7 a_16 h2) (cwV 2 hts (mm_gV mm_w1713 mm_w1714 mm_w1715 mm_w34 mm_w1716) rfl rfl rfl hd_X6_reaches ⟨by rw [hRf]; exact Nat.le_of_ble_eq_true rfl, by rw [hRl]; exact Nat.le_of_ble_eq_true rfl⟩) (mm_preV hK hZ hS hA hP hD [2] rfl rfl 2 rfl rfl rfl) rfl rfl hl.1 rfl (lv_room (Nat.le_of_ble_eq_true rfl)) dX11_paste_77 ⟨by rw [hRc]; exact Nat.le_of_ble_eq_true rfl, by rw [hRs]; exact Nat.le_of_ble_eq_true rfl⟩) hP hD hS hA [2] rfl (fun _ => rfl) ?_
                    clear hP hD hS
                    clear H locs
                    intro v23 _u H locs hw hP hD hS
                    rcases hw with ⟨rfl, w24, w25⟩ | ⟨rfl, w26, w27, w28⟩
                    · refine lv_if_eq (tgt := 99) hx hb dX11_paste_80 (by decide) (fun c29 => ?_) (fun c29 => ?_)
                      · refine lv_bipush (v := (-7)) hx hb dX11_paste_99 (by decide) ?_
                        have w30 : mm_y1 i_5 i_8 i_11 i_14 0 := (mm_y1_of (mm_4_0 _ _ _ _) q19 (by decide))
                        have w31 : mm_y1 i_5 i_8 i_11 i_14 0 := (mm_y1_of (mm_4_0 _ _ _ _) q19 (by decide))
                        have w32 : mm_ye i_6 i_9 i_12 i_15 0 0 := (mm_ye_of (mm_4_0 _ _ _ _) (mm_4_0 _ _ _ _) rfl)
                        have w33 : mm_yb i_7 i_10 i_13 i_16 0 0 i_1 i_3 i_4 := (mm_yb_of (mm_4_0 _ _ _ _) (mm_4_0 _ _ _ _) (mm_xb_1 w25))
                        subst hAe
                        rw [hQ]
                        exact W.iret (v := (-7)) hx hb hr (fun t ht hW => ⟨⟨(-7), (f_0, f_1, f_2, f_3), rfl, (Or.inr (Or.inr (Or.inr (Or.inr (Or.inr (Or.inl ⟨rfl, (mm_wk mm_k0 (by decide)), (mm_wk mm_k0 (by decide)), w30, w31, w32, w33⟩)))))), by rw [ht]; exact hP, hK.warm hW, hD⟩, hS.F ht⟩) hS.2.2 dX11_paste_101
                      · exact absurd rfl (mm_ne c29)
                    · refine lv_if_eq (tgt := 99) hx hb dX11_paste_80 (by decide) (fun c34 => ?_) (fun c34 => ?_)
                      · exact mm_eqN c34.symm mm_k0 mm_k1 (by decide)
                      · refine lv_aload_n hx hb dX11_paste_83 rfl (lv_at hl 0 rfl) ?_
                        refine va_get (D := G) (ci := 11) (v := .ref a_6) (C := RX11) (T := TX11) (N := 11) hx hb hts (mm_i inlX11) hown hK.1 hP 0 rfl rfl 5 (by decide) (mm_h hts mm_w32) (fun _ h9 => h9) rfl dX11_paste_84 ?_
                        refine lv_iload_n hx hb dX11_paste_87 rfl (lv_at hl 3 rfl) ?_
                        refine va_aldq hx hb hK.1 hP 1 6 rfl rfl (mm_in mm_k0 (by decide)) dX11_paste_88 ?_
                        refine W.eq (g2 := F0 m 89 ls [.ref a_12]) rfl ?_
                        refine lv_iload hx hb dX11_paste_89 (lv_at hl 4 rfl) ?_
                        refine lv_iload hx hb dX11_paste_91 (lv_at hl 5 rfl) ?_
                        refine mm_finir (va_runV (As := [.int i_3, .int i_4]) (rest := []) ⟨hx, hb, hml, hown, hts⟩ (C550_X6_reaches l G cy H.size a_12 i_3 i_4 i_5 i_6 i_7 a_16 w27 h2) (cwV 2 hts (mm_gV mm_w1713 mm_w1714 mm_w1715 mm_w34 mm_w1716) rfl rfl rfl hd_X6_reaches ⟨by rw [hRf]; exact Nat.le_of_ble_eq_true rfl, by rw [hRl]; exact Nat.le_of_ble_eq_true rfl⟩) (mm_preV hK hZ hS hA hP hD [2] rfl rfl 2 rfl rfl rfl) rfl rfl hl.1 rfl (lv_room (Nat.le_of_ble_eq_true rfl)) dX11_paste_93 ⟨by rw [hRc]; exact Nat.le_of_ble_eq_true rfl, by rw [hRs]; exact Nat.le_of_ble_eq_true rfl⟩) hP hD hS hA [2] rfl (fun _ => rfl) ?_
                        clear hP hD hS
                        clear H locs
                        intro v35 _u H locs hw hP hD hS
                        rcases hw with ⟨rfl, w36, w37⟩ | ⟨rfl, w38, w39⟩
                        · refine lv_if_ne (tgt := 102) hx hb dX11_paste_96 (by decide) (fun c40 => ?_) (fun c40 => ?_)
                          · exact absurd rfl (mm_ne c40)
                          · refine lv_bipush (v := (-7)) hx hb dX11_paste_99 (by decide) ?_
                            have w41 : mm_y1 i_5 i_8 i_11 i_14 0 := (mm_y1_of (mm_4_0 _ _ _ _) q19 (by decide))
                            have w42 : mm_y1 i_5 i_8 i_11 i_14 0 := (mm_y1_of (mm_4_0 _ _ _ _) q19 (by decide))
                            have w43 : mm_ye i_6 i_9 i_12 i_15 0 0 := (mm_ye_of (mm_4_0 _ _ _ _) (mm_4_0 _ _ _ _) rfl)
                            have w44 : mm_yb i_7 i_10 i_13 i_16 0 0 i_1 i_3 i_4 := (mm_yb_of (mm_4_0 _ _ _ _) (mm_4_0 _ _ _ _) (mm_xb_2 w37))
                            subst hAe
                            rw [hQ]
                            exact W.iret (v := (-7)) hx hb hr (fun t ht hW => ⟨⟨(-7), (f_0, f_1, f_2, f_3), rfl, (Or.inr (Or.inr (Or.inr (Or.inr (Or.inr (Or.inl ⟨rfl, (mm_wk mm_k0 (by decide)), (mm_wk mm_k0 (by decide)), w41, w42, w43, w44⟩)))))), by rw [ht]; exact hP, hK.warm hW, hD⟩, hS.F ht⟩) hS.2.2 dX11_paste_101
                        · refine lv_if_ne (tgt := 102) hx hb dX11_paste_96 (by decide) (fun c45 => ?_) (fun c45 => ?_)
                          · refine lv_aload_n hx hb dX11_paste_102 rfl (lv_at hl 0 rfl) ?_
                            refine va_get (D := G) (ci := 11) (v := .ref a_6) (C := RX11) (T := TX11) (N := 11) hx hb hts (mm_i inlX11) hown hK.1 hP 0 rfl rfl 5 (by decide) (mm_h hts mm_w32) (fun _ h9 => h9) rfl dX11_paste_103 ?_
                            refine lv_iload_n hx hb dX11_paste_106 rfl (lv_at hl 1 rfl) ?_
                            refine va_aldq hx hb hK.1 hP 1 6 rfl rfl (mm_in mm_k0 (by decide)) dX11_paste_107 ?_
                            refine W.eq (g2 := F0 m 108 ls [.ref a_12]) rfl ?_
                            refine va_get (D := G) (ci := 6) (v := .ref a_16) (C := RX6) (T := TX6) (N := 4) hx hb hts (mm_i inlX6) hown hK.1 hP 2 rfl rfl 3 (by decide) (mm_h hts mm_w1711) (fun _ h9 => h9) rfl dX11_paste_108 ?_
                            refine lv_iload_n hx hb dX11_paste_111 rfl (lv_at hl 2 rfl) ?_
                            refine lv_aload_n hx hb dX11_paste_112 rfl (lv_at hl 0 rfl) ?_
                            refine va_get (D := G) (ci := 11) (v := .ref a_6) (C := RX11) (T := TX11) (N := 11) hx hb hts (mm_i inlX11) hown hK.1 hP 0 rfl rfl 5 (by decide) (mm_h hts mm_w32) (fun _ h9 => h9) rfl dX11_paste_113 ?_
                            refine lv_iload_n hx hb dX11_paste_116 rfl (lv_at hl 3 rfl) ?_
                            refine va_aldq hx hb hK.1 hP 1 6 rfl rfl (mm_in mm_k0 (by decide)) dX11_paste_117 ?_
                            refine W.eq (g2 := F0 m 118 ls [.ref a_12, .int i_1, .ref a_16]) rfl ?_
                            refine va_get (D := G) (ci := 6) (v := .ref a_16) (C := RX6) (T := TX6) (N := 4) hx hb hts (mm_i inlX6) hown hK.1 hP 2 rfl rfl 3 (by decide) (mm_h hts mm_w1711) (fun _ h9 => h9) rfl dX11_paste_118 ?_
                            refine lv_iload hx hb dX11_paste_121 (lv_at hl 4 rfl) ?_
                            refine lv_iload hx hb dX11_paste_123 (lv_at hl 5 rfl) ?_
                            refine va_copyl hx hb (by rw [hml]; exact hl.1.symm) hown (mm_h hts mm_w1712) (mm_h hts mm_w388) (mm_h hts mm_w389) (mm_h hts mm_w390) hK.1 hP hD hS 3 3 2 2 rfl rfl rfl rfl rfl (mm_nn w26 (by decide)) (mm_nn w38 (by decide)) (mm_nn w27 (by decide)) (mm_cpR w28 w26 w27 h2 (by decide)) (mm_cpR w39 w38 w27 h2 (by decide)) (fun _ _ => rfl) (by rw [hRf]; exact Nat.le_of_ble_eq_true rfl) (by rw [hRl]; exact Nat.le_of_ble_eq_true rfl) dX11_paste_125 ?_
                            clear hP hD hS
                            clear H locs
                            obtain ⟨g46, eg46⟩ : ∃ z : Nat → Int64, z = va_cpy f_0 f_0 i_1.toNatClampNeg i_3.toNatClampNeg i_4.toNatClampNeg := ⟨_, rfl⟩
                            rw [← eg46]
                            intro H locs (hP : va_P G vwCl [(a_0, .inr (11, [.ref a_1, .ref a_2, .ref a_3, .ref a_4, .ref a_5, .ref a_6, .ref a_7, .ref a_8, .ref a_9, .ref a_10, .ref a_11])), (a_6, .inl (cy 6, 4, .inr (.inr (.inr (.inr (va_up (va_up (va_up (va_up (fun _ => none) 0 (some a_12)) 1 (some a_13)) 2 (some a_14)) 3 (some a_15))))))), (a_12, .inr (6, [.int i_5, .int i_6, .int i_7, .ref a_16])), (a_16, .inl (cy 2, 60, .inr (.inl g46))), (a_13, .inr (6, [.int i_8, .int i_9, .int i_10, .ref a_17])), (a_17, .inl (cy 2, 60, .inr (.inl f_1))), (a_14, .inr (6, [.int i_11, .int i_12, .int i_13, .ref a_18])), (a_18, .inl (cy 2, 60, .inr (.inl f_2))), (a_15, .inr (6, [.int i_14, .int i_15, .int i_16, .ref a_19])), (a_19, .inl (cy 2, 60, .inr (.inl f_3)))] H) (hD : va_D A [(a_0, .inr (11, [.ref a_1, .ref a_2, .ref a_3, .ref a_4, .ref a_5, .ref a_6, .ref a_7, .ref a_8, .ref a_9, .ref a_10, .ref a_11])), (a_6, .inl (cy 6, 4, .inr (.inr (.inr (.inr (va_up (va_up (va_up (va_up (fun _ => none) 0 (some a_12)) 1 (some a_13)) 2 (some a_14)) 3 (some a_15))))))), (a_12, .inr (6, [.int i_5, .int i_6, .int i_7, .ref a_16])), (a_16, .inl (cy 2, 60, .inr (.inl g46))), (a_13, .inr (6, [.int i_8, .int i_9, .int i_10, .ref a_17])), (a_17, .inl (cy 2, 60, .inr (.inl f_1))), (a_14, .inr (6, [.int i_11, .int i_12, .int i_13, .ref a_18])), (a_18, .inl (cy 2, 60, .inr (.inl f_2))), (a_15, .inr (6, [.int i_14, .int i_15, .int i_16, .ref a_19])), (a_19, .inl (cy 2, 60, .inr (.inl f_3)))]) hS
                            refine lv_iconst (v := 0) hx hb dX11_paste_128 (by decide) ?_
                            have w47 : mm_y1 i_5 i_8 i_11 i_14 0 := (mm_y1_of (mm_4_0 _ _ _ _) q19 (by decide))
                            have w48 : mm_y1 i_5 i_8 i_11 i_14 0 := (mm_y1_of (mm_4_0 _ _ _ _) q19 (by decide))
                            have w49 : mm_ye i_6 i_9 i_12 i_15 0 0 := (mm_ye_of (mm_4_0 _ _ _ _) (mm_4_0 _ _ _ _) rfl)
                            have w50 : mm_yg i_7 i_10 i_13 i_16 0 0 i_1 i_3 i_4 := (mm_yg_of (mm_4_0 _ _ _ _) (mm_4_0 _ _ _ _) (mm_xg_of w28 w39 w26 w38 w27 (by decide)))
                            subst hAe
                            rw [hQ]
                            exact W.iret (v := 0) hx hb hr (fun t ht hW => ⟨⟨0, (g46, f_1, f_2, f_3), rfl, (Or.inr (Or.inr (Or.inr (Or.inr (Or.inr (Or.inr (Or.inl ⟨rfl, (mm_wk mm_k0 (by decide)), (mm_wk mm_k0 (by decide)), w47, w48, w49, w50⟩))))))), by rw [ht]; exact hP, hK.warm hW, hD⟩, hS.F ht⟩) hS.2.2 dX11_paste_129
                          · exact mm_eqN c45.symm mm_k0 mm_k1 (by decide)
                  · exact absurd rfl (mm_ne c22)
                · exact mm_eqN c21.symm mm_k0 q19 (by decide)
              · refine W.eq (g2 := F0 m 35 ls [.ref a_13]) rfl ?_
                refine va_get (D := G) (ci := 6) (v := .int i_8) (C := RX6) (T := TX6) (N := 4) hx hb hts (mm_i inlX6) hown hK.1 hP 4 rfl rfl 0 (by decide) (mm_h hts mm_w1239) (fun _ h9 => h9) rfl dX11_paste_35 ?_
                refine lv_if_ne (tgt := 44) hx hb dX11_paste_38 (by decide) (fun c51 => ?_) (fun c51 => ?_)
                · have q52 := mm_neL (lo := 1) (mm_ne c51) h3 mm_k0 (by decide) (by decide)
                  refine lv_aload_n hx hb dX11_paste_44 rfl (lv_at hl 0 rfl) ?_
                  refine va_get (D := G) (ci := 11) (v := .ref a_6) (C := RX11) (T := TX11) (N := 11) hx hb hts (mm_i inlX11) hown hK.1 hP 0 rfl rfl 5 (by decide) (mm_h hts mm_w32) (fun _ h9 => h9) rfl dX11_paste_45 ?_
                  refine lv_iload_n hx hb dX11_paste_48 rfl (lv_at hl 1 rfl) ?_
                  refine va_aldq hx hb hK.1 hP 1 6 rfl rfl (mm_in mm_k0 (by decide)) dX11_paste_49 ?_
                  refine W.eq (g2 := F0 m 50 ls [.ref a_12]) rfl ?_
                  refine va_get (D := G) (ci := 6) (v := .int i_6) (C := RX6) (T := TX6) (N := 4) hx hb hts (mm_i inlX6) hown hK.1 hP 2 rfl rfl 1 (by decide) (mm_h hts mm_w1710) (fun _ h9 => h9) rfl dX11_paste_50 ?_
                  refine lv_aload_n hx hb dX11_paste_53 rfl (lv_at hl 0 rfl) ?_
                  refine va_get (D := G) (ci := 11) (v := .ref a_6) (C := RX11) (T := TX11) (N := 11) hx hb hts (mm_i inlX11) hown hK.1 hP 0 rfl rfl 5 (by decide) (mm_h hts mm_w32) (fun _ h9 => h9) rfl dX11_paste_54 ?_
                  refine lv_iload_n hx hb dX11_paste_57 rfl (lv_at hl 3 rfl) ?_
                  refine va_aldq hx hb hK.1 hP 1 6 rfl rfl (mm_in mm_k1 (by decide)) dX11_paste_58 ?_
                  refine W.eq (g2 := F0 m 59 ls [.ref a_13, .int i_6]) rfl ?_
                  refine va_get (D := G) (ci := 6) (v := .int i_9) (C := RX6) (T := TX6) (N := 4) hx hb hts (mm_i inlX6) hown hK.1 hP 4 rfl rfl 1 (by decide) (mm_h hts mm_w1710) (fun _ h9 => h9) rfl dX11_paste_59 ?_
                  refine lv_icmp_eq (tgt := 68) hx hb dX11_paste_62 (by decide) (fun c53 => ?_) (fun c53 => ?_)
                  · refine lv_aload_n hx hb dX11_paste_68 rfl (lv_at hl 0 rfl) ?_
                    refine va_get (D := G) (ci := 11) (v := .ref a_6) (C := RX11) (T := TX11) (N := 11) hx hb hts (mm_i inlX11) hown hK.1 hP 0 rfl rfl 5 (by decide) (mm_h hts mm_w32) (fun _ h9 => h9) rfl dX11_paste_69 ?_
                    refine lv_iload_n hx hb dX11_paste_72 rfl (lv_at hl 1 rfl) ?_
                    refine va_aldq hx hb hK.1 hP 1 6 rfl rfl (mm_in mm_k0 (by decide)) dX11_paste_73 ?_
                    refine W.eq (g2 := F0 m 74 ls [.ref a_12]) rfl ?_
                    refine lv_iload_n hx hb dX11_paste_74 rfl (lv_at hl 2 rfl) ?_
                    refine lv_iload hx hb dX11_paste_75 (lv_at hl 5 rfl) ?_
                    refine mm_finir (va_runV (As := [.int i_1, .int i_4]) (rest := []) ⟨hx, hb, hml, hown, hts⟩ (C549_X6_reaches l G cy H.size a_12 i_1 i_4 i_5 i_6 i_7 a_16 h2) (cwV 2 hts (mm_gV mm_w1713 mm_w1714 mm_w1715 mm_w34 mm_w1716) rfl rfl rfl hd_X6_reaches ⟨by rw [hRf]; exact Nat.le_of_ble_eq_true rfl, by rw [hRl]; exact Nat.le_of_ble_eq_true rfl⟩) (mm_preV hK hZ hS hA hP hD [2] rfl rfl 2 rfl rfl rfl) rfl rfl hl.1 rfl (lv_room (Nat.le_of_ble_eq_true rfl)) dX11_paste_77 ⟨by rw [hRc]; exact Nat.le_of_ble_eq_true rfl, by rw [hRs]; exact Nat.le_of_ble_eq_true rfl⟩) hP hD hS hA [2] rfl (fun _ => rfl) ?_
                    clear hP hD hS
                    clear H locs
                    intro v54 _u H locs hw hP hD hS
                    rcases hw with ⟨rfl, w55, w56⟩ | ⟨rfl, w57, w58, w59⟩
                    · refine lv_if_eq (tgt := 99) hx hb dX11_paste_80 (by decide) (fun c60 => ?_) (fun c60 => ?_)
                      · refine lv_bipush (v := (-7)) hx hb dX11_paste_99 (by decide) ?_
                        have w61 : mm_y1 i_5 i_8 i_11 i_14 0 := (mm_y1_of (mm_4_0 _ _ _ _) q19 (by decide))
                        have w62 : mm_y1 i_5 i_8 i_11 i_14 1 := (mm_y1_of (mm_4_1 _ _ _ _) q52 (by decide))
                        have w63 : mm_ye i_6 i_9 i_12 i_15 0 1 := (mm_ye_of (mm_4_0 _ _ _ _) (mm_4_1 _ _ _ _) c53)
                        have w64 : mm_yb i_7 i_10 i_13 i_16 0 1 i_1 i_3 i_4 := (mm_yb_of (mm_4_0 _ _ _ _) (mm_4_1 _ _ _ _) (mm_xb_1 w56))
                        subst hAe
                        rw [hQ]
                        exact W.iret (v := (-7)) hx hb hr (fun t ht hW => ⟨⟨(-7), (f_0, f_1, f_2, f_3), rfl, (Or.inr (Or.inr (Or.inr (Or.inr (Or.inr (Or.inl ⟨rfl, (mm_wk mm_k0 (by decide)), (mm_wk mm_k1 (by decide)), w61, w62, w63, w64⟩)))))), by rw [ht]; exact hP, hK.warm hW, hD⟩, hS.F ht⟩) hS.2.2 dX11_paste_101
                      · exact absurd rfl (mm_ne c60)
                    · refine lv_if_eq (tgt := 99) hx hb dX11_paste_80 (by decide) (fun c65 => ?_) (fun c65 => ?_)
                      · exact mm_eqN c65.symm mm_k0 mm_k1 (by decide)
                      · refine lv_aload_n hx hb dX11_paste_83 rfl (lv_at hl 0 rfl) ?_
                        refine va_get (D := G) (ci := 11) (v := .ref a_6) (C := RX11) (T := TX11) (N := 11) hx hb hts (mm_i inlX11) hown hK.1 hP 0 rfl rfl 5 (by decide) (mm_h hts mm_w32) (fun _ h9 => h9) rfl dX11_paste_84 ?_
                        refine lv_iload_n hx hb dX11_paste_87 rfl (lv_at hl 3 rfl) ?_
                        refine va_aldq hx hb hK.1 hP 1 6 rfl rfl (mm_in mm_k1 (by decide)) dX11_paste_88 ?_
                        refine W.eq (g2 := F0 m 89 ls [.ref a_13]) rfl ?_
                        refine lv_iload hx hb dX11_paste_89 (lv_at hl 4 rfl) ?_
                        refine lv_iload hx hb dX11_paste_91 (lv_at hl 5 rfl) ?_
                        refine mm_finir (va_runV (As := [.int i_3, .int i_4]) (rest := []) ⟨hx, hb, hml, hown, hts⟩ (C550_X6_reaches l G cy H.size a_13 i_3 i_4 i_8 i_9 i_10 a_17 w58 h5) (cwV 2 hts (mm_gV mm_w1713 mm_w1714 mm_w1715 mm_w34 mm_w1716) rfl rfl rfl hd_X6_reaches ⟨by rw [hRf]; exact Nat.le_of_ble_eq_true rfl, by rw [hRl]; exact Nat.le_of_ble_eq_true rfl⟩) (mm_preV hK hZ hS hA hP hD [4] rfl rfl 4 rfl rfl rfl) rfl rfl hl.1 rfl (lv_room (Nat.le_of_ble_eq_true rfl)) dX11_paste_93 ⟨by rw [hRc]; exact Nat.le_of_ble_eq_true rfl, by rw [hRs]; exact Nat.le_of_ble_eq_true rfl⟩) hP hD hS hA [4] rfl (fun _ => rfl) ?_
                        clear hP hD hS
                        clear H locs
                        intro v66 _u H locs hw hP hD hS
                        rcases hw with ⟨rfl, w67, w68⟩ | ⟨rfl, w69, w70⟩
                        · refine lv_if_ne (tgt := 102) hx hb dX11_paste_96 (by decide) (fun c71 => ?_) (fun c71 => ?_)
                          · exact absurd rfl (mm_ne c71)
                          · refine lv_bipush (v := (-7)) hx hb dX11_paste_99 (by decide) ?_
                            have w72 : mm_y1 i_5 i_8 i_11 i_14 0 := (mm_y1_of (mm_4_0 _ _ _ _) q19 (by decide))
                            have w73 : mm_y1 i_5 i_8 i_11 i_14 1 := (mm_y1_of (mm_4_1 _ _ _ _) q52 (by decide))
                            have w74 : mm_ye i_6 i_9 i_12 i_15 0 1 := (mm_ye_of (mm_4_0 _ _ _ _) (mm_4_1 _ _ _ _) c53)
                            have w75 : mm_yb i_7 i_10 i_13 i_16 0 1 i_1 i_3 i_4 := (mm_yb_of (mm_4_0 _ _ _ _) (mm_4_1 _ _ _ _) (mm_xb_2 w68))
                            subst hAe
                            rw [hQ]
                            exact W.iret (v := (-7)) hx hb hr (fun t ht hW => ⟨⟨(-7), (f_0, f_1, f_2, f_3), rfl, (Or.inr (Or.inr (Or.inr (Or.inr (Or.inr (Or.inl ⟨rfl, (mm_wk mm_k0 (by decide)), (mm_wk mm_k1 (by decide)), w72, w73, w74, w75⟩)))))), by rw [ht]; exact hP, hK.warm hW, hD⟩, hS.F ht⟩) hS.2.2 dX11_paste_101
                        · refine lv_if_ne (tgt := 102) hx hb dX11_paste_96 (by decide) (fun c76 => ?_) (fun c76 => ?_)
                          · refine lv_aload_n hx hb dX11_paste_102 rfl (lv_at hl 0 rfl) ?_
                            refine va_get (D := G) (ci := 11) (v := .ref a_6) (C := RX11) (T := TX11) (N := 11) hx hb hts (mm_i inlX11) hown hK.1 hP 0 rfl rfl 5 (by decide) (mm_h hts mm_w32) (fun _ h9 => h9) rfl dX11_paste_103 ?_
                            refine lv_iload_n hx hb dX11_paste_106 rfl (lv_at hl 1 rfl) ?_
                            refine va_aldq hx hb hK.1 hP 1 6 rfl rfl (mm_in mm_k0 (by decide)) dX11_paste_107 ?_
                            refine W.eq (g2 := F0 m 108 ls [.ref a_12]) rfl ?_
                            refine va_get (D := G) (ci := 6) (v := .ref a_16) (C := RX6) (T := TX6) (N := 4) hx hb hts (mm_i inlX6) hown hK.1 hP 2 rfl rfl 3 (by decide) (mm_h hts mm_w1711) (fun _ h9 => h9) rfl dX11_paste_108 ?_
                            refine lv_iload_n hx hb dX11_paste_111 rfl (lv_at hl 2 rfl) ?_
                            refine lv_aload_n hx hb dX11_paste_112 rfl (lv_at hl 0 rfl) ?_
                            refine va_get (D := G) (ci := 11) (v := .ref a_6) (C := RX11) (T := TX11) (N := 11) hx hb hts (mm_i inlX11) hown hK.1 hP 0 rfl rfl 5 (by decide) (mm_h hts mm_w32) (fun _ h9 => h9) rfl dX11_paste_113 ?_
                            refine lv_iload_n hx hb dX11_paste_116 rfl (lv_at hl 3 rfl) ?_
                            refine va_aldq hx hb hK.1 hP 1 6 rfl rfl (mm_in mm_k1 (by decide)) dX11_paste_117 ?_
                            refine W.eq (g2 := F0 m 118 ls [.ref a_13, .int i_1, .ref a_16]) rfl ?_
                            refine va_get (D := G) (ci := 6) (v := .ref a_17) (C := RX6) (T := TX6) (N := 4) hx hb hts (mm_i inlX6) hown hK.1 hP 4 rfl rfl 3 (by decide) (mm_h hts mm_w1711) (fun _ h9 => h9) rfl dX11_paste_118 ?_
                            refine lv_iload hx hb dX11_paste_121 (lv_at hl 4 rfl) ?_
                            refine lv_iload hx hb dX11_paste_123 (lv_at hl 5 rfl) ?_
                            refine va_copyl hx hb (by rw [hml]; exact hl.1.symm) hown (mm_h hts mm_w1712) (mm_h hts mm_w388) (mm_h hts mm_w389) (mm_h hts mm_w390) hK.1 hP hD hS 3 5 2 2 rfl rfl rfl rfl rfl (mm_nn w57 (by decide)) (mm_nn w69 (by decide)) (mm_nn w58 (by decide)) (mm_cpR w59 w57 w58 h2 (by decide)) (mm_cpR w70 w69 w58 h5 (by decide)) (fun _ _ => rfl) (by rw [hRf]; exact Nat.le_of_ble_eq_true rfl) (by rw [hRl]; exact Nat.le_of_ble_eq_true rfl) dX11_paste_125 ?_
                            clear hP hD hS
                            clear H locs
                            obtain ⟨g77, eg77⟩ : ∃ z : Nat → Int64, z = va_cpy f_0 f_1 i_1.toNatClampNeg i_3.toNatClampNeg i_4.toNatClampNeg := ⟨_, rfl⟩
                            rw [← eg77]
                            intro H locs (hP : va_P G vwCl [(a_0, .inr (11, [.ref a_1, .ref a_2, .ref a_3, .ref a_4, .ref a_5, .ref a_6, .ref a_7, .ref a_8, .ref a_9, .ref a_10, .ref a_11])), (a_6, .inl (cy 6, 4, .inr (.inr (.inr (.inr (va_up (va_up (va_up (va_up (fun _ => none) 0 (some a_12)) 1 (some a_13)) 2 (some a_14)) 3 (some a_15))))))), (a_12, .inr (6, [.int i_5, .int i_6, .int i_7, .ref a_16])), (a_16, .inl (cy 2, 60, .inr (.inl f_0))), (a_13, .inr (6, [.int i_8, .int i_9, .int i_10, .ref a_17])), (a_17, .inl (cy 2, 60, .inr (.inl g77))), (a_14, .inr (6, [.int i_11, .int i_12, .int i_13, .ref a_18])), (a_18, .inl (cy 2, 60, .inr (.inl f_2))), (a_15, .inr (6, [.int i_14, .int i_15, .int i_16, .ref a_19])), (a_19, .inl (cy 2, 60, .inr (.inl f_3)))] H) (hD : va_D A [(a_0, .inr (11, [.ref a_1, .ref a_2, .ref a_3, .ref a_4, .ref a_5, .ref a_6, .ref a_7, .ref a_8, .ref a_9, .ref a_10, .ref a_11])), (a_6, .inl (cy 6, 4, .inr (.inr (.inr (.inr (va_up (va_up (va_up (va_up (fun _ => none) 0 (some a_12)) 1 (some a_13)) 2 (some a_14)) 3 (some a_15))))))), (a_12, .inr (6, [.int i_5, .int i_6, .int i_7, .ref a_16])), (a_16, .inl (cy 2, 60, .inr (.inl f_0))), (a_13, .inr (6, [.int i_8, .int i_9, .int i_10, .ref a_17])), (a_17, .inl (cy 2, 60, .inr (.inl g77))), (a_14, .inr (6, [.int i_11, .int i_12, .int i_13, .ref a_18])), (a_18, .inl (cy 2, 60, .inr (.inl f_2))), (a_15, .inr (6, [.int i_14, .int i_15, .int i_16, .ref a_19])), (a_19, .inl (cy 2, 60, .inr (.inl f_3)))]) hS
                            refine lv_iconst (v := 0) hx hb dX11_paste_128 (by decide) ?_
                            have w78 : mm_y1 i_5 i_8 i_11 i_14 0 := (mm_y1_of (mm_4_0 _ _ _ _) q19 (by decide))
                            have w79 : mm_y1 i_5 i_8 i_11 i_14 1 := (mm_y1_of (mm_4_1 _ _ _ _) q52 (by decide))
                            have w80 : mm_ye i_6 i_9 i_12 i_15 0 1 := (mm_ye_of (mm_4_0 _ _ _ _) (mm_4_1 _ _ _ _) c53)
                            have w81 : mm_yg i_7 i_10 i_13 i_16 0 1 i_1 i_3 i_4 := (mm_yg_of (mm_4_0 _ _ _ _) (mm_4_1 _ _ _ _) (mm_xg_of w59 w70 w57 w69 w58 (by decide)))
                            subst hAe
                            rw [hQ]
                            exact W.iret (v := 0) hx hb hr (fun t ht hW => ⟨⟨0, (f_0, g77, f_2, f_3), rfl, (Or.inr (Or.inr (Or.inr (Or.inr (Or.inr (Or.inr (Or.inl ⟨rfl, (mm_wk mm_k0 (by decide)), (mm_wk mm_k1 (by decide)), w78, w79, w80, w81⟩))))))), by rw [ht]; exact hP, hK.warm hW, hD⟩, hS.F ht⟩) hS.2.2 dX11_paste_129
                          · exact mm_eqN c76.symm mm_k0 mm_k1 (by decide)
                  · refine lv_bipush (v := (-8)) hx hb dX11_paste_65 (by decide) ?_
                    have w82 : mm_y1 i_5 i_8 i_11 i_14 0 := (mm_y1_of (mm_4_0 _ _ _ _) q19 (by decide))
                    have w83 : mm_y1 i_5 i_8 i_11 i_14 1 := (mm_y1_of (mm_4_1 _ _ _ _) q52 (by decide))
                    have w84 : mm_yn i_6 i_9 i_12 i_15 0 1 := (mm_yn_of (mm_4_0 _ _ _ _) (mm_4_1 _ _ _ _) (mm_ne c53))
                    subst hAe
                    rw [hQ]
                    exact W.iret (v := (-8)) hx hb hr (fun t ht hW => ⟨⟨(-8), (f_0, f_1, f_2, f_3), rfl, (Or.inr (Or.inr (Or.inr (Or.inr (Or.inr (Or.inr (Or.inr (Or.inl ⟨rfl, (mm_wk mm_k0 (by decide)), (mm_wk mm_k1 (by decide)), w82, w83, w84⟩)))))))), by rw [ht]; exact hP, hK.warm hW, hD⟩, hS.F ht⟩) hS.2.2 dX11_paste_67
                · have q85 := mm_eqI (lo := 0) (hi := 0) c51 h3 mm_k0 (by decide)
                  refine lv_bipush (v := (-6)) hx hb dX11_paste_41 (by decide) ?_
                  have w86 : mm_y1 i_5 i_8 i_11 i_14 0 := (mm_y1_of (mm_4_0 _ _ _ _) q19 (by decide))
                  have w87 : mm_y0 i_5 i_8 i_11 i_14 1 := (mm_y0_of (mm_4_1 _ _ _ _) q85 (by decide))
                  subst hAe
                  rw [hQ]
                  exact W.iret (v := (-6)) hx hb hr (fun t ht hW => ⟨⟨(-6), (f_0, f_1, f_2, f_3), rfl, (Or.inr (Or.inr (Or.inr (Or.inr (Or.inr (Or.inr (Or.inr (Or.inr ⟨rfl, (mm_wk mm_k0 (by decide)), (mm_wk mm_k1 (by decide)), w86, w87⟩)))))))), by rw [ht]; exact hP, hK.warm hW, hD⟩, hS.F ht⟩) hS.2.2 dX11_paste_43
              · refine W.eq (g2 := F0 m 35 ls [.ref a_14]) rfl ?_
                refine va_get (D := G) (ci := 6) (v := .int i_11) (C := RX6) (T := TX6) (N := 4) hx hb hts (mm_i inlX6) hown hK.1 hP 6 rfl rfl 0 (by decide) (mm_h hts mm_w1239) (fun _ h9 => h9) rfl dX11_paste_35 ?_
                refine lv_if_ne (tgt := 44) hx hb dX11_paste_38 (by decide) (fun c88 => ?_) (fun c88 => ?_)
                · have q89 := mm_neL (lo := 1) (mm_ne c88) h6 mm_k0 (by decide) (by decide)
                  refine lv_aload_n hx hb dX11_paste_44 rfl (lv_at hl 0 rfl) ?_
                  refine va_get (D := G) (ci := 11) (v := .ref a_6) (C := RX11) (T := TX11) (N := 11) hx hb hts (mm_i inlX11) hown hK.1 hP 0 rfl rfl 5 (by decide) (mm_h hts mm_w32) (fun _ h9 => h9) rfl dX11_paste_45 ?_
                  refine lv_iload_n hx hb dX11_paste_48 rfl (lv_at hl 1 rfl) ?_
                  refine va_aldq hx hb hK.1 hP 1 6 rfl rfl (mm_in mm_k0 (by decide)) dX11_paste_49 ?_
                  refine W.eq (g2 := F0 m 50 ls [.ref a_12]) rfl ?_
                  refine va_get (D := G) (ci := 6) (v := .int i_6) (C := RX6) (T := TX6) (N := 4) hx hb hts (mm_i inlX6) hown hK.1 hP 2 rfl rfl 1 (by decide) (mm_h hts mm_w1710) (fun _ h9 => h9) rfl dX11_paste_50 ?_
                  refine lv_aload_n hx hb dX11_paste_53 rfl (lv_at hl 0 rfl) ?_
                  refine va_get (D := G) (ci := 11) (v := .ref a_6) (C := RX11) (T := TX11) (N := 11) hx hb hts (mm_i inlX11) hown hK.1 hP 0 rfl rfl 5 (by decide) (mm_h hts mm_w32) (fun _ h9 => h9) rfl dX11_paste_54 ?_
                  refine lv_iload_n hx hb dX11_paste_57 rfl (lv_at hl 3 rfl) ?_
                  refine va_aldq hx hb hK.1 hP 1 6 rfl rfl (mm_in mm_k2 (by decide)) dX11_paste_58 ?_
                  refine W.eq (g2 := F0 m 59 ls [.ref a_14, .int i_6]) rfl ?_
                  refine va_get (D := G) (ci := 6) (v := .int i_12) (C := RX6) (T := TX6) (N := 4) hx hb hts (mm_i inlX6) hown hK.1 hP 6 rfl rfl 1 (by decide) (mm_h hts mm_w1710) (fun _ h9 => h9) rfl dX11_paste_59 ?_
                  refine lv_icmp_eq (tgt := 68) hx hb dX11_paste_62 (by decide) (fun c90 => ?_) (fun c90 => ?_)
                  · refine lv_aload_n hx hb dX11_paste_68 rfl (lv_at hl 0 rfl) ?_
                    refine va_get (D := G) (ci := 11) (v := .ref a_6) (C := RX11) (T := TX11) (N := 11) hx hb hts (mm_i inlX11) hown hK.1 hP 0 rfl rfl 5 (by decide) (mm_h hts mm_w32) (fun _ h9 => h9) rfl dX11_paste_69 ?_
                    refine lv_iload_n hx hb dX11_paste_72 rfl (lv_at hl 1 rfl) ?_
                    refine va_aldq hx hb hK.1 hP 1 6 rfl rfl (mm_in mm_k0 (by decide)) dX11_paste_73 ?_
                    refine W.eq (g2 := F0 m 74 ls [.ref a_12]) rfl ?_
                    refine lv_iload_n hx hb dX11_paste_74 rfl (lv_at hl 2 rfl) ?_
                    refine lv_iload hx hb dX11_paste_75 (lv_at hl 5 rfl) ?_
                    refine mm_finir (va_runV (As := [.int i_1, .int i_4]) (rest := []) ⟨hx, hb, hml, hown, hts⟩ (C549_X6_reaches l G cy H.size a_12 i_1 i_4 i_5 i_6 i_7 a_16 h2) (cwV 2 hts (mm_gV mm_w1713 mm_w1714 mm_w1715 mm_w34 mm_w1716) rfl rfl rfl hd_X6_reaches ⟨by rw [hRf]; exact Nat.le_of_ble_eq_true rfl, by rw [hRl]; exact Nat.le_of_ble_eq_true rfl⟩) (mm_preV hK hZ hS hA hP hD [2] rfl rfl 2 rfl rfl rfl) rfl rfl hl.1 rfl (lv_room (Nat.le_of_ble_eq_true rfl)) dX11_paste_77 ⟨by rw [hRc]; exact Nat.le_of_ble_eq_true rfl, by rw [hRs]; exact Nat.le_of_ble_eq_true rfl⟩) hP hD hS hA [2] rfl (fun _ => rfl) ?_
                    clear hP hD hS
                    clear H locs
                    intro v91 _u H locs hw hP hD hS
                    rcases hw with ⟨rfl, w92, w93⟩ | ⟨rfl, w94, w95, w96⟩
                    · refine lv_if_eq (tgt := 99) hx hb dX11_paste_80 (by decide) (fun c97 => ?_) (fun c97 => ?_)
                      · refine lv_bipush (v := (-7)) hx hb dX11_paste_99 (by decide) ?_
                        have w98 : mm_y1 i_5 i_8 i_11 i_14 0 := (mm_y1_of (mm_4_0 _ _ _ _) q19 (by decide))
                        have w99 : mm_y1 i_5 i_8 i_11 i_14 2 := (mm_y1_of (mm_4_2 _ _ _ _) q89 (by decide))
                        have w100 : mm_ye i_6 i_9 i_12 i_15 0 2 := (mm_ye_of (mm_4_0 _ _ _ _) (mm_4_2 _ _ _ _) c90)
                        have w101 : mm_yb i_7 i_10 i_13 i_16 0 2 i_1 i_3 i_4 := (mm_yb_of (mm_4_0 _ _ _ _) (mm_4_2 _ _ _ _) (mm_xb_1 w93))
                        subst hAe
                        rw [hQ]
                        exact W.iret (v := (-7)) hx hb hr (fun t ht hW => ⟨⟨(-7), (f_0, f_1, f_2, f_3), rfl, (Or.inr (Or.inr (Or.inr (Or.inr (Or.inr (Or.inl ⟨rfl, (mm_wk mm_k0 (by decide)), (mm_wk mm_k2 (by decide)), w98, w99, w100, w101⟩)))))), by rw [ht]; exact hP, hK.warm hW, hD⟩, hS.F ht⟩) hS.2.2 dX11_paste_101
                      · exact absurd rfl (mm_ne c97)
                    · refine lv_if_eq (tgt := 99) hx hb dX11_paste_80 (by decide) (fun c102 => ?_) (fun c102 => ?_)
                      · exact mm_eqN c102.symm mm_k0 mm_k1 (by decide)
                      · refine lv_aload_n hx hb dX11_paste_83 rfl (lv_at hl 0 rfl) ?_
                        refine va_get (D := G) (ci := 11) (v := .ref a_6) (C := RX11) (T := TX11) (N := 11) hx hb hts (mm_i inlX11) hown hK.1 hP 0 rfl rfl 5 (by decide) (mm_h hts mm_w32) (fun _ h9 => h9) rfl dX11_paste_84 ?_
                        refine lv_iload_n hx hb dX11_paste_87 rfl (lv_at hl 3 rfl) ?_
                        refine va_aldq hx hb hK.1 hP 1 6 rfl rfl (mm_in mm_k2 (by decide)) dX11_paste_88 ?_
                        refine W.eq (g2 := F0 m 89 ls [.ref a_14]) rfl ?_
                        refine lv_iload hx hb dX11_paste_89 (lv_at hl 4 rfl) ?_
                        refine lv_iload hx hb dX11_paste_91 (lv_at hl 5 rfl) ?_
                        refine mm_finir (va_runV (As := [.int i_3, .int i_4]) (rest := []) ⟨hx, hb, hml, hown, hts⟩ (C550_X6_reaches l G cy H.size a_14 i_3 i_4 i_11 i_12 i_13 a_18 w95 h8) (cwV 2 hts (mm_gV mm_w1713 mm_w1714 mm_w1715 mm_w34 mm_w1716) rfl rfl rfl hd_X6_reaches ⟨by rw [hRf]; exact Nat.le_of_ble_eq_true rfl, by rw [hRl]; exact Nat.le_of_ble_eq_true rfl⟩) (mm_preV hK hZ hS hA hP hD [6] rfl rfl 6 rfl rfl rfl) rfl rfl hl.1 rfl (lv_room (Nat.le_of_ble_eq_true rfl)) dX11_paste_93 ⟨by rw [hRc]; exact Nat.le_of_ble_eq_true rfl, by rw [hRs]; exact Nat.le_of_ble_eq_true rfl⟩) hP hD hS hA [6] rfl (fun _ => rfl) ?_
                        clear hP hD hS
                        clear H locs
                        intro v103 _u H locs hw hP hD hS
                        rcases hw with ⟨rfl, w104, w105⟩ | ⟨rfl, w106, w107⟩
                        · refine lv_if_ne (tgt := 102) hx hb dX11_paste_96 (by decide) (fun c108 => ?_) (fun c108 => ?_)
                          · exact absurd rfl (mm_ne c108)
                          · refine lv_bipush (v := (-7)) hx hb dX11_paste_99 (by decide) ?_
                            have w109 : mm_y1 i_5 i_8 i_11 i_14 0 := (mm_y1_of (mm_4_0 _ _ _ _) q19 (by decide))
                            have w110 : mm_y1 i_5 i_8 i_11 i_14 2 := (mm_y1_of (mm_4_2 _ _ _ _) q89 (by decide))
                            have w111 : mm_ye i_6 i_9 i_12 i_15 0 2 := (mm_ye_of (mm_4_0 _ _ _ _) (mm_4_2 _ _ _ _) c90)
                            have w112 : mm_yb i_7 i_10 i_13 i_16 0 2 i_1 i_3 i_4 := (mm_yb_of (mm_4_0 _ _ _ _) (mm_4_2 _ _ _ _) (mm_xb_2 w105))
                            subst hAe
                            rw [hQ]
                            exact W.iret (v := (-7)) hx hb hr (fun t ht hW => ⟨⟨(-7), (f_0, f_1, f_2, f_3), rfl, (Or.inr (Or.inr (Or.inr (Or.inr (Or.inr (Or.inl ⟨rfl, (mm_wk mm_k0 (by decide)), (mm_wk mm_k2 (by decide)), w109, w110, w111, w112⟩)))))), by rw [ht]; exact hP, hK.warm hW, hD⟩, hS.F ht⟩) hS.2.2 dX11_paste_101
                        · refine lv_if_ne (tgt := 102) hx hb dX11_paste_96 (by decide) (fun c113 => ?_) (fun c113 => ?_)
                          · refine lv_aload_n hx hb dX11_paste_102 rfl (lv_at hl 0 rfl) ?_
                            refine va_get (D := G) (ci := 11) (v := .ref a_6) (C := RX11) (T := TX11) (N := 11) hx hb hts (mm_i inlX11) hown hK.1 hP 0 rfl rfl 5 (by decide) (mm_h hts mm_w32) (fun _ h9 => h9) rfl dX11_paste_103 ?_
                            refine lv_iload_n hx hb dX11_paste_106 rfl (lv_at hl 1 rfl) ?_
                            refine va_aldq hx hb hK.1 hP 1 6 rfl rfl (mm_in mm_k0 (by decide)) dX11_paste_107 ?_
                            refine W.eq (g2 := F0 m 108 ls [.ref a_12]) rfl ?_
                            refine va_get (D := G) (ci := 6) (v := .ref a_16) (C := RX6) (T := TX6) (N := 4) hx hb hts (mm_i inlX6) hown hK.1 hP 2 rfl rfl 3 (by decide) (mm_h hts mm_w1711) (fun _ h9 => h9) rfl dX11_paste_108 ?_
                            refine lv_iload_n hx hb dX11_paste_111 rfl (lv_at hl 2 rfl) ?_
                            refine lv_aload_n hx hb dX11_paste_112 rfl (lv_at hl 0 rfl) ?_
                            refine va_get (D := G) (ci := 11) (v := .ref a_6) (C := RX11) (T := TX11) (N := 11) hx hb hts (mm_i inlX11) hown hK.1 hP 0 rfl rfl 5 (by decide) (mm_h hts mm_w32) (fun _ h9 => h9) rfl dX11_paste_113 ?_
                            refine lv_iload_n hx hb dX11_paste_116 rfl (lv_at hl 3 rfl) ?_
                            refine va_aldq hx hb hK.1 hP 1 6 rfl rfl (mm_in mm_k2 (by decide)) dX11_paste_117 ?_
                            refine W.eq (g2 := F0 m 118 ls [.ref a_14, .int i_1, .ref a_16]) rfl ?_
                            refine va_get (D := G) (ci := 6) (v := .ref a_18) (C := RX6) (T := TX6) (N := 4) hx hb hts (mm_i inlX6) hown hK.1 hP 6 rfl rfl 3 (by decide) (mm_h hts mm_w1711) (fun _ h9 => h9) rfl dX11_paste_118 ?_
                            refine lv_iload hx hb dX11_paste_121 (lv_at hl 4 rfl) ?_
                            refine lv_iload hx hb dX11_paste_123 (lv_at hl 5 rfl) ?_
                            refine va_copyl hx hb (by rw [hml]; exact hl.1.symm) hown (mm_h hts mm_w1712) (mm_h hts mm_w388) (mm_h hts mm_w389) (mm_h hts mm_w390) hK.1 hP hD hS 3 7 2 2 rfl rfl rfl rfl rfl (mm_nn w94 (by decide)) (mm_nn w106 (by decide)) (mm_nn w95 (by decide)) (mm_cpR w96 w94 w95 h2 (by decide)) (mm_cpR w107 w106 w95 h8 (by decide)) (fun _ _ => rfl) (by rw [hRf]; exact Nat.le_of_ble_eq_true rfl) (by rw [hRl]; exact Nat.le_of_ble_eq_true rfl) dX11_paste_125 ?_
                            clear hP hD hS
                            clear H locs
                            obtain ⟨g114, eg114⟩ : ∃ z : Nat → Int64, z = va_cpy f_0 f_2 i_1.toNatClampNeg i_3.toNatClampNeg i_4.toNatClampNeg := ⟨_, rfl⟩
                            rw [← eg114]
                            intro H locs (hP : va_P G vwCl [(a_0, .inr (11, [.ref a_1, .ref a_2, .ref a_3, .ref a_4, .ref a_5, .ref a_6, .ref a_7, .ref a_8, .ref a_9, .ref a_10, .ref a_11])), (a_6, .inl (cy 6, 4, .inr (.inr (.inr (.inr (va_up (va_up (va_up (va_up (fun _ => none) 0 (some a_12)) 1 (some a_13)) 2 (some a_14)) 3 (some a_15))))))), (a_12, .inr (6, [.int i_5, .int i_6, .int i_7, .ref a_16])), (a_16, .inl (cy 2, 60, .inr (.inl f_0))), (a_13, .inr (6, [.int i_8, .int i_9, .int i_10, .ref a_17])), (a_17, .inl (cy 2, 60, .inr (.inl f_1))), (a_14, .inr (6, [.int i_11, .int i_12, .int i_13, .ref a_18])), (a_18, .inl (cy 2, 60, .inr (.inl g114))), (a_15, .inr (6, [.int i_14, .int i_15, .int i_16, .ref a_19])), (a_19, .inl (cy 2, 60, .inr (.inl f_3)))] H) (hD : va_D A [(a_0, .inr (11, [.ref a_1, .ref a_2, .ref a_3, .ref a_4, .ref a_5, .ref a_6, .ref a_7, .ref a_8, .ref a_9, .ref a_10, .ref a_11])), (a_6, .inl (cy 6, 4, .inr (.inr (.inr (.inr (va_up (va_up (va_up (va_up (fun _ => none) 0 (some a_12)) 1 (some a_13)) 2 (some a_14)) 3 (some a_15))))))), (a_12, .inr (6, [.int i_5, .int i_6, .int i_7, .ref a_16])), (a_16, .inl (cy 2, 60, .inr (.inl f_0))), (a_13, .inr (6, [.int i_8, .int i_9, .int i_10, .ref a_17])), (a_17, .inl (cy 2, 60, .inr (.inl f_1))), (a_14, .inr (6, [.int i_11, .int i_12, .int i_13, .ref a_18])), (a_18, .inl (cy 2, 60, .inr (.inl g114))), (a_15, .inr (6, [.int i_14, .int i_15, .int i_16, .ref a_19])), (a_19, .inl (cy 2, 60, .inr (.inl f_3)))]) hS
                            refine lv_iconst (v := 0) hx hb dX11_paste_128 (by decide) ?_
                            have w115 : mm_y1 i_5 i_8 i_11 i_14 0 := (mm_y1_of (mm_4_0 _ _ _ _) q19 (by decide))
                            have w116 : mm_y1 i_5 i_8 i_11 i_14 2 := (mm_y1_of (mm_4_2 _ _ _ _) q89 (by decide))
                            have w117 : mm_ye i_6 i_9 i_12 i_15 0 2 := (mm_ye_of (mm_4_0 _ _ _ _) (mm_4_2 _ _ _ _) c90)
                            have w118 : mm_yg i_7 i_10 i_13 i_16 0 2 i_1 i_3 i_4 := (mm_yg_of (mm_4_0 _ _ _ _) (mm_4_2 _ _ _ _) (mm_xg_of w96 w107 w94 w106 w95 (by decide)))
                            subst hAe
                            rw [hQ]
                            exact W.iret (v := 0) hx hb hr (fun t ht hW => ⟨⟨0, (f_0, f_1, g114, f_3), rfl, (Or.inr (Or.inr (Or.inr (Or.inr (Or.inr (Or.inr (Or.inl ⟨rfl, (mm_wk mm_k0 (by decide)), (mm_wk mm_k2 (by decide)), w115, w116, w117, w118⟩))))))), by rw [ht]; exact hP, hK.warm hW, hD⟩, hS.F ht⟩) hS.2.2 dX11_paste_129
                          · exact mm_eqN c113.symm mm_k0 mm_k1 (by decide)
                  · refine lv_bipush (v := (-8)) hx hb dX11_paste_65 (by decide) ?_
                    have w119 : mm_y1 i_5 i_8 i_11 i_14 0 := (mm_y1_of (mm_4_0 _ _ _ _) q19 (by decide))
                    have w120 : mm_y1 i_5 i_8 i_11 i_14 2 := (mm_y1_of (mm_4_2 _ _ _ _) q89 (by decide))
                    have w121 : mm_yn i_6 i_9 i_12 i_15 0 2 := (mm_yn_of (mm_4_0 _ _ _ _) (mm_4_2 _ _ _ _) (mm_ne c90))
                    subst hAe
                    rw [hQ]
                    exact W.iret (v := (-8)) hx hb hr (fun t ht hW => ⟨⟨(-8), (f_0, f_1, f_2, f_3), rfl, (Or.inr (Or.inr (Or.inr (Or.inr (Or.inr (Or.inr (Or.inr (Or.inl ⟨rfl, (mm_wk mm_k0 (by decide)), (mm_wk mm_k2 (by decide)), w119, w120, w121⟩)))))))), by rw [ht]; exact hP, hK.warm hW, hD⟩, hS.F ht⟩) hS.2.2 dX11_paste_67
                · have q122 := mm_eqI (lo := 0) (hi := 0) c88 h6 mm_k0 (by decide)
                  refine lv_bipush (v := (-6)) hx hb dX11_paste_41 (by decide) ?_
                  have w123 : mm_y1 i_5 i_8 i_11 i_14 0 := (mm_y1_of (mm_4_0 _ _ _ _) q19 (by decide))
                  have w124 : mm_y0 i_5 i_8 i_11 i_14 2 := (mm_y0_of (mm_4_2 _ _ _ _) q122 (by decide))
                  subst hAe
                  rw [hQ]
                  exact W.iret (v := (-6)) hx hb hr (fun t ht hW => ⟨⟨(-6), (f_0, f_1, f_2, f_3), rfl, (Or.inr (Or.inr (Or.inr (Or.inr (Or.inr (Or.inr (Or.inr (Or.inr ⟨rfl, (mm_wk mm_k0 (by decide)), (mm_wk mm_k2 (by decide)), w123, w124⟩)))))))), by rw [ht]; exact hP, hK.warm hW, hD⟩, hS.F ht⟩) hS.2.2 dX11_paste_43
              · refine W.eq (g2 := F0 m 35 ls [.ref a_15]) rfl ?_
                refine va_get (D := G) (ci := 6) (v := .int i_14) (C := RX6) (T := TX6) (N := 4) hx hb hts (mm_i inlX6) hown hK.1 hP 8 rfl rfl 0 (by decide) (mm_h hts mm_w1239) (fun _ h9 => h9) rfl dX11_paste_35 ?_
                refine lv_if_ne (tgt := 44) hx hb dX11_paste_38 (by decide) (fun c125 => ?_) (fun c125 => ?_)
                · have q126 := mm_neL (lo := 1) (mm_ne c125) h9 mm_k0 (by decide) (by decide)
                  refine lv_aload_n hx hb dX11_paste_44 rfl (lv_at hl 0 rfl) ?_
                  refine va_get (D := G) (ci := 11) (v := .ref a_6) (C := RX11) (T := TX11) (N := 11) hx hb hts (mm_i inlX11) hown hK.1 hP 0 rfl rfl 5 (by decide) (mm_h hts mm_w32) (fun _ h9 => h9) rfl dX11_paste_45 ?_
                  refine lv_iload_n hx hb dX11_paste_48 rfl (lv_at hl 1 rfl) ?_
                  refine va_aldq hx hb hK.1 hP 1 6 rfl rfl (mm_in mm_k0 (by decide)) dX11_paste_49 ?_
                  refine W.eq (g2 := F0 m 50 ls [.ref a_12]) rfl ?_
                  refine va_get (D := G) (ci := 6) (v := .int i_6) (C := RX6) (T := TX6) (N := 4) hx hb hts (mm_i inlX6) hown hK.1 hP 2 rfl rfl 1 (by decide) (mm_h hts mm_w1710) (fun _ h9 => h9) rfl dX11_paste_50 ?_
                  refine lv_aload_n hx hb dX11_paste_53 rfl (lv_at hl 0 rfl) ?_
                  refine va_get (D := G) (ci := 11) (v := .ref a_6) (C := RX11) (T := TX11) (N := 11) hx hb hts (mm_i inlX11) hown hK.1 hP 0 rfl rfl 5 (by decide) (mm_h hts mm_w32) (fun _ h9 => h9) rfl dX11_paste_54 ?_
                  refine lv_iload_n hx hb dX11_paste_57 rfl (lv_at hl 3 rfl) ?_
                  refine va_aldq hx hb hK.1 hP 1 6 rfl rfl (mm_in mm_k3 (by decide)) dX11_paste_58 ?_
                  refine W.eq (g2 := F0 m 59 ls [.ref a_15, .int i_6]) rfl ?_
                  refine va_get (D := G) (ci := 6) (v := .int i_15) (C := RX6) (T := TX6) (N := 4) hx hb hts (mm_i inlX6) hown hK.1 hP 8 rfl rfl 1 (by decide) (mm_h hts mm_w1710) (fun _ h9 => h9) rfl dX11_paste_59 ?_
                  refine lv_icmp_eq (tgt := 68) hx hb dX11_paste_62 (by decide) (fun c127 => ?_) (fun c127 => ?_)
                  · refine lv_aload_n hx hb dX11_paste_68 rfl (lv_at hl 0 rfl) ?_
                    refine va_get (D := G) (ci := 11) (v := .ref a_6) (C := RX11) (T := TX11) (N := 11) hx hb hts (mm_i inlX11) hown hK.1 hP 0 rfl rfl 5 (by decide) (mm_h hts mm_w32) (fun _ h9 => h9) rfl dX11_paste_69 ?_
                    refine lv_iload_n hx hb dX11_paste_72 rfl (lv_at hl 1 rfl) ?_
                    refine va_aldq hx hb hK.1 hP 1 6 rfl rfl (mm_in mm_k0 (by decide)) dX11_paste_73 ?_
                    refine W.eq (g2 := F0 m 74 ls [.ref a_12]) rfl ?_
                    refine lv_iload_n hx hb dX11_paste_74 rfl (lv_at hl 2 rfl) ?_
                    refine lv_iload hx hb dX11_paste_75 (lv_at hl 5 rfl) ?_
                    refine mm_finir (va_runV (As := [.int i_1, .int i_4]) (rest := []) ⟨hx, hb, hml, hown, hts⟩ (C549_X6_reaches l G cy H.size a_12 i_1 i_4 i_5 i_6 i_7 a_16 h2) (cwV 2 hts (mm_gV mm_w1713 mm_w1714 mm_w1715 mm_w34 mm_w1716) rfl rfl rfl hd_X6_reaches ⟨by rw [hRf]; exact Nat.le_of_ble_eq_true rfl, by rw [hRl]; exact Nat.le_of_ble_eq_true rfl⟩) (mm_preV hK hZ hS hA hP hD [2] rfl rfl 2 rfl rfl rfl) rfl rfl hl.1 rfl (lv_room (Nat.le_of_ble_eq_true rfl)) dX11_paste_77 ⟨by rw [hRc]; exact Nat.le_of_ble_eq_true rfl, by rw [hRs]; exact Nat.le_of_ble_eq_true rfl⟩) hP hD hS hA [2] rfl (fun _ => rfl) ?_
                    clear hP hD hS
                    clear H locs
                    intro v128 _u H locs hw hP hD hS
                    rcases hw with ⟨rfl, w129, w130⟩ | ⟨rfl, w131, w132, w133⟩
                    · refine lv_if_eq (tgt := 99) hx hb dX11_paste_80 (by decide) (fun c134 => ?_) (fun c134 => ?_)
                      · refine lv_bipush (v := (-7)) hx hb dX11_paste_99 (by decide) ?_
                        have w135 : mm_y1 i_5 i_8 i_11 i_14 0 := (mm_y1_of (mm_4_0 _ _ _ _) q19 (by decide))
                        have w136 : mm_y1 i_5 i_8 i_11 i_14 3 := (mm_y1_of (mm_4_3 _ _ _ _) q126 (by decide))
                        have w137 : mm_ye i_6 i_9 i_12 i_15 0 3 := (mm_ye_of (mm_4_0 _ _ _ _) (mm_4_3 _ _ _ _) c127)
                        have w138 : mm_yb i_7 i_10 i_13 i_16 0 3 i_1 i_3 i_4 := (mm_yb_of (mm_4_0 _ _ _ _) (mm_4_3 _ _ _ _) (mm_xb_1 w130))
                        subst hAe
                        rw [hQ]
                        exact W.iret (v := (-7)) hx hb hr (fun t ht hW => ⟨⟨(-7), (f_0, f_1, f_2, f_3), rfl, (Or.inr (Or.inr (Or.inr (Or.inr (Or.inr (Or.inl ⟨rfl, (mm_wk mm_k0 (by decide)), (mm_wk mm_k3 (by decide)), w135, w136, w137, w138⟩)))))), by rw [ht]; exact hP, hK.warm hW, hD⟩, hS.F ht⟩) hS.2.2 dX11_paste_101
                      · exact absurd rfl (mm_ne c134)
                    · refine lv_if_eq (tgt := 99) hx hb dX11_paste_80 (by decide) (fun c139 => ?_) (fun c139 => ?_)
                      · exact mm_eqN c139.symm mm_k0 mm_k1 (by decide)
                      · refine lv_aload_n hx hb dX11_paste_83 rfl (lv_at hl 0 rfl) ?_
                        refine va_get (D := G) (ci := 11) (v := .ref a_6) (C := RX11) (T := TX11) (N := 11) hx hb hts (mm_i inlX11) hown hK.1 hP 0 rfl rfl 5 (by decide) (mm_h hts mm_w32) (fun _ h9 => h9) rfl dX11_paste_84 ?_
                        refine lv_iload_n hx hb dX11_paste_87 rfl (lv_at hl 3 rfl) ?_
                        refine va_aldq hx hb hK.1 hP 1 6 rfl rfl (mm_in mm_k3 (by decide)) dX11_paste_88 ?_
                        refine W.eq (g2 := F0 m 89 ls [.ref a_15]) rfl ?_
                        refine lv_iload hx hb dX11_paste_89 (lv_at hl 4 rfl) ?_
                        refine lv_iload hx hb dX11_paste_91 (lv_at hl 5 rfl) ?_
                        refine mm_finir (va_runV (As := [.int i_3, .int i_4]) (rest := []) ⟨hx, hb, hml, hown, hts⟩ (C550_X6_reaches l G cy H.size a_15 i_3 i_4 i_14 i_15 i_16 a_19 w132 h11) (cwV 2 hts (mm_gV mm_w1713 mm_w1714 mm_w1715 mm_w34 mm_w1716) rfl rfl rfl hd_X6_reaches ⟨by rw [hRf]; exact Nat.le_of_ble_eq_true rfl, by rw [hRl]; exact Nat.le_of_ble_eq_true rfl⟩) (mm_preV hK hZ hS hA hP hD [8] rfl rfl 8 rfl rfl rfl) rfl rfl hl.1 rfl (lv_room (Nat.le_of_ble_eq_true rfl)) dX11_paste_93 ⟨by rw [hRc]; exact Nat.le_of_ble_eq_true rfl, by rw [hRs]; exact Nat.le_of_ble_eq_true rfl⟩) hP hD hS hA [8] rfl (fun _ => rfl) ?_
                        clear hP hD hS
                        clear H locs
                        intro v140 _u H locs hw hP hD hS
                        rcases hw with ⟨rfl, w141, w142⟩ | ⟨rfl, w143, w144⟩
                        · refine lv_if_ne (tgt := 102) hx hb dX11_paste_96 (by decide) (fun c145 => ?_) (fun c145 => ?_)
                          · exact absurd rfl (mm_ne c145)
                          · refine lv_bipush (v := (-7)) hx hb dX11_paste_99 (by decide) ?_
                            have w146 : mm_y1 i_5 i_8 i_11 i_14 0 := (mm_y1_of (mm_4_0 _ _ _ _) q19 (by decide))
                            have w147 : mm_y1 i_5 i_8 i_11 i_14 3 := (mm_y1_of (mm_4_3 _ _ _ _) q126 (by decide))
                            have w148 : mm_ye i_6 i_9 i_12 i_15 0 3 := (mm_ye_of (mm_4_0 _ _ _ _) (mm_4_3 _ _ _ _) c127)
                            have w149 : mm_yb i_7 i_10 i_13 i_16 0 3 i_1 i_3 i_4 := (mm_yb_of (mm_4_0 _ _ _ _) (mm_4_3 _ _ _ _) (mm_xb_2 w142))
                            subst hAe
                            rw [hQ]
                            exact W.iret (v := (-7)) hx hb hr (fun t ht hW => ⟨⟨(-7), (f_0, f_1, f_2, f_3), rfl, (Or.inr (Or.inr (Or.inr (Or.inr (Or.inr (Or.inl ⟨rfl, (mm_wk mm_k0 (by decide)), (mm_wk mm_k3 (by decide)), w146, w147, w148, w149⟩)))))), by rw [ht]; exact hP, hK.warm hW, hD⟩, hS.F ht⟩) hS.2.2 dX11_paste_101
                        · refine lv_if_ne (tgt := 102) hx hb dX11_paste_96 (by decide) (fun c150 => ?_) (fun c150 => ?_)
                          · refine lv_aload_n hx hb dX11_paste_102 rfl (lv_at hl 0 rfl) ?_
                            refine va_get (D := G) (ci := 11) (v := .ref a_6) (C := RX11) (T := TX11) (N := 11) hx hb hts (mm_i inlX11) hown hK.1 hP 0 rfl rfl 5 (by decide) (mm_h hts mm_w32) (fun _ h9 => h9) rfl dX11_paste_103 ?_
                            refine lv_iload_n hx hb dX11_paste_106 rfl (lv_at hl 1 rfl) ?_
                            refine va_aldq hx hb hK.1 hP 1 6 rfl rfl (mm_in mm_k0 (by decide)) dX11_paste_107 ?_
                            refine W.eq (g2 := F0 m 108 ls [.ref a_12]) rfl ?_
                            refine va_get (D := G) (ci := 6) (v := .ref a_16) (C := RX6) (T := TX6) (N := 4) hx hb hts (mm_i inlX6) hown hK.1 hP 2 rfl rfl 3 (by decide) (mm_h hts mm_w1711) (fun _ h9 => h9) rfl dX11_paste_108 ?_
                            refine lv_iload_n hx hb dX11_paste_111 rfl (lv_at hl 2 rfl) ?_
                            refine lv_aload_n hx hb dX11_paste_112 rfl (lv_at hl 0 rfl) ?_
                            refine va_get (D := G) (ci := 11) (v := .ref a_6) (C := RX11) (T := TX11) (N := 11) hx hb hts (mm_i inlX11) hown hK.1 hP 0 rfl rfl 5 (by decide) (mm_h hts mm_w32) (fun _ h9 => h9) rfl dX11_paste_113 ?_
                            refine lv_iload_n hx hb dX11_paste_116 rfl (lv_at hl 3 rfl) ?_
                            refine va_aldq hx hb hK.1 hP 1 6 rfl rfl (mm_in mm_k3 (by decide)) dX11_paste_117 ?_
                            refine W.eq (g2 := F0 m 118 ls [.ref a_15, .int i_1, .ref a_16]) rfl ?_
                            refine va_get (D := G) (ci := 6) (v := .ref a_19) (C := RX6) (T := TX6) (N := 4) hx hb hts (mm_i inlX6) hown hK.1 hP 8 rfl rfl 3 (by decide) (mm_h hts mm_w1711) (fun _ h9 => h9) rfl dX11_paste_118 ?_
                            refine lv_iload hx hb dX11_paste_121 (lv_at hl 4 rfl) ?_
                            refine lv_iload hx hb dX11_paste_123 (lv_at hl 5 rfl) ?_
                            refine va_copyl hx hb (by rw [hml]; exact hl.1.symm) hown (mm_h hts mm_w1712) (mm_h hts mm_w388) (mm_h hts mm_w389) (mm_h hts mm_w390) hK.1 hP hD hS 3 9 2 2 rfl rfl rfl rfl rfl (mm_nn w131 (by decide)) (mm_nn w143 (by decide)) (mm_nn w132 (by decide)) (mm_cpR w133 w131 w132 h2 (by decide)) (mm_cpR w144 w143 w132 h11 (by decide)) (fun _ _ => rfl) (by rw [hRf]; exact Nat.le_of_ble_eq_true rfl) (by rw [hRl]; exact Nat.le_of_ble_eq_true rfl) dX11_paste_125 ?_
                            clear hP hD hS
                            clear H locs
                            obtain ⟨g151, eg151⟩ : ∃ z : Nat → Int64, z = va_cpy f_0 f_3 i_1.toNatClampNeg i_3.toNatClampNeg i_4.toNatClampNeg := ⟨_, rfl⟩
                            rw [← eg151]
                            intro H locs (hP : va_P G vwCl [(a_0, .inr (11, [.ref a_1, .ref a_2, .ref a_3, .ref a_4, .ref a_5, .ref a_6, .ref a_7, .ref a_8, .ref a_9, .ref a_10, .ref a_11])), (a_6, .inl (cy 6, 4, .inr (.inr (.inr (.inr (va_up (va_up (va_up (va_up (fun _ => none) 0 (some a_12)) 1 (some a_13)) 2 (some a_14)) 3 (some a_15))))))), (a_12, .inr (6, [.int i_5, .int i_6, .int i_7, .ref a_16])), (a_16, .inl (cy 2, 60, .inr (.inl f_0))), (a_13, .inr (6, [.int i_8, .int i_9, .int i_10, .ref a_17])), (a_17, .inl (cy 2, 60, .inr (.inl f_1))), (a_14, .inr (6, [.int i_11, .int i_12, .int i_13, .ref a_18])), (a_18, .inl (cy 2, 60, .inr (.inl f_2))), (a_15, .inr (6, [.int i_14, .int i_15, .int i_16, .ref a_19])), (a_19, .inl (cy 2, 60, .inr (.inl g151)))] H) (hD : va_D A [(a_0, .inr (11, [.ref a_1, .ref a_2, .ref a_3, .ref a_4, .ref a_5, .ref a_6, .ref a_7, .ref a_8, .ref a_9, .ref a_10, .ref a_11])), (a_6, .inl (cy 6, 4, .inr (.inr (.inr (.inr (va_up (va_up (va_up (va_up (fun _ => none) 0 (some a_12)) 1 (some a_13)) 2 (some a_14)) 3 (some a_15))))))), (a_12, .inr (6, [.int i_5, .int i_6, .int i_7, .ref a_16])), (a_16, .inl (cy 2, 60, .inr (.inl f_0))), (a_13, .inr (6, [.int i_8, .int i_9, .int i_10, .ref a_17])), (a_17, .inl (cy 2, 60, .inr (.inl f_1))), (a_14, .inr (6, [.int i_11, .int i_12, .int i_13, .ref a_18])), (a_18, .inl (cy 2, 60, .inr (.inl f_2))), (a_15, .inr (6, [.int i_14, .int i_15, .int i_16, .ref a_19])), (a_19, .inl (cy 2, 60, .inr (.inl g151)))]) hS
                            refine lv_iconst (v := 0) hx hb dX11_paste_128 (by decide) ?_
                            have w152 : mm_y1 i_5 i_8 i_11 i_14 0 := (mm_y1_of (mm_4_0 _ _ _ _) q19 (by decide))
                            have w153 : mm_y1 i_5 i_8 i_11 i_14 3 := (mm_y1_of (mm_4_3 _ _ _ _) q126 (by decide))
                            have w154 : mm_ye i_6 i_9 i_12 i_15 0 3 := (mm_ye_of (mm_4_0 _ _ _ _) (mm_4_3 _ _ _ _) c127)
                            have w155 : mm_yg i_7 i_10 i_13 i_16 0 3 i_1 i_3 i_4 := (mm_yg_of (mm_4_0 _ _ _ _) (mm_4_3 _ _ _ _) (mm_xg_of w133 w144 w131 w143 w132 (by decide)))
                            subst hAe
                            rw [hQ]
                            exact W.iret (v := 0) hx hb hr (fun t ht hW => ⟨⟨0, (f_0, f_1, f_2, g151), rfl, (Or.inr (Or.inr (Or.inr (Or.inr (Or.inr (Or.inr (Or.inl ⟨rfl, (mm_wk mm_k0 (by decide)), (mm_wk mm_k3 (by decide)), w152, w153, w154, w155⟩))))))), by rw [ht]; exact hP, hK.warm hW, hD⟩, hS.F ht⟩) hS.2.2 dX11_paste_129
                          · exact mm_eqN c150.symm mm_k0 mm_k1 (by decide)
                  · refine lv_bipush (v := (-8)) hx hb dX11_paste_65 (by decide) ?_
                    have w156 : mm_y1 i_5 i_8 i_11 i_14 0 := (mm_y1_of (mm_4_0 _ _ _ _) q19 (by decide))
                    have w157 : mm_y1 i_5 i_8 i_11 i_14 3 := (mm_y1_of (mm_4_3 _ _ _ _) q126 (by decide))
                    have w158 : mm_yn i_6 i_9 i_12 i_15 0 3 := (mm_yn_of (mm_4_0 _ _ _ _) (mm_4_3 _ _ _ _) (mm_ne c127))
                    subst hAe
                    rw [hQ]
                    exact W.iret (v := (-8)) hx hb hr (fun t ht hW => ⟨⟨(-8), (f_0, f_1, f_2, f_3), rfl, (Or.inr (Or.inr (Or.inr (Or.inr (Or.inr (Or.inr (Or.inr (Or.inl ⟨rfl, (mm_wk mm_k0 (by decide)), (mm_wk mm_k3 (by decide)), w156, w157, w158⟩)))))))), by rw [ht]; exact hP, hK.warm hW, hD⟩, hS.F ht⟩) hS.2.2 dX11_paste_67
                · have q159 := mm_eqI (lo := 0) (hi := 0) c125 h9 mm_k0 (by decide)
                  refine lv_bipush (v := (-6)) hx hb dX11_paste_41 (by decide) ?_
                  have w160 : mm_y1 i_5 i_8 i_11 i_14 0 := (mm_y1_of (mm_4_0 _ _ _ _) q19 (by decide))
                  have w161 : mm_y0 i_5 i_8 i_11 i_14 3 := (mm_y0_of (mm_4_3 _ _ _ _) q159 (by decide))
                  subst hAe
                  rw [hQ]
                  exact W.iret (v := (-6)) hx hb hr (fun t ht hW => ⟨⟨(-6), (f_0, f_1, f_2, f_3), rfl, (Or.inr (Or.inr (Or.inr (Or.inr (Or.inr (Or.inr (Or.inr (Or.inr ⟨rfl, (mm_wk mm_k0 (by decide)), (mm_wk mm_k3 (by decide)), w160, w161⟩)))))))), by rw [ht]; exact hP, hK.warm hW, hD⟩, hS.F ht⟩) hS.2.2 dX11_paste_43
          · refine W.eq (g2 := F0 m 23 ls [.ref a_13]) rfl ?_
            refine va_get (D := G) (ci := 6) (v := .int i_8) (C := RX6) (T := TX6) (N := 4) hx hb hts (mm_i inlX6) hown hK.1 hP 4 rfl rfl 0 (by decide) (mm_h hts mm_w1239) (fun _ h9 => h9) rfl dX11_paste_23 ?_
            refine lv_if_eq (tgt := 41) hx hb dX11_paste_26 (by decide) (fun c162 => ?_) (fun c162 => ?_)
            · have q163 := mm_eqI (lo := 0) (hi := 0) c162 h3 mm_k0 (by decide)
              refine lv_bipush (v := (-6)) hx hb dX11_paste_41 (by decide) ?_
              have w164 : mm_y0 i_5 i_8 i_11 i_14 1 := (mm_y0_of (mm_4_1 _ _ _ _) q163 (by decide))
              subst hAe
              rw [hQ]
              exact W.iret (v := (-6)) hx hb hr (fun t ht hW => ⟨⟨(-6), (f_0, f_1, f_2, f_3), rfl, (Or.inr (Or.inr (Or.inr (Or.inr (Or.inl ⟨rfl, (mm_wk mm_k1 (by decide)), w11, w164⟩))))), by rw [ht]; exact hP, hK.warm hW, hD⟩, hS.F ht⟩) hS.2.2 dX11_paste_43
            · have q165 := mm_neL (lo := 1) (mm_ne c162) h3 mm_k0 (by decide) (by decide)
              refine lv_aload_n hx hb dX11_paste_29 rfl (lv_at hl 0 rfl) ?_
              refine va_get (D := G) (ci := 11) (v := .ref a_6) (C := RX11) (T := TX11) (N := 11) hx hb hts (mm_i inlX11) hown hK.1 hP 0 rfl rfl 5 (by decide) (mm_h hts mm_w32) (fun _ h9 => h9) rfl dX11_paste_30 ?_
              refine lv_iload_n hx hb dX11_paste_33 rfl (lv_at hl 3 rfl) ?_
              refine va_aldq hx hb hK.1 hP 1 6 rfl rfl (mm_in w11 (by decide)) dX11_paste_34 ?_
              have c166 := mm_cases4 w11
              rcases c166 with rfl | rfl | rfl | rfl
              · refine W.eq (g2 := F0 m 35 ls [.ref a_12]) rfl ?_
                refine va_get (D := G) (ci := 6) (v := .int i_5) (C := RX6) (T := TX6) (N := 4) hx hb hts (mm_i inlX6) hown hK.1 hP 2 rfl rfl 0 (by decide) (mm_h hts mm_w1239) (fun _ h9 => h9) rfl dX11_paste_35 ?_
                refine lv_if_ne (tgt := 44) hx hb dX11_paste_38 (by decide) (fun c167 => ?_) (fun c167 => ?_)
                · have q168 := mm_neL (lo := 1) (mm_ne c167) h0 mm_k0 (by decide) (by decide)
                  refine lv_aload_n hx hb dX11_paste_44 rfl (lv_at hl 0 rfl) ?_
                  refine va_get (D := G) (ci := 11) (v := .ref a_6) (C := RX11) (T := TX11) (N := 11) hx hb hts (mm_i inlX11) hown hK.1 hP 0 rfl rfl 5 (by decide) (mm_h hts mm_w32) (fun _ h9 => h9) rfl dX11_paste_45 ?_
                  refine lv_iload_n hx hb dX11_paste_48 rfl (lv_at hl 1 rfl) ?_
                  refine va_aldq hx hb hK.1 hP 1 6 rfl rfl (mm_in mm_k1 (by decide)) dX11_paste_49 ?_
                  refine W.eq (g2 := F0 m 50 ls [.ref a_13]) rfl ?_
                  refine va_get (D := G) (ci := 6) (v := .int i_9) (C := RX6) (T := TX6) (N := 4) hx hb hts (mm_i inlX6) hown hK.1 hP 4 rfl rfl 1 (by decide) (mm_h hts mm_w1710) (fun _ h9 => h9) rfl dX11_paste_50 ?_
                  refine lv_aload_n hx hb dX11_paste_53 rfl (lv_at hl 0 rfl) ?_
                  refine va_get (D := G) (ci := 11) (v := .ref a_6) (C := RX11) (T := TX11) (N := 11) hx hb hts (mm_i inlX11) hown hK.1 hP 0 rfl rfl 5 (by decide) (mm_h hts mm_w32) (fun _ h9 => h9) rfl dX11_paste_54 ?_
                  refine lv_iload_n hx hb dX11_paste_57 rfl (lv_at hl 3 rfl) ?_
                  refine va_aldq hx hb hK.1 hP 1 6 rfl rfl (mm_in mm_k0 (by decide)) dX11_paste_58 ?_
                  refine W.eq (g2 := F0 m 59 ls [.ref a_12, .int i_9]) rfl ?_
                  refine va_get (D := G) (ci := 6) (v := .int i_6) (C := RX6) (T := TX6) (N := 4) hx hb hts (mm_i inlX6) hown hK.1 hP 2 rfl rfl 1 (by decide) (mm_h hts mm_w1710) (fun _ h9 => h9) rfl dX11_paste_59 ?_
                  refine lv_icmp_eq (tgt := 68) hx hb dX11_paste_62 (by decide) (fun c169 => ?_) (fun c169 => ?_)
                  · refine lv_aload_n hx hb dX11_paste_68 rfl (lv_at hl 0 rfl) ?_
                    refine va_get (D := G) (ci := 11) (v := .ref a_6) (C := RX11) (T := TX11) (N := 11) hx hb hts (mm_i inlX11) hown hK.1 hP 0 rfl rfl 5 (by decide) (mm_h hts mm_w32) (fun _ h9 => h9) rfl dX11_paste_69 ?_
                    refine lv_iload_n hx hb dX11_paste_72 rfl (lv_at hl 1 rfl) ?_
                    refine va_aldq hx hb hK.1 hP 1 6 rfl rfl (mm_in mm_k1 (by decide)) dX11_paste_73 ?_
                    refine W.eq (g2 := F0 m 74 ls [.ref a_13]) rfl ?_
                    refine lv_iload_n hx hb dX11_paste_74 rfl (lv_at hl 2 rfl) ?_
                    refine lv_iload hx hb dX11_paste_75 (lv_at hl 5 rfl) ?_
                    refine mm_finir (va_runV (As := [.int i_1, .int i_4]) (rest := []) ⟨hx, hb, hml, hown, hts⟩ (C549_X6_reaches l G cy H.size a_13 i_1 i_4 i_8 i_9 i_10 a_17 h5) (cwV 2 hts (mm_gV mm_w1713 mm_w1714 mm_w1715 mm_w34 mm_w1716) rfl rfl rfl hd_X6_reaches ⟨by rw [hRf]; exact Nat.le_of_ble_eq_true rfl, by rw [hRl]; exact Nat.le_of_ble_eq_true rfl⟩) (mm_preV hK hZ hS hA hP hD [4] rfl rfl 4 rfl rfl rfl) rfl rfl hl.1 rfl (lv_room (Nat.le_of_ble_eq_true rfl)) dX11_paste_77 ⟨by rw [hRc]; exact Nat.le_of_ble_eq_true rfl, by rw [hRs]; exact Nat.le_of_ble_eq_true rfl⟩) hP hD hS hA [4] rfl (fun _ => rfl) ?_
                    clear hP hD hS
                    clear H locs
                    intro v170 _u H locs hw hP hD hS
                    rcases hw with ⟨rfl, w171, w172⟩ | ⟨rfl, w173, w174, w175⟩
                    · refine lv_if_eq (tgt := 99) hx hb dX11_paste_80 (by decide) (fun c176 => ?_) (fun c176 => ?_)
                      · refine lv_bipush (v := (-7)) hx hb dX11_paste_99 (by decide) ?_
                        have w177 : mm_y1 i_5 i_8 i_11 i_14 1 := (mm_y1_of (mm_4_1 _ _ _ _) q165 (by decide))
                        have w178 : mm_y1 i_5 i_8 i_11 i_14 0 := (mm_y1_of (mm_4_0 _ _ _ _) q168 (by decide))
                        have w179 : mm_ye i_6 i_9 i_12 i_15 1 0 := (mm_ye_of (mm_4_1 _ _ _ _) (mm_4_0 _ _ _ _) c169)
                        have w180 : mm_yb i_7 i_10 i_13 i_16 1 0 i_1 i_3 i_4 := (mm_yb_of (mm_4_1 _ _ _ _) (mm_4_0 _ _ _ _) (mm_xb_1 w172))
                        subst hAe
                        rw [hQ]
                        exact W.iret (v := (-7)) hx hb hr (fun t ht hW => ⟨⟨(-7), (f_0, f_1, f_2, f_3), rfl, (Or.inr (Or.inr (Or.inr (Or.inr (Or.inr (Or.inl ⟨rfl, (mm_wk mm_k1 (by decide)), (mm_wk mm_k0 (by decide)), w177, w178, w179, w180⟩)))))), by rw [ht]; exact hP, hK.warm hW, hD⟩, hS.F ht⟩) hS.2.2 dX11_paste_101
                      · exact absurd rfl (mm_ne c176)
                    · refine lv_if_eq (tgt := 99) hx hb dX11_paste_80 (by decide) (fun c181 => ?_) (fun c181 => ?_)
                      · exact mm_eqN c181.symm mm_k0 mm_k1 (by decide)
                      · refine lv_aload_n hx hb dX11_paste_83 rfl (lv_at hl 0 rfl) ?_
                        refine va_get (D := G) (ci := 11) (v := .ref a_6) (C := RX11) (T := TX11) (N := 11) hx hb hts (mm_i inlX11) hown hK.1 hP 0 rfl rfl 5 (by decide) (mm_h hts mm_w32) (fun _ h9 => h9) rfl dX11_paste_84 ?_
                        refine lv_iload_n hx hb dX11_paste_87 rfl (lv_at hl 3 rfl) ?_
                        refine va_aldq hx hb hK.1 hP 1 6 rfl rfl (mm_in mm_k0 (by decide)) dX11_paste_88 ?_
                        refine W.eq (g2 := F0 m 89 ls [.ref a_12]) rfl ?_
                        refine lv_iload hx hb dX11_paste_89 (lv_at hl 4 rfl) ?_
                        refine lv_iload hx hb dX11_paste_91 (lv_at hl 5 rfl) ?_
                        refine mm_finir (va_runV (As := [.int i_3, .int i_4]) (rest := []) ⟨hx, hb, hml, hown, hts⟩ (C550_X6_reaches l G cy H.size a_12 i_3 i_4 i_5 i_6 i_7 a_16 w174 h2) (cwV 2 hts (mm_gV mm_w1713 mm_w1714 mm_w1715 mm_w34 mm_w1716) rfl rfl rfl hd_X6_reaches ⟨by rw [hRf]; exact Nat.le_of_ble_eq_true rfl, by rw [hRl]; exact Nat.le_of_ble_eq_true rfl⟩) (mm_preV hK hZ hS hA hP hD [2] rfl rfl 2 rfl rfl rfl) rfl rfl hl.1 rfl (lv_room (Nat.le_of_ble_eq_true rfl)) dX11_paste_93 ⟨by rw [hRc]; exact Nat.le_of_ble_eq_true rfl, by rw [hRs]; exact Nat.le_of_ble_eq_true rfl⟩) hP hD hS hA [2] rfl (fun _ => rfl) ?_
                        clear hP hD hS
                        clear H locs
                        intro v182 _u H locs hw hP hD hS
                        rcases hw with ⟨rfl, w183, w184⟩ | ⟨rfl, w185, w186⟩
                        · refine lv_if_ne (tgt := 102) hx hb dX11_paste_96 (by decide) (fun c187 => ?_) (fun c187 => ?_)
                          · exact absurd rfl (mm_ne c187)
                          · refine lv_bipush (v := (-7)) hx hb dX11_paste_99 (by decide) ?_
                            have w188 : mm_y1 i_5 i_8 i_11 i_14 1 := (mm_y1_of (mm_4_1 _ _ _ _) q165 (by decide))
                            have w189 : mm_y1 i_5 i_8 i_11 i_14 0 := (mm_y1_of (mm_4_0 _ _ _ _) q168 (by decide))
                            have w190 : mm_ye i_6 i_9 i_12 i_15 1 0 := (mm_ye_of (mm_4_1 _ _ _ _) (mm_4_0 _ _ _ _) c169)
                            have w191 : mm_yb i_7 i_10 i_13 i_16 1 0 i_1 i_3 i_4 := (mm_yb_of (mm_4_1 _ _ _ _) (mm_4_0 _ _ _ _) (mm_xb_2 w184))
                            subst hAe
                            rw [hQ]
                            exact W.iret (v := (-7)) hx hb hr (fun t ht hW => ⟨⟨(-7), (f_0, f_1, f_2, f_3), rfl, (Or.inr (Or.inr (Or.inr (Or.inr (Or.inr (Or.inl ⟨rfl, (mm_wk mm_k1 (by decide)), (mm_wk mm_k0 (by decide)), w188, w189, w190, w191⟩)))))), by rw [ht]; exact hP, hK.warm hW, hD⟩, hS.F ht⟩) hS.2.2 dX11_paste_101
                        · refine lv_if_ne (tgt := 102) hx hb dX11_paste_96 (by decide) (fun c192 => ?_) (fun c192 => ?_)
                          · refine lv_aload_n hx hb dX11_paste_102 rfl (lv_at hl 0 rfl) ?_
                            refine va_get (D := G) (ci := 11) (v := .ref a_6) (C := RX11) (T := TX11) (N := 11) hx hb hts (mm_i inlX11) hown hK.1 hP 0 rfl rfl 5 (by decide) (mm_h hts mm_w32) (fun _ h9 => h9) rfl dX11_paste_103 ?_
                            refine lv_iload_n hx hb dX11_paste_106 rfl (lv_at hl 1 rfl) ?_
                            refine va_aldq hx hb hK.1 hP 1 6 rfl rfl (mm_in mm_k1 (by decide)) dX11_paste_107 ?_
                            refine W.eq (g2 := F0 m 108 ls [.ref a_13]) rfl ?_
                            refine va_get (D := G) (ci := 6) (v := .ref a_17) (C := RX6) (T := TX6) (N := 4) hx hb hts (mm_i inlX6) hown hK.1 hP 4 rfl rfl 3 (by decide) (mm_h hts mm_w1711) (fun _ h9 => h9) rfl dX11_paste_108 ?_
                            refine lv_iload_n hx hb dX11_paste_111 rfl (lv_at hl 2 rfl) ?_
                            refine lv_aload_n hx hb dX11_paste_112 rfl (lv_at hl 0 rfl) ?_
                            refine va_get (D := G) (ci := 11) (v := .ref a_6) (C := RX11) (T := TX11) (N := 11) hx hb hts (mm_i inlX11) hown hK.1 hP 0 rfl rfl 5 (by decide) (mm_h hts mm_w32) (fun _ h9 => h9) rfl dX11_paste_113 ?_
                            refine lv_iload_n hx hb dX11_paste_116 rfl (lv_at hl 3 rfl) ?_
                            refine va_aldq hx hb hK.1 hP 1 6 rfl rfl (mm_in mm_k0 (by decide)) dX11_paste_117 ?_
                            refine W.eq (g2 := F0 m 118 ls [.ref a_12, .int i_1, .ref a_17]) rfl ?_
                            refine va_get (D := G) (ci := 6) (v := .ref a_16) (C := RX6) (T := TX6) (N := 4) hx hb hts (mm_i inlX6) hown hK.1 hP 2 rfl rfl 3 (by decide) (mm_h hts mm_w1711) (fun _ h9 => h9) rfl dX11_paste_118 ?_
                            refine lv_iload hx hb dX11_paste_121 (lv_at hl 4 rfl) ?_
                            refine lv_iload hx hb dX11_paste_123 (lv_at hl 5 rfl) ?_
                            refine va_copyl hx hb (by rw [hml]; exact hl.1.symm) hown (mm_h hts mm_w1712) (mm_h hts mm_w388) (mm_h hts mm_w389) (mm_h hts mm_w390) hK.1 hP hD hS 5 3 2 2 rfl rfl rfl rfl rfl (mm_nn w173 (by decide)) (mm_nn w185 (by decide)) (mm_nn w174 (by decide)) (mm_cpR w175 w173 w174 h5 (by decide)) (mm_cpR w186 w185 w174 h2 (by decide)) (fun _ _ => rfl) (by rw [hRf]; exact Nat.le_of_ble_eq_true rfl) (by rw [hRl]; exact Nat.le_of_ble_eq_true rfl) dX11_paste_125 ?_
                            clear hP hD hS
                            clear H locs
                            obtain ⟨g193, eg193⟩ : ∃ z : Nat → Int64, z = va_cpy f_1 f_0 i_1.toNatClampNeg i_3.toNatClampNeg i_4.toNatClampNeg := ⟨_, rfl⟩
                            rw [← eg193]
                            intro H locs (hP : va_P G vwCl [(a_0, .inr (11, [.ref a_1, .ref a_2, .ref a_3, .ref a_4, .ref a_5, .ref a_6, .ref a_7, .ref a_8, .ref a_9, .ref a_10, .ref a_11])), (a_6, .inl (cy 6, 4, .inr (.inr (.inr (.inr (va_up (va_up (va_up (va_up (fun _ => none) 0 (some a_12)) 1 (some a_13)) 2 (some a_14)) 3 (some a_15))))))), (a_12, .inr (6, [.int i_5, .int i_6, .int i_7, .ref a_16])), (a_16, .inl (cy 2, 60, .inr (.inl g193))), (a_13, .inr (6, [.int i_8, .int i_9, .int i_10, .ref a_17])), (a_17, .inl (cy 2, 60, .inr (.inl f_1))), (a_14, .inr (6, [.int i_11, .int i_12, .int i_13, .ref a_18])), (a_18, .inl (cy 2, 60, .inr (.inl f_2))), (a_15, .inr (6, [.int i_14, .int i_15, .int i_16, .ref a_19])), (a_19, .inl (cy 2, 60, .inr (.inl f_3)))] H) (hD : va_D A [(a_0, .inr (11, [.ref a_1, .ref a_2, .ref a_3, .ref a_4, .ref a_5, .ref a_6, .ref a_7, .ref a_8, .ref a_9, .ref a_10, .ref a_11])), (a_6, .inl (cy 6, 4, .inr (.inr (.inr (.inr (va_up (va_up (va_up (va_up (fun _ => none) 0 (some a_12)) 1 (some a_13)) 2 (some a_14)) 3 (some a_15))))))), (a_12, .inr (6, [.int i_5, .int i_6, .int i_7, .ref a_16])), (a_16, .inl (cy 2, 60, .inr (.inl g193))), (a_13, .inr (6, [.int i_8, .int i_9, .int i_10, .ref a_17])), (a_17, .inl (cy 2, 60, .inr (.inl f_1))), (a_14, .inr (6, [.int i_11, .int i_12, .int i_13, .ref a_18])), (a_18, .inl (cy 2, 60, .inr (.inl f_2))), (a_15, .inr (6, [.int i_14, .int i_15, .int i_16, .ref a_19])), (a_19, .inl (cy 2, 60, .inr (.inl f_3)))]) hS
                            refine lv_iconst (v := 0) hx hb dX11_paste_128 (by decide) ?_
                            have w194 : mm_y1 i_5 i_8 i_11 i_14 1 := (mm_y1_of (mm_4_1 _ _ _ _) q165 (by decide))
                            have w195 : mm_y1 i_5 i_8 i_11 i_14 0 := (mm_y1_of (mm_4_0 _ _ _ _) q168 (by decide))
                            have w196 : mm_ye i_6 i_9 i_12 i_15 1 0 := (mm_ye_of (mm_4_1 _ _ _ _) (mm_4_0 _ _ _ _) c169)
                            have w197 : mm_yg i_7 i_10 i_13 i_16 1 0 i_1 i_3 i_4 := (mm_yg_of (mm_4_1 _ _ _ _) (mm_4_0 _ _ _ _) (mm_xg_of w175 w186 w173 w185 w174 (by decide)))
                            subst hAe
                            rw [hQ]
                            exact W.iret (v := 0) hx hb hr (fun t ht hW => ⟨⟨0, (g193, f_1, f_2, f_3), rfl, (Or.inr (Or.inr (Or.inr (Or.inr (Or.inr (Or.inr (Or.inl ⟨rfl, (mm_wk mm_k1 (by decide)), (mm_wk mm_k0 (by decide)), w194, w195, w196, w197⟩))))))), by rw [ht]; exact hP, hK.warm hW, hD⟩, hS.F ht⟩) hS.2.2 dX11_paste_129
                          · exact mm_eqN c192.symm mm_k0 mm_k1 (by decide)
                  · refine lv_bipush (v := (-8)) hx hb dX11_paste_65 (by decide) ?_
                    have w198 : mm_y1 i_5 i_8 i_11 i_14 1 := (mm_y1_of (mm_4_1 _ _ _ _) q165 (by decide))
                    have w199 : mm_y1 i_5 i_8 i_11 i_14 0 := (mm_y1_of (mm_4_0 _ _ _ _) q168 (by decide))
                    have w200 : mm_yn i_6 i_9 i_12 i_15 1 0 := (mm_yn_of (mm_4_1 _ _ _ _) (mm_4_0 _ _ _ _) (mm_ne c169))
                    subst hAe
                    rw [hQ]
                    exact W.iret (v := (-8)) hx hb hr (fun t ht hW => ⟨⟨(-8), (f_0, f_1, f_2, f_3), rfl, (Or.inr (Or.inr (Or.inr (Or.inr (Or.inr (Or.inr (Or.inr (Or.inl ⟨rfl, (mm_wk mm_k1 (by decide)), (mm_wk mm_k0 (by decide)), w198, w199, w200⟩)))))))), by rw [ht]; exact hP, hK.warm hW, hD⟩, hS.F ht⟩) hS.2.2 dX11_paste_67
                · have q201 := mm_eqI (lo := 0) (hi := 0) c167 h0 mm_k0 (by decide)
                  refine lv_bipush (v := (-6)) hx hb dX11_paste_41 (by decide) ?_
                  have w202 : mm_y1 i_5 i_8 i_11 i_14 1 := (mm_y1_of (mm_4_1 _ _ _ _) q165 (by decide))
                  have w203 : mm_y0 i_5 i_8 i_11 i_14 0 := (mm_y0_of (mm_4_0 _ _ _ _) q201 (by decide))
                  subst hAe
                  rw [hQ]
                  exact W.iret (v := (-6)) hx hb hr (fun t ht hW => ⟨⟨(-6), (f_0, f_1, f_2, f_3), rfl, (Or.inr (Or.inr (Or.inr (Or.inr (Or.inr (Or.inr (Or.inr (Or.inr ⟨rfl, (mm_wk mm_k1 (by decide)), (mm_wk mm_k0 (by decide)), w202, w203⟩)))))))), by rw [ht]; exact hP, hK.warm hW, hD⟩, hS.F ht⟩) hS.2.2 dX11_paste_43
              · refine W.eq (g2 := F0 m 35 ls [.ref a_13]) rfl ?_
                refine va_get (D := G) (ci := 6) (v := .int i_8) (C := RX6) (T := TX6) (N := 4) hx hb hts (mm_i inlX6) hown hK.1 hP 4 rfl rfl 0 (by decide) (mm_h hts mm_w1239) (fun _ h9 => h9) rfl dX11_paste_35 ?_
                refine lv_if_ne (tgt := 44) hx hb dX11_paste_38 (by decide) (fun c204 => ?_) (fun c204 => ?_)
                · refine lv_aload_n hx hb dX11_paste_44 rfl (lv_at hl 0 rfl) ?_
                  refine va_get (D := G) (ci := 11) (v := .ref a_6) (C := RX11) (T := TX11) (N := 11) hx hb hts (mm_i inlX11) hown hK.1 hP 0 rfl rfl 5 (by decide) (mm_h hts mm_w32) (fun _ h9 => h9) rfl dX11_paste_45 ?_
                  refine lv_iload_n hx hb dX11_paste_48 rfl (lv_at hl 1 rfl) ?_
                  refine va_aldq hx hb hK.1 hP 1 6 rfl rfl (mm_in mm_k1 (by decide)) dX11_paste_49 ?_
                  refine W.eq (g2 := F0 m 50 ls [.ref a_13]) rfl ?_
                  refine va_get (D := G) (ci := 6) (v := .int i_9) (C := RX6) (T := TX6) (N := 4) hx hb hts (mm_i inlX6) hown hK.1 hP 4 rfl rfl 1 (by decide) (mm_h hts mm_w1710) (fun _ h9 => h9) rfl dX11_paste_50 ?_
                  refine lv_aload_n hx hb dX11_paste_53 rfl (lv_at hl 0 rfl) ?_
                  refine va_get (D := G) (ci := 11) (v := .ref a_6) (C := RX11) (T := TX11) (N := 11) hx hb hts (mm_i inlX11) hown hK.1 hP 0 rfl rfl 5 (by decide) (mm_h hts mm_w32) (fun _ h9 => h9) rfl dX11_paste_54 ?_
                  refine lv_iload_n hx hb dX11_paste_57 rfl (lv_at hl 3 rfl) ?_
                  refine va_aldq hx hb hK.1 hP 1 6 rfl rfl (mm_in mm_k1 (by decide)) dX11_paste_58 ?_
                  refine W.eq (g2 := F0 m 59 ls [.ref a_13, .int i_9]) rfl ?_
                  refine va_get (D := G) (ci := 6) (v := .int i_9) (C := RX6) (T := TX6) (N := 4) hx hb hts (mm_i inlX6) hown hK.1 hP 4 rfl rfl 1 (by decide) (mm_h hts mm_w1710) (fun _ h9 => h9) rfl dX11_paste_59 ?_
                  refine lv_icmp_eq (tgt := 68) hx hb dX11_paste_62 (by decide) (fun c205 => ?_) (fun c205 => ?_)
                  · refine lv_aload_n hx hb dX11_paste_68 rfl (lv_at hl 0 rfl) ?_
                    refine va_get (D := G) (ci := 11) (v := .ref a_6) (C := RX11) (T := TX11) (N := 11) hx hb hts (mm_i inlX11) hown hK.1 hP 0 rfl rfl 5 (by decide) (mm_h hts mm_w32) (fun _ h9 => h9) rfl dX11_paste_69 ?_
                    refine lv_iload_n hx hb dX11_paste_72 rfl (lv_at hl 1 rfl) ?_
                    refine va_aldq hx hb hK.1 hP 1 6 rfl rfl (mm_in mm_k1 (by decide)) dX11_paste_73 ?_
                    refine W.eq (g2 := F0 m 74 ls [.ref a_13]) rfl ?_
                    refine lv_iload_n hx hb dX11_paste_74 rfl (lv_at hl 2 rfl) ?_
                    refine lv_iload hx hb dX11_paste_75 (lv_at hl 5 rfl) ?_
                    refine mm_finir (va_runV (As := [.int i_1, .int i_4]) (rest := []) ⟨hx, hb, hml, hown, hts⟩ (C549_X6_reaches l G cy H.size a_13 i_1 i_4 i_8 i_9 i_10 a_17 h5) (cwV 2 hts (mm_gV mm_w1713 mm_w1714 mm_w1715 mm_w34 mm_w1716) rfl rfl rfl hd_X6_reaches ⟨by rw [hRf]; exact Nat.le_of_ble_eq_true rfl, by rw [hRl]; exact Nat.le_of_ble_eq_true rfl⟩) (mm_preV hK hZ hS hA hP hD [4] rfl rfl 4 rfl rfl rfl) rfl rfl hl.1 rfl (lv_room (Nat.le_of_ble_eq_true rfl)) dX11_paste_77 ⟨by rw [hRc]; exact Nat.le_of_ble_eq_true rfl, by rw [hRs]; exact Nat.le_of_ble_eq_true rfl⟩) hP hD hS hA [4] rfl (fun _ => rfl) ?_
                    clear hP hD hS
                    clear H locs
                    intro v206 _u H locs hw hP hD hS
                    rcases hw with ⟨rfl, w207, w208⟩ | ⟨rfl, w209, w210, w211⟩
                    · refine lv_if_eq (tgt := 99) hx hb dX11_paste_80 (by decide) (fun c212 => ?_) (fun c212 => ?_)
                      · refine lv_bipush (v := (-7)) hx hb dX11_paste_99 (by decide) ?_
                        have w213 : mm_y1 i_5 i_8 i_11 i_14 1 := (mm_y1_of (mm_4_1 _ _ _ _) q165 (by decide))
                        have w214 : mm_y1 i_5 i_8 i_11 i_14 1 := (mm_y1_of (mm_4_1 _ _ _ _) q165 (by decide))
                        have w215 : mm_ye i_6 i_9 i_12 i_15 1 1 := (mm_ye_of (mm_4_1 _ _ _ _) (mm_4_1 _ _ _ _) rfl)
                        have w216 : mm_yb i_7 i_10 i_13 i_16 1 1 i_1 i_3 i_4 := (mm_yb_of (mm_4_1 _ _ _ _) (mm_4_1 _ _ _ _) (mm_xb_1 w208))
                        subst hAe
                        rw [hQ]
                        exact W.iret (v := (-7)) hx hb hr (fun t ht hW => ⟨⟨(-7), (f_0, f_1, f_2, f_3), rfl, (Or.inr (Or.inr (Or.inr (Or.inr (Or.inr (Or.inl ⟨rfl, (mm_wk mm_k1 (by decide)), (mm_wk mm_k1 (by decide)), w213, w214, w215, w216⟩)))))), by rw [ht]; exact hP, hK.warm hW, hD⟩, hS.F ht⟩) hS.2.2 dX11_paste_101
                      · exact absurd rfl (mm_ne c212)
                    · refine lv_if_eq (tgt := 99) hx hb dX11_paste_80 (by decide) (fun c217 => ?_) (fun c217 => ?_)
                      · exact mm_eqN c217.symm mm_k0 mm_k1 (by decide)
                      · refine lv_aload_n hx hb dX11_paste_83 rfl (lv_at hl 0 rfl) ?_
                        refine va_get (D := G) (ci := 11) (v := .ref a_6) (C := RX11) (T := TX11) (N := 11) hx hb hts (mm_i inlX11) hown hK.1 hP 0 rfl rfl 5 (by decide) (mm_h hts mm_w32) (fun _ h9 => h9) rfl dX11_paste_84 ?_
                        refine lv_iload_n hx hb dX11_paste_87 rfl (lv_at hl 3 rfl) ?_
                        refine va_aldq hx hb hK.1 hP 1 6 rfl rfl (mm_in mm_k1 (by decide)) dX11_paste_88 ?_
                        refine W.eq (g2 := F0 m 89 ls [.ref a_13]) rfl ?_
                        refine lv_iload hx hb dX11_paste_89 (lv_at hl 4 rfl) ?_
                        refine lv_iload hx hb dX11_paste_91 (lv_at hl 5 rfl) ?_
                        refine mm_finir (va_runV (As := [.int i_3, .int i_4]) (rest := []) ⟨hx, hb, hml, hown, hts⟩ (C550_X6_reaches l G cy H.size a_13 i_3 i_4 i_8 i_9 i_10 a_17 w210 h5) (cwV 2 hts (mm_gV mm_w1713 mm_w1714 mm_w1715 mm_w34 mm_w1716) rfl rfl rfl hd_X6_reaches ⟨by rw [hRf]; exact Nat.le_of_ble_eq_true rfl, by rw [hRl]; exact Nat.le_of_ble_eq_true rfl⟩) (mm_preV hK hZ hS hA hP hD [4] rfl rfl 4 rfl rfl rfl) rfl rfl hl.1 rfl (lv_room (Nat.le_of_ble_eq_true rfl)) dX11_paste_93 ⟨by rw [hRc]; exact Nat.le_of_ble_eq_true rfl, by rw [hRs]; exact Nat.le_of_ble_eq_true rfl⟩) hP hD hS hA [4] rfl (fun _ => rfl) ?_
                        clear hP hD hS
                        clear H locs
                        intro v218 _u H locs hw hP hD hS
                        rcases hw with ⟨rfl, w219, w220⟩ | ⟨rfl, w221, w222⟩
                        · refine lv_if_ne (tgt := 102) hx hb dX11_paste_96 (by decide) (fun c223 => ?_) (fun c223 => ?_)
                          · exact absurd rfl (mm_ne c223)
                          · refine lv_bipush (v := (-7)) hx hb dX11_paste_99 (by decide) ?_
                            have w224 : mm_y1 i_5 i_8 i_11 i_14 1 := (mm_y1_of (mm_4_1 _ _ _ _) q165 (by decide))
                            have w225 : mm_y1 i_5 i_8 i_11 i_14 1 := (mm_y1_of (mm_4_1 _ _ _ _) q165 (by decide))
                            have w226 : mm_ye i_6 i_9 i_12 i_15 1 1 := (mm_ye_of (mm_4_1 _ _ _ _) (mm_4_1 _ _ _ _) rfl)
                            have w227 : mm_yb i_7 i_10 i_13 i_16 1 1 i_1 i_3 i_4 := (mm_yb_of (mm_4_1 _ _ _ _) (mm_4_1 _ _ _ _) (mm_xb_2 w220))
                            subst hAe
                            rw [hQ]
                            exact W.iret (v := (-7)) hx hb hr (fun t ht hW => ⟨⟨(-7), (f_0, f_1, f_2, f_3), rfl, (Or.inr (Or.inr (Or.inr (Or.inr (Or.inr (Or.inl ⟨rfl, (mm_wk mm_k1 (by decide)), (mm_wk mm_k1 (by decide)), w224, w225, w226, w227⟩)))))), by rw [ht]; exact hP, hK.warm hW, hD⟩, hS.F ht⟩) hS.2.2 dX11_paste_101
                        · refine lv_if_ne (tgt := 102) hx hb dX11_paste_96 (by decide) (fun c228 => ?_) (fun c228 => ?_)
                          · refine lv_aload_n hx hb dX11_paste_102 rfl (lv_at hl 0 rfl) ?_
                            refine va_get (D := G) (ci := 11) (v := .ref a_6) (C := RX11) (T := TX11) (N := 11) hx hb hts (mm_i inlX11) hown hK.1 hP 0 rfl rfl 5 (by decide) (mm_h hts mm_w32) (fun _ h9 => h9) rfl dX11_paste_103 ?_
                            refine lv_iload_n hx hb dX11_paste_106 rfl (lv_at hl 1 rfl) ?_
                            refine va_aldq hx hb hK.1 hP 1 6 rfl rfl (mm_in mm_k1 (by decide)) dX11_paste_107 ?_
                            refine W.eq (g2 := F0 m 108 ls [.ref a_13]) rfl ?_
                            refine va_get (D := G) (ci := 6) (v := .ref a_17) (C := RX6) (T := TX6) (N := 4) hx hb hts (mm_i inlX6) hown hK.1 hP 4 rfl rfl 3 (by decide) (mm_h hts mm_w1711) (fun _ h9 => h9) rfl dX11_paste_108 ?_
                            refine lv_iload_n hx hb dX11_paste_111 rfl (lv_at hl 2 rfl) ?_
                            refine lv_aload_n hx hb dX11_paste_112 rfl (lv_at hl 0 rfl) ?_
                            refine va_get (D := G) (ci := 11) (v := .ref a_6) (C := RX11) (T := TX11) (N := 11) hx hb hts (mm_i inlX11) hown hK.1 hP 0 rfl rfl 5 (by decide) (mm_h hts mm_w32) (fun _ h9 => h9) rfl dX11_paste_113 ?_
                            refine lv_iload_n hx hb dX11_paste_116 rfl (lv_at hl 3 rfl) ?_
                            refine va_aldq hx hb hK.1 hP 1 6 rfl rfl (mm_in mm_k1 (by decide)) dX11_paste_117 ?_
                            refine W.eq (g2 := F0 m 118 ls [.ref a_13, .int i_1, .ref a_17]) rfl ?_
                            refine va_get (D := G) (ci := 6) (v := .ref a_17) (C := RX6) (T := TX6) (N := 4) hx hb hts (mm_i inlX6) hown hK.1 hP 4 rfl rfl 3 (by decide) (mm_h hts mm_w1711) (fun _ h9 => h9) rfl dX11_paste_118 ?_
                            refine lv_iload hx hb dX11_paste_121 (lv_at hl 4 rfl) ?_
                            refine lv_iload hx hb dX11_paste_123 (lv_at hl 5 rfl) ?_
                            refine va_copyl hx hb (by rw [hml]; exact hl.1.symm) hown (mm_h hts mm_w1712) (mm_h hts mm_w388) (mm_h hts mm_w389) (mm_h hts mm_w390) hK.1 hP hD hS 5 5 2 2 rfl rfl rfl rfl rfl (mm_nn w209 (by decide)) (mm_nn w221 (by decide)) (mm_nn w210 (by decide)) (mm_cpR w211 w209 w210 h5 (by decide)) (mm_cpR w222 w221 w210 h5 (by decide)) (fun _ _ => rfl) (by rw [hRf]; exact Nat.le_of_ble_eq_true rfl) (by rw [hRl]; exact Nat.le_of_ble_eq_true rfl) dX11_paste_125 ?_
                            clear hP hD hS
                            clear H locs
                            obtain ⟨g229, eg229⟩ : ∃ z : Nat → Int64, z = va_cpy f_1 f_1 i_1.toNatClampNeg i_3.toNatClampNeg i_4.toNatClampNeg := ⟨_, rfl⟩
                            rw [← eg229]
                            intro H locs (hP : va_P G vwCl [(a_0, .inr (11, [.ref a_1, .ref a_2, .ref a_3, .ref a_4, .ref a_5, .ref a_6, .ref a_7, .ref a_8, .ref a_9, .ref a_10, .ref a_11])), (a_6, .inl (cy 6, 4, .inr (.inr (.inr (.inr (va_up (va_up (va_up (va_up (fun _ => none) 0 (some a_12)) 1 (some a_13)) 2 (some a_14)) 3 (some a_15))))))), (a_12, .inr (6, [.int i_5, .int i_6, .int i_7, .ref a_16])), (a_16, .inl (cy 2, 60, .inr (.inl f_0))), (a_13, .inr (6, [.int i_8, .int i_9, .int i_10, .ref a_17])), (a_17, .inl (cy 2, 60, .inr (.inl g229))), (a_14, .inr (6, [.int i_11, .int i_12, .int i_13, .ref a_18])), (a_18, .inl (cy 2, 60, .inr (.inl f_2))), (a_15, .inr (6, [.int i_14, .int i_15, .int i_16, .ref a_19])), (a_19, .inl (cy 2, 60, .inr (.inl f_3)))] H) (hD : va_D A [(a_0, .inr (11, [.ref a_1, .ref a_2, .ref a_3, .ref a_4, .ref a_5, .ref a_6, .ref a_7, .ref a_8, .ref a_9, .ref a_10, .ref a_11])), (a_6, .inl (cy 6, 4, .inr (.inr (.inr (.inr (va_up (va_up (va_up (va_up (fun _ => none) 0 (some a_12)) 1 (some a_13)) 2 (some a_14)) 3 (some a_15))))))), (a_12, .inr (6, [.int i_5, .int i_6, .int i_7, .ref a_16])), (a_16, .inl (cy 2, 60, .inr (.inl f_0))), (a_13, .inr (6, [.int i_8, .int i_9, .int i_10, .ref a_17])), (a_17, .inl (cy 2, 60, .inr (.inl g229))), (a_14, .inr (6, [.int i_11, .int i_12, .int i_13, .ref a_18])), (a_18, .inl (cy 2, 60, .inr (.inl f_2))), (a_15, .inr (6, [.int i_14, .int i_15, .int i_16, .ref a_19])), (a_19, .inl (cy 2, 60, .inr (.inl f_3)))]) hS
                            refine lv_iconst (v := 0) hx hb dX11_paste_128 (by decide) ?_
                            have w230 : mm_y1 i_5 i_8 i_11 i_14 1 := (mm_y1_of (mm_4_1 _ _ _ _) q165 (by decide))
                            have w231 : mm_y1 i_5 i_8 i_11 i_14 1 := (mm_y1_of (mm_4_1 _ _ _ _) q165 (by decide))
                            have w232 : mm_ye i_6 i_9 i_12 i_15 1 1 := (mm_ye_of (mm_4_1 _ _ _ _) (mm_4_1 _ _ _ _) rfl)
                            have w233 : mm_yg i_7 i_10 i_13 i_16 1 1 i_1 i_3 i_4 := (mm_yg_of (mm_4_1 _ _ _ _) (mm_4_1 _ _ _ _) (mm_xg_of w211 w222 w209 w221 w210 (by decide)))
                            subst hAe
                            rw [hQ]
                            exact W.iret (v := 0) hx hb hr (fun t ht hW => ⟨⟨0, (f_0, g229, f_2, f_3), rfl, (Or.inr (Or.inr (Or.inr (Or.inr (Or.inr (Or.inr (Or.inl ⟨rfl, (mm_wk mm_k1 (by decide)), (mm_wk mm_k1 (by decide)), w230, w231, w232, w233⟩))))))), by rw [ht]; exact hP, hK.warm hW, hD⟩, hS.F ht⟩) hS.2.2 dX11_paste_129
                          · exact mm_eqN c228.symm mm_k0 mm_k1 (by decide)
                  · exact absurd rfl (mm_ne c205)
                · exact mm_eqN c204.symm mm_k0 q165 (by decide)
              · refine W.eq (g2 := F0 m 35 ls [.ref a_14]) rfl ?_
                refine va_get (D := G) (ci := 6) (v := .int i_11) (C := RX6) (T := TX6) (N := 4) hx hb hts (mm_i inlX6) hown hK.1 hP 6 rfl rfl 0 (by decide) (mm_h hts mm_w1239) (fun _ h9 => h9) rfl dX11_paste_35 ?_
                refine lv_if_ne (tgt := 44) hx hb dX11_paste_38 (by decide) (fun c234 => ?_) (fun c234 => ?_)
                · have q235 := mm_neL (lo := 1) (mm_ne c234) h6 mm_k0 (by decide) (by decide)
                  refine lv_aload_n hx hb dX11_paste_44 rfl (lv_at hl 0 rfl) ?_
                  refine va_get (D := G) (ci := 11) (v := .ref a_6) (C := RX11) (T := TX11) (N := 11) hx hb hts (mm_i inlX11) hown hK.1 hP 0 rfl rfl 5 (by decide) (mm_h hts mm_w32) (fun _ h9 => h9) rfl dX11_paste_45 ?_
                  refine lv_iload_n hx hb dX11_paste_48 rfl (lv_at hl 1 rfl) ?_
                  refine va_aldq hx hb hK.1 hP 1 6 rfl rfl (mm_in mm_k1 (by decide)) dX11_paste_49 ?_
                  refine W.eq (g2 := F0 m 50 ls [.ref a_13]) rfl ?_
                  refine va_get (D := G) (ci := 6) (v := .int i_9) (C := RX6) (T := TX6) (N := 4) hx hb hts (mm_i inlX6) hown hK.1 hP 4 rfl rfl 1 (by decide) (mm_h hts mm_w1710) (fun _ h9 => h9) rfl dX11_paste_50 ?_
                  refine lv_aload_n hx hb dX11_paste_53 rfl (lv_at hl 0 rfl) ?_
                  refine va_get (D := G) (ci := 11) (v := .ref a_6) (C := RX11) (T := TX11) (N := 11) hx hb hts (mm_i inlX11) hown hK.1 hP 0 rfl rfl 5 (by decide) (mm_h hts mm_w32) (fun _ h9 => h9) rfl dX11_paste_54 ?_
                  refine lv_iload_n hx hb dX11_paste_57 rfl (lv_at hl 3 rfl) ?_
                  refine va_aldq hx hb hK.1 hP 1 6 rfl rfl (mm_in mm_k2 (by decide)) dX11_paste_58 ?_
                  refine W.eq (g2 := F0 m 59 ls [.ref a_14, .int i_9]) rfl ?_
                  refine va_get (D := G) (ci := 6) (v := .int i_12) (C := RX6) (T := TX6) (N := 4) hx hb hts (mm_i inlX6) hown hK.1 hP 6 rfl rfl 1 (by decide) (mm_h hts mm_w1710) (fun _ h9 => h9) rfl dX11_paste_59 ?_
                  refine lv_icmp_eq (tgt := 68) hx hb dX11_paste_62 (by decide) (fun c236 => ?_) (fun c236 => ?_)
                  · refine lv_aload_n hx hb dX11_paste_68 rfl (lv_at hl 0 rfl) ?_
                    refine va_get (D := G) (ci := 11) (v := .ref a_6) (C := RX11) (T := TX11) (N := 11) hx hb hts (mm_i inlX11) hown hK.1 hP 0 rfl rfl 5 (by decide) (mm_h hts mm_w32) (fun _ h9 => h9) rfl dX11_paste_69 ?_
                    refine lv_iload_n hx hb dX11_paste_72 rfl (lv_at hl 1 rfl) ?_
                    refine va_aldq hx hb hK.1 hP 1 6 rfl rfl (mm_in mm_k1 (by decide)) dX11_paste_73 ?_
                    refine W.eq (g2 := F0 m 74 ls [.ref a_13]) rfl ?_
                    refine lv_iload_n hx hb dX11_paste_74 rfl (lv_at hl 2 rfl) ?_
                    refine lv_iload hx hb dX11_paste_75 (lv_at hl 5 rfl) ?_
                    refine mm_finir (va_runV (As := [.int i_1, .int i_4]) (rest := []) ⟨hx, hb, hml, hown, hts⟩ (C549_X6_reaches l G cy H.size a_13 i_1 i_4 i_8 i_9 i_10 a_17 h5) (cwV 2 hts (mm_gV mm_w1713 mm_w1714 mm_w1715 mm_w34 mm_w1716) rfl rfl rfl hd_X6_reaches ⟨by rw [hRf]; exact Nat.le_of_ble_eq_true rfl, by rw [hRl]; exact Nat.le_of_ble_eq_true rfl⟩) (mm_preV hK hZ hS hA hP hD [4] rfl rfl 4 rfl rfl rfl) rfl rfl hl.1 rfl (lv_room (Nat.le_of_ble_eq_true rfl)) dX11_paste_77 ⟨by rw [hRc]; exact Nat.le_of_ble_eq_true rfl, by rw [hRs]; exact Nat.le_of_ble_eq_true rfl⟩) hP hD hS hA [4] rfl (fun _ => rfl) ?_
                    clear hP hD hS
                    clear H locs
                    intro v237 _u H locs hw hP hD hS
                    rcases hw with ⟨rfl, w238, w239⟩ | ⟨rfl, w240, w241, w242⟩
                    · refine lv_if_eq (tgt := 99) hx hb dX11_paste_80 (by decide) (fun c243 => ?_) (fun c243 => ?_)
                      · refine lv_bipush (v := (-7)) hx hb dX11_paste_99 (by decide) ?_
                        have w244 : mm_y1 i_5 i_8 i_11 i_14 1 := (mm_y1_of (mm_4_1 _ _ _ _) q165 (by decide))
                        have w245 : mm_y1 i_5 i_8 i_11 i_14 2 := (mm_y1_of (mm_4_2 _ _ _ _) q235 (by decide))
                        have w246 : mm_ye i_6 i_9 i_12 i_15 1 2 := (mm_ye_of (mm_4_1 _ _ _ _) (mm_4_2 _ _ _ _) c236)
                        have w247 : mm_yb i_7 i_10 i_13 i_16 1 2 i_1 i_3 i_4 := (mm_yb_of (mm_4_1 _ _ _ _) (mm_4_2 _ _ _ _) (mm_xb_1 w239))
                        subst hAe
                        rw [hQ]
                        exact W.iret (v := (-7)) hx hb hr (fun t ht hW => ⟨⟨(-7), (f_0, f_1, f_2, f_3), rfl, (Or.inr (Or.inr (Or.inr (Or.inr (Or.inr (Or.inl ⟨rfl, (mm_wk mm_k1 (by decide)), (mm_wk mm_k2 (by decide)), w244, w245, w246, w247⟩)))))), by rw [ht]; exact hP, hK.warm hW, hD⟩, hS.F ht⟩) hS.2.2 dX11_paste_101
                      · exact absurd rfl (mm_ne c243)
                    · refine lv_if_eq (tgt := 99) hx hb dX11_paste_80 (by decide) (fun c248 => ?_) (fun c248 => ?_)
                      · exact mm_eqN c248.symm mm_k0 mm_k1 (by decide)
                      · refine lv_aload_n hx hb dX11_paste_83 rfl (lv_at hl 0 rfl) ?_
                        refine va_get (D := G) (ci := 11) (v := .ref a_6) (C := RX11) (T := TX11) (N := 11) hx hb hts (mm_i inlX11) hown hK.1 hP 0 rfl rfl 5 (by decide) (mm_h hts mm_w32) (fun _ h9 => h9) rfl dX11_paste_84 ?_
                        refine lv_iload_n hx hb dX11_paste_87 rfl (lv_at hl 3 rfl) ?_
                        refine va_aldq hx hb hK.1 hP 1 6 rfl rfl (mm_in mm_k2 (by decide)) dX11_paste_88 ?_
                        refine W.eq (g2 := F0 m 89 ls [.ref a_14]) rfl ?_
                        refine lv_iload hx hb dX11_paste_89 (lv_at hl 4 rfl) ?_
                        refine lv_iload hx hb dX11_paste_91 (lv_at hl 5 rfl) ?_
                        refine mm_finir (va_runV (As := [.int i_3, .int i_4]) (rest := []) ⟨hx, hb, hml, hown, hts⟩ (C550_X6_reaches l G cy H.size a_14 i_3 i_4 i_11 i_12 i_13 a_18 w241 h8) (cwV 2 hts (mm_gV mm_w1713 mm_w1714 mm_w1715 mm_w34 mm_w1716) rfl rfl rfl hd_X6_reaches ⟨by rw [hRf]; exact Nat.le_of_ble_eq_true rfl, by rw [hRl]; exact Nat.le_of_ble_eq_true rfl⟩) (mm_preV hK hZ hS hA hP hD [6] rfl rfl 6 rfl rfl rfl) rfl rfl hl.1 rfl (lv_room (Nat.le_of_ble_eq_true rfl)) dX11_paste_93 ⟨by rw [hRc]; exact Nat.le_of_ble_eq_true rfl, by rw [hRs]; exact Nat.le_of_ble_eq_true rfl⟩) hP hD hS hA [6] rfl (fun _ => rfl) ?_
                        clear hP hD hS
                        clear H locs
                        intro v249 _u H locs hw hP hD hS
                        rcases hw with ⟨rfl, w250, w251⟩ | ⟨rfl, w252, w253⟩
                        · refine lv_if_ne (tgt := 102) hx hb dX11_paste_96 (by decide) (fun c254 => ?_) (fun c254 => ?_)
                          · exact absurd rfl (mm_ne c254)
                          · refine lv_bipush (v := (-7)) hx hb dX11_paste_99 (by decide) ?_
                            have w255 : mm_y1 i_5 i_8 i_11 i_14 1 := (mm_y1_of (mm_4_1 _ _ _ _) q165 (by decide))
                            have w256 : mm_y1 i_5 i_8 i_11 i_14 2 := (mm_y1_of (mm_4_2 _ _ _ _) q235 (by decide))
                            have w257 : mm_ye i_6 i_9 i_12 i_15 1 2 := (mm_ye_of (mm_4_1 _ _ _ _) (mm_4_2 _ _ _ _) c236)
                            have w258 : mm_yb i_7 i_10 i_13 i_16 1 2 i_1 i_3 i_4 := (mm_yb_of (mm_4_1 _ _ _ _) (mm_4_2 _ _ _ _) (mm_xb_2 w251))
                            subst hAe
                            rw [hQ]
                            exact W.iret (v := (-7)) hx hb hr (fun t ht hW => ⟨⟨(-7), (f_0, f_1, f_2, f_3), rfl, (Or.inr (Or.inr (Or.inr (Or.inr (Or.inr (Or.inl ⟨rfl, (mm_wk mm_k1 (by decide)), (mm_wk mm_k2 (by decide)), w255, w256, w257, w258⟩)))))), by rw [ht]; exact hP, hK.warm hW, hD⟩, hS.F ht⟩) hS.2.2 dX11_paste_101
                        · refine lv_if_ne (tgt := 102) hx hb dX11_paste_96 (by decide) (fun c259 => ?_) (fun c259 => ?_)
                          · refine lv_aload_n hx hb dX11_paste_102 rfl (lv_at hl 0 rfl) ?_
                            refine va_get (D := G) (ci := 11) (v := .ref a_6) (C := RX11) (T := TX11) (N := 11) hx hb hts (mm_i inlX11) hown hK.1 hP 0 rfl rfl 5 (by decide) (mm_h hts mm_w32) (fun _ h9 => h9) rfl dX11_paste_103 ?_
                            refine lv_iload_n hx hb dX11_paste_106 rfl (lv_at hl 1 rfl) ?_
                            refine va_aldq hx hb hK.1 hP 1 6 rfl rfl (mm_in mm_k1 (by decide)) dX11_paste_107 ?_
                            refine W.eq (g2 := F0 m 108 ls [.ref a_13]) rfl ?_
                            refine va_get (D := G) (ci := 6) (v := .ref a_17) (C := RX6) (T := TX6) (N := 4) hx hb hts (mm_i inlX6) hown hK.1 hP 4 rfl rfl 3 (by decide) (mm_h hts mm_w1711) (fun _ h9 => h9) rfl dX11_paste_108 ?_
                            refine lv_iload_n hx hb dX11_paste_111 rfl (lv_at hl 2 rfl) ?_
                            refine lv_aload_n hx hb dX11_paste_112 rfl (lv_at hl 0 rfl) ?_
                            refine va_get (D := G) (ci := 11) (v := .ref a_6) (C := RX11) (T := TX11) (N := 11) hx hb hts (mm_i inlX11) hown hK.1 hP 0 rfl rfl 5 (by decide) (mm_h hts mm_w32) (fun _ h9 => h9) rfl dX11_paste_113 ?_
                            refine lv_iload_n hx hb dX11_paste_116 rfl (lv_at hl 3 rfl) ?_
                            refine va_aldq hx hb hK.1 hP 1 6 rfl rfl (mm_in mm_k2 (by decide)) dX11_paste_117 ?_
                            refine W.eq (g2 := F0 m 118 ls [.ref a_14, .int i_1, .ref a_17]) rfl ?_
                            refine va_get (D := G) (ci := 6) (v := .ref a_18) (C := RX6) (T := TX6) (N := 4) hx hb hts (mm_i inlX6) hown hK.1 hP 6 rfl rfl 3 (by decide) (mm_h hts mm_w1711) (fun _ h9 => h9) rfl dX11_paste_118 ?_
                            refine lv_iload hx hb dX11_paste_121 (lv_at hl 4 rfl) ?_
                            refine lv_iload hx hb dX11_paste_123 (lv_at hl 5 rfl) ?_
                            refine va_copyl hx hb (by rw [hml]; exact hl.1.symm) hown (mm_h hts mm_w1712) (mm_h hts mm_w388) (mm_h hts mm_w389) (mm_h hts mm_w390) hK.1 hP hD hS 5 7 2 2 rfl rfl rfl rfl rfl (mm_nn w240 (by decide)) (mm_nn w252 (by decide)) (mm_nn w241 (by decide)) (mm_cpR w242 w240 w241 h5 (by decide)) (mm_cpR w253 w252 w241 h8 (by decide)) (fun _ _ => rfl) (by rw [hRf]; exact Nat.le_of_ble_eq_true rfl) (by rw [hRl]; exact Nat.le_of_ble_eq_true rfl) dX11_paste_125 ?_
                            clear hP hD hS
                            clear H locs
                            obtain ⟨g260, eg260⟩ : ∃ z : Nat → Int64, z = va_cpy f_1 f_2 i_1.toNatClampNeg i_3.toNatClampNeg i_4.toNatClampNeg := ⟨_, rfl⟩
                            rw [← eg260]
                            intro H locs (hP : va_P G vwCl [(a_0, .inr (11, [.ref a_1, .ref a_2, .ref a_3, .ref a_4, .ref a_5, .ref a_6, .ref a_7, .ref a_8, .ref a_9, .ref a_10, .ref a_11])), (a_6, .inl (cy 6, 4, .inr (.inr (.inr (.inr (va_up (va_up (va_up (va_up (fun _ => none) 0 (some a_12)) 1 (some a_13)) 2 (some a_14)) 3 (some a_15))))))), (a_12, .inr (6, [.int i_5, .int i_6, .int i_7, .ref a_16])), (a_16, .inl (cy 2, 60, .inr (.inl f_0))), (a_13, .inr (6, [.int i_8, .int i_9, .int i_10, .ref a_17])), (a_17, .inl (cy 2, 60, .inr (.inl f_1))), (a_14, .inr (6, [.int i_11, .int i_12, .int i_13, .ref a_18])), (a_18, .inl (cy 2, 60, .inr (.inl g260))), (a_15, .inr (6, [.int i_14, .int i_15, .int i_16, .ref a_19])), (a_19, .inl (cy 2, 60, .inr (.inl f_3)))] H) (hD : va_D A [(a_0, .inr (11, [.ref a_1, .ref a_2, .ref a_3, .ref a_4, .ref a_5, .ref a_6, .ref a_7, .ref a_8, .ref a_9, .ref a_10, .ref a_11])), (a_6, .inl (cy 6, 4, .inr (.inr (.inr (.inr (va_up (va_up (va_up (va_up (fun _ => none) 0 (some a_12)) 1 (some a_13)) 2 (some a_14)) 3 (some a_15))))))), (a_12, .inr (6, [.int i_5, .int i_6, .int i_7, .ref a_16])), (a_16, .inl (cy 2, 60, .inr (.inl f_0))), (a_13, .inr (6, [.int i_8, .int i_9, .int i_10, .ref a_17])), (a_17, .inl (cy 2, 60, .inr (.inl f_1))), (a_14, .inr (6, [.int i_11, .int i_12, .int i_13, .ref a_18])), (a_18, .inl (cy 2, 60, .inr (.inl g260))), (a_15, .inr (6, [.int i_14, .int i_15, .int i_16, .ref a_19])), (a_19, .inl (cy 2, 60, .inr (.inl f_3)))]) hS
                            refine lv_iconst (v := 0) hx hb dX11_paste_128 (by decide) ?_
                            have w261 : mm_y1 i_5 i_8 i_11 i_14 1 := (mm_y1_of (mm_4_1 _ _ _ _) q165 (by decide))
                            have w262 : mm_y1 i_5 i_8 i_11 i_14 2 := (mm_y1_of (mm_4_2 _ _ _ _) q235 (by decide))
                            have w263 : mm_ye i_6 i_9 i_12 i_15 1 2 := (mm_ye_of (mm_4_1 _ _ _ _) (mm_4_2 _ _ _ _) c236)
                            have w264 : mm_yg i_7 i_10 i_13 i_16 1 2 i_1 i_3 i_4 := (mm_yg_of (mm_4_1 _ _ _ _) (mm_4_2 _ _ _ _) (mm_xg_of w242 w253 w240 w252 w241 (by decide)))
                            subst hAe
                            rw [hQ]
                            exact W.iret (v := 0) hx hb hr (fun t ht hW => ⟨⟨0, (f_0, f_1, g260, f_3), rfl, (Or.inr (Or.inr (Or.inr (Or.inr (Or.inr (Or.inr (Or.inl ⟨rfl, (mm_wk mm_k1 (by decide)), (mm_wk mm_k2 (by decide)), w261, w262, w263, w264⟩))))))), by rw [ht]; exact hP, hK.warm hW, hD⟩, hS.F ht⟩) hS.2.2 dX11_paste_129
                          · exact mm_eqN c259.symm mm_k0 mm_k1 (by decide)
                  · refine lv_bipush (v := (-8)) hx hb dX11_paste_65 (by decide) ?_
                    have w265 : mm_y1 i_5 i_8 i_11 i_14 1 := (mm_y1_of (mm_4_1 _ _ _ _) q165 (by decide))
                    have w266 : mm_y1 i_5 i_8 i_11 i_14 2 := (mm_y1_of (mm_4_2 _ _ _ _) q235 (by decide))
                    have w267 : mm_yn i_6 i_9 i_12 i_15 1 2 := (mm_yn_of (mm_4_1 _ _ _ _) (mm_4_2 _ _ _ _) (mm_ne c236))
                    subst hAe
                    rw [hQ]
                    exact W.iret (v := (-8)) hx hb hr (fun t ht hW => ⟨⟨(-8), (f_0, f_1, f_2, f_3), rfl, (Or.inr (Or.inr (Or.inr (Or.inr (Or.inr (Or.inr (Or.inr (Or.inl ⟨rfl, (mm_wk mm_k1 (by decide)), (mm_wk mm_k2 (by decide)), w265, w266, w267⟩)))))))), by rw [ht]; exact hP, hK.warm hW, hD⟩, hS.F ht⟩) hS.2.2 dX11_paste_67
                · have q268 := mm_eqI (lo := 0) (hi := 0) c234 h6 mm_k0 (by decide)
                  refine lv_bipush (v := (-6)) hx hb dX11_paste_41 (by decide) ?_
                  have w269 : mm_y1 i_5 i_8 i_11 i_14 1 := (mm_y1_of (mm_4_1 _ _ _ _) q165 (by decide))
                  have w270 : mm_y0 i_5 i_8 i_11 i_14 2 := (mm_y0_of (mm_4_2 _ _ _ _) q268 (by decide))
                  subst hAe
                  rw [hQ]
                  exact W.iret (v := (-6)) hx hb hr (fun t ht hW => ⟨⟨(-6), (f_0, f_1, f_2, f_3), rfl, (Or.inr (Or.inr (Or.inr (Or.inr (Or.inr (Or.inr (Or.inr (Or.inr ⟨rfl, (mm_wk mm_k1 (by decide)), (mm_wk mm_k2 (by decide)), w269, w270⟩)))))))), by rw [ht]; exact hP, hK.warm hW, hD⟩, hS.F ht⟩) hS.2.2 dX11_paste_43
              · refine W.eq (g2 := F0 m 35 ls [.ref a_15]) rfl ?_
                refine va_get (D := G) (ci := 6) (v := .int i_14) (C := RX6) (T := TX6) (N := 4) hx hb hts (mm_i inlX6) hown hK.1 hP 8 rfl rfl 0 (by decide) (mm_h hts mm_w1239) (fun _ h9 => h9) rfl dX11_paste_35 ?_
                refine lv_if_ne (tgt := 44) hx hb dX11_paste_38 (by decide) (fun c271 => ?_) (fun c271 => ?_)
                · have q272 := mm_neL (lo := 1) (mm_ne c271) h9 mm_k0 (by decide) (by decide)
                  refine lv_aload_n hx hb dX11_paste_44 rfl (lv_at hl 0 rfl) ?_
                  refine va_get (D := G) (ci := 11) (v := .ref a_6) (C := RX11) (T := TX11) (N := 11) hx hb hts (mm_i inlX11) hown hK.1 hP 0 rfl rfl 5 (by decide) (mm_h hts mm_w32) (fun _ h9 => h9) rfl dX11_paste_45 ?_
                  refine lv_iload_n hx hb dX11_paste_48 rfl (lv_at hl 1 rfl) ?_
                  refine va_aldq hx hb hK.1 hP 1 6 rfl rfl (mm_in mm_k1 (by decide)) dX11_paste_49 ?_
                  refine W.eq (g2 := F0 m 50 ls [.ref a_13]) rfl ?_
                  refine va_get (D := G) (ci := 6) (v := .int i_9) (C := RX6) (T := TX6) (N := 4) hx hb hts (mm_i inlX6) hown hK.1 hP 4 rfl rfl 1 (by decide) (mm_h hts mm_w1710) (fun _ h9 => h9) rfl dX11_paste_50 ?_
                  refine lv_aload_n hx hb dX11_paste_53 rfl (lv_at hl 0 rfl) ?_
                  refine va_get (D := G) (ci := 11) (v := .ref a_6) (C := RX11) (T := TX11) (N := 11) hx hb hts (mm_i inlX11) hown hK.1 hP 0 rfl rfl 5 (by decide) (mm_h hts mm_w32) (fun _ h9 => h9) rfl dX11_paste_54 ?_
                  refine lv_iload_n hx hb dX11_paste_57 rfl (lv_at hl 3 rfl) ?_
                  refine va_aldq hx hb hK.1 hP 1 6 rfl rfl (mm_in mm_k3 (by decide)) dX11_paste_58 ?_
                  refine W.eq (g2 := F0 m 59 ls [.ref a_15, .int i_9]) rfl ?_
                  refine va_get (D := G) (ci := 6) (v := .int i_15) (C := RX6) (T := TX6) (N := 4) hx hb hts (mm_i inlX6) hown hK.1 hP 8 rfl rfl 1 (by decide) (mm_h hts mm_w1710) (fun _ h9 => h9) rfl dX11_paste_59 ?_
                  refine lv_icmp_eq (tgt := 68) hx hb dX11_paste_62 (by decide) (fun c273 => ?_) (fun c273 => ?_)
                  · refine lv_aload_n hx hb dX11_paste_68 rfl (lv_at hl 0 rfl) ?_
                    refine va_get (D := G) (ci := 11) (v := .ref a_6) (C := RX11) (T := TX11) (N := 11) hx hb hts (mm_i inlX11) hown hK.1 hP 0 rfl rfl 5 (by decide) (mm_h hts mm_w32) (fun _ h9 => h9) rfl dX11_paste_69 ?_
                    refine lv_iload_n hx hb dX11_paste_72 rfl (lv_at hl 1 rfl) ?_
                    refine va_aldq hx hb hK.1 hP 1 6 rfl rfl (mm_in mm_k1 (by decide)) dX11_paste_73 ?_
                    refine W.eq (g2 := F0 m 74 ls [.ref a_13]) rfl ?_
                    refine lv_iload_n hx hb dX11_paste_74 rfl (lv_at hl 2 rfl) ?_
                    refine lv_iload hx hb dX11_paste_75 (lv_at hl 5 rfl) ?_
                    refine mm_finir (va_runV (As := [.int i_1, .int i_4]) (rest := []) ⟨hx, hb, hml, hown, hts⟩ (C549_X6_reaches l G cy H.size a_13 i_1 i_4 i_8 i_9 i_10 a_17 h5) (cwV 2 hts (mm_gV mm_w1713 mm_w1714 mm_w1715 mm_w34 mm_w1716) rfl rfl rfl hd_X6_reaches ⟨by rw [hRf]; exact Nat.le_of_ble_eq_true rfl, by rw [hRl]; exact Nat.le_of_ble_eq_true rfl⟩) (mm_preV hK hZ hS hA hP hD [4] rfl rfl 4 rfl rfl rfl) rfl rfl hl.1 rfl (lv_room (Nat.le_of_ble_eq_true rfl)) dX11_paste_77 ⟨by rw [hRc]; exact Nat.le_of_ble_eq_true rfl, by rw [hRs]; exact Nat.le_of_ble_eq_true rfl⟩) hP hD hS hA [4] rfl (fun _ => rfl) ?_
                    clear hP hD hS
                    clear H locs
                    intro v274 _u H locs hw hP hD hS
                    rcases hw with ⟨rfl, w275, w276⟩ | ⟨rfl, w277, w278, w279⟩
                    · refine lv_if_eq (tgt := 99) hx hb dX11_paste_80 (by decide) (fun c280 => ?_) (fun c280 => ?_)
                      · refine lv_bipush (v := (-7)) hx hb dX11_paste_99 (by decide) ?_
                        have w281 : mm_y1 i_5 i_8 i_11 i_14 1 := (mm_y1_of (mm_4_1 _ _ _ _) q165 (by decide))
                        have w282 : mm_y1 i_5 i_8 i_11 i_14 3 := (mm_y1_of (mm_4_3 _ _ _ _) q272 (by decide))
                        have w283 : mm_ye i_6 i_9 i_12 i_15 1 3 := (mm_ye_of (mm_4_1 _ _ _ _) (mm_4_3 _ _ _ _) c273)
                        have w284 : mm_yb i_7 i_10 i_13 i_16 1 3 i_1 i_3 i_4 := (mm_yb_of (mm_4_1 _ _ _ _) (mm_4_3 _ _ _ _) (mm_xb_1 w276))
                        subst hAe
                        rw [hQ]
                        exact W.iret (v := (-7)) hx hb hr (fun t ht hW => ⟨⟨(-7), (f_0, f_1, f_2, f_3), rfl, (Or.inr (Or.inr (Or.inr (Or.inr (Or.inr (Or.inl ⟨rfl, (mm_wk mm_k1 (by decide)), (mm_wk mm_k3 (by decide)), w281, w282, w283, w284⟩)))))), by rw [ht]; exact hP, hK.warm hW, hD⟩, hS.F ht⟩) hS.2.2 dX11_paste_101
                      · exact absurd rfl (mm_ne c280)
                    · refine lv_if_eq (tgt := 99) hx hb dX11_paste_80 (by decide) (fun c285 => ?_) (fun c285 => ?_)
                      · exact mm_eqN c285.symm mm_k0 mm_k1 (by decide)
                      · refine lv_aload_n hx hb dX11_paste_83 rfl (lv_at hl 0 rfl) ?_
                        refine va_get (D := G) (ci := 11) (v := .ref a_6) (C := RX11) (T := TX11) (N := 11) hx hb hts (mm_i inlX11) hown hK.1 hP 0 rfl rfl 5 (by decide) (mm_h hts mm_w32) (fun _ h9 => h9) rfl dX11_paste_84 ?_
                        refine lv_iload_n hx hb dX11_paste_87 rfl (lv_at hl 3 rfl) ?_
                        refine va_aldq hx hb hK.1 hP 1 6 rfl rfl (mm_in mm_k3 (by decide)) dX11_paste_88 ?_
                        refine W.eq (g2 := F0 m 89 ls [.ref a_15]) rfl ?_
                        refine lv_iload hx hb dX11_paste_89 (lv_at hl 4 rfl) ?_
                        refine lv_iload hx hb dX11_paste_91 (lv_at hl 5 rfl) ?_
                        refine mm_finir (va_runV (As := [.int i_3, .int i_4]) (rest := []) ⟨hx, hb, hml, hown, hts⟩ (C550_X6_reaches l G cy H.size a_15 i_3 i_4 i_14 i_15 i_16 a_19 w278 h11) (cwV 2 hts (mm_gV mm_w1713 mm_w1714 mm_w1715 mm_w34 mm_w1716) rfl rfl rfl hd_X6_reaches ⟨by rw [hRf]; exact Nat.le_of_ble_eq_true rfl, by rw [hRl]; exact Nat.le_of_ble_eq_true rfl⟩) (mm_preV hK hZ hS hA hP hD [8] rfl rfl 8 rfl rfl rfl) rfl rfl hl.1 rfl (lv_room (Nat.le_of_ble_eq_true rfl)) dX11_paste_93 ⟨by rw [hRc]; exact Nat.le_of_ble_eq_true rfl, by rw [hRs]; exact Nat.le_of_ble_eq_true rfl⟩) hP hD hS hA [8] rfl (fun _ => rfl) ?_
                        clear hP hD hS
                        clear H locs
                        intro v286 _u H locs hw hP hD hS
                        rcases hw with ⟨rfl, w287, w288⟩ | ⟨rfl, w289, w290⟩
                        · refine lv_if_ne (tgt := 102) hx hb dX11_paste_96 (by decide) (fun c291 => ?_) (fun c291 => ?_)
                          · exact absurd rfl (mm_ne c291)
                          · refine lv_bipush (v := (-7)) hx hb dX11_paste_99 (by decide) ?_
                            have w292 : mm_y1 i_5 i_8 i_11 i_14 1 := (mm_y1_of (mm_4_1 _ _ _ _) q165 (by decide))
                            have w293 : mm_y1 i_5 i_8 i_11 i_14 3 := (mm_y1_of (mm_4_3 _ _ _ _) q272 (by decide))
                            have w294 : mm_ye i_6 i_9 i_12 i_15 1 3 := (mm_ye_of (mm_4_1 _ _ _ _) (mm_4_3 _ _ _ _) c273)
                            have w295 : mm_yb i_7 i_10 i_13 i_16 1 3 i_1 i_3 i_4 := (mm_yb_of (mm_4_1 _ _ _ _) (mm_4_3 _ _ _ _) (mm_xb_2 w288))
                            subst hAe
                            rw [hQ]
                            exact W.iret (v := (-7)) hx hb hr (fun t ht hW => ⟨⟨(-7), (f_0, f_1, f_2, f_3), rfl, (Or.inr (Or.inr (Or.inr (Or.inr (Or.inr (Or.inl ⟨rfl, (mm_wk mm_k1 (by decide)), (mm_wk mm_k3 (by decide)), w292, w293, w294, w295⟩)))))), by rw [ht]; exact hP, hK.warm hW, hD⟩, hS.F ht⟩) hS.2.2 dX11_paste_101
                        · refine lv_if_ne (tgt := 102) hx hb dX11_paste_96 (by decide) (fun c296 => ?_) (fun c296 => ?_)
                          · refine lv_aload_n hx hb dX11_paste_102 rfl (lv_at hl 0 rfl) ?_
                            refine va_get (D := G) (ci := 11) (v := .ref a_6) (C := RX11) (T := TX11) (N := 11) hx hb hts (mm_i inlX11) hown hK.1 hP 0 rfl rfl 5 (by decide) (mm_h hts mm_w32) (fun _ h9 => h9) rfl dX11_paste_103 ?_
                            refine lv_iload_n hx hb dX11_paste_106 rfl (lv_at hl 1 rfl) ?_
                            refine va_aldq hx hb hK.1 hP 1 6 rfl rfl (mm_in mm_k1 (by decide)) dX11_paste_107 ?_
                            refine W.eq (g2 := F0 m 108 ls [.ref a_13]) rfl ?_
                            refine va_get (D := G) (ci := 6) (v := .ref a_17) (C := RX6) (T := TX6) (N := 4) hx hb hts (mm_i inlX6) hown hK.1 hP 4 rfl rfl 3 (by decide) (mm_h hts mm_w1711) (fun _ h9 => h9) rfl dX11_paste_108 ?_
                            refine lv_iload_n hx hb dX11_paste_111 rfl (lv_at hl 2 rfl) ?_
                            refine lv_aload_n hx hb dX11_paste_112 rfl (lv_at hl 0 rfl) ?_
                            refine va_get (D := G) (ci := 11) (v := .ref a_6) (C := RX11) (T := TX11) (N := 11) hx hb hts (mm_i inlX11) hown hK.1 hP 0 rfl rfl 5 (by decide) (mm_h hts mm_w32) (fun _ h9 => h9) rfl dX11_paste_113 ?_
                            refine lv_iload_n hx hb dX11_paste_116 rfl (lv_at hl 3 rfl) ?_
                            refine va_aldq hx hb hK.1 hP 1 6 rfl rfl (mm_in mm_k3 (by decide)) dX11_paste_117 ?_
                            refine W.eq (g2 := F0 m 118 ls [.ref a_15, .int i_1, .ref a_17]) rfl ?_
                            refine va_get (D := G) (ci := 6) (v := .ref a_19) (C := RX6) (T := TX6) (N := 4) hx hb hts (mm_i inlX6) hown hK.1 hP 8 rfl rfl 3 (by decide) (mm_h hts mm_w1711) (fun _ h9 => h9) rfl dX11_paste_118 ?_
                            refine lv_iload hx hb dX11_paste_121 (lv_at hl 4 rfl) ?_
                            refine lv_iload hx hb dX11_paste_123 (lv_at hl 5 rfl) ?_
                            refine va_copyl hx hb (by rw [hml]; exact hl.1.symm) hown (mm_h hts mm_w1712) (mm_h hts mm_w388) (mm_h hts mm_w389) (mm_h hts mm_w390) hK.1 hP hD hS 5 9 2 2 rfl rfl rfl rfl rfl (mm_nn w277 (by decide)) (mm_nn w289 (by decide)) (mm_nn w278 (by decide)) (mm_cpR w279 w277 w278 h5 (by decide)) (mm_cpR w290 w289 w278 h11 (by decide)) (fun _ _ => rfl) (by rw [hRf]; exact Nat.le_of_ble_eq_true rfl) (by rw [hRl]; exact Nat.le_of_ble_eq_true rfl) dX11_paste_125 ?_
                            clear hP hD hS
                            clear H locs
                            obtain ⟨g297, eg297⟩ : ∃ z : Nat → Int64, z = va_cpy f_1 f_3 i_1.toNatClampNeg i_3.toNatClampNeg i_4.toNatClampNeg := ⟨_, rfl⟩
                            rw [← eg297]
                            intro H locs (hP : va_P G vwCl [(a_0, .inr (11, [.ref a_1, .ref a_2, .ref a_3, .ref a_4, .ref a_5, .ref a_6, .ref a_7, .ref a_8, .ref a_9, .ref a_10, .ref a_11])), (a_6, .inl (cy 6, 4, .inr (.inr (.inr (.inr (va_up (va_up (va_up (va_up (fun _ => none) 0 (some a_12)) 1 (some a_13)) 2 (some a_14)) 3 (some a_15))))))), (a_12, .inr (6, [.int i_5, .int i_6, .int i_7, .ref a_16])), (a_16, .inl (cy 2, 60, .inr (.inl f_0))), (a_13, .inr (6, [.int i_8, .int i_9, .int i_10, .ref a_17])), (a_17, .inl (cy 2, 60, .inr (.inl f_1))), (a_14, .inr (6, [.int i_11, .int i_12, .int i_13, .ref a_18])), (a_18, .inl (cy 2, 60, .inr (.inl f_2))), (a_15, .inr (6, [.int i_14, .int i_15, .int i_16, .ref a_19])), (a_19, .inl (cy 2, 60, .inr (.inl g297)))] H) (hD : va_D A [(a_0, .inr (11, [.ref a_1, .ref a_2, .ref a_3, .ref a_4, .ref a_5, .ref a_6, .ref a_7, .ref a_8, .ref a_9, .ref a_10, .ref a_11])), (a_6, .inl (cy 6, 4, .inr (.inr (.inr (.inr (va_up (va_up (va_up (va_up (fun _ => none) 0 (some a_12)) 1 (some a_13)) 2 (some a_14)) 3 (some a_15))))))), (a_12, .inr (6, [.int i_5, .int i_6, .int i_7, .ref a_16])), (a_16, .inl (cy 2, 60, .inr (.inl f_0))), (a_13, .inr (6, [.int i_8, .int i_9, .int i_10, .ref a_17])), (a_17, .inl (cy 2, 60, .inr (.inl f_1))), (a_14, .inr (6, [.int i_11, .int i_12, .int i_13, .ref a_18])), (a_18, .inl (cy 2, 60, .inr (.inl f_2))), (a_15, .inr (6, [.int i_14, .int i_15, .int i_16, .ref a_19])), (a_19, .inl (cy 2, 60, .inr (.inl g297)))]) hS
                            refine lv_iconst (v := 0) hx hb dX11_paste_128 (by decide) ?_
                            have w298 : mm_y1 i_5 i_8 i_11 i_14 1 := (mm_y1_of (mm_4_1 _ _ _ _) q165 (by decide))
                            have w299 : mm_y1 i_5 i_8 i_11 i_14 3 := (mm_y1_of (mm_4_3 _ _ _ _) q272 (by decide))
                            have w300 : mm_ye i_6 i_9 i_12 i_15 1 3 := (mm_ye_of (mm_4_1 _ _ _ _) (mm_4_3 _ _ _ _) c273)
                            have w301 : mm_yg i_7 i_10 i_13 i_16 1 3 i_1 i_3 i_4 := (mm_yg_of (mm_4_1 _ _ _ _) (mm_4_3 _ _ _ _) (mm_xg_of w279 w290 w277 w289 w278 (by decide)))
                            subst hAe
                            rw [hQ]
                            exact W.iret (v := 0) hx hb hr (fun t ht hW => ⟨⟨0, (f_0, f_1, f_2, g297), rfl, (Or.inr (Or.inr (Or.inr (Or.inr (Or.inr (Or.inr (Or.inl ⟨rfl, (mm_wk mm_k1 (by decide)), (mm_wk mm_k3 (by decide)), w298, w299, w300, w301⟩))))))), by rw [ht]; exact hP, hK.warm hW, hD⟩, hS.F ht⟩) hS.2.2 dX11_paste_129
                          · exact mm_eqN c296.symm mm_k0 mm_k1 (by decide)
                  · refine lv_bipush (v := (-8)) hx hb dX11_paste_65 (by decide) ?_
                    have w302 : mm_y1 i_5 i_8 i_11 i_14 1 := (mm_y1_of (mm_4_1 _ _ _ _) q165 (by decide))
                    have w303 : mm_y1 i_5 i_8 i_11 i_14 3 := (mm_y1_of (mm_4_3 _ _ _ _) q272 (by decide))
                    have w304 : mm_yn i_6 i_9 i_12 i_15 1 3 := (mm_yn_of (mm_4_1 _ _ _ _) (mm_4_3 _ _ _ _) (mm_ne c273))
                    subst hAe
                    rw [hQ]
                    exact W.iret (v := (-8)) hx hb hr (fun t ht hW => ⟨⟨(-8), (f_0, f_1, f_2, f_3), rfl, (Or.inr (Or.inr (Or.inr (Or.inr (Or.inr (Or.inr (Or.inr (Or.inl ⟨rfl, (mm_wk mm_k1 (by decide)), (mm_wk mm_k3 (by decide)), w302, w303, w304⟩)))))))), by rw [ht]; exact hP, hK.warm hW, hD⟩, hS.F ht⟩) hS.2.2 dX11_paste_67
                · have q305 := mm_eqI (lo := 0) (hi := 0) c271 h9 mm_k0 (by decide)
                  refine lv_bipush (v := (-6)) hx hb dX11_paste_41 (by decide) ?_
                  have w306 : mm_y1 i_5 i_8 i_11 i_14 1 := (mm_y1_of (mm_4_1 _ _ _ _) q165 (by decide))
                  have w307 : mm_y0 i_5 i_8 i_11 i_14 3 := (mm_y0_of (mm_4_3 _ _ _ _) q305 (by decide))
                  subst hAe
                  rw [hQ]
                  exact W.iret (v := (-6)) hx hb hr (fun t ht hW => ⟨⟨(-6), (f_0, f_1, f_2, f_3), rfl, (Or.inr (Or.inr (Or.inr (Or.inr (Or.inr (Or.inr (Or.inr (Or.inr ⟨rfl, (mm_wk mm_k1 (by decide)), (mm_wk mm_k3 (by decide)), w306, w307⟩)))))))), by rw [ht]; exact hP, hK.warm hW, hD⟩, hS.F ht⟩) hS.2.2 dX11_paste_43
          · refine W.eq (g2 := F0 m 23 ls [.ref a_14]) rfl ?_
            refine va_get (D := G) (ci := 6) (v := .int i_11) (C := RX6) (T := TX6) (N := 4) hx hb hts (mm_i inlX6) hown hK.1 hP 6 rfl rfl 0 (by decide) (mm_h hts mm_w1239) (fun _ h9 => h9) rfl dX11_paste_23 ?_
            refine lv_if_eq (tgt := 41) hx hb dX11_paste_26 (by decide) (fun c308 => ?_) (fun c308 => ?_)
            · have q309 := mm_eqI (lo := 0) (hi := 0) c308 h6 mm_k0 (by decide)
              refine lv_bipush (v := (-6)) hx hb dX11_paste_41 (by decide) ?_
              have w310 : mm_y0 i_5 i_8 i_11 i_14 2 := (mm_y0_of (mm_4_2 _ _ _ _) q309 (by decide))
              subst hAe
              rw [hQ]
              exact W.iret (v := (-6)) hx hb hr (fun t ht hW => ⟨⟨(-6), (f_0, f_1, f_2, f_3), rfl, (Or.inr (Or.inr (Or.inr (Or.inr (Or.inl ⟨rfl, (mm_wk mm_k2 (by decide)), w11, w310⟩))))), by rw [ht]; exact hP, hK.warm hW, hD⟩, hS.F ht⟩) hS.2.2 dX11_paste_43
            · have q311 := mm_neL (lo := 1) (mm_ne c308) h6 mm_k0 (by decide) (by decide)
              refine lv_aload_n hx hb dX11_paste_29 rfl (lv_at hl 0 rfl) ?_
              refine va_get (D := G) (ci := 11) (v := .ref a_6) (C := RX11) (T := TX11) (N := 11) hx hb hts (mm_i inlX11) hown hK.1 hP 0 rfl rfl 5 (by decide) (mm_h hts mm_w32) (fun _ h9 => h9) rfl dX11_paste_30 ?_
              refine lv_iload_n hx hb dX11_paste_33 rfl (lv_at hl 3 rfl) ?_
              refine va_aldq hx hb hK.1 hP 1 6 rfl rfl (mm_in w11 (by decide)) dX11_paste_34 ?_
              have c312 := mm_cases4 w11
              rcases c312 with rfl | rfl | rfl | rfl
              · refine W.eq (g2 := F0 m 35 ls [.ref a_12]) rfl ?_
                refine va_get (D := G) (ci := 6) (v := .int i_5) (C := RX6) (T := TX6) (N := 4) hx hb hts (mm_i inlX6) hown hK.1 hP 2 rfl rfl 0 (by decide) (mm_h hts mm_w1239) (fun _ h9 => h9) rfl dX11_paste_35 ?_
                refine lv_if_ne (tgt := 44) hx hb dX11_paste_38 (by decide) (fun c313 => ?_) (fun c313 => ?_)
                · have q314 := mm_neL (lo := 1) (mm_ne c313) h0 mm_k0 (by decide) (by decide)
                  refine lv_aload_n hx hb dX11_paste_44 rfl (lv_at hl 0 rfl) ?_
                  refine va_get (D := G) (ci := 11) (v := .ref a_6) (C := RX11) (T := TX11) (N := 11) hx hb hts (mm_i inlX11) hown hK.1 hP 0 rfl rfl 5 (by decide) (mm_h hts mm_w32) (fun _ h9 => h9) rfl dX11_paste_45 ?_
                  refine lv_iload_n hx hb dX11_paste_48 rfl (lv_at hl 1 rfl) ?_
                  refine va_aldq hx hb hK.1 hP 1 6 rfl rfl (mm_in mm_k2 (by decide)) dX11_paste_49 ?_
                  refine W.eq (g2 := F0 m 50 ls [.ref a_14]) rfl ?_
                  refine va_get (D := G) (ci := 6) (v := .int i_12) (C := RX6) (T := TX6) (N := 4) hx hb hts (mm_i inlX6) hown hK.1 hP 6 rfl rfl 1 (by decide) (mm_h hts mm_w1710) (fun _ h9 => h9) rfl dX11_paste_50 ?_
                  refine lv_aload_n hx hb dX11_paste_53 rfl (lv_at hl 0 rfl) ?_
                  refine va_get (D := G) (ci := 11) (v := .ref a_6) (C := RX11) (T := TX11) (N := 11) hx hb hts (mm_i inlX11) hown hK.1 hP 0 rfl rfl 5 (by decide) (mm_h hts mm_w32) (fun _ h9 => h9) rfl dX11_paste_54 ?_
                  refine lv_iload_n hx hb dX11_paste_57 rfl (lv_at hl 3 rfl) ?_
                  refine va_aldq hx hb hK.1 hP 1 6 rfl rfl (mm_in mm_k0 (by decide)) dX11_paste_58 ?_
                  refine W.eq (g2 := F0 m 59 ls [.ref a_12, .int i_12]) rfl ?_
                  refine va_get (D := G) (ci := 6) (v := .int i_6) (C := RX6) (T := TX6) (N := 4) hx hb hts (mm_i inlX6) hown hK.1 hP 2 rfl rfl 1 (by decide) (mm_h hts mm_w1710) (fun _ h9 => h9) rfl dX11_paste_59 ?_
                  refine lv_icmp_eq (tgt := 68) hx hb dX11_paste_62 (by decide) (fun c315 => ?_) (fun c315 => ?_)
                  · refine lv_aload_n hx hb dX11_paste_68 rfl (lv_at hl 0 rfl) ?_
                    refine va_get (D := G) (ci := 11) (v := .ref a_6) (C := RX11) (T := TX11) (N := 11) hx hb hts (mm_i inlX11) hown hK.1 hP 0 rfl rfl 5 (by decide) (mm_h hts mm_w32) (fun _ h9 => h9) rfl dX11_paste_69 ?_
                    refine lv_iload_n hx hb dX11_paste_72 rfl (lv_at hl 1 rfl) ?_
                    refine va_aldq hx hb hK.1 hP 1 6 rfl rfl (mm_in mm_k2 (by decide)) dX11_paste_73 ?_
                    refine W.eq (g2 := F0 m 74 ls [.ref a_14]) rfl ?_
                    refine lv_iload_n hx hb dX11_paste_74 rfl (lv_at hl 2 rfl) ?_
                    refine lv_iload hx hb dX11_paste_75 (lv_at hl 5 rfl) ?_
                    refine mm_finir (va_runV (As := [.int i_1, .int i_4]) (rest := []) ⟨hx, hb, hml, hown, hts⟩ (C549_X6_reaches l G cy H.size a_14 i_1 i_4 i_11 i_12 i_13 a_18 h8) (cwV 2 hts (mm_gV mm_w1713 mm_w1714 mm_w1715 mm_w34 mm_w1716) rfl rfl rfl hd_X6_reaches ⟨by rw [hRf]; exact Nat.le_of_ble_eq_true rfl, by rw [hRl]; exact Nat.le_of_ble_eq_true rfl⟩) (mm_preV hK hZ hS hA hP hD [6] rfl rfl 6 rfl rfl rfl) rfl rfl hl.1 rfl (lv_room (Nat.le_of_ble_eq_true rfl)) dX11_paste_77 ⟨by rw [hRc]; exact Nat.le_of_ble_eq_true rfl, by rw [hRs]; exact Nat.le_of_ble_eq_true rfl⟩) hP hD hS hA [6] rfl (fun _ => rfl) ?_
                    clear hP hD hS
                    clear H locs
                    intro v316 _u H locs hw hP hD hS
                    rcases hw with ⟨rfl, w317, w318⟩ | ⟨rfl, w319, w320, w321⟩
                    · refine lv_if_eq (tgt := 99) hx hb dX11_paste_80 (by decide) (fun c322 => ?_) (fun c322 => ?_)
                      · refine lv_bipush (v := (-7)) hx hb dX11_paste_99 (by decide) ?_
                        have w323 : mm_y1 i_5 i_8 i_11 i_14 2 := (mm_y1_of (mm_4_2 _ _ _ _) q311 (by decide))
                        have w324 : mm_y1 i_5 i_8 i_11 i_14 0 := (mm_y1_of (mm_4_0 _ _ _ _) q314 (by decide))
                        have w325 : mm_ye i_6 i_9 i_12 i_15 2 0 := (mm_ye_of (mm_4_2 _ _ _ _) (mm_4_0 _ _ _ _) c315)
                        have w326 : mm_yb i_7 i_10 i_13 i_16 2 0 i_1 i_3 i_4 := (mm_yb_of (mm_4_2 _ _ _ _) (mm_4_0 _ _ _ _) (mm_xb_1 w318))
                        subst hAe
                        rw [hQ]
                        exact W.iret (v := (-7)) hx hb hr (fun t ht hW => ⟨⟨(-7), (f_0, f_1, f_2, f_3), rfl, (Or.inr (Or.inr (Or.inr (Or.inr (Or.inr (Or.inl ⟨rfl, (mm_wk mm_k2 (by decide)), (mm_wk mm_k0 (by decide)), w323, w324, w325, w326⟩)))))), by rw [ht]; exact hP, hK.warm hW, hD⟩, hS.F ht⟩) hS.2.2 dX11_paste_101
                      · exact absurd rfl (mm_ne c322)
                    · refine lv_if_eq (tgt := 99) hx hb dX11_paste_80 (by decide) (fun c327 => ?_) (fun c327 => ?_)
                      · exact mm_eqN c327.symm mm_k0 mm_k1 (by decide)
                      · refine lv_aload_n hx hb dX11_paste_83 rfl (lv_at hl 0 rfl) ?_
                        refine va_get (D := G) (ci := 11) (v := .ref a_6) (C := RX11) (T := TX11) (N := 11) hx hb hts (mm_i inlX11) hown hK.1 hP 0 rfl rfl 5 (by decide) (mm_h hts mm_w32) (fun _ h9 => h9) rfl dX11_paste_84 ?_
                        refine lv_iload_n hx hb dX11_paste_87 rfl (lv_at hl 3 rfl) ?_
                        refine va_aldq hx hb hK.1 hP 1 6 rfl rfl (mm_in mm_k0 (by decide)) dX11_paste_88 ?_
                        refine W.eq (g2 := F0 m 89 ls [.ref a_12]) rfl ?_
                        refine lv_iload hx hb dX11_paste_89 (lv_at hl 4 rfl) ?_
                        refine lv_iload hx hb dX11_paste_91 (lv_at hl 5 rfl) ?_
                        refine mm_finir (va_runV (As := [.int i_3, .int i_4]) (rest := []) ⟨hx, hb, hml, hown, hts⟩ (C550_X6_reaches l G cy H.size a_12 i_3 i_4 i_5 i_6 i_7 a_16 w320 h2) (cwV 2 hts (mm_gV mm_w1713 mm_w1714 mm_w1715 mm_w34 mm_w1716) rfl rfl rfl hd_X6_reaches ⟨by rw [hRf]; exact Nat.le_of_ble_eq_true rfl, by rw [hRl]; exact Nat.le_of_ble_eq_true rfl⟩) (mm_preV hK hZ hS hA hP hD [2] rfl rfl 2 rfl rfl rfl) rfl rfl hl.1 rfl (lv_room (Nat.le_of_ble_eq_true rfl)) dX11_paste_93 ⟨by rw [hRc]; exact Nat.le_of_ble_eq_true rfl, by rw [hRs]; exact Nat.le_of_ble_eq_true rfl⟩) hP hD hS hA [2] rfl (fun _ => rfl) ?_
                        clear hP hD hS
                        clear H locs
                        intro v328 _u H locs hw hP hD hS
                        rcases hw with ⟨rfl, w329, w330⟩ | ⟨rfl, w331, w332⟩
                        · refine lv_if_ne (tgt := 102) hx hb dX11_paste_96 (by decide) (fun c333 => ?_) (fun c333 => ?_)
                          · exact absurd rfl (mm_ne c333)
                          · refine lv_bipush (v := (-7)) hx hb dX11_paste_99 (by decide) ?_
                            have w334 : mm_y1 i_5 i_8 i_11 i_14 2 := (mm_y1_of (mm_4_2 _ _ _ _) q311 (by decide))
                            have w335 : mm_y1 i_5 i_8 i_11 i_14 0 := (mm_y1_of (mm_4_0 _ _ _ _) q314 (by decide))
                            have w336 : mm_ye i_6 i_9 i_12 i_15 2 0 := (mm_ye_of (mm_4_2 _ _ _ _) (mm_4_0 _ _ _ _) c315)
                            have w337 : mm_yb i_7 i_10 i_13 i_16 2 0 i_1 i_3 i_4 := (mm_yb_of (mm_4_2 _ _ _ _) (mm_4_0 _ _ _ _) (mm_xb_2 w330))
                            subst hAe
                            rw [hQ]
                            exact W.iret (v := (-7)) hx hb hr (fun t ht hW => ⟨⟨(-7), (f_0, f_1, f_2, f_3), rfl, (Or.inr (Or.inr (Or.inr (Or.inr (Or.inr (Or.inl ⟨rfl, (mm_wk mm_k2 (by decide)), (mm_wk mm_k0 (by decide)), w334, w335, w336, w337⟩)))))), by rw [ht]; exact hP, hK.warm hW, hD⟩, hS.F ht⟩) hS.2.2 dX11_paste_101
                        · refine lv_if_ne (tgt := 102) hx hb dX11_paste_96 (by decide) (fun c338 => ?_) (fun c338 => ?_)
                          · refine lv_aload_n hx hb dX11_paste_102 rfl (lv_at hl 0 rfl) ?_
                            refine va_get (D := G) (ci := 11) (v := .ref a_6) (C := RX11) (T := TX11) (N := 11) hx hb hts (mm_i inlX11) hown hK.1 hP 0 rfl rfl 5 (by decide) (mm_h hts mm_w32) (fun _ h9 => h9) rfl dX11_paste_103 ?_
                            refine lv_iload_n hx hb dX11_paste_106 rfl (lv_at hl 1 rfl) ?_
                            refine va_aldq hx hb hK.1 hP 1 6 rfl rfl (mm_in mm_k2 (by decide)) dX11_paste_107 ?_
                            refine W.eq (g2 := F0 m 108 ls [.ref a_14]) rfl ?_
                            refine va_get (D := G) (ci := 6) (v := .ref a_18) (C := RX6) (T := TX6) (N := 4) hx hb hts (mm_i inlX6) hown hK.1 hP 6 rfl rfl 3 (by decide) (mm_h hts mm_w1711) (fun _ h9 => h9) rfl dX11_paste_108 ?_
                            refine lv_iload_n hx hb dX11_paste_111 rfl (lv_at hl 2 rfl) ?_
                            refine lv_aload_n hx hb dX11_paste_112 rfl (lv_at hl 0 rfl) ?_
                            refine va_get (D := G) (ci := 11) (v := .ref a_6) (C := RX11) (T := TX11) (N := 11) hx hb hts (mm_i inlX11) hown hK.1 hP 0 rfl rfl 5 (by decide) (mm_h hts mm_w32) (fun _ h9 => h9) rfl dX11_paste_113 ?_
                            refine lv_iload_n hx hb dX11_paste_116 rfl (lv_at hl 3 rfl) ?_
                            refine va_aldq hx hb hK.1 hP 1 6 rfl rfl (mm_in mm_k0 (by decide)) dX11_paste_117 ?_
                            refine W.eq (g2 := F0 m 118 ls [.ref a_12, .int i_1, .ref a_18]) rfl ?_
                            refine va_get (D := G) (ci := 6) (v := .ref a_16) (C := RX6) (T := TX6) (N := 4) hx hb hts (mm_i inlX6) hown hK.1 hP 2 rfl rfl 3 (by decide) (mm_h hts mm_w1711) (fun _ h9 => h9) rfl dX11_paste_118 ?_
                            refine lv_iload hx hb dX11_paste_121 (lv_at hl 4 rfl) ?_
                            refine lv_iload hx hb dX11_paste_123 (lv_at hl 5 rfl) ?_
                            refine va_copyl hx hb (by rw [hml]; exact hl.1.symm) hown (mm_h hts mm_w1712) (mm_h hts mm_w388) (mm_h hts mm_w389) (mm_h hts mm_w390) hK.1 hP hD hS 7 3 2 2 rfl rfl rfl rfl rfl (mm_nn w319 (by decide)) (mm_nn w331 (by decide)) (mm_nn w320 (by decide)) (mm_cpR w321 w319 w320 h8 (by decide)) (mm_cpR w332 w331 w320 h2 (by decide)) (fun _ _ => rfl) (by rw [hRf]; exact Nat.le_of_ble_eq_true rfl) (by rw [hRl]; exact Nat.le_of_ble_eq_true rfl) dX11_paste_125 ?_
                            clear hP hD hS
                            clear H locs
                            obtain ⟨g339, eg339⟩ : ∃ z : Nat → Int64, z = va_cpy f_2 f_0 i_1.toNatClampNeg i_3.toNatClampNeg i_4.toNatClampNeg := ⟨_, rfl⟩
                            rw [← eg339]
                            intro H locs (hP : va_P G vwCl [(a_0, .inr (11, [.ref a_1, .ref a_2, .ref a_3, .ref a_4, .ref a_5, .ref a_6, .ref a_7, .ref a_8, .ref a_9, .ref a_10, .ref a_11])), (a_6, .inl (cy 6, 4, .inr (.inr (.inr (.inr (va_up (va_up (va_up (va_up (fun _ => none) 0 (some a_12)) 1 (some a_13)) 2 (some a_14)) 3 (some a_15))))))), (a_12, .inr (6, [.int i_5, .int i_6, .int i_7, .ref a_16])), (a_16, .inl (cy 2, 60, .inr (.inl g339))), (a_13, .inr (6, [.int i_8, .int i_9, .int i_10, .ref a_17])), (a_17, .inl (cy 2, 60, .inr (.inl f_1))), (a_14, .inr (6, [.int i_11, .int i_12, .int i_13, .ref a_18])), (a_18, .inl (cy 2, 60, .inr (.inl f_2))), (a_15, .inr (6, [.int i_14, .int i_15, .int i_16, .ref a_19])), (a_19, .inl (cy 2, 60, .inr (.inl f_3)))] H) (hD : va_D A [(a_0, .inr (11, [.ref a_1, .ref a_2, .ref a_3, .ref a_4, .ref a_5, .ref a_6, .ref a_7, .ref a_8, .ref a_9, .ref a_10, .ref a_11])), (a_6, .inl (cy 6, 4, .inr (.inr (.inr (.inr (va_up (va_up (va_up (va_up (fun _ => none) 0 (some a_12)) 1 (some a_13)) 2 (some a_14)) 3 (some a_15))))))), (a_12, .inr (6, [.int i_5, .int i_6, .int i_7, .ref a_16])), (a_16, .inl (cy 2, 60, .inr (.inl g339))), (a_13, .inr (6, [.int i_8, .int i_9, .int i_10, .ref a_17])), (a_17, .inl (cy 2, 60, .inr (.inl f_1))), (a_14, .inr (6, [.int i_11, .int i_12, .int i_13, .ref a_18])), (a_18, .inl (cy 2, 60, .inr (.inl f_2))), (a_15, .inr (6, [.int i_14, .int i_15, .int i_16, .ref a_19])), (a_19, .inl (cy 2, 60, .inr (.inl f_3)))]) hS
                            refine lv_iconst (v := 0) hx hb dX11_paste_128 (by decide) ?_
                            have w340 : mm_y1 i_5 i_8 i_11 i_14 2 := (mm_y1_of (mm_4_2 _ _ _ _) q311 (by decide))
                            have w341 : mm_y1 i_5 i_8 i_11 i_14 0 := (mm_y1_of (mm_4_0 _ _ _ _) q314 (by decide))
                            have w342 : mm_ye i_6 i_9 i_12 i_15 2 0 := (mm_ye_of (mm_4_2 _ _ _ _) (mm_4_0 _ _ _ _) c315)
                            have w343 : mm_yg i_7 i_10 i_13 i_16 2 0 i_1 i_3 i_4 := (mm_yg_of (mm_4_2 _ _ _ _) (mm_4_0 _ _ _ _) (mm_xg_of w321 w332 w319 w331 w320 (by decide)))
                            subst hAe
                            rw [hQ]
                            exact W.iret (v := 0) hx hb hr (fun t ht hW => ⟨⟨0, (g339, f_1, f_2, f_3), rfl, (Or.inr (Or.inr (Or.inr (Or.inr (Or.inr (Or.inr (Or.inl ⟨rfl, (mm_wk mm_k2 (by decide)), (mm_wk mm_k0 (by decide)), w340, w341, w342, w343⟩))))))), by rw [ht]; exact hP, hK.warm hW, hD⟩, hS.F ht⟩) hS.2.2 dX11_paste_129
                          · exact mm_eqN c338.symm mm_k0 mm_k1 (by decide)
                  · refine lv_bipush (v := (-8)) hx hb dX11_paste_65 (by decide) ?_
                    have w344 : mm_y1 i_5 i_8 i_11 i_14 2 := (mm_y1_of (mm_4_2 _ _ _ _) q311 (by decide))
                    have w345 : mm_y1 i_5 i_8 i_11 i_14 0 := (mm_y1_of (mm_4_0 _ _ _ _) q314 (by decide))
                    have w346 : mm_yn i_6 i_9 i_12 i_15 2 0 := (mm_yn_of (mm_4_2 _ _ _ _) (mm_4_0 _ _ _ _) (mm_ne c315))
                    subst hAe
                    rw [hQ]
                    exact W.iret (v := (-8)) hx hb hr (fun t ht hW => ⟨⟨(-8), (f_0, f_1, f_2, f_3), rfl, (Or.inr (Or.inr (Or.inr (Or.inr (Or.inr (Or.inr (Or.inr (Or.inl ⟨rfl, (mm_wk mm_k2 (by decide)), (mm_wk mm_k0 (by decide)), w344, w345, w346⟩)))))))), by rw [ht]; exact hP, hK.warm hW, hD⟩, hS.F ht⟩) hS.2.2 dX11_paste_67
                · have q347 := mm_eqI (lo := 0) (hi := 0) c313 h0 mm_k0 (by decide)
                  refine lv_bipush (v := (-6)) hx hb dX11_paste_41 (by decide) ?_
                  have w348 : mm_y1 i_5 i_8 i_11 i_14 2 := (mm_y1_of (mm_4_2 _ _ _ _) q311 (by decide))
                  have w349 : mm_y0 i_5 i_8 i_11 i_14 0 := (mm_y0_of (mm_4_0 _ _ _ _) q347 (by decide))
                  subst hAe
                  rw [hQ]
                  exact W.iret (v := (-6)) hx hb hr (fun t ht hW => ⟨⟨(-6), (f_0, f_1, f_2, f_3), rfl, (Or.inr (Or.inr (Or.inr (Or.inr (Or.inr (Or.inr (Or.inr (Or.inr ⟨rfl, (mm_wk mm_k2 (by decide)), (mm_wk mm_k0 (by decide)), w348, w349⟩)))))))), by rw [ht]; exact hP, hK.warm hW, hD⟩, hS.F ht⟩) hS.2.2 dX11_paste_43
              · refine W.eq (g2 := F0 m 35 ls [.ref a_13]) rfl ?_
                refine va_get (D := G) (ci := 6) (v := .int i_8) (C := RX6) (T := TX6) (N := 4) hx hb hts (mm_i inlX6) hown hK.1 hP 4 rfl rfl 0 (by decide) (mm_h hts mm_w1239) (fun _ h9 => h9) rfl dX11_paste_35 ?_
                refine lv_if_ne (tgt := 44) hx hb dX11_paste_38 (by decide) (fun c350 => ?_) (fun c350 => ?_)
                · have q351 := mm_neL (lo := 1) (mm_ne c350) h3 mm_k0 (by decide) (by decide)
                  refine lv_aload_n hx hb dX11_paste_44 rfl (lv_at hl 0 rfl) ?_
                  refine va_get (D := G) (ci := 11) (v := .ref a_6) (C := RX11) (T := TX11) (N := 11) hx hb hts (mm_i inlX11) hown hK.1 hP 0 rfl rfl 5 (by decide) (mm_h hts mm_w32) (fun _ h9 => h9) rfl dX11_paste_45 ?_
                  refine lv_iload_n hx hb dX11_paste_48 rfl (lv_at hl 1 rfl) ?_
                  refine va_aldq hx hb hK.1 hP 1 6 rfl rfl (mm_in mm_k2 (by decide)) dX11_paste_49 ?_
                  refine W.eq (g2 := F0 m 50 ls [.ref a_14]) rfl ?_
                  refine va_get (D := G) (ci := 6) (v := .int i_12) (C := RX6) (T := TX6) (N := 4) hx hb hts (mm_i inlX6) hown hK.1 hP 6 rfl rfl 1 (by decide) (mm_h hts mm_w1710) (fun _ h9 => h9) rfl dX11_paste_50 ?_
                  refine lv_aload_n hx hb dX11_paste_53 rfl (lv_at hl 0 rfl) ?_
                  refine va_get (D := G) (ci := 11) (v := .ref a_6) (C := RX11) (T := TX11) (N := 11) hx hb hts (mm_i inlX11) hown hK.1 hP 0 rfl rfl 5 (by decide) (mm_h hts mm_w32) (fun _ h9 => h9) rfl dX11_paste_54 ?_
                  refine lv_iload_n hx hb dX11_paste_57 rfl (lv_at hl 3 rfl) ?_
                  refine va_aldq hx hb hK.1 hP 1 6 rfl rfl (mm_in mm_k1 (by decide)) dX11_paste_58 ?_
                  refine W.eq (g2 := F0 m 59 ls [.ref a_13, .int i_12]) rfl ?_
                  refine va_get (D := G) (ci := 6) (v := .int i_9) (C := RX6) (T := TX6) (N := 4) hx hb hts (mm_i inlX6) hown hK.1 hP 4 rfl rfl 1 (by decide) (mm_h hts mm_w1710) (fun _ h9 => h9) rfl dX11_paste_59 ?_
                  refine lv_icmp_eq (tgt := 68) hx hb dX11_paste_62 (by decide) (fun c352 => ?_) (fun c352 => ?_)
                  · refine lv_aload_n hx hb dX11_paste_68 rfl (lv_at hl 0 rfl) ?_
                    refine va_get (D := G) (ci := 11) (v := .ref a_6) (C := RX11) (T := TX11) (N := 11) hx hb hts (mm_i inlX11) hown hK.1 hP 0 rfl rfl 5 (by decide) (mm_h hts mm_w32) (fun _ h9 => h9) rfl dX11_paste_69 ?_
                    refine lv_iload_n hx hb dX11_paste_72 rfl (lv_at hl 1 rfl) ?_
                    refine va_aldq hx hb hK.1 hP 1 6 rfl rfl (mm_in mm_k2 (by decide)) dX11_paste_73 ?_
                    refine W.eq (g2 := F0 m 74 ls [.ref a_14]) rfl ?_
                    refine lv_iload_n hx hb dX11_paste_74 rfl (lv_at hl 2 rfl) ?_
                    refine lv_iload hx hb dX11_paste_75 (lv_at hl 5 rfl) ?_
                    refine mm_finir (va_runV (As := [.int i_1, .int i_4]) (rest := []) ⟨hx, hb, hml, hown, hts⟩ (C549_X6_reaches l G cy H.size a_14 i_1 i_4 i_11 i_12 i_13 a_18 h8) (cwV 2 hts (mm_gV mm_w1713 mm_w1714 mm_w1715 mm_w34 mm_w1716) rfl rfl rfl hd_X6_reaches ⟨by rw [hRf]; exact Nat.le_of_ble_eq_true rfl, by rw [hRl]; exact Nat.le_of_ble_eq_true rfl⟩) (mm_preV hK hZ hS hA hP hD [6] rfl rfl 6 rfl rfl rfl) rfl rfl hl.1 rfl (lv_room (Nat.le_of_ble_eq_true rfl)) dX11_paste_77 ⟨by rw [hRc]; exact Nat.le_of_ble_eq_true rfl, by rw [hRs]; exact Nat.le_of_ble_eq_true rfl⟩) hP hD hS hA [6] rfl (fun _ => rfl) ?_
                    clear hP hD hS
                    clear H locs
                    intro v353 _u H locs hw hP hD hS
                    rcases hw with ⟨rfl, w354, w355⟩ | ⟨rfl, w356, w357, w358⟩
                    · refine lv_if_eq (tgt := 99) hx hb dX11_paste_80 (by decide) (fun c359 => ?_) (fun c359 => ?_)
                      · refine lv_bipush (v := (-7)) hx hb dX11_paste_99 (by decide) ?_
                        have w360 : mm_y1 i_5 i_8 i_11 i_14 2 := (mm_y1_of (mm_4_2 _ _ _ _) q311 (by decide))
                        have w361 : mm_y1 i_5 i_8 i_11 i_14 1 := (mm_y1_of (mm_4_1 _ _ _ _) q351 (by decide))
                        have w362 : mm_ye i_6 i_9 i_12 i_15 2 1 := (mm_ye_of (mm_4_2 _ _ _ _) (mm_4_1 _ _ _ _) c352)
                        have w363 : mm_yb i_7 i_10 i_13 i_16 2 1 i_1 i_3 i_4 := (mm_yb_of (mm_4_2 _ _ _ _) (mm_4_1 _ _ _ _) (mm_xb_1 w355))
                        subst hAe
                        rw [hQ]
                        exact W.iret (v := (-7)) hx hb hr (fun t ht hW => ⟨⟨(-7), (f_0, f_1, f_2, f_3), rfl, (Or.inr (Or.inr (Or.inr (Or.inr (Or.inr (Or.inl ⟨rfl, (mm_wk mm_k2 (by decide)), (mm_wk mm_k1 (by decide)), w360, w361, w362, w363⟩)))))), by rw [ht]; exact hP, hK.warm hW, hD⟩, hS.F ht⟩) hS.2.2 dX11_paste_101
                      · exact absurd rfl (mm_ne c359)
                    · refine lv_if_eq (tgt := 99) hx hb dX11_paste_80 (by decide) (fun c364 => ?_) (fun c364 => ?_)
                      · exact mm_eqN c364.symm mm_k0 mm_k1 (by decide)
                      · refine lv_aload_n hx hb dX11_paste_83 rfl (lv_at hl 0 rfl) ?_
                        refine va_get (D := G) (ci := 11) (v := .ref a_6) (C := RX11) (T := TX11) (N := 11) hx hb hts (mm_i inlX11) hown hK.1 hP 0 rfl rfl 5 (by decide) (mm_h hts mm_w32) (fun _ h9 => h9) rfl dX11_paste_84 ?_
                        refine lv_iload_n hx hb dX11_paste_87 rfl (lv_at hl 3 rfl) ?_
                        refine va_aldq hx hb hK.1 hP 1 6 rfl rfl (mm_in mm_k1 (by decide)) dX11_paste_88 ?_
                        refine W.eq (g2 := F0 m 89 ls [.ref a_13]) rfl ?_
                        refine lv_iload hx hb dX11_paste_89 (lv_at hl 4 rfl) ?_
                        refine lv_iload hx hb dX11_paste_91 (lv_at hl 5 rfl) ?_
                        refine mm_finir (va_runV (As := [.int i_3, .int i_4]) (rest := []) ⟨hx, hb, hml, hown, hts⟩ (C550_X6_reaches l G cy H.size a_13 i_3 i_4 i_8 i_9 i_10 a_17 w357 h5) (cwV 2 hts (mm_gV mm_w1713 mm_w1714 mm_w1715 mm_w34 mm_w1716) rfl rfl rfl hd_X6_reaches ⟨by rw [hRf]; exact Nat.le_of_ble_eq_true rfl, by rw [hRl]; exact Nat.le_of_ble_eq_true rfl⟩) (mm_preV hK hZ hS hA hP hD [4] rfl rfl 4 rfl rfl rfl) rfl rfl hl.1 rfl (lv_room (Nat.le_of_ble_eq_true rfl)) dX11_paste_93 ⟨by rw [hRc]; exact Nat.le_of_ble_eq_true rfl, by rw [hRs]; exact Nat.le_of_ble_eq_true rfl⟩) hP hD hS hA [4] rfl (fun _ => rfl) ?_
                        clear hP hD hS
                        clear H locs
                        intro v365 _u H locs hw hP hD hS
                        rcases hw with ⟨rfl, w366, w367⟩ | ⟨rfl, w368, w369⟩
                        · refine lv_if_ne (tgt := 102) hx hb dX11_paste_96 (by decide) (fun c370 => ?_) (fun c370 => ?_)
                          · exact absurd rfl (mm_ne c370)
                          · refine lv_bipush (v := (-7)) hx hb dX11_paste_99 (by decide) ?_
                            have w371 : mm_y1 i_5 i_8 i_11 i_14 2 := (mm_y1_of (mm_4_2 _ _ _ _) q311 (by decide))
                            have w372 : mm_y1 i_5 i_8 i_11 i_14 1 := (mm_y1_of (mm_4_1 _ _ _ _) q351 (by decide))
                            have w373 : mm_ye i_6 i_9 i_12 i_15 2 1 := (mm_ye_of (mm_4_2 _ _ _ _) (mm_4_1 _ _ _ _) c352)
                            have w374 : mm_yb i_7 i_10 i_13 i_16 2 1 i_1 i_3 i_4 := (mm_yb_of (mm_4_2 _ _ _ _) (mm_4_1 _ _ _ _) (mm_xb_2 w367))
                            subst hAe
                            rw [hQ]
                            exact W.iret (v := (-7)) hx hb hr (fun t ht hW => ⟨⟨(-7), (f_0, f_1, f_2, f_3), rfl, (Or.inr (Or.inr (Or.inr (Or.inr (Or.inr (Or.inl ⟨rfl, (mm_wk mm_k2 (by decide)), (mm_wk mm_k1 (by decide)), w371, w372, w373, w374⟩)))))), by rw [ht]; exact hP, hK.warm hW, hD⟩, hS.F ht⟩) hS.2.2 dX11_paste_101
                        · refine lv_if_ne (tgt := 102) hx hb dX11_paste_96 (by decide) (fun c375 => ?_) (fun c375 => ?_)
                          · refine lv_aload_n hx hb dX11_paste_102 rfl (lv_at hl 0 rfl) ?_
                            refine va_get (D := G) (ci := 11) (v := .ref a_6) (C := RX11) (T := TX11) (N := 11) hx hb hts (mm_i inlX11) hown hK.1 hP 0 rfl rfl 5 (by decide) (mm_h hts mm_w32) (fun _ h9 => h9) rfl dX11_paste_103 ?_
                            refine lv_iload_n hx hb dX11_paste_106 rfl (lv_at hl 1 rfl) ?_
                            refine va_aldq hx hb hK.1 hP 1 6 rfl rfl (mm_in mm_k2 (by decide)) dX11_paste_107 ?_
                            refine W.eq (g2 := F0 m 108 ls [.ref a_14]) rfl ?_
                            refine va_get (D := G) (ci := 6) (v := .ref a_18) (C := RX6) (T := TX6) (N := 4) hx hb hts (mm_i inlX6) hown hK.1 hP 6 rfl rfl 3 (by decide) (mm_h hts mm_w1711) (fun _ h9 => h9) rfl dX11_paste_108 ?_
                            refine lv_iload_n hx hb dX11_paste_111 rfl (lv_at hl 2 rfl) ?_
                            refine lv_aload_n hx hb dX11_paste_112 rfl (lv_at hl 0 rfl) ?_
                            refine va_get (D := G) (ci := 11) (v := .ref a_6) (C := RX11) (T := TX11) (N := 11) hx hb hts (mm_i inlX11) hown hK.1 hP 0 rfl rfl 5 (by decide) (mm_h hts mm_w32) (fun _ h9 => h9) rfl dX11_paste_113 ?_
                            refine lv_iload_n hx hb dX11_paste_116 rfl (lv_at hl 3 rfl) ?_
                            refine va_aldq hx hb hK.1 hP 1 6 rfl rfl (mm_in mm_k1 (by decide)) dX11_paste_117 ?_
                            refine W.eq (g2 := F0 m 118 ls [.ref a_13, .int i_1, .ref a_18]) rfl ?_
                            refine va_get (D := G) (ci := 6) (v := .ref a_17) (C := RX6) (T := TX6) (N := 4) hx hb hts (mm_i inlX6) hown hK.1 hP 4 rfl rfl 3 (by decide) (mm_h hts mm_w1711) (fun _ h9 => h9) rfl dX11_paste_118 ?_
                            refine lv_iload hx hb dX11_paste_121 (lv_at hl 4 rfl) ?_
                            refine lv_iload hx hb dX11_paste_123 (lv_at hl 5 rfl) ?_
                            refine va_copyl hx hb (by rw [hml]; exact hl.1.symm) hown (mm_h hts mm_w1712) (mm_h hts mm_w388) (mm_h hts mm_w389) (mm_h hts mm_w390) hK.1 hP hD hS 7 5 2 2 rfl rfl rfl rfl rfl (mm_nn w356 (by decide)) (mm_nn w368 (by decide)) (mm_nn w357 (by decide)) (mm_cpR w358 w356 w357 h8 (by decide)) (mm_cpR w369 w368 w357 h5 (by decide)) (fun _ _ => rfl) (by rw [hRf]; exact Nat.le_of_ble_eq_true rfl) (by rw [hRl]; exact Nat.le_of_ble_eq_true rfl) dX11_paste_125 ?_
                            clear hP hD hS
                            clear H locs
                            obtain ⟨g376, eg376⟩ : ∃ z : Nat → Int64, z = va_cpy f_2 f_1 i_1.toNatClampNeg i_3.toNatClampNeg i_4.toNatClampNeg := ⟨_, rfl⟩
                            rw [← eg376]
                            intro H locs (hP : va_P G vwCl [(a_0, .inr (11, [.ref a_1, .ref a_2, .ref a_3, .ref a_4, .ref a_5, .ref a_6, .ref a_7, .ref a_8, .ref a_9, .ref a_10, .ref a_11])), (a_6, .inl (cy 6, 4, .inr (.inr (.inr (.inr (va_up (va_up (va_up (va_up (fun _ => none) 0 (some a_12)) 1 (some a_13)) 2 (some a_14)) 3 (some a_15))))))), (a_12, .inr (6, [.int i_5, .int i_6, .int i_7, .ref a_16])), (a_16, .inl (cy 2, 60, .inr (.inl f_0))), (a_13, .inr (6, [.int i_8, .int i_9, .int i_10, .ref a_17])), (a_17, .inl (cy 2, 60, .inr (.inl g376))), (a_14, .inr (6, [.int i_11, .int i_12, .int i_13, .ref a_18])), (a_18, .inl (cy 2, 60, .inr (.inl f_2))), (a_15, .inr (6, [.int i_14, .int i_15, .int i_16, .ref a_19])), (a_19, .inl (cy 2, 60, .inr (.inl f_3)))] H) (hD : va_D A [(a_0, .inr (11, [.ref a_1, .ref a_2, .ref a_3, .ref a_4, .ref a_5, .ref a_6, .ref a_7, .ref a_8, .ref a_9, .ref a_10, .ref a_11])), (a_6, .inl (cy 6, 4, .inr (.inr (.inr (.inr (va_up (va_up (va_up (va_up (fun _ => none) 0 (some a_12)) 1 (some a_13)) 2 (some a_14)) 3 (some a_15))))))), (a_12, .inr (6, [.int i_5, .int i_6, .int i_7, .ref a_16])), (a_16, .inl (cy 2, 60, .inr (.inl f_0))), (a_13, .inr (6, [.int i_8, .int i_9, .int i_10, .ref a_17])), (a_17, .inl (cy 2, 60, .inr (.inl g376))), (a_14, .inr (6, [.int i_11, .int i_12, .int i_13, .ref a_18])), (a_18, .inl (cy 2, 60, .inr (.inl f_2))), (a_15, .inr (6, [.int i_14, .int i_15, .int i_16, .ref a_19])), (a_19, .inl (cy 2, 60, .inr (.inl f_3)))]) hS
                            refine lv_iconst (v := 0) hx hb dX11_paste_128 (by decide) ?_
                            have w377 : mm_y1 i_5 i_8 i_11 i_14 2 := (mm_y1_of (mm_4_2 _ _ _ _) q311 (by decide))
                            have w378 : mm_y1 i_5 i_8 i_11 i_14 1 := (mm_y1_of (mm_4_1 _ _ _ _) q351 (by decide))
                            have w379 : mm_ye i_6 i_9 i_12 i_15 2 1 := (mm_ye_of (mm_4_2 _ _ _ _) (mm_4_1 _ _ _ _) c352)
                            have w380 : mm_yg i_7 i_10 i_13 i_16 2 1 i_1 i_3 i_4 := (mm_yg_of (mm_4_2 _ _ _ _) (mm_4_1 _ _ _ _) (mm_xg_of w358 w369 w356 w368 w357 (by decide)))
                            subst hAe
                            rw [hQ]
                            exact W.iret (v := 0) hx hb hr (fun t ht hW => ⟨⟨0, (f_0, g376, f_2, f_3), rfl, (Or.inr (Or.inr (Or.inr (Or.inr (Or.inr (Or.inr (Or.inl ⟨rfl, (mm_wk mm_k2 (by decide)), (mm_wk mm_k1 (by decide)), w377, w378, w379, w380⟩))))))), by rw [ht]; exact hP, hK.warm hW, hD⟩, hS.F ht⟩) hS.2.2 dX11_paste_129
                          · exact mm_eqN c375.symm mm_k0 mm_k1 (by decide)
                  · refine lv_bipush (v := (-8)) hx hb dX11_paste_65 (by decide) ?_
                    have w381 : mm_y1 i_5 i_8 i_11 i_14 2 := (mm_y1_of (mm_4_2 _ _ _ _) q311 (by decide))
                    have w382 : mm_y1 i_5 i_8 i_11 i_14 1 := (mm_y1_of (mm_4_1 _ _ _ _) q351 (by decide))
                    have w383 : mm_yn i_6 i_9 i_12 i_15 2 1 := (mm_yn_of (mm_4_2 _ _ _ _) (mm_4_1 _ _ _ _) (mm_ne c352))
                    subst hAe
                    rw [hQ]
                    exact W.iret (v := (-8)) hx hb hr (fun t ht hW => ⟨⟨(-8), (f_0, f_1, f_2, f_3), rfl, (Or.inr (Or.inr (Or.inr (Or.inr (Or.inr (Or.inr (Or.inr (Or.inl ⟨rfl, (mm_wk mm_k2 (by decide)), (mm_wk mm_k1 (by decide)), w381, w382, w383⟩)))))))), by rw [ht]; exact hP, hK.warm hW, hD⟩, hS.F ht⟩) hS.2.2 dX11_paste_67
                · have q384 := mm_eqI (lo := 0) (hi := 0) c350 h3 mm_k0 (by decide)
                  refine lv_bipush (v := (-6)) hx hb dX11_paste_41 (by decide) ?_
                  have w385 : mm_y1 i_5 i_8 i_11 i_14 2 := (mm_y1_of (mm_4_2 _ _ _ _) q311 (by decide))
                  have w386 : mm_y0 i_5 i_8 i_11 i_14 1 := (mm_y0_of (mm_4_1 _ _ _ _) q384 (by decide))
                  subst hAe
                  rw [hQ]
                  exact W.iret (v := (-6)) hx hb hr (fun t ht hW => ⟨⟨(-6), (f_0, f_1, f_2, f_3), rfl, (Or.inr (Or.inr (Or.inr (Or.inr (Or.inr (Or.inr (Or.inr (Or.inr ⟨rfl, (mm_wk mm_k2 (by decide)), (mm_wk mm_k1 (by decide)), w385, w386⟩)))))))), by rw [ht]; exact hP, hK.warm hW, hD⟩, hS.F ht⟩) hS.2.2 dX11_paste_43
              · refine W.eq (g2 := F0 m 35 ls [.ref a_14]) rfl ?_
                refine va_get (D := G) (ci := 6) (v := .int i_11) (C := RX6) (T := TX6) (N := 4) hx hb hts (mm_i inlX6) hown hK.1 hP 6 rfl rfl 0 (by decide) (mm_h hts mm_w1239) (fun _ h9 => h9) rfl dX11_paste_35 ?_
                refine lv_if_ne (tgt := 44) hx hb dX11_paste_38 (by decide) (fun c387 => ?_) (fun c387 => ?_)
                · refine lv_aload_n hx hb dX11_paste_44 rfl (lv_at hl 0 rfl) ?_
                  refine va_get (D := G) (ci := 11) (v := .ref a_6) (C := RX11) (T := TX11) (N := 11) hx hb hts (mm_i inlX11) hown hK.1 hP 0 rfl rfl 5 (by decide) (mm_h hts mm_w32) (fun _ h9 => h9) rfl dX11_paste_45 ?_
                  refine lv_iload_n hx hb dX11_paste_48 rfl (lv_at hl 1 rfl) ?_
                  refine va_aldq hx hb hK.1 hP 1 6 rfl rfl (mm_in mm_k2 (by decide)) dX11_paste_49 ?_
                  refine W.eq (g2 := F0 m 50 ls [.ref a_14]) rfl ?_
                  refine va_get (D := G) (ci := 6) (v := .int i_12) (C := RX6) (T := TX6) (N := 4) hx hb hts (mm_i inlX6) hown hK.1 hP 6 rfl rfl 1 (by decide) (mm_h hts mm_w1710) (fun _ h9 => h9) rfl dX11_paste_50 ?_
                  refine lv_aload_n hx hb dX11_paste_53 rfl (lv_at hl 0 rfl) ?_
                  refine va_get (D := G) (ci := 11) (v := .ref a_6) (C := RX11) (T := TX11) (N := 11) hx hb hts (mm_i inlX11) hown hK.1 hP 0 rfl rfl 5 (by decide) (mm_h hts mm_w32) (fun _ h9 => h9) rfl dX11_paste_54 ?_
                  refine lv_iload_n hx hb dX11_paste_57 rfl (lv_at hl 3 rfl) ?_
                  refine va_aldq hx hb hK.1 hP 1 6 rfl rfl (mm_in mm_k2 (by decide)) dX11_paste_58 ?_
                  refine W.eq (g2 := F0 m 59 ls [.ref a_14, .int i_12]) rfl ?_
                  refine va_get (D := G) (ci := 6) (v := .int i_12) (C := RX6) (T := TX6) (N := 4) hx hb hts (mm_i inlX6) hown hK.1 hP 6 rfl rfl 1 (by decide) (mm_h hts mm_w1710) (fun _ h9 => h9) rfl dX11_paste_59 ?_
                  refine lv_icmp_eq (tgt := 68) hx hb dX11_paste_62 (by decide) (fun c388 => ?_) (fun c388 => ?_)
                  · refine lv_aload_n hx hb dX11_paste_68 rfl (lv_at hl 0 rfl) ?_
                    refine va_get (D := G) (ci := 11) (v := .ref a_6) (C := RX11) (T := TX11) (N := 11) hx hb hts (mm_i inlX11) hown hK.1 hP 0 rfl rfl 5 (by decide) (mm_h hts mm_w32) (fun _ h9 => h9) rfl dX11_paste_69 ?_
                    refine lv_iload_n hx hb dX11_paste_72 rfl (lv_at hl 1 rfl) ?_
                    refine va_aldq hx hb hK.1 hP 1 6 rfl rfl (mm_in mm_k2 (by decide)) dX11_paste_73 ?_
                    refine W.eq (g2 := F0 m 74 ls [.ref a_14]) rfl ?_
                    refine lv_iload_n hx hb dX11_paste_74 rfl (lv_at hl 2 rfl) ?_
                    refine lv_iload hx hb dX11_paste_75 (lv_at hl 5 rfl) ?_
                    refine mm_finir (va_runV (As := [.int i_1, .int i_4]) (rest := []) ⟨hx, hb, hml, hown, hts⟩ (C549_X6_reaches l G cy H.size a_14 i_1 i_4 i_11 i_12 i_13 a_18 h8) (cwV 2 hts (mm_gV mm_w1713 mm_w1714 mm_w1715 mm_w34 mm_w1716) rfl rfl rfl hd_X6_reaches ⟨by rw [hRf]; exact Nat.le_of_ble_eq_true rfl, by rw [hRl]; exact Nat.le_of_ble_eq_true rfl⟩) (mm_preV hK hZ hS hA hP hD [6] rfl rfl 6 rfl rfl rfl) rfl rfl hl.1 rfl (lv_room (Nat.le_of_ble_eq_true rfl)) dX11_paste_77 ⟨by rw [hRc]; exact Nat.le_of_ble_eq_true rfl, by rw [hRs]; exact Nat.le_of_ble_eq_true rfl⟩) hP hD hS hA [6] rfl (fun _ => rfl) ?_
                    clear hP hD hS
                    clear H locs
                    intro v389 _u H locs hw hP hD hS
                    rcases hw with ⟨rfl, w390, w391⟩ | ⟨rfl, w392, w393, w394⟩
                    · refine lv_if_eq (tgt := 99) hx hb dX11_paste_80 (by decide) (fun c395 => ?_) (fun c395 => ?_)
                      · refine lv_bipush (v := (-7)) hx hb dX11_paste_99 (by decide) ?_
                        have w396 : mm_y1 i_5 i_8 i_11 i_14 2 := (mm_y1_of (mm_4_2 _ _ _ _) q311 (by decide))
                        have w397 : mm_y1 i_5 i_8 i_11 i_14 2 := (mm_y1_of (mm_4_2 _ _ _ _) q311 (by decide))
                        have w398 : mm_ye i_6 i_9 i_12 i_15 2 2 := (mm_ye_of (mm_4_2 _ _ _ _) (mm_4_2 _ _ _ _) rfl)
                        have w399 : mm_yb i_7 i_10 i_13 i_16 2 2 i_1 i_3 i_4 := (mm_yb_of (mm_4_2 _ _ _ _) (mm_4_2 _ _ _ _) (mm_xb_1 w391))
                        subst hAe
                        rw [hQ]
                        exact W.iret (v := (-7)) hx hb hr (fun t ht hW => ⟨⟨(-7), (f_0, f_1, f_2, f_3), rfl, (Or.inr (Or.inr (Or.inr (Or.inr (Or.inr (Or.inl ⟨rfl, (mm_wk mm_k2 (by decide)), (mm_wk mm_k2 (by decide)), w396, w397, w398, w399⟩)))))), by rw [ht]; exact hP, hK.warm hW, hD⟩, hS.F ht⟩) hS.2.2 dX11_paste_101
                      · exact absurd rfl (mm_ne c395)
                    · refine lv_if_eq (tgt := 99) hx hb dX11_paste_80 (by decide) (fun c400 => ?_) (fun c400 => ?_)
                      · exact mm_eqN c400.symm mm_k0 mm_k1 (by decide)
                      · refine lv_aload_n hx hb dX11_paste_83 rfl (lv_at hl 0 rfl) ?_
                        refine va_get (D := G) (ci := 11) (v := .ref a_6) (C := RX11) (T := TX11) (N := 11) hx hb hts (mm_i inlX11) hown hK.1 hP 0 rfl rfl 5 (by decide) (mm_h hts mm_w32) (fun _ h9 => h9) rfl dX11_paste_84 ?_
                        refine lv_iload_n hx hb dX11_paste_87 rfl (lv_at hl 3 rfl) ?_
                        refine va_aldq hx hb hK.1 hP 1 6 rfl rfl (mm_in mm_k2 (by decide)) dX11_paste_88 ?_
                        refine W.eq (g2 := F0 m 89 ls [.ref a_14]) rfl ?_
                        refine lv_iload hx hb dX11_paste_89 (lv_at hl 4 rfl) ?_
                        refine lv_iload hx hb dX11_paste_91 (lv_at hl 5 rfl) ?_
                        refine mm_finir (va_runV (As := [.int i_3, .int i_4]) (rest := []) ⟨hx, hb, hml, hown, hts⟩ (C550_X6_reaches l G cy H.size a_14 i_3 i_4 i_11 i_12 i_13 a_18 w393 h8) (cwV 2 hts (mm_gV mm_w1713 mm_w1714 mm_w1715 mm_w34 mm_w1716) rfl rfl rfl hd_X6_reaches ⟨by rw [hRf]; exact Nat.le_of_ble_eq_true rfl, by rw [hRl]; exact Nat.le_of_ble_eq_true rfl⟩) (mm_preV hK hZ hS hA hP hD [6] rfl rfl 6 rfl rfl rfl) rfl rfl hl.1 rfl (lv_room (Nat.le_of_ble_eq_true rfl)) dX11_paste_93 ⟨by rw [hRc]; exact Nat.le_of_ble_eq_true rfl, by rw [hRs]; exact Nat.le_of_ble_eq_true rfl⟩) hP hD hS hA [6] rfl (fun _ => rfl) ?_
                        clear hP hD hS
                        clear H locs
                        intro v401 _u H locs hw hP hD hS
                        rcases hw with ⟨rfl, w402, w403⟩ | ⟨rfl, w404, w405⟩
                        · refine lv_if_ne (tgt := 102) hx hb dX11_paste_96 (by decide) (fun c406 => ?_) (fun c406 => ?_)
                          · exact absurd rfl (mm_ne c406)
                          · refine lv_bipush (v := (-7)) hx hb dX11_paste_99 (by decide) ?_
                            have w407 : mm_y1 i_5 i_8 i_11 i_14 2 := (mm_y1_of (mm_4_2 _ _ _ _) q311 (by decide))
                            have w408 : mm_y1 i_5 i_8 i_11 i_14 2 := (mm_y1_of (mm_4_2 _ _ _ _) q311 (by decide))
                            have w409 : mm_ye i_6 i_9 i_12 i_15 2 2 := (mm_ye_of (mm_4_2 _ _ _ _) (mm_4_2 _ _ _ _) rfl)
                            have w410 : mm_yb i_7 i_10 i_13 i_16 2 2 i_1 i_3 i_4 := (mm_yb_of (mm_4_2 _ _ _ _) (mm_4_2 _ _ _ _) (mm_xb_2 w403))
                            subst hAe
                            rw [hQ]
                            exact W.iret (v := (-7)) hx hb hr (fun t ht hW => ⟨⟨(-7), (f_0, f_1, f_2, f_3), rfl, (Or.inr (Or.inr (Or.inr (Or.inr (Or.inr (Or.inl ⟨rfl, (mm_wk mm_k2 (by decide)), (mm_wk mm_k2 (by decide)), w407, w408, w409, w410⟩)))))), by rw [ht]; exact hP, hK.warm hW, hD⟩, hS.F ht⟩) hS.2.2 dX11_paste_101
                        · refine lv_if_ne (tgt := 102) hx hb dX11_paste_96 (by decide) (fun c411 => ?_) (fun c411 => ?_)
                          · refine lv_aload_n hx hb dX11_paste_102 rfl (lv_at hl 0 rfl) ?_
                            refine va_get (D := G) (ci := 11) (v := .ref a_6) (C := RX11) (T := TX11) (N := 11) hx hb hts (mm_i inlX11) hown hK.1 hP 0 rfl rfl 5 (by decide) (mm_h hts mm_w32) (fun _ h9 => h9) rfl dX11_paste_103 ?_
                            refine lv_iload_n hx hb dX11_paste_106 rfl (lv_at hl 1 rfl) ?_
                            refine va_aldq hx hb hK.1 hP 1 6 rfl rfl (mm_in mm_k2 (by decide)) dX11_paste_107 ?_
                            refine W.eq (g2 := F0 m 108 ls [.ref a_14]) rfl ?_
                            refine va_get (D := G) (ci := 6) (v := .ref a_18) (C := RX6) (T := TX6) (N := 4) hx hb hts (mm_i inlX6) hown hK.1 hP 6 rfl rfl 3 (by decide) (mm_h hts mm_w1711) (fun _ h9 => h9) rfl dX11_paste_108 ?_
                            refine lv_iload_n hx hb dX11_paste_111 rfl (lv_at hl 2 rfl) ?_
                            refine lv_aload_n hx hb dX11_paste_112 rfl (lv_at hl 0 rfl) ?_
                            refine va_get (D := G) (ci := 11) (v := .ref a_6) (C := RX11) (T := TX11) (N := 11) hx hb hts (mm_i inlX11) hown hK.1 hP 0 rfl rfl 5 (by decide) (mm_h hts mm_w32) (fun _ h9 => h9) rfl dX11_paste_113 ?_
                            refine lv_iload_n hx hb dX11_paste_116 rfl (lv_at hl 3 rfl) ?_
                            refine va_aldq hx hb hK.1 hP 1 6 rfl rfl (mm_in mm_k2 (by decide)) dX11_paste_117 ?_
                            refine W.eq (g2 := F0 m 118 ls [.ref a_14, .int i_1, .ref a_18]) rfl ?_
                            refine va_get (D := G) (ci := 6) (v := .ref a_18) (C := RX6) (T := TX6) (N := 4) hx hb hts (mm_i inlX6) hown hK.1 hP 6 rfl rfl 3 (by decide) (mm_h hts mm_w1711) (fun _ h9 => h9) rfl dX11_paste_118 ?_
                            refine lv_iload hx hb dX11_paste_121 (lv_at hl 4 rfl) ?_
                            refine lv_iload hx hb dX11_paste_123 (lv_at hl 5 rfl) ?_
                            refine va_copyl hx hb (by rw [hml]; exact hl.1.symm) hown (mm_h hts mm_w1712) (mm_h hts mm_w388) (mm_h hts mm_w389) (mm_h hts mm_w390) hK.1 hP hD hS 7 7 2 2 rfl rfl rfl rfl rfl (mm_nn w392 (by decide)) (mm_nn w404 (by decide)) (mm_nn w393 (by decide)) (mm_cpR w394 w392 w393 h8 (by decide)) (mm_cpR w405 w404 w393 h8 (by decide)) (fun _ _ => rfl) (by rw [hRf]; exact Nat.le_of_ble_eq_true rfl) (by rw [hRl]; exact Nat.le_of_ble_eq_true rfl) dX11_paste_125 ?_
                            clear hP hD hS
                            clear H locs
                            obtain ⟨g412, eg412⟩ : ∃ z : Nat → Int64, z = va_cpy f_2 f_2 i_1.toNatClampNeg i_3.toNatClampNeg i_4.toNatClampNeg := ⟨_, rfl⟩
                            rw [← eg412]
                            intro H locs (hP : va_P G vwCl [(a_0, .inr (11, [.ref a_1, .ref a_2, .ref a_3, .ref a_4, .ref a_5, .ref a_6, .ref a_7, .ref a_8, .ref a_9, .ref a_10, .ref a_11])), (a_6, .inl (cy 6, 4, .inr (.inr (.inr (.inr (va_up (va_up (va_up (va_up (fun _ => none) 0 (some a_12)) 1 (some a_13)) 2 (some a_14)) 3 (some a_15))))))), (a_12, .inr (6, [.int i_5, .int i_6, .int i_7, .ref a_16])), (a_16, .inl (cy 2, 60, .inr (.inl f_0))), (a_13, .inr (6, [.int i_8, .int i_9, .int i_10, .ref a_17])), (a_17, .inl (cy 2, 60, .inr (.inl f_1))), (a_14, .inr (6, [.int i_11, .int i_12, .int i_13, .ref a_18])), (a_18, .inl (cy 2, 60, .inr (.inl g412))), (a_15, .inr (6, [.int i_14, .int i_15, .int i_16, .ref a_19])), (a_19, .inl (cy 2, 60, .inr (.inl f_3)))] H) (hD : va_D A [(a_0, .inr (11, [.ref a_1, .ref a_2, .ref a_3, .ref a_4, .ref a_5, .ref a_6, .ref a_7, .ref a_8, .ref a_9, .ref a_10, .ref a_11])), (a_6, .inl (cy 6, 4, .inr (.inr (.inr (.inr (va_up (va_up (va_up (va_up (fun _ => none) 0 (some a_12)) 1 (some a_13)) 2 (some a_14)) 3 (some a_15))))))), (a_12, .inr (6, [.int i_5, .int i_6, .int i_7, .ref a_16])), (a_16, .inl (cy 2, 60, .inr (.inl f_0))), (a_13, .inr (6, [.int i_8, .int i_9, .int i_10, .ref a_17])), (a_17, .inl (cy 2, 60, .inr (.inl f_1))), (a_14, .inr (6, [.int i_11, .int i_12, .int i_13, .ref a_18])), (a_18, .inl (cy 2, 60, .inr (.inl g412))), (a_15, .inr (6, [.int i_14, .int i_15, .int i_16, .ref a_19])), (a_19, .inl (cy 2, 60, .inr (.inl f_3)))]) hS
                            refine lv_iconst (v := 0) hx hb dX11_paste_128 (by decide) ?_
                            have w413 : mm_y1 i_5 i_8 i_11 i_14 2 := (mm_y1_of (mm_4_2 _ _ _ _) q311 (by decide))
                            have w414 : mm_y1 i_5 i_8 i_11 i_14 2 := (mm_y1_of (mm_4_2 _ _ _ _) q311 (by decide))
                            have w415 : mm_ye i_6 i_9 i_12 i_15 2 2 := (mm_ye_of (mm_4_2 _ _ _ _) (mm_4_2 _ _ _ _) rfl)
                            have w416 : mm_yg i_7 i_10 i_13 i_16 2 2 i_1 i_3 i_4 := (mm_yg_of (mm_4_2 _ _ _ _) (mm_4_2 _ _ _ _) (mm_xg_of w394 w405 w392 w404 w393 (by decide)))
                            subst hAe
                            rw [hQ]
                            exact W.iret (v := 0) hx hb hr (fun t ht hW => ⟨⟨0, (f_0, f_1, g412, f_3), rfl, (Or.inr (Or.inr (Or.inr (Or.inr (Or.inr (Or.inr (Or.inl ⟨rfl, (mm_wk mm_k2 (by decide)), (mm_wk mm_k2 (by decide)), w413, w414, w415, w416⟩))))))), by rw [ht]; exact hP, hK.warm hW, hD⟩, hS.F ht⟩) hS.2.2 dX11_paste_129
                          · exact mm_eqN c411.symm mm_k0 mm_k1 (by decide)
                  · exact absurd rfl (mm_ne c388)
                · exact mm_eqN c387.symm mm_k0 q311 (by decide)
              · refine W.eq (g2 := F0 m 35 ls [.ref a_15]) rfl ?_
                refine va_get (D := G) (ci := 6) (v := .int i_14) (C := RX6) (T := TX6) (N := 4) hx hb hts (mm_i inlX6) hown hK.1 hP 8 rfl rfl 0 (by decide) (mm_h hts mm_w1239) (fun _ h9 => h9) rfl dX11_paste_35 ?_
                refine lv_if_ne (tgt := 44) hx hb dX11_paste_38 (by decide) (fun c417 => ?_) (fun c417 => ?_)
                · have q418 := mm_neL (lo := 1) (mm_ne c417) h9 mm_k0 (by decide) (by decide)
                  refine lv_aload_n hx hb dX11_paste_44 rfl (lv_at hl 0 rfl) ?_
                  refine va_get (D := G) (ci := 11) (v := .ref a_6) (C := RX11) (T := TX11) (N := 11) hx hb hts (mm_i inlX11) hown hK.1 hP 0 rfl rfl 5 (by decide) (mm_h hts mm_w32) (fun _ h9 => h9) rfl dX11_paste_45 ?_
                  refine lv_iload_n hx hb dX11_paste_48 rfl (lv_at hl 1 rfl) ?_
                  refine va_aldq hx hb hK.1 hP 1 6 rfl rfl (mm_in mm_k2 (by decide)) dX11_paste_49 ?_
                  refine W.eq (g2 := F0 m 50 ls [.ref a_14]) rfl ?_
                  refine va_get (D := G) (ci := 6) (v := .int i_12) (C := RX6) (T := TX6) (N := 4) hx hb hts (mm_i inlX6) hown hK.1 hP 6 rfl rfl 1 (by decide) (mm_h hts mm_w1710) (fun _ h9 => h9) rfl dX11_paste_50 ?_
                  refine lv_aload_n hx hb dX11_paste_53 rfl (lv_at hl 0 rfl) ?_
                  refine va_get (D := G) (ci := 11) (v := .ref a_6) (C := RX11) (T := TX11) (N := 11) hx hb hts (mm_i inlX11) hown hK.1 hP 0 rfl rfl 5 (by decide) (mm_h hts mm_w32) (fun _ h9 => h9) rfl dX11_paste_54 ?_
                  refine lv_iload_n hx hb dX11_paste_57 rfl (lv_at hl 3 rfl) ?_
                  refine va_aldq hx hb hK.1 hP 1 6 rfl rfl (mm_in mm_k3 (by decide)) dX11_paste_58 ?_
                  refine W.eq (g2 := F0 m 59 ls [.ref a_15, .int i_12]) rfl ?_
                  refine va_get (D := G) (ci := 6) (v := .int i_15) (C := RX6) (T := TX6) (N := 4) hx hb hts (mm_i inlX6) hown hK.1 hP 8 rfl rfl 1 (by decide) (mm_h hts mm_w1710) (fun _ h9 => h9) rfl dX11_paste_59 ?_
                  refine lv_icmp_eq (tgt := 68) hx hb dX11_paste_62 (by decide) (fun c419 => ?_) (fun c419 => ?_)
                  · refine lv_aload_n hx hb dX11_paste_68 rfl (lv_at hl 0 rfl) ?_
                    refine va_get (D := G) (ci := 11) (v := .ref a_6) (C := RX11) (T := TX11) (N := 11) hx hb hts (mm_i inlX11) hown hK.1 hP 0 rfl rfl 5 (by decide) (mm_h hts mm_w32) (fun _ h9 => h9) rfl dX11_paste_69 ?_
                    refine lv_iload_n hx hb dX11_paste_72 rfl (lv_at hl 1 rfl) ?_
                    refine va_aldq hx hb hK.1 hP 1 6 rfl rfl (mm_in mm_k2 (by decide)) dX11_paste_73 ?_
                    refine W.eq (g2 := F0 m 74 ls [.ref a_14]) rfl ?_
                    refine lv_iload_n hx hb dX11_paste_74 rfl (lv_at hl 2 rfl) ?_
                    refine lv_iload hx hb dX11_paste_75 (lv_at hl 5 rfl) ?_
                    refine mm_finir (va_runV (As := [.int i_1, .int i_4]) (rest := []) ⟨hx, hb, hml, hown, hts⟩ (C549_X6_reaches l G cy H.size a_14 i_1 i_4 i_11 i_12 i_13 a_18 h8) (cwV 2 hts (mm_gV mm_w1713 mm_w1714 mm_w1715 mm_w34 mm_w1716) rfl rfl rfl hd_X6_reaches ⟨by rw [hRf]; exact Nat.le_of_ble_eq_true rfl, by rw [hRl]; exact Nat.le_of_ble_eq_true rfl⟩) (mm_preV hK hZ hS hA hP hD [6] rfl rfl 6 rfl rfl rfl) rfl rfl hl.1 rfl (lv_room (Nat.le_of_ble_eq_true rfl)) dX11_paste_77 ⟨by rw [hRc]; exact Nat.le_of_ble_eq_true rfl, by rw [hRs]; exact Nat.le_of_ble_eq_true rfl⟩) hP hD hS hA [6] rfl (fun _ => rfl) ?_
                    clear hP hD hS
                    clear H locs
                    intro v420 _u H locs hw hP hD hS
                    rcases hw with ⟨rfl, w421, w422⟩ | ⟨rfl, w423, w424, w425⟩
                    · refine lv_if_eq (tgt := 99) hx hb dX11_paste_80 (by decide) (fun c426 => ?_) (fun c426 => ?_)
                      · refine lv_bipush (v := (-7)) hx hb dX11_paste_99 (by decide) ?_
                        have w427 : mm_y1 i_5 i_8 i_11 i_14 2 := (mm_y1_of (mm_4_2 _ _ _ _) q311 (by decide))
                        have w428 : mm_y1 i_5 i_8 i_11 i_14 3 := (mm_y1_of (mm_4_3 _ _ _ _) q418 (by decide))
                        have w429 : mm_ye i_6 i_9 i_12 i_15 2 3 := (mm_ye_of (mm_4_2 _ _ _ _) (mm_4_3 _ _ _ _) c419)
                        have w430 : mm_yb i_7 i_10 i_13 i_16 2 3 i_1 i_3 i_4 := (mm_yb_of (mm_4_2 _ _ _ _) (mm_4_3 _ _ _ _) (mm_xb_1 w422))
                        subst hAe
                        rw [hQ]
                        exact W.iret (v := (-7)) hx hb hr (fun t ht hW => ⟨⟨(-7), (f_0, f_1, f_2, f_3), rfl, (Or.inr (Or.inr (Or.inr (Or.inr (Or.inr (Or.inl ⟨rfl, (mm_wk mm_k2 (by decide)), (mm_wk mm_k3 (by decide)), w427, w428, w429, w430⟩)))))), by rw [ht]; exact hP, hK.warm hW, hD⟩, hS.F ht⟩) hS.2.2 dX11_paste_101
                      · exact absurd rfl (mm_ne c426)
                    · refine lv_if_eq (tgt := 99) hx hb dX11_paste_80 (by decide) (fun c431 => ?_) (fun c431 => ?_)
                      · exact mm_eqN c431.symm mm_k0 mm_k1 (by decide)
                      · refine lv_aload_n hx hb dX11_paste_83 rfl (lv_at hl 0 rfl) ?_
                        refine va_get (D := G) (ci := 11) (v := .ref a_6) (C := RX11) (T := TX11) (N := 11) hx hb hts (mm_i inlX11) hown hK.1 hP 0 rfl rfl 5 (by decide) (mm_h hts mm_w32) (fun _ h9 => h9) rfl dX11_paste_84 ?_
                        refine lv_iload_n hx hb dX11_paste_87 rfl (lv_at hl 3 rfl) ?_
                        refine va_aldq hx hb hK.1 hP 1 6 rfl rfl (mm_in mm_k3 (by decide)) dX11_paste_88 ?_
                        refine W.eq (g2 := F0 m 89 ls [.ref a_15]) rfl ?_
                        refine lv_iload hx hb dX11_paste_89 (lv_at hl 4 rfl) ?_
                        refine lv_iload hx hb dX11_paste_91 (lv_at hl 5 rfl) ?_
                        refine mm_finir (va_runV (As := [.int i_3, .int i_4]) (rest := []) ⟨hx, hb, hml, hown, hts⟩ (C550_X6_reaches l G cy H.size a_15 i_3 i_4 i_14 i_15 i_16 a_19 w424 h11) (cwV 2 hts (mm_gV mm_w1713 mm_w1714 mm_w1715 mm_w34 mm_w1716) rfl rfl rfl hd_X6_reaches ⟨by rw [hRf]; exact Nat.le_of_ble_eq_true rfl, by rw [hRl]; exact Nat.le_of_ble_eq_true rfl⟩) (mm_preV hK hZ hS hA hP hD [8] rfl rfl 8 rfl rfl rfl) rfl rfl hl.1 rfl (lv_room (Nat.le_of_ble_eq_true rfl)) dX11_paste_93 ⟨by rw [hRc]; exact Nat.le_of_ble_eq_true rfl, by rw [hRs]; exact Nat.le_of_ble_eq_true rfl⟩) hP hD hS hA [8] rfl (fun _ => rfl) ?_
                        clear hP hD hS
                        clear H locs
                        intro v432 _u H locs hw hP hD hS
                        rcases hw with ⟨rfl, w433, w434⟩ | ⟨rfl, w435, w436⟩
                        · refine lv_if_ne (tgt := 102) hx hb dX11_paste_96 (by decide) (fun c437 => ?_) (fun c437 => ?_)
                          · exact absurd rfl (mm_ne c437)
                          · refine lv_bipush (v := (-7)) hx hb dX11_paste_99 (by decide) ?_
                            have w438 : mm_y1 i_5 i_8 i_11 i_14 2 := (mm_y1_of (mm_4_2 _ _ _ _) q311 (by decide))
                            have w439 : mm_y1 i_5 i_8 i_11 i_14 3 := (mm_y1_of (mm_4_3 _ _ _ _) q418 (by decide))
                            have w440 : mm_ye i_6 i_9 i_12 i_15 2 3 := (mm_ye_of (mm_4_2 _ _ _ _) (mm_4_3 _ _ _ _) c419)
                            have w441 : mm_yb i_7 i_10 i_13 i_16 2 3 i_1 i_3 i_4 := (mm_yb_of (mm_4_2 _ _ _ _) (mm_4_3 _ _ _ _) (mm_xb_2 w434))
                            subst hAe
                            rw [hQ]
                            exact W.iret (v := (-7)) hx hb hr (fun t ht hW => ⟨⟨(-7), (f_0, f_1, f_2, f_3), rfl, (Or.inr (Or.inr (Or.inr (Or.inr (Or.inr (Or.inl ⟨rfl, (mm_wk mm_k2 (by decide)), (mm_wk mm_k3 (by decide)), w438, w439, w440, w441⟩)))))), by rw [ht]; exact hP, hK.warm hW, hD⟩, hS.F ht⟩) hS.2.2 dX11_paste_101
                        · refine lv_if_ne (tgt := 102) hx hb dX11_paste_96 (by decide) (fun c442 => ?_) (fun c442 => ?_)
                          · refine lv_aload_n hx hb dX11_paste_102 rfl (lv_at hl 0 rfl) ?_
                            refine va_get (D := G) (ci := 11) (v := .ref a_6) (C := RX11) (T := TX11) (N := 11) hx hb hts (mm_i inlX11) hown hK.1 hP 0 rfl rfl 5 (by decide) (mm_h hts mm_w32) (fun _ h9 => h9) rfl dX11_paste_103 ?_
                            refine lv_iload_n hx hb dX11_paste_106 rfl (lv_at hl 1 rfl) ?_
                            refine va_aldq hx hb hK.1 hP 1 6 rfl rfl (mm_in mm_k2 (by decide)) dX11_paste_107 ?_
                            refine W.eq (g2 := F0 m 108 ls [.ref a_14]) rfl ?_
                            refine va_get (D := G) (ci := 6) (v := .ref a_18) (C := RX6) (T := TX6) (N := 4) hx hb hts (mm_i inlX6) hown hK.1 hP 6 rfl rfl 3 (by decide) (mm_h hts mm_w1711) (fun _ h9 => h9) rfl dX11_paste_108 ?_
                            refine lv_iload_n hx hb dX11_paste_111 rfl (lv_at hl 2 rfl) ?_
                            refine lv_aload_n hx hb dX11_paste_112 rfl (lv_at hl 0 rfl) ?_
                            refine va_get (D := G) (ci := 11) (v := .ref a_6) (C := RX11) (T := TX11) (N := 11) hx hb hts (mm_i inlX11) hown hK.1 hP 0 rfl rfl 5 (by decide) (mm_h hts mm_w32) (fun _ h9 => h9) rfl dX11_paste_113 ?_
                            refine lv_iload_n hx hb dX11_paste_116 rfl (lv_at hl 3 rfl) ?_
                            refine va_aldq hx hb hK.1 hP 1 6 rfl rfl (mm_in mm_k3 (by decide)) dX11_paste_117 ?_
                            refine W.eq (g2 := F0 m 118 ls [.ref a_15, .int i_1, .ref a_18]) rfl ?_
                            refine va_get (D := G) (ci := 6) (v := .ref a_19) (C := RX6) (T := TX6) (N := 4) hx hb hts (mm_i inlX6) hown hK.1 hP 8 rfl rfl 3 (by decide) (mm_h hts mm_w1711) (fun _ h9 => h9) rfl dX11_paste_118 ?_
                            refine lv_iload hx hb dX11_paste_121 (lv_at hl 4 rfl) ?_
                            refine lv_iload hx hb dX11_paste_123 (lv_at hl 5 rfl) ?_
                            refine va_copyl hx hb (by rw [hml]; exact hl.1.symm) hown (mm_h hts mm_w1712) (mm_h hts mm_w388) (mm_h hts mm_w389) (mm_h hts mm_w390) hK.1 hP hD hS 7 9 2 2 rfl rfl rfl rfl rfl (mm_nn w423 (by decide)) (mm_nn w435 (by decide)) (mm_nn w424 (by decide)) (mm_cpR w425 w423 w424 h8 (by decide)) (mm_cpR w436 w435 w424 h11 (by decide)) (fun _ _ => rfl) (by rw [hRf]; exact Nat.le_of_ble_eq_true rfl) (by rw [hRl]; exact Nat.le_of_ble_eq_true rfl) dX11_paste_125 ?_
                            clear hP hD hS
                            clear H locs
                            obtain ⟨g443, eg443⟩ : ∃ z : Nat → Int64, z = va_cpy f_2 f_3 i_1.toNatClampNeg i_3.toNatClampNeg i_4.toNatClampNeg := ⟨_, rfl⟩
                            rw [← eg443]
                            intro H locs (hP : va_P G vwCl [(a_0, .inr (11, [.ref a_1, .ref a_2, .ref a_3, .ref a_4, .ref a_5, .ref a_6, .ref a_7, .ref a_8, .ref a_9, .ref a_10, .ref a_11])), (a_6, .inl (cy 6, 4, .inr (.inr (.inr (.inr (va_up (va_up (va_up (va_up (fun _ => none) 0 (some a_12)) 1 (some a_13)) 2 (some a_14)) 3 (some a_15))))))), (a_12, .inr (6, [.int i_5, .int i_6, .int i_7, .ref a_16])), (a_16, .inl (cy 2, 60, .inr (.inl f_0))), (a_13, .inr (6, [.int i_8, .int i_9, .int i_10, .ref a_17])), (a_17, .inl (cy 2, 60, .inr (.inl f_1))), (a_14, .inr (6, [.int i_11, .int i_12, .int i_13, .ref a_18])), (a_18, .inl (cy 2, 60, .inr (.inl f_2))), (a_15, .inr (6, [.int i_14, .int i_15, .int i_16, .ref a_19])), (a_19, .inl (cy 2, 60, .inr (.inl g443)))] H) (hD : va_D A [(a_0, .inr (11, [.ref a_1, .ref a_2, .ref a_3, .ref a_4, .ref a_5, .ref a_6, .ref a_7, .ref a_8, .ref a_9, .ref a_10, .ref a_11])), (a_6, .inl (cy 6, 4, .inr (.inr (.inr (.inr (va_up (va_up (va_up (va_up (fun _ => none) 0 (some a_12)) 1 (some a_13)) 2 (some a_14)) 3 (some a_15))))))), (a_12, .inr (6, [.int i_5, .int i_6, .int i_7, .ref a_16])), (a_16, .inl (cy 2, 60, .inr (.inl f_0))), (a_13, .inr (6, [.int i_8, .int i_9, .int i_10, .ref a_17])), (a_17, .inl (cy 2, 60, .inr (.inl f_1))), (a_14, .inr (6, [.int i_11, .int i_12, .int i_13, .ref a_18])), (a_18, .inl (cy 2, 60, .inr (.inl f_2))), (a_15, .inr (6, [.int i_14, .int i_15, .int i_16, .ref a_19])), (a_19, .inl (cy 2, 60, .inr (.inl g443)))]) hS
                            refine lv_iconst (v := 0) hx hb dX11_paste_128 (by decide) ?_
                            have w444 : mm_y1 i_5 i_8 i_11 i_14 2 := (mm_y1_of (mm_4_2 _ _ _ _) q311 (by decide))
                            have w445 : mm_y1 i_5 i_8 i_11 i_14 3 := (mm_y1_of (mm_4_3 _ _ _ _) q418 (by decide))
                            have w446 : mm_ye i_6 i_9 i_12 i_15 2 3 := (mm_ye_of (mm_4_2 _ _ _ _) (mm_4_3 _ _ _ _) c419)
                            have w447 : mm_yg i_7 i_10 i_13 i_16 2 3 i_1 i_3 i_4 := (mm_yg_of (mm_4_2 _ _ _ _) (mm_4_3 _ _ _ _) (mm_xg_of w425 w436 w423 w435 w424 (by decide)))
                            subst hAe
                            rw [hQ]
                            exact W.iret (v := 0) hx hb hr (fun t ht hW => ⟨⟨0, (f_0, f_1, f_2, g443), rfl, (Or.inr (Or.inr (Or.inr (Or.inr (Or.inr (Or.inr (Or.inl ⟨rfl, (mm_wk mm_k2 (by decide)), (mm_wk mm_k3 (by decide)), w444, w445, w446, w447⟩))))))), by rw [ht]; exact hP, hK.warm hW, hD⟩, hS.F ht⟩) hS.2.2 dX11_paste_129
                          · exact mm_eqN c442.symm mm_k0 mm_k1 (by decide)
                  · refine lv_bipush (v := (-8)) hx hb dX11_paste_65 (by decide) ?_
                    have w448 : mm_y1 i_5 i_8 i_11 i_14 2 := (mm_y1_of (mm_4_2 _ _ _ _) q311 (by decide))
                    have w449 : mm_y1 i_5 i_8 i_11 i_14 3 := (mm_y1_of (mm_4_3 _ _ _ _) q418 (by decide))
                    have w450 : mm_yn i_6 i_9 i_12 i_15 2 3 := (mm_yn_of (mm_4_2 _ _ _ _) (mm_4_3 _ _ _ _) (mm_ne c419))
                    subst hAe
                    rw [hQ]
                    exact W.iret (v := (-8)) hx hb hr (fun t ht hW => ⟨⟨(-8), (f_0, f_1, f_2, f_3), rfl, (Or.inr (Or.inr (Or.inr (Or.inr (Or.inr (Or.inr (Or.inr (Or.inl ⟨rfl, (mm_wk mm_k2 (by decide)), (mm_wk mm_k3 (by decide)), w448, w449, w450⟩)))))))), by rw [ht]; exact hP, hK.warm hW, hD⟩, hS.F ht⟩) hS.2.2 dX11_paste_67
                · have q451 := mm_eqI (lo := 0) (hi := 0) c417 h9 mm_k0 (by decide)
                  refine lv_bipush (v := (-6)) hx hb dX11_paste_41 (by decide) ?_
                  have w452 : mm_y1 i_5 i_8 i_11 i_14 2 := (mm_y1_of (mm_4_2 _ _ _ _) q311 (by decide))
                  have w453 : mm_y0 i_5 i_8 i_11 i_14 3 := (mm_y0_of (mm_4_3 _ _ _ _) q451 (by decide))
                  subst hAe
                  rw [hQ]
                  exact W.iret (v := (-6)) hx hb hr (fun t ht hW => ⟨⟨(-6), (f_0, f_1, f_2, f_3), rfl, (Or.inr (Or.inr (Or.inr (Or.inr (Or.inr (Or.inr (Or.inr (Or.inr ⟨rfl, (mm_wk mm_k2 (by decide)), (mm_wk mm_k3 (by decide)), w452, w453⟩)))))))), by rw [ht]; exact hP, hK.warm hW, hD⟩, hS.F ht⟩) hS.2.2 dX11_paste_43
          · refine W.eq (g2 := F0 m 23 ls [.ref a_15]) rfl ?_
            refine va_get (D := G) (ci := 6) (v := .int i_14) (C := RX6) (T := TX6) (N := 4) hx hb hts (mm_i inlX6) hown hK.1 hP 8 rfl rfl 0 (by decide) (mm_h hts mm_w1239) (fun _ h9 => h9) rfl dX11_paste_23 ?_
            refine lv_if_eq (tgt := 41) hx hb dX11_paste_26 (by decide) (fun c454 => ?_) (fun c454 => ?_)
            · have q455 := mm_eqI (lo := 0) (hi := 0) c454 h9 mm_k0 (by decide)
              refine lv_bipush (v := (-6)) hx hb dX11_paste_41 (by decide) ?_
              have w456 : mm_y0 i_5 i_8 i_11 i_14 3 := (mm_y0_of (mm_4_3 _ _ _ _) q455 (by decide))
              subst hAe
              rw [hQ]
              exact W.iret (v := (-6)) hx hb hr (fun t ht hW => ⟨⟨(-6), (f_0, f_1, f_2, f_3), rfl, (Or.inr (Or.inr (Or.inr (Or.inr (Or.inl ⟨rfl, (mm_wk mm_k3 (by decide)), w11, w456⟩))))), by rw [ht]; exact hP, hK.warm hW, hD⟩, hS.F ht⟩) hS.2.2 dX11_paste_43
            · have q457 := mm_neL (lo := 1) (mm_ne c454) h9 mm_k0 (by decide) (by decide)
              refine lv_aload_n hx hb dX11_paste_29 rfl (lv_at hl 0 rfl) ?_
              refine va_get (D := G) (ci := 11) (v := .ref a_6) (C := RX11) (T := TX11) (N := 11) hx hb hts (mm_i inlX11) hown hK.1 hP 0 rfl rfl 5 (by decide) (mm_h hts mm_w32) (fun _ h9 => h9) rfl dX11_paste_30 ?_
              refine lv_iload_n hx hb dX11_paste_33 rfl (lv_at hl 3 rfl) ?_
              refine va_aldq hx hb hK.1 hP 1 6 rfl rfl (mm_in w11 (by decide)) dX11_paste_34 ?_
              have c458 := mm_cases4 w11
              rcases c458 with rfl | rfl | rfl | rfl
              · refine W.eq (g2 := F0 m 35 ls [.ref a_12]) rfl ?_
                refine va_get (D := G) (ci := 6) (v := .int i_5) (C := RX6) (T := TX6) (N := 4) hx hb hts (mm_i inlX6) hown hK.1 hP 2 rfl rfl 0 (by decide) (mm_h hts mm_w1239) (fun _ h9 => h9) rfl dX11_paste_35 ?_
                refine lv_if_ne (tgt := 44) hx hb dX11_paste_38 (by decide) (fun c459 => ?_) (fun c459 => ?_)
                · have q460 := mm_neL (lo := 1) (mm_ne c459) h0 mm_k0 (by decide) (by decide)
                  refine lv_aload_n hx hb dX11_paste_44 rfl (lv_at hl 0 rfl) ?_
                  refine va_get (D := G) (ci := 11) (v := .ref a_6) (C := RX11) (T := TX11) (N := 11) hx hb hts (mm_i inlX11) hown hK.1 hP 0 rfl rfl 5 (by decide) (mm_h hts mm_w32) (fun _ h9 => h9) rfl dX11_paste_45 ?_
                  refine lv_iload_n hx hb dX11_paste_48 rfl (lv_at hl 1 rfl) ?_
                  refine va_aldq hx hb hK.1 hP 1 6 rfl rfl (mm_in mm_k3 (by decide)) dX11_paste_49 ?_
                  refine W.eq (g2 := F0 m 50 ls [.ref a_15]) rfl ?_
                  refine va_get (D := G) (ci := 6) (v := .int i_15) (C := RX6) (T := TX6) (N := 4) hx hb hts (mm_i inlX6) hown hK.1 hP 8 rfl rfl 1 (by decide) (mm_h hts mm_w1710) (fun _ h9 => h9) rfl dX11_paste_50 ?_
                  refine lv_aload_n hx hb dX11_paste_53 rfl (lv_at hl 0 rfl) ?_
                  refine va_get (D := G) (ci := 11) (v := .ref a_6) (C := RX11) (T := TX11) (N := 11) hx hb hts (mm_i inlX11) hown hK.1 hP 0 rfl rfl 5 (by decide) (mm_h hts mm_w32) (fun _ h9 => h9) rfl dX11_paste_54 ?_
                  refine lv_iload_n hx hb dX11_paste_57 rfl (lv_at hl 3 rfl) ?_
                  refine va_aldq hx hb hK.1 hP 1 6 rfl rfl (mm_in mm_k0 (by decide)) dX11_paste_58 ?_
                  refine W.eq (g2 := F0 m 59 ls [.ref a_12, .int i_15]) rfl ?_
                  refine va_get (D := G) (ci := 6) (v := .int i_6) (C := RX6) (T := TX6) (N := 4) hx hb hts (mm_i inlX6) hown hK.1 hP 2 rfl rfl 1 (by decide) (mm_h hts mm_w1710) (fun _ h9 => h9) rfl dX11_paste_59 ?_
                  refine lv_icmp_eq (tgt := 68) hx hb dX11_paste_62 (by decide) (fun c461 => ?_) (fun c461 => ?_)
                  · refine lv_aload_n hx hb dX11_paste_68 rfl (lv_at hl 0 rfl) ?_
                    refine va_get (D := G) (ci := 11) (v := .ref a_6) (C := RX11) (T := TX11) (N := 11) hx hb hts (mm_i inlX11) hown hK.1 hP 0 rfl rfl 5 (by decide) (mm_h hts mm_w32) (fun _ h9 => h9) rfl dX11_paste_69 ?_
                    refine lv_iload_n hx hb dX11_paste_72 rfl (lv_at hl 1 rfl) ?_
                    refine va_aldq hx hb hK.1 hP 1 6 rfl rfl (mm_in mm_k3 (by decide)) dX11_paste_73 ?_
                    refine W.eq (g2 := F0 m 74 ls [.ref a_15]) rfl ?_
                    refine lv_iload_n hx hb dX11_paste_74 rfl (lv_at hl 2 rfl) ?_
                    refine lv_iload hx hb dX11_paste_75 (lv_at hl 5 rfl) ?_
                    refine mm_finir (va_runV (As := [.int i_1, .int i_4]) (rest := []) ⟨hx, hb, hml, hown, hts⟩ (C549_X6_reaches l G cy H.size a_15 i_1 i_4 i_14 i_15 i_16 a_19 h11) (cwV 2 hts (mm_gV mm_w1713 mm_w1714 mm_w1715 mm_w34 mm_w1716) rfl rfl rfl hd_X6_reaches ⟨by rw [hRf]; exact Nat.le_of_ble_eq_true rfl, by rw [hRl]; exact Nat.le_of_ble_eq_true rfl⟩) (mm_preV hK hZ hS hA hP hD [8] rfl rfl 8 rfl rfl rfl) rfl rfl hl.1 rfl (lv_room (Nat.le_of_ble_eq_true rfl)) dX11_paste_77 ⟨by rw [hRc]; exact Nat.le_of_ble_eq_true rfl, by rw [hRs]; exact Nat.le_of_ble_eq_true rfl⟩) hP hD hS hA [8] rfl (fun _ => rfl) ?_
                    clear hP hD hS
                    clear H locs
                    intro v462 _u H locs hw hP hD hS
                    rcases hw with ⟨rfl, w463, w464⟩ | ⟨rfl, w465, w466, w467⟩
                    · refine lv_if_eq (tgt := 99) hx hb dX11_paste_80 (by decide) (fun c468 => ?_) (fun c468 => ?_)
                      · refine lv_bipush (v := (-7)) hx hb dX11_paste_99 (by decide) ?_
                        have w469 : mm_y1 i_5 i_8 i_11 i_14 3 := (mm_y1_of (mm_4_3 _ _ _ _) q457 (by decide))
                        have w470 : mm_y1 i_5 i_8 i_11 i_14 0 := (mm_y1_of (mm_4_0 _ _ _ _) q460 (by decide))
                        have w471 : mm_ye i_6 i_9 i_12 i_15 3 0 := (mm_ye_of (mm_4_3 _ _ _ _) (mm_4_0 _ _ _ _) c461)
                        have w472 : mm_yb i_7 i_10 i_13 i_16 3 0 i_1 i_3 i_4 := (mm_yb_of (mm_4_3 _ _ _ _) (mm_4_0 _ _ _ _) (mm_xb_1 w464))
                        subst hAe
                        rw [hQ]
                        exact W.iret (v := (-7)) hx hb hr (fun t ht hW => ⟨⟨(-7), (f_0, f_1, f_2, f_3), rfl, (Or.inr (Or.inr (Or.inr (Or.inr (Or.inr (Or.inl ⟨rfl, (mm_wk mm_k3 (by decide)), (mm_wk mm_k0 (by decide)), w469, w470, w471, w472⟩)))))), by rw [ht]; exact hP, hK.warm hW, hD⟩, hS.F ht⟩) hS.2.2 dX11_paste_101
                      · exact absurd rfl (mm_ne c468)
                    · refine lv_if_eq (tgt := 99) hx hb dX11_paste_80 (by decide) (fun c473 => ?_) (fun c473 => ?_)
                      · exact mm_eqN c473.symm mm_k0 mm_k1 (by decide)
                      · refine lv_aload_n hx hb dX11_paste_83 rfl (lv_at hl 0 rfl) ?_
                        refine va_get (D := G) (ci := 11) (v := .ref a_6) (C := RX11) (T := TX11) (N := 11) hx hb hts (mm_i inlX11) hown hK.1 hP 0 rfl rfl 5 (by decide) (mm_h hts mm_w32) (fun _ h9 => h9) rfl dX11_paste_84 ?_
                        refine lv_iload_n hx hb dX11_paste_87 rfl (lv_at hl 3 rfl) ?_
                        refine va_aldq hx hb hK.1 hP 1 6 rfl rfl (mm_in mm_k0 (by decide)) dX11_paste_88 ?_
                        refine W.eq (g2 := F0 m 89 ls [.ref a_12]) rfl ?_
                        refine lv_iload hx hb dX11_paste_89 (lv_at hl 4 rfl) ?_
                        refine lv_iload hx hb dX11_paste_91 (lv_at hl 5 rfl) ?_
                        refine mm_finir (va_runV (As := [.int i_3, .int i_4]) (rest := []) ⟨hx, hb, hml, hown, hts⟩ (C550_X6_reaches l G cy H.size a_12 i_3 i_4 i_5 i_6 i_7 a_16 w466 h2) (cwV 2 hts (mm_gV mm_w1713 mm_w1714 mm_w1715 mm_w34 mm_w1716) rfl rfl rfl hd_X6_reaches ⟨by rw [hRf]; exact Nat.le_of_ble_eq_true rfl, by rw [hRl]; exact Nat.le_of_ble_eq_true rfl⟩) (mm_preV hK hZ hS hA hP hD [2] rfl rfl 2 rfl rfl rfl) rfl rfl hl.1 rfl (lv_room (Nat.le_of_ble_eq_true rfl)) dX11_paste_93 ⟨by rw [hRc]; exact Nat.le_of_ble_eq_true rfl, by rw [hRs]; exact Nat.le_of_ble_eq_true rfl⟩) hP hD hS hA [2] rfl (fun _ => rfl) ?_
                        clear hP hD hS
                        clear H locs
                        intro v474 _u H locs hw hP hD hS
                        rcases hw with ⟨rfl, w475, w476⟩ | ⟨rfl, w477, w478⟩
                        · refine lv_if_ne (tgt := 102) hx hb dX11_paste_96 (by decide) (fun c479 => ?_) (fun c479 => ?_)
                          · exact absurd rfl (mm_ne c479)
                          · refine lv_bipush (v := (-7)) hx hb dX11_paste_99 (by decide) ?_
                            have w480 : mm_y1 i_5 i_8 i_11 i_14 3 := (mm_y1_of (mm_4_3 _ _ _ _) q457 (by decide))
                            have w481 : mm_y1 i_5 i_8 i_11 i_14 0 := (mm_y1_of (mm_4_0 _ _ _ _) q460 (by decide))
                            have w482 : mm_ye i_6 i_9 i_12 i_15 3 0 := (mm_ye_of (mm_4_3 _ _ _ _) (mm_4_0 _ _ _ _) c461)
                            have w483 : mm_yb i_7 i_10 i_13 i_16 3 0 i_1 i_3 i_4 := (mm_yb_of (mm_4_3 _ _ _ _) (mm_4_0 _ _ _ _) (mm_xb_2 w476))
                            subst hAe
                            rw [hQ]
                            exact W.iret (v := (-7)) hx hb hr (fun t ht hW => ⟨⟨(-7), (f_0, f_1, f_2, f_3), rfl, (Or.inr (Or.inr (Or.inr (Or.inr (Or.inr (Or.inl ⟨rfl, (mm_wk mm_k3 (by decide)), (mm_wk mm_k0 (by decide)), w480, w481, w482, w483⟩)))))), by rw [ht]; exact hP, hK.warm hW, hD⟩, hS.F ht⟩) hS.2.2 dX11_paste_101
                        · refine lv_if_ne (tgt := 102) hx hb dX11_paste_96 (by decide) (fun c484 => ?_) (fun c484 => ?_)
                          · refine lv_aload_n hx hb dX11_paste_102 rfl (lv_at hl 0 rfl) ?_
                            refine va_get (D := G) (ci := 11) (v := .ref a_6) (C := RX11) (T := TX11) (N := 11) hx hb hts (mm_i inlX11) hown hK.1 hP 0 rfl rfl 5 (by decide) (mm_h hts mm_w32) (fun _ h9 => h9) rfl dX11_paste_103 ?_
                            refine lv_iload_n hx hb dX11_paste_106 rfl (lv_at hl 1 rfl) ?_
                            refine va_aldq hx hb hK.1 hP 1 6 rfl rfl (mm_in mm_k3 (by decide)) dX11_paste_107 ?_
                            refine W.eq (g2 := F0 m 108 ls [.ref a_15]) rfl ?_
                            refine va_get (D := G) (ci := 6) (v := .ref a_19) (C := RX6) (T := TX6) (N := 4) hx hb hts (mm_i inlX6) hown hK.1 hP 8 rfl rfl 3 (by decide) (mm_h hts mm_w1711) (fun _ h9 => h9) rfl dX11_paste_108 ?_
                            refine lv_iload_n hx hb dX11_paste_111 rfl (lv_at hl 2 rfl) ?_
                            refine lv_aload_n hx hb dX11_paste_112 rfl (lv_at hl 0 rfl) ?_
                            refine va_get (D := G) (ci := 11) (v := .ref a_6) (C := RX11) (T := TX11) (N := 11) hx hb hts (mm_i inlX11) hown hK.1 hP 0 rfl rfl 5 (by decide) (mm_h hts mm_w32) (fun _ h9 => h9) rfl dX11_paste_113 ?_
                            refine lv_iload_n hx hb dX11_paste_116 rfl (lv_at hl 3 rfl) ?_
                            refine va_aldq hx hb hK.1 hP 1 6 rfl rfl (mm_in mm_k0 (by decide)) dX11_paste_117 ?_
                            refine W.eq (g2 := F0 m 118 ls [.ref a_12, .int i_1, .ref a_19]) rfl ?_
                            refine va_get (D := G) (ci := 6) (v := .ref a_16) (C := RX6) (T := TX6) (N := 4) hx hb hts (mm_i inlX6) hown hK.1 hP 2 rfl rfl 3 (by decide) (mm_h hts mm_w1711) (fun _ h9 => h9) rfl dX11_paste_118 ?_
                            refine lv_iload hx hb dX11_paste_121 (lv_at hl 4 rfl) ?_
                            refine lv_iload hx hb dX11_paste_123 (lv_at hl 5 rfl) ?_
                            refine va_copyl hx hb (by rw [hml]; exact hl.1.symm) hown (mm_h hts mm_w1712) (mm_h hts mm_w388) (mm_h hts mm_w389) (mm_h hts mm_w390) hK.1 hP hD hS 9 3 2 2 rfl rfl rfl rfl rfl (mm_nn w465 (by decide)) (mm_nn w477 (by decide)) (mm_nn w466 (by decide)) (mm_cpR w467 w465 w466 h11 (by decide)) (mm_cpR w478 w477 w466 h2 (by decide)) (fun _ _ => rfl) (by rw [hRf]; exact Nat.le_of_ble_eq_true rfl) (by rw [hRl]; exact Nat.le_of_ble_eq_true rfl) dX11_paste_125 ?_
                            clear hP hD hS
                            clear H locs
                            obtain ⟨g485, eg485⟩ : ∃ z : Nat → Int64, z = va_cpy f_3 f_0 i_1.toNatClampNeg i_3.toNatClampNeg i_4.toNatClampNeg := ⟨_, rfl⟩
                            rw [← eg485]
                            intro H locs (hP : va_P G vwCl [(a_0, .inr (11, [.ref a_1, .ref a_2, .ref a_3, .ref a_4, .ref a_5, .ref a_6, .ref a_7, .ref a_8, .ref a_9, .ref a_10, .ref a_11])), (a_6, .inl (cy 6, 4, .inr (.inr (.inr (.inr (va_up (va_up (va_up (va_up (fun _ => none) 0 (some a_12)) 1 (some a_13)) 2 (some a_14)) 3 (some a_15))))))), (a_12, .inr (6, [.int i_5, .int i_6, .int i_7, .ref a_16])), (a_16, .inl (cy 2, 60, .inr (.inl g485))), (a_13, .inr (6, [.int i_8, .int i_9, .int i_10, .ref a_17])), (a_17, .inl (cy 2, 60, .inr (.inl f_1))), (a_14, .inr (6, [.int i_11, .int i_12, .int i_13, .ref a_18])), (a_18, .inl (cy 2, 60, .inr (.inl f_2))), (a_15, .inr (6, [.int i_14, .int i_15, .int i_16, .ref a_19])), (a_19, .inl (cy 2, 60, .inr (.inl f_3)))] H) (hD : va_D A [(a_0, .inr (11, [.ref a_1, .ref a_2, .ref a_3, .ref a_4, .ref a_5, .ref a_6, .ref a_7, .ref a_8, .ref a_9, .ref a_10, .ref a_11])), (a_6, .inl (cy 6, 4, .inr (.inr (.inr (.inr (va_up (va_up (va_up (va_up (fun _ => none) 0 (some a_12)) 1 (some a_13)) 2 (some a_14)) 3 (some a_15))))))), (a_12, .inr (6, [.int i_5, .int i_6, .int i_7, .ref a_16])), (a_16, .inl (cy 2, 60, .inr (.inl g485))), (a_13, .inr (6, [.int i_8, .int i_9, .int i_10, .ref a_17])), (a_17, .inl (cy 2, 60, .inr (.inl f_1))), (a_14, .inr (6, [.int i_11, .int i_12, .int i_13, .ref a_18])), (a_18, .inl (cy 2, 60, .inr (.inl f_2))), (a_15, .inr (6, [.int i_14, .int i_15, .int i_16, .ref a_19])), (a_19, .inl (cy 2, 60, .inr (.inl f_3)))]) hS
                            refine lv_iconst (v := 0) hx hb dX11_paste_128 (by decide) ?_
                            have w486 : mm_y1 i_5 i_8 i_11 i_14 3 := (mm_y1_of (mm_4_3 _ _ _ _) q457 (by decide))
                            have w487 : mm_y1 i_5 i_8 i_11 i_14 0 := (mm_y1_of (mm_4_0 _ _ _ _) q460 (by decide))
                            have w488 : mm_ye i_6 i_9 i_12 i_15 3 0 := (mm_ye_of (mm_4_3 _ _ _ _) (mm_4_0 _ _ _ _) c461)
                            have w489 : mm_yg i_7 i_10 i_13 i_16 3 0 i_1 i_3 i_4 := (mm_yg_of (mm_4_3 _ _ _ _) (mm_4_0 _ _ _ _) (mm_xg_of w467 w478 w465 w477 w466 (by decide)))
                            subst hAe
                            rw [hQ]
                            exact W.iret (v := 0) hx hb hr (fun t ht hW => ⟨⟨0, (g485, f_1, f_2, f_3), rfl, (Or.inr (Or.inr (Or.inr (Or.inr (Or.inr (Or.inr (Or.inl ⟨rfl, (mm_wk mm_k3 (by decide)), (mm_wk mm_k0 (by decide)), w486, w487, w488, w489⟩))))))), by rw [ht]; exact hP, hK.warm hW, hD⟩, hS.F ht⟩) hS.2.2 dX11_paste_129
                          · exact mm_eqN c484.symm mm_k0 mm_k1 (by decide)
                  · refine lv_bipush (v := (-8)) hx hb dX11_paste_65 (by decide) ?_
                    have w490 : mm_y1 i_5 i_8 i_11 i_14 3 := (mm_y1_of (mm_4_3 _ _ _ _) q457 (by decide))
                    have w491 : mm_y1 i_5 i_8 i_11 i_14 0 := (mm_y1_of (mm_4_0 _ _ _ _) q460 (by decide))
                    have w492 : mm_yn i_6 i_9 i_12 i_15 3 0 := (mm_yn_of (mm_4_3 _ _ _ _) (mm_4_0 _ _ _ _) (mm_ne c461))
                    subst hAe
                    rw [hQ]
                    exact W.iret (v := (-8)) hx hb hr (fun t ht hW => ⟨⟨(-8), (f_0, f_1, f_2, f_3), rfl, (Or.inr (Or.inr (Or.inr (Or.inr (Or.inr (Or.inr (Or.inr (Or.inl ⟨rfl, (mm_wk mm_k3 (by decide)), (mm_wk mm_k0 (by decide)), w490, w491, w492⟩)))))))), by rw [ht]; exact hP, hK.warm hW, hD⟩, hS.F ht⟩) hS.2.2 dX11_paste_67
                · have q493 := mm_eqI (lo := 0) (hi := 0) c459 h0 mm_k0 (by decide)
                  refine lv_bipush (v := (-6)) hx hb dX11_paste_41 (by decide) ?_
                  have w494 : mm_y1 i_5 i_8 i_11 i_14 3 := (mm_y1_of (mm_4_3 _ _ _ _) q457 (by decide))
                  have w495 : mm_y0 i_5 i_8 i_11 i_14 0 := (mm_y0_of (mm_4_0 _ _ _ _) q493 (by decide))
                  subst hAe
                  rw [hQ]
                  exact W.iret (v := (-6)) hx hb hr (fun t ht hW => ⟨⟨(-6), (f_0, f_1, f_2, f_3), rfl, (Or.inr (Or.inr (Or.inr (Or.inr (Or.inr (Or.inr (Or.inr (Or.inr ⟨rfl, (mm_wk mm_k3 (by decide)), (mm_wk mm_k0 (by decide)), w494, w495⟩)))))))), by rw [ht]; exact hP, hK.warm hW, hD⟩, hS.F ht⟩) hS.2.2 dX11_paste_43
              · refine W.eq (g2 := F0 m 35 ls [.ref a_13]) rfl ?_
                refine va_get (D := G) (ci := 6) (v := .int i_8) (C := RX6) (T := TX6) (N := 4) hx hb hts (mm_i inlX6) hown hK.1 hP 4 rfl rfl 0 (by decide) (mm_h hts mm_w1239) (fun _ h9 => h9) rfl dX11_paste_35 ?_
                refine lv_if_ne (tgt := 44) hx hb dX11_paste_38 (by decide) (fun c496 => ?_) (fun c496 => ?_)
                · have q497 := mm_neL (lo := 1) (mm_ne c496) h3 mm_k0 (by decide) (by decide)
                  refine lv_aload_n hx hb dX11_paste_44 rfl (lv_at hl 0 rfl) ?_
                  refine va_get (D := G) (ci := 11) (v := .ref a_6) (C := RX11) (T := TX11) (N := 11) hx hb hts (mm_i inlX11) hown hK.1 hP 0 rfl rfl 5 (by decide) (mm_h hts mm_w32) (fun _ h9 => h9) rfl dX11_paste_45 ?_
                  refine lv_iload_n hx hb dX11_paste_48 rfl (lv_at hl 1 rfl) ?_
                  refine va_aldq hx hb hK.1 hP 1 6 rfl rfl (mm_in mm_k3 (by decide)) dX11_paste_49 ?_
                  refine W.eq (g2 := F0 m 50 ls [.ref a_15]) rfl ?_
                  refine va_get (D := G) (ci := 6) (v := .int i_15) (C := RX6) (T := TX6) (N := 4) hx hb hts (mm_i inlX6) hown hK.1 hP 8 rfl rfl 1 (by decide) (mm_h hts mm_w1710) (fun _ h9 => h9) rfl dX11_paste_50 ?_
                  refine lv_aload_n hx hb dX11_paste_53 rfl (lv_at hl 0 rfl) ?_
                  refine va_get (D := G) (ci := 11) (v := .ref a_6) (C := RX11) (T := TX11) (N := 11) hx hb hts (mm_i inlX11) hown hK.1 hP 0 rfl rfl 5 (by decide) (mm_h hts mm_w32) (fun _ h9 => h9) rfl dX11_paste_54 ?_
                  refine lv_iload_n hx hb dX11_paste_57 rfl (lv_at hl 3 rfl) ?_
                  refine va_aldq hx hb hK.1 hP 1 6 rfl rfl (mm_in mm_k1 (by decide)) dX11_paste_58 ?_
                  refine W.eq (g2 := F0 m 59 ls [.ref a_13, .int i_15]) rfl ?_
                  refine va_get (D := G) (ci := 6) (v := .int i_9) (C := RX6) (T := TX6) (N := 4) hx hb hts (mm_i inlX6) hown hK.1 hP 4 rfl rfl 1 (by decide) (mm_h hts mm_w1710) (fun _ h9 => h9) rfl dX11_paste_59 ?_
                  refine lv_icmp_eq (tgt := 68) hx hb dX11_paste_62 (by decide) (fun c498 => ?_) (fun c498 => ?_)
                  · refine lv_aload_n hx hb dX11_paste_68 rfl (lv_at hl 0 rfl) ?_
                    refine va_get (D := G) (ci := 11) (v := .ref a_6) (C := RX11) (T := TX11) (N := 11) hx hb hts (mm_i inlX11) hown hK.1 hP 0 rfl rfl 5 (by decide) (mm_h hts mm_w32) (fun _ h9 => h9) rfl dX11_paste_69 ?_
                    refine lv_iload_n hx hb dX11_paste_72 rfl (lv_at hl 1 rfl) ?_
                    refine va_aldq hx hb hK.1 hP 1 6 rfl rfl (mm_in mm_k3 (by decide)) dX11_paste_73 ?_
                    refine W.eq (g2 := F0 m 74 ls [.ref a_15]) rfl ?_
                    refine lv_iload_n hx hb dX11_paste_74 rfl (lv_at hl 2 rfl) ?_
                    refine lv_iload hx hb dX11_paste_75 (lv_at hl 5 rfl) ?_
                    refine mm_finir (va_runV (As := [.int i_1, .int i_4]) (rest := []) ⟨hx, hb, hml, hown, hts⟩ (C549_X6_reaches l G cy H.size a_15 i_1 i_4 i_14 i_15 i_16 a_19 h11) (cwV 2 hts (mm_gV mm_w1713 mm_w1714 mm_w1715 mm_w34 mm_w1716) rfl rfl rfl hd_X6_reaches ⟨by rw [hRf]; exact Nat.le_of_ble_eq_true rfl, by rw [hRl]; exact Nat.le_of_ble_eq_true rfl⟩) (mm_preV hK hZ hS hA hP hD [8] rfl rfl 8 rfl rfl rfl) rfl rfl hl.1 rfl (lv_room (Nat.le_of_ble_eq_true rfl)) dX11_paste_77 ⟨by rw [hRc]; exact Nat.le_of_ble_eq_true rfl, by rw [hRs]; exact Nat.le_of_ble_eq_true rfl⟩) hP hD hS hA [8] rfl (fun _ => rfl) ?_
                    clear hP hD hS
                    clear H locs
                    intro v499 _u H locs hw hP hD hS
                    rcases hw with ⟨rfl, w500, w501⟩ | ⟨rfl, w502, w503, w504⟩
                    · refine lv_if_eq (tgt := 99) hx hb dX11_paste_80 (by decide) (fun c505 => ?_) (fun c505 => ?_)
                      · refine lv_bipush (v := (-7)) hx hb dX11_paste_99 (by decide) ?_
                        have w506 : mm_y1 i_5 i_8 i_11 i_14 3 := (mm_y1_of (mm_4_3 _ _ _ _) q457 (by decide))
                        have w507 : mm_y1 i_5 i_8 i_11 i_14 1 := (mm_y1_of (mm_4_1 _ _ _ _) q497 (by decide))
                        have w508 : mm_ye i_6 i_9 i_12 i_15 3 1 := (mm_ye_of (mm_4_3 _ _ _ _) (mm_4_1 _ _ _ _) c498)
                        have w509 : mm_yb i_7 i_10 i_13 i_16 3 1 i_1 i_3 i_4 := (mm_yb_of (mm_4_3 _ _ _ _) (mm_4_1 _ _ _ _) (mm_xb_1 w501))
                        subst hAe
                        rw [hQ]
                        exact W.iret (v := (-7)) hx hb hr (fun t ht hW => ⟨⟨(-7), (f_0, f_1, f_2, f_3), rfl, (Or.inr (Or.inr (Or.inr (Or.inr (Or.inr (Or.inl ⟨rfl, (mm_wk mm_k3 (by decide)), (mm_wk mm_k1 (by decide)), w506, w507, w508, w509⟩)))))), by rw [ht]; exact hP, hK.warm hW, hD⟩, hS.F ht⟩) hS.2.2 dX11_paste_101
                      · exact absurd rfl (mm_ne c505)
                    · refine lv_if_eq (tgt := 99) hx hb dX11_paste_80 (by decide) (fun c510 => ?_) (fun c510 => ?_)
                      · exact mm_eqN c510.symm mm_k0 mm_k1 (by decide)
                      · refine lv_aload_n hx hb dX11_paste_83 rfl (lv_at hl 0 rfl) ?_
                        refine va_get (D := G) (ci := 11) (v := .ref a_6) (C := RX11) (T := TX11) (N := 11) hx hb hts (mm_i inlX11) hown hK.1 hP 0 rfl rfl 5 (by decide) (mm_h hts mm_w32) (fun _ h9 => h9) rfl dX11_paste_84 ?_
                        refine lv_iload_n hx hb dX11_paste_87 rfl (lv_at hl 3 rfl) ?_
                        refine va_aldq hx hb hK.1 hP 1 6 rfl rfl (mm_in mm_k1 (by decide)) dX11_paste_88 ?_
                        refine W.eq (g2 := F0 m 89 ls [.ref a_13]) rfl ?_
                        refine lv_iload hx hb dX11_paste_89 (lv_at hl 4 rfl) ?_
                        refine lv_iload hx hb dX11_paste_91 (lv_at hl 5 rfl) ?_
                        refine mm_finir (va_runV (As := [.int i_3, .int i_4]) (rest := []) ⟨hx, hb, hml, hown, hts⟩ (C550_X6_reaches l G cy H.size a_13 i_3 i_4 i_8 i_9 i_10 a_17 w503 h5) (cwV 2 hts (mm_gV mm_w1713 mm_w1714 mm_w1715 mm_w34 mm_w1716) rfl rfl rfl hd_X6_reaches ⟨by rw [hRf]; exact Nat.le_of_ble_eq_true rfl, by rw [hRl]; exact Nat.le_of_ble_eq_true rfl⟩) (mm_preV hK hZ hS hA hP hD [4] rfl rfl 4 rfl rfl rfl) rfl rfl hl.1 rfl (lv_room (Nat.le_of_ble_eq_true rfl)) dX11_paste_93 ⟨by rw [hRc]; exact Nat.le_of_ble_eq_true rfl, by rw [hRs]; exact Nat.le_of_ble_eq_true rfl⟩) hP hD hS hA [4] rfl (fun _ => rfl) ?_
                        clear hP hD hS
                        clear H locs
                        intro v511 _u H locs hw hP hD hS
                        rcases hw with ⟨rfl, w512, w513⟩ | ⟨rfl, w514, w515⟩
                        · refine lv_if_ne (tgt := 102) hx hb dX11_paste_96 (by decide) (fun c516 => ?_) (fun c516 => ?_)
                          · exact absurd rfl (mm_ne c516)
                          · refine lv_bipush (v := (-7)) hx hb dX11_paste_99 (by decide) ?_
                            have w517 : mm_y1 i_5 i_8 i_11 i_14 3 := (mm_y1_of (mm_4_3 _ _ _ _) q457 (by decide))
                            have w518 : mm_y1 i_5 i_8 i_11 i_14 1 := (mm_y1_of (mm_4_1 _ _ _ _) q497 (by decide))
                            have w519 : mm_ye i_6 i_9 i_12 i_15 3 1 := (mm_ye_of (mm_4_3 _ _ _ _) (mm_4_1 _ _ _ _) c498)
                            have w520 : mm_yb i_7 i_10 i_13 i_16 3 1 i_1 i_3 i_4 := (mm_yb_of (mm_4_3 _ _ _ _) (mm_4_1 _ _ _ _) (mm_xb_2 w513))
                            subst hAe
                            rw [hQ]
                            exact W.iret (v := (-7)) hx hb hr (fun t ht hW => ⟨⟨(-7), (f_0, f_1, f_2, f_3), rfl, (Or.inr (Or.inr (Or.inr (Or.inr (Or.inr (Or.inl ⟨rfl, (mm_wk mm_k3 (by decide)), (mm_wk mm_k1 (by decide)), w517, w518, w519, w520⟩)))))), by rw [ht]; exact hP, hK.warm hW, hD⟩, hS.F ht⟩) hS.2.2 dX11_paste_101
                        · refine lv_if_ne (tgt := 102) hx hb dX11_paste_96 (by decide) (fun c521 => ?_) (fun c521 => ?_)
                          · refine lv_aload_n hx hb dX11_paste_102 rfl (lv_at hl 0 rfl) ?_
                            refine va_get (D := G) (ci := 11) (v := .ref a_6) (C := RX11) (T := TX11) (N := 11) hx hb hts (mm_i inlX11) hown hK.1 hP 0 rfl rfl 5 (by decide) (mm_h hts mm_w32) (fun _ h9 => h9) rfl dX11_paste_103 ?_
                            refine lv_iload_n hx hb dX11_paste_106 rfl (lv_at hl 1 rfl) ?_
                            refine va_aldq hx hb hK.1 hP 1 6 rfl rfl (mm_in mm_k3 (by decide)) dX11_paste_107 ?_
                            refine W.eq (g2 := F0 m 108 ls [.ref a_15]) rfl ?_
                            refine va_get (D := G) (ci := 6) (v := .ref a_19) (C := RX6) (T := TX6) (N := 4) hx hb hts (mm_i inlX6) hown hK.1 hP 8 rfl rfl 3 (by decide) (mm_h hts mm_w1711) (fun _ h9 => h9) rfl dX11_paste_108 ?_
                            refine lv_iload_n hx hb dX11_paste_111 rfl (lv_at hl 2 rfl) ?_
                            refine lv_aload_n hx hb dX11_paste_112 rfl (lv_at hl 0 rfl) ?_
                            refine va_get (D := G) (ci := 11) (v := .ref a_6) (C := RX11) (T := TX11) (N := 11) hx hb hts (mm_i inlX11) hown hK.1 hP 0 rfl rfl 5 (by decide) (mm_h hts mm_w32) (fun _ h9 => h9) rfl dX11_paste_113 ?_
                            refine lv_iload_n hx hb dX11_paste_116 rfl (lv_at hl 3 rfl) ?_
                            refine va_aldq hx hb hK.1 hP 1 6 rfl rfl (mm_in mm_k1 (by decide)) dX11_paste_117 ?_
                            refine W.eq (g2 := F0 m 118 ls [.ref a_13, .int i_1, .ref a_19]) rfl ?_
                            refine va_get (D := G) (ci := 6) (v := .ref a_17) (C := RX6) (T := TX6) (N := 4) hx hb hts (mm_i inlX6) hown hK.1 hP 4 rfl rfl 3 (by decide) (mm_h hts mm_w1711) (fun _ h9 => h9) rfl dX11_paste_118 ?_
                            refine lv_iload hx hb dX11_paste_121 (lv_at hl 4 rfl) ?_
                            refine lv_iload hx hb dX11_paste_123 (lv_at hl 5 rfl) ?_
                            refine va_copyl hx hb (by rw [hml]; exact hl.1.symm) hown (mm_h hts mm_w1712) (mm_h hts mm_w388) (mm_h hts mm_w389) (mm_h hts mm_w390) hK.1 hP hD hS 9 5 2 2 rfl rfl rfl rfl rfl (mm_nn w502 (by decide)) (mm_nn w514 (by decide)) (mm_nn w503 (by decide)) (mm_cpR w504 w502 w503 h11 (by decide)) (mm_cpR w515 w514 w503 h5 (by decide)) (fun _ _ => rfl) (by rw [hRf]; exact Nat.le_of_ble_eq_true rfl) (by rw [hRl]; exact Nat.le_of_ble_eq_true rfl) dX11_paste_125 ?_
                            clear hP hD hS
                            clear H locs
                            obtain ⟨g522, eg522⟩ : ∃ z : Nat → Int64, z = va_cpy f_3 f_1 i_1.toNatClampNeg i_3.toNatClampNeg i_4.toNatClampNeg := ⟨_, rfl⟩
                            rw [← eg522]
                            intro H locs (hP : va_P G vwCl [(a_0, .inr (11, [.ref a_1, .ref a_2, .ref a_3, .ref a_4, .ref a_5, .ref a_6, .ref a_7, .ref a_8, .ref a_9, .ref a_10, .ref a_11])), (a_6, .inl (cy 6, 4, .inr (.inr (.inr (.inr (va_up (va_up (va_up (va_up (fun _ => none) 0 (some a_12)) 1 (some a_13)) 2 (some a_14)) 3 (some a_15))))))), (a_12, .inr (6, [.int i_5, .int i_6, .int i_7, .ref a_16])), (a_16, .inl (cy 2, 60, .inr (.inl f_0))), (a_13, .inr (6, [.int i_8, .int i_9, .int i_10, .ref a_17])), (a_17, .inl (cy 2, 60, .inr (.inl g522))), (a_14, .inr (6, [.int i_11, .int i_12, .int i_13, .ref a_18])), (a_18, .inl (cy 2, 60, .inr (.inl f_2))), (a_15, .inr (6, [.int i_14, .int i_15, .int i_16, .ref a_19])), (a_19, .inl (cy 2, 60, .inr (.inl f_3)))] H) (hD : va_D A [(a_0, .inr (11, [.ref a_1, .ref a_2, .ref a_3, .ref a_4, .ref a_5, .ref a_6, .ref a_7, .ref a_8, .ref a_9, .ref a_10, .ref a_11])), (a_6, .inl (cy 6, 4, .inr (.inr (.inr (.inr (va_up (va_up (va_up (va_up (fun _ => none) 0 (some a_12)) 1 (some a_13)) 2 (some a_14)) 3 (some a_15))))))), (a_12, .inr (6, [.int i_5, .int i_6, .int i_7, .ref a_16])), (a_16, .inl (cy 2, 60, .inr (.inl f_0))), (a_13, .inr (6, [.int i_8, .int i_9, .int i_10, .ref a_17])), (a_17, .inl (cy 2, 60, .inr (.inl g522))), (a_14, .inr (6, [.int i_11, .int i_12, .int i_13, .ref a_18])), (a_18, .inl (cy 2, 60, .inr (.inl f_2))), (a_15, .inr (6, [.int i_14, .int i_15, .int i_16, .ref a_19])), (a_19, .inl (cy 2, 60, .inr (.inl f_3)))]) hS
                            refine lv_iconst (v := 0) hx hb dX11_paste_128 (by decide) ?_
                            have w523 : mm_y1 i_5 i_8 i_11 i_14 3 := (mm_y1_of (mm_4_3 _ _ _ _) q457 (by decide))
                            have w524 : mm_y1 i_5 i_8 i_11 i_14 1 := (mm_y1_of (mm_4_1 _ _ _ _) q497 (by decide))
                            have w525 : mm_ye i_6 i_9 i_12 i_15 3 1 := (mm_ye_of (mm_4_3 _ _ _ _) (mm_4_1 _ _ _ _) c498)
                            have w526 : mm_yg i_7 i_10 i_13 i_16 3 1 i_1 i_3 i_4 := (mm_yg_of (mm_4_3 _ _ _ _) (mm_4_1 _ _ _ _) (mm_xg_of w504 w515 w502 w514 w503 (by decide)))
                            subst hAe
                            rw [hQ]
                            exact W.iret (v := 0) hx hb hr (fun t ht hW => ⟨⟨0, (f_0, g522, f_2, f_3), rfl, (Or.inr (Or.inr (Or.inr (Or.inr (Or.inr (Or.inr (Or.inl ⟨rfl, (mm_wk mm_k3 (by decide)), (mm_wk mm_k1 (by decide)), w523, w524, w525, w526⟩))))))), by rw [ht]; exact hP, hK.warm hW, hD⟩, hS.F ht⟩) hS.2.2 dX11_paste_129
                          · exact mm_eqN c521.symm mm_k0 mm_k1 (by decide)
                  · refine lv_bipush (v := (-8)) hx hb dX11_paste_65 (by decide) ?_
                    have w527 : mm_y1 i_5 i_8 i_11 i_14 3 := (mm_y1_of (mm_4_3 _ _ _ _) q457 (by decide))
                    have w528 : mm_y1 i_5 i_8 i_11 i_14 1 := (mm_y1_of (mm_4_1 _ _ _ _) q497 (by decide))
                    have w529 : mm_yn i_6 i_9 i_12 i_15 3 1 := (mm_yn_of (mm_4_3 _ _ _ _) (mm_4_1 _ _ _ _) (mm_ne c498))
                    subst hAe
                    rw [hQ]
                    exact W.iret (v := (-8)) hx hb hr (fun t ht hW => ⟨⟨(-8), (f_0, f_1, f_2, f_3), rfl, (Or.inr (Or.inr (Or.inr (Or.inr (Or.inr (Or.inr (Or.inr (Or.inl ⟨rfl, (mm_wk mm_k3 (by decide)), (mm_wk mm_k1 (by decide)), w527, w528, w529⟩)))))))), by rw [ht]; exact hP, hK.warm hW, hD⟩, hS.F ht⟩) hS.2.2 dX11_paste_67
                · have q530 := mm_eqI (lo := 0) (hi := 0) c496 h3 mm_k0 (by decide)
                  refine lv_bipush (v := (-6)) hx hb dX11_paste_41 (by decide) ?_
                  have w531 : mm_y1 i_5 i_8 i_11 i_14 3 := (mm_y1_of (mm_4_3 _ _ _ _) q457 (by decide))
                  have w532 : mm_y0 i_5 i_8 i_11 i_14 1 := (mm_y0_of (mm_4_1 _ _ _ _) q530 (by decide))
                  subst hAe
                  rw [hQ]
                  exact W.iret (v := (-6)) hx hb hr (fun t ht hW => ⟨⟨(-6), (f_0, f_1, f_2, f_3), rfl, (Or.inr (Or.inr (Or.inr (Or.inr (Or.inr (Or.inr (Or.inr (Or.inr ⟨rfl, (mm_wk mm_k3 (by decide)), (mm_wk mm_k1 (by decide)), w531, w532⟩)))))))), by rw [ht]; exact hP, hK.warm hW, hD⟩, hS.F ht⟩) hS.2.2 dX11_paste_43
              · refine W.eq (g2 := F0 m 35 ls [.ref a_14]) rfl ?_
                refine va_get (D := G) (ci := 6) (v := .int i_11) (C := RX6) (T := TX6) (N := 4) hx hb hts (mm_i inlX6) hown hK.1 hP 6 rfl rfl 0 (by decide) (mm_h hts mm_w1239) (fun _ h9 => h9) rfl dX11_paste_35 ?_
                refine lv_if_ne (tgt := 44) hx hb dX11_paste_38 (by decide) (fun c533 => ?_) (fun c533 => ?_)
                · have q534 := mm_neL (lo := 1) (mm_ne c533) h6 mm_k0 (by decide) (by decide)
                  refine lv_aload_n hx hb dX11_paste_44 rfl (lv_at hl 0 rfl) ?_
                  refine va_get (D := G) (ci := 11) (v := .ref a_6) (C := RX11) (T := TX11) (N := 11) hx hb hts (mm_i inlX11) hown hK.1 hP 0 rfl rfl 5 (by decide) (mm_h hts mm_w32) (fun _ h9 => h9) rfl dX11_paste_45 ?_
                  refine lv_iload_n hx hb dX11_paste_48 rfl (lv_at hl 1 rfl) ?_
                  refine va_aldq hx hb hK.1 hP 1 6 rfl rfl (mm_in mm_k3 (by decide)) dX11_paste_49 ?_
                  refine W.eq (g2 := F0 m 50 ls [.ref a_15]) rfl ?_
                  refine va_get (D := G) (ci := 6) (v := .int i_15) (C := RX6) (T := TX6) (N := 4) hx hb hts (mm_i inlX6) hown hK.1 hP 8 rfl rfl 1 (by decide) (mm_h hts mm_w1710) (fun _ h9 => h9) rfl dX11_paste_50 ?_
                  refine lv_aload_n hx hb dX11_paste_53 rfl (lv_at hl 0 rfl) ?_
                  refine va_get (D := G) (ci := 11) (v := .ref a_6) (C := RX11) (T := TX11) (N := 11) hx hb hts (mm_i inlX11) hown hK.1 hP 0 rfl rfl 5 (by decide) (mm_h hts mm_w32) (fun _ h9 => h9) rfl dX11_paste_54 ?_
                  refine lv_iload_n hx hb dX11_paste_57 rfl (lv_at hl 3 rfl) ?_
                  refine va_aldq hx hb hK.1 hP 1 6 rfl rfl (mm_in mm_k2 (by decide)) dX11_paste_58 ?_
                  refine W.eq (g2 := F0 m 59 ls [.ref a_14, .int i_15]) rfl ?_
                  refine va_get (D := G) (ci := 6) (v := .int i_12) (C := RX6) (T := TX6) (N := 4) hx hb hts (mm_i inlX6) hown hK.1 hP 6 rfl rfl 1 (by decide) (mm_h hts mm_w1710) (fun _ h9 => h9) rfl dX11_paste_59 ?_
                  refine lv_icmp_eq (tgt := 68) hx hb dX11_paste_62 (by decide) (fun c535 => ?_) (fun c535 => ?_)
                  · refine lv_aload_n hx hb dX11_paste_68 rfl (lv_at hl 0 rfl) ?_
                    refine va_get (D := G) (ci := 11) (v := .ref a_6) (C := RX11) (T := TX11) (N := 11) hx hb hts (mm_i inlX11) hown hK.1 hP 0 rfl rfl 5 (by decide) (mm_h hts mm_w32) (fun _ h9 => h9) rfl dX11_paste_69 ?_
                    refine lv_iload_n hx hb dX11_paste_72 rfl (lv_at hl 1 rfl) ?_
                    refine va_aldq hx hb hK.1 hP 1 6 rfl rfl (mm_in mm_k3 (by decide)) dX11_paste_73 ?_
                    refine W.eq (g2 := F0 m 74 ls [.ref a_15]) rfl ?_
                    refine lv_iload_n hx hb dX11_paste_74 rfl (lv_at hl 2 rfl) ?_
                    refine lv_iload hx hb dX11_paste_75 (lv_at hl 5 rfl) ?_
                    refine mm_finir (va_runV (As := [.int i_1, .int i_4]) (rest := []) ⟨hx, hb, hml, hown, hts⟩ (C549_X6_reaches l G cy H.size a_15 i_1 i_4 i_14 i_15 i_16 a_19 h11) (cwV 2 hts (mm_gV mm_w1713 mm_w1714 mm_w1715 mm_w34 mm_w1716) rfl rfl rfl hd_X6_reaches ⟨by rw [hRf]; exact Nat.le_of_ble_eq_true rfl, by rw [hRl]; exact Nat.le_of_ble_eq_true rfl⟩) (mm_preV hK hZ hS hA hP hD [8] rfl rfl 8 rfl rfl rfl) rfl rfl hl.1 rfl (lv_room (Nat.le_of_ble_eq_true rfl)) dX11_paste_77 ⟨by rw [hRc]; exact Nat.le_of_ble_eq_true rfl, by rw [hRs]; exact Nat.le_of_ble_eq_true rfl⟩) hP hD hS hA [8] rfl (fun _ => rfl) ?_
                    clear hP hD hS
                    clear H locs
                    intro v536 _u H locs hw hP hD hS
                    rcases hw with ⟨rfl, w537, w538⟩ | ⟨rfl, w539, w540, w541⟩
                    · refine lv_if_eq (tgt := 99) hx hb dX11_paste_80 (by decide) (fun c542 => ?_) (fun c542 => ?_)
                      · refine lv_bipush (v := (-7)) hx hb dX11_paste_99 (by decide) ?_
                        have w543 : mm_y1 i_5 i_8 i_11 i_14 3 := (mm_y1_of (mm_4_3 _ _ _ _) q457 (by decide))
                        have w544 : mm_y1 i_5 i_8 i_11 i_14 2 := (mm_y1_of (mm_4_2 _ _ _ _) q534 (by decide))
                        have w545 : mm_ye i_6 i_9 i_12 i_15 3 2 := (mm_ye_of (mm_4_3 _ _ _ _) (mm_4_2 _ _ _ _) c535)
                        have w546 : mm_yb i_7 i_10 i_13 i_16 3 2 i_1 i_3 i_4 := (mm_yb_of (mm_4_3 _ _ _ _) (mm_4_2 _ _ _ _) (mm_xb_1 w538))
                        subst hAe
                        rw [hQ]
                        exact W.iret (v := (-7)) hx hb hr (fun t ht hW => ⟨⟨(-7), (f_0, f_1, f_2, f_3), rfl, (Or.inr (Or.inr (Or.inr (Or.inr (Or.inr (Or.inl ⟨rfl, (mm_wk mm_k3 (by decide)), (mm_wk mm_k2 (by decide)), w543, w544, w545, w546⟩)))))), by rw [ht]; exact hP, hK.warm hW, hD⟩, hS.F ht⟩) hS.2.2 dX11_paste_101
                      · exact absurd rfl (mm_ne c542)
                    · refine lv_if_eq (tgt := 99) hx hb dX11_paste_80 (by decide) (fun c547 => ?_) (fun c547 => ?_)
                      · exact mm_eqN c547.symm mm_k0 mm_k1 (by decide)
                      · refine lv_aload_n hx hb dX11_paste_83 rfl (lv_at hl 0 rfl) ?_
                        refine va_get (D := G) (ci := 11) (v := .ref a_6) (C := RX11) (T := TX11) (N := 11) hx hb hts (mm_i inlX11) hown hK.1 hP 0 rfl rfl 5 (by decide) (mm_h hts mm_w32) (fun _ h9 => h9) rfl dX11_paste_84 ?_
                        refine lv_iload_n hx hb dX11_paste_87 rfl (lv_at hl 3 rfl) ?_
                        refine va_aldq hx hb hK.1 hP 1 6 rfl rfl (mm_in mm_k2 (by decide)) dX11_paste_88 ?_
                        refine W.eq (g2 := F0 m 89 ls [.ref a_14]) rfl ?_
                        refine lv_iload hx hb dX11_paste_89 (lv_at hl 4 rfl) ?_
                        refine lv_iload hx hb dX11_paste_91 (lv_at hl 5 rfl) ?_
                        refine mm_finir (va_runV (As := [.int i_3, .int i_4]) (rest := []) ⟨hx, hb, hml, hown, hts⟩ (C550_X6_reaches l G cy H.size a_14 i_3 i_4 i_11 i_12 i_13 a_18 w540 h8) (cwV 2 hts (mm_gV mm_w1713 mm_w1714 mm_w1715 mm_w34 mm_w1716) rfl rfl rfl hd_X6_reaches ⟨by rw [hRf]; exact Nat.le_of_ble_eq_true rfl, by rw [hRl]; exact Nat.le_of_ble_eq_true rfl⟩) (mm_preV hK hZ hS hA hP hD [6] rfl rfl 6 rfl rfl rfl) rfl rfl hl.1 rfl (lv_room (Nat.le_of_ble_eq_true rfl)) dX11_paste_93 ⟨by rw [hRc]; exact Nat.le_of_ble_eq_true rfl, by rw [hRs]; exact Nat.le_of_ble_eq_true rfl⟩) hP hD hS hA [6] rfl (fun _ => rfl) ?_
                        clear hP hD hS
                        clear H locs
                        intro v548 _u H locs hw hP hD hS
                        rcases hw with ⟨rfl, w549, w550⟩ | ⟨rfl, w551, w552⟩
                        · refine lv_if_ne (tgt := 102) hx hb dX11_paste_96 (by decide) (fun c553 => ?_) (fun c553 => ?_)
                          · exact absurd rfl (mm_ne c553)
                          · refine lv_bipush (v := (-7)) hx hb dX11_paste_99 (by decide) ?_
                            have w554 : mm_y1 i_5 i_8 i_11 i_14 3 := (mm_y1_of (mm_4_3 _ _ _ _) q457 (by decide))
                            have w555 : mm_y1 i_5 i_8 i_11 i_14 2 := (mm_y1_of (mm_4_2 _ _ _ _) q534 (by decide))
                            have w556 : mm_ye i_6 i_9 i_12 i_15 3 2 := (mm_ye_of (mm_4_3 _ _ _ _) (mm_4_2 _ _ _ _) c535)
                            have w557 : mm_yb i_7 i_10 i_13 i_16 3 2 i_1 i_3 i_4 := (mm_yb_of (mm_4_3 _ _ _ _) (mm_4_2 _ _ _ _) (mm_xb_2 w550))
                            subst hAe
                            rw [hQ]
                            exact W.iret (v := (-7)) hx hb hr (fun t ht hW => ⟨⟨(-7), (f_0, f_1, f_2, f_3), rfl, (Or.inr (Or.inr (Or.inr (Or.inr (Or.inr (Or.inl ⟨rfl, (mm_wk mm_k3 (by decide)), (mm_wk mm_k2 (by decide)), w554, w555, w556, w557⟩)))))), by rw [ht]; exact hP, hK.warm hW, hD⟩, hS.F ht⟩) hS.2.2 dX11_paste_101
                        · refine lv_if_ne (tgt := 102) hx hb dX11_paste_96 (by decide) (fun c558 => ?_) (fun c558 => ?_)
                          · refine lv_aload_n hx hb dX11_paste_102 rfl (lv_at hl 0 rfl) ?_
                            refine va_get (D := G) (ci := 11) (v := .ref a_6) (C := RX11) (T := TX11) (N := 11) hx hb hts (mm_i inlX11) hown hK.1 hP 0 rfl rfl 5 (by decide) (mm_h hts mm_w32) (fun _ h9 => h9) rfl dX11_paste_103 ?_
                            refine lv_iload_n hx hb dX11_paste_106 rfl (lv_at hl 1 rfl) ?_
                            refine va_aldq hx hb hK.1 hP 1 6 rfl rfl (mm_in mm_k3 (by decide)) dX11_paste_107 ?_
                            refine W.eq (g2 := F0 m 108 ls [.ref a_15]) rfl ?_
                            refine va_get (D := G) (ci := 6) (v := .ref a_19) (C := RX6) (T := TX6) (N := 4) hx hb hts (mm_i inlX6) hown hK.1 hP 8 rfl rfl 3 (by decide) (mm_h hts mm_w1711) (fun _ h9 => h9) rfl dX11_paste_108 ?_
                            refine lv_iload_n hx hb dX11_paste_111 rfl (lv_at hl 2 rfl) ?_
                            refine lv_aload_n hx hb dX11_paste_112 rfl (lv_at hl 0 rfl) ?_
                            refine va_get (D := G) (ci := 11) (v := .ref a_6) (C := RX11) (T := TX11) (N := 11) hx hb hts (mm_i inlX11) hown hK.1 hP 0 rfl rfl 5 (by decide) (mm_h hts mm_w32) (fun _ h9 => h9) rfl dX11_paste_113 ?_
                            refine lv_iload_n hx hb dX11_paste_116 rfl (lv_at hl 3 rfl) ?_
                            refine va_aldq hx hb hK.1 hP 1 6 rfl rfl (mm_in mm_k2 (by decide)) dX11_paste_117 ?_
                            refine W.eq (g2 := F0 m 118 ls [.ref a_14, .int i_1, .ref a_19]) rfl ?_
                            refine va_get (D := G) (ci := 6) (v := .ref a_18) (C := RX6) (T := TX6) (N := 4) hx hb hts (mm_i inlX6) hown hK.1 hP 6 rfl rfl 3 (by decide) (mm_h hts mm_w1711) (fun _ h9 => h9) rfl dX11_paste_118 ?_
                            refine lv_iload hx hb dX11_paste_121 (lv_at hl 4 rfl) ?_
                            refine lv_iload hx hb dX11_paste_123 (lv_at hl 5 rfl) ?_
                            refine va_copyl hx hb (by rw [hml]; exact hl.1.symm) hown (mm_h hts mm_w1712) (mm_h hts mm_w388) (mm_h hts mm_w389) (mm_h hts mm_w390) hK.1 hP hD hS 9 7 2 2 rfl rfl rfl rfl rfl (mm_nn w539 (by decide)) (mm_nn w551 (by decide)) (mm_nn w540 (by decide)) (mm_cpR w541 w539 w540 h11 (by decide)) (mm_cpR w552 w551 w540 h8 (by decide)) (fun _ _ => rfl) (by rw [hRf]; exact Nat.le_of_ble_eq_true rfl) (by rw [hRl]; exact Nat.le_of_ble_eq_true rfl) dX11_paste_125 ?_
                            clear hP hD hS
                            clear H locs
                            obtain ⟨g559, eg559⟩ : ∃ z : Nat → Int64, z = va_cpy f_3 f_2 i_1.toNatClampNeg i_3.toNatClampNeg i_4.toNatClampNeg := ⟨_, rfl⟩
                            rw [← eg559]
                            intro H locs (hP : va_P G vwCl [(a_0, .inr (11, [.ref a_1, .ref a_2, .ref a_3, .ref a_4, .ref a_5, .ref a_6, .ref a_7, .ref a_8, .ref a_9, .ref a_10, .ref a_11])), (a_6, .inl (cy 6, 4, .inr (.inr (.inr (.inr (va_up (va_up (va_up (va_up (fun _ => none) 0 (some a_12)) 1 (some a_13)) 2 (some a_14)) 3 (some a_15))))))), (a_12, .inr (6, [.int i_5, .int i_6, .int i_7, .ref a_16])), (a_16, .inl (cy 2, 60, .inr (.inl f_0))), (a_13, .inr (6, [.int i_8, .int i_9, .int i_10, .ref a_17])), (a_17, .inl (cy 2, 60, .inr (.inl f_1))), (a_14, .inr (6, [.int i_11, .int i_12, .int i_13, .ref a_18])), (a_18, .inl (cy 2, 60, .inr (.inl g559))), (a_15, .inr (6, [.int i_14, .int i_15, .int i_16, .ref a_19])), (a_19, .inl (cy 2, 60, .inr (.inl f_3)))] H) (hD : va_D A [(a_0, .inr (11, [.ref a_1, .ref a_2, .ref a_3, .ref a_4, .ref a_5, .ref a_6, .ref a_7, .ref a_8, .ref a_9, .ref a_10, .ref a_11])), (a_6, .inl (cy 6, 4, .inr (.inr (.inr (.inr (va_up (va_up (va_up (va_up (fun _ => none) 0 (some a_12)) 1 (some a_13)) 2 (some a_14)) 3 (some a_15))))))), (a_12, .inr (6, [.int i_5, .int i_6, .int i_7, .ref a_16])), (a_16, .inl (cy 2, 60, .inr (.inl f_0))), (a_13, .inr (6, [.int i_8, .int i_9, .int i_10, .ref a_17])), (a_17, .inl (cy 2, 60, .inr (.inl f_1))), (a_14, .inr (6, [.int i_11, .int i_12, .int i_13, .ref a_18])), (a_18, .inl (cy 2, 60, .inr (.inl g559))), (a_15, .inr (6, [.int i_14, .int i_15, .int i_16, .ref a_19])), (a_19, .inl (cy 2, 60, .inr (.inl f_3)))]) hS
                            refine lv_iconst (v := 0) hx hb dX11_paste_128 (by decide) ?_
                            have w560 : mm_y1 i_5 i_8 i_11 i_14 3 := (mm_y1_of (mm_4_3 _ _ _ _) q457 (by decide))
                            have w561 : mm_y1 i_5 i_8 i_11 i_14 2 := (mm_y1_of (mm_4_2 _ _ _ _) q534 (by decide))
                            have w562 : mm_ye i_6 i_9 i_12 i_15 3 2 := (mm_ye_of (mm_4_3 _ _ _ _) (mm_4_2 _ _ _ _) c535)
                            have w563 : mm_yg i_7 i_10 i_13 i_16 3 2 i_1 i_3 i_4 := (mm_yg_of (mm_4_3 _ _ _ _) (mm_4_2 _ _ _ _) (mm_xg_of w541 w552 w539 w551 w540 (by decide)))
                            subst hAe
                            rw [hQ]
                            exact W.iret (v := 0) hx hb hr (fun t ht hW => ⟨⟨0, (f_0, f_1, g559, f_3), rfl, (Or.inr (Or.inr (Or.inr (Or.inr (Or.inr (Or.inr (Or.inl ⟨rfl, (mm_wk mm_k3 (by decide)), (mm_wk mm_k2 (by decide)), w560, w561, w562, w563⟩))))))), by rw [ht]; exact hP, hK.warm hW, hD⟩, hS.F ht⟩) hS.2.2 dX11_paste_129
                          · exact mm_eqN c558.symm mm_k0 mm_k1 (by decide)
                  · refine lv_bipush (v := (-8)) hx hb dX11_paste_65 (by decide) ?_
                    have w564 : mm_y1 i_5 i_8 i_11 i_14 3 := (mm_y1_of (mm_4_3 _ _ _ _) q457 (by decide))
                    have w565 : mm_y1 i_5 i_8 i_11 i_14 2 := (mm_y1_of (mm_4_2 _ _ _ _) q534 (by decide))
                    have w566 : mm_yn i_6 i_9 i_12 i_15 3 2 := (mm_yn_of (mm_4_3 _ _ _ _) (mm_4_2 _ _ _ _) (mm_ne c535))
                    subst hAe
                    rw [hQ]
                    exact W.iret (v := (-8)) hx hb hr (fun t ht hW => ⟨⟨(-8), (f_0, f_1, f_2, f_3), rfl, (Or.inr (Or.inr (Or.inr (Or.inr (Or.inr (Or.inr (Or.inr (Or.inl ⟨rfl, (mm_wk mm_k3 (by decide)), (mm_wk mm_k2 (by decide)), w564, w565, w566⟩)))))))), by rw [ht]; exact hP, hK.warm hW, hD⟩, hS.F ht⟩) hS.2.2 dX11_paste_67
                · have q567 := mm_eqI (lo := 0) (hi := 0) c533 h6 mm_k0 (by decide)
                  refine lv_bipush (v := (-6)) hx hb dX11_paste_41 (by decide) ?_
                  have w568 : mm_y1 i_5 i_8 i_11 i_14 3 := (mm_y1_of (mm_4_3 _ _ _ _) q457 (by decide))
                  have w569 : mm_y0 i_5 i_8 i_11 i_14 2 := (mm_y0_of (mm_4_2 _ _ _ _) q567 (by decide))
                  subst hAe
                  rw [hQ]
                  exact W.iret (v := (-6)) hx hb hr (fun t ht hW => ⟨⟨(-6), (f_0, f_1, f_2, f_3), rfl, (Or.inr (Or.inr (Or.inr (Or.inr (Or.inr (Or.inr (Or.inr (Or.inr ⟨rfl, (mm_wk mm_k3 (by decide)), (mm_wk mm_k2 (by decide)), w568, w569⟩)))))))), by rw [ht]; exact hP, hK.warm hW, hD⟩, hS.F ht⟩) hS.2.2 dX11_paste_43
              · refine W.eq (g2 := F0 m 35 ls [.ref a_15]) rfl ?_
                refine va_get (D := G) (ci := 6) (v := .int i_14) (C := RX6) (T := TX6) (N := 4) hx hb hts (mm_i inlX6) hown hK.1 hP 8 rfl rfl 0 (by decide) (mm_h hts mm_w1239) (fun _ h9 => h9) rfl dX11_paste_35 ?_
                refine lv_if_ne (tgt := 44) hx hb dX11_paste_38 (by decide) (fun c570 => ?_) (fun c570 => ?_)
                · refine lv_aload_n hx hb dX11_paste_44 rfl (lv_at hl 0 rfl) ?_
                  refine va_get (D := G) (ci := 11) (v := .ref a_6) (C := RX11) (T := TX11) (N := 11) hx hb hts (mm_i inlX11) hown hK.1 hP 0 rfl rfl 5 (by decide) (mm_h hts mm_w32) (fun _ h9 => h9) rfl dX11_paste_45 ?_
                  refine lv_iload_n hx hb dX11_paste_48 rfl (lv_at hl 1 rfl) ?_
                  refine va_aldq hx hb hK.1 hP 1 6 rfl rfl (mm_in mm_k3 (by decide)) dX11_paste_49 ?_
                  refine W.eq (g2 := F0 m 50 ls [.ref a_15]) rfl ?_
                  refine va_get (D := G) (ci := 6) (v := .int i_15) (C := RX6) (T := TX6) (N := 4) hx hb hts (mm_i inlX6) hown hK.1 hP 8 rfl rfl 1 (by decide) (mm_h hts mm_w1710) (fun _ h9 => h9) rfl dX11_paste_50 ?_
                  refine lv_aload_n hx hb dX11_paste_53 rfl (lv_at hl 0 rfl) ?_
                  refine va_get (D := G) (ci := 11) (v := .ref a_6) (C := RX11) (T := TX11) (N := 11) hx hb hts (mm_i inlX11) hown hK.1 hP 0 rfl rfl 5 (by decide) (mm_h hts mm_w32) (fun _ h9 => h9) rfl dX11_paste_54 ?_
                  refine lv_iload_n hx hb dX11_paste_57 rfl (lv_at hl 3 rfl) ?_
                  refine va_aldq hx hb hK.1 hP 1 6 rfl rfl (mm_in mm_k3 (by decide)) dX11_paste_58 ?_
                  refine W.eq (g2 := F0 m 59 ls [.ref a_15, .int i_15]) rfl ?_
                  refine va_get (D := G) (ci := 6) (v := .int i_15) (C := RX6) (T := TX6) (N := 4) hx hb hts (mm_i inlX6) hown hK.1 hP 8 rfl rfl 1 (by decide) (mm_h hts mm_w1710) (fun _ h9 => h9) rfl dX11_paste_59 ?_
                  refine lv_icmp_eq (tgt := 68) hx hb dX11_paste_62 (by decide) (fun c571 => ?_) (fun c571 => ?_)
                  · refine lv_aload_n hx hb dX11_paste_68 rfl (lv_at hl 0 rfl) ?_
                    refine va_get (D := G) (ci := 11) (v := .ref a_6) (C := RX11) (T := TX11) (N := 11) hx hb hts (mm_i inlX11) hown hK.1 hP 0 rfl rfl 5 (by decide) (mm_h hts mm_w32) (fun _ h9 => h9) rfl dX11_paste_69 ?_
                    refine lv_iload_n hx hb dX11_paste_72 rfl (lv_at hl 1 rfl) ?_
                    refine va_aldq hx hb hK.1 hP 1 6 rfl rfl (mm_in mm_k3 (by decide)) dX11_paste_73 ?_
                    refine W.eq (g2 := F0 m 74 ls [.ref a_15]) rfl ?_
                    refine lv_iload_n hx hb dX11_paste_74 rfl (lv_at hl 2 rfl) ?_
                    refine lv_iload hx hb dX11_paste_75 (lv_at hl 5 rfl) ?_
                    refine mm_finir (va_runV (As := [.int i_1, .int i_4]) (rest := []) ⟨hx, hb, hml, hown, hts⟩ (C549_X6_reaches l G cy H.size a_15 i_1 i_4 i_14 i_15 i_16 a_19 h11) (cwV 2 hts (mm_gV mm_w1713 mm_w1714 mm_w1715 mm_w34 mm_w1716) rfl rfl rfl hd_X6_reaches ⟨by rw [hRf]; exact Nat.le_of_ble_eq_true rfl, by rw [hRl]; exact Nat.le_of_ble_eq_true rfl⟩) (mm_preV hK hZ hS hA hP hD [8] rfl rfl 8 rfl rfl rfl) rfl rfl hl.1 rfl (lv_room (Nat.le_of_ble_eq_true rfl)) dX11_paste_77 ⟨by rw [hRc]; exact Nat.le_of_ble_eq_true rfl, by rw [hRs]; exact Nat.le_of_ble_eq_true rfl⟩) hP hD hS hA [8] rfl (fun _ => rfl) ?_
                    clear hP hD hS
                    clear H locs
                    intro v572 _u H locs hw hP hD hS
                    rcases hw with ⟨rfl, w573, w574⟩ | ⟨rfl, w575, w576, w577⟩
                    · refine lv_if_eq (tgt := 99) hx hb dX11_paste_80 (by decide) (fun c578 => ?_) (fun c578 => ?_)
                      · refine lv_bipush (v := (-7)) hx hb dX11_paste_99 (by decide) ?_
                        have w579 : mm_y1 i_5 i_8 i_11 i_14 3 := (mm_y1_of (mm_4_3 _ _ _ _) q457 (by decide))
                        have w580 : mm_y1 i_5 i_8 i_11 i_14 3 := (mm_y1_of (mm_4_3 _ _ _ _) q457 (by decide))
                        have w581 : mm_ye i_6 i_9 i_12 i_15 3 3 := (mm_ye_of (mm_4_3 _ _ _ _) (mm_4_3 _ _ _ _) rfl)
                        have w582 : mm_yb i_7 i_10 i_13 i_16 3 3 i_1 i_3 i_4 := (mm_yb_of (mm_4_3 _ _ _ _) (mm_4_3 _ _ _ _) (mm_xb_1 w574))
                        subst hAe
                        rw [hQ]
                        exact W.iret (v := (-7)) hx hb hr (fun t ht hW => ⟨⟨(-7), (f_0, f_1, f_2, f_3), rfl, (Or.inr (Or.inr (Or.inr (Or.inr (Or.inr (Or.inl ⟨rfl, (mm_wk mm_k3 (by decide)), (mm_wk mm_k3 (by decide)), w579, w580, w581, w582⟩)))))), by rw [ht]; exact hP, hK.warm hW, hD⟩, hS.F ht⟩) hS.2.2 dX11_paste_101
                      · exact absurd rfl (mm_ne c578)
                    · refine lv_if_eq (tgt := 99) hx hb dX11_paste_80 (by decide) (fun c583 => ?_) (fun c583 => ?_)
                      · exact mm_eqN c583.symm mm_k0 mm_k1 (by decide)
                      · refine lv_aload_n hx hb dX11_paste_83 rfl (lv_at hl 0 rfl) ?_
                        refine va_get (D := G) (ci := 11) (v := .ref a_6) (C := RX11) (T := TX11) (N := 11) hx hb hts (mm_i inlX11) hown hK.1 hP 0 rfl rfl 5 (by decide) (mm_h hts mm_w32) (fun _ h9 => h9) rfl dX11_paste_84 ?_
                        refine lv_iload_n hx hb dX11_paste_87 rfl (lv_at hl 3 rfl) ?_
                        refine va_aldq hx hb hK.1 hP 1 6 rfl rfl (mm_in mm_k3 (by decide)) dX11_paste_88 ?_
                        refine W.eq (g2 := F0 m 89 ls [.ref a_15]) rfl ?_
                        refine lv_iload hx hb dX11_paste_89 (lv_at hl 4 rfl) ?_
                        refine lv_iload hx hb dX11_paste_91 (lv_at hl 5 rfl) ?_
                        refine mm_finir (va_runV (As := [.int i_3, .int i_4]) (rest := []) ⟨hx, hb, hml, hown, hts⟩ (C550_X6_reaches l G cy H.size a_15 i_3 i_4 i_14 i_15 i_16 a_19 w576 h11) (cwV 2 hts (mm_gV mm_w1713 mm_w1714 mm_w1715 mm_w34 mm_w1716) rfl rfl rfl hd_X6_reaches ⟨by rw [hRf]; exact Nat.le_of_ble_eq_true rfl, by rw [hRl]; exact Nat.le_of_ble_eq_true rfl⟩) (mm_preV hK hZ hS hA hP hD [8] rfl rfl 8 rfl rfl rfl) rfl rfl hl.1 rfl (lv_room (Nat.le_of_ble_eq_true rfl)) dX11_paste_93 ⟨by rw [hRc]; exact Nat.le_of_ble_eq_true rfl, by rw [hRs]; exact Nat.le_of_ble_eq_true rfl⟩) hP hD hS hA [8] rfl (fun _ => rfl) ?_
                        clear hP hD hS
                        clear H locs
                        intro v584 _u H locs hw hP hD hS
                        rcases hw with ⟨rfl, w585, w586⟩ | ⟨rfl, w587, w588⟩
                        · refine lv_if_ne (tgt := 102) hx hb dX11_paste_96 (by decide) (fun c589 => ?_) (fun c589 => ?_)
                          · exact absurd rfl (mm_ne c589)
                          · refine lv_bipush (v := (-7)) hx hb dX11_paste_99 (by decide) ?_
                            have w590 : mm_y1 i_5 i_8 i_11 i_14 3 := (mm_y1_of (mm_4_3 _ _ _ _) q457 (by decide))
                            have w591 : mm_y1 i_5 i_8 i_11 i_14 3 := (mm_y1_of (mm_4_3 _ _ _ _) q457 (by decide))
                            have w592 : mm_ye i_6 i_9 i_12 i_15 3 3 := (mm_ye_of (mm_4_3 _ _ _ _) (mm_4_3 _ _ _ _) rfl)
                            have w593 : mm_yb i_7 i_10 i_13 i_16 3 3 i_1 i_3 i_4 := (mm_yb_of (mm_4_3 _ _ _ _) (mm_4_3 _ _ _ _) (mm_xb_2 w586))
                            subst hAe
                            rw [hQ]
                            exact W.iret (v := (-7)) hx hb hr (fun t ht hW => ⟨⟨(-7), (f_0, f_1, f_2, f_3), rfl, (Or.inr (Or.inr (Or.inr (Or.inr (Or.inr (Or.inl ⟨rfl, (mm_wk mm_k3 (by decide)), (mm_wk mm_k3 (by decide)), w590, w591, w592, w593⟩)))))), by rw [ht]; exact hP, hK.warm hW, hD⟩, hS.F ht⟩) hS.2.2 dX11_paste_101
                        · refine lv_if_ne (tgt := 102) hx hb dX11_paste_96 (by decide) (fun c594 => ?_) (fun c594 => ?_)
                          · refine lv_aload_n hx hb dX11_paste_102 rfl (lv_at hl 0 rfl) ?_
                            refine va_get (D := G) (ci := 11) (v := .ref a_6) (C := RX11) (T := TX11) (N := 11) hx hb hts (mm_i inlX11) hown hK.1 hP 0 rfl rfl 5 (by decide) (mm_h hts mm_w32) (fun _ h9 => h9) rfl dX11_paste_103 ?_
                            refine lv_iload_n hx hb dX11_paste_106 rfl (lv_at hl 1 rfl) ?_
                            refine va_aldq hx hb hK.1 hP 1 6 rfl rfl (mm_in mm_k3 (by decide)) dX11_paste_107 ?_
                            refine W.eq (g2 := F0 m 108 ls [.ref a_15]) rfl ?_
                            refine va_get (D := G) (ci := 6) (v := .ref a_19) (C := RX6) (T := TX6) (N := 4) hx hb hts (mm_i inlX6) hown hK.1 hP 8 rfl rfl 3 (by decide) (mm_h hts mm_w1711) (fun _ h9 => h9) rfl dX11_paste_108 ?_
                            refine lv_iload_n hx hb dX11_paste_111 rfl (lv_at hl 2 rfl) ?_
                            refine lv_aload_n hx hb dX11_paste_112 rfl (lv_at hl 0 rfl) ?_
                            refine va_get (D := G) (ci := 11) (v := .ref a_6) (C := RX11) (T := TX11) (N := 11) hx hb hts (mm_i inlX11) hown hK.1 hP 0 rfl rfl 5 (by decide) (mm_h hts mm_w32) (fun _ h9 => h9) rfl dX11_paste_113 ?_
                            refine lv_iload_n hx hb dX11_paste_116 rfl (lv_at hl 3 rfl) ?_
                            refine va_aldq hx hb hK.1 hP 1 6 rfl rfl (mm_in mm_k3 (by decide)) dX11_paste_117 ?_
                            refine W.eq (g2 := F0 m 118 ls [.ref a_15, .int i_1, .ref a_19]) rfl ?_
                            refine va_get (D := G) (ci := 6) (v := .ref a_19) (C := RX6) (T := TX6) (N := 4) hx hb hts (mm_i inlX6) hown hK.1 hP 8 rfl rfl 3 (by decide) (mm_h hts mm_w1711) (fun _ h9 => h9) rfl dX11_paste_118 ?_
                            refine lv_iload hx hb dX11_paste_121 (lv_at hl 4 rfl) ?_
                            refine lv_iload hx hb dX11_paste_123 (lv_at hl 5 rfl) ?_
                            refine va_copyl hx hb (by rw [hml]; exact hl.1.symm) hown (mm_h hts mm_w1712) (mm_h hts mm_w388) (mm_h hts mm_w389) (mm_h hts mm_w390) hK.1 hP hD hS 9 9 2 2 rfl rfl rfl rfl rfl (mm_nn w575 (by decide)) (mm_nn w587 (by decide)) (mm_nn w576 (by decide)) (mm_cpR w577 w575 w576 h11 (by decide)) (mm_cpR w588 w587 w576 h11 (by decide)) (fun _ _ => rfl) (by rw [hRf]; exact Nat.le_of_ble_eq_true rfl) (by rw [hRl]; exact Nat.le_of_ble_eq_true rfl) dX11_paste_125 ?_
                            clear hP hD hS
                            clear H locs
                            obtain ⟨g595, eg595⟩ : ∃ z : Nat → Int64, z = va_cpy f_3 f_3 i_1.toNatClampNeg i_3.toNatClampNeg i_4.toNatClampNeg := ⟨_, rfl⟩
                            rw [← eg595]
                            intro H locs (hP : va_P G vwCl [(a_0, .inr (11, [.ref a_1, .ref a_2, .ref a_3, .ref a_4, .ref a_5, .ref a_6, .ref a_7, .ref a_8, .ref a_9, .ref a_10, .ref a_11])), (a_6, .inl (cy 6, 4, .inr (.inr (.inr (.inr (va_up (va_up (va_up (va_up (fun _ => none) 0 (some a_12)) 1 (some a_13)) 2 (some a_14)) 3 (some a_15))))))), (a_12, .inr (6, [.int i_5, .int i_6, .int i_7, .ref a_16])), (a_16, .inl (cy 2, 60, .inr (.inl f_0))), (a_13, .inr (6, [.int i_8, .int i_9, .int i_10, .ref a_17])), (a_17, .inl (cy 2, 60, .inr (.inl f_1))), (a_14, .inr (6, [.int i_11, .int i_12, .int i_13, .ref a_18])), (a_18, .inl (cy 2, 60, .inr (.inl f_2))), (a_15, .inr (6, [.int i_14, .int i_15, .int i_16, .ref a_19])), (a_19, .inl (cy 2, 60, .inr (.inl g595)))] H) (hD : va_D A [(a_0, .inr (11, [.ref a_1, .ref a_2, .ref a_3, .ref a_4, .ref a_5, .ref a_6, .ref a_7, .ref a_8, .ref a_9, .ref a_10, .ref a_11])), (a_6, .inl (cy 6, 4, .inr (.inr (.inr (.inr (va_up (va_up (va_up (va_up (fun _ => none) 0 (some a_12)) 1 (some a_13)) 2 (some a_14)) 3 (some a_15))))))), (a_12, .inr (6, [.int i_5, .int i_6, .int i_7, .ref a_16])), (a_16, .inl (cy 2, 60, .inr (.inl f_0))), (a_13, .inr (6, [.int i_8, .int i_9, .int i_10, .ref a_17])), (a_17, .inl (cy 2, 60, .inr (.inl f_1))), (a_14, .inr (6, [.int i_11, .int i_12, .int i_13, .ref a_18])), (a_18, .inl (cy 2, 60, .inr (.inl f_2))), (a_15, .inr (6, [.int i_14, .int i_15, .int i_16, .ref a_19])), (a_19, .inl (cy 2, 60, .inr (.inl g595)))]) hS
                            refine lv_iconst (v := 0) hx hb dX11_paste_128 (by decide) ?_
                            have w596 : mm_y1 i_5 i_8 i_11 i_14 3 := (mm_y1_of (mm_4_3 _ _ _ _) q457 (by decide))
                            have w597 : mm_y1 i_5 i_8 i_11 i_14 3 := (mm_y1_of (mm_4_3 _ _ _ _) q457 (by decide))
                            have w598 : mm_ye i_6 i_9 i_12 i_15 3 3 := (mm_ye_of (mm_4_3 _ _ _ _) (mm_4_3 _ _ _ _) rfl)
                            have w599 : mm_yg i_7 i_10 i_13 i_16 3 3 i_1 i_3 i_4 := (mm_yg_of (mm_4_3 _ _ _ _) (mm_4_3 _ _ _ _) (mm_xg_of w577 w588 w575 w587 w576 (by decide)))
                            subst hAe
                            rw [hQ]
                            exact W.iret (v := 0) hx hb hr (fun t ht hW => ⟨⟨0, (f_0, f_1, f_2, g595), rfl, (Or.inr (Or.inr (Or.inr (Or.inr (Or.inr (Or.inr (Or.inl ⟨rfl, (mm_wk mm_k3 (by decide)), (mm_wk mm_k3 (by decide)), w596, w597, w598, w599⟩))))))), by rw [ht]; exact hP, hK.warm hW, hD⟩, hS.F ht⟩) hS.2.2 dX11_paste_129
                          · exact mm_eqN c594.symm mm_k0 mm_k1 (by decide)
                  · exact absurd rfl (mm_ne c571)
                · exact mm_eqN c570.symm mm_k0 q457 (by decide)
        · exact mm_eqN c14.symm mm_k0 mm_k1 (by decide)

set_option maxHeartbeats 4000000 in
set_option maxRecDepth 100000 in
theorem C383_X12_in (l : Launch) (G : va_G) (cy : Nat → ClassId) (sz : Nat) (j_0 : Int64)   : mm_CI l yX12_in (mm_ws yX12_in cX12_in 6 (some .boolean)) ({ frames := 0, cells := 0, slots := 0, locals := 0 } : Room) G cy sz [] [.long j_0, .long 0, .long 3] (fun u : Unit => []) (fun (r : Int32) (u : Unit) => ((0 = r ∧ mm_rl j_0 (-9223372036854775808) (-1)) ∨ (0 = r ∧ mm_rl j_0 4 9223372036854775807 ∧ (3 : Int64).toInt < (j_0 : Int64).toInt) ∨ (1 = r ∧ mm_rl j_0 0 3 ∧ (j_0 : Int64).toInt ≤ (3 : Int64).toInt ∧ (0 : Int64).toInt ≤ (j_0 : Int64).toInt))) 0 0 := by
  refine mm_begin (lv := [(0, .long j_0), (2, .long 0), (4, .long 3)]) (by decide) (Nat.le_of_ble_eq_true rfl) rfl ?_
  intro p e s m below meth c A ls R args Q H locs hRe hQ hAe hx hb hr hlocks hml hown hnm hts hsz hA hS hP hK hD hZ hl
  have hRf : R.frames = 0 := by rw [hRe]
  have hRl : R.locals = 0 := by rw [hRe]
  have hRc : R.cells = 0 := by rw [hRe]
  have hRs : R.slots = 0 := by rw [hRe]
  refine lv_lload_n hx hb dX12_in_0 rfl (lv_at hl 0 rfl) ?_
  refine lv_lload_n hx hb dX12_in_1 rfl (lv_at hl 1 rfl) ?_
  refine W.lcmp hx hb dX12_in_2 ?_
  refine lv_topi (fun v1 ev1 => ?_)
  refine lv_if_lt (tgt := 17) hx hb dX12_in_3 (by decide) (fun c2 => ?_) (fun c2 => ?_)
  · have q3 := mm_ltLl (h := (-1)) (mm_cmp_lt ev1 c2) (mm_topl j_0) mm_kl0 (by decide)
    refine lv_iconst (v := 0) hx hb dX12_in_17 (by decide) ?_
    subst hAe
    rw [hQ]
    exact W.zret (v := 0) hx hb hr rfl (fun t ht hW => ⟨⟨0, (), rfl, (Or.inl ⟨rfl, q3⟩), by rw [ht]; exact hP, hK.warm hW, hD⟩, hS.F ht⟩) hS.2.2 dX12_in_18
  · have q4 := mm_leRl (mm_cmp_ge ev1 (mm_n_lt c2)) mm_kl0 (mm_topl j_0)
    refine lv_lload_n hx hb dX12_in_6 rfl (lv_at hl 0 rfl) ?_
    refine lv_lload hx hb dX12_in_7 (lv_at hl 2 rfl) ?_
    refine W.lcmp hx hb dX12_in_9 ?_
    refine lv_topi (fun v5 ev5 => ?_)
    refine lv_if_gt (tgt := 17) hx hb dX12_in_10 (by decide) (fun c6 => ?_) (fun c6 => ?_)
    · have q7 := mm_ltRl (lo := 4) (mm_cmp_gt ev5 c6) mm_kl3 q4 (by decide)
      refine lv_iconst (v := 0) hx hb dX12_in_17 (by decide) ?_
      have w8 : (3 : Int64).toInt < (j_0 : Int64).toInt := (mm_cmp_gt ev5 c6)
      subst hAe
      rw [hQ]
      exact W.zret (v := 0) hx hb hr rfl (fun t ht hW => ⟨⟨0, (), rfl, (Or.inr (Or.inl ⟨rfl, q7, w8⟩)), by rw [ht]; exact hP, hK.warm hW, hD⟩, hS.F ht⟩) hS.2.2 dX12_in_18
    · have q9 := mm_leLl (mm_cmp_le ev5 (mm_n_gt c6)) q4 mm_kl3
      refine lv_iconst (v := 1) hx hb dX12_in_13 (by decide) ?_
      refine lv_goto (tgt := 18) hx hb dX12_in_14 (by decide) ?_
      have w10 : (j_0 : Int64).toInt ≤ (3 : Int64).toInt := (mm_cmp_le ev5 (mm_n_gt c6))
      have w11 : (0 : Int64).toInt ≤ (j_0 : Int64).toInt := (mm_cmp_ge ev1 (mm_n_lt c2))
      subst hAe
      rw [hQ]
      exact W.zret (v := 1) hx hb hr rfl (fun t ht hW => ⟨⟨1, (), rfl, (Or.inr (Or.inr ⟨rfl, q9, w10, w11⟩)), by rw [ht]; exact hP, hK.warm hW, hD⟩, hS.F ht⟩) hS.2.2 dX12_in_18

set_option maxHeartbeats 4000000 in
set_option maxRecDepth 100000 in
theorem C384_X12_isSlot (l : Launch) (G : va_G) (cy : Nat → ClassId) (sz : Nat) (i_0 : Int32)   : mm_CI l yX12_isSlot (mm_ws yX12_isSlot cX12_isSlot 1 (some .boolean)) ({ frames := 1, cells := 0, slots := 0, locals := 25 } : Room) G cy sz [] [.int i_0] (fun u : Unit => []) (fun (r : Int32) (u : Unit) => ((0 = r ∧ mm_rg i_0 (-2147483648) (-1)) ∨ (0 = r ∧ mm_rg i_0 4 2147483647) ∨ (1 = r ∧ mm_rg i_0 0 3))) 0 0 := by
  refine mm_begin (lv := [(0, .int i_0)]) (by decide) (Nat.le_of_ble_eq_true rfl) rfl ?_
  intro p e s m below meth c A ls R args Q H locs hRe hQ hAe hx hb hr hlocks hml hown hnm hts hsz hA hS hP hK hD hZ hl
  have hRf : R.frames = 1 := by rw [hRe]
  have hRl : R.locals = 25 := by rw [hRe]
  have hRc : R.cells = 0 := by rw [hRe]
  have hRs : R.slots = 0 := by rw [hRe]
  refine lv_iload_n hx hb dX12_isSlot_0 rfl (lv_at hl 0 rfl) ?_
  obtain ⟨v1, ev1⟩ : ∃ y : Int64, y = i_0.toInt64 := ⟨_, rfl⟩
  refine lv_i2l hx hb dX12_isSlot_1 ev1.symm ?_
  have rv1 : mm_rl v1 (-2147483648) 2147483647 := mm_i2l ev1 (mm_top i_0)
  refine lv_lconst (v := 0) hx hb dX12_isSlot_2 (by decide) ?_
  refine lv_ldc2 (v := 3) hx hb hown (mm_h hts mm_w1272) dX12_isSlot_3 ?_
  refine mm_finir (va_runS (As := [.long v1, .long 0, .long 3]) (rest := []) ⟨hx, hb, hml, hown, hts⟩ (C383_X12_in l G cy H.size v1 ) (va_cwS 3 hts (mm_gS mm_w191 mm_w192 mm_w5 mm_w193) rfl rfl rfl hs_X12_in ⟨by rw [hRf]; exact Nat.le_of_ble_eq_true rfl, by rw [hRl]; exact Nat.le_of_ble_eq_true rfl⟩) (mm_preS hK hZ hS hA hP hD [] rfl rfl) rfl rfl hl.1 rfl (lv_room (Nat.le_of_ble_eq_true rfl)) dX12_isSlot_6 ⟨by rw [hRc]; exact Nat.le_of_ble_eq_true rfl, by rw [hRs]; exact Nat.le_of_ble_eq_true rfl⟩) hP hD hS hA [] rfl (fun _ => rfl) ?_
  clear hP hD hS
  clear H locs
  intro v2 _u H locs hw hP hD hS
  rcases hw with ⟨rfl, w3⟩ | ⟨rfl, w4, w5⟩ | ⟨rfl, w6, w7, w8⟩
  · have q9 := mm_meetl (lo := (-2147483648)) (hi := (-1)) w3 rv1 (by decide)
    have q10 := mm_meet (lo := (-2147483648)) (hi := (-1)) (mm_l2x ev1 q9) (mm_top i_0) (by decide)
    subst hAe
    rw [hQ]
    exact W.zret (v := 0) hx hb hr rfl (fun t ht hW => ⟨⟨0, (), rfl, (Or.inl ⟨rfl, q10⟩), by rw [ht]; exact hP, hK.warm hW, hD⟩, hS.F ht⟩) hS.2.2 dX12_isSlot_9
  · have q11 := mm_meetl (lo := 4) (hi := 2147483647) w4 rv1 (by decide)
    have q12 := mm_meet (lo := 4) (hi := 2147483647) (mm_l2x ev1 q11) (mm_top i_0) (by decide)
    subst hAe
    rw [hQ]
    exact W.zret (v := 0) hx hb hr rfl (fun t ht hW => ⟨⟨0, (), rfl, (Or.inr (Or.inl ⟨rfl, q12⟩)), by rw [ht]; exact hP, hK.warm hW, hD⟩, hS.F ht⟩) hS.2.2 dX12_isSlot_9
  · have q13 := mm_meet (lo := 0) (hi := 3) (mm_l2x ev1 w6) (mm_top i_0) (by decide)
    subst hAe
    rw [hQ]
    exact W.zret (v := 1) hx hb hr rfl (fun t ht hW => ⟨⟨1, (), rfl, (Or.inr (Or.inr ⟨rfl, q13⟩)), by rw [ht]; exact hP, hK.warm hW, hD⟩, hS.F ht⟩) hS.2.2 dX12_isSlot_9

set_option maxHeartbeats 4000000 in
set_option maxRecDepth 100000 in
theorem C385_X12_row (l : Launch) (G : va_G) (cy : Nat → ClassId) (sz : Nat) (a_0 : Nat) (i_0 : Int32) (i_1 : Int32) (i_2 : Int32) (i_3 : Int32) (a_1 : Nat) (a_2 : Nat) (a_3 : Nat) (a_4 : Nat) (a_5 : Nat) (i_4 : Int32) (i_5 : Int32) (i_6 : Int32) (i_7 : Int32) (i_8 : Int32) (j_0 : Int64) (i_9 : Int32) (i_10 : Int32) (i_11 : Int32) (i_12 : Int32) (a_6 : Nat) (a_7 : Nat) (a_8 : Nat) (a_9 : Nat) (a_10 : Nat) (a_11 : Nat) (a_12 : Nat) (a_13 : Nat) (a_14 : Nat) (a_15 : Nat) (a_16 : Nat) (a_17 : Nat) (a_18 : Nat) (i_13 : Int32) (i_14 : Int32) (i_15 : Int32) (i_16 : Int32) (i_17 : Int32) (i_18 : Int32) (a_19 : Nat) (i_19 : Int32) (a_20 : Nat) (f_0 : Nat → Int32) (f_1 : Nat → Int32) (f_2 : Nat → Int64) (h0 : mm_ar f_0 (-1) 3) (h1 : mm_ar f_1 0 60)  : mm_CI l yX12_row (mm_ws yX12_row cX12_row 5 (some .int)) ({ frames := 2, cells := 0, slots := 0, locals := 45 } : Room) G cy sz [(a_0, .inr (12, [.int i_3, .ref a_1, .ref a_2, .ref a_3, .ref a_4, .ref a_5, .int i_4, .int i_5, .int i_6, .int i_7, .int i_8, .long j_0, .int i_9, .int i_10, .int i_11, .int i_12, .ref a_6, .ref a_7, .ref a_8, .ref a_9, .ref a_10, .ref a_11, .ref a_12, .ref a_13, .ref a_14, .ref a_15, .ref a_16, .ref a_17, .ref a_18, .int i_13, .int i_14, .int i_15, .int i_16, .int i_17, .int i_18, .ref a_19, .int i_19, .ref a_20])), (a_1, .inl (cy 1, 4, .inl f_0)), (a_2, .inl (cy 1, 4, .inl f_1)), (a_3, .inl (cy 2, 240, .inr (.inl f_2)))] [.ref a_0, .int i_0, .int i_1, .int i_2] (fun u : (Nat → Int32) × (Nat → Int32) × (Nat → Int64) => [(a_0, .inr (12, [.int 0, .ref a_1, .ref a_2, .ref a_3, .ref a_4, .ref a_5, .int i_4, .int i_5, .int i_6, .int i_7, .int i_8, .long j_0, .int i_9, .int i_10, .int i_11, .int i_12, .ref a_6, .ref a_7, .ref a_8, .ref a_9, .ref a_10, .ref a_11, .ref a_12, .ref a_13, .ref a_14, .ref a_15, .ref a_16, .ref a_17, .ref a_18, .int i_13, .int i_14, .int i_15, .int i_16, .int i_17, .int i_18, .ref a_19, .int i_19, .ref a_20])), (a_1, .inl (cy 1, 4, .inl u.1)), (a_2, .inl (cy 1, 4, .inl u.2.1)), (a_3, .inl (cy 2, 240, .inr (.inl u.2.2)))]) (fun (r : Int32) (u : (Nat → Int32) × (Nat → Int32) × (Nat → Int64)) => mm_ar u.1 (-1) 3 ∧ mm_ar u.2.1 0 60 ∧ mm_mr f_0 f_1 u.1 u.2.1 i_0 i_1 i_2 ∧ (((-2) = r ∧ mm_rg i_0 (-2147483648) (-1)) ∨ ((-2) = r ∧ mm_rg i_0 4 2147483647) ∨ ((-2) = r ∧ mm_rg i_0 0 3 ∧ mm_rg i_1 (-2147483648) (-1)) ∨ ((-2) = r ∧ mm_rg i_0 0 3 ∧ mm_rg i_1 4 2147483647) ∨ (0 = r ∧ mm_rg i_0 0 3 ∧ mm_rg i_1 0 3 ∧ mm_rg i_2 0 60) ∨ ((-3) = r ∧ mm_rg i_0 0 3 ∧ mm_rg i_1 0 3 ∧ mm_rg i_2 (-2147483648) (-1)) ∨ ((-2) = r ∧ mm_rg i_0 0 3 ∧ mm_rg i_1 0 3 ∧ mm_rg i_2 61 2147483647))) 0 0 := by
  refine mm_begin (lv := [(0, .ref a_0), (1, .int i_0), (2, .int i_1), (3, .int i_2)]) (by decide) (Nat.le_of_ble_eq_true rfl) rfl ?_
  intro p e s m below meth c A ls R args Q H locs hRe hQ hAe hx hb hr hlocks hml hown hnm hts hsz hA hS hP hK hD hZ hl
  have hRf : R.frames = 2 := by rw [hRe]
  have hRl : R.locals = 45 := by rw [hRe]
  have hRc : R.cells = 0 := by rw [hRe]
  have hRs : R.slots = 0 := by rw [hRe]
  refine lv_aload_n hx hb dX12_row_0 rfl (lv_at hl 0 rfl) ?_
  refine lv_iconst (v := 0) hx hb dX12_row_1 (by decide) ?_
  refine va_put (D := G) (ci := 12) (v := .int 0) (ty := tyX12 0) (C := RX12) (T := TX12) (N := 38) hx hb hts (mm_i inlX12) tyX12 tyX12_ok nmX12 hown hK.1 hP hD hS 0 rfl rfl 0 (by decide) (mm_h hts mm_w177) (fun _ h9 => h9) rfl (tyX12_ok 0 (by decide)) rfl rfl (Nat.le_of_ble_eq_true rfl) dX12_row_2 ?_
  clear hP hD hS
  clear H locs
  intro H locs (hP : va_P G vwCl [(a_0, .inr (12, [.int 0, .ref a_1, .ref a_2, .ref a_3, .ref a_4, .ref a_5, .int i_4, .int i_5, .int i_6, .int i_7, .int i_8, .long j_0, .int i_9, .int i_10, .int i_11, .int i_12, .ref a_6, .ref a_7, .ref a_8, .ref a_9, .ref a_10, .ref a_11, .ref a_12, .ref a_13, .ref a_14, .ref a_15, .ref a_16, .ref a_17, .ref a_18, .int i_13, .int i_14, .int i_15, .int i_16, .int i_17, .int i_18, .ref a_19, .int i_19, .ref a_20])), (a_1, .inl (cy 1, 4, .inl f_0)), (a_2, .inl (cy 1, 4, .inl f_1)), (a_3, .inl (cy 2, 240, .inr (.inl f_2)))] H) (hD : va_D A [(a_0, .inr (12, [.int 0, .ref a_1, .ref a_2, .ref a_3, .ref a_4, .ref a_5, .int i_4, .int i_5, .int i_6, .int i_7, .int i_8, .long j_0, .int i_9, .int i_10, .int i_11, .int i_12, .ref a_6, .ref a_7, .ref a_8, .ref a_9, .ref a_10, .ref a_11, .ref a_12, .ref a_13, .ref a_14, .ref a_15, .ref a_16, .ref a_17, .ref a_18, .int i_13, .int i_14, .int i_15, .int i_16, .int i_17, .int i_18, .ref a_19, .int i_19, .ref a_20])), (a_1, .inl (cy 1, 4, .inl f_0)), (a_2, .inl (cy 1, 4, .inl f_1)), (a_3, .inl (cy 2, 240, .inr (.inl f_2)))]) hS
  refine lv_iload_n hx hb dX12_row_5 rfl (lv_at hl 1 rfl) ?_
  refine mm_finir (va_runS (As := [.int i_0]) (rest := []) ⟨hx, hb, hml, hown, hts⟩ (C384_X12_isSlot l G cy H.size i_0 ) (va_cwS 1 hts (mm_gS mm_w1269 mm_w1270 mm_w5 mm_w1271) rfl rfl rfl hs_X12_isSlot ⟨by rw [hRf]; exact Nat.le_of_ble_eq_true rfl, by rw [hRl]; exact Nat.le_of_ble_eq_true rfl⟩) (mm_preS hK hZ hS hA hP hD [] rfl rfl) rfl rfl hl.1 rfl (lv_room (Nat.le_of_ble_eq_true rfl)) dX12_row_6 ⟨by rw [hRc]; exact Nat.le_of_ble_eq_true rfl, by rw [hRs]; exact Nat.le_of_ble_eq_true rfl⟩) hP hD hS hA [] rfl (fun _ => rfl) ?_
  clear hP hD hS
  clear H locs
  intro v1 _u H locs hw hP hD hS
  rcases hw with ⟨rfl, w2⟩ | ⟨rfl, w3⟩ | ⟨rfl, w4⟩
  · refine lv_if_eq (tgt := 30) hx hb dX12_row_9 (by decide) (fun c5 => ?_) (fun c5 => ?_)
    · refine lv_bipush (v := (-2)) hx hb dX12_row_30 (by decide) ?_
      have w6 : mm_mr f_0 f_1 f_0 f_1 i_0 i_1 i_2 := (mm_mr_n w2 (mm_top i_1) (mm_top i_2) (by decide))
      subst hAe
      rw [hQ]
      exact W.iret (v := (-2)) hx hb hr (fun t ht hW => ⟨⟨(-2), (f_0, f_1, f_2), rfl, ⟨h0, h1, w6, (Or.inl ⟨rfl, w2⟩)⟩, by rw [ht]; exact hP, hK.warm hW, hD⟩, hS.F ht⟩) hS.2.2 dX12_row_32
    · exact absurd rfl (mm_ne c5)
  · refine lv_if_eq (tgt := 30) hx hb dX12_row_9 (by decide) (fun c7 => ?_) (fun c7 => ?_)
    · refine lv_bipush (v := (-2)) hx hb dX12_row_30 (by decide) ?_
      have w8 : mm_mr f_0 f_1 f_0 f_1 i_0 i_1 i_2 := (mm_mr_n w3 (mm_top i_1) (mm_top i_2) (by decide))
      subst hAe
      rw [hQ]
      exact W.iret (v := (-2)) hx hb hr (fun t ht hW => ⟨⟨(-2), (f_0, f_1, f_2), rfl, ⟨h0, h1, w8, (Or.inr (Or.inl ⟨rfl, w3⟩))⟩, by rw [ht]; exact hP, hK.warm hW, hD⟩, hS.F ht⟩) hS.2.2 dX12_row_32
    · exact absurd rfl (mm_ne c7)
  · refine lv_if_eq (tgt := 30) hx hb dX12_row_9 (by decide) (fun c9 => ?_) (fun c9 => ?_)
    · exact mm_eqN c9.symm mm_k0 mm_k1 (by decide)
    · refine lv_iload_n hx hb dX12_row_12 rfl (lv_at hl 2 rfl) ?_
      obtain ⟨v10, ev10⟩ : ∃ y : Int64, y = i_1.toInt64 := ⟨_, rfl⟩
      refine lv_i2l hx hb dX12_row_13 ev10.symm ?_
      have rv10 : mm_rl v10 (-2147483648) 2147483647 := mm_i2l ev10 (mm_top i_1)
      refine lv_lconst (v := 0) hx hb dX12_row_14 (by decide) ?_
      refine lv_ldc2 (v := 3) hx hb hown (mm_h hts mm_w1272) dX12_row_15 ?_
      refine mm_finir (va_runS (As := [.long v10, .long 0, .long 3]) (rest := []) ⟨hx, hb, hml, hown, hts⟩ (C383_X12_in l G cy H.size v10 ) (va_cwS 3 hts (mm_gS mm_w191 mm_w192 mm_w5 mm_w193) rfl rfl rfl hs_X12_in ⟨by rw [hRf]; exact Nat.le_of_ble_eq_true rfl, by rw [hRl]; exact Nat.le_of_ble_eq_true rfl⟩) (mm_preS hK hZ hS hA hP hD [] rfl rfl) rfl rfl hl.1 rfl (lv_room (Nat.le_of_ble_eq_true rfl)) dX12_row_18 ⟨by rw [hRc]; exact Nat.le_of_ble_eq_true rfl, by rw [hRs]; exact Nat.le_of_ble_eq_true rfl⟩) hP hD hS hA [] rfl (fun _ => rfl) ?_
      clear hP hD hS
      clear H locs
      intro v11 _u H locs hw hP hD hS
      rcases hw with ⟨rfl, w12⟩ | ⟨rfl, w13, w14⟩ | ⟨rfl, w15, w16, w17⟩
      · have q18 := mm_meetl (lo := (-2147483648)) (hi := (-1)) w12 rv10 (by decide)
        have q19 := mm_meet (lo := (-2147483648)) (hi := (-1)) (mm_l2x ev10 q18) (mm_top i_1) (by decide)
        refine lv_if_eq (tgt := 30) hx hb dX12_row_21 (by decide) (fun c20 => ?_) (fun c20 => ?_)
        · refine lv_bipush (v := (-2)) hx hb dX12_row_30 (by decide) ?_
          have w21 : mm_mr f_0 f_1 f_0 f_1 i_0 i_1 i_2 := (mm_mr_n w4 q19 (mm_top i_2) (by decide))
          subst hAe
          rw [hQ]
          exact W.iret (v := (-2)) hx hb hr (fun t ht hW => ⟨⟨(-2), (f_0, f_1, f_2), rfl, ⟨h0, h1, w21, (Or.inr (Or.inr (Or.inl ⟨rfl, w4, q19⟩)))⟩, by rw [ht]; exact hP, hK.warm hW, hD⟩, hS.F ht⟩) hS.2.2 dX12_row_32
        · exact absurd rfl (mm_ne c20)
      · have q22 := mm_meetl (lo := 4) (hi := 2147483647) w13 rv10 (by decide)
        have q23 := mm_meet (lo := 4) (hi := 2147483647) (mm_l2x ev10 q22) (mm_top i_1) (by decide)
        refine lv_if_eq (tgt := 30) hx hb dX12_row_21 (by decide) (fun c24 => ?_) (fun c24 => ?_)
        · refine lv_bipush (v := (-2)) hx hb dX12_row_30 (by decide) ?_
          have w25 : mm_mr f_0 f_1 f_0 f_1 i_0 i_1 i_2 := (mm_mr_n w4 q23 (mm_top i_2) (by decide))
          subst hAe
          rw [hQ]
          exact W.iret (v := (-2)) hx hb hr (fun t ht hW => ⟨⟨(-2), (f_0, f_1, f_2), rfl, ⟨h0, h1, w25, (Or.inr (Or.inr (Or.inr (Or.inl ⟨rfl, w4, q23⟩))))⟩, by rw [ht]; exact hP, hK.warm hW, hD⟩, hS.F ht⟩) hS.2.2 dX12_row_32
        · exact absurd rfl (mm_ne c24)
      · have q26 := mm_meet (lo := 0) (hi := 3) (mm_l2x ev10 w15) (mm_top i_1) (by decide)
        refine lv_if_eq (tgt := 30) hx hb dX12_row_21 (by decide) (fun c27 => ?_) (fun c27 => ?_)
        · exact mm_eqN c27.symm mm_k0 mm_k1 (by decide)
        · refine lv_iload_n hx hb dX12_row_24 rfl (lv_at hl 3 rfl) ?_
          refine lv_bipush (v := 60) hx hb dX12_row_25 (by decide) ?_
          refine lv_icmp_le (tgt := 33) hx hb dX12_row_27 (by decide) (fun c28 => ?_) (fun c28 => ?_)
          · have q29 := mm_leL (mm_le c28) (mm_top i_2) mm_k60
            refine lv_iload_n hx hb dX12_row_33 rfl (lv_at hl 3 rfl) ?_
            refine lv_if_ge (tgt := 40) hx hb dX12_row_34 (by decide) (fun c30 => ?_) (fun c30 => ?_)
            · have q31 := mm_leR (mm_le c30) mm_k0 q29
              refine lv_aload_n hx hb dX12_row_40 rfl (lv_at hl 0 rfl) ?_
              refine va_get (D := G) (ci := 12) (v := .ref a_1) (C := RX12) (T := TX12) (N := 38) hx hb hts (mm_i inlX12) hown hK.1 hP 0 rfl rfl 1 (by decide) (mm_h hts mm_w142) (fun _ h9 => h9) rfl dX12_row_41 ?_
              refine lv_iload_n hx hb dX12_row_44 rfl (lv_at hl 1 rfl) ?_
              refine lv_iload_n hx hb dX12_row_45 rfl (lv_at hl 2 rfl) ?_
              refine va_iast hx hb hK.1 hP hD hS 1 1 rfl rfl (mm_in w4 (by decide)) dX12_row_46 ?_
              clear hP hD hS
              clear H locs
              obtain ⟨g32, eg32⟩ : ∃ z : Nat → Int32, z = upd f_0 i_0.toNatClampNeg i_1 := ⟨_, rfl⟩
              rw [← eg32]
              intro H locs (hP : va_P G vwCl [(a_0, .inr (12, [.int 0, .ref a_1, .ref a_2, .ref a_3, .ref a_4, .ref a_5, .int i_4, .int i_5, .int i_6, .int i_7, .int i_8, .long j_0, .int i_9, .int i_10, .int i_11, .int i_12, .ref a_6, .ref a_7, .ref a_8, .ref a_9, .ref a_10, .ref a_11, .ref a_12, .ref a_13, .ref a_14, .ref a_15, .ref a_16, .ref a_17, .ref a_18, .int i_13, .int i_14, .int i_15, .int i_16, .int i_17, .int i_18, .ref a_19, .int i_19, .ref a_20])), (a_1, .inl (cy 1, 4, .inl g32)), (a_2, .inl (cy 1, 4, .inl f_1)), (a_3, .inl (cy 2, 240, .inr (.inl f_2)))] H) (hD : va_D A [(a_0, .inr (12, [.int 0, .ref a_1, .ref a_2, .ref a_3, .ref a_4, .ref a_5, .int i_4, .int i_5, .int i_6, .int i_7, .int i_8, .long j_0, .int i_9, .int i_10, .int i_11, .int i_12, .ref a_6, .ref a_7, .ref a_8, .ref a_9, .ref a_10, .ref a_11, .ref a_12, .ref a_13, .ref a_14, .ref a_15, .ref a_16, .ref a_17, .ref a_18, .int i_13, .int i_14, .int i_15, .int i_16, .int i_17, .int i_18, .ref a_19, .int i_19, .ref a_20])), (a_1, .inl (cy 1, 4, .inl g32)), (a_2, .inl (cy 1, 4, .inl f_1)), (a_3, .inl (cy 2, 240, .inr (.inl f_2)))]) hS
              have rg32 : mm_ar g32 (-1) 3 := by rw [eg32]; exact mm_ar_upd (mm_ar_wk h0 (by decide)) (mm_wk q26 (by decide)) _
              refine lv_aload_n hx hb dX12_row_47 rfl (lv_at hl 0 rfl) ?_
              refine va_get (D := G) (ci := 12) (v := .ref a_2) (C := RX12) (T := TX12) (N := 38) hx hb hts (mm_i inlX12) hown hK.1 hP 0 rfl rfl 2 (by decide) (mm_h hts mm_w143) (fun _ h9 => h9) rfl dX12_row_48 ?_
              refine lv_iload_n hx hb dX12_row_51 rfl (lv_at hl 1 rfl) ?_
              refine lv_iload_n hx hb dX12_row_52 rfl (lv_at hl 3 rfl) ?_
              refine va_iast hx hb hK.1 hP hD hS 2 1 rfl rfl (mm_in w4 (by decide)) dX12_row_53 ?_
              clear hP hD hS
              clear H locs
              obtain ⟨g33, eg33⟩ : ∃ z : Nat → Int32, z = upd f_1 i_0.toNatClampNeg i_2 := ⟨_, rfl⟩
              rw [← eg33]
              intro H locs (hP : va_P G vwCl [(a_0, .inr (12, [.int 0, .ref a_1, .ref a_2, .ref a_3, .ref a_4, .ref a_5, .int i_4, .int i_5, .int i_6, .int i_7, .int i_8, .long j_0, .int i_9, .int i_10, .int i_11, .int i_12, .ref a_6, .ref a_7, .ref a_8, .ref a_9, .ref a_10, .ref a_11, .ref a_12, .ref a_13, .ref a_14, .ref a_15, .ref a_16, .ref a_17, .ref a_18, .int i_13, .int i_14, .int i_15, .int i_16, .int i_17, .int i_18, .ref a_19, .int i_19, .ref a_20])), (a_1, .inl (cy 1, 4, .inl g32)), (a_2, .inl (cy 1, 4, .inl g33)), (a_3, .inl (cy 2, 240, .inr (.inl f_2)))] H) (hD : va_D A [(a_0, .inr (12, [.int 0, .ref a_1, .ref a_2, .ref a_3, .ref a_4, .ref a_5, .int i_4, .int i_5, .int i_6, .int i_7, .int i_8, .long j_0, .int i_9, .int i_10, .int i_11, .int i_12, .ref a_6, .ref a_7, .ref a_8, .ref a_9, .ref a_10, .ref a_11, .ref a_12, .ref a_13, .ref a_14, .ref a_15, .ref a_16, .ref a_17, .ref a_18, .int i_13, .int i_14, .int i_15, .int i_16, .int i_17, .int i_18, .ref a_19, .int i_19, .ref a_20])), (a_1, .inl (cy 1, 4, .inl g32)), (a_2, .inl (cy 1, 4, .inl g33)), (a_3, .inl (cy 2, 240, .inr (.inl f_2)))]) hS
              have rg33 : mm_ar g33 0 60 := by rw [eg33]; exact mm_ar_upd (mm_ar_wk h1 (by decide)) (mm_wk q31 (by decide)) _
              refine lv_iconst (v := 0) hx hb dX12_row_54 (by decide) ?_
              refine lv_istore (lv' := [(4, .int 0), (0, .ref a_0), (1, .int i_0), (2, .int i_1), (3, .int i_2)]) hx hb dX12_row_55 hl (by decide) rfl ?_
              clear hl
              clear ls
              intro ls hl
              have L57_132 : ∀ (n : Nat) (x57_4_131 : Int32) (z57_3_132 : Nat → Int64), mm_rg x57_4_131 0 60 → (60 - x57_4_131.toInt).toNat < n → ∀ (H : Heap) (locs : List Loc), va_P G vwCl [(a_0, .inr (12, [.int 0, .ref a_1, .ref a_2, .ref a_3, .ref a_4, .ref a_5, .int i_4, .int i_5, .int i_6, .int i_7, .int i_8, .long j_0, .int i_9, .int i_10, .int i_11, .int i_12, .ref a_6, .ref a_7, .ref a_8, .ref a_9, .ref a_10, .ref a_11, .ref a_12, .ref a_13, .ref a_14, .ref a_15, .ref a_16, .ref a_17, .ref a_18, .int i_13, .int i_14, .int i_15, .int i_16, .int i_17, .int i_18, .ref a_19, .int i_19, .ref a_20])), (a_1, .inl (cy 1, 4, .inl g32)), (a_2, .inl (cy 1, 4, .inl g33)), (a_3, .inl (cy 2, 240, .inr (.inl z57_3_132)))] H → va_D A [(a_0, .inr (12, [.int 0, .ref a_1, .ref a_2, .ref a_3, .ref a_4, .ref a_5, .int i_4, .int i_5, .int i_6, .int i_7, .int i_8, .long j_0, .int i_9, .int i_10, .int i_11, .int i_12, .ref a_6, .ref a_7, .ref a_8, .ref a_9, .ref a_10, .ref a_11, .ref a_12, .ref a_13, .ref a_14, .ref a_15, .ref a_16, .ref a_17, .ref a_18, .int i_13, .int i_14, .int i_15, .int i_16, .int i_17, .int i_18, .ref a_19, .int i_19, .ref a_20])), (a_1, .inl (cy 1, 4, .inl g32)), (a_2, .inl (cy 1, 4, .inl g33)), (a_3, .inl (cy 2, 240, .inr (.inl z57_3_132)))] → va_S A s.heap H locs → ∀ (ls : Array Slot), lv_has ls 5 [(4, .int x57_4_131), (0, .ref a_0), (1, .int i_0), (2, .int i_1), (3, .int i_2)] → W p l e R s m args below meth c H locs 0 0 Q (F0 m 57 ls []) := by
                intro n
                induction n with
                | zero => intro x57_4_131 z57_3_132 rx57_4_131 hm; exact absurd hm (Nat.not_lt_zero _)
                | succ n ih57 =>
                  intro x57_4_131 z57_3_132 rx57_4_131 hm57 H locs hP hD hS ls hl
                  refine lv_iload hx hb dX12_row_57 (lv_at hl 0 rfl) ?_
                  refine lv_iload_n hx hb dX12_row_59 rfl (lv_at hl 4 rfl) ?_
                  refine lv_icmp_ge (tgt := 82) hx hb dX12_row_60 (by decide) (fun c134 => ?_) (fun c134 => ?_)
                  · refine lv_iconst (v := 0) hx hb dX12_row_82 (by decide) ?_
                    have w135 : mm_mr f_0 f_1 g32 g33 i_0 i_1 i_2 := (mm_mr_y eg32 eg33 w4 q26 q31 (by decide))
                    subst hAe
                    rw [hQ]
                    exact W.iret (v := 0) hx hb hr (fun t ht hW => ⟨⟨0, (g32, g33, z57_3_132), rfl, ⟨rg32, rg33, w135, (Or.inr (Or.inr (Or.inr (Or.inr (Or.inl ⟨rfl, w4, q26, q31⟩)))))⟩, by rw [ht]; exact hP, hK.warm hW, hD⟩, hS.F ht⟩) hS.2.2 dX12_row_83
                  · have q136 := mm_ltL (h := 59) (mm_nle c134) rx57_4_131 q31 (by decide)
                    have q137 := mm_ltR (lo := 1) (mm_nle c134) rx57_4_131 q31 (by decide)
                    refine lv_aload_n hx hb dX12_row_63 rfl (lv_at hl 1 rfl) ?_
                    refine va_get (D := G) (ci := 12) (v := .ref a_3) (C := RX12) (T := TX12) (N := 38) hx hb hts (mm_i inlX12) hown hK.1 hP 0 rfl rfl 3 (by decide) (mm_h hts mm_w144) (fun _ h9 => h9) rfl dX12_row_64 ?_
                    refine lv_bipush (v := 60) hx hb dX12_row_67 (by decide) ?_
                    refine lv_iload_n hx hb dX12_row_69 rfl (lv_at hl 2 rfl) ?_
                    refine lv_imul hx hb dX12_row_70 ?_
                    refine lv_topi (fun v138 ev138 => ?_)
                    have rv138 : mm_rg v138 0 180 := mm_mul ev138 mm_k60 w4 (by decide) (by decide)
                    have tv138 := mm_mulEc ev138 mm_k60 w4 (by decide) (k := 60) (by decide)
                    refine lv_iload hx hb dX12_row_71 (lv_at hl 0 rfl) ?_
                    refine lv_iadd hx hb dX12_row_73 ?_
                    refine lv_topi (fun v139 ev139 => ?_)
                    have rv139 : mm_rg v139 0 239 := mm_add ev139 rv138 q136 (by decide) (by decide)
                    have tv139 := mm_addE ev139 rv138 q136 (by decide)
                    refine lv_lconst (v := 0) hx hb dX12_row_74 (by decide) ?_
                    refine va_last hx hb hK.1 hP hD hS 3 2 rfl rfl (mm_in rv139 (by decide)) dX12_row_75 ?_
                    clear hP hD hS
                    clear H locs
                    obtain ⟨g140, eg140⟩ : ∃ z : Nat → Int64, z = vp_updL z57_3_132 v139.toNatClampNeg 0 := ⟨_, rfl⟩
                    rw [← eg140]
                    intro H locs (hP : va_P G vwCl [(a_0, .inr (12, [.int 0, .ref a_1, .ref a_2, .ref a_3, .ref a_4, .ref a_5, .int i_4, .int i_5, .int i_6, .int i_7, .int i_8, .long j_0, .int i_9, .int i_10, .int i_11, .int i_12, .ref a_6, .ref a_7, .ref a_8, .ref a_9, .ref a_10, .ref a_11, .ref a_12, .ref a_13, .ref a_14, .ref a_15, .ref a_16, .ref a_17, .ref a_18, .int i_13, .int i_14, .int i_15, .int i_16, .int i_17, .int i_18, .ref a_19, .int i_19, .ref a_20])), (a_1, .inl (cy 1, 4, .inl g32)), (a_2, .inl (cy 1, 4, .inl g33)), (a_3, .inl (cy 2, 240, .inr (.inl g140)))] H) (hD : va_D A [(a_0, .inr (12, [.int 0, .ref a_1, .ref a_2, .ref a_3, .ref a_4, .ref a_5, .int i_4, .int i_5, .int i_6, .int i_7, .int i_8, .long j_0, .int i_9, .int i_10, .int i_11, .int i_12, .ref a_6, .ref a_7, .ref a_8, .ref a_9, .ref a_10, .ref a_11, .ref a_12, .ref a_13, .ref a_14, .ref a_15, .ref a_16, .ref a_17, .ref a_18, .int i_13, .int i_14, .int i_15, .int i_16, .int i_17, .int i_18, .ref a_19, .int i_19, .ref a_20])), (a_1, .inl (cy 1, 4, .inl g32)), (a_2, .inl (cy 1, 4, .inl g33)), (a_3, .inl (cy 2, 240, .inr (.inl g140)))]) hS
                    obtain ⟨v141, ev141⟩ : ∃ y : Int32, y = x57_4_131 + 1 := ⟨_, rfl⟩
                    refine lv_iinc (v := v141) (lv' := [(4, .int v141), (0, .ref a_0), (1, .int i_0), (2, .int i_1), (3, .int i_2)]) hx hb dX12_row_76 hl (k := 0) rfl (by rw [ev141]; rfl) (by decide) rfl ?_
                    clear hl
                    clear ls
                    intro ls hl
                    have rv141 : mm_rg v141 1 60 := mm_add ev141 q136 mm_k1 (by decide) (by decide)
                    have tv141 := mm_addEc ev141 q136 mm_k1 (by decide) (k := 1) (by decide)
                    refine lv_goto (tgt := 57) hx hb dX12_row_79 (by decide) ?_
                    exact ih57 v141 g140 (mm_wk rv141 (by decide)) (mm_mu hm57 tv141 (by decide) (rv141).2 (by decide)) H locs hP hD hS ls (lv_sub hl [0, 1, 2, 3, 4] rfl)
              exact L57_132 _ 0 f_2 (mm_wk mm_k0 (by decide)) (Nat.lt_succ_self _) H locs hP hD hS ls (lv_sub hl [0, 1, 2, 3, 4] rfl)
            · have q142 := mm_ltL (h := (-1)) (mm_nle c30) q29 mm_k0 (by decide)
              refine lv_bipush (v := (-3)) hx hb dX12_row_37 (by decide) ?_
              have w143 : mm_mr f_0 f_1 f_0 f_1 i_0 i_1 i_2 := (mm_mr_n w4 q26 q142 (by decide))
              subst hAe
              rw [hQ]
              exact W.iret (v := (-3)) hx hb hr (fun t ht hW => ⟨⟨(-3), (f_0, f_1, f_2), rfl, ⟨h0, h1, w143, (Or.inr (Or.inr (Or.inr (Or.inr (Or.inr (Or.inl ⟨rfl, w4, q26, q142⟩))))))⟩, by rw [ht]; exact hP, hK.warm hW, hD⟩, hS.F ht⟩) hS.2.2 dX12_row_39
          · have q144 := mm_ltR (lo := 61) (mm_nle c28) mm_k60 (mm_top i_2) (by decide)
            refine lv_bipush (v := (-2)) hx hb dX12_row_30 (by decide) ?_
            have w145 : mm_mr f_0 f_1 f_0 f_1 i_0 i_1 i_2 := (mm_mr_n w4 q26 q144 (by decide))
            subst hAe
            rw [hQ]
            exact W.iret (v := (-2)) hx hb hr (fun t ht hW => ⟨⟨(-2), (f_0, f_1, f_2), rfl, ⟨h0, h1, w145, (Or.inr (Or.inr (Or.inr (Or.inr (Or.inr (Or.inr ⟨rfl, w4, q26, q144⟩))))))⟩, by rw [ht]; exact hP, hK.warm hW, hD⟩, hS.F ht⟩) hS.2.2 dX12_row_32

set_option maxHeartbeats 4000000 in
set_option maxRecDepth 100000 in
theorem C386_X12_paste (l : Launch) (G : va_G) (cy : Nat → ClassId) (sz : Nat) (a_0 : Nat) (i_0 : Int32) (i_1 : Int32) (i_2 : Int32) (i_3 : Int32) (i_4 : Int32) (i_5 : Int32) (a_1 : Nat) (a_2 : Nat) (a_3 : Nat) (a_4 : Nat) (a_5 : Nat) (i_6 : Int32) (i_7 : Int32) (i_8 : Int32) (i_9 : Int32) (i_10 : Int32) (j_0 : Int64) (i_11 : Int32) (i_12 : Int32) (i_13 : Int32) (i_14 : Int32) (a_6 : Nat) (a_7 : Nat) (a_8 : Nat) (a_9 : Nat) (a_10 : Nat) (a_11 : Nat) (a_12 : Nat) (a_13 : Nat) (a_14 : Nat) (a_15 : Nat) (a_16 : Nat) (a_17 : Nat) (a_18 : Nat) (i_15 : Int32) (i_16 : Int32) (i_17 : Int32) (i_18 : Int32) (i_19 : Int32) (i_20 : Int32) (a_19 : Nat) (i_21 : Int32) (a_20 : Nat) (f_0 : Nat → Int32) (f_1 : Nat → Int32) (f_2 : Nat → Int64) (f_3 : Nat → Int64) (h0 : mm_ar f_0 (-1) 3) (h1 : mm_ar f_1 0 60)  : mm_CI l yX12_paste (mm_ws yX12_paste cX12_paste 7 (some .int)) ({ frames := 2, cells := 0, slots := 0, locals := 45 } : Room) G cy sz [(a_0, .inr (12, [.int i_5, .ref a_1, .ref a_2, .ref a_3, .ref a_4, .ref a_5, .int i_6, .int i_7, .int i_8, .int i_9, .int i_10, .long j_0, .int i_11, .int i_12, .int i_13, .int i_14, .ref a_6, .ref a_7, .ref a_8, .ref a_9, .ref a_10, .ref a_11, .ref a_12, .ref a_13, .ref a_14, .ref a_15, .ref a_16, .ref a_17, .ref a_18, .int i_15, .int i_16, .int i_17, .int i_18, .int i_19, .int i_20, .ref a_19, .int i_21, .ref a_20])), (a_1, .inl (cy 1, 4, .inl f_0)), (a_2, .inl (cy 1, 4, .inl f_1)), (a_3, .inl (cy 2, 240, .inr (.inl f_2))), (a_4, .inl (cy 2, 60, .inr (.inl f_3)))] [.ref a_0, .int i_0, .int i_1, .int i_2, .int i_3, .int i_4] (fun u : (Nat → Int64) × (Nat → Int64) => [(a_0, .inr (12, [.int 0, .ref a_1, .ref a_2, .ref a_3, .ref a_4, .ref a_5, .int i_6, .int i_7, .int i_8, .int i_9, .int i_10, .long j_0, .int i_11, .int i_12, .int i_13, .int i_14, .ref a_6, .ref a_7, .ref a_8, .ref a_9, .ref a_10, .ref a_11, .ref a_12, .ref a_13, .ref a_14, .ref a_15, .ref a_16, .ref a_17, .ref a_18, .int i_15, .int i_16, .int i_17, .int i_18, .int i_19, .int i_20, .ref a_19, .int i_21, .ref a_20])), (a_1, .inl (cy 1, 4, .inl f_0)), (a_2, .inl (cy 1, 4, .inl f_1)), (a_3, .inl (cy 2, 240, .inr (.inl u.1))), (a_4, .inl (cy 2, 60, .inr (.inl u.2)))]) (fun (r : Int32) (u : (Nat → Int64) × (Nat → Int64)) => (((-2) = r ∧ mm_rg i_0 (-2147483648) (-1)) ∨ ((-2) = r ∧ mm_rg i_0 4 2147483647) ∨ ((-2) = r ∧ mm_rg i_0 0 3 ∧ mm_rg i_2 (-2147483648) (-1)) ∨ ((-2) = r ∧ mm_rg i_0 0 3 ∧ mm_rg i_2 4 2147483647) ∨ ((-6) = r ∧ mm_rg i_0 0 3 ∧ mm_rg i_2 0 3 ∧ mm_z0 f_0 i_0) ∨ ((-7) = r ∧ mm_rg i_0 0 3 ∧ mm_rg i_2 0 3 ∧ mm_z1 f_0 i_0 ∧ mm_z1 f_0 i_2 ∧ mm_weq f_0 i_0 i_2 ∧ mm_mb f_1 i_0 i_2 i_1 i_3 i_4) ∨ (0 = r ∧ mm_rg i_0 0 3 ∧ mm_rg i_2 0 3 ∧ mm_z1 f_0 i_0 ∧ mm_z1 f_0 i_2 ∧ mm_weq f_0 i_0 i_2 ∧ mm_mg f_1 i_0 i_2 i_1 i_3 i_4) ∨ ((-8) = r ∧ mm_rg i_0 0 3 ∧ mm_rg i_2 0 3 ∧ mm_z1 f_0 i_0 ∧ mm_z1 f_0 i_2 ∧ mm_wne f_0 i_0 i_2) ∨ ((-6) = r ∧ mm_rg i_0 0 3 ∧ mm_rg i_2 0 3 ∧ mm_z1 f_0 i_0 ∧ mm_z0 f_0 i_2))) 0 0 := by
  refine mm_begin (lv := [(0, .ref a_0), (1, .int i_0), (2, .int i_1), (3, .int i_2), (4, .int i_3), (5, .int i_4)]) (by decide) (Nat.le_of_ble_eq_true rfl) rfl ?_
  intro p e s m below meth c A ls R args Q H locs hRe hQ hAe hx hb hr hlocks hml hown hnm hts hsz hA hS hP hK hD hZ hl
  have hRf : R.frames = 2 := by rw [hRe]
  have hRl : R.locals = 45 := by rw [hRe]
  have hRc : R.cells = 0 := by rw [hRe]
  have hRs : R.slots = 0 := by rw [hRe]
  refine lv_aload_n hx hb dX12_paste_0 rfl (lv_at hl 0 rfl) ?_
  refine lv_iconst (v := 0) hx hb dX12_paste_1 (by decide) ?_
  refine va_put (D := G) (ci := 12) (v := .int 0) (ty := tyX12 0) (C := RX12) (T := TX12) (N := 38) hx hb hts (mm_i inlX12) tyX12 tyX12_ok nmX12 hown hK.1 hP hD hS 0 rfl rfl 0 (by decide) (mm_h hts mm_w177) (fun _ h9 => h9) rfl (tyX12_ok 0 (by decide)) rfl rfl (Nat.le_of_ble_eq_true rfl) dX12_paste_2 ?_
  clear hP hD hS
  clear H locs
  intro H locs (hP : va_P G vwCl [(a_0, .inr (12, [.int 0, .ref a_1, .ref a_2, .ref a_3, .ref a_4, .ref a_5, .int i_6, .int i_7, .int i_8, .int i_9, .int i_10, .long j_0, .int i_11, .int i_12, .int i_13, .int i_14, .ref a_6, .ref a_7, .ref a_8, .ref a_9, .ref a_10, .ref a_11, .ref a_12, .ref a_13, .ref a_14, .ref a_15, .ref a_16, .ref a_17, .ref a_18, .int i_15, .int i_16, .int i_17, .int i_18, .int i_19, .int i_20, .ref a_19, .int i_21, .ref a_20])), (a_1, .inl (cy 1, 4, .inl f_0)), (a_2, .inl (cy 1, 4, .inl f_1)), (a_3, .inl (cy 2, 240, .inr (.inl f_2))), (a_4, .inl (cy 2, 60, .inr (.inl f_3)))] H) (hD : va_D A [(a_0, .inr (12, [.int 0, .ref a_1, .ref a_2, .ref a_3, .ref a_4, .ref a_5, .int i_6, .int i_7, .int i_8, .int i_9, .int i_10, .long j_0, .int i_11, .int i_12, .int i_13, .int i_14, .ref a_6, .ref a_7, .ref a_8, .ref a_9, .ref a_10, .ref a_11, .ref a_12, .ref a_13, .ref a_14, .ref a_15, .ref a_16, .ref a_17, .ref a_18, .int i_15, .int i_16, .int i_17, .int i_18, .int i_19, .int i_20, .ref a_19, .int i_21, .ref a_20])), (a_1, .inl (cy 1, 4, .inl f_0)), (a_2, .inl (cy 1, 4, .inl f_1)), (a_3, .inl (cy 2, 240, .inr (.inl f_2))), (a_4, .inl (cy 2, 60, .inr (.inl f_3)))]) hS
  refine lv_iload_n hx hb dX12_paste_5 rfl (lv_at hl 1 rfl) ?_
  refine mm_finir (va_runS (As := [.int i_0]) (rest := []) ⟨hx, hb, hml, hown, hts⟩ (C384_X12_isSlot l G cy H.size i_0 ) (va_cwS 1 hts (mm_gS mm_w1269 mm_w1270 mm_w5 mm_w1271) rfl rfl rfl hs_X12_isSlot ⟨by rw [hRf]; exact Nat.le_of_ble_eq_true rfl, by rw [hRl]; exact Nat.le_of_ble_eq_true rfl⟩) (mm_preS hK hZ hS hA hP hD [] rfl rfl) rfl rfl hl.1 rfl (lv_room (Nat.le_of_ble_eq_true rfl)) dX12_paste_6 ⟨by rw [hRc]; exact Nat.le_of_ble_eq_true rfl, by rw [hRs]; exact Nat.le_of_ble_eq_true rfl⟩) hP hD hS hA [] rfl (fun _ => rfl) ?_
  clear hP hD hS
  clear H locs
  intro v1 _u H locs hw hP hD hS
  rcases hw with ⟨rfl, w2⟩ | ⟨rfl, w3⟩ | ⟨rfl, w4⟩
  · refine lv_if_eq (tgt := 19) hx hb dX12_paste_9 (by decide) (fun c5 => ?_) (fun c5 => ?_)
    · refine lv_bipush (v := (-2)) hx hb dX12_paste_19 (by decide) ?_
      subst hAe
      rw [hQ]
      exact W.iret (v := (-2)) hx hb hr (fun t ht hW => ⟨⟨(-2), (f_2, f_3), rfl, (Or.inl ⟨rfl, w2⟩), by rw [ht]; exact hP, hK.warm hW, hD⟩, hS.F ht⟩) hS.2.2 dX12_paste_21
    · exact absurd rfl (mm_ne c5)
  · refine lv_if_eq (tgt := 19) hx hb dX12_paste_9 (by decide) (fun c6 => ?_) (fun c6 => ?_)
    · refine lv_bipush (v := (-2)) hx hb dX12_paste_19 (by decide) ?_
      subst hAe
      rw [hQ]
      exact W.iret (v := (-2)) hx hb hr (fun t ht hW => ⟨⟨(-2), (f_2, f_3), rfl, (Or.inr (Or.inl ⟨rfl, w3⟩)), by rw [ht]; exact hP, hK.warm hW, hD⟩, hS.F ht⟩) hS.2.2 dX12_paste_21
    · exact absurd rfl (mm_ne c6)
  · refine lv_if_eq (tgt := 19) hx hb dX12_paste_9 (by decide) (fun c7 => ?_) (fun c7 => ?_)
    · exact mm_eqN c7.symm mm_k0 mm_k1 (by decide)
    · refine lv_iload_n hx hb dX12_paste_12 rfl (lv_at hl 3 rfl) ?_
      refine mm_finir (va_runS (As := [.int i_2]) (rest := []) ⟨hx, hb, hml, hown, hts⟩ (C384_X12_isSlot l G cy H.size i_2 ) (va_cwS 1 hts (mm_gS mm_w1269 mm_w1270 mm_w5 mm_w1271) rfl rfl rfl hs_X12_isSlot ⟨by rw [hRf]; exact Nat.le_of_ble_eq_true rfl, by rw [hRl]; exact Nat.le_of_ble_eq_true rfl⟩) (mm_preS hK hZ hS hA hP hD [] rfl rfl) rfl rfl hl.1 rfl (lv_room (Nat.le_of_ble_eq_true rfl)) dX12_paste_13 ⟨by rw [hRc]; exact Nat.le_of_ble_eq_true rfl, by rw [hRs]; exact Nat.le_of_ble_eq_true rfl⟩) hP hD hS hA [] rfl (fun _ => rfl) ?_
      clear hP hD hS
      clear H locs
      intro v8 _u H locs hw hP hD hS
      rcases hw with ⟨rfl, w9⟩ | ⟨rfl, w10⟩ | ⟨rfl, w11⟩
      · refine lv_if_ne (tgt := 22) hx hb dX12_paste_16 (by decide) (fun c12 => ?_) (fun c12 => ?_)
        · exact absurd rfl (mm_ne c12)
        · refine lv_bipush (v := (-2)) hx hb dX12_paste_19 (by decide) ?_
          subst hAe
          rw [hQ]
          exact W.iret (v := (-2)) hx hb hr (fun t ht hW => ⟨⟨(-2), (f_2, f_3), rfl, (Or.inr (Or.inr (Or.inl ⟨rfl, w4, w9⟩))), by rw [ht]; exact hP, hK.warm hW, hD⟩, hS.F ht⟩) hS.2.2 dX12_paste_21
      · refine lv_if_ne (tgt := 22) hx hb dX12_paste_16 (by decide) (fun c13 => ?_) (fun c13 => ?_)
        · exact absurd rfl (mm_ne c13)
        · refine lv_bipush (v := (-2)) hx hb dX12_paste_19 (by decide) ?_
          subst hAe
          rw [hQ]
          exact W.iret (v := (-2)) hx hb hr (fun t ht hW => ⟨⟨(-2), (f_2, f_3), rfl, (Or.inr (Or.inr (Or.inr (Or.inl ⟨rfl, w4, w10⟩)))), by rw [ht]; exact hP, hK.warm hW, hD⟩, hS.F ht⟩) hS.2.2 dX12_paste_21
      · refine lv_if_ne (tgt := 22) hx hb dX12_paste_16 (by decide) (fun c14 => ?_) (fun c14 => ?_)
        · refine lv_aload_n hx hb dX12_paste_22 rfl (lv_at hl 0 rfl) ?_
          refine va_get (D := G) (ci := 12) (v := .ref a_1) (C := RX12) (T := TX12) (N := 38) hx hb hts (mm_i inlX12) hown hK.1 hP 0 rfl rfl 1 (by decide) (mm_h hts mm_w142) (fun _ h9 => h9) rfl dX12_paste_23 ?_
          refine lv_iload_n hx hb dX12_paste_26 rfl (lv_at hl 1 rfl) ?_
          refine va_iald hx hb hK.1 hP 1 1 rfl rfl (mm_in w4 (by decide)) dX12_paste_27 ?_
          refine lv_topi (fun v15 ev15 => ?_)
          have rv15 : mm_rg v15 (-1) 3 := mm_eqv ev15 (h0 _)
          refine lv_iconst (v := (-1)) hx hb dX12_paste_28 (by decide) ?_
          refine lv_icmp_eq (tgt := 42) hx hb dX12_paste_29 (by decide) (fun c16 => ?_) (fun c16 => ?_)
          · have q17 := mm_eqI (lo := (-1)) (hi := (-1)) c16 rv15 mm_km1 (by decide)
            refine lv_bipush (v := (-6)) hx hb dX12_paste_42 (by decide) ?_
            have w18 : mm_z0 f_0 i_0 := (mm_z0_of ev15 c16)
            subst hAe
            rw [hQ]
            exact W.iret (v := (-6)) hx hb hr (fun t ht hW => ⟨⟨(-6), (f_2, f_3), rfl, (Or.inr (Or.inr (Or.inr (Or.inr (Or.inl ⟨rfl, w4, w11, w18⟩))))), by rw [ht]; exact hP, hK.warm hW, hD⟩, hS.F ht⟩) hS.2.2 dX12_paste_44
          · have q19 := mm_neL (lo := 0) (mm_ne c16) rv15 mm_km1 (by decide) (by decide)
            refine lv_aload_n hx hb dX12_paste_32 rfl (lv_at hl 0 rfl) ?_
            refine va_get (D := G) (ci := 12) (v := .ref a_1) (C := RX12) (T := TX12) (N := 38) hx hb hts (mm_i inlX12) hown hK.1 hP 0 rfl rfl 1 (by decide) (mm_h hts mm_w142) (fun _ h9 => h9) rfl dX12_paste_33 ?_
            refine lv_iload_n hx hb dX12_paste_36 rfl (lv_at hl 3 rfl) ?_
            refine va_iald hx hb hK.1 hP 1 1 rfl rfl (mm_in w11 (by decide)) dX12_paste_37 ?_
            refine lv_topi (fun v20 ev20 => ?_)
            have rv20 : mm_rg v20 (-1) 3 := mm_eqv ev20 (h0 _)
            refine lv_iconst (v := (-1)) hx hb dX12_paste_38 (by decide) ?_
            refine lv_icmp_ne (tgt := 45) hx hb dX12_paste_39 (by decide) (fun c21 => ?_) (fun c21 => ?_)
            · have q22 := mm_neL (lo := 0) (mm_ne c21) rv20 mm_km1 (by decide) (by decide)
              refine lv_aload_n hx hb dX12_paste_45 rfl (lv_at hl 0 rfl) ?_
              refine va_get (D := G) (ci := 12) (v := .ref a_1) (C := RX12) (T := TX12) (N := 38) hx hb hts (mm_i inlX12) hown hK.1 hP 0 rfl rfl 1 (by decide) (mm_h hts mm_w142) (fun _ h9 => h9) rfl dX12_paste_46 ?_
              refine lv_iload_n hx hb dX12_paste_49 rfl (lv_at hl 1 rfl) ?_
              refine va_iald hx hb hK.1 hP 1 1 rfl rfl (mm_in w4 (by decide)) dX12_paste_50 ?_
              refine lv_topi (fun v23 ev23 => ?_)
              have rv23 : mm_rg v23 (-1) 3 := mm_eqv ev23 (h0 _)
              obtain rfl : v15 = v23 := ev15.trans ev23.symm
              refine lv_aload_n hx hb dX12_paste_51 rfl (lv_at hl 0 rfl) ?_
              refine va_get (D := G) (ci := 12) (v := .ref a_1) (C := RX12) (T := TX12) (N := 38) hx hb hts (mm_i inlX12) hown hK.1 hP 0 rfl rfl 1 (by decide) (mm_h hts mm_w142) (fun _ h9 => h9) rfl dX12_paste_52 ?_
              refine lv_iload_n hx hb dX12_paste_55 rfl (lv_at hl 3 rfl) ?_
              refine va_iald hx hb hK.1 hP 1 1 rfl rfl (mm_in w11 (by decide)) dX12_paste_56 ?_
              refine lv_topi (fun v24 ev24 => ?_)
              have rv24 : mm_rg v24 (-1) 3 := mm_eqv ev24 (h0 _)
              obtain rfl : v20 = v24 := ev20.trans ev24.symm
              refine lv_icmp_eq (tgt := 63) hx hb dX12_paste_57 (by decide) (fun c25 => ?_) (fun c25 => ?_)
              · refine lv_iload_n hx hb dX12_paste_63 rfl (lv_at hl 2 rfl) ?_
                refine lv_if_lt (tgt := 112) hx hb dX12_paste_64 (by decide) (fun c26 => ?_) (fun c26 => ?_)
                · have q27 := mm_ltL (h := (-1)) (mm_lt c26) (mm_top i_1) mm_k0 (by decide)
                  refine lv_bipush (v := (-7)) hx hb dX12_paste_112 (by decide) ?_
                  have w28 : mm_z1 f_0 i_0 := (mm_z1_of ev15 (mm_ne c16))
                  have w29 : mm_z1 f_0 i_2 := (mm_z1_of ev20 (mm_ne c21))
                  have w30 : mm_weq f_0 i_0 i_2 := (mm_weq_of ev15 ev20 c25)
                  have w31 : mm_mb f_1 i_0 i_2 i_1 i_3 i_4 := (mm_mb_1 q27 (by decide))
                  subst hAe
                  rw [hQ]
                  exact W.iret (v := (-7)) hx hb hr (fun t ht hW => ⟨⟨(-7), (f_2, f_3), rfl, (Or.inr (Or.inr (Or.inr (Or.inr (Or.inr (Or.inl ⟨rfl, w4, w11, w28, w29, w30, w31⟩)))))), by rw [ht]; exact hP, hK.warm hW, hD⟩, hS.F ht⟩) hS.2.2 dX12_paste_114
                · have q32 := mm_leR (mm_nlt c26) mm_k0 (mm_top i_1)
                  refine lv_iload hx hb dX12_paste_67 (lv_at hl 4 rfl) ?_
                  refine lv_if_lt (tgt := 112) hx hb dX12_paste_69 (by decide) (fun c33 => ?_) (fun c33 => ?_)
                  · have q34 := mm_ltL (h := (-1)) (mm_lt c33) (mm_top i_3) mm_k0 (by decide)
                    refine lv_bipush (v := (-7)) hx hb dX12_paste_112 (by decide) ?_
                    have w35 : mm_z1 f_0 i_0 := (mm_z1_of ev15 (mm_ne c16))
                    have w36 : mm_z1 f_0 i_2 := (mm_z1_of ev20 (mm_ne c21))
                    have w37 : mm_weq f_0 i_0 i_2 := (mm_weq_of ev15 ev20 c25)
                    have w38 : mm_mb f_1 i_0 i_2 i_1 i_3 i_4 := (mm_mb_2 q34 (by decide))
                    subst hAe
                    rw [hQ]
                    exact W.iret (v := (-7)) hx hb hr (fun t ht hW => ⟨⟨(-7), (f_2, f_3), rfl, (Or.inr (Or.inr (Or.inr (Or.inr (Or.inr (Or.inl ⟨rfl, w4, w11, w35, w36, w37, w38⟩)))))), by rw [ht]; exact hP, hK.warm hW, hD⟩, hS.F ht⟩) hS.2.2 dX12_paste_114
                  · have q39 := mm_leR (mm_nlt c33) mm_k0 (mm_top i_3)
                    refine lv_iload hx hb dX12_paste_72 (lv_at hl 5 rfl) ?_
                    refine lv_if_lt (tgt := 112) hx hb dX12_paste_74 (by decide) (fun c40 => ?_) (fun c40 => ?_)
                    · have q41 := mm_ltL (h := (-1)) (mm_lt c40) (mm_top i_4) mm_k0 (by decide)
                      refine lv_bipush (v := (-7)) hx hb dX12_paste_112 (by decide) ?_
                      have w42 : mm_z1 f_0 i_0 := (mm_z1_of ev15 (mm_ne c16))
                      have w43 : mm_z1 f_0 i_2 := (mm_z1_of ev20 (mm_ne c21))
                      have w44 : mm_weq f_0 i_0 i_2 := (mm_weq_of ev15 ev20 c25)
                      have w45 : mm_mb f_1 i_0 i_2 i_1 i_3 i_4 := (mm_mb_3 q41 (by decide))
                      subst hAe
                      rw [hQ]
                      exact W.iret (v := (-7)) hx hb hr (fun t ht hW => ⟨⟨(-7), (f_2, f_3), rfl, (Or.inr (Or.inr (Or.inr (Or.inr (Or.inr (Or.inl ⟨rfl, w4, w11, w42, w43, w44, w45⟩)))))), by rw [ht]; exact hP, hK.warm hW, hD⟩, hS.F ht⟩) hS.2.2 dX12_paste_114
                    · have q46 := mm_leR (mm_nlt c40) mm_k0 (mm_top i_4)
                      refine lv_iload_n hx hb dX12_paste_77 rfl (lv_at hl 2 rfl) ?_
                      obtain ⟨v47, ev47⟩ : ∃ y : Int64, y = i_1.toInt64 := ⟨_, rfl⟩
                      refine lv_i2l hx hb dX12_paste_78 ev47.symm ?_
                      have rv47 : mm_rl v47 0 2147483647 := mm_i2l ev47 q32
                      refine lv_iload hx hb dX12_paste_79 (lv_at hl 5 rfl) ?_
                      obtain ⟨v48, ev48⟩ : ∃ y : Int64, y = i_4.toInt64 := ⟨_, rfl⟩
                      refine lv_i2l hx hb dX12_paste_81 ev48.symm ?_
                      have rv48 : mm_rl v48 0 2147483647 := mm_i2l ev48 q46
                      refine lv_ladd hx hb dX12_paste_82 ?_
                      refine lv_topl (fun v49 ev49 => ?_)
                      have rv49 : mm_rl v49 0 4294967294 := mm_addl ev49 rv47 rv48 (by decide) (by decide)
                      have tv49 := mm_addlE ev49 rv47 rv48 (by decide)
                      refine lv_aload_n hx hb dX12_paste_83 rfl (lv_at hl 0 rfl) ?_
                      refine va_get (D := G) (ci := 12) (v := .ref a_2) (C := RX12) (T := TX12) (N := 38) hx hb hts (mm_i inlX12) hown hK.1 hP 0 rfl rfl 2 (by decide) (mm_h hts mm_w143) (fun _ h9 => h9) rfl dX12_paste_84 ?_
                      refine lv_iload_n hx hb dX12_paste_87 rfl (lv_at hl 1 rfl) ?_
                      refine va_iald hx hb hK.1 hP 2 1 rfl rfl (mm_in w4 (by decide)) dX12_paste_88 ?_
                      refine lv_topi (fun v50 ev50 => ?_)
                      have rv50 : mm_rg v50 0 60 := mm_eqv ev50 (h1 _)
                      obtain ⟨v51, ev51⟩ : ∃ y : Int64, y = v50.toInt64 := ⟨_, rfl⟩
                      refine lv_i2l hx hb dX12_paste_89 ev51.symm ?_
                      have rv51 : mm_rl v51 0 60 := mm_i2l ev51 rv50
                      refine W.lcmp hx hb dX12_paste_90 ?_
                      refine lv_topi (fun v52 ev52 => ?_)
                      refine lv_if_gt (tgt := 112) hx hb dX12_paste_91 (by decide) (fun c53 => ?_) (fun c53 => ?_)
                      · have q54 := mm_ltRl (lo := 1) (mm_cmp_gt ev52 c53) rv51 rv49 (by decide)
                        refine lv_bipush (v := (-7)) hx hb dX12_paste_112 (by decide) ?_
                        have w55 : mm_z1 f_0 i_0 := (mm_z1_of ev15 (mm_ne c16))
                        have w56 : mm_z1 f_0 i_2 := (mm_z1_of ev20 (mm_ne c21))
                        have w57 : mm_weq f_0 i_0 i_2 := (mm_weq_of ev15 ev20 c25)
                        have w58 : mm_mb f_1 i_0 i_2 i_1 i_3 i_4 := (mm_mb_4 (mm_i2lE ev47) (mm_i2lE ev48) (mm_i2lE ev51) tv49 (mm_cmp_gt ev52 c53) ev50)
                        subst hAe
                        rw [hQ]
                        exact W.iret (v := (-7)) hx hb hr (fun t ht hW => ⟨⟨(-7), (f_2, f_3), rfl, (Or.inr (Or.inr (Or.inr (Or.inr (Or.inr (Or.inl ⟨rfl, w4, w11, w55, w56, w57, w58⟩)))))), by rw [ht]; exact hP, hK.warm hW, hD⟩, hS.F ht⟩) hS.2.2 dX12_paste_114
                      · have q59 := mm_leLl (mm_cmp_le ev52 (mm_n_gt c53)) rv49 rv51
                        have w60 : mm_sm i_1 i_4 v50 := mm_sm_of (mm_i2lE ev47) (mm_i2lE ev48) (mm_i2lE ev51) tv49 (mm_cmp_le ev52 (mm_n_gt c53))
                        have q61 : mm_rg i_1 0 60 := mm_sm_1 w60 q32 q46 rv50 (by decide)
                        have q62 : mm_rg i_4 0 60 := mm_sm_2 w60 q46 q32 rv50 (by decide)
                        refine lv_iload hx hb dX12_paste_94 (lv_at hl 4 rfl) ?_
                        obtain ⟨v63, ev63⟩ : ∃ y : Int64, y = i_3.toInt64 := ⟨_, rfl⟩
                        refine lv_i2l hx hb dX12_paste_96 ev63.symm ?_
                        have rv63 : mm_rl v63 0 2147483647 := mm_i2l ev63 q39
                        refine lv_iload hx hb dX12_paste_97 (lv_at hl 5 rfl) ?_
                        obtain ⟨v64, ev64⟩ : ∃ y : Int64, y = i_4.toInt64 := ⟨_, rfl⟩
                        refine lv_i2l hx hb dX12_paste_99 ev64.symm ?_
                        have rv64 : mm_rl v64 0 60 := mm_i2l ev64 q62
                        refine lv_ladd hx hb dX12_paste_100 ?_
                        refine lv_topl (fun v65 ev65 => ?_)
                        have rv65 : mm_rl v65 0 2147483707 := mm_addl ev65 rv63 rv64 (by decide) (by decide)
                        have tv65 := mm_addlE ev65 rv63 rv64 (by decide)
                        refine lv_aload_n hx hb dX12_paste_101 rfl (lv_at hl 0 rfl) ?_
                        refine va_get (D := G) (ci := 12) (v := .ref a_2) (C := RX12) (T := TX12) (N := 38) hx hb hts (mm_i inlX12) hown hK.1 hP 0 rfl rfl 2 (by decide) (mm_h hts mm_w143) (fun _ h9 => h9) rfl dX12_paste_102 ?_
                        refine lv_iload_n hx hb dX12_paste_105 rfl (lv_at hl 3 rfl) ?_
                        refine va_iald hx hb hK.1 hP 2 1 rfl rfl (mm_in w11 (by decide)) dX12_paste_106 ?_
                        refine lv_topi (fun v66 ev66 => ?_)
                        have rv66 : mm_rg v66 0 60 := mm_eqv ev66 (h1 _)
                        obtain ⟨v67, ev67⟩ : ∃ y : Int64, y = v66.toInt64 := ⟨_, rfl⟩
                        refine lv_i2l hx hb dX12_paste_107 ev67.symm ?_
                        have rv67 : mm_rl v67 0 60 := mm_i2l ev67 rv66
                        refine W.lcmp hx hb dX12_paste_108 ?_
                        refine lv_topi (fun v68 ev68 => ?_)
                        refine lv_if_le (tgt := 115) hx hb dX12_paste_109 (by decide) (fun c69 => ?_) (fun c69 => ?_)
                        · have q70 := mm_leLl (mm_cmp_le ev68 c69) rv65 rv67
                          have w71 : mm_sm i_3 i_4 v66 := mm_sm_of (mm_i2lE ev63) (mm_i2lE ev64) (mm_i2lE ev67) tv65 (mm_cmp_le ev68 c69)
                          have q72 : mm_rg i_3 0 60 := mm_sm_1 w71 q39 q62 rv66 (by decide)
                          refine lv_iconst (v := 0) hx hb dX12_paste_115 (by decide) ?_
                          refine lv_istore (lv' := [(6, .int 0), (0, .ref a_0), (1, .int i_0), (2, .int i_1), (3, .int i_2), (4, .int i_3), (5, .int i_4)]) hx hb dX12_paste_116 hl (by decide) rfl ?_
                          clear hl
                          clear ls
                          intro ls hl
                          have L118_199 : ∀ (n : Nat) (x118_6_198 : Int32) (z118_4_199 : Nat → Int64), mm_rg x118_6_198 0 60 → (60 - x118_6_198.toInt).toNat < n → ∀ (H : Heap) (locs : List Loc), va_P G vwCl [(a_0, .inr (12, [.int 0, .ref a_1, .ref a_2, .ref a_3, .ref a_4, .ref a_5, .int i_6, .int i_7, .int i_8, .int i_9, .int i_10, .long j_0, .int i_11, .int i_12, .int i_13, .int i_14, .ref a_6, .ref a_7, .ref a_8, .ref a_9, .ref a_10, .ref a_11, .ref a_12, .ref a_13, .ref a_14, .ref a_15, .ref a_16, .ref a_17, .ref a_18, .int i_15, .int i_16, .int i_17, .int i_18, .int i_19, .int i_20, .ref a_19, .int i_21, .ref a_20])), (a_1, .inl (cy 1, 4, .inl f_0)), (a_2, .inl (cy 1, 4, .inl f_1)), (a_3, .inl (cy 2, 240, .inr (.inl f_2))), (a_4, .inl (cy 2, 60, .inr (.inl z118_4_199)))] H → va_D A [(a_0, .inr (12, [.int 0, .ref a_1, .ref a_2, .ref a_3, .ref a_4, .ref a_5, .int i_6, .int i_7, .int i_8, .int i_9, .int i_10, .long j_0, .int i_11, .int i_12, .int i_13, .int i_14, .ref a_6, .ref a_7, .ref a_8, .ref a_9, .ref a_10, .ref a_11, .ref a_12, .ref a_13, .ref a_14, .ref a_15, .ref a_16, .ref a_17, .ref a_18, .int i_15, .int i_16, .int i_17, .int i_18, .int i_19, .int i_20, .ref a_19, .int i_21, .ref a_20])), (a_1, .inl (cy 1, 4, .inl f_0)), (a_2, .inl (cy 1, 4, .inl f_1)), (a_3, .inl (cy 2, 240, .inr (.inl f_2))), (a_4, .inl (cy 2, 60, .inr (.inl z118_4_199)))] → va_S A s.heap H locs → ∀ (ls : Array Slot), lv_has ls 7 [(6, .int x118_6_198), (0, .ref a_0), (1, .int i_0), (2, .int i_1), (3, .int i_2), (4, .int i_3), (5, .int i_4)] → W p l e R s m args below meth c H locs 0 0 Q (F0 m 118 ls []) := by
                            intro n
                            induction n with
                            | zero => intro x118_6_198 z118_4_199 rx118_6_198 hm; exact absurd hm (Nat.not_lt_zero _)
                            | succ n ih118 =>
                              intro x118_6_198 z118_4_199 rx118_6_198 hm118 H locs hP hD hS ls hl
                              refine lv_iload hx hb dX12_paste_118 (lv_at hl 0 rfl) ?_
                              refine lv_iload hx hb dX12_paste_120 (lv_at hl 6 rfl) ?_
                              refine lv_icmp_ge (tgt := 152) hx hb dX12_paste_122 (by decide) (fun c201 => ?_) (fun c201 => ?_)
                              · refine lv_iconst (v := 0) hx hb dX12_paste_152 (by decide) ?_
                                refine lv_istore (lv' := [(6, .int 0), (0, .ref a_0), (1, .int i_0), (2, .int i_1), (3, .int i_2), (4, .int i_3), (5, .int i_4)]) hx hb dX12_paste_153 hl (by decide) rfl ?_
                                clear hl
                                clear ls
                                intro ls hl
                                have L155_342 : ∀ (n : Nat) (x155_6_341 : Int32) (z155_3_342 : Nat → Int64), mm_rg x155_6_341 0 60 → (60 - x155_6_341.toInt).toNat < n → ∀ (H : Heap) (locs : List Loc), va_P G vwCl [(a_0, .inr (12, [.int 0, .ref a_1, .ref a_2, .ref a_3, .ref a_4, .ref a_5, .int i_6, .int i_7, .int i_8, .int i_9, .int i_10, .long j_0, .int i_11, .int i_12, .int i_13, .int i_14, .ref a_6, .ref a_7, .ref a_8, .ref a_9, .ref a_10, .ref a_11, .ref a_12, .ref a_13, .ref a_14, .ref a_15, .ref a_16, .ref a_17, .ref a_18, .int i_15, .int i_16, .int i_17, .int i_18, .int i_19, .int i_20, .ref a_19, .int i_21, .ref a_20])), (a_1, .inl (cy 1, 4, .inl f_0)), (a_2, .inl (cy 1, 4, .inl f_1)), (a_3, .inl (cy 2, 240, .inr (.inl z155_3_342))), (a_4, .inl (cy 2, 60, .inr (.inl z118_4_199)))] H → va_D A [(a_0, .inr (12, [.int 0, .ref a_1, .ref a_2, .ref a_3, .ref a_4, .ref a_5, .int i_6, .int i_7, .int i_8, .int i_9, .int i_10, .long j_0, .int i_11, .int i_12, .int i_13, .int i_14, .ref a_6, .ref a_7, .ref a_8, .ref a_9, .ref a_10, .ref a_11, .ref a_12, .ref a_13, .ref a_14, .ref a_15, .ref a_16, .ref a_17, .ref a_18, .int i_15, .int i_16, .int i_17, .int i_18, .int i_19, .int i_20, .ref a_19, .int i_21, .ref a_20])), (a_1, .inl (cy 1, 4, .inl f_0)), (a_2, .inl (cy 1, 4, .inl f_1)), (a_3, .inl (cy 2, 240, .inr (.inl z155_3_342))), (a_4, .inl (cy 2, 60, .inr (.inl z118_4_199)))] → va_S A s.heap H locs → ∀ (ls : Array Slot), lv_has ls 7 [(6, .int x155_6_341), (0, .ref a_0), (1, .int i_0), (2, .int i_1), (3, .int i_2), (4, .int i_3), (5, .int i_4)] → W p l e R s m args below meth c H locs 0 0 Q (F0 m 155 ls []) := by
                                  intro n
                                  induction n with
                                  | zero => intro x155_6_341 z155_3_342 rx155_6_341 hm; exact absurd hm (Nat.not_lt_zero _)
                                  | succ n ih155 =>
                                    intro x155_6_341 z155_3_342 rx155_6_341 hm155 H locs hP hD hS ls hl
                                    refine lv_iload hx hb dX12_paste_155 (lv_at hl 0 rfl) ?_
                                    refine lv_iload hx hb dX12_paste_157 (lv_at hl 6 rfl) ?_
                                    refine lv_icmp_ge (tgt := 190) hx hb dX12_paste_159 (by decide) (fun c344 => ?_) (fun c344 => ?_)
                                    · refine lv_iconst (v := 0) hx hb dX12_paste_190 (by decide) ?_
                                      have w345 : mm_z1 f_0 i_0 := (mm_z1_of ev15 (mm_ne c16))
                                      have w346 : mm_z1 f_0 i_2 := (mm_z1_of ev20 (mm_ne c21))
                                      have w347 : mm_weq f_0 i_0 i_2 := (mm_weq_of ev15 ev20 c25)
                                      have w348 : mm_mg f_1 i_0 i_2 i_1 i_3 i_4 := (mm_mg_of w60 w71 ev50 ev66 q61 q72 q62 (by decide))
                                      subst hAe
                                      rw [hQ]
                                      exact W.iret (v := 0) hx hb hr (fun t ht hW => ⟨⟨0, (z155_3_342, z118_4_199), rfl, (Or.inr (Or.inr (Or.inr (Or.inr (Or.inr (Or.inr (Or.inl ⟨rfl, w4, w11, w345, w346, w347, w348⟩))))))), by rw [ht]; exact hP, hK.warm hW, hD⟩, hS.F ht⟩) hS.2.2 dX12_paste_191
                                    · have q349 := mm_ltL (h := 59) (mm_nle c344) rx155_6_341 q62 (by decide)
                                      have q350 := mm_ltR (lo := 1) (mm_nle c344) rx155_6_341 q62 (by decide)
                                      have q351 := mm_leR (mm_le c201) q350 rx118_6_198
                                      refine lv_aload_n hx hb dX12_paste_162 rfl (lv_at hl 1 rfl) ?_
                                      refine va_get (D := G) (ci := 12) (v := .ref a_3) (C := RX12) (T := TX12) (N := 38) hx hb hts (mm_i inlX12) hown hK.1 hP 0 rfl rfl 3 (by decide) (mm_h hts mm_w144) (fun _ h9 => h9) rfl dX12_paste_163 ?_
                                      refine lv_bipush (v := 60) hx hb dX12_paste_166 (by decide) ?_
                                      refine lv_iload_n hx hb dX12_paste_168 rfl (lv_at hl 4 rfl) ?_
                                      refine lv_imul hx hb dX12_paste_169 ?_
                                      refine lv_topi (fun v352 ev352 => ?_)
                                      have rv352 : mm_rg v352 0 180 := mm_mul ev352 mm_k60 w11 (by decide) (by decide)
                                      have tv352 := mm_mulEc ev352 mm_k60 w11 (by decide) (k := 60) (by decide)
                                      refine lv_iload hx hb dX12_paste_170 (lv_at hl 5 rfl) ?_
                                      refine lv_iadd hx hb dX12_paste_172 ?_
                                      refine lv_topi (fun v353 ev353 => ?_)
                                      have rv353 : mm_rg v353 0 240 := mm_add ev353 rv352 q72 (by decide) (by decide)
                                      have tv353 := mm_addE ev353 rv352 q72 (by decide)
                                      refine lv_iload hx hb dX12_paste_173 (lv_at hl 0 rfl) ?_
                                      refine lv_iadd hx hb dX12_paste_175 ?_
                                      refine lv_topi (fun v354 ev354 => ?_)
                                      have rv354 : mm_rg v354 0 299 := mm_add ev354 rv353 q349 (by decide) (by decide)
                                      have tv354 := mm_addE ev354 rv353 q349 (by decide)
                                      refine lv_aload_n hx hb dX12_paste_176 rfl (lv_at hl 1 rfl) ?_
                                      refine va_get (D := G) (ci := 12) (v := .ref a_4) (C := RX12) (T := TX12) (N := 38) hx hb hts (mm_i inlX12) hown hK.1 hP 0 rfl rfl 4 (by decide) (mm_h hts mm_w145) (fun _ h9 => h9) rfl dX12_paste_177 ?_
                                      refine lv_iload hx hb dX12_paste_180 (lv_at hl 0 rfl) ?_
                                      refine va_lald hx hb hK.1 hP 4 2 rfl rfl (mm_in q349 (by decide)) dX12_paste_182 ?_
                                      refine lv_topl (fun v355 ev355 => ?_)
                                      have q356 : mm_rg v354 0 239 := mm_sm_in w71 (mm_nle c344) (by have := tv354; have := tv353; have := tv352; omega) w11 q72 q349 rv66 (by decide)
                                      refine va_last hx hb hK.1 hP hD hS 3 2 rfl rfl (mm_in q356 (by decide)) dX12_paste_183 ?_
                                      clear hP hD hS
                                      clear H locs
                                      obtain ⟨g357, eg357⟩ : ∃ z : Nat → Int64, z = vp_updL z155_3_342 v354.toNatClampNeg v355 := ⟨_, rfl⟩
                                      rw [← eg357]
                                      intro H locs (hP : va_P G vwCl [(a_0, .inr (12, [.int 0, .ref a_1, .ref a_2, .ref a_3, .ref a_4, .ref a_5, .int i_6, .int i_7, .int i_8, .int i_9, .int i_10, .long j_0, .int i_11, .int i_12, .int i_13, .int i_14, .ref a_6, .ref a_7, .ref a_8, .ref a_9, .ref a_10, .ref a_11, .ref a_12, .ref a_13, .ref a_14, .ref a_15, .ref a_16, .ref a_17, .ref a_18, .int i_15, .int i_16, .int i_17, .int i_18, .int i_19, .int i_20, .ref a_19, .int i_21, .ref a_20])), (a_1, .inl (cy 1, 4, .inl f_0)), (a_2, .inl (cy 1, 4, .inl f_1)), (a_3, .inl (cy 2, 240, .inr (.inl g357))), (a_4, .inl (cy 2, 60, .inr (.inl z118_4_199)))] H) (hD : va_D A [(a_0, .inr (12, [.int 0, .ref a_1, .ref a_2, .ref a_3, .ref a_4, .ref a_5, .int i_6, .int i_7, .int i_8, .int i_9, .int i_10, .long j_0, .int i_11, .int i_12, .int i_13, .int i_14, .ref a_6, .ref a_7, .ref a_8, .ref a_9, .ref a_10, .ref a_11, .ref a_12, .ref a_13, .ref a_14, .ref a_15, .ref a_16, .ref a_17, .ref a_18, .int i_15, .int i_16, .int i_17, .int i_18, .int i_19, .int i_20, .ref a_19, .int i_21, .ref a_20])), (a_1, .inl (cy 1, 4, .inl f_0)), (a_2, .inl (cy 1, 4, .inl f_1)), (a_3, .inl (cy 2, 240, .inr (.inl g357))), (a_4, .inl (cy 2, 60, .inr (.inl z118_4_199)))]) hS
                                      obtain ⟨v358, ev358⟩ : ∃ y : Int32, y = x155_6_341 + 1 := ⟨_, rfl⟩
                                      refine lv_iinc (v := v358) (lv' := [(6, .int v358), (0, .ref a_0), (1, .int i_0), (2, .int i_1), (3, .int i_2), (4, .int i_3), (5, .int i_4)]) hx hb dX12_paste_184 hl (k := 0) rfl (by rw [ev358]; rfl) (by decide) rfl ?_
                                      clear hl
                                      clear ls
                                      intro ls hl
                                      have rv358 : mm_rg v358 1 60 := mm_add ev358 q349 mm_k1 (by decide) (by decide)
                                      have tv358 := mm_addEc ev358 q349 mm_k1 (by decide) (k := 1) (by decide)
                                      refine lv_goto (tgt := 155) hx hb dX12_paste_187 (by decide) ?_
                                      exact ih155 v358 g357 (mm_wk rv358 (by decide)) (mm_mu hm155 tv358 (by decide) (rv358).2 (by decide)) H locs hP hD hS ls (lv_sub hl [0, 1, 2, 3, 4, 5, 6] rfl)
                                exact L155_342 _ 0 f_2 (mm_wk mm_k0 (by decide)) (Nat.lt_succ_self _) H locs hP hD hS ls (lv_sub hl [0, 1, 2, 3, 4, 5, 6] rfl)
                              · have q359 := mm_ltL (h := 59) (mm_nle c201) rx118_6_198 q62 (by decide)
                                have q360 := mm_ltR (lo := 1) (mm_nle c201) rx118_6_198 q62 (by decide)
                                refine lv_aload_n hx hb dX12_paste_125 rfl (lv_at hl 1 rfl) ?_
                                refine va_get (D := G) (ci := 12) (v := .ref a_4) (C := RX12) (T := TX12) (N := 38) hx hb hts (mm_i inlX12) hown hK.1 hP 0 rfl rfl 4 (by decide) (mm_h hts mm_w145) (fun _ h9 => h9) rfl dX12_paste_126 ?_
                                refine lv_iload hx hb dX12_paste_129 (lv_at hl 0 rfl) ?_
                                refine lv_aload_n hx hb dX12_paste_131 rfl (lv_at hl 1 rfl) ?_
                                refine va_get (D := G) (ci := 12) (v := .ref a_3) (C := RX12) (T := TX12) (N := 38) hx hb hts (mm_i inlX12) hown hK.1 hP 0 rfl rfl 3 (by decide) (mm_h hts mm_w144) (fun _ h9 => h9) rfl dX12_paste_132 ?_
                                refine lv_bipush (v := 60) hx hb dX12_paste_135 (by decide) ?_
                                refine lv_iload_n hx hb dX12_paste_137 rfl (lv_at hl 2 rfl) ?_
                                refine lv_imul hx hb dX12_paste_138 ?_
                                refine lv_topi (fun v361 ev361 => ?_)
                                have rv361 : mm_rg v361 0 180 := mm_mul ev361 mm_k60 w4 (by decide) (by decide)
                                have tv361 := mm_mulEc ev361 mm_k60 w4 (by decide) (k := 60) (by decide)
                                refine lv_iload_n hx hb dX12_paste_139 rfl (lv_at hl 3 rfl) ?_
                                refine lv_iadd hx hb dX12_paste_140 ?_
                                refine lv_topi (fun v362 ev362 => ?_)
                                have rv362 : mm_rg v362 0 240 := mm_add ev362 rv361 q61 (by decide) (by decide)
                                have tv362 := mm_addE ev362 rv361 q61 (by decide)
                                refine lv_iload hx hb dX12_paste_141 (lv_at hl 0 rfl) ?_
                                refine lv_iadd hx hb dX12_paste_143 ?_
                                refine lv_topi (fun v363 ev363 => ?_)
                                have rv363 : mm_rg v363 0 299 := mm_add ev363 rv362 q359 (by decide) (by decide)
                                have tv363 := mm_addE ev363 rv362 q359 (by decide)
                                have q364 : mm_rg v363 0 239 := mm_sm_in w60 (mm_nle c201) (by have := tv363; have := tv362; have := tv361; omega) w4 q61 q359 rv50 (by decide)
                                refine va_lald hx hb hK.1 hP 3 2 rfl rfl (mm_in q364 (by decide)) dX12_paste_144 ?_
                                refine lv_topl (fun v365 ev365 => ?_)
                                refine va_last hx hb hK.1 hP hD hS 4 2 rfl rfl (mm_in q359 (by decide)) dX12_paste_145 ?_
                                clear hP hD hS
                                clear H locs
                                obtain ⟨g366, eg366⟩ : ∃ z : Nat → Int64, z = vp_updL z118_4_199 x118_6_198.toNatClampNeg v365 := ⟨_, rfl⟩
                                rw [← eg366]
                                intro H locs (hP : va_P G vwCl [(a_0, .inr (12, [.int 0, .ref a_1, .ref a_2, .ref a_3, .ref a_4, .ref a_5, .int i_6, .int i_7, .int i_8, .int i_9, .int i_10, .long j_0, .int i_11, .int i_12, .int i_13, .int i_14, .ref a_6, .ref a_7, .ref a_8, .ref a_9, .ref a_10, .ref a_11, .ref a_12, .ref a_13, .ref a_14, .ref a_15, .ref a_16, .ref a_17, .ref a_18, .int i_15, .int i_16, .int i_17, .int i_18, .int i_19, .int i_20, .ref a_19, .int i_21, .ref a_20])), (a_1, .inl (cy 1, 4, .inl f_0)), (a_2, .inl (cy 1, 4, .inl f_1)), (a_3, .inl (cy 2, 240, .inr (.inl f_2))), (a_4, .inl (cy 2, 60, .inr (.inl g366)))] H) (hD : va_D A [(a_0, .inr (12, [.int 0, .ref a_1, .ref a_2, .ref a_3, .ref a_4, .ref a_5, .int i_6, .int i_7, .int i_8, .int i_9, .int i_10, .long j_0, .int i_11, .int i_12, .int i_13, .int i_14, .ref a_6, .ref a_7, .ref a_8, .ref a_9, .ref a_10, .ref a_11, .ref a_12, .ref a_13, .ref a_14, .ref a_15, .ref a_16, .ref a_17, .ref a_18, .int i_15, .int i_16, .int i_17, .int i_18, .int i_19, .int i_20, .ref a_19, .int i_21, .ref a_20])), (a_1, .inl (cy 1, 4, .inl f_0)), (a_2, .inl (cy 1, 4, .inl f_1)), (a_3, .inl (cy 2, 240, .inr (.inl f_2))), (a_4, .inl (cy 2, 60, .inr (.inl g366)))]) hS
                                obtain ⟨v367, ev367⟩ : ∃ y : Int32, y = x118_6_198 + 1 := ⟨_, rfl⟩
                                refine lv_iinc (v := v367) (lv' := [(6, .int v367), (0, .ref a_0), (1, .int i_0), (2, .int i_1), (3, .int i_2), (4, .int i_3), (5, .int i_4)]) hx hb dX12_paste_146 hl (k := 0) rfl (by rw [ev367]; rfl) (by decide) rfl ?_
                                clear hl
                                clear ls
                                intro ls hl
                                have rv367 : mm_rg v367 1 60 := mm_add ev367 q359 mm_k1 (by decide) (by decide)
                                have tv367 := mm_addEc ev367 q359 mm_k1 (by decide) (k := 1) (by decide)
                                refine lv_goto (tgt := 118) hx hb dX12_paste_149 (by decide) ?_
                                exact ih118 v367 g366 (mm_wk rv367 (by decide)) (mm_mu hm118 tv367 (by decide) (rv367).2 (by decide)) H locs hP hD hS ls (lv_sub hl [0, 1, 2, 3, 4, 5, 6] rfl)
                          exact L118_199 _ 0 f_3 (mm_wk mm_k0 (by decide)) (Nat.lt_succ_self _) H locs hP hD hS ls (lv_sub hl [0, 1, 2, 3, 4, 5, 6] rfl)
                        · have q368 := mm_ltRl (lo := 1) (mm_cmp_gt ev68 (mm_n_le c69)) rv67 rv65 (by decide)
                          refine lv_bipush (v := (-7)) hx hb dX12_paste_112 (by decide) ?_
                          have w369 : mm_z1 f_0 i_0 := (mm_z1_of ev15 (mm_ne c16))
                          have w370 : mm_z1 f_0 i_2 := (mm_z1_of ev20 (mm_ne c21))
                          have w371 : mm_weq f_0 i_0 i_2 := (mm_weq_of ev15 ev20 c25)
                          have w372 : mm_mb f_1 i_0 i_2 i_1 i_3 i_4 := (mm_mb_5 (mm_i2lE ev63) (mm_i2lE ev64) (mm_i2lE ev67) tv65 (mm_cmp_gt ev68 (mm_n_le c69)) ev66)
                          subst hAe
                          rw [hQ]
                          exact W.iret (v := (-7)) hx hb hr (fun t ht hW => ⟨⟨(-7), (f_2, f_3), rfl, (Or.inr (Or.inr (Or.inr (Or.inr (Or.inr (Or.inl ⟨rfl, w4, w11, w369, w370, w371, w372⟩)))))), by rw [ht]; exact hP, hK.warm hW, hD⟩, hS.F ht⟩) hS.2.2 dX12_paste_114
              · refine lv_bipush (v := (-8)) hx hb dX12_paste_60 (by decide) ?_
                have w373 : mm_z1 f_0 i_0 := (mm_z1_of ev15 (mm_ne c16))
                have w374 : mm_z1 f_0 i_2 := (mm_z1_of ev20 (mm_ne c21))
                have w375 : mm_wne f_0 i_0 i_2 := (mm_wne_of ev15 ev20 (mm_ne c25))
                subst hAe
                rw [hQ]
                exact W.iret (v := (-8)) hx hb hr (fun t ht hW => ⟨⟨(-8), (f_2, f_3), rfl, (Or.inr (Or.inr (Or.inr (Or.inr (Or.inr (Or.inr (Or.inr (Or.inl ⟨rfl, w4, w11, w373, w374, w375⟩)))))))), by rw [ht]; exact hP, hK.warm hW, hD⟩, hS.F ht⟩) hS.2.2 dX12_paste_62
            · have q376 := mm_eqI (lo := (-1)) (hi := (-1)) c21 rv20 mm_km1 (by decide)
              refine lv_bipush (v := (-6)) hx hb dX12_paste_42 (by decide) ?_
              have w377 : mm_z1 f_0 i_0 := (mm_z1_of ev15 (mm_ne c16))
              have w378 : mm_z0 f_0 i_2 := (mm_z0_of ev20 c21)
              subst hAe
              rw [hQ]
              exact W.iret (v := (-6)) hx hb hr (fun t ht hW => ⟨⟨(-6), (f_2, f_3), rfl, (Or.inr (Or.inr (Or.inr (Or.inr (Or.inr (Or.inr (Or.inr (Or.inr ⟨rfl, w4, w11, w377, w378⟩)))))))), by rw [ht]; exact hP, hK.warm hW, hD⟩, hS.F ht⟩) hS.2.2 dX12_paste_44
        · exact mm_eqN c14.symm mm_k0 mm_k1 (by decide)

