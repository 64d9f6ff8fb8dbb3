set_option maxHeartbeats 4000000 in
set_option maxRecDepth 100000 in
theorem C544_X11_isSlot (l : Launch) (G : va_G) (cy : Nat → ClassId) (sz : Nat) (i_0 : Int32)   : mm_CI l yX11_isSlot (mm_ws yX11_isSlot cX11_isSlot 1 (some .boolean)) ({ frames := 0, cells := 0, slots := 0, locals := 0 } : Room) G cy sz [] [.int i_0] (fun u : Unit => []) (fun (r : Int32) (u : Unit) => ((0 = r ∧ mm_rg i_0 (-2147483648) (-1)) ∨ (0 = r ∧ mm_rg i_0 4 2147483647) ∨ (1 = r ∧ mm_rg i_0 0 3))) 0 0 := by
  refine mm_begin (lv := [(0, .int i_0)]) (by decide) (Nat.le_of_ble_eq_true rfl) rfl ?_
  intro p e s m below meth c A ls R args Q H locs hRe hQ hAe hx hb hr hlocks hml hown hnm hts hsz hA hS hP hK hD hZ hl
  have hRf : R.frames = 0 := by rw [hRe]
  have hRl : R.locals = 0 := by rw [hRe]
  have hRc : R.cells = 0 := by rw [hRe]
  have hRs : R.slots = 0 := by rw [hRe]
  refine lv_iload_n hx hb dX11_isSlot_0 rfl (lv_at hl 0 rfl) ?_
  refine lv_if_lt (tgt := 13) hx hb dX11_isSlot_1 (by decide) (fun c1 => ?_) (fun c1 => ?_)
  · have q2 := mm_ltL (h := (-1)) (mm_lt c1) (mm_top i_0) mm_k0 (by decide)
    refine lv_iconst (v := 0) hx hb dX11_isSlot_13 (by decide) ?_
    subst hAe
    rw [hQ]
    exact W.zret (v := 0) hx hb hr rfl (fun t ht hW => ⟨⟨0, (), rfl, (Or.inl ⟨rfl, q2⟩), by rw [ht]; exact hP, hK.warm hW, hD⟩, hS.F ht⟩) hS.2.2 dX11_isSlot_14
  · have q3 := mm_leR (mm_nlt c1) mm_k0 (mm_top i_0)
    refine lv_iload_n hx hb dX11_isSlot_4 rfl (lv_at hl 0 rfl) ?_
    refine lv_iconst (v := 4) hx hb dX11_isSlot_5 (by decide) ?_
    refine lv_icmp_ge (tgt := 13) hx hb dX11_isSlot_6 (by decide) (fun c4 => ?_) (fun c4 => ?_)
    · have q5 := mm_leR (mm_le c4) mm_k4 q3
      refine lv_iconst (v := 0) hx hb dX11_isSlot_13 (by decide) ?_
      subst hAe
      rw [hQ]
      exact W.zret (v := 0) hx hb hr rfl (fun t ht hW => ⟨⟨0, (), rfl, (Or.inr (Or.inl ⟨rfl, q5⟩)), by rw [ht]; exact hP, hK.warm hW, hD⟩, hS.F ht⟩) hS.2.2 dX11_isSlot_14
    · have q6 := mm_ltL (h := 3) (mm_nle c4) q3 mm_k4 (by decide)
      refine lv_iconst (v := 1) hx hb dX11_isSlot_9 (by decide) ?_
      refine lv_goto (tgt := 14) hx hb dX11_isSlot_10 (by decide) ?_
      subst hAe
      rw [hQ]
      exact W.zret (v := 1) hx hb hr rfl (fun t ht hW => ⟨⟨1, (), rfl, (Or.inr (Or.inr ⟨rfl, q6⟩)), by rw [ht]; exact hP, hK.warm hW, hD⟩, hS.F ht⟩) hS.2.2 dX11_isSlot_14

set_option maxHeartbeats 4000000 in
set_option maxRecDepth 100000 in
theorem C545_X11_row (l : Launch) (G : va_G) (cy : Nat → ClassId) (sz : Nat) (a_0 : Nat) (i_0 : Int32) (i_1 : Int32) (i_2 : Int32) (a_1 : Nat) (a_2 : Nat) (a_3 : Nat) (a_4 : Nat) (a_5 : Nat) (a_6 : Nat) (a_7 : Nat) (a_8 : Nat) (a_9 : Nat) (a_10 : Nat) (a_11 : Nat) (a_12 : Nat) (a_13 : Nat) (a_14 : Nat) (a_15 : Nat) (i_3 : Int32) (i_4 : Int32) (i_5 : Int32) (a_16 : Nat) (f_0 : Nat → Int64) (i_6 : Int32) (i_7 : Int32) (i_8 : Int32) (a_17 : Nat) (f_1 : Nat → Int64) (i_9 : Int32) (i_10 : Int32) (i_11 : Int32) (a_18 : Nat) (f_2 : Nat → Int64) (i_12 : Int32) (i_13 : Int32) (i_14 : Int32) (a_19 : Nat) (f_3 : Nat → Int64) (h0 : mm_rg i_3 0 1) (h1 : mm_rg i_4 0 3) (h2 : mm_rg i_5 0 60) (h3 : mm_rg i_6 0 1) (h4 : mm_rg i_7 0 3) (h5 : mm_rg i_8 0 60) (h6 : mm_rg i_9 0 1) (h7 : mm_rg i_10 0 3) (h8 : mm_rg i_11 0 60) (h9 : mm_rg i_12 0 1) (h10 : mm_rg i_13 0 3) (h11 : mm_rg i_14 0 60)  : mm_CI l yX11_row (mm_ws yX11_row cX11_row 4 (some .int)) ({ frames := 2, cells := 0, slots := 0, locals := 62 } : Room) G cy sz [(a_0, .inr (11, [.ref a_1, .ref a_2, .ref a_3, .ref a_4, .ref a_5, .ref a_6, .ref a_7, .ref a_8, .ref a_9, .ref a_10, .ref a_11])), (a_6, .inl (cy 6, 4, .inr (.inr (.inr (.inr (va_up (va_up (va_up (va_up (fun _ => none) 0 (some a_12)) 1 (some a_13)) 2 (some a_14)) 3 (some a_15))))))), (a_12, .inr (6, [.int i_3, .int i_4, .int i_5, .ref a_16])), (a_16, .inl (cy 2, 60, .inr (.inl f_0))), (a_13, .inr (6, [.int i_6, .int i_7, .int i_8, .ref a_17])), (a_17, .inl (cy 2, 60, .inr (.inl f_1))), (a_14, .inr (6, [.int i_9, .int i_10, .int i_11, .ref a_18])), (a_18, .inl (cy 2, 60, .inr (.inl f_2))), (a_15, .inr (6, [.int i_12, .int i_13, .int i_14, .ref a_19])), (a_19, .inl (cy 2, 60, .inr (.inl f_3)))] [.ref a_0, .int i_0, .int i_1, .int i_2] (fun u : Int32 × Int32 × Int32 × (Nat → Int64) × Int32 × Int32 × Int32 × (Nat → Int64) × Int32 × Int32 × Int32 × (Nat → Int64) × Int32 × Int32 × Int32 × (Nat → Int64) => [(a_0, .inr (11, [.ref a_1, .ref a_2, .ref a_3, .ref a_4, .ref a_5, .ref a_6, .ref a_7, .ref a_8, .ref a_9, .ref a_10, .ref a_11])), (a_6, .inl (cy 6, 4, .inr (.inr (.inr (.inr (va_up (va_up (va_up (va_up (fun _ => none) 0 (some a_12)) 1 (some a_13)) 2 (some a_14)) 3 (some a_15))))))), (a_12, .inr (6, [.int u.1, .int u.2.1, .int u.2.2.1, .ref a_16])), (a_16, .inl (cy 2, 60, .inr (.inl u.2.2.2.1))), (a_13, .inr (6, [.int u.2.2.2.2.1, .int u.2.2.2.2.2.1, .int u.2.2.2.2.2.2.1, .ref a_17])), (a_17, .inl (cy 2, 60, .inr (.inl u.2.2.2.2.2.2.2.1))), (a_14, .inr (6, [.int u.2.2.2.2.2.2.2.2.1, .int u.2.2.2.2.2.2.2.2.2.1, .int u.2.2.2.2.2.2.2.2.2.2.1, .ref a_18])), (a_18, .inl (cy 2, 60, .inr (.inl u.2.2.2.2.2.2.2.2.2.2.2.1))), (a_15, .inr (6, [.int u.2.2.2.2.2.2.2.2.2.2.2.2.1, .int u.2.2.2.2.2.2.2.2.2.2.2.2.2.1, .int u.2.2.2.2.2.2.2.2.2.2.2.2.2.2.1, .ref a_19])), (a_19, .inl (cy 2, 60, .inr (.inl u.2.2.2.2.2.2.2.2.2.2.2.2.2.2.2)))]) (fun (r : Int32) (u : Int32 × Int32 × Int32 × (Nat → Int64) × Int32 × Int32 × Int32 × (Nat → Int64) × Int32 × Int32 × Int32 × (Nat → Int64) × Int32 × Int32 × Int32 × (Nat → Int64)) => mm_rg u.1 0 1 ∧ mm_rg u.2.1 0 3 ∧ mm_rg u.2.2.1 0 60 ∧ mm_rg u.2.2.2.2.1 0 1 ∧ mm_rg u.2.2.2.2.2.1 0 3 ∧ mm_rg u.2.2.2.2.2.2.1 0 60 ∧ mm_rg u.2.2.2.2.2.2.2.2.1 0 1 ∧ mm_rg u.2.2.2.2.2.2.2.2.2.1 0 3 ∧ mm_rg u.2.2.2.2.2.2.2.2.2.2.1 0 60 ∧ mm_rg u.2.2.2.2.2.2.2.2.2.2.2.2.1 0 1 ∧ mm_rg u.2.2.2.2.2.2.2.2.2.2.2.2.2.1 0 3 ∧ mm_rg u.2.2.2.2.2.2.2.2.2.2.2.2.2.2.1 0 60 ∧ (((-2) = r ∧ mm_rg i_0 (-2147483648) (-1)) ∨ ((-2) = r ∧ mm_rg i_0 4 2147483647) ∨ ((-2) = r ∧ mm_rg i_0 0 3 ∧ mm_rg i_1 (-2147483648) (-1)) ∨ ((-2) = r ∧ mm_rg i_0 0 3 ∧ mm_rg i_1 4 2147483647) ∨ (0 = r ∧ mm_rg i_0 0 3 ∧ mm_rg i_1 0 3 ∧ mm_rg i_2 0 60) ∨ ((-3) = r ∧ mm_rg i_0 0 3 ∧ mm_rg i_1 0 3 ∧ mm_rg i_2 (-2147483648) (-1)) ∨ ((-2) = r ∧ mm_rg i_0 0 3 ∧ mm_rg i_1 0 3 ∧ mm_rg i_2 61 2147483647))) 0 0 := by
  refine mm_begin (lv := [(0, .ref a_0), (1, .int i_0), (2, .int i_1), (3, .int i_2)]) (by decide) (Nat.le_of_ble_eq_true rfl) rfl ?_
  intro p e s m below meth c A ls R args Q H locs hRe hQ hAe hx hb hr hlocks hml hown hnm hts hsz hA hS hP hK hD hZ hl
  have hRf : R.frames = 2 := by rw [hRe]
  have hRl : R.locals = 62 := by rw [hRe]
  have hRc : R.cells = 0 := by rw [hRe]
  have hRs : R.slots = 0 := by rw [hRe]
  refine lv_iload_n hx hb dX11_row_0 rfl (lv_at hl 1 rfl) ?_
  refine mm_finir (va_runS (As := [.int i_0]) (rest := []) ⟨hx, hb, hml, hown, hts⟩ (C544_X11_isSlot l G cy H.size i_0 ) (va_cwS 1 hts (mm_gS mm_w1232 mm_w1233 mm_w2 mm_w1234) rfl rfl rfl hs_X11_isSlot ⟨by rw [hRf]; exact Nat.le_of_ble_eq_true rfl, by rw [hRl]; exact Nat.le_of_ble_eq_true rfl⟩) (mm_preS hK hZ hS hA hP hD [] rfl rfl) rfl rfl hl.1 rfl (lv_room (Nat.le_of_ble_eq_true rfl)) dX11_row_1 ⟨by rw [hRc]; exact Nat.le_of_ble_eq_true rfl, by rw [hRs]; exact Nat.le_of_ble_eq_true rfl⟩) hP hD hS hA [] rfl (fun _ => rfl) ?_
  clear hP hD hS
  clear H locs
  intro v1 _u H locs hw hP hD hS
  rcases hw with ⟨rfl, w2⟩ | ⟨rfl, w3⟩ | ⟨rfl, w4⟩
  · refine lv_if_eq (tgt := 22) hx hb dX11_row_4 (by decide) (fun c5 => ?_) (fun c5 => ?_)
    · refine lv_bipush (v := (-2)) hx hb dX11_row_22 (by decide) ?_
      subst hAe
      rw [hQ]
      exact W.iret (v := (-2)) hx hb hr (fun t ht hW => ⟨⟨(-2), (i_3, i_4, i_5, f_0, i_6, i_7, i_8, f_1, i_9, i_10, i_11, f_2, i_12, i_13, i_14, f_3), rfl, ⟨h0, h1, h2, h3, h4, h5, h6, h7, h8, h9, h10, h11, (Or.inl ⟨rfl, w2⟩)⟩, by rw [ht]; exact hP, hK.warm hW, hD⟩, hS.F ht⟩) hS.2.2 dX11_row_24
    · have q6 := mm_neL (lo := 1) (mm_ne c5) mm_k0 mm_k0 (by decide) (by decide)
      exact mm_no q6 (by decide)
  · refine lv_if_eq (tgt := 22) hx hb dX11_row_4 (by decide) (fun c7 => ?_) (fun c7 => ?_)
    · refine lv_bipush (v := (-2)) hx hb dX11_row_22 (by decide) ?_
      subst hAe
      rw [hQ]
      exact W.iret (v := (-2)) hx hb hr (fun t ht hW => ⟨⟨(-2), (i_3, i_4, i_5, f_0, i_6, i_7, i_8, f_1, i_9, i_10, i_11, f_2, i_12, i_13, i_14, f_3), rfl, ⟨h0, h1, h2, h3, h4, h5, h6, h7, h8, h9, h10, h11, (Or.inr (Or.inl ⟨rfl, w3⟩))⟩, by rw [ht]; exact hP, hK.warm hW, hD⟩, hS.F ht⟩) hS.2.2 dX11_row_24
    · have q8 := mm_neL (lo := 1) (mm_ne c7) mm_k0 mm_k0 (by decide) (by decide)
      exact mm_no q8 (by decide)
  · refine lv_if_eq (tgt := 22) hx hb dX11_row_4 (by decide) (fun c9 => ?_) (fun c9 => ?_)
    · exact mm_eqN c9.symm mm_k0 mm_k1 (by decide)
    · refine lv_iload_n hx hb dX11_row_7 rfl (lv_at hl 2 rfl) ?_
      refine lv_if_lt (tgt := 22) hx hb dX11_row_8 (by decide) (fun c10 => ?_) (fun c10 => ?_)
      · have q11 := mm_ltL (h := (-1)) (mm_lt c10) (mm_top i_1) mm_k0 (by decide)
        refine lv_bipush (v := (-2)) hx hb dX11_row_22 (by decide) ?_
        subst hAe
        rw [hQ]
        exact W.iret (v := (-2)) hx hb hr (fun t ht hW => ⟨⟨(-2), (i_3, i_4, i_5, f_0, i_6, i_7, i_8, f_1, i_9, i_10, i_11, f_2, i_12, i_13, i_14, f_3), rfl, ⟨h0, h1, h2, h3, h4, h5, h6, h7, h8, h9, h10, h11, (Or.inr (Or.inr (Or.inl ⟨rfl, w4, q11⟩)))⟩, by rw [ht]; exact hP, hK.warm hW, hD⟩, hS.F ht⟩) hS.2.2 dX11_row_24
      · have q12 := mm_leR (mm_nlt c10) mm_k0 (mm_top i_1)
        refine lv_iload_n hx hb dX11_row_11 rfl (lv_at hl 2 rfl) ?_
        refine lv_iconst (v := 3) hx hb dX11_row_12 (by decide) ?_
        refine lv_icmp_gt (tgt := 22) hx hb dX11_row_13 (by decide) (fun c13 => ?_) (fun c13 => ?_)
        · have q14 := mm_ltR (lo := 4) (mm_lt c13) mm_k3 q12 (by decide)
          refine lv_bipush (v := (-2)) hx hb dX11_row_22 (by decide) ?_
          subst hAe
          rw [hQ]
          exact W.iret (v := (-2)) hx hb hr (fun t ht hW => ⟨⟨(-2), (i_3, i_4, i_5, f_0, i_6, i_7, i_8, f_1, i_9, i_10, i_11, f_2, i_12, i_13, i_14, f_3), rfl, ⟨h0, h1, h2, h3, h4, h5, h6, h7, h8, h9, h10, h11, (Or.inr (Or.inr (Or.inr (Or.inl ⟨rfl, w4, q14⟩))))⟩, by rw [ht]; exact hP, hK.warm hW, hD⟩, hS.F ht⟩) hS.2.2 dX11_row_24
        · have q15 := mm_leL (mm_nlt c13) q12 mm_k3
          refine lv_iload_n hx hb dX11_row_16 rfl (lv_at hl 3 rfl) ?_
          refine lv_bipush (v := 60) hx hb dX11_row_17 (by decide) ?_
          refine lv_icmp_le (tgt := 25) hx hb dX11_row_19 (by decide) (fun c16 => ?_) (fun c16 => ?_)
          · have q17 := mm_leL (mm_le c16) (mm_top i_2) mm_k60
            refine lv_iload_n hx hb dX11_row_25 rfl (lv_at hl 3 rfl) ?_
            refine lv_if_ge (tgt := 32) hx hb dX11_row_26 (by decide) (fun c18 => ?_) (fun c18 => ?_)
            · have q19 := mm_leR (mm_le c18) mm_k0 q17
              refine lv_aload_n hx hb dX11_row_32 rfl (lv_at hl 0 rfl) ?_
              refine va_get (D := G) (ci := 11) (v := .ref a_6) (C := RX11) (T := TX11) (N := 11) hx hb hts (mm_i inlX11) hown hK.1 hP 0 rfl rfl 5 (by decide) (mm_h hts mm_w32) (fun _ h9 => h9) rfl dX11_row_33 ?_
              refine lv_iload_n hx hb dX11_row_36 rfl (lv_at hl 1 rfl) ?_
              refine va_aldq hx hb hK.1 hP 1 6 rfl rfl (mm_in w4 (by decide)) dX11_row_37 ?_
              have c20 := mm_cases4 w4
              rcases c20 with rfl | rfl | rfl | rfl
              · refine W.eq (g2 := F0 m 38 ls [.ref a_12]) rfl ?_
                refine lv_iload_n hx hb dX11_row_38 rfl (lv_at hl 2 rfl) ?_
                refine lv_iload_n hx hb dX11_row_39 rfl (lv_at hl 3 rfl) ?_
                refine mm_finv (va_runV (As := [.int i_1, .int i_2]) (rest := []) ⟨hx, hb, hml, hown, hts⟩ (K537_X6_begin l G cy H.size a_12 i_1 i_2 i_3 i_4 i_5 a_16 f_0 q15 q19 h0 h1 h2) (cwV 2 hts (mm_gV mm_w1677 mm_w1678 mm_w1679 mm_w34 mm_w1680) rfl rfl rfl hd_X6_begin ⟨by rw [hRf]; exact Nat.le_of_ble_eq_true rfl, by rw [hRl]; exact Nat.le_of_ble_eq_true rfl⟩) (mm_preV hK hZ hS hA hP hD [2, 3] rfl rfl 2 rfl rfl rfl) rfl rfl hl.1 rfl (lv_room (Nat.le_of_ble_eq_true rfl)) dX11_row_40 ⟨by rw [hRc]; exact Nat.le_of_ble_eq_true rfl, by rw [hRs]; exact Nat.le_of_ble_eq_true rfl⟩) hP hD hS hA (fun u : Int32 × (Nat → Int64) => [(a_0, .inr (11, [.ref a_1, .ref a_2, .ref a_3, .ref a_4, .ref a_5, .ref a_6, .ref a_7, .ref a_8, .ref a_9, .ref a_10, .ref a_11])), (a_6, .inl (cy 6, 4, .inr (.inr (.inr (.inr (va_up (va_up (va_up (va_up (fun _ => none) 0 (some a_12)) 1 (some a_13)) 2 (some a_14)) 3 (some a_15))))))), (a_12, .inr (6, [.int 1, .int i_1, .int u.1, .ref a_16])), (a_16, .inl (cy 2, 60, .inr (.inl u.2))), (a_13, .inr (6, [.int i_6, .int i_7, .int i_8, .ref a_17])), (a_17, .inl (cy 2, 60, .inr (.inl f_1))), (a_14, .inr (6, [.int i_9, .int i_10, .int i_11, .ref a_18])), (a_18, .inl (cy 2, 60, .inr (.inl f_2))), (a_15, .inr (6, [.int i_12, .int i_13, .int i_14, .ref a_19])), (a_19, .inl (cy 2, 60, .inr (.inl f_3)))]) [2, 3] [0, 1, 4, 5, 6, 7, 8, 9] (n := 10) (fun _ => rfl) (by decide +kernel) (by decide +kernel) rfl (fun _ => rfl) (wr := [(a_0, .inr (11, [.ref a_1, .ref a_2, .ref a_3, .ref a_4, .ref a_5, .ref a_6, .ref a_7, .ref a_8, .ref a_9, .ref a_10, .ref a_11])), (a_6, .inl (cy 6, 4, .inr (.inr (.inr (.inr (va_up (va_up (va_up (va_up (fun _ => none) 0 (some a_12)) 1 (some a_13)) 2 (some a_14)) 3 (some a_15))))))), (a_13, .inr (6, [.int i_6, .int i_7, .int i_8, .ref a_17])), (a_17, .inl (cy 2, 60, .inr (.inl f_1))), (a_14, .inr (6, [.int i_9, .int i_10, .int i_11, .ref a_18])), (a_18, .inl (cy 2, 60, .inr (.inl f_2))), (a_15, .inr (6, [.int i_12, .int i_13, .int i_14, .ref a_19])), (a_19, .inl (cy 2, 60, .inr (.inl f_3)))]) rfl (fun _ => rfl) (fun _ => rfl) ?_
                clear hP hD hS
                clear H locs
                intro u
                obtain ⟨n21, n22⟩ := u
                intro H locs hw (hP : va_P G vwCl [(a_0, .inr (11, [.ref a_1, .ref a_2, .ref a_3, .ref a_4, .ref a_5, .ref a_6, .ref a_7, .ref a_8, .ref a_9, .ref a_10, .ref a_11])), (a_6, .inl (cy 6, 4, .inr (.inr (.inr (.inr (va_up (va_up (va_up (va_up (fun _ => none) 0 (some a_12)) 1 (some a_13)) 2 (some a_14)) 3 (some a_15))))))), (a_12, .inr (6, [.int 1, .int i_1, .int n21, .ref a_16])), (a_16, .inl (cy 2, 60, .inr (.inl n22))), (a_13, .inr (6, [.int i_6, .int i_7, .int i_8, .ref a_17])), (a_17, .inl (cy 2, 60, .inr (.inl f_1))), (a_14, .inr (6, [.int i_9, .int i_10, .int i_11, .ref a_18])), (a_18, .inl (cy 2, 60, .inr (.inl f_2))), (a_15, .inr (6, [.int i_12, .int i_13, .int i_14, .ref a_19])), (a_19, .inl (cy 2, 60, .inr (.inl f_3)))] H) (hD : va_D A [(a_0, .inr (11, [.ref a_1, .ref a_2, .ref a_3, .ref a_4, .ref a_5, .ref a_6, .ref a_7, .ref a_8, .ref a_9, .ref a_10, .ref a_11])), (a_6, .inl (cy 6, 4, .inr (.inr (.inr (.inr (va_up (va_up (va_up (va_up (fun _ => none) 0 (some a_12)) 1 (some a_13)) 2 (some a_14)) 3 (some a_15))))))), (a_12, .inr (6, [.int 1, .int i_1, .int n21, .ref a_16])), (a_16, .inl (cy 2, 60, .inr (.inl n22))), (a_13, .inr (6, [.int i_6, .int i_7, .int i_8, .ref a_17])), (a_17, .inl (cy 2, 60, .inr (.inl f_1))), (a_14, .inr (6, [.int i_9, .int i_10, .int i_11, .ref a_18])), (a_18, .inl (cy 2, 60, .inr (.inl f_2))), (a_15, .inr (6, [.int i_12, .int i_13, .int i_14, .ref a_19])), (a_19, .inl (cy 2, 60, .inr (.inl f_3)))]) hS
                have w23 := hw
                refine lv_iconst (v := 0) hx hb dX11_row_43 (by decide) ?_
                subst hAe
                rw [hQ]
                exact W.iret (v := 0) hx hb hr (fun t ht hW => ⟨⟨0, (1, i_1, n21, n22, i_6, i_7, i_8, f_1, i_9, i_10, i_11, f_2, i_12, i_13, i_14, f_3), rfl, ⟨(mm_wk mm_k1 (by decide)), q15, w23, h3, h4, h5, h6, h7, h8, h9, h10, h11, (Or.inr (Or.inr (Or.inr (Or.inr (Or.inl ⟨rfl, (mm_wk mm_k0 (by decide)), q15, q19⟩)))))⟩, by rw [ht]; exact hP, hK.warm hW, hD⟩, hS.F ht⟩) hS.2.2 dX11_row_44
              · refine W.eq (g2 := F0 m 38 ls [.ref a_13]) rfl ?_
                refine lv_iload_n hx hb dX11_row_38 rfl (lv_at hl 2 rfl) ?_
                refine lv_iload_n hx hb dX11_row_39 rfl (lv_at hl 3 rfl) ?_
                refine mm_finv (va_runV (As := [.int i_1, .int i_2]) (rest := []) ⟨hx, hb, hml, hown, hts⟩ (K537_X6_begin l G cy H.size a_13 i_1 i_2 i_6 i_7 i_8 a_17 f_1 q15 q19 h3 h4 h5) (cwV 2 hts (mm_gV mm_w1677 mm_w1678 mm_w1679 mm_w34 mm_w1680) rfl rfl rfl hd_X6_begin ⟨by rw [hRf]; exact Nat.le_of_ble_eq_true rfl, by rw [hRl]; exact Nat.le_of_ble_eq_true rfl⟩) (mm_preV hK hZ hS hA hP hD [4, 5] rfl rfl 4 rfl rfl rfl) rfl rfl hl.1 rfl (lv_room (Nat.le_of_ble_eq_true rfl)) dX11_row_40 ⟨by rw [hRc]; exact Nat.le_of_ble_eq_true rfl, by rw [hRs]; exact Nat.le_of_ble_eq_true rfl⟩) hP hD hS hA (fun u : Int32 × (Nat → Int64) => [(a_0, .inr (11, [.ref a_1, .ref a_2, .ref a_3, .ref a_4, .ref a_5, .ref a_6, .ref a_7, .ref a_8, .ref a_9, .ref a_10, .ref a_11])), (a_6, .inl (cy 6, 4, .inr (.inr (.inr (.inr (va_up (va_up (va_up (va_up (fun _ => none) 0 (some a_12)) 1 (some a_13)) 2 (some a_14)) 3 (some a_15))))))), (a_12, .inr (6, [.int i_3, .int i_4, .int i_5, .ref a_16])), (a_16, .inl (cy 2, 60, .inr (.inl f_0))), (a_13, .inr (6, [.int 1, .int i_1, .int u.1, .ref a_17])), (a_17, .inl (cy 2, 60, .inr (.inl u.2))), (a_14, .inr (6, [.int i_9, .int i_10, .int i_11, .ref a_18])), (a_18, .inl (cy 2, 60, .inr (.inl f_2))), (a_15, .inr (6, [.int i_12, .int i_13, .int i_14, .ref a_19])), (a_19, .inl (cy 2, 60, .inr (.inl f_3)))]) [4, 5] [0, 1, 2, 3, 6, 7, 8, 9] (n := 10) (fun _ => rfl) (by decide +kernel) (by decide +kernel) rfl (fun _ => rfl) (wr := [(a_0, .inr (11, [.ref a_1, .ref a_2, .ref a_3, .ref a_4, .ref a_5, .ref a_6, .ref a_7, .ref a_8, .ref a_9, .ref a_10, .ref a_11])), (a_6, .inl (cy 6, 4, .inr (.inr (.inr (.inr (va_up (va_up (va_up (va_up (fun _ => none) 0 (some a_12)) 1 (some a_13)) 2 (some a_14)) 3 (some a_15))))))), (a_12, .inr (6, [.int i_3, .int i_4, .int i_5, .ref a_16])), (a_16, .inl (cy 2, 60, .inr (.inl f_0))), (a_14, .inr (6, [.int i_9, .int i_10, .int i_11, .ref a_18])), (a_18, .inl (cy 2, 60, .inr (.inl f_2))), (a_15, .inr (6, [.int i_12, .int i_13, .int i_14, .ref a_19])), (a_19, .inl (cy 2, 60, .inr (.inl f_3)))]) rfl (fun _ => rfl) (fun _ => rfl) ?_
                clear hP hD hS
                clear H locs
                intro u
                obtain ⟨n24, n25⟩ := u
                intro H locs hw (hP : va_P G vwCl [(a_0, .inr (11, [.ref a_1, .ref a_2, .ref a_3, .ref a_4, .ref a_5, .ref a_6, .ref a_7, .ref a_8, .ref a_9, .ref a_10, .ref a_11])), (a_6, .inl (cy 6, 4, .inr (.inr (.inr (.inr (va_up (va_up (va_up (va_up (fun _ => none) 0 (some a_12)) 1 (some a_13)) 2 (some a_14)) 3 (some a_15))))))), (a_12, .inr (6, [.int i_3, .int i_4, .int i_5, .ref a_16])), (a_16, .inl (cy 2, 60, .inr (.inl f_0))), (a_13, .inr (6, [.int 1, .int i_1, .int n24, .ref a_17])), (a_17, .inl (cy 2, 60, .inr (.inl n25))), (a_14, .inr (6, [.int i_9, .int i_10, .int i_11, .ref a_18])), (a_18, .inl (cy 2, 60, .inr (.inl f_2))), (a_15, .inr (6, [.int i_12, .int i_13, .int i_14, .ref a_19])), (a_19, .inl (cy 2, 60, .inr (.inl f_3)))] H) (hD : va_D A [(a_0, .inr (11, [.ref a_1, .ref a_2, .ref a_3, .ref a_4, .ref a_5, .ref a_6, .ref a_7, .ref a_8, .ref a_9, .ref a_10, .ref a_11])), (a_6, .inl (cy 6, 4, .inr (.inr (.inr (.inr (va_up (va_up (va_up (va_up (fun _ => none) 0 (some a_12)) 1 (some a_13)) 2 (some a_14)) 3 (some a_15))))))), (a_12, .inr (6, [.int i_3, .int i_4, .int i_5, .ref a_16])), (a_16, .inl (cy 2, 60, .inr (.inl f_0))), (a_13, .inr (6, [.int 1, .int i_1, .int n24, .ref a_17])), (a_17, .inl (cy 2, 60, .inr (.inl n25))), (a_14, .inr (6, [.int i_9, .int i_10, .int i_11, .ref a_18])), (a_18, .inl (cy 2, 60, .inr (.inl f_2))), (a_15, .inr (6, [.int i_12, .int i_13, .int i_14, .ref a_19])), (a_19, .inl (cy 2, 60, .inr (.inl f_3)))]) hS
                have w26 := hw
                refine lv_iconst (v := 0) hx hb dX11_row_43 (by decide) ?_
                subst hAe
                rw [hQ]
                exact W.iret (v := 0) hx hb hr (fun t ht hW => ⟨⟨0, (i_3, i_4, i_5, f_0, 1, i_1, n24, n25, i_9, i_10, i_11, f_2, i_12, i_13, i_14, f_3), rfl, ⟨h0, h1, h2, (mm_wk mm_k1 (by decide)), q15, w26, h6, h7, h8, h9, h10, h11, (Or.inr (Or.inr (Or.inr (Or.inr (Or.inl ⟨rfl, (mm_wk mm_k1 (by decide)), q15, q19⟩)))))⟩, by rw [ht]; exact hP, hK.warm hW, hD⟩, hS.F ht⟩) hS.2.2 dX11_row_44
              · refine W.eq (g2 := F0 m 38 ls [.ref a_14]) rfl ?_
                refine lv_iload_n hx hb dX11_row_38 rfl (lv_at hl 2 rfl) ?_
                refine lv_iload_n hx hb dX11_row_39 rfl (lv_at hl 3 rfl) ?_
                refine mm_finv (va_runV (As := [.int i_1, .int i_2]) (rest := []) ⟨hx, hb, hml, hown, hts⟩ (K537_X6_begin l G cy H.size a_14 i_1 i_2 i_9 i_10 i_11 a_18 f_2 q15 q19 h6 h7 h8) (cwV 2 hts (mm_gV mm_w1677 mm_w1678 mm_w1679 mm_w34 mm_w1680) rfl rfl rfl hd_X6_begin ⟨by rw [hRf]; exact Nat.le_of_ble_eq_true rfl, by rw [hRl]; exact Nat.le_of_ble_eq_true rfl⟩) (mm_preV hK hZ hS hA hP hD [6, 7] rfl rfl 6 rfl rfl rfl) rfl rfl hl.1 rfl (lv_room (Nat.le_of_ble_eq_true rfl)) dX11_row_40 ⟨by rw [hRc]; exact Nat.le_of_ble_eq_true rfl, by rw [hRs]; exact Nat.le_of_ble_eq_true rfl⟩) hP hD hS hA (fun u : Int32 × (Nat → Int64) => [(a_0, .inr (11, [.ref a_1, .ref a_2, .ref a_3, .ref a_4, .ref a_5, .ref a_6, .ref a_7, .ref a_8, .ref a_9, .ref a_10, .ref a_11])), (a_6, .inl (cy 6, 4, .inr (.inr (.inr (.inr (va_up (va_up (va_up (va_up (fun _ => none) 0 (some a_12)) 1 (some a_13)) 2 (some a_14)) 3 (some a_15))))))), (a_12, .inr (6, [.int i_3, .int i_4, .int i_5, .ref a_16])), (a_16, .inl (cy 2, 60, .inr (.inl f_0))), (a_13, .inr (6, [.int i_6, .int i_7, .int i_8, .ref a_17])), (a_17, .inl (cy 2, 60, .inr (.inl f_1))), (a_14, .inr (6, [.int 1, .int i_1, .int u.1, .ref a_18])), (a_18, .inl (cy 2, 60, .inr (.inl u.2))), (a_15, .inr (6, [.int i_12, .int i_13, .int i_14, .ref a_19])), (a_19, .inl (cy 2, 60, .inr (.inl f_3)))]) [6, 7] [0, 1, 2, 3, 4, 5, 8, 9] (n := 10) (fun _ => rfl) (by decide +kernel) (by decide +kernel) rfl (fun _ => rfl) (wr := [(a_0, .inr (11, [.ref a_1, .ref a_2, .ref a_3, .ref a_4, .ref a_5, .ref a_6, .ref a_7, .ref a_8, .ref a_9, .ref a_10, .ref a_11])), (a_6, .inl (cy 6, 4, .inr (.inr (.inr (.inr (va_up (va_up (va_up (va_up (fun _ => none) 0 (some a_12)) 1 (some a_13)) 2 (some a_14)) 3 (some a_15))))))), (a_12, .inr (6, [.int i_3, .int i_4, .int i_5, .ref a_16])), (a_16, .inl (cy 2, 60, .inr (.inl f_0))), (a_13, .inr (6, [.int i_6, .int i_7, .int i_8, .ref a_17])), (a_17, .inl (cy 2, 60, .inr (.inl f_1))), (a_15, .inr (6, [.int i_12, .int i_13, .int i_14, .ref a_19])), (a_19, .inl (cy 2, 60, .inr (.inl f_3)))]) rfl (fun _ => rfl) (fun _ => rfl) ?_
                clear hP hD hS
                clear H locs
                intro u
                obtain ⟨n27, n28⟩ := u
                intro H locs hw (hP : va_P G vwCl [(a_0, .inr (11, [.ref a_1, .ref a_2, .ref a_3, .ref a_4, .ref a_5, .ref a_6, .ref a_7, .ref a_8, .ref a_9, .ref a_10, .ref a_11])), (a_6, .inl (cy 6, 4, .inr (.inr (.inr (.inr (va_up (va_up (va_up (va_up (fun _ => none) 0 (some a_12)) 1 (some a_13)) 2 (some a_14)) 3 (some a_15))))))), (a_12, .inr (6, [.int i_3, .int i_4, .int i_5, .ref a_16])), (a_16, .inl (cy 2, 60, .inr (.inl f_0))), (a_13, .inr (6, [.int i_6, .int i_7, .int i_8, .ref a_17])), (a_17, .inl (cy 2, 60, .inr (.inl f_1))), (a_14, .inr (6, [.int 1, .int i_1, .int n27, .ref a_18])), (a_18, .inl (cy 2, 60, .inr (.inl n28))), (a_15, .inr (6, [.int i_12, .int i_13, .int i_14, .ref a_19])), (a_19, .inl (cy 2, 60, .inr (.inl f_3)))] H) (hD : va_D A [(a_0, .inr (11, [.ref a_1, .ref a_2, .ref a_3, .ref a_4, .ref a_5, .ref a_6, .ref a_7, .ref a_8, .ref a_9, .ref a_10, .ref a_11])), (a_6, .inl (cy 6, 4, .inr (.inr (.inr (.inr (va_up (va_up (va_up (va_up (fun _ => none) 0 (some a_12)) 1 (some a_13)) 2 (some a_14)) 3 (some a_15))))))), (a_12, .inr (6, [.int i_3, .int i_4, .int i_5, .ref a_16])), (a_16, .inl (cy 2, 60, .inr (.inl f_0))), (a_13, .inr (6, [.int i_6, .int i_7, .int i_8, .ref a_17])), (a_17, .inl (cy 2, 60, .inr (.inl f_1))), (a_14, .inr (6, [.int 1, .int i_1, .int n27, .ref a_18])), (a_18, .inl (cy 2, 60, .inr (.inl n28))), (a_15, .inr (6, [.int i_12, .int i_13, .int i_14, .ref a_19])), (a_19, .inl (cy 2, 60, .inr (.inl f_3)))]) hS
                have w29 := hw
                refine lv_iconst (v := 0) hx hb dX11_row_43 (by decide) ?_
                subst hAe
                rw [hQ]
                exact W.iret (v := 0) hx hb hr (fun t ht hW => ⟨⟨0, (i_3, i_4, i_5, f_0, i_6, i_7, i_8, f_1, 1, i_1, n27, n28, i_12, i_13, i_14, f_3), rfl, ⟨h0, h1, h2, h3, h4, h5, (mm_wk mm_k1 (by decide)), q15, w29, h9, h10, h11, (Or.inr (Or.inr (Or.inr (Or.inr (Or.inl ⟨rfl, (mm_wk mm_k2 (by decide)), q15, q19⟩)))))⟩, by rw [ht]; exact hP, hK.warm hW, hD⟩, hS.F ht⟩) hS.2.2 dX11_row_44
              · refine W.eq (g2 := F0 m 38 ls [.ref a_15]) rfl ?_
                refine lv_iload_n hx hb dX11_row_38 rfl (lv_at hl 2 rfl) ?_
                refine lv_iload_n hx hb dX11_row_39 rfl (lv_at hl 3 rfl) ?_
                refine mm_finv (va_runV (As := [.int i_1, .int i_2]) (rest := []) ⟨hx, hb, hml, hown, hts⟩ (K537_X6_begin l G cy H.size a_15 i_1 i_2 i_12 i_13 i_14 a_19 f_3 q15 q19 h9 h10 h11) (cwV 2 hts (mm_gV mm_w1677 mm_w1678 mm_w1679 mm_w34 mm_w1680) rfl rfl rfl hd_X6_begin ⟨by rw [hRf]; exact Nat.le_of_ble_eq_true rfl, by rw [hRl]; exact Nat.le_of_ble_eq_true rfl⟩) (mm_preV hK hZ hS hA hP hD [8, 9] rfl rfl 8 rfl rfl rfl) rfl rfl hl.1 rfl (lv_room (Nat.le_of_ble_eq_true rfl)) dX11_row_40 ⟨by rw [hRc]; exact Nat.le_of_ble_eq_true rfl, by rw [hRs]; exact Nat.le_of_ble_eq_true rfl⟩) hP hD hS hA (fun u : Int32 × (Nat → Int64) => [(a_0, .inr (11, [.ref a_1, .ref a_2, .ref a_3, .ref a_4, .ref a_5, .ref a_6, .ref a_7, .ref a_8, .ref a_9, .ref a_10, .ref a_11])), (a_6, .inl (cy 6, 4, .inr (.inr (.inr (.inr (va_up (va_up (va_up (va_up (fun _ => none) 0 (some a_12)) 1 (some a_13)) 2 (some a_14)) 3 (some a_15))))))), (a_12, .inr (6, [.int i_3, .int i_4, .int i_5, .ref a_16])), (a_16, .inl (cy 2, 60, .inr (.inl f_0))), (a_13, .inr (6, [.int i_6, .int i_7, .int i_8, .ref a_17])), (a_17, .inl (cy 2, 60, .inr (.inl f_1))), (a_14, .inr (6, [.int i_9, .int i_10, .int i_11, .ref a_18])), (a_18, .inl (cy 2, 60, .inr (.inl f_2))), (a_15, .inr (6, [.int 1, .int i_1, .int u.1, .ref a_19])), (a_19, .inl (cy 2, 60, .inr (.inl u.2)))]) [8, 9] [0, 1, 2, 3, 4, 5, 6, 7] (n := 10) (fun _ => rfl) (by decide +kernel) (by decide +kernel) rfl (fun _ => rfl) (wr := [(a_0, .inr (11, [.ref a_1, .ref a_2, .ref a_3, .ref a_4, .ref a_5, .ref a_6, .ref a_7, .ref a_8, .ref a_9, .ref a_10, .ref a_11])), (a_6, .inl (cy 6, 4, .inr (.inr (.inr (.inr (va_up (va_up (va_up (va_up (fun _ => none) 0 (some a_12)) 1 (some a_13)) 2 (some a_14)) 3 (some a_15))))))), (a_12, .inr (6, [.int i_3, .int i_4, .int i_5, .ref a_16])), (a_16, .inl (cy 2, 60, .inr (.inl f_0))), (a_13, .inr (6, [.int i_6, .int i_7, .int i_8, .ref a_17])), (a_17, .inl (cy 2, 60, .inr (.inl f_1))), (a_14, .inr (6, [.int i_9, .int i_10, .int i_11, .ref a_18])), (a_18, .inl (cy 2, 60, .inr (.inl f_2)))]) rfl (fun _ => rfl) (fun _ => rfl) ?_
                clear hP hD hS
                clear H locs
                intro u
                obtain ⟨n30, n31⟩ := u
                intro H locs hw (hP : va_P G vwCl [(a_0, .inr (11, [.ref a_1, .ref a_2, .ref a_3, .ref a_4, .ref a_5, .ref a_6, .ref a_7, .ref a_8, .ref a_9, .ref a_10, .ref a_11])), (a_6, .inl (cy 6, 4, .inr (.inr (.inr (.inr (va_up (va_up (va_up (va_up (fun _ => none) 0 (some a_12)) 1 (some a_13)) 2 (some a_14)) 3 (some a_15))))))), (a_12, .inr (6, [.int i_3, .int i_4, .int i_5, .ref a_16])), (a_16, .inl (cy 2, 60, .inr (.inl f_0))), (a_13, .inr (6, [.int i_6, .int i_7, .int i_8, .ref a_17])), (a_17, .inl (cy 2, 60, .inr (.inl f_1))), (a_14, .inr (6, [.int i_9, .int i_10, .int i_11, .ref a_18])), (a_18, .inl (cy 2, 60, .inr (.inl f_2))), (a_15, .inr (6, [.int 1, .int i_1, .int n30, .ref a_19])), (a_19, .inl (cy 2, 60, .inr (.inl n31)))] H) (hD : va_D A [(a_0, .inr (11, [.ref a_1, .ref a_2, .ref a_3, .ref a_4, .ref a_5, .ref a_6, .ref a_7, .ref a_8, .ref a_9, .ref a_10, .ref a_11])), (a_6, .inl (cy 6, 4, .inr (.inr (.inr (.inr (va_up (va_up (va_up (va_up (fun _ => none) 0 (some a_12)) 1 (some a_13)) 2 (some a_14)) 3 (some a_15))))))), (a_12, .inr (6, [.int i_3, .int i_4, .int i_5, .ref a_16])), (a_16, .inl (cy 2, 60, .inr (.inl f_0))), (a_13, .inr (6, [.int i_6, .int i_7, .int i_8, .ref a_17])), (a_17, .inl (cy 2, 60, .inr (.inl f_1))), (a_14, .inr (6, [.int i_9, .int i_10, .int i_11, .ref a_18])), (a_18, .inl (cy 2, 60, .inr (.inl f_2))), (a_15, .inr (6, [.int 1, .int i_1, .int n30, .ref a_19])), (a_19, .inl (cy 2, 60, .inr (.inl n31)))]) hS
                have w32 := hw
                refine lv_iconst (v := 0) hx hb dX11_row_43 (by decide) ?_
                subst hAe
                rw [hQ]
                exact W.iret (v := 0) hx hb hr (fun t ht hW => ⟨⟨0, (i_3, i_4, i_5, f_0, i_6, i_7, i_8, f_1, i_9, i_10, i_11, f_2, 1, i_1, n30, n31), rfl, ⟨h0, h1, h2, h3, h4, h5, h6, h7, h8, (mm_wk mm_k1 (by decide)), q15, w32, (Or.inr (Or.inr (Or.inr (Or.inr (Or.inl ⟨rfl, (mm_wk mm_k3 (by decide)), q15, q19⟩)))))⟩, by rw [ht]; exact hP, hK.warm hW, hD⟩, hS.F ht⟩) hS.2.2 dX11_row_44
            · have q33 := mm_ltL (h := (-1)) (mm_nle c18) q17 mm_k0 (by decide)
              refine lv_bipush (v := (-3)) hx hb dX11_row_29 (by decide) ?_
              subst hAe
              rw [hQ]
              exact W.iret (v := (-3)) hx hb hr (fun t ht hW => ⟨⟨(-3), (i_3, i_4, i_5, f_0, i_6, i_7, i_8, f_1, i_9, i_10, i_11, f_2, i_12, i_13, i_14, f_3), rfl, ⟨h0, h1, h2, h3, h4, h5, h6, h7, h8, h9, h10, h11, (Or.inr (Or.inr (Or.inr (Or.inr (Or.inr (Or.inl ⟨rfl, w4, q15, q33⟩))))))⟩, by rw [ht]; exact hP, hK.warm hW, hD⟩, hS.F ht⟩) hS.2.2 dX11_row_31
          · have q34 := mm_ltR (lo := 61) (mm_nle c16) mm_k60 (mm_top i_2) (by decide)
            refine lv_bipush (v := (-2)) hx hb dX11_row_22 (by decide) ?_
            subst hAe
            rw [hQ]
            exact W.iret (v := (-2)) hx hb hr (fun t ht hW => ⟨⟨(-2), (i_3, i_4, i_5, f_0, i_6, i_7, i_8, f_1, i_9, i_10, i_11, f_2, i_12, i_13, i_14, f_3), rfl, ⟨h0, h1, h2, h3, h4, h5, h6, h7, h8, h9, h10, h11, (Or.inr (Or.inr (Or.inr (Or.inr (Or.inr (Or.inr ⟨rfl, w4, q15, q34⟩))))))⟩, by rw [ht]; exact hP, hK.warm hW, hD⟩, hS.F ht⟩) hS.2.2 dX11_row_24

set_option maxHeartbeats 4000000 in
set_option maxRecDepth 100000 in
theorem C383_X12_in (l : Launch) (G : va_G) (cy : Nat → ClassId) (sz : Nat) (j_0 : Int64)   : mm_CI l yX12_in (mm_ws yX12_in cX12_in 6 (some .boolean)) ({ frames := 0, cells := 0, slots := 0, locals := 0 } : Room) G cy sz [] [.long j_0, .long 0, .long 3] (fun u : Unit => []) (fun (r : Int32) (u : Unit) => ((0 = r ∧ mm_rl j_0 (-9223372036854775808) (-1)) ∨ (0 = r ∧ mm_rl j_0 4 9223372036854775807) ∨ (1 = r ∧ mm_rl j_0 0 3 ∧ (j_0 : Int64).toInt ≤ (3 : Int64).toInt ∧ (0 : Int64).toInt ≤ (j_0 : Int64).toInt))) 0 0 := by
  refine mm_begin (lv := [(0, .long j_0), (2, .long 0), (4, .long 3)]) (by decide) (Nat.le_of_ble_eq_true rfl) rfl ?_
  intro p e s m below meth c A ls R args Q H locs hRe hQ hAe hx hb hr hlocks hml hown hnm hts hsz hA hS hP hK hD hZ hl
  have hRf : R.frames = 0 := by rw [hRe]
  have hRl : R.locals = 0 := by rw [hRe]
  have hRc : R.cells = 0 := by rw [hRe]
  have hRs : R.slots = 0 := by rw [hRe]
  refine lv_lload_n hx hb dX12_in_0 rfl (lv_at hl 0 rfl) ?_
  refine lv_lload_n hx hb dX12_in_1 rfl (lv_at hl 1 rfl) ?_
  refine W.lcmp hx hb dX12_in_2 ?_
  refine lv_topi (fun v1 ev1 => ?_)
  refine lv_if_lt (tgt := 17) hx hb dX12_in_3 (by decide) (fun c2 => ?_) (fun c2 => ?_)
  · have q3 := mm_ltLl (h := (-1)) (mm_cmp_lt ev1 c2) (mm_topl j_0) mm_kl0 (by decide)
    refine lv_iconst (v := 0) hx hb dX12_in_17 (by decide) ?_
    subst hAe
    rw [hQ]
    exact W.zret (v := 0) hx hb hr rfl (fun t ht hW => ⟨⟨0, (), rfl, (Or.inl ⟨rfl, q3⟩), by rw [ht]; exact hP, hK.warm hW, hD⟩, hS.F ht⟩) hS.2.2 dX12_in_18
  · have q4 := mm_leRl (mm_cmp_ge ev1 (mm_n_lt c2)) mm_kl0 (mm_topl j_0)
    refine lv_lload_n hx hb dX12_in_6 rfl (lv_at hl 0 rfl) ?_
    refine lv_lload hx hb dX12_in_7 (lv_at hl 2 rfl) ?_
    refine W.lcmp hx hb dX12_in_9 ?_
    refine lv_topi (fun v5 ev5 => ?_)
    refine lv_if_gt (tgt := 17) hx hb dX12_in_10 (by decide) (fun c6 => ?_) (fun c6 => ?_)
    · have q7 := mm_ltRl (lo := 4) (mm_cmp_gt ev5 c6) mm_kl3 q4 (by decide)
      refine lv_iconst (v := 0) hx hb dX12_in_17 (by decide) ?_
      subst hAe
      rw [hQ]
      exact W.zret (v := 0) hx hb hr rfl (fun t ht hW => ⟨⟨0, (), rfl, (Or.inr (Or.inl ⟨rfl, q7⟩)), by rw [ht]; exact hP, hK.warm hW, hD⟩, hS.F ht⟩) hS.2.2 dX12_in_18
    · have q8 := mm_leLl (mm_cmp_le ev5 (mm_n_gt c6)) q4 mm_kl3
      refine lv_iconst (v := 1) hx hb dX12_in_13 (by decide) ?_
      refine lv_goto (tgt := 18) hx hb dX12_in_14 (by decide) ?_
      have w9 : (j_0 : Int64).toInt ≤ (3 : Int64).toInt := (mm_cmp_le ev5 (mm_n_gt c6))
      have w10 : (0 : Int64).toInt ≤ (j_0 : Int64).toInt := (mm_cmp_ge ev1 (mm_n_lt c2))
      subst hAe
      rw [hQ]
      exact W.zret (v := 1) hx hb hr rfl (fun t ht hW => ⟨⟨1, (), rfl, (Or.inr (Or.inr ⟨rfl, q8, w9, w10⟩)), by rw [ht]; exact hP, hK.warm hW, hD⟩, hS.F ht⟩) hS.2.2 dX12_in_18

set_option maxHeartbeats 4000000 in
set_option maxRecDepth 100000 in
theorem C384_X12_isSlot (l : Launch) (G : va_G) (cy : Nat → ClassId) (sz : Nat) (i_0 : Int32)   : mm_CI l yX12_isSlot (mm_ws yX12_isSlot cX12_isSlot 1 (some .boolean)) ({ frames := 1, cells := 0, slots := 0, locals := 25 } : Room) G cy sz [] [.int i_0] (fun u : Unit => []) (fun (r : Int32) (u : Unit) => ((0 = r ∧ mm_rg i_0 (-2147483648) (-1)) ∨ (0 = r ∧ mm_rg i_0 4 2147483647) ∨ (1 = r ∧ mm_rg i_0 0 3))) 0 0 := by
  refine mm_begin (lv := [(0, .int i_0)]) (by decide) (Nat.le_of_ble_eq_true rfl) rfl ?_
  intro p e s m below meth c A ls R args Q H locs hRe hQ hAe hx hb hr hlocks hml hown hnm hts hsz hA hS hP hK hD hZ hl
  have hRf : R.frames = 1 := by rw [hRe]
  have hRl : R.locals = 25 := by rw [hRe]
  have hRc : R.cells = 0 := by rw [hRe]
  have hRs : R.slots = 0 := by rw [hRe]
  refine lv_iload_n hx hb dX12_isSlot_0 rfl (lv_at hl 0 rfl) ?_
  obtain ⟨v1, ev1⟩ : ∃ y : Int64, y = i_0.toInt64 := ⟨_, rfl⟩
  refine lv_i2l hx hb dX12_isSlot_1 ev1.symm ?_
  have rv1 : mm_rl v1 (-2147483648) 2147483647 := mm_i2l ev1 (mm_top i_0)
  refine lv_lconst (v := 0) hx hb dX12_isSlot_2 (by decide) ?_
  refine lv_ldc2 (v := 3) hx hb hown (mm_h hts mm_w1272) dX12_isSlot_3 ?_
  refine mm_finir (va_runS (As := [.long v1, .long 0, .long 3]) (rest := []) ⟨hx, hb, hml, hown, hts⟩ (C383_X12_in l G cy H.size v1 ) (va_cwS 3 hts (mm_gS mm_w191 mm_w192 mm_w5 mm_w193) rfl rfl rfl hs_X12_in ⟨by rw [hRf]; exact Nat.le_of_ble_eq_true rfl, by rw [hRl]; exact Nat.le_of_ble_eq_true rfl⟩) (mm_preS hK hZ hS hA hP hD [] rfl rfl) rfl rfl hl.1 rfl (lv_room (Nat.le_of_ble_eq_true rfl)) dX12_isSlot_6 ⟨by rw [hRc]; exact Nat.le_of_ble_eq_true rfl, by rw [hRs]; exact Nat.le_of_ble_eq_true rfl⟩) hP hD hS hA [] rfl (fun _ => rfl) ?_
  clear hP hD hS
  clear H locs
  intro v2 _u H locs hw hP hD hS
  rcases hw with ⟨rfl, w3⟩ | ⟨rfl, w4⟩ | ⟨rfl, w5, w6, w7⟩
  · have q8 := mm_meetl (lo := (-2147483648)) (hi := (-1)) w3 rv1 (by decide)
    have q9 := mm_meet (lo := (-2147483648)) (hi := (-1)) (mm_l2x ev1 q8) (mm_top i_0) (by decide)
    subst hAe
    rw [hQ]
    exact W.zret (v := 0) hx hb hr rfl (fun t ht hW => ⟨⟨0, (), rfl, (Or.inl ⟨rfl, q9⟩), by rw [ht]; exact hP, hK.warm hW, hD⟩, hS.F ht⟩) hS.2.2 dX12_isSlot_9
  · have q10 := mm_meetl (lo := 4) (hi := 2147483647) w4 rv1 (by decide)
    have q11 := mm_meet (lo := 4) (hi := 2147483647) (mm_l2x ev1 q10) (mm_top i_0) (by decide)
    subst hAe
    rw [hQ]
    exact W.zret (v := 0) hx hb hr rfl (fun t ht hW => ⟨⟨0, (), rfl, (Or.inr (Or.inl ⟨rfl, q11⟩)), by rw [ht]; exact hP, hK.warm hW, hD⟩, hS.F ht⟩) hS.2.2 dX12_isSlot_9
  · have q12 := mm_meet (lo := 0) (hi := 3) (mm_l2x ev1 w5) (mm_top i_0) (by decide)
    subst hAe
    rw [hQ]
    exact W.zret (v := 1) hx hb hr rfl (fun t ht hW => ⟨⟨1, (), rfl, (Or.inr (Or.inr ⟨rfl, q12⟩)), by rw [ht]; exact hP, hK.warm hW, hD⟩, hS.F ht⟩) hS.2.2 dX12_isSlot_9

set_option maxHeartbeats 4000000 in
set_option maxRecDepth 100000 in
theorem C385_X12_row (l : Launch) (G : va_G) (cy : Nat → ClassId) (sz : Nat) (a_0 : Nat) (i_0 : Int32) (i_1 : Int32) (i_2 : Int32) (i_3 : Int32) (a_1 : Nat) (a_2 : Nat) (a_3 : Nat) (a_4 : Nat) (a_5 : Nat) (i_4 : Int32) (i_5 : Int32) (i_6 : Int32) (i_7 : Int32) (i_8 : Int32) (j_0 : Int64) (i_9 : Int32) (i_10 : Int32) (i_11 : Int32) (i_12 : Int32) (a_6 : Nat) (a_7 : Nat) (a_8 : Nat) (a_9 : Nat) (a_10 : Nat) (a_11 : Nat) (a_12 : Nat) (a_13 : Nat) (a_14 : Nat) (a_15 : Nat) (a_16 : Nat) (a_17 : Nat) (a_18 : Nat) (i_13 : Int32) (i_14 : Int32) (i_15 : Int32) (i_16 : Int32) (i_17 : Int32) (i_18 : Int32) (a_19 : Nat) (i_19 : Int32) (a_20 : Nat) (f_0 : Nat → Int32) (f_1 : Nat → Int32) (f_2 : Nat → Int64) (h0 : mm_ar f_0 (-1) 3) (h1 : mm_ar f_1 0 60)  : mm_CI l yX12_row (mm_ws yX12_row cX12_row 5 (some .int)) ({ frames := 2, cells := 0, slots := 0, locals := 45 } : Room) G cy sz [(a_0, .inr (12, [.int i_3, .ref a_1, .ref a_2, .ref a_3, .ref a_4, .ref a_5, .int i_4, .int i_5, .int i_6, .int i_7, .int i_8, .long j_0, .int i_9, .int i_10, .int i_11, .int i_12, .ref a_6, .ref a_7, .ref a_8, .ref a_9, .ref a_10, .ref a_11, .ref a_12, .ref a_13, .ref a_14, .ref a_15, .ref a_16, .ref a_17, .ref a_18, .int i_13, .int i_14, .int i_15, .int i_16, .int i_17, .int i_18, .ref a_19, .int i_19, .ref a_20])), (a_1, .inl (cy 1, 4, .inl f_0)), (a_2, .inl (cy 1, 4, .inl f_1)), (a_3, .inl (cy 2, 240, .inr (.inl f_2)))] [.ref a_0, .int i_0, .int i_1, .int i_2] (fun u : (Nat → Int32) × (Nat → Int32) × (Nat → Int64) => [(a_0, .inr (12, [.int 0, .ref a_1, .ref a_2, .ref a_3, .ref a_4, .ref a_5, .int i_4, .int i_5, .int i_6, .int i_7, .int i_8, .long j_0, .int i_9, .int i_10, .int i_11, .int i_12, .ref a_6, .ref a_7, .ref a_8, .ref a_9, .ref a_10, .ref a_11, .ref a_12, .ref a_13, .ref a_14, .ref a_15, .ref a_16, .ref a_17, .ref a_18, .int i_13, .int i_14, .int i_15, .int i_16, .int i_17, .int i_18, .ref a_19, .int i_19, .ref a_20])), (a_1, .inl (cy 1, 4, .inl u.1)), (a_2, .inl (cy 1, 4, .inl u.2.1)), (a_3, .inl (cy 2, 240, .inr (.inl u.2.2)))]) (fun (r : Int32) (u : (Nat → Int32) × (Nat → Int32) × (Nat → Int64)) => mm_ar u.1 (-1) 3 ∧ mm_ar u.2.1 0 60 ∧ (((-2) = r ∧ mm_rg i_0 (-2147483648) (-1)) ∨ ((-2) = r ∧ mm_rg i_0 4 2147483647) ∨ ((-2) = r ∧ mm_rg i_0 0 3 ∧ mm_rg i_1 (-2147483648) (-1)) ∨ ((-2) = r ∧ mm_rg i_0 0 3 ∧ mm_rg i_1 4 2147483647) ∨ (0 = r ∧ mm_rg i_0 0 3 ∧ mm_rg i_1 0 3 ∧ mm_rg i_2 0 60) ∨ ((-3) = r ∧ mm_rg i_0 0 3 ∧ mm_rg i_1 0 3 ∧ mm_rg i_2 (-2147483648) (-1)) ∨ ((-2) = r ∧ mm_rg i_0 0 3 ∧ mm_rg i_1 0 3 ∧ mm_rg i_2 61 2147483647))) 0 0 := by
  refine mm_begin (lv := [(0, .ref a_0), (1, .int i_0), (2, .int i_1), (3, .int i_2)]) (by decide) (Nat.le_of_ble_eq_true rfl) rfl ?_
  intro p e s m below meth c A ls R args Q H locs hRe hQ hAe hx hb hr hlocks hml hown hnm hts hsz hA hS hP hK hD hZ hl
  have hRf : R.frames = 2 := by rw [hRe]
  have hRl : R.locals = 45 := by rw [hRe]
  have hRc : R.cells = 0 := by rw [hRe]
  have hRs : R.slots = 0 := by rw [hRe]
  refine lv_aload_n hx hb dX12_row_0 rfl (lv_at hl 0 rfl) ?_
  refine lv_iconst (v := 0) hx hb dX12_row_1 (by decide) ?_
  refine va_put (D := G) (ci := 12) (v := .int 0) (ty := tyX12 0) (C := RX12) (T := TX12) (N := 38) hx hb hts (mm_i inlX12) tyX12 tyX12_ok nmX12 hown hK.1 hP hD hS 0 rfl rfl 0 (by decide) (mm_h hts mm_w177) (fun _ h9 => h9) rfl (tyX12_ok 0 (by decide)) rfl rfl (Nat.le_of_ble_eq_true rfl) dX12_row_2 ?_
  clear hP hD hS
  clear H locs
  intro H locs (hP : va_P G vwCl [(a_0, .inr (12, [.int 0, .ref a_1, .ref a_2, .ref a_3, .ref a_4, .ref a_5, .int i_4, .int i_5, .int i_6, .int i_7, .int i_8, .long j_0, .int i_9, .int i_10, .int i_11, .int i_12, .ref a_6, .ref a_7, .ref a_8, .ref a_9, .ref a_10, .ref a_11, .ref a_12, .ref a_13, .ref a_14, .ref a_15, .ref a_16, .ref a_17, .ref a_18, .int i_13, .int i_14, .int i_15, .int i_16, .int i_17, .int i_18, .ref a_19, .int i_19, .ref a_20])), (a_1, .inl (cy 1, 4, .inl f_0)), (a_2, .inl (cy 1, 4, .inl f_1)), (a_3, .inl (cy 2, 240, .inr (.inl f_2)))] H) (hD : va_D A [(a_0, .inr (12, [.int 0, .ref a_1, .ref a_2, .ref a_3, .ref a_4, .ref a_5, .int i_4, .int i_5, .int i_6, .int i_7, .int i_8, .long j_0, .int i_9, .int i_10, .int i_11, .int i_12, .ref a_6, .ref a_7, .ref a_8, .ref a_9, .ref a_10, .ref a_11, .ref a_12, .ref a_13, .ref a_14, .ref a_15, .ref a_16, .ref a_17, .ref a_18, .int i_13, .int i_14, .int i_15, .int i_16, .int i_17, .int i_18, .ref a_19, .int i_19, .ref a_20])), (a_1, .inl (cy 1, 4, .inl f_0)), (a_2, .inl (cy 1, 4, .inl f_1)), (a_3, .inl (cy 2, 240, .inr (.inl f_2)))]) hS
  refine lv_iload_n hx hb dX12_row_5 rfl (lv_at hl 1 rfl) ?_
  refine mm_finir (va_runS (As := [.int i_0]) (rest := []) ⟨hx, hb, hml, hown, hts⟩ (C384_X12_isSlot l G cy H.size i_0 ) (va_cwS 1 hts (mm_gS mm_w1269 mm_w1270 mm_w5 mm_w1271) rfl rfl rfl hs_X12_isSlot ⟨by rw [hRf]; exact Nat.le_of_ble_eq_true rfl, by rw [hRl]; exact Nat.le_of_ble_eq_true rfl⟩) (mm_preS hK hZ hS hA hP hD [] rfl rfl) rfl rfl hl.1 rfl (lv_room (Nat.le_of_ble_eq_true rfl)) dX12_row_6 ⟨by rw [hRc]; exact Nat.le_of_ble_eq_true rfl, by rw [hRs]; exact Nat.le_of_ble_eq_true rfl⟩) hP hD hS hA [] rfl (fun _ => rfl) ?_
  clear hP hD hS
  clear H locs
  intro v1 _u H locs hw hP hD hS
  rcases hw with ⟨rfl, w2⟩ | ⟨rfl, w3⟩ | ⟨rfl, w4⟩
  · refine lv_if_eq (tgt := 30) hx hb dX12_row_9 (by decide) (fun c5 => ?_) (fun c5 => ?_)
    · refine lv_bipush (v := (-2)) hx hb dX12_row_30 (by decide) ?_
      subst hAe
      rw [hQ]
      exact W.iret (v := (-2)) hx hb hr (fun t ht hW => ⟨⟨(-2), (f_0, f_1, f_2), rfl, ⟨h0, h1, (Or.inl ⟨rfl, w2⟩)⟩, by rw [ht]; exact hP, hK.warm hW, hD⟩, hS.F ht⟩) hS.2.2 dX12_row_32
    · have q6 := mm_neL (lo := 1) (mm_ne c5) mm_k0 mm_k0 (by decide) (by decide)
      exact mm_no q6 (by decide)
  · refine lv_if_eq (tgt := 30) hx hb dX12_row_9 (by decide) (fun c7 => ?_) (fun c7 => ?_)
    · refine lv_bipush (v := (-2)) hx hb dX12_row_30 (by decide) ?_
      subst hAe
      rw [hQ]
      exact W.iret (v := (-2)) hx hb hr (fun t ht hW => ⟨⟨(-2), (f_0, f_1, f_2), rfl, ⟨h0, h1, (Or.inr (Or.inl ⟨rfl, w3⟩))⟩, by rw [ht]; exact hP, hK.warm hW, hD⟩, hS.F ht⟩) hS.2.2 dX12_row_32
    · have q8 := mm_neL (lo := 1) (mm_ne c7) mm_k0 mm_k0 (by decide) (by decide)
      exact mm_no q8 (by decide)
  · refine lv_if_eq (tgt := 30) hx hb dX12_row_9 (by decide) (fun c9 => ?_) (fun c9 => ?_)
    · exact mm_eqN c9.symm mm_k0 mm_k1 (by decide)
    · refine lv_iload_n hx hb dX12_row_12 rfl (lv_at hl 2 rfl) ?_
      obtain ⟨v10, ev10⟩ : ∃ y : Int64, y = i_1.toInt64 := ⟨_, rfl⟩
      refine lv_i2l hx hb dX12_row_13 ev10.symm ?_
      have rv10 : mm_rl v10 (-2147483648) 2147483647 := mm_i2l ev10 (mm_top i_1)
      refine lv_lconst (v := 0) hx hb dX12_row_14 (by decide) ?_
      refine lv_ldc2 (v := 3) hx hb hown (mm_h hts mm_w1272) dX12_row_15 ?_
      refine mm_finir (va_runS (As := [.long v10, .long 0, .long 3]) (rest := []) ⟨hx, hb, hml, hown, hts⟩ (C383_X12_in l G cy H.size v10 ) (va_cwS 3 hts (mm_gS mm_w191 mm_w192 mm_w5 mm_w193) rfl rfl rfl hs_X12_in ⟨by rw [hRf]; exact Nat.le_of_ble_eq_true rfl, by rw [hRl]; exact Nat.le_of_ble_eq_true rfl⟩) (mm_preS hK hZ hS hA hP hD [] rfl rfl) rfl rfl hl.1 rfl (lv_room (Nat.le_of_ble_eq_true rfl)) dX12_row_18 ⟨by rw [hRc]; exact Nat.le_of_ble_eq_true rfl, by rw [hRs]; exact Nat.le_of_ble_eq_true rfl⟩) hP hD hS hA [] rfl (fun _ => rfl) ?_
      clear hP hD hS
      clear H locs
      intro v11 _u H locs hw hP hD hS
      rcases hw with ⟨rfl, w12⟩ | ⟨rfl, w13⟩ | ⟨rfl, w14, w15, w16⟩
      · have q17 := mm_meetl (lo := (-2147483648)) (hi := (-1)) w12 rv10 (by decide)
        have q18 := mm_meet (lo := (-2147483648)) (hi := (-1)) (mm_l2x ev10 q17) (mm_top i_1) (by decide)
        refine lv_if_eq (tgt := 30) hx hb dX12_row_21 (by decide) (fun c19 => ?_) (fun c19 => ?_)
        · refine lv_bipush (v := (-2)) hx hb dX12_row_30 (by decide) ?_
          subst hAe
          rw [hQ]
          exact W.iret (v := (-2)) hx hb hr (fun t ht hW => ⟨⟨(-2), (f_0, f_1, f_2), rfl, ⟨h0, h1, (Or.inr (Or.inr (Or.inl ⟨rfl, w4, q18⟩)))⟩, by rw [ht]; exact hP, hK.warm hW, hD⟩, hS.F ht⟩) hS.2.2 dX12_row_32
        · have q20 := mm_neL (lo := 1) (mm_ne c19) mm_k0 mm_k0 (by decide) (by decide)
          exact mm_no q20 (by decide)
      · have q21 := mm_meetl (lo := 4) (hi := 2147483647) w13 rv10 (by decide)
        have q22 := mm_meet (lo := 4) (hi := 2147483647) (mm_l2x ev10 q21) (mm_top i_1) (by decide)
        refine lv_if_eq (tgt := 30) hx hb dX12_row_21 (by decide) (fun c23 => ?_) (fun c23 => ?_)
        · refine lv_bipush (v := (-2)) hx hb dX12_row_30 (by decide) ?_
          subst hAe
          rw [hQ]
          exact W.iret (v := (-2)) hx hb hr (fun t ht hW => ⟨⟨(-2), (f_0, f_1, f_2), rfl, ⟨h0, h1, (Or.inr (Or.inr (Or.inr (Or.inl ⟨rfl, w4, q22⟩))))⟩, by rw [ht]; exact hP, hK.warm hW, hD⟩, hS.F ht⟩) hS.2.2 dX12_row_32
        · have q24 := mm_neL (lo := 1) (mm_ne c23) mm_k0 mm_k0 (by decide) (by decide)
          exact mm_no q24 (by decide)
      · have q25 := mm_meet (lo := 0) (hi := 3) (mm_l2x ev10 w14) (mm_top i_1) (by decide)
        refine lv_if_eq (tgt := 30) hx hb dX12_row_21 (by decide) (fun c26 => ?_) (fun c26 => ?_)
        · exact mm_eqN c26.symm mm_k0 mm_k1 (by decide)
        · refine lv_iload_n hx hb dX12_row_24 rfl (lv_at hl 3 rfl) ?_
          refine lv_bipush (v := 60) hx hb dX12_row_25 (by decide) ?_
          refine lv_icmp_le (tgt := 33) hx hb dX12_row_27 (by decide) (fun c27 => ?_) (fun c27 => ?_)
          · have q28 := mm_leL (mm_le c27) (mm_top i_2) mm_k60
            refine lv_iload_n hx hb dX12_row_33 rfl (lv_at hl 3 rfl) ?_
            refine lv_if_ge (tgt := 40) hx hb dX12_row_34 (by decide) (fun c29 => ?_) (fun c29 => ?_)
            · have q30 := mm_leR (mm_le c29) mm_k0 q28
              refine lv_aload_n hx hb dX12_row_40 rfl (lv_at hl 0 rfl) ?_
              refine va_get (D := G) (ci := 12) (v := .ref a_1) (C := RX12) (T := TX12) (N := 38) hx hb hts (mm_i inlX12) hown hK.1 hP 0 rfl rfl 1 (by decide) (mm_h hts mm_w142) (fun _ h9 => h9) rfl dX12_row_41 ?_
              refine lv_iload_n hx hb dX12_row_44 rfl (lv_at hl 1 rfl) ?_
              refine lv_iload_n hx hb dX12_row_45 rfl (lv_at hl 2 rfl) ?_
              refine va_iast hx hb hK.1 hP hD hS 1 1 rfl rfl (mm_in w4 (by decide)) dX12_row_46 ?_
              clear hP hD hS
              clear H locs
              obtain ⟨g31, eg31⟩ : ∃ z : Nat → Int32, z = upd f_0 i_0.toNatClampNeg i_1 := ⟨_, rfl⟩
              rw [← eg31]
              intro H locs (hP : va_P G vwCl [(a_0, .inr (12, [.int 0, .ref a_1, .ref a_2, .ref a_3, .ref a_4, .ref a_5, .int i_4, .int i_5, .int i_6, .int i_7, .int i_8, .long j_0, .int i_9, .int i_10, .int i_11, .int i_12, .ref a_6, .ref a_7, .ref a_8, .ref a_9, .ref a_10, .ref a_11, .ref a_12, .ref a_13, .ref a_14, .ref a_15, .ref a_16, .ref a_17, .ref a_18, .int i_13, .int i_14, .int i_15, .int i_16, .int i_17, .int i_18, .ref a_19, .int i_19, .ref a_20])), (a_1, .inl (cy 1, 4, .inl g31)), (a_2, .inl (cy 1, 4, .inl f_1)), (a_3, .inl (cy 2, 240, .inr (.inl f_2)))] H) (hD : va_D A [(a_0, .inr (12, [.int 0, .ref a_1, .ref a_2, .ref a_3, .ref a_4, .ref a_5, .int i_4, .int i_5, .int i_6, .int i_7, .int i_8, .long j_0, .int i_9, .int i_10, .int i_11, .int i_12, .ref a_6, .ref a_7, .ref a_8, .ref a_9, .ref a_10, .ref a_11, .ref a_12, .ref a_13, .ref a_14, .ref a_15, .ref a_16, .ref a_17, .ref a_18, .int i_13, .int i_14, .int i_15, .int i_16, .int i_17, .int i_18, .ref a_19, .int i_19, .ref a_20])), (a_1, .inl (cy 1, 4, .inl g31)), (a_2, .inl (cy 1, 4, .inl f_1)), (a_3, .inl (cy 2, 240, .inr (.inl f_2)))]) hS
              have rg31 : mm_ar g31 (-1) 3 := by rw [eg31]; exact mm_ar_upd (mm_ar_wk h0 (by decide)) (mm_wk q25 (by decide)) _
              refine lv_aload_n hx hb dX12_row_47 rfl (lv_at hl 0 rfl) ?_
              refine va_get (D := G) (ci := 12) (v := .ref a_2) (C := RX12) (T := TX12) (N := 38) hx hb hts (mm_i inlX12) hown hK.1 hP 0 rfl rfl 2 (by decide) (mm_h hts mm_w143) (fun _ h9 => h9) rfl dX12_row_48 ?_
              refine lv_iload_n hx hb dX12_row_51 rfl (lv_at hl 1 rfl) ?_
              refine lv_iload_n hx hb dX12_row_52 rfl (lv_at hl 3 rfl) ?_
              refine va_iast hx hb hK.1 hP hD hS 2 1 rfl rfl (mm_in w4 (by decide)) dX12_row_53 ?_
              clear hP hD hS
              clear H locs
              obtain ⟨g32, eg32⟩ : ∃ z : Nat → Int32, z = upd f_1 i_0.toNatClampNeg i_2 := ⟨_, rfl⟩
              rw [← eg32]
              intro H locs (hP : va_P G vwCl [(a_0, .inr (12, [.int 0, .ref a_1, .ref a_2, .ref a_3, .ref a_4, .ref a_5, .int i_4, .int i_5, .int i_6, .int i_7, .int i_8, .long j_0, .int i_9, .int i_10, .int i_11, .int i_12, .ref a_6, .ref a_7, .ref a_8, .ref a_9, .ref a_10, .ref a_11, .ref a_12, .ref a_13, .ref a_14, .ref a_15, .ref a_16, .ref a_17, .ref a_18, .int i_13, .int i_14, .int i_15, .int i_16, .int i_17, .int i_18, .ref a_19, .int i_19, .ref a_20])), (a_1, .inl (cy 1, 4, .inl g31)), (a_2, .inl (cy 1, 4, .inl g32)), (a_3, .inl (cy 2, 240, .inr (.inl f_2)))] H) (hD : va_D A [(a_0, .inr (12, [.int 0, .ref a_1, .ref a_2, .ref a_3, .ref a_4, .ref a_5, .int i_4, .int i_5, .int i_6, .int i_7, .int i_8, .long j_0, .int i_9, .int i_10, .int i_11, .int i_12, .ref a_6, .ref a_7, .ref a_8, .ref a_9, .ref a_10, .ref a_11, .ref a_12, .ref a_13, .ref a_14, .ref a_15, .ref a_16, .ref a_17, .ref a_18, .int i_13, .int i_14, .int i_15, .int i_16, .int i_17, .int i_18, .ref a_19, .int i_19, .ref a_20])), (a_1, .inl (cy 1, 4, .inl g31)), (a_2, .inl (cy 1, 4, .inl g32)), (a_3, .inl (cy 2, 240, .inr (.inl f_2)))]) hS
              have rg32 : mm_ar g32 0 60 := by rw [eg32]; exact mm_ar_upd (mm_ar_wk h1 (by decide)) (mm_wk q30 (by decide)) _
              refine lv_iconst (v := 0) hx hb dX12_row_54 (by decide) ?_
              refine lv_istore (lv' := [(4, .int 0), (0, .ref a_0), (1, .int i_0), (2, .int i_1), (3, .int i_2)]) hx hb dX12_row_55 hl (by decide) rfl ?_
              clear hl
              clear ls
              intro ls hl
              have L57_131 : ∀ (n : Nat) (x57_4_130 : Int32) (z57_3_131 : Nat → Int64), mm_rg x57_4_130 0 60 → (60 - x57_4_130.toInt).toNat < n → ∀ (H : Heap) (locs : List Loc), va_P G vwCl [(a_0, .inr (12, [.int 0, .ref a_1, .ref a_2, .ref a_3, .ref a_4, .ref a_5, .int i_4, .int i_5, .int i_6, .int i_7, .int i_8, .long j_0, .int i_9, .int i_10, .int i_11, .int i_12, .ref a_6, .ref a_7, .ref a_8, .ref a_9, .ref a_10, .ref a_11, .ref a_12, .ref a_13, .ref a_14, .ref a_15, .ref a_16, .ref a_17, .ref a_18, .int i_13, .int i_14, .int i_15, .int i_16, .int i_17, .int i_18, .ref a_19, .int i_19, .ref a_20])), (a_1, .inl (cy 1, 4, .inl g31)), (a_2, .inl (cy 1, 4, .inl g32)), (a_3, .inl (cy 2, 240, .inr (.inl z57_3_131)))] H → va_D A [(a_0, .inr (12, [.int 0, .ref a_1, .ref a_2, .ref a_3, .ref a_4, .ref a_5, .int i_4, .int i_5, .int i_6, .int i_7, .int i_8, .long j_0, .int i_9, .int i_10, .int i_11, .int i_12, .ref a_6, .ref a_7, .ref a_8, .ref a_9, .ref a_10, .ref a_11, .ref a_12, .ref a_13, .ref a_14, .ref a_15, .ref a_16, .ref a_17, .ref a_18, .int i_13, .int i_14, .int i_15, .int i_16, .int i_17, .int i_18, .ref a_19, .int i_19, .ref a_20])), (a_1, .inl (cy 1, 4, .inl g31)), (a_2, .inl (cy 1, 4, .inl g32)), (a_3, .inl (cy 2, 240, .inr (.inl z57_3_131)))] → va_S A s.heap H locs → ∀ (ls : Array Slot), lv_has ls 5 [(4, .int x57_4_130), (0, .ref a_0), (1, .int i_0), (2, .int i_1), (3, .int i_2)] → W p l e R s m args below meth c H locs 0 0 Q (F0 m 57 ls []) := by
                intro n
                induction n with
                | zero => intro x57_4_130 z57_3_131 rx57_4_130 hm; exact absurd hm (Nat.not_lt_zero _)
                | succ n ih57 =>
                  intro x57_4_130 z57_3_131 rx57_4_130 hm57 H locs hP hD hS ls hl
                  refine lv_iload hx hb dX12_row_57 (lv_at hl 0 rfl) ?_
                  refine lv_iload_n hx hb dX12_row_59 rfl (lv_at hl 4 rfl) ?_
                  refine lv_icmp_ge (tgt := 82) hx hb dX12_row_60 (by decide) (fun c133 => ?_) (fun c133 => ?_)
                  · refine lv_iconst (v := 0) hx hb dX12_row_82 (by decide) ?_
                    subst hAe
                    rw [hQ]
                    exact W.iret (v := 0) hx hb hr (fun t ht hW => ⟨⟨0, (g31, g32, z57_3_131), rfl, ⟨rg31, rg32, (Or.inr (Or.inr (Or.inr (Or.inr (Or.inl ⟨rfl, w4, q25, q30⟩)))))⟩, by rw [ht]; exact hP, hK.warm hW, hD⟩, hS.F ht⟩) hS.2.2 dX12_row_83
                  · have q134 := mm_ltL (h := 59) (mm_nle c133) rx57_4_130 q30 (by decide)
                    have q135 := mm_ltR (lo := 1) (mm_nle c133) rx57_4_130 q30 (by decide)
                    refine lv_aload_n hx hb dX12_row_63 rfl (lv_at hl 1 rfl) ?_
                    refine va_get (D := G) (ci := 12) (v := .ref a_3) (C := RX12) (T := TX12) (N := 38) hx hb hts (mm_i inlX12) hown hK.1 hP 0 rfl rfl 3 (by decide) (mm_h hts mm_w144) (fun _ h9 => h9) rfl dX12_row_64 ?_
                    refine lv_bipush (v := 60) hx hb dX12_row_67 (by decide) ?_
                    refine lv_iload_n hx hb dX12_row_69 rfl (lv_at hl 2 rfl) ?_
                    refine lv_imul hx hb dX12_row_70 ?_
                    refine lv_topi (fun v136 ev136 => ?_)
                    have rv136 : mm_rg v136 0 180 := mm_mul ev136 mm_k60 w4 (by decide) (by decide)
                    have tv136 := mm_mulEc ev136 mm_k60 w4 (by decide) (k := 60) (by decide)
                    refine lv_iload hx hb dX12_row_71 (lv_at hl 0 rfl) ?_
                    refine lv_iadd hx hb dX12_row_73 ?_
                    refine lv_topi (fun v137 ev137 => ?_)
                    have rv137 : mm_rg v137 0 239 := mm_add ev137 rv136 q134 (by decide) (by decide)
                    have tv137 := mm_addE ev137 rv136 q134 (by decide)
                    refine lv_lconst (v := 0) hx hb dX12_row_74 (by decide) ?_
                    refine va_last hx hb hK.1 hP hD hS 3 2 rfl rfl (mm_in rv137 (by decide)) dX12_row_75 ?_
                    clear hP hD hS
                    clear H locs
                    obtain ⟨g138, eg138⟩ : ∃ z : Nat → Int64, z = vp_updL z57_3_131 v137.toNatClampNeg 0 := ⟨_, rfl⟩
                    rw [← eg138]
                    intro H locs (hP : va_P G vwCl [(a_0, .inr (12, [.int 0, .ref a_1, .ref a_2, .ref a_3, .ref a_4, .ref a_5, .int i_4, .int i_5, .int i_6, .int i_7, .int i_8, .long j_0, .int i_9, .int i_10, .int i_11, .int i_12, .ref a_6, .ref a_7, .ref a_8, .ref a_9, .ref a_10, .ref a_11, .ref a_12, .ref a_13, .ref a_14, .ref a_15, .ref a_16, .ref a_17, .ref a_18, .int i_13, .int i_14, .int i_15, .int i_16, .int i_17, .int i_18, .ref a_19, .int i_19, .ref a_20])), (a_1, .inl (cy 1, 4, .inl g31)), (a_2, .inl (cy 1, 4, .inl g32)), (a_3, .inl (cy 2, 240, .inr (.inl g138)))] H) (hD : va_D A [(a_0, .inr (12, [.int 0, .ref a_1, .ref a_2, .ref a_3, .ref a_4, .ref a_5, .int i_4, .int i_5, .int i_6, .int i_7, .int i_8, .long j_0, .int i_9, .int i_10, .int i_11, .int i_12, .ref a_6, .ref a_7, .ref a_8, .ref a_9, .ref a_10, .ref a_11, .ref a_12, .ref a_13, .ref a_14, .ref a_15, .ref a_16, .ref a_17, .ref a_18, .int i_13, .int i_14, .int i_15, .int i_16, .int i_17, .int i_18, .ref a_19, .int i_19, .ref a_20])), (a_1, .inl (cy 1, 4, .inl g31)), (a_2, .inl (cy 1, 4, .inl g32)), (a_3, .inl (cy 2, 240, .inr (.inl g138)))]) hS
                    obtain ⟨v139, ev139⟩ : ∃ y : Int32, y = x57_4_130 + 1 := ⟨_, rfl⟩
                    refine lv_iinc (v := v139) (lv' := [(4, .int v139), (0, .ref a_0), (1, .int i_0), (2, .int i_1), (3, .int i_2)]) hx hb dX12_row_76 hl (k := 0) rfl (by rw [ev139]; rfl) (by decide) rfl ?_
                    clear hl
                    clear ls
                    intro ls hl
                    have rv139 : mm_rg v139 1 60 := mm_add ev139 q134 mm_k1 (by decide) (by decide)
                    have tv139 := mm_addEc ev139 q134 mm_k1 (by decide) (k := 1) (by decide)
                    refine lv_goto (tgt := 57) hx hb dX12_row_79 (by decide) ?_
                    exact ih57 v139 g138 (mm_wk rv139 (by decide)) (mm_mu hm57 tv139 (by decide) (rv139).2 (by decide)) H locs hP hD hS ls (lv_sub hl [0, 1, 2, 3, 4] rfl)
              exact L57_131 _ 0 f_2 (mm_wk mm_k0 (by decide)) (Nat.lt_succ_self _) H locs hP hD hS ls (lv_sub hl [0, 1, 2, 3, 4] rfl)
            · have q140 := mm_ltL (h := (-1)) (mm_nle c29) q28 mm_k0 (by decide)
              refine lv_bipush (v := (-3)) hx hb dX12_row_37 (by decide) ?_
              subst hAe
              rw [hQ]
              exact W.iret (v := (-3)) hx hb hr (fun t ht hW => ⟨⟨(-3), (f_0, f_1, f_2), rfl, ⟨h0, h1, (Or.inr (Or.inr (Or.inr (Or.inr (Or.inr (Or.inl ⟨rfl, w4, q25, q140⟩))))))⟩, by rw [ht]; exact hP, hK.warm hW, hD⟩, hS.F ht⟩) hS.2.2 dX12_row_39
          · have q141 := mm_ltR (lo := 61) (mm_nle c27) mm_k60 (mm_top i_2) (by decide)
            refine lv_bipush (v := (-2)) hx hb dX12_row_30 (by decide) ?_
            subst hAe
            rw [hQ]
            exact W.iret (v := (-2)) hx hb hr (fun t ht hW => ⟨⟨(-2), (f_0, f_1, f_2), rfl, ⟨h0, h1, (Or.inr (Or.inr (Or.inr (Or.inr (Or.inr (Or.inr ⟨rfl, w4, q25, q141⟩))))))⟩, by rw [ht]; exact hP, hK.warm hW, hD⟩, hS.F ht⟩) hS.2.2 dX12_row_32

