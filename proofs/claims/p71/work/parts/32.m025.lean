theorem dX12_average_0 : decode cX12_average 0 = .ok (.aload_n 0, 1) := by decide +kernel
theorem dX12_average_1 : decode cX12_average 1 = .ok (.iconst 0, 1) := by decide +kernel
theorem dX12_average_2 : decode cX12_average 2 = .ok (.putfield 77, 3) := by decide +kernel
theorem dX12_average_5 : decode cX12_average 5 = .ok (.aload_n 0, 1) := by decide +kernel
theorem dX12_average_6 : decode cX12_average 6 = .ok (.iload_n 1, 1) := by decide +kernel
theorem dX12_average_7 : decode cX12_average 7 = .ok (.invokevirtual 265, 3) := by decide +kernel
theorem dX12_average_10 : decode cX12_average 10 = .ok (.ifCond .eq 19, 3) := by decide +kernel
theorem dX12_average_13 : decode cX12_average 13 = .ok (.aload_n 0, 1) := by decide +kernel
theorem dX12_average_14 : decode cX12_average 14 = .ok (.iload_n 2, 1) := by decide +kernel
theorem dX12_average_15 : decode cX12_average 15 = .ok (.i2l, 1) := by decide +kernel
theorem dX12_average_16 : decode cX12_average 16 = .ok (.invokevirtual 317, 3) := by decide +kernel
theorem dX12_average_19 : decode cX12_average 19 = .ok (.ifCond .eq 10, 3) := by decide +kernel
theorem dX12_average_22 : decode cX12_average 22 = .ok (.iload_n 3, 1) := by decide +kernel
theorem dX12_average_23 : decode cX12_average 23 = .ok (.invokestatic 314, 3) := by decide +kernel
theorem dX12_average_26 : decode cX12_average 26 = .ok (.ifCond .ne 6, 3) := by decide +kernel
theorem dX12_average_29 : decode cX12_average 29 = .ok (.bipush (-2), 2) := by decide +kernel
theorem dX12_average_31 : decode cX12_average 31 = .ok (.ireturn, 1) := by decide +kernel
theorem dX12_average_32 : decode cX12_average 32 = .ok (.aload_n 0, 1) := by decide +kernel
theorem dX12_average_33 : decode cX12_average 33 = .ok (.invokevirtual 326, 3) := by decide +kernel
theorem dX12_average_36 : decode cX12_average 36 = .ok (.lconst 0, 1) := by decide +kernel
theorem dX12_average_37 : decode cX12_average 37 = .ok (.lstore 4, 2) := by decide +kernel
theorem dX12_average_39 : decode cX12_average 39 = .ok (.iconst 0, 1) := by decide +kernel
theorem dX12_average_40 : decode cX12_average 40 = .ok (.istore 6, 2) := by decide +kernel
theorem dX12_average_42 : decode cX12_average 42 = .ok (.iload 6, 2) := by decide +kernel
theorem dX12_average_44 : decode cX12_average 44 = .ok (.aload_n 0, 1) := by decide +kernel
theorem dX12_average_45 : decode cX12_average 45 = .ok (.getfield 65, 3) := by decide +kernel
theorem dX12_average_48 : decode cX12_average 48 = .ok (.iload_n 1, 1) := by decide +kernel
theorem dX12_average_49 : decode cX12_average 49 = .ok (.iaload, 1) := by decide +kernel
theorem dX12_average_50 : decode cX12_average 50 = .ok (.if_icmp .ge 23, 3) := by decide +kernel
theorem dX12_average_53 : decode cX12_average 53 = .ok (.lload 4, 2) := by decide +kernel
theorem dX12_average_55 : decode cX12_average 55 = .ok (.aload_n 0, 1) := by decide +kernel
theorem dX12_average_56 : decode cX12_average 56 = .ok (.iload_n 1, 1) := by decide +kernel
theorem dX12_average_57 : decode cX12_average 57 = .ok (.iload 6, 2) := by decide +kernel
theorem dX12_average_59 : decode cX12_average 59 = .ok (.iload_n 2, 1) := by decide +kernel
theorem dX12_average_60 : decode cX12_average 60 = .ok (.invokevirtual 338, 3) := by decide +kernel
theorem dX12_average_63 : decode cX12_average 63 = .ok (.i2l, 1) := by decide +kernel
theorem dX12_average_64 : decode cX12_average 64 = .ok (.ladd, 1) := by decide +kernel
theorem dX12_average_65 : decode cX12_average 65 = .ok (.lstore 4, 2) := by decide +kernel
theorem dX12_average_67 : decode cX12_average 67 = .ok (.iinc 6 1, 3) := by decide +kernel
theorem dX12_average_70 : decode cX12_average 70 = .ok (.goto (-28), 3) := by decide +kernel
theorem dX12_average_73 : decode cX12_average 73 = .ok (.lload 4, 2) := by decide +kernel
theorem dX12_average_75 : decode cX12_average 75 = .ok (.aload_n 0, 1) := by decide +kernel
theorem dX12_average_76 : decode cX12_average 76 = .ok (.getfield 65, 3) := by decide +kernel
theorem dX12_average_79 : decode cX12_average 79 = .ok (.iload_n 1, 1) := by decide +kernel
theorem dX12_average_80 : decode cX12_average 80 = .ok (.iaload, 1) := by decide +kernel
theorem dX12_average_81 : decode cX12_average 81 = .ok (.i2l, 1) := by decide +kernel
theorem dX12_average_82 : decode cX12_average 82 = .ok (.iload_n 3, 1) := by decide +kernel
theorem dX12_average_83 : decode cX12_average 83 = .ok (.invokestatic 359, 3) := by decide +kernel
theorem dX12_average_86 : decode cX12_average 86 = .ok (.l2i, 1) := by decide +kernel
theorem dX12_average_87 : decode cX12_average 87 = .ok (.ireturn, 1) := by decide +kernel
theorem dX12_lost_0 : decode cX12_lost 0 = .ok (.aload_n 0, 1) := by decide +kernel
theorem dX12_lost_1 : decode cX12_lost 1 = .ok (.iconst 0, 1) := by decide +kernel
theorem dX12_lost_2 : decode cX12_lost 2 = .ok (.putfield 77, 3) := by decide +kernel
theorem dX12_lost_5 : decode cX12_lost 5 = .ok (.aload_n 0, 1) := by decide +kernel
theorem dX12_lost_6 : decode cX12_lost 6 = .ok (.iload_n 1, 1) := by decide +kernel
theorem dX12_lost_7 : decode cX12_lost 7 = .ok (.iload_n 2, 1) := by decide +kernel
theorem dX12_lost_8 : decode cX12_lost 8 = .ok (.invokevirtual 323, 3) := by decide +kernel
theorem dX12_lost_11 : decode cX12_lost 11 = .ok (.ifCond .eq 12, 3) := by decide +kernel
theorem dX12_lost_14 : decode cX12_lost 14 = .ok (.aload_n 0, 1) := by decide +kernel
theorem dX12_lost_15 : decode cX12_lost 15 = .ok (.iload_n 3, 1) := by decide +kernel
theorem dX12_lost_16 : decode cX12_lost 16 = .ok (.i2l, 1) := by decide +kernel
theorem dX12_lost_17 : decode cX12_lost 17 = .ok (.invokevirtual 317, 3) := by decide +kernel
theorem dX12_lost_20 : decode cX12_lost 20 = .ok (.ifCond .ne 6, 3) := by decide +kernel
theorem dX12_lost_23 : decode cX12_lost 23 = .ok (.bipush (-2), 2) := by decide +kernel
theorem dX12_lost_25 : decode cX12_lost 25 = .ok (.ireturn, 1) := by decide +kernel
theorem dX12_lost_26 : decode cX12_lost 26 = .ok (.aload_n 0, 1) := by decide +kernel
theorem dX12_lost_27 : decode cX12_lost 27 = .ok (.invokevirtual 326, 3) := by decide +kernel
theorem dX12_lost_30 : decode cX12_lost 30 = .ok (.aload_n 0, 1) := by decide +kernel
theorem dX12_lost_31 : decode cX12_lost 31 = .ok (.iload_n 1, 1) := by decide +kernel
theorem dX12_lost_32 : decode cX12_lost 32 = .ok (.iload_n 2, 1) := by decide +kernel
theorem dX12_lost_33 : decode cX12_lost 33 = .ok (.iload_n 3, 1) := by decide +kernel
theorem dX12_lost_34 : decode cX12_lost 34 = .ok (.invokevirtual 338, 3) := by decide +kernel
theorem dX12_lost_37 : decode cX12_lost 37 = .ok (.pop, 1) := by decide +kernel
theorem dX12_lost_38 : decode cX12_lost 38 = .ok (.aload_n 0, 1) := by decide +kernel
theorem dX12_lost_39 : decode cX12_lost 39 = .ok (.getfield 296, 3) := by decide +kernel
theorem dX12_lost_42 : decode cX12_lost 42 = .ok (.aload_n 0, 1) := by decide +kernel
theorem dX12_lost_43 : decode cX12_lost 43 = .ok (.getfield 299, 3) := by decide +kernel
theorem dX12_lost_46 : decode cX12_lost 46 = .ok (.isub, 1) := by decide +kernel
theorem dX12_lost_47 : decode cX12_lost 47 = .ok (.ireturn, 1) := by decide +kernel
theorem dX12_part_0 : decode cX12_part 0 = .ok (.iload 4, 2) := by decide +kernel
theorem dX12_part_2 : decode cX12_part 2 = .ok (.ifCond .ne 7, 3) := by decide +kernel
theorem dX12_part_5 : decode cX12_part 5 = .ok (.lload_n 0, 1) := by decide +kernel
theorem dX12_part_6 : decode cX12_part 6 = .ok (.goto 4, 3) := by decide +kernel
theorem dX12_part_9 : decode cX12_part 9 = .ok (.lload_n 2, 1) := by decide +kernel
theorem dX12_part_10 : decode cX12_part 10 = .ok (.lload_n 0, 1) := by decide +kernel
theorem dX12_part_11 : decode cX12_part 11 = .ok (.lload_n 2, 1) := by decide +kernel
theorem dX12_part_12 : decode cX12_part 12 = .ok (.invokestatic 356, 3) := by decide +kernel
theorem dX12_part_15 : decode cX12_part 15 = .ok (.ldiv, 1) := by decide +kernel
theorem dX12_part_16 : decode cX12_part 16 = .ok (.lreturn, 1) := by decide +kernel
theorem hs_X12_part : yX12_part.cls ≠ "java/lang/invoke/MethodHandle" ∧ yX12_part.cls ≠ "java/lang/invoke/VarHandle" ∧ (parseMethodDescriptor yX12_part.desc).map (fun d => d.parameters.length) = some 3 := by decide +kernel
set_option maxHeartbeats 4000000 in
set_option maxRecDepth 100000 in
theorem M166_X12_common_ (l : Launch) (G : va_G) (cy : Nat → ClassId) (sz : Nat) (j_0 : Int64) (j_1 : Int64) (h0 : mm_rl j_0 1 4611686018427387904) (h1 : mm_rl j_1 0 15)  : mm_CL l yX12_common_ (mm_ws yX12_common_ cX12_common_ 4 (some .long)) ({ frames := 7, cells := 0, slots := 0, locals := 161 } : Room) G cy sz [] [.long j_0, .long j_1] (fun u : Unit => []) (fun (r : Int64) (u : Unit) => mm_rl r 1 4611686018427387904) 0 0 := by
  refine mm_begin (lv := [(0, .long j_0), (2, .long j_1)]) (by decide) (Nat.le_of_ble_eq_true rfl) rfl ?_
  intro p e s m below meth c A ls R args Q H locs hRe hQ hAe hx hb hr hlocks hml hown hnm hts hsz hA hS hP hK hD hZ hl
  have hRf : R.frames = 7 := by rw [hRe]
  have hRl : R.locals = 161 := by rw [hRe]
  have hRc : R.cells = 0 := by rw [hRe]
  have hRs : R.slots = 0 := by rw [hRe]
  refine lv_lload_n hx hb dX12_common__0 rfl (lv_at hl 1 rfl) ?_
  refine lv_lconst (v := 0) hx hb dX12_common__1 (by decide) ?_
  refine W.lcmp hx hb dX12_common__2 ?_
  refine lv_topi (fun v1 ev1 => ?_)
  refine lv_if_ne (tgt := 10) hx hb dX12_common__3 (by decide) (fun c2 => ?_) (fun c2 => ?_)
  · have q3 := mm_neLl (lo := 1) (mm_cmp_ne ev1 c2) h1 mm_kl0 (by decide) (by decide)
    refine lv_lload_n hx hb dX12_common__10 rfl (lv_at hl 1 rfl) ?_
    refine lv_lload_n hx hb dX12_common__11 rfl (lv_at hl 0 rfl) ?_
    refine lv_lload_n hx hb dX12_common__12 rfl (lv_at hl 1 rfl) ?_
    refine lv_lrem hx hb dX12_common__13 (mm_nzl q3 (by decide)) ?_
    refine lv_topl (fun v4 ev4 => ?_)
    have rv4 : mm_rl v4 0 14 := mm_reml ev4 h0 q3 (by decide) (by decide)
    have w5 := mm_remlLt ev4 h0 q3 (by decide)
    refine mm_finlr (va_runS (As := [.long j_1, .long v4]) (rest := []) ⟨hx, hb, hml, hown, hts⟩ (M165_X12_common_ l G cy H.size j_1 v4 q3 rv4 w5) (va_cwS 2 hts (mm_gS mm_w1043 mm_w1044 mm_w5 mm_w1045) rfl rfl rfl hs_X12_common_ ⟨by rw [hRf]; exact Nat.le_of_ble_eq_true rfl, by rw [hRl]; exact Nat.le_of_ble_eq_true rfl⟩) (mm_preS hK hZ hS hA hP hD [] rfl rfl) rfl rfl hl.1 rfl (lv_room (Nat.le_of_ble_eq_true rfl)) dX12_common__14 ⟨by rw [hRc]; exact Nat.le_of_ble_eq_true rfl, by rw [hRs]; exact Nat.le_of_ble_eq_true rfl⟩) hP hD hS hA [] rfl (fun _ => rfl) ?_
    clear hP hD hS
    clear H locs
    intro v6 _u H locs hw hP hD hS
    have w7 := hw
    subst hAe
    rw [hQ]
    exact W.lret (v := v6) hx hb hr (fun t ht hW => ⟨⟨v6, (), rfl, w7, by rw [ht]; exact hP, hK.warm hW, hD⟩, hS.F ht⟩) hS.2.2 dX12_common__17
  · have q8 := mm_eqIl (lo := 0) (hi := 0) (mm_cmp_eq ev1 c2) h1 mm_kl0 (by decide)
    refine lv_lload_n hx hb dX12_common__6 rfl (lv_at hl 0 rfl) ?_
    refine lv_goto (tgt := 17) hx hb dX12_common__7 (by decide) ?_
    subst hAe
    rw [hQ]
    exact W.lret (v := j_0) hx hb hr (fun t ht hW => ⟨⟨j_0, (), rfl, h0, by rw [ht]; exact hP, hK.warm hW, hD⟩, hS.F ht⟩) hS.2.2 dX12_common__17

set_option maxHeartbeats 4000000 in
set_option maxRecDepth 100000 in
theorem M167_X12_common_ (l : Launch) (G : va_G) (cy : Nat → ClassId) (sz : Nat) (j_0 : Int64) (j_1 : Int64) (h0 : mm_rl j_0 1 31) (h1 : mm_rl j_1 0 30) (h2 : (j_1 : Int64).toInt < (j_0 : Int64).toInt)  : mm_CL l yX12_common_ (mm_ws yX12_common_ cX12_common_ 4 (some .long)) ({ frames := 8, cells := 0, slots := 0, locals := 184 } : Room) G cy sz [] [.long j_0, .long j_1] (fun u : Unit => []) (fun (r : Int64) (u : Unit) => mm_rl r 1 4611686018427387904) 0 0 := by
  refine mm_begin (lv := [(0, .long j_0), (2, .long j_1)]) (by decide) (Nat.le_of_ble_eq_true rfl) rfl ?_
  intro p e s m below meth c A ls R args Q H locs hRe hQ hAe hx hb hr hlocks hml hown hnm hts hsz hA hS hP hK hD hZ hl
  have hRf : R.frames = 8 := by rw [hRe]
  have hRl : R.locals = 184 := by rw [hRe]
  have hRc : R.cells = 0 := by rw [hRe]
  have hRs : R.slots = 0 := by rw [hRe]
  refine lv_lload_n hx hb dX12_common__0 rfl (lv_at hl 1 rfl) ?_
  refine lv_lconst (v := 0) hx hb dX12_common__1 (by decide) ?_
  refine W.lcmp hx hb dX12_common__2 ?_
  refine lv_topi (fun v1 ev1 => ?_)
  refine lv_if_ne (tgt := 10) hx hb dX12_common__3 (by decide) (fun c2 => ?_) (fun c2 => ?_)
  · have q3 := mm_neLl (lo := 1) (mm_cmp_ne ev1 c2) h1 mm_kl0 (by decide) (by decide)
    refine lv_lload_n hx hb dX12_common__10 rfl (lv_at hl 1 rfl) ?_
    refine lv_lload_n hx hb dX12_common__11 rfl (lv_at hl 0 rfl) ?_
    refine lv_lload_n hx hb dX12_common__12 rfl (lv_at hl 1 rfl) ?_
    refine lv_lrem hx hb dX12_common__13 (mm_nzl q3 (by decide)) ?_
    refine lv_topl (fun v4 ev4 => ?_)
    have rv4 : mm_rl v4 0 29 := mm_reml ev4 h0 q3 (by decide) (by decide)
    have w5 := mm_remlLt ev4 h0 q3 (by decide)
    have q6 : mm_rl v4 0 15 := mm_remlHalf ev4 (Int.le_of_lt h2) h0 q3 (by decide)
    refine mm_finlr (va_runS (As := [.long j_1, .long v4]) (rest := []) ⟨hx, hb, hml, hown, hts⟩ (M166_X12_common_ l G cy H.size j_1 v4 (mm_wkl q3 (by decide)) q6) (va_cwS 2 hts (mm_gS mm_w1043 mm_w1044 mm_w5 mm_w1045) rfl rfl rfl hs_X12_common_ ⟨by rw [hRf]; exact Nat.le_of_ble_eq_true rfl, by rw [hRl]; exact Nat.le_of_ble_eq_true rfl⟩) (mm_preS hK hZ hS hA hP hD [] rfl rfl) rfl rfl hl.1 rfl (lv_room (Nat.le_of_ble_eq_true rfl)) dX12_common__14 ⟨by rw [hRc]; exact Nat.le_of_ble_eq_true rfl, by rw [hRs]; exact Nat.le_of_ble_eq_true rfl⟩) hP hD hS hA [] rfl (fun _ => rfl) ?_
    clear hP hD hS
    clear H locs
    intro v7 _u H locs hw hP hD hS
    have w8 := hw
    subst hAe
    rw [hQ]
    exact W.lret (v := v7) hx hb hr (fun t ht hW => ⟨⟨v7, (), rfl, w8, by rw [ht]; exact hP, hK.warm hW, hD⟩, hS.F ht⟩) hS.2.2 dX12_common__17
  · have q9 := mm_eqIl (lo := 0) (hi := 0) (mm_cmp_eq ev1 c2) h1 mm_kl0 (by decide)
    refine lv_lload_n hx hb dX12_common__6 rfl (lv_at hl 0 rfl) ?_
    refine lv_goto (tgt := 17) hx hb dX12_common__7 (by decide) ?_
    subst hAe
    rw [hQ]
    exact W.lret (v := j_0) hx hb hr (fun t ht hW => ⟨⟨j_0, (), rfl, (mm_wkl h0 (by decide)), by rw [ht]; exact hP, hK.warm hW, hD⟩, hS.F ht⟩) hS.2.2 dX12_common__17

set_option maxHeartbeats 4000000 in
set_option maxRecDepth 100000 in
theorem M168_X12_common_ (l : Launch) (G : va_G) (cy : Nat → ClassId) (sz : Nat) (j_0 : Int64) (j_1 : Int64) (h0 : mm_rl j_0 1 4611686018427387904) (h1 : mm_rl j_1 0 31)  : mm_CL l yX12_common_ (mm_ws yX12_common_ cX12_common_ 4 (some .long)) ({ frames := 9, cells := 0, slots := 0, locals := 207 } : Room) G cy sz [] [.long j_0, .long j_1] (fun u : Unit => []) (fun (r : Int64) (u : Unit) => mm_rl r 1 4611686018427387904) 0 0 := by
  refine mm_begin (lv := [(0, .long j_0), (2, .long j_1)]) (by decide) (Nat.le_of_ble_eq_true rfl) rfl ?_
  intro p e s m below meth c A ls R args Q H locs hRe hQ hAe hx hb hr hlocks hml hown hnm hts hsz hA hS hP hK hD hZ hl
  have hRf : R.frames = 9 := by rw [hRe]
  have hRl : R.locals = 207 := by rw [hRe]
  have hRc : R.cells = 0 := by rw [hRe]
  have hRs : R.slots = 0 := by rw [hRe]
  refine lv_lload_n hx hb dX12_common__0 rfl (lv_at hl 1 rfl) ?_
  refine lv_lconst (v := 0) hx hb dX12_common__1 (by decide) ?_
  refine W.lcmp hx hb dX12_common__2 ?_
  refine lv_topi (fun v1 ev1 => ?_)
  refine lv_if_ne (tgt := 10) hx hb dX12_common__3 (by decide) (fun c2 => ?_) (fun c2 => ?_)
  · have q3 := mm_neLl (lo := 1) (mm_cmp_ne ev1 c2) h1 mm_kl0 (by decide) (by decide)
    refine lv_lload_n hx hb dX12_common__10 rfl (lv_at hl 1 rfl) ?_
    refine lv_lload_n hx hb dX12_common__11 rfl (lv_at hl 0 rfl) ?_
    refine lv_lload_n hx hb dX12_common__12 rfl (lv_at hl 1 rfl) ?_
    refine lv_lrem hx hb dX12_common__13 (mm_nzl q3 (by decide)) ?_
    refine lv_topl (fun v4 ev4 => ?_)
    have rv4 : mm_rl v4 0 30 := mm_reml ev4 h0 q3 (by decide) (by decide)
    have w5 := mm_remlLt ev4 h0 q3 (by decide)
    refine mm_finlr (va_runS (As := [.long j_1, .long v4]) (rest := []) ⟨hx, hb, hml, hown, hts⟩ (M167_X12_common_ l G cy H.size j_1 v4 q3 rv4 w5) (va_cwS 2 hts (mm_gS mm_w1043 mm_w1044 mm_w5 mm_w1045) rfl rfl rfl hs_X12_common_ ⟨by rw [hRf]; exact Nat.le_of_ble_eq_true rfl, by rw [hRl]; exact Nat.le_of_ble_eq_true rfl⟩) (mm_preS hK hZ hS hA hP hD [] rfl rfl) rfl rfl hl.1 rfl (lv_room (Nat.le_of_ble_eq_true rfl)) dX12_common__14 ⟨by rw [hRc]; exact Nat.le_of_ble_eq_true rfl, by rw [hRs]; exact Nat.le_of_ble_eq_true rfl⟩) hP hD hS hA [] rfl (fun _ => rfl) ?_
    clear hP hD hS
    clear H locs
    intro v6 _u H locs hw hP hD hS
    have w7 := hw
    subst hAe
    rw [hQ]
    exact W.lret (v := v6) hx hb hr (fun t ht hW => ⟨⟨v6, (), rfl, w7, by rw [ht]; exact hP, hK.warm hW, hD⟩, hS.F ht⟩) hS.2.2 dX12_common__17
  · have q8 := mm_eqIl (lo := 0) (hi := 0) (mm_cmp_eq ev1 c2) h1 mm_kl0 (by decide)
    refine lv_lload_n hx hb dX12_common__6 rfl (lv_at hl 0 rfl) ?_
    refine lv_goto (tgt := 17) hx hb dX12_common__7 (by decide) ?_
    subst hAe
    rw [hQ]
    exact W.lret (v := j_0) hx hb hr (fun t ht hW => ⟨⟨j_0, (), rfl, h0, by rw [ht]; exact hP, hK.warm hW, hD⟩, hS.F ht⟩) hS.2.2 dX12_common__17

set_option maxHeartbeats 4000000 in
set_option maxRecDepth 100000 in
theorem M169_X12_common_ (l : Launch) (G : va_G) (cy : Nat → ClassId) (sz : Nat) (j_0 : Int64) (j_1 : Int64) (h0 : mm_rl j_0 1 63) (h1 : mm_rl j_1 0 62) (h2 : (j_1 : Int64).toInt < (j_0 : Int64).toInt)  : mm_CL l yX12_common_ (mm_ws yX12_common_ cX12_common_ 4 (some .long)) ({ frames := 10, cells := 0, slots := 0, locals := 230 } : Room) G cy sz [] [.long j_0, .long j_1] (fun u : Unit => []) (fun (r : Int64) (u : Unit) => mm_rl r 1 4611686018427387904) 0 0 := by
  refine mm_begin (lv := [(0, .long j_0), (2, .long j_1)]) (by decide) (Nat.le_of_ble_eq_true rfl) rfl ?_
  intro p e s m below meth c A ls R args Q H locs hRe hQ hAe hx hb hr hlocks hml hown hnm hts hsz hA hS hP hK hD hZ hl
  have hRf : R.frames = 10 := by rw [hRe]
  have hRl : R.locals = 230 := by rw [hRe]
  have hRc : R.cells = 0 := by rw [hRe]
  have hRs : R.slots = 0 := by rw [hRe]
  refine lv_lload_n hx hb dX12_common__0 rfl (lv_at hl 1 rfl) ?_
  refine lv_lconst (v := 0) hx hb dX12_common__1 (by decide) ?_
  refine W.lcmp hx hb dX12_common__2 ?_
  refine lv_topi (fun v1 ev1 => ?_)
  refine lv_if_ne (tgt := 10) hx hb dX12_common__3 (by decide) (fun c2 => ?_) (fun c2 => ?_)
  · have q3 := mm_neLl (lo := 1) (mm_cmp_ne ev1 c2) h1 mm_kl0 (by decide) (by decide)
    refine lv_lload_n hx hb dX12_common__10 rfl (lv_at hl 1 rfl) ?_
    refine lv_lload_n hx hb dX12_common__11 rfl (lv_at hl 0 rfl) ?_
    refine lv_lload_n hx hb dX12_common__12 rfl (lv_at hl 1 rfl) ?_
    refine lv_lrem hx hb dX12_common__13 (mm_nzl q3 (by decide)) ?_
    refine lv_topl (fun v4 ev4 => ?_)
    have rv4 : mm_rl v4 0 61 := mm_reml ev4 h0 q3 (by decide) (by decide)
    have w5 := mm_remlLt ev4 h0 q3 (by decide)
    have q6 : mm_rl v4 0 31 := mm_remlHalf ev4 (Int.le_of_lt h2) h0 q3 (by decide)
    refine mm_finlr (va_runS (As := [.long j_1, .long v4]) (rest := []) ⟨hx, hb, hml, hown, hts⟩ (M168_X12_common_ l G cy H.size j_1 v4 (mm_wkl q3 (by decide)) q6) (va_cwS 2 hts (mm_gS mm_w1043 mm_w1044 mm_w5 mm_w1045) rfl rfl rfl hs_X12_common_ ⟨by rw [hRf]; exact Nat.le_of_ble_eq_true rfl, by rw [hRl]; exact Nat.le_of_ble_eq_true rfl⟩) (mm_preS hK hZ hS hA hP hD [] rfl rfl) rfl rfl hl.1 rfl (lv_room (Nat.le_of_ble_eq_true rfl)) dX12_common__14 ⟨by rw [hRc]; exact Nat.le_of_ble_eq_true rfl, by rw [hRs]; exact Nat.le_of_ble_eq_true rfl⟩) hP hD hS hA [] rfl (fun _ => rfl) ?_
    clear hP hD hS
    clear H locs
    intro v7 _u H locs hw hP hD hS
    have w8 := hw
    subst hAe
    rw [hQ]
    exact W.lret (v := v7) hx hb hr (fun t ht hW => ⟨⟨v7, (), rfl, w8, by rw [ht]; exact hP, hK.warm hW, hD⟩, hS.F ht⟩) hS.2.2 dX12_common__17
  · have q9 := mm_eqIl (lo := 0) (hi := 0) (mm_cmp_eq ev1 c2) h1 mm_kl0 (by decide)
    refine lv_lload_n hx hb dX12_common__6 rfl (lv_at hl 0 rfl) ?_
    refine lv_goto (tgt := 17) hx hb dX12_common__7 (by decide) ?_
    subst hAe
    rw [hQ]
    exact W.lret (v := j_0) hx hb hr (fun t ht hW => ⟨⟨j_0, (), rfl, (mm_wkl h0 (by decide)), by rw [ht]; exact hP, hK.warm hW, hD⟩, hS.F ht⟩) hS.2.2 dX12_common__17

set_option maxHeartbeats 4000000 in
set_option maxRecDepth 100000 in
theorem M170_X12_common_ (l : Launch) (G : va_G) (cy : Nat → ClassId) (sz : Nat) (j_0 : Int64) (j_1 : Int64) (h0 : mm_rl j_0 1 4611686018427387904) (h1 : mm_rl j_1 0 63)  : mm_CL l yX12_common_ (mm_ws yX12_common_ cX12_common_ 4 (some .long)) ({ frames := 11, cells := 0, slots := 0, locals := 253 } : Room) G cy sz [] [.long j_0, .long j_1] (fun u : Unit => []) (fun (r : Int64) (u : Unit) => mm_rl r 1 4611686018427387904) 0 0 := by
  refine mm_begin (lv := [(0, .long j_0), (2, .long j_1)]) (by decide) (Nat.le_of_ble_eq_true rfl) rfl ?_
  intro p e s m below meth c A ls R args Q H locs hRe hQ hAe hx hb hr hlocks hml hown hnm hts hsz hA hS hP hK hD hZ hl
  have hRf : R.frames = 11 := by rw [hRe]
  have hRl : R.locals = 253 := by rw [hRe]
  have hRc : R.cells = 0 := by rw [hRe]
  have hRs : R.slots = 0 := by rw [hRe]
  refine lv_lload_n hx hb dX12_common__0 rfl (lv_at hl 1 rfl) ?_
  refine lv_lconst (v := 0) hx hb dX12_common__1 (by decide) ?_
  refine W.lcmp hx hb dX12_common__2 ?_
  refine lv_topi (fun v1 ev1 => ?_)
  refine lv_if_ne (tgt := 10) hx hb dX12_common__3 (by decide) (fun c2 => ?_) (fun c2 => ?_)
  · have q3 := mm_neLl (lo := 1) (mm_cmp_ne ev1 c2) h1 mm_kl0 (by decide) (by decide)
    refine lv_lload_n hx hb dX12_common__10 rfl (lv_at hl 1 rfl) ?_
    refine lv_lload_n hx hb dX12_common__11 rfl (lv_at hl 0 rfl) ?_
    refine lv_lload_n hx hb dX12_common__12 rfl (lv_at hl 1 rfl) ?_
    refine lv_lrem hx hb dX12_common__13 (mm_nzl q3 (by decide)) ?_
    refine lv_topl (fun v4 ev4 => ?_)
    have rv4 : mm_rl v4 0 62 := mm_reml ev4 h0 q3 (by decide) (by decide)
    have w5 := mm_remlLt ev4 h0 q3 (by decide)
    refine mm_finlr (va_runS (As := [.long j_1, .long v4]) (rest := []) ⟨hx, hb, hml, hown, hts⟩ (M169_X12_common_ l G cy H.size j_1 v4 q3 rv4 w5) (va_cwS 2 hts (mm_gS mm_w1043 mm_w1044 mm_w5 mm_w1045) rfl rfl rfl hs_X12_common_ ⟨by rw [hRf]; exact Nat.le_of_ble_eq_true rfl, by rw [hRl]; exact Nat.le_of_ble_eq_true rfl⟩) (mm_preS hK hZ hS hA hP hD [] rfl rfl) rfl rfl hl.1 rfl (lv_room (Nat.le_of_ble_eq_true rfl)) dX12_common__14 ⟨by rw [hRc]; exact Nat.le_of_ble_eq_true rfl, by rw [hRs]; exact Nat.le_of_ble_eq_true rfl⟩) hP hD hS hA [] rfl (fun _ => rfl) ?_
    clear hP hD hS
    clear H locs
    intro v6 _u H locs hw hP hD hS
    have w7 := hw
    subst hAe
    rw [hQ]
    exact W.lret (v := v6) hx hb hr (fun t ht hW => ⟨⟨v6, (), rfl, w7, by rw [ht]; exact hP, hK.warm hW, hD⟩, hS.F ht⟩) hS.2.2 dX12_common__17
  · have q8 := mm_eqIl (lo := 0) (hi := 0) (mm_cmp_eq ev1 c2) h1 mm_kl0 (by decide)
    refine lv_lload_n hx hb dX12_common__6 rfl (lv_at hl 0 rfl) ?_
    refine lv_goto (tgt := 17) hx hb dX12_common__7 (by decide) ?_
    subst hAe
    rw [hQ]
    exact W.lret (v := j_0) hx hb hr (fun t ht hW => ⟨⟨j_0, (), rfl, h0, by rw [ht]; exact hP, hK.warm hW, hD⟩, hS.F ht⟩) hS.2.2 dX12_common__17

set_option maxHeartbeats 4000000 in
set_option maxRecDepth 100000 in
theorem M171_X12_common_ (l : Launch) (G : va_G) (cy : Nat → ClassId) (sz : Nat) (j_0 : Int64) (j_1 : Int64) (h0 : mm_rl j_0 1 127) (h1 : mm_rl j_1 0 126) (h2 : (j_1 : Int64).toInt < (j_0 : Int64).toInt)  : mm_CL l yX12_common_ (mm_ws yX12_common_ cX12_common_ 4 (some .long)) ({ frames := 12, cells := 0, slots := 0, locals := 276 } : Room) G cy sz [] [.long j_0, .long j_1] (fun u : Unit => []) (fun (r : Int64) (u : Unit) => mm_rl r 1 4611686018427387904) 0 0 := by
  refine mm_begin (lv := [(0, .long j_0), (2, .long j_1)]) (by decide) (Nat.le_of_ble_eq_true rfl) rfl ?_
  intro p e s m below meth c A ls R args Q H locs hRe hQ hAe hx hb hr hlocks hml hown hnm hts hsz hA hS hP hK hD hZ hl
  have hRf : R.frames = 12 := by rw [hRe]
  have hRl : R.locals = 276 := by rw [hRe]
  have hRc : R.cells = 0 := by rw [hRe]
  have hRs : R.slots = 0 := by rw [hRe]
  refine lv_lload_n hx hb dX12_common__0 rfl (lv_at hl 1 rfl) ?_
  refine lv_lconst (v := 0) hx hb dX12_common__1 (by decide) ?_
  refine W.lcmp hx hb dX12_common__2 ?_
  refine lv_topi (fun v1 ev1 => ?_)
  refine lv_if_ne (tgt := 10) hx hb dX12_common__3 (by decide) (fun c2 => ?_) (fun c2 => ?_)
  · have q3 := mm_neLl (lo := 1) (mm_cmp_ne ev1 c2) h1 mm_kl0 (by decide) (by decide)
    refine lv_lload_n hx hb dX12_common__10 rfl (lv_at hl 1 rfl) ?_
    refine lv_lload_n hx hb dX12_common__11 rfl (lv_at hl 0 rfl) ?_
    refine lv_lload_n hx hb dX12_common__12 rfl (lv_at hl 1 rfl) ?_
    refine lv_lrem hx hb dX12_common__13 (mm_nzl q3 (by decide)) ?_
    refine lv_topl (fun v4 ev4 => ?_)
    have rv4 : mm_rl v4 0 125 := mm_reml ev4 h0 q3 (by decide) (by decide)
    have w5 := mm_remlLt ev4 h0 q3 (by decide)
    have q6 : mm_rl v4 0 63 := mm_remlHalf ev4 (Int.le_of_lt h2) h0 q3 (by decide)
    refine mm_finlr (va_runS (As := [.long j_1, .long v4]) (rest := []) ⟨hx, hb, hml, hown, hts⟩ (M170_X12_common_ l G cy H.size j_1 v4 (mm_wkl q3 (by decide)) q6) (va_cwS 2 hts (mm_gS mm_w1043 mm_w1044 mm_w5 mm_w1045) rfl rfl rfl hs_X12_common_ ⟨by rw [hRf]; exact Nat.le_of_ble_eq_true rfl, by rw [hRl]; exact Nat.le_of_ble_eq_true rfl⟩) (mm_preS hK hZ hS hA hP hD [] rfl rfl) rfl rfl hl.1 rfl (lv_room (Nat.le_of_ble_eq_true rfl)) dX12_common__14 ⟨by rw [hRc]; exact Nat.le_of_ble_eq_true rfl, by rw [hRs]; exact Nat.le_of_ble_eq_true rfl⟩) hP hD hS hA [] rfl (fun _ => rfl) ?_
    clear hP hD hS
    clear H locs
    intro v7 _u H locs hw hP hD hS
    have w8 := hw
    subst hAe
    rw [hQ]
    exact W.lret (v := v7) hx hb hr (fun t ht hW => ⟨⟨v7, (), rfl, w8, by rw [ht]; exact hP, hK.warm hW, hD⟩, hS.F ht⟩) hS.2.2 dX12_common__17
  · have q9 := mm_eqIl (lo := 0) (hi := 0) (mm_cmp_eq ev1 c2) h1 mm_kl0 (by decide)
    refine lv_lload_n hx hb dX12_common__6 rfl (lv_at hl 0 rfl) ?_
    refine lv_goto (tgt := 17) hx hb dX12_common__7 (by decide) ?_
    subst hAe
    rw [hQ]
    exact W.lret (v := j_0) hx hb hr (fun t ht hW => ⟨⟨j_0, (), rfl, (mm_wkl h0 (by decide)), by rw [ht]; exact hP, hK.warm hW, hD⟩, hS.F ht⟩) hS.2.2 dX12_common__17

set_option maxHeartbeats 4000000 in
set_option maxRecDepth 100000 in
theorem M172_X12_common_ (l : Launch) (G : va_G) (cy : Nat → ClassId) (sz : Nat) (j_0 : Int64) (j_1 : Int64) (h0 : mm_rl j_0 1 4611686018427387904) (h1 : mm_rl j_1 0 127)  : mm_CL l yX12_common_ (mm_ws yX12_common_ cX12_common_ 4 (some .long)) ({ frames := 13, cells := 0, slots := 0, locals := 299 } : Room) G cy sz [] [.long j_0, .long j_1] (fun u : Unit => []) (fun (r : Int64) (u : Unit) => mm_rl r 1 4611686018427387904) 0 0 := by
  refine mm_begin (lv := [(0, .long j_0), (2, .long j_1)]) (by decide) (Nat.le_of_ble_eq_true rfl) rfl ?_
  intro p e s m below meth c A ls R args Q H locs hRe hQ hAe hx hb hr hlocks hml hown hnm hts hsz hA hS hP hK hD hZ hl
  have hRf : R.frames = 13 := by rw [hRe]
  have hRl : R.locals = 299 := by rw [hRe]
  have hRc : R.cells = 0 := by rw [hRe]
  have hRs : R.slots = 0 := by rw [hRe]
  refine lv_lload_n hx hb dX12_common__0 rfl (lv_at hl 1 rfl) ?_
  refine lv_lconst (v := 0) hx hb dX12_common__1 (by decide) ?_
  refine W.lcmp hx hb dX12_common__2 ?_
  refine lv_topi (fun v1 ev1 => ?_)
  refine lv_if_ne (tgt := 10) hx hb dX12_common__3 (by decide) (fun c2 => ?_) (fun c2 => ?_)
  · have q3 := mm_neLl (lo := 1) (mm_cmp_ne ev1 c2) h1 mm_kl0 (by decide) (by decide)
    refine lv_lload_n hx hb dX12_common__10 rfl (lv_at hl 1 rfl) ?_
    refine lv_lload_n hx hb dX12_common__11 rfl (lv_at hl 0 rfl) ?_
    refine lv_lload_n hx hb dX12_common__12 rfl (lv_at hl 1 rfl) ?_
    refine lv_lrem hx hb dX12_common__13 (mm_nzl q3 (by decide)) ?_
    refine lv_topl (fun v4 ev4 => ?_)
    have rv4 : mm_rl v4 0 126 := mm_reml ev4 h0 q3 (by decide) (by decide)
    have w5 := mm_remlLt ev4 h0 q3 (by decide)
    refine mm_finlr (va_runS (As := [.long j_1, .long v4]) (rest := []) ⟨hx, hb, hml, hown, hts⟩ (M171_X12_common_ l G cy H.size j_1 v4 q3 rv4 w5) (va_cwS 2 hts (mm_gS mm_w1043 mm_w1044 mm_w5 mm_w1045) rfl rfl rfl hs_X12_common_ ⟨by rw [hRf]; exact Nat.le_of_ble_eq_true rfl, by rw [hRl]; exact Nat.le_of_ble_eq_true rfl⟩) (mm_preS hK hZ hS hA hP hD [] rfl rfl) rfl rfl hl.1 rfl (lv_room (Nat.le_of_ble_eq_true rfl)) dX12_common__14 ⟨by rw [hRc]; exact Nat.le_of_ble_eq_true rfl, by rw [hRs]; exact Nat.le_of_ble_eq_true rfl⟩) hP hD hS hA [] rfl (fun _ => rfl) ?_
    clear hP hD hS
    clear H locs
    intro v6 _u H locs hw hP hD hS
    have w7 := hw
    subst hAe
    rw [hQ]
    exact W.lret (v := v6) hx hb hr (fun t ht hW => ⟨⟨v6, (), rfl, w7, by rw [ht]; exact hP, hK.warm hW, hD⟩, hS.F ht⟩) hS.2.2 dX12_common__17
  · have q8 := mm_eqIl (lo := 0) (hi := 0) (mm_cmp_eq ev1 c2) h1 mm_kl0 (by decide)
    refine lv_lload_n hx hb dX12_common__6 rfl (lv_at hl 0 rfl) ?_
    refine lv_goto (tgt := 17) hx hb dX12_common__7 (by decide) ?_
    subst hAe
    rw [hQ]
    exact W.lret (v := j_0) hx hb hr (fun t ht hW => ⟨⟨j_0, (), rfl, h0, by rw [ht]; exact hP, hK.warm hW, hD⟩, hS.F ht⟩) hS.2.2 dX12_common__17

set_option maxHeartbeats 4000000 in
set_option maxRecDepth 100000 in
theorem M173_X12_common_ (l : Launch) (G : va_G) (cy : Nat → ClassId) (sz : Nat) (j_0 : Int64) (j_1 : Int64) (h0 : mm_rl j_0 1 255) (h1 : mm_rl j_1 0 254) (h2 : (j_1 : Int64).toInt < (j_0 : Int64).toInt)  : mm_CL l yX12_common_ (mm_ws yX12_common_ cX12_common_ 4 (some .long)) ({ frames := 14, cells := 0, slots := 0, locals := 322 } : Room) G cy sz [] [.long j_0, .long j_1] (fun u : Unit => []) (fun (r : Int64) (u : Unit) => mm_rl r 1 4611686018427387904) 0 0 := by
  refine mm_begin (lv := [(0, .long j_0), (2, .long j_1)]) (by decide) (Nat.le_of_ble_eq_true rfl) rfl ?_
  intro p e s m below meth c A ls R args Q H locs hRe hQ hAe hx hb hr hlocks hml hown hnm hts hsz hA hS hP hK hD hZ hl
  have hRf : R.frames = 14 := by rw [hRe]
  have hRl : R.locals = 322 := by rw [hRe]
  have hRc : R.cells = 0 := by rw [hRe]
  have hRs : R.slots = 0 := by rw [hRe]
  refine lv_lload_n hx hb dX12_common__0 rfl (lv_at hl 1 rfl) ?_
  refine lv_lconst (v := 0) hx hb dX12_common__1 (by decide) ?_
  refine W.lcmp hx hb dX12_common__2 ?_
  refine lv_topi (fun v1 ev1 => ?_)
  refine lv_if_ne (tgt := 10) hx hb dX12_common__3 (by decide) (fun c2 => ?_) (fun c2 => ?_)
  · have q3 := mm_neLl (lo := 1) (mm_cmp_ne ev1 c2) h1 mm_kl0 (by decide) (by decide)
    refine lv_lload_n hx hb dX12_common__10 rfl (lv_at hl 1 rfl) ?_
    refine lv_lload_n hx hb dX12_common__11 rfl (lv_at hl 0 rfl) ?_
    refine lv_lload_n hx hb dX12_common__12 rfl (lv_at hl 1 rfl) ?_
    refine lv_lrem hx hb dX12_common__13 (mm_nzl q3 (by decide)) ?_
    refine lv_topl (fun v4 ev4 => ?_)
    have rv4 : mm_rl v4 0 253 := mm_reml ev4 h0 q3 (by decide) (by decide)
    have w5 := mm_remlLt ev4 h0 q3 (by decide)
    have q6 : mm_rl v4 0 127 := mm_remlHalf ev4 (Int.le_of_lt h2) h0 q3 (by decide)
    refine mm_finlr (va_runS (As := [.long j_1, .long v4]) (rest := []) ⟨hx, hb, hml, hown, hts⟩ (M172_X12_common_ l G cy H.size j_1 v4 (mm_wkl q3 (by decide)) q6) (va_cwS 2 hts (mm_gS mm_w1043 mm_w1044 mm_w5 mm_w1045) rfl rfl rfl hs_X12_common_ ⟨by rw [hRf]; exact Nat.le_of_ble_eq_true rfl, by rw [hRl]; exact Nat.le_of_ble_eq_true rfl⟩) (mm_preS hK hZ hS hA hP hD [] rfl rfl) rfl rfl hl.1 rfl (lv_room (Nat.le_of_ble_eq_true rfl)) dX12_common__14 ⟨by rw [hRc]; exact Nat.le_of_ble_eq_true rfl, by rw [hRs]; exact Nat.le_of_ble_eq_true rfl⟩) hP hD hS hA [] rfl (fun _ => rfl) ?_
    clear hP hD hS
    clear H locs
    intro v7 _u H locs hw hP hD hS
    have w8 := hw
    subst hAe
    rw [hQ]
    exact W.lret (v := v7) hx hb hr (fun t ht hW => ⟨⟨v7, (), rfl, w8, by rw [ht]; exact hP, hK.warm hW, hD⟩, hS.F ht⟩) hS.2.2 dX12_common__17
  · have q9 := mm_eqIl (lo := 0) (hi := 0) (mm_cmp_eq ev1 c2) h1 mm_kl0 (by decide)
    refine lv_lload_n hx hb dX12_common__6 rfl (lv_at hl 0 rfl) ?_
    refine lv_goto (tgt := 17) hx hb dX12_common__7 (by decide) ?_
    subst hAe
    rw [hQ]
    exact W.lret (v := j_0) hx hb hr (fun t ht hW => ⟨⟨j_0, (), rfl, (mm_wkl h0 (by decide)), by rw [ht]; exact hP, hK.warm hW, hD⟩, hS.F ht⟩) hS.2.2 dX12_common__17

set_option maxHeartbeats 4000000 in
set_option maxRecDepth 100000 in
theorem M174_X12_common_ (l : Launch) (G : va_G) (cy : Nat → ClassId) (sz : Nat) (j_0 : Int64) (j_1 : Int64) (h0 : mm_rl j_0 0 4611686018427387904) (h1 : mm_rl j_1 1 255)  : mm_CL l yX12_common_ (mm_ws yX12_common_ cX12_common_ 4 (some .long)) ({ frames := 15, cells := 0, slots := 0, locals := 345 } : Room) G cy sz [] [.long j_0, .long j_1] (fun u : Unit => []) (fun (r : Int64) (u : Unit) => mm_rl r 1 4611686018427387904) 0 0 := by
  refine mm_begin (lv := [(0, .long j_0), (2, .long j_1)]) (by decide) (Nat.le_of_ble_eq_true rfl) rfl ?_
  intro p e s m below meth c A ls R args Q H locs hRe hQ hAe hx hb hr hlocks hml hown hnm hts hsz hA hS hP hK hD hZ hl
  have hRf : R.frames = 15 := by rw [hRe]
  have hRl : R.locals = 345 := by rw [hRe]
  have hRc : R.cells = 0 := by rw [hRe]
  have hRs : R.slots = 0 := by rw [hRe]
  refine lv_lload_n hx hb dX12_common__0 rfl (lv_at hl 1 rfl) ?_
  refine lv_lconst (v := 0) hx hb dX12_common__1 (by decide) ?_
  refine W.lcmp hx hb dX12_common__2 ?_
  refine lv_topi (fun v1 ev1 => ?_)
  refine lv_if_ne (tgt := 10) hx hb dX12_common__3 (by decide) (fun c2 => ?_) (fun c2 => ?_)
  · refine lv_lload_n hx hb dX12_common__10 rfl (lv_at hl 1 rfl) ?_
    refine lv_lload_n hx hb dX12_common__11 rfl (lv_at hl 0 rfl) ?_
    refine lv_lload_n hx hb dX12_common__12 rfl (lv_at hl 1 rfl) ?_
    refine lv_lrem hx hb dX12_common__13 (mm_nzl h1 (by decide)) ?_
    refine lv_topl (fun v3 ev3 => ?_)
    have rv3 : mm_rl v3 0 254 := mm_reml ev3 h0 h1 (by decide) (by decide)
    have w4 := mm_remlLt ev3 h0 h1 (by decide)
    refine mm_finlr (va_runS (As := [.long j_1, .long v3]) (rest := []) ⟨hx, hb, hml, hown, hts⟩ (M173_X12_common_ l G cy H.size j_1 v3 h1 rv3 w4) (va_cwS 2 hts (mm_gS mm_w1043 mm_w1044 mm_w5 mm_w1045) rfl rfl rfl hs_X12_common_ ⟨by rw [hRf]; exact Nat.le_of_ble_eq_true rfl, by rw [hRl]; exact Nat.le_of_ble_eq_true rfl⟩) (mm_preS hK hZ hS hA hP hD [] rfl rfl) rfl rfl hl.1 rfl (lv_room (Nat.le_of_ble_eq_true rfl)) dX12_common__14 ⟨by rw [hRc]; exact Nat.le_of_ble_eq_true rfl, by rw [hRs]; exact Nat.le_of_ble_eq_true rfl⟩) hP hD hS hA [] rfl (fun _ => rfl) ?_
    clear hP hD hS
    clear H locs
    intro v5 _u H locs hw hP hD hS
    have w6 := hw
    subst hAe
    rw [hQ]
    exact W.lret (v := v5) hx hb hr (fun t ht hW => ⟨⟨v5, (), rfl, w6, by rw [ht]; exact hP, hK.warm hW, hD⟩, hS.F ht⟩) hS.2.2 dX12_common__17
  · exact mm_eqNl (mm_cmp_eq ev1 c2).symm mm_kl0 h1 (by decide)

set_option maxHeartbeats 4000000 in
set_option maxRecDepth 100000 in
theorem M175_X12_part (l : Launch) (G : va_G) (cy : Nat → ClassId) (sz : Nat) (j_0 : Int64) (j_1 : Int64) (i_0 : Int32) (h0 : mm_rl j_0 0 4611686018427387904) (h1 : mm_rl j_1 1 210) (h2 : mm_rg i_0 0 1)  : mm_CL l yX12_part (mm_ws yX12_part cX12_part 5 (some .long)) ({ frames := 16, cells := 0, slots := 0, locals := 368 } : Room) G cy sz [] [.long j_0, .long j_1, .int i_0] (fun u : Unit => []) (fun (r : Int64) (u : Unit) => mm_rl r 0 4611686018427387904) 0 0 := by
  refine mm_begin (lv := [(0, .long j_0), (2, .long j_1), (4, .int i_0)]) (by decide) (Nat.le_of_ble_eq_true rfl) rfl ?_
  intro p e s m below meth c A ls R args Q H locs hRe hQ hAe hx hb hr hlocks hml hown hnm hts hsz hA hS hP hK hD hZ hl
  have hRf : R.frames = 16 := by rw [hRe]
  have hRl : R.locals = 368 := by rw [hRe]
  have hRc : R.cells = 0 := by rw [hRe]
  have hRs : R.slots = 0 := by rw [hRe]
  refine lv_iload hx hb dX12_part_0 (lv_at hl 2 rfl) ?_
  refine lv_if_ne (tgt := 9) hx hb dX12_part_2 (by decide) (fun c1 => ?_) (fun c1 => ?_)
  · have q2 := mm_neL (lo := 1) (mm_ne c1) h2 mm_k0 (by decide) (by decide)
    refine lv_lload_n hx hb dX12_part_9 rfl (lv_at hl 1 rfl) ?_
    refine lv_lload_n hx hb dX12_part_10 rfl (lv_at hl 0 rfl) ?_
    refine lv_lload_n hx hb dX12_part_11 rfl (lv_at hl 1 rfl) ?_
    refine mm_finlr (va_runS (As := [.long j_0, .long j_1]) (rest := [.long j_1]) ⟨hx, hb, hml, hown, hts⟩ (M174_X12_common_ l G cy H.size j_0 j_1 h0 (mm_wkl h1 (by decide))) (va_cwS 2 hts (mm_gS mm_w1043 mm_w1044 mm_w5 mm_w1045) rfl rfl rfl hs_X12_common_ ⟨by rw [hRf]; exact Nat.le_of_ble_eq_true rfl, by rw [hRl]; exact Nat.le_of_ble_eq_true rfl⟩) (mm_preS hK hZ hS hA hP hD [] rfl rfl) rfl rfl hl.1 rfl (lv_room (Nat.le_of_ble_eq_true rfl)) dX12_part_12 ⟨by rw [hRc]; exact Nat.le_of_ble_eq_true rfl, by rw [hRs]; exact Nat.le_of_ble_eq_true rfl⟩) hP hD hS hA [] rfl (fun _ => rfl) ?_
    clear hP hD hS
    clear H locs
    intro v3 _u H locs hw hP hD hS
    have w4 := hw
    refine lv_ldiv hx hb dX12_part_15 (mm_nzl w4 (by decide)) ?_
    refine lv_topl (fun v5 ev5 => ?_)
    have rv5 : mm_rl v5 0 210 := mm_divl ev5 h1 w4 (by decide) (by decide)
    subst hAe
    rw [hQ]
    exact W.lret (v := v5) hx hb hr (fun t ht hW => ⟨⟨v5, (), rfl, (mm_wkl rv5 (by decide)), by rw [ht]; exact hP, hK.warm hW, hD⟩, hS.F ht⟩) hS.2.2 dX12_part_16
  · have q6 := mm_eqI (lo := 0) (hi := 0) c1 h2 mm_k0 (by decide)
    refine lv_lload_n hx hb dX12_part_5 rfl (lv_at hl 0 rfl) ?_
    refine lv_goto (tgt := 10) hx hb dX12_part_6 (by decide) ?_
    refine lv_lload_n hx hb dX12_part_10 rfl (lv_at hl 0 rfl) ?_
    refine lv_lload_n hx hb dX12_part_11 rfl (lv_at hl 1 rfl) ?_
    refine mm_finlr (va_runS (As := [.long j_0, .long j_1]) (rest := [.long j_0]) ⟨hx, hb, hml, hown, hts⟩ (M174_X12_common_ l G cy H.size j_0 j_1 h0 (mm_wkl h1 (by decide))) (va_cwS 2 hts (mm_gS mm_w1043 mm_w1044 mm_w5 mm_w1045) rfl rfl rfl hs_X12_common_ ⟨by rw [hRf]; exact Nat.le_of_ble_eq_true rfl, by rw [hRl]; exact Nat.le_of_ble_eq_true rfl⟩) (mm_preS hK hZ hS hA hP hD [] rfl rfl) rfl rfl hl.1 rfl (lv_room (Nat.le_of_ble_eq_true rfl)) dX12_part_12 ⟨by rw [hRc]; exact Nat.le_of_ble_eq_true rfl, by rw [hRs]; exact Nat.le_of_ble_eq_true rfl⟩) hP hD hS hA [] rfl (fun _ => rfl) ?_
    clear hP hD hS
    clear H locs
    intro v7 _u H locs hw hP hD hS
    have w8 := hw
    refine lv_ldiv hx hb dX12_part_15 (mm_nzl w8 (by decide)) ?_
    refine lv_topl (fun v9 ev9 => ?_)
    have rv9 : mm_rl v9 0 4611686018427387904 := mm_divl ev9 h0 w8 (by decide) (by decide)
    subst hAe
    rw [hQ]
    exact W.lret (v := v9) hx hb hr (fun t ht hW => ⟨⟨v9, (), rfl, rv9, by rw [ht]; exact hP, hK.warm hW, hD⟩, hS.F ht⟩) hS.2.2 dX12_part_16

set_option maxHeartbeats 4000000 in
set_option maxRecDepth 100000 in
theorem M176_X12_average (l : Launch) (G : va_G) (cy : Nat → ClassId) (sz : Nat) (a_0 : Nat) (i_0 : Int32) (i_1 : Int32) (i_2 : Int32) (i_3 : Int32) (a_1 : Nat) (a_2 : Nat) (a_3 : Nat) (a_4 : Nat) (a_5 : Nat) (i_4 : Int32) (i_5 : Int32) (i_6 : Int32) (i_7 : Int32) (i_8 : Int32) (j_0 : Int64) (i_9 : Int32) (i_10 : Int32) (i_11 : Int32) (i_12 : Int32) (a_6 : Nat) (a_7 : Nat) (a_8 : Nat) (a_9 : Nat) (a_10 : Nat) (a_11 : Nat) (a_12 : Nat) (a_13 : Nat) (a_14 : Nat) (a_15 : Nat) (a_16 : Nat) (a_17 : Nat) (a_18 : Nat) (i_13 : Int32) (i_14 : Int32) (i_15 : Int32) (i_16 : Int32) (i_17 : Int32) (i_18 : Int32) (a_19 : Nat) (i_19 : Int32) (a_20 : Nat) (i_20 : Int32) (i_21 : Int32) (i_22 : Int32) (i_23 : Int32) (i_24 : Int32) (i_25 : Int32) (i_26 : Int32) (i_27 : Int32) (i_28 : Int32) (i_29 : Int32) (i_30 : Int32) (i_31 : Int32) (i_32 : Int32) (i_33 : Int32) (i_34 : Int32) (i_35 : Int32) (i_36 : Int32) (i_37 : Int32) (i_38 : Int32) (i_39 : Int32) (i_40 : Int32) (i_41 : Int32) (i_42 : Int32) (i_43 : Int32) (i_44 : Int32) (i_45 : Int32) (i_46 : Int32) (i_47 : Int32) (i_48 : Int32) (i_49 : Int32) (i_50 : Int32) (i_51 : Int32) (i_52 : Int32) (i_53 : Int32) (i_54 : Int32) (f_0 : Nat → Int32) (f_1 : Nat → Int32) (f_2 : Nat → Int32) (f_3 : Nat → Int32) (f_4 : Nat → Int32) (f_5 : Nat → Int32) (f_6 : Nat → Int32) (f_7 : Nat → Int32) (f_8 : Nat → Int32) (f_9 : Nat → Int32) (h0 : mm_rg i_13 0 8) (h1 : mm_rg i_20 0 601) (h2 : mm_rg i_21 0 601) (h3 : mm_rg i_22 0 601) (h4 : mm_rg i_23 0 601) (h5 : mm_rg i_24 0 601) (h6 : mm_rg i_25 0 10) (h7 : mm_rg i_26 0 99) (h8 : mm_rg i_27 0 9) (h9 : mm_rg i_28 0 3) (h10 : mm_rg i_29 0 6) (h11 : mm_rg i_30 0 30) (h12 : mm_rg i_31 0 10) (h13 : mm_rg i_32 0 99) (h14 : mm_rg i_33 0 9) (h15 : mm_rg i_34 0 3) (h16 : mm_rg i_35 0 6) (h17 : mm_rg i_36 0 30) (h18 : mm_rg i_37 0 10) (h19 : mm_rg i_38 0 99) (h20 : mm_rg i_39 0 9) (h21 : mm_rg i_40 0 3) (h22 : mm_rg i_41 0 6) (h23 : mm_rg i_42 0 30) (h24 : mm_rg i_43 0 10) (h25 : mm_rg i_44 0 99) (h26 : mm_rg i_45 0 9) (h27 : mm_rg i_46 0 3) (h28 : mm_rg i_47 0 6) (h29 : mm_rg i_48 0 30) (h30 : mm_rg i_49 0 10) (h31 : mm_rg i_50 0 99) (h32 : mm_rg i_51 0 9) (h33 : mm_rg i_52 0 3) (h34 : mm_rg i_53 0 6) (h35 : mm_rg i_54 0 30) (h36 : mm_ar f_0 0 99) (h37 : mm_ar f_1 0 7) (h38 : mm_ar f_2 0 9) (h39 : mm_ar f_3 0 8) (h40 : mm_ar f_4 0 9) (h41 : mm_ar f_5 (-1) 99) (h42 : mm_ar f_6 0 9) (h43 : mm_ar f_7 0 210) (h44 : mm_ar f_8 0 210) (h45 : mm_ar f_9 0 9) (h46 : mm_rls f_1 f_2 0 i_27 i_28) (h47 : mm_txs f_3 f_4 0 i_27 i_29) (h48 : mm_acs f_5 0 i_27 i_28 i_30) (h49 : mm_tl i_20 i_28 i_29) (h50 : mm_rls f_1 f_2 1 i_33 i_34) (h51 : mm_txs f_3 f_4 1 i_33 i_35) (h52 : mm_acs f_5 1 i_33 i_34 i_36) (h53 : mm_tl i_21 i_34 i_35) (h54 : mm_rls f_1 f_2 2 i_39 i_40) (h55 : mm_txs f_3 f_4 2 i_39 i_41) (h56 : mm_acs f_5 2 i_39 i_40 i_42) (h57 : mm_tl i_22 i_40 i_41) (h58 : mm_rls f_1 f_2 3 i_45 i_46) (h59 : mm_txs f_3 f_4 3 i_45 i_47) (h60 : mm_acs f_5 3 i_45 i_46 i_48) (h61 : mm_tl i_23 i_46 i_47)  : mm_CI l yX12_average (mm_ws yX12_average cX12_average 7 (some .int)) ({ frames := 17, cells := 0, slots := 0, locals := 392 } : Room) G cy sz [(a_0, .inr (12, [.int i_3, .ref a_1, .ref a_2, .ref a_3, .ref a_4, .ref a_5, .int i_4, .int i_5, .int i_6, .int i_7, .int i_8, .long j_0, .int i_9, .int i_10, .int i_11, .int i_12, .ref a_6, .ref a_7, .ref a_8, .ref a_9, .ref a_10, .ref a_11, .ref a_12, .ref a_13, .ref a_14, .ref a_15, .ref a_16, .ref a_17, .ref a_18, .int i_13, .int i_14, .int i_15, .int i_16, .int i_17, .int i_18, .ref a_19, .int i_19, .ref a_20])), (a_6, .inl (cy 1, 5, .inl (mm_g [i_20, i_21, i_22, i_23, i_24]))), (a_7, .inl (cy 1, 30, .inl (mm_g [i_25, i_26, i_27, i_28, i_29, i_30, i_31, i_32, i_33, i_34, i_35, i_36, i_37, i_38, i_39, i_40, i_41, i_42, i_43, i_44, i_45, i_46, i_47, i_48, i_49, i_50, i_51, i_52, i_53, i_54]))), (a_8, .inl (cy 1, 90, .inl f_0)), (a_9, .inl (cy 1, 15, .inl f_1)), (a_10, .inl (cy 1, 1050, .inl f_2)), (a_11, .inl (cy 1, 30, .inl f_3)), (a_12, .inl (cy 1, 240, .inl f_4)), (a_13, .inl (cy 1, 450, .inl f_5)), (a_15, .inl (cy 1, 7200, .inl f_6)), (a_16, .inl (cy 1, 3, .inl f_7)), (a_17, .inl (cy 1, 3, .inl f_8)), (a_18, .inl (cy 1, 8, .inl f_9))] [.ref a_0, .int i_0, .int i_1, .int i_2] (fun u : Int32 × Int32 × Int32 × (Nat → Int32) × (Nat → Int32) × (Nat → Int32) × (Nat → Int32) => [(a_0, .inr (12, [.int 0, .ref a_1, .ref a_2, .ref a_3, .ref a_4, .ref a_5, .int i_4, .int i_5, .int i_6, .int i_7, .int i_8, .long j_0, .int i_9, .int i_10, .int i_11, .int i_12, .ref a_6, .ref a_7, .ref a_8, .ref a_9, .ref a_10, .ref a_11, .ref a_12, .ref a_13, .ref a_14, .ref a_15, .ref a_16, .ref a_17, .ref a_18, .int u.1, .int u.2.1, .int u.2.2.1, .int i_16, .int i_17, .int i_18, .ref a_19, .int i_19, .ref a_20])), (a_6, .inl (cy 1, 5, .inl (mm_g [i_20, i_21, i_22, i_23, i_24]))), (a_7, .inl (cy 1, 30, .inl (mm_g [i_25, i_26, i_27, i_28, i_29, i_30, i_31, i_32, i_33, i_34, i_35, i_36, i_37, i_38, i_39, i_40, i_41, i_42, i_43, i_44, i_45, i_46, i_47, i_48, i_49, i_50, i_51, i_52, i_53, i_54]))), (a_8, .inl (cy 1, 90, .inl f_0)), (a_9, .inl (cy 1, 15, .inl f_1)), (a_10, .inl (cy 1, 1050, .inl f_2)), (a_11, .inl (cy 1, 30, .inl f_3)), (a_12, .inl (cy 1, 240, .inl f_4)), (a_13, .inl (cy 1, 450, .inl f_5)), (a_15, .inl (cy 1, 7200, .inl u.2.2.2.1)), (a_16, .inl (cy 1, 3, .inl u.2.2.2.2.1)), (a_17, .inl (cy 1, 3, .inl u.2.2.2.2.2.1)), (a_18, .inl (cy 1, 8, .inl u.2.2.2.2.2.2))]) (fun (r : Int32) (u : Int32 × Int32 × Int32 × (Nat → Int32) × (Nat → Int32) × (Nat → Int32) × (Nat → Int32)) => mm_rg u.1 0 8 ∧ mm_ar u.2.2.2.1 0 9 ∧ mm_ar u.2.2.2.2.1 0 210 ∧ mm_ar u.2.2.2.2.2.1 0 210 ∧ mm_ar u.2.2.2.2.2.2 0 9 ∧ True) 0 0 := by
  refine mm_begin (lv := [(0, .ref a_0), (1, .int i_0), (2, .int i_1), (3, .int i_2)]) (by decide) (Nat.le_of_ble_eq_true rfl) rfl ?_
  intro p e s m below meth c A ls R args Q H locs hRe hQ hAe hx hb hr hlocks hml hown hnm hts hsz hA hS hP hK hD hZ hl
  have hRf : R.frames = 17 := by rw [hRe]
  have hRl : R.locals = 392 := by rw [hRe]
  have hRc : R.cells = 0 := by rw [hRe]
  have hRs : R.slots = 0 := by rw [hRe]
  refine lv_aload_n hx hb dX12_average_0 rfl (lv_at hl 0 rfl) ?_
  refine lv_iconst (v := 0) hx hb dX12_average_1 (by decide) ?_
  refine va_put (D := G) (ci := 12) (v := .int 0) (ty := tyX12 0) (C := RX12) (T := TX12) (N := 38) hx hb hts (mm_i inlX12) tyX12 tyX12_ok nmX12 hown hK.1 hP hD hS 0 rfl rfl 0 (by decide) (mm_h hts mm_w177) (fun _ h9 => h9) rfl (tyX12_ok 0 (by decide)) rfl rfl (Nat.le_of_ble_eq_true rfl) dX12_average_2 ?_
  clear hP hD hS
  clear H locs
  intro H locs (hP : va_P G vwCl [(a_0, .inr (12, [.int 0, .ref a_1, .ref a_2, .ref a_3, .ref a_4, .ref a_5, .int i_4, .int i_5, .int i_6, .int i_7, .int i_8, .long j_0, .int i_9, .int i_10, .int i_11, .int i_12, .ref a_6, .ref a_7, .ref a_8, .ref a_9, .ref a_10, .ref a_11, .ref a_12, .ref a_13, .ref a_14, .ref a_15, .ref a_16, .ref a_17, .ref a_18, .int i_13, .int i_14, .int i_15, .int i_16, .int i_17, .int i_18, .ref a_19, .int i_19, .ref a_20])), (a_6, .inl (cy 1, 5, .inl (mm_g [i_20, i_21, i_22, i_23, i_24]))), (a_7, .inl (cy 1, 30, .inl (mm_g [i_25, i_26, i_27, i_28, i_29, i_30, i_31, i_32, i_33, i_34, i_35, i_36, i_37, i_38, i_39, i_40, i_41, i_42, i_43, i_44, i_45, i_46, i_47, i_48, i_49, i_50, i_51, i_52, i_53, i_54]))), (a_8, .inl (cy 1, 90, .inl f_0)), (a_9, .inl (cy 1, 15, .inl f_1)), (a_10, .inl (cy 1, 1050, .inl f_2)), (a_11, .inl (cy 1, 30, .inl f_3)), (a_12, .inl (cy 1, 240, .inl f_4)), (a_13, .inl (cy 1, 450, .inl f_5)), (a_15, .inl (cy 1, 7200, .inl f_6)), (a_16, .inl (cy 1, 3, .inl f_7)), (a_17, .inl (cy 1, 3, .inl f_8)), (a_18, .inl (cy 1, 8, .inl f_9))] H) (hD : va_D A [(a_0, .inr (12, [.int 0, .ref a_1, .ref a_2, .ref a_3, .ref a_4, .ref a_5, .int i_4, .int i_5, .int i_6, .int i_7, .int i_8, .long j_0, .int i_9, .int i_10, .int i_11, .int i_12, .ref a_6, .ref a_7, .ref a_8, .ref a_9, .ref a_10, .ref a_11, .ref a_12, .ref a_13, .ref a_14, .ref a_15, .ref a_16, .ref a_17, .ref a_18, .int i_13, .int i_14, .int i_15, .int i_16, .int i_17, .int i_18, .ref a_19, .int i_19, .ref a_20])), (a_6, .inl (cy 1, 5, .inl (mm_g [i_20, i_21, i_22, i_23, i_24]))), (a_7, .inl (cy 1, 30, .inl (mm_g [i_25, i_26, i_27, i_28, i_29, i_30, i_31, i_32, i_33, i_34, i_35, i_36, i_37, i_38, i_39, i_40, i_41, i_42, i_43, i_44, i_45, i_46, i_47, i_48, i_49, i_50, i_51, i_52, i_53, i_54]))), (a_8, .inl (cy 1, 90, .inl f_0)), (a_9, .inl (cy 1, 15, .inl f_1)), (a_10, .inl (cy 1, 1050, .inl f_2)), (a_11, .inl (cy 1, 30, .inl f_3)), (a_12, .inl (cy 1, 240, .inl f_4)), (a_13, .inl (cy 1, 450, .inl f_5)), (a_15, .inl (cy 1, 7200, .inl f_6)), (a_16, .inl (cy 1, 3, .inl f_7)), (a_17, .inl (cy 1, 3, .inl f_8)), (a_18, .inl (cy 1, 8, .inl f_9))]) hS
  refine lv_aload_n hx hb dX12_average_5 rfl (lv_at hl 0 rfl) ?_
  refine lv_iload_n hx hb dX12_average_6 rfl (lv_at hl 1 rfl) ?_
  refine mm_finir (va_runV (As := [.int i_0]) (rest := []) ⟨hx, hb, hml, hown, hts⟩ (M98_X12_isLand l G cy H.size a_0 i_0 0 a_1 a_2 a_3 a_4 a_5 i_4 i_5 i_6 i_7 i_8 j_0 i_9 i_10 i_11 i_12 a_6 a_7 a_8 a_9 a_10 a_11 a_12 a_13 a_14 a_15 a_16 a_17 a_18 i_13 i_14 i_15 i_16 i_17 i_18 a_19 i_19 a_20 i_25 i_26 i_27 i_28 i_29 i_30 i_31 i_32 i_33 i_34 i_35 i_36 i_37 i_38 i_39 i_40 i_41 i_42 i_43 i_44 i_45 i_46 i_47 i_48 i_49 i_50 i_51 i_52 i_53 i_54 h6 h7 h8 h9 h10 h11 h12 h13 h14 h15 h16 h17 h18 h19 h20 h21 h22 h23 h24 h25 h26 h27 h28 h29 h30 h31 h32 h33 h34 h35) (cwV 1 hts (mm_gV mm_w641 mm_w642 mm_w643 mm_w5 mm_w644) rfl rfl rfl hd_X12_isLand ⟨by rw [hRf]; exact Nat.le_of_ble_eq_true rfl, by rw [hRl]; exact Nat.le_of_ble_eq_true rfl⟩) (mm_preV hK hZ hS hA hP hD [0, 2] rfl rfl 0 rfl rfl rfl) rfl rfl hl.1 rfl (lv_room (Nat.le_of_ble_eq_true rfl)) dX12_average_7 ⟨by rw [hRc]; exact Nat.le_of_ble_eq_true rfl, by rw [hRs]; exact Nat.le_of_ble_eq_true rfl⟩) hP hD hS hA [0, 2] rfl (fun _ => rfl) ?_
  clear hP hD hS
  clear H locs
  intro v1 _u H locs hw hP hD hS
  rcases hw with rfl | ⟨rfl, w2, w3⟩
  · refine lv_if_eq (tgt := 29) hx hb dX12_average_10 (by decide) (fun c4 => ?_) (fun c4 => ?_)
    · refine lv_bipush (v := (-2)) hx hb dX12_average_29 (by decide) ?_
      subst hAe
      rw [hQ]
      exact W.iret (v := (-2)) hx hb hr (fun t ht hW => ⟨⟨(-2), (i_13, i_14, i_15, f_6, f_7, f_8, f_9), rfl, ⟨h0, h42, h43, h44, h45, trivial⟩, by rw [ht]; exact hP, hK.warm hW, hD⟩, hS.F ht⟩) hS.2.2 dX12_average_31
    · have q5 := mm_neL (lo := 1) (mm_ne c4) mm_k0 mm_k0 (by decide) (by decide)
      exact mm_no q5 (by decide)
  · have q6 := mm_ltR (lo := 1) w3 w2 h9 (by decide)
    have q7 : mm_rg i_20 1 601 := mm_tl_3 h49 q6 h1 (by decide)
    refine lv_if_eq (tgt := 29) hx hb dX12_average_10 (by decide) (fun c8 => ?_) (fun c8 => ?_)
    · exact mm_eqN c8.symm mm_k0 mm_k1 (by decide)
    · refine lv_aload_n hx hb dX12_average_13 rfl (lv_at hl 0 rfl) ?_
      refine lv_iload_n hx hb dX12_average_14 rfl (lv_at hl 2 rfl) ?_
      obtain ⟨v9, ev9⟩ : ∃ y : Int64, y = i_1.toInt64 := ⟨_, rfl⟩
      refine lv_i2l hx hb dX12_average_15 ev9.symm ?_
      have rv9 : mm_rl v9 (-2147483648) 2147483647 := mm_i2l ev9 (mm_top i_1)
      refine mm_finir (va_runV (As := [.long v9]) (rest := []) ⟨hx, hb, hml, hown, hts⟩ (M96_X12_isText l G cy H.size a_0 v9 0 a_1 a_2 a_3 a_4 a_5 i_4 i_5 i_6 i_7 i_8 j_0 i_9 i_10 i_11 i_12 a_6 a_7 a_8 a_9 a_10 a_11 a_12 a_13 a_14 a_15 a_16 a_17 a_18 i_13 i_14 i_15 i_16 i_17 i_18 a_19 i_19 a_20 i_25 i_26 i_27 i_28 i_29 i_30 i_31 i_32 i_33 i_34 i_35 i_36 i_37 i_38 i_39 i_40 i_41 i_42 i_43 i_44 i_45 i_46 i_47 i_48 i_49 i_50 i_51 i_52 i_53 i_54 h6 h7 h8 (mm_wk q6 (by decide)) h10 h11 h12 h13 h14 h15 h16 h17 h18 h19 h20 h21 h22 h23 h24 h25 h26 h27 h28 h29 h30 h31 h32 h33 h34 h35) (cwV 1 hts (mm_gV mm_w613 mm_w614 mm_w615 mm_w5 mm_w616) rfl rfl rfl hd_X12_isText ⟨by rw [hRf]; exact Nat.le_of_ble_eq_true rfl, by rw [hRl]; exact Nat.le_of_ble_eq_true rfl⟩) (mm_preV hK hZ hS hA hP hD [0, 2] rfl rfl 0 rfl rfl rfl) rfl rfl hl.1 rfl (lv_room (Nat.le_of_ble_eq_true rfl)) dX12_average_16 ⟨by rw [hRc]; exact Nat.le_of_ble_eq_true rfl, by rw [hRs]; exact Nat.le_of_ble_eq_true rfl⟩) hP hD hS hA [0, 2] rfl (fun _ => rfl) ?_
      clear hP hD hS
      clear H locs
      intro v10 _u H locs hw hP hD hS
      rcases hw with rfl | ⟨rfl, w11, w12⟩
      · refine lv_if_eq (tgt := 29) hx hb dX12_average_19 (by decide) (fun c13 => ?_) (fun c13 => ?_)
        · refine lv_bipush (v := (-2)) hx hb dX12_average_29 (by decide) ?_
          subst hAe
          rw [hQ]
          exact W.iret (v := (-2)) hx hb hr (fun t ht hW => ⟨⟨(-2), (i_13, i_14, i_15, f_6, f_7, f_8, f_9), rfl, ⟨h0, h42, h43, h44, h45, trivial⟩, by rw [ht]; exact hP, hK.warm hW, hD⟩, hS.F ht⟩) hS.2.2 dX12_average_31
        · have q14 := mm_neL (lo := 1) (mm_ne c13) mm_k0 mm_k0 (by decide) (by decide)
          exact mm_no q14 (by decide)
      · have q15 := mm_meet (lo := 0) (hi := 5) (mm_l2x ev9 w11) (mm_top i_1) (by decide)
        have w16 := mm_tx_lt w12 (mm_i2lE ev9)
        have q17 := mm_ltR (lo := 1) w16 q15 h10 (by decide)
        refine lv_if_eq (tgt := 29) hx hb dX12_average_19 (by decide) (fun c18 => ?_) (fun c18 => ?_)
        · exact mm_eqN c18.symm mm_k0 mm_k1 (by decide)
        · refine lv_iload_n hx hb dX12_average_22 rfl (lv_at hl 3 rfl) ?_
          refine mm_finir (va_runS (As := [.int i_2]) (rest := []) ⟨hx, hb, hml, hown, hts⟩ (M93_X12_isHalf l G cy H.size i_2 ) (va_cwS 1 hts (mm_gS mm_w592 mm_w593 mm_w5 mm_w594) rfl rfl rfl hs_X12_isHalf ⟨by rw [hRf]; exact Nat.le_of_ble_eq_true rfl, by rw [hRl]; exact Nat.le_of_ble_eq_true rfl⟩) (mm_preS hK hZ hS hA hP hD [] rfl rfl) rfl rfl hl.1 rfl (lv_room (Nat.le_of_ble_eq_true rfl)) dX12_average_23 ⟨by rw [hRc]; exact Nat.le_of_ble_eq_true rfl, by rw [hRs]; exact Nat.le_of_ble_eq_true rfl⟩) hP hD hS hA [] rfl (fun _ => rfl) ?_
          clear hP hD hS
          clear H locs
          intro v19 _u H locs hw hP hD hS
          rcases hw with rfl | ⟨rfl, w20⟩
          · refine lv_if_ne (tgt := 32) hx hb dX12_average_26 (by decide) (fun c21 => ?_) (fun c21 => ?_)
            · have q22 := mm_neL (lo := 1) (mm_ne c21) mm_k0 mm_k0 (by decide) (by decide)
              exact mm_no q22 (by decide)
            · refine lv_bipush (v := (-2)) hx hb dX12_average_29 (by decide) ?_
              subst hAe
              rw [hQ]
              exact W.iret (v := (-2)) hx hb hr (fun t ht hW => ⟨⟨(-2), (i_13, i_14, i_15, f_6, f_7, f_8, f_9), rfl, ⟨h0, h42, h43, h44, h45, trivial⟩, by rw [ht]; exact hP, hK.warm hW, hD⟩, hS.F ht⟩) hS.2.2 dX12_average_31
          · refine lv_if_ne (tgt := 32) hx hb dX12_average_26 (by decide) (fun c23 => ?_) (fun c23 => ?_)
            · refine lv_aload_n hx hb dX12_average_32 rfl (lv_at hl 0 rfl) ?_
              refine mm_finv (va_runV (As := []) (rest := []) ⟨hx, hb, hml, hown, hts⟩ (M125_X12_lays l G cy H.size a_0 0 a_1 a_2 a_3 a_4 a_5 i_4 i_5 i_6 i_7 i_8 j_0 i_9 i_10 i_11 i_12 a_6 a_7 a_8 a_9 a_10 a_11 a_12 a_13 a_14 a_15 a_16 a_17 a_18 i_13 i_14 i_15 i_16 i_17 i_18 a_19 i_19 a_20 i_20 i_21 i_22 i_23 i_24 i_25 i_26 i_27 i_28 i_29 i_30 i_31 i_32 i_33 i_34 i_35 i_36 i_37 i_38 i_39 i_40 i_41 i_42 i_43 i_44 i_45 i_46 i_47 i_48 i_49 i_50 i_51 i_52 i_53 i_54 f_1 f_2 f_5 f_6 f_7 f_8 (mm_wk q7 (by decide)) h2 h3 h4 h5 h6 h7 h8 (mm_wk q6 (by decide)) (mm_wk q17 (by decide)) h11 h12 h13 h14 h15 h16 h17 h18 h19 h20 h21 h22 h23 h24 h25 h26 h27 h28 h29 h30 h31 h32 h33 h34 h35 h37 h38 h41 h42 h43 h44 h46 h48 h49 h50 h52 h53 h54 h56 h57 h58 h60 h61) (cwV 0 hts (mm_gV mm_w686 mm_w687 mm_w688 mm_w5 mm_w689) rfl rfl rfl hd_X12_lays ⟨by rw [hRf]; exact Nat.le_of_ble_eq_true rfl, by rw [hRl]; exact Nat.le_of_ble_eq_true rfl⟩) (mm_preV hK hZ hS hA hP hD [0, 1, 2, 4, 5, 8, 9, 10, 11] rfl rfl 0 rfl rfl rfl) rfl rfl hl.1 rfl (lv_room (Nat.le_of_ble_eq_true rfl)) dX12_average_33 ⟨by rw [hRc]; exact Nat.le_of_ble_eq_true rfl, by rw [hRs]; exact Nat.le_of_ble_eq_true rfl⟩) hP hD hS hA (fun u : (Nat → Int32) × (Nat → Int32) × (Nat → Int32) => [(a_0, .inr (12, [.int 0, .ref a_1, .ref a_2, .ref a_3, .ref a_4, .ref a_5, .int i_4, .int i_5, .int i_6, .int i_7, .int i_8, .long j_0, .int i_9, .int i_10, .int i_11, .int i_12, .ref a_6, .ref a_7, .ref a_8, .ref a_9, .ref a_10, .ref a_11, .ref a_12, .ref a_13, .ref a_14, .ref a_15, .ref a_16, .ref a_17, .ref a_18, .int i_13, .int i_14, .int i_15, .int i_16, .int i_17, .int i_18, .ref a_19, .int i_19, .ref a_20])), (a_6, .inl (cy 1, 5, .inl (mm_g [i_20, i_21, i_22, i_23, i_24]))), (a_7, .inl (cy 1, 30, .inl (mm_g [i_25, i_26, i_27, i_28, i_29, i_30, i_31, i_32, i_33, i_34, i_35, i_36, i_37, i_38, i_39, i_40, i_41, i_42, i_43, i_44, i_45, i_46, i_47, i_48, i_49, i_50, i_51, i_52, i_53, i_54]))), (a_8, .inl (cy 1, 90, .inl f_0)), (a_9, .inl (cy 1, 15, .inl f_1)), (a_10, .inl (cy 1, 1050, .inl f_2)), (a_11, .inl (cy 1, 30, .inl f_3)), (a_12, .inl (cy 1, 240, .inl f_4)), (a_13, .inl (cy 1, 450, .inl f_5)), (a_15, .inl (cy 1, 7200, .inl u.1)), (a_16, .inl (cy 1, 3, .inl u.2.1)), (a_17, .inl (cy 1, 3, .inl u.2.2)), (a_18, .inl (cy 1, 8, .inl f_9))]) [0, 1, 2, 4, 5, 8, 9, 10, 11] [3, 6, 7, 12] (n := 13) (fun _ => rfl) (by decide +kernel) (by decide +kernel) rfl (fun _ => rfl) (wr := [(a_8, .inl (cy 1, 90, .inl f_0)), (a_11, .inl (cy 1, 30, .inl f_3)), (a_12, .inl (cy 1, 240, .inl f_4)), (a_18, .inl (cy 1, 8, .inl f_9))]) rfl (fun _ => rfl) (fun _ => @rfl _ ([a_0, a_6, a_7, a_9, a_10, a_13, a_15, a_16, a_17] : List Nat)) ?_
              clear hP hD hS
              clear H locs
              intro u
              obtain ⟨n24, n25, n26⟩ := u
              intro H locs hw (hP : va_P G vwCl [(a_0, .inr (12, [.int 0, .ref a_1, .ref a_2, .ref a_3, .ref a_4, .ref a_5, .int i_4, .int i_5, .int i_6, .int i_7, .int i_8, .long j_0, .int i_9, .int i_10, .int i_11, .int i_12, .ref a_6, .ref a_7, .ref a_8, .ref a_9, .ref a_10, .ref a_11, .ref a_12, .ref a_13, .ref a_14, .ref a_15, .ref a_16, .ref a_17, .ref a_18, .int i_13, .int i_14, .int i_15, .int i_16, .int i_17, .int i_18, .ref a_19, .int i_19, .ref a_20])), (a_6, .inl (cy 1, 5, .inl (mm_g [i_20, i_21, i_22, i_23, i_24]))), (a_7, .inl (cy 1, 30, .inl (mm_g [i_25, i_26, i_27, i_28, i_29, i_30, i_31, i_32, i_33, i_34, i_35, i_36, i_37, i_38, i_39, i_40, i_41, i_42, i_43, i_44, i_45, i_46, i_47, i_48, i_49, i_50, i_51, i_52, i_53, i_54]))), (a_8, .inl (cy 1, 90, .inl f_0)), (a_9, .inl (cy 1, 15, .inl f_1)), (a_10, .inl (cy 1, 1050, .inl f_2)), (a_11, .inl (cy 1, 30, .inl f_3)), (a_12, .inl (cy 1, 240, .inl f_4)), (a_13, .inl (cy 1, 450, .inl f_5)), (a_15, .inl (cy 1, 7200, .inl n24)), (a_16, .inl (cy 1, 3, .inl n25)), (a_17, .inl (cy 1, 3, .inl n26)), (a_18, .inl (cy 1, 8, .inl f_9))] H) (hD : va_D A [(a_0, .inr (12, [.int 0, .ref a_1, .ref a_2, .ref a_3, .ref a_4, .ref a_5, .int i_4, .int i_5, .int i_6, .int i_7, .int i_8, .long j_0, .int i_9, .int i_10, .int i_11, .int i_12, .ref a_6, .ref a_7, .ref a_8, .ref a_9, .ref a_10, .ref a_11, .ref a_12, .ref a_13, .ref a_14, .ref a_15, .ref a_16, .ref a_17, .ref a_18, .int i_13, .int i_14, .int i_15, .int i_16, .int i_17, .int i_18, .ref a_19, .int i_19, .ref a_20])), (a_6, .inl (cy 1, 5, .inl (mm_g [i_20, i_21, i_22, i_23, i_24]))), (a_7, .inl (cy 1, 30, .inl (mm_g [i_25, i_26, i_27, i_28, i_29, i_30, i_31, i_32, i_33, i_34, i_35, i_36, i_37, i_38, i_39, i_40, i_41, i_42, i_43, i_44, i_45, i_46, i_47, i_48, i_49, i_50, i_51, i_52, i_53, i_54]))), (a_8, .inl (cy 1, 90, .inl f_0)), (a_9, .inl (cy 1, 15, .inl f_1)), (a_10, .inl (cy 1, 1050, .inl f_2)), (a_11, .inl (cy 1, 30, .inl f_3)), (a_12, .inl (cy 1, 240, .inl f_4)), (a_13, .inl (cy 1, 450, .inl f_5)), (a_15, .inl (cy 1, 7200, .inl n24)), (a_16, .inl (cy 1, 3, .inl n25)), (a_17, .inl (cy 1, 3, .inl n26)), (a_18, .inl (cy 1, 8, .inl f_9))]) hS
              obtain ⟨w27, w28, w29, w30, w31⟩ := hw
              replace w30 : mm_laid n25 n26 i_28 := w30
              replace w31 : mm_tab n24 n25 i_27 i_28 := w31
              refine lv_lconst (v := 0) hx hb dX12_average_36 (by decide) ?_
              refine lv_lstore (lv' := [(4, .long 0), (0, .ref a_0), (1, .int i_0), (2, .int i_1), (3, .int i_2)]) hx hb dX12_average_37 hl (by decide) rfl ?_
              clear hl
              clear ls
              intro ls hl
              refine lv_iconst (v := 0) hx hb dX12_average_39 (by decide) ?_
              refine lv_istore (lv' := [(6, .int 0), (4, .long 0), (0, .ref a_0), (1, .int i_0), (2, .int i_1), (3, .int i_2)]) hx hb dX12_average_40 hl (by decide) rfl ?_
              clear hl
              clear ls
              intro ls hl
              have L42_322 : ∀ (n : Nat) (x42_6_316 : Int32) (x42_4_317 : Int64) (y42_0_29_318 : Int32) (y42_0_30_319 : Int32) (y42_0_31_320 : Int32) (z42_12_321 : Nat → Int32), mm_rg x42_6_316 0 210 → mm_rl x42_4_317 0 2099790 → mm_rg y42_0_29_318 0 8 → mm_ar z42_12_321 0 9 → mm_sv 9999 x42_6_316 x42_4_317 → (210 - x42_6_316.toInt).toNat < n → ∀ (H : Heap) (locs : List Loc), va_P G vwCl [(a_0, .inr (12, [.int 0, .ref a_1, .ref a_2, .ref a_3, .ref a_4, .ref a_5, .int i_4, .int i_5, .int i_6, .int i_7, .int i_8, .long j_0, .int i_9, .int i_10, .int i_11, .int i_12, .ref a_6, .ref a_7, .ref a_8, .ref a_9, .ref a_10, .ref a_11, .ref a_12, .ref a_13, .ref a_14, .ref a_15, .ref a_16, .ref a_17, .ref a_18, .int y42_0_29_318, .int y42_0_30_319, .int y42_0_31_320, .int i_16, .int i_17, .int i_18, .ref a_19, .int i_19, .ref a_20])), (a_6, .inl (cy 1, 5, .inl (mm_g [i_20, i_21, i_22, i_23, i_24]))), (a_7, .inl (cy 1, 30, .inl (mm_g [i_25, i_26, i_27, i_28, i_29, i_30, i_31, i_32, i_33, i_34, i_35, i_36, i_37, i_38, i_39, i_40, i_41, i_42, i_43, i_44, i_45, i_46, i_47, i_48, i_49, i_50, i_51, i_52, i_53, i_54]))), (a_8, .inl (cy 1, 90, .inl f_0)), (a_9, .inl (cy 1, 15, .inl f_1)), (a_10, .inl (cy 1, 1050, .inl f_2)), (a_11, .inl (cy 1, 30, .inl f_3)), (a_12, .inl (cy 1, 240, .inl f_4)), (a_13, .inl (cy 1, 450, .inl f_5)), (a_15, .inl (cy 1, 7200, .inl n24)), (a_16, .inl (cy 1, 3, .inl n25)), (a_17, .inl (cy 1, 3, .inl n26)), (a_18, .inl (cy 1, 8, .inl z42_12_321))] H → va_D A [(a_0, .inr (12, [.int 0, .ref a_1, .ref a_2, .ref a_3, .ref a_4, .ref a_5, .int i_4, .int i_5, .int i_6, .int i_7, .int i_8, .long j_0, .int i_9, .int i_10, .int i_11, .int i_12, .ref a_6, .ref a_7, .ref a_8, .ref a_9, .ref a_10, .ref a_11, .ref a_12, .ref a_13, .ref a_14, .ref a_15, .ref a_16, .ref a_17, .ref a_18, .int y42_0_29_318, .int y42_0_30_319, .int y42_0_31_320, .int i_16, .int i_17, .int i_18, .ref a_19, .int i_19, .ref a_20])), (a_6, .inl (cy 1, 5, .inl (mm_g [i_20, i_21, i_22, i_23, i_24]))), (a_7, .inl (cy 1, 30, .inl (mm_g [i_25, i_26, i_27, i_28, i_29, i_30, i_31, i_32, i_33, i_34, i_35, i_36, i_37, i_38, i_39, i_40, i_41, i_42, i_43, i_44, i_45, i_46, i_47, i_48, i_49, i_50, i_51, i_52, i_53, i_54]))), (a_8, .inl (cy 1, 90, .inl f_0)), (a_9, .inl (cy 1, 15, .inl f_1)), (a_10, .inl (cy 1, 1050, .inl f_2)), (a_11, .inl (cy 1, 30, .inl f_3)), (a_12, .inl (cy 1, 240, .inl f_4)), (a_13, .inl (cy 1, 450, .inl f_5)), (a_15, .inl (cy 1, 7200, .inl n24)), (a_16, .inl (cy 1, 3, .inl n25)), (a_17, .inl (cy 1, 3, .inl n26)), (a_18, .inl (cy 1, 8, .inl z42_12_321))] → va_S A s.heap H locs → ∀ (ls : Array Slot), lv_has ls 7 [(6, .int x42_6_316), (4, .long x42_4_317), (0, .ref a_0), (1, .int i_0), (2, .int i_1), (3, .int i_2)] → W p l e R s m args below meth c H locs 0 0 Q (F0 m 42 ls []) := by
                intro n
                induction n with
                | zero => intro x42_6_316 x42_4_317 y42_0_29_318 y42_0_30_319 y42_0_31_320 z42_12_321 rx42_6_316 rx42_4_317 ry42_0_29_318 rz42_12_321 w322 hm; exact absurd hm (Nat.not_lt_zero _)
                | succ n ih42 =>
                  intro x42_6_316 x42_4_317 y42_0_29_318 y42_0_30_319 y42_0_31_320 z42_12_321 rx42_6_316 rx42_4_317 ry42_0_29_318 rz42_12_321 w322 hm42 H locs hP hD hS ls hl
                  refine lv_iload hx hb dX12_average_42 (lv_at hl 0 rfl) ?_
                  refine lv_aload_n hx hb dX12_average_44 rfl (lv_at hl 2 rfl) ?_
                  refine va_get (D := G) (ci := 12) (v := .ref a_17) (C := RX12) (T := TX12) (N := 38) hx hb hts (mm_i inlX12) hown hK.1 hP 0 rfl rfl 27 (by decide) (mm_h hts mm_w159) (fun _ h9 => h9) rfl dX12_average_45 ?_
                  refine lv_iload_n hx hb dX12_average_48 rfl (lv_at hl 3 rfl) ?_
                  refine va_iald hx hb hK.1 hP 11 1 rfl rfl (mm_in w2 (by decide)) dX12_average_49 ?_
                  refine lv_topi (fun v324 ev324 => ?_)
                  have rv324 : mm_rg v324 0 210 := mm_eqv ev324 (w29 _)
                  have q325 : mm_rg v324 1 210 := mm_laid_ld1 w30 w3 ev324 w2 rv324 (by decide)
                  refine lv_icmp_ge (tgt := 73) hx hb dX12_average_50 (by decide) (fun c326 => ?_) (fun c326 => ?_)
                  · have q327 := mm_leR (mm_le c326) q325 rx42_6_316
                    refine lv_lload hx hb dX12_average_73 (lv_at hl 1 rfl) ?_
                    refine lv_aload_n hx hb dX12_average_75 rfl (lv_at hl 2 rfl) ?_
                    refine va_get (D := G) (ci := 12) (v := .ref a_17) (C := RX12) (T := TX12) (N := 38) hx hb hts (mm_i inlX12) hown hK.1 hP 0 rfl rfl 27 (by decide) (mm_h hts mm_w159) (fun _ h9 => h9) rfl dX12_average_76 ?_
                    refine lv_iload_n hx hb dX12_average_79 rfl (lv_at hl 3 rfl) ?_
                    refine va_iald hx hb hK.1 hP 11 1 rfl rfl (mm_in w2 (by decide)) dX12_average_80 ?_
                    refine lv_topi (fun v328 ev328 => ?_)
                    have rv328 : mm_rg v328 0 210 := mm_eqv ev328 (w29 _)
                    have q329 : mm_rg v328 1 210 := mm_laid_ld1 w30 w3 ev328 w2 rv328 (by decide)
                    obtain rfl : v324 = v328 := ev324.trans ev328.symm
                    obtain ⟨v330, ev330⟩ : ∃ y : Int64, y = v324.toInt64 := ⟨_, rfl⟩
                    refine lv_i2l hx hb dX12_average_81 ev330.symm ?_
                    have rv330 : mm_rl v330 1 210 := mm_i2l ev330 q325
                    refine lv_iload_n hx hb dX12_average_82 rfl (lv_at hl 5 rfl) ?_
                    refine mm_finlr (va_runS (As := [.long x42_4_317, .long v330, .int i_2]) (rest := []) ⟨hx, hb, hml, hown, hts⟩ (M175_X12_part l G cy H.size x42_4_317 v330 i_2 (mm_wkl rx42_4_317 (by decide)) rv330 w20) (va_cwS 3 hts (mm_gS mm_w1040 mm_w1041 mm_w5 mm_w1042) rfl rfl rfl hs_X12_part ⟨by rw [hRf]; exact Nat.le_of_ble_eq_true rfl, by rw [hRl]; exact Nat.le_of_ble_eq_true rfl⟩) (mm_preS hK hZ hS hA hP hD [] rfl rfl) rfl rfl hl.1 rfl (lv_room (Nat.le_of_ble_eq_true rfl)) dX12_average_83 ⟨by rw [hRc]; exact Nat.le_of_ble_eq_true rfl, by rw [hRs]; exact Nat.le_of_ble_eq_true rfl⟩) hP hD hS hA [] rfl (fun _ => rfl) ?_
                    clear hP hD hS
                    clear H locs
                    intro v331 _u H locs hw hP hD hS
                    have w332 := hw
                    obtain ⟨v333, ev333⟩ : ∃ y : Int32, y = v331.toInt32 := ⟨_, rfl⟩
                    refine lv_l2i hx hb dX12_average_86 ev333.symm ?_
                    subst hAe
                    rw [hQ]
                    exact W.iret (v := v333) hx hb hr (fun t ht hW => ⟨⟨v333, (y42_0_29_318, y42_0_30_319, y42_0_31_320, n24, n25, n26, z42_12_321), rfl, ⟨ry42_0_29_318, w27, w28, w29, rz42_12_321, trivial⟩, by rw [ht]; exact hP, hK.warm hW, hD⟩, hS.F ht⟩) hS.2.2 dX12_average_87
                  · have q334 := mm_ltL (h := 209) (mm_nle c326) rx42_6_316 q325 (by decide)
                    have q335 : mm_rl x42_4_317 0 2089791 := mm_sv_rl w322 q334 (by decide)
                    refine lv_lload hx hb dX12_average_53 (lv_at hl 1 rfl) ?_
                    refine lv_aload_n hx hb dX12_average_55 rfl (lv_at hl 2 rfl) ?_
                    refine lv_iload_n hx hb dX12_average_56 rfl (lv_at hl 3 rfl) ?_
                    refine lv_iload hx hb dX12_average_57 (lv_at hl 0 rfl) ?_
                    refine lv_iload_n hx hb dX12_average_59 rfl (lv_at hl 4 rfl) ?_
                    refine mm_fini (va_runV (As := [.int i_0, .int x42_6_316, .int i_1]) (rest := [.long x42_4_317]) ⟨hx, hb, hml, hown, hts⟩ (M141_X12_reads l G cy H.size a_0 i_0 x42_6_316 i_1 0 a_1 a_2 a_3 a_4 a_5 i_4 i_5 i_6 i_7 i_8 j_0 i_9 i_10 i_11 i_12 a_6 a_7 a_8 a_9 a_10 a_11 a_12 a_13 a_14 a_15 a_16 a_17 a_18 y42_0_29_318 y42_0_30_319 y42_0_31_320 i_16 i_17 i_18 a_19 i_19 a_20 i_25 i_26 i_27 i_28 i_29 i_30 i_31 i_32 i_33 i_34 i_35 i_36 i_37 i_38 i_39 i_40 i_41 i_42 i_43 i_44 i_45 i_46 i_47 i_48 i_49 i_50 i_51 i_52 i_53 i_54 f_0 f_3 f_4 f_5 n24 n25 z42_12_321 w2 (mm_wk q334 (by decide)) q15 ry42_0_29_318 h6 h7 h8 (mm_wk q6 (by decide)) (mm_wk q17 (by decide)) h11 h12 h13 h14 h15 h16 h17 h18 h19 h20 h21 h22 h23 h24 h25 h26 h27 h28 h29 h30 h31 h32 h33 h34 h35 h36 h39 h40 h41 w27 w28 rz42_12_321 h47 h48 h51 h52 h55 h56 h59 h60 (mm_f1_l w30 w3 w2 (by decide))) (cwV 3 hts (mm_gV mm_w852 mm_w853 mm_w854 mm_w5 mm_w855) rfl rfl rfl hd_X12_reads ⟨by rw [hRf]; exact Nat.le_of_ble_eq_true rfl, by rw [hRl]; exact Nat.le_of_ble_eq_true rfl⟩) (mm_preV hK hZ hS hA hP hD [0, 2, 3, 6, 7, 8, 9, 10, 12] rfl rfl 0 rfl rfl rfl) rfl rfl hl.1 rfl (lv_room (Nat.le_of_ble_eq_true rfl)) dX12_average_60 ⟨by rw [hRc]; exact Nat.le_of_ble_eq_true rfl, by rw [hRs]; exact Nat.le_of_ble_eq_true rfl⟩) hP hD hS hA (fun u : Int32 × Int32 × Int32 × (Nat → Int32) => [(a_0, .inr (12, [.int 0, .ref a_1, .ref a_2, .ref a_3, .ref a_4, .ref a_5, .int i_4, .int i_5, .int i_6, .int i_7, .int i_8, .long j_0, .int i_9, .int i_10, .int i_11, .int i_12, .ref a_6, .ref a_7, .ref a_8, .ref a_9, .ref a_10, .ref a_11, .ref a_12, .ref a_13, .ref a_14, .ref a_15, .ref a_16, .ref a_17, .ref a_18, .int u.1, .int u.2.1, .int u.2.2.1, .int i_16, .int i_17, .int i_18, .ref a_19, .int i_19, .ref a_20])), (a_6, .inl (cy 1, 5, .inl (mm_g [i_20, i_21, i_22, i_23, i_24]))), (a_7, .inl (cy 1, 30, .inl (mm_g [i_25, i_26, i_27, i_28, i_29, i_30, i_31, i_32, i_33, i_34, i_35, i_36, i_37, i_38, i_39, i_40, i_41, i_42, i_43, i_44, i_45, i_46, i_47, i_48, i_49, i_50, i_51, i_52, i_53, i_54]))), (a_8, .inl (cy 1, 90, .inl f_0)), (a_9, .inl (cy 1, 15, .inl f_1)), (a_10, .inl (cy 1, 1050, .inl f_2)), (a_11, .inl (cy 1, 30, .inl f_3)), (a_12, .inl (cy 1, 240, .inl f_4)), (a_13, .inl (cy 1, 450, .inl f_5)), (a_15, .inl (cy 1, 7200, .inl n24)), (a_16, .inl (cy 1, 3, .inl n25)), (a_17, .inl (cy 1, 3, .inl n26)), (a_18, .inl (cy 1, 8, .inl u.2.2.2))]) [0, 2, 3, 6, 7, 8, 9, 10, 12] [1, 4, 5, 11] (n := 13) (fun _ => rfl) (by decide +kernel) (by decide +kernel) rfl (fun _ => rfl) (wr := [(a_6, .inl (cy 1, 5, .inl (mm_g [i_20, i_21, i_22, i_23, i_24]))), (a_9, .inl (cy 1, 15, .inl f_1)), (a_10, .inl (cy 1, 1050, .inl f_2)), (a_17, .inl (cy 1, 3, .inl n26))]) rfl (fun _ => rfl) (fun _ => @rfl _ ([a_0, a_7, a_8, a_11, a_12, a_13, a_15, a_16, a_18] : List Nat)) ?_
                    clear hP hD hS
                    clear H locs
                    intro v340 u
                    obtain ⟨n336, n337, n338, n339⟩ := u
                    intro H locs hw (hP : va_P G vwCl [(a_0, .inr (12, [.int 0, .ref a_1, .ref a_2, .ref a_3, .ref a_4, .ref a_5, .int i_4, .int i_5, .int i_6, .int i_7, .int i_8, .long j_0, .int i_9, .int i_10, .int i_11, .int i_12, .ref a_6, .ref a_7, .ref a_8, .ref a_9, .ref a_10, .ref a_11, .ref a_12, .ref a_13, .ref a_14, .ref a_15, .ref a_16, .ref a_17, .ref a_18, .int n336, .int n337, .int n338, .int i_16, .int i_17, .int i_18, .ref a_19, .int i_19, .ref a_20])), (a_6, .inl (cy 1, 5, .inl (mm_g [i_20, i_21, i_22, i_23, i_24]))), (a_7, .inl (cy 1, 30, .inl (mm_g [i_25, i_26, i_27, i_28, i_29, i_30, i_31, i_32, i_33, i_34, i_35, i_36, i_37, i_38, i_39, i_40, i_41, i_42, i_43, i_44, i_45, i_46, i_47, i_48, i_49, i_50, i_51, i_52, i_53, i_54]))), (a_8, .inl (cy 1, 90, .inl f_0)), (a_9, .inl (cy 1, 15, .inl f_1)), (a_10, .inl (cy 1, 1050, .inl f_2)), (a_11, .inl (cy 1, 30, .inl f_3)), (a_12, .inl (cy 1, 240, .inl f_4)), (a_13, .inl (cy 1, 450, .inl f_5)), (a_15, .inl (cy 1, 7200, .inl n24)), (a_16, .inl (cy 1, 3, .inl n25)), (a_17, .inl (cy 1, 3, .inl n26)), (a_18, .inl (cy 1, 8, .inl n339))] H) (hD : va_D A [(a_0, .inr (12, [.int 0, .ref a_1, .ref a_2, .ref a_3, .ref a_4, .ref a_5, .int i_4, .int i_5, .int i_6, .int i_7, .int i_8, .long j_0, .int i_9, .int i_10, .int i_11, .int i_12, .ref a_6, .ref a_7, .ref a_8, .ref a_9, .ref a_10, .ref a_11, .ref a_12, .ref a_13, .ref a_14, .ref a_15, .ref a_16, .ref a_17, .ref a_18, .int n336, .int n337, .int n338, .int i_16, .int i_17, .int i_18, .ref a_19, .int i_19, .ref a_20])), (a_6, .inl (cy 1, 5, .inl (mm_g [i_20, i_21, i_22, i_23, i_24]))), (a_7, .inl (cy 1, 30, .inl (mm_g [i_25, i_26, i_27, i_28, i_29, i_30, i_31, i_32, i_33, i_34, i_35, i_36, i_37, i_38, i_39, i_40, i_41, i_42, i_43, i_44, i_45, i_46, i_47, i_48, i_49, i_50, i_51, i_52, i_53, i_54]))), (a_8, .inl (cy 1, 90, .inl f_0)), (a_9, .inl (cy 1, 15, .inl f_1)), (a_10, .inl (cy 1, 1050, .inl f_2)), (a_11, .inl (cy 1, 30, .inl f_3)), (a_12, .inl (cy 1, 240, .inl f_4)), (a_13, .inl (cy 1, 450, .inl f_5)), (a_15, .inl (cy 1, 7200, .inl n24)), (a_16, .inl (cy 1, 3, .inl n25)), (a_17, .inl (cy 1, 3, .inl n26)), (a_18, .inl (cy 1, 8, .inl n339))]) hS
                    obtain ⟨w341, w342, hw⟩ := hw
                    obtain ⟨w343, w344⟩ := hw
                    replace w344 : mm_rd n24 n25 f_0 f_3 f_4 f_5 i_0 x42_6_316 i_1 i_26 i_27 i_30 v340 := w344
                    obtain ⟨v345, ev345⟩ : ∃ y : Int64, y = v340.toInt64 := ⟨_, rfl⟩
                    refine lv_i2l hx hb dX12_average_63 ev345.symm ?_
                    have rv345 : mm_rl v345 0 9999 := mm_i2l ev345 w343
                    refine lv_ladd hx hb dX12_average_64 ?_
                    refine lv_topl (fun v346 ev346 => ?_)
                    have rv346 : mm_rl v346 0 2099790 := mm_addl ev346 q335 rv345 (by decide) (by decide)
                    have tv346 := mm_addlE ev346 q335 rv345 (by decide)
                    refine lv_lstore (lv' := [(4, .long v346), (6, .int x42_6_316), (0, .ref a_0), (1, .int i_0), (2, .int i_1), (3, .int i_2)]) hx hb dX12_average_65 hl (by decide) rfl ?_
                    clear hl
                    clear ls
                    intro ls hl
                    obtain ⟨v347, ev347⟩ : ∃ y : Int32, y = x42_6_316 + 1 := ⟨_, rfl⟩
                    refine lv_iinc (v := v347) (lv' := [(6, .int v347), (4, .long v346), (0, .ref a_0), (1, .int i_0), (2, .int i_1), (3, .int i_2)]) hx hb dX12_average_67 hl (k := 1) rfl (by rw [ev347]; rfl) (by decide) rfl ?_
                    clear hl
                    clear ls
                    intro ls hl
                    have rv347 : mm_rg v347 1 210 := mm_add ev347 q334 mm_k1 (by decide) (by decide)
                    have tv347 := mm_addEc ev347 q334 mm_k1 (by decide) (k := 1) (by decide)
                    refine lv_goto (tgt := 42) hx hb dX12_average_70 (by decide) ?_
                    have w348 : mm_sv 9999 v347 v346 := (mm_sv_s w322 tv347 tv346 rv345 (by decide))
                    have q349 : mm_rl v346 0 2099790 := mm_sv_rl w348 rv347 (by decide)
                    exact ih42 v347 v346 n336 n337 n338 n339 (mm_wk rv347 (by decide)) q349 w341 w342 w348 (mm_mu hm42 tv347 (by decide) (rv347).2 (by decide)) H locs hP hD hS ls (lv_sub hl [0, 1, 2, 3, 4, 5] rfl)
              exact L42_322 _ 0 0 i_13 i_14 i_15 f_9 (mm_wk mm_k0 (by decide)) (mm_wkl mm_kl0 (by decide)) h0 h45 (mm_sv_0 _) (Nat.lt_succ_self _) H locs hP hD hS ls (lv_sub hl [0, 1, 2, 3, 4, 5] rfl)
            · exact mm_eqN c23.symm mm_k0 mm_k1 (by decide)

set_option maxHeartbeats 4000000 in
set_option maxRecDepth 100000 in
theorem M177_X12_lost (l : Launch) (G : va_G) (cy : Nat → ClassId) (sz : Nat) (a_0 : Nat) (i_0 : Int32) (i_1 : Int32) (i_2 : Int32) (i_3 : Int32) (a_1 : Nat) (a_2 : Nat) (a_3 : Nat) (a_4 : Nat) (a_5 : Nat) (i_4 : Int32) (i_5 : Int32) (i_6 : Int32) (i_7 : Int32) (i_8 : Int32) (j_0 : Int64) (i_9 : Int32) (i_10 : Int32) (i_11 : Int32) (i_12 : Int32) (a_6 : Nat) (a_7 : Nat) (a_8 : Nat) (a_9 : Nat) (a_10 : Nat) (a_11 : Nat) (a_12 : Nat) (a_13 : Nat) (a_14 : Nat) (a_15 : Nat) (a_16 : Nat) (a_17 : Nat) (a_18 : Nat) (i_13 : Int32) (i_14 : Int32) (i_15 : Int32) (i_16 : Int32) (i_17 : Int32) (i_18 : Int32) (a_19 : Nat) (i_19 : Int32) (a_20 : Nat) (i_20 : Int32) (i_21 : Int32) (i_22 : Int32) (i_23 : Int32) (i_24 : Int32) (i_25 : Int32) (i_26 : Int32) (i_27 : Int32) (i_28 : Int32) (i_29 : Int32) (i_30 : Int32) (i_31 : Int32) (i_32 : Int32) (i_33 : Int32) (i_34 : Int32) (i_35 : Int32) (i_36 : Int32) (i_37 : Int32) (i_38 : Int32) (i_39 : Int32) (i_40 : Int32) (i_41 : Int32) (i_42 : Int32) (i_43 : Int32) (i_44 : Int32) (i_45 : Int32) (i_46 : Int32) (i_47 : Int32) (i_48 : Int32) (i_49 : Int32) (i_50 : Int32) (i_51 : Int32) (i_52 : Int32) (i_53 : Int32) (i_54 : Int32) (f_0 : Nat → Int32) (f_1 : Nat → Int32) (f_2 : Nat → Int32) (f_3 : Nat → Int32) (f_4 : Nat → Int32) (f_5 : Nat → Int32) (f_6 : Nat → Int32) (f_7 : Nat → Int32) (f_8 : Nat → Int32) (f_9 : Nat → Int32) (h0 : mm_rg i_13 0 8) (h1 : mm_rg i_20 0 601) (h2 : mm_rg i_21 0 601) (h3 : mm_rg i_22 0 601) (h4 : mm_rg i_23 0 601) (h5 : mm_rg i_24 0 601) (h6 : mm_rg i_25 0 10) (h7 : mm_rg i_26 0 99) (h8 : mm_rg i_27 0 9) (h9 : mm_rg i_28 0 3) (h10 : mm_rg i_29 0 6) (h11 : mm_rg i_30 0 30) (h12 : mm_rg i_31 0 10) (h13 : mm_rg i_32 0 99) (h14 : mm_rg i_33 0 9) (h15 : mm_rg i_34 0 3) (h16 : mm_rg i_35 0 6) (h17 : mm_rg i_36 0 30) (h18 : mm_rg i_37 0 10) (h19 : mm_rg i_38 0 99) (h20 : mm_rg i_39 0 9) (h21 : mm_rg i_40 0 3) (h22 : mm_rg i_41 0 6) (h23 : mm_rg i_42 0 30) (h24 : mm_rg i_43 0 10) (h25 : mm_rg i_44 0 99) (h26 : mm_rg i_45 0 9) (h27 : mm_rg i_46 0 3) (h28 : mm_rg i_47 0 6) (h29 : mm_rg i_48 0 30) (h30 : mm_rg i_49 0 10) (h31 : mm_rg i_50 0 99) (h32 : mm_rg i_51 0 9) (h33 : mm_rg i_52 0 3) (h34 : mm_rg i_53 0 6) (h35 : mm_rg i_54 0 30) (h36 : mm_ar f_0 0 99) (h37 : mm_ar f_1 0 7) (h38 : mm_ar f_2 0 9) (h39 : mm_ar f_3 0 8) (h40 : mm_ar f_4 0 9) (h41 : mm_ar f_5 (-1) 99) (h42 : mm_ar f_6 0 9) (h43 : mm_ar f_7 0 210) (h44 : mm_ar f_8 0 210) (h45 : mm_ar f_9 0 9) (h46 : mm_rls f_1 f_2 0 i_27 i_28) (h47 : mm_txs f_3 f_4 0 i_27 i_29) (h48 : mm_acs f_5 0 i_27 i_28 i_30) (h49 : mm_tl i_20 i_28 i_29) (h50 : mm_rls f_1 f_2 1 i_33 i_34) (h51 : mm_txs f_3 f_4 1 i_33 i_35) (h52 : mm_acs f_5 1 i_33 i_34 i_36) (h53 : mm_tl i_21 i_34 i_35) (h54 : mm_rls f_1 f_2 2 i_39 i_40) (h55 : mm_txs f_3 f_4 2 i_39 i_41) (h56 : mm_acs f_5 2 i_39 i_40 i_42) (h57 : mm_tl i_22 i_40 i_41) (h58 : mm_rls f_1 f_2 3 i_45 i_46) (h59 : mm_txs f_3 f_4 3 i_45 i_47) (h60 : mm_acs f_5 3 i_45 i_46 i_48) (h61 : mm_tl i_23 i_46 i_47)  : mm_CI l yX12_lost (mm_ws yX12_lost cX12_lost 4 (some .int)) ({ frames := 14, cells := 0, slots := 0, locals := 300 } : Room) G cy sz [(a_0, .inr (12, [.int i_3, .ref a_1, .ref a_2, .ref a_3, .ref a_4, .ref a_5, .int i_4, .int i_5, .int i_6, .int i_7, .int i_8, .long j_0, .int i_9, .int i_10, .int i_11, .int i_12, .ref a_6, .ref a_7, .ref a_8, .ref a_9, .ref a_10, .ref a_11, .ref a_12, .ref a_13, .ref a_14, .ref a_15, .ref a_16, .ref a_17, .ref a_18, .int i_13, .int i_14, .int i_15, .int i_16, .int i_17, .int i_18, .ref a_19, .int i_19, .ref a_20])), (a_6, .inl (cy 1, 5, .inl (mm_g [i_20, i_21, i_22, i_23, i_24]))), (a_7, .inl (cy 1, 30, .inl (mm_g [i_25, i_26, i_27, i_28, i_29, i_30, i_31, i_32, i_33, i_34, i_35, i_36, i_37, i_38, i_39, i_40, i_41, i_42, i_43, i_44, i_45, i_46, i_47, i_48, i_49, i_50, i_51, i_52, i_53, i_54]))), (a_8, .inl (cy 1, 90, .inl f_0)), (a_9, .inl (cy 1, 15, .inl f_1)), (a_10, .inl (cy 1, 1050, .inl f_2)), (a_11, .inl (cy 1, 30, .inl f_3)), (a_12, .inl (cy 1, 240, .inl f_4)), (a_13, .inl (cy 1, 450, .inl f_5)), (a_15, .inl (cy 1, 7200, .inl f_6)), (a_16, .inl (cy 1, 3, .inl f_7)), (a_17, .inl (cy 1, 3, .inl f_8)), (a_18, .inl (cy 1, 8, .inl f_9))] [.ref a_0, .int i_0, .int i_1, .int i_2] (fun u : Int32 × Int32 × Int32 × (Nat → Int32) × (Nat → Int32) × (Nat → Int32) × (Nat → Int32) => [(a_0, .inr (12, [.int 0, .ref a_1, .ref a_2, .ref a_3, .ref a_4, .ref a_5, .int i_4, .int i_5, .int i_6, .int i_7, .int i_8, .long j_0, .int i_9, .int i_10, .int i_11, .int i_12, .ref a_6, .ref a_7, .ref a_8, .ref a_9, .ref a_10, .ref a_11, .ref a_12, .ref a_13, .ref a_14, .ref a_15, .ref a_16, .ref a_17, .ref a_18, .int u.1, .int u.2.1, .int u.2.2.1, .int i_16, .int i_17, .int i_18, .ref a_19, .int i_19, .ref a_20])), (a_6, .inl (cy 1, 5, .inl (mm_g [i_20, i_21, i_22, i_23, i_24]))), (a_7, .inl (cy 1, 30, .inl (mm_g [i_25, i_26, i_27, i_28, i_29, i_30, i_31, i_32, i_33, i_34, i_35, i_36, i_37, i_38, i_39, i_40, i_41, i_42, i_43, i_44, i_45, i_46, i_47, i_48, i_49, i_50, i_51, i_52, i_53, i_54]))), (a_8, .inl (cy 1, 90, .inl f_0)), (a_9, .inl (cy 1, 15, .inl f_1)), (a_10, .inl (cy 1, 1050, .inl f_2)), (a_11, .inl (cy 1, 30, .inl f_3)), (a_12, .inl (cy 1, 240, .inl f_4)), (a_13, .inl (cy 1, 450, .inl f_5)), (a_15, .inl (cy 1, 7200, .inl u.2.2.2.1)), (a_16, .inl (cy 1, 3, .inl u.2.2.2.2.1)), (a_17, .inl (cy 1, 3, .inl u.2.2.2.2.2.1)), (a_18, .inl (cy 1, 8, .inl u.2.2.2.2.2.2))]) (fun (r : Int32) (u : Int32 × Int32 × Int32 × (Nat → Int32) × (Nat → Int32) × (Nat → Int32) × (Nat → Int32)) => mm_rg u.1 0 8 ∧ mm_ar u.2.2.2.1 0 9 ∧ mm_ar u.2.2.2.2.1 0 210 ∧ mm_ar u.2.2.2.2.2.1 0 210 ∧ mm_ar u.2.2.2.2.2.2 0 9 ∧ True) 0 0 := by
  refine mm_begin (lv := [(0, .ref a_0), (1, .int i_0), (2, .int i_1), (3, .int i_2)]) (by decide) (Nat.le_of_ble_eq_true rfl) rfl ?_
  intro p e s m below meth c A ls R args Q H locs hRe hQ hAe hx hb hr hlocks hml hown hnm hts hsz hA hS hP hK hD hZ hl
  have hRf : R.frames = 14 := by rw [hRe]
  have hRl : R.locals = 300 := by rw [hRe]
  have hRc : R.cells = 0 := by rw [hRe]
  have hRs : R.slots = 0 := by rw [hRe]
  refine lv_aload_n hx hb dX12_lost_0 rfl (lv_at hl 0 rfl) ?_
  refine lv_iconst (v := 0) hx hb dX12_lost_1 (by decide) ?_
  refine va_put (D := G) (ci := 12) (v := .int 0) (ty := tyX12 0) (C := RX12) (T := TX12) (N := 38) hx hb hts (mm_i inlX12) tyX12 tyX12_ok nmX12 hown hK.1 hP hD hS 0 rfl rfl 0 (by decide) (mm_h hts mm_w177) (fun _ h9 => h9) rfl (tyX12_ok 0 (by decide)) rfl rfl (Nat.le_of_ble_eq_true rfl) dX12_lost_2 ?_
  clear hP hD hS
  clear H locs
  intro H locs (hP : va_P G vwCl [(a_0, .inr (12, [.int 0, .ref a_1, .ref a_2, .ref a_3, .ref a_4, .ref a_5, .int i_4, .int i_5, .int i_6, .int i_7, .int i_8, .long j_0, .int i_9, .int i_10, .int i_11, .int i_12, .ref a_6, .ref a_7, .ref a_8, .ref a_9, .ref a_10, .ref a_11, .ref a_12, .ref a_13, .ref a_14, .ref a_15, .ref a_16, .ref a_17, .ref a_18, .int i_13, .int i_14, .int i_15, .int i_16, .int i_17, .int i_18, .ref a_19, .int i_19, .ref a_20])), (a_6, .inl (cy 1, 5, .inl (mm_g [i_20, i_21, i_22, i_23, i_24]))), (a_7, .inl (cy 1, 30, .inl (mm_g [i_25, i_26, i_27, i_28, i_29, i_30, i_31, i_32, i_33, i_34, i_35, i_36, i_37, i_38, i_39, i_40, i_41, i_42, i_43, i_44, i_45, i_46, i_47, i_48, i_49, i_50, i_51, i_52, i_53, i_54]))), (a_8, .inl (cy 1, 90, .inl f_0)), (a_9, .inl (cy 1, 15, .inl f_1)), (a_10, .inl (cy 1, 1050, .inl f_2)), (a_11, .inl (cy 1, 30, .inl f_3)), (a_12, .inl (cy 1, 240, .inl f_4)), (a_13, .inl (cy 1, 450, .inl f_5)), (a_15, .inl (cy 1, 7200, .inl f_6)), (a_16, .inl (cy 1, 3, .inl f_7)), (a_17, .inl (cy 1, 3, .inl f_8)), (a_18, .inl (cy 1, 8, .inl f_9))] H) (hD : va_D A [(a_0, .inr (12, [.int 0, .ref a_1, .ref a_2, .ref a_3, .ref a_4, .ref a_5, .int i_4, .int i_5, .int i_6, .int i_7, .int i_8, .long j_0, .int i_9, .int i_10, .int i_11, .int i_12, .ref a_6, .ref a_7, .ref a_8, .ref a_9, .ref a_10, .ref a_11, .ref a_12, .ref a_13, .ref a_14, .ref a_15, .ref a_16, .ref a_17, .ref a_18, .int i_13, .int i_14, .int i_15, .int i_16, .int i_17, .int i_18, .ref a_19, .int i_19, .ref a_20])), (a_6, .inl (cy 1, 5, .inl (mm_g [i_20, i_21, i_22, i_23, i_24]))), (a_7, .inl (cy 1, 30, .inl (mm_g [i_25, i_26, i_27, i_28, i_29, i_30, i_31, i_32, i_33, i_34, i_35, i_36, i_37, i_38, i_39, i_40, i_41, i_42, i_43, i_44, i_45, i_46, i_47, i_48, i_49, i_50, i_51, i_52, i_53, i_54]))), (a_8, .inl (cy 1, 90, .inl f_0)), (a_9, .inl (cy 1, 15, .inl f_1)), (a_10, .inl (cy 1, 1050, .inl f_2)), (a_11, .inl (cy 1, 30, .inl f_3)), (a_12, .inl (cy 1, 240, .inl f_4)), (a_13, .inl (cy 1, 450, .inl f_5)), (a_15, .inl (cy 1, 7200, .inl f_6)), (a_16, .inl (cy 1, 3, .inl f_7)), (a_17, .inl (cy 1, 3, .inl f_8)), (a_18, .inl (cy 1, 8, .inl f_9))]) hS
  refine lv_aload_n hx hb dX12_lost_5 rfl (lv_at hl 0 rfl) ?_
  refine lv_iload_n hx hb dX12_lost_6 rfl (lv_at hl 1 rfl) ?_
  refine lv_iload_n hx hb dX12_lost_7 rfl (lv_at hl 2 rfl) ?_
  refine mm_finir (va_runV (As := [.int i_0, .int i_1]) (rest := []) ⟨hx, hb, hml, hown, hts⟩ (M104_X12_isThen l G cy H.size a_0 i_0 i_1 0 a_1 a_2 a_3 a_4 a_5 i_4 i_5 i_6 i_7 i_8 j_0 i_9 i_10 i_11 i_12 a_6 a_7 a_8 a_9 a_10 a_11 a_12 a_13 a_14 a_15 a_16 a_17 a_18 i_13 i_14 i_15 i_16 i_17 i_18 a_19 i_19 a_20 i_25 i_26 i_27 i_28 i_29 i_30 i_31 i_32 i_33 i_34 i_35 i_36 i_37 i_38 i_39 i_40 i_41 i_42 i_43 i_44 i_45 i_46 i_47 i_48 i_49 i_50 i_51 i_52 i_53 i_54 h6 h7 h8 h9 h10 h11 h12 h13 h14 h15 h16 h17 h18 h19 h20 h21 h22 h23 h24 h25 h26 h27 h28 h29 h30 h31 h32 h33 h34 h35) (cwV 2 hts (mm_gV mm_w678 mm_w679 mm_w680 mm_w5 mm_w681) rfl rfl rfl hd_X12_isThen ⟨by rw [hRf]; exact Nat.le_of_ble_eq_true rfl, by rw [hRl]; exact Nat.le_of_ble_eq_true rfl⟩) (mm_preV hK hZ hS hA hP hD [0, 2] rfl rfl 0 rfl rfl rfl) rfl rfl hl.1 rfl (lv_room (Nat.le_of_ble_eq_true rfl)) dX12_lost_8 ⟨by rw [hRc]; exact Nat.le_of_ble_eq_true rfl, by rw [hRs]; exact Nat.le_of_ble_eq_true rfl⟩) hP hD hS hA [0, 2] rfl (fun _ => rfl) ?_
  clear hP hD hS
  clear H locs
  intro v1 _u H locs hw hP hD hS
  rcases hw with rfl | ⟨rfl, w2, w3, w4⟩
  · refine lv_if_eq (tgt := 23) hx hb dX12_lost_11 (by decide) (fun c5 => ?_) (fun c5 => ?_)
    · refine lv_bipush (v := (-2)) hx hb dX12_lost_23 (by decide) ?_
      subst hAe
      rw [hQ]
      exact W.iret (v := (-2)) hx hb hr (fun t ht hW => ⟨⟨(-2), (i_13, i_14, i_15, f_6, f_7, f_8, f_9), rfl, ⟨h0, h42, h43, h44, h45, trivial⟩, by rw [ht]; exact hP, hK.warm hW, hD⟩, hS.F ht⟩) hS.2.2 dX12_lost_25
    · have q6 := mm_neL (lo := 1) (mm_ne c5) mm_k0 mm_k0 (by decide) (by decide)
      exact mm_no q6 (by decide)
  · have q7 := mm_ltR (lo := 1) w4 w2 h9 (by decide)
    have q8 : mm_rg i_20 1 601 := mm_tl_3 h49 q7 h1 (by decide)
    refine lv_if_eq (tgt := 23) hx hb dX12_lost_11 (by decide) (fun c9 => ?_) (fun c9 => ?_)
    · exact mm_eqN c9.symm mm_k0 mm_k1 (by decide)
    · refine lv_aload_n hx hb dX12_lost_14 rfl (lv_at hl 0 rfl) ?_
      refine lv_iload_n hx hb dX12_lost_15 rfl (lv_at hl 3 rfl) ?_
      obtain ⟨v10, ev10⟩ : ∃ y : Int64, y = i_2.toInt64 := ⟨_, rfl⟩
      refine lv_i2l hx hb dX12_lost_16 ev10.symm ?_
      have rv10 : mm_rl v10 (-2147483648) 2147483647 := mm_i2l ev10 (mm_top i_2)
      refine mm_finir (va_runV (As := [.long v10]) (rest := []) ⟨hx, hb, hml, hown, hts⟩ (M96_X12_isText l G cy H.size a_0 v10 0 a_1 a_2 a_3 a_4 a_5 i_4 i_5 i_6 i_7 i_8 j_0 i_9 i_10 i_11 i_12 a_6 a_7 a_8 a_9 a_10 a_11 a_12 a_13 a_14 a_15 a_16 a_17 a_18 i_13 i_14 i_15 i_16 i_17 i_18 a_19 i_19 a_20 i_25 i_26 i_27 i_28 i_29 i_30 i_31 i_32 i_33 i_34 i_35 i_36 i_37 i_38 i_39 i_40 i_41 i_42 i_43 i_44 i_45 i_46 i_47 i_48 i_49 i_50 i_51 i_52 i_53 i_54 h6 h7 h8 (mm_wk q7 (by decide)) h10 h11 h12 h13 h14 h15 h16 h17 h18 h19 h20 h21 h22 h23 h24 h25 h26 h27 h28 h29 h30 h31 h32 h33 h34 h35) (cwV 1 hts (mm_gV mm_w613 mm_w614 mm_w615 mm_w5 mm_w616) rfl rfl rfl hd_X12_isText ⟨by rw [hRf]; exact Nat.le_of_ble_eq_true rfl, by rw [hRl]; exact Nat.le_of_ble_eq_true rfl⟩) (mm_preV hK hZ hS hA hP hD [0, 2] rfl rfl 0 rfl rfl rfl) rfl rfl hl.1 rfl (lv_room (Nat.le_of_ble_eq_true rfl)) dX12_lost_17 ⟨by rw [hRc]; exact Nat.le_of_ble_eq_true rfl, by rw [hRs]; exact Nat.le_of_ble_eq_true rfl⟩) hP hD hS hA [0, 2] rfl (fun _ => rfl) ?_
      clear hP hD hS
      clear H locs
      intro v11 _u H locs hw hP hD hS
      rcases hw with rfl | ⟨rfl, w12, w13⟩
      · refine lv_if_ne (tgt := 26) hx hb dX12_lost_20 (by decide) (fun c14 => ?_) (fun c14 => ?_)
        · have q15 := mm_neL (lo := 1) (mm_ne c14) mm_k0 mm_k0 (by decide) (by decide)
          exact mm_no q15 (by decide)
        · refine lv_bipush (v := (-2)) hx hb dX12_lost_23 (by decide) ?_
          subst hAe
          rw [hQ]
          exact W.iret (v := (-2)) hx hb hr (fun t ht hW => ⟨⟨(-2), (i_13, i_14, i_15, f_6, f_7, f_8, f_9), rfl, ⟨h0, h42, h43, h44, h45, trivial⟩, by rw [ht]; exact hP, hK.warm hW, hD⟩, hS.F ht⟩) hS.2.2 dX12_lost_25
      · have q16 := mm_meet (lo := 0) (hi := 5) (mm_l2x ev10 w12) (mm_top i_2) (by decide)
        have w17 := mm_tx_lt w13 (mm_i2lE ev10)
        have q18 := mm_ltR (lo := 1) w17 q16 h10 (by decide)
        refine lv_if_ne (tgt := 26) hx hb dX12_lost_20 (by decide) (fun c19 => ?_) (fun c19 => ?_)
        · refine lv_aload_n hx hb dX12_lost_26 rfl (lv_at hl 0 rfl) ?_
          refine mm_finv (va_runV (As := []) (rest := []) ⟨hx, hb, hml, hown, hts⟩ (M125_X12_lays l G cy H.size a_0 0 a_1 a_2 a_3 a_4 a_5 i_4 i_5 i_6 i_7 i_8 j_0 i_9 i_10 i_11 i_12 a_6 a_7 a_8 a_9 a_10 a_11 a_12 a_13 a_14 a_15 a_16 a_17 a_18 i_13 i_14 i_15 i_16 i_17 i_18 a_19 i_19 a_20 i_20 i_21 i_22 i_23 i_24 i_25 i_26 i_27 i_28 i_29 i_30 i_31 i_32 i_33 i_34 i_35 i_36 i_37 i_38 i_39 i_40 i_41 i_42 i_43 i_44 i_45 i_46 i_47 i_48 i_49 i_50 i_51 i_52 i_53 i_54 f_1 f_2 f_5 f_6 f_7 f_8 (mm_wk q8 (by decide)) h2 h3 h4 h5 h6 h7 h8 (mm_wk q7 (by decide)) (mm_wk q18 (by decide)) h11 h12 h13 h14 h15 h16 h17 h18 h19 h20 h21 h22 h23 h24 h25 h26 h27 h28 h29 h30 h31 h32 h33 h34 h35 h37 h38 h41 h42 h43 h44 h46 h48 h49 h50 h52 h53 h54 h56 h57 h58 h60 h61) (cwV 0 hts (mm_gV mm_w686 mm_w687 mm_w688 mm_w5 mm_w689) rfl rfl rfl hd_X12_lays ⟨by rw [hRf]; exact Nat.le_of_ble_eq_true rfl, by rw [hRl]; exact Nat.le_of_ble_eq_true rfl⟩) (mm_preV hK hZ hS hA hP hD [0, 1, 2, 4, 5, 8, 9, 10, 11] rfl rfl 0 rfl rfl rfl) rfl rfl hl.1 rfl (lv_room (Nat.le_of_ble_eq_true rfl)) dX12_lost_27 ⟨by rw [hRc]; exact Nat.le_of_ble_eq_true rfl, by rw [hRs]; exact Nat.le_of_ble_eq_true rfl⟩) hP hD hS hA (fun u : (Nat → Int32) × (Nat → Int32) × (Nat → Int32) => [(a_0, .inr (12, [.int 0, .ref a_1, .ref a_2, .ref a_3, .ref a_4, .ref a_5, .int i_4, .int i_5, .int i_6, .int i_7, .int i_8, .long j_0, .int i_9, .int i_10, .int i_11, .int i_12, .ref a_6, .ref a_7, .ref a_8, .ref a_9, .ref a_10, .ref a_11, .ref a_12, .ref a_13, .ref a_14, .ref a_15, .ref a_16, .ref a_17, .ref a_18, .int i_13, .int i_14, .int i_15, .int i_16, .int i_17, .int i_18, .ref a_19, .int i_19, .ref a_20])), (a_6, .inl (cy 1, 5, .inl (mm_g [i_20, i_21, i_22, i_23, i_24]))), (a_7, .inl (cy 1, 30, .inl (mm_g [i_25, i_26, i_27, i_28, i_29, i_30, i_31, i_32, i_33, i_34, i_35, i_36, i_37, i_38, i_39, i_40, i_41, i_42, i_43, i_44, i_45, i_46, i_47, i_48, i_49, i_50, i_51, i_52, i_53, i_54]))), (a_8, .inl (cy 1, 90, .inl f_0)), (a_9, .inl (cy 1, 15, .inl f_1)), (a_10, .inl (cy 1, 1050, .inl f_2)), (a_11, .inl (cy 1, 30, .inl f_3)), (a_12, .inl (cy 1, 240, .inl f_4)), (a_13, .inl (cy 1, 450, .inl f_5)), (a_15, .inl (cy 1, 7200, .inl u.1)), (a_16, .inl (cy 1, 3, .inl u.2.1)), (a_17, .inl (cy 1, 3, .inl u.2.2)), (a_18, .inl (cy 1, 8, .inl f_9))]) [0, 1, 2, 4, 5, 8, 9, 10, 11] [3, 6, 7, 12] (n := 13) (fun _ => rfl) (by decide +kernel) (by decide +kernel) rfl (fun _ => rfl) (wr := [(a_8, .inl (cy 1, 90, .inl f_0)), (a_11, .inl (cy 1, 30, .inl f_3)), (a_12, .inl (cy 1, 240, .inl f_4)), (a_18, .inl (cy 1, 8, .inl f_9))]) rfl (fun _ => rfl) (fun _ => @rfl _ ([a_0, a_6, a_7, a_9, a_10, a_13, a_15, a_16, a_17] : List Nat)) ?_
          clear hP hD hS
          clear H locs
          intro u
          obtain ⟨n20, n21, n22⟩ := u
          intro H locs hw (hP : va_P G vwCl [(a_0, .inr (12, [.int 0, .ref a_1, .ref a_2, .ref a_3, .ref a_4, .ref a_5, .int i_4, .int i_5, .int i_6, .int i_7, .int i_8, .long j_0, .int i_9, .int i_10, .int i_11, .int i_12, .ref a_6, .ref a_7, .ref a_8, .ref a_9, .ref a_10, .ref a_11, .ref a_12, .ref a_13, .ref a_14, .ref a_15, .ref a_16, .ref a_17, .ref a_18, .int i_13, .int i_14, .int i_15, .int i_16, .int i_17, .int i_18, .ref a_19, .int i_19, .ref a_20])), (a_6, .inl (cy 1, 5, .inl (mm_g [i_20, i_21, i_22, i_23, i_24]))), (a_7, .inl (cy 1, 30, .inl (mm_g [i_25, i_26, i_27, i_28, i_29, i_30, i_31, i_32, i_33, i_34, i_35, i_36, i_37, i_38, i_39, i_40, i_41, i_42, i_43, i_44, i_45, i_46, i_47, i_48, i_49, i_50, i_51, i_52, i_53, i_54]))), (a_8, .inl (cy 1, 90, .inl f_0)), (a_9, .inl (cy 1, 15, .inl f_1)), (a_10, .inl (cy 1, 1050, .inl f_2)), (a_11, .inl (cy 1, 30, .inl f_3)), (a_12, .inl (cy 1, 240, .inl f_4)), (a_13, .inl (cy 1, 450, .inl f_5)), (a_15, .inl (cy 1, 7200, .inl n20)), (a_16, .inl (cy 1, 3, .inl n21)), (a_17, .inl (cy 1, 3, .inl n22)), (a_18, .inl (cy 1, 8, .inl f_9))] H) (hD : va_D A [(a_0, .inr (12, [.int 0, .ref a_1, .ref a_2, .ref a_3, .ref a_4, .ref a_5, .int i_4, .int i_5, .int i_6, .int i_7, .int i_8, .long j_0, .int i_9, .int i_10, .int i_11, .int i_12, .ref a_6, .ref a_7, .ref a_8, .ref a_9, .ref a_10, .ref a_11, .ref a_12, .ref a_13, .ref a_14, .ref a_15, .ref a_16, .ref a_17, .ref a_18, .int i_13, .int i_14, .int i_15, .int i_16, .int i_17, .int i_18, .ref a_19, .int i_19, .ref a_20])), (a_6, .inl (cy 1, 5, .inl (mm_g [i_20, i_21, i_22, i_23, i_24]))), (a_7, .inl (cy 1, 30, .inl (mm_g [i_25, i_26, i_27, i_28, i_29, i_30, i_31, i_32, i_33, i_34, i_35, i_36, i_37, i_38, i_39, i_40, i_41, i_42, i_43, i_44, i_45, i_46, i_47, i_48, i_49, i_50, i_51, i_52, i_53, i_54]))), (a_8, .inl (cy 1, 90, .inl f_0)), (a_9, .inl (cy 1, 15, .inl f_1)), (a_10, .inl (cy 1, 1050, .inl f_2)), (a_11, .inl (cy 1, 30, .inl f_3)), (a_12, .inl (cy 1, 240, .inl f_4)), (a_13, .inl (cy 1, 450, .inl f_5)), (a_15, .inl (cy 1, 7200, .inl n20)), (a_16, .inl (cy 1, 3, .inl n21)), (a_17, .inl (cy 1, 3, .inl n22)), (a_18, .inl (cy 1, 8, .inl f_9))]) hS
          obtain ⟨w23, w24, w25, w26, w27⟩ := hw
          replace w26 : mm_laid n21 n22 i_28 := w26
          replace w27 : mm_tab n20 n21 i_27 i_28 := w27
          refine lv_aload_n hx hb dX12_lost_30 rfl (lv_at hl 0 rfl) ?_
          refine lv_iload_n hx hb dX12_lost_31 rfl (lv_at hl 1 rfl) ?_
          refine lv_iload_n hx hb dX12_lost_32 rfl (lv_at hl 2 rfl) ?_
          refine lv_iload_n hx hb dX12_lost_33 rfl (lv_at hl 3 rfl) ?_
          refine mm_fini (va_runV (As := [.int i_0, .int i_1, .int i_2]) (rest := []) ⟨hx, hb, hml, hown, hts⟩ (M141_X12_reads l G cy H.size a_0 i_0 i_1 i_2 0 a_1 a_2 a_3 a_4 a_5 i_4 i_5 i_6 i_7 i_8 j_0 i_9 i_10 i_11 i_12 a_6 a_7 a_8 a_9 a_10 a_11 a_12 a_13 a_14 a_15 a_16 a_17 a_18 i_13 i_14 i_15 i_16 i_17 i_18 a_19 i_19 a_20 i_25 i_26 i_27 i_28 i_29 i_30 i_31 i_32 i_33 i_34 i_35 i_36 i_37 i_38 i_39 i_40 i_41 i_42 i_43 i_44 i_45 i_46 i_47 i_48 i_49 i_50 i_51 i_52 i_53 i_54 f_0 f_3 f_4 f_5 n20 n21 f_9 w2 (mm_wk w3 (by decide)) q16 h0 h6 h7 h8 (mm_wk q7 (by decide)) (mm_wk q18 (by decide)) h11 h12 h13 h14 h15 h16 h17 h18 h19 h20 h21 h22 h23 h24 h25 h26 h27 h28 h29 h30 h31 h32 h33 h34 h35 h36 h39 h40 h41 w23 w24 h45 h47 h48 h51 h52 h55 h56 h59 h60 (mm_f1_l w26 w4 w2 (by decide))) (cwV 3 hts (mm_gV mm_w852 mm_w853 mm_w854 mm_w5 mm_w855) rfl rfl rfl hd_X12_reads ⟨by rw [hRf]; exact Nat.le_of_ble_eq_true rfl, by rw [hRl]; exact Nat.le_of_ble_eq_true rfl⟩) (mm_preV hK hZ hS hA hP hD [0, 2, 3, 6, 7, 8, 9, 10, 12] rfl rfl 0 rfl rfl rfl) rfl rfl hl.1 rfl (lv_room (Nat.le_of_ble_eq_true rfl)) dX12_lost_34 ⟨by rw [hRc]; exact Nat.le_of_ble_eq_true rfl, by rw [hRs]; exact Nat.le_of_ble_eq_true rfl⟩) hP hD hS hA (fun u : Int32 × Int32 × Int32 × (Nat → Int32) => [(a_0, .inr (12, [.int 0, .ref a_1, .ref a_2, .ref a_3, .ref a_4, .ref a_5, .int i_4, .int i_5, .int i_6, .int i_7, .int i_8, .long j_0, .int i_9, .int i_10, .int i_11, .int i_12, .ref a_6, .ref a_7, .ref a_8, .ref a_9, .ref a_10, .ref a_11, .ref a_12, .ref a_13, .ref a_14, .ref a_15, .ref a_16, .ref a_17, .ref a_18, .int u.1, .int u.2.1, .int u.2.2.1, .int i_16, .int i_17, .int i_18, .ref a_19, .int i_19, .ref a_20])), (a_6, .inl (cy 1, 5, .inl (mm_g [i_20, i_21, i_22, i_23, i_24]))), (a_7, .inl (cy 1, 30, .inl (mm_g [i_25, i_26, i_27, i_28, i_29, i_30, i_31, i_32, i_33, i_34, i_35, i_36, i_37, i_38, i_39, i_40, i_41, i_42, i_43, i_44, i_45, i_46, i_47, i_48, i_49, i_50, i_51, i_52, i_53, i_54]))), (a_8, .inl (cy 1, 90, .inl f_0)), (a_9, .inl (cy 1, 15, .inl f_1)), (a_10, .inl (cy 1, 1050, .inl f_2)), (a_11, .inl (cy 1, 30, .inl f_3)), (a_12, .inl (cy 1, 240, .inl f_4)), (a_13, .inl (cy 1, 450, .inl f_5)), (a_15, .inl (cy 1, 7200, .inl n20)), (a_16, .inl (cy 1, 3, .inl n21)), (a_17, .inl (cy 1, 3, .inl n22)), (a_18, .inl (cy 1, 8, .inl u.2.2.2))]) [0, 2, 3, 6, 7, 8, 9, 10, 12] [1, 4, 5, 11] (n := 13) (fun _ => rfl) (by decide +kernel) (by decide +kernel) rfl (fun _ => rfl) (wr := [(a_6, .inl (cy 1, 5, .inl (mm_g [i_20, i_21, i_22, i_23, i_24]))), (a_9, .inl (cy 1, 15, .inl f_1)), (a_10, .inl (cy 1, 1050, .inl f_2)), (a_17, .inl (cy 1, 3, .inl n22))]) rfl (fun _ => rfl) (fun _ => @rfl _ ([a_0, a_7, a_8, a_11, a_12, a_13, a_15, a_16, a_18] : List Nat)) ?_
          clear hP hD hS
          clear H locs
          intro v32 u
          obtain ⟨n28, n29, n30, n31⟩ := u
          intro H locs hw (hP : va_P G vwCl [(a_0, .inr (12, [.int 0, .ref a_1, .ref a_2, .ref a_3, .ref a_4, .ref a_5, .int i_4, .int i_5, .int i_6, .int i_7, .int i_8, .long j_0, .int i_9, .int i_10, .int i_11, .int i_12, .ref a_6, .ref a_7, .ref a_8, .ref a_9, .ref a_10, .ref a_11, .ref a_12, .ref a_13, .ref a_14, .ref a_15, .ref a_16, .ref a_17, .ref a_18, .int n28, .int n29, .int n30, .int i_16, .int i_17, .int i_18, .ref a_19, .int i_19, .ref a_20])), (a_6, .inl (cy 1, 5, .inl (mm_g [i_20, i_21, i_22, i_23, i_24]))), (a_7, .inl (cy 1, 30, .inl (mm_g [i_25, i_26, i_27, i_28, i_29, i_30, i_31, i_32, i_33, i_34, i_35, i_36, i_37, i_38, i_39, i_40, i_41, i_42, i_43, i_44, i_45, i_46, i_47, i_48, i_49, i_50, i_51, i_52, i_53, i_54]))), (a_8, .inl (cy 1, 90, .inl f_0)), (a_9, .inl (cy 1, 15, .inl f_1)), (a_10, .inl (cy 1, 1050, .inl f_2)), (a_11, .inl (cy 1, 30, .inl f_3)), (a_12, .inl (cy 1, 240, .inl f_4)), (a_13, .inl (cy 1, 450, .inl f_5)), (a_15, .inl (cy 1, 7200, .inl n20)), (a_16, .inl (cy 1, 3, .inl n21)), (a_17, .inl (cy 1, 3, .inl n22)), (a_18, .inl (cy 1, 8, .inl n31))] H) (hD : va_D A [(a_0, .inr (12, [.int 0, .ref a_1, .ref a_2, .ref a_3, .ref a_4, .ref a_5, .int i_4, .int i_5, .int i_6, .int i_7, .int i_8, .long j_0, .int i_9, .int i_10, .int i_11, .int i_12, .ref a_6, .ref a_7, .ref a_8, .ref a_9, .ref a_10, .ref a_11, .ref a_12, .ref a_13, .ref a_14, .ref a_15, .ref a_16, .ref a_17, .ref a_18, .int n28, .int n29, .int n30, .int i_16, .int i_17, .int i_18, .ref a_19, .int i_19, .ref a_20])), (a_6, .inl (cy 1, 5, .inl (mm_g [i_20, i_21, i_22, i_23, i_24]))), (a_7, .inl (cy 1, 30, .inl (mm_g [i_25, i_26, i_27, i_28, i_29, i_30, i_31, i_32, i_33, i_34, i_35, i_36, i_37, i_38, i_39, i_40, i_41, i_42, i_43, i_44, i_45, i_46, i_47, i_48, i_49, i_50, i_51, i_52, i_53, i_54]))), (a_8, .inl (cy 1, 90, .inl f_0)), (a_9, .inl (cy 1, 15, .inl f_1)), (a_10, .inl (cy 1, 1050, .inl f_2)), (a_11, .inl (cy 1, 30, .inl f_3)), (a_12, .inl (cy 1, 240, .inl f_4)), (a_13, .inl (cy 1, 450, .inl f_5)), (a_15, .inl (cy 1, 7200, .inl n20)), (a_16, .inl (cy 1, 3, .inl n21)), (a_17, .inl (cy 1, 3, .inl n22)), (a_18, .inl (cy 1, 8, .inl n31))]) hS
          obtain ⟨w33, w34, hw⟩ := hw
          obtain ⟨w35, w36⟩ := hw
          replace w36 : mm_rd n20 n21 f_0 f_3 f_4 f_5 i_0 i_1 i_2 i_26 i_27 i_30 v32 := w36
          refine lv_pop hx hb dX12_lost_37 rfl ?_
          refine lv_aload_n hx hb dX12_lost_38 rfl (lv_at hl 0 rfl) ?_
          refine va_get (D := G) (ci := 12) (v := .int n28) (C := RX12) (T := TX12) (N := 38) hx hb hts (mm_i inlX12) hown hK.1 hP 0 rfl rfl 29 (by decide) (mm_h hts mm_w860) (fun _ h9 => h9) rfl dX12_lost_39 ?_
          refine lv_aload_n hx hb dX12_lost_42 rfl (lv_at hl 0 rfl) ?_
          refine va_get (D := G) (ci := 12) (v := .int n29) (C := RX12) (T := TX12) (N := 38) hx hb hts (mm_i inlX12) hown hK.1 hP 0 rfl rfl 30 (by decide) (mm_h hts mm_w869) (fun _ h9 => h9) rfl dX12_lost_43 ?_
          refine lv_isub hx hb dX12_lost_46 ?_
          refine lv_topi (fun v37 ev37 => ?_)
          subst hAe
          rw [hQ]
          exact W.iret (v := v37) hx hb hr (fun t ht hW => ⟨⟨v37, (n28, n29, n30, n20, n21, n22, n31), rfl, ⟨w33, w23, w24, w25, w34, trivial⟩, by rw [ht]; exact hP, hK.warm hW, hD⟩, hS.F ht⟩) hS.2.2 dX12_lost_47
        · exact mm_eqN c19.symm mm_k0 mm_k1 (by decide)

