theorem mm_km3 : mm_rg (-3) (-3) (-3) := ⟨by decide, by decide⟩
theorem mm_km6 : mm_rg (-6) (-6) (-6) := ⟨by decide, by decide⟩
theorem hd_X11_anew : yX11_anew.cls = RX11 ∧ yX11_anew.cls ≠ "java/lang/invoke/MethodHandle" ∧ yX11_anew.cls ≠ "java/lang/invoke/VarHandle" ∧ (parseMethodDescriptor yX11_anew.desc).map (fun d => d.parameters.length) = some 0 := by decide +kernel
theorem hd_X11_back : yX11_back.cls = RX11 ∧ yX11_back.cls ≠ "java/lang/invoke/MethodHandle" ∧ yX11_back.cls ≠ "java/lang/invoke/VarHandle" ∧ (parseMethodDescriptor yX11_back.desc).map (fun d => d.parameters.length) = some 1 := by decide +kernel
theorem hd_X11_count : yX11_count.cls = RX11 ∧ yX11_count.cls ≠ "java/lang/invoke/MethodHandle" ∧ yX11_count.cls ≠ "java/lang/invoke/VarHandle" ∧ (parseMethodDescriptor yX11_count.desc).map (fun d => d.parameters.length) = some 1 := by decide +kernel
theorem hd_X11_drawn : yX11_drawn.cls = RX11 ∧ yX11_drawn.cls ≠ "java/lang/invoke/MethodHandle" ∧ yX11_drawn.cls ≠ "java/lang/invoke/VarHandle" ∧ (parseMethodDescriptor yX11_drawn.desc).map (fun d => d.parameters.length) = some 2 := by decide +kernel
theorem hd_X11_image : yX11_image.cls = RX11 ∧ yX11_image.cls ≠ "java/lang/invoke/MethodHandle" ∧ yX11_image.cls ≠ "java/lang/invoke/VarHandle" ∧ (parseMethodDescriptor yX11_image.desc).map (fun d => d.parameters.length) = some 1 := by decide +kernel
theorem hd_X11_luck : yX11_luck.cls = RX11 ∧ yX11_luck.cls ≠ "java/lang/invoke/MethodHandle" ∧ yX11_luck.cls ≠ "java/lang/invoke/VarHandle" ∧ (parseMethodDescriptor yX11_luck.desc).map (fun d => d.parameters.length) = some 5 := by decide +kernel
theorem hd_X11_paste : yX11_paste.cls = RX11 ∧ yX11_paste.cls ≠ "java/lang/invoke/MethodHandle" ∧ yX11_paste.cls ≠ "java/lang/invoke/VarHandle" ∧ (parseMethodDescriptor yX11_paste.desc).map (fun d => d.parameters.length) = some 5 := by decide +kernel
theorem hd_X11_rate : yX11_rate.cls = RX11 ∧ yX11_rate.cls ≠ "java/lang/invoke/MethodHandle" ∧ yX11_rate.cls ≠ "java/lang/invoke/VarHandle" ∧ (parseMethodDescriptor yX11_rate.desc).map (fun d => d.parameters.length) = some 2 := by decide +kernel
theorem hd_X11_row : yX11_row.cls = RX11 ∧ yX11_row.cls ≠ "java/lang/invoke/MethodHandle" ∧ yX11_row.cls ≠ "java/lang/invoke/VarHandle" ∧ (parseMethodDescriptor yX11_row.desc).map (fun d => d.parameters.length) = some 3 := by decide +kernel
theorem hd_X11_write : yX11_write.cls = RX11 ∧ yX11_write.cls ≠ "java/lang/invoke/MethodHandle" ∧ yX11_write.cls ≠ "java/lang/invoke/VarHandle" ∧ (parseMethodDescriptor yX11_write.desc).map (fun d => d.parameters.length) = some 3 := by decide +kernel
theorem hd_X12_anew : yX12_anew.cls = RX12 ∧ yX12_anew.cls ≠ "java/lang/invoke/MethodHandle" ∧ yX12_anew.cls ≠ "java/lang/invoke/VarHandle" ∧ (parseMethodDescriptor yX12_anew.desc).map (fun d => d.parameters.length) = some 0 := by decide +kernel
theorem hd_X12_back : yX12_back.cls = RX12 ∧ yX12_back.cls ≠ "java/lang/invoke/MethodHandle" ∧ yX12_back.cls ≠ "java/lang/invoke/VarHandle" ∧ (parseMethodDescriptor yX12_back.desc).map (fun d => d.parameters.length) = some 1 := by decide +kernel
theorem hd_X12_count : yX12_count.cls = RX12 ∧ yX12_count.cls ≠ "java/lang/invoke/MethodHandle" ∧ yX12_count.cls ≠ "java/lang/invoke/VarHandle" ∧ (parseMethodDescriptor yX12_count.desc).map (fun d => d.parameters.length) = some 1 := by decide +kernel
theorem hd_X12_drawn : yX12_drawn.cls = RX12 ∧ yX12_drawn.cls ≠ "java/lang/invoke/MethodHandle" ∧ yX12_drawn.cls ≠ "java/lang/invoke/VarHandle" ∧ (parseMethodDescriptor yX12_drawn.desc).map (fun d => d.parameters.length) = some 2 := by decide +kernel
theorem hd_X12_image : yX12_image.cls = RX12 ∧ yX12_image.cls ≠ "java/lang/invoke/MethodHandle" ∧ yX12_image.cls ≠ "java/lang/invoke/VarHandle" ∧ (parseMethodDescriptor yX12_image.desc).map (fun d => d.parameters.length) = some 1 := by decide +kernel
theorem hd_X12_luck : yX12_luck.cls = RX12 ∧ yX12_luck.cls ≠ "java/lang/invoke/MethodHandle" ∧ yX12_luck.cls ≠ "java/lang/invoke/VarHandle" ∧ (parseMethodDescriptor yX12_luck.desc).map (fun d => d.parameters.length) = some 5 := by decide +kernel
theorem hd_X12_paste : yX12_paste.cls = RX12 ∧ yX12_paste.cls ≠ "java/lang/invoke/MethodHandle" ∧ yX12_paste.cls ≠ "java/lang/invoke/VarHandle" ∧ (parseMethodDescriptor yX12_paste.desc).map (fun d => d.parameters.length) = some 5 := by decide +kernel
theorem hd_X12_rate : yX12_rate.cls = RX12 ∧ yX12_rate.cls ≠ "java/lang/invoke/MethodHandle" ∧ yX12_rate.cls ≠ "java/lang/invoke/VarHandle" ∧ (parseMethodDescriptor yX12_rate.desc).map (fun d => d.parameters.length) = some 2 := by decide +kernel
theorem hd_X12_row : yX12_row.cls = RX12 ∧ yX12_row.cls ≠ "java/lang/invoke/MethodHandle" ∧ yX12_row.cls ≠ "java/lang/invoke/VarHandle" ∧ (parseMethodDescriptor yX12_row.desc).map (fun d => d.parameters.length) = some 3 := by decide +kernel
theorem hd_X12_write : yX12_write.cls = RX12 ∧ yX12_write.cls ≠ "java/lang/invoke/MethodHandle" ∧ yX12_write.cls ≠ "java/lang/invoke/VarHandle" ∧ (parseMethodDescriptor yX12_write.desc).map (fun d => d.parameters.length) = some 3 := by decide +kernel
set_option maxHeartbeats 4000000 in
set_option maxRecDepth 100000 in
theorem lc_62 {p : Program} {e : Env} {s : State} {m : MethodId} {below : List Frame} {meth : Method} {c : Code} {b : Nat} {xs : Nat → Int32} {G : va_G} {cy : Nat → ClassId} {qx qm : Nat} {ux um : Nat → Nat} {H : Heap} {locs : List Loc} {ls : Array Slot} {A : Nat → Prop} (l : Launch) (hx : p.tables.exec = Jvm.exec) (hb : c.code = code) (hr : meth.sig.returnType = ret) (hlocks : meth.locks = false) (hml : c.maxLocals = 4) (hown : s.vm.findClass R_law = some m.cls) (hts : ∀ w ∈ lw_x :: wsL_law, w.before #[Value.ref b] s = true) (hX : va_X b 6 xs s s.heap) (hbl : b < s.heap.size) (hAe : A = fun q => s.heap.size ≤ q) (hK : mm_K G cy s) (hS : va_S A s.heap H locs) (hP : va_P G vwCl [(qx, .inr (11, [.ref (ux 0), .ref (ux 2), .ref (ux 14), .ref (ux 36), .ref (ux 70), .ref (ux 71), .ref (ux 80), .ref (ux 82), .ref (ux 84), .ref (ux 89), .ref (ux 92)])), ((ux 14), .inr (10, [.ref (ux 15), .ref (ux 26)])), ((ux 15), .inr (0, [.int 0, .int 0, .int 0, .int 0, .int 0, .int 0, .int 0, .int 0, .ref (ux 16), .ref (ux 17), .ref (ux 18), .ref (ux 19), .ref (ux 20), .ref (ux 21), .ref (ux 22), .ref (ux 23), .ref (ux 24), .ref (ux 25)])), (qm, .inr (12, [.int 0, .ref (um 0), .ref (um 1), .ref (um 2), .ref (um 3), .ref (um 4), .int 0, .int 0, .int 0, .int 0, .int 0, .long 0, .int 0, .int 0, .int 0, .int (-1), .ref (um 5), .ref (um 6), .ref (um 7), .ref (um 8), .ref (um 9), .ref (um 10), .ref (um 11), .ref (um 12), .ref (um 13), .ref (um 14), .ref (um 15), .ref (um 16), .ref (um 17), .int 0, .int 0, .int 0, .int 0, .int 0, .int 0, .ref (um 18), .int 0, .ref (um 19)])), ((um 5), .inl (cy 1, 5, .inl (fun _ => 0)))] H) (hD : va_D A [(qx, .inr (11, [.ref (ux 0), .ref (ux 2), .ref (ux 14), .ref (ux 36), .ref (ux 70), .ref (ux 71), .ref (ux 80), .ref (ux 82), .ref (ux 84), .ref (ux 89), .ref (ux 92)])), ((ux 14), .inr (10, [.ref (ux 15), .ref (ux 26)])), ((ux 15), .inr (0, [.int 0, .int 0, .int 0, .int 0, .int 0, .int 0, .int 0, .int 0, .ref (ux 16), .ref (ux 17), .ref (ux 18), .ref (ux 19), .ref (ux 20), .ref (ux 21), .ref (ux 22), .ref (ux 23), .ref (ux 24), .ref (ux 25)])), (qm, .inr (12, [.int 0, .ref (um 0), .ref (um 1), .ref (um 2), .ref (um 3), .ref (um 4), .int 0, .int 0, .int 0, .int 0, .int 0, .long 0, .int 0, .int 0, .int 0, .int (-1), .ref (um 5), .ref (um 6), .ref (um 7), .ref (um 8), .ref (um 9), .ref (um 10), .ref (um 11), .ref (um 12), .ref (um 13), .ref (um 14), .ref (um 15), .ref (um 16), .ref (um 17), .int 0, .int 0, .int 0, .int 0, .int 0, .int 0, .ref (um 18), .int 0, .ref (um 19)])), ((um 5), .inl (cy 1, 5, .inl (fun _ => 0)))]) (hl : lv_has ls 4 [(3, .int 0), (2, .ref qm), (1, .ref qx), (0, .ref b)]) : W p l e room_1 s m #[Value.ref b] below meth c H locs 116 20302 (lw_Z below #[Value.ref b] s) (F0 m 2763 ls []) := by
  have hA : ∀ q, s.heap.size ≤ q → A q := by rw [hAe]; exact fun _ h => h
  have hbA : ¬ A b := by rw [hAe]; exact Nat.not_le.mpr hbl
  have hRf : room_1.frames = 2048 := rfl
  have hRl : room_1.locals = 84000 := rfl
  have hRc : room_1.cells = 600000 := rfl
  have hRs : room_1.slots = 7302250 := rfl
  obtain ⟨p1, ep1⟩ : ∃ z : Int32, z = xs 1 := ⟨_, rfl⟩
  obtain ⟨p2, ep2⟩ : ∃ z : Int32, z = xs 2 := ⟨_, rfl⟩
  obtain ⟨p3, ep3⟩ : ∃ z : Int32, z = xs 3 := ⟨_, rfl⟩
  obtain ⟨p4, ep4⟩ : ∃ z : Int32, z = xs 4 := ⟨_, rfl⟩
  obtain ⟨p5, ep5⟩ : ∃ z : Int32, z = xs 5 := ⟨_, rfl⟩
  refine lv_aload_n hx hb dL_law_2763 rfl (lv_at hl 2 rfl) ?_
  refine mm_finir (va_runV (As := []) (rest := []) ⟨hx, hb, hml, hown, hts⟩ (K262_X11_anew l G cy H.size qx (ux 0) (ux 2) (ux 14) (ux 36) (ux 70) (ux 71) (ux 80) (ux 82) (ux 84) (ux 89) (ux 92) (ux 15) (ux 26) 0 0 0 0 0 0 0 (ux 16) (ux 17) (ux 18) (ux 19) (ux 20) (ux 21) (ux 22) (ux 23) (ux 24) (ux 25) ) (cwV 0 hts (mm_gV mm_w1580 mm_w1581 mm_w1582 mm_w2 mm_w1583) rfl rfl rfl hd_X11_anew ⟨by rw [hRf]; exact Nat.le_of_ble_eq_true rfl, by rw [hRl]; exact Nat.le_of_ble_eq_true rfl⟩) (mm_preV hK hP hD [0, 1, 2] rfl rfl 0 rfl rfl rfl) rfl rfl hl.1 rfl (lv_room (Nat.le_of_ble_eq_true rfl)) dL_law_2764 ⟨by rw [hRc]; exact Nat.le_of_ble_eq_true rfl, by rw [hRs]; exact Nat.le_of_ble_eq_true rfl⟩) hP hD hS hA [0, 1, 2] rfl (fun _ => rfl) ?_
  clear hP hD hS
  clear H locs
  intro v1 _u H locs hw hP hD hS
  subst hw
  refine lv_aload_n hx hb dL_law_2767 rfl (lv_at hl 1 rfl) ?_
  refine mm_finir (va_runV (As := []) (rest := [.int (-2)]) ⟨hx, hb, hml, hown, hts⟩ (K263_X12_anew l G cy H.size qm (um 0) (um 1) (um 2) (um 3) (um 4) 0 0 0 0 0 0 0 0 0 (-1) (um 5) (um 6) (um 7) (um 8) (um 9) (um 10) (um 11) (um 12) (um 13) (um 14) (um 15) (um 16) (um 17) 0 0 0 0 0 0 (um 18) 0 (um 19) ) (cwV 0 hts (mm_gV mm_w1584 mm_w1585 mm_w1586 mm_w5 mm_w1587) rfl rfl rfl hd_X12_anew ⟨by rw [hRf]; exact Nat.le_of_ble_eq_true rfl, by rw [hRl]; exact Nat.le_of_ble_eq_true rfl⟩) (mm_preV hK hP hD [3, 4] rfl rfl 3 rfl rfl rfl) rfl rfl hl.1 rfl (lv_room (Nat.le_of_ble_eq_true rfl)) dL_law_2768 ⟨by rw [hRc]; exact Nat.le_of_ble_eq_true rfl, by rw [hRs]; exact Nat.le_of_ble_eq_true rfl⟩) hP hD hS hA [3, 4] rfl (fun _ => rfl) ?_
  clear hP hD hS
  clear H locs
  intro v2 _u H locs hw hP hD hS
  subst hw
  refine lv_icmp_eq (tgt := 3153) hx hb dL_law_2771 (by decide) (fun c3 => ?_) (fun c3 => ?_)
  · refine lv_iinc (v := 6) (lv' := [(3, .int 6), (2, .ref qm), (1, .ref qx), (0, .ref b)]) hx hb dL_law_3153 hl (k := 0) rfl (by decide) (by decide) rfl ?_
    clear hl
    clear ls
    intro ls hl
    refine lv_goto (tgt := 18) hx hb dL_law_3156 (by decide) ?_
    refine lv_iload_n hx hb dL_law_18 rfl (lv_at hl 0 rfl) ?_
    refine lv_aload_n hx hb dL_law_19 rfl (lv_at hl 3 rfl) ?_
    refine va_slen hx hb hX hbl hbA hS dL_law_20 ?_
    refine lv_topi (fun v4 ev4 => ?_)
    obtain rfl : v4 = 6 := ev4.trans (by decide)
    refine lv_bipush (v := 6) hx hb dL_law_21 (by decide) ?_
    refine lv_isub hx hb dL_law_23 ?_
    refine lv_topi (fun v5 ev5 => ?_)
    obtain rfl : v5 = 0 := ev5.trans (by decide)
    refine lv_icmp_gt (tgt := 3159) hx hb dL_law_24 (by decide) (fun c6 => ?_) (fun c6 => ?_)
    · refine lv_iconst (v := 1) hx hb dL_law_3159 (by decide) ?_
      refine va_forget (fun q hq => by have := hS.2.2 q hq; rw [hAe] at this; exact this) ?_
      refine W.widen (k := 600000) (n := 7302250) (Nat.le_of_ble_eq_true rfl) (Nat.le_of_ble_eq_true rfl) ?_
      exact lw_ret hx hb hr hlocks dL_law_3160
    · have q7 := mm_leL (mm_nlt c6) mm_k6 mm_k0
      exact mm_no q7 (by decide)
  · have q8 := mm_neL (lo := (-1)) (mm_ne c3) mm_km2 mm_km2 (by decide) (by decide)
    exact mm_no q8 (by decide)

set_option maxHeartbeats 4000000 in
set_option maxRecDepth 100000 in
theorem lc_63 {p : Program} {e : Env} {s : State} {m : MethodId} {below : List Frame} {meth : Method} {c : Code} {b : Nat} {xs : Nat → Int32} {G : va_G} {cy : Nat → ClassId} {qx qm : Nat} {ux um : Nat → Nat} {H : Heap} {locs : List Loc} {ls : Array Slot} {A : Nat → Prop} (l : Launch) (hx : p.tables.exec = Jvm.exec) (hb : c.code = code) (hr : meth.sig.returnType = ret) (hlocks : meth.locks = false) (hml : c.maxLocals = 4) (hown : s.vm.findClass R_law = some m.cls) (hts : ∀ w ∈ lw_x :: wsL_law, w.before #[Value.ref b] s = true) (hX : va_X b 6 xs s s.heap) (hbl : b < s.heap.size) (hAe : A = fun q => s.heap.size ≤ q) (hK : mm_K G cy s) (hS : va_S A s.heap H locs) (hP : va_P G vwCl [(qx, .inr (11, [.ref (ux 0), .ref (ux 2), .ref (ux 14), .ref (ux 36), .ref (ux 70), .ref (ux 71), .ref (ux 80), .ref (ux 82), .ref (ux 84), .ref (ux 89), .ref (ux 92)])), ((ux 14), .inr (10, [.ref (ux 15), .ref (ux 26)])), ((ux 15), .inr (0, [.int 0, .int 0, .int 0, .int 0, .int 0, .int 0, .int 0, .int 0, .ref (ux 16), .ref (ux 17), .ref (ux 18), .ref (ux 19), .ref (ux 20), .ref (ux 21), .ref (ux 22), .ref (ux 23), .ref (ux 24), .ref (ux 25)])), (qm, .inr (12, [.int 0, .ref (um 0), .ref (um 1), .ref (um 2), .ref (um 3), .ref (um 4), .int 0, .int 0, .int 0, .int 0, .int 0, .long 0, .int 0, .int 0, .int 0, .int (-1), .ref (um 5), .ref (um 6), .ref (um 7), .ref (um 8), .ref (um 9), .ref (um 10), .ref (um 11), .ref (um 12), .ref (um 13), .ref (um 14), .ref (um 15), .ref (um 16), .ref (um 17), .int 0, .int 0, .int 0, .int 0, .int 0, .int 0, .ref (um 18), .int 0, .ref (um 19)])), ((um 5), .inl (cy 1, 5, .inl (fun _ => 0)))] H) (hD : va_D A [(qx, .inr (11, [.ref (ux 0), .ref (ux 2), .ref (ux 14), .ref (ux 36), .ref (ux 70), .ref (ux 71), .ref (ux 80), .ref (ux 82), .ref (ux 84), .ref (ux 89), .ref (ux 92)])), ((ux 14), .inr (10, [.ref (ux 15), .ref (ux 26)])), ((ux 15), .inr (0, [.int 0, .int 0, .int 0, .int 0, .int 0, .int 0, .int 0, .int 0, .ref (ux 16), .ref (ux 17), .ref (ux 18), .ref (ux 19), .ref (ux 20), .ref (ux 21), .ref (ux 22), .ref (ux 23), .ref (ux 24), .ref (ux 25)])), (qm, .inr (12, [.int 0, .ref (um 0), .ref (um 1), .ref (um 2), .ref (um 3), .ref (um 4), .int 0, .int 0, .int 0, .int 0, .int 0, .long 0, .int 0, .int 0, .int 0, .int (-1), .ref (um 5), .ref (um 6), .ref (um 7), .ref (um 8), .ref (um 9), .ref (um 10), .ref (um 11), .ref (um 12), .ref (um 13), .ref (um 14), .ref (um 15), .ref (um 16), .ref (um 17), .int 0, .int 0, .int 0, .int 0, .int 0, .int 0, .ref (um 18), .int 0, .ref (um 19)])), ((um 5), .inl (cy 1, 5, .inl (fun _ => 0)))]) (hl : lv_has ls 4 [(3, .int 0), (2, .ref qm), (1, .ref qx), (0, .ref b)]) : W p l e room_1 s m #[Value.ref b] below meth c H locs 116 20302 (lw_Z below #[Value.ref b] s) (F0 m 2776 ls []) := by
  have hA : ∀ q, s.heap.size ≤ q → A q := by rw [hAe]; exact fun _ h => h
  have hbA : ¬ A b := by rw [hAe]; exact Nat.not_le.mpr hbl
  have hRf : room_1.frames = 2048 := rfl
  have hRl : room_1.locals = 84000 := rfl
  have hRc : room_1.cells = 600000 := rfl
  have hRs : room_1.slots = 7302250 := rfl
  obtain ⟨p1, ep1⟩ : ∃ z : Int32, z = xs 1 := ⟨_, rfl⟩
  obtain ⟨p2, ep2⟩ : ∃ z : Int32, z = xs 2 := ⟨_, rfl⟩
  obtain ⟨p3, ep3⟩ : ∃ z : Int32, z = xs 3 := ⟨_, rfl⟩
  obtain ⟨p4, ep4⟩ : ∃ z : Int32, z = xs 4 := ⟨_, rfl⟩
  obtain ⟨p5, ep5⟩ : ∃ z : Int32, z = xs 5 := ⟨_, rfl⟩
  refine lv_aload_n hx hb dL_law_2776 rfl (lv_at hl 2 rfl) ?_
  refine lv_aload_n hx hb dL_law_2777 rfl (lv_at hl 3 rfl) ?_
  refine lv_iload_n hx hb dL_law_2778 rfl (lv_at hl 0 rfl) ?_
  refine lv_iconst (v := 1) hx hb dL_law_2779 (by decide) ?_
  refine lv_iadd hx hb dL_law_2780 ?_
  refine lv_topi (fun v1 ev1 => ?_)
  obtain rfl : v1 = 1 := ev1.trans (by decide)
  refine va_sld hx hb hX hbl hbA hS (mm_in mm_k1 (by decide)) dL_law_2781 ?_
  refine lv_topi (fun v2 ev2 => ?_)
  obtain rfl : p1 = v2 := ep1.trans ev2.symm
  refine lv_aload_n hx hb dL_law_2782 rfl (lv_at hl 3 rfl) ?_
  refine lv_iload_n hx hb dL_law_2783 rfl (lv_at hl 0 rfl) ?_
  refine lv_iconst (v := 2) hx hb dL_law_2784 (by decide) ?_
  refine lv_iadd hx hb dL_law_2785 ?_
  refine lv_topi (fun v3 ev3 => ?_)
  obtain rfl : v3 = 2 := ev3.trans (by decide)
  refine va_sld hx hb hX hbl hbA hS (mm_in mm_k2 (by decide)) dL_law_2786 ?_
  refine lv_topi (fun v4 ev4 => ?_)
  obtain rfl : p2 = v4 := ep2.trans ev4.symm
  refine mm_finir (va_runV (As := [.int p1, .int p2]) (rest := []) ⟨hx, hb, hml, hown, hts⟩ (K264_X11_drawn l G cy H.size qx p1 p2 (ux 0) (ux 2) (ux 14) (ux 36) (ux 70) (ux 71) (ux 80) (ux 82) (ux 84) (ux 89) (ux 92) (ux 15) (ux 26) 0 0 0 0 0 0 0 (ux 16) (ux 17) (ux 18) (ux 19) (ux 20) (ux 21) (ux 22) (ux 23) (ux 24) (ux 25) ) (cwV 2 hts (mm_gV mm_w1588 mm_w1589 mm_w1590 mm_w2 mm_w1591) rfl rfl rfl hd_X11_drawn ⟨by rw [hRf]; exact Nat.le_of_ble_eq_true rfl, by rw [hRl]; exact Nat.le_of_ble_eq_true rfl⟩) (mm_preV hK hP hD [0, 1, 2] rfl rfl 0 rfl rfl rfl) rfl rfl hl.1 rfl (lv_room (Nat.le_of_ble_eq_true rfl)) dL_law_2787 ⟨by rw [hRc]; exact Nat.le_of_ble_eq_true rfl, by rw [hRs]; exact Nat.le_of_ble_eq_true rfl⟩) hP hD hS hA [0, 1, 2] rfl (fun _ => rfl) ?_
  clear hP hD hS
  clear H locs
  intro v5 _u H locs hw hP hD hS
  subst hw
  refine lv_aload_n hx hb dL_law_2790 rfl (lv_at hl 1 rfl) ?_
  refine lv_aload_n hx hb dL_law_2791 rfl (lv_at hl 3 rfl) ?_
  refine lv_iload_n hx hb dL_law_2792 rfl (lv_at hl 0 rfl) ?_
  refine lv_iconst (v := 1) hx hb dL_law_2793 (by decide) ?_
  refine lv_iadd hx hb dL_law_2794 ?_
  refine lv_topi (fun v6 ev6 => ?_)
  obtain rfl : v6 = 1 := ev6.trans (by decide)
  refine va_sld hx hb hX hbl hbA hS (mm_in mm_k1 (by decide)) dL_law_2795 ?_
  refine lv_topi (fun v7 ev7 => ?_)
  obtain rfl : p1 = v7 := ep1.trans ev7.symm
  refine lv_aload_n hx hb dL_law_2796 rfl (lv_at hl 3 rfl) ?_
  refine lv_iload_n hx hb dL_law_2797 rfl (lv_at hl 0 rfl) ?_
  refine lv_iconst (v := 2) hx hb dL_law_2798 (by decide) ?_
  refine lv_iadd hx hb dL_law_2799 ?_
  refine lv_topi (fun v8 ev8 => ?_)
  obtain rfl : v8 = 2 := ev8.trans (by decide)
  refine va_sld hx hb hX hbl hbA hS (mm_in mm_k2 (by decide)) dL_law_2800 ?_
  refine lv_topi (fun v9 ev9 => ?_)
  obtain rfl : p2 = v9 := ep2.trans ev9.symm
  refine mm_finir (va_runV (As := [.int p1, .int p2]) (rest := [.int (-2)]) ⟨hx, hb, hml, hown, hts⟩ (K265_X12_drawn l G cy H.size qm p1 p2 (um 0) (um 1) (um 2) (um 3) (um 4) 0 0 0 0 0 0 0 0 0 (-1) (um 5) (um 6) (um 7) (um 8) (um 9) (um 10) (um 11) (um 12) (um 13) (um 14) (um 15) (um 16) (um 17) 0 0 0 0 0 0 (um 18) 0 (um 19) ) (cwV 2 hts (mm_gV mm_w1604 mm_w1605 mm_w1606 mm_w5 mm_w1607) rfl rfl rfl hd_X12_drawn ⟨by rw [hRf]; exact Nat.le_of_ble_eq_true rfl, by rw [hRl]; exact Nat.le_of_ble_eq_true rfl⟩) (mm_preV hK hP hD [3, 4] rfl rfl 3 rfl rfl rfl) rfl rfl hl.1 rfl (lv_room (Nat.le_of_ble_eq_true rfl)) dL_law_2801 ⟨by rw [hRc]; exact Nat.le_of_ble_eq_true rfl, by rw [hRs]; exact Nat.le_of_ble_eq_true rfl⟩) hP hD hS hA [3, 4] rfl (fun _ => rfl) ?_
  clear hP hD hS
  clear H locs
  intro v10 _u H locs hw hP hD hS
  subst hw
  refine lv_icmp_eq (tgt := 3153) hx hb dL_law_2804 (by decide) (fun c11 => ?_) (fun c11 => ?_)
  · refine lv_iinc (v := 6) (lv' := [(3, .int 6), (2, .ref qm), (1, .ref qx), (0, .ref b)]) hx hb dL_law_3153 hl (k := 0) rfl (by decide) (by decide) rfl ?_
    clear hl
    clear ls
    intro ls hl
    refine lv_goto (tgt := 18) hx hb dL_law_3156 (by decide) ?_
    refine lv_iload_n hx hb dL_law_18 rfl (lv_at hl 0 rfl) ?_
    refine lv_aload_n hx hb dL_law_19 rfl (lv_at hl 3 rfl) ?_
    refine va_slen hx hb hX hbl hbA hS dL_law_20 ?_
    refine lv_topi (fun v12 ev12 => ?_)
    obtain rfl : v12 = 6 := ev12.trans (by decide)
    refine lv_bipush (v := 6) hx hb dL_law_21 (by decide) ?_
    refine lv_isub hx hb dL_law_23 ?_
    refine lv_topi (fun v13 ev13 => ?_)
    obtain rfl : v13 = 0 := ev13.trans (by decide)
    refine lv_icmp_gt (tgt := 3159) hx hb dL_law_24 (by decide) (fun c14 => ?_) (fun c14 => ?_)
    · refine lv_iconst (v := 1) hx hb dL_law_3159 (by decide) ?_
      refine va_forget (fun q hq => by have := hS.2.2 q hq; rw [hAe] at this; exact this) ?_
      refine W.widen (k := 600000) (n := 7302250) (Nat.le_of_ble_eq_true rfl) (Nat.le_of_ble_eq_true rfl) ?_
      exact lw_ret hx hb hr hlocks dL_law_3160
    · have q15 := mm_leL (mm_nlt c14) mm_k6 mm_k0
      exact mm_no q15 (by decide)
  · have q16 := mm_neL (lo := (-1)) (mm_ne c11) mm_km2 mm_km2 (by decide) (by decide)
    exact mm_no q16 (by decide)

set_option maxHeartbeats 4000000 in
set_option maxRecDepth 100000 in
theorem lc_64 {p : Program} {e : Env} {s : State} {m : MethodId} {below : List Frame} {meth : Method} {c : Code} {b : Nat} {xs : Nat → Int32} {G : va_G} {cy : Nat → ClassId} {qx qm : Nat} {ux um : Nat → Nat} {H : Heap} {locs : List Loc} {ls : Array Slot} {A : Nat → Prop} (l : Launch) (hx : p.tables.exec = Jvm.exec) (hb : c.code = code) (hr : meth.sig.returnType = ret) (hlocks : meth.locks = false) (hml : c.maxLocals = 4) (hown : s.vm.findClass R_law = some m.cls) (hts : ∀ w ∈ lw_x :: wsL_law, w.before #[Value.ref b] s = true) (hX : va_X b 6 xs s s.heap) (hbl : b < s.heap.size) (hAe : A = fun q => s.heap.size ≤ q) (hK : mm_K G cy s) (hS : va_S A s.heap H locs) (hP : va_P G vwCl [(qx, .inr (11, [.ref (ux 0), .ref (ux 2), .ref (ux 14), .ref (ux 36), .ref (ux 70), .ref (ux 71), .ref (ux 80), .ref (ux 82), .ref (ux 84), .ref (ux 89), .ref (ux 92)])), ((ux 14), .inr (10, [.ref (ux 15), .ref (ux 26)])), ((ux 15), .inr (0, [.int 0, .int 0, .int 0, .int 0, .int 0, .int 0, .int 0, .int 0, .ref (ux 16), .ref (ux 17), .ref (ux 18), .ref (ux 19), .ref (ux 20), .ref (ux 21), .ref (ux 22), .ref (ux 23), .ref (ux 24), .ref (ux 25)])), (qm, .inr (12, [.int 0, .ref (um 0), .ref (um 1), .ref (um 2), .ref (um 3), .ref (um 4), .int 0, .int 0, .int 0, .int 0, .int 0, .long 0, .int 0, .int 0, .int 0, .int (-1), .ref (um 5), .ref (um 6), .ref (um 7), .ref (um 8), .ref (um 9), .ref (um 10), .ref (um 11), .ref (um 12), .ref (um 13), .ref (um 14), .ref (um 15), .ref (um 16), .ref (um 17), .int 0, .int 0, .int 0, .int 0, .int 0, .int 0, .ref (um 18), .int 0, .ref (um 19)])), ((um 6), .inl (cy 1, 30, .inl (fun _ => 0)))] H) (hD : va_D A [(qx, .inr (11, [.ref (ux 0), .ref (ux 2), .ref (ux 14), .ref (ux 36), .ref (ux 70), .ref (ux 71), .ref (ux 80), .ref (ux 82), .ref (ux 84), .ref (ux 89), .ref (ux 92)])), ((ux 14), .inr (10, [.ref (ux 15), .ref (ux 26)])), ((ux 15), .inr (0, [.int 0, .int 0, .int 0, .int 0, .int 0, .int 0, .int 0, .int 0, .ref (ux 16), .ref (ux 17), .ref (ux 18), .ref (ux 19), .ref (ux 20), .ref (ux 21), .ref (ux 22), .ref (ux 23), .ref (ux 24), .ref (ux 25)])), (qm, .inr (12, [.int 0, .ref (um 0), .ref (um 1), .ref (um 2), .ref (um 3), .ref (um 4), .int 0, .int 0, .int 0, .int 0, .int 0, .long 0, .int 0, .int 0, .int 0, .int (-1), .ref (um 5), .ref (um 6), .ref (um 7), .ref (um 8), .ref (um 9), .ref (um 10), .ref (um 11), .ref (um 12), .ref (um 13), .ref (um 14), .ref (um 15), .ref (um 16), .ref (um 17), .int 0, .int 0, .int 0, .int 0, .int 0, .int 0, .ref (um 18), .int 0, .ref (um 19)])), ((um 6), .inl (cy 1, 30, .inl (fun _ => 0)))]) (hl : lv_has ls 4 [(3, .int 0), (2, .ref qm), (1, .ref qx), (0, .ref b)]) : W p l e room_1 s m #[Value.ref b] below meth c H locs 116 20302 (lw_Z below #[Value.ref b] s) (F0 m 2809 ls []) := by
  have hA : ∀ q, s.heap.size ≤ q → A q := by rw [hAe]; exact fun _ h => h
  have hbA : ¬ A b := by rw [hAe]; exact Nat.not_le.mpr hbl
  have hRf : room_1.frames = 2048 := rfl
  have hRl : room_1.locals = 84000 := rfl
  have hRc : room_1.cells = 600000 := rfl
  have hRs : room_1.slots = 7302250 := rfl
  obtain ⟨p1, ep1⟩ : ∃ z : Int32, z = xs 1 := ⟨_, rfl⟩
  obtain ⟨p2, ep2⟩ : ∃ z : Int32, z = xs 2 := ⟨_, rfl⟩
  obtain ⟨p3, ep3⟩ : ∃ z : Int32, z = xs 3 := ⟨_, rfl⟩
  obtain ⟨p4, ep4⟩ : ∃ z : Int32, z = xs 4 := ⟨_, rfl⟩
  obtain ⟨p5, ep5⟩ : ∃ z : Int32, z = xs 5 := ⟨_, rfl⟩
  refine lv_aload_n hx hb dL_law_2809 rfl (lv_at hl 2 rfl) ?_
  refine lv_aload_n hx hb dL_law_2810 rfl (lv_at hl 3 rfl) ?_
  refine lv_iload_n hx hb dL_law_2811 rfl (lv_at hl 0 rfl) ?_
  refine lv_iconst (v := 1) hx hb dL_law_2812 (by decide) ?_
  refine lv_iadd hx hb dL_law_2813 ?_
  refine lv_topi (fun v1 ev1 => ?_)
  obtain rfl : v1 = 1 := ev1.trans (by decide)
  refine va_sld hx hb hX hbl hbA hS (mm_in mm_k1 (by decide)) dL_law_2814 ?_
  refine lv_topi (fun v2 ev2 => ?_)
  obtain rfl : p1 = v2 := ep1.trans ev2.symm
  refine lv_aload_n hx hb dL_law_2815 rfl (lv_at hl 3 rfl) ?_
  refine lv_iload_n hx hb dL_law_2816 rfl (lv_at hl 0 rfl) ?_
  refine lv_iconst (v := 2) hx hb dL_law_2817 (by decide) ?_
  refine lv_iadd hx hb dL_law_2818 ?_
  refine lv_topi (fun v3 ev3 => ?_)
  obtain rfl : v3 = 2 := ev3.trans (by decide)
  refine va_sld hx hb hX hbl hbA hS (mm_in mm_k2 (by decide)) dL_law_2819 ?_
  refine lv_topi (fun v4 ev4 => ?_)
  obtain rfl : p2 = v4 := ep2.trans ev4.symm
  refine lv_aload_n hx hb dL_law_2820 rfl (lv_at hl 3 rfl) ?_
  refine lv_iload_n hx hb dL_law_2821 rfl (lv_at hl 0 rfl) ?_
  refine lv_iconst (v := 3) hx hb dL_law_2822 (by decide) ?_
  refine lv_iadd hx hb dL_law_2823 ?_
  refine lv_topi (fun v5 ev5 => ?_)
  obtain rfl : v5 = 3 := ev5.trans (by decide)
  refine va_sld hx hb hX hbl hbA hS (mm_in mm_k3 (by decide)) dL_law_2824 ?_
  refine lv_topi (fun v6 ev6 => ?_)
  obtain rfl : p3 = v6 := ep3.trans ev6.symm
  refine lv_aload_n hx hb dL_law_2825 rfl (lv_at hl 3 rfl) ?_
  refine lv_iload_n hx hb dL_law_2826 rfl (lv_at hl 0 rfl) ?_
  refine lv_iconst (v := 4) hx hb dL_law_2827 (by decide) ?_
  refine lv_iadd hx hb dL_law_2828 ?_
  refine lv_topi (fun v7 ev7 => ?_)
  obtain rfl : v7 = 4 := ev7.trans (by decide)
  refine va_sld hx hb hX hbl hbA hS (mm_in mm_k4 (by decide)) dL_law_2829 ?_
  refine lv_topi (fun v8 ev8 => ?_)
  obtain rfl : p4 = v8 := ep4.trans ev8.symm
  refine lv_aload_n hx hb dL_law_2830 rfl (lv_at hl 3 rfl) ?_
  refine lv_iload_n hx hb dL_law_2831 rfl (lv_at hl 0 rfl) ?_
  refine lv_iconst (v := 5) hx hb dL_law_2832 (by decide) ?_
  refine lv_iadd hx hb dL_law_2833 ?_
  refine lv_topi (fun v9 ev9 => ?_)
  obtain rfl : v9 = 5 := ev9.trans (by decide)
  refine va_sld hx hb hX hbl hbA hS (mm_in mm_k5 (by decide)) dL_law_2834 ?_
  refine lv_topi (fun v10 ev10 => ?_)
  obtain rfl : p5 = v10 := ep5.trans ev10.symm
  refine mm_finir (va_runV (As := [.int p1, .int p2, .int p3, .int p4, .int p5]) (rest := []) ⟨hx, hb, hml, hown, hts⟩ (K267_X11_luck l G cy H.size qx p1 p2 p3 p4 p5 (ux 0) (ux 2) (ux 14) (ux 36) (ux 70) (ux 71) (ux 80) (ux 82) (ux 84) (ux 89) (ux 92) (ux 15) (ux 26) 0 0 0 0 0 0 0 (ux 16) (ux 17) (ux 18) (ux 19) (ux 20) (ux 21) (ux 22) (ux 23) (ux 24) (ux 25) ) (cwV 5 hts (mm_gV mm_w1620 mm_w1621 mm_w1622 mm_w2 mm_w1623) rfl rfl rfl hd_X11_luck ⟨by rw [hRf]; exact Nat.le_of_ble_eq_true rfl, by rw [hRl]; exact Nat.le_of_ble_eq_true rfl⟩) (mm_preV hK hP hD [0, 1, 2] rfl rfl 0 rfl rfl rfl) rfl rfl hl.1 rfl (lv_room (Nat.le_of_ble_eq_true rfl)) dL_law_2835 ⟨by rw [hRc]; exact Nat.le_of_ble_eq_true rfl, by rw [hRs]; exact Nat.le_of_ble_eq_true rfl⟩) hP hD hS hA [0, 1, 2] rfl (fun _ => rfl) ?_
  clear hP hD hS
  clear H locs
  intro v11 _u H locs hw hP hD hS
  subst hw
  refine lv_aload_n hx hb dL_law_2838 rfl (lv_at hl 1 rfl) ?_
  refine lv_aload_n hx hb dL_law_2839 rfl (lv_at hl 3 rfl) ?_
  refine lv_iload_n hx hb dL_law_2840 rfl (lv_at hl 0 rfl) ?_
  refine lv_iconst (v := 1) hx hb dL_law_2841 (by decide) ?_
  refine lv_iadd hx hb dL_law_2842 ?_
  refine lv_topi (fun v12 ev12 => ?_)
  obtain rfl : v12 = 1 := ev12.trans (by decide)
  refine va_sld hx hb hX hbl hbA hS (mm_in mm_k1 (by decide)) dL_law_2843 ?_
  refine lv_topi (fun v13 ev13 => ?_)
  obtain rfl : p1 = v13 := ep1.trans ev13.symm
  refine lv_aload_n hx hb dL_law_2844 rfl (lv_at hl 3 rfl) ?_
  refine lv_iload_n hx hb dL_law_2845 rfl (lv_at hl 0 rfl) ?_
  refine lv_iconst (v := 2) hx hb dL_law_2846 (by decide) ?_
  refine lv_iadd hx hb dL_law_2847 ?_
  refine lv_topi (fun v14 ev14 => ?_)
  obtain rfl : v14 = 2 := ev14.trans (by decide)
  refine va_sld hx hb hX hbl hbA hS (mm_in mm_k2 (by decide)) dL_law_2848 ?_
  refine lv_topi (fun v15 ev15 => ?_)
  obtain rfl : p2 = v15 := ep2.trans ev15.symm
  refine lv_aload_n hx hb dL_law_2849 rfl (lv_at hl 3 rfl) ?_
  refine lv_iload_n hx hb dL_law_2850 rfl (lv_at hl 0 rfl) ?_
  refine lv_iconst (v := 3) hx hb dL_law_2851 (by decide) ?_
  refine lv_iadd hx hb dL_law_2852 ?_
  refine lv_topi (fun v16 ev16 => ?_)
  obtain rfl : v16 = 3 := ev16.trans (by decide)
  refine va_sld hx hb hX hbl hbA hS (mm_in mm_k3 (by decide)) dL_law_2853 ?_
  refine lv_topi (fun v17 ev17 => ?_)
  obtain rfl : p3 = v17 := ep3.trans ev17.symm
  refine lv_aload_n hx hb dL_law_2854 rfl (lv_at hl 3 rfl) ?_
  refine lv_iload_n hx hb dL_law_2855 rfl (lv_at hl 0 rfl) ?_
  refine lv_iconst (v := 4) hx hb dL_law_2856 (by decide) ?_
  refine lv_iadd hx hb dL_law_2857 ?_
  refine lv_topi (fun v18 ev18 => ?_)
  obtain rfl : v18 = 4 := ev18.trans (by decide)
  refine va_sld hx hb hX hbl hbA hS (mm_in mm_k4 (by decide)) dL_law_2858 ?_
  refine lv_topi (fun v19 ev19 => ?_)
  obtain rfl : p4 = v19 := ep4.trans ev19.symm
  refine lv_aload_n hx hb dL_law_2859 rfl (lv_at hl 3 rfl) ?_
  refine lv_iload_n hx hb dL_law_2860 rfl (lv_at hl 0 rfl) ?_
  refine lv_iconst (v := 5) hx hb dL_law_2861 (by decide) ?_
  refine lv_iadd hx hb dL_law_2862 ?_
  refine lv_topi (fun v20 ev20 => ?_)
  obtain rfl : v20 = 5 := ev20.trans (by decide)
  refine va_sld hx hb hX hbl hbA hS (mm_in mm_k5 (by decide)) dL_law_2863 ?_
  refine lv_topi (fun v21 ev21 => ?_)
  obtain rfl : p5 = v21 := ep5.trans ev21.symm
  refine mm_finir (va_runV (As := [.int p1, .int p2, .int p3, .int p4, .int p5]) (rest := [.int (-2)]) ⟨hx, hb, hml, hown, hts⟩ (K271_X12_luck l G cy H.size qm p1 p2 p3 p4 p5 (um 0) (um 1) (um 2) (um 3) (um 4) 0 0 0 0 0 0 0 0 0 (-1) (um 5) (um 6) (um 7) (um 8) (um 9) (um 10) (um 11) (um 12) (um 13) (um 14) (um 15) (um 16) (um 17) 0 0 0 0 0 0 (um 18) 0 (um 19) ) (cwV 5 hts (mm_gV mm_w1624 mm_w1625 mm_w1626 mm_w5 mm_w1627) rfl rfl rfl hd_X12_luck ⟨by rw [hRf]; exact Nat.le_of_ble_eq_true rfl, by rw [hRl]; exact Nat.le_of_ble_eq_true rfl⟩) (mm_preV hK hP hD [3, 4] rfl rfl 3 rfl rfl rfl) rfl rfl hl.1 rfl (lv_room (Nat.le_of_ble_eq_true rfl)) dL_law_2864 ⟨by rw [hRc]; exact Nat.le_of_ble_eq_true rfl, by rw [hRs]; exact Nat.le_of_ble_eq_true rfl⟩) hP hD hS hA [3, 4] rfl (fun _ => rfl) ?_
  clear hP hD hS
  clear H locs
  intro v22 _u H locs hw hP hD hS
  subst hw
  refine lv_icmp_eq (tgt := 3153) hx hb dL_law_2867 (by decide) (fun c23 => ?_) (fun c23 => ?_)
  · refine lv_iinc (v := 6) (lv' := [(3, .int 6), (2, .ref qm), (1, .ref qx), (0, .ref b)]) hx hb dL_law_3153 hl (k := 0) rfl (by decide) (by decide) rfl ?_
    clear hl
    clear ls
    intro ls hl
    refine lv_goto (tgt := 18) hx hb dL_law_3156 (by decide) ?_
    refine lv_iload_n hx hb dL_law_18 rfl (lv_at hl 0 rfl) ?_
    refine lv_aload_n hx hb dL_law_19 rfl (lv_at hl 3 rfl) ?_
    refine va_slen hx hb hX hbl hbA hS dL_law_20 ?_
    refine lv_topi (fun v24 ev24 => ?_)
    obtain rfl : v24 = 6 := ev24.trans (by decide)
    refine lv_bipush (v := 6) hx hb dL_law_21 (by decide) ?_
    refine lv_isub hx hb dL_law_23 ?_
    refine lv_topi (fun v25 ev25 => ?_)
    obtain rfl : v25 = 0 := ev25.trans (by decide)
    refine lv_icmp_gt (tgt := 3159) hx hb dL_law_24 (by decide) (fun c26 => ?_) (fun c26 => ?_)
    · refine lv_iconst (v := 1) hx hb dL_law_3159 (by decide) ?_
      refine va_forget (fun q hq => by have := hS.2.2 q hq; rw [hAe] at this; exact this) ?_
      refine W.widen (k := 600000) (n := 7302250) (Nat.le_of_ble_eq_true rfl) (Nat.le_of_ble_eq_true rfl) ?_
      exact lw_ret hx hb hr hlocks dL_law_3160
    · have q27 := mm_leL (mm_nlt c26) mm_k6 mm_k0
      exact mm_no q27 (by decide)
  · have q28 := mm_neL (lo := (-1)) (mm_ne c23) mm_km2 mm_km2 (by decide) (by decide)
    exact mm_no q28 (by decide)

set_option maxHeartbeats 4000000 in
set_option maxRecDepth 100000 in
theorem lc_65 {p : Program} {e : Env} {s : State} {m : MethodId} {below : List Frame} {meth : Method} {c : Code} {b : Nat} {xs : Nat → Int32} {G : va_G} {cy : Nat → ClassId} {qx qm : Nat} {ux um : Nat → Nat} {H : Heap} {locs : List Loc} {ls : Array Slot} {A : Nat → Prop} (l : Launch) (hx : p.tables.exec = Jvm.exec) (hb : c.code = code) (hr : meth.sig.returnType = ret) (hlocks : meth.locks = false) (hml : c.maxLocals = 4) (hown : s.vm.findClass R_law = some m.cls) (hts : ∀ w ∈ lw_x :: wsL_law, w.before #[Value.ref b] s = true) (hX : va_X b 6 xs s s.heap) (hbl : b < s.heap.size) (hAe : A = fun q => s.heap.size ≤ q) (hK : mm_K G cy s) (hS : va_S A s.heap H locs) (hP : va_P G vwCl [(qx, .inr (11, [.ref (ux 0), .ref (ux 2), .ref (ux 14), .ref (ux 36), .ref (ux 70), .ref (ux 71), .ref (ux 80), .ref (ux 82), .ref (ux 84), .ref (ux 89), .ref (ux 92)])), ((ux 14), .inr (10, [.ref (ux 15), .ref (ux 26)])), ((ux 15), .inr (0, [.int 0, .int 0, .int 0, .int 0, .int 0, .int 0, .int 0, .int 0, .ref (ux 16), .ref (ux 17), .ref (ux 18), .ref (ux 19), .ref (ux 20), .ref (ux 21), .ref (ux 22), .ref (ux 23), .ref (ux 24), .ref (ux 25)])), (qm, .inr (12, [.int 0, .ref (um 0), .ref (um 1), .ref (um 2), .ref (um 3), .ref (um 4), .int 0, .int 0, .int 0, .int 0, .int 0, .long 0, .int 0, .int 0, .int 0, .int (-1), .ref (um 5), .ref (um 6), .ref (um 7), .ref (um 8), .ref (um 9), .ref (um 10), .ref (um 11), .ref (um 12), .ref (um 13), .ref (um 14), .ref (um 15), .ref (um 16), .ref (um 17), .int 0, .int 0, .int 0, .int 0, .int 0, .int 0, .ref (um 18), .int 0, .ref (um 19)])), ((um 6), .inl (cy 1, 30, .inl (fun _ => 0)))] H) (hD : va_D A [(qx, .inr (11, [.ref (ux 0), .ref (ux 2), .ref (ux 14), .ref (ux 36), .ref (ux 70), .ref (ux 71), .ref (ux 80), .ref (ux 82), .ref (ux 84), .ref (ux 89), .ref (ux 92)])), ((ux 14), .inr (10, [.ref (ux 15), .ref (ux 26)])), ((ux 15), .inr (0, [.int 0, .int 0, .int 0, .int 0, .int 0, .int 0, .int 0, .int 0, .ref (ux 16), .ref (ux 17), .ref (ux 18), .ref (ux 19), .ref (ux 20), .ref (ux 21), .ref (ux 22), .ref (ux 23), .ref (ux 24), .ref (ux 25)])), (qm, .inr (12, [.int 0, .ref (um 0), .ref (um 1), .ref (um 2), .ref (um 3), .ref (um 4), .int 0, .int 0, .int 0, .int 0, .int 0, .long 0, .int 0, .int 0, .int 0, .int (-1), .ref (um 5), .ref (um 6), .ref (um 7), .ref (um 8), .ref (um 9), .ref (um 10), .ref (um 11), .ref (um 12), .ref (um 13), .ref (um 14), .ref (um 15), .ref (um 16), .ref (um 17), .int 0, .int 0, .int 0, .int 0, .int 0, .int 0, .ref (um 18), .int 0, .ref (um 19)])), ((um 6), .inl (cy 1, 30, .inl (fun _ => 0)))]) (hl : lv_has ls 4 [(3, .int 0), (2, .ref qm), (1, .ref qx), (0, .ref b)]) : W p l e room_1 s m #[Value.ref b] below meth c H locs 116 20302 (lw_Z below #[Value.ref b] s) (F0 m 2872 ls []) := by
  have hA : ∀ q, s.heap.size ≤ q → A q := by rw [hAe]; exact fun _ h => h
  have hbA : ¬ A b := by rw [hAe]; exact Nat.not_le.mpr hbl
  have hRf : room_1.frames = 2048 := rfl
  have hRl : room_1.locals = 84000 := rfl
  have hRc : room_1.cells = 600000 := rfl
  have hRs : room_1.slots = 7302250 := rfl
  obtain ⟨p1, ep1⟩ : ∃ z : Int32, z = xs 1 := ⟨_, rfl⟩
  obtain ⟨p2, ep2⟩ : ∃ z : Int32, z = xs 2 := ⟨_, rfl⟩
  obtain ⟨p3, ep3⟩ : ∃ z : Int32, z = xs 3 := ⟨_, rfl⟩
  obtain ⟨p4, ep4⟩ : ∃ z : Int32, z = xs 4 := ⟨_, rfl⟩
  obtain ⟨p5, ep5⟩ : ∃ z : Int32, z = xs 5 := ⟨_, rfl⟩
  refine lv_aload_n hx hb dL_law_2872 rfl (lv_at hl 2 rfl) ?_
  refine lv_aload_n hx hb dL_law_2873 rfl (lv_at hl 3 rfl) ?_
  refine lv_iload_n hx hb dL_law_2874 rfl (lv_at hl 0 rfl) ?_
  refine lv_iconst (v := 1) hx hb dL_law_2875 (by decide) ?_
  refine lv_iadd hx hb dL_law_2876 ?_
  refine lv_topi (fun v1 ev1 => ?_)
  obtain rfl : v1 = 1 := ev1.trans (by decide)
  refine va_sld hx hb hX hbl hbA hS (mm_in mm_k1 (by decide)) dL_law_2877 ?_
  refine lv_topi (fun v2 ev2 => ?_)
  obtain rfl : p1 = v2 := ep1.trans ev2.symm
  refine lv_aload_n hx hb dL_law_2878 rfl (lv_at hl 3 rfl) ?_
  refine lv_iload_n hx hb dL_law_2879 rfl (lv_at hl 0 rfl) ?_
  refine lv_iconst (v := 2) hx hb dL_law_2880 (by decide) ?_
  refine lv_iadd hx hb dL_law_2881 ?_
  refine lv_topi (fun v3 ev3 => ?_)
  obtain rfl : v3 = 2 := ev3.trans (by decide)
  refine va_sld hx hb hX hbl hbA hS (mm_in mm_k2 (by decide)) dL_law_2882 ?_
  refine lv_topi (fun v4 ev4 => ?_)
  obtain rfl : p2 = v4 := ep2.trans ev4.symm
  refine mm_finir (va_runV (As := [.int p1, .int p2]) (rest := []) ⟨hx, hb, hml, hown, hts⟩ (K272_X11_rate l G cy H.size qx p1 p2 (ux 0) (ux 2) (ux 14) (ux 36) (ux 70) (ux 71) (ux 80) (ux 82) (ux 84) (ux 89) (ux 92) (ux 15) (ux 26) 0 0 0 0 0 0 0 (ux 16) (ux 17) (ux 18) (ux 19) (ux 20) (ux 21) (ux 22) (ux 23) (ux 24) (ux 25) ) (cwV 2 hts (mm_gV mm_w1629 mm_w1630 mm_w1631 mm_w2 mm_w1632) rfl rfl rfl hd_X11_rate ⟨by rw [hRf]; exact Nat.le_of_ble_eq_true rfl, by rw [hRl]; exact Nat.le_of_ble_eq_true rfl⟩) (mm_preV hK hP hD [0, 1, 2] rfl rfl 0 rfl rfl rfl) rfl rfl hl.1 rfl (lv_room (Nat.le_of_ble_eq_true rfl)) dL_law_2883 ⟨by rw [hRc]; exact Nat.le_of_ble_eq_true rfl, by rw [hRs]; exact Nat.le_of_ble_eq_true rfl⟩) hP hD hS hA [0, 1, 2] rfl (fun _ => rfl) ?_
  clear hP hD hS
  clear H locs
  intro v5 _u H locs hw hP hD hS
  subst hw
  refine lv_aload_n hx hb dL_law_2886 rfl (lv_at hl 1 rfl) ?_
  refine lv_aload_n hx hb dL_law_2887 rfl (lv_at hl 3 rfl) ?_
  refine lv_iload_n hx hb dL_law_2888 rfl (lv_at hl 0 rfl) ?_
  refine lv_iconst (v := 1) hx hb dL_law_2889 (by decide) ?_
  refine lv_iadd hx hb dL_law_2890 ?_
  refine lv_topi (fun v6 ev6 => ?_)
  obtain rfl : v6 = 1 := ev6.trans (by decide)
  refine va_sld hx hb hX hbl hbA hS (mm_in mm_k1 (by decide)) dL_law_2891 ?_
  refine lv_topi (fun v7 ev7 => ?_)
  obtain rfl : p1 = v7 := ep1.trans ev7.symm
  refine lv_aload_n hx hb dL_law_2892 rfl (lv_at hl 3 rfl) ?_
  refine lv_iload_n hx hb dL_law_2893 rfl (lv_at hl 0 rfl) ?_
  refine lv_iconst (v := 2) hx hb dL_law_2894 (by decide) ?_
  refine lv_iadd hx hb dL_law_2895 ?_
  refine lv_topi (fun v8 ev8 => ?_)
  obtain rfl : v8 = 2 := ev8.trans (by decide)
  refine va_sld hx hb hX hbl hbA hS (mm_in mm_k2 (by decide)) dL_law_2896 ?_
  refine lv_topi (fun v9 ev9 => ?_)
  obtain rfl : p2 = v9 := ep2.trans ev9.symm
  refine mm_finir (va_runV (As := [.int p1, .int p2]) (rest := [.int (-2)]) ⟨hx, hb, hml, hown, hts⟩ (K273_X12_rate l G cy H.size qm p1 p2 (um 0) (um 1) (um 2) (um 3) (um 4) 0 0 0 0 0 0 0 0 0 (-1) (um 5) (um 6) (um 7) (um 8) (um 9) (um 10) (um 11) (um 12) (um 13) (um 14) (um 15) (um 16) (um 17) 0 0 0 0 0 0 (um 18) 0 (um 19) ) (cwV 2 hts (mm_gV mm_w1633 mm_w1634 mm_w1635 mm_w5 mm_w1636) rfl rfl rfl hd_X12_rate ⟨by rw [hRf]; exact Nat.le_of_ble_eq_true rfl, by rw [hRl]; exact Nat.le_of_ble_eq_true rfl⟩) (mm_preV hK hP hD [3, 4] rfl rfl 3 rfl rfl rfl) rfl rfl hl.1 rfl (lv_room (Nat.le_of_ble_eq_true rfl)) dL_law_2897 ⟨by rw [hRc]; exact Nat.le_of_ble_eq_true rfl, by rw [hRs]; exact Nat.le_of_ble_eq_true rfl⟩) hP hD hS hA [3, 4] rfl (fun _ => rfl) ?_
  clear hP hD hS
  clear H locs
  intro v10 _u H locs hw hP hD hS
  subst hw
  refine lv_icmp_eq (tgt := 3153) hx hb dL_law_2900 (by decide) (fun c11 => ?_) (fun c11 => ?_)
  · refine lv_iinc (v := 6) (lv' := [(3, .int 6), (2, .ref qm), (1, .ref qx), (0, .ref b)]) hx hb dL_law_3153 hl (k := 0) rfl (by decide) (by decide) rfl ?_
    clear hl
    clear ls
    intro ls hl
    refine lv_goto (tgt := 18) hx hb dL_law_3156 (by decide) ?_
    refine lv_iload_n hx hb dL_law_18 rfl (lv_at hl 0 rfl) ?_
    refine lv_aload_n hx hb dL_law_19 rfl (lv_at hl 3 rfl) ?_
    refine va_slen hx hb hX hbl hbA hS dL_law_20 ?_
    refine lv_topi (fun v12 ev12 => ?_)
    obtain rfl : v12 = 6 := ev12.trans (by decide)
    refine lv_bipush (v := 6) hx hb dL_law_21 (by decide) ?_
    refine lv_isub hx hb dL_law_23 ?_
    refine lv_topi (fun v13 ev13 => ?_)
    obtain rfl : v13 = 0 := ev13.trans (by decide)
    refine lv_icmp_gt (tgt := 3159) hx hb dL_law_24 (by decide) (fun c14 => ?_) (fun c14 => ?_)
    · refine lv_iconst (v := 1) hx hb dL_law_3159 (by decide) ?_
      refine va_forget (fun q hq => by have := hS.2.2 q hq; rw [hAe] at this; exact this) ?_
      refine W.widen (k := 600000) (n := 7302250) (Nat.le_of_ble_eq_true rfl) (Nat.le_of_ble_eq_true rfl) ?_
      exact lw_ret hx hb hr hlocks dL_law_3160
    · have q15 := mm_leL (mm_nlt c14) mm_k6 mm_k0
      exact mm_no q15 (by decide)
  · have q16 := mm_neL (lo := (-1)) (mm_ne c11) mm_km2 mm_km2 (by decide) (by decide)
    exact mm_no q16 (by decide)

set_option maxHeartbeats 4000000 in
set_option maxRecDepth 100000 in
theorem lc_66 {p : Program} {e : Env} {s : State} {m : MethodId} {below : List Frame} {meth : Method} {c : Code} {b : Nat} {xs : Nat → Int32} {G : va_G} {cy : Nat → ClassId} {qx qm : Nat} {ux um : Nat → Nat} {H : Heap} {locs : List Loc} {ls : Array Slot} {A : Nat → Prop} (l : Launch) (hx : p.tables.exec = Jvm.exec) (hb : c.code = code) (hr : meth.sig.returnType = ret) (hlocks : meth.locks = false) (hml : c.maxLocals = 4) (hown : s.vm.findClass R_law = some m.cls) (hts : ∀ w ∈ lw_x :: wsL_law, w.before #[Value.ref b] s = true) (hX : va_X b 6 xs s s.heap) (hbl : b < s.heap.size) (hAe : A = fun q => s.heap.size ≤ q) (hK : mm_K G cy s) (hS : va_S A s.heap H locs) (hP : va_P G vwCl [(qx, .inr (11, [.ref (ux 0), .ref (ux 2), .ref (ux 14), .ref (ux 36), .ref (ux 70), .ref (ux 71), .ref (ux 80), .ref (ux 82), .ref (ux 84), .ref (ux 89), .ref (ux 92)])), ((ux 0), .inr (9, [.ref (ux 1), .int 0])), ((ux 14), .inr (10, [.ref (ux 15), .ref (ux 26)])), ((ux 15), .inr (0, [.int 0, .int 0, .int 0, .int 0, .int 0, .int 0, .int 0, .int 0, .ref (ux 16), .ref (ux 17), .ref (ux 18), .ref (ux 19), .ref (ux 20), .ref (ux 21), .ref (ux 22), .ref (ux 23), .ref (ux 24), .ref (ux 25)])), ((ux 71), .inl (cy 6, 4, .inr (.inr (.inr (.inr (va_up (va_up (va_up (va_up (fun _ => none) 0 (some (ux 72))) 1 (some (ux 74))) 2 (some (ux 76))) 3 (some (ux 78)))))))), ((ux 72), .inr (6, [.int 0, .int 0, .int 0, .ref (ux 73)])), ((ux 74), .inr (6, [.int 0, .int 0, .int 0, .ref (ux 75)])), ((ux 76), .inr (6, [.int 0, .int 0, .int 0, .ref (ux 77)])), ((ux 78), .inr (6, [.int 0, .int 0, .int 0, .ref (ux 79)])), (qm, .inr (12, [.int 0, .ref (um 0), .ref (um 1), .ref (um 2), .ref (um 3), .ref (um 4), .int 0, .int 0, .int 0, .int 0, .int 0, .long 0, .int 0, .int 0, .int 0, .int (-1), .ref (um 5), .ref (um 6), .ref (um 7), .ref (um 8), .ref (um 9), .ref (um 10), .ref (um 11), .ref (um 12), .ref (um 13), .ref (um 14), .ref (um 15), .ref (um 16), .ref (um 17), .int 0, .int 0, .int 0, .int 0, .int 0, .int 0, .ref (um 18), .int 0, .ref (um 19)])), ((um 0), .inl (cy 1, 4, .inl (fun _ => (-1)))), ((um 5), .inl (cy 1, 5, .inl (fun _ => 0))), ((um 6), .inl (cy 1, 30, .inl (fun _ => 0)))] H) (hD : va_D A [(qx, .inr (11, [.ref (ux 0), .ref (ux 2), .ref (ux 14), .ref (ux 36), .ref (ux 70), .ref (ux 71), .ref (ux 80), .ref (ux 82), .ref (ux 84), .ref (ux 89), .ref (ux 92)])), ((ux 0), .inr (9, [.ref (ux 1), .int 0])), ((ux 14), .inr (10, [.ref (ux 15), .ref (ux 26)])), ((ux 15), .inr (0, [.int 0, .int 0, .int 0, .int 0, .int 0, .int 0, .int 0, .int 0, .ref (ux 16), .ref (ux 17), .ref (ux 18), .ref (ux 19), .ref (ux 20), .ref (ux 21), .ref (ux 22), .ref (ux 23), .ref (ux 24), .ref (ux 25)])), ((ux 71), .inl (cy 6, 4, .inr (.inr (.inr (.inr (va_up (va_up (va_up (va_up (fun _ => none) 0 (some (ux 72))) 1 (some (ux 74))) 2 (some (ux 76))) 3 (some (ux 78)))))))), ((ux 72), .inr (6, [.int 0, .int 0, .int 0, .ref (ux 73)])), ((ux 74), .inr (6, [.int 0, .int 0, .int 0, .ref (ux 75)])), ((ux 76), .inr (6, [.int 0, .int 0, .int 0, .ref (ux 77)])), ((ux 78), .inr (6, [.int 0, .int 0, .int 0, .ref (ux 79)])), (qm, .inr (12, [.int 0, .ref (um 0), .ref (um 1), .ref (um 2), .ref (um 3), .ref (um 4), .int 0, .int 0, .int 0, .int 0, .int 0, .long 0, .int 0, .int 0, .int 0, .int (-1), .ref (um 5), .ref (um 6), .ref (um 7), .ref (um 8), .ref (um 9), .ref (um 10), .ref (um 11), .ref (um 12), .ref (um 13), .ref (um 14), .ref (um 15), .ref (um 16), .ref (um 17), .int 0, .int 0, .int 0, .int 0, .int 0, .int 0, .ref (um 18), .int 0, .ref (um 19)])), ((um 0), .inl (cy 1, 4, .inl (fun _ => (-1)))), ((um 5), .inl (cy 1, 5, .inl (fun _ => 0))), ((um 6), .inl (cy 1, 30, .inl (fun _ => 0)))]) (hl : lv_has ls 4 [(3, .int 0), (2, .ref qm), (1, .ref qx), (0, .ref b)]) : W p l e room_1 s m #[Value.ref b] below meth c H locs 116 20302 (lw_Z below #[Value.ref b] s) (F0 m 2905 ls []) := by
  have hA : ∀ q, s.heap.size ≤ q → A q := by rw [hAe]; exact fun _ h => h
  have hbA : ¬ A b := by rw [hAe]; exact Nat.not_le.mpr hbl
  have hRf : room_1.frames = 2048 := rfl
  have hRl : room_1.locals = 84000 := rfl
  have hRc : room_1.cells = 600000 := rfl
  have hRs : room_1.slots = 7302250 := rfl
  obtain ⟨p1, ep1⟩ : ∃ z : Int32, z = xs 1 := ⟨_, rfl⟩
  obtain ⟨p2, ep2⟩ : ∃ z : Int32, z = xs 2 := ⟨_, rfl⟩
  obtain ⟨p3, ep3⟩ : ∃ z : Int32, z = xs 3 := ⟨_, rfl⟩
  obtain ⟨p4, ep4⟩ : ∃ z : Int32, z = xs 4 := ⟨_, rfl⟩
  obtain ⟨p5, ep5⟩ : ∃ z : Int32, z = xs 5 := ⟨_, rfl⟩
  refine lv_aload_n hx hb dL_law_2905 rfl (lv_at hl 2 rfl) ?_
  refine lv_aload_n hx hb dL_law_2906 rfl (lv_at hl 3 rfl) ?_
  refine lv_iload_n hx hb dL_law_2907 rfl (lv_at hl 0 rfl) ?_
  refine lv_iconst (v := 1) hx hb dL_law_2908 (by decide) ?_
  refine lv_iadd hx hb dL_law_2909 ?_
  refine lv_topi (fun v1 ev1 => ?_)
  obtain rfl : v1 = 1 := ev1.trans (by decide)
  refine va_sld hx hb hX hbl hbA hS (mm_in mm_k1 (by decide)) dL_law_2910 ?_
  refine lv_topi (fun v2 ev2 => ?_)
  obtain rfl : p1 = v2 := ep1.trans ev2.symm
  refine mm_finir (va_runV (As := [.int p1]) (rest := []) ⟨hx, hb, hml, hown, hts⟩ (K276_X11_count l G cy H.size qx p1 (ux 0) (ux 2) (ux 14) (ux 36) (ux 70) (ux 71) (ux 80) (ux 82) (ux 84) (ux 89) (ux 92) (ux 1) (ux 15) (ux 26) 0 (ux 16) (ux 17) (ux 18) (ux 19) (ux 20) (ux 21) (ux 22) (ux 23) (ux 24) (ux 25) (ux 72) (ux 74) (ux 76) (ux 78) 0 0 (ux 73) 0 0 (ux 75) 0 0 (ux 77) 0 0 (ux 79) ) (cwV 1 hts (mm_gV mm_w1637 mm_w1638 mm_w1639 mm_w2 mm_w1640) rfl rfl rfl hd_X11_count ⟨by rw [hRf]; exact Nat.le_of_ble_eq_true rfl, by rw [hRl]; exact Nat.le_of_ble_eq_true rfl⟩) (mm_preV hK hP hD [0, 1, 2, 3, 4, 5, 6, 7, 8] rfl rfl 0 rfl rfl rfl) rfl rfl hl.1 rfl (lv_room (Nat.le_of_ble_eq_true rfl)) dL_law_2911 ⟨by rw [hRc]; exact Nat.le_of_ble_eq_true rfl, by rw [hRs]; exact Nat.le_of_ble_eq_true rfl⟩) hP hD hS hA [0, 1, 2, 3, 4, 5, 6, 7, 8] rfl (fun _ => rfl) ?_
  clear hP hD hS
  clear H locs
  intro v3 _u H locs hw hP hD hS
  rcases hw with ⟨rfl, w4⟩ | ⟨rfl, w5⟩ | ⟨rfl, w6⟩
  · refine lv_aload_n hx hb dL_law_2914 rfl (lv_at hl 1 rfl) ?_
    refine lv_aload_n hx hb dL_law_2915 rfl (lv_at hl 3 rfl) ?_
    refine lv_iload_n hx hb dL_law_2916 rfl (lv_at hl 0 rfl) ?_
    refine lv_iconst (v := 1) hx hb dL_law_2917 (by decide) ?_
    refine lv_iadd hx hb dL_law_2918 ?_
    refine lv_topi (fun v7 ev7 => ?_)
    obtain rfl : v7 = 1 := ev7.trans (by decide)
    refine va_sld hx hb hX hbl hbA hS (mm_in mm_k1 (by decide)) dL_law_2919 ?_
    refine lv_topi (fun v8 ev8 => ?_)
    obtain rfl : p1 = v8 := ep1.trans ev8.symm
    refine mm_finir (va_runV (As := [.int p1]) (rest := [.int (-1)]) ⟨hx, hb, hml, hown, hts⟩ (K279_X12_count l G cy H.size qm p1 (um 0) (um 1) (um 2) (um 3) (um 4) 0 0 0 0 0 0 0 0 (-1) (um 5) (um 6) (um 7) (um 8) (um 9) (um 10) (um 11) (um 12) (um 13) (um 14) (um 15) (um 16) (um 17) 0 0 0 0 0 0 (um 18) 0 (um 19) ) (cwV 1 hts (mm_gV mm_w1651 mm_w1652 mm_w1653 mm_w5 mm_w1654) rfl rfl rfl hd_X12_count ⟨by rw [hRf]; exact Nat.le_of_ble_eq_true rfl, by rw [hRl]; exact Nat.le_of_ble_eq_true rfl⟩) (mm_preV hK hP hD [9, 10, 11, 12] rfl rfl 9 rfl rfl rfl) rfl rfl hl.1 rfl (lv_room (Nat.le_of_ble_eq_true rfl)) dL_law_2920 ⟨by rw [hRc]; exact Nat.le_of_ble_eq_true rfl, by rw [hRs]; exact Nat.le_of_ble_eq_true rfl⟩) hP hD hS hA [9, 10, 11, 12] rfl (fun _ => rfl) ?_
    clear hP hD hS
    clear H locs
    intro v9 _u H locs hw hP hD hS
    rcases hw with ⟨rfl, w10⟩ | ⟨rfl, w11⟩ | ⟨rfl, w12⟩
    · refine lv_icmp_eq (tgt := 3153) hx hb dL_law_2923 (by decide) (fun c13 => ?_) (fun c13 => ?_)
      · refine lv_iinc (v := 6) (lv' := [(3, .int 6), (2, .ref qm), (1, .ref qx), (0, .ref b)]) hx hb dL_law_3153 hl (k := 0) rfl (by decide) (by decide) rfl ?_
        clear hl
        clear ls
        intro ls hl
        refine lv_goto (tgt := 18) hx hb dL_law_3156 (by decide) ?_
        refine lv_iload_n hx hb dL_law_18 rfl (lv_at hl 0 rfl) ?_
        refine lv_aload_n hx hb dL_law_19 rfl (lv_at hl 3 rfl) ?_
        refine va_slen hx hb hX hbl hbA hS dL_law_20 ?_
        refine lv_topi (fun v14 ev14 => ?_)
        obtain rfl : v14 = 6 := ev14.trans (by decide)
        refine lv_bipush (v := 6) hx hb dL_law_21 (by decide) ?_
        refine lv_isub hx hb dL_law_23 ?_
        refine lv_topi (fun v15 ev15 => ?_)
        obtain rfl : v15 = 0 := ev15.trans (by decide)
        refine lv_icmp_gt (tgt := 3159) hx hb dL_law_24 (by decide) (fun c16 => ?_) (fun c16 => ?_)
        · refine lv_iconst (v := 1) hx hb dL_law_3159 (by decide) ?_
          refine va_forget (fun q hq => by have := hS.2.2 q hq; rw [hAe] at this; exact this) ?_
          refine W.widen (k := 600000) (n := 7302250) (Nat.le_of_ble_eq_true rfl) (Nat.le_of_ble_eq_true rfl) ?_
          exact lw_ret hx hb hr hlocks dL_law_3160
        · have q17 := mm_leL (mm_nlt c16) mm_k6 mm_k0
          exact mm_no q17 (by decide)
      · have q18 := mm_neL (lo := 0) (mm_ne c13) mm_km1 mm_km1 (by decide) (by decide)
        exact mm_no q18 (by decide)
    · exact mm_noX w11 w4 (by decide)
    · exact mm_noX w12 w4 (by decide)
  · refine lv_aload_n hx hb dL_law_2914 rfl (lv_at hl 1 rfl) ?_
    refine lv_aload_n hx hb dL_law_2915 rfl (lv_at hl 3 rfl) ?_
    refine lv_iload_n hx hb dL_law_2916 rfl (lv_at hl 0 rfl) ?_
    refine lv_iconst (v := 1) hx hb dL_law_2917 (by decide) ?_
    refine lv_iadd hx hb dL_law_2918 ?_
    refine lv_topi (fun v19 ev19 => ?_)
    obtain rfl : v19 = 1 := ev19.trans (by decide)
    refine va_sld hx hb hX hbl hbA hS (mm_in mm_k1 (by decide)) dL_law_2919 ?_
    refine lv_topi (fun v20 ev20 => ?_)
    obtain rfl : p1 = v20 := ep1.trans ev20.symm
    refine mm_finir (va_runV (As := [.int p1]) (rest := [.int (-1)]) ⟨hx, hb, hml, hown, hts⟩ (K279_X12_count l G cy H.size qm p1 (um 0) (um 1) (um 2) (um 3) (um 4) 0 0 0 0 0 0 0 0 (-1) (um 5) (um 6) (um 7) (um 8) (um 9) (um 10) (um 11) (um 12) (um 13) (um 14) (um 15) (um 16) (um 17) 0 0 0 0 0 0 (um 18) 0 (um 19) ) (cwV 1 hts (mm_gV mm_w1651 mm_w1652 mm_w1653 mm_w5 mm_w1654) rfl rfl rfl hd_X12_count ⟨by rw [hRf]; exact Nat.le_of_ble_eq_true rfl, by rw [hRl]; exact Nat.le_of_ble_eq_true rfl⟩) (mm_preV hK hP hD [9, 10, 11, 12] rfl rfl 9 rfl rfl rfl) rfl rfl hl.1 rfl (lv_room (Nat.le_of_ble_eq_true rfl)) dL_law_2920 ⟨by rw [hRc]; exact Nat.le_of_ble_eq_true rfl, by rw [hRs]; exact Nat.le_of_ble_eq_true rfl⟩) hP hD hS hA [9, 10, 11, 12] rfl (fun _ => rfl) ?_
    clear hP hD hS
    clear H locs
    intro v21 _u H locs hw hP hD hS
    rcases hw with ⟨rfl, w22⟩ | ⟨rfl, w23⟩ | ⟨rfl, w24⟩
    · exact mm_noX w22 w5 (by decide)
    · refine lv_icmp_eq (tgt := 3153) hx hb dL_law_2923 (by decide) (fun c25 => ?_) (fun c25 => ?_)
      · refine lv_iinc (v := 6) (lv' := [(3, .int 6), (2, .ref qm), (1, .ref qx), (0, .ref b)]) hx hb dL_law_3153 hl (k := 0) rfl (by decide) (by decide) rfl ?_
        clear hl
        clear ls
        intro ls hl
        refine lv_goto (tgt := 18) hx hb dL_law_3156 (by decide) ?_
        refine lv_iload_n hx hb dL_law_18 rfl (lv_at hl 0 rfl) ?_
        refine lv_aload_n hx hb dL_law_19 rfl (lv_at hl 3 rfl) ?_
        refine va_slen hx hb hX hbl hbA hS dL_law_20 ?_
        refine lv_topi (fun v26 ev26 => ?_)
        obtain rfl : v26 = 6 := ev26.trans (by decide)
        refine lv_bipush (v := 6) hx hb dL_law_21 (by decide) ?_
        refine lv_isub hx hb dL_law_23 ?_
        refine lv_topi (fun v27 ev27 => ?_)
        obtain rfl : v27 = 0 := ev27.trans (by decide)
        refine lv_icmp_gt (tgt := 3159) hx hb dL_law_24 (by decide) (fun c28 => ?_) (fun c28 => ?_)
        · refine lv_iconst (v := 1) hx hb dL_law_3159 (by decide) ?_
          refine va_forget (fun q hq => by have := hS.2.2 q hq; rw [hAe] at this; exact this) ?_
          refine W.widen (k := 600000) (n := 7302250) (Nat.le_of_ble_eq_true rfl) (Nat.le_of_ble_eq_true rfl) ?_
          exact lw_ret hx hb hr hlocks dL_law_3160
        · have q29 := mm_leL (mm_nlt c28) mm_k6 mm_k0
          exact mm_no q29 (by decide)
      · have q30 := mm_neL (lo := 0) (mm_ne c25) mm_km1 mm_km1 (by decide) (by decide)
        exact mm_no q30 (by decide)
    · exact mm_noX w24 w5 (by decide)
  · refine lv_aload_n hx hb dL_law_2914 rfl (lv_at hl 1 rfl) ?_
    refine lv_aload_n hx hb dL_law_2915 rfl (lv_at hl 3 rfl) ?_
    refine lv_iload_n hx hb dL_law_2916 rfl (lv_at hl 0 rfl) ?_
    refine lv_iconst (v := 1) hx hb dL_law_2917 (by decide) ?_
    refine lv_iadd hx hb dL_law_2918 ?_
    refine lv_topi (fun v31 ev31 => ?_)
    obtain rfl : v31 = 1 := ev31.trans (by decide)
    refine va_sld hx hb hX hbl hbA hS (mm_in mm_k1 (by decide)) dL_law_2919 ?_
    refine lv_topi (fun v32 ev32 => ?_)
    obtain rfl : p1 = v32 := ep1.trans ev32.symm
    refine mm_finir (va_runV (As := [.int p1]) (rest := [.int 0]) ⟨hx, hb, hml, hown, hts⟩ (K279_X12_count l G cy H.size qm p1 (um 0) (um 1) (um 2) (um 3) (um 4) 0 0 0 0 0 0 0 0 (-1) (um 5) (um 6) (um 7) (um 8) (um 9) (um 10) (um 11) (um 12) (um 13) (um 14) (um 15) (um 16) (um 17) 0 0 0 0 0 0 (um 18) 0 (um 19) ) (cwV 1 hts (mm_gV mm_w1651 mm_w1652 mm_w1653 mm_w5 mm_w1654) rfl rfl rfl hd_X12_count ⟨by rw [hRf]; exact Nat.le_of_ble_eq_true rfl, by rw [hRl]; exact Nat.le_of_ble_eq_true rfl⟩) (mm_preV hK hP hD [9, 10, 11, 12] rfl rfl 9 rfl rfl rfl) rfl rfl hl.1 rfl (lv_room (Nat.le_of_ble_eq_true rfl)) dL_law_2920 ⟨by rw [hRc]; exact Nat.le_of_ble_eq_true rfl, by rw [hRs]; exact Nat.le_of_ble_eq_true rfl⟩) hP hD hS hA [9, 10, 11, 12] rfl (fun _ => rfl) ?_
    clear hP hD hS
    clear H locs
    intro v33 _u H locs hw hP hD hS
    rcases hw with ⟨rfl, w34⟩ | ⟨rfl, w35⟩ | ⟨rfl, w36⟩
    · exact mm_noX w34 w6 (by decide)
    · exact mm_noX w35 w6 (by decide)
    · refine lv_icmp_eq (tgt := 3153) hx hb dL_law_2923 (by decide) (fun c37 => ?_) (fun c37 => ?_)
      · refine lv_iinc (v := 6) (lv' := [(3, .int 6), (2, .ref qm), (1, .ref qx), (0, .ref b)]) hx hb dL_law_3153 hl (k := 0) rfl (by decide) (by decide) rfl ?_
        clear hl
        clear ls
        intro ls hl
        refine lv_goto (tgt := 18) hx hb dL_law_3156 (by decide) ?_
        refine lv_iload_n hx hb dL_law_18 rfl (lv_at hl 0 rfl) ?_
        refine lv_aload_n hx hb dL_law_19 rfl (lv_at hl 3 rfl) ?_
        refine va_slen hx hb hX hbl hbA hS dL_law_20 ?_
        refine lv_topi (fun v38 ev38 => ?_)
        obtain rfl : v38 = 6 := ev38.trans (by decide)
        refine lv_bipush (v := 6) hx hb dL_law_21 (by decide) ?_
        refine lv_isub hx hb dL_law_23 ?_
        refine lv_topi (fun v39 ev39 => ?_)
        obtain rfl : v39 = 0 := ev39.trans (by decide)
        refine lv_icmp_gt (tgt := 3159) hx hb dL_law_24 (by decide) (fun c40 => ?_) (fun c40 => ?_)
        · refine lv_iconst (v := 1) hx hb dL_law_3159 (by decide) ?_
          refine va_forget (fun q hq => by have := hS.2.2 q hq; rw [hAe] at this; exact this) ?_
          refine W.widen (k := 600000) (n := 7302250) (Nat.le_of_ble_eq_true rfl) (Nat.le_of_ble_eq_true rfl) ?_
          exact lw_ret hx hb hr hlocks dL_law_3160
        · have q41 := mm_leL (mm_nlt c40) mm_k6 mm_k0
          exact mm_no q41 (by decide)
      · have q42 := mm_neL (lo := 1) (mm_ne c37) mm_k0 mm_k0 (by decide) (by decide)
        exact mm_no q42 (by decide)

set_option maxHeartbeats 4000000 in
set_option maxRecDepth 100000 in
theorem lc_67 {p : Program} {e : Env} {s : State} {m : MethodId} {below : List Frame} {meth : Method} {c : Code} {b : Nat} {xs : Nat → Int32} {G : va_G} {cy : Nat → ClassId} {qx qm : Nat} {ux um : Nat → Nat} {H : Heap} {locs : List Loc} {ls : Array Slot} {A : Nat → Prop} (l : Launch) (hx : p.tables.exec = Jvm.exec) (hb : c.code = code) (hr : meth.sig.returnType = ret) (hlocks : meth.locks = false) (hml : c.maxLocals = 4) (hown : s.vm.findClass R_law = some m.cls) (hts : ∀ w ∈ lw_x :: wsL_law, w.before #[Value.ref b] s = true) (hX : va_X b 6 xs s s.heap) (hbl : b < s.heap.size) (hAe : A = fun q => s.heap.size ≤ q) (hK : mm_K G cy s) (hS : va_S A s.heap H locs) (hP : va_P G vwCl [(qx, .inr (11, [.ref (ux 0), .ref (ux 2), .ref (ux 14), .ref (ux 36), .ref (ux 70), .ref (ux 71), .ref (ux 80), .ref (ux 82), .ref (ux 84), .ref (ux 89), .ref (ux 92)])), ((ux 14), .inr (10, [.ref (ux 15), .ref (ux 26)])), ((ux 15), .inr (0, [.int 0, .int 0, .int 0, .int 0, .int 0, .int 0, .int 0, .int 0, .ref (ux 16), .ref (ux 17), .ref (ux 18), .ref (ux 19), .ref (ux 20), .ref (ux 21), .ref (ux 22), .ref (ux 23), .ref (ux 24), .ref (ux 25)])), ((ux 16), .inl (cy 1, 9, .inl (fun _ => 0))), ((ux 17), .inl (cy 1, 9, .inl (fun _ => 0))), ((ux 18), .inl (cy 1, 3, .inl (fun _ => 0))), ((ux 19), .inl (cy 1, 210, .inl (fun _ => 0))), ((ux 20), .inl (cy 1, 6, .inl (fun _ => 0))), ((ux 21), .inl (cy 1, 48, .inl (fun _ => 0))), ((ux 22), .inl (cy 1, 30, .inl (fun _ => 0))), ((ux 23), .inl (cy 1, 30, .inl (fun _ => 0))), ((ux 24), .inl (cy 1, 30, .inl (fun _ => 0))), ((ux 25), .inl (cy 1, 30, .inl (fun _ => 0))), ((ux 36), .inl (cy 4, 3, .inr (.inr (.inr (.inr (va_up (va_up (va_up (fun _ => none) 0 (some (ux 37))) 1 (some (ux 48))) 2 (some (ux 59)))))))), ((ux 37), .inr (0, [.int 0, .int 0, .int 0, .int 0, .int 0, .int 0, .int 0, .int 0, .ref (ux 38), .ref (ux 39), .ref (ux 40), .ref (ux 41), .ref (ux 42), .ref (ux 43), .ref (ux 44), .ref (ux 45), .ref (ux 46), .ref (ux 47)])), ((ux 38), .inl (cy 1, 9, .inl (fun _ => 0))), ((ux 39), .inl (cy 1, 9, .inl (fun _ => 0))), ((ux 40), .inl (cy 1, 3, .inl (fun _ => 0))), ((ux 41), .inl (cy 1, 210, .inl (fun _ => 0))), ((ux 42), .inl (cy 1, 6, .inl (fun _ => 0))), ((ux 43), .inl (cy 1, 48, .inl (fun _ => 0))), ((ux 44), .inl (cy 1, 30, .inl (fun _ => 0))), ((ux 45), .inl (cy 1, 30, .inl (fun _ => 0))), ((ux 46), .inl (cy 1, 30, .inl (fun _ => 0))), ((ux 47), .inl (cy 1, 30, .inl (fun _ => 0))), ((ux 48), .inr (0, [.int 0, .int 0, .int 0, .int 0, .int 0, .int 0, .int 0, .int 0, .ref (ux 49), .ref (ux 50), .ref (ux 51), .ref (ux 52), .ref (ux 53), .ref (ux 54), .ref (ux 55), .ref (ux 56), .ref (ux 57), .ref (ux 58)])), ((ux 49), .inl (cy 1, 9, .inl (fun _ => 0))), ((ux 50), .inl (cy 1, 9, .inl (fun _ => 0))), ((ux 51), .inl (cy 1, 3, .inl (fun _ => 0))), ((ux 52), .inl (cy 1, 210, .inl (fun _ => 0))), ((ux 53), .inl (cy 1, 6, .inl (fun _ => 0))), ((ux 54), .inl (cy 1, 48, .inl (fun _ => 0))), ((ux 55), .inl (cy 1, 30, .inl (fun _ => 0))), ((ux 56), .inl (cy 1, 30, .inl (fun _ => 0))), ((ux 57), .inl (cy 1, 30, .inl (fun _ => 0))), ((ux 58), .inl (cy 1, 30, .inl (fun _ => 0))), ((ux 59), .inr (0, [.int 0, .int 0, .int 0, .int 0, .int 0, .int 0, .int 0, .int 0, .ref (ux 60), .ref (ux 61), .ref (ux 62), .ref (ux 63), .ref (ux 64), .ref (ux 65), .ref (ux 66), .ref (ux 67), .ref (ux 68), .ref (ux 69)])), ((ux 60), .inl (cy 1, 9, .inl (fun _ => 0))), ((ux 61), .inl (cy 1, 9, .inl (fun _ => 0))), ((ux 62), .inl (cy 1, 3, .inl (fun _ => 0))), ((ux 63), .inl (cy 1, 210, .inl (fun _ => 0))), ((ux 64), .inl (cy 1, 6, .inl (fun _ => 0))), ((ux 65), .inl (cy 1, 48, .inl (fun _ => 0))), ((ux 66), .inl (cy 1, 30, .inl (fun _ => 0))), ((ux 67), .inl (cy 1, 30, .inl (fun _ => 0))), ((ux 68), .inl (cy 1, 30, .inl (fun _ => 0))), ((ux 69), .inl (cy 1, 30, .inl (fun _ => 0))), ((ux 70), .inl (cy 3, 3, .inl (fun _ => 0))), (qm, .inr (12, [.int 0, .ref (um 0), .ref (um 1), .ref (um 2), .ref (um 3), .ref (um 4), .int 0, .int 0, .int 0, .int 0, .int 0, .long 0, .int 0, .int 0, .int 0, .int (-1), .ref (um 5), .ref (um 6), .ref (um 7), .ref (um 8), .ref (um 9), .ref (um 10), .ref (um 11), .ref (um 12), .ref (um 13), .ref (um 14), .ref (um 15), .ref (um 16), .ref (um 17), .int 0, .int 0, .int 0, .int 0, .int 0, .int 0, .ref (um 18), .int 0, .ref (um 19)])), ((um 5), .inl (cy 1, 5, .inl (fun _ => 0))), ((um 6), .inl (cy 1, 30, .inl (fun _ => 0))), ((um 7), .inl (cy 1, 90, .inl (fun _ => 0))), ((um 8), .inl (cy 1, 15, .inl (fun _ => 0))), ((um 9), .inl (cy 1, 1050, .inl (fun _ => 0))), ((um 10), .inl (cy 1, 30, .inl (fun _ => 0))), ((um 11), .inl (cy 1, 240, .inl (fun _ => 0))), ((um 12), .inl (cy 1, 450, .inl (fun _ => 0))), ((um 13), .inl (cy 3, 3, .inl (fun _ => 0)))] H) (hD : va_D A [(qx, .inr (11, [.ref (ux 0), .ref (ux 2), .ref (ux 14), .ref (ux 36), .ref (ux 70), .ref (ux 71), .ref (ux 80), .ref (ux 82), .ref (ux 84), .ref (ux 89), .ref (ux 92)])), ((ux 14), .inr (10, [.ref (ux 15), .ref (ux 26)])), ((ux 15), .inr (0, [.int 0, .int 0, .int 0, .int 0, .int 0, .int 0, .int 0, .int 0, .ref (ux 16), .ref (ux 17), .ref (ux 18), .ref (ux 19), .ref (ux 20), .ref (ux 21), .ref (ux 22), .ref (ux 23), .ref (ux 24), .ref (ux 25)])), ((ux 16), .inl (cy 1, 9, .inl (fun _ => 0))), ((ux 17), .inl (cy 1, 9, .inl (fun _ => 0))), ((ux 18), .inl (cy 1, 3, .inl (fun _ => 0))), ((ux 19), .inl (cy 1, 210, .inl (fun _ => 0))), ((ux 20), .inl (cy 1, 6, .inl (fun _ => 0))), ((ux 21), .inl (cy 1, 48, .inl (fun _ => 0))), ((ux 22), .inl (cy 1, 30, .inl (fun _ => 0))), ((ux 23), .inl (cy 1, 30, .inl (fun _ => 0))), ((ux 24), .inl (cy 1, 30, .inl (fun _ => 0))), ((ux 25), .inl (cy 1, 30, .inl (fun _ => 0))), ((ux 36), .inl (cy 4, 3, .inr (.inr (.inr (.inr (va_up (va_up (va_up (fun _ => none) 0 (some (ux 37))) 1 (some (ux 48))) 2 (some (ux 59)))))))), ((ux 37), .inr (0, [.int 0, .int 0, .int 0, .int 0, .int 0, .int 0, .int 0, .int 0, .ref (ux 38), .ref (ux 39), .ref (ux 40), .ref (ux 41), .ref (ux 42), .ref (ux 43), .ref (ux 44), .ref (ux 45), .ref (ux 46), .ref (ux 47)])), ((ux 38), .inl (cy 1, 9, .inl (fun _ => 0))), ((ux 39), .inl (cy 1, 9, .inl (fun _ => 0))), ((ux 40), .inl (cy 1, 3, .inl (fun _ => 0))), ((ux 41), .inl (cy 1, 210, .inl (fun _ => 0))), ((ux 42), .inl (cy 1, 6, .inl (fun _ => 0))), ((ux 43), .inl (cy 1, 48, .inl (fun _ => 0))), ((ux 44), .inl (cy 1, 30, .inl (fun _ => 0))), ((ux 45), .inl (cy 1, 30, .inl (fun _ => 0))), ((ux 46), .inl (cy 1, 30, .inl (fun _ => 0))), ((ux 47), .inl (cy 1, 30, .inl (fun _ => 0))), ((ux 48), .inr (0, [.int 0, .int 0, .int 0, .int 0, .int 0, .int 0, .int 0, .int 0, .ref (ux 49), .ref (ux 50), .ref (ux 51), .ref (ux 52), .ref (ux 53), .ref (ux 54), .ref (ux 55), .ref (ux 56), .ref (ux 57), .ref (ux 58)])), ((ux 49), .inl (cy 1, 9, .inl (fun _ => 0))), ((ux 50), .inl (cy 1, 9, .inl (fun _ => 0))), ((ux 51), .inl (cy 1, 3, .inl (fun _ => 0))), ((ux 52), .inl (cy 1, 210, .inl (fun _ => 0))), ((ux 53), .inl (cy 1, 6, .inl (fun _ => 0))), ((ux 54), .inl (cy 1, 48, .inl (fun _ => 0))), ((ux 55), .inl (cy 1, 30, .inl (fun _ => 0))), ((ux 56), .inl (cy 1, 30, .inl (fun _ => 0))), ((ux 57), .inl (cy 1, 30, .inl (fun _ => 0))), ((ux 58), .inl (cy 1, 30, .inl (fun _ => 0))), ((ux 59), .inr (0, [.int 0, .int 0, .int 0, .int 0, .int 0, .int 0, .int 0, .int 0, .ref (ux 60), .ref (ux 61), .ref (ux 62), .ref (ux 63), .ref (ux 64), .ref (ux 65), .ref (ux 66), .ref (ux 67), .ref (ux 68), .ref (ux 69)])), ((ux 60), .inl (cy 1, 9, .inl (fun _ => 0))), ((ux 61), .inl (cy 1, 9, .inl (fun _ => 0))), ((ux 62), .inl (cy 1, 3, .inl (fun _ => 0))), ((ux 63), .inl (cy 1, 210, .inl (fun _ => 0))), ((ux 64), .inl (cy 1, 6, .inl (fun _ => 0))), ((ux 65), .inl (cy 1, 48, .inl (fun _ => 0))), ((ux 66), .inl (cy 1, 30, .inl (fun _ => 0))), ((ux 67), .inl (cy 1, 30, .inl (fun _ => 0))), ((ux 68), .inl (cy 1, 30, .inl (fun _ => 0))), ((ux 69), .inl (cy 1, 30, .inl (fun _ => 0))), ((ux 70), .inl (cy 3, 3, .inl (fun _ => 0))), (qm, .inr (12, [.int 0, .ref (um 0), .ref (um 1), .ref (um 2), .ref (um 3), .ref (um 4), .int 0, .int 0, .int 0, .int 0, .int 0, .long 0, .int 0, .int 0, .int 0, .int (-1), .ref (um 5), .ref (um 6), .ref (um 7), .ref (um 8), .ref (um 9), .ref (um 10), .ref (um 11), .ref (um 12), .ref (um 13), .ref (um 14), .ref (um 15), .ref (um 16), .ref (um 17), .int 0, .int 0, .int 0, .int 0, .int 0, .int 0, .ref (um 18), .int 0, .ref (um 19)])), ((um 5), .inl (cy 1, 5, .inl (fun _ => 0))), ((um 6), .inl (cy 1, 30, .inl (fun _ => 0))), ((um 7), .inl (cy 1, 90, .inl (fun _ => 0))), ((um 8), .inl (cy 1, 15, .inl (fun _ => 0))), ((um 9), .inl (cy 1, 1050, .inl (fun _ => 0))), ((um 10), .inl (cy 1, 30, .inl (fun _ => 0))), ((um 11), .inl (cy 1, 240, .inl (fun _ => 0))), ((um 12), .inl (cy 1, 450, .inl (fun _ => 0))), ((um 13), .inl (cy 3, 3, .inl (fun _ => 0)))]) (hl : lv_has ls 4 [(3, .int 0), (2, .ref qm), (1, .ref qx), (0, .ref b)]) : W p l e room_1 s m #[Value.ref b] below meth c H locs 116 20302 (lw_Z below #[Value.ref b] s) (F0 m 2928 ls []) := by
  have hA : ∀ q, s.heap.size ≤ q → A q := by rw [hAe]; exact fun _ h => h
  have hbA : ¬ A b := by rw [hAe]; exact Nat.not_le.mpr hbl
  have hRf : room_1.frames = 2048 := rfl
  have hRl : room_1.locals = 84000 := rfl
  have hRc : room_1.cells = 600000 := rfl
  have hRs : room_1.slots = 7302250 := rfl
  obtain ⟨p1, ep1⟩ : ∃ z : Int32, z = xs 1 := ⟨_, rfl⟩
  obtain ⟨p2, ep2⟩ : ∃ z : Int32, z = xs 2 := ⟨_, rfl⟩
  obtain ⟨p3, ep3⟩ : ∃ z : Int32, z = xs 3 := ⟨_, rfl⟩
  obtain ⟨p4, ep4⟩ : ∃ z : Int32, z = xs 4 := ⟨_, rfl⟩
  obtain ⟨p5, ep5⟩ : ∃ z : Int32, z = xs 5 := ⟨_, rfl⟩
  refine lv_aload_n hx hb dL_law_2928 rfl (lv_at hl 2 rfl) ?_
  refine lv_aload_n hx hb dL_law_2929 rfl (lv_at hl 3 rfl) ?_
  refine lv_iload_n hx hb dL_law_2930 rfl (lv_at hl 0 rfl) ?_
  refine lv_iconst (v := 1) hx hb dL_law_2931 (by decide) ?_
  refine lv_iadd hx hb dL_law_2932 ?_
  refine lv_topi (fun v1 ev1 => ?_)
  obtain rfl : v1 = 1 := ev1.trans (by decide)
  refine va_sld hx hb hX hbl hbA hS (mm_in mm_k1 (by decide)) dL_law_2933 ?_
  refine lv_topi (fun v2 ev2 => ?_)
  obtain rfl : p1 = v2 := ep1.trans ev2.symm
  refine mm_fini (va_runV (As := [.int p1]) (rest := []) ⟨hx, hb, hml, hown, hts⟩ (K287_X11_image l G cy H.size qx p1 (ux 0) (ux 2) (ux 14) (ux 36) (ux 70) (ux 71) (ux 80) (ux 82) (ux 84) (ux 89) (ux 92) (ux 15) (ux 26) (ux 16) (ux 17) (ux 18) (ux 19) (ux 20) (ux 21) (ux 22) (ux 23) (ux 24) (ux 25) (ux 37) (ux 48) (ux 59) (ux 38) (ux 39) (ux 40) (ux 41) (ux 42) (ux 43) (ux 44) (ux 45) (ux 46) (ux 47) (ux 49) (ux 50) (ux 51) (ux 52) (ux 53) (ux 54) (ux 55) (ux 56) (ux 57) (ux 58) (ux 60) (ux 61) (ux 62) (ux 63) (ux 64) (ux 65) (ux 66) (ux 67) (ux 68) (ux 69) ) (cwV 1 hts (mm_gV mm_w1655 mm_w1656 mm_w1657 mm_w2 mm_w1658) rfl rfl rfl hd_X11_image ⟨by rw [hRf]; exact Nat.le_of_ble_eq_true rfl, by rw [hRl]; exact Nat.le_of_ble_eq_true rfl⟩) (mm_preV hK hP hD [0, 1, 2, 3, 4, 5, 6, 7, 8, 9, 10, 11, 12, 13, 14, 15, 16, 17, 18, 19, 20, 21, 22, 23, 24, 25, 26, 27, 28, 29, 30, 31, 32, 33, 34, 35, 36, 37, 38, 39, 40, 41, 42, 43, 44, 45, 46, 47] rfl rfl 0 rfl rfl rfl) rfl rfl hl.1 rfl (lv_room (Nat.le_of_ble_eq_true rfl)) dL_law_2934 ⟨by rw [hRc]; exact Nat.le_of_ble_eq_true rfl, by rw [hRs]; exact Nat.le_of_ble_eq_true rfl⟩) hP hD hS hA (fun u : (Nat → Int32) × (Nat → Int32) × (Nat → Int32) × (Nat → Int32) × (Nat → Int32) × (Nat → Int32) × (Nat → Int32) × (Nat → Int32) × (Nat → Int32) × (Nat → Int32) × (Nat → Int32) × (Nat → Int32) × (Nat → Int32) × (Nat → Int32) × (Nat → Int32) × (Nat → Int32) × (Nat → Int32) × (Nat → Int32) × (Nat → Int32) × (Nat → Int32) × (Nat → Int32) × (Nat → Int32) × (Nat → Int32) × (Nat → Int32) × (Nat → Int32) × (Nat → Int32) × (Nat → Int32) × (Nat → Int32) × (Nat → Int32) × (Nat → Int32) × (Nat → Int32) => [(qx, .inr (11, [.ref (ux 0), .ref (ux 2), .ref (ux 14), .ref (ux 36), .ref (ux 70), .ref (ux 71), .ref (ux 80), .ref (ux 82), .ref (ux 84), .ref (ux 89), .ref (ux 92)])), ((ux 14), .inr (10, [.ref (ux 15), .ref (ux 26)])), ((ux 15), .inr (0, [.int 0, .int 0, .int 0, .int 0, .int 0, .int 0, .int 0, .int 0, .ref (ux 16), .ref (ux 17), .ref (ux 18), .ref (ux 19), .ref (ux 20), .ref (ux 21), .ref (ux 22), .ref (ux 23), .ref (ux 24), .ref (ux 25)])), ((ux 16), .inl (cy 1, 9, .inl (fun _ => 0))), ((ux 17), .inl (cy 1, 9, .inl (fun _ => 0))), ((ux 18), .inl (cy 1, 3, .inl (fun _ => 0))), ((ux 19), .inl (cy 1, 210, .inl (fun _ => 0))), ((ux 20), .inl (cy 1, 6, .inl (fun _ => 0))), ((ux 21), .inl (cy 1, 48, .inl (fun _ => 0))), ((ux 22), .inl (cy 1, 30, .inl (fun _ => 0))), ((ux 23), .inl (cy 1, 30, .inl (fun _ => 0))), ((ux 24), .inl (cy 1, 30, .inl (fun _ => 0))), ((ux 25), .inl (cy 1, 30, .inl (fun _ => 0))), ((ux 36), .inl (cy 4, 3, .inr (.inr (.inr (.inr (va_up (va_up (va_up (fun _ => none) 0 (some (ux 37))) 1 (some (ux 48))) 2 (some (ux 59)))))))), ((ux 37), .inr (0, [.int 0, .int 0, .int 0, .int 0, .int 0, .int 0, .int 0, .int 0, .ref (ux 38), .ref (ux 39), .ref (ux 40), .ref (ux 41), .ref (ux 42), .ref (ux 43), .ref (ux 44), .ref (ux 45), .ref (ux 46), .ref (ux 47)])), ((ux 38), .inl (cy 1, 9, .inl u.1)), ((ux 39), .inl (cy 1, 9, .inl u.2.1)), ((ux 40), .inl (cy 1, 3, .inl u.2.2.1)), ((ux 41), .inl (cy 1, 210, .inl u.2.2.2.1)), ((ux 42), .inl (cy 1, 6, .inl u.2.2.2.2.1)), ((ux 43), .inl (cy 1, 48, .inl u.2.2.2.2.2.1)), ((ux 44), .inl (cy 1, 30, .inl u.2.2.2.2.2.2.1)), ((ux 45), .inl (cy 1, 30, .inl u.2.2.2.2.2.2.2.1)), ((ux 46), .inl (cy 1, 30, .inl u.2.2.2.2.2.2.2.2.1)), ((ux 47), .inl (cy 1, 30, .inl u.2.2.2.2.2.2.2.2.2.1)), ((ux 48), .inr (0, [.int 0, .int 0, .int 0, .int 0, .int 0, .int 0, .int 0, .int 0, .ref (ux 49), .ref (ux 50), .ref (ux 51), .ref (ux 52), .ref (ux 53), .ref (ux 54), .ref (ux 55), .ref (ux 56), .ref (ux 57), .ref (ux 58)])), ((ux 49), .inl (cy 1, 9, .inl u.2.2.2.2.2.2.2.2.2.2.1)), ((ux 50), .inl (cy 1, 9, .inl u.2.2.2.2.2.2.2.2.2.2.2.1)), ((ux 51), .inl (cy 1, 3, .inl u.2.2.2.2.2.2.2.2.2.2.2.2.1)), ((ux 52), .inl (cy 1, 210, .inl u.2.2.2.2.2.2.2.2.2.2.2.2.2.1)), ((ux 53), .inl (cy 1, 6, .inl u.2.2.2.2.2.2.2.2.2.2.2.2.2.2.1)), ((ux 54), .inl (cy 1, 48, .inl u.2.2.2.2.2.2.2.2.2.2.2.2.2.2.2.1)), ((ux 55), .inl (cy 1, 30, .inl u.2.2.2.2.2.2.2.2.2.2.2.2.2.2.2.2.1)), ((ux 56), .inl (cy 1, 30, .inl u.2.2.2.2.2.2.2.2.2.2.2.2.2.2.2.2.2.1)), ((ux 57), .inl (cy 1, 30, .inl u.2.2.2.2.2.2.2.2.2.2.2.2.2.2.2.2.2.2.1)), ((ux 58), .inl (cy 1, 30, .inl u.2.2.2.2.2.2.2.2.2.2.2.2.2.2.2.2.2.2.2.1)), ((ux 59), .inr (0, [.int 0, .int 0, .int 0, .int 0, .int 0, .int 0, .int 0, .int 0, .ref (ux 60), .ref (ux 61), .ref (ux 62), .ref (ux 63), .ref (ux 64), .ref (ux 65), .ref (ux 66), .ref (ux 67), .ref (ux 68), .ref (ux 69)])), ((ux 60), .inl (cy 1, 9, .inl u.2.2.2.2.2.2.2.2.2.2.2.2.2.2.2.2.2.2.2.2.1)), ((ux 61), .inl (cy 1, 9, .inl u.2.2.2.2.2.2.2.2.2.2.2.2.2.2.2.2.2.2.2.2.2.1)), ((ux 62), .inl (cy 1, 3, .inl u.2.2.2.2.2.2.2.2.2.2.2.2.2.2.2.2.2.2.2.2.2.2.1)), ((ux 63), .inl (cy 1, 210, .inl u.2.2.2.2.2.2.2.2.2.2.2.2.2.2.2.2.2.2.2.2.2.2.2.1)), ((ux 64), .inl (cy 1, 6, .inl u.2.2.2.2.2.2.2.2.2.2.2.2.2.2.2.2.2.2.2.2.2.2.2.2.1)), ((ux 65), .inl (cy 1, 48, .inl u.2.2.2.2.2.2.2.2.2.2.2.2.2.2.2.2.2.2.2.2.2.2.2.2.2.1)), ((ux 66), .inl (cy 1, 30, .inl u.2.2.2.2.2.2.2.2.2.2.2.2.2.2.2.2.2.2.2.2.2.2.2.2.2.2.1)), ((ux 67), .inl (cy 1, 30, .inl u.2.2.2.2.2.2.2.2.2.2.2.2.2.2.2.2.2.2.2.2.2.2.2.2.2.2.2.1)), ((ux 68), .inl (cy 1, 30, .inl u.2.2.2.2.2.2.2.2.2.2.2.2.2.2.2.2.2.2.2.2.2.2.2.2.2.2.2.2.1)), ((ux 69), .inl (cy 1, 30, .inl u.2.2.2.2.2.2.2.2.2.2.2.2.2.2.2.2.2.2.2.2.2.2.2.2.2.2.2.2.2.1)), ((ux 70), .inl (cy 3, 3, .inl u.2.2.2.2.2.2.2.2.2.2.2.2.2.2.2.2.2.2.2.2.2.2.2.2.2.2.2.2.2.2)), (qm, .inr (12, [.int 0, .ref (um 0), .ref (um 1), .ref (um 2), .ref (um 3), .ref (um 4), .int 0, .int 0, .int 0, .int 0, .int 0, .long 0, .int 0, .int 0, .int 0, .int (-1), .ref (um 5), .ref (um 6), .ref (um 7), .ref (um 8), .ref (um 9), .ref (um 10), .ref (um 11), .ref (um 12), .ref (um 13), .ref (um 14), .ref (um 15), .ref (um 16), .ref (um 17), .int 0, .int 0, .int 0, .int 0, .int 0, .int 0, .ref (um 18), .int 0, .ref (um 19)])), ((um 5), .inl (cy 1, 5, .inl (fun _ => 0))), ((um 6), .inl (cy 1, 30, .inl (fun _ => 0))), ((um 7), .inl (cy 1, 90, .inl (fun _ => 0))), ((um 8), .inl (cy 1, 15, .inl (fun _ => 0))), ((um 9), .inl (cy 1, 1050, .inl (fun _ => 0))), ((um 10), .inl (cy 1, 30, .inl (fun _ => 0))), ((um 11), .inl (cy 1, 240, .inl (fun _ => 0))), ((um 12), .inl (cy 1, 450, .inl (fun _ => 0))), ((um 13), .inl (cy 3, 3, .inl (fun _ => 0)))]) [0, 1, 2, 3, 4, 5, 6, 7, 8, 9, 10, 11, 12, 13, 14, 15, 16, 17, 18, 19, 20, 21, 22, 23, 24, 25, 26, 27, 28, 29, 30, 31, 32, 33, 34, 35, 36, 37, 38, 39, 40, 41, 42, 43, 44, 45, 46, 47] [48, 49, 50, 51, 52, 53, 54, 55, 56, 57] (n := 58) (fun _ => rfl) (by decide +kernel) (by decide +kernel) rfl (fun _ => rfl) (wr := [(qm, .inr (12, [.int 0, .ref (um 0), .ref (um 1), .ref (um 2), .ref (um 3), .ref (um 4), .int 0, .int 0, .int 0, .int 0, .int 0, .long 0, .int 0, .int 0, .int 0, .int (-1), .ref (um 5), .ref (um 6), .ref (um 7), .ref (um 8), .ref (um 9), .ref (um 10), .ref (um 11), .ref (um 12), .ref (um 13), .ref (um 14), .ref (um 15), .ref (um 16), .ref (um 17), .int 0, .int 0, .int 0, .int 0, .int 0, .int 0, .ref (um 18), .int 0, .ref (um 19)])), ((um 5), .inl (cy 1, 5, .inl (fun _ => 0))), ((um 6), .inl (cy 1, 30, .inl (fun _ => 0))), ((um 7), .inl (cy 1, 90, .inl (fun _ => 0))), ((um 8), .inl (cy 1, 15, .inl (fun _ => 0))), ((um 9), .inl (cy 1, 1050, .inl (fun _ => 0))), ((um 10), .inl (cy 1, 30, .inl (fun _ => 0))), ((um 11), .inl (cy 1, 240, .inl (fun _ => 0))), ((um 12), .inl (cy 1, 450, .inl (fun _ => 0))), ((um 13), .inl (cy 3, 3, .inl (fun _ => 0)))]) rfl (fun _ => rfl) (fun _ => rfl) ?_
  clear hP hD hS
  clear H locs
  intro v34 u
  obtain ⟨n3, n4, n5, n6, n7, n8, n9, n10, n11, n12, n13, n14, n15, n16, n17, n18, n19, n20, n21, n22, n23, n24, n25, n26, n27, n28, n29, n30, n31, n32, n33⟩ := u
  intro H locs hw (hP : va_P G vwCl [(qx, .inr (11, [.ref (ux 0), .ref (ux 2), .ref (ux 14), .ref (ux 36), .ref (ux 70), .ref (ux 71), .ref (ux 80), .ref (ux 82), .ref (ux 84), .ref (ux 89), .ref (ux 92)])), ((ux 14), .inr (10, [.ref (ux 15), .ref (ux 26)])), ((ux 15), .inr (0, [.int 0, .int 0, .int 0, .int 0, .int 0, .int 0, .int 0, .int 0, .ref (ux 16), .ref (ux 17), .ref (ux 18), .ref (ux 19), .ref (ux 20), .ref (ux 21), .ref (ux 22), .ref (ux 23), .ref (ux 24), .ref (ux 25)])), ((ux 16), .inl (cy 1, 9, .inl (fun _ => 0))), ((ux 17), .inl (cy 1, 9, .inl (fun _ => 0))), ((ux 18), .inl (cy 1, 3, .inl (fun _ => 0))), ((ux 19), .inl (cy 1, 210, .inl (fun _ => 0))), ((ux 20), .inl (cy 1, 6, .inl (fun _ => 0))), ((ux 21), .inl (cy 1, 48, .inl (fun _ => 0))), ((ux 22), .inl (cy 1, 30, .inl (fun _ => 0))), ((ux 23), .inl (cy 1, 30, .inl (fun _ => 0))), ((ux 24), .inl (cy 1, 30, .inl (fun _ => 0))), ((ux 25), .inl (cy 1, 30, .inl (fun _ => 0))), ((ux 36), .inl (cy 4, 3, .inr (.inr (.inr (.inr (va_up (va_up (va_up (fun _ => none) 0 (some (ux 37))) 1 (some (ux 48))) 2 (some (ux 59)))))))), ((ux 37), .inr (0, [.int 0, .int 0, .int 0, .int 0, .int 0, .int 0, .int 0, .int 0, .ref (ux 38), .ref (ux 39), .ref (ux 40), .ref (ux 41), .ref (ux 42), .ref (ux 43), .ref (ux 44), .ref (ux 45), .ref (ux 46), .ref (ux 47)])), ((ux 38), .inl (cy 1, 9, .inl n3)), ((ux 39), .inl (cy 1, 9, .inl n4)), ((ux 40), .inl (cy 1, 3, .inl n5)), ((ux 41), .inl (cy 1, 210, .inl n6)), ((ux 42), .inl (cy 1, 6, .inl n7)), ((ux 43), .inl (cy 1, 48, .inl n8)), ((ux 44), .inl (cy 1, 30, .inl n9)), ((ux 45), .inl (cy 1, 30, .inl n10)), ((ux 46), .inl (cy 1, 30, .inl n11)), ((ux 47), .inl (cy 1, 30, .inl n12)), ((ux 48), .inr (0, [.int 0, .int 0, .int 0, .int 0, .int 0, .int 0, .int 0, .int 0, .ref (ux 49), .ref (ux 50), .ref (ux 51), .ref (ux 52), .ref (ux 53), .ref (ux 54), .ref (ux 55), .ref (ux 56), .ref (ux 57), .ref (ux 58)])), ((ux 49), .inl (cy 1, 9, .inl n13)), ((ux 50), .inl (cy 1, 9, .inl n14)), ((ux 51), .inl (cy 1, 3, .inl n15)), ((ux 52), .inl (cy 1, 210, .inl n16)), ((ux 53), .inl (cy 1, 6, .inl n17)), ((ux 54), .inl (cy 1, 48, .inl n18)), ((ux 55), .inl (cy 1, 30, .inl n19)), ((ux 56), .inl (cy 1, 30, .inl n20)), ((ux 57), .inl (cy 1, 30, .inl n21)), ((ux 58), .inl (cy 1, 30, .inl n22)), ((ux 59), .inr (0, [.int 0, .int 0, .int 0, .int 0, .int 0, .int 0, .int 0, .int 0, .ref (ux 60), .ref (ux 61), .ref (ux 62), .ref (ux 63), .ref (ux 64), .ref (ux 65), .ref (ux 66), .ref (ux 67), .ref (ux 68), .ref (ux 69)])), ((ux 60), .inl (cy 1, 9, .inl n23)), ((ux 61), .inl (cy 1, 9, .inl n24)), ((ux 62), .inl (cy 1, 3, .inl n25)), ((ux 63), .inl (cy 1, 210, .inl n26)), ((ux 64), .inl (cy 1, 6, .inl n27)), ((ux 65), .inl (cy 1, 48, .inl n28)), ((ux 66), .inl (cy 1, 30, .inl n29)), ((ux 67), .inl (cy 1, 30, .inl n30)), ((ux 68), .inl (cy 1, 30, .inl n31)), ((ux 69), .inl (cy 1, 30, .inl n32)), ((ux 70), .inl (cy 3, 3, .inl n33)), (qm, .inr (12, [.int 0, .ref (um 0), .ref (um 1), .ref (um 2), .ref (um 3), .ref (um 4), .int 0, .int 0, .int 0, .int 0, .int 0, .long 0, .int 0, .int 0, .int 0, .int (-1), .ref (um 5), .ref (um 6), .ref (um 7), .ref (um 8), .ref (um 9), .ref (um 10), .ref (um 11), .ref (um 12), .ref (um 13), .ref (um 14), .ref (um 15), .ref (um 16), .ref (um 17), .int 0, .int 0, .int 0, .int 0, .int 0, .int 0, .ref (um 18), .int 0, .ref (um 19)])), ((um 5), .inl (cy 1, 5, .inl (fun _ => 0))), ((um 6), .inl (cy 1, 30, .inl (fun _ => 0))), ((um 7), .inl (cy 1, 90, .inl (fun _ => 0))), ((um 8), .inl (cy 1, 15, .inl (fun _ => 0))), ((um 9), .inl (cy 1, 1050, .inl (fun _ => 0))), ((um 10), .inl (cy 1, 30, .inl (fun _ => 0))), ((um 11), .inl (cy 1, 240, .inl (fun _ => 0))), ((um 12), .inl (cy 1, 450, .inl (fun _ => 0))), ((um 13), .inl (cy 3, 3, .inl (fun _ => 0)))] H) (hD : va_D A [(qx, .inr (11, [.ref (ux 0), .ref (ux 2), .ref (ux 14), .ref (ux 36), .ref (ux 70), .ref (ux 71), .ref (ux 80), .ref (ux 82), .ref (ux 84), .ref (ux 89), .ref (ux 92)])), ((ux 14), .inr (10, [.ref (ux 15), .ref (ux 26)])), ((ux 15), .inr (0, [.int 0, .int 0, .int 0, .int 0, .int 0, .int 0, .int 0, .int 0, .ref (ux 16), .ref (ux 17), .ref (ux 18), .ref (ux 19), .ref (ux 20), .ref (ux 21), .ref (ux 22), .ref (ux 23), .ref (ux 24), .ref (ux 25)])), ((ux 16), .inl (cy 1, 9, .inl (fun _ => 0))), ((ux 17), .inl (cy 1, 9, .inl (fun _ => 0))), ((ux 18), .inl (cy 1, 3, .inl (fun _ => 0))), ((ux 19), .inl (cy 1, 210, .inl (fun _ => 0))), ((ux 20), .inl (cy 1, 6, .inl (fun _ => 0))), ((ux 21), .inl (cy 1, 48, .inl (fun _ => 0))), ((ux 22), .inl (cy 1, 30, .inl (fun _ => 0))), ((ux 23), .inl (cy 1, 30, .inl (fun _ => 0))), ((ux 24), .inl (cy 1, 30, .inl (fun _ => 0))), ((ux 25), .inl (cy 1, 30, .inl (fun _ => 0))), ((ux 36), .inl (cy 4, 3, .inr (.inr (.inr (.inr (va_up (va_up (va_up (fun _ => none) 0 (some (ux 37))) 1 (some (ux 48))) 2 (some (ux 59)))))))), ((ux 37), .inr (0, [.int 0, .int 0, .int 0, .int 0, .int 0, .int 0, .int 0, .int 0, .ref (ux 38), .ref (ux 39), .ref (ux 40), .ref (ux 41), .ref (ux 42), .ref (ux 43), .ref (ux 44), .ref (ux 45), .ref (ux 46), .ref (ux 47)])), ((ux 38), .inl (cy 1, 9, .inl n3)), ((ux 39), .inl (cy 1, 9, .inl n4)), ((ux 40), .inl (cy 1, 3, .inl n5)), ((ux 41), .inl (cy 1, 210, .inl n6)), ((ux 42), .inl (cy 1, 6, .inl n7)), ((ux 43), .inl (cy 1, 48, .inl n8)), ((ux 44), .inl (cy 1, 30, .inl n9)), ((ux 45), .inl (cy 1, 30, .inl n10)), ((ux 46), .inl (cy 1, 30, .inl n11)), ((ux 47), .inl (cy 1, 30, .inl n12)), ((ux 48), .inr (0, [.int 0, .int 0, .int 0, .int 0, .int 0, .int 0, .int 0, .int 0, .ref (ux 49), .ref (ux 50), .ref (ux 51), .ref (ux 52), .ref (ux 53), .ref (ux 54), .ref (ux 55), .ref (ux 56), .ref (ux 57), .ref (ux 58)])), ((ux 49), .inl (cy 1, 9, .inl n13)), ((ux 50), .inl (cy 1, 9, .inl n14)), ((ux 51), .inl (cy 1, 3, .inl n15)), ((ux 52), .inl (cy 1, 210, .inl n16)), ((ux 53), .inl (cy 1, 6, .inl n17)), ((ux 54), .inl (cy 1, 48, .inl n18)), ((ux 55), .inl (cy 1, 30, .inl n19)), ((ux 56), .inl (cy 1, 30, .inl n20)), ((ux 57), .inl (cy 1, 30, .inl n21)), ((ux 58), .inl (cy 1, 30, .inl n22)), ((ux 59), .inr (0, [.int 0, .int 0, .int 0, .int 0, .int 0, .int 0, .int 0, .int 0, .ref (ux 60), .ref (ux 61), .ref (ux 62), .ref (ux 63), .ref (ux 64), .ref (ux 65), .ref (ux 66), .ref (ux 67), .ref (ux 68), .ref (ux 69)])), ((ux 60), .inl (cy 1, 9, .inl n23)), ((ux 61), .inl (cy 1, 9, .inl n24)), ((ux 62), .inl (cy 1, 3, .inl n25)), ((ux 63), .inl (cy 1, 210, .inl n26)), ((ux 64), .inl (cy 1, 6, .inl n27)), ((ux 65), .inl (cy 1, 48, .inl n28)), ((ux 66), .inl (cy 1, 30, .inl n29)), ((ux 67), .inl (cy 1, 30, .inl n30)), ((ux 68), .inl (cy 1, 30, .inl n31)), ((ux 69), .inl (cy 1, 30, .inl n32)), ((ux 70), .inl (cy 3, 3, .inl n33)), (qm, .inr (12, [.int 0, .ref (um 0), .ref (um 1), .ref (um 2), .ref (um 3), .ref (um 4), .int 0, .int 0, .int 0, .int 0, .int 0, .long 0, .int 0, .int 0, .int 0, .int (-1), .ref (um 5), .ref (um 6), .ref (um 7), .ref (um 8), .ref (um 9), .ref (um 10), .ref (um 11), .ref (um 12), .ref (um 13), .ref (um 14), .ref (um 15), .ref (um 16), .ref (um 17), .int 0, .int 0, .int 0, .int 0, .int 0, .int 0, .ref (um 18), .int 0, .ref (um 19)])), ((um 5), .inl (cy 1, 5, .inl (fun _ => 0))), ((um 6), .inl (cy 1, 30, .inl (fun _ => 0))), ((um 7), .inl (cy 1, 90, .inl (fun _ => 0))), ((um 8), .inl (cy 1, 15, .inl (fun _ => 0))), ((um 9), .inl (cy 1, 1050, .inl (fun _ => 0))), ((um 10), .inl (cy 1, 30, .inl (fun _ => 0))), ((um 11), .inl (cy 1, 240, .inl (fun _ => 0))), ((um 12), .inl (cy 1, 450, .inl (fun _ => 0))), ((um 13), .inl (cy 3, 3, .inl (fun _ => 0)))]) hS
  obtain ⟨w35, w36, w37, w38, w39, w40, w41, w42, w43, w44, w45, w46, w47, w48, w49, w50, w51, w52, w53, w54, w55, w56, w57, w58, w59, w60, w61, w62, w63, w64, w65, hw⟩ := hw
  rcases hw with ⟨rfl, w66⟩ | ⟨rfl, w67⟩ | ⟨rfl, w68⟩
  · refine lv_aload_n hx hb dL_law_2937 rfl (lv_at hl 1 rfl) ?_
    refine lv_aload_n hx hb dL_law_2938 rfl (lv_at hl 3 rfl) ?_
    refine lv_iload_n hx hb dL_law_2939 rfl (lv_at hl 0 rfl) ?_
    refine lv_iconst (v := 1) hx hb dL_law_2940 (by decide) ?_
    refine lv_iadd hx hb dL_law_2941 ?_
    refine lv_topi (fun v69 ev69 => ?_)
    obtain rfl : v69 = 1 := ev69.trans (by decide)
    refine va_sld hx hb hX hbl hbA hS (mm_in mm_k1 (by decide)) dL_law_2942 ?_
    refine lv_topi (fun v70 ev70 => ?_)
    obtain rfl : p1 = v70 := ep1.trans ev70.symm
    refine mm_fini (va_runV (As := [.int p1]) (rest := [.int (-2)]) ⟨hx, hb, hml, hown, hts⟩ (K300_X12_image l G cy H.size qm p1 (um 0) (um 1) (um 2) (um 3) (um 4) 0 0 0 0 0 0 0 0 0 (-1) (um 5) (um 6) (um 7) (um 8) (um 9) (um 10) (um 11) (um 12) (um 13) (um 14) (um 15) (um 16) (um 17) 0 0 0 0 0 0 (um 18) 0 (um 19) ) (cwV 1 hts (mm_gV mm_w1660 mm_w1661 mm_w1662 mm_w5 mm_w1663) rfl rfl rfl hd_X12_image ⟨by rw [hRf]; exact Nat.le_of_ble_eq_true rfl, by rw [hRl]; exact Nat.le_of_ble_eq_true rfl⟩) (mm_preV hK hP hD [48, 49, 50, 51, 52, 53, 54, 55, 56, 57] rfl rfl 48 rfl rfl rfl) rfl rfl hl.1 rfl (lv_room (Nat.le_of_ble_eq_true rfl)) dL_law_2943 ⟨by rw [hRc]; exact Nat.le_of_ble_eq_true rfl, by rw [hRs]; exact Nat.le_of_ble_eq_true rfl⟩) hP hD hS hA (fun u : (Nat → Int32) × (Nat → Int32) × (Nat → Int32) × (Nat → Int32) × (Nat → Int32) × (Nat → Int32) × (Nat → Int32) × (Nat → Int32) × (Nat → Int32) => [(qx, .inr (11, [.ref (ux 0), .ref (ux 2), .ref (ux 14), .ref (ux 36), .ref (ux 70), .ref (ux 71), .ref (ux 80), .ref (ux 82), .ref (ux 84), .ref (ux 89), .ref (ux 92)])), ((ux 14), .inr (10, [.ref (ux 15), .ref (ux 26)])), ((ux 15), .inr (0, [.int 0, .int 0, .int 0, .int 0, .int 0, .int 0, .int 0, .int 0, .ref (ux 16), .ref (ux 17), .ref (ux 18), .ref (ux 19), .ref (ux 20), .ref (ux 21), .ref (ux 22), .ref (ux 23), .ref (ux 24), .ref (ux 25)])), ((ux 16), .inl (cy 1, 9, .inl (fun _ => 0))), ((ux 17), .inl (cy 1, 9, .inl (fun _ => 0))), ((ux 18), .inl (cy 1, 3, .inl (fun _ => 0))), ((ux 19), .inl (cy 1, 210, .inl (fun _ => 0))), ((ux 20), .inl (cy 1, 6, .inl (fun _ => 0))), ((ux 21), .inl (cy 1, 48, .inl (fun _ => 0))), ((ux 22), .inl (cy 1, 30, .inl (fun _ => 0))), ((ux 23), .inl (cy 1, 30, .inl (fun _ => 0))), ((ux 24), .inl (cy 1, 30, .inl (fun _ => 0))), ((ux 25), .inl (cy 1, 30, .inl (fun _ => 0))), ((ux 36), .inl (cy 4, 3, .inr (.inr (.inr (.inr (va_up (va_up (va_up (fun _ => none) 0 (some (ux 37))) 1 (some (ux 48))) 2 (some (ux 59)))))))), ((ux 37), .inr (0, [.int 0, .int 0, .int 0, .int 0, .int 0, .int 0, .int 0, .int 0, .ref (ux 38), .ref (ux 39), .ref (ux 40), .ref (ux 41), .ref (ux 42), .ref (ux 43), .ref (ux 44), .ref (ux 45), .ref (ux 46), .ref (ux 47)])), ((ux 38), .inl (cy 1, 9, .inl n3)), ((ux 39), .inl (cy 1, 9, .inl n4)), ((ux 40), .inl (cy 1, 3, .inl n5)), ((ux 41), .inl (cy 1, 210, .inl n6)), ((ux 42), .inl (cy 1, 6, .inl n7)), ((ux 43), .inl (cy 1, 48, .inl n8)), ((ux 44), .inl (cy 1, 30, .inl n9)), ((ux 45), .inl (cy 1, 30, .inl n10)), ((ux 46), .inl (cy 1, 30, .inl n11)), ((ux 47), .inl (cy 1, 30, .inl n12)), ((ux 48), .inr (0, [.int 0, .int 0, .int 0, .int 0, .int 0, .int 0, .int 0, .int 0, .ref (ux 49), .ref (ux 50), .ref (ux 51), .ref (ux 52), .ref (ux 53), .ref (ux 54), .ref (ux 55), .ref (ux 56), .ref (ux 57), .ref (ux 58)])), ((ux 49), .inl (cy 1, 9, .inl n13)), ((ux 50), .inl (cy 1, 9, .inl n14)), ((ux 51), .inl (cy 1, 3, .inl n15)), ((ux 52), .inl (cy 1, 210, .inl n16)), ((ux 53), .inl (cy 1, 6, .inl n17)), ((ux 54), .inl (cy 1, 48, .inl n18)), ((ux 55), .inl (cy 1, 30, .inl n19)), ((ux 56), .inl (cy 1, 30, .inl n20)), ((ux 57), .inl (cy 1, 30, .inl n21)), ((ux 58), .inl (cy 1, 30, .inl n22)), ((ux 59), .inr (0, [.int 0, .int 0, .int 0, .int 0, .int 0, .int 0, .int 0, .int 0, .ref (ux 60), .ref (ux 61), .ref (ux 62), .ref (ux 63), .ref (ux 64), .ref (ux 65), .ref (ux 66), .ref (ux 67), .ref (ux 68), .ref (ux 69)])), ((ux 60), .inl (cy 1, 9, .inl n23)), ((ux 61), .inl (cy 1, 9, .inl n24)), ((ux 62), .inl (cy 1, 3, .inl n25)), ((ux 63), .inl (cy 1, 210, .inl n26)), ((ux 64), .inl (cy 1, 6, .inl n27)), ((ux 65), .inl (cy 1, 48, .inl n28)), ((ux 66), .inl (cy 1, 30, .inl n29)), ((ux 67), .inl (cy 1, 30, .inl n30)), ((ux 68), .inl (cy 1, 30, .inl n31)), ((ux 69), .inl (cy 1, 30, .inl n32)), ((ux 70), .inl (cy 3, 3, .inl n33)), (qm, .inr (12, [.int 0, .ref (um 0), .ref (um 1), .ref (um 2), .ref (um 3), .ref (um 4), .int 0, .int 0, .int 0, .int 0, .int 0, .long 0, .int 0, .int 0, .int 0, .int (-1), .ref (um 5), .ref (um 6), .ref (um 7), .ref (um 8), .ref (um 9), .ref (um 10), .ref (um 11), .ref (um 12), .ref (um 13), .ref (um 14), .ref (um 15), .ref (um 16), .ref (um 17), .int 0, .int 0, .int 0, .int 0, .int 0, .int 0, .ref (um 18), .int 0, .ref (um 19)])), ((um 5), .inl (cy 1, 5, .inl u.1)), ((um 6), .inl (cy 1, 30, .inl u.2.1)), ((um 7), .inl (cy 1, 90, .inl u.2.2.1)), ((um 8), .inl (cy 1, 15, .inl u.2.2.2.1)), ((um 9), .inl (cy 1, 1050, .inl u.2.2.2.2.1)), ((um 10), .inl (cy 1, 30, .inl u.2.2.2.2.2.1)), ((um 11), .inl (cy 1, 240, .inl u.2.2.2.2.2.2.1)), ((um 12), .inl (cy 1, 450, .inl u.2.2.2.2.2.2.2.1)), ((um 13), .inl (cy 3, 3, .inl u.2.2.2.2.2.2.2.2))]) [48, 49, 50, 51, 52, 53, 54, 55, 56, 57] [0, 1, 2, 3, 4, 5, 6, 7, 8, 9, 10, 11, 12, 13, 14, 15, 16, 17, 18, 19, 20, 21, 22, 23, 24, 25, 26, 27, 28, 29, 30, 31, 32, 33, 34, 35, 36, 37, 38, 39, 40, 41, 42, 43, 44, 45, 46, 47] (n := 58) (fun _ => rfl) (by decide +kernel) (by decide +kernel) rfl (fun _ => rfl) (wr := [(qx, .inr (11, [.ref (ux 0), .ref (ux 2), .ref (ux 14), .ref (ux 36), .ref (ux 70), .ref (ux 71), .ref (ux 80), .ref (ux 82), .ref (ux 84), .ref (ux 89), .ref (ux 92)])), ((ux 14), .inr (10, [.ref (ux 15), .ref (ux 26)])), ((ux 15), .inr (0, [.int 0, .int 0, .int 0, .int 0, .int 0, .int 0, .int 0, .int 0, .ref (ux 16), .ref (ux 17), .ref (ux 18), .ref (ux 19), .ref (ux 20), .ref (ux 21), .ref (ux 22), .ref (ux 23), .ref (ux 24), .ref (ux 25)])), ((ux 16), .inl (cy 1, 9, .inl (fun _ => 0))), ((ux 17), .inl (cy 1, 9, .inl (fun _ => 0))), ((ux 18), .inl (cy 1, 3, .inl (fun _ => 0))), ((ux 19), .inl (cy 1, 210, .inl (fun _ => 0))), ((ux 20), .inl (cy 1, 6, .inl (fun _ => 0))), ((ux 21), .inl (cy 1, 48, .inl (fun _ => 0))), ((ux 22), .inl (cy 1, 30, .inl (fun _ => 0))), ((ux 23), .inl (cy 1, 30, .inl (fun _ => 0))), ((ux 24), .inl (cy 1, 30, .inl (fun _ => 0))), ((ux 25), .inl (cy 1, 30, .inl (fun _ => 0))), ((ux 36), .inl (cy 4, 3, .inr (.inr (.inr (.inr (va_up (va_up (va_up (fun _ => none) 0 (some (ux 37))) 1 (some (ux 48))) 2 (some (ux 59)))))))), ((ux 37), .inr (0, [.int 0, .int 0, .int 0, .int 0, .int 0, .int 0, .int 0, .int 0, .ref (ux 38), .ref (ux 39), .ref (ux 40), .ref (ux 41), .ref (ux 42), .ref (ux 43), .ref (ux 44), .ref (ux 45), .ref (ux 46), .ref (ux 47)])), ((ux 38), .inl (cy 1, 9, .inl n3)), ((ux 39), .inl (cy 1, 9, .inl n4)), ((ux 40), .inl (cy 1, 3, .inl n5)), ((ux 41), .inl (cy 1, 210, .inl n6)), ((ux 42), .inl (cy 1, 6, .inl n7)), ((ux 43), .inl (cy 1, 48, .inl n8)), ((ux 44), .inl (cy 1, 30, .inl n9)), ((ux 45), .inl (cy 1, 30, .inl n10)), ((ux 46), .inl (cy 1, 30, .inl n11)), ((ux 47), .inl (cy 1, 30, .inl n12)), ((ux 48), .inr (0, [.int 0, .int 0, .int 0, .int 0, .int 0, .int 0, .int 0, .int 0, .ref (ux 49), .ref (ux 50), .ref (ux 51), .ref (ux 52), .ref (ux 53), .ref (ux 54), .ref (ux 55), .ref (ux 56), .ref (ux 57), .ref (ux 58)])), ((ux 49), .inl (cy 1, 9, .inl n13)), ((ux 50), .inl (cy 1, 9, .inl n14)), ((ux 51), .inl (cy 1, 3, .inl n15)), ((ux 52), .inl (cy 1, 210, .inl n16)), ((ux 53), .inl (cy 1, 6, .inl n17)), ((ux 54), .inl (cy 1, 48, .inl n18)), ((ux 55), .inl (cy 1, 30, .inl n19)), ((ux 56), .inl (cy 1, 30, .inl n20)), ((ux 57), .inl (cy 1, 30, .inl n21)), ((ux 58), .inl (cy 1, 30, .inl n22)), ((ux 59), .inr (0, [.int 0, .int 0, .int 0, .int 0, .int 0, .int 0, .int 0, .int 0, .ref (ux 60), .ref (ux 61), .ref (ux 62), .ref (ux 63), .ref (ux 64), .ref (ux 65), .ref (ux 66), .ref (ux 67), .ref (ux 68), .ref (ux 69)])), ((ux 60), .inl (cy 1, 9, .inl n23)), ((ux 61), .inl (cy 1, 9, .inl n24)), ((ux 62), .inl (cy 1, 3, .inl n25)), ((ux 63), .inl (cy 1, 210, .inl n26)), ((ux 64), .inl (cy 1, 6, .inl n27)), ((ux 65), .inl (cy 1, 48, .inl n28)), ((ux 66), .inl (cy 1, 30, .inl n29)), ((ux 67), .inl (cy 1, 30, .inl n30)), ((ux 68), .inl (cy 1, 30, .inl n31)), ((ux 69), .inl (cy 1, 30, .inl n32)), ((ux 70), .inl (cy 3, 3, .inl n33))]) rfl (fun _ => rfl) (fun _ => rfl) ?_
    clear hP hD hS
    clear H locs
    intro v80 u
    obtain ⟨n71, n72, n73, n74, n75, n76, n77, n78, n79⟩ := u
    intro H locs hw (hP : va_P G vwCl [(qx, .inr (11, [.ref (ux 0), .ref (ux 2), .ref (ux 14), .ref (ux 36), .ref (ux 70), .ref (ux 71), .ref (ux 80), .ref (ux 82), .ref (ux 84), .ref (ux 89), .ref (ux 92)])), ((ux 14), .inr (10, [.ref (ux 15), .ref (ux 26)])), ((ux 15), .inr (0, [.int 0, .int 0, .int 0, .int 0, .int 0, .int 0, .int 0, .int 0, .ref (ux 16), .ref (ux 17), .ref (ux 18), .ref (ux 19), .ref (ux 20), .ref (ux 21), .ref (ux 22), .ref (ux 23), .ref (ux 24), .ref (ux 25)])), ((ux 16), .inl (cy 1, 9, .inl (fun _ => 0))), ((ux 17), .inl (cy 1, 9, .inl (fun _ => 0))), ((ux 18), .inl (cy 1, 3, .inl (fun _ => 0))), ((ux 19), .inl (cy 1, 210, .inl (fun _ => 0))), ((ux 20), .inl (cy 1, 6, .inl (fun _ => 0))), ((ux 21), .inl (cy 1, 48, .inl (fun _ => 0))), ((ux 22), .inl (cy 1, 30, .inl (fun _ => 0))), ((ux 23), .inl (cy 1, 30, .inl (fun _ => 0))), ((ux 24), .inl (cy 1, 30, .inl (fun _ => 0))), ((ux 25), .inl (cy 1, 30, .inl (fun _ => 0))), ((ux 36), .inl (cy 4, 3, .inr (.inr (.inr (.inr (va_up (va_up (va_up (fun _ => none) 0 (some (ux 37))) 1 (some (ux 48))) 2 (some (ux 59)))))))), ((ux 37), .inr (0, [.int 0, .int 0, .int 0, .int 0, .int 0, .int 0, .int 0, .int 0, .ref (ux 38), .ref (ux 39), .ref (ux 40), .ref (ux 41), .ref (ux 42), .ref (ux 43), .ref (ux 44), .ref (ux 45), .ref (ux 46), .ref (ux 47)])), ((ux 38), .inl (cy 1, 9, .inl n3)), ((ux 39), .inl (cy 1, 9, .inl n4)), ((ux 40), .inl (cy 1, 3, .inl n5)), ((ux 41), .inl (cy 1, 210, .inl n6)), ((ux 42), .inl (cy 1, 6, .inl n7)), ((ux 43), .inl (cy 1, 48, .inl n8)), ((ux 44), .inl (cy 1, 30, .inl n9)), ((ux 45), .inl (cy 1, 30, .inl n10)), ((ux 46), .inl (cy 1, 30, .inl n11)), ((ux 47), .inl (cy 1, 30, .inl n12)), ((ux 48), .inr (0, [.int 0, .int 0, .int 0, .int 0, .int 0, .int 0, .int 0, .int 0, .ref (ux 49), .ref (ux 50), .ref (ux 51), .ref (ux 52), .ref (ux 53), .ref (ux 54), .ref (ux 55), .ref (ux 56), .ref (ux 57), .ref (ux 58)])), ((ux 49), .inl (cy 1, 9, .inl n13)), ((ux 50), .inl (cy 1, 9, .inl n14)), ((ux 51), .inl (cy 1, 3, .inl n15)), ((ux 52), .inl (cy 1, 210, .inl n16)), ((ux 53), .inl (cy 1, 6, .inl n17)), ((ux 54), .inl (cy 1, 48, .inl n18)), ((ux 55), .inl (cy 1, 30, .inl n19)), ((ux 56), .inl (cy 1, 30, .inl n20)), ((ux 57), .inl (cy 1, 30, .inl n21)), ((ux 58), .inl (cy 1, 30, .inl n22)), ((ux 59), .inr (0, [.int 0, .int 0, .int 0, .int 0, .int 0, .int 0, .int 0, .int 0, .ref (ux 60), .ref (ux 61), .ref (ux 62), .ref (ux 63), .ref (ux 64), .ref (ux 65), .ref (ux 66), .ref (ux 67), .ref (ux 68), .ref (ux 69)])), ((ux 60), .inl (cy 1, 9, .inl n23)), ((ux 61), .inl (cy 1, 9, .inl n24)), ((ux 62), .inl (cy 1, 3, .inl n25)), ((ux 63), .inl (cy 1, 210, .inl n26)), ((ux 64), .inl (cy 1, 6, .inl n27)), ((ux 65), .inl (cy 1, 48, .inl n28)), ((ux 66), .inl (cy 1, 30, .inl n29)), ((ux 67), .inl (cy 1, 30, .inl n30)), ((ux 68), .inl (cy 1, 30, .inl n31)), ((ux 69), .inl (cy 1, 30, .inl n32)), ((ux 70), .inl (cy 3, 3, .inl n33)), (qm, .inr (12, [.int 0, .ref (um 0), .ref (um 1), .ref (um 2), .ref (um 3), .ref (um 4), .int 0, .int 0, .int 0, .int 0, .int 0, .long 0, .int 0, .int 0, .int 0, .int (-1), .ref (um 5), .ref (um 6), .ref (um 7), .ref (um 8), .ref (um 9), .ref (um 10), .ref (um 11), .ref (um 12), .ref (um 13), .ref (um 14), .ref (um 15), .ref (um 16), .ref (um 17), .int 0, .int 0, .int 0, .int 0, .int 0, .int 0, .ref (um 18), .int 0, .ref (um 19)])), ((um 5), .inl (cy 1, 5, .inl n71)), ((um 6), .inl (cy 1, 30, .inl n72)), ((um 7), .inl (cy 1, 90, .inl n73)), ((um 8), .inl (cy 1, 15, .inl n74)), ((um 9), .inl (cy 1, 1050, .inl n75)), ((um 10), .inl (cy 1, 30, .inl n76)), ((um 11), .inl (cy 1, 240, .inl n77)), ((um 12), .inl (cy 1, 450, .inl n78)), ((um 13), .inl (cy 3, 3, .inl n79))] H) (hD : va_D A [(qx, .inr (11, [.ref (ux 0), .ref (ux 2), .ref (ux 14), .ref (ux 36), .ref (ux 70), .ref (ux 71), .ref (ux 80), .ref (ux 82), .ref (ux 84), .ref (ux 89), .ref (ux 92)])), ((ux 14), .inr (10, [.ref (ux 15), .ref (ux 26)])), ((ux 15), .inr (0, [.int 0, .int 0, .int 0, .int 0, .int 0, .int 0, .int 0, .int 0, .ref (ux 16), .ref (ux 17), .ref (ux 18), .ref (ux 19), .ref (ux 20), .ref (ux 21), .ref (ux 22), .ref (ux 23), .ref (ux 24), .ref (ux 25)])), ((ux 16), .inl (cy 1, 9, .inl (fun _ => 0))), ((ux 17), .inl (cy 1, 9, .inl (fun _ => 0))), ((ux 18), .inl (cy 1, 3, .inl (fun _ => 0))), ((ux 19), .inl (cy 1, 210, .inl (fun _ => 0))), ((ux 20), .inl (cy 1, 6, .inl (fun _ => 0))), ((ux 21), .inl (cy 1, 48, .inl (fun _ => 0))), ((ux 22), .inl (cy 1, 30, .inl (fun _ => 0))), ((ux 23), .inl (cy 1, 30, .inl (fun _ => 0))), ((ux 24), .inl (cy 1, 30, .inl (fun _ => 0))), ((ux 25), .inl (cy 1, 30, .inl (fun _ => 0))), ((ux 36), .inl (cy 4, 3, .inr (.inr (.inr (.inr (va_up (va_up (va_up (fun _ => none) 0 (some (ux 37))) 1 (some (ux 48))) 2 (some (ux 59)))))))), ((ux 37), .inr (0, [.int 0, .int 0, .int 0, .int 0, .int 0, .int 0, .int 0, .int 0, .ref (ux 38), .ref (ux 39), .ref (ux 40), .ref (ux 41), .ref (ux 42), .ref (ux 43), .ref (ux 44), .ref (ux 45), .ref (ux 46), .ref (ux 47)])), ((ux 38), .inl (cy 1, 9, .inl n3)), ((ux 39), .inl (cy 1, 9, .inl n4)), ((ux 40), .inl (cy 1, 3, .inl n5)), ((ux 41), .inl (cy 1, 210, .inl n6)), ((ux 42), .inl (cy 1, 6, .inl n7)), ((ux 43), .inl (cy 1, 48, .inl n8)), ((ux 44), .inl (cy 1, 30, .inl n9)), ((ux 45), .inl (cy 1, 30, .inl n10)), ((ux 46), .inl (cy 1, 30, .inl n11)), ((ux 47), .inl (cy 1, 30, .inl n12)), ((ux 48), .inr (0, [.int 0, .int 0, .int 0, .int 0, .int 0, .int 0, .int 0, .int 0, .ref (ux 49), .ref (ux 50), .ref (ux 51), .ref (ux 52), .ref (ux 53), .ref (ux 54), .ref (ux 55), .ref (ux 56), .ref (ux 57), .ref (ux 58)])), ((ux 49), .inl (cy 1, 9, .inl n13)), ((ux 50), .inl (cy 1, 9, .inl n14)), ((ux 51), .inl (cy 1, 3, .inl n15)), ((ux 52), .inl (cy 1, 210, .inl n16)), ((ux 53), .inl (cy 1, 6, .inl n17)), ((ux 54), .inl (cy 1, 48, .inl n18)), ((ux 55), .inl (cy 1, 30, .inl n19)), ((ux 56), .inl (cy 1, 30, .inl n20)), ((ux 57), .inl (cy 1, 30, .inl n21)), ((ux 58), .inl (cy 1, 30, .inl n22)), ((ux 59), .inr (0, [.int 0, .int 0, .int 0, .int 0, .int 0, .int 0, .int 0, .int 0, .ref (ux 60), .ref (ux 61), .ref (ux 62), .ref (ux 63), .ref (ux 64), .ref (ux 65), .ref (ux 66), .ref (ux 67), .ref (ux 68), .ref (ux 69)])), ((ux 60), .inl (cy 1, 9, .inl n23)), ((ux 61), .inl (cy 1, 9, .inl n24)), ((ux 62), .inl (cy 1, 3, .inl n25)), ((ux 63), .inl (cy 1, 210, .inl n26)), ((ux 64), .inl (cy 1, 6, .inl n27)), ((ux 65), .inl (cy 1, 48, .inl n28)), ((ux 66), .inl (cy 1, 30, .inl n29)), ((ux 67), .inl (cy 1, 30, .inl n30)), ((ux 68), .inl (cy 1, 30, .inl n31)), ((ux 69), .inl (cy 1, 30, .inl n32)), ((ux 70), .inl (cy 3, 3, .inl n33)), (qm, .inr (12, [.int 0, .ref (um 0), .ref (um 1), .ref (um 2), .ref (um 3), .ref (um 4), .int 0, .int 0, .int 0, .int 0, .int 0, .long 0, .int 0, .int 0, .int 0, .int (-1), .ref (um 5), .ref (um 6), .ref (um 7), .ref (um 8), .ref (um 9), .ref (um 10), .ref (um 11), .ref (um 12), .ref (um 13), .ref (um 14), .ref (um 15), .ref (um 16), .ref (um 17), .int 0, .int 0, .int 0, .int 0, .int 0, .int 0, .ref (um 18), .int 0, .ref (um 19)])), ((um 5), .inl (cy 1, 5, .inl n71)), ((um 6), .inl (cy 1, 30, .inl n72)), ((um 7), .inl (cy 1, 90, .inl n73)), ((um 8), .inl (cy 1, 15, .inl n74)), ((um 9), .inl (cy 1, 1050, .inl n75)), ((um 10), .inl (cy 1, 30, .inl n76)), ((um 11), .inl (cy 1, 240, .inl n77)), ((um 12), .inl (cy 1, 450, .inl n78)), ((um 13), .inl (cy 3, 3, .inl n79))]) hS
    obtain ⟨w81, w82, w83, w84, w85, w86, w87, w88, w89, hw⟩ := hw
    rcases hw with ⟨rfl, w90⟩ | ⟨rfl, w91⟩ | ⟨rfl, w92⟩
    · refine lv_icmp_eq (tgt := 3153) hx hb dL_law_2946 (by decide) (fun c93 => ?_) (fun c93 => ?_)
      · refine lv_iinc (v := 6) (lv' := [(3, .int 6), (2, .ref qm), (1, .ref qx), (0, .ref b)]) hx hb dL_law_3153 hl (k := 0) rfl (by decide) (by decide) rfl ?_
        clear hl
        clear ls
        intro ls hl
        refine lv_goto (tgt := 18) hx hb dL_law_3156 (by decide) ?_
        refine lv_iload_n hx hb dL_law_18 rfl (lv_at hl 0 rfl) ?_
        refine lv_aload_n hx hb dL_law_19 rfl (lv_at hl 3 rfl) ?_
        refine va_slen hx hb hX hbl hbA hS dL_law_20 ?_
        refine lv_topi (fun v94 ev94 => ?_)
        obtain rfl : v94 = 6 := ev94.trans (by decide)
        refine lv_bipush (v := 6) hx hb dL_law_21 (by decide) ?_
        refine lv_isub hx hb dL_law_23 ?_
        refine lv_topi (fun v95 ev95 => ?_)
        obtain rfl : v95 = 0 := ev95.trans (by decide)
        refine lv_icmp_gt (tgt := 3159) hx hb dL_law_24 (by decide) (fun c96 => ?_) (fun c96 => ?_)
        · refine lv_iconst (v := 1) hx hb dL_law_3159 (by decide) ?_
          refine va_forget (fun q hq => by have := hS.2.2 q hq; rw [hAe] at this; exact this) ?_
          refine W.widen (k := 600000) (n := 7302250) (Nat.le_of_ble_eq_true rfl) (Nat.le_of_ble_eq_true rfl) ?_
          exact lw_ret hx hb hr hlocks dL_law_3160
        · have q97 := mm_leL (mm_nlt c96) mm_k6 mm_k0
          exact mm_no q97 (by decide)
      · have q98 := mm_neL (lo := (-1)) (mm_ne c93) mm_km2 mm_km2 (by decide) (by decide)
        exact mm_no q98 (by decide)
    · exact mm_noX w91 w66 (by decide)
    · exact mm_noX w92 w66 (by decide)
  · refine lv_aload_n hx hb dL_law_2937 rfl (lv_at hl 1 rfl) ?_
    refine lv_aload_n hx hb dL_law_2938 rfl (lv_at hl 3 rfl) ?_
    refine lv_iload_n hx hb dL_law_2939 rfl (lv_at hl 0 rfl) ?_
    refine lv_iconst (v := 1) hx hb dL_law_2940 (by decide) ?_
    refine lv_iadd hx hb dL_law_2941 ?_
    refine lv_topi (fun v99 ev99 => ?_)
    obtain rfl : v99 = 1 := ev99.trans (by decide)
    refine va_sld hx hb hX hbl hbA hS (mm_in mm_k1 (by decide)) dL_law_2942 ?_
    refine lv_topi (fun v100 ev100 => ?_)
    obtain rfl : p1 = v100 := ep1.trans ev100.symm
    refine mm_fini (va_runV (As := [.int p1]) (rest := [.int 0]) ⟨hx, hb, hml, hown, hts⟩ (K300_X12_image l G cy H.size qm p1 (um 0) (um 1) (um 2) (um 3) (um 4) 0 0 0 0 0 0 0 0 0 (-1) (um 5) (um 6) (um 7) (um 8) (um 9) (um 10) (um 11) (um 12) (um 13) (um 14) (um 15) (um 16) (um 17) 0 0 0 0 0 0 (um 18) 0 (um 19) ) (cwV 1 hts (mm_gV mm_w1660 mm_w1661 mm_w1662 mm_w5 mm_w1663) rfl rfl rfl hd_X12_image ⟨by rw [hRf]; exact Nat.le_of_ble_eq_true rfl, by rw [hRl]; exact Nat.le_of_ble_eq_true rfl⟩) (mm_preV hK hP hD [48, 49, 50, 51, 52, 53, 54, 55, 56, 57] rfl rfl 48 rfl rfl rfl) rfl rfl hl.1 rfl (lv_room (Nat.le_of_ble_eq_true rfl)) dL_law_2943 ⟨by rw [hRc]; exact Nat.le_of_ble_eq_true rfl, by rw [hRs]; exact Nat.le_of_ble_eq_true rfl⟩) hP hD hS hA (fun u : (Nat → Int32) × (Nat → Int32) × (Nat → Int32) × (Nat → Int32) × (Nat → Int32) × (Nat → Int32) × (Nat → Int32) × (Nat → Int32) × (Nat → Int32) => [(qx, .inr (11, [.ref (ux 0), .ref (ux 2), .ref (ux 14), .ref (ux 36), .ref (ux 70), .ref (ux 71), .ref (ux 80), .ref (ux 82), .ref (ux 84), .ref (ux 89), .ref (ux 92)])), ((ux 14), .inr (10, [.ref (ux 15), .ref (ux 26)])), ((ux 15), .inr (0, [.int 0, .int 0, .int 0, .int 0, .int 0, .int 0, .int 0, .int 0, .ref (ux 16), .ref (ux 17), .ref (ux 18), .ref (ux 19), .ref (ux 20), .ref (ux 21), .ref (ux 22), .ref (ux 23), .ref (ux 24), .ref (ux 25)])), ((ux 16), .inl (cy 1, 9, .inl (fun _ => 0))), ((ux 17), .inl (cy 1, 9, .inl (fun _ => 0))), ((ux 18), .inl (cy 1, 3, .inl (fun _ => 0))), ((ux 19), .inl (cy 1, 210, .inl (fun _ => 0))), ((ux 20), .inl (cy 1, 6, .inl (fun _ => 0))), ((ux 21), .inl (cy 1, 48, .inl (fun _ => 0))), ((ux 22), .inl (cy 1, 30, .inl (fun _ => 0))), ((ux 23), .inl (cy 1, 30, .inl (fun _ => 0))), ((ux 24), .inl (cy 1, 30, .inl (fun _ => 0))), ((ux 25), .inl (cy 1, 30, .inl (fun _ => 0))), ((ux 36), .inl (cy 4, 3, .inr (.inr (.inr (.inr (va_up (va_up (va_up (fun _ => none) 0 (some (ux 37))) 1 (some (ux 48))) 2 (some (ux 59)))))))), ((ux 37), .inr (0, [.int 0, .int 0, .int 0, .int 0, .int 0, .int 0, .int 0, .int 0, .ref (ux 38), .ref (ux 39), .ref (ux 40), .ref (ux 41), .ref (ux 42), .ref (ux 43), .ref (ux 44), .ref (ux 45), .ref (ux 46), .ref (ux 47)])), ((ux 38), .inl (cy 1, 9, .inl n3)), ((ux 39), .inl (cy 1, 9, .inl n4)), ((ux 40), .inl (cy 1, 3, .inl n5)), ((ux 41), .inl (cy 1, 210, .inl n6)), ((ux 42), .inl (cy 1, 6, .inl n7)), ((ux 43), .inl (cy 1, 48, .inl n8)), ((ux 44), .inl (cy 1, 30, .inl n9)), ((ux 45), .inl (cy 1, 30, .inl n10)), ((ux 46), .inl (cy 1, 30, .inl n11)), ((ux 47), .inl (cy 1, 30, .inl n12)), ((ux 48), .inr (0, [.int 0, .int 0, .int 0, .int 0, .int 0, .int 0, .int 0, .int 0, .ref (ux 49), .ref (ux 50), .ref (ux 51), .ref (ux 52), .ref (ux 53), .ref (ux 54), .ref (ux 55), .ref (ux 56), .ref (ux 57), .ref (ux 58)])), ((ux 49), .inl (cy 1, 9, .inl n13)), ((ux 50), .inl (cy 1, 9, .inl n14)), ((ux 51), .inl (cy 1, 3, .inl n15)), ((ux 52), .inl (cy 1, 210, .inl n16)), ((ux 53), .inl (cy 1, 6, .inl n17)), ((ux 54), .inl (cy 1, 48, .inl n18)), ((ux 55), .inl (cy 1, 30, .inl n19)), ((ux 56), .inl (cy 1, 30, .inl n20)), ((ux 57), .inl (cy 1, 30, .inl n21)), ((ux 58), .inl (cy 1, 30, .inl n22)), ((ux 59), .inr (0, [.int 0, .int 0, .int 0, .int 0, .int 0, .int 0, .int 0, .int 0, .ref (ux 60), .ref (ux 61), .ref (ux 62), .ref (ux 63), .ref (ux 64), .ref (ux 65), .ref (ux 66), .ref (ux 67), .ref (ux 68), .ref (ux 69)])), ((ux 60), .inl (cy 1, 9, .inl n23)), ((ux 61), .inl (cy 1, 9, .inl n24)), ((ux 62), .inl (cy 1, 3, .inl n25)), ((ux 63), .inl (cy 1, 210, .inl n26)), ((ux 64), .inl (cy 1, 6, .inl n27)), ((ux 65), .inl (cy 1, 48, .inl n28)), ((ux 66), .inl (cy 1, 30, .inl n29)), ((ux 67), .inl (cy 1, 30, .inl n30)), ((ux 68), .inl (cy 1, 30, .inl n31)), ((ux 69), .inl (cy 1, 30, .inl n32)), ((ux 70), .inl (cy 3, 3, .inl n33)), (qm, .inr (12, [.int 0, .ref (um 0), .ref (um 1), .ref (um 2), .ref (um 3), .ref (um 4), .int 0, .int 0, .int 0, .int 0, .int 0, .long 0, .int 0, .int 0, .int 0, .int (-1), .ref (um 5), .ref (um 6), .ref (um 7), .ref (um 8), .ref (um 9), .ref (um 10), .ref (um 11), .ref (um 12), .ref (um 13), .ref (um 14), .ref (um 15), .ref (um 16), .ref (um 17), .int 0, .int 0, .int 0, .int 0, .int 0, .int 0, .ref (um 18), .int 0, .ref (um 19)])), ((um 5), .inl (cy 1, 5, .inl u.1)), ((um 6), .inl (cy 1, 30, .inl u.2.1)), ((um 7), .inl (cy 1, 90, .inl u.2.2.1)), ((um 8), .inl (cy 1, 15, .inl u.2.2.2.1)), ((um 9), .inl (cy 1, 1050, .inl u.2.2.2.2.1)), ((um 10), .inl (cy 1, 30, .inl u.2.2.2.2.2.1)), ((um 11), .inl (cy 1, 240, .inl u.2.2.2.2.2.2.1)), ((um 12), .inl (cy 1, 450, .inl u.2.2.2.2.2.2.2.1)), ((um 13), .inl (cy 3, 3, .inl u.2.2.2.2.2.2.2.2))]) [48, 49, 50, 51, 52, 53, 54, 55, 56, 57] [0, 1, 2, 3, 4, 5, 6, 7, 8, 9, 10, 11, 12, 13, 14, 15, 16, 17, 18, 19, 20, 21, 22, 23, 24, 25, 26, 27, 28, 29, 30, 31, 32, 33, 34, 35, 36, 37, 38, 39, 40, 41, 42, 43, 44, 45, 46, 47] (n := 58) (fun _ => rfl) (by decide +kernel) (by decide +kernel) rfl (fun _ => rfl) (wr := [(qx, .inr (11, [.ref (ux 0), .ref (ux 2), .ref (ux 14), .ref (ux 36), .ref (ux 70), .ref (ux 71), .ref (ux 80), .ref (ux 82), .ref (ux 84), .ref (ux 89), .ref (ux 92)])), ((ux 14), .inr (10, [.ref (ux 15), .ref (ux 26)])), ((ux 15), .inr (0, [.int 0, .int 0, .int 0, .int 0, .int 0, .int 0, .int 0, .int 0, .ref (ux 16), .ref (ux 17), .ref (ux 18), .ref (ux 19), .ref (ux 20), .ref (ux 21), .ref (ux 22), .ref (ux 23), .ref (ux 24), .ref (ux 25)])), ((ux 16), .inl (cy 1, 9, .inl (fun _ => 0))), ((ux 17), .inl (cy 1, 9, .inl (fun _ => 0))), ((ux 18), .inl (cy 1, 3, .inl (fun _ => 0))), ((ux 19), .inl (cy 1, 210, .inl (fun _ => 0))), ((ux 20), .inl (cy 1, 6, .inl (fun _ => 0))), ((ux 21), .inl (cy 1, 48, .inl (fun _ => 0))), ((ux 22), .inl (cy 1, 30, .inl (fun _ => 0))), ((ux 23), .inl (cy 1, 30, .inl (fun _ => 0))), ((ux 24), .inl (cy 1, 30, .inl (fun _ => 0))), ((ux 25), .inl (cy 1, 30, .inl (fun _ => 0))), ((ux 36), .inl (cy 4, 3, .inr (.inr (.inr (.inr (va_up (va_up (va_up (fun _ => none) 0 (some (ux 37))) 1 (some (ux 48))) 2 (some (ux 59)))))))), ((ux 37), .inr (0, [.int 0, .int 0, .int 0, .int 0, .int 0, .int 0, .int 0, .int 0, .ref (ux 38), .ref (ux 39), .ref (ux 40), .ref (ux 41), .ref (ux 42), .ref (ux 43), .ref (ux 44), .ref (ux 45), .ref (ux 46), .ref (ux 47)])), ((ux 38), .inl (cy 1, 9, .inl n3)), ((ux 39), .inl (cy 1, 9, .inl n4)), ((ux 40), .inl (cy 1, 3, .inl n5)), ((ux 41), .inl (cy 1, 210, .inl n6)), ((ux 42), .inl (cy 1, 6, .inl n7)), ((ux 43), .inl (cy 1, 48, .inl n8)), ((ux 44), .inl (cy 1, 30, .inl n9)), ((ux 45), .inl (cy 1, 30, .inl n10)), ((ux 46), .inl (cy 1, 30, .inl n11)), ((ux 47), .inl (cy 1, 30, .inl n12)), ((ux 48), .inr (0, [.int 0, .int 0, .int 0, .int 0, .int 0, .int 0, .int 0, .int 0, .ref (ux 49), .ref (ux 50), .ref (ux 51), .ref (ux 52), .ref (ux 53), .ref (ux 54), .ref (ux 55), .ref (ux 56), .ref (ux 57), .ref (ux 58)])), ((ux 49), .inl (cy 1, 9, .inl n13)), ((ux 50), .inl (cy 1, 9, .inl n14)), ((ux 51), .inl (cy 1, 3, .inl n15)), ((ux 52), .inl (cy 1, 210, .inl n16)), ((ux 53), .inl (cy 1, 6, .inl n17)), ((ux 54), .inl (cy 1, 48, .inl n18)), ((ux 55), .inl (cy 1, 30, .inl n19)), ((ux 56), .inl (cy 1, 30, .inl n20)), ((ux 57), .inl (cy 1, 30, .inl n21)), ((ux 58), .inl (cy 1, 30, .inl n22)), ((ux 59), .inr (0, [.int 0, .int 0, .int 0, .int 0, .int 0, .int 0, .int 0, .int 0, .ref (ux 60), .ref (ux 61), .ref (ux 62), .ref (ux 63), .ref (ux 64), .ref (ux 65), .ref (ux 66), .ref (ux 67), .ref (ux 68), .ref (ux 69)])), ((ux 60), .inl (cy 1, 9, .inl n23)), ((ux 61), .inl (cy 1, 9, .inl n24)), ((ux 62), .inl (cy 1, 3, .inl n25)), ((ux 63), .inl (cy 1, 210, .inl n26)), ((ux 64), .inl (cy 1, 6, .inl n27)), ((ux 65), .inl (cy 1, 48, .inl n28)), ((ux 66), .inl (cy 1, 30, .inl n29)), ((ux 67), .inl (cy 1, 30, .inl n30)), ((ux 68), .inl (cy 1, 30, .inl n31)), ((ux 69), .inl (cy 1, 30, .inl n32)), ((ux 70), .inl (cy 3, 3, .inl n33))]) rfl (fun _ => rfl) (fun _ => rfl) ?_
    clear hP hD hS
    clear H locs
    intro v110 u
    obtain ⟨n101, n102, n103, n104, n105, n106, n107, n108, n109⟩ := u
    intro H locs hw (hP : va_P G vwCl [(qx, .inr (11, [.ref (ux 0), .ref (ux 2), .ref (ux 14), .ref (ux 36), .ref (ux 70), .ref (ux 71), .ref (ux 80), .ref (ux 82), .ref (ux 84), .ref (ux 89), .ref (ux 92)])), ((ux 14), .inr (10, [.ref (ux 15), .ref (ux 26)])), ((ux 15), .inr (0, [.int 0, .int 0, .int 0, .int 0, .int 0, .int 0, .int 0, .int 0, .ref (ux 16), .ref (ux 17), .ref (ux 18), .ref (ux 19), .ref (ux 20), .ref (ux 21), .ref (ux 22), .ref (ux 23), .ref (ux 24), .ref (ux 25)])), ((ux 16), .inl (cy 1, 9, .inl (fun _ => 0))), ((ux 17), .inl (cy 1, 9, .inl (fun _ => 0))), ((ux 18), .inl (cy 1, 3, .inl (fun _ => 0))), ((ux 19), .inl (cy 1, 210, .inl (fun _ => 0))), ((ux 20), .inl (cy 1, 6, .inl (fun _ => 0))), ((ux 21), .inl (cy 1, 48, .inl (fun _ => 0))), ((ux 22), .inl (cy 1, 30, .inl (fun _ => 0))), ((ux 23), .inl (cy 1, 30, .inl (fun _ => 0))), ((ux 24), .inl (cy 1, 30, .inl (fun _ => 0))), ((ux 25), .inl (cy 1, 30, .inl (fun _ => 0))), ((ux 36), .inl (cy 4, 3, .inr (.inr (.inr (.inr (va_up (va_up (va_up (fun _ => none) 0 (some (ux 37))) 1 (some (ux 48))) 2 (some (ux 59)))))))), ((ux 37), .inr (0, [.int 0, .int 0, .int 0, .int 0, .int 0, .int 0, .int 0, .int 0, .ref (ux 38), .ref (ux 39), .ref (ux 40), .ref (ux 41), .ref (ux 42), .ref (ux 43), .ref (ux 44), .ref (ux 45), .ref (ux 46), .ref (ux 47)])), ((ux 38), .inl (cy 1, 9, .inl n3)), ((ux 39), .inl (cy 1, 9, .inl n4)), ((ux 40), .inl (cy 1, 3, .inl n5)), ((ux 41), .inl (cy 1, 210, .inl n6)), ((ux 42), .inl (cy 1, 6, .inl n7)), ((ux 43), .inl (cy 1, 48, .inl n8)), ((ux 44), .inl (cy 1, 30, .inl n9)), ((ux 45), .inl (cy 1, 30, .inl n10)), ((ux 46), .inl (cy 1, 30, .inl n11)), ((ux 47), .inl (cy 1, 30, .inl n12)), ((ux 48), .inr (0, [.int 0, .int 0, .int 0, .int 0, .int 0, .int 0, .int 0, .int 0, .ref (ux 49), .ref (ux 50), .ref (ux 51), .ref (ux 52), .ref (ux 53), .ref (ux 54), .ref (ux 55), .ref (ux 56), .ref (ux 57), .ref (ux 58)])), ((ux 49), .inl (cy 1, 9, .inl n13)), ((ux 50), .inl (cy 1, 9, .inl n14)), ((ux 51), .inl (cy 1, 3, .inl n15)), ((ux 52), .inl (cy 1, 210, .inl n16)), ((ux 53), .inl (cy 1, 6, .inl n17)), ((ux 54), .inl (cy 1, 48, .inl n18)), ((ux 55), .inl (cy 1, 30, .inl n19)), ((ux 56), .inl (cy 1, 30, .inl n20)), ((ux 57), .inl (cy 1, 30, .inl n21)), ((ux 58), .inl (cy 1, 30, .inl n22)), ((ux 59), .inr (0, [.int 0, .int 0, .int 0, .int 0, .int 0, .int 0, .int 0, .int 0, .ref (ux 60), .ref (ux 61), .ref (ux 62), .ref (ux 63), .ref (ux 64), .ref (ux 65), .ref (ux 66), .ref (ux 67), .ref (ux 68), .ref (ux 69)])), ((ux 60), .inl (cy 1, 9, .inl n23)), ((ux 61), .inl (cy 1, 9, .inl n24)), ((ux 62), .inl (cy 1, 3, .inl n25)), ((ux 63), .inl (cy 1, 210, .inl n26)), ((ux 64), .inl (cy 1, 6, .inl n27)), ((ux 65), .inl (cy 1, 48, .inl n28)), ((ux 66), .inl (cy 1, 30, .inl n29)), ((ux 67), .inl (cy 1, 30, .inl n30)), ((ux 68), .inl (cy 1, 30, .inl n31)), ((ux 69), .inl (cy 1, 30, .inl n32)), ((ux 70), .inl (cy 3, 3, .inl n33)), (qm, .inr (12, [.int 0, .ref (um 0), .ref (um 1), .ref (um 2), .ref (um 3), .ref (um 4), .int 0, .int 0, .int 0, .int 0, .int 0, .long 0, .int 0, .int 0, .int 0, .int (-1), .ref (um 5), .ref (um 6), .ref (um 7), .ref (um 8), .ref (um 9), .ref (um 10), .ref (um 11), .ref (um 12), .ref (um 13), .ref (um 14), .ref (um 15), .ref (um 16), .ref (um 17), .int 0, .int 0, .int 0, .int 0, .int 0, .int 0, .ref (um 18), .int 0, .ref (um 19)])), ((um 5), .inl (cy 1, 5, .inl n101)), ((um 6), .inl (cy 1, 30, .inl n102)), ((um 7), .inl (cy 1, 90, .inl n103)), ((um 8), .inl (cy 1, 15, .inl n104)), ((um 9), .inl (cy 1, 1050, .inl n105)), ((um 10), .inl (cy 1, 30, .inl n106)), ((um 11), .inl (cy 1, 240, .inl n107)), ((um 12), .inl (cy 1, 450, .inl n108)), ((um 13), .inl (cy 3, 3, .inl n109))] H) (hD : va_D A [(qx, .inr (11, [.ref (ux 0), .ref (ux 2), .ref (ux 14), .ref (ux 36), .ref (ux 70), .ref (ux 71), .ref (ux 80), .ref (ux 82), .ref (ux 84), .ref (ux 89), .ref (ux 92)])), ((ux 14), .inr (10, [.ref (ux 15), .ref (ux 26)])), ((ux 15), .inr (0, [.int 0, .int 0, .int 0, .int 0, .int 0, .int 0, .int 0, .int 0, .ref (ux 16), .ref (ux 17), .ref (ux 18), .ref (ux 19), .ref (ux 20), .ref (ux 21), .ref (ux 22), .ref (ux 23), .ref (ux 24), .ref (ux 25)])), ((ux 16), .inl (cy 1, 9, .inl (fun _ => 0))), ((ux 17), .inl (cy 1, 9, .inl (fun _ => 0))), ((ux 18), .inl (cy 1, 3, .inl (fun _ => 0))), ((ux 19), .inl (cy 1, 210, .inl (fun _ => 0))), ((ux 20), .inl (cy 1, 6, .inl (fun _ => 0))), ((ux 21), .inl (cy 1, 48, .inl (fun _ => 0))), ((ux 22), .inl (cy 1, 30, .inl (fun _ => 0))), ((ux 23), .inl (cy 1, 30, .inl (fun _ => 0))), ((ux 24), .inl (cy 1, 30, .inl (fun _ => 0))), ((ux 25), .inl (cy 1, 30, .inl (fun _ => 0))), ((ux 36), .inl (cy 4, 3, .inr (.inr (.inr (.inr (va_up (va_up (va_up (fun _ => none) 0 (some (ux 37))) 1 (some (ux 48))) 2 (some (ux 59)))))))), ((ux 37), .inr (0, [.int 0, .int 0, .int 0, .int 0, .int 0, .int 0, .int 0, .int 0, .ref (ux 38), .ref (ux 39), .ref (ux 40), .ref (ux 41), .ref (ux 42), .ref (ux 43), .ref (ux 44), .ref (ux 45), .ref (ux 46), .ref (ux 47)])), ((ux 38), .inl (cy 1, 9, .inl n3)), ((ux 39), .inl (cy 1, 9, .inl n4)), ((ux 40), .inl (cy 1, 3, .inl n5)), ((ux 41), .inl (cy 1, 210, .inl n6)), ((ux 42), .inl (cy 1, 6, .inl n7)), ((ux 43), .inl (cy 1, 48, .inl n8)), ((ux 44), .inl (cy 1, 30, .inl n9)), ((ux 45), .inl (cy 1, 30, .inl n10)), ((ux 46), .inl (cy 1, 30, .inl n11)), ((ux 47), .inl (cy 1, 30, .inl n12)), ((ux 48), .inr (0, [.int 0, .int 0, .int 0, .int 0, .int 0, .int 0, .int 0, .int 0, .ref (ux 49), .ref (ux 50), .ref (ux 51), .ref (ux 52), .ref (ux 53), .ref (ux 54), .ref (ux 55), .ref (ux 56), .ref (ux 57), .ref (ux 58)])), ((ux 49), .inl (cy 1, 9, .inl n13)), ((ux 50), .inl (cy 1, 9, .inl n14)), ((ux 51), .inl (cy 1, 3, .inl n15)), ((ux 52), .inl (cy 1, 210, .inl n16)), ((ux 53), .inl (cy 1, 6, .inl n17)), ((ux 54), .inl (cy 1, 48, .inl n18)), ((ux 55), .inl (cy 1, 30, .inl n19)), ((ux 56), .inl (cy 1, 30, .inl n20)), ((ux 57), .inl (cy 1, 30, .inl n21)), ((ux 58), .inl (cy 1, 30, .inl n22)), ((ux 59), .inr (0, [.int 0, .int 0, .int 0, .int 0, .int 0, .int 0, .int 0, .int 0, .ref (ux 60), .ref (ux 61), .ref (ux 62), .ref (ux 63), .ref (ux 64), .ref (ux 65), .ref (ux 66), .ref (ux 67), .ref (ux 68), .ref (ux 69)])), ((ux 60), .inl (cy 1, 9, .inl n23)), ((ux 61), .inl (cy 1, 9, .inl n24)), ((ux 62), .inl (cy 1, 3, .inl n25)), ((ux 63), .inl (cy 1, 210, .inl n26)), ((ux 64), .inl (cy 1, 6, .inl n27)), ((ux 65), .inl (cy 1, 48, .inl n28)), ((ux 66), .inl (cy 1, 30, .inl n29)), ((ux 67), .inl (cy 1, 30, .inl n30)), ((ux 68), .inl (cy 1, 30, .inl n31)), ((ux 69), .inl (cy 1, 30, .inl n32)), ((ux 70), .inl (cy 3, 3, .inl n33)), (qm, .inr (12, [.int 0, .ref (um 0), .ref (um 1), .ref (um 2), .ref (um 3), .ref (um 4), .int 0, .int 0, .int 0, .int 0, .int 0, .long 0, .int 0, .int 0, .int 0, .int (-1), .ref (um 5), .ref (um 6), .ref (um 7), .ref (um 8), .ref (um 9), .ref (um 10), .ref (um 11), .ref (um 12), .ref (um 13), .ref (um 14), .ref (um 15), .ref (um 16), .ref (um 17), .int 0, .int 0, .int 0, .int 0, .int 0, .int 0, .ref (um 18), .int 0, .ref (um 19)])), ((um 5), .inl (cy 1, 5, .inl n101)), ((um 6), .inl (cy 1, 30, .inl n102)), ((um 7), .inl (cy 1, 90, .inl n103)), ((um 8), .inl (cy 1, 15, .inl n104)), ((um 9), .inl (cy 1, 1050, .inl n105)), ((um 10), .inl (cy 1, 30, .inl n106)), ((um 11), .inl (cy 1, 240, .inl n107)), ((um 12), .inl (cy 1, 450, .inl n108)), ((um 13), .inl (cy 3, 3, .inl n109))]) hS
    obtain ⟨w111, w112, w113, w114, w115, w116, w117, w118, w119, hw⟩ := hw
    rcases hw with ⟨rfl, w120⟩ | ⟨rfl, w121⟩ | ⟨rfl, w122⟩
    · exact mm_noX w120 w67 (by decide)
    · exact mm_noX w121 w67 (by decide)
    · refine lv_icmp_eq (tgt := 3153) hx hb dL_law_2946 (by decide) (fun c123 => ?_) (fun c123 => ?_)
      · refine lv_iinc (v := 6) (lv' := [(3, .int 6), (2, .ref qm), (1, .ref qx), (0, .ref b)]) hx hb dL_law_3153 hl (k := 0) rfl (by decide) (by decide) rfl ?_
        clear hl
        clear ls
        intro ls hl
        refine lv_goto (tgt := 18) hx hb dL_law_3156 (by decide) ?_
        refine lv_iload_n hx hb dL_law_18 rfl (lv_at hl 0 rfl) ?_
        refine lv_aload_n hx hb dL_law_19 rfl (lv_at hl 3 rfl) ?_
        refine va_slen hx hb hX hbl hbA hS dL_law_20 ?_
        refine lv_topi (fun v124 ev124 => ?_)
        obtain rfl : v124 = 6 := ev124.trans (by decide)
        refine lv_bipush (v := 6) hx hb dL_law_21 (by decide) ?_
        refine lv_isub hx hb dL_law_23 ?_
        refine lv_topi (fun v125 ev125 => ?_)
        obtain rfl : v125 = 0 := ev125.trans (by decide)
        refine lv_icmp_gt (tgt := 3159) hx hb dL_law_24 (by decide) (fun c126 => ?_) (fun c126 => ?_)
        · refine lv_iconst (v := 1) hx hb dL_law_3159 (by decide) ?_
          refine va_forget (fun q hq => by have := hS.2.2 q hq; rw [hAe] at this; exact this) ?_
          refine W.widen (k := 600000) (n := 7302250) (Nat.le_of_ble_eq_true rfl) (Nat.le_of_ble_eq_true rfl) ?_
          exact lw_ret hx hb hr hlocks dL_law_3160
        · have q127 := mm_leL (mm_nlt c126) mm_k6 mm_k0
          exact mm_no q127 (by decide)
      · have q128 := mm_neL (lo := 1) (mm_ne c123) mm_k0 mm_k0 (by decide) (by decide)
        exact mm_no q128 (by decide)
  · refine lv_aload_n hx hb dL_law_2937 rfl (lv_at hl 1 rfl) ?_
    refine lv_aload_n hx hb dL_law_2938 rfl (lv_at hl 3 rfl) ?_
    refine lv_iload_n hx hb dL_law_2939 rfl (lv_at hl 0 rfl) ?_
    refine lv_iconst (v := 1) hx hb dL_law_2940 (by decide) ?_
    refine lv_iadd hx hb dL_law_2941 ?_
    refine lv_topi (fun v129 ev129 => ?_)
    obtain rfl : v129 = 1 := ev129.trans (by decide)
    refine va_sld hx hb hX hbl hbA hS (mm_in mm_k1 (by decide)) dL_law_2942 ?_
    refine lv_topi (fun v130 ev130 => ?_)
    obtain rfl : p1 = v130 := ep1.trans ev130.symm
    refine mm_fini (va_runV (As := [.int p1]) (rest := [.int (-2)]) ⟨hx, hb, hml, hown, hts⟩ (K300_X12_image l G cy H.size qm p1 (um 0) (um 1) (um 2) (um 3) (um 4) 0 0 0 0 0 0 0 0 0 (-1) (um 5) (um 6) (um 7) (um 8) (um 9) (um 10) (um 11) (um 12) (um 13) (um 14) (um 15) (um 16) (um 17) 0 0 0 0 0 0 (um 18) 0 (um 19) ) (cwV 1 hts (mm_gV mm_w1660 mm_w1661 mm_w1662 mm_w5 mm_w1663) rfl rfl rfl hd_X12_image ⟨by rw [hRf]; exact Nat.le_of_ble_eq_true rfl, by rw [hRl]; exact Nat.le_of_ble_eq_true rfl⟩) (mm_preV hK hP hD [48, 49, 50, 51, 52, 53, 54, 55, 56, 57] rfl rfl 48 rfl rfl rfl) rfl rfl hl.1 rfl (lv_room (Nat.le_of_ble_eq_true rfl)) dL_law_2943 ⟨by rw [hRc]; exact Nat.le_of_ble_eq_true rfl, by rw [hRs]; exact Nat.le_of_ble_eq_true rfl⟩) hP hD hS hA (fun u : (Nat → Int32) × (Nat → Int32) × (Nat → Int32) × (Nat → Int32) × (Nat → Int32) × (Nat → Int32) × (Nat → Int32) × (Nat → Int32) × (Nat → Int32) => [(qx, .inr (11, [.ref (ux 0), .ref (ux 2), .ref (ux 14), .ref (ux 36), .ref (ux 70), .ref (ux 71), .ref (ux 80), .ref (ux 82), .ref (ux 84), .ref (ux 89), .ref (ux 92)])), ((ux 14), .inr (10, [.ref (ux 15), .ref (ux 26)])), ((ux 15), .inr (0, [.int 0, .int 0, .int 0, .int 0, .int 0, .int 0, .int 0, .int 0, .ref (ux 16), .ref (ux 17), .ref (ux 18), .ref (ux 19), .ref (ux 20), .ref (ux 21), .ref (ux 22), .ref (ux 23), .ref (ux 24), .ref (ux 25)])), ((ux 16), .inl (cy 1, 9, .inl (fun _ => 0))), ((ux 17), .inl (cy 1, 9, .inl (fun _ => 0))), ((ux 18), .inl (cy 1, 3, .inl (fun _ => 0))), ((ux 19), .inl (cy 1, 210, .inl (fun _ => 0))), ((ux 20), .inl (cy 1, 6, .inl (fun _ => 0))), ((ux 21), .inl (cy 1, 48, .inl (fun _ => 0))), ((ux 22), .inl (cy 1, 30, .inl (fun _ => 0))), ((ux 23), .inl (cy 1, 30, .inl (fun _ => 0))), ((ux 24), .inl (cy 1, 30, .inl (fun _ => 0))), ((ux 25), .inl (cy 1, 30, .inl (fun _ => 0))), ((ux 36), .inl (cy 4, 3, .inr (.inr (.inr (.inr (va_up (va_up (va_up (fun _ => none) 0 (some (ux 37))) 1 (some (ux 48))) 2 (some (ux 59)))))))), ((ux 37), .inr (0, [.int 0, .int 0, .int 0, .int 0, .int 0, .int 0, .int 0, .int 0, .ref (ux 38), .ref (ux 39), .ref (ux 40), .ref (ux 41), .ref (ux 42), .ref (ux 43), .ref (ux 44), .ref (ux 45), .ref (ux 46), .ref (ux 47)])), ((ux 38), .inl (cy 1, 9, .inl n3)), ((ux 39), .inl (cy 1, 9, .inl n4)), ((ux 40), .inl (cy 1, 3, .inl n5)), ((ux 41), .inl (cy 1, 210, .inl n6)), ((ux 42), .inl (cy 1, 6, .inl n7)), ((ux 43), .inl (cy 1, 48, .inl n8)), ((ux 44), .inl (cy 1, 30, .inl n9)), ((ux 45), .inl (cy 1, 30, .inl n10)), ((ux 46), .inl (cy 1, 30, .inl n11)), ((ux 47), .inl (cy 1, 30, .inl n12)), ((ux 48), .inr (0, [.int 0, .int 0, .int 0, .int 0, .int 0, .int 0, .int 0, .int 0, .ref (ux 49), .ref (ux 50), .ref (ux 51), .ref (ux 52), .ref (ux 53), .ref (ux 54), .ref (ux 55), .ref (ux 56), .ref (ux 57), .ref (ux 58)])), ((ux 49), .inl (cy 1, 9, .inl n13)), ((ux 50), .inl (cy 1, 9, .inl n14)), ((ux 51), .inl (cy 1, 3, .inl n15)), ((ux 52), .inl (cy 1, 210, .inl n16)), ((ux 53), .inl (cy 1, 6, .inl n17)), ((ux 54), .inl (cy 1, 48, .inl n18)), ((ux 55), .inl (cy 1, 30, .inl n19)), ((ux 56), .inl (cy 1, 30, .inl n20)), ((ux 57), .inl (cy 1, 30, .inl n21)), ((ux 58), .inl (cy 1, 30, .inl n22)), ((ux 59), .inr (0, [.int 0, .int 0, .int 0, .int 0, .int 0, .int 0, .int 0, .int 0, .ref (ux 60), .ref (ux 61), .ref (ux 62), .ref (ux 63), .ref (ux 64), .ref (ux 65), .ref (ux 66), .ref (ux 67), .ref (ux 68), .ref (ux 69)])), ((ux 60), .inl (cy 1, 9, .inl n23)), ((ux 61), .inl (cy 1, 9, .inl n24)), ((ux 62), .inl (cy 1, 3, .inl n25)), ((ux 63), .inl (cy 1, 210, .inl n26)), ((ux 64), .inl (cy 1, 6, .inl n27)), ((ux 65), .inl (cy 1, 48, .inl n28)), ((ux 66), .inl (cy 1, 30, .inl n29)), ((ux 67), .inl (cy 1, 30, .inl n30)), ((ux 68), .inl (cy 1, 30, .inl n31)), ((ux 69), .inl (cy 1, 30, .inl n32)), ((ux 70), .inl (cy 3, 3, .inl n33)), (qm, .inr (12, [.int 0, .ref (um 0), .ref (um 1), .ref (um 2), .ref (um 3), .ref (um 4), .int 0, .int 0, .int 0, .int 0, .int 0, .long 0, .int 0, .int 0, .int 0, .int (-1), .ref (um 5), .ref (um 6), .ref (um 7), .ref (um 8), .ref (um 9), .ref (um 10), .ref (um 11), .ref (um 12), .ref (um 13), .ref (um 14), .ref (um 15), .ref (um 16), .ref (um 17), .int 0, .int 0, .int 0, .int 0, .int 0, .int 0, .ref (um 18), .int 0, .ref (um 19)])), ((um 5), .inl (cy 1, 5, .inl u.1)), ((um 6), .inl (cy 1, 30, .inl u.2.1)), ((um 7), .inl (cy 1, 90, .inl u.2.2.1)), ((um 8), .inl (cy 1, 15, .inl u.2.2.2.1)), ((um 9), .inl (cy 1, 1050, .inl u.2.2.2.2.1)), ((um 10), .inl (cy 1, 30, .inl u.2.2.2.2.2.1)), ((um 11), .inl (cy 1, 240, .inl u.2.2.2.2.2.2.1)), ((um 12), .inl (cy 1, 450, .inl u.2.2.2.2.2.2.2.1)), ((um 13), .inl (cy 3, 3, .inl u.2.2.2.2.2.2.2.2))]) [48, 49, 50, 51, 52, 53, 54, 55, 56, 57] [0, 1, 2, 3, 4, 5, 6, 7, 8, 9, 10, 11, 12, 13, 14, 15, 16, 17, 18, 19, 20, 21, 22, 23, 24, 25, 26, 27, 28, 29, 30, 31, 32, 33, 34, 35, 36, 37, 38, 39, 40, 41, 42, 43, 44, 45, 46, 47] (n := 58) (fun _ => rfl) (by decide +kernel) (by decide +kernel) rfl (fun _ => rfl) (wr := [(qx, .inr (11, [.ref (ux 0), .ref (ux 2), .ref (ux 14), .ref (ux 36), .ref (ux 70), .ref (ux 71), .ref (ux 80), .ref (ux 82), .ref (ux 84), .ref (ux 89), .ref (ux 92)])), ((ux 14), .inr (10, [.ref (ux 15), .ref (ux 26)])), ((ux 15), .inr (0, [.int 0, .int 0, .int 0, .int 0, .int 0, .int 0, .int 0, .int 0, .ref (ux 16), .ref (ux 17), .ref (ux 18), .ref (ux 19), .ref (ux 20), .ref (ux 21), .ref (ux 22), .ref (ux 23), .ref (ux 24), .ref (ux 25)])), ((ux 16), .inl (cy 1, 9, .inl (fun _ => 0))), ((ux 17), .inl (cy 1, 9, .inl (fun _ => 0))), ((ux 18), .inl (cy 1, 3, .inl (fun _ => 0))), ((ux 19), .inl (cy 1, 210, .inl (fun _ => 0))), ((ux 20), .inl (cy 1, 6, .inl (fun _ => 0))), ((ux 21), .inl (cy 1, 48, .inl (fun _ => 0))), ((ux 22), .inl (cy 1, 30, .inl (fun _ => 0))), ((ux 23), .inl (cy 1, 30, .inl (fun _ => 0))), ((ux 24), .inl (cy 1, 30, .inl (fun _ => 0))), ((ux 25), .inl (cy 1, 30, .inl (fun _ => 0))), ((ux 36), .inl (cy 4, 3, .inr (.inr (.inr (.inr (va_up (va_up (va_up (fun _ => none) 0 (some (ux 37))) 1 (some (ux 48))) 2 (some (ux 59)))))))), ((ux 37), .inr (0, [.int 0, .int 0, .int 0, .int 0, .int 0, .int 0, .int 0, .int 0, .ref (ux 38), .ref (ux 39), .ref (ux 40), .ref (ux 41), .ref (ux 42), .ref (ux 43), .ref (ux 44), .ref (ux 45), .ref (ux 46), .ref (ux 47)])), ((ux 38), .inl (cy 1, 9, .inl n3)), ((ux 39), .inl (cy 1, 9, .inl n4)), ((ux 40), .inl (cy 1, 3, .inl n5)), ((ux 41), .inl (cy 1, 210, .inl n6)), ((ux 42), .inl (cy 1, 6, .inl n7)), ((ux 43), .inl (cy 1, 48, .inl n8)), ((ux 44), .inl (cy 1, 30, .inl n9)), ((ux 45), .inl (cy 1, 30, .inl n10)), ((ux 46), .inl (cy 1, 30, .inl n11)), ((ux 47), .inl (cy 1, 30, .inl n12)), ((ux 48), .inr (0, [.int 0, .int 0, .int 0, .int 0, .int 0, .int 0, .int 0, .int 0, .ref (ux 49), .ref (ux 50), .ref (ux 51), .ref (ux 52), .ref (ux 53), .ref (ux 54), .ref (ux 55), .ref (ux 56), .ref (ux 57), .ref (ux 58)])), ((ux 49), .inl (cy 1, 9, .inl n13)), ((ux 50), .inl (cy 1, 9, .inl n14)), ((ux 51), .inl (cy 1, 3, .inl n15)), ((ux 52), .inl (cy 1, 210, .inl n16)), ((ux 53), .inl (cy 1, 6, .inl n17)), ((ux 54), .inl (cy 1, 48, .inl n18)), ((ux 55), .inl (cy 1, 30, .inl n19)), ((ux 56), .inl (cy 1, 30, .inl n20)), ((ux 57), .inl (cy 1, 30, .inl n21)), ((ux 58), .inl (cy 1, 30, .inl n22)), ((ux 59), .inr (0, [.int 0, .int 0, .int 0, .int 0, .int 0, .int 0, .int 0, .int 0, .ref (ux 60), .ref (ux 61), .ref (ux 62), .ref (ux 63), .ref (ux 64), .ref (ux 65), .ref (ux 66), .ref (ux 67), .ref (ux 68), .ref (ux 69)])), ((ux 60), .inl (cy 1, 9, .inl n23)), ((ux 61), .inl (cy 1, 9, .inl n24)), ((ux 62), .inl (cy 1, 3, .inl n25)), ((ux 63), .inl (cy 1, 210, .inl n26)), ((ux 64), .inl (cy 1, 6, .inl n27)), ((ux 65), .inl (cy 1, 48, .inl n28)), ((ux 66), .inl (cy 1, 30, .inl n29)), ((ux 67), .inl (cy 1, 30, .inl n30)), ((ux 68), .inl (cy 1, 30, .inl n31)), ((ux 69), .inl (cy 1, 30, .inl n32)), ((ux 70), .inl (cy 3, 3, .inl n33))]) rfl (fun _ => rfl) (fun _ => rfl) ?_
    clear hP hD hS
    clear H locs
    intro v140 u
    obtain ⟨n131, n132, n133, n134, n135, n136, n137, n138, n139⟩ := u
    intro H locs hw (hP : va_P G vwCl [(qx, .inr (11, [.ref (ux 0), .ref (ux 2), .ref (ux 14), .ref (ux 36), .ref (ux 70), .ref (ux 71), .ref (ux 80), .ref (ux 82), .ref (ux 84), .ref (ux 89), .ref (ux 92)])), ((ux 14), .inr (10, [.ref (ux 15), .ref (ux 26)])), ((ux 15), .inr (0, [.int 0, .int 0, .int 0, .int 0, .int 0, .int 0, .int 0, .int 0, .ref (ux 16), .ref (ux 17), .ref (ux 18), .ref (ux 19), .ref (ux 20), .ref (ux 21), .ref (ux 22), .ref (ux 23), .ref (ux 24), .ref (ux 25)])), ((ux 16), .inl (cy 1, 9, .inl (fun _ => 0))), ((ux 17), .inl (cy 1, 9, .inl (fun _ => 0))), ((ux 18), .inl (cy 1, 3, .inl (fun _ => 0))), ((ux 19), .inl (cy 1, 210, .inl (fun _ => 0))), ((ux 20), .inl (cy 1, 6, .inl (fun _ => 0))), ((ux 21), .inl (cy 1, 48, .inl (fun _ => 0))), ((ux 22), .inl (cy 1, 30, .inl (fun _ => 0))), ((ux 23), .inl (cy 1, 30, .inl (fun _ => 0))), ((ux 24), .inl (cy 1, 30, .inl (fun _ => 0))), ((ux 25), .inl (cy 1, 30, .inl (fun _ => 0))), ((ux 36), .inl (cy 4, 3, .inr (.inr (.inr (.inr (va_up (va_up (va_up (fun _ => none) 0 (some (ux 37))) 1 (some (ux 48))) 2 (some (ux 59)))))))), ((ux 37), .inr (0, [.int 0, .int 0, .int 0, .int 0, .int 0, .int 0, .int 0, .int 0, .ref (ux 38), .ref (ux 39), .ref (ux 40), .ref (ux 41), .ref (ux 42), .ref (ux 43), .ref (ux 44), .ref (ux 45), .ref (ux 46), .ref (ux 47)])), ((ux 38), .inl (cy 1, 9, .inl n3)), ((ux 39), .inl (cy 1, 9, .inl n4)), ((ux 40), .inl (cy 1, 3, .inl n5)), ((ux 41), .inl (cy 1, 210, .inl n6)), ((ux 42), .inl (cy 1, 6, .inl n7)), ((ux 43), .inl (cy 1, 48, .inl n8)), ((ux 44), .inl (cy 1, 30, .inl n9)), ((ux 45), .inl (cy 1, 30, .inl n10)), ((ux 46), .inl (cy 1, 30, .inl n11)), ((ux 47), .inl (cy 1, 30, .inl n12)), ((ux 48), .inr (0, [.int 0, .int 0, .int 0, .int 0, .int 0, .int 0, .int 0, .int 0, .ref (ux 49), .ref (ux 50), .ref (ux 51), .ref (ux 52), .ref (ux 53), .ref (ux 54), .ref (ux 55), .ref (ux 56), .ref (ux 57), .ref (ux 58)])), ((ux 49), .inl (cy 1, 9, .inl n13)), ((ux 50), .inl (cy 1, 9, .inl n14)), ((ux 51), .inl (cy 1, 3, .inl n15)), ((ux 52), .inl (cy 1, 210, .inl n16)), ((ux 53), .inl (cy 1, 6, .inl n17)), ((ux 54), .inl (cy 1, 48, .inl n18)), ((ux 55), .inl (cy 1, 30, .inl n19)), ((ux 56), .inl (cy 1, 30, .inl n20)), ((ux 57), .inl (cy 1, 30, .inl n21)), ((ux 58), .inl (cy 1, 30, .inl n22)), ((ux 59), .inr (0, [.int 0, .int 0, .int 0, .int 0, .int 0, .int 0, .int 0, .int 0, .ref (ux 60), .ref (ux 61), .ref (ux 62), .ref (ux 63), .ref (ux 64), .ref (ux 65), .ref (ux 66), .ref (ux 67), .ref (ux 68), .ref (ux 69)])), ((ux 60), .inl (cy 1, 9, .inl n23)), ((ux 61), .inl (cy 1, 9, .inl n24)), ((ux 62), .inl (cy 1, 3, .inl n25)), ((ux 63), .inl (cy 1, 210, .inl n26)), ((ux 64), .inl (cy 1, 6, .inl n27)), ((ux 65), .inl (cy 1, 48, .inl n28)), ((ux 66), .inl (cy 1, 30, .inl n29)), ((ux 67), .inl (cy 1, 30, .inl n30)), ((ux 68), .inl (cy 1, 30, .inl n31)), ((ux 69), .inl (cy 1, 30, .inl n32)), ((ux 70), .inl (cy 3, 3, .inl n33)), (qm, .inr (12, [.int 0, .ref (um 0), .ref (um 1), .ref (um 2), .ref (um 3), .ref (um 4), .int 0, .int 0, .int 0, .int 0, .int 0, .long 0, .int 0, .int 0, .int 0, .int (-1), .ref (um 5), .ref (um 6), .ref (um 7), .ref (um 8), .ref (um 9), .ref (um 10), .ref (um 11), .ref (um 12), .ref (um 13), .ref (um 14), .ref (um 15), .ref (um 16), .ref (um 17), .int 0, .int 0, .int 0, .int 0, .int 0, .int 0, .ref (um 18), .int 0, .ref (um 19)])), ((um 5), .inl (cy 1, 5, .inl n131)), ((um 6), .inl (cy 1, 30, .inl n132)), ((um 7), .inl (cy 1, 90, .inl n133)), ((um 8), .inl (cy 1, 15, .inl n134)), ((um 9), .inl (cy 1, 1050, .inl n135)), ((um 10), .inl (cy 1, 30, .inl n136)), ((um 11), .inl (cy 1, 240, .inl n137)), ((um 12), .inl (cy 1, 450, .inl n138)), ((um 13), .inl (cy 3, 3, .inl n139))] H) (hD : va_D A [(qx, .inr (11, [.ref (ux 0), .ref (ux 2), .ref (ux 14), .ref (ux 36), .ref (ux 70), .ref (ux 71), .ref (ux 80), .ref (ux 82), .ref (ux 84), .ref (ux 89), .ref (ux 92)])), ((ux 14), .inr (10, [.ref (ux 15), .ref (ux 26)])), ((ux 15), .inr (0, [.int 0, .int 0, .int 0, .int 0, .int 0, .int 0, .int 0, .int 0, .ref (ux 16), .ref (ux 17), .ref (ux 18), .ref (ux 19), .ref (ux 20), .ref (ux 21), .ref (ux 22), .ref (ux 23), .ref (ux 24), .ref (ux 25)])), ((ux 16), .inl (cy 1, 9, .inl (fun _ => 0))), ((ux 17), .inl (cy 1, 9, .inl (fun _ => 0))), ((ux 18), .inl (cy 1, 3, .inl (fun _ => 0))), ((ux 19), .inl (cy 1, 210, .inl (fun _ => 0))), ((ux 20), .inl (cy 1, 6, .inl (fun _ => 0))), ((ux 21), .inl (cy 1, 48, .inl (fun _ => 0))), ((ux 22), .inl (cy 1, 30, .inl (fun _ => 0))), ((ux 23), .inl (cy 1, 30, .inl (fun _ => 0))), ((ux 24), .inl (cy 1, 30, .inl (fun _ => 0))), ((ux 25), .inl (cy 1, 30, .inl (fun _ => 0))), ((ux 36), .inl (cy 4, 3, .inr (.inr (.inr (.inr (va_up (va_up (va_up (fun _ => none) 0 (some (ux 37))) 1 (some (ux 48))) 2 (some (ux 59)))))))), ((ux 37), .inr (0, [.int 0, .int 0, .int 0, .int 0, .int 0, .int 0, .int 0, .int 0, .ref (ux 38), .ref (ux 39), .ref (ux 40), .ref (ux 41), .ref (ux 42), .ref (ux 43), .ref (ux 44), .ref (ux 45), .ref (ux 46), .ref (ux 47)])), ((ux 38), .inl (cy 1, 9, .inl n3)), ((ux 39), .inl (cy 1, 9, .inl n4)), ((ux 40), .inl (cy 1, 3, .inl n5)), ((ux 41), .inl (cy 1, 210, .inl n6)), ((ux 42), .inl (cy 1, 6, .inl n7)), ((ux 43), .inl (cy 1, 48, .inl n8)), ((ux 44), .inl (cy 1, 30, .inl n9)), ((ux 45), .inl (cy 1, 30, .inl n10)), ((ux 46), .inl (cy 1, 30, .inl n11)), ((ux 47), .inl (cy 1, 30, .inl n12)), ((ux 48), .inr (0, [.int 0, .int 0, .int 0, .int 0, .int 0, .int 0, .int 0, .int 0, .ref (ux 49), .ref (ux 50), .ref (ux 51), .ref (ux 52), .ref (ux 53), .ref (ux 54), .ref (ux 55), .ref (ux 56), .ref (ux 57), .ref (ux 58)])), ((ux 49), .inl (cy 1, 9, .inl n13)), ((ux 50), .inl (cy 1, 9, .inl n14)), ((ux 51), .inl (cy 1, 3, .inl n15)), ((ux 52), .inl (cy 1, 210, .inl n16)), ((ux 53), .inl (cy 1, 6, .inl n17)), ((ux 54), .inl (cy 1, 48, .inl n18)), ((ux 55), .inl (cy 1, 30, .inl n19)), ((ux 56), .inl (cy 1, 30, .inl n20)), ((ux 57), .inl (cy 1, 30, .inl n21)), ((ux 58), .inl (cy 1, 30, .inl n22)), ((ux 59), .inr (0, [.int 0, .int 0, .int 0, .int 0, .int 0, .int 0, .int 0, .int 0, .ref (ux 60), .ref (ux 61), .ref (ux 62), .ref (ux 63), .ref (ux 64), .ref (ux 65), .ref (ux 66), .ref (ux 67), .ref (ux 68), .ref (ux 69)])), ((ux 60), .inl (cy 1, 9, .inl n23)), ((ux 61), .inl (cy 1, 9, .inl n24)), ((ux 62), .inl (cy 1, 3, .inl n25)), ((ux 63), .inl (cy 1, 210, .inl n26)), ((ux 64), .inl (cy 1, 6, .inl n27)), ((ux 65), .inl (cy 1, 48, .inl n28)), ((ux 66), .inl (cy 1, 30, .inl n29)), ((ux 67), .inl (cy 1, 30, .inl n30)), ((ux 68), .inl (cy 1, 30, .inl n31)), ((ux 69), .inl (cy 1, 30, .inl n32)), ((ux 70), .inl (cy 3, 3, .inl n33)), (qm, .inr (12, [.int 0, .ref (um 0), .ref (um 1), .ref (um 2), .ref (um 3), .ref (um 4), .int 0, .int 0, .int 0, .int 0, .int 0, .long 0, .int 0, .int 0, .int 0, .int (-1), .ref (um 5), .ref (um 6), .ref (um 7), .ref (um 8), .ref (um 9), .ref (um 10), .ref (um 11), .ref (um 12), .ref (um 13), .ref (um 14), .ref (um 15), .ref (um 16), .ref (um 17), .int 0, .int 0, .int 0, .int 0, .int 0, .int 0, .ref (um 18), .int 0, .ref (um 19)])), ((um 5), .inl (cy 1, 5, .inl n131)), ((um 6), .inl (cy 1, 30, .inl n132)), ((um 7), .inl (cy 1, 90, .inl n133)), ((um 8), .inl (cy 1, 15, .inl n134)), ((um 9), .inl (cy 1, 1050, .inl n135)), ((um 10), .inl (cy 1, 30, .inl n136)), ((um 11), .inl (cy 1, 240, .inl n137)), ((um 12), .inl (cy 1, 450, .inl n138)), ((um 13), .inl (cy 3, 3, .inl n139))]) hS
    obtain ⟨w141, w142, w143, w144, w145, w146, w147, w148, w149, hw⟩ := hw
    rcases hw with ⟨rfl, w150⟩ | ⟨rfl, w151⟩ | ⟨rfl, w152⟩
    · exact mm_noX w150 w68 (by decide)
    · refine lv_icmp_eq (tgt := 3153) hx hb dL_law_2946 (by decide) (fun c153 => ?_) (fun c153 => ?_)
      · refine lv_iinc (v := 6) (lv' := [(3, .int 6), (2, .ref qm), (1, .ref qx), (0, .ref b)]) hx hb dL_law_3153 hl (k := 0) rfl (by decide) (by decide) rfl ?_
        clear hl
        clear ls
        intro ls hl
        refine lv_goto (tgt := 18) hx hb dL_law_3156 (by decide) ?_
        refine lv_iload_n hx hb dL_law_18 rfl (lv_at hl 0 rfl) ?_
        refine lv_aload_n hx hb dL_law_19 rfl (lv_at hl 3 rfl) ?_
        refine va_slen hx hb hX hbl hbA hS dL_law_20 ?_
        refine lv_topi (fun v154 ev154 => ?_)
        obtain rfl : v154 = 6 := ev154.trans (by decide)
        refine lv_bipush (v := 6) hx hb dL_law_21 (by decide) ?_
        refine lv_isub hx hb dL_law_23 ?_
        refine lv_topi (fun v155 ev155 => ?_)
        obtain rfl : v155 = 0 := ev155.trans (by decide)
        refine lv_icmp_gt (tgt := 3159) hx hb dL_law_24 (by decide) (fun c156 => ?_) (fun c156 => ?_)
        · refine lv_iconst (v := 1) hx hb dL_law_3159 (by decide) ?_
          refine va_forget (fun q hq => by have := hS.2.2 q hq; rw [hAe] at this; exact this) ?_
          refine W.widen (k := 600000) (n := 7302250) (Nat.le_of_ble_eq_true rfl) (Nat.le_of_ble_eq_true rfl) ?_
          exact lw_ret hx hb hr hlocks dL_law_3160
        · have q157 := mm_leL (mm_nlt c156) mm_k6 mm_k0
          exact mm_no q157 (by decide)
      · have q158 := mm_neL (lo := (-1)) (mm_ne c153) mm_km2 mm_km2 (by decide) (by decide)
        exact mm_no q158 (by decide)
    · exact mm_noX w152 w68 (by decide)

set_option maxHeartbeats 4000000 in
set_option maxRecDepth 100000 in
theorem lc_68 {p : Program} {e : Env} {s : State} {m : MethodId} {below : List Frame} {meth : Method} {c : Code} {b : Nat} {xs : Nat → Int32} {G : va_G} {cy : Nat → ClassId} {qx qm : Nat} {ux um : Nat → Nat} {H : Heap} {locs : List Loc} {ls : Array Slot} {A : Nat → Prop} (l : Launch) (hx : p.tables.exec = Jvm.exec) (hb : c.code = code) (hr : meth.sig.returnType = ret) (hlocks : meth.locks = false) (hml : c.maxLocals = 4) (hown : s.vm.findClass R_law = some m.cls) (hts : ∀ w ∈ lw_x :: wsL_law, w.before #[Value.ref b] s = true) (hX : va_X b 6 xs s s.heap) (hbl : b < s.heap.size) (hAe : A = fun q => s.heap.size ≤ q) (hK : mm_K G cy s) (hS : va_S A s.heap H locs) (hP : va_P G vwCl [(qx, .inr (11, [.ref (ux 0), .ref (ux 2), .ref (ux 14), .ref (ux 36), .ref (ux 70), .ref (ux 71), .ref (ux 80), .ref (ux 82), .ref (ux 84), .ref (ux 89), .ref (ux 92)])), ((ux 70), .inl (cy 3, 3, .inl (fun _ => 0))), (qm, .inr (12, [.int 0, .ref (um 0), .ref (um 1), .ref (um 2), .ref (um 3), .ref (um 4), .int 0, .int 0, .int 0, .int 0, .int 0, .long 0, .int 0, .int 0, .int 0, .int (-1), .ref (um 5), .ref (um 6), .ref (um 7), .ref (um 8), .ref (um 9), .ref (um 10), .ref (um 11), .ref (um 12), .ref (um 13), .ref (um 14), .ref (um 15), .ref (um 16), .ref (um 17), .int 0, .int 0, .int 0, .int 0, .int 0, .int 0, .ref (um 18), .int 0, .ref (um 19)])), ((um 13), .inl (cy 3, 3, .inl (fun _ => 0)))] H) (hD : va_D A [(qx, .inr (11, [.ref (ux 0), .ref (ux 2), .ref (ux 14), .ref (ux 36), .ref (ux 70), .ref (ux 71), .ref (ux 80), .ref (ux 82), .ref (ux 84), .ref (ux 89), .ref (ux 92)])), ((ux 70), .inl (cy 3, 3, .inl (fun _ => 0))), (qm, .inr (12, [.int 0, .ref (um 0), .ref (um 1), .ref (um 2), .ref (um 3), .ref (um 4), .int 0, .int 0, .int 0, .int 0, .int 0, .long 0, .int 0, .int 0, .int 0, .int (-1), .ref (um 5), .ref (um 6), .ref (um 7), .ref (um 8), .ref (um 9), .ref (um 10), .ref (um 11), .ref (um 12), .ref (um 13), .ref (um 14), .ref (um 15), .ref (um 16), .ref (um 17), .int 0, .int 0, .int 0, .int 0, .int 0, .int 0, .ref (um 18), .int 0, .ref (um 19)])), ((um 13), .inl (cy 3, 3, .inl (fun _ => 0)))]) (hl : lv_has ls 4 [(3, .int 0), (2, .ref qm), (1, .ref qx), (0, .ref b)]) : W p l e room_1 s m #[Value.ref b] below meth c H locs 116 20302 (lw_Z below #[Value.ref b] s) (F0 m 2951 ls []) := by
  have hA : ∀ q, s.heap.size ≤ q → A q := by rw [hAe]; exact fun _ h => h
  have hbA : ¬ A b := by rw [hAe]; exact Nat.not_le.mpr hbl
  have hRf : room_1.frames = 2048 := rfl
  have hRl : room_1.locals = 84000 := rfl
  have hRc : room_1.cells = 600000 := rfl
  have hRs : room_1.slots = 7302250 := rfl
  obtain ⟨p1, ep1⟩ : ∃ z : Int32, z = xs 1 := ⟨_, rfl⟩
  obtain ⟨p2, ep2⟩ : ∃ z : Int32, z = xs 2 := ⟨_, rfl⟩
  obtain ⟨p3, ep3⟩ : ∃ z : Int32, z = xs 3 := ⟨_, rfl⟩
  obtain ⟨p4, ep4⟩ : ∃ z : Int32, z = xs 4 := ⟨_, rfl⟩
  obtain ⟨p5, ep5⟩ : ∃ z : Int32, z = xs 5 := ⟨_, rfl⟩
  refine lv_aload_n hx hb dL_law_2951 rfl (lv_at hl 2 rfl) ?_
  refine lv_aload_n hx hb dL_law_2952 rfl (lv_at hl 3 rfl) ?_
  refine lv_iload_n hx hb dL_law_2953 rfl (lv_at hl 0 rfl) ?_
  refine lv_iconst (v := 1) hx hb dL_law_2954 (by decide) ?_
  refine lv_iadd hx hb dL_law_2955 ?_
  refine lv_topi (fun v1 ev1 => ?_)
  obtain rfl : v1 = 1 := ev1.trans (by decide)
  refine va_sld hx hb hX hbl hbA hS (mm_in mm_k1 (by decide)) dL_law_2956 ?_
  refine lv_topi (fun v2 ev2 => ?_)
  obtain rfl : p1 = v2 := ep1.trans ev2.symm
  refine mm_finir (va_runV (As := [.int p1]) (rest := []) ⟨hx, hb, hml, hown, hts⟩ (K302_X11_back l G cy H.size qx p1 (ux 0) (ux 2) (ux 14) (ux 36) (ux 70) (ux 71) (ux 80) (ux 82) (ux 84) (ux 89) (ux 92) ) (cwV 1 hts (mm_gV mm_w1665 mm_w1666 mm_w1667 mm_w2 mm_w1668) rfl rfl rfl hd_X11_back ⟨by rw [hRf]; exact Nat.le_of_ble_eq_true rfl, by rw [hRl]; exact Nat.le_of_ble_eq_true rfl⟩) (mm_preV hK hP hD [0, 1] rfl rfl 0 rfl rfl rfl) rfl rfl hl.1 rfl (lv_room (Nat.le_of_ble_eq_true rfl)) dL_law_2957 ⟨by rw [hRc]; exact Nat.le_of_ble_eq_true rfl, by rw [hRs]; exact Nat.le_of_ble_eq_true rfl⟩) hP hD hS hA [0, 1] rfl (fun _ => rfl) ?_
  clear hP hD hS
  clear H locs
  intro v3 _u H locs hw hP hD hS
  rcases hw with ⟨rfl, w4⟩ | ⟨rfl, w5⟩ | ⟨rfl, w6⟩
  · refine lv_aload_n hx hb dL_law_2960 rfl (lv_at hl 1 rfl) ?_
    refine lv_aload_n hx hb dL_law_2961 rfl (lv_at hl 3 rfl) ?_
    refine lv_iload_n hx hb dL_law_2962 rfl (lv_at hl 0 rfl) ?_
    refine lv_iconst (v := 1) hx hb dL_law_2963 (by decide) ?_
    refine lv_iadd hx hb dL_law_2964 ?_
    refine lv_topi (fun v7 ev7 => ?_)
    obtain rfl : v7 = 1 := ev7.trans (by decide)
    refine va_sld hx hb hX hbl hbA hS (mm_in mm_k1 (by decide)) dL_law_2965 ?_
    refine lv_topi (fun v8 ev8 => ?_)
    obtain rfl : p1 = v8 := ep1.trans ev8.symm
    refine mm_finir (va_runV (As := [.int p1]) (rest := [.int (-2)]) ⟨hx, hb, hml, hown, hts⟩ (K303_X12_back l G cy H.size qm p1 (um 0) (um 1) (um 2) (um 3) (um 4) 0 0 0 0 0 0 0 0 0 (-1) (um 5) (um 6) (um 7) (um 8) (um 9) (um 10) (um 11) (um 12) (um 13) (um 14) (um 15) (um 16) (um 17) 0 0 0 0 0 0 (um 18) 0 (um 19) ) (cwV 1 hts (mm_gV mm_w1669 mm_w1670 mm_w1671 mm_w5 mm_w1672) rfl rfl rfl hd_X12_back ⟨by rw [hRf]; exact Nat.le_of_ble_eq_true rfl, by rw [hRl]; exact Nat.le_of_ble_eq_true rfl⟩) (mm_preV hK hP hD [2, 3] rfl rfl 2 rfl rfl rfl) rfl rfl hl.1 rfl (lv_room (Nat.le_of_ble_eq_true rfl)) dL_law_2966 ⟨by rw [hRc]; exact Nat.le_of_ble_eq_true rfl, by rw [hRs]; exact Nat.le_of_ble_eq_true rfl⟩) hP hD hS hA [2, 3] rfl (fun _ => rfl) ?_
    clear hP hD hS
    clear H locs
    intro v9 _u H locs hw hP hD hS
    rcases hw with ⟨rfl, w10⟩ | ⟨rfl, w11⟩ | ⟨rfl, w12⟩
    · refine lv_icmp_eq (tgt := 3153) hx hb dL_law_2969 (by decide) (fun c13 => ?_) (fun c13 => ?_)
      · refine lv_iinc (v := 6) (lv' := [(3, .int 6), (2, .ref qm), (1, .ref qx), (0, .ref b)]) hx hb dL_law_3153 hl (k := 0) rfl (by decide) (by decide) rfl ?_
        clear hl
        clear ls
        intro ls hl
        refine lv_goto (tgt := 18) hx hb dL_law_3156 (by decide) ?_
        refine lv_iload_n hx hb dL_law_18 rfl (lv_at hl 0 rfl) ?_
        refine lv_aload_n hx hb dL_law_19 rfl (lv_at hl 3 rfl) ?_
        refine va_slen hx hb hX hbl hbA hS dL_law_20 ?_
        refine lv_topi (fun v14 ev14 => ?_)
        obtain rfl : v14 = 6 := ev14.trans (by decide)
        refine lv_bipush (v := 6) hx hb dL_law_21 (by decide) ?_
        refine lv_isub hx hb dL_law_23 ?_
        refine lv_topi (fun v15 ev15 => ?_)
        obtain rfl : v15 = 0 := ev15.trans (by decide)
        refine lv_icmp_gt (tgt := 3159) hx hb dL_law_24 (by decide) (fun c16 => ?_) (fun c16 => ?_)
        · refine lv_iconst (v := 1) hx hb dL_law_3159 (by decide) ?_
          refine va_forget (fun q hq => by have := hS.2.2 q hq; rw [hAe] at this; exact this) ?_
          refine W.widen (k := 600000) (n := 7302250) (Nat.le_of_ble_eq_true rfl) (Nat.le_of_ble_eq_true rfl) ?_
          exact lw_ret hx hb hr hlocks dL_law_3160
        · have q17 := mm_leL (mm_nlt c16) mm_k6 mm_k0
          exact mm_no q17 (by decide)
      · have q18 := mm_neL (lo := (-1)) (mm_ne c13) mm_km2 mm_km2 (by decide) (by decide)
        exact mm_no q18 (by decide)
    · exact mm_noX w11 w4 (by decide)
    · exact mm_noX w12 w4 (by decide)
  · refine lv_aload_n hx hb dL_law_2960 rfl (lv_at hl 1 rfl) ?_
    refine lv_aload_n hx hb dL_law_2961 rfl (lv_at hl 3 rfl) ?_
    refine lv_iload_n hx hb dL_law_2962 rfl (lv_at hl 0 rfl) ?_
    refine lv_iconst (v := 1) hx hb dL_law_2963 (by decide) ?_
    refine lv_iadd hx hb dL_law_2964 ?_
    refine lv_topi (fun v19 ev19 => ?_)
    obtain rfl : v19 = 1 := ev19.trans (by decide)
    refine va_sld hx hb hX hbl hbA hS (mm_in mm_k1 (by decide)) dL_law_2965 ?_
    refine lv_topi (fun v20 ev20 => ?_)
    obtain rfl : p1 = v20 := ep1.trans ev20.symm
    refine mm_finir (va_runV (As := [.int p1]) (rest := [.int (-6)]) ⟨hx, hb, hml, hown, hts⟩ (K303_X12_back l G cy H.size qm p1 (um 0) (um 1) (um 2) (um 3) (um 4) 0 0 0 0 0 0 0 0 0 (-1) (um 5) (um 6) (um 7) (um 8) (um 9) (um 10) (um 11) (um 12) (um 13) (um 14) (um 15) (um 16) (um 17) 0 0 0 0 0 0 (um 18) 0 (um 19) ) (cwV 1 hts (mm_gV mm_w1669 mm_w1670 mm_w1671 mm_w5 mm_w1672) rfl rfl rfl hd_X12_back ⟨by rw [hRf]; exact Nat.le_of_ble_eq_true rfl, by rw [hRl]; exact Nat.le_of_ble_eq_true rfl⟩) (mm_preV hK hP hD [2, 3] rfl rfl 2 rfl rfl rfl) rfl rfl hl.1 rfl (lv_room (Nat.le_of_ble_eq_true rfl)) dL_law_2966 ⟨by rw [hRc]; exact Nat.le_of_ble_eq_true rfl, by rw [hRs]; exact Nat.le_of_ble_eq_true rfl⟩) hP hD hS hA [2, 3] rfl (fun _ => rfl) ?_
    clear hP hD hS
    clear H locs
    intro v21 _u H locs hw hP hD hS
    rcases hw with ⟨rfl, w22⟩ | ⟨rfl, w23⟩ | ⟨rfl, w24⟩
    · exact mm_noX w22 w5 (by decide)
    · exact mm_noX w23 w5 (by decide)
    · refine lv_icmp_eq (tgt := 3153) hx hb dL_law_2969 (by decide) (fun c25 => ?_) (fun c25 => ?_)
      · refine lv_iinc (v := 6) (lv' := [(3, .int 6), (2, .ref qm), (1, .ref qx), (0, .ref b)]) hx hb dL_law_3153 hl (k := 0) rfl (by decide) (by decide) rfl ?_
        clear hl
        clear ls
        intro ls hl
        refine lv_goto (tgt := 18) hx hb dL_law_3156 (by decide) ?_
        refine lv_iload_n hx hb dL_law_18 rfl (lv_at hl 0 rfl) ?_
        refine lv_aload_n hx hb dL_law_19 rfl (lv_at hl 3 rfl) ?_
        refine va_slen hx hb hX hbl hbA hS dL_law_20 ?_
        refine lv_topi (fun v26 ev26 => ?_)
        obtain rfl : v26 = 6 := ev26.trans (by decide)
        refine lv_bipush (v := 6) hx hb dL_law_21 (by decide) ?_
        refine lv_isub hx hb dL_law_23 ?_
        refine lv_topi (fun v27 ev27 => ?_)
        obtain rfl : v27 = 0 := ev27.trans (by decide)
        refine lv_icmp_gt (tgt := 3159) hx hb dL_law_24 (by decide) (fun c28 => ?_) (fun c28 => ?_)
        · refine lv_iconst (v := 1) hx hb dL_law_3159 (by decide) ?_
          refine va_forget (fun q hq => by have := hS.2.2 q hq; rw [hAe] at this; exact this) ?_
          refine W.widen (k := 600000) (n := 7302250) (Nat.le_of_ble_eq_true rfl) (Nat.le_of_ble_eq_true rfl) ?_
          exact lw_ret hx hb hr hlocks dL_law_3160
        · have q29 := mm_leL (mm_nlt c28) mm_k6 mm_k0
          exact mm_no q29 (by decide)
      · have q30 := mm_neL (lo := (-5)) (mm_ne c25) mm_km6 mm_km6 (by decide) (by decide)
        exact mm_no q30 (by decide)
  · refine lv_aload_n hx hb dL_law_2960 rfl (lv_at hl 1 rfl) ?_
    refine lv_aload_n hx hb dL_law_2961 rfl (lv_at hl 3 rfl) ?_
    refine lv_iload_n hx hb dL_law_2962 rfl (lv_at hl 0 rfl) ?_
    refine lv_iconst (v := 1) hx hb dL_law_2963 (by decide) ?_
    refine lv_iadd hx hb dL_law_2964 ?_
    refine lv_topi (fun v31 ev31 => ?_)
    obtain rfl : v31 = 1 := ev31.trans (by decide)
    refine va_sld hx hb hX hbl hbA hS (mm_in mm_k1 (by decide)) dL_law_2965 ?_
    refine lv_topi (fun v32 ev32 => ?_)
    obtain rfl : p1 = v32 := ep1.trans ev32.symm
    refine mm_finir (va_runV (As := [.int p1]) (rest := [.int (-2)]) ⟨hx, hb, hml, hown, hts⟩ (K303_X12_back l G cy H.size qm p1 (um 0) (um 1) (um 2) (um 3) (um 4) 0 0 0 0 0 0 0 0 0 (-1) (um 5) (um 6) (um 7) (um 8) (um 9) (um 10) (um 11) (um 12) (um 13) (um 14) (um 15) (um 16) (um 17) 0 0 0 0 0 0 (um 18) 0 (um 19) ) (cwV 1 hts (mm_gV mm_w1669 mm_w1670 mm_w1671 mm_w5 mm_w1672) rfl rfl rfl hd_X12_back ⟨by rw [hRf]; exact Nat.le_of_ble_eq_true rfl, by rw [hRl]; exact Nat.le_of_ble_eq_true rfl⟩) (mm_preV hK hP hD [2, 3] rfl rfl 2 rfl rfl rfl) rfl rfl hl.1 rfl (lv_room (Nat.le_of_ble_eq_true rfl)) dL_law_2966 ⟨by rw [hRc]; exact Nat.le_of_ble_eq_true rfl, by rw [hRs]; exact Nat.le_of_ble_eq_true rfl⟩) hP hD hS hA [2, 3] rfl (fun _ => rfl) ?_
    clear hP hD hS
    clear H locs
    intro v33 _u H locs hw hP hD hS
    rcases hw with ⟨rfl, w34⟩ | ⟨rfl, w35⟩ | ⟨rfl, w36⟩
    · exact mm_noX w34 w6 (by decide)
    · refine lv_icmp_eq (tgt := 3153) hx hb dL_law_2969 (by decide) (fun c37 => ?_) (fun c37 => ?_)
      · refine lv_iinc (v := 6) (lv' := [(3, .int 6), (2, .ref qm), (1, .ref qx), (0, .ref b)]) hx hb dL_law_3153 hl (k := 0) rfl (by decide) (by decide) rfl ?_
        clear hl
        clear ls
        intro ls hl
        refine lv_goto (tgt := 18) hx hb dL_law_3156 (by decide) ?_
        refine lv_iload_n hx hb dL_law_18 rfl (lv_at hl 0 rfl) ?_
        refine lv_aload_n hx hb dL_law_19 rfl (lv_at hl 3 rfl) ?_
        refine va_slen hx hb hX hbl hbA hS dL_law_20 ?_
        refine lv_topi (fun v38 ev38 => ?_)
        obtain rfl : v38 = 6 := ev38.trans (by decide)
        refine lv_bipush (v := 6) hx hb dL_law_21 (by decide) ?_
        refine lv_isub hx hb dL_law_23 ?_
        refine lv_topi (fun v39 ev39 => ?_)
        obtain rfl : v39 = 0 := ev39.trans (by decide)
        refine lv_icmp_gt (tgt := 3159) hx hb dL_law_24 (by decide) (fun c40 => ?_) (fun c40 => ?_)
        · refine lv_iconst (v := 1) hx hb dL_law_3159 (by decide) ?_
          refine va_forget (fun q hq => by have := hS.2.2 q hq; rw [hAe] at this; exact this) ?_
          refine W.widen (k := 600000) (n := 7302250) (Nat.le_of_ble_eq_true rfl) (Nat.le_of_ble_eq_true rfl) ?_
          exact lw_ret hx hb hr hlocks dL_law_3160
        · have q41 := mm_leL (mm_nlt c40) mm_k6 mm_k0
          exact mm_no q41 (by decide)
      · have q42 := mm_neL (lo := (-1)) (mm_ne c37) mm_km2 mm_km2 (by decide) (by decide)
        exact mm_no q42 (by decide)
    · exact mm_noX w36 w6 (by decide)

set_option maxHeartbeats 4000000 in
set_option maxRecDepth 100000 in
theorem lc_69 {p : Program} {e : Env} {s : State} {m : MethodId} {below : List Frame} {meth : Method} {c : Code} {b : Nat} {xs : Nat → Int32} {G : va_G} {cy : Nat → ClassId} {qx qm : Nat} {ux um : Nat → Nat} {H : Heap} {locs : List Loc} {ls : Array Slot} {A : Nat → Prop} (l : Launch) (hx : p.tables.exec = Jvm.exec) (hb : c.code = code) (hr : meth.sig.returnType = ret) (hlocks : meth.locks = false) (hml : c.maxLocals = 4) (hown : s.vm.findClass R_law = some m.cls) (hts : ∀ w ∈ lw_x :: wsL_law, w.before #[Value.ref b] s = true) (hX : va_X b 6 xs s s.heap) (hbl : b < s.heap.size) (hAe : A = fun q => s.heap.size ≤ q) (hK : mm_K G cy s) (hS : va_S A s.heap H locs) (hP : va_P G vwCl [(qx, .inr (11, [.ref (ux 0), .ref (ux 2), .ref (ux 14), .ref (ux 36), .ref (ux 70), .ref (ux 71), .ref (ux 80), .ref (ux 82), .ref (ux 84), .ref (ux 89), .ref (ux 92)])), ((ux 71), .inl (cy 6, 4, .inr (.inr (.inr (.inr (va_up (va_up (va_up (va_up (fun _ => none) 0 (some (ux 72))) 1 (some (ux 74))) 2 (some (ux 76))) 3 (some (ux 78)))))))), ((ux 72), .inr (6, [.int 0, .int 0, .int 0, .ref (ux 73)])), ((ux 73), .inl (cy 2, 60, .inr (.inl (fun _ => 0)))), ((ux 74), .inr (6, [.int 0, .int 0, .int 0, .ref (ux 75)])), ((ux 75), .inl (cy 2, 60, .inr (.inl (fun _ => 0)))), ((ux 76), .inr (6, [.int 0, .int 0, .int 0, .ref (ux 77)])), ((ux 77), .inl (cy 2, 60, .inr (.inl (fun _ => 0)))), ((ux 78), .inr (6, [.int 0, .int 0, .int 0, .ref (ux 79)])), ((ux 79), .inl (cy 2, 60, .inr (.inl (fun _ => 0)))), (qm, .inr (12, [.int 0, .ref (um 0), .ref (um 1), .ref (um 2), .ref (um 3), .ref (um 4), .int 0, .int 0, .int 0, .int 0, .int 0, .long 0, .int 0, .int 0, .int 0, .int (-1), .ref (um 5), .ref (um 6), .ref (um 7), .ref (um 8), .ref (um 9), .ref (um 10), .ref (um 11), .ref (um 12), .ref (um 13), .ref (um 14), .ref (um 15), .ref (um 16), .ref (um 17), .int 0, .int 0, .int 0, .int 0, .int 0, .int 0, .ref (um 18), .int 0, .ref (um 19)])), ((um 0), .inl (cy 1, 4, .inl (fun _ => (-1)))), ((um 1), .inl (cy 1, 4, .inl (fun _ => 0))), ((um 2), .inl (cy 2, 240, .inr (.inl (fun _ => 0))))] H) (hD : va_D A [(qx, .inr (11, [.ref (ux 0), .ref (ux 2), .ref (ux 14), .ref (ux 36), .ref (ux 70), .ref (ux 71), .ref (ux 80), .ref (ux 82), .ref (ux 84), .ref (ux 89), .ref (ux 92)])), ((ux 71), .inl (cy 6, 4, .inr (.inr (.inr (.inr (va_up (va_up (va_up (va_up (fun _ => none) 0 (some (ux 72))) 1 (some (ux 74))) 2 (some (ux 76))) 3 (some (ux 78)))))))), ((ux 72), .inr (6, [.int 0, .int 0, .int 0, .ref (ux 73)])), ((ux 73), .inl (cy 2, 60, .inr (.inl (fun _ => 0)))), ((ux 74), .inr (6, [.int 0, .int 0, .int 0, .ref (ux 75)])), ((ux 75), .inl (cy 2, 60, .inr (.inl (fun _ => 0)))), ((ux 76), .inr (6, [.int 0, .int 0, .int 0, .ref (ux 77)])), ((ux 77), .inl (cy 2, 60, .inr (.inl (fun _ => 0)))), ((ux 78), .inr (6, [.int 0, .int 0, .int 0, .ref (ux 79)])), ((ux 79), .inl (cy 2, 60, .inr (.inl (fun _ => 0)))), (qm, .inr (12, [.int 0, .ref (um 0), .ref (um 1), .ref (um 2), .ref (um 3), .ref (um 4), .int 0, .int 0, .int 0, .int 0, .int 0, .long 0, .int 0, .int 0, .int 0, .int (-1), .ref (um 5), .ref (um 6), .ref (um 7), .ref (um 8), .ref (um 9), .ref (um 10), .ref (um 11), .ref (um 12), .ref (um 13), .ref (um 14), .ref (um 15), .ref (um 16), .ref (um 17), .int 0, .int 0, .int 0, .int 0, .int 0, .int 0, .ref (um 18), .int 0, .ref (um 19)])), ((um 0), .inl (cy 1, 4, .inl (fun _ => (-1)))), ((um 1), .inl (cy 1, 4, .inl (fun _ => 0))), ((um 2), .inl (cy 2, 240, .inr (.inl (fun _ => 0))))]) (hl : lv_has ls 4 [(3, .int 0), (2, .ref qm), (1, .ref qx), (0, .ref b)]) : W p l e room_1 s m #[Value.ref b] below meth c H locs 116 20302 (lw_Z below #[Value.ref b] s) (F0 m 2974 ls []) := by
  have hA : ∀ q, s.heap.size ≤ q → A q := by rw [hAe]; exact fun _ h => h
  have hbA : ¬ A b := by rw [hAe]; exact Nat.not_le.mpr hbl
  have hRf : room_1.frames = 2048 := rfl
  have hRl : room_1.locals = 84000 := rfl
  have hRc : room_1.cells = 600000 := rfl
  have hRs : room_1.slots = 7302250 := rfl
  obtain ⟨p1, ep1⟩ : ∃ z : Int32, z = xs 1 := ⟨_, rfl⟩
  obtain ⟨p2, ep2⟩ : ∃ z : Int32, z = xs 2 := ⟨_, rfl⟩
  obtain ⟨p3, ep3⟩ : ∃ z : Int32, z = xs 3 := ⟨_, rfl⟩
  obtain ⟨p4, ep4⟩ : ∃ z : Int32, z = xs 4 := ⟨_, rfl⟩
  obtain ⟨p5, ep5⟩ : ∃ z : Int32, z = xs 5 := ⟨_, rfl⟩
  refine lv_aload_n hx hb dL_law_2974 rfl (lv_at hl 2 rfl) ?_
  refine lv_aload_n hx hb dL_law_2975 rfl (lv_at hl 3 rfl) ?_
  refine lv_iload_n hx hb dL_law_2976 rfl (lv_at hl 0 rfl) ?_
  refine lv_iconst (v := 1) hx hb dL_law_2977 (by decide) ?_
  refine lv_iadd hx hb dL_law_2978 ?_
  refine lv_topi (fun v1 ev1 => ?_)
  obtain rfl : v1 = 1 := ev1.trans (by decide)
  refine va_sld hx hb hX hbl hbA hS (mm_in mm_k1 (by decide)) dL_law_2979 ?_
  refine lv_topi (fun v2 ev2 => ?_)
  obtain rfl : p1 = v2 := ep1.trans ev2.symm
  refine lv_aload_n hx hb dL_law_2980 rfl (lv_at hl 3 rfl) ?_
  refine lv_iload_n hx hb dL_law_2981 rfl (lv_at hl 0 rfl) ?_
  refine lv_iconst (v := 2) hx hb dL_law_2982 (by decide) ?_
  refine lv_iadd hx hb dL_law_2983 ?_
  refine lv_topi (fun v3 ev3 => ?_)
  obtain rfl : v3 = 2 := ev3.trans (by decide)
  refine va_sld hx hb hX hbl hbA hS (mm_in mm_k2 (by decide)) dL_law_2984 ?_
  refine lv_topi (fun v4 ev4 => ?_)
  obtain rfl : p2 = v4 := ep2.trans ev4.symm
  refine lv_aload_n hx hb dL_law_2985 rfl (lv_at hl 3 rfl) ?_
  refine lv_iload_n hx hb dL_law_2986 rfl (lv_at hl 0 rfl) ?_
  refine lv_iconst (v := 3) hx hb dL_law_2987 (by decide) ?_
  refine lv_iadd hx hb dL_law_2988 ?_
  refine lv_topi (fun v5 ev5 => ?_)
  obtain rfl : v5 = 3 := ev5.trans (by decide)
  refine va_sld hx hb hX hbl hbA hS (mm_in mm_k3 (by decide)) dL_law_2989 ?_
  refine lv_topi (fun v6 ev6 => ?_)
  obtain rfl : p3 = v6 := ep3.trans ev6.symm
  refine mm_fini (va_runV (As := [.int p1, .int p2, .int p3]) (rest := []) ⟨hx, hb, hml, hown, hts⟩ (K309_X11_row l G cy H.size qx p1 p2 p3 (ux 0) (ux 2) (ux 14) (ux 36) (ux 70) (ux 71) (ux 80) (ux 82) (ux 84) (ux 89) (ux 92) (ux 72) (ux 74) (ux 76) (ux 78) (ux 73) (ux 75) (ux 77) (ux 79) ) (cwV 3 hts (mm_gV mm_w1673 mm_w1674 mm_w1675 mm_w2 mm_w1676) rfl rfl rfl hd_X11_row ⟨by rw [hRf]; exact Nat.le_of_ble_eq_true rfl, by rw [hRl]; exact Nat.le_of_ble_eq_true rfl⟩) (mm_preV hK hP hD [0, 1, 2, 3, 4, 5, 6, 7, 8, 9] rfl rfl 0 rfl rfl rfl) rfl rfl hl.1 rfl (lv_room (Nat.le_of_ble_eq_true rfl)) dL_law_2990 ⟨by rw [hRc]; exact Nat.le_of_ble_eq_true rfl, by rw [hRs]; exact Nat.le_of_ble_eq_true rfl⟩) hP hD hS hA (fun u : Int32 × Int32 × Int32 × (Nat → Int64) × Int32 × Int32 × Int32 × (Nat → Int64) × Int32 × Int32 × Int32 × (Nat → Int64) × Int32 × Int32 × Int32 × (Nat → Int64) => [(qx, .inr (11, [.ref (ux 0), .ref (ux 2), .ref (ux 14), .ref (ux 36), .ref (ux 70), .ref (ux 71), .ref (ux 80), .ref (ux 82), .ref (ux 84), .ref (ux 89), .ref (ux 92)])), ((ux 71), .inl (cy 6, 4, .inr (.inr (.inr (.inr (va_up (va_up (va_up (va_up (fun _ => none) 0 (some (ux 72))) 1 (some (ux 74))) 2 (some (ux 76))) 3 (some (ux 78)))))))), ((ux 72), .inr (6, [.int u.1, .int u.2.1, .int u.2.2.1, .ref (ux 73)])), ((ux 73), .inl (cy 2, 60, .inr (.inl u.2.2.2.1))), ((ux 74), .inr (6, [.int u.2.2.2.2.1, .int u.2.2.2.2.2.1, .int u.2.2.2.2.2.2.1, .ref (ux 75)])), ((ux 75), .inl (cy 2, 60, .inr (.inl u.2.2.2.2.2.2.2.1))), ((ux 76), .inr (6, [.int u.2.2.2.2.2.2.2.2.1, .int u.2.2.2.2.2.2.2.2.2.1, .int u.2.2.2.2.2.2.2.2.2.2.1, .ref (ux 77)])), ((ux 77), .inl (cy 2, 60, .inr (.inl u.2.2.2.2.2.2.2.2.2.2.2.1))), ((ux 78), .inr (6, [.int u.2.2.2.2.2.2.2.2.2.2.2.2.1, .int u.2.2.2.2.2.2.2.2.2.2.2.2.2.1, .int u.2.2.2.2.2.2.2.2.2.2.2.2.2.2.1, .ref (ux 79)])), ((ux 79), .inl (cy 2, 60, .inr (.inl u.2.2.2.2.2.2.2.2.2.2.2.2.2.2.2))), (qm, .inr (12, [.int 0, .ref (um 0), .ref (um 1), .ref (um 2), .ref (um 3), .ref (um 4), .int 0, .int 0, .int 0, .int 0, .int 0, .long 0, .int 0, .int 0, .int 0, .int (-1), .ref (um 5), .ref (um 6), .ref (um 7), .ref (um 8), .ref (um 9), .ref (um 10), .ref (um 11), .ref (um 12), .ref (um 13), .ref (um 14), .ref (um 15), .ref (um 16), .ref (um 17), .int 0, .int 0, .int 0, .int 0, .int 0, .int 0, .ref (um 18), .int 0, .ref (um 19)])), ((um 0), .inl (cy 1, 4, .inl (fun _ => (-1)))), ((um 1), .inl (cy 1, 4, .inl (fun _ => 0))), ((um 2), .inl (cy 2, 240, .inr (.inl (fun _ => 0))))]) [0, 1, 2, 3, 4, 5, 6, 7, 8, 9] [10, 11, 12, 13] (n := 14) (fun _ => rfl) (by decide +kernel) (by decide +kernel) rfl (fun _ => rfl) (wr := [(qm, .inr (12, [.int 0, .ref (um 0), .ref (um 1), .ref (um 2), .ref (um 3), .ref (um 4), .int 0, .int 0, .int 0, .int 0, .int 0, .long 0, .int 0, .int 0, .int 0, .int (-1), .ref (um 5), .ref (um 6), .ref (um 7), .ref (um 8), .ref (um 9), .ref (um 10), .ref (um 11), .ref (um 12), .ref (um 13), .ref (um 14), .ref (um 15), .ref (um 16), .ref (um 17), .int 0, .int 0, .int 0, .int 0, .int 0, .int 0, .ref (um 18), .int 0, .ref (um 19)])), ((um 0), .inl (cy 1, 4, .inl (fun _ => (-1)))), ((um 1), .inl (cy 1, 4, .inl (fun _ => 0))), ((um 2), .inl (cy 2, 240, .inr (.inl (fun _ => 0))))]) rfl (fun _ => rfl) (fun _ => rfl) ?_
  clear hP hD hS
  clear H locs
  intro v23 u
  obtain ⟨n7, n8, n9, n10, n11, n12, n13, n14, n15, n16, n17, n18, n19, n20, n21, n22⟩ := u
  intro H locs hw (hP : va_P G vwCl [(qx, .inr (11, [.ref (ux 0), .ref (ux 2), .ref (ux 14), .ref (ux 36), .ref (ux 70), .ref (ux 71), .ref (ux 80), .ref (ux 82), .ref (ux 84), .ref (ux 89), .ref (ux 92)])), ((ux 71), .inl (cy 6, 4, .inr (.inr (.inr (.inr (va_up (va_up (va_up (va_up (fun _ => none) 0 (some (ux 72))) 1 (some (ux 74))) 2 (some (ux 76))) 3 (some (ux 78)))))))), ((ux 72), .inr (6, [.int n7, .int n8, .int n9, .ref (ux 73)])), ((ux 73), .inl (cy 2, 60, .inr (.inl n10))), ((ux 74), .inr (6, [.int n11, .int n12, .int n13, .ref (ux 75)])), ((ux 75), .inl (cy 2, 60, .inr (.inl n14))), ((ux 76), .inr (6, [.int n15, .int n16, .int n17, .ref (ux 77)])), ((ux 77), .inl (cy 2, 60, .inr (.inl n18))), ((ux 78), .inr (6, [.int n19, .int n20, .int n21, .ref (ux 79)])), ((ux 79), .inl (cy 2, 60, .inr (.inl n22))), (qm, .inr (12, [.int 0, .ref (um 0), .ref (um 1), .ref (um 2), .ref (um 3), .ref (um 4), .int 0, .int 0, .int 0, .int 0, .int 0, .long 0, .int 0, .int 0, .int 0, .int (-1), .ref (um 5), .ref (um 6), .ref (um 7), .ref (um 8), .ref (um 9), .ref (um 10), .ref (um 11), .ref (um 12), .ref (um 13), .ref (um 14), .ref (um 15), .ref (um 16), .ref (um 17), .int 0, .int 0, .int 0, .int 0, .int 0, .int 0, .ref (um 18), .int 0, .ref (um 19)])), ((um 0), .inl (cy 1, 4, .inl (fun _ => (-1)))), ((um 1), .inl (cy 1, 4, .inl (fun _ => 0))), ((um 2), .inl (cy 2, 240, .inr (.inl (fun _ => 0))))] H) (hD : va_D A [(qx, .inr (11, [.ref (ux 0), .ref (ux 2), .ref (ux 14), .ref (ux 36), .ref (ux 70), .ref (ux 71), .ref (ux 80), .ref (ux 82), .ref (ux 84), .ref (ux 89), .ref (ux 92)])), ((ux 71), .inl (cy 6, 4, .inr (.inr (.inr (.inr (va_up (va_up (va_up (va_up (fun _ => none) 0 (some (ux 72))) 1 (some (ux 74))) 2 (some (ux 76))) 3 (some (ux 78)))))))), ((ux 72), .inr (6, [.int n7, .int n8, .int n9, .ref (ux 73)])), ((ux 73), .inl (cy 2, 60, .inr (.inl n10))), ((ux 74), .inr (6, [.int n11, .int n12, .int n13, .ref (ux 75)])), ((ux 75), .inl (cy 2, 60, .inr (.inl n14))), ((ux 76), .inr (6, [.int n15, .int n16, .int n17, .ref (ux 77)])), ((ux 77), .inl (cy 2, 60, .inr (.inl n18))), ((ux 78), .inr (6, [.int n19, .int n20, .int n21, .ref (ux 79)])), ((ux 79), .inl (cy 2, 60, .inr (.inl n22))), (qm, .inr (12, [.int 0, .ref (um 0), .ref (um 1), .ref (um 2), .ref (um 3), .ref (um 4), .int 0, .int 0, .int 0, .int 0, .int 0, .long 0, .int 0, .int 0, .int 0, .int (-1), .ref (um 5), .ref (um 6), .ref (um 7), .ref (um 8), .ref (um 9), .ref (um 10), .ref (um 11), .ref (um 12), .ref (um 13), .ref (um 14), .ref (um 15), .ref (um 16), .ref (um 17), .int 0, .int 0, .int 0, .int 0, .int 0, .int 0, .ref (um 18), .int 0, .ref (um 19)])), ((um 0), .inl (cy 1, 4, .inl (fun _ => (-1)))), ((um 1), .inl (cy 1, 4, .inl (fun _ => 0))), ((um 2), .inl (cy 2, 240, .inr (.inl (fun _ => 0))))]) hS
  obtain ⟨w24, w25, w26, w27, w28, w29, w30, w31, w32, w33, w34, w35, hw⟩ := hw
  rcases hw with ⟨rfl, w36⟩ | ⟨rfl, w37⟩ | ⟨rfl, w38, w39⟩ | ⟨rfl, w40, w41⟩ | ⟨rfl, w42, w43, w44⟩ | ⟨rfl, w45, w46, w47⟩ | ⟨rfl, w48, w49, w50⟩
  · refine lv_aload_n hx hb dL_law_2993 rfl (lv_at hl 1 rfl) ?_
    refine lv_aload_n hx hb dL_law_2994 rfl (lv_at hl 3 rfl) ?_
    refine lv_iload_n hx hb dL_law_2995 rfl (lv_at hl 0 rfl) ?_
    refine lv_iconst (v := 1) hx hb dL_law_2996 (by decide) ?_
    refine lv_iadd hx hb dL_law_2997 ?_
    refine lv_topi (fun v51 ev51 => ?_)
    obtain rfl : v51 = 1 := ev51.trans (by decide)
    refine va_sld hx hb hX hbl hbA hS (mm_in mm_k1 (by decide)) dL_law_2998 ?_
    refine lv_topi (fun v52 ev52 => ?_)
    obtain rfl : p1 = v52 := ep1.trans ev52.symm
    refine lv_aload_n hx hb dL_law_2999 rfl (lv_at hl 3 rfl) ?_
    refine lv_iload_n hx hb dL_law_3000 rfl (lv_at hl 0 rfl) ?_
    refine lv_iconst (v := 2) hx hb dL_law_3001 (by decide) ?_
    refine lv_iadd hx hb dL_law_3002 ?_
    refine lv_topi (fun v53 ev53 => ?_)
    obtain rfl : v53 = 2 := ev53.trans (by decide)
    refine va_sld hx hb hX hbl hbA hS (mm_in mm_k2 (by decide)) dL_law_3003 ?_
    refine lv_topi (fun v54 ev54 => ?_)
    obtain rfl : p2 = v54 := ep2.trans ev54.symm
    refine lv_aload_n hx hb dL_law_3004 rfl (lv_at hl 3 rfl) ?_
    refine lv_iload_n hx hb dL_law_3005 rfl (lv_at hl 0 rfl) ?_
    refine lv_iconst (v := 3) hx hb dL_law_3006 (by decide) ?_
    refine lv_iadd hx hb dL_law_3007 ?_
    refine lv_topi (fun v55 ev55 => ?_)
    obtain rfl : v55 = 3 := ev55.trans (by decide)
    refine va_sld hx hb hX hbl hbA hS (mm_in mm_k3 (by decide)) dL_law_3008 ?_
    refine lv_topi (fun v56 ev56 => ?_)
    obtain rfl : p3 = v56 := ep3.trans ev56.symm
    refine mm_fini (va_runV (As := [.int p1, .int p2, .int p3]) (rest := [.int (-2)]) ⟨hx, hb, hml, hown, hts⟩ (K314_X12_row l G cy H.size qm p1 p2 p3 (um 0) (um 1) (um 2) (um 3) (um 4) 0 0 0 0 0 0 0 0 0 (-1) (um 5) (um 6) (um 7) (um 8) (um 9) (um 10) (um 11) (um 12) (um 13) (um 14) (um 15) (um 16) (um 17) 0 0 0 0 0 0 (um 18) 0 (um 19) ) (cwV 3 hts (mm_gV mm_w1686 mm_w1687 mm_w1688 mm_w5 mm_w1689) rfl rfl rfl hd_X12_row ⟨by rw [hRf]; exact Nat.le_of_ble_eq_true rfl, by rw [hRl]; exact Nat.le_of_ble_eq_true rfl⟩) (mm_preV hK hP hD [10, 11, 12, 13] rfl rfl 10 rfl rfl rfl) rfl rfl hl.1 rfl (lv_room (Nat.le_of_ble_eq_true rfl)) dL_law_3009 ⟨by rw [hRc]; exact Nat.le_of_ble_eq_true rfl, by rw [hRs]; exact Nat.le_of_ble_eq_true rfl⟩) hP hD hS hA (fun u : (Nat → Int32) × (Nat → Int32) × (Nat → Int64) => [(qx, .inr (11, [.ref (ux 0), .ref (ux 2), .ref (ux 14), .ref (ux 36), .ref (ux 70), .ref (ux 71), .ref (ux 80), .ref (ux 82), .ref (ux 84), .ref (ux 89), .ref (ux 92)])), ((ux 71), .inl (cy 6, 4, .inr (.inr (.inr (.inr (va_up (va_up (va_up (va_up (fun _ => none) 0 (some (ux 72))) 1 (some (ux 74))) 2 (some (ux 76))) 3 (some (ux 78)))))))), ((ux 72), .inr (6, [.int n7, .int n8, .int n9, .ref (ux 73)])), ((ux 73), .inl (cy 2, 60, .inr (.inl n10))), ((ux 74), .inr (6, [.int n11, .int n12, .int n13, .ref (ux 75)])), ((ux 75), .inl (cy 2, 60, .inr (.inl n14))), ((ux 76), .inr (6, [.int n15, .int n16, .int n17, .ref (ux 77)])), ((ux 77), .inl (cy 2, 60, .inr (.inl n18))), ((ux 78), .inr (6, [.int n19, .int n20, .int n21, .ref (ux 79)])), ((ux 79), .inl (cy 2, 60, .inr (.inl n22))), (qm, .inr (12, [.int 0, .ref (um 0), .ref (um 1), .ref (um 2), .ref (um 3), .ref (um 4), .int 0, .int 0, .int 0, .int 0, .int 0, .long 0, .int 0, .int 0, .int 0, .int (-1), .ref (um 5), .ref (um 6), .ref (um 7), .ref (um 8), .ref (um 9), .ref (um 10), .ref (um 11), .ref (um 12), .ref (um 13), .ref (um 14), .ref (um 15), .ref (um 16), .ref (um 17), .int 0, .int 0, .int 0, .int 0, .int 0, .int 0, .ref (um 18), .int 0, .ref (um 19)])), ((um 0), .inl (cy 1, 4, .inl u.1)), ((um 1), .inl (cy 1, 4, .inl u.2.1)), ((um 2), .inl (cy 2, 240, .inr (.inl u.2.2)))]) [10, 11, 12, 13] [0, 1, 2, 3, 4, 5, 6, 7, 8, 9] (n := 14) (fun _ => rfl) (by decide +kernel) (by decide +kernel) rfl (fun _ => rfl) (wr := [(qx, .inr (11, [.ref (ux 0), .ref (ux 2), .ref (ux 14), .ref (ux 36), .ref (ux 70), .ref (ux 71), .ref (ux 80), .ref (ux 82), .ref (ux 84), .ref (ux 89), .ref (ux 92)])), ((ux 71), .inl (cy 6, 4, .inr (.inr (.inr (.inr (va_up (va_up (va_up (va_up (fun _ => none) 0 (some (ux 72))) 1 (some (ux 74))) 2 (some (ux 76))) 3 (some (ux 78)))))))), ((ux 72), .inr (6, [.int n7, .int n8, .int n9, .ref (ux 73)])), ((ux 73), .inl (cy 2, 60, .inr (.inl n10))), ((ux 74), .inr (6, [.int n11, .int n12, .int n13, .ref (ux 75)])), ((ux 75), .inl (cy 2, 60, .inr (.inl n14))), ((ux 76), .inr (6, [.int n15, .int n16, .int n17, .ref (ux 77)])), ((ux 77), .inl (cy 2, 60, .inr (.inl n18))), ((ux 78), .inr (6, [.int n19, .int n20, .int n21, .ref (ux 79)])), ((ux 79), .inl (cy 2, 60, .inr (.inl n22)))]) rfl (fun _ => rfl) (fun _ => rfl) ?_
    clear hP hD hS
    clear H locs
    intro v60 u
    obtain ⟨n57, n58, n59⟩ := u
    intro H locs hw (hP : va_P G vwCl [(qx, .inr (11, [.ref (ux 0), .ref (ux 2), .ref (ux 14), .ref (ux 36), .ref (ux 70), .ref (ux 71), .ref (ux 80), .ref (ux 82), .ref (ux 84), .ref (ux 89), .ref (ux 92)])), ((ux 71), .inl (cy 6, 4, .inr (.inr (.inr (.inr (va_up (va_up (va_up (va_up (fun _ => none) 0 (some (ux 72))) 1 (some (ux 74))) 2 (some (ux 76))) 3 (some (ux 78)))))))), ((ux 72), .inr (6, [.int n7, .int n8, .int n9, .ref (ux 73)])), ((ux 73), .inl (cy 2, 60, .inr (.inl n10))), ((ux 74), .inr (6, [.int n11, .int n12, .int n13, .ref (ux 75)])), ((ux 75), .inl (cy 2, 60, .inr (.inl n14))), ((ux 76), .inr (6, [.int n15, .int n16, .int n17, .ref (ux 77)])), ((ux 77), .inl (cy 2, 60, .inr (.inl n18))), ((ux 78), .inr (6, [.int n19, .int n20, .int n21, .ref (ux 79)])), ((ux 79), .inl (cy 2, 60, .inr (.inl n22))), (qm, .inr (12, [.int 0, .ref (um 0), .ref (um 1), .ref (um 2), .ref (um 3), .ref (um 4), .int 0, .int 0, .int 0, .int 0, .int 0, .long 0, .int 0, .int 0, .int 0, .int (-1), .ref (um 5), .ref (um 6), .ref (um 7), .ref (um 8), .ref (um 9), .ref (um 10), .ref (um 11), .ref (um 12), .ref (um 13), .ref (um 14), .ref (um 15), .ref (um 16), .ref (um 17), .int 0, .int 0, .int 0, .int 0, .int 0, .int 0, .ref (um 18), .int 0, .ref (um 19)])), ((um 0), .inl (cy 1, 4, .inl n57)), ((um 1), .inl (cy 1, 4, .inl n58)), ((um 2), .inl (cy 2, 240, .inr (.inl n59)))] H) (hD : va_D A [(qx, .inr (11, [.ref (ux 0), .ref (ux 2), .ref (ux 14), .ref (ux 36), .ref (ux 70), .ref (ux 71), .ref (ux 80), .ref (ux 82), .ref (ux 84), .ref (ux 89), .ref (ux 92)])), ((ux 71), .inl (cy 6, 4, .inr (.inr (.inr (.inr (va_up (va_up (va_up (va_up (fun _ => none) 0 (some (ux 72))) 1 (some (ux 74))) 2 (some (ux 76))) 3 (some (ux 78)))))))), ((ux 72), .inr (6, [.int n7, .int n8, .int n9, .ref (ux 73)])), ((ux 73), .inl (cy 2, 60, .inr (.inl n10))), ((ux 74), .inr (6, [.int n11, .int n12, .int n13, .ref (ux 75)])), ((ux 75), .inl (cy 2, 60, .inr (.inl n14))), ((ux 76), .inr (6, [.int n15, .int n16, .int n17, .ref (ux 77)])), ((ux 77), .inl (cy 2, 60, .inr (.inl n18))), ((ux 78), .inr (6, [.int n19, .int n20, .int n21, .ref (ux 79)])), ((ux 79), .inl (cy 2, 60, .inr (.inl n22))), (qm, .inr (12, [.int 0, .ref (um 0), .ref (um 1), .ref (um 2), .ref (um 3), .ref (um 4), .int 0, .int 0, .int 0, .int 0, .int 0, .long 0, .int 0, .int 0, .int 0, .int (-1), .ref (um 5), .ref (um 6), .ref (um 7), .ref (um 8), .ref (um 9), .ref (um 10), .ref (um 11), .ref (um 12), .ref (um 13), .ref (um 14), .ref (um 15), .ref (um 16), .ref (um 17), .int 0, .int 0, .int 0, .int 0, .int 0, .int 0, .ref (um 18), .int 0, .ref (um 19)])), ((um 0), .inl (cy 1, 4, .inl n57)), ((um 1), .inl (cy 1, 4, .inl n58)), ((um 2), .inl (cy 2, 240, .inr (.inl n59)))]) hS
    obtain ⟨w61, w62, hw⟩ := hw
    rcases hw with ⟨rfl, w63⟩ | ⟨rfl, w64⟩ | ⟨rfl, w65, w66⟩ | ⟨rfl, w67, w68⟩ | ⟨rfl, w69, w70, w71⟩ | ⟨rfl, w72, w73, w74⟩ | ⟨rfl, w75, w76, w77⟩
    · refine lv_icmp_eq (tgt := 3153) hx hb dL_law_3012 (by decide) (fun c78 => ?_) (fun c78 => ?_)
      · refine lv_iinc (v := 6) (lv' := [(3, .int 6), (2, .ref qm), (1, .ref qx), (0, .ref b)]) hx hb dL_law_3153 hl (k := 0) rfl (by decide) (by decide) rfl ?_
        clear hl
        clear ls
        intro ls hl
        refine lv_goto (tgt := 18) hx hb dL_law_3156 (by decide) ?_
        refine lv_iload_n hx hb dL_law_18 rfl (lv_at hl 0 rfl) ?_
        refine lv_aload_n hx hb dL_law_19 rfl (lv_at hl 3 rfl) ?_
        refine va_slen hx hb hX hbl hbA hS dL_law_20 ?_
        refine lv_topi (fun v79 ev79 => ?_)
        obtain rfl : v79 = 6 := ev79.trans (by decide)
        refine lv_bipush (v := 6) hx hb dL_law_21 (by decide) ?_
        refine lv_isub hx hb dL_law_23 ?_
        refine lv_topi (fun v80 ev80 => ?_)
        obtain rfl : v80 = 0 := ev80.trans (by decide)
        refine lv_icmp_gt (tgt := 3159) hx hb dL_law_24 (by decide) (fun c81 => ?_) (fun c81 => ?_)
        · refine lv_iconst (v := 1) hx hb dL_law_3159 (by decide) ?_
          refine va_forget (fun q hq => by have := hS.2.2 q hq; rw [hAe] at this; exact this) ?_
          refine W.widen (k := 600000) (n := 7302250) (Nat.le_of_ble_eq_true rfl) (Nat.le_of_ble_eq_true rfl) ?_
          exact lw_ret hx hb hr hlocks dL_law_3160
        · have q82 := mm_leL (mm_nlt c81) mm_k6 mm_k0
          exact mm_no q82 (by decide)
      · have q83 := mm_neL (lo := (-1)) (mm_ne c78) mm_km2 mm_km2 (by decide) (by decide)
        exact mm_no q83 (by decide)
    · exact mm_noX w64 w36 (by decide)
    · exact mm_noX w65 w36 (by decide)
    · exact mm_noX w67 w36 (by decide)
    · exact mm_noX w69 w36 (by decide)
    · exact mm_noX w72 w36 (by decide)
    · exact mm_noX w75 w36 (by decide)
  · refine lv_aload_n hx hb dL_law_2993 rfl (lv_at hl 1 rfl) ?_
    refine lv_aload_n hx hb dL_law_2994 rfl (lv_at hl 3 rfl) ?_
    refine lv_iload_n hx hb dL_law_2995 rfl (lv_at hl 0 rfl) ?_
    refine lv_iconst (v := 1) hx hb dL_law_2996 (by decide) ?_
    refine lv_iadd hx hb dL_law_2997 ?_
    refine lv_topi (fun v84 ev84 => ?_)
    obtain rfl : v84 = 1 := ev84.trans (by decide)
    refine va_sld hx hb hX hbl hbA hS (mm_in mm_k1 (by decide)) dL_law_2998 ?_
    refine lv_topi (fun v85 ev85 => ?_)
    obtain rfl : p1 = v85 := ep1.trans ev85.symm
    refine lv_aload_n hx hb dL_law_2999 rfl (lv_at hl 3 rfl) ?_
    refine lv_iload_n hx hb dL_law_3000 rfl (lv_at hl 0 rfl) ?_
    refine lv_iconst (v := 2) hx hb dL_law_3001 (by decide) ?_
    refine lv_iadd hx hb dL_law_3002 ?_
    refine lv_topi (fun v86 ev86 => ?_)
    obtain rfl : v86 = 2 := ev86.trans (by decide)
    refine va_sld hx hb hX hbl hbA hS (mm_in mm_k2 (by decide)) dL_law_3003 ?_
    refine lv_topi (fun v87 ev87 => ?_)
    obtain rfl : p2 = v87 := ep2.trans ev87.symm
    refine lv_aload_n hx hb dL_law_3004 rfl (lv_at hl 3 rfl) ?_
    refine lv_iload_n hx hb dL_law_3005 rfl (lv_at hl 0 rfl) ?_
    refine lv_iconst (v := 3) hx hb dL_law_3006 (by decide) ?_
    refine lv_iadd hx hb dL_law_3007 ?_
    refine lv_topi (fun v88 ev88 => ?_)
    obtain rfl : v88 = 3 := ev88.trans (by decide)
    refine va_sld hx hb hX hbl hbA hS (mm_in mm_k3 (by decide)) dL_law_3008 ?_
    refine lv_topi (fun v89 ev89 => ?_)
    obtain rfl : p3 = v89 := ep3.trans ev89.symm
    refine mm_fini (va_runV (As := [.int p1, .int p2, .int p3]) (rest := [.int (-2)]) ⟨hx, hb, hml, hown, hts⟩ (K314_X12_row l G cy H.size qm p1 p2 p3 (um 0) (um 1) (um 2) (um 3) (um 4) 0 0 0 0 0 0 0 0 0 (-1) (um 5) (um 6) (um 7) (um 8) (um 9) (um 10) (um 11) (um 12) (um 13) (um 14) (um 15) (um 16) (um 17) 0 0 0 0 0 0 (um 18) 0 (um 19) ) (cwV 3 hts (mm_gV mm_w1686 mm_w1687 mm_w1688 mm_w5 mm_w1689) rfl rfl rfl hd_X12_row ⟨by rw [hRf]; exact Nat.le_of_ble_eq_true rfl, by rw [hRl]; exact Nat.le_of_ble_eq_true rfl⟩) (mm_preV hK hP hD [10, 11, 12, 13] rfl rfl 10 rfl rfl rfl) rfl rfl hl.1 rfl (lv_room (Nat.le_of_ble_eq_true rfl)) dL_law_3009 ⟨by rw [hRc]; exact Nat.le_of_ble_eq_true rfl, by rw [hRs]; exact Nat.le_of_ble_eq_true rfl⟩) hP hD hS hA (fun u : (Nat → Int32) × (Nat → Int32) × (Nat → Int64) => [(qx, .inr (11, [.ref (ux 0), .ref (ux 2), .ref (ux 14), .ref (ux 36), .ref (ux 70), .ref (ux 71), .ref (ux 80), .ref (ux 82), .ref (ux 84), .ref (ux 89), .ref (ux 92)])), ((ux 71), .inl (cy 6, 4, .inr (.inr (.inr (.inr (va_up (va_up (va_up (va_up (fun _ => none) 0 (some (ux 72))) 1 (some (ux 74))) 2 (some (ux 76))) 3 (some (ux 78)))))))), ((ux 72), .inr (6, [.int n7, .int n8, .int n9, .ref (ux 73)])), ((ux 73), .inl (cy 2, 60, .inr (.inl n10))), ((ux 74), .inr (6, [.int n11, .int n12, .int n13, .ref (ux 75)])), ((ux 75), .inl (cy 2, 60, .inr (.inl n14))), ((ux 76), .inr (6, [.int n15, .int n16, .int n17, .ref (ux 77)])), ((ux 77), .inl (cy 2, 60, .inr (.inl n18))), ((ux 78), .inr (6, [.int n19, .int n20, .int n21, .ref (ux 79)])), ((ux 79), .inl (cy 2, 60, .inr (.inl n22))), (qm, .inr (12, [.int 0, .ref (um 0), .ref (um 1), .ref (um 2), .ref (um 3), .ref (um 4), .int 0, .int 0, .int 0, .int 0, .int 0, .long 0, .int 0, .int 0, .int 0, .int (-1), .ref (um 5), .ref (um 6), .ref (um 7), .ref (um 8), .ref (um 9), .ref (um 10), .ref (um 11), .ref (um 12), .ref (um 13), .ref (um 14), .ref (um 15), .ref (um 16), .ref (um 17), .int 0, .int 0, .int 0, .int 0, .int 0, .int 0, .ref (um 18), .int 0, .ref (um 19)])), ((um 0), .inl (cy 1, 4, .inl u.1)), ((um 1), .inl (cy 1, 4, .inl u.2.1)), ((um 2), .inl (cy 2, 240, .inr (.inl u.2.2)))]) [10, 11, 12, 13] [0, 1, 2, 3, 4, 5, 6, 7, 8, 9] (n := 14) (fun _ => rfl) (by decide +kernel) (by decide +kernel) rfl (fun _ => rfl) (wr := [(qx, .inr (11, [.ref (ux 0), .ref (ux 2), .ref (ux 14), .ref (ux 36), .ref (ux 70), .ref (ux 71), .ref (ux 80), .ref (ux 82), .ref (ux 84), .ref (ux 89), .ref (ux 92)])), ((ux 71), .inl (cy 6, 4, .inr (.inr (.inr (.inr (va_up (va_up (va_up (va_up (fun _ => none) 0 (some (ux 72))) 1 (some (ux 74))) 2 (some (ux 76))) 3 (some (ux 78)))))))), ((ux 72), .inr (6, [.int n7, .int n8, .int n9, .ref (ux 73)])), ((ux 73), .inl (cy 2, 60, .inr (.inl n10))), ((ux 74), .inr (6, [.int n11, .int n12, .int n13, .ref (ux 75)])), ((ux 75), .inl (cy 2, 60, .inr (.inl n14))), ((ux 76), .inr (6, [.int n15, .int n16, .int n17, .ref (ux 77)])), ((ux 77), .inl (cy 2, 60, .inr (.inl n18))), ((ux 78), .inr (6, [.int n19, .int n20, .int n21, .ref (ux 79)])), ((ux 79), .inl (cy 2, 60, .inr (.inl n22)))]) rfl (fun _ => rfl) (fun _ => rfl) ?_
    clear hP hD hS
    clear H locs
    intro v93 u
    obtain ⟨n90, n91, n92⟩ := u
    intro H locs hw (hP : va_P G vwCl [(qx, .inr (11, [.ref (ux 0), .ref (ux 2), .ref (ux 14), .ref (ux 36), .ref (ux 70), .ref (ux 71), .ref (ux 80), .ref (ux 82), .ref (ux 84), .ref (ux 89), .ref (ux 92)])), ((ux 71), .inl (cy 6, 4, .inr (.inr (.inr (.inr (va_up (va_up (va_up (va_up (fun _ => none) 0 (some (ux 72))) 1 (some (ux 74))) 2 (some (ux 76))) 3 (some (ux 78)))))))), ((ux 72), .inr (6, [.int n7, .int n8, .int n9, .ref (ux 73)])), ((ux 73), .inl (cy 2, 60, .inr (.inl n10))), ((ux 74), .inr (6, [.int n11, .int n12, .int n13, .ref (ux 75)])), ((ux 75), .inl (cy 2, 60, .inr (.inl n14))), ((ux 76), .inr (6, [.int n15, .int n16, .int n17, .ref (ux 77)])), ((ux 77), .inl (cy 2, 60, .inr (.inl n18))), ((ux 78), .inr (6, [.int n19, .int n20, .int n21, .ref (ux 79)])), ((ux 79), .inl (cy 2, 60, .inr (.inl n22))), (qm, .inr (12, [.int 0, .ref (um 0), .ref (um 1), .ref (um 2), .ref (um 3), .ref (um 4), .int 0, .int 0, .int 0, .int 0, .int 0, .long 0, .int 0, .int 0, .int 0, .int (-1), .ref (um 5), .ref (um 6), .ref (um 7), .ref (um 8), .ref (um 9), .ref (um 10), .ref (um 11), .ref (um 12), .ref (um 13), .ref (um 14), .ref (um 15), .ref (um 16), .ref (um 17), .int 0, .int 0, .int 0, .int 0, .int 0, .int 0, .ref (um 18), .int 0, .ref (um 19)])), ((um 0), .inl (cy 1, 4, .inl n90)), ((um 1), .inl (cy 1, 4, .inl n91)), ((um 2), .inl (cy 2, 240, .inr (.inl n92)))] H) (hD : va_D A [(qx, .inr (11, [.ref (ux 0), .ref (ux 2), .ref (ux 14), .ref (ux 36), .ref (ux 70), .ref (ux 71), .ref (ux 80), .ref (ux 82), .ref (ux 84), .ref (ux 89), .ref (ux 92)])), ((ux 71), .inl (cy 6, 4, .inr (.inr (.inr (.inr (va_up (va_up (va_up (va_up (fun _ => none) 0 (some (ux 72))) 1 (some (ux 74))) 2 (some (ux 76))) 3 (some (ux 78)))))))), ((ux 72), .inr (6, [.int n7, .int n8, .int n9, .ref (ux 73)])), ((ux 73), .inl (cy 2, 60, .inr (.inl n10))), ((ux 74), .inr (6, [.int n11, .int n12, .int n13, .ref (ux 75)])), ((ux 75), .inl (cy 2, 60, .inr (.inl n14))), ((ux 76), .inr (6, [.int n15, .int n16, .int n17, .ref (ux 77)])), ((ux 77), .inl (cy 2, 60, .inr (.inl n18))), ((ux 78), .inr (6, [.int n19, .int n20, .int n21, .ref (ux 79)])), ((ux 79), .inl (cy 2, 60, .inr (.inl n22))), (qm, .inr (12, [.int 0, .ref (um 0), .ref (um 1), .ref (um 2), .ref (um 3), .ref (um 4), .int 0, .int 0, .int 0, .int 0, .int 0, .long 0, .int 0, .int 0, .int 0, .int (-1), .ref (um 5), .ref (um 6), .ref (um 7), .ref (um 8), .ref (um 9), .ref (um 10), .ref (um 11), .ref (um 12), .ref (um 13), .ref (um 14), .ref (um 15), .ref (um 16), .ref (um 17), .int 0, .int 0, .int 0, .int 0, .int 0, .int 0, .ref (um 18), .int 0, .ref (um 19)])), ((um 0), .inl (cy 1, 4, .inl n90)), ((um 1), .inl (cy 1, 4, .inl n91)), ((um 2), .inl (cy 2, 240, .inr (.inl n92)))]) hS
    obtain ⟨w94, w95, hw⟩ := hw
    rcases hw with ⟨rfl, w96⟩ | ⟨rfl, w97⟩ | ⟨rfl, w98, w99⟩ | ⟨rfl, w100, w101⟩ | ⟨rfl, w102, w103, w104⟩ | ⟨rfl, w105, w106, w107⟩ | ⟨rfl, w108, w109, w110⟩
    · exact mm_noX w96 w37 (by decide)
    · refine lv_icmp_eq (tgt := 3153) hx hb dL_law_3012 (by decide) (fun c111 => ?_) (fun c111 => ?_)
      · refine lv_iinc (v := 6) (lv' := [(3, .int 6), (2, .ref qm), (1, .ref qx), (0, .ref b)]) hx hb dL_law_3153 hl (k := 0) rfl (by decide) (by decide) rfl ?_
        clear hl
        clear ls
        intro ls hl
        refine lv_goto (tgt := 18) hx hb dL_law_3156 (by decide) ?_
        refine lv_iload_n hx hb dL_law_18 rfl (lv_at hl 0 rfl) ?_
        refine lv_aload_n hx hb dL_law_19 rfl (lv_at hl 3 rfl) ?_
        refine va_slen hx hb hX hbl hbA hS dL_law_20 ?_
        refine lv_topi (fun v112 ev112 => ?_)
        obtain rfl : v112 = 6 := ev112.trans (by decide)
        refine lv_bipush (v := 6) hx hb dL_law_21 (by decide) ?_
        refine lv_isub hx hb dL_law_23 ?_
        refine lv_topi (fun v113 ev113 => ?_)
        obtain rfl : v113 = 0 := ev113.trans (by decide)
        refine lv_icmp_gt (tgt := 3159) hx hb dL_law_24 (by decide) (fun c114 => ?_) (fun c114 => ?_)
        · refine lv_iconst (v := 1) hx hb dL_law_3159 (by decide) ?_
          refine va_forget (fun q hq => by have := hS.2.2 q hq; rw [hAe] at this; exact this) ?_
          refine W.widen (k := 600000) (n := 7302250) (Nat.le_of_ble_eq_true rfl) (Nat.le_of_ble_eq_true rfl) ?_
          exact lw_ret hx hb hr hlocks dL_law_3160
        · have q115 := mm_leL (mm_nlt c114) mm_k6 mm_k0
          exact mm_no q115 (by decide)
      · have q116 := mm_neL (lo := (-1)) (mm_ne c111) mm_km2 mm_km2 (by decide) (by decide)
        exact mm_no q116 (by decide)
    · exact mm_noX w98 w37 (by decide)
    · exact mm_noX w100 w37 (by decide)
    · exact mm_noX w102 w37 (by decide)
    · exact mm_noX w105 w37 (by decide)
    · exact mm_noX w108 w37 (by decide)
  · refine lv_aload_n hx hb dL_law_2993 rfl (lv_at hl 1 rfl) ?_
    refine lv_aload_n hx hb dL_law_2994 rfl (lv_at hl 3 rfl) ?_
    refine lv_iload_n hx hb dL_law_2995 rfl (lv_at hl 0 rfl) ?_
    refine lv_iconst (v := 1) hx hb dL_law_2996 (by decide) ?_
    refine lv_iadd hx hb dL_law_2997 ?_
    refine lv_topi (fun v117 ev117 => ?_)
    obtain rfl : v117 = 1 := ev117.trans (by decide)
    refine va_sld hx hb hX hbl hbA hS (mm_in mm_k1 (by decide)) dL_law_2998 ?_
    refine lv_topi (fun v118 ev118 => ?_)
    obtain rfl : p1 = v118 := ep1.trans ev118.symm
    refine lv_aload_n hx hb dL_law_2999 rfl (lv_at hl 3 rfl) ?_
    refine lv_iload_n hx hb dL_law_3000 rfl (lv_at hl 0 rfl) ?_
    refine lv_iconst (v := 2) hx hb dL_law_3001 (by decide) ?_
    refine lv_iadd hx hb dL_law_3002 ?_
    refine lv_topi (fun v119 ev119 => ?_)
    obtain rfl : v119 = 2 := ev119.trans (by decide)
    refine va_sld hx hb hX hbl hbA hS (mm_in mm_k2 (by decide)) dL_law_3003 ?_
    refine lv_topi (fun v120 ev120 => ?_)
    obtain rfl : p2 = v120 := ep2.trans ev120.symm
    refine lv_aload_n hx hb dL_law_3004 rfl (lv_at hl 3 rfl) ?_
    refine lv_iload_n hx hb dL_law_3005 rfl (lv_at hl 0 rfl) ?_
    refine lv_iconst (v := 3) hx hb dL_law_3006 (by decide) ?_
    refine lv_iadd hx hb dL_law_3007 ?_
    refine lv_topi (fun v121 ev121 => ?_)
    obtain rfl : v121 = 3 := ev121.trans (by decide)
    refine va_sld hx hb hX hbl hbA hS (mm_in mm_k3 (by decide)) dL_law_3008 ?_
    refine lv_topi (fun v122 ev122 => ?_)
    obtain rfl : p3 = v122 := ep3.trans ev122.symm
    refine mm_fini (va_runV (As := [.int p1, .int p2, .int p3]) (rest := [.int (-2)]) ⟨hx, hb, hml, hown, hts⟩ (K314_X12_row l G cy H.size qm p1 p2 p3 (um 0) (um 1) (um 2) (um 3) (um 4) 0 0 0 0 0 0 0 0 0 (-1) (um 5) (um 6) (um 7) (um 8) (um 9) (um 10) (um 11) (um 12) (um 13) (um 14) (um 15) (um 16) (um 17) 0 0 0 0 0 0 (um 18) 0 (um 19) ) (cwV 3 hts (mm_gV mm_w1686 mm_w1687 mm_w1688 mm_w5 mm_w1689) rfl rfl rfl hd_X12_row ⟨by rw [hRf]; exact Nat.le_of_ble_eq_true rfl, by rw [hRl]; exact Nat.le_of_ble_eq_true rfl⟩) (mm_preV hK hP hD [10, 11, 12, 13] rfl rfl 10 rfl rfl rfl) rfl rfl hl.1 rfl (lv_room (Nat.le_of_ble_eq_true rfl)) dL_law_3009 ⟨by rw [hRc]; exact Nat.le_of_ble_eq_true rfl, by rw [hRs]; exact Nat.le_of_ble_eq_true rfl⟩) hP hD hS hA (fun u : (Nat → Int32) × (Nat → Int32) × (Nat → Int64) => [(qx, .inr (11, [.ref (ux 0), .ref (ux 2), .ref (ux 14), .ref (ux 36), .ref (ux 70), .ref (ux 71), .ref (ux 80), .ref (ux 82), .ref (ux 84), .ref (ux 89), .ref (ux 92)])), ((ux 71), .inl (cy 6, 4, .inr (.inr (.inr (.inr (va_up (va_up (va_up (va_up (fun _ => none) 0 (some (ux 72))) 1 (some (ux 74))) 2 (some (ux 76))) 3 (some (ux 78)))))))), ((ux 72), .inr (6, [.int n7, .int n8, .int n9, .ref (ux 73)])), ((ux 73), .inl (cy 2, 60, .inr (.inl n10))), ((ux 74), .inr (6, [.int n11, .int n12, .int n13, .ref (ux 75)])), ((ux 75), .inl (cy 2, 60, .inr (.inl n14))), ((ux 76), .inr (6, [.int n15, .int n16, .int n17, .ref (ux 77)])), ((ux 77), .inl (cy 2, 60, .inr (.inl n18))), ((ux 78), .inr (6, [.int n19, .int n20, .int n21, .ref (ux 79)])), ((ux 79), .inl (cy 2, 60, .inr (.inl n22))), (qm, .inr (12, [.int 0, .ref (um 0), .ref (um 1), .ref (um 2), .ref (um 3), .ref (um 4), .int 0, .int 0, .int 0, .int 0, .int 0, .long 0, .int 0, .int 0, .int 0, .int (-1), .ref (um 5), .ref (um 6), .ref (um 7), .ref (um 8), .ref (um 9), .ref (um 10), .ref (um 11), .ref (um 12), .ref (um 13), .ref (um 14), .ref (um 15), .ref (um 16), .ref (um 17), .int 0, .int 0, .int 0, .int 0, .int 0, .int 0, .ref (um 18), .int 0, .ref (um 19)])), ((um 0), .inl (cy 1, 4, .inl u.1)), ((um 1), .inl (cy 1, 4, .inl u.2.1)), ((um 2), .inl (cy 2, 240, .inr (.inl u.2.2)))]) [10, 11, 12, 13] [0, 1, 2, 3, 4, 5, 6, 7, 8, 9] (n := 14) (fun _ => rfl) (by decide +kernel) (by decide +kernel) rfl (fun _ => rfl) (wr := [(qx, .inr (11, [.ref (ux 0), .ref (ux 2), .ref (ux 14), .ref (ux 36), .ref (ux 70), .ref (ux 71), .ref (ux 80), .ref (ux 82), .ref (ux 84), .ref (ux 89), .ref (ux 92)])), ((ux 71), .inl (cy 6, 4, .inr (.inr (.inr (.inr (va_up (va_up (va_up (va_up (fun _ => none) 0 (some (ux 72))) 1 (some (ux 74))) 2 (some (ux 76))) 3 (some (ux 78)))))))), ((ux 72), .inr (6, [.int n7, .int n8, .int n9, .ref (ux 73)])), ((ux 73), .inl (cy 2, 60, .inr (.inl n10))), ((ux 74), .inr (6, [.int n11, .int n12, .int n13, .ref (ux 75)])), ((ux 75), .inl (cy 2, 60, .inr (.inl n14))), ((ux 76), .inr (6, [.int n15, .int n16, .int n17, .ref (ux 77)])), ((ux 77), .inl (cy 2, 60, .inr (.inl n18))), ((ux 78), .inr (6, [.int n19, .int n20, .int n21, .ref (ux 79)])), ((ux 79), .inl (cy 2, 60, .inr (.inl n22)))]) rfl (fun _ => rfl) (fun _ => rfl) ?_
    clear hP hD hS
    clear H locs
    intro v126 u
    obtain ⟨n123, n124, n125⟩ := u
    intro H locs hw (hP : va_P G vwCl [(qx, .inr (11, [.ref (ux 0), .ref (ux 2), .ref (ux 14), .ref (ux 36), .ref (ux 70), .ref (ux 71), .ref (ux 80), .ref (ux 82), .ref (ux 84), .ref (ux 89), .ref (ux 92)])), ((ux 71), .inl (cy 6, 4, .inr (.inr (.inr (.inr (va_up (va_up (va_up (va_up (fun _ => none) 0 (some (ux 72))) 1 (some (ux 74))) 2 (some (ux 76))) 3 (some (ux 78)))))))), ((ux 72), .inr (6, [.int n7, .int n8, .int n9, .ref (ux 73)])), ((ux 73), .inl (cy 2, 60, .inr (.inl n10))), ((ux 74), .inr (6, [.int n11, .int n12, .int n13, .ref (ux 75)])), ((ux 75), .inl (cy 2, 60, .inr (.inl n14))), ((ux 76), .inr (6, [.int n15, .int n16, .int n17, .ref (ux 77)])), ((ux 77), .inl (cy 2, 60, .inr (.inl n18))), ((ux 78), .inr (6, [.int n19, .int n20, .int n21, .ref (ux 79)])), ((ux 79), .inl (cy 2, 60, .inr (.inl n22))), (qm, .inr (12, [.int 0, .ref (um 0), .ref (um 1), .ref (um 2), .ref (um 3), .ref (um 4), .int 0, .int 0, .int 0, .int 0, .int 0, .long 0, .int 0, .int 0, .int 0, .int (-1), .ref (um 5), .ref (um 6), .ref (um 7), .ref (um 8), .ref (um 9), .ref (um 10), .ref (um 11), .ref (um 12), .ref (um 13), .ref (um 14), .ref (um 15), .ref (um 16), .ref (um 17), .int 0, .int 0, .int 0, .int 0, .int 0, .int 0, .ref (um 18), .int 0, .ref (um 19)])), ((um 0), .inl (cy 1, 4, .inl n123)), ((um 1), .inl (cy 1, 4, .inl n124)), ((um 2), .inl (cy 2, 240, .inr (.inl n125)))] H) (hD : va_D A [(qx, .inr (11, [.ref (ux 0), .ref (ux 2), .ref (ux 14), .ref (ux 36), .ref (ux 70), .ref (ux 71), .ref (ux 80), .ref (ux 82), .ref (ux 84), .ref (ux 89), .ref (ux 92)])), ((ux 71), .inl (cy 6, 4, .inr (.inr (.inr (.inr (va_up (va_up (va_up (va_up (fun _ => none) 0 (some (ux 72))) 1 (some (ux 74))) 2 (some (ux 76))) 3 (some (ux 78)))))))), ((ux 72), .inr (6, [.int n7, .int n8, .int n9, .ref (ux 73)])), ((ux 73), .inl (cy 2, 60, .inr (.inl n10))), ((ux 74), .inr (6, [.int n11, .int n12, .int n13, .ref (ux 75)])), ((ux 75), .inl (cy 2, 60, .inr (.inl n14))), ((ux 76), .inr (6, [.int n15, .int n16, .int n17, .ref (ux 77)])), ((ux 77), .inl (cy 2, 60, .inr (.inl n18))), ((ux 78), .inr (6, [.int n19, .int n20, .int n21, .ref (ux 79)])), ((ux 79), .inl (cy 2, 60, .inr (.inl n22))), (qm, .inr (12, [.int 0, .ref (um 0), .ref (um 1), .ref (um 2), .ref (um 3), .ref (um 4), .int 0, .int 0, .int 0, .int 0, .int 0, .long 0, .int 0, .int 0, .int 0, .int (-1), .ref (um 5), .ref (um 6), .ref (um 7), .ref (um 8), .ref (um 9), .ref (um 10), .ref (um 11), .ref (um 12), .ref (um 13), .ref (um 14), .ref (um 15), .ref (um 16), .ref (um 17), .int 0, .int 0, .int 0, .int 0, .int 0, .int 0, .ref (um 18), .int 0, .ref (um 19)])), ((um 0), .inl (cy 1, 4, .inl n123)), ((um 1), .inl (cy 1, 4, .inl n124)), ((um 2), .inl (cy 2, 240, .inr (.inl n125)))]) hS
    obtain ⟨w127, w128, hw⟩ := hw
    rcases hw with ⟨rfl, w129⟩ | ⟨rfl, w130⟩ | ⟨rfl, w131, w132⟩ | ⟨rfl, w133, w134⟩ | ⟨rfl, w135, w136, w137⟩ | ⟨rfl, w138, w139, w140⟩ | ⟨rfl, w141, w142, w143⟩
    · exact mm_noX w129 w38 (by decide)
    · exact mm_noX w130 w38 (by decide)
    · refine lv_icmp_eq (tgt := 3153) hx hb dL_law_3012 (by decide) (fun c144 => ?_) (fun c144 => ?_)
      · refine lv_iinc (v := 6) (lv' := [(3, .int 6), (2, .ref qm), (1, .ref qx), (0, .ref b)]) hx hb dL_law_3153 hl (k := 0) rfl (by decide) (by decide) rfl ?_
        clear hl
        clear ls
        intro ls hl
        refine lv_goto (tgt := 18) hx hb dL_law_3156 (by decide) ?_
        refine lv_iload_n hx hb dL_law_18 rfl (lv_at hl 0 rfl) ?_
        refine lv_aload_n hx hb dL_law_19 rfl (lv_at hl 3 rfl) ?_
        refine va_slen hx hb hX hbl hbA hS dL_law_20 ?_
        refine lv_topi (fun v145 ev145 => ?_)
        obtain rfl : v145 = 6 := ev145.trans (by decide)
        refine lv_bipush (v := 6) hx hb dL_law_21 (by decide) ?_
        refine lv_isub hx hb dL_law_23 ?_
        refine lv_topi (fun v146 ev146 => ?_)
        obtain rfl : v146 = 0 := ev146.trans (by decide)
        refine lv_icmp_gt (tgt := 3159) hx hb dL_law_24 (by decide) (fun c147 => ?_) (fun c147 => ?_)
        · refine lv_iconst (v := 1) hx hb dL_law_3159 (by decide) ?_
          refine va_forget (fun q hq => by have := hS.2.2 q hq; rw [hAe] at this; exact this) ?_
          refine W.widen (k := 600000) (n := 7302250) (Nat.le_of_ble_eq_true rfl) (Nat.le_of_ble_eq_true rfl) ?_
          exact lw_ret hx hb hr hlocks dL_law_3160
        · have q148 := mm_leL (mm_nlt c147) mm_k6 mm_k0
          exact mm_no q148 (by decide)
      · have q149 := mm_neL (lo := (-1)) (mm_ne c144) mm_km2 mm_km2 (by decide) (by decide)
        exact mm_no q149 (by decide)
    · exact mm_noX w134 w39 (by decide)
    · exact mm_noX w136 w39 (by decide)
    · exact mm_noX w139 w39 (by decide)
    · exact mm_noX w142 w39 (by decide)
  · refine lv_aload_n hx hb dL_law_2993 rfl (lv_at hl 1 rfl) ?_
    refine lv_aload_n hx hb dL_law_2994 rfl (lv_at hl 3 rfl) ?_
    refine lv_iload_n hx hb dL_law_2995 rfl (lv_at hl 0 rfl) ?_
    refine lv_iconst (v := 1) hx hb dL_law_2996 (by decide) ?_
    refine lv_iadd hx hb dL_law_2997 ?_
    refine lv_topi (fun v150 ev150 => ?_)
    obtain rfl : v150 = 1 := ev150.trans (by decide)
    refine va_sld hx hb hX hbl hbA hS (mm_in mm_k1 (by decide)) dL_law_2998 ?_
    refine lv_topi (fun v151 ev151 => ?_)
    obtain rfl : p1 = v151 := ep1.trans ev151.symm
    refine lv_aload_n hx hb dL_law_2999 rfl (lv_at hl 3 rfl) ?_
    refine lv_iload_n hx hb dL_law_3000 rfl (lv_at hl 0 rfl) ?_
    refine lv_iconst (v := 2) hx hb dL_law_3001 (by decide) ?_
    refine lv_iadd hx hb dL_law_3002 ?_
    refine lv_topi (fun v152 ev152 => ?_)
    obtain rfl : v152 = 2 := ev152.trans (by decide)
    refine va_sld hx hb hX hbl hbA hS (mm_in mm_k2 (by decide)) dL_law_3003 ?_
    refine lv_topi (fun v153 ev153 => ?_)
    obtain rfl : p2 = v153 := ep2.trans ev153.symm
    refine lv_aload_n hx hb dL_law_3004 rfl (lv_at hl 3 rfl) ?_
    refine lv_iload_n hx hb dL_law_3005 rfl (lv_at hl 0 rfl) ?_
    refine lv_iconst (v := 3) hx hb dL_law_3006 (by decide) ?_
    refine lv_iadd hx hb dL_law_3007 ?_
    refine lv_topi (fun v154 ev154 => ?_)
    obtain rfl : v154 = 3 := ev154.trans (by decide)
    refine va_sld hx hb hX hbl hbA hS (mm_in mm_k3 (by decide)) dL_law_3008 ?_
    refine lv_topi (fun v155 ev155 => ?_)
    obtain rfl : p3 = v155 := ep3.trans ev155.symm
    refine mm_fini (va_runV (As := [.int p1, .int p2, .int p3]) (rest := [.int (-2)]) ⟨hx, hb, hml, hown, hts⟩ (K314_X12_row l G cy H.size qm p1 p2 p3 (um 0) (um 1) (um 2) (um 3) (um 4) 0 0 0 0 0 0 0 0 0 (-1) (um 5) (um 6) (um 7) (um 8) (um 9) (um 10) (um 11) (um 12) (um 13) (um 14) (um 15) (um 16) (um 17) 0 0 0 0 0 0 (um 18) 0 (um 19) ) (cwV 3 hts (mm_gV mm_w1686 mm_w1687 mm_w1688 mm_w5 mm_w1689) rfl rfl rfl hd_X12_row ⟨by rw [hRf]; exact Nat.le_of_ble_eq_true rfl, by rw [hRl]; exact Nat.le_of_ble_eq_true rfl⟩) (mm_preV hK hP hD [10, 11, 12, 13] rfl rfl 10 rfl rfl rfl) rfl rfl hl.1 rfl (lv_room (Nat.le_of_ble_eq_true rfl)) dL_law_3009 ⟨by rw [hRc]; exact Nat.le_of_ble_eq_true rfl, by rw [hRs]; exact Nat.le_of_ble_eq_true rfl⟩) hP hD hS hA (fun u : (Nat → Int32) × (Nat → Int32) × (Nat → Int64) => [(qx, .inr (11, [.ref (ux 0), .ref (ux 2), .ref (ux 14), .ref (ux 36), .ref (ux 70), .ref (ux 71), .ref (ux 80), .ref (ux 82), .ref (ux 84), .ref (ux 89), .ref (ux 92)])), ((ux 71), .inl (cy 6, 4, .inr (.inr (.inr (.inr (va_up (va_up (va_up (va_up (fun _ => none) 0 (some (ux 72))) 1 (some (ux 74))) 2 (some (ux 76))) 3 (some (ux 78)))))))), ((ux 72), .inr (6, [.int n7, .int n8, .int n9, .ref (ux 73)])), ((ux 73), .inl (cy 2, 60, .inr (.inl n10))), ((ux 74), .inr (6, [.int n11, .int n12, .int n13, .ref (ux 75)])), ((ux 75), .inl (cy 2, 60, .inr (.inl n14))), ((ux 76), .inr (6, [.int n15, .int n16, .int n17, .ref (ux 77)])), ((ux 77), .inl (cy 2, 60, .inr (.inl n18))), ((ux 78), .inr (6, [.int n19, .int n20, .int n21, .ref (ux 79)])), ((ux 79), .inl (cy 2, 60, .inr (.inl n22))), (qm, .inr (12, [.int 0, .ref (um 0), .ref (um 1), .ref (um 2), .ref (um 3), .ref (um 4), .int 0, .int 0, .int 0, .int 0, .int 0, .long 0, .int 0, .int 0, .int 0, .int (-1), .ref (um 5), .ref (um 6), .ref (um 7), .ref (um 8), .ref (um 9), .ref (um 10), .ref (um 11), .ref (um 12), .ref (um 13), .ref (um 14), .ref (um 15), .ref (um 16), .ref (um 17), .int 0, .int 0, .int 0, .int 0, .int 0, .int 0, .ref (um 18), .int 0, .ref (um 19)])), ((um 0), .inl (cy 1, 4, .inl u.1)), ((um 1), .inl (cy 1, 4, .inl u.2.1)), ((um 2), .inl (cy 2, 240, .inr (.inl u.2.2)))]) [10, 11, 12, 13] [0, 1, 2, 3, 4, 5, 6, 7, 8, 9] (n := 14) (fun _ => rfl) (by decide +kernel) (by decide +kernel) rfl (fun _ => rfl) (wr := [(qx, .inr (11, [.ref (ux 0), .ref (ux 2), .ref (ux 14), .ref (ux 36), .ref (ux 70), .ref (ux 71), .ref (ux 80), .ref (ux 82), .ref (ux 84), .ref (ux 89), .ref (ux 92)])), ((ux 71), .inl (cy 6, 4, .inr (.inr (.inr (.inr (va_up (va_up (va_up (va_up (fun _ => none) 0 (some (ux 72))) 1 (some (ux 74))) 2 (some (ux 76))) 3 (some (ux 78)))))))), ((ux 72), .inr (6, [.int n7, .int n8, .int n9, .ref (ux 73)])), ((ux 73), .inl (cy 2, 60, .inr (.inl n10))), ((ux 74), .inr (6, [.int n11, .int n12, .int n13, .ref (ux 75)])), ((ux 75), .inl (cy 2, 60, .inr (.inl n14))), ((ux 76), .inr (6, [.int n15, .int n16, .int n17, .ref (ux 77)])), ((ux 77), .inl (cy 2, 60, .inr (.inl n18))), ((ux 78), .inr (6, [.int n19, .int n20, .int n21, .ref (ux 79)])), ((ux 79), .inl (cy 2, 60, .inr (.inl n22)))]) rfl (fun _ => rfl) (fun _ => rfl) ?_
    clear hP hD hS
    clear H locs
    intro v159 u
    obtain ⟨n156, n157, n158⟩ := u
    intro H locs hw (hP : va_P G vwCl [(qx, .inr (11, [.ref (ux 0), .ref (ux 2), .ref (ux 14), .ref (ux 36), .ref (ux 70), .ref (ux 71), .ref (ux 80), .ref (ux 82), .ref (ux 84), .ref (ux 89), .ref (ux 92)])), ((ux 71), .inl (cy 6, 4, .inr (.inr (.inr (.inr (va_up (va_up (va_up (va_up (fun _ => none) 0 (some (ux 72))) 1 (some (ux 74))) 2 (some (ux 76))) 3 (some (ux 78)))))))), ((ux 72), .inr (6, [.int n7, .int n8, .int n9, .ref (ux 73)])), ((ux 73), .inl (cy 2, 60, .inr (.inl n10))), ((ux 74), .inr (6, [.int n11, .int n12, .int n13, .ref (ux 75)])), ((ux 75), .inl (cy 2, 60, .inr (.inl n14))), ((ux 76), .inr (6, [.int n15, .int n16, .int n17, .ref (ux 77)])), ((ux 77), .inl (cy 2, 60, .inr (.inl n18))), ((ux 78), .inr (6, [.int n19, .int n20, .int n21, .ref (ux 79)])), ((ux 79), .inl (cy 2, 60, .inr (.inl n22))), (qm, .inr (12, [.int 0, .ref (um 0), .ref (um 1), .ref (um 2), .ref (um 3), .ref (um 4), .int 0, .int 0, .int 0, .int 0, .int 0, .long 0, .int 0, .int 0, .int 0, .int (-1), .ref (um 5), .ref (um 6), .ref (um 7), .ref (um 8), .ref (um 9), .ref (um 10), .ref (um 11), .ref (um 12), .ref (um 13), .ref (um 14), .ref (um 15), .ref (um 16), .ref (um 17), .int 0, .int 0, .int 0, .int 0, .int 0, .int 0, .ref (um 18), .int 0, .ref (um 19)])), ((um 0), .inl (cy 1, 4, .inl n156)), ((um 1), .inl (cy 1, 4, .inl n157)), ((um 2), .inl (cy 2, 240, .inr (.inl n158)))] H) (hD : va_D A [(qx, .inr (11, [.ref (ux 0), .ref (ux 2), .ref (ux 14), .ref (ux 36), .ref (ux 70), .ref (ux 71), .ref (ux 80), .ref (ux 82), .ref (ux 84), .ref (ux 89), .ref (ux 92)])), ((ux 71), .inl (cy 6, 4, .inr (.inr (.inr (.inr (va_up (va_up (va_up (va_up (fun _ => none) 0 (some (ux 72))) 1 (some (ux 74))) 2 (some (ux 76))) 3 (some (ux 78)))))))), ((ux 72), .inr (6, [.int n7, .int n8, .int n9, .ref (ux 73)])), ((ux 73), .inl (cy 2, 60, .inr (.inl n10))), ((ux 74), .inr (6, [.int n11, .int n12, .int n13, .ref (ux 75)])), ((ux 75), .inl (cy 2, 60, .inr (.inl n14))), ((ux 76), .inr (6, [.int n15, .int n16, .int n17, .ref (ux 77)])), ((ux 77), .inl (cy 2, 60, .inr (.inl n18))), ((ux 78), .inr (6, [.int n19, .int n20, .int n21, .ref (ux 79)])), ((ux 79), .inl (cy 2, 60, .inr (.inl n22))), (qm, .inr (12, [.int 0, .ref (um 0), .ref (um 1), .ref (um 2), .ref (um 3), .ref (um 4), .int 0, .int 0, .int 0, .int 0, .int 0, .long 0, .int 0, .int 0, .int 0, .int (-1), .ref (um 5), .ref (um 6), .ref (um 7), .ref (um 8), .ref (um 9), .ref (um 10), .ref (um 11), .ref (um 12), .ref (um 13), .ref (um 14), .ref (um 15), .ref (um 16), .ref (um 17), .int 0, .int 0, .int 0, .int 0, .int 0, .int 0, .ref (um 18), .int 0, .ref (um 19)])), ((um 0), .inl (cy 1, 4, .inl n156)), ((um 1), .inl (cy 1, 4, .inl n157)), ((um 2), .inl (cy 2, 240, .inr (.inl n158)))]) hS
    obtain ⟨w160, w161, hw⟩ := hw
    rcases hw with ⟨rfl, w162⟩ | ⟨rfl, w163⟩ | ⟨rfl, w164, w165⟩ | ⟨rfl, w166, w167⟩ | ⟨rfl, w168, w169, w170⟩ | ⟨rfl, w171, w172, w173⟩ | ⟨rfl, w174, w175, w176⟩
    · exact mm_noX w162 w40 (by decide)
    · exact mm_noX w163 w40 (by decide)
    · exact mm_noX w165 w41 (by decide)
    · refine lv_icmp_eq (tgt := 3153) hx hb dL_law_3012 (by decide) (fun c177 => ?_) (fun c177 => ?_)
      · refine lv_iinc (v := 6) (lv' := [(3, .int 6), (2, .ref qm), (1, .ref qx), (0, .ref b)]) hx hb dL_law_3153 hl (k := 0) rfl (by decide) (by decide) rfl ?_
        clear hl
        clear ls
        intro ls hl
        refine lv_goto (tgt := 18) hx hb dL_law_3156 (by decide) ?_
        refine lv_iload_n hx hb dL_law_18 rfl (lv_at hl 0 rfl) ?_
        refine lv_aload_n hx hb dL_law_19 rfl (lv_at hl 3 rfl) ?_
        refine va_slen hx hb hX hbl hbA hS dL_law_20 ?_
        refine lv_topi (fun v178 ev178 => ?_)
        obtain rfl : v178 = 6 := ev178.trans (by decide)
        refine lv_bipush (v := 6) hx hb dL_law_21 (by decide) ?_
        refine lv_isub hx hb dL_law_23 ?_
        refine lv_topi (fun v179 ev179 => ?_)
        obtain rfl : v179 = 0 := ev179.trans (by decide)
        refine lv_icmp_gt (tgt := 3159) hx hb dL_law_24 (by decide) (fun c180 => ?_) (fun c180 => ?_)
        · refine lv_iconst (v := 1) hx hb dL_law_3159 (by decide) ?_
          refine va_forget (fun q hq => by have := hS.2.2 q hq; rw [hAe] at this; exact this) ?_
          refine W.widen (k := 600000) (n := 7302250) (Nat.le_of_ble_eq_true rfl) (Nat.le_of_ble_eq_true rfl) ?_
          exact lw_ret hx hb hr hlocks dL_law_3160
        · have q181 := mm_leL (mm_nlt c180) mm_k6 mm_k0
          exact mm_no q181 (by decide)
      · have q182 := mm_neL (lo := (-1)) (mm_ne c177) mm_km2 mm_km2 (by decide) (by decide)
        exact mm_no q182 (by decide)
    · exact mm_noX w169 w41 (by decide)
    · exact mm_noX w172 w41 (by decide)
    · exact mm_noX w175 w41 (by decide)
  · refine lv_aload_n hx hb dL_law_2993 rfl (lv_at hl 1 rfl) ?_
    refine lv_aload_n hx hb dL_law_2994 rfl (lv_at hl 3 rfl) ?_
    refine lv_iload_n hx hb dL_law_2995 rfl (lv_at hl 0 rfl) ?_
    refine lv_iconst (v := 1) hx hb dL_law_2996 (by decide) ?_
    refine lv_iadd hx hb dL_law_2997 ?_
    refine lv_topi (fun v183 ev183 => ?_)
    obtain rfl : v183 = 1 := ev183.trans (by decide)
    refine va_sld hx hb hX hbl hbA hS (mm_in mm_k1 (by decide)) dL_law_2998 ?_
    refine lv_topi (fun v184 ev184 => ?_)
    obtain rfl : p1 = v184 := ep1.trans ev184.symm
    refine lv_aload_n hx hb dL_law_2999 rfl (lv_at hl 3 rfl) ?_
    refine lv_iload_n hx hb dL_law_3000 rfl (lv_at hl 0 rfl) ?_
    refine lv_iconst (v := 2) hx hb dL_law_3001 (by decide) ?_
    refine lv_iadd hx hb dL_law_3002 ?_
    refine lv_topi (fun v185 ev185 => ?_)
    obtain rfl : v185 = 2 := ev185.trans (by decide)
    refine va_sld hx hb hX hbl hbA hS (mm_in mm_k2 (by decide)) dL_law_3003 ?_
    refine lv_topi (fun v186 ev186 => ?_)
    obtain rfl : p2 = v186 := ep2.trans ev186.symm
    refine lv_aload_n hx hb dL_law_3004 rfl (lv_at hl 3 rfl) ?_
    refine lv_iload_n hx hb dL_law_3005 rfl (lv_at hl 0 rfl) ?_
    refine lv_iconst (v := 3) hx hb dL_law_3006 (by decide) ?_
    refine lv_iadd hx hb dL_law_3007 ?_
    refine lv_topi (fun v187 ev187 => ?_)
    obtain rfl : v187 = 3 := ev187.trans (by decide)
    refine va_sld hx hb hX hbl hbA hS (mm_in mm_k3 (by decide)) dL_law_3008 ?_
    refine lv_topi (fun v188 ev188 => ?_)
    obtain rfl : p3 = v188 := ep3.trans ev188.symm
    refine mm_fini (va_runV (As := [.int p1, .int p2, .int p3]) (rest := [.int 0]) ⟨hx, hb, hml, hown, hts⟩ (K314_X12_row l G cy H.size qm p1 p2 p3 (um 0) (um 1) (um 2) (um 3) (um 4) 0 0 0 0 0 0 0 0 0 (-1) (um 5) (um 6) (um 7) (um 8) (um 9) (um 10) (um 11) (um 12) (um 13) (um 14) (um 15) (um 16) (um 17) 0 0 0 0 0 0 (um 18) 0 (um 19) ) (cwV 3 hts (mm_gV mm_w1686 mm_w1687 mm_w1688 mm_w5 mm_w1689) rfl rfl rfl hd_X12_row ⟨by rw [hRf]; exact Nat.le_of_ble_eq_true rfl, by rw [hRl]; exact Nat.le_of_ble_eq_true rfl⟩) (mm_preV hK hP hD [10, 11, 12, 13] rfl rfl 10 rfl rfl rfl) rfl rfl hl.1 rfl (lv_room (Nat.le_of_ble_eq_true rfl)) dL_law_3009 ⟨by rw [hRc]; exact Nat.le_of_ble_eq_true rfl, by rw [hRs]; exact Nat.le_of_ble_eq_true rfl⟩) hP hD hS hA (fun u : (Nat → Int32) × (Nat → Int32) × (Nat → Int64) => [(qx, .inr (11, [.ref (ux 0), .ref (ux 2), .ref (ux 14), .ref (ux 36), .ref (ux 70), .ref (ux 71), .ref (ux 80), .ref (ux 82), .ref (ux 84), .ref (ux 89), .ref (ux 92)])), ((ux 71), .inl (cy 6, 4, .inr (.inr (.inr (.inr (va_up (va_up (va_up (va_up (fun _ => none) 0 (some (ux 72))) 1 (some (ux 74))) 2 (some (ux 76))) 3 (some (ux 78)))))))), ((ux 72), .inr (6, [.int n7, .int n8, .int n9, .ref (ux 73)])), ((ux 73), .inl (cy 2, 60, .inr (.inl n10))), ((ux 74), .inr (6, [.int n11, .int n12, .int n13, .ref (ux 75)])), ((ux 75), .inl (cy 2, 60, .inr (.inl n14))), ((ux 76), .inr (6, [.int n15, .int n16, .int n17, .ref (ux 77)])), ((ux 77), .inl (cy 2, 60, .inr (.inl n18))), ((ux 78), .inr (6, [.int n19, .int n20, .int n21, .ref (ux 79)])), ((ux 79), .inl (cy 2, 60, .inr (.inl n22))), (qm, .inr (12, [.int 0, .ref (um 0), .ref (um 1), .ref (um 2), .ref (um 3), .ref (um 4), .int 0, .int 0, .int 0, .int 0, .int 0, .long 0, .int 0, .int 0, .int 0, .int (-1), .ref (um 5), .ref (um 6), .ref (um 7), .ref (um 8), .ref (um 9), .ref (um 10), .ref (um 11), .ref (um 12), .ref (um 13), .ref (um 14), .ref (um 15), .ref (um 16), .ref (um 17), .int 0, .int 0, .int 0, .int 0, .int 0, .int 0, .ref (um 18), .int 0, .ref (um 19)])), ((um 0), .inl (cy 1, 4, .inl u.1)), ((um 1), .inl (cy 1, 4, .inl u.2.1)), ((um 2), .inl (cy 2, 240, .inr (.inl u.2.2)))]) [10, 11, 12, 13] [0, 1, 2, 3, 4, 5, 6, 7, 8, 9] (n := 14) (fun _ => rfl) (by decide +kernel) (by decide +kernel) rfl (fun _ => rfl) (wr := [(qx, .inr (11, [.ref (ux 0), .ref (ux 2), .ref (ux 14), .ref (ux 36), .ref (ux 70), .ref (ux 71), .ref (ux 80), .ref (ux 82), .ref (ux 84), .ref (ux 89), .ref (ux 92)])), ((ux 71), .inl (cy 6, 4, .inr (.inr (.inr (.inr (va_up (va_up (va_up (va_up (fun _ => none) 0 (some (ux 72))) 1 (some (ux 74))) 2 (some (ux 76))) 3 (some (ux 78)))))))), ((ux 72), .inr (6, [.int n7, .int n8, .int n9, .ref (ux 73)])), ((ux 73), .inl (cy 2, 60, .inr (.inl n10))), ((ux 74), .inr (6, [.int n11, .int n12, .int n13, .ref (ux 75)])), ((ux 75), .inl (cy 2, 60, .inr (.inl n14))), ((ux 76), .inr (6, [.int n15, .int n16, .int n17, .ref (ux 77)])), ((ux 77), .inl (cy 2, 60, .inr (.inl n18))), ((ux 78), .inr (6, [.int n19, .int n20, .int n21, .ref (ux 79)])), ((ux 79), .inl (cy 2, 60, .inr (.inl n22)))]) rfl (fun _ => rfl) (fun _ => rfl) ?_
    clear hP hD hS
    clear H locs
    intro v192 u
    obtain ⟨n189, n190, n191⟩ := u
    intro H locs hw (hP : va_P G vwCl [(qx, .inr (11, [.ref (ux 0), .ref (ux 2), .ref (ux 14), .ref (ux 36), .ref (ux 70), .ref (ux 71), .ref (ux 80), .ref (ux 82), .ref (ux 84), .ref (ux 89), .ref (ux 92)])), ((ux 71), .inl (cy 6, 4, .inr (.inr (.inr (.inr (va_up (va_up (va_up (va_up (fun _ => none) 0 (some (ux 72))) 1 (some (ux 74))) 2 (some (ux 76))) 3 (some (ux 78)))))))), ((ux 72), .inr (6, [.int n7, .int n8, .int n9, .ref (ux 73)])), ((ux 73), .inl (cy 2, 60, .inr (.inl n10))), ((ux 74), .inr (6, [.int n11, .int n12, .int n13, .ref (ux 75)])), ((ux 75), .inl (cy 2, 60, .inr (.inl n14))), ((ux 76), .inr (6, [.int n15, .int n16, .int n17, .ref (ux 77)])), ((ux 77), .inl (cy 2, 60, .inr (.inl n18))), ((ux 78), .inr (6, [.int n19, .int n20, .int n21, .ref (ux 79)])), ((ux 79), .inl (cy 2, 60, .inr (.inl n22))), (qm, .inr (12, [.int 0, .ref (um 0), .ref (um 1), .ref (um 2), .ref (um 3), .ref (um 4), .int 0, .int 0, .int 0, .int 0, .int 0, .long 0, .int 0, .int 0, .int 0, .int (-1), .ref (um 5), .ref (um 6), .ref (um 7), .ref (um 8), .ref (um 9), .ref (um 10), .ref (um 11), .ref (um 12), .ref (um 13), .ref (um 14), .ref (um 15), .ref (um 16), .ref (um 17), .int 0, .int 0, .int 0, .int 0, .int 0, .int 0, .ref (um 18), .int 0, .ref (um 19)])), ((um 0), .inl (cy 1, 4, .inl n189)), ((um 1), .inl (cy 1, 4, .inl n190)), ((um 2), .inl (cy 2, 240, .inr (.inl n191)))] H) (hD : va_D A [(qx, .inr (11, [.ref (ux 0), .ref (ux 2), .ref (ux 14), .ref (ux 36), .ref (ux 70), .ref (ux 71), .ref (ux 80), .ref (ux 82), .ref (ux 84), .ref (ux 89), .ref (ux 92)])), ((ux 71), .inl (cy 6, 4, .inr (.inr (.inr (.inr (va_up (va_up (va_up (va_up (fun _ => none) 0 (some (ux 72))) 1 (some (ux 74))) 2 (some (ux 76))) 3 (some (ux 78)))))))), ((ux 72), .inr (6, [.int n7, .int n8, .int n9, .ref (ux 73)])), ((ux 73), .inl (cy 2, 60, .inr (.inl n10))), ((ux 74), .inr (6, [.int n11, .int n12, .int n13, .ref (ux 75)])), ((ux 75), .inl (cy 2, 60, .inr (.inl n14))), ((ux 76), .inr (6, [.int n15, .int n16, .int n17, .ref (ux 77)])), ((ux 77), .inl (cy 2, 60, .inr (.inl n18))), ((ux 78), .inr (6, [.int n19, .int n20, .int n21, .ref (ux 79)])), ((ux 79), .inl (cy 2, 60, .inr (.inl n22))), (qm, .inr (12, [.int 0, .ref (um 0), .ref (um 1), .ref (um 2), .ref (um 3), .ref (um 4), .int 0, .int 0, .int 0, .int 0, .int 0, .long 0, .int 0, .int 0, .int 0, .int (-1), .ref (um 5), .ref (um 6), .ref (um 7), .ref (um 8), .ref (um 9), .ref (um 10), .ref (um 11), .ref (um 12), .ref (um 13), .ref (um 14), .ref (um 15), .ref (um 16), .ref (um 17), .int 0, .int 0, .int 0, .int 0, .int 0, .int 0, .ref (um 18), .int 0, .ref (um 19)])), ((um 0), .inl (cy 1, 4, .inl n189)), ((um 1), .inl (cy 1, 4, .inl n190)), ((um 2), .inl (cy 2, 240, .inr (.inl n191)))]) hS
    obtain ⟨w193, w194, hw⟩ := hw
    rcases hw with ⟨rfl, w195⟩ | ⟨rfl, w196⟩ | ⟨rfl, w197, w198⟩ | ⟨rfl, w199, w200⟩ | ⟨rfl, w201, w202, w203⟩ | ⟨rfl, w204, w205, w206⟩ | ⟨rfl, w207, w208, w209⟩
    · exact mm_noX w195 w42 (by decide)
    · exact mm_noX w196 w42 (by decide)
    · exact mm_noX w198 w43 (by decide)
    · exact mm_noX w200 w43 (by decide)
    · refine lv_icmp_eq (tgt := 3153) hx hb dL_law_3012 (by decide) (fun c210 => ?_) (fun c210 => ?_)
      · refine lv_iinc (v := 6) (lv' := [(3, .int 6), (2, .ref qm), (1, .ref qx), (0, .ref b)]) hx hb dL_law_3153 hl (k := 0) rfl (by decide) (by decide) rfl ?_
        clear hl
        clear ls
        intro ls hl
        refine lv_goto (tgt := 18) hx hb dL_law_3156 (by decide) ?_
        refine lv_iload_n hx hb dL_law_18 rfl (lv_at hl 0 rfl) ?_
        refine lv_aload_n hx hb dL_law_19 rfl (lv_at hl 3 rfl) ?_
        refine va_slen hx hb hX hbl hbA hS dL_law_20 ?_
        refine lv_topi (fun v211 ev211 => ?_)
        obtain rfl : v211 = 6 := ev211.trans (by decide)
        refine lv_bipush (v := 6) hx hb dL_law_21 (by decide) ?_
        refine lv_isub hx hb dL_law_23 ?_
        refine lv_topi (fun v212 ev212 => ?_)
        obtain rfl : v212 = 0 := ev212.trans (by decide)
        refine lv_icmp_gt (tgt := 3159) hx hb dL_law_24 (by decide) (fun c213 => ?_) (fun c213 => ?_)
        · refine lv_iconst (v := 1) hx hb dL_law_3159 (by decide) ?_
          refine va_forget (fun q hq => by have := hS.2.2 q hq; rw [hAe] at this; exact this) ?_
          refine W.widen (k := 600000) (n := 7302250) (Nat.le_of_ble_eq_true rfl) (Nat.le_of_ble_eq_true rfl) ?_
          exact lw_ret hx hb hr hlocks dL_law_3160
        · have q214 := mm_leL (mm_nlt c213) mm_k6 mm_k0
          exact mm_no q214 (by decide)
      · have q215 := mm_neL (lo := 1) (mm_ne c210) mm_k0 mm_k0 (by decide) (by decide)
        exact mm_no q215 (by decide)
    · exact mm_noX w206 w44 (by decide)
    · exact mm_noX w209 w44 (by decide)
  · refine lv_aload_n hx hb dL_law_2993 rfl (lv_at hl 1 rfl) ?_
    refine lv_aload_n hx hb dL_law_2994 rfl (lv_at hl 3 rfl) ?_
    refine lv_iload_n hx hb dL_law_2995 rfl (lv_at hl 0 rfl) ?_
    refine lv_iconst (v := 1) hx hb dL_law_2996 (by decide) ?_
    refine lv_iadd hx hb dL_law_2997 ?_
    refine lv_topi (fun v216 ev216 => ?_)
    obtain rfl : v216 = 1 := ev216.trans (by decide)
    refine va_sld hx hb hX hbl hbA hS (mm_in mm_k1 (by decide)) dL_law_2998 ?_
    refine lv_topi (fun v217 ev217 => ?_)
    obtain rfl : p1 = v217 := ep1.trans ev217.symm
    refine lv_aload_n hx hb dL_law_2999 rfl (lv_at hl 3 rfl) ?_
    refine lv_iload_n hx hb dL_law_3000 rfl (lv_at hl 0 rfl) ?_
    refine lv_iconst (v := 2) hx hb dL_law_3001 (by decide) ?_
    refine lv_iadd hx hb dL_law_3002 ?_
    refine lv_topi (fun v218 ev218 => ?_)
    obtain rfl : v218 = 2 := ev218.trans (by decide)
    refine va_sld hx hb hX hbl hbA hS (mm_in mm_k2 (by decide)) dL_law_3003 ?_
    refine lv_topi (fun v219 ev219 => ?_)
    obtain rfl : p2 = v219 := ep2.trans ev219.symm
    refine lv_aload_n hx hb dL_law_3004 rfl (lv_at hl 3 rfl) ?_
    refine lv_iload_n hx hb dL_law_3005 rfl (lv_at hl 0 rfl) ?_
    refine lv_iconst (v := 3) hx hb dL_law_3006 (by decide) ?_
    refine lv_iadd hx hb dL_law_3007 ?_
    refine lv_topi (fun v220 ev220 => ?_)
    obtain rfl : v220 = 3 := ev220.trans (by decide)
    refine va_sld hx hb hX hbl hbA hS (mm_in mm_k3 (by decide)) dL_law_3008 ?_
    refine lv_topi (fun v221 ev221 => ?_)
    obtain rfl : p3 = v221 := ep3.trans ev221.symm
    refine mm_fini (va_runV (As := [.int p1, .int p2, .int p3]) (rest := [.int (-3)]) ⟨hx, hb, hml, hown, hts⟩ (K314_X12_row l G cy H.size qm p1 p2 p3 (um 0) (um 1) (um 2) (um 3) (um 4) 0 0 0 0 0 0 0 0 0 (-1) (um 5) (um 6) (um 7) (um 8) (um 9) (um 10) (um 11) (um 12) (um 13) (um 14) (um 15) (um 16) (um 17) 0 0 0 0 0 0 (um 18) 0 (um 19) ) (cwV 3 hts (mm_gV mm_w1686 mm_w1687 mm_w1688 mm_w5 mm_w1689) rfl rfl rfl hd_X12_row ⟨by rw [hRf]; exact Nat.le_of_ble_eq_true rfl, by rw [hRl]; exact Nat.le_of_ble_eq_true rfl⟩) (mm_preV hK hP hD [10, 11, 12, 13] rfl rfl 10 rfl rfl rfl) rfl rfl hl.1 rfl (lv_room (Nat.le_of_ble_eq_true rfl)) dL_law_3009 ⟨by rw [hRc]; exact Nat.le_of_ble_eq_true rfl, by rw [hRs]; exact Nat.le_of_ble_eq_true rfl⟩) hP hD hS hA (fun u : (Nat → Int32) × (Nat → Int32) × (Nat → Int64) => [(qx, .inr (11, [.ref (ux 0), .ref (ux 2), .ref (ux 14), .ref (ux 36), .ref (ux 70), .ref (ux 71), .ref (ux 80), .ref (ux 82), .ref (ux 84), .ref (ux 89), .ref (ux 92)])), ((ux 71), .inl (cy 6, 4, .inr (.inr (.inr (.inr (va_up (va_up (va_up (va_up (fun _ => none) 0 (some (ux 72))) 1 (some (ux 74))) 2 (some (ux 76))) 3 (some (ux 78)))))))), ((ux 72), .inr (6, [.int n7, .int n8, .int n9, .ref (ux 73)])), ((ux 73), .inl (cy 2, 60, .inr (.inl n10))), ((ux 74), .inr (6, [.int n11, .int n12, .int n13, .ref (ux 75)])), ((ux 75), .inl (cy 2, 60, .inr (.inl n14))), ((ux 76), .inr (6, [.int n15, .int n16, .int n17, .ref (ux 77)])), ((ux 77), .inl (cy 2, 60, .inr (.inl n18))), ((ux 78), .inr (6, [.int n19, .int n20, .int n21, .ref (ux 79)])), ((ux 79), .inl (cy 2, 60, .inr (.inl n22))), (qm, .inr (12, [.int 0, .ref (um 0), .ref (um 1), .ref (um 2), .ref (um 3), .ref (um 4), .int 0, .int 0, .int 0, .int 0, .int 0, .long 0, .int 0, .int 0, .int 0, .int (-1), .ref (um 5), .ref (um 6), .ref (um 7), .ref (um 8), .ref (um 9), .ref (um 10), .ref (um 11), .ref (um 12), .ref (um 13), .ref (um 14), .ref (um 15), .ref (um 16), .ref (um 17), .int 0, .int 0, .int 0, .int 0, .int 0, .int 0, .ref (um 18), .int 0, .ref (um 19)])), ((um 0), .inl (cy 1, 4, .inl u.1)), ((um 1), .inl (cy 1, 4, .inl u.2.1)), ((um 2), .inl (cy 2, 240, .inr (.inl u.2.2)))]) [10, 11, 12, 13] [0, 1, 2, 3, 4, 5, 6, 7, 8, 9] (n := 14) (fun _ => rfl) (by decide +kernel) (by decide +kernel) rfl (fun _ => rfl) (wr := [(qx, .inr (11, [.ref (ux 0), .ref (ux 2), .ref (ux 14), .ref (ux 36), .ref (ux 70), .ref (ux 71), .ref (ux 80), .ref (ux 82), .ref (ux 84), .ref (ux 89), .ref (ux 92)])), ((ux 71), .inl (cy 6, 4, .inr (.inr (.inr (.inr (va_up (va_up (va_up (va_up (fun _ => none) 0 (some (ux 72))) 1 (some (ux 74))) 2 (some (ux 76))) 3 (some (ux 78)))))))), ((ux 72), .inr (6, [.int n7, .int n8, .int n9, .ref (ux 73)])), ((ux 73), .inl (cy 2, 60, .inr (.inl n10))), ((ux 74), .inr (6, [.int n11, .int n12, .int n13, .ref (ux 75)])), ((ux 75), .inl (cy 2, 60, .inr (.inl n14))), ((ux 76), .inr (6, [.int n15, .int n16, .int n17, .ref (ux 77)])), ((ux 77), .inl (cy 2, 60, .inr (.inl n18))), ((ux 78), .inr (6, [.int n19, .int n20, .int n21, .ref (ux 79)])), ((ux 79), .inl (cy 2, 60, .inr (.inl n22)))]) rfl (fun _ => rfl) (fun _ => rfl) ?_
    clear hP hD hS
    clear H locs
    intro v225 u
    obtain ⟨n222, n223, n224⟩ := u
    intro H locs hw (hP : va_P G vwCl [(qx, .inr (11, [.ref (ux 0), .ref (ux 2), .ref (ux 14), .ref (ux 36), .ref (ux 70), .ref (ux 71), .ref (ux 80), .ref (ux 82), .ref (ux 84), .ref (ux 89), .ref (ux 92)])), ((ux 71), .inl (cy 6, 4, .inr (.inr (.inr (.inr (va_up (va_up (va_up (va_up (fun _ => none) 0 (some (ux 72))) 1 (some (ux 74))) 2 (some (ux 76))) 3 (some (ux 78)))))))), ((ux 72), .inr (6, [.int n7, .int n8, .int n9, .ref (ux 73)])), ((ux 73), .inl (cy 2, 60, .inr (.inl n10))), ((ux 74), .inr (6, [.int n11, .int n12, .int n13, .ref (ux 75)])), ((ux 75), .inl (cy 2, 60, .inr (.inl n14))), ((ux 76), .inr (6, [.int n15, .int n16, .int n17, .ref (ux 77)])), ((ux 77), .inl (cy 2, 60, .inr (.inl n18))), ((ux 78), .inr (6, [.int n19, .int n20, .int n21, .ref (ux 79)])), ((ux 79), .inl (cy 2, 60, .inr (.inl n22))), (qm, .inr (12, [.int 0, .ref (um 0), .ref (um 1), .ref (um 2), .ref (um 3), .ref (um 4), .int 0, .int 0, .int 0, .int 0, .int 0, .long 0, .int 0, .int 0, .int 0, .int (-1), .ref (um 5), .ref (um 6), .ref (um 7), .ref (um 8), .ref (um 9), .ref (um 10), .ref (um 11), .ref (um 12), .ref (um 13), .ref (um 14), .ref (um 15), .ref (um 16), .ref (um 17), .int 0, .int 0, .int 0, .int 0, .int 0, .int 0, .ref (um 18), .int 0, .ref (um 19)])), ((um 0), .inl (cy 1, 4, .inl n222)), ((um 1), .inl (cy 1, 4, .inl n223)), ((um 2), .inl (cy 2, 240, .inr (.inl n224)))] H) (hD : va_D A [(qx, .inr (11, [.ref (ux 0), .ref (ux 2), .ref (ux 14), .ref (ux 36), .ref (ux 70), .ref (ux 71), .ref (ux 80), .ref (ux 82), .ref (ux 84), .ref (ux 89), .ref (ux 92)])), ((ux 71), .inl (cy 6, 4, .inr (.inr (.inr (.inr (va_up (va_up (va_up (va_up (fun _ => none) 0 (some (ux 72))) 1 (some (ux 74))) 2 (some (ux 76))) 3 (some (ux 78)))))))), ((ux 72), .inr (6, [.int n7, .int n8, .int n9, .ref (ux 73)])), ((ux 73), .inl (cy 2, 60, .inr (.inl n10))), ((ux 74), .inr (6, [.int n11, .int n12, .int n13, .ref (ux 75)])), ((ux 75), .inl (cy 2, 60, .inr (.inl n14))), ((ux 76), .inr (6, [.int n15, .int n16, .int n17, .ref (ux 77)])), ((ux 77), .inl (cy 2, 60, .inr (.inl n18))), ((ux 78), .inr (6, [.int n19, .int n20, .int n21, .ref (ux 79)])), ((ux 79), .inl (cy 2, 60, .inr (.inl n22))), (qm, .inr (12, [.int 0, .ref (um 0), .ref (um 1), .ref (um 2), .ref (um 3), .ref (um 4), .int 0, .int 0, .int 0, .int 0, .int 0, .long 0, .int 0, .int 0, .int 0, .int (-1), .ref (um 5), .ref (um 6), .ref (um 7), .ref (um 8), .ref (um 9), .ref (um 10), .ref (um 11), .ref (um 12), .ref (um 13), .ref (um 14), .ref (um 15), .ref (um 16), .ref (um 17), .int 0, .int 0, .int 0, .int 0, .int 0, .int 0, .ref (um 18), .int 0, .ref (um 19)])), ((um 0), .inl (cy 1, 4, .inl n222)), ((um 1), .inl (cy 1, 4, .inl n223)), ((um 2), .inl (cy 2, 240, .inr (.inl n224)))]) hS
    obtain ⟨w226, w227, hw⟩ := hw
    rcases hw with ⟨rfl, w228⟩ | ⟨rfl, w229⟩ | ⟨rfl, w230, w231⟩ | ⟨rfl, w232, w233⟩ | ⟨rfl, w234, w235, w236⟩ | ⟨rfl, w237, w238, w239⟩ | ⟨rfl, w240, w241, w242⟩
    · exact mm_noX w228 w45 (by decide)
    · exact mm_noX w229 w45 (by decide)
    · exact mm_noX w231 w46 (by decide)
    · exact mm_noX w233 w46 (by decide)
    · exact mm_noX w236 w47 (by decide)
    · refine lv_icmp_eq (tgt := 3153) hx hb dL_law_3012 (by decide) (fun c243 => ?_) (fun c243 => ?_)
      · refine lv_iinc (v := 6) (lv' := [(3, .int 6), (2, .ref qm), (1, .ref qx), (0, .ref b)]) hx hb dL_law_3153 hl (k := 0) rfl (by decide) (by decide) rfl ?_
        clear hl
        clear ls
        intro ls hl
        refine lv_goto (tgt := 18) hx hb dL_law_3156 (by decide) ?_
        refine lv_iload_n hx hb dL_law_18 rfl (lv_at hl 0 rfl) ?_
        refine lv_aload_n hx hb dL_law_19 rfl (lv_at hl 3 rfl) ?_
        refine va_slen hx hb hX hbl hbA hS dL_law_20 ?_
        refine lv_topi (fun v244 ev244 => ?_)
        obtain rfl : v244 = 6 := ev244.trans (by decide)
        refine lv_bipush (v := 6) hx hb dL_law_21 (by decide) ?_
        refine lv_isub hx hb dL_law_23 ?_
        refine lv_topi (fun v245 ev245 => ?_)
        obtain rfl : v245 = 0 := ev245.trans (by decide)
        refine lv_icmp_gt (tgt := 3159) hx hb dL_law_24 (by decide) (fun c246 => ?_) (fun c246 => ?_)
        · refine lv_iconst (v := 1) hx hb dL_law_3159 (by decide) ?_
          refine va_forget (fun q hq => by have := hS.2.2 q hq; rw [hAe] at this; exact this) ?_
          refine W.widen (k := 600000) (n := 7302250) (Nat.le_of_ble_eq_true rfl) (Nat.le_of_ble_eq_true rfl) ?_
          exact lw_ret hx hb hr hlocks dL_law_3160
        · have q247 := mm_leL (mm_nlt c246) mm_k6 mm_k0
          exact mm_no q247 (by decide)
      · have q248 := mm_neL (lo := (-2)) (mm_ne c243) mm_km3 mm_km3 (by decide) (by decide)
        exact mm_no q248 (by decide)
    · exact mm_noX w242 w47 (by decide)
  · refine lv_aload_n hx hb dL_law_2993 rfl (lv_at hl 1 rfl) ?_
    refine lv_aload_n hx hb dL_law_2994 rfl (lv_at hl 3 rfl) ?_
    refine lv_iload_n hx hb dL_law_2995 rfl (lv_at hl 0 rfl) ?_
    refine lv_iconst (v := 1) hx hb dL_law_2996 (by decide) ?_
    refine lv_iadd hx hb dL_law_2997 ?_
    refine lv_topi (fun v249 ev249 => ?_)
    obtain rfl : v249 = 1 := ev249.trans (by decide)
    refine va_sld hx hb hX hbl hbA hS (mm_in mm_k1 (by decide)) dL_law_2998 ?_
    refine lv_topi (fun v250 ev250 => ?_)
    obtain rfl : p1 = v250 := ep1.trans ev250.symm
    refine lv_aload_n hx hb dL_law_2999 rfl (lv_at hl 3 rfl) ?_
    refine lv_iload_n hx hb dL_law_3000 rfl (lv_at hl 0 rfl) ?_
    refine lv_iconst (v := 2) hx hb dL_law_3001 (by decide) ?_
    refine lv_iadd hx hb dL_law_3002 ?_
    refine lv_topi (fun v251 ev251 => ?_)
    obtain rfl : v251 = 2 := ev251.trans (by decide)
    refine va_sld hx hb hX hbl hbA hS (mm_in mm_k2 (by decide)) dL_law_3003 ?_
    refine lv_topi (fun v252 ev252 => ?_)
    obtain rfl : p2 = v252 := ep2.trans ev252.symm
    refine lv_aload_n hx hb dL_law_3004 rfl (lv_at hl 3 rfl) ?_
    refine lv_iload_n hx hb dL_law_3005 rfl (lv_at hl 0 rfl) ?_
    refine lv_iconst (v := 3) hx hb dL_law_3006 (by decide) ?_
    refine lv_iadd hx hb dL_law_3007 ?_
    refine lv_topi (fun v253 ev253 => ?_)
    obtain rfl : v253 = 3 := ev253.trans (by decide)
    refine va_sld hx hb hX hbl hbA hS (mm_in mm_k3 (by decide)) dL_law_3008 ?_
    refine lv_topi (fun v254 ev254 => ?_)
    obtain rfl : p3 = v254 := ep3.trans ev254.symm
    refine mm_fini (va_runV (As := [.int p1, .int p2, .int p3]) (rest := [.int (-2)]) ⟨hx, hb, hml, hown, hts⟩ (K314_X12_row l G cy H.size qm p1 p2 p3 (um 0) (um 1) (um 2) (um 3) (um 4) 0 0 0 0 0 0 0 0 0 (-1) (um 5) (um 6) (um 7) (um 8) (um 9) (um 10) (um 11) (um 12) (um 13) (um 14) (um 15) (um 16) (um 17) 0 0 0 0 0 0 (um 18) 0 (um 19) ) (cwV 3 hts (mm_gV mm_w1686 mm_w1687 mm_w1688 mm_w5 mm_w1689) rfl rfl rfl hd_X12_row ⟨by rw [hRf]; exact Nat.le_of_ble_eq_true rfl, by rw [hRl]; exact Nat.le_of_ble_eq_true rfl⟩) (mm_preV hK hP hD [10, 11, 12, 13] rfl rfl 10 rfl rfl rfl) rfl rfl hl.1 rfl (lv_room (Nat.le_of_ble_eq_true rfl)) dL_law_3009 ⟨by rw [hRc]; exact Nat.le_of_ble_eq_true rfl, by rw [hRs]; exact Nat.le_of_ble_eq_true rfl⟩) hP hD hS hA (fun u : (Nat → Int32) × (Nat → Int32) × (Nat → Int64) => [(qx, .inr (11, [.ref (ux 0), .ref (ux 2), .ref (ux 14), .ref (ux 36), .ref (ux 70), .ref (ux 71), .ref (ux 80), .ref (ux 82), .ref (ux 84), .ref (ux 89), .ref (ux 92)])), ((ux 71), .inl (cy 6, 4, .inr (.inr (.inr (.inr (va_up (va_up (va_up (va_up (fun _ => none) 0 (some (ux 72))) 1 (some (ux 74))) 2 (some (ux 76))) 3 (some (ux 78)))))))), ((ux 72), .inr (6, [.int n7, .int n8, .int n9, .ref (ux 73)])), ((ux 73), .inl (cy 2, 60, .inr (.inl n10))), ((ux 74), .inr (6, [.int n11, .int n12, .int n13, .ref (ux 75)])), ((ux 75), .inl (cy 2, 60, .inr (.inl n14))), ((ux 76), .inr (6, [.int n15, .int n16, .int n17, .ref (ux 77)])), ((ux 77), .inl (cy 2, 60, .inr (.inl n18))), ((ux 78), .inr (6, [.int n19, .int n20, .int n21, .ref (ux 79)])), ((ux 79), .inl (cy 2, 60, .inr (.inl n22))), (qm, .inr (12, [.int 0, .ref (um 0), .ref (um 1), .ref (um 2), .ref (um 3), .ref (um 4), .int 0, .int 0, .int 0, .int 0, .int 0, .long 0, .int 0, .int 0, .int 0, .int (-1), .ref (um 5), .ref (um 6), .ref (um 7), .ref (um 8), .ref (um 9), .ref (um 10), .ref (um 11), .ref (um 12), .ref (um 13), .ref (um 14), .ref (um 15), .ref (um 16), .ref (um 17), .int 0, .int 0, .int 0, .int 0, .int 0, .int 0, .ref (um 18), .int 0, .ref (um 19)])), ((um 0), .inl (cy 1, 4, .inl u.1)), ((um 1), .inl (cy 1, 4, .inl u.2.1)), ((um 2), .inl (cy 2, 240, .inr (.inl u.2.2)))]) [10, 11, 12, 13] [0, 1, 2, 3, 4, 5, 6, 7, 8, 9] (n := 14) (fun _ => rfl) (by decide +kernel) (by decide +kernel) rfl (fun _ => rfl) (wr := [(qx, .inr (11, [.ref (ux 0), .ref (ux 2), .ref (ux 14), .ref (ux 36), .ref (ux 70), .ref (ux 71), .ref (ux 80), .ref (ux 82), .ref (ux 84), .ref (ux 89), .ref (ux 92)])), ((ux 71), .inl (cy 6, 4, .inr (.inr (.inr (.inr (va_up (va_up (va_up (va_up (fun _ => none) 0 (some (ux 72))) 1 (some (ux 74))) 2 (some (ux 76))) 3 (some (ux 78)))))))), ((ux 72), .inr (6, [.int n7, .int n8, .int n9, .ref (ux 73)])), ((ux 73), .inl (cy 2, 60, .inr (.inl n10))), ((ux 74), .inr (6, [.int n11, .int n12, .int n13, .ref (ux 75)])), ((ux 75), .inl (cy 2, 60, .inr (.inl n14))), ((ux 76), .inr (6, [.int n15, .int n16, .int n17, .ref (ux 77)])), ((ux 77), .inl (cy 2, 60, .inr (.inl n18))), ((ux 78), .inr (6, [.int n19, .int n20, .int n21, .ref (ux 79)])), ((ux 79), .inl (cy 2, 60, .inr (.inl n22)))]) rfl (fun _ => rfl) (fun _ => rfl) ?_
    clear hP hD hS
    clear H locs
    intro v258 u
    obtain ⟨n255, n256, n257⟩ := u
    intro H locs hw (hP : va_P G vwCl [(qx, .inr (11, [.ref (ux 0), .ref (ux 2), .ref (ux 14), .ref (ux 36), .ref (ux 70), .ref (ux 71), .ref (ux 80), .ref (ux 82), .ref (ux 84), .ref (ux 89), .ref (ux 92)])), ((ux 71), .inl (cy 6, 4, .inr (.inr (.inr (.inr (va_up (va_up (va_up (va_up (fun _ => none) 0 (some (ux 72))) 1 (some (ux 74))) 2 (some (ux 76))) 3 (some (ux 78)))))))), ((ux 72), .inr (6, [.int n7, .int n8, .int n9, .ref (ux 73)])), ((ux 73), .inl (cy 2, 60, .inr (.inl n10))), ((ux 74), .inr (6, [.int n11, .int n12, .int n13, .ref (ux 75)])), ((ux 75), .inl (cy 2, 60, .inr (.inl n14))), ((ux 76), .inr (6, [.int n15, .int n16, .int n17, .ref (ux 77)])), ((ux 77), .inl (cy 2, 60, .inr (.inl n18))), ((ux 78), .inr (6, [.int n19, .int n20, .int n21, .ref (ux 79)])), ((ux 79), .inl (cy 2, 60, .inr (.inl n22))), (qm, .inr (12, [.int 0, .ref (um 0), .ref (um 1), .ref (um 2), .ref (um 3), .ref (um 4), .int 0, .int 0, .int 0, .int 0, .int 0, .long 0, .int 0, .int 0, .int 0, .int (-1), .ref (um 5), .ref (um 6), .ref (um 7), .ref (um 8), .ref (um 9), .ref (um 10), .ref (um 11), .ref (um 12), .ref (um 13), .ref (um 14), .ref (um 15), .ref (um 16), .ref (um 17), .int 0, .int 0, .int 0, .int 0, .int 0, .int 0, .ref (um 18), .int 0, .ref (um 19)])), ((um 0), .inl (cy 1, 4, .inl n255)), ((um 1), .inl (cy 1, 4, .inl n256)), ((um 2), .inl (cy 2, 240, .inr (.inl n257)))] H) (hD : va_D A [(qx, .inr (11, [.ref (ux 0), .ref (ux 2), .ref (ux 14), .ref (ux 36), .ref (ux 70), .ref (ux 71), .ref (ux 80), .ref (ux 82), .ref (ux 84), .ref (ux 89), .ref (ux 92)])), ((ux 71), .inl (cy 6, 4, .inr (.inr (.inr (.inr (va_up (va_up (va_up (va_up (fun _ => none) 0 (some (ux 72))) 1 (some (ux 74))) 2 (some (ux 76))) 3 (some (ux 78)))))))), ((ux 72), .inr (6, [.int n7, .int n8, .int n9, .ref (ux 73)])), ((ux 73), .inl (cy 2, 60, .inr (.inl n10))), ((ux 74), .inr (6, [.int n11, .int n12, .int n13, .ref (ux 75)])), ((ux 75), .inl (cy 2, 60, .inr (.inl n14))), ((ux 76), .inr (6, [.int n15, .int n16, .int n17, .ref (ux 77)])), ((ux 77), .inl (cy 2, 60, .inr (.inl n18))), ((ux 78), .inr (6, [.int n19, .int n20, .int n21, .ref (ux 79)])), ((ux 79), .inl (cy 2, 60, .inr (.inl n22))), (qm, .inr (12, [.int 0, .ref (um 0), .ref (um 1), .ref (um 2), .ref (um 3), .ref (um 4), .int 0, .int 0, .int 0, .int 0, .int 0, .long 0, .int 0, .int 0, .int 0, .int (-1), .ref (um 5), .ref (um 6), .ref (um 7), .ref (um 8), .ref (um 9), .ref (um 10), .ref (um 11), .ref (um 12), .ref (um 13), .ref (um 14), .ref (um 15), .ref (um 16), .ref (um 17), .int 0, .int 0, .int 0, .int 0, .int 0, .int 0, .ref (um 18), .int 0, .ref (um 19)])), ((um 0), .inl (cy 1, 4, .inl n255)), ((um 1), .inl (cy 1, 4, .inl n256)), ((um 2), .inl (cy 2, 240, .inr (.inl n257)))]) hS
    obtain ⟨w259, w260, hw⟩ := hw
    rcases hw with ⟨rfl, w261⟩ | ⟨rfl, w262⟩ | ⟨rfl, w263, w264⟩ | ⟨rfl, w265, w266⟩ | ⟨rfl, w267, w268, w269⟩ | ⟨rfl, w270, w271, w272⟩ | ⟨rfl, w273, w274, w275⟩
    · exact mm_noX w261 w48 (by decide)
    · exact mm_noX w262 w48 (by decide)
    · exact mm_noX w264 w49 (by decide)
    · exact mm_noX w266 w49 (by decide)
    · exact mm_noX w269 w50 (by decide)
    · exact mm_noX w272 w50 (by decide)
    · refine lv_icmp_eq (tgt := 3153) hx hb dL_law_3012 (by decide) (fun c276 => ?_) (fun c276 => ?_)
      · refine lv_iinc (v := 6) (lv' := [(3, .int 6), (2, .ref qm), (1, .ref qx), (0, .ref b)]) hx hb dL_law_3153 hl (k := 0) rfl (by decide) (by decide) rfl ?_
        clear hl
        clear ls
        intro ls hl
        refine lv_goto (tgt := 18) hx hb dL_law_3156 (by decide) ?_
        refine lv_iload_n hx hb dL_law_18 rfl (lv_at hl 0 rfl) ?_
        refine lv_aload_n hx hb dL_law_19 rfl (lv_at hl 3 rfl) ?_
        refine va_slen hx hb hX hbl hbA hS dL_law_20 ?_
        refine lv_topi (fun v277 ev277 => ?_)
        obtain rfl : v277 = 6 := ev277.trans (by decide)
        refine lv_bipush (v := 6) hx hb dL_law_21 (by decide) ?_
        refine lv_isub hx hb dL_law_23 ?_
        refine lv_topi (fun v278 ev278 => ?_)
        obtain rfl : v278 = 0 := ev278.trans (by decide)
        refine lv_icmp_gt (tgt := 3159) hx hb dL_law_24 (by decide) (fun c279 => ?_) (fun c279 => ?_)
        · refine lv_iconst (v := 1) hx hb dL_law_3159 (by decide) ?_
          refine va_forget (fun q hq => by have := hS.2.2 q hq; rw [hAe] at this; exact this) ?_
          refine W.widen (k := 600000) (n := 7302250) (Nat.le_of_ble_eq_true rfl) (Nat.le_of_ble_eq_true rfl) ?_
          exact lw_ret hx hb hr hlocks dL_law_3160
        · have q280 := mm_leL (mm_nlt c279) mm_k6 mm_k0
          exact mm_no q280 (by decide)
      · have q281 := mm_neL (lo := (-1)) (mm_ne c276) mm_km2 mm_km2 (by decide) (by decide)
        exact mm_no q281 (by decide)

set_option maxHeartbeats 4000000 in
set_option maxRecDepth 100000 in
theorem lc_70 {p : Program} {e : Env} {s : State} {m : MethodId} {below : List Frame} {meth : Method} {c : Code} {b : Nat} {xs : Nat → Int32} {G : va_G} {cy : Nat → ClassId} {qx qm : Nat} {ux um : Nat → Nat} {H : Heap} {locs : List Loc} {ls : Array Slot} {A : Nat → Prop} (l : Launch) (hx : p.tables.exec = Jvm.exec) (hb : c.code = code) (hr : meth.sig.returnType = ret) (hlocks : meth.locks = false) (hml : c.maxLocals = 4) (hown : s.vm.findClass R_law = some m.cls) (hts : ∀ w ∈ lw_x :: wsL_law, w.before #[Value.ref b] s = true) (hX : va_X b 6 xs s s.heap) (hbl : b < s.heap.size) (hAe : A = fun q => s.heap.size ≤ q) (hK : mm_K G cy s) (hS : va_S A s.heap H locs) (hP : va_P G vwCl [(qx, .inr (11, [.ref (ux 0), .ref (ux 2), .ref (ux 14), .ref (ux 36), .ref (ux 70), .ref (ux 71), .ref (ux 80), .ref (ux 82), .ref (ux 84), .ref (ux 89), .ref (ux 92)])), ((ux 71), .inl (cy 6, 4, .inr (.inr (.inr (.inr (va_up (va_up (va_up (va_up (fun _ => none) 0 (some (ux 72))) 1 (some (ux 74))) 2 (some (ux 76))) 3 (some (ux 78)))))))), ((ux 72), .inr (6, [.int 0, .int 0, .int 0, .ref (ux 73)])), ((ux 74), .inr (6, [.int 0, .int 0, .int 0, .ref (ux 75)])), ((ux 76), .inr (6, [.int 0, .int 0, .int 0, .ref (ux 77)])), ((ux 78), .inr (6, [.int 0, .int 0, .int 0, .ref (ux 79)])), (qm, .inr (12, [.int 0, .ref (um 0), .ref (um 1), .ref (um 2), .ref (um 3), .ref (um 4), .int 0, .int 0, .int 0, .int 0, .int 0, .long 0, .int 0, .int 0, .int 0, .int (-1), .ref (um 5), .ref (um 6), .ref (um 7), .ref (um 8), .ref (um 9), .ref (um 10), .ref (um 11), .ref (um 12), .ref (um 13), .ref (um 14), .ref (um 15), .ref (um 16), .ref (um 17), .int 0, .int 0, .int 0, .int 0, .int 0, .int 0, .ref (um 18), .int 0, .ref (um 19)])), ((um 0), .inl (cy 1, 4, .inl (fun _ => (-1))))] H) (hD : va_D A [(qx, .inr (11, [.ref (ux 0), .ref (ux 2), .ref (ux 14), .ref (ux 36), .ref (ux 70), .ref (ux 71), .ref (ux 80), .ref (ux 82), .ref (ux 84), .ref (ux 89), .ref (ux 92)])), ((ux 71), .inl (cy 6, 4, .inr (.inr (.inr (.inr (va_up (va_up (va_up (va_up (fun _ => none) 0 (some (ux 72))) 1 (some (ux 74))) 2 (some (ux 76))) 3 (some (ux 78)))))))), ((ux 72), .inr (6, [.int 0, .int 0, .int 0, .ref (ux 73)])), ((ux 74), .inr (6, [.int 0, .int 0, .int 0, .ref (ux 75)])), ((ux 76), .inr (6, [.int 0, .int 0, .int 0, .ref (ux 77)])), ((ux 78), .inr (6, [.int 0, .int 0, .int 0, .ref (ux 79)])), (qm, .inr (12, [.int 0, .ref (um 0), .ref (um 1), .ref (um 2), .ref (um 3), .ref (um 4), .int 0, .int 0, .int 0, .int 0, .int 0, .long 0, .int 0, .int 0, .int 0, .int (-1), .ref (um 5), .ref (um 6), .ref (um 7), .ref (um 8), .ref (um 9), .ref (um 10), .ref (um 11), .ref (um 12), .ref (um 13), .ref (um 14), .ref (um 15), .ref (um 16), .ref (um 17), .int 0, .int 0, .int 0, .int 0, .int 0, .int 0, .ref (um 18), .int 0, .ref (um 19)])), ((um 0), .inl (cy 1, 4, .inl (fun _ => (-1))))]) (hl : lv_has ls 4 [(3, .int 0), (2, .ref qm), (1, .ref qx), (0, .ref b)]) : W p l e room_1 s m #[Value.ref b] below meth c H locs 116 20302 (lw_Z below #[Value.ref b] s) (F0 m 3017 ls []) := by
  have hA : ∀ q, s.heap.size ≤ q → A q := by rw [hAe]; exact fun _ h => h
  have hbA : ¬ A b := by rw [hAe]; exact Nat.not_le.mpr hbl
  have hRf : room_1.frames = 2048 := rfl
  have hRl : room_1.locals = 84000 := rfl
  have hRc : room_1.cells = 600000 := rfl
  have hRs : room_1.slots = 7302250 := rfl
  obtain ⟨p1, ep1⟩ : ∃ z : Int32, z = xs 1 := ⟨_, rfl⟩
  obtain ⟨p2, ep2⟩ : ∃ z : Int32, z = xs 2 := ⟨_, rfl⟩
  obtain ⟨p3, ep3⟩ : ∃ z : Int32, z = xs 3 := ⟨_, rfl⟩
  obtain ⟨p4, ep4⟩ : ∃ z : Int32, z = xs 4 := ⟨_, rfl⟩
  obtain ⟨p5, ep5⟩ : ∃ z : Int32, z = xs 5 := ⟨_, rfl⟩
  refine lv_aload_n hx hb dL_law_3017 rfl (lv_at hl 2 rfl) ?_
  refine lv_aload_n hx hb dL_law_3018 rfl (lv_at hl 3 rfl) ?_
  refine lv_iload_n hx hb dL_law_3019 rfl (lv_at hl 0 rfl) ?_
  refine lv_iconst (v := 1) hx hb dL_law_3020 (by decide) ?_
  refine lv_iadd hx hb dL_law_3021 ?_
  refine lv_topi (fun v1 ev1 => ?_)
  obtain rfl : v1 = 1 := ev1.trans (by decide)
  refine va_sld hx hb hX hbl hbA hS (mm_in mm_k1 (by decide)) dL_law_3022 ?_
  refine lv_topi (fun v2 ev2 => ?_)
  obtain rfl : p1 = v2 := ep1.trans ev2.symm
  refine lv_aload_n hx hb dL_law_3023 rfl (lv_at hl 3 rfl) ?_
  refine lv_iload_n hx hb dL_law_3024 rfl (lv_at hl 0 rfl) ?_
  refine lv_iconst (v := 2) hx hb dL_law_3025 (by decide) ?_
  refine lv_iadd hx hb dL_law_3026 ?_
  refine lv_topi (fun v3 ev3 => ?_)
  obtain rfl : v3 = 2 := ev3.trans (by decide)
  refine va_sld hx hb hX hbl hbA hS (mm_in mm_k2 (by decide)) dL_law_3027 ?_
  refine lv_topi (fun v4 ev4 => ?_)
  obtain rfl : p2 = v4 := ep2.trans ev4.symm
  refine lv_aload_n hx hb dL_law_3028 rfl (lv_at hl 3 rfl) ?_
  refine lv_iload_n hx hb dL_law_3029 rfl (lv_at hl 0 rfl) ?_
  refine lv_iconst (v := 3) hx hb dL_law_3030 (by decide) ?_
  refine lv_iadd hx hb dL_law_3031 ?_
  refine lv_topi (fun v5 ev5 => ?_)
  obtain rfl : v5 = 3 := ev5.trans (by decide)
  refine va_sld hx hb hX hbl hbA hS (mm_in mm_k3 (by decide)) dL_law_3032 ?_
  refine lv_topi (fun v6 ev6 => ?_)
  obtain rfl : p3 = v6 := ep3.trans ev6.symm
  obtain ⟨v7, ev7⟩ : ∃ y : Int64, y = p3.toInt64 := ⟨_, rfl⟩
  refine lv_i2l hx hb dL_law_3033 ev7.symm ?_
  have rv7 : mm_rl v7 (-2147483648) 2147483647 := mm_i2l ev7 (mm_top p3)
  refine lv_bipush (v := 32) hx hb dL_law_3034 (by decide) ?_
  refine lv_lshl hx hb dL_law_3036 rfl ?_
  refine lv_topl (fun v8 ev8 => ?_)
  refine lv_aload_n hx hb dL_law_3037 rfl (lv_at hl 3 rfl) ?_
  refine lv_iload_n hx hb dL_law_3038 rfl (lv_at hl 0 rfl) ?_
  refine lv_iconst (v := 4) hx hb dL_law_3039 (by decide) ?_
  refine lv_iadd hx hb dL_law_3040 ?_
  refine lv_topi (fun v9 ev9 => ?_)
  obtain rfl : v9 = 4 := ev9.trans (by decide)
  refine va_sld hx hb hX hbl hbA hS (mm_in mm_k4 (by decide)) dL_law_3041 ?_
  refine lv_topi (fun v10 ev10 => ?_)
  obtain rfl : p4 = v10 := ep4.trans ev10.symm
  obtain ⟨v11, ev11⟩ : ∃ y : Int64, y = p4.toInt64 := ⟨_, rfl⟩
  refine lv_i2l hx hb dL_law_3042 ev11.symm ?_
  have rv11 : mm_rl v11 (-2147483648) 2147483647 := mm_i2l ev11 (mm_top p4)
  refine lv_ldc2 (v := 4294967295) hx hb hown (mm_h hts mm_w6) dL_law_3043 ?_
  refine lv_land hx hb dL_law_3046 ?_
  refine lv_topl (fun v12 ev12 => ?_)
  refine lv_lor hx hb dL_law_3047 ?_
  refine lv_topl (fun v13 ev13 => ?_)
  refine mm_finir (va_runV (As := [.int p1, .int p2, .long v13]) (rest := []) ⟨hx, hb, hml, hown, hts⟩ (K315_X11_write l G cy H.size qx p1 p2 v13 (ux 0) (ux 2) (ux 14) (ux 36) (ux 70) (ux 71) (ux 80) (ux 82) (ux 84) (ux 89) (ux 92) (ux 72) (ux 74) (ux 76) (ux 78) 0 0 (ux 73) 0 0 (ux 75) 0 0 (ux 77) 0 0 (ux 79) ) (cwV 3 hts (mm_gV mm_w1690 mm_w1691 mm_w1692 mm_w2 mm_w1693) rfl rfl rfl hd_X11_write ⟨by rw [hRf]; exact Nat.le_of_ble_eq_true rfl, by rw [hRl]; exact Nat.le_of_ble_eq_true rfl⟩) (mm_preV hK hP hD [0, 1, 2, 3, 4, 5] rfl rfl 0 rfl rfl rfl) rfl rfl hl.1 rfl (lv_room (Nat.le_of_ble_eq_true rfl)) dL_law_3048 ⟨by rw [hRc]; exact Nat.le_of_ble_eq_true rfl, by rw [hRs]; exact Nat.le_of_ble_eq_true rfl⟩) hP hD hS hA [0, 1, 2, 3, 4, 5] rfl (fun _ => rfl) ?_
  clear hP hD hS
  clear H locs
  intro v14 _u H locs hw hP hD hS
  rcases hw with ⟨rfl, w15⟩ | ⟨rfl, w16⟩ | ⟨rfl, w17⟩
  · refine lv_aload_n hx hb dL_law_3051 rfl (lv_at hl 1 rfl) ?_
    refine lv_aload_n hx hb dL_law_3052 rfl (lv_at hl 3 rfl) ?_
    refine lv_iload_n hx hb dL_law_3053 rfl (lv_at hl 0 rfl) ?_
    refine lv_iconst (v := 1) hx hb dL_law_3054 (by decide) ?_
    refine lv_iadd hx hb dL_law_3055 ?_
    refine lv_topi (fun v18 ev18 => ?_)
    obtain rfl : v18 = 1 := ev18.trans (by decide)
    refine va_sld hx hb hX hbl hbA hS (mm_in mm_k1 (by decide)) dL_law_3056 ?_
    refine lv_topi (fun v19 ev19 => ?_)
    obtain rfl : p1 = v19 := ep1.trans ev19.symm
    refine lv_aload_n hx hb dL_law_3057 rfl (lv_at hl 3 rfl) ?_
    refine lv_iload_n hx hb dL_law_3058 rfl (lv_at hl 0 rfl) ?_
    refine lv_iconst (v := 2) hx hb dL_law_3059 (by decide) ?_
    refine lv_iadd hx hb dL_law_3060 ?_
    refine lv_topi (fun v20 ev20 => ?_)
    obtain rfl : v20 = 2 := ev20.trans (by decide)
    refine va_sld hx hb hX hbl hbA hS (mm_in mm_k2 (by decide)) dL_law_3061 ?_
    refine lv_topi (fun v21 ev21 => ?_)
    obtain rfl : p2 = v21 := ep2.trans ev21.symm
    refine lv_aload_n hx hb dL_law_3062 rfl (lv_at hl 3 rfl) ?_
    refine lv_iload_n hx hb dL_law_3063 rfl (lv_at hl 0 rfl) ?_
    refine lv_iconst (v := 3) hx hb dL_law_3064 (by decide) ?_
    refine lv_iadd hx hb dL_law_3065 ?_
    refine lv_topi (fun v22 ev22 => ?_)
    obtain rfl : v22 = 3 := ev22.trans (by decide)
    refine va_sld hx hb hX hbl hbA hS (mm_in mm_k3 (by decide)) dL_law_3066 ?_
    refine lv_topi (fun v23 ev23 => ?_)
    obtain rfl : p3 = v23 := ep3.trans ev23.symm
    obtain ⟨v24, ev24⟩ : ∃ y : Int64, y = p3.toInt64 := ⟨_, rfl⟩
    refine lv_i2l hx hb dL_law_3067 ev24.symm ?_
    have rv24 : mm_rl v24 (-2147483648) 2147483647 := mm_i2l ev24 (mm_top p3)
    refine lv_bipush (v := 32) hx hb dL_law_3068 (by decide) ?_
    refine lv_lshl hx hb dL_law_3070 rfl ?_
    refine lv_topl (fun v25 ev25 => ?_)
    refine lv_aload_n hx hb dL_law_3071 rfl (lv_at hl 3 rfl) ?_
    refine lv_iload_n hx hb dL_law_3072 rfl (lv_at hl 0 rfl) ?_
    refine lv_iconst (v := 4) hx hb dL_law_3073 (by decide) ?_
    refine lv_iadd hx hb dL_law_3074 ?_
    refine lv_topi (fun v26 ev26 => ?_)
    obtain rfl : v26 = 4 := ev26.trans (by decide)
    refine va_sld hx hb hX hbl hbA hS (mm_in mm_k4 (by decide)) dL_law_3075 ?_
    refine lv_topi (fun v27 ev27 => ?_)
    obtain rfl : p4 = v27 := ep4.trans ev27.symm
    obtain ⟨v28, ev28⟩ : ∃ y : Int64, y = p4.toInt64 := ⟨_, rfl⟩
    refine lv_i2l hx hb dL_law_3076 ev28.symm ?_
    have rv28 : mm_rl v28 (-2147483648) 2147483647 := mm_i2l ev28 (mm_top p4)
    refine lv_ldc2 (v := 4294967295) hx hb hown (mm_h hts mm_w6) dL_law_3077 ?_
    refine lv_land hx hb dL_law_3080 ?_
    refine lv_topl (fun v29 ev29 => ?_)
    refine lv_lor hx hb dL_law_3081 ?_
    refine lv_topl (fun v30 ev30 => ?_)
    refine mm_finir (va_runV (As := [.int p1, .int p2, .long v30]) (rest := [.int (-2)]) ⟨hx, hb, hml, hown, hts⟩ (K316_X12_write l G cy H.size qm p1 p2 v30 (um 0) (um 1) (um 2) (um 3) (um 4) 0 0 0 0 0 0 0 0 0 (-1) (um 5) (um 6) (um 7) (um 8) (um 9) (um 10) (um 11) (um 12) (um 13) (um 14) (um 15) (um 16) (um 17) 0 0 0 0 0 0 (um 18) 0 (um 19) ) (cwV 3 hts (mm_gV mm_w1699 mm_w1700 mm_w1701 mm_w5 mm_w1702) rfl rfl rfl hd_X12_write ⟨by rw [hRf]; exact Nat.le_of_ble_eq_true rfl, by rw [hRl]; exact Nat.le_of_ble_eq_true rfl⟩) (mm_preV hK hP hD [6, 7] rfl rfl 6 rfl rfl rfl) rfl rfl hl.1 rfl (lv_room (Nat.le_of_ble_eq_true rfl)) dL_law_3082 ⟨by rw [hRc]; exact Nat.le_of_ble_eq_true rfl, by rw [hRs]; exact Nat.le_of_ble_eq_true rfl⟩) hP hD hS hA [6, 7] rfl (fun _ => rfl) ?_
    clear hP hD hS
    clear H locs
    intro v31 _u H locs hw hP hD hS
    rcases hw with ⟨rfl, w32⟩ | ⟨rfl, w33⟩ | ⟨rfl, w34⟩
    · refine lv_icmp_eq (tgt := 3153) hx hb dL_law_3085 (by decide) (fun c35 => ?_) (fun c35 => ?_)
      · refine lv_iinc (v := 6) (lv' := [(3, .int 6), (2, .ref qm), (1, .ref qx), (0, .ref b)]) hx hb dL_law_3153 hl (k := 0) rfl (by decide) (by decide) rfl ?_
        clear hl
        clear ls
        intro ls hl
        refine lv_goto (tgt := 18) hx hb dL_law_3156 (by decide) ?_
        refine lv_iload_n hx hb dL_law_18 rfl (lv_at hl 0 rfl) ?_
        refine lv_aload_n hx hb dL_law_19 rfl (lv_at hl 3 rfl) ?_
        refine va_slen hx hb hX hbl hbA hS dL_law_20 ?_
        refine lv_topi (fun v36 ev36 => ?_)
        obtain rfl : v36 = 6 := ev36.trans (by decide)
        refine lv_bipush (v := 6) hx hb dL_law_21 (by decide) ?_
        refine lv_isub hx hb dL_law_23 ?_
        refine lv_topi (fun v37 ev37 => ?_)
        obtain rfl : v37 = 0 := ev37.trans (by decide)
        refine lv_icmp_gt (tgt := 3159) hx hb dL_law_24 (by decide) (fun c38 => ?_) (fun c38 => ?_)
        · refine lv_iconst (v := 1) hx hb dL_law_3159 (by decide) ?_
          refine va_forget (fun q hq => by have := hS.2.2 q hq; rw [hAe] at this; exact this) ?_
          refine W.widen (k := 600000) (n := 7302250) (Nat.le_of_ble_eq_true rfl) (Nat.le_of_ble_eq_true rfl) ?_
          exact lw_ret hx hb hr hlocks dL_law_3160
        · have q39 := mm_leL (mm_nlt c38) mm_k6 mm_k0
          exact mm_no q39 (by decide)
      · have q40 := mm_neL (lo := (-1)) (mm_ne c35) mm_km2 mm_km2 (by decide) (by decide)
        exact mm_no q40 (by decide)
    · exact mm_noX w33 w15 (by decide)
    · exact mm_noX w34 w15 (by decide)
  · refine lv_aload_n hx hb dL_law_3051 rfl (lv_at hl 1 rfl) ?_
    refine lv_aload_n hx hb dL_law_3052 rfl (lv_at hl 3 rfl) ?_
    refine lv_iload_n hx hb dL_law_3053 rfl (lv_at hl 0 rfl) ?_
    refine lv_iconst (v := 1) hx hb dL_law_3054 (by decide) ?_
    refine lv_iadd hx hb dL_law_3055 ?_
    refine lv_topi (fun v41 ev41 => ?_)
    obtain rfl : v41 = 1 := ev41.trans (by decide)
    refine va_sld hx hb hX hbl hbA hS (mm_in mm_k1 (by decide)) dL_law_3056 ?_
    refine lv_topi (fun v42 ev42 => ?_)
    obtain rfl : p1 = v42 := ep1.trans ev42.symm
    refine lv_aload_n hx hb dL_law_3057 rfl (lv_at hl 3 rfl) ?_
    refine lv_iload_n hx hb dL_law_3058 rfl (lv_at hl 0 rfl) ?_
    refine lv_iconst (v := 2) hx hb dL_law_3059 (by decide) ?_
    refine lv_iadd hx hb dL_law_3060 ?_
    refine lv_topi (fun v43 ev43 => ?_)
    obtain rfl : v43 = 2 := ev43.trans (by decide)
    refine va_sld hx hb hX hbl hbA hS (mm_in mm_k2 (by decide)) dL_law_3061 ?_
    refine lv_topi (fun v44 ev44 => ?_)
    obtain rfl : p2 = v44 := ep2.trans ev44.symm
    refine lv_aload_n hx hb dL_law_3062 rfl (lv_at hl 3 rfl) ?_
    refine lv_iload_n hx hb dL_law_3063 rfl (lv_at hl 0 rfl) ?_
    refine lv_iconst (v := 3) hx hb dL_law_3064 (by decide) ?_
    refine lv_iadd hx hb dL_law_3065 ?_
    refine lv_topi (fun v45 ev45 => ?_)
    obtain rfl : v45 = 3 := ev45.trans (by decide)
    refine va_sld hx hb hX hbl hbA hS (mm_in mm_k3 (by decide)) dL_law_3066 ?_
    refine lv_topi (fun v46 ev46 => ?_)
    obtain rfl : p3 = v46 := ep3.trans ev46.symm
    obtain ⟨v47, ev47⟩ : ∃ y : Int64, y = p3.toInt64 := ⟨_, rfl⟩
    refine lv_i2l hx hb dL_law_3067 ev47.symm ?_
    have rv47 : mm_rl v47 (-2147483648) 2147483647 := mm_i2l ev47 (mm_top p3)
    refine lv_bipush (v := 32) hx hb dL_law_3068 (by decide) ?_
    refine lv_lshl hx hb dL_law_3070 rfl ?_
    refine lv_topl (fun v48 ev48 => ?_)
    refine lv_aload_n hx hb dL_law_3071 rfl (lv_at hl 3 rfl) ?_
    refine lv_iload_n hx hb dL_law_3072 rfl (lv_at hl 0 rfl) ?_
    refine lv_iconst (v := 4) hx hb dL_law_3073 (by decide) ?_
    refine lv_iadd hx hb dL_law_3074 ?_
    refine lv_topi (fun v49 ev49 => ?_)
    obtain rfl : v49 = 4 := ev49.trans (by decide)
    refine va_sld hx hb hX hbl hbA hS (mm_in mm_k4 (by decide)) dL_law_3075 ?_
    refine lv_topi (fun v50 ev50 => ?_)
    obtain rfl : p4 = v50 := ep4.trans ev50.symm
    obtain ⟨v51, ev51⟩ : ∃ y : Int64, y = p4.toInt64 := ⟨_, rfl⟩
    refine lv_i2l hx hb dL_law_3076 ev51.symm ?_
    have rv51 : mm_rl v51 (-2147483648) 2147483647 := mm_i2l ev51 (mm_top p4)
    refine lv_ldc2 (v := 4294967295) hx hb hown (mm_h hts mm_w6) dL_law_3077 ?_
    refine lv_land hx hb dL_law_3080 ?_
    refine lv_topl (fun v52 ev52 => ?_)
    refine lv_lor hx hb dL_law_3081 ?_
    refine lv_topl (fun v53 ev53 => ?_)
    refine mm_finir (va_runV (As := [.int p1, .int p2, .long v53]) (rest := [.int (-2)]) ⟨hx, hb, hml, hown, hts⟩ (K316_X12_write l G cy H.size qm p1 p2 v53 (um 0) (um 1) (um 2) (um 3) (um 4) 0 0 0 0 0 0 0 0 0 (-1) (um 5) (um 6) (um 7) (um 8) (um 9) (um 10) (um 11) (um 12) (um 13) (um 14) (um 15) (um 16) (um 17) 0 0 0 0 0 0 (um 18) 0 (um 19) ) (cwV 3 hts (mm_gV mm_w1699 mm_w1700 mm_w1701 mm_w5 mm_w1702) rfl rfl rfl hd_X12_write ⟨by rw [hRf]; exact Nat.le_of_ble_eq_true rfl, by rw [hRl]; exact Nat.le_of_ble_eq_true rfl⟩) (mm_preV hK hP hD [6, 7] rfl rfl 6 rfl rfl rfl) rfl rfl hl.1 rfl (lv_room (Nat.le_of_ble_eq_true rfl)) dL_law_3082 ⟨by rw [hRc]; exact Nat.le_of_ble_eq_true rfl, by rw [hRs]; exact Nat.le_of_ble_eq_true rfl⟩) hP hD hS hA [6, 7] rfl (fun _ => rfl) ?_
    clear hP hD hS
    clear H locs
    intro v54 _u H locs hw hP hD hS
    rcases hw with ⟨rfl, w55⟩ | ⟨rfl, w56⟩ | ⟨rfl, w57⟩
    · exact mm_noX w55 w16 (by decide)
    · refine lv_icmp_eq (tgt := 3153) hx hb dL_law_3085 (by decide) (fun c58 => ?_) (fun c58 => ?_)
      · refine lv_iinc (v := 6) (lv' := [(3, .int 6), (2, .ref qm), (1, .ref qx), (0, .ref b)]) hx hb dL_law_3153 hl (k := 0) rfl (by decide) (by decide) rfl ?_
        clear hl
        clear ls
        intro ls hl
        refine lv_goto (tgt := 18) hx hb dL_law_3156 (by decide) ?_
        refine lv_iload_n hx hb dL_law_18 rfl (lv_at hl 0 rfl) ?_
        refine lv_aload_n hx hb dL_law_19 rfl (lv_at hl 3 rfl) ?_
        refine va_slen hx hb hX hbl hbA hS dL_law_20 ?_
        refine lv_topi (fun v59 ev59 => ?_)
        obtain rfl : v59 = 6 := ev59.trans (by decide)
        refine lv_bipush (v := 6) hx hb dL_law_21 (by decide) ?_
        refine lv_isub hx hb dL_law_23 ?_
        refine lv_topi (fun v60 ev60 => ?_)
        obtain rfl : v60 = 0 := ev60.trans (by decide)
        refine lv_icmp_gt (tgt := 3159) hx hb dL_law_24 (by decide) (fun c61 => ?_) (fun c61 => ?_)
        · refine lv_iconst (v := 1) hx hb dL_law_3159 (by decide) ?_
          refine va_forget (fun q hq => by have := hS.2.2 q hq; rw [hAe] at this; exact this) ?_
          refine W.widen (k := 600000) (n := 7302250) (Nat.le_of_ble_eq_true rfl) (Nat.le_of_ble_eq_true rfl) ?_
          exact lw_ret hx hb hr hlocks dL_law_3160
        · have q62 := mm_leL (mm_nlt c61) mm_k6 mm_k0
          exact mm_no q62 (by decide)
      · have q63 := mm_neL (lo := (-1)) (mm_ne c58) mm_km2 mm_km2 (by decide) (by decide)
        exact mm_no q63 (by decide)
    · exact mm_noX w57 w16 (by decide)
  · refine lv_aload_n hx hb dL_law_3051 rfl (lv_at hl 1 rfl) ?_
    refine lv_aload_n hx hb dL_law_3052 rfl (lv_at hl 3 rfl) ?_
    refine lv_iload_n hx hb dL_law_3053 rfl (lv_at hl 0 rfl) ?_
    refine lv_iconst (v := 1) hx hb dL_law_3054 (by decide) ?_
    refine lv_iadd hx hb dL_law_3055 ?_
    refine lv_topi (fun v64 ev64 => ?_)
    obtain rfl : v64 = 1 := ev64.trans (by decide)
    refine va_sld hx hb hX hbl hbA hS (mm_in mm_k1 (by decide)) dL_law_3056 ?_
    refine lv_topi (fun v65 ev65 => ?_)
    obtain rfl : p1 = v65 := ep1.trans ev65.symm
    refine lv_aload_n hx hb dL_law_3057 rfl (lv_at hl 3 rfl) ?_
    refine lv_iload_n hx hb dL_law_3058 rfl (lv_at hl 0 rfl) ?_
    refine lv_iconst (v := 2) hx hb dL_law_3059 (by decide) ?_
    refine lv_iadd hx hb dL_law_3060 ?_
    refine lv_topi (fun v66 ev66 => ?_)
    obtain rfl : v66 = 2 := ev66.trans (by decide)
    refine va_sld hx hb hX hbl hbA hS (mm_in mm_k2 (by decide)) dL_law_3061 ?_
    refine lv_topi (fun v67 ev67 => ?_)
    obtain rfl : p2 = v67 := ep2.trans ev67.symm
    refine lv_aload_n hx hb dL_law_3062 rfl (lv_at hl 3 rfl) ?_
    refine lv_iload_n hx hb dL_law_3063 rfl (lv_at hl 0 rfl) ?_
    refine lv_iconst (v := 3) hx hb dL_law_3064 (by decide) ?_
    refine lv_iadd hx hb dL_law_3065 ?_
    refine lv_topi (fun v68 ev68 => ?_)
    obtain rfl : v68 = 3 := ev68.trans (by decide)
    refine va_sld hx hb hX hbl hbA hS (mm_in mm_k3 (by decide)) dL_law_3066 ?_
    refine lv_topi (fun v69 ev69 => ?_)
    obtain rfl : p3 = v69 := ep3.trans ev69.symm
    obtain ⟨v70, ev70⟩ : ∃ y : Int64, y = p3.toInt64 := ⟨_, rfl⟩
    refine lv_i2l hx hb dL_law_3067 ev70.symm ?_
    have rv70 : mm_rl v70 (-2147483648) 2147483647 := mm_i2l ev70 (mm_top p3)
    refine lv_bipush (v := 32) hx hb dL_law_3068 (by decide) ?_
    refine lv_lshl hx hb dL_law_3070 rfl ?_
    refine lv_topl (fun v71 ev71 => ?_)
    refine lv_aload_n hx hb dL_law_3071 rfl (lv_at hl 3 rfl) ?_
    refine lv_iload_n hx hb dL_law_3072 rfl (lv_at hl 0 rfl) ?_
    refine lv_iconst (v := 4) hx hb dL_law_3073 (by decide) ?_
    refine lv_iadd hx hb dL_law_3074 ?_
    refine lv_topi (fun v72 ev72 => ?_)
    obtain rfl : v72 = 4 := ev72.trans (by decide)
    refine va_sld hx hb hX hbl hbA hS (mm_in mm_k4 (by decide)) dL_law_3075 ?_
    refine lv_topi (fun v73 ev73 => ?_)
    obtain rfl : p4 = v73 := ep4.trans ev73.symm
    obtain ⟨v74, ev74⟩ : ∃ y : Int64, y = p4.toInt64 := ⟨_, rfl⟩
    refine lv_i2l hx hb dL_law_3076 ev74.symm ?_
    have rv74 : mm_rl v74 (-2147483648) 2147483647 := mm_i2l ev74 (mm_top p4)
    refine lv_ldc2 (v := 4294967295) hx hb hown (mm_h hts mm_w6) dL_law_3077 ?_
    refine lv_land hx hb dL_law_3080 ?_
    refine lv_topl (fun v75 ev75 => ?_)
    refine lv_lor hx hb dL_law_3081 ?_
    refine lv_topl (fun v76 ev76 => ?_)
    refine mm_finir (va_runV (As := [.int p1, .int p2, .long v76]) (rest := [.int (-6)]) ⟨hx, hb, hml, hown, hts⟩ (K316_X12_write l G cy H.size qm p1 p2 v76 (um 0) (um 1) (um 2) (um 3) (um 4) 0 0 0 0 0 0 0 0 0 (-1) (um 5) (um 6) (um 7) (um 8) (um 9) (um 10) (um 11) (um 12) (um 13) (um 14) (um 15) (um 16) (um 17) 0 0 0 0 0 0 (um 18) 0 (um 19) ) (cwV 3 hts (mm_gV mm_w1699 mm_w1700 mm_w1701 mm_w5 mm_w1702) rfl rfl rfl hd_X12_write ⟨by rw [hRf]; exact Nat.le_of_ble_eq_true rfl, by rw [hRl]; exact Nat.le_of_ble_eq_true rfl⟩) (mm_preV hK hP hD [6, 7] rfl rfl 6 rfl rfl rfl) rfl rfl hl.1 rfl (lv_room (Nat.le_of_ble_eq_true rfl)) dL_law_3082 ⟨by rw [hRc]; exact Nat.le_of_ble_eq_true rfl, by rw [hRs]; exact Nat.le_of_ble_eq_true rfl⟩) hP hD hS hA [6, 7] rfl (fun _ => rfl) ?_
    clear hP hD hS
    clear H locs
    intro v77 _u H locs hw hP hD hS
    rcases hw with ⟨rfl, w78⟩ | ⟨rfl, w79⟩ | ⟨rfl, w80⟩
    · exact mm_noX w78 w17 (by decide)
    · exact mm_noX w79 w17 (by decide)
    · refine lv_icmp_eq (tgt := 3153) hx hb dL_law_3085 (by decide) (fun c81 => ?_) (fun c81 => ?_)
      · refine lv_iinc (v := 6) (lv' := [(3, .int 6), (2, .ref qm), (1, .ref qx), (0, .ref b)]) hx hb dL_law_3153 hl (k := 0) rfl (by decide) (by decide) rfl ?_
        clear hl
        clear ls
        intro ls hl
        refine lv_goto (tgt := 18) hx hb dL_law_3156 (by decide) ?_
        refine lv_iload_n hx hb dL_law_18 rfl (lv_at hl 0 rfl) ?_
        refine lv_aload_n hx hb dL_law_19 rfl (lv_at hl 3 rfl) ?_
        refine va_slen hx hb hX hbl hbA hS dL_law_20 ?_
        refine lv_topi (fun v82 ev82 => ?_)
        obtain rfl : v82 = 6 := ev82.trans (by decide)
        refine lv_bipush (v := 6) hx hb dL_law_21 (by decide) ?_
        refine lv_isub hx hb dL_law_23 ?_
        refine lv_topi (fun v83 ev83 => ?_)
        obtain rfl : v83 = 0 := ev83.trans (by decide)
        refine lv_icmp_gt (tgt := 3159) hx hb dL_law_24 (by decide) (fun c84 => ?_) (fun c84 => ?_)
        · refine lv_iconst (v := 1) hx hb dL_law_3159 (by decide) ?_
          refine va_forget (fun q hq => by have := hS.2.2 q hq; rw [hAe] at this; exact this) ?_
          refine W.widen (k := 600000) (n := 7302250) (Nat.le_of_ble_eq_true rfl) (Nat.le_of_ble_eq_true rfl) ?_
          exact lw_ret hx hb hr hlocks dL_law_3160
        · have q85 := mm_leL (mm_nlt c84) mm_k6 mm_k0
          exact mm_no q85 (by decide)
      · have q86 := mm_neL (lo := (-5)) (mm_ne c81) mm_km6 mm_km6 (by decide) (by decide)
        exact mm_no q86 (by decide)

set_option maxHeartbeats 4000000 in
set_option maxRecDepth 100000 in
theorem lc_71 {p : Program} {e : Env} {s : State} {m : MethodId} {below : List Frame} {meth : Method} {c : Code} {b : Nat} {xs : Nat → Int32} {G : va_G} {cy : Nat → ClassId} {qx qm : Nat} {ux um : Nat → Nat} {H : Heap} {locs : List Loc} {ls : Array Slot} {A : Nat → Prop} (l : Launch) (hx : p.tables.exec = Jvm.exec) (hb : c.code = code) (hr : meth.sig.returnType = ret) (hlocks : meth.locks = false) (hml : c.maxLocals = 4) (hown : s.vm.findClass R_law = some m.cls) (hts : ∀ w ∈ lw_x :: wsL_law, w.before #[Value.ref b] s = true) (hX : va_X b 6 xs s s.heap) (hbl : b < s.heap.size) (hAe : A = fun q => s.heap.size ≤ q) (hK : mm_K G cy s) (hS : va_S A s.heap H locs) (hP : va_P G vwCl [(qx, .inr (11, [.ref (ux 0), .ref (ux 2), .ref (ux 14), .ref (ux 36), .ref (ux 70), .ref (ux 71), .ref (ux 80), .ref (ux 82), .ref (ux 84), .ref (ux 89), .ref (ux 92)])), ((ux 71), .inl (cy 6, 4, .inr (.inr (.inr (.inr (va_up (va_up (va_up (va_up (fun _ => none) 0 (some (ux 72))) 1 (some (ux 74))) 2 (some (ux 76))) 3 (some (ux 78)))))))), ((ux 72), .inr (6, [.int 0, .int 0, .int 0, .ref (ux 73)])), ((ux 74), .inr (6, [.int 0, .int 0, .int 0, .ref (ux 75)])), ((ux 76), .inr (6, [.int 0, .int 0, .int 0, .ref (ux 77)])), ((ux 78), .inr (6, [.int 0, .int 0, .int 0, .ref (ux 79)])), (qm, .inr (12, [.int 0, .ref (um 0), .ref (um 1), .ref (um 2), .ref (um 3), .ref (um 4), .int 0, .int 0, .int 0, .int 0, .int 0, .long 0, .int 0, .int 0, .int 0, .int (-1), .ref (um 5), .ref (um 6), .ref (um 7), .ref (um 8), .ref (um 9), .ref (um 10), .ref (um 11), .ref (um 12), .ref (um 13), .ref (um 14), .ref (um 15), .ref (um 16), .ref (um 17), .int 0, .int 0, .int 0, .int 0, .int 0, .int 0, .ref (um 18), .int 0, .ref (um 19)])), ((um 0), .inl (cy 1, 4, .inl (fun _ => (-1))))] H) (hD : va_D A [(qx, .inr (11, [.ref (ux 0), .ref (ux 2), .ref (ux 14), .ref (ux 36), .ref (ux 70), .ref (ux 71), .ref (ux 80), .ref (ux 82), .ref (ux 84), .ref (ux 89), .ref (ux 92)])), ((ux 71), .inl (cy 6, 4, .inr (.inr (.inr (.inr (va_up (va_up (va_up (va_up (fun _ => none) 0 (some (ux 72))) 1 (some (ux 74))) 2 (some (ux 76))) 3 (some (ux 78)))))))), ((ux 72), .inr (6, [.int 0, .int 0, .int 0, .ref (ux 73)])), ((ux 74), .inr (6, [.int 0, .int 0, .int 0, .ref (ux 75)])), ((ux 76), .inr (6, [.int 0, .int 0, .int 0, .ref (ux 77)])), ((ux 78), .inr (6, [.int 0, .int 0, .int 0, .ref (ux 79)])), (qm, .inr (12, [.int 0, .ref (um 0), .ref (um 1), .ref (um 2), .ref (um 3), .ref (um 4), .int 0, .int 0, .int 0, .int 0, .int 0, .long 0, .int 0, .int 0, .int 0, .int (-1), .ref (um 5), .ref (um 6), .ref (um 7), .ref (um 8), .ref (um 9), .ref (um 10), .ref (um 11), .ref (um 12), .ref (um 13), .ref (um 14), .ref (um 15), .ref (um 16), .ref (um 17), .int 0, .int 0, .int 0, .int 0, .int 0, .int 0, .ref (um 18), .int 0, .ref (um 19)])), ((um 0), .inl (cy 1, 4, .inl (fun _ => (-1))))]) (hl : lv_has ls 4 [(3, .int 0), (2, .ref qm), (1, .ref qx), (0, .ref b)]) : W p l e room_1 s m #[Value.ref b] below meth c H locs 116 20302 (lw_Z below #[Value.ref b] s) (F0 m 3090 ls []) := by
  have hA : ∀ q, s.heap.size ≤ q → A q := by rw [hAe]; exact fun _ h => h
  have hbA : ¬ A b := by rw [hAe]; exact Nat.not_le.mpr hbl
  have hRf : room_1.frames = 2048 := rfl
  have hRl : room_1.locals = 84000 := rfl
  have hRc : room_1.cells = 600000 := rfl
  have hRs : room_1.slots = 7302250 := rfl
  obtain ⟨p1, ep1⟩ : ∃ z : Int32, z = xs 1 := ⟨_, rfl⟩
  obtain ⟨p2, ep2⟩ : ∃ z : Int32, z = xs 2 := ⟨_, rfl⟩
  obtain ⟨p3, ep3⟩ : ∃ z : Int32, z = xs 3 := ⟨_, rfl⟩
  obtain ⟨p4, ep4⟩ : ∃ z : Int32, z = xs 4 := ⟨_, rfl⟩
  obtain ⟨p5, ep5⟩ : ∃ z : Int32, z = xs 5 := ⟨_, rfl⟩
  refine lv_aload_n hx hb dL_law_3090 rfl (lv_at hl 2 rfl) ?_
  refine lv_aload_n hx hb dL_law_3091 rfl (lv_at hl 3 rfl) ?_
  refine lv_iload_n hx hb dL_law_3092 rfl (lv_at hl 0 rfl) ?_
  refine lv_iconst (v := 1) hx hb dL_law_3093 (by decide) ?_
  refine lv_iadd hx hb dL_law_3094 ?_
  refine lv_topi (fun v1 ev1 => ?_)
  obtain rfl : v1 = 1 := ev1.trans (by decide)
  refine va_sld hx hb hX hbl hbA hS (mm_in mm_k1 (by decide)) dL_law_3095 ?_
  refine lv_topi (fun v2 ev2 => ?_)
  obtain rfl : p1 = v2 := ep1.trans ev2.symm
  refine lv_aload_n hx hb dL_law_3096 rfl (lv_at hl 3 rfl) ?_
  refine lv_iload_n hx hb dL_law_3097 rfl (lv_at hl 0 rfl) ?_
  refine lv_iconst (v := 2) hx hb dL_law_3098 (by decide) ?_
  refine lv_iadd hx hb dL_law_3099 ?_
  refine lv_topi (fun v3 ev3 => ?_)
  obtain rfl : v3 = 2 := ev3.trans (by decide)
  refine va_sld hx hb hX hbl hbA hS (mm_in mm_k2 (by decide)) dL_law_3100 ?_
  refine lv_topi (fun v4 ev4 => ?_)
  obtain rfl : p2 = v4 := ep2.trans ev4.symm
  refine lv_aload_n hx hb dL_law_3101 rfl (lv_at hl 3 rfl) ?_
  refine lv_iload_n hx hb dL_law_3102 rfl (lv_at hl 0 rfl) ?_
  refine lv_iconst (v := 3) hx hb dL_law_3103 (by decide) ?_
  refine lv_iadd hx hb dL_law_3104 ?_
  refine lv_topi (fun v5 ev5 => ?_)
  obtain rfl : v5 = 3 := ev5.trans (by decide)
  refine va_sld hx hb hX hbl hbA hS (mm_in mm_k3 (by decide)) dL_law_3105 ?_
  refine lv_topi (fun v6 ev6 => ?_)
  obtain rfl : p3 = v6 := ep3.trans ev6.symm
  refine lv_aload_n hx hb dL_law_3106 rfl (lv_at hl 3 rfl) ?_
  refine lv_iload_n hx hb dL_law_3107 rfl (lv_at hl 0 rfl) ?_
  refine lv_iconst (v := 4) hx hb dL_law_3108 (by decide) ?_
  refine lv_iadd hx hb dL_law_3109 ?_
  refine lv_topi (fun v7 ev7 => ?_)
  obtain rfl : v7 = 4 := ev7.trans (by decide)
  refine va_sld hx hb hX hbl hbA hS (mm_in mm_k4 (by decide)) dL_law_3110 ?_
  refine lv_topi (fun v8 ev8 => ?_)
  obtain rfl : p4 = v8 := ep4.trans ev8.symm
  refine lv_aload_n hx hb dL_law_3111 rfl (lv_at hl 3 rfl) ?_
  refine lv_iload_n hx hb dL_law_3112 rfl (lv_at hl 0 rfl) ?_
  refine lv_iconst (v := 5) hx hb dL_law_3113 (by decide) ?_
  refine lv_iadd hx hb dL_law_3114 ?_
  refine lv_topi (fun v9 ev9 => ?_)
  obtain rfl : v9 = 5 := ev9.trans (by decide)
  refine va_sld hx hb hX hbl hbA hS (mm_in mm_k5 (by decide)) dL_law_3115 ?_
  refine lv_topi (fun v10 ev10 => ?_)
  obtain rfl : p5 = v10 := ep5.trans ev10.symm
  refine mm_finir (va_runV (As := [.int p1, .int p2, .int p3, .int p4, .int p5]) (rest := []) ⟨hx, hb, hml, hown, hts⟩ (K317_X11_paste l G cy H.size qx p1 p2 p3 p4 p5 (ux 0) (ux 2) (ux 14) (ux 36) (ux 70) (ux 71) (ux 80) (ux 82) (ux 84) (ux 89) (ux 92) (ux 72) (ux 74) (ux 76) (ux 78) 0 0 (ux 73) 0 0 (ux 75) 0 0 (ux 77) 0 0 (ux 79) ) (cwV 5 hts (mm_gV mm_w1706 mm_w1707 mm_w1708 mm_w2 mm_w1709) rfl rfl rfl hd_X11_paste ⟨by rw [hRf]; exact Nat.le_of_ble_eq_true rfl, by rw [hRl]; exact Nat.le_of_ble_eq_true rfl⟩) (mm_preV hK hP hD [0, 1, 2, 3, 4, 5] rfl rfl 0 rfl rfl rfl) rfl rfl hl.1 rfl (lv_room (Nat.le_of_ble_eq_true rfl)) dL_law_3116 ⟨by rw [hRc]; exact Nat.le_of_ble_eq_true rfl, by rw [hRs]; exact Nat.le_of_ble_eq_true rfl⟩) hP hD hS hA [0, 1, 2, 3, 4, 5] rfl (fun _ => rfl) ?_
  clear hP hD hS
  clear H locs
  intro v11 _u H locs hw hP hD hS
  rcases hw with ⟨rfl, w12⟩ | ⟨rfl, w13⟩ | ⟨rfl, w14, w15⟩ | ⟨rfl, w16, w17⟩ | ⟨rfl, w18, w19⟩
  · refine lv_aload_n hx hb dL_law_3119 rfl (lv_at hl 1 rfl) ?_
    refine lv_aload_n hx hb dL_law_3120 rfl (lv_at hl 3 rfl) ?_
    refine lv_iload_n hx hb dL_law_3121 rfl (lv_at hl 0 rfl) ?_
    refine lv_iconst (v := 1) hx hb dL_law_3122 (by decide) ?_
    refine lv_iadd hx hb dL_law_3123 ?_
    refine lv_topi (fun v20 ev20 => ?_)
    obtain rfl : v20 = 1 := ev20.trans (by decide)
    refine va_sld hx hb hX hbl hbA hS (mm_in mm_k1 (by decide)) dL_law_3124 ?_
    refine lv_topi (fun v21 ev21 => ?_)
    obtain rfl : p1 = v21 := ep1.trans ev21.symm
    refine lv_aload_n hx hb dL_law_3125 rfl (lv_at hl 3 rfl) ?_
    refine lv_iload_n hx hb dL_law_3126 rfl (lv_at hl 0 rfl) ?_
    refine lv_iconst (v := 2) hx hb dL_law_3127 (by decide) ?_
    refine lv_iadd hx hb dL_law_3128 ?_
    refine lv_topi (fun v22 ev22 => ?_)
    obtain rfl : v22 = 2 := ev22.trans (by decide)
    refine va_sld hx hb hX hbl hbA hS (mm_in mm_k2 (by decide)) dL_law_3129 ?_
    refine lv_topi (fun v23 ev23 => ?_)
    obtain rfl : p2 = v23 := ep2.trans ev23.symm
    refine lv_aload_n hx hb dL_law_3130 rfl (lv_at hl 3 rfl) ?_
    refine lv_iload_n hx hb dL_law_3131 rfl (lv_at hl 0 rfl) ?_
    refine lv_iconst (v := 3) hx hb dL_law_3132 (by decide) ?_
    refine lv_iadd hx hb dL_law_3133 ?_
    refine lv_topi (fun v24 ev24 => ?_)
    obtain rfl : v24 = 3 := ev24.trans (by decide)
    refine va_sld hx hb hX hbl hbA hS (mm_in mm_k3 (by decide)) dL_law_3134 ?_
    refine lv_topi (fun v25 ev25 => ?_)
    obtain rfl : p3 = v25 := ep3.trans ev25.symm
    refine lv_aload_n hx hb dL_law_3135 rfl (lv_at hl 3 rfl) ?_
    refine lv_iload_n hx hb dL_law_3136 rfl (lv_at hl 0 rfl) ?_
    refine lv_iconst (v := 4) hx hb dL_law_3137 (by decide) ?_
    refine lv_iadd hx hb dL_law_3138 ?_
    refine lv_topi (fun v26 ev26 => ?_)
    obtain rfl : v26 = 4 := ev26.trans (by decide)
    refine va_sld hx hb hX hbl hbA hS (mm_in mm_k4 (by decide)) dL_law_3139 ?_
    refine lv_topi (fun v27 ev27 => ?_)
    obtain rfl : p4 = v27 := ep4.trans ev27.symm
    refine lv_aload_n hx hb dL_law_3140 rfl (lv_at hl 3 rfl) ?_
    refine lv_iload_n hx hb dL_law_3141 rfl (lv_at hl 0 rfl) ?_
    refine lv_iconst (v := 5) hx hb dL_law_3142 (by decide) ?_
    refine lv_iadd hx hb dL_law_3143 ?_
    refine lv_topi (fun v28 ev28 => ?_)
    obtain rfl : v28 = 5 := ev28.trans (by decide)
    refine va_sld hx hb hX hbl hbA hS (mm_in mm_k5 (by decide)) dL_law_3144 ?_
    refine lv_topi (fun v29 ev29 => ?_)
    obtain rfl : p5 = v29 := ep5.trans ev29.symm
    refine mm_finir (va_runV (As := [.int p1, .int p2, .int p3, .int p4, .int p5]) (rest := [.int (-2)]) ⟨hx, hb, hml, hown, hts⟩ (K318_X12_paste l G cy H.size qm p1 p2 p3 p4 p5 (um 0) (um 1) (um 2) (um 3) (um 4) 0 0 0 0 0 0 0 0 0 (-1) (um 5) (um 6) (um 7) (um 8) (um 9) (um 10) (um 11) (um 12) (um 13) (um 14) (um 15) (um 16) (um 17) 0 0 0 0 0 0 (um 18) 0 (um 19) ) (cwV 5 hts (mm_gV mm_w1717 mm_w1718 mm_w1719 mm_w5 mm_w1720) rfl rfl rfl hd_X12_paste ⟨by rw [hRf]; exact Nat.le_of_ble_eq_true rfl, by rw [hRl]; exact Nat.le_of_ble_eq_true rfl⟩) (mm_preV hK hP hD [6, 7] rfl rfl 6 rfl rfl rfl) rfl rfl hl.1 rfl (lv_room (Nat.le_of_ble_eq_true rfl)) dL_law_3145 ⟨by rw [hRc]; exact Nat.le_of_ble_eq_true rfl, by rw [hRs]; exact Nat.le_of_ble_eq_true rfl⟩) hP hD hS hA [6, 7] rfl (fun _ => rfl) ?_
    clear hP hD hS
    clear H locs
    intro v30 _u H locs hw hP hD hS
    rcases hw with ⟨rfl, w31⟩ | ⟨rfl, w32⟩ | ⟨rfl, w33, w34⟩ | ⟨rfl, w35, w36⟩ | ⟨rfl, w37, w38⟩
    · refine lv_icmp_eq (tgt := 3153) hx hb dL_law_3148 (by decide) (fun c39 => ?_) (fun c39 => ?_)
      · refine lv_iinc (v := 6) (lv' := [(3, .int 6), (2, .ref qm), (1, .ref qx), (0, .ref b)]) hx hb dL_law_3153 hl (k := 0) rfl (by decide) (by decide) rfl ?_
        clear hl
        clear ls
        intro ls hl
        refine lv_goto (tgt := 18) hx hb dL_law_3156 (by decide) ?_
        refine lv_iload_n hx hb dL_law_18 rfl (lv_at hl 0 rfl) ?_
        refine lv_aload_n hx hb dL_law_19 rfl (lv_at hl 3 rfl) ?_
        refine va_slen hx hb hX hbl hbA hS dL_law_20 ?_
        refine lv_topi (fun v40 ev40 => ?_)
        obtain rfl : v40 = 6 := ev40.trans (by decide)
        refine lv_bipush (v := 6) hx hb dL_law_21 (by decide) ?_
        refine lv_isub hx hb dL_law_23 ?_
        refine lv_topi (fun v41 ev41 => ?_)
        obtain rfl : v41 = 0 := ev41.trans (by decide)
        refine lv_icmp_gt (tgt := 3159) hx hb dL_law_24 (by decide) (fun c42 => ?_) (fun c42 => ?_)
        · refine lv_iconst (v := 1) hx hb dL_law_3159 (by decide) ?_
          refine va_forget (fun q hq => by have := hS.2.2 q hq; rw [hAe] at this; exact this) ?_
          refine W.widen (k := 600000) (n := 7302250) (Nat.le_of_ble_eq_true rfl) (Nat.le_of_ble_eq_true rfl) ?_
          exact lw_ret hx hb hr hlocks dL_law_3160
        · have q43 := mm_leL (mm_nlt c42) mm_k6 mm_k0
          exact mm_no q43 (by decide)
      · have q44 := mm_neL (lo := (-1)) (mm_ne c39) mm_km2 mm_km2 (by decide) (by decide)
        exact mm_no q44 (by decide)
    · exact mm_noX w32 w12 (by decide)
    · exact mm_noX w33 w12 (by decide)
    · exact mm_noX w35 w12 (by decide)
    · exact mm_noX w37 w12 (by decide)
  · refine lv_aload_n hx hb dL_law_3119 rfl (lv_at hl 1 rfl) ?_
    refine lv_aload_n hx hb dL_law_3120 rfl (lv_at hl 3 rfl) ?_
    refine lv_iload_n hx hb dL_law_3121 rfl (lv_at hl 0 rfl) ?_
    refine lv_iconst (v := 1) hx hb dL_law_3122 (by decide) ?_
    refine lv_iadd hx hb dL_law_3123 ?_
    refine lv_topi (fun v45 ev45 => ?_)
    obtain rfl : v45 = 1 := ev45.trans (by decide)
    refine va_sld hx hb hX hbl hbA hS (mm_in mm_k1 (by decide)) dL_law_3124 ?_
    refine lv_topi (fun v46 ev46 => ?_)
    obtain rfl : p1 = v46 := ep1.trans ev46.symm
    refine lv_aload_n hx hb dL_law_3125 rfl (lv_at hl 3 rfl) ?_
    refine lv_iload_n hx hb dL_law_3126 rfl (lv_at hl 0 rfl) ?_
    refine lv_iconst (v := 2) hx hb dL_law_3127 (by decide) ?_
    refine lv_iadd hx hb dL_law_3128 ?_
    refine lv_topi (fun v47 ev47 => ?_)
    obtain rfl : v47 = 2 := ev47.trans (by decide)
    refine va_sld hx hb hX hbl hbA hS (mm_in mm_k2 (by decide)) dL_law_3129 ?_
    refine lv_topi (fun v48 ev48 => ?_)
    obtain rfl : p2 = v48 := ep2.trans ev48.symm
    refine lv_aload_n hx hb dL_law_3130 rfl (lv_at hl 3 rfl) ?_
    refine lv_iload_n hx hb dL_law_3131 rfl (lv_at hl 0 rfl) ?_
    refine lv_iconst (v := 3) hx hb dL_law_3132 (by decide) ?_
    refine lv_iadd hx hb dL_law_3133 ?_
    refine lv_topi (fun v49 ev49 => ?_)
    obtain rfl : v49 = 3 := ev49.trans (by decide)
    refine va_sld hx hb hX hbl hbA hS (mm_in mm_k3 (by decide)) dL_law_3134 ?_
    refine lv_topi (fun v50 ev50 => ?_)
    obtain rfl : p3 = v50 := ep3.trans ev50.symm
    refine lv_aload_n hx hb dL_law_3135 rfl (lv_at hl 3 rfl) ?_
    refine lv_iload_n hx hb dL_law_3136 rfl (lv_at hl 0 rfl) ?_
    refine lv_iconst (v := 4) hx hb dL_law_3137 (by decide) ?_
    refine lv_iadd hx hb dL_law_3138 ?_
    refine lv_topi (fun v51 ev51 => ?_)
    obtain rfl : v51 = 4 := ev51.trans (by decide)
    refine va_sld hx hb hX hbl hbA hS (mm_in mm_k4 (by decide)) dL_law_3139 ?_
    refine lv_topi (fun v52 ev52 => ?_)
    obtain rfl : p4 = v52 := ep4.trans ev52.symm
    refine lv_aload_n hx hb dL_law_3140 rfl (lv_at hl 3 rfl) ?_
    refine lv_iload_n hx hb dL_law_3141 rfl (lv_at hl 0 rfl) ?_
    refine lv_iconst (v := 5) hx hb dL_law_3142 (by decide) ?_
    refine lv_iadd hx hb dL_law_3143 ?_
    refine lv_topi (fun v53 ev53 => ?_)
    obtain rfl : v53 = 5 := ev53.trans (by decide)
    refine va_sld hx hb hX hbl hbA hS (mm_in mm_k5 (by decide)) dL_law_3144 ?_
    refine lv_topi (fun v54 ev54 => ?_)
    obtain rfl : p5 = v54 := ep5.trans ev54.symm
    refine mm_finir (va_runV (As := [.int p1, .int p2, .int p3, .int p4, .int p5]) (rest := [.int (-2)]) ⟨hx, hb, hml, hown, hts⟩ (K318_X12_paste l G cy H.size qm p1 p2 p3 p4 p5 (um 0) (um 1) (um 2) (um 3) (um 4) 0 0 0 0 0 0 0 0 0 (-1) (um 5) (um 6) (um 7) (um 8) (um 9) (um 10) (um 11) (um 12) (um 13) (um 14) (um 15) (um 16) (um 17) 0 0 0 0 0 0 (um 18) 0 (um 19) ) (cwV 5 hts (mm_gV mm_w1717 mm_w1718 mm_w1719 mm_w5 mm_w1720) rfl rfl rfl hd_X12_paste ⟨by rw [hRf]; exact Nat.le_of_ble_eq_true rfl, by rw [hRl]; exact Nat.le_of_ble_eq_true rfl⟩) (mm_preV hK hP hD [6, 7] rfl rfl 6 rfl rfl rfl) rfl rfl hl.1 rfl (lv_room (Nat.le_of_ble_eq_true rfl)) dL_law_3145 ⟨by rw [hRc]; exact Nat.le_of_ble_eq_true rfl, by rw [hRs]; exact Nat.le_of_ble_eq_true rfl⟩) hP hD hS hA [6, 7] rfl (fun _ => rfl) ?_
    clear hP hD hS
    clear H locs
    intro v55 _u H locs hw hP hD hS
    rcases hw with ⟨rfl, w56⟩ | ⟨rfl, w57⟩ | ⟨rfl, w58, w59⟩ | ⟨rfl, w60, w61⟩ | ⟨rfl, w62, w63⟩
    · exact mm_noX w56 w13 (by decide)
    · refine lv_icmp_eq (tgt := 3153) hx hb dL_law_3148 (by decide) (fun c64 => ?_) (fun c64 => ?_)
      · refine lv_iinc (v := 6) (lv' := [(3, .int 6), (2, .ref qm), (1, .ref qx), (0, .ref b)]) hx hb dL_law_3153 hl (k := 0) rfl (by decide) (by decide) rfl ?_
        clear hl
        clear ls
        intro ls hl
        refine lv_goto (tgt := 18) hx hb dL_law_3156 (by decide) ?_
        refine lv_iload_n hx hb dL_law_18 rfl (lv_at hl 0 rfl) ?_
        refine lv_aload_n hx hb dL_law_19 rfl (lv_at hl 3 rfl) ?_
        refine va_slen hx hb hX hbl hbA hS dL_law_20 ?_
        refine lv_topi (fun v65 ev65 => ?_)
        obtain rfl : v65 = 6 := ev65.trans (by decide)
        refine lv_bipush (v := 6) hx hb dL_law_21 (by decide) ?_
        refine lv_isub hx hb dL_law_23 ?_
        refine lv_topi (fun v66 ev66 => ?_)
        obtain rfl : v66 = 0 := ev66.trans (by decide)
        refine lv_icmp_gt (tgt := 3159) hx hb dL_law_24 (by decide) (fun c67 => ?_) (fun c67 => ?_)
        · refine lv_iconst (v := 1) hx hb dL_law_3159 (by decide) ?_
          refine va_forget (fun q hq => by have := hS.2.2 q hq; rw [hAe] at this; exact this) ?_
          refine W.widen (k := 600000) (n := 7302250) (Nat.le_of_ble_eq_true rfl) (Nat.le_of_ble_eq_true rfl) ?_
          exact lw_ret hx hb hr hlocks dL_law_3160
        · have q68 := mm_leL (mm_nlt c67) mm_k6 mm_k0
          exact mm_no q68 (by decide)
      · have q69 := mm_neL (lo := (-1)) (mm_ne c64) mm_km2 mm_km2 (by decide) (by decide)
        exact mm_no q69 (by decide)
    · exact mm_noX w58 w13 (by decide)
    · exact mm_noX w60 w13 (by decide)
    · exact mm_noX w62 w13 (by decide)
  · refine lv_aload_n hx hb dL_law_3119 rfl (lv_at hl 1 rfl) ?_
    refine lv_aload_n hx hb dL_law_3120 rfl (lv_at hl 3 rfl) ?_
    refine lv_iload_n hx hb dL_law_3121 rfl (lv_at hl 0 rfl) ?_
    refine lv_iconst (v := 1) hx hb dL_law_3122 (by decide) ?_
    refine lv_iadd hx hb dL_law_3123 ?_
    refine lv_topi (fun v70 ev70 => ?_)
    obtain rfl : v70 = 1 := ev70.trans (by decide)
    refine va_sld hx hb hX hbl hbA hS (mm_in mm_k1 (by decide)) dL_law_3124 ?_
    refine lv_topi (fun v71 ev71 => ?_)
    obtain rfl : p1 = v71 := ep1.trans ev71.symm
    refine lv_aload_n hx hb dL_law_3125 rfl (lv_at hl 3 rfl) ?_
    refine lv_iload_n hx hb dL_law_3126 rfl (lv_at hl 0 rfl) ?_
    refine lv_iconst (v := 2) hx hb dL_law_3127 (by decide) ?_
    refine lv_iadd hx hb dL_law_3128 ?_
    refine lv_topi (fun v72 ev72 => ?_)
    obtain rfl : v72 = 2 := ev72.trans (by decide)
    refine va_sld hx hb hX hbl hbA hS (mm_in mm_k2 (by decide)) dL_law_3129 ?_
    refine lv_topi (fun v73 ev73 => ?_)
    obtain rfl : p2 = v73 := ep2.trans ev73.symm
    refine lv_aload_n hx hb dL_law_3130 rfl (lv_at hl 3 rfl) ?_
    refine lv_iload_n hx hb dL_law_3131 rfl (lv_at hl 0 rfl) ?_
    refine lv_iconst (v := 3) hx hb dL_law_3132 (by decide) ?_
    refine lv_iadd hx hb dL_law_3133 ?_
    refine lv_topi (fun v74 ev74 => ?_)
    obtain rfl : v74 = 3 := ev74.trans (by decide)
    refine va_sld hx hb hX hbl hbA hS (mm_in mm_k3 (by decide)) dL_law_3134 ?_
    refine lv_topi (fun v75 ev75 => ?_)
    obtain rfl : p3 = v75 := ep3.trans ev75.symm
    refine lv_aload_n hx hb dL_law_3135 rfl (lv_at hl 3 rfl) ?_
    refine lv_iload_n hx hb dL_law_3136 rfl (lv_at hl 0 rfl) ?_
    refine lv_iconst (v := 4) hx hb dL_law_3137 (by decide) ?_
    refine lv_iadd hx hb dL_law_3138 ?_
    refine lv_topi (fun v76 ev76 => ?_)
    obtain rfl : v76 = 4 := ev76.trans (by decide)
    refine va_sld hx hb hX hbl hbA hS (mm_in mm_k4 (by decide)) dL_law_3139 ?_
    refine lv_topi (fun v77 ev77 => ?_)
    obtain rfl : p4 = v77 := ep4.trans ev77.symm
    refine lv_aload_n hx hb dL_law_3140 rfl (lv_at hl 3 rfl) ?_
    refine lv_iload_n hx hb dL_law_3141 rfl (lv_at hl 0 rfl) ?_
    refine lv_iconst (v := 5) hx hb dL_law_3142 (by decide) ?_
    refine lv_iadd hx hb dL_law_3143 ?_
    refine lv_topi (fun v78 ev78 => ?_)
    obtain rfl : v78 = 5 := ev78.trans (by decide)
    refine va_sld hx hb hX hbl hbA hS (mm_in mm_k5 (by decide)) dL_law_3144 ?_
    refine lv_topi (fun v79 ev79 => ?_)
    obtain rfl : p5 = v79 := ep5.trans ev79.symm
    refine mm_finir (va_runV (As := [.int p1, .int p2, .int p3, .int p4, .int p5]) (rest := [.int (-2)]) ⟨hx, hb, hml, hown, hts⟩ (K318_X12_paste l G cy H.size qm p1 p2 p3 p4 p5 (um 0) (um 1) (um 2) (um 3) (um 4) 0 0 0 0 0 0 0 0 0 (-1) (um 5) (um 6) (um 7) (um 8) (um 9) (um 10) (um 11) (um 12) (um 13) (um 14) (um 15) (um 16) (um 17) 0 0 0 0 0 0 (um 18) 0 (um 19) ) (cwV 5 hts (mm_gV mm_w1717 mm_w1718 mm_w1719 mm_w5 mm_w1720) rfl rfl rfl hd_X12_paste ⟨by rw [hRf]; exact Nat.le_of_ble_eq_true rfl, by rw [hRl]; exact Nat.le_of_ble_eq_true rfl⟩) (mm_preV hK hP hD [6, 7] rfl rfl 6 rfl rfl rfl) rfl rfl hl.1 rfl (lv_room (Nat.le_of_ble_eq_true rfl)) dL_law_3145 ⟨by rw [hRc]; exact Nat.le_of_ble_eq_true rfl, by rw [hRs]; exact Nat.le_of_ble_eq_true rfl⟩) hP hD hS hA [6, 7] rfl (fun _ => rfl) ?_
    clear hP hD hS
    clear H locs
    intro v80 _u H locs hw hP hD hS
    rcases hw with ⟨rfl, w81⟩ | ⟨rfl, w82⟩ | ⟨rfl, w83, w84⟩ | ⟨rfl, w85, w86⟩ | ⟨rfl, w87, w88⟩
    · exact mm_noX w81 w14 (by decide)
    · exact mm_noX w82 w14 (by decide)
    · refine lv_icmp_eq (tgt := 3153) hx hb dL_law_3148 (by decide) (fun c89 => ?_) (fun c89 => ?_)
      · refine lv_iinc (v := 6) (lv' := [(3, .int 6), (2, .ref qm), (1, .ref qx), (0, .ref b)]) hx hb dL_law_3153 hl (k := 0) rfl (by decide) (by decide) rfl ?_
        clear hl
        clear ls
        intro ls hl
        refine lv_goto (tgt := 18) hx hb dL_law_3156 (by decide) ?_
        refine lv_iload_n hx hb dL_law_18 rfl (lv_at hl 0 rfl) ?_
        refine lv_aload_n hx hb dL_law_19 rfl (lv_at hl 3 rfl) ?_
        refine va_slen hx hb hX hbl hbA hS dL_law_20 ?_
        refine lv_topi (fun v90 ev90 => ?_)
        obtain rfl : v90 = 6 := ev90.trans (by decide)
        refine lv_bipush (v := 6) hx hb dL_law_21 (by decide) ?_
        refine lv_isub hx hb dL_law_23 ?_
        refine lv_topi (fun v91 ev91 => ?_)
        obtain rfl : v91 = 0 := ev91.trans (by decide)
        refine lv_icmp_gt (tgt := 3159) hx hb dL_law_24 (by decide) (fun c92 => ?_) (fun c92 => ?_)
        · refine lv_iconst (v := 1) hx hb dL_law_3159 (by decide) ?_
          refine va_forget (fun q hq => by have := hS.2.2 q hq; rw [hAe] at this; exact this) ?_
          refine W.widen (k := 600000) (n := 7302250) (Nat.le_of_ble_eq_true rfl) (Nat.le_of_ble_eq_true rfl) ?_
          exact lw_ret hx hb hr hlocks dL_law_3160
        · have q93 := mm_leL (mm_nlt c92) mm_k6 mm_k0
          exact mm_no q93 (by decide)
      · have q94 := mm_neL (lo := (-1)) (mm_ne c89) mm_km2 mm_km2 (by decide) (by decide)
        exact mm_no q94 (by decide)
    · exact mm_noX w86 w15 (by decide)
    · exact mm_noX w88 w15 (by decide)
  · refine lv_aload_n hx hb dL_law_3119 rfl (lv_at hl 1 rfl) ?_
    refine lv_aload_n hx hb dL_law_3120 rfl (lv_at hl 3 rfl) ?_
    refine lv_iload_n hx hb dL_law_3121 rfl (lv_at hl 0 rfl) ?_
    refine lv_iconst (v := 1) hx hb dL_law_3122 (by decide) ?_
    refine lv_iadd hx hb dL_law_3123 ?_
    refine lv_topi (fun v95 ev95 => ?_)
    obtain rfl : v95 = 1 := ev95.trans (by decide)
    refine va_sld hx hb hX hbl hbA hS (mm_in mm_k1 (by decide)) dL_law_3124 ?_
    refine lv_topi (fun v96 ev96 => ?_)
    obtain rfl : p1 = v96 := ep1.trans ev96.symm
    refine lv_aload_n hx hb dL_law_3125 rfl (lv_at hl 3 rfl) ?_
    refine lv_iload_n hx hb dL_law_3126 rfl (lv_at hl 0 rfl) ?_
    refine lv_iconst (v := 2) hx hb dL_law_3127 (by decide) ?_
    refine lv_iadd hx hb dL_law_3128 ?_
    refine lv_topi (fun v97 ev97 => ?_)
    obtain rfl : v97 = 2 := ev97.trans (by decide)
    refine va_sld hx hb hX hbl hbA hS (mm_in mm_k2 (by decide)) dL_law_3129 ?_
    refine lv_topi (fun v98 ev98 => ?_)
    obtain rfl : p2 = v98 := ep2.trans ev98.symm
    refine lv_aload_n hx hb dL_law_3130 rfl (lv_at hl 3 rfl) ?_
    refine lv_iload_n hx hb dL_law_3131 rfl (lv_at hl 0 rfl) ?_
    refine lv_iconst (v := 3) hx hb dL_law_3132 (by decide) ?_
    refine lv_iadd hx hb dL_law_3133 ?_
    refine lv_topi (fun v99 ev99 => ?_)
    obtain rfl : v99 = 3 := ev99.trans (by decide)
    refine va_sld hx hb hX hbl hbA hS (mm_in mm_k3 (by decide)) dL_law_3134 ?_
    refine lv_topi (fun v100 ev100 => ?_)
    obtain rfl : p3 = v100 := ep3.trans ev100.symm
    refine lv_aload_n hx hb dL_law_3135 rfl (lv_at hl 3 rfl) ?_
    refine lv_iload_n hx hb dL_law_3136 rfl (lv_at hl 0 rfl) ?_
    refine lv_iconst (v := 4) hx hb dL_law_3137 (by decide) ?_
    refine lv_iadd hx hb dL_law_3138 ?_
    refine lv_topi (fun v101 ev101 => ?_)
    obtain rfl : v101 = 4 := ev101.trans (by decide)
    refine va_sld hx hb hX hbl hbA hS (mm_in mm_k4 (by decide)) dL_law_3139 ?_
    refine lv_topi (fun v102 ev102 => ?_)
    obtain rfl : p4 = v102 := ep4.trans ev102.symm
    refine lv_aload_n hx hb dL_law_3140 rfl (lv_at hl 3 rfl) ?_
    refine lv_iload_n hx hb dL_law_3141 rfl (lv_at hl 0 rfl) ?_
    refine lv_iconst (v := 5) hx hb dL_law_3142 (by decide) ?_
    refine lv_iadd hx hb dL_law_3143 ?_
    refine lv_topi (fun v103 ev103 => ?_)
    obtain rfl : v103 = 5 := ev103.trans (by decide)
    refine va_sld hx hb hX hbl hbA hS (mm_in mm_k5 (by decide)) dL_law_3144 ?_
    refine lv_topi (fun v104 ev104 => ?_)
    obtain rfl : p5 = v104 := ep5.trans ev104.symm
    refine mm_finir (va_runV (As := [.int p1, .int p2, .int p3, .int p4, .int p5]) (rest := [.int (-2)]) ⟨hx, hb, hml, hown, hts⟩ (K318_X12_paste l G cy H.size qm p1 p2 p3 p4 p5 (um 0) (um 1) (um 2) (um 3) (um 4) 0 0 0 0 0 0 0 0 0 (-1) (um 5) (um 6) (um 7) (um 8) (um 9) (um 10) (um 11) (um 12) (um 13) (um 14) (um 15) (um 16) (um 17) 0 0 0 0 0 0 (um 18) 0 (um 19) ) (cwV 5 hts (mm_gV mm_w1717 mm_w1718 mm_w1719 mm_w5 mm_w1720) rfl rfl rfl hd_X12_paste ⟨by rw [hRf]; exact Nat.le_of_ble_eq_true rfl, by rw [hRl]; exact Nat.le_of_ble_eq_true rfl⟩) (mm_preV hK hP hD [6, 7] rfl rfl 6 rfl rfl rfl) rfl rfl hl.1 rfl (lv_room (Nat.le_of_ble_eq_true rfl)) dL_law_3145 ⟨by rw [hRc]; exact Nat.le_of_ble_eq_true rfl, by rw [hRs]; exact Nat.le_of_ble_eq_true rfl⟩) hP hD hS hA [6, 7] rfl (fun _ => rfl) ?_
    clear hP hD hS
    clear H locs
    intro v105 _u H locs hw hP hD hS
    rcases hw with ⟨rfl, w106⟩ | ⟨rfl, w107⟩ | ⟨rfl, w108, w109⟩ | ⟨rfl, w110, w111⟩ | ⟨rfl, w112, w113⟩
    · exact mm_noX w106 w16 (by decide)
    · exact mm_noX w107 w16 (by decide)
    · exact mm_noX w109 w17 (by decide)
    · refine lv_icmp_eq (tgt := 3153) hx hb dL_law_3148 (by decide) (fun c114 => ?_) (fun c114 => ?_)
      · refine lv_iinc (v := 6) (lv' := [(3, .int 6), (2, .ref qm), (1, .ref qx), (0, .ref b)]) hx hb dL_law_3153 hl (k := 0) rfl (by decide) (by decide) rfl ?_
        clear hl
        clear ls
        intro ls hl
        refine lv_goto (tgt := 18) hx hb dL_law_3156 (by decide) ?_
        refine lv_iload_n hx hb dL_law_18 rfl (lv_at hl 0 rfl) ?_
        refine lv_aload_n hx hb dL_law_19 rfl (lv_at hl 3 rfl) ?_
        refine va_slen hx hb hX hbl hbA hS dL_law_20 ?_
        refine lv_topi (fun v115 ev115 => ?_)
        obtain rfl : v115 = 6 := ev115.trans (by decide)
        refine lv_bipush (v := 6) hx hb dL_law_21 (by decide) ?_
        refine lv_isub hx hb dL_law_23 ?_
        refine lv_topi (fun v116 ev116 => ?_)
        obtain rfl : v116 = 0 := ev116.trans (by decide)
        refine lv_icmp_gt (tgt := 3159) hx hb dL_law_24 (by decide) (fun c117 => ?_) (fun c117 => ?_)
        · refine lv_iconst (v := 1) hx hb dL_law_3159 (by decide) ?_
          refine va_forget (fun q hq => by have := hS.2.2 q hq; rw [hAe] at this; exact this) ?_
          refine W.widen (k := 600000) (n := 7302250) (Nat.le_of_ble_eq_true rfl) (Nat.le_of_ble_eq_true rfl) ?_
          exact lw_ret hx hb hr hlocks dL_law_3160
        · have q118 := mm_leL (mm_nlt c117) mm_k6 mm_k0
          exact mm_no q118 (by decide)
      · have q119 := mm_neL (lo := (-1)) (mm_ne c114) mm_km2 mm_km2 (by decide) (by decide)
        exact mm_no q119 (by decide)
    · exact mm_noX w113 w17 (by decide)
  · refine lv_aload_n hx hb dL_law_3119 rfl (lv_at hl 1 rfl) ?_
    refine lv_aload_n hx hb dL_law_3120 rfl (lv_at hl 3 rfl) ?_
    refine lv_iload_n hx hb dL_law_3121 rfl (lv_at hl 0 rfl) ?_
    refine lv_iconst (v := 1) hx hb dL_law_3122 (by decide) ?_
    refine lv_iadd hx hb dL_law_3123 ?_
    refine lv_topi (fun v120 ev120 => ?_)
    obtain rfl : v120 = 1 := ev120.trans (by decide)
    refine va_sld hx hb hX hbl hbA hS (mm_in mm_k1 (by decide)) dL_law_3124 ?_
    refine lv_topi (fun v121 ev121 => ?_)
    obtain rfl : p1 = v121 := ep1.trans ev121.symm
    refine lv_aload_n hx hb dL_law_3125 rfl (lv_at hl 3 rfl) ?_
    refine lv_iload_n hx hb dL_law_3126 rfl (lv_at hl 0 rfl) ?_
    refine lv_iconst (v := 2) hx hb dL_law_3127 (by decide) ?_
    refine lv_iadd hx hb dL_law_3128 ?_
    refine lv_topi (fun v122 ev122 => ?_)
    obtain rfl : v122 = 2 := ev122.trans (by decide)
    refine va_sld hx hb hX hbl hbA hS (mm_in mm_k2 (by decide)) dL_law_3129 ?_
    refine lv_topi (fun v123 ev123 => ?_)
    obtain rfl : p2 = v123 := ep2.trans ev123.symm
    refine lv_aload_n hx hb dL_law_3130 rfl (lv_at hl 3 rfl) ?_
    refine lv_iload_n hx hb dL_law_3131 rfl (lv_at hl 0 rfl) ?_
    refine lv_iconst (v := 3) hx hb dL_law_3132 (by decide) ?_
    refine lv_iadd hx hb dL_law_3133 ?_
    refine lv_topi (fun v124 ev124 => ?_)
    obtain rfl : v124 = 3 := ev124.trans (by decide)
    refine va_sld hx hb hX hbl hbA hS (mm_in mm_k3 (by decide)) dL_law_3134 ?_
    refine lv_topi (fun v125 ev125 => ?_)
    obtain rfl : p3 = v125 := ep3.trans ev125.symm
    refine lv_aload_n hx hb dL_law_3135 rfl (lv_at hl 3 rfl) ?_
    refine lv_iload_n hx hb dL_law_3136 rfl (lv_at hl 0 rfl) ?_
    refine lv_iconst (v := 4) hx hb dL_law_3137 (by decide) ?_
    refine lv_iadd hx hb dL_law_3138 ?_
    refine lv_topi (fun v126 ev126 => ?_)
    obtain rfl : v126 = 4 := ev126.trans (by decide)
    refine va_sld hx hb hX hbl hbA hS (mm_in mm_k4 (by decide)) dL_law_3139 ?_
    refine lv_topi (fun v127 ev127 => ?_)
    obtain rfl : p4 = v127 := ep4.trans ev127.symm
    refine lv_aload_n hx hb dL_law_3140 rfl (lv_at hl 3 rfl) ?_
    refine lv_iload_n hx hb dL_law_3141 rfl (lv_at hl 0 rfl) ?_
    refine lv_iconst (v := 5) hx hb dL_law_3142 (by decide) ?_
    refine lv_iadd hx hb dL_law_3143 ?_
    refine lv_topi (fun v128 ev128 => ?_)
    obtain rfl : v128 = 5 := ev128.trans (by decide)
    refine va_sld hx hb hX hbl hbA hS (mm_in mm_k5 (by decide)) dL_law_3144 ?_
    refine lv_topi (fun v129 ev129 => ?_)
    obtain rfl : p5 = v129 := ep5.trans ev129.symm
    refine mm_finir (va_runV (As := [.int p1, .int p2, .int p3, .int p4, .int p5]) (rest := [.int (-6)]) ⟨hx, hb, hml, hown, hts⟩ (K318_X12_paste l G cy H.size qm p1 p2 p3 p4 p5 (um 0) (um 1) (um 2) (um 3) (um 4) 0 0 0 0 0 0 0 0 0 (-1) (um 5) (um 6) (um 7) (um 8) (um 9) (um 10) (um 11) (um 12) (um 13) (um 14) (um 15) (um 16) (um 17) 0 0 0 0 0 0 (um 18) 0 (um 19) ) (cwV 5 hts (mm_gV mm_w1717 mm_w1718 mm_w1719 mm_w5 mm_w1720) rfl rfl rfl hd_X12_paste ⟨by rw [hRf]; exact Nat.le_of_ble_eq_true rfl, by rw [hRl]; exact Nat.le_of_ble_eq_true rfl⟩) (mm_preV hK hP hD [6, 7] rfl rfl 6 rfl rfl rfl) rfl rfl hl.1 rfl (lv_room (Nat.le_of_ble_eq_true rfl)) dL_law_3145 ⟨by rw [hRc]; exact Nat.le_of_ble_eq_true rfl, by rw [hRs]; exact Nat.le_of_ble_eq_true rfl⟩) hP hD hS hA [6, 7] rfl (fun _ => rfl) ?_
    clear hP hD hS
    clear H locs
    intro v130 _u H locs hw hP hD hS
    rcases hw with ⟨rfl, w131⟩ | ⟨rfl, w132⟩ | ⟨rfl, w133, w134⟩ | ⟨rfl, w135, w136⟩ | ⟨rfl, w137, w138⟩
    · exact mm_noX w131 w18 (by decide)
    · exact mm_noX w132 w18 (by decide)
    · exact mm_noX w134 w19 (by decide)
    · exact mm_noX w136 w19 (by decide)
    · refine lv_icmp_eq (tgt := 3153) hx hb dL_law_3148 (by decide) (fun c139 => ?_) (fun c139 => ?_)
      · refine lv_iinc (v := 6) (lv' := [(3, .int 6), (2, .ref qm), (1, .ref qx), (0, .ref b)]) hx hb dL_law_3153 hl (k := 0) rfl (by decide) (by decide) rfl ?_
        clear hl
        clear ls
        intro ls hl
        refine lv_goto (tgt := 18) hx hb dL_law_3156 (by decide) ?_
        refine lv_iload_n hx hb dL_law_18 rfl (lv_at hl 0 rfl) ?_
        refine lv_aload_n hx hb dL_law_19 rfl (lv_at hl 3 rfl) ?_
        refine va_slen hx hb hX hbl hbA hS dL_law_20 ?_
        refine lv_topi (fun v140 ev140 => ?_)
        obtain rfl : v140 = 6 := ev140.trans (by decide)
        refine lv_bipush (v := 6) hx hb dL_law_21 (by decide) ?_
        refine lv_isub hx hb dL_law_23 ?_
        refine lv_topi (fun v141 ev141 => ?_)
        obtain rfl : v141 = 0 := ev141.trans (by decide)
        refine lv_icmp_gt (tgt := 3159) hx hb dL_law_24 (by decide) (fun c142 => ?_) (fun c142 => ?_)
        · refine lv_iconst (v := 1) hx hb dL_law_3159 (by decide) ?_
          refine va_forget (fun q hq => by have := hS.2.2 q hq; rw [hAe] at this; exact this) ?_
          refine W.widen (k := 600000) (n := 7302250) (Nat.le_of_ble_eq_true rfl) (Nat.le_of_ble_eq_true rfl) ?_
          exact lw_ret hx hb hr hlocks dL_law_3160
        · have q143 := mm_leL (mm_nlt c142) mm_k6 mm_k0
          exact mm_no q143 (by decide)
      · have q144 := mm_neL (lo := (-5)) (mm_ne c139) mm_km6 mm_km6 (by decide) (by decide)
        exact mm_no q144 (by decide)

