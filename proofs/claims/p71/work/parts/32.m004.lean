theorem dX12_ends_0 : decode cX12_ends 0 = .ok (.aload_n 0, 1) := by decide +kernel
theorem dX12_ends_1 : decode cX12_ends 1 = .ok (.getfield 118, 3) := by decide +kernel
theorem dX12_ends_4 : decode cX12_ends 4 = .ok (.iconst 3, 1) := by decide +kernel
theorem dX12_ends_5 : decode cX12_ends 5 = .ok (.if_icmp .eq 8, 3) := by decide +kernel
theorem dX12_ends_8 : decode cX12_ends 8 = .ok (.aload_n 0, 1) := by decide +kernel
theorem dX12_ends_9 : decode cX12_ends 9 = .ok (.iconst 1, 1) := by decide +kernel
theorem dX12_ends_10 : decode cX12_ends 10 = .ok (.invokevirtual 145, 3) := by decide +kernel
theorem dX12_ends_13 : decode cX12_ends 13 = .ok (.aload_n 0, 1) := by decide +kernel
theorem dX12_ends_14 : decode cX12_ends 14 = .ok (.getfield 129, 3) := by decide +kernel
theorem dX12_ends_17 : decode cX12_ends 17 = .ok (.ifCond .ne 7, 3) := by decide +kernel
theorem dX12_ends_20 : decode cX12_ends 20 = .ok (.aload_n 0, 1) := by decide +kernel
theorem dX12_ends_21 : decode cX12_ends 21 = .ok (.invokevirtual 139, 3) := by decide +kernel
theorem dX12_ends_24 : decode cX12_ends 24 = .ok (.return_, 1) := by decide +kernel
theorem dX12_hasRead_0 : decode cX12_hasRead 0 = .ok (.aload_n 0, 1) := by decide +kernel
theorem dX12_hasRead_1 : decode cX12_hasRead 1 = .ok (.getfield 34, 3) := by decide +kernel
theorem dX12_hasRead_4 : decode cX12_hasRead 4 = .ok (.bipush 24, 2) := by decide +kernel
theorem dX12_hasRead_6 : decode cX12_hasRead 6 = .ok (.iload_n 1, 1) := by decide +kernel
theorem dX12_hasRead_7 : decode cX12_hasRead 7 = .ok (.iadd, 1) := by decide +kernel
theorem dX12_hasRead_8 : decode cX12_hasRead 8 = .ok (.iaload, 1) := by decide +kernel
theorem dX12_hasRead_9 : decode cX12_hasRead 9 = .ok (.ireturn, 1) := by decide +kernel
theorem dX12_isRoom_0 : decode cX12_isRoom 0 = .ok (.iload_n 1, 1) := by decide +kernel
theorem dX12_isRoom_1 : decode cX12_isRoom 1 = .ok (.ifCond .eq 13, 3) := by decide +kernel
theorem dX12_isRoom_4 : decode cX12_isRoom 4 = .ok (.iload_n 2, 1) := by decide +kernel
theorem dX12_isRoom_5 : decode cX12_isRoom 5 = .ok (.iload_n 3, 1) := by decide +kernel
theorem dX12_isRoom_6 : decode cX12_isRoom 6 = .ok (.if_icmp .ne 8, 3) := by decide +kernel
theorem dX12_isRoom_9 : decode cX12_isRoom 9 = .ok (.aload_n 0, 1) := by decide +kernel
theorem dX12_isRoom_10 : decode cX12_isRoom 10 = .ok (.iconst 3, 1) := by decide +kernel
theorem dX12_isRoom_11 : decode cX12_isRoom 11 = .ok (.invokevirtual 145, 3) := by decide +kernel
theorem dX12_isRoom_14 : decode cX12_isRoom 14 = .ok (.iload_n 1, 1) := by decide +kernel
theorem dX12_isRoom_15 : decode cX12_isRoom 15 = .ok (.ifCond .eq 14, 3) := by decide +kernel
theorem dX12_isRoom_18 : decode cX12_isRoom 18 = .ok (.aload_n 0, 1) := by decide +kernel
theorem dX12_isRoom_19 : decode cX12_isRoom 19 = .ok (.getfield 129, 3) := by decide +kernel
theorem dX12_isRoom_22 : decode cX12_isRoom 22 = .ok (.ifCond .ne 7, 3) := by decide +kernel
theorem dX12_isRoom_25 : decode cX12_isRoom 25 = .ok (.aload_n 0, 1) := by decide +kernel
theorem dX12_isRoom_26 : decode cX12_isRoom 26 = .ok (.invokevirtual 139, 3) := by decide +kernel
theorem dX12_isRoom_29 : decode cX12_isRoom 29 = .ok (.iload_n 1, 1) := by decide +kernel
theorem dX12_isRoom_30 : decode cX12_isRoom 30 = .ok (.ifCond .eq 14, 3) := by decide +kernel
theorem dX12_isRoom_33 : decode cX12_isRoom 33 = .ok (.aload_n 0, 1) := by decide +kernel
theorem dX12_isRoom_34 : decode cX12_isRoom 34 = .ok (.getfield 129, 3) := by decide +kernel
theorem dX12_isRoom_37 : decode cX12_isRoom 37 = .ok (.ifCond .ne 7, 3) := by decide +kernel
theorem dX12_isRoom_40 : decode cX12_isRoom 40 = .ok (.iconst 1, 1) := by decide +kernel
theorem dX12_isRoom_41 : decode cX12_isRoom 41 = .ok (.goto 4, 3) := by decide +kernel
theorem dX12_isRoom_44 : decode cX12_isRoom 44 = .ok (.iconst 0, 1) := by decide +kernel
theorem dX12_isRoom_45 : decode cX12_isRoom 45 = .ok (.ireturn, 1) := by decide +kernel
theorem dX12_rulesRead_0 : decode cX12_rulesRead 0 = .ok (.aload_n 0, 1) := by decide +kernel
theorem dX12_rulesRead_1 : decode cX12_rulesRead 1 = .ok (.iconst 3, 1) := by decide +kernel
theorem dX12_rulesRead_2 : decode cX12_rulesRead 2 = .ok (.invokevirtual 159, 3) := by decide +kernel
theorem dX12_rulesRead_5 : decode cX12_rulesRead 5 = .ok (.ifCond .ne 7, 3) := by decide +kernel
theorem dX12_rulesRead_8 : decode cX12_rulesRead 8 = .ok (.iconst 0, 1) := by decide +kernel
theorem dX12_rulesRead_9 : decode cX12_rulesRead 9 = .ok (.goto 18, 3) := by decide +kernel
theorem dX12_rulesRead_12 : decode cX12_rulesRead 12 = .ok (.aload_n 0, 1) := by decide +kernel
theorem dX12_rulesRead_13 : decode cX12_rulesRead 13 = .ok (.getfield 40, 3) := by decide +kernel
theorem dX12_rulesRead_16 : decode cX12_rulesRead 16 = .ok (.bipush 12, 2) := by decide +kernel
theorem dX12_rulesRead_18 : decode cX12_rulesRead 18 = .ok (.aload_n 0, 1) := by decide +kernel
theorem dX12_rulesRead_19 : decode cX12_rulesRead 19 = .ok (.iconst 3, 1) := by decide +kernel
theorem dX12_rulesRead_20 : decode cX12_rulesRead 20 = .ok (.invokevirtual 159, 3) := by decide +kernel
theorem dX12_rulesRead_23 : decode cX12_rulesRead 23 = .ok (.iadd, 1) := by decide +kernel
theorem dX12_rulesRead_24 : decode cX12_rulesRead 24 = .ok (.iconst 1, 1) := by decide +kernel
theorem dX12_rulesRead_25 : decode cX12_rulesRead 25 = .ok (.isub, 1) := by decide +kernel
theorem dX12_rulesRead_26 : decode cX12_rulesRead 26 = .ok (.iaload, 1) := by decide +kernel
theorem dX12_rulesRead_27 : decode cX12_rulesRead 27 = .ok (.ireturn, 1) := by decide +kernel
theorem hd_X12_hasRead : yX12_hasRead.cls = RX12 ∧ yX12_hasRead.cls ≠ "java/lang/invoke/MethodHandle" ∧ yX12_hasRead.cls ≠ "java/lang/invoke/VarHandle" ∧ (parseMethodDescriptor yX12_hasRead.desc).map (fun d => d.parameters.length) = some 1 := by decide +kernel
set_option maxHeartbeats 4000000 in
set_option maxRecDepth 100000 in
theorem M34_X12_number_ (l : Launch) (G : va_G) (cy : Nat → ClassId) (sz : Nat) (a_0 : Nat) (j_0 : Int64) (i_0 : Int32) (a_1 : Nat) (a_2 : Nat) (a_3 : Nat) (a_4 : Nat) (a_5 : Nat) (i_1 : Int32) (i_2 : Int32) (i_3 : Int32) (i_4 : Int32) (i_5 : Int32) (j_1 : Int64) (i_6 : Int32) (i_7 : Int32) (i_8 : Int32) (i_9 : Int32) (a_6 : Nat) (a_7 : Nat) (a_8 : Nat) (a_9 : Nat) (a_10 : Nat) (a_11 : Nat) (a_12 : Nat) (a_13 : Nat) (a_14 : Nat) (a_15 : Nat) (a_16 : Nat) (a_17 : Nat) (a_18 : Nat) (i_10 : Int32) (i_11 : Int32) (i_12 : Int32) (i_13 : Int32) (i_14 : Int32) (i_15 : Int32) (a_19 : Nat) (i_16 : Int32) (a_20 : Nat) (f_0 : Nat → Int32) (h0 : mm_rg i_1 0 600) (h1 : mm_rg i_2 0 600) (h2 : mm_rg i_3 0 4) (h3 : mm_rg i_4 0 600) (h4 : mm_rg i_6 0 3) (h5 : mm_ar f_0 (-128) 127) (h6 : (i_4 : Int32).toInt ≤ (i_2 : Int32).toInt) (h7 : (i_2 : Int32).toInt ≤ (i_1 : Int32).toInt) (h8 : mm_tk i_3 i_4 i_2)  : mm_CI l yX12_number_ (mm_ws yX12_number_ cX12_number_ 5 (some .int)) ({ frames := 4, cells := 0, slots := 0, locals := 88 } : Room) G cy sz [(a_0, .inr (12, [.int i_0, .ref a_1, .ref a_2, .ref a_3, .ref a_4, .ref a_5, .int i_1, .int i_2, .int i_3, .int i_4, .int i_5, .long j_1, .int i_6, .int i_7, .int i_8, .int i_9, .ref a_6, .ref a_7, .ref a_8, .ref a_9, .ref a_10, .ref a_11, .ref a_12, .ref a_13, .ref a_14, .ref a_15, .ref a_16, .ref a_17, .ref a_18, .int i_10, .int i_11, .int i_12, .int i_13, .int i_14, .int i_15, .ref a_19, .int i_16, .ref a_20])), (a_5, .inl (cy 0, 600, .inl f_0))] [.ref a_0, .long j_0, .int 0, .int 99] (fun u : Int32 × Int32 × Int32 × Int32 × Int64 × Int32 × Int32 => [(a_0, .inr (12, [.int i_0, .ref a_1, .ref a_2, .ref a_3, .ref a_4, .ref a_5, .int i_1, .int u.1, .int u.2.1, .int u.2.2.1, .int u.2.2.2.1, .long u.2.2.2.2.1, .int u.2.2.2.2.2.1, .int u.2.2.2.2.2.2, .int i_8, .int i_9, .ref a_6, .ref a_7, .ref a_8, .ref a_9, .ref a_10, .ref a_11, .ref a_12, .ref a_13, .ref a_14, .ref a_15, .ref a_16, .ref a_17, .ref a_18, .int i_10, .int i_11, .int i_12, .int i_13, .int i_14, .int i_15, .ref a_19, .int i_16, .ref a_20])), (a_5, .inl (cy 0, 600, .inl f_0))]) (fun (r : Int32) (u : Int32 × Int32 × Int32 × Int32 × Int64 × Int32 × Int32) => mm_rg u.1 0 600 ∧ mm_rg u.2.1 0 4 ∧ mm_rg u.2.2.1 0 600 ∧ mm_rg u.2.2.2.2.2.1 0 3 ∧ (u.2.2.1 : Int32).toInt ≤ (u.1 : Int32).toInt ∧ (u.1 : Int32).toInt ≤ (i_1 : Int32).toInt ∧ mm_tk u.2.1 u.2.2.1 u.1 ∧ (i_4 : Int32).toInt ≤ (u.2.2.1 : Int32).toInt ∧ mm_rg r 0 99) 0 0 := by
  refine mm_begin (lv := [(0, .ref a_0), (1, .long j_0), (3, .int 0), (4, .int 99)]) (by decide) (Nat.le_of_ble_eq_true rfl) rfl ?_
  intro p e s m below meth c A ls R args Q H locs hRe hQ hAe hx hb hr hlocks hml hown hnm hts hsz hA hS hP hK hD hZ hl
  have hRf : R.frames = 4 := by rw [hRe]
  have hRl : R.locals = 88 := by rw [hRe]
  have hRc : R.cells = 0 := by rw [hRe]
  have hRs : R.slots = 0 := by rw [hRe]
  refine lv_aload_n hx hb dX12_number__0 rfl (lv_at hl 0 rfl) ?_
  refine lv_lload_n hx hb dX12_number__1 rfl (lv_at hl 1 rfl) ?_
  refine mm_finv (va_runV (As := [.long j_0]) (rest := []) ⟨hx, hb, hml, hown, hts⟩ (M28_X12_asks l G cy H.size a_0 j_0 i_0 a_1 a_2 a_3 a_4 a_5 i_1 i_2 i_3 i_4 i_5 j_1 i_6 i_7 i_8 i_9 a_6 a_7 a_8 a_9 a_10 a_11 a_12 a_13 a_14 a_15 a_16 a_17 a_18 i_10 i_11 i_12 i_13 i_14 i_15 a_19 i_16 a_20 f_0 h0 h1 h2 h3 h4 h5 h6 h7 h8) (cwV 1 hts (mm_gV mm_w471 mm_w472 mm_w473 mm_w5 mm_w474) rfl rfl rfl hd_X12_asks ⟨by rw [hRf]; exact Nat.le_of_ble_eq_true rfl, by rw [hRl]; exact Nat.le_of_ble_eq_true rfl⟩) (mm_preV hK hZ hS hA hP hD [0, 1] rfl rfl 0 rfl rfl rfl) rfl rfl hl.1 rfl (lv_room (Nat.le_of_ble_eq_true rfl)) dX12_number__2 ⟨by rw [hRc]; exact Nat.le_of_ble_eq_true rfl, by rw [hRs]; exact Nat.le_of_ble_eq_true rfl⟩) hP hD hS hA (fun u : Int32 × Int32 × Int32 × Int32 × Int64 × Int32 × Int32 => [(a_0, .inr (12, [.int i_0, .ref a_1, .ref a_2, .ref a_3, .ref a_4, .ref a_5, .int i_1, .int u.1, .int u.2.1, .int u.2.2.1, .int u.2.2.2.1, .long u.2.2.2.2.1, .int u.2.2.2.2.2.1, .int u.2.2.2.2.2.2, .int i_8, .int i_9, .ref a_6, .ref a_7, .ref a_8, .ref a_9, .ref a_10, .ref a_11, .ref a_12, .ref a_13, .ref a_14, .ref a_15, .ref a_16, .ref a_17, .ref a_18, .int i_10, .int i_11, .int i_12, .int i_13, .int i_14, .int i_15, .ref a_19, .int i_16, .ref a_20])), (a_5, .inl (cy 0, 600, .inl f_0))]) [0, 1] [] (n := 2) (fun _ => rfl) (by decide +kernel) (by decide +kernel) rfl (fun _ => rfl) (wr := []) rfl (fun _ => rfl) (fun _ => rfl) ?_
  clear hP hD hS
  clear H locs
  intro u
  obtain ⟨n1, n2, n3, n4, n5, n6, n7⟩ := u
  intro H locs hw (hP : va_P G vwCl [(a_0, .inr (12, [.int i_0, .ref a_1, .ref a_2, .ref a_3, .ref a_4, .ref a_5, .int i_1, .int n1, .int n2, .int n3, .int n4, .long n5, .int n6, .int n7, .int i_8, .int i_9, .ref a_6, .ref a_7, .ref a_8, .ref a_9, .ref a_10, .ref a_11, .ref a_12, .ref a_13, .ref a_14, .ref a_15, .ref a_16, .ref a_17, .ref a_18, .int i_10, .int i_11, .int i_12, .int i_13, .int i_14, .int i_15, .ref a_19, .int i_16, .ref a_20])), (a_5, .inl (cy 0, 600, .inl f_0))] H) (hD : va_D A [(a_0, .inr (12, [.int i_0, .ref a_1, .ref a_2, .ref a_3, .ref a_4, .ref a_5, .int i_1, .int n1, .int n2, .int n3, .int n4, .long n5, .int n6, .int n7, .int i_8, .int i_9, .ref a_6, .ref a_7, .ref a_8, .ref a_9, .ref a_10, .ref a_11, .ref a_12, .ref a_13, .ref a_14, .ref a_15, .ref a_16, .ref a_17, .ref a_18, .int i_10, .int i_11, .int i_12, .int i_13, .int i_14, .int i_15, .ref a_19, .int i_16, .ref a_20])), (a_5, .inl (cy 0, 600, .inl f_0))]) hS
  obtain ⟨w8, w9, w10, w11, w12, w13, w14, w15⟩ := hw
  replace w12 : (n3 : Int32).toInt ≤ (n1 : Int32).toInt := w12
  replace w13 : (n1 : Int32).toInt ≤ (i_1 : Int32).toInt := w13
  replace w14 : mm_tk n2 n3 n1 := w14
  replace w15 : (i_4 : Int32).toInt ≤ (n3 : Int32).toInt := w15
  refine lv_aload_n hx hb dX12_number__5 rfl (lv_at hl 0 rfl) ?_
  refine lv_iload_n hx hb dX12_number__6 rfl (lv_at hl 2 rfl) ?_
  refine lv_iload hx hb dX12_number__7 (lv_at hl 3 rfl) ?_
  refine mm_fini (va_runV (As := [.int 0, .int 99]) (rest := []) ⟨hx, hb, hml, hown, hts⟩ (M33_X12_number l G cy H.size a_0 i_0 a_1 a_2 a_3 a_4 a_5 i_1 n1 n2 n3 n4 n5 n6 n7 i_8 i_9 a_6 a_7 a_8 a_9 a_10 a_11 a_12 a_13 a_14 a_15 a_16 a_17 a_18 i_10 i_11 i_12 i_13 i_14 i_15 a_19 i_16 a_20 f_0 h0 w8 w9 w10 w11 h5 w12 w13 w14) (cwV 2 hts (mm_gV mm_w491 mm_w492 mm_w493 mm_w5 mm_w494) rfl rfl rfl hd_X12_number ⟨by rw [hRf]; exact Nat.le_of_ble_eq_true rfl, by rw [hRl]; exact Nat.le_of_ble_eq_true rfl⟩) (mm_preV hK hZ hS hA hP hD [0, 1] rfl rfl 0 rfl rfl rfl) rfl rfl hl.1 rfl (lv_room (Nat.le_of_ble_eq_true rfl)) dX12_number__9 ⟨by rw [hRc]; exact Nat.le_of_ble_eq_true rfl, by rw [hRs]; exact Nat.le_of_ble_eq_true rfl⟩) hP hD hS hA (fun u : Int32 × Int32 × Int32 × Int32 × Int64 × Int32 × Int32 => [(a_0, .inr (12, [.int i_0, .ref a_1, .ref a_2, .ref a_3, .ref a_4, .ref a_5, .int i_1, .int u.1, .int u.2.1, .int u.2.2.1, .int u.2.2.2.1, .long u.2.2.2.2.1, .int u.2.2.2.2.2.1, .int u.2.2.2.2.2.2, .int i_8, .int i_9, .ref a_6, .ref a_7, .ref a_8, .ref a_9, .ref a_10, .ref a_11, .ref a_12, .ref a_13, .ref a_14, .ref a_15, .ref a_16, .ref a_17, .ref a_18, .int i_10, .int i_11, .int i_12, .int i_13, .int i_14, .int i_15, .ref a_19, .int i_16, .ref a_20])), (a_5, .inl (cy 0, 600, .inl f_0))]) [0, 1] [] (n := 2) (fun _ => rfl) (by decide +kernel) (by decide +kernel) rfl (fun _ => rfl) (wr := []) rfl (fun _ => rfl) (fun _ => rfl) ?_
  clear hP hD hS
  clear H locs
  intro v23 u
  obtain ⟨n16, n17, n18, n19, n20, n21, n22⟩ := u
  intro H locs hw (hP : va_P G vwCl [(a_0, .inr (12, [.int i_0, .ref a_1, .ref a_2, .ref a_3, .ref a_4, .ref a_5, .int i_1, .int n16, .int n17, .int n18, .int n19, .long n20, .int n21, .int n22, .int i_8, .int i_9, .ref a_6, .ref a_7, .ref a_8, .ref a_9, .ref a_10, .ref a_11, .ref a_12, .ref a_13, .ref a_14, .ref a_15, .ref a_16, .ref a_17, .ref a_18, .int i_10, .int i_11, .int i_12, .int i_13, .int i_14, .int i_15, .ref a_19, .int i_16, .ref a_20])), (a_5, .inl (cy 0, 600, .inl f_0))] H) (hD : va_D A [(a_0, .inr (12, [.int i_0, .ref a_1, .ref a_2, .ref a_3, .ref a_4, .ref a_5, .int i_1, .int n16, .int n17, .int n18, .int n19, .long n20, .int n21, .int n22, .int i_8, .int i_9, .ref a_6, .ref a_7, .ref a_8, .ref a_9, .ref a_10, .ref a_11, .ref a_12, .ref a_13, .ref a_14, .ref a_15, .ref a_16, .ref a_17, .ref a_18, .int i_10, .int i_11, .int i_12, .int i_13, .int i_14, .int i_15, .ref a_19, .int i_16, .ref a_20])), (a_5, .inl (cy 0, 600, .inl f_0))]) hS
  obtain ⟨w24, w25, w26, w27, w28, w29, w30, w31, w32, hw⟩ := hw
  replace w28 : (n18 : Int32).toInt ≤ (n16 : Int32).toInt := w28
  replace w29 : (n16 : Int32).toInt ≤ (i_1 : Int32).toInt := w29
  replace w30 : mm_tk n17 n18 n16 := w30
  replace w31 : (n3 : Int32).toInt ≤ (n18 : Int32).toInt := w31
  replace w32 : mm_b0 n6 n21 := w32
  obtain ⟨w33, w34, w35⟩ := hw
  replace w34 : (v23 : Int32).toInt ≤ (99 : Int32).toInt := w34
  replace w35 : mm_nv n21 v23 n2 n4 := w35
  have w36 : (i_4 : Int32).toInt ≤ (n18 : Int32).toInt := (by have := w15; have := w31; omega)
  subst hAe
  rw [hQ]
  exact W.iret (v := v23) hx hb hr (fun t ht hW => ⟨⟨v23, (n16, n17, n18, n19, n20, n21, n22), rfl, ⟨w24, w25, w26, w27, w28, w29, w30, w36, w33⟩, by rw [ht]; exact hP, hK.warm hW, hD⟩, hS.F ht⟩) hS.2.2 dX12_number__12

set_option maxHeartbeats 4000000 in
set_option maxRecDepth 100000 in
theorem M35_X12_tells (l : Launch) (G : va_G) (cy : Nat → ClassId) (sz : Nat) (a_0 : Nat) (i_0 : Int32) (i_1 : Int32) (a_1 : Nat) (a_2 : Nat) (a_3 : Nat) (a_4 : Nat) (a_5 : Nat) (i_2 : Int32) (i_3 : Int32) (i_4 : Int32) (i_5 : Int32) (i_6 : Int32) (j_0 : Int64) (i_7 : Int32) (i_8 : Int32) (i_9 : Int32) (i_10 : Int32) (a_6 : Nat) (a_7 : Nat) (a_8 : Nat) (a_9 : Nat) (a_10 : Nat) (a_11 : Nat) (a_12 : Nat) (a_13 : Nat) (a_14 : Nat) (a_15 : Nat) (a_16 : Nat) (a_17 : Nat) (a_18 : Nat) (i_11 : Int32) (i_12 : Int32) (i_13 : Int32) (i_14 : Int32) (i_15 : Int32) (i_16 : Int32) (a_19 : Nat) (i_17 : Int32) (a_20 : Nat) (i_18 : Int32) (i_19 : Int32) (i_20 : Int32) (i_21 : Int32) (i_22 : Int32) (i_23 : Int32) (i_24 : Int32) (i_25 : Int32) (i_26 : Int32) (i_27 : Int32) (i_28 : Int32) (i_29 : Int32) (i_30 : Int32) (i_31 : Int32) (i_32 : Int32) (i_33 : Int32) (i_34 : Int32) (i_35 : Int32) (i_36 : Int32) (i_37 : Int32) (i_38 : Int32) (i_39 : Int32) (i_40 : Int32) (i_41 : Int32) (i_42 : Int32) (i_43 : Int32) (i_44 : Int32) (i_45 : Int32) (i_46 : Int32) (i_47 : Int32) (h0 : mm_rg i_0 0 99) (h1 : mm_rg i_18 0 10) (h2 : mm_rg i_19 0 99) (h3 : mm_rg i_20 0 9) (h4 : mm_rg i_21 0 3) (h5 : mm_rg i_22 0 6) (h6 : mm_rg i_23 0 30) (h7 : mm_rg i_24 0 10) (h8 : mm_rg i_25 0 99) (h9 : mm_rg i_26 0 9) (h10 : mm_rg i_27 0 3) (h11 : mm_rg i_28 0 6) (h12 : mm_rg i_29 0 30) (h13 : mm_rg i_30 0 10) (h14 : mm_rg i_31 0 99) (h15 : mm_rg i_32 0 9) (h16 : mm_rg i_33 0 3) (h17 : mm_rg i_34 0 6) (h18 : mm_rg i_35 0 30) (h19 : mm_rg i_36 0 10) (h20 : mm_rg i_37 0 99) (h21 : mm_rg i_38 0 9) (h22 : mm_rg i_39 0 3) (h23 : mm_rg i_40 0 6) (h24 : mm_rg i_41 0 30) (h25 : mm_rg i_42 0 10) (h26 : mm_rg i_43 0 99) (h27 : mm_rg i_44 0 9) (h28 : mm_rg i_45 0 3) (h29 : mm_rg i_46 0 6) (h30 : mm_rg i_47 0 30)  : mm_CV l yX12_tells (mm_ws yX12_tells cX12_tells 3 (none)) ({ frames := 0, cells := 0, slots := 0, locals := 0 } : Room) G cy sz [(a_0, .inr (12, [.int i_1, .ref a_1, .ref a_2, .ref a_3, .ref a_4, .ref a_5, .int i_2, .int i_3, .int i_4, .int i_5, .int i_6, .long j_0, .int i_7, .int i_8, .int i_9, .int i_10, .ref a_6, .ref a_7, .ref a_8, .ref a_9, .ref a_10, .ref a_11, .ref a_12, .ref a_13, .ref a_14, .ref a_15, .ref a_16, .ref a_17, .ref a_18, .int i_11, .int i_12, .int i_13, .int i_14, .int i_15, .int i_16, .ref a_19, .int i_17, .ref a_20])), (a_7, .inl (cy 1, 30, .inl (mm_g [i_18, i_19, i_20, i_21, i_22, i_23, i_24, i_25, i_26, i_27, i_28, i_29, i_30, i_31, i_32, i_33, i_34, i_35, i_36, i_37, i_38, i_39, i_40, i_41, i_42, i_43, i_44, i_45, i_46, i_47])))] [.ref a_0, .int 1, .int i_0] (fun u : Unit => [(a_0, .inr (12, [.int i_1, .ref a_1, .ref a_2, .ref a_3, .ref a_4, .ref a_5, .int i_2, .int i_3, .int i_4, .int i_5, .int i_6, .long j_0, .int i_7, .int i_8, .int i_9, .int i_10, .ref a_6, .ref a_7, .ref a_8, .ref a_9, .ref a_10, .ref a_11, .ref a_12, .ref a_13, .ref a_14, .ref a_15, .ref a_16, .ref a_17, .ref a_18, .int i_11, .int i_12, .int i_13, .int i_14, .int i_15, .int i_16, .ref a_19, .int i_17, .ref a_20])), (a_7, .inl (cy 1, 30, .inl (mm_g [i_18, i_19, i_20, i_21, i_22, i_23, i_24, i_25, i_26, i_27, i_28, i_29, i_30, i_31, i_32, i_33, i_34, i_35, i_36, i_37, i_38, i_39, i_40, i_41, i_42, i_0, i_44, i_45, i_46, i_47])))]) (fun u : Unit => True) 0 0 := by
  refine mm_begin (lv := [(0, .ref a_0), (1, .int 1), (2, .int i_0)]) (by decide) (Nat.le_of_ble_eq_true rfl) rfl ?_
  intro p e s m below meth c A ls R args Q H locs hRe hQ hAe hx hb hr hlocks hml hown hnm hts hsz hA hS hP hK hD hZ hl
  have hRf : R.frames = 0 := by rw [hRe]
  have hRl : R.locals = 0 := by rw [hRe]
  have hRc : R.cells = 0 := by rw [hRe]
  have hRs : R.slots = 0 := by rw [hRe]
  refine lv_aload_n hx hb dX12_tells_0 rfl (lv_at hl 0 rfl) ?_
  refine va_get (D := G) (ci := 12) (v := .ref a_7) (C := RX12) (T := TX12) (N := 38) hx hb hts (mm_i inlX12) hown hK.1 hP 0 rfl rfl 17 (by decide) (mm_h hts mm_w149) (fun _ h9 => h9) rfl dX12_tells_1 ?_
  refine lv_bipush (v := 24) hx hb dX12_tells_4 (by decide) ?_
  refine lv_iload_n hx hb dX12_tells_6 rfl (lv_at hl 1 rfl) ?_
  refine lv_iadd hx hb dX12_tells_7 ?_
  refine lv_topi (fun v1 ev1 => ?_)
  obtain rfl : v1 = 25 := ev1.trans (by decide)
  refine lv_iload_n hx hb dX12_tells_8 rfl (lv_at hl 2 rfl) ?_
  refine va_iast hx hb hK.1 hP hD hS 1 1 rfl rfl (mm_in mm_k25 (by decide)) dX12_tells_9 ?_
  clear hP hD hS
  clear H locs
  rw [show upd (mm_g [i_18, i_19, i_20, i_21, i_22, i_23, i_24, i_25, i_26, i_27, i_28, i_29, i_30, i_31, i_32, i_33, i_34, i_35, i_36, i_37, i_38, i_39, i_40, i_41, i_42, i_43, i_44, i_45, i_46, i_47]) (25 : Int32).toNatClampNeg i_0 = (mm_g [i_18, i_19, i_20, i_21, i_22, i_23, i_24, i_25, i_26, i_27, i_28, i_29, i_30, i_31, i_32, i_33, i_34, i_35, i_36, i_37, i_38, i_39, i_40, i_41, i_42, i_0, i_44, i_45, i_46, i_47]) from mm_gs2 25 30 (by decide) rfl rfl rfl]
  intro H locs (hP : va_P G vwCl [(a_0, .inr (12, [.int i_1, .ref a_1, .ref a_2, .ref a_3, .ref a_4, .ref a_5, .int i_2, .int i_3, .int i_4, .int i_5, .int i_6, .long j_0, .int i_7, .int i_8, .int i_9, .int i_10, .ref a_6, .ref a_7, .ref a_8, .ref a_9, .ref a_10, .ref a_11, .ref a_12, .ref a_13, .ref a_14, .ref a_15, .ref a_16, .ref a_17, .ref a_18, .int i_11, .int i_12, .int i_13, .int i_14, .int i_15, .int i_16, .ref a_19, .int i_17, .ref a_20])), (a_7, .inl (cy 1, 30, .inl (mm_g [i_18, i_19, i_20, i_21, i_22, i_23, i_24, i_25, i_26, i_27, i_28, i_29, i_30, i_31, i_32, i_33, i_34, i_35, i_36, i_37, i_38, i_39, i_40, i_41, i_42, i_0, i_44, i_45, i_46, i_47])))] H) (hD : va_D A [(a_0, .inr (12, [.int i_1, .ref a_1, .ref a_2, .ref a_3, .ref a_4, .ref a_5, .int i_2, .int i_3, .int i_4, .int i_5, .int i_6, .long j_0, .int i_7, .int i_8, .int i_9, .int i_10, .ref a_6, .ref a_7, .ref a_8, .ref a_9, .ref a_10, .ref a_11, .ref a_12, .ref a_13, .ref a_14, .ref a_15, .ref a_16, .ref a_17, .ref a_18, .int i_11, .int i_12, .int i_13, .int i_14, .int i_15, .int i_16, .ref a_19, .int i_17, .ref a_20])), (a_7, .inl (cy 1, 30, .inl (mm_g [i_18, i_19, i_20, i_21, i_22, i_23, i_24, i_25, i_26, i_27, i_28, i_29, i_30, i_31, i_32, i_33, i_34, i_35, i_36, i_37, i_38, i_39, i_40, i_41, i_42, i_0, i_44, i_45, i_46, i_47])))]) hS
  subst hAe
  rw [hQ]
  exact W.vret hx hb hr (fun t ht hW => ⟨⟨(), rfl, trivial, by rw [ht]; exact hP, hK.warm hW, hD⟩, hS.F ht⟩) hS.2.2 dX12_tells_10

set_option maxHeartbeats 4000000 in
set_option maxRecDepth 100000 in
theorem M36_X12_ends (l : Launch) (G : va_G) (cy : Nat → ClassId) (sz : Nat) (a_0 : Nat) (i_0 : Int32) (a_1 : Nat) (a_2 : Nat) (a_3 : Nat) (a_4 : Nat) (a_5 : Nat) (i_1 : Int32) (i_2 : Int32) (i_3 : Int32) (i_4 : Int32) (i_5 : Int32) (j_0 : Int64) (i_6 : Int32) (i_7 : Int32) (i_8 : Int32) (i_9 : Int32) (a_6 : Nat) (a_7 : Nat) (a_8 : Nat) (a_9 : Nat) (a_10 : Nat) (a_11 : Nat) (a_12 : Nat) (a_13 : Nat) (a_14 : Nat) (a_15 : Nat) (a_16 : Nat) (a_17 : Nat) (a_18 : Nat) (i_10 : Int32) (i_11 : Int32) (i_12 : Int32) (i_13 : Int32) (i_14 : Int32) (i_15 : Int32) (a_19 : Nat) (i_16 : Int32) (a_20 : Nat) (f_0 : Nat → Int32) (h0 : mm_rg i_1 0 600) (h1 : mm_rg i_2 0 600) (h2 : mm_rg i_3 0 4) (h3 : mm_rg i_4 0 600) (h4 : mm_rg i_6 0 3) (h5 : mm_ar f_0 (-128) 127) (h6 : (i_4 : Int32).toInt ≤ (i_2 : Int32).toInt) (h7 : (i_2 : Int32).toInt ≤ (i_1 : Int32).toInt) (h8 : mm_tk i_3 i_4 i_2)  : mm_CV l yX12_ends (mm_ws yX12_ends cX12_ends 1 (none)) ({ frames := 2, cells := 0, slots := 0, locals := 44 } : Room) G cy sz [(a_0, .inr (12, [.int i_0, .ref a_1, .ref a_2, .ref a_3, .ref a_4, .ref a_5, .int i_1, .int i_2, .int i_3, .int i_4, .int i_5, .long j_0, .int i_6, .int i_7, .int i_8, .int i_9, .ref a_6, .ref a_7, .ref a_8, .ref a_9, .ref a_10, .ref a_11, .ref a_12, .ref a_13, .ref a_14, .ref a_15, .ref a_16, .ref a_17, .ref a_18, .int i_10, .int i_11, .int i_12, .int i_13, .int i_14, .int i_15, .ref a_19, .int i_16, .ref a_20])), (a_5, .inl (cy 0, 600, .inl f_0))] [.ref a_0] (fun u : Int32 × Int32 × Int32 × Int32 × Int64 × Int32 × Int32 => [(a_0, .inr (12, [.int i_0, .ref a_1, .ref a_2, .ref a_3, .ref a_4, .ref a_5, .int i_1, .int u.1, .int u.2.1, .int u.2.2.1, .int u.2.2.2.1, .long u.2.2.2.2.1, .int u.2.2.2.2.2.1, .int u.2.2.2.2.2.2, .int i_8, .int i_9, .ref a_6, .ref a_7, .ref a_8, .ref a_9, .ref a_10, .ref a_11, .ref a_12, .ref a_13, .ref a_14, .ref a_15, .ref a_16, .ref a_17, .ref a_18, .int i_10, .int i_11, .int i_12, .int i_13, .int i_14, .int i_15, .ref a_19, .int i_16, .ref a_20])), (a_5, .inl (cy 0, 600, .inl f_0))]) (fun u : Int32 × Int32 × Int32 × Int32 × Int64 × Int32 × Int32 => mm_rg u.1 0 600 ∧ mm_rg u.2.1 0 4 ∧ mm_rg u.2.2.1 0 600 ∧ mm_rg u.2.2.2.2.2.1 0 3 ∧ (u.2.2.1 : Int32).toInt ≤ (u.1 : Int32).toInt ∧ (u.1 : Int32).toInt ≤ (i_1 : Int32).toInt ∧ mm_tk u.2.1 u.2.2.1 u.1 ∧ (i_4 : Int32).toInt ≤ (u.2.2.1 : Int32).toInt ∧ mm_go u.2.2.2.2.2.1 i_4 u.2.2.1) 0 0 := by
  refine mm_begin (lv := [(0, .ref a_0)]) (by decide) (Nat.le_of_ble_eq_true rfl) rfl ?_
  intro p e s m below meth c A ls R args Q H locs hRe hQ hAe hx hb hr hlocks hml hown hnm hts hsz hA hS hP hK hD hZ hl
  have hRf : R.frames = 2 := by rw [hRe]
  have hRl : R.locals = 44 := by rw [hRe]
  have hRc : R.cells = 0 := by rw [hRe]
  have hRs : R.slots = 0 := by rw [hRe]
  refine lv_aload_n hx hb dX12_ends_0 rfl (lv_at hl 0 rfl) ?_
  refine va_get (D := G) (ci := 12) (v := .int i_3) (C := RX12) (T := TX12) (N := 38) hx hb hts (mm_i inlX12) hown hK.1 hP 0 rfl rfl 8 (by decide) (mm_h hts mm_w432) (fun _ h9 => h9) rfl dX12_ends_1 ?_
  refine lv_iconst (v := 3) hx hb dX12_ends_4 (by decide) ?_
  refine lv_icmp_eq (tgt := 13) hx hb dX12_ends_5 (by decide) (fun c1 => ?_) (fun c1 => ?_)
  · have q2 := mm_eqI (lo := 3) (hi := 3) c1 h2 mm_k3 (by decide)
    have w3 := mm_tk3 h8 q2 (by decide)
    have q4 := mm_ltL (h := 599) w3 h3 h1 (by decide)
    have q5 := mm_ltR (lo := 1) w3 h3 h1 (by decide)
    have q6 := mm_leR h7 q5 h0
    refine lv_aload_n hx hb dX12_ends_13 rfl (lv_at hl 0 rfl) ?_
    refine va_get (D := G) (ci := 12) (v := .int i_6) (C := RX12) (T := TX12) (N := 38) hx hb hts (mm_i inlX12) hown hK.1 hP 0 rfl rfl 12 (by decide) (mm_h hts mm_w436) (fun _ h9 => h9) rfl dX12_ends_14 ?_
    refine lv_if_ne (tgt := 24) hx hb dX12_ends_17 (by decide) (fun c7 => ?_) (fun c7 => ?_)
    · have q8 := mm_neL (lo := 1) (mm_ne c7) h4 mm_k0 (by decide) (by decide)
      have w9 : (i_4 : Int32).toInt ≤ (i_4 : Int32).toInt := (Int.le_refl _)
      have w10 : mm_go i_6 i_4 i_4 := (mm_go_n q8 (by decide))
      subst hAe
      rw [hQ]
      exact W.vret hx hb hr (fun t ht hW => ⟨⟨(i_2, i_3, i_4, i_5, j_0, i_6, i_7), rfl, ⟨(mm_wk q5 (by decide)), (mm_wk q2 (by decide)), (mm_wk q4 (by decide)), (mm_wk q8 (by decide)), h6, h7, h8, w9, w10⟩, by rw [ht]; exact hP, hK.warm hW, hD⟩, hS.F ht⟩) hS.2.2 dX12_ends_24
    · have q11 := mm_eqI (lo := 0) (hi := 0) c7 h4 mm_k0 (by decide)
      refine lv_aload_n hx hb dX12_ends_20 rfl (lv_at hl 0 rfl) ?_
      refine mm_finv (va_runV (As := []) (rest := []) ⟨hx, hb, hml, hown, hts⟩ (M22_X12_next l G cy H.size a_0 i_0 a_1 a_2 a_3 a_4 a_5 i_1 i_2 i_3 i_4 i_5 j_0 i_6 i_7 i_8 i_9 a_6 a_7 a_8 a_9 a_10 a_11 a_12 a_13 a_14 a_15 a_16 a_17 a_18 i_10 i_11 i_12 i_13 i_14 i_15 a_19 i_16 a_20 f_0 (mm_wk q6 (by decide)) (mm_wk q5 (by decide)) (mm_wk q2 (by decide)) (mm_wk q4 (by decide)) h5 h7) (cwV 0 hts (mm_gV mm_w451 mm_w452 mm_w453 mm_w5 mm_w454) rfl rfl rfl hd_X12_next ⟨by rw [hRf]; exact Nat.le_of_ble_eq_true rfl, by rw [hRl]; exact Nat.le_of_ble_eq_true rfl⟩) (mm_preV hK hZ hS hA hP hD [0, 1] rfl rfl 0 rfl rfl rfl) rfl rfl hl.1 rfl (lv_room (Nat.le_of_ble_eq_true rfl)) dX12_ends_21 ⟨by rw [hRc]; exact Nat.le_of_ble_eq_true rfl, by rw [hRs]; exact Nat.le_of_ble_eq_true rfl⟩) hP hD hS hA (fun u : Int32 × Int32 × Int32 × Int32 × Int64 => [(a_0, .inr (12, [.int i_0, .ref a_1, .ref a_2, .ref a_3, .ref a_4, .ref a_5, .int i_1, .int u.1, .int u.2.1, .int u.2.2.1, .int u.2.2.2.1, .long u.2.2.2.2, .int i_6, .int i_7, .int i_8, .int i_9, .ref a_6, .ref a_7, .ref a_8, .ref a_9, .ref a_10, .ref a_11, .ref a_12, .ref a_13, .ref a_14, .ref a_15, .ref a_16, .ref a_17, .ref a_18, .int i_10, .int i_11, .int i_12, .int i_13, .int i_14, .int i_15, .ref a_19, .int i_16, .ref a_20])), (a_5, .inl (cy 0, 600, .inl f_0))]) [0, 1] [] (n := 2) (fun _ => rfl) (by decide +kernel) (by decide +kernel) rfl (fun _ => rfl) (wr := []) rfl (fun _ => rfl) (fun _ => rfl) ?_
      clear hP hD hS
      clear H locs
      intro u
      obtain ⟨n12, n13, n14, n15, n16⟩ := u
      intro H locs hw (hP : va_P G vwCl [(a_0, .inr (12, [.int i_0, .ref a_1, .ref a_2, .ref a_3, .ref a_4, .ref a_5, .int i_1, .int n12, .int n13, .int n14, .int n15, .long n16, .int i_6, .int i_7, .int i_8, .int i_9, .ref a_6, .ref a_7, .ref a_8, .ref a_9, .ref a_10, .ref a_11, .ref a_12, .ref a_13, .ref a_14, .ref a_15, .ref a_16, .ref a_17, .ref a_18, .int i_10, .int i_11, .int i_12, .int i_13, .int i_14, .int i_15, .ref a_19, .int i_16, .ref a_20])), (a_5, .inl (cy 0, 600, .inl f_0))] H) (hD : va_D A [(a_0, .inr (12, [.int i_0, .ref a_1, .ref a_2, .ref a_3, .ref a_4, .ref a_5, .int i_1, .int n12, .int n13, .int n14, .int n15, .long n16, .int i_6, .int i_7, .int i_8, .int i_9, .ref a_6, .ref a_7, .ref a_8, .ref a_9, .ref a_10, .ref a_11, .ref a_12, .ref a_13, .ref a_14, .ref a_15, .ref a_16, .ref a_17, .ref a_18, .int i_10, .int i_11, .int i_12, .int i_13, .int i_14, .int i_15, .ref a_19, .int i_16, .ref a_20])), (a_5, .inl (cy 0, 600, .inl f_0))]) hS
      obtain ⟨w17, w18, w19, w20, w21, w22, w23⟩ := hw
      replace w20 : (n14 : Int32).toInt ≤ (n12 : Int32).toInt := w20
      replace w21 : (n12 : Int32).toInt ≤ (i_1 : Int32).toInt := w21
      replace w22 : mm_tk n13 n14 n12 := w22
      replace w23 : (i_2 : Int32).toInt ≤ (n14 : Int32).toInt := w23
      have q24 := mm_leR w23 q5 w19
      have q25 := mm_leR w20 q24 w17
      have w26 : (i_4 : Int32).toInt ≤ (n14 : Int32).toInt := (by have := w3; have := w23; omega)
      have w27 : mm_go i_6 i_4 n14 := (fun _ => (by have := w3; have := w23; omega))
      subst hAe
      rw [hQ]
      exact W.vret hx hb hr (fun t ht hW => ⟨⟨(n12, n13, n14, n15, n16, i_6, i_7), rfl, ⟨(mm_wk q25 (by decide)), w18, (mm_wk q24 (by decide)), (mm_wk q11 (by decide)), w20, w21, w22, w26, w27⟩, by rw [ht]; exact hP, hK.warm hW, hD⟩, hS.F ht⟩) hS.2.2 dX12_ends_24
  · refine lv_aload_n hx hb dX12_ends_8 rfl (lv_at hl 0 rfl) ?_
    refine lv_iconst (v := 1) hx hb dX12_ends_9 (by decide) ?_
    refine mm_finv (va_runV (As := [.int 1]) (rest := []) ⟨hx, hb, hml, hown, hts⟩ (M27_X12_fails l G cy H.size a_0 i_0 a_1 a_2 a_3 a_4 a_5 i_1 i_2 i_3 i_4 i_5 j_0 i_6 i_7 i_8 i_9 a_6 a_7 a_8 a_9 a_10 a_11 a_12 a_13 a_14 a_15 a_16 a_17 a_18 i_10 i_11 i_12 i_13 i_14 i_15 a_19 i_16 a_20 h3 h4) (cwV 1 hts (mm_gV mm_w483 mm_w484 mm_w485 mm_w5 mm_w486) rfl rfl rfl hd_X12_fails ⟨by rw [hRf]; exact Nat.le_of_ble_eq_true rfl, by rw [hRl]; exact Nat.le_of_ble_eq_true rfl⟩) (mm_preV hK hZ hS hA hP hD [0] rfl rfl 0 rfl rfl rfl) rfl rfl hl.1 rfl (lv_room (Nat.le_of_ble_eq_true rfl)) dX12_ends_10 ⟨by rw [hRc]; exact Nat.le_of_ble_eq_true rfl, by rw [hRs]; exact Nat.le_of_ble_eq_true rfl⟩) hP hD hS hA (fun u : Int32 × Int32 => [(a_0, .inr (12, [.int i_0, .ref a_1, .ref a_2, .ref a_3, .ref a_4, .ref a_5, .int i_1, .int i_2, .int i_3, .int i_4, .int i_5, .long j_0, .int u.1, .int u.2, .int i_8, .int i_9, .ref a_6, .ref a_7, .ref a_8, .ref a_9, .ref a_10, .ref a_11, .ref a_12, .ref a_13, .ref a_14, .ref a_15, .ref a_16, .ref a_17, .ref a_18, .int i_10, .int i_11, .int i_12, .int i_13, .int i_14, .int i_15, .ref a_19, .int i_16, .ref a_20])), (a_5, .inl (cy 0, 600, .inl f_0))]) [0] [1] (n := 2) (fun _ => rfl) (by decide +kernel) (by decide +kernel) rfl (fun _ => rfl) (wr := [(a_5, .inl (cy 0, 600, .inl f_0))]) rfl (fun _ => rfl) (fun _ => rfl) ?_
    clear hP hD hS
    clear H locs
    intro u
    obtain ⟨n28, n29⟩ := u
    intro H locs hw (hP : va_P G vwCl [(a_0, .inr (12, [.int i_0, .ref a_1, .ref a_2, .ref a_3, .ref a_4, .ref a_5, .int i_1, .int i_2, .int i_3, .int i_4, .int i_5, .long j_0, .int n28, .int n29, .int i_8, .int i_9, .ref a_6, .ref a_7, .ref a_8, .ref a_9, .ref a_10, .ref a_11, .ref a_12, .ref a_13, .ref a_14, .ref a_15, .ref a_16, .ref a_17, .ref a_18, .int i_10, .int i_11, .int i_12, .int i_13, .int i_14, .int i_15, .ref a_19, .int i_16, .ref a_20])), (a_5, .inl (cy 0, 600, .inl f_0))] H) (hD : va_D A [(a_0, .inr (12, [.int i_0, .ref a_1, .ref a_2, .ref a_3, .ref a_4, .ref a_5, .int i_1, .int i_2, .int i_3, .int i_4, .int i_5, .long j_0, .int n28, .int n29, .int i_8, .int i_9, .ref a_6, .ref a_7, .ref a_8, .ref a_9, .ref a_10, .ref a_11, .ref a_12, .ref a_13, .ref a_14, .ref a_15, .ref a_16, .ref a_17, .ref a_18, .int i_10, .int i_11, .int i_12, .int i_13, .int i_14, .int i_15, .ref a_19, .int i_16, .ref a_20])), (a_5, .inl (cy 0, 600, .inl f_0))]) hS
    have w30 := hw
    refine lv_aload_n hx hb dX12_ends_13 rfl (lv_at hl 0 rfl) ?_
    refine va_get (D := G) (ci := 12) (v := .int n28) (C := RX12) (T := TX12) (N := 38) hx hb hts (mm_i inlX12) hown hK.1 hP 0 rfl rfl 12 (by decide) (mm_h hts mm_w436) (fun _ h9 => h9) rfl dX12_ends_14 ?_
    refine lv_if_ne (tgt := 24) hx hb dX12_ends_17 (by decide) (fun c31 => ?_) (fun c31 => ?_)
    · have w32 : (i_4 : Int32).toInt ≤ (i_4 : Int32).toInt := (Int.le_refl _)
      have w33 : mm_go n28 i_4 i_4 := (mm_go_n w30 (by decide))
      subst hAe
      rw [hQ]
      exact W.vret hx hb hr (fun t ht hW => ⟨⟨(i_2, i_3, i_4, i_5, j_0, n28, n29), rfl, ⟨h1, h2, h3, (mm_wk w30 (by decide)), h6, h7, h8, w32, w33⟩, by rw [ht]; exact hP, hK.warm hW, hD⟩, hS.F ht⟩) hS.2.2 dX12_ends_24
    · exact mm_eqN c31.symm mm_k0 w30 (by decide)

set_option maxHeartbeats 4000000 in
set_option maxRecDepth 100000 in
theorem M37_X12_hasRead (l : Launch) (G : va_G) (cy : Nat → ClassId) (sz : Nat) (a_0 : Nat) (i_0 : Int32) (a_1 : Nat) (a_2 : Nat) (a_3 : Nat) (a_4 : Nat) (a_5 : Nat) (i_1 : Int32) (i_2 : Int32) (i_3 : Int32) (i_4 : Int32) (i_5 : Int32) (j_0 : Int64) (i_6 : Int32) (i_7 : Int32) (i_8 : Int32) (i_9 : Int32) (a_6 : Nat) (a_7 : Nat) (a_8 : Nat) (a_9 : Nat) (a_10 : Nat) (a_11 : Nat) (a_12 : Nat) (a_13 : Nat) (a_14 : Nat) (a_15 : Nat) (a_16 : Nat) (a_17 : Nat) (a_18 : Nat) (i_10 : Int32) (i_11 : Int32) (i_12 : Int32) (i_13 : Int32) (i_14 : Int32) (i_15 : Int32) (a_19 : Nat) (i_16 : Int32) (a_20 : Nat) (i_17 : Int32) (i_18 : Int32) (i_19 : Int32) (i_20 : Int32) (i_21 : Int32) (i_22 : Int32) (i_23 : Int32) (i_24 : Int32) (i_25 : Int32) (i_26 : Int32) (i_27 : Int32) (i_28 : Int32) (i_29 : Int32) (i_30 : Int32) (i_31 : Int32) (i_32 : Int32) (i_33 : Int32) (i_34 : Int32) (i_35 : Int32) (i_36 : Int32) (i_37 : Int32) (i_38 : Int32) (i_39 : Int32) (i_40 : Int32) (i_41 : Int32) (i_42 : Int32) (i_43 : Int32) (i_44 : Int32) (i_45 : Int32) (i_46 : Int32) (h0 : mm_rg i_17 0 10) (h1 : mm_rg i_18 0 99) (h2 : mm_rg i_19 0 9) (h3 : mm_rg i_20 0 3) (h4 : mm_rg i_21 0 6) (h5 : mm_rg i_22 0 30) (h6 : mm_rg i_23 0 10) (h7 : mm_rg i_24 0 99) (h8 : mm_rg i_25 0 9) (h9 : mm_rg i_26 0 3) (h10 : mm_rg i_27 0 6) (h11 : mm_rg i_28 0 30) (h12 : mm_rg i_29 0 10) (h13 : mm_rg i_30 0 99) (h14 : mm_rg i_31 0 9) (h15 : mm_rg i_32 0 3) (h16 : mm_rg i_33 0 6) (h17 : mm_rg i_34 0 30) (h18 : mm_rg i_35 0 10) (h19 : mm_rg i_36 0 99) (h20 : mm_rg i_37 0 9) (h21 : mm_rg i_38 0 3) (h22 : mm_rg i_39 0 6) (h23 : mm_rg i_40 0 30) (h24 : mm_rg i_41 0 10) (h25 : mm_rg i_42 0 99) (h26 : mm_rg i_43 0 9) (h27 : mm_rg i_44 0 3) (h28 : mm_rg i_45 0 6) (h29 : mm_rg i_46 0 30)  : mm_CI l yX12_hasRead (mm_ws yX12_hasRead cX12_hasRead 2 (some .int)) ({ frames := 0, cells := 0, slots := 0, locals := 0 } : Room) G cy sz [(a_0, .inr (12, [.int i_0, .ref a_1, .ref a_2, .ref a_3, .ref a_4, .ref a_5, .int i_1, .int i_2, .int i_3, .int i_4, .int i_5, .long j_0, .int i_6, .int i_7, .int i_8, .int i_9, .ref a_6, .ref a_7, .ref a_8, .ref a_9, .ref a_10, .ref a_11, .ref a_12, .ref a_13, .ref a_14, .ref a_15, .ref a_16, .ref a_17, .ref a_18, .int i_10, .int i_11, .int i_12, .int i_13, .int i_14, .int i_15, .ref a_19, .int i_16, .ref a_20])), (a_7, .inl (cy 1, 30, .inl (mm_g [i_17, i_18, i_19, i_20, i_21, i_22, i_23, i_24, i_25, i_26, i_27, i_28, i_29, i_30, i_31, i_32, i_33, i_34, i_35, i_36, i_37, i_38, i_39, i_40, i_41, i_42, i_43, i_44, i_45, i_46])))] [.ref a_0, .int 2] (fun u : Unit => [(a_0, .inr (12, [.int i_0, .ref a_1, .ref a_2, .ref a_3, .ref a_4, .ref a_5, .int i_1, .int i_2, .int i_3, .int i_4, .int i_5, .long j_0, .int i_6, .int i_7, .int i_8, .int i_9, .ref a_6, .ref a_7, .ref a_8, .ref a_9, .ref a_10, .ref a_11, .ref a_12, .ref a_13, .ref a_14, .ref a_15, .ref a_16, .ref a_17, .ref a_18, .int i_10, .int i_11, .int i_12, .int i_13, .int i_14, .int i_15, .ref a_19, .int i_16, .ref a_20])), (a_7, .inl (cy 1, 30, .inl (mm_g [i_17, i_18, i_19, i_20, i_21, i_22, i_23, i_24, i_25, i_26, i_27, i_28, i_29, i_30, i_31, i_32, i_33, i_34, i_35, i_36, i_37, i_38, i_39, i_40, i_41, i_42, i_43, i_44, i_45, i_46])))]) (fun (r : Int32) (u : Unit) => i_43 = r) 0 0 := by
  refine mm_begin (lv := [(0, .ref a_0), (1, .int 2)]) (by decide) (Nat.le_of_ble_eq_true rfl) rfl ?_
  intro p e s m below meth c A ls R args Q H locs hRe hQ hAe hx hb hr hlocks hml hown hnm hts hsz hA hS hP hK hD hZ hl
  have hRf : R.frames = 0 := by rw [hRe]
  have hRl : R.locals = 0 := by rw [hRe]
  have hRc : R.cells = 0 := by rw [hRe]
  have hRs : R.slots = 0 := by rw [hRe]
  refine lv_aload_n hx hb dX12_hasRead_0 rfl (lv_at hl 0 rfl) ?_
  refine va_get (D := G) (ci := 12) (v := .ref a_7) (C := RX12) (T := TX12) (N := 38) hx hb hts (mm_i inlX12) hown hK.1 hP 0 rfl rfl 17 (by decide) (mm_h hts mm_w149) (fun _ h9 => h9) rfl dX12_hasRead_1 ?_
  refine lv_bipush (v := 24) hx hb dX12_hasRead_4 (by decide) ?_
  refine lv_iload_n hx hb dX12_hasRead_6 rfl (lv_at hl 1 rfl) ?_
  refine lv_iadd hx hb dX12_hasRead_7 ?_
  refine lv_topi (fun v1 ev1 => ?_)
  obtain rfl : v1 = 26 := ev1.trans (by decide)
  refine va_iald hx hb hK.1 hP 1 1 rfl rfl (mm_in mm_k26 (by decide)) dX12_hasRead_8 ?_
  rw [show (mm_g [i_17, i_18, i_19, i_20, i_21, i_22, i_23, i_24, i_25, i_26, i_27, i_28, i_29, i_30, i_31, i_32, i_33, i_34, i_35, i_36, i_37, i_38, i_39, i_40, i_41, i_42, i_43, i_44, i_45, i_46]) (26 : Int32).toNatClampNeg = i_43 from mm_ge 26 (by decide) rfl]
  subst hAe
  rw [hQ]
  exact W.iret (v := i_43) hx hb hr (fun t ht hW => ⟨⟨i_43, (), rfl, rfl, by rw [ht]; exact hP, hK.warm hW, hD⟩, hS.F ht⟩) hS.2.2 dX12_hasRead_9

set_option maxHeartbeats 4000000 in
set_option maxRecDepth 100000 in
theorem M38_X12_isRoom (l : Launch) (G : va_G) (cy : Nat → ClassId) (sz : Nat) (a_0 : Nat) (i_0 : Int32) (h0 : mm_rg i_0 0 9)  : mm_CI l yX12_isRoom (mm_ws yX12_isRoom cX12_isRoom 4 (some .boolean)) ({ frames := 0, cells := 0, slots := 0, locals := 0 } : Room) G cy sz [] [.ref a_0, .int 0, .int i_0, .int 9] (fun u : Unit => []) (fun (r : Int32) (u : Unit) => 0 = r) 0 0 := by
  refine mm_begin (lv := [(0, .ref a_0), (1, .int 0), (2, .int i_0), (3, .int 9)]) (by decide) (Nat.le_of_ble_eq_true rfl) rfl ?_
  intro p e s m below meth c A ls R args Q H locs hRe hQ hAe hx hb hr hlocks hml hown hnm hts hsz hA hS hP hK hD hZ hl
  have hRf : R.frames = 0 := by rw [hRe]
  have hRl : R.locals = 0 := by rw [hRe]
  have hRc : R.cells = 0 := by rw [hRe]
  have hRs : R.slots = 0 := by rw [hRe]
  refine lv_iload_n hx hb dX12_isRoom_0 rfl (lv_at hl 1 rfl) ?_
  refine lv_if_eq (tgt := 14) hx hb dX12_isRoom_1 (by decide) (fun c1 => ?_) (fun c1 => ?_)
  · refine lv_iload_n hx hb dX12_isRoom_14 rfl (lv_at hl 1 rfl) ?_
    refine lv_if_eq (tgt := 29) hx hb dX12_isRoom_15 (by decide) (fun c2 => ?_) (fun c2 => ?_)
    · refine lv_iload_n hx hb dX12_isRoom_29 rfl (lv_at hl 1 rfl) ?_
      refine lv_if_eq (tgt := 44) hx hb dX12_isRoom_30 (by decide) (fun c3 => ?_) (fun c3 => ?_)
      · refine lv_iconst (v := 0) hx hb dX12_isRoom_44 (by decide) ?_
        subst hAe
        rw [hQ]
        exact W.zret (v := 0) hx hb hr rfl (fun t ht hW => ⟨⟨0, (), rfl, rfl, by rw [ht]; exact hP, hK.warm hW, hD⟩, hS.F ht⟩) hS.2.2 dX12_isRoom_45
      · have q4 := mm_neL (lo := 1) (mm_ne c3) mm_k0 mm_k0 (by decide) (by decide)
        exact mm_no q4 (by decide)
    · have q5 := mm_neL (lo := 1) (mm_ne c2) mm_k0 mm_k0 (by decide) (by decide)
      exact mm_no q5 (by decide)
  · have q6 := mm_neL (lo := 1) (mm_ne c1) mm_k0 mm_k0 (by decide) (by decide)
    exact mm_no q6 (by decide)

set_option maxHeartbeats 4000000 in
set_option maxRecDepth 100000 in
theorem M39_X12_hasRead (l : Launch) (G : va_G) (cy : Nat → ClassId) (sz : Nat) (a_0 : Nat) (i_0 : Int32) (a_1 : Nat) (a_2 : Nat) (a_3 : Nat) (a_4 : Nat) (a_5 : Nat) (i_1 : Int32) (i_2 : Int32) (i_3 : Int32) (i_4 : Int32) (i_5 : Int32) (j_0 : Int64) (i_6 : Int32) (i_7 : Int32) (i_8 : Int32) (i_9 : Int32) (a_6 : Nat) (a_7 : Nat) (a_8 : Nat) (a_9 : Nat) (a_10 : Nat) (a_11 : Nat) (a_12 : Nat) (a_13 : Nat) (a_14 : Nat) (a_15 : Nat) (a_16 : Nat) (a_17 : Nat) (a_18 : Nat) (i_10 : Int32) (i_11 : Int32) (i_12 : Int32) (i_13 : Int32) (i_14 : Int32) (i_15 : Int32) (a_19 : Nat) (i_16 : Int32) (a_20 : Nat) (i_17 : Int32) (i_18 : Int32) (i_19 : Int32) (i_20 : Int32) (i_21 : Int32) (i_22 : Int32) (i_23 : Int32) (i_24 : Int32) (i_25 : Int32) (i_26 : Int32) (i_27 : Int32) (i_28 : Int32) (i_29 : Int32) (i_30 : Int32) (i_31 : Int32) (i_32 : Int32) (i_33 : Int32) (i_34 : Int32) (i_35 : Int32) (i_36 : Int32) (i_37 : Int32) (i_38 : Int32) (i_39 : Int32) (i_40 : Int32) (i_41 : Int32) (i_42 : Int32) (i_43 : Int32) (i_44 : Int32) (i_45 : Int32) (i_46 : Int32) (h0 : mm_rg i_17 0 10) (h1 : mm_rg i_18 0 99) (h2 : mm_rg i_19 0 9) (h3 : mm_rg i_20 0 3) (h4 : mm_rg i_21 0 6) (h5 : mm_rg i_22 0 30) (h6 : mm_rg i_23 0 10) (h7 : mm_rg i_24 0 99) (h8 : mm_rg i_25 0 9) (h9 : mm_rg i_26 0 3) (h10 : mm_rg i_27 0 6) (h11 : mm_rg i_28 0 30) (h12 : mm_rg i_29 0 10) (h13 : mm_rg i_30 0 99) (h14 : mm_rg i_31 0 9) (h15 : mm_rg i_32 0 3) (h16 : mm_rg i_33 0 6) (h17 : mm_rg i_34 0 30) (h18 : mm_rg i_35 0 10) (h19 : mm_rg i_36 0 99) (h20 : mm_rg i_37 0 9) (h21 : mm_rg i_38 0 3) (h22 : mm_rg i_39 0 6) (h23 : mm_rg i_40 0 30) (h24 : mm_rg i_41 0 10) (h25 : mm_rg i_42 0 99) (h26 : mm_rg i_43 0 9) (h27 : mm_rg i_44 0 3) (h28 : mm_rg i_45 0 6) (h29 : mm_rg i_46 0 30)  : mm_CI l yX12_hasRead (mm_ws yX12_hasRead cX12_hasRead 2 (some .int)) ({ frames := 0, cells := 0, slots := 0, locals := 0 } : Room) G cy sz [(a_0, .inr (12, [.int i_0, .ref a_1, .ref a_2, .ref a_3, .ref a_4, .ref a_5, .int i_1, .int i_2, .int i_3, .int i_4, .int i_5, .long j_0, .int i_6, .int i_7, .int i_8, .int i_9, .ref a_6, .ref a_7, .ref a_8, .ref a_9, .ref a_10, .ref a_11, .ref a_12, .ref a_13, .ref a_14, .ref a_15, .ref a_16, .ref a_17, .ref a_18, .int i_10, .int i_11, .int i_12, .int i_13, .int i_14, .int i_15, .ref a_19, .int i_16, .ref a_20])), (a_7, .inl (cy 1, 30, .inl (mm_g [i_17, i_18, i_19, i_20, i_21, i_22, i_23, i_24, i_25, i_26, i_27, i_28, i_29, i_30, i_31, i_32, i_33, i_34, i_35, i_36, i_37, i_38, i_39, i_40, i_41, i_42, i_43, i_44, i_45, i_46])))] [.ref a_0, .int 3] (fun u : Unit => [(a_0, .inr (12, [.int i_0, .ref a_1, .ref a_2, .ref a_3, .ref a_4, .ref a_5, .int i_1, .int i_2, .int i_3, .int i_4, .int i_5, .long j_0, .int i_6, .int i_7, .int i_8, .int i_9, .ref a_6, .ref a_7, .ref a_8, .ref a_9, .ref a_10, .ref a_11, .ref a_12, .ref a_13, .ref a_14, .ref a_15, .ref a_16, .ref a_17, .ref a_18, .int i_10, .int i_11, .int i_12, .int i_13, .int i_14, .int i_15, .ref a_19, .int i_16, .ref a_20])), (a_7, .inl (cy 1, 30, .inl (mm_g [i_17, i_18, i_19, i_20, i_21, i_22, i_23, i_24, i_25, i_26, i_27, i_28, i_29, i_30, i_31, i_32, i_33, i_34, i_35, i_36, i_37, i_38, i_39, i_40, i_41, i_42, i_43, i_44, i_45, i_46])))]) (fun (r : Int32) (u : Unit) => i_44 = r) 0 0 := by
  refine mm_begin (lv := [(0, .ref a_0), (1, .int 3)]) (by decide) (Nat.le_of_ble_eq_true rfl) rfl ?_
  intro p e s m below meth c A ls R args Q H locs hRe hQ hAe hx hb hr hlocks hml hown hnm hts hsz hA hS hP hK hD hZ hl
  have hRf : R.frames = 0 := by rw [hRe]
  have hRl : R.locals = 0 := by rw [hRe]
  have hRc : R.cells = 0 := by rw [hRe]
  have hRs : R.slots = 0 := by rw [hRe]
  refine lv_aload_n hx hb dX12_hasRead_0 rfl (lv_at hl 0 rfl) ?_
  refine va_get (D := G) (ci := 12) (v := .ref a_7) (C := RX12) (T := TX12) (N := 38) hx hb hts (mm_i inlX12) hown hK.1 hP 0 rfl rfl 17 (by decide) (mm_h hts mm_w149) (fun _ h9 => h9) rfl dX12_hasRead_1 ?_
  refine lv_bipush (v := 24) hx hb dX12_hasRead_4 (by decide) ?_
  refine lv_iload_n hx hb dX12_hasRead_6 rfl (lv_at hl 1 rfl) ?_
  refine lv_iadd hx hb dX12_hasRead_7 ?_
  refine lv_topi (fun v1 ev1 => ?_)
  obtain rfl : v1 = 27 := ev1.trans (by decide)
  refine va_iald hx hb hK.1 hP 1 1 rfl rfl (mm_in mm_k27 (by decide)) dX12_hasRead_8 ?_
  rw [show (mm_g [i_17, i_18, i_19, i_20, i_21, i_22, i_23, i_24, i_25, i_26, i_27, i_28, i_29, i_30, i_31, i_32, i_33, i_34, i_35, i_36, i_37, i_38, i_39, i_40, i_41, i_42, i_43, i_44, i_45, i_46]) (27 : Int32).toNatClampNeg = i_44 from mm_ge 27 (by decide) rfl]
  subst hAe
  rw [hQ]
  exact W.iret (v := i_44) hx hb hr (fun t ht hW => ⟨⟨i_44, (), rfl, rfl, by rw [ht]; exact hP, hK.warm hW, hD⟩, hS.F ht⟩) hS.2.2 dX12_hasRead_9

set_option maxHeartbeats 4000000 in
set_option maxRecDepth 100000 in
theorem M40_X12_isRoom (l : Launch) (G : va_G) (cy : Nat → ClassId) (sz : Nat) (a_0 : Nat) (i_0 : Int32) (h0 : mm_rg i_0 0 3)  : mm_CI l yX12_isRoom (mm_ws yX12_isRoom cX12_isRoom 4 (some .boolean)) ({ frames := 0, cells := 0, slots := 0, locals := 0 } : Room) G cy sz [] [.ref a_0, .int 0, .int i_0, .int 3] (fun u : Unit => []) (fun (r : Int32) (u : Unit) => 0 = r) 0 0 := by
  refine mm_begin (lv := [(0, .ref a_0), (1, .int 0), (2, .int i_0), (3, .int 3)]) (by decide) (Nat.le_of_ble_eq_true rfl) rfl ?_
  intro p e s m below meth c A ls R args Q H locs hRe hQ hAe hx hb hr hlocks hml hown hnm hts hsz hA hS hP hK hD hZ hl
  have hRf : R.frames = 0 := by rw [hRe]
  have hRl : R.locals = 0 := by rw [hRe]
  have hRc : R.cells = 0 := by rw [hRe]
  have hRs : R.slots = 0 := by rw [hRe]
  refine lv_iload_n hx hb dX12_isRoom_0 rfl (lv_at hl 1 rfl) ?_
  refine lv_if_eq (tgt := 14) hx hb dX12_isRoom_1 (by decide) (fun c1 => ?_) (fun c1 => ?_)
  · refine lv_iload_n hx hb dX12_isRoom_14 rfl (lv_at hl 1 rfl) ?_
    refine lv_if_eq (tgt := 29) hx hb dX12_isRoom_15 (by decide) (fun c2 => ?_) (fun c2 => ?_)
    · refine lv_iload_n hx hb dX12_isRoom_29 rfl (lv_at hl 1 rfl) ?_
      refine lv_if_eq (tgt := 44) hx hb dX12_isRoom_30 (by decide) (fun c3 => ?_) (fun c3 => ?_)
      · refine lv_iconst (v := 0) hx hb dX12_isRoom_44 (by decide) ?_
        subst hAe
        rw [hQ]
        exact W.zret (v := 0) hx hb hr rfl (fun t ht hW => ⟨⟨0, (), rfl, rfl, by rw [ht]; exact hP, hK.warm hW, hD⟩, hS.F ht⟩) hS.2.2 dX12_isRoom_45
      · have q4 := mm_neL (lo := 1) (mm_ne c3) mm_k0 mm_k0 (by decide) (by decide)
        exact mm_no q4 (by decide)
    · have q5 := mm_neL (lo := 1) (mm_ne c2) mm_k0 mm_k0 (by decide) (by decide)
      exact mm_no q5 (by decide)
  · have q6 := mm_neL (lo := 1) (mm_ne c1) mm_k0 mm_k0 (by decide) (by decide)
    exact mm_no q6 (by decide)

set_option maxHeartbeats 4000000 in
set_option maxRecDepth 100000 in
theorem M41_X12_rulesRead (l : Launch) (G : va_G) (cy : Nat → ClassId) (sz : Nat) (a_0 : Nat) (i_0 : Int32) (a_1 : Nat) (a_2 : Nat) (a_3 : Nat) (a_4 : Nat) (a_5 : Nat) (i_1 : Int32) (i_2 : Int32) (i_3 : Int32) (i_4 : Int32) (i_5 : Int32) (j_0 : Int64) (i_6 : Int32) (i_7 : Int32) (i_8 : Int32) (i_9 : Int32) (a_6 : Nat) (a_7 : Nat) (a_8 : Nat) (a_9 : Nat) (a_10 : Nat) (a_11 : Nat) (a_12 : Nat) (a_13 : Nat) (a_14 : Nat) (a_15 : Nat) (a_16 : Nat) (a_17 : Nat) (a_18 : Nat) (i_10 : Int32) (i_11 : Int32) (i_12 : Int32) (i_13 : Int32) (i_14 : Int32) (i_15 : Int32) (a_19 : Nat) (i_16 : Int32) (a_20 : Nat) (i_17 : Int32) (i_18 : Int32) (i_19 : Int32) (i_20 : Int32) (i_21 : Int32) (i_22 : Int32) (i_23 : Int32) (i_24 : Int32) (i_25 : Int32) (i_26 : Int32) (i_27 : Int32) (i_28 : Int32) (i_29 : Int32) (i_30 : Int32) (i_31 : Int32) (i_32 : Int32) (i_33 : Int32) (i_34 : Int32) (i_35 : Int32) (i_36 : Int32) (i_37 : Int32) (i_38 : Int32) (i_39 : Int32) (i_40 : Int32) (i_41 : Int32) (i_42 : Int32) (i_43 : Int32) (i_44 : Int32) (i_45 : Int32) (i_46 : Int32) (f_0 : Nat → Int32) (h0 : mm_rg i_17 0 10) (h1 : mm_rg i_18 0 99) (h2 : mm_rg i_19 0 9) (h3 : mm_rg i_20 0 3) (h4 : mm_rg i_21 0 6) (h5 : mm_rg i_22 0 30) (h6 : mm_rg i_23 0 10) (h7 : mm_rg i_24 0 99) (h8 : mm_rg i_25 0 9) (h9 : mm_rg i_26 0 3) (h10 : mm_rg i_27 0 6) (h11 : mm_rg i_28 0 30) (h12 : mm_rg i_29 0 10) (h13 : mm_rg i_30 0 99) (h14 : mm_rg i_31 0 9) (h15 : mm_rg i_32 0 3) (h16 : mm_rg i_33 0 6) (h17 : mm_rg i_34 0 30) (h18 : mm_rg i_35 0 10) (h19 : mm_rg i_36 0 99) (h20 : mm_rg i_37 0 9) (h21 : mm_rg i_38 0 3) (h22 : mm_rg i_39 0 6) (h23 : mm_rg i_40 0 30) (h24 : mm_rg i_41 0 10) (h25 : mm_rg i_42 0 99) (h26 : mm_rg i_43 0 9) (h27 : mm_rg i_44 0 3) (h28 : mm_rg i_45 0 6) (h29 : mm_rg i_46 0 30) (h30 : mm_ar f_0 0 7)  : mm_CI l yX12_rulesRead (mm_ws yX12_rulesRead cX12_rulesRead 1 (some .int)) ({ frames := 1, cells := 0, slots := 0, locals := 21 } : Room) G cy sz [(a_0, .inr (12, [.int i_0, .ref a_1, .ref a_2, .ref a_3, .ref a_4, .ref a_5, .int i_1, .int i_2, .int i_3, .int i_4, .int i_5, .long j_0, .int i_6, .int i_7, .int i_8, .int i_9, .ref a_6, .ref a_7, .ref a_8, .ref a_9, .ref a_10, .ref a_11, .ref a_12, .ref a_13, .ref a_14, .ref a_15, .ref a_16, .ref a_17, .ref a_18, .int i_10, .int i_11, .int i_12, .int i_13, .int i_14, .int i_15, .ref a_19, .int i_16, .ref a_20])), (a_7, .inl (cy 1, 30, .inl (mm_g [i_17, i_18, i_19, i_20, i_21, i_22, i_23, i_24, i_25, i_26, i_27, i_28, i_29, i_30, i_31, i_32, i_33, i_34, i_35, i_36, i_37, i_38, i_39, i_40, i_41, i_42, i_43, i_44, i_45, i_46]))), (a_9, .inl (cy 1, 15, .inl f_0))] [.ref a_0] (fun u : Unit => [(a_0, .inr (12, [.int i_0, .ref a_1, .ref a_2, .ref a_3, .ref a_4, .ref a_5, .int i_1, .int i_2, .int i_3, .int i_4, .int i_5, .long j_0, .int i_6, .int i_7, .int i_8, .int i_9, .ref a_6, .ref a_7, .ref a_8, .ref a_9, .ref a_10, .ref a_11, .ref a_12, .ref a_13, .ref a_14, .ref a_15, .ref a_16, .ref a_17, .ref a_18, .int i_10, .int i_11, .int i_12, .int i_13, .int i_14, .int i_15, .ref a_19, .int i_16, .ref a_20])), (a_7, .inl (cy 1, 30, .inl (mm_g [i_17, i_18, i_19, i_20, i_21, i_22, i_23, i_24, i_25, i_26, i_27, i_28, i_29, i_30, i_31, i_32, i_33, i_34, i_35, i_36, i_37, i_38, i_39, i_40, i_41, i_42, i_43, i_44, i_45, i_46]))), (a_9, .inl (cy 1, 15, .inl f_0))]) (fun (r : Int32) (u : Unit) => mm_rg r 0 7 ∧ mm_rr f_0 i_44 r) 0 0 := by
  refine mm_begin (lv := [(0, .ref a_0)]) (by decide) (Nat.le_of_ble_eq_true rfl) rfl ?_
  intro p e s m below meth c A ls R args Q H locs hRe hQ hAe hx hb hr hlocks hml hown hnm hts hsz hA hS hP hK hD hZ hl
  have hRf : R.frames = 1 := by rw [hRe]
  have hRl : R.locals = 21 := by rw [hRe]
  have hRc : R.cells = 0 := by rw [hRe]
  have hRs : R.slots = 0 := by rw [hRe]
  refine lv_aload_n hx hb dX12_rulesRead_0 rfl (lv_at hl 0 rfl) ?_
  refine lv_iconst (v := 3) hx hb dX12_rulesRead_1 (by decide) ?_
  refine mm_finir (va_runV (As := [.int 3]) (rest := []) ⟨hx, hb, hml, hown, hts⟩ (M39_X12_hasRead l G cy H.size a_0 i_0 a_1 a_2 a_3 a_4 a_5 i_1 i_2 i_3 i_4 i_5 j_0 i_6 i_7 i_8 i_9 a_6 a_7 a_8 a_9 a_10 a_11 a_12 a_13 a_14 a_15 a_16 a_17 a_18 i_10 i_11 i_12 i_13 i_14 i_15 a_19 i_16 a_20 i_17 i_18 i_19 i_20 i_21 i_22 i_23 i_24 i_25 i_26 i_27 i_28 i_29 i_30 i_31 i_32 i_33 i_34 i_35 i_36 i_37 i_38 i_39 i_40 i_41 i_42 i_43 i_44 i_45 i_46 h0 h1 h2 h3 h4 h5 h6 h7 h8 h9 h10 h11 h12 h13 h14 h15 h16 h17 h18 h19 h20 h21 h22 h23 h24 h25 h26 h27 h28 h29) (cwV 1 hts (mm_gV mm_w503 mm_w504 mm_w505 mm_w5 mm_w506) rfl rfl rfl hd_X12_hasRead ⟨by rw [hRf]; exact Nat.le_of_ble_eq_true rfl, by rw [hRl]; exact Nat.le_of_ble_eq_true rfl⟩) (mm_preV hK hZ hS hA hP hD [0, 1] rfl rfl 0 rfl rfl rfl) rfl rfl hl.1 rfl (lv_room (Nat.le_of_ble_eq_true rfl)) dX12_rulesRead_2 ⟨by rw [hRc]; exact Nat.le_of_ble_eq_true rfl, by rw [hRs]; exact Nat.le_of_ble_eq_true rfl⟩) hP hD hS hA [0, 1] rfl (fun _ => rfl) ?_
  clear hP hD hS
  clear H locs
  intro v1 _u H locs hw hP hD hS
  subst hw
  refine lv_if_ne (tgt := 12) hx hb dX12_rulesRead_5 (by decide) (fun c2 => ?_) (fun c2 => ?_)
  · have q3 := mm_neL (lo := 1) (mm_ne c2) h27 mm_k0 (by decide) (by decide)
    refine lv_aload_n hx hb dX12_rulesRead_12 rfl (lv_at hl 0 rfl) ?_
    refine va_get (D := G) (ci := 12) (v := .ref a_9) (C := RX12) (T := TX12) (N := 38) hx hb hts (mm_i inlX12) hown hK.1 hP 0 rfl rfl 19 (by decide) (mm_h hts mm_w151) (fun _ h9 => h9) rfl dX12_rulesRead_13 ?_
    refine lv_bipush (v := 12) hx hb dX12_rulesRead_16 (by decide) ?_
    refine lv_aload_n hx hb dX12_rulesRead_18 rfl (lv_at hl 0 rfl) ?_
    refine lv_iconst (v := 3) hx hb dX12_rulesRead_19 (by decide) ?_
    refine mm_finir (va_runV (As := [.int 3]) (rest := [.int 12, .ref a_9]) ⟨hx, hb, hml, hown, hts⟩ (M39_X12_hasRead l G cy H.size a_0 i_0 a_1 a_2 a_3 a_4 a_5 i_1 i_2 i_3 i_4 i_5 j_0 i_6 i_7 i_8 i_9 a_6 a_7 a_8 a_9 a_10 a_11 a_12 a_13 a_14 a_15 a_16 a_17 a_18 i_10 i_11 i_12 i_13 i_14 i_15 a_19 i_16 a_20 i_17 i_18 i_19 i_20 i_21 i_22 i_23 i_24 i_25 i_26 i_27 i_28 i_29 i_30 i_31 i_32 i_33 i_34 i_35 i_36 i_37 i_38 i_39 i_40 i_41 i_42 i_43 i_44 i_45 i_46 h0 h1 h2 h3 h4 h5 h6 h7 h8 h9 h10 h11 h12 h13 h14 h15 h16 h17 h18 h19 h20 h21 h22 h23 h24 h25 h26 (mm_wk q3 (by decide)) h28 h29) (cwV 1 hts (mm_gV mm_w503 mm_w504 mm_w505 mm_w5 mm_w506) rfl rfl rfl hd_X12_hasRead ⟨by rw [hRf]; exact Nat.le_of_ble_eq_true rfl, by rw [hRl]; exact Nat.le_of_ble_eq_true rfl⟩) (mm_preV hK hZ hS hA hP hD [0, 1] rfl rfl 0 rfl rfl rfl) rfl rfl hl.1 rfl (lv_room (Nat.le_of_ble_eq_true rfl)) dX12_rulesRead_20 ⟨by rw [hRc]; exact Nat.le_of_ble_eq_true rfl, by rw [hRs]; exact Nat.le_of_ble_eq_true rfl⟩) hP hD hS hA [0, 1] rfl (fun _ => rfl) ?_
    clear hP hD hS
    clear H locs
    intro v4 _u H locs hw hP hD hS
    subst hw
    refine lv_iadd hx hb dX12_rulesRead_23 ?_
    refine lv_topi (fun v5 ev5 => ?_)
    have rv5 : mm_rg v5 13 15 := mm_add ev5 mm_k12 q3 (by decide) (by decide)
    have tv5 := mm_addEd ev5 mm_k12 q3 (by decide) (k := 12) (by decide)
    refine lv_iconst (v := 1) hx hb dX12_rulesRead_24 (by decide) ?_
    refine lv_isub hx hb dX12_rulesRead_25 ?_
    refine lv_topi (fun v6 ev6 => ?_)
    have rv6 : mm_rg v6 12 14 := mm_sub ev6 rv5 mm_k1 (by decide) (by decide)
    have tv6 := mm_subEc ev6 rv5 mm_k1 (by decide) (k := (-1)) (by decide)
    refine va_iald hx hb hK.1 hP 2 1 rfl rfl (mm_in rv6 (by decide)) dX12_rulesRead_26 ?_
    refine lv_topi (fun v7 ev7 => ?_)
    have rv7 : mm_rg v7 0 7 := mm_eqv ev7 (h30 _)
    have w8 : mm_rr f_0 i_44 v7 := (mm_rr_l ev7 q3 (by have := tv6; have := tv5; omega) (by decide))
    subst hAe
    rw [hQ]
    exact W.iret (v := v7) hx hb hr (fun t ht hW => ⟨⟨v7, (), rfl, ⟨rv7, w8⟩, by rw [ht]; exact hP, hK.warm hW, hD⟩, hS.F ht⟩) hS.2.2 dX12_rulesRead_27
  · have q9 := mm_eqI (lo := 0) (hi := 0) c2 h27 mm_k0 (by decide)
    refine lv_iconst (v := 0) hx hb dX12_rulesRead_8 (by decide) ?_
    refine lv_goto (tgt := 27) hx hb dX12_rulesRead_9 (by decide) ?_
    have w10 : mm_rr f_0 i_44 0 := (mm_rr_0 q9 (by decide))
    subst hAe
    rw [hQ]
    exact W.iret (v := 0) hx hb hr (fun t ht hW => ⟨⟨0, (), rfl, ⟨(mm_wk mm_k0 (by decide)), w10⟩, by rw [ht]; exact hP, hK.warm hW, hD⟩, hS.F ht⟩) hS.2.2 dX12_rulesRead_27

set_option maxHeartbeats 4000000 in
set_option maxRecDepth 100000 in
theorem M42_X12_isRoom (l : Launch) (G : va_G) (cy : Nat → ClassId) (sz : Nat) (a_0 : Nat) (i_0 : Int32) (h0 : mm_rg i_0 0 7)  : mm_CI l yX12_isRoom (mm_ws yX12_isRoom cX12_isRoom 4 (some .boolean)) ({ frames := 0, cells := 0, slots := 0, locals := 0 } : Room) G cy sz [] [.ref a_0, .int 0, .int i_0, .int 7] (fun u : Unit => []) (fun (r : Int32) (u : Unit) => 0 = r) 0 0 := by
  refine mm_begin (lv := [(0, .ref a_0), (1, .int 0), (2, .int i_0), (3, .int 7)]) (by decide) (Nat.le_of_ble_eq_true rfl) rfl ?_
  intro p e s m below meth c A ls R args Q H locs hRe hQ hAe hx hb hr hlocks hml hown hnm hts hsz hA hS hP hK hD hZ hl
  have hRf : R.frames = 0 := by rw [hRe]
  have hRl : R.locals = 0 := by rw [hRe]
  have hRc : R.cells = 0 := by rw [hRe]
  have hRs : R.slots = 0 := by rw [hRe]
  refine lv_iload_n hx hb dX12_isRoom_0 rfl (lv_at hl 1 rfl) ?_
  refine lv_if_eq (tgt := 14) hx hb dX12_isRoom_1 (by decide) (fun c1 => ?_) (fun c1 => ?_)
  · refine lv_iload_n hx hb dX12_isRoom_14 rfl (lv_at hl 1 rfl) ?_
    refine lv_if_eq (tgt := 29) hx hb dX12_isRoom_15 (by decide) (fun c2 => ?_) (fun c2 => ?_)
    · refine lv_iload_n hx hb dX12_isRoom_29 rfl (lv_at hl 1 rfl) ?_
      refine lv_if_eq (tgt := 44) hx hb dX12_isRoom_30 (by decide) (fun c3 => ?_) (fun c3 => ?_)
      · refine lv_iconst (v := 0) hx hb dX12_isRoom_44 (by decide) ?_
        subst hAe
        rw [hQ]
        exact W.zret (v := 0) hx hb hr rfl (fun t ht hW => ⟨⟨0, (), rfl, rfl, by rw [ht]; exact hP, hK.warm hW, hD⟩, hS.F ht⟩) hS.2.2 dX12_isRoom_45
      · have q4 := mm_neL (lo := 1) (mm_ne c3) mm_k0 mm_k0 (by decide) (by decide)
        exact mm_no q4 (by decide)
    · have q5 := mm_neL (lo := 1) (mm_ne c2) mm_k0 mm_k0 (by decide) (by decide)
      exact mm_no q5 (by decide)
  · have q6 := mm_neL (lo := 1) (mm_ne c1) mm_k0 mm_k0 (by decide) (by decide)
    exact mm_no q6 (by decide)

set_option maxHeartbeats 4000000 in
set_option maxRecDepth 100000 in
theorem M43_X12_hasRead (l : Launch) (G : va_G) (cy : Nat → ClassId) (sz : Nat) (a_0 : Nat) (i_0 : Int32) (a_1 : Nat) (a_2 : Nat) (a_3 : Nat) (a_4 : Nat) (a_5 : Nat) (i_1 : Int32) (i_2 : Int32) (i_3 : Int32) (i_4 : Int32) (i_5 : Int32) (j_0 : Int64) (i_6 : Int32) (i_7 : Int32) (i_8 : Int32) (i_9 : Int32) (a_6 : Nat) (a_7 : Nat) (a_8 : Nat) (a_9 : Nat) (a_10 : Nat) (a_11 : Nat) (a_12 : Nat) (a_13 : Nat) (a_14 : Nat) (a_15 : Nat) (a_16 : Nat) (a_17 : Nat) (a_18 : Nat) (i_10 : Int32) (i_11 : Int32) (i_12 : Int32) (i_13 : Int32) (i_14 : Int32) (i_15 : Int32) (a_19 : Nat) (i_16 : Int32) (a_20 : Nat) (i_17 : Int32) (i_18 : Int32) (i_19 : Int32) (i_20 : Int32) (i_21 : Int32) (i_22 : Int32) (i_23 : Int32) (i_24 : Int32) (i_25 : Int32) (i_26 : Int32) (i_27 : Int32) (i_28 : Int32) (i_29 : Int32) (i_30 : Int32) (i_31 : Int32) (i_32 : Int32) (i_33 : Int32) (i_34 : Int32) (i_35 : Int32) (i_36 : Int32) (i_37 : Int32) (i_38 : Int32) (i_39 : Int32) (i_40 : Int32) (i_41 : Int32) (i_42 : Int32) (i_43 : Int32) (i_44 : Int32) (i_45 : Int32) (i_46 : Int32) (h0 : mm_rg i_17 0 10) (h1 : mm_rg i_18 0 99) (h2 : mm_rg i_19 0 9) (h3 : mm_rg i_20 0 3) (h4 : mm_rg i_21 0 6) (h5 : mm_rg i_22 0 30) (h6 : mm_rg i_23 0 10) (h7 : mm_rg i_24 0 99) (h8 : mm_rg i_25 0 9) (h9 : mm_rg i_26 0 3) (h10 : mm_rg i_27 0 6) (h11 : mm_rg i_28 0 30) (h12 : mm_rg i_29 0 10) (h13 : mm_rg i_30 0 99) (h14 : mm_rg i_31 0 9) (h15 : mm_rg i_32 0 3) (h16 : mm_rg i_33 0 6) (h17 : mm_rg i_34 0 30) (h18 : mm_rg i_35 0 10) (h19 : mm_rg i_36 0 99) (h20 : mm_rg i_37 0 9) (h21 : mm_rg i_38 0 3) (h22 : mm_rg i_39 0 6) (h23 : mm_rg i_40 0 30) (h24 : mm_rg i_41 0 10) (h25 : mm_rg i_42 0 99) (h26 : mm_rg i_43 0 9) (h27 : mm_rg i_44 0 3) (h28 : mm_rg i_45 0 6) (h29 : mm_rg i_46 0 30)  : mm_CI l yX12_hasRead (mm_ws yX12_hasRead cX12_hasRead 2 (some .int)) ({ frames := 0, cells := 0, slots := 0, locals := 0 } : Room) G cy sz [(a_0, .inr (12, [.int i_0, .ref a_1, .ref a_2, .ref a_3, .ref a_4, .ref a_5, .int i_1, .int i_2, .int i_3, .int i_4, .int i_5, .long j_0, .int i_6, .int i_7, .int i_8, .int i_9, .ref a_6, .ref a_7, .ref a_8, .ref a_9, .ref a_10, .ref a_11, .ref a_12, .ref a_13, .ref a_14, .ref a_15, .ref a_16, .ref a_17, .ref a_18, .int i_10, .int i_11, .int i_12, .int i_13, .int i_14, .int i_15, .ref a_19, .int i_16, .ref a_20])), (a_7, .inl (cy 1, 30, .inl (mm_g [i_17, i_18, i_19, i_20, i_21, i_22, i_23, i_24, i_25, i_26, i_27, i_28, i_29, i_30, i_31, i_32, i_33, i_34, i_35, i_36, i_37, i_38, i_39, i_40, i_41, i_42, i_43, i_44, i_45, i_46])))] [.ref a_0, .int 4] (fun u : Unit => [(a_0, .inr (12, [.int i_0, .ref a_1, .ref a_2, .ref a_3, .ref a_4, .ref a_5, .int i_1, .int i_2, .int i_3, .int i_4, .int i_5, .long j_0, .int i_6, .int i_7, .int i_8, .int i_9, .ref a_6, .ref a_7, .ref a_8, .ref a_9, .ref a_10, .ref a_11, .ref a_12, .ref a_13, .ref a_14, .ref a_15, .ref a_16, .ref a_17, .ref a_18, .int i_10, .int i_11, .int i_12, .int i_13, .int i_14, .int i_15, .ref a_19, .int i_16, .ref a_20])), (a_7, .inl (cy 1, 30, .inl (mm_g [i_17, i_18, i_19, i_20, i_21, i_22, i_23, i_24, i_25, i_26, i_27, i_28, i_29, i_30, i_31, i_32, i_33, i_34, i_35, i_36, i_37, i_38, i_39, i_40, i_41, i_42, i_43, i_44, i_45, i_46])))]) (fun (r : Int32) (u : Unit) => i_45 = r) 0 0 := by
  refine mm_begin (lv := [(0, .ref a_0), (1, .int 4)]) (by decide) (Nat.le_of_ble_eq_true rfl) rfl ?_
  intro p e s m below meth c A ls R args Q H locs hRe hQ hAe hx hb hr hlocks hml hown hnm hts hsz hA hS hP hK hD hZ hl
  have hRf : R.frames = 0 := by rw [hRe]
  have hRl : R.locals = 0 := by rw [hRe]
  have hRc : R.cells = 0 := by rw [hRe]
  have hRs : R.slots = 0 := by rw [hRe]
  refine lv_aload_n hx hb dX12_hasRead_0 rfl (lv_at hl 0 rfl) ?_
  refine va_get (D := G) (ci := 12) (v := .ref a_7) (C := RX12) (T := TX12) (N := 38) hx hb hts (mm_i inlX12) hown hK.1 hP 0 rfl rfl 17 (by decide) (mm_h hts mm_w149) (fun _ h9 => h9) rfl dX12_hasRead_1 ?_
  refine lv_bipush (v := 24) hx hb dX12_hasRead_4 (by decide) ?_
  refine lv_iload_n hx hb dX12_hasRead_6 rfl (lv_at hl 1 rfl) ?_
  refine lv_iadd hx hb dX12_hasRead_7 ?_
  refine lv_topi (fun v1 ev1 => ?_)
  obtain rfl : v1 = 28 := ev1.trans (by decide)
  refine va_iald hx hb hK.1 hP 1 1 rfl rfl (mm_in mm_k28 (by decide)) dX12_hasRead_8 ?_
  rw [show (mm_g [i_17, i_18, i_19, i_20, i_21, i_22, i_23, i_24, i_25, i_26, i_27, i_28, i_29, i_30, i_31, i_32, i_33, i_34, i_35, i_36, i_37, i_38, i_39, i_40, i_41, i_42, i_43, i_44, i_45, i_46]) (28 : Int32).toNatClampNeg = i_45 from mm_ge 28 (by decide) rfl]
  subst hAe
  rw [hQ]
  exact W.iret (v := i_45) hx hb hr (fun t ht hW => ⟨⟨i_45, (), rfl, rfl, by rw [ht]; exact hP, hK.warm hW, hD⟩, hS.F ht⟩) hS.2.2 dX12_hasRead_9

set_option maxHeartbeats 4000000 in
set_option maxRecDepth 100000 in
theorem M44_X12_isRoom (l : Launch) (G : va_G) (cy : Nat → ClassId) (sz : Nat) (a_0 : Nat) (i_0 : Int32) (h0 : mm_rg i_0 0 6)  : mm_CI l yX12_isRoom (mm_ws yX12_isRoom cX12_isRoom 4 (some .boolean)) ({ frames := 0, cells := 0, slots := 0, locals := 0 } : Room) G cy sz [] [.ref a_0, .int 0, .int i_0, .int 6] (fun u : Unit => []) (fun (r : Int32) (u : Unit) => 0 = r) 0 0 := by
  refine mm_begin (lv := [(0, .ref a_0), (1, .int 0), (2, .int i_0), (3, .int 6)]) (by decide) (Nat.le_of_ble_eq_true rfl) rfl ?_
  intro p e s m below meth c A ls R args Q H locs hRe hQ hAe hx hb hr hlocks hml hown hnm hts hsz hA hS hP hK hD hZ hl
  have hRf : R.frames = 0 := by rw [hRe]
  have hRl : R.locals = 0 := by rw [hRe]
  have hRc : R.cells = 0 := by rw [hRe]
  have hRs : R.slots = 0 := by rw [hRe]
  refine lv_iload_n hx hb dX12_isRoom_0 rfl (lv_at hl 1 rfl) ?_
  refine lv_if_eq (tgt := 14) hx hb dX12_isRoom_1 (by decide) (fun c1 => ?_) (fun c1 => ?_)
  · refine lv_iload_n hx hb dX12_isRoom_14 rfl (lv_at hl 1 rfl) ?_
    refine lv_if_eq (tgt := 29) hx hb dX12_isRoom_15 (by decide) (fun c2 => ?_) (fun c2 => ?_)
    · refine lv_iload_n hx hb dX12_isRoom_29 rfl (lv_at hl 1 rfl) ?_
      refine lv_if_eq (tgt := 44) hx hb dX12_isRoom_30 (by decide) (fun c3 => ?_) (fun c3 => ?_)
      · refine lv_iconst (v := 0) hx hb dX12_isRoom_44 (by decide) ?_
        subst hAe
        rw [hQ]
        exact W.zret (v := 0) hx hb hr rfl (fun t ht hW => ⟨⟨0, (), rfl, rfl, by rw [ht]; exact hP, hK.warm hW, hD⟩, hS.F ht⟩) hS.2.2 dX12_isRoom_45
      · have q4 := mm_neL (lo := 1) (mm_ne c3) mm_k0 mm_k0 (by decide) (by decide)
        exact mm_no q4 (by decide)
    · have q5 := mm_neL (lo := 1) (mm_ne c2) mm_k0 mm_k0 (by decide) (by decide)
      exact mm_no q5 (by decide)
  · have q6 := mm_neL (lo := 1) (mm_ne c1) mm_k0 mm_k0 (by decide) (by decide)
    exact mm_no q6 (by decide)

set_option maxHeartbeats 4000000 in
set_option maxRecDepth 100000 in
theorem M45_X12_fails (l : Launch) (G : va_G) (cy : Nat → ClassId) (sz : Nat) (a_0 : Nat) (i_0 : Int32) (a_1 : Nat) (a_2 : Nat) (a_3 : Nat) (a_4 : Nat) (a_5 : Nat) (i_1 : Int32) (i_2 : Int32) (i_3 : Int32) (i_4 : Int32) (i_5 : Int32) (j_0 : Int64) (i_6 : Int32) (i_7 : Int32) (i_8 : Int32) (i_9 : Int32) (a_6 : Nat) (a_7 : Nat) (a_8 : Nat) (a_9 : Nat) (a_10 : Nat) (a_11 : Nat) (a_12 : Nat) (a_13 : Nat) (a_14 : Nat) (a_15 : Nat) (a_16 : Nat) (a_17 : Nat) (a_18 : Nat) (i_10 : Int32) (i_11 : Int32) (i_12 : Int32) (i_13 : Int32) (i_14 : Int32) (i_15 : Int32) (a_19 : Nat) (i_16 : Int32) (a_20 : Nat) (h0 : mm_rg i_4 0 600) (h1 : mm_rg i_6 0 3)  : mm_CV l yX12_fails (mm_ws yX12_fails cX12_fails 2 (none)) ({ frames := 0, cells := 0, slots := 0, locals := 0 } : Room) G cy sz [(a_0, .inr (12, [.int i_0, .ref a_1, .ref a_2, .ref a_3, .ref a_4, .ref a_5, .int i_1, .int i_2, .int i_3, .int i_4, .int i_5, .long j_0, .int i_6, .int i_7, .int i_8, .int i_9, .ref a_6, .ref a_7, .ref a_8, .ref a_9, .ref a_10, .ref a_11, .ref a_12, .ref a_13, .ref a_14, .ref a_15, .ref a_16, .ref a_17, .ref a_18, .int i_10, .int i_11, .int i_12, .int i_13, .int i_14, .int i_15, .ref a_19, .int i_16, .ref a_20]))] [.ref a_0, .int 3] (fun u : Int32 × Int32 => [(a_0, .inr (12, [.int i_0, .ref a_1, .ref a_2, .ref a_3, .ref a_4, .ref a_5, .int i_1, .int i_2, .int i_3, .int i_4, .int i_5, .long j_0, .int u.1, .int u.2, .int i_8, .int i_9, .ref a_6, .ref a_7, .ref a_8, .ref a_9, .ref a_10, .ref a_11, .ref a_12, .ref a_13, .ref a_14, .ref a_15, .ref a_16, .ref a_17, .ref a_18, .int i_10, .int i_11, .int i_12, .int i_13, .int i_14, .int i_15, .ref a_19, .int i_16, .ref a_20]))]) (fun u : Int32 × Int32 => mm_rg u.1 1 3) 0 0 := by
  refine mm_begin (lv := [(0, .ref a_0), (1, .int 3)]) (by decide) (Nat.le_of_ble_eq_true rfl) rfl ?_
  intro p e s m below meth c A ls R args Q H locs hRe hQ hAe hx hb hr hlocks hml hown hnm hts hsz hA hS hP hK hD hZ hl
  have hRf : R.frames = 0 := by rw [hRe]
  have hRl : R.locals = 0 := by rw [hRe]
  have hRc : R.cells = 0 := by rw [hRe]
  have hRs : R.slots = 0 := by rw [hRe]
  refine lv_aload_n hx hb dX12_fails_0 rfl (lv_at hl 0 rfl) ?_
  refine va_get (D := G) (ci := 12) (v := .int i_6) (C := RX12) (T := TX12) (N := 38) hx hb hts (mm_i inlX12) hown hK.1 hP 0 rfl rfl 12 (by decide) (mm_h hts mm_w436) (fun _ h9 => h9) rfl dX12_fails_1 ?_
  refine lv_if_eq (tgt := 8) hx hb dX12_fails_4 (by decide) (fun c1 => ?_) (fun c1 => ?_)
  · have q2 := mm_eqI (lo := 0) (hi := 0) c1 h1 mm_k0 (by decide)
    refine lv_aload_n hx hb dX12_fails_8 rfl (lv_at hl 0 rfl) ?_
    refine lv_iload_n hx hb dX12_fails_9 rfl (lv_at hl 1 rfl) ?_
    refine va_put (D := G) (ci := 12) (v := .int 3) (ty := tyX12 12) (C := RX12) (T := TX12) (N := 38) hx hb hts (mm_i inlX12) tyX12 tyX12_ok nmX12 hown hK.1 hP hD hS 0 rfl rfl 12 (by decide) (mm_h hts mm_w436) (fun _ h9 => h9) rfl (tyX12_ok 12 (by decide)) rfl rfl (Nat.le_of_ble_eq_true rfl) dX12_fails_10 ?_
    clear hP hD hS
    clear H locs
    intro H locs (hP : va_P G vwCl [(a_0, .inr (12, [.int i_0, .ref a_1, .ref a_2, .ref a_3, .ref a_4, .ref a_5, .int i_1, .int i_2, .int i_3, .int i_4, .int i_5, .long j_0, .int 3, .int i_7, .int i_8, .int i_9, .ref a_6, .ref a_7, .ref a_8, .ref a_9, .ref a_10, .ref a_11, .ref a_12, .ref a_13, .ref a_14, .ref a_15, .ref a_16, .ref a_17, .ref a_18, .int i_10, .int i_11, .int i_12, .int i_13, .int i_14, .int i_15, .ref a_19, .int i_16, .ref a_20]))] H) (hD : va_D A [(a_0, .inr (12, [.int i_0, .ref a_1, .ref a_2, .ref a_3, .ref a_4, .ref a_5, .int i_1, .int i_2, .int i_3, .int i_4, .int i_5, .long j_0, .int 3, .int i_7, .int i_8, .int i_9, .ref a_6, .ref a_7, .ref a_8, .ref a_9, .ref a_10, .ref a_11, .ref a_12, .ref a_13, .ref a_14, .ref a_15, .ref a_16, .ref a_17, .ref a_18, .int i_10, .int i_11, .int i_12, .int i_13, .int i_14, .int i_15, .ref a_19, .int i_16, .ref a_20]))]) hS
    refine lv_aload_n hx hb dX12_fails_13 rfl (lv_at hl 0 rfl) ?_
    refine lv_aload_n hx hb dX12_fails_14 rfl (lv_at hl 0 rfl) ?_
    refine va_get (D := G) (ci := 12) (v := .int i_4) (C := RX12) (T := TX12) (N := 38) hx hb hts (mm_i inlX12) hown hK.1 hP 0 rfl rfl 9 (by decide) (mm_h hts mm_w455) (fun _ h9 => h9) rfl dX12_fails_15 ?_
    refine va_put (D := G) (ci := 12) (v := .int i_4) (ty := tyX12 13) (C := RX12) (T := TX12) (N := 38) hx hb hts (mm_i inlX12) tyX12 tyX12_ok nmX12 hown hK.1 hP hD hS 0 rfl rfl 13 (by decide) (mm_h hts mm_w449) (fun _ h9 => h9) rfl (tyX12_ok 13 (by decide)) rfl rfl (Nat.le_of_ble_eq_true rfl) dX12_fails_18 ?_
    clear hP hD hS
    clear H locs
    intro H locs (hP : va_P G vwCl [(a_0, .inr (12, [.int i_0, .ref a_1, .ref a_2, .ref a_3, .ref a_4, .ref a_5, .int i_1, .int i_2, .int i_3, .int i_4, .int i_5, .long j_0, .int 3, .int i_4, .int i_8, .int i_9, .ref a_6, .ref a_7, .ref a_8, .ref a_9, .ref a_10, .ref a_11, .ref a_12, .ref a_13, .ref a_14, .ref a_15, .ref a_16, .ref a_17, .ref a_18, .int i_10, .int i_11, .int i_12, .int i_13, .int i_14, .int i_15, .ref a_19, .int i_16, .ref a_20]))] H) (hD : va_D A [(a_0, .inr (12, [.int i_0, .ref a_1, .ref a_2, .ref a_3, .ref a_4, .ref a_5, .int i_1, .int i_2, .int i_3, .int i_4, .int i_5, .long j_0, .int 3, .int i_4, .int i_8, .int i_9, .ref a_6, .ref a_7, .ref a_8, .ref a_9, .ref a_10, .ref a_11, .ref a_12, .ref a_13, .ref a_14, .ref a_15, .ref a_16, .ref a_17, .ref a_18, .int i_10, .int i_11, .int i_12, .int i_13, .int i_14, .int i_15, .ref a_19, .int i_16, .ref a_20]))]) hS
    subst hAe
    rw [hQ]
    exact W.vret hx hb hr (fun t ht hW => ⟨⟨(3, i_4), rfl, (mm_wk mm_k3 (by decide)), by rw [ht]; exact hP, hK.warm hW, hD⟩, hS.F ht⟩) hS.2.2 dX12_fails_21
  · have q3 := mm_neL (lo := 1) (mm_ne c1) h1 mm_k0 (by decide) (by decide)
    subst hAe
    rw [hQ]
    exact W.vret hx hb hr (fun t ht hW => ⟨⟨(i_6, i_7), rfl, q3, by rw [ht]; exact hP, hK.warm hW, hD⟩, hS.F ht⟩) hS.2.2 dX12_fails_7

set_option maxHeartbeats 4000000 in
set_option maxRecDepth 100000 in
theorem M46_X12_isRoom (l : Launch) (G : va_G) (cy : Nat → ClassId) (sz : Nat) (a_0 : Nat) (i_0 : Int32) (i_1 : Int32) (a_1 : Nat) (a_2 : Nat) (a_3 : Nat) (a_4 : Nat) (a_5 : Nat) (i_2 : Int32) (i_3 : Int32) (i_4 : Int32) (i_5 : Int32) (i_6 : Int32) (j_0 : Int64) (i_7 : Int32) (i_8 : Int32) (i_9 : Int32) (i_10 : Int32) (a_6 : Nat) (a_7 : Nat) (a_8 : Nat) (a_9 : Nat) (a_10 : Nat) (a_11 : Nat) (a_12 : Nat) (a_13 : Nat) (a_14 : Nat) (a_15 : Nat) (a_16 : Nat) (a_17 : Nat) (a_18 : Nat) (i_11 : Int32) (i_12 : Int32) (i_13 : Int32) (i_14 : Int32) (i_15 : Int32) (i_16 : Int32) (a_19 : Nat) (i_17 : Int32) (a_20 : Nat) (f_0 : Nat → Int32) (h0 : mm_rg i_0 0 6) (h1 : mm_rg i_2 0 600) (h2 : mm_rg i_3 0 600) (h3 : mm_rg i_4 0 4) (h4 : mm_rg i_5 0 600) (h5 : mm_rg i_7 0 3) (h6 : mm_ar f_0 (-128) 127) (h7 : (i_5 : Int32).toInt ≤ (i_3 : Int32).toInt) (h8 : (i_3 : Int32).toInt ≤ (i_2 : Int32).toInt) (h9 : mm_tk i_4 i_5 i_3)  : mm_CI l yX12_isRoom (mm_ws yX12_isRoom cX12_isRoom 4 (some .boolean)) ({ frames := 2, cells := 0, slots := 0, locals := 44 } : Room) G cy sz [(a_0, .inr (12, [.int i_1, .ref a_1, .ref a_2, .ref a_3, .ref a_4, .ref a_5, .int i_2, .int i_3, .int i_4, .int i_5, .int i_6, .long j_0, .int i_7, .int i_8, .int i_9, .int i_10, .ref a_6, .ref a_7, .ref a_8, .ref a_9, .ref a_10, .ref a_11, .ref a_12, .ref a_13, .ref a_14, .ref a_15, .ref a_16, .ref a_17, .ref a_18, .int i_11, .int i_12, .int i_13, .int i_14, .int i_15, .int i_16, .ref a_19, .int i_17, .ref a_20])), (a_5, .inl (cy 0, 600, .inl f_0))] [.ref a_0, .int 1, .int i_0, .int 6] (fun u : Int32 × Int32 × Int32 × Int32 × Int64 × Int32 × Int32 => [(a_0, .inr (12, [.int i_1, .ref a_1, .ref a_2, .ref a_3, .ref a_4, .ref a_5, .int i_2, .int u.1, .int u.2.1, .int u.2.2.1, .int u.2.2.2.1, .long u.2.2.2.2.1, .int u.2.2.2.2.2.1, .int u.2.2.2.2.2.2, .int i_9, .int i_10, .ref a_6, .ref a_7, .ref a_8, .ref a_9, .ref a_10, .ref a_11, .ref a_12, .ref a_13, .ref a_14, .ref a_15, .ref a_16, .ref a_17, .ref a_18, .int i_11, .int i_12, .int i_13, .int i_14, .int i_15, .int i_16, .ref a_19, .int i_17, .ref a_20])), (a_5, .inl (cy 0, 600, .inl f_0))]) (fun (r : Int32) (u : Int32 × Int32 × Int32 × Int32 × Int64 × Int32 × Int32) => mm_rg u.1 0 600 ∧ mm_rg u.2.1 0 4 ∧ mm_rg u.2.2.1 0 600 ∧ mm_rg u.2.2.2.2.2.1 0 3 ∧ (u.2.2.1 : Int32).toInt ≤ (u.1 : Int32).toInt ∧ (u.1 : Int32).toInt ≤ (i_2 : Int32).toInt ∧ mm_tk u.2.1 u.2.2.1 u.1 ∧ (i_5 : Int32).toInt ≤ (u.2.2.1 : Int32).toInt ∧ ((0 = r ∧ mm_rg i_0 0 6) ∨ (1 = r ∧ mm_rg i_0 0 5))) 0 0 := by
  refine mm_begin (lv := [(0, .ref a_0), (1, .int 1), (2, .int i_0), (3, .int 6)]) (by decide) (Nat.le_of_ble_eq_true rfl) rfl ?_
  intro p e s m below meth c A ls R args Q H locs hRe hQ hAe hx hb hr hlocks hml hown hnm hts hsz hA hS hP hK hD hZ hl
  have hRf : R.frames = 2 := by rw [hRe]
  have hRl : R.locals = 44 := by rw [hRe]
  have hRc : R.cells = 0 := by rw [hRe]
  have hRs : R.slots = 0 := by rw [hRe]
  refine lv_iload_n hx hb dX12_isRoom_0 rfl (lv_at hl 1 rfl) ?_
  refine lv_if_eq (tgt := 14) hx hb dX12_isRoom_1 (by decide) (fun c1 => ?_) (fun c1 => ?_)
  · exact mm_eqN c1.symm mm_k0 mm_k1 (by decide)
  · refine lv_iload_n hx hb dX12_isRoom_4 rfl (lv_at hl 2 rfl) ?_
    refine lv_iload_n hx hb dX12_isRoom_5 rfl (lv_at hl 3 rfl) ?_
    refine lv_icmp_ne (tgt := 14) hx hb dX12_isRoom_6 (by decide) (fun c2 => ?_) (fun c2 => ?_)
    · have q3 := mm_neH (hi := 5) (mm_ne c2) h0 mm_k6 (by decide) (by decide)
      refine lv_iload_n hx hb dX12_isRoom_14 rfl (lv_at hl 1 rfl) ?_
      refine lv_if_eq (tgt := 29) hx hb dX12_isRoom_15 (by decide) (fun c4 => ?_) (fun c4 => ?_)
      · exact mm_eqN c4.symm mm_k0 mm_k1 (by decide)
      · refine lv_aload_n hx hb dX12_isRoom_18 rfl (lv_at hl 0 rfl) ?_
        refine va_get (D := G) (ci := 12) (v := .int i_7) (C := RX12) (T := TX12) (N := 38) hx hb hts (mm_i inlX12) hown hK.1 hP 0 rfl rfl 12 (by decide) (mm_h hts mm_w436) (fun _ h9 => h9) rfl dX12_isRoom_19 ?_
        refine lv_if_ne (tgt := 29) hx hb dX12_isRoom_22 (by decide) (fun c5 => ?_) (fun c5 => ?_)
        · have q6 := mm_neL (lo := 1) (mm_ne c5) h5 mm_k0 (by decide) (by decide)
          refine lv_iload_n hx hb dX12_isRoom_29 rfl (lv_at hl 1 rfl) ?_
          refine lv_if_eq (tgt := 44) hx hb dX12_isRoom_30 (by decide) (fun c7 => ?_) (fun c7 => ?_)
          · exact mm_eqN c7.symm mm_k0 mm_k1 (by decide)
          · refine lv_aload_n hx hb dX12_isRoom_33 rfl (lv_at hl 0 rfl) ?_
            refine va_get (D := G) (ci := 12) (v := .int i_7) (C := RX12) (T := TX12) (N := 38) hx hb hts (mm_i inlX12) hown hK.1 hP 0 rfl rfl 12 (by decide) (mm_h hts mm_w436) (fun _ h9 => h9) rfl dX12_isRoom_34 ?_
            refine lv_if_ne (tgt := 44) hx hb dX12_isRoom_37 (by decide) (fun c8 => ?_) (fun c8 => ?_)
            · refine lv_iconst (v := 0) hx hb dX12_isRoom_44 (by decide) ?_
              have w9 : (i_5 : Int32).toInt ≤ (i_5 : Int32).toInt := (Int.le_refl _)
              subst hAe
              rw [hQ]
              exact W.zret (v := 0) hx hb hr rfl (fun t ht hW => ⟨⟨0, (i_3, i_4, i_5, i_6, j_0, i_7, i_8), rfl, ⟨h2, h3, h4, (mm_wk q6 (by decide)), h7, h8, h9, w9, (Or.inl ⟨rfl, (mm_wk q3 (by decide))⟩)⟩, by rw [ht]; exact hP, hK.warm hW, hD⟩, hS.F ht⟩) hS.2.2 dX12_isRoom_45
            · exact mm_eqN c8.symm mm_k0 q6 (by decide)
        · have q10 := mm_eqI (lo := 0) (hi := 0) c5 h5 mm_k0 (by decide)
          refine lv_aload_n hx hb dX12_isRoom_25 rfl (lv_at hl 0 rfl) ?_
          refine mm_finv (va_runV (As := []) (rest := []) ⟨hx, hb, hml, hown, hts⟩ (M22_X12_next l G cy H.size a_0 i_1 a_1 a_2 a_3 a_4 a_5 i_2 i_3 i_4 i_5 i_6 j_0 i_7 i_8 i_9 i_10 a_6 a_7 a_8 a_9 a_10 a_11 a_12 a_13 a_14 a_15 a_16 a_17 a_18 i_11 i_12 i_13 i_14 i_15 i_16 a_19 i_17 a_20 f_0 h1 h2 h3 h4 h6 h8) (cwV 0 hts (mm_gV mm_w451 mm_w452 mm_w453 mm_w5 mm_w454) rfl rfl rfl hd_X12_next ⟨by rw [hRf]; exact Nat.le_of_ble_eq_true rfl, by rw [hRl]; exact Nat.le_of_ble_eq_true rfl⟩) (mm_preV hK hZ hS hA hP hD [0, 1] rfl rfl 0 rfl rfl rfl) rfl rfl hl.1 rfl (lv_room (Nat.le_of_ble_eq_true rfl)) dX12_isRoom_26 ⟨by rw [hRc]; exact Nat.le_of_ble_eq_true rfl, by rw [hRs]; exact Nat.le_of_ble_eq_true rfl⟩) hP hD hS hA (fun u : Int32 × Int32 × Int32 × Int32 × Int64 => [(a_0, .inr (12, [.int i_1, .ref a_1, .ref a_2, .ref a_3, .ref a_4, .ref a_5, .int i_2, .int u.1, .int u.2.1, .int u.2.2.1, .int u.2.2.2.1, .long u.2.2.2.2, .int i_7, .int i_8, .int i_9, .int i_10, .ref a_6, .ref a_7, .ref a_8, .ref a_9, .ref a_10, .ref a_11, .ref a_12, .ref a_13, .ref a_14, .ref a_15, .ref a_16, .ref a_17, .ref a_18, .int i_11, .int i_12, .int i_13, .int i_14, .int i_15, .int i_16, .ref a_19, .int i_17, .ref a_20])), (a_5, .inl (cy 0, 600, .inl f_0))]) [0, 1] [] (n := 2) (fun _ => rfl) (by decide +kernel) (by decide +kernel) rfl (fun _ => rfl) (wr := []) rfl (fun _ => rfl) (fun _ => rfl) ?_
          clear hP hD hS
          clear H locs
          intro u
          obtain ⟨n11, n12, n13, n14, n15⟩ := u
          intro H locs hw (hP : va_P G vwCl [(a_0, .inr (12, [.int i_1, .ref a_1, .ref a_2, .ref a_3, .ref a_4, .ref a_5, .int i_2, .int n11, .int n12, .int n13, .int n14, .long n15, .int i_7, .int i_8, .int i_9, .int i_10, .ref a_6, .ref a_7, .ref a_8, .ref a_9, .ref a_10, .ref a_11, .ref a_12, .ref a_13, .ref a_14, .ref a_15, .ref a_16, .ref a_17, .ref a_18, .int i_11, .int i_12, .int i_13, .int i_14, .int i_15, .int i_16, .ref a_19, .int i_17, .ref a_20])), (a_5, .inl (cy 0, 600, .inl f_0))] H) (hD : va_D A [(a_0, .inr (12, [.int i_1, .ref a_1, .ref a_2, .ref a_3, .ref a_4, .ref a_5, .int i_2, .int n11, .int n12, .int n13, .int n14, .long n15, .int i_7, .int i_8, .int i_9, .int i_10, .ref a_6, .ref a_7, .ref a_8, .ref a_9, .ref a_10, .ref a_11, .ref a_12, .ref a_13, .ref a_14, .ref a_15, .ref a_16, .ref a_17, .ref a_18, .int i_11, .int i_12, .int i_13, .int i_14, .int i_15, .int i_16, .ref a_19, .int i_17, .ref a_20])), (a_5, .inl (cy 0, 600, .inl f_0))]) hS
          obtain ⟨w16, w17, w18, w19, w20, w21, w22⟩ := hw
          replace w19 : (n13 : Int32).toInt ≤ (n11 : Int32).toInt := w19
          replace w20 : (n11 : Int32).toInt ≤ (i_2 : Int32).toInt := w20
          replace w21 : mm_tk n12 n13 n11 := w21
          replace w22 : (i_3 : Int32).toInt ≤ (n13 : Int32).toInt := w22
          refine lv_iload_n hx hb dX12_isRoom_29 rfl (lv_at hl 1 rfl) ?_
          refine lv_if_eq (tgt := 44) hx hb dX12_isRoom_30 (by decide) (fun c23 => ?_) (fun c23 => ?_)
          · exact mm_eqN c23.symm mm_k0 mm_k1 (by decide)
          · refine lv_aload_n hx hb dX12_isRoom_33 rfl (lv_at hl 0 rfl) ?_
            refine va_get (D := G) (ci := 12) (v := .int i_7) (C := RX12) (T := TX12) (N := 38) hx hb hts (mm_i inlX12) hown hK.1 hP 0 rfl rfl 12 (by decide) (mm_h hts mm_w436) (fun _ h9 => h9) rfl dX12_isRoom_34 ?_
            refine lv_if_ne (tgt := 44) hx hb dX12_isRoom_37 (by decide) (fun c24 => ?_) (fun c24 => ?_)
            · have q25 := mm_neL (lo := 1) (mm_ne c24) q10 mm_k0 (by decide) (by decide)
              exact mm_no q25 (by decide)
            · refine lv_iconst (v := 1) hx hb dX12_isRoom_40 (by decide) ?_
              refine lv_goto (tgt := 45) hx hb dX12_isRoom_41 (by decide) ?_
              have w26 : (i_5 : Int32).toInt ≤ (n13 : Int32).toInt := (by have := h7; have := w22; omega)
              subst hAe
              rw [hQ]
              exact W.zret (v := 1) hx hb hr rfl (fun t ht hW => ⟨⟨1, (n11, n12, n13, n14, n15, i_7, i_8), rfl, ⟨w16, w17, w18, (mm_wk q10 (by decide)), w19, w20, w21, w26, (Or.inr ⟨rfl, q3⟩)⟩, by rw [ht]; exact hP, hK.warm hW, hD⟩, hS.F ht⟩) hS.2.2 dX12_isRoom_45
    · have q27 := mm_eqI (lo := 6) (hi := 6) c2 h0 mm_k6 (by decide)
      refine lv_aload_n hx hb dX12_isRoom_9 rfl (lv_at hl 0 rfl) ?_
      refine lv_iconst (v := 3) hx hb dX12_isRoom_10 (by decide) ?_
      refine mm_finv (va_runV (As := [.int 3]) (rest := []) ⟨hx, hb, hml, hown, hts⟩ (M45_X12_fails l G cy H.size a_0 i_1 a_1 a_2 a_3 a_4 a_5 i_2 i_3 i_4 i_5 i_6 j_0 i_7 i_8 i_9 i_10 a_6 a_7 a_8 a_9 a_10 a_11 a_12 a_13 a_14 a_15 a_16 a_17 a_18 i_11 i_12 i_13 i_14 i_15 i_16 a_19 i_17 a_20 h4 h5) (cwV 1 hts (mm_gV mm_w483 mm_w484 mm_w485 mm_w5 mm_w486) rfl rfl rfl hd_X12_fails ⟨by rw [hRf]; exact Nat.le_of_ble_eq_true rfl, by rw [hRl]; exact Nat.le_of_ble_eq_true rfl⟩) (mm_preV hK hZ hS hA hP hD [0] rfl rfl 0 rfl rfl rfl) rfl rfl hl.1 rfl (lv_room (Nat.le_of_ble_eq_true rfl)) dX12_isRoom_11 ⟨by rw [hRc]; exact Nat.le_of_ble_eq_true rfl, by rw [hRs]; exact Nat.le_of_ble_eq_true rfl⟩) hP hD hS hA (fun u : Int32 × Int32 => [(a_0, .inr (12, [.int i_1, .ref a_1, .ref a_2, .ref a_3, .ref a_4, .ref a_5, .int i_2, .int i_3, .int i_4, .int i_5, .int i_6, .long j_0, .int u.1, .int u.2, .int i_9, .int i_10, .ref a_6, .ref a_7, .ref a_8, .ref a_9, .ref a_10, .ref a_11, .ref a_12, .ref a_13, .ref a_14, .ref a_15, .ref a_16, .ref a_17, .ref a_18, .int i_11, .int i_12, .int i_13, .int i_14, .int i_15, .int i_16, .ref a_19, .int i_17, .ref a_20])), (a_5, .inl (cy 0, 600, .inl f_0))]) [0] [1] (n := 2) (fun _ => rfl) (by decide +kernel) (by decide +kernel) rfl (fun _ => rfl) (wr := [(a_5, .inl (cy 0, 600, .inl f_0))]) rfl (fun _ => rfl) (fun _ => rfl) ?_
      clear hP hD hS
      clear H locs
      intro u
      obtain ⟨n28, n29⟩ := u
      intro H locs hw (hP : va_P G vwCl [(a_0, .inr (12, [.int i_1, .ref a_1, .ref a_2, .ref a_3, .ref a_4, .ref a_5, .int i_2, .int i_3, .int i_4, .int i_5, .int i_6, .long j_0, .int n28, .int n29, .int i_9, .int i_10, .ref a_6, .ref a_7, .ref a_8, .ref a_9, .ref a_10, .ref a_11, .ref a_12, .ref a_13, .ref a_14, .ref a_15, .ref a_16, .ref a_17, .ref a_18, .int i_11, .int i_12, .int i_13, .int i_14, .int i_15, .int i_16, .ref a_19, .int i_17, .ref a_20])), (a_5, .inl (cy 0, 600, .inl f_0))] H) (hD : va_D A [(a_0, .inr (12, [.int i_1, .ref a_1, .ref a_2, .ref a_3, .ref a_4, .ref a_5, .int i_2, .int i_3, .int i_4, .int i_5, .int i_6, .long j_0, .int n28, .int n29, .int i_9, .int i_10, .ref a_6, .ref a_7, .ref a_8, .ref a_9, .ref a_10, .ref a_11, .ref a_12, .ref a_13, .ref a_14, .ref a_15, .ref a_16, .ref a_17, .ref a_18, .int i_11, .int i_12, .int i_13, .int i_14, .int i_15, .int i_16, .ref a_19, .int i_17, .ref a_20])), (a_5, .inl (cy 0, 600, .inl f_0))]) hS
      have w30 := hw
      refine lv_iload_n hx hb dX12_isRoom_14 rfl (lv_at hl 1 rfl) ?_
      refine lv_if_eq (tgt := 29) hx hb dX12_isRoom_15 (by decide) (fun c31 => ?_) (fun c31 => ?_)
      · exact mm_eqN c31.symm mm_k0 mm_k1 (by decide)
      · refine lv_aload_n hx hb dX12_isRoom_18 rfl (lv_at hl 0 rfl) ?_
        refine va_get (D := G) (ci := 12) (v := .int n28) (C := RX12) (T := TX12) (N := 38) hx hb hts (mm_i inlX12) hown hK.1 hP 0 rfl rfl 12 (by decide) (mm_h hts mm_w436) (fun _ h9 => h9) rfl dX12_isRoom_19 ?_
        refine lv_if_ne (tgt := 29) hx hb dX12_isRoom_22 (by decide) (fun c32 => ?_) (fun c32 => ?_)
        · refine lv_iload_n hx hb dX12_isRoom_29 rfl (lv_at hl 1 rfl) ?_
          refine lv_if_eq (tgt := 44) hx hb dX12_isRoom_30 (by decide) (fun c33 => ?_) (fun c33 => ?_)
          · exact mm_eqN c33.symm mm_k0 mm_k1 (by decide)
          · refine lv_aload_n hx hb dX12_isRoom_33 rfl (lv_at hl 0 rfl) ?_
            refine va_get (D := G) (ci := 12) (v := .int n28) (C := RX12) (T := TX12) (N := 38) hx hb hts (mm_i inlX12) hown hK.1 hP 0 rfl rfl 12 (by decide) (mm_h hts mm_w436) (fun _ h9 => h9) rfl dX12_isRoom_34 ?_
            refine lv_if_ne (tgt := 44) hx hb dX12_isRoom_37 (by decide) (fun c34 => ?_) (fun c34 => ?_)
            · refine lv_iconst (v := 0) hx hb dX12_isRoom_44 (by decide) ?_
              have w35 : (i_5 : Int32).toInt ≤ (i_5 : Int32).toInt := (Int.le_refl _)
              subst hAe
              rw [hQ]
              exact W.zret (v := 0) hx hb hr rfl (fun t ht hW => ⟨⟨0, (i_3, i_4, i_5, i_6, j_0, n28, n29), rfl, ⟨h2, h3, h4, (mm_wk w30 (by decide)), h7, h8, h9, w35, (Or.inl ⟨rfl, (mm_wk q27 (by decide))⟩)⟩, by rw [ht]; exact hP, hK.warm hW, hD⟩, hS.F ht⟩) hS.2.2 dX12_isRoom_45
            · exact mm_eqN c34.symm mm_k0 w30 (by decide)
        · exact mm_eqN c32.symm mm_k0 w30 (by decide)

set_option maxHeartbeats 4000000 in
set_option maxRecDepth 100000 in
theorem M47_X12_number (l : Launch) (G : va_G) (cy : Nat → ClassId) (sz : Nat) (a_0 : Nat) (i_0 : Int32) (i_1 : Int32) (a_1 : Nat) (a_2 : Nat) (a_3 : Nat) (a_4 : Nat) (a_5 : Nat) (i_2 : Int32) (i_3 : Int32) (i_4 : Int32) (i_5 : Int32) (i_6 : Int32) (j_0 : Int64) (i_7 : Int32) (i_8 : Int32) (i_9 : Int32) (i_10 : Int32) (a_6 : Nat) (a_7 : Nat) (a_8 : Nat) (a_9 : Nat) (a_10 : Nat) (a_11 : Nat) (a_12 : Nat) (a_13 : Nat) (a_14 : Nat) (a_15 : Nat) (a_16 : Nat) (a_17 : Nat) (a_18 : Nat) (i_11 : Int32) (i_12 : Int32) (i_13 : Int32) (i_14 : Int32) (i_15 : Int32) (i_16 : Int32) (a_19 : Nat) (i_17 : Int32) (a_20 : Nat) (f_0 : Nat → Int32) (h0 : mm_rg i_0 0 9) (h1 : mm_rg i_2 0 600) (h2 : mm_rg i_3 0 600) (h3 : mm_rg i_4 0 4) (h4 : mm_rg i_5 0 600) (h5 : mm_rg i_7 0 3) (h6 : mm_ar f_0 (-128) 127) (h7 : (i_5 : Int32).toInt ≤ (i_3 : Int32).toInt) (h8 : (i_3 : Int32).toInt ≤ (i_2 : Int32).toInt) (h9 : mm_tk i_4 i_5 i_3)  : mm_CI l yX12_number (mm_ws yX12_number cX12_number 4 (some .int)) ({ frames := 2, cells := 0, slots := 0, locals := 44 } : Room) G cy sz [(a_0, .inr (12, [.int i_1, .ref a_1, .ref a_2, .ref a_3, .ref a_4, .ref a_5, .int i_2, .int i_3, .int i_4, .int i_5, .int i_6, .long j_0, .int i_7, .int i_8, .int i_9, .int i_10, .ref a_6, .ref a_7, .ref a_8, .ref a_9, .ref a_10, .ref a_11, .ref a_12, .ref a_13, .ref a_14, .ref a_15, .ref a_16, .ref a_17, .ref a_18, .int i_11, .int i_12, .int i_13, .int i_14, .int i_15, .int i_16, .ref a_19, .int i_17, .ref a_20])), (a_5, .inl (cy 0, 600, .inl f_0))] [.ref a_0, .int 0, .int i_0] (fun u : Int32 × Int32 × Int32 × Int32 × Int64 × Int32 × Int32 => [(a_0, .inr (12, [.int i_1, .ref a_1, .ref a_2, .ref a_3, .ref a_4, .ref a_5, .int i_2, .int u.1, .int u.2.1, .int u.2.2.1, .int u.2.2.2.1, .long u.2.2.2.2.1, .int u.2.2.2.2.2.1, .int u.2.2.2.2.2.2, .int i_9, .int i_10, .ref a_6, .ref a_7, .ref a_8, .ref a_9, .ref a_10, .ref a_11, .ref a_12, .ref a_13, .ref a_14, .ref a_15, .ref a_16, .ref a_17, .ref a_18, .int i_11, .int i_12, .int i_13, .int i_14, .int i_15, .int i_16, .ref a_19, .int i_17, .ref a_20])), (a_5, .inl (cy 0, 600, .inl f_0))]) (fun (r : Int32) (u : Int32 × Int32 × Int32 × Int32 × Int64 × Int32 × Int32) => mm_rg u.1 0 600 ∧ mm_rg u.2.1 0 4 ∧ mm_rg u.2.2.1 0 600 ∧ mm_rg u.2.2.2.2.2.1 0 3 ∧ (u.2.2.1 : Int32).toInt ≤ (u.1 : Int32).toInt ∧ (u.1 : Int32).toInt ≤ (i_2 : Int32).toInt ∧ mm_tk u.2.1 u.2.2.1 u.1 ∧ (i_5 : Int32).toInt ≤ (u.2.2.1 : Int32).toInt ∧ mm_b0 i_7 u.2.2.2.2.2.1 ∧ mm_rg r 0 9 ∧ (r : Int32).toInt ≤ (i_0 : Int32).toInt ∧ mm_nv u.2.2.2.2.2.1 r i_4 i_6) 0 0 := by
  refine mm_begin (lv := [(0, .ref a_0), (1, .int 0), (2, .int i_0)]) (by decide) (Nat.le_of_ble_eq_true rfl) rfl ?_
  intro p e s m below meth c A ls R args Q H locs hRe hQ hAe hx hb hr hlocks hml hown hnm hts hsz hA hS hP hK hD hZ hl
  have hRf : R.frames = 2 := by rw [hRe]
  have hRl : R.locals = 44 := by rw [hRe]
  have hRc : R.cells = 0 := by rw [hRe]
  have hRs : R.slots = 0 := by rw [hRe]
  refine lv_aload_n hx hb dX12_number_0 rfl (lv_at hl 0 rfl) ?_
  refine va_get (D := G) (ci := 12) (v := .int i_7) (C := RX12) (T := TX12) (N := 38) hx hb hts (mm_i inlX12) hown hK.1 hP 0 rfl rfl 12 (by decide) (mm_h hts mm_w436) (fun _ h9 => h9) rfl dX12_number_1 ?_
  refine lv_if_eq (tgt := 9) hx hb dX12_number_4 (by decide) (fun c1 => ?_) (fun c1 => ?_)
  · have q2 := mm_eqI (lo := 0) (hi := 0) c1 h5 mm_k0 (by decide)
    refine lv_aload_n hx hb dX12_number_9 rfl (lv_at hl 0 rfl) ?_
    refine va_get (D := G) (ci := 12) (v := .int i_4) (C := RX12) (T := TX12) (N := 38) hx hb hts (mm_i inlX12) hown hK.1 hP 0 rfl rfl 8 (by decide) (mm_h hts mm_w432) (fun _ h9 => h9) rfl dX12_number_10 ?_
    refine lv_iconst (v := 2) hx hb dX12_number_13 (by decide) ?_
    refine lv_icmp_eq (tgt := 24) hx hb dX12_number_14 (by decide) (fun c3 => ?_) (fun c3 => ?_)
    · have q4 := mm_eqI (lo := 2) (hi := 2) c3 h3 mm_k2 (by decide)
      refine lv_aload_n hx hb dX12_number_24 rfl (lv_at hl 0 rfl) ?_
      refine va_get (D := G) (ci := 12) (v := .int i_6) (C := RX12) (T := TX12) (N := 38) hx hb hts (mm_i inlX12) hown hK.1 hP 0 rfl rfl 10 (by decide) (mm_h hts mm_w456) (fun _ h9 => h9) rfl dX12_number_25 ?_
      obtain ⟨v5, ev5⟩ : ∃ y : Int64, y = i_6.toInt64 := ⟨_, rfl⟩
      refine lv_i2l hx hb dX12_number_28 ev5.symm ?_
      have rv5 : mm_rl v5 (-2147483648) 2147483647 := mm_i2l ev5 (mm_top i_6)
      refine lv_iload_n hx hb dX12_number_29 rfl (lv_at hl 1 rfl) ?_
      refine lv_i2l (v := 0) hx hb dX12_number_30 (by decide) ?_
      refine lv_iload_n hx hb dX12_number_31 rfl (lv_at hl 2 rfl) ?_
      obtain ⟨v6, ev6⟩ : ∃ y : Int64, y = i_0.toInt64 := ⟨_, rfl⟩
      refine lv_i2l hx hb dX12_number_32 ev6.symm ?_
      have rv6 : mm_rl v6 0 9 := mm_i2l ev6 h0
      refine mm_finir (va_runS (As := [.long v5, .long 0, .long v6]) (rest := []) ⟨hx, hb, hml, hown, hts⟩ (M7_X12_in l G cy H.size v5 v6 ) (va_cwS 3 hts (mm_gS mm_w191 mm_w192 mm_w5 mm_w193) rfl rfl rfl hs_X12_in ⟨by rw [hRf]; exact Nat.le_of_ble_eq_true rfl, by rw [hRl]; exact Nat.le_of_ble_eq_true rfl⟩) (mm_preS hK hZ hS hA hP hD [] rfl rfl) rfl rfl hl.1 rfl (lv_room (Nat.le_of_ble_eq_true rfl)) dX12_number_33 ⟨by rw [hRc]; exact Nat.le_of_ble_eq_true rfl, by rw [hRs]; exact Nat.le_of_ble_eq_true rfl⟩) hP hD hS hA [] rfl (fun _ => rfl) ?_
      clear hP hD hS
      clear H locs
      intro v7 _u H locs hw hP hD hS
      rcases hw with ⟨rfl, w8⟩ | ⟨rfl, w9, w10, w11, w12⟩
      · refine lv_if_ne (tgt := 46) hx hb dX12_number_36 (by decide) (fun c13 => ?_) (fun c13 => ?_)
        · have q14 := mm_neL (lo := 1) (mm_ne c13) mm_k0 mm_k0 (by decide) (by decide)
          exact mm_no q14 (by decide)
        · refine lv_aload_n hx hb dX12_number_39 rfl (lv_at hl 0 rfl) ?_
          refine lv_iconst (v := 2) hx hb dX12_number_40 (by decide) ?_
          refine mm_finv (va_runV (As := [.int 2]) (rest := []) ⟨hx, hb, hml, hown, hts⟩ (M29_X12_fails l G cy H.size a_0 i_1 a_1 a_2 a_3 a_4 a_5 i_2 i_3 i_4 i_5 i_6 j_0 i_7 i_8 i_9 i_10 a_6 a_7 a_8 a_9 a_10 a_11 a_12 a_13 a_14 a_15 a_16 a_17 a_18 i_11 i_12 i_13 i_14 i_15 i_16 a_19 i_17 a_20 h4 (mm_wk q2 (by decide))) (cwV 1 hts (mm_gV mm_w483 mm_w484 mm_w485 mm_w5 mm_w486) rfl rfl rfl hd_X12_fails ⟨by rw [hRf]; exact Nat.le_of_ble_eq_true rfl, by rw [hRl]; exact Nat.le_of_ble_eq_true rfl⟩) (mm_preV hK hZ hS hA hP hD [0] rfl rfl 0 rfl rfl rfl) rfl rfl hl.1 rfl (lv_room (Nat.le_of_ble_eq_true rfl)) dX12_number_41 ⟨by rw [hRc]; exact Nat.le_of_ble_eq_true rfl, by rw [hRs]; exact Nat.le_of_ble_eq_true rfl⟩) hP hD hS hA (fun u : Int32 × Int32 => [(a_0, .inr (12, [.int i_1, .ref a_1, .ref a_2, .ref a_3, .ref a_4, .ref a_5, .int i_2, .int i_3, .int i_4, .int i_5, .int i_6, .long j_0, .int u.1, .int u.2, .int i_9, .int i_10, .ref a_6, .ref a_7, .ref a_8, .ref a_9, .ref a_10, .ref a_11, .ref a_12, .ref a_13, .ref a_14, .ref a_15, .ref a_16, .ref a_17, .ref a_18, .int i_11, .int i_12, .int i_13, .int i_14, .int i_15, .int i_16, .ref a_19, .int i_17, .ref a_20])), (a_5, .inl (cy 0, 600, .inl f_0))]) [0] [1] (n := 2) (fun _ => rfl) (by decide +kernel) (by decide +kernel) rfl (fun _ => rfl) (wr := [(a_5, .inl (cy 0, 600, .inl f_0))]) rfl (fun _ => rfl) (fun _ => rfl) ?_
          clear hP hD hS
          clear H locs
          intro u
          obtain ⟨n15, n16⟩ := u
          intro H locs hw (hP : va_P G vwCl [(a_0, .inr (12, [.int i_1, .ref a_1, .ref a_2, .ref a_3, .ref a_4, .ref a_5, .int i_2, .int i_3, .int i_4, .int i_5, .int i_6, .long j_0, .int n15, .int n16, .int i_9, .int i_10, .ref a_6, .ref a_7, .ref a_8, .ref a_9, .ref a_10, .ref a_11, .ref a_12, .ref a_13, .ref a_14, .ref a_15, .ref a_16, .ref a_17, .ref a_18, .int i_11, .int i_12, .int i_13, .int i_14, .int i_15, .int i_16, .ref a_19, .int i_17, .ref a_20])), (a_5, .inl (cy 0, 600, .inl f_0))] H) (hD : va_D A [(a_0, .inr (12, [.int i_1, .ref a_1, .ref a_2, .ref a_3, .ref a_4, .ref a_5, .int i_2, .int i_3, .int i_4, .int i_5, .int i_6, .long j_0, .int n15, .int n16, .int i_9, .int i_10, .ref a_6, .ref a_7, .ref a_8, .ref a_9, .ref a_10, .ref a_11, .ref a_12, .ref a_13, .ref a_14, .ref a_15, .ref a_16, .ref a_17, .ref a_18, .int i_11, .int i_12, .int i_13, .int i_14, .int i_15, .int i_16, .ref a_19, .int i_17, .ref a_20])), (a_5, .inl (cy 0, 600, .inl f_0))]) hS
          have w17 := hw
          refine lv_iload_n hx hb dX12_number_44 rfl (lv_at hl 1 rfl) ?_
          have w18 : (i_5 : Int32).toInt ≤ (i_5 : Int32).toInt := (Int.le_refl _)
          have w19 : mm_b0 i_7 n15 := (mm_b0_n w17 (by decide))
          have w20 : (0 : Int32).toInt ≤ (i_0 : Int32).toInt := (mm_leC mm_k0 h0 (by decide))
          have w21 : mm_nv n15 0 i_4 i_6 := (mm_nv_n w17 (by decide))
          subst hAe
          rw [hQ]
          exact W.iret (v := 0) hx hb hr (fun t ht hW => ⟨⟨0, (i_3, i_4, i_5, i_6, j_0, n15, n16), rfl, ⟨h2, (mm_wk q4 (by decide)), h4, (mm_wk w17 (by decide)), h7, h8, h9, w18, w19, ⟨(mm_wk mm_k0 (by decide)), w20, w21⟩⟩, by rw [ht]; exact hP, hK.warm hW, hD⟩, hS.F ht⟩) hS.2.2 dX12_number_45
      · have q22 := mm_meetl (lo := 0) (hi := 2147483647) w9 rv5 (by decide)
        have q23 := mm_meet (lo := 0) (hi := 2147483647) (mm_l2x ev5 q22) (mm_top i_6) (by decide)
        have q24 := mm_leLl w11 q22 rv6
        have q25 := mm_meet (lo := 0) (hi := 9) (mm_l2x ev5 q24) q23 (by decide)
        have w26 : (i_6 : Int32).toInt ≤ (i_0 : Int32).toInt := by have := (mm_i2lE ev5); have := (mm_i2lE ev6); have := w11; omega
        refine lv_if_ne (tgt := 46) hx hb dX12_number_36 (by decide) (fun c27 => ?_) (fun c27 => ?_)
        · refine lv_aload_n hx hb dX12_number_46 rfl (lv_at hl 0 rfl) ?_
          refine va_get (D := G) (ci := 12) (v := .int i_6) (C := RX12) (T := TX12) (N := 38) hx hb hts (mm_i inlX12) hown hK.1 hP 0 rfl rfl 10 (by decide) (mm_h hts mm_w456) (fun _ h9 => h9) rfl dX12_number_47 ?_
          refine lv_istore_n (lv' := [(3, .int i_6), (0, .ref a_0), (1, .int 0), (2, .int i_0)]) hx hb dX12_number_50 rfl hl (by decide) rfl ?_
          clear hl
          clear ls
          intro ls hl
          refine lv_aload_n hx hb dX12_number_51 rfl (lv_at hl 1 rfl) ?_
          refine mm_finv (va_runV (As := []) (rest := []) ⟨hx, hb, hml, hown, hts⟩ (M22_X12_next l G cy H.size a_0 i_1 a_1 a_2 a_3 a_4 a_5 i_2 i_3 i_4 i_5 i_6 j_0 i_7 i_8 i_9 i_10 a_6 a_7 a_8 a_9 a_10 a_11 a_12 a_13 a_14 a_15 a_16 a_17 a_18 i_11 i_12 i_13 i_14 i_15 i_16 a_19 i_17 a_20 f_0 h1 h2 (mm_wk q4 (by decide)) h4 h6 h8) (cwV 0 hts (mm_gV mm_w451 mm_w452 mm_w453 mm_w5 mm_w454) rfl rfl rfl hd_X12_next ⟨by rw [hRf]; exact Nat.le_of_ble_eq_true rfl, by rw [hRl]; exact Nat.le_of_ble_eq_true rfl⟩) (mm_preV hK hZ hS hA hP hD [0, 1] rfl rfl 0 rfl rfl rfl) rfl rfl hl.1 rfl (lv_room (Nat.le_of_ble_eq_true rfl)) dX12_number_52 ⟨by rw [hRc]; exact Nat.le_of_ble_eq_true rfl, by rw [hRs]; exact Nat.le_of_ble_eq_true rfl⟩) hP hD hS hA (fun u : Int32 × Int32 × Int32 × Int32 × Int64 => [(a_0, .inr (12, [.int i_1, .ref a_1, .ref a_2, .ref a_3, .ref a_4, .ref a_5, .int i_2, .int u.1, .int u.2.1, .int u.2.2.1, .int u.2.2.2.1, .long u.2.2.2.2, .int i_7, .int i_8, .int i_9, .int i_10, .ref a_6, .ref a_7, .ref a_8, .ref a_9, .ref a_10, .ref a_11, .ref a_12, .ref a_13, .ref a_14, .ref a_15, .ref a_16, .ref a_17, .ref a_18, .int i_11, .int i_12, .int i_13, .int i_14, .int i_15, .int i_16, .ref a_19, .int i_17, .ref a_20])), (a_5, .inl (cy 0, 600, .inl f_0))]) [0, 1] [] (n := 2) (fun _ => rfl) (by decide +kernel) (by decide +kernel) rfl (fun _ => rfl) (wr := []) rfl (fun _ => rfl) (fun _ => rfl) ?_
          clear hP hD hS
          clear H locs
          intro u
          obtain ⟨n28, n29, n30, n31, n32⟩ := u
          intro H locs hw (hP : va_P G vwCl [(a_0, .inr (12, [.int i_1, .ref a_1, .ref a_2, .ref a_3, .ref a_4, .ref a_5, .int i_2, .int n28, .int n29, .int n30, .int n31, .long n32, .int i_7, .int i_8, .int i_9, .int i_10, .ref a_6, .ref a_7, .ref a_8, .ref a_9, .ref a_10, .ref a_11, .ref a_12, .ref a_13, .ref a_14, .ref a_15, .ref a_16, .ref a_17, .ref a_18, .int i_11, .int i_12, .int i_13, .int i_14, .int i_15, .int i_16, .ref a_19, .int i_17, .ref a_20])), (a_5, .inl (cy 0, 600, .inl f_0))] H) (hD : va_D A [(a_0, .inr (12, [.int i_1, .ref a_1, .ref a_2, .ref a_3, .ref a_4, .ref a_5, .int i_2, .int n28, .int n29, .int n30, .int n31, .long n32, .int i_7, .int i_8, .int i_9, .int i_10, .ref a_6, .ref a_7, .ref a_8, .ref a_9, .ref a_10, .ref a_11, .ref a_12, .ref a_13, .ref a_14, .ref a_15, .ref a_16, .ref a_17, .ref a_18, .int i_11, .int i_12, .int i_13, .int i_14, .int i_15, .int i_16, .ref a_19, .int i_17, .ref a_20])), (a_5, .inl (cy 0, 600, .inl f_0))]) hS
          obtain ⟨w33, w34, w35, w36, w37, w38, w39⟩ := hw
          replace w36 : (n30 : Int32).toInt ≤ (n28 : Int32).toInt := w36
          replace w37 : (n28 : Int32).toInt ≤ (i_2 : Int32).toInt := w37
          replace w38 : mm_tk n29 n30 n28 := w38
          replace w39 : (i_3 : Int32).toInt ≤ (n30 : Int32).toInt := w39
          refine lv_iload_n hx hb dX12_number_55 rfl (lv_at hl 0 rfl) ?_
          have w40 : (i_5 : Int32).toInt ≤ (n30 : Int32).toInt := (by have := h7; have := w39; omega)
          have w41 : mm_b0 i_7 i_7 := (fun h => h)
          have w42 : mm_nv i_7 i_6 i_4 i_6 := (mm_nv_y q4 (by decide))
          subst hAe
          rw [hQ]
          exact W.iret (v := i_6) hx hb hr (fun t ht hW => ⟨⟨i_6, (n28, n29, n30, n31, n32, i_7, i_8), rfl, ⟨w33, w34, w35, (mm_wk q2 (by decide)), w36, w37, w38, w40, w41, ⟨q25, w26, w42⟩⟩, by rw [ht]; exact hP, hK.warm hW, hD⟩, hS.F ht⟩) hS.2.2 dX12_number_56
        · exact mm_eqN c27.symm mm_k0 mm_k1 (by decide)
    · refine lv_aload_n hx hb dX12_number_17 rfl (lv_at hl 0 rfl) ?_
      refine lv_iconst (v := 1) hx hb dX12_number_18 (by decide) ?_
      refine mm_finv (va_runV (As := [.int 1]) (rest := []) ⟨hx, hb, hml, hown, hts⟩ (M27_X12_fails l G cy H.size a_0 i_1 a_1 a_2 a_3 a_4 a_5 i_2 i_3 i_4 i_5 i_6 j_0 i_7 i_8 i_9 i_10 a_6 a_7 a_8 a_9 a_10 a_11 a_12 a_13 a_14 a_15 a_16 a_17 a_18 i_11 i_12 i_13 i_14 i_15 i_16 a_19 i_17 a_20 h4 (mm_wk q2 (by decide))) (cwV 1 hts (mm_gV mm_w483 mm_w484 mm_w485 mm_w5 mm_w486) rfl rfl rfl hd_X12_fails ⟨by rw [hRf]; exact Nat.le_of_ble_eq_true rfl, by rw [hRl]; exact Nat.le_of_ble_eq_true rfl⟩) (mm_preV hK hZ hS hA hP hD [0] rfl rfl 0 rfl rfl rfl) rfl rfl hl.1 rfl (lv_room (Nat.le_of_ble_eq_true rfl)) dX12_number_19 ⟨by rw [hRc]; exact Nat.le_of_ble_eq_true rfl, by rw [hRs]; exact Nat.le_of_ble_eq_true rfl⟩) hP hD hS hA (fun u : Int32 × Int32 => [(a_0, .inr (12, [.int i_1, .ref a_1, .ref a_2, .ref a_3, .ref a_4, .ref a_5, .int i_2, .int i_3, .int i_4, .int i_5, .int i_6, .long j_0, .int u.1, .int u.2, .int i_9, .int i_10, .ref a_6, .ref a_7, .ref a_8, .ref a_9, .ref a_10, .ref a_11, .ref a_12, .ref a_13, .ref a_14, .ref a_15, .ref a_16, .ref a_17, .ref a_18, .int i_11, .int i_12, .int i_13, .int i_14, .int i_15, .int i_16, .ref a_19, .int i_17, .ref a_20])), (a_5, .inl (cy 0, 600, .inl f_0))]) [0] [1] (n := 2) (fun _ => rfl) (by decide +kernel) (by decide +kernel) rfl (fun _ => rfl) (wr := [(a_5, .inl (cy 0, 600, .inl f_0))]) rfl (fun _ => rfl) (fun _ => rfl) ?_
      clear hP hD hS
      clear H locs
      intro u
      obtain ⟨n43, n44⟩ := u
      intro H locs hw (hP : va_P G vwCl [(a_0, .inr (12, [.int i_1, .ref a_1, .ref a_2, .ref a_3, .ref a_4, .ref a_5, .int i_2, .int i_3, .int i_4, .int i_5, .int i_6, .long j_0, .int n43, .int n44, .int i_9, .int i_10, .ref a_6, .ref a_7, .ref a_8, .ref a_9, .ref a_10, .ref a_11, .ref a_12, .ref a_13, .ref a_14, .ref a_15, .ref a_16, .ref a_17, .ref a_18, .int i_11, .int i_12, .int i_13, .int i_14, .int i_15, .int i_16, .ref a_19, .int i_17, .ref a_20])), (a_5, .inl (cy 0, 600, .inl f_0))] H) (hD : va_D A [(a_0, .inr (12, [.int i_1, .ref a_1, .ref a_2, .ref a_3, .ref a_4, .ref a_5, .int i_2, .int i_3, .int i_4, .int i_5, .int i_6, .long j_0, .int n43, .int n44, .int i_9, .int i_10, .ref a_6, .ref a_7, .ref a_8, .ref a_9, .ref a_10, .ref a_11, .ref a_12, .ref a_13, .ref a_14, .ref a_15, .ref a_16, .ref a_17, .ref a_18, .int i_11, .int i_12, .int i_13, .int i_14, .int i_15, .int i_16, .ref a_19, .int i_17, .ref a_20])), (a_5, .inl (cy 0, 600, .inl f_0))]) hS
      have w45 := hw
      refine lv_iload_n hx hb dX12_number_22 rfl (lv_at hl 1 rfl) ?_
      have w46 : (i_5 : Int32).toInt ≤ (i_5 : Int32).toInt := (Int.le_refl _)
      have w47 : mm_b0 i_7 n43 := (mm_b0_n w45 (by decide))
      have w48 : (0 : Int32).toInt ≤ (i_0 : Int32).toInt := (mm_leC mm_k0 h0 (by decide))
      have w49 : mm_nv n43 0 i_4 i_6 := (mm_nv_n w45 (by decide))
      subst hAe
      rw [hQ]
      exact W.iret (v := 0) hx hb hr (fun t ht hW => ⟨⟨0, (i_3, i_4, i_5, i_6, j_0, n43, n44), rfl, ⟨h2, h3, h4, (mm_wk w45 (by decide)), h7, h8, h9, w46, w47, ⟨(mm_wk mm_k0 (by decide)), w48, w49⟩⟩, by rw [ht]; exact hP, hK.warm hW, hD⟩, hS.F ht⟩) hS.2.2 dX12_number_23
  · have q50 := mm_neL (lo := 1) (mm_ne c1) h5 mm_k0 (by decide) (by decide)
    refine lv_iload_n hx hb dX12_number_7 rfl (lv_at hl 1 rfl) ?_
    have w51 : (i_5 : Int32).toInt ≤ (i_5 : Int32).toInt := (Int.le_refl _)
    have w52 : mm_b0 i_7 i_7 := (fun h => h)
    have w53 : (0 : Int32).toInt ≤ (i_0 : Int32).toInt := (mm_leC mm_k0 h0 (by decide))
    have w54 : mm_nv i_7 0 i_4 i_6 := (mm_nv_n q50 (by decide))
    subst hAe
    rw [hQ]
    exact W.iret (v := 0) hx hb hr (fun t ht hW => ⟨⟨0, (i_3, i_4, i_5, i_6, j_0, i_7, i_8), rfl, ⟨h2, h3, h4, (mm_wk q50 (by decide)), h7, h8, h9, w51, w52, ⟨(mm_wk mm_k0 (by decide)), w53, w54⟩⟩, by rw [ht]; exact hP, hK.warm hW, hD⟩, hS.F ht⟩) hS.2.2 dX12_number_8

