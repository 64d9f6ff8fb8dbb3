theorem dX12_heirsOf_0 : decode cX12_heirsOf 0 = .ok (.iload_n 3, 1) := by decide +kernel
theorem dX12_heirsOf_1 : decode cX12_heirsOf 1 = .ok (.ifCond .ne 7, 3) := by decide +kernel
theorem dX12_heirsOf_4 : decode cX12_heirsOf 4 = .ok (.iconst 0, 1) := by decide +kernel
theorem dX12_heirsOf_5 : decode cX12_heirsOf 5 = .ok (.goto 6, 3) := by decide +kernel
theorem dX12_heirsOf_8 : decode cX12_heirsOf 8 = .ok (.ldc_w 419, 3) := by decide +kernel
theorem dX12_heirsOf_11 : decode cX12_heirsOf 11 = .ok (.istore 4, 2) := by decide +kernel
theorem dX12_heirsOf_13 : decode cX12_heirsOf 13 = .ok (.iconst 0, 1) := by decide +kernel
theorem dX12_heirsOf_14 : decode cX12_heirsOf 14 = .ok (.istore 5, 2) := by decide +kernel
theorem dX12_heirsOf_16 : decode cX12_heirsOf 16 = .ok (.iload 5, 2) := by decide +kernel
theorem dX12_heirsOf_18 : decode cX12_heirsOf 18 = .ok (.aload_n 0, 1) := by decide +kernel
theorem dX12_heirsOf_19 : decode cX12_heirsOf 19 = .ok (.invokevirtual 260, 3) := by decide +kernel
theorem dX12_heirsOf_22 : decode cX12_heirsOf 22 = .ok (.if_icmp .ge 64, 3) := by decide +kernel
theorem dX12_heirsOf_25 : decode cX12_heirsOf 25 = .ok (.iload_n 3, 1) := by decide +kernel
theorem dX12_heirsOf_26 : decode cX12_heirsOf 26 = .ok (.iload 5, 2) := by decide +kernel
theorem dX12_heirsOf_28 : decode cX12_heirsOf 28 = .ok (.invokestatic 420, 3) := by decide +kernel
theorem dX12_heirsOf_31 : decode cX12_heirsOf 31 = .ok (.ifCond .ne 6, 3) := by decide +kernel
theorem dX12_heirsOf_34 : decode cX12_heirsOf 34 = .ok (.goto 46, 3) := by decide +kernel
theorem dX12_heirsOf_37 : decode cX12_heirsOf 37 = .ok (.aload_n 0, 1) := by decide +kernel
theorem dX12_heirsOf_38 : decode cX12_heirsOf 38 = .ok (.iload_n 1, 1) := by decide +kernel
theorem dX12_heirsOf_39 : decode cX12_heirsOf 39 = .ok (.iload_n 2, 1) := by decide +kernel
theorem dX12_heirsOf_40 : decode cX12_heirsOf 40 = .ok (.iload 5, 2) := by decide +kernel
theorem dX12_heirsOf_42 : decode cX12_heirsOf 42 = .ok (.invokevirtual 338, 3) := by decide +kernel
theorem dX12_heirsOf_45 : decode cX12_heirsOf 45 = .ok (.aload_n 0, 1) := by decide +kernel
theorem dX12_heirsOf_46 : decode cX12_heirsOf 46 = .ok (.iload_n 1, 1) := by decide +kernel
theorem dX12_heirsOf_47 : decode cX12_heirsOf 47 = .ok (.iload_n 2, 1) := by decide +kernel
theorem dX12_heirsOf_48 : decode cX12_heirsOf 48 = .ok (.iconst 1, 1) := by decide +kernel
theorem dX12_heirsOf_49 : decode cX12_heirsOf 49 = .ok (.iadd, 1) := by decide +kernel
theorem dX12_heirsOf_50 : decode cX12_heirsOf 50 = .ok (.iload_n 3, 1) := by decide +kernel
theorem dX12_heirsOf_51 : decode cX12_heirsOf 51 = .ok (.iconst 1, 1) := by decide +kernel
theorem dX12_heirsOf_52 : decode cX12_heirsOf 52 = .ok (.iload 5, 2) := by decide +kernel
theorem dX12_heirsOf_54 : decode cX12_heirsOf 54 = .ok (.ishl, 1) := by decide +kernel
theorem dX12_heirsOf_55 : decode cX12_heirsOf 55 = .ok (.iconst (-1), 1) := by decide +kernel
theorem dX12_heirsOf_56 : decode cX12_heirsOf 56 = .ok (.ixor, 1) := by decide +kernel
theorem dX12_heirsOf_57 : decode cX12_heirsOf 57 = .ok (.iand, 1) := by decide +kernel
theorem dX12_heirsOf_58 : decode cX12_heirsOf 58 = .ok (.invokevirtual 423, 3) := by decide +kernel
theorem dX12_heirsOf_61 : decode cX12_heirsOf 61 = .ok (.isub, 1) := by decide +kernel
theorem dX12_heirsOf_62 : decode cX12_heirsOf 62 = .ok (.istore 6, 2) := by decide +kernel
theorem dX12_heirsOf_64 : decode cX12_heirsOf 64 = .ok (.iload 6, 2) := by decide +kernel
theorem dX12_heirsOf_66 : decode cX12_heirsOf 66 = .ok (.iload 4, 2) := by decide +kernel
theorem dX12_heirsOf_68 : decode cX12_heirsOf 68 = .ok (.if_icmp .le 8, 3) := by decide +kernel
theorem dX12_heirsOf_71 : decode cX12_heirsOf 71 = .ok (.iload 6, 2) := by decide +kernel
theorem dX12_heirsOf_73 : decode cX12_heirsOf 73 = .ok (.goto 5, 3) := by decide +kernel
theorem dX12_heirsOf_76 : decode cX12_heirsOf 76 = .ok (.iload 4, 2) := by decide +kernel
theorem dX12_heirsOf_78 : decode cX12_heirsOf 78 = .ok (.istore 4, 2) := by decide +kernel
theorem dX12_heirsOf_80 : decode cX12_heirsOf 80 = .ok (.iinc 5 1, 3) := by decide +kernel
theorem dX12_heirsOf_83 : decode cX12_heirsOf 83 = .ok (.goto (-67), 3) := by decide +kernel
theorem dX12_heirsOf_86 : decode cX12_heirsOf 86 = .ok (.iload 4, 2) := by decide +kernel
theorem dX12_heirsOf_88 : decode cX12_heirsOf 88 = .ok (.ireturn, 1) := by decide +kernel
theorem dX12_isBit_0 : decode cX12_isBit 0 = .ok (.iload_n 0, 1) := by decide +kernel
theorem dX12_isBit_1 : decode cX12_isBit 1 = .ok (.iload_n 1, 1) := by decide +kernel
theorem dX12_isBit_2 : decode cX12_isBit 2 = .ok (.ishr, 1) := by decide +kernel
theorem dX12_isBit_3 : decode cX12_isBit 3 = .ok (.iconst 1, 1) := by decide +kernel
theorem dX12_isBit_4 : decode cX12_isBit 4 = .ok (.iand, 1) := by decide +kernel
theorem dX12_isBit_5 : decode cX12_isBit 5 = .ok (.iconst 1, 1) := by decide +kernel
theorem dX12_isBit_6 : decode cX12_isBit 6 = .ok (.if_icmp .ne 7, 3) := by decide +kernel
theorem dX12_isBit_9 : decode cX12_isBit 9 = .ok (.iconst 1, 1) := by decide +kernel
theorem dX12_isBit_10 : decode cX12_isBit 10 = .ok (.goto 4, 3) := by decide +kernel
theorem dX12_isBit_13 : decode cX12_isBit 13 = .ok (.iconst 0, 1) := by decide +kernel
theorem dX12_isBit_14 : decode cX12_isBit 14 = .ok (.ireturn, 1) := by decide +kernel
theorem mm_km1000000 : mm_rg (-1000000) (-1000000) (-1000000) := ⟨by decide, by decide⟩
theorem hd_X12_heirsOf : yX12_heirsOf.cls = RX12 ∧ yX12_heirsOf.cls ≠ "java/lang/invoke/MethodHandle" ∧ yX12_heirsOf.cls ≠ "java/lang/invoke/VarHandle" ∧ (parseMethodDescriptor yX12_heirsOf.desc).map (fun d => d.parameters.length) = some 3 := by decide +kernel
theorem hs_X12_isBit : yX12_isBit.cls ≠ "java/lang/invoke/MethodHandle" ∧ yX12_isBit.cls ≠ "java/lang/invoke/VarHandle" ∧ (parseMethodDescriptor yX12_isBit.desc).map (fun d => d.parameters.length) = some 2 := by decide +kernel
set_option maxHeartbeats 4000000 in
set_option maxRecDepth 100000 in
theorem M232_X12_isBit (l : Launch) (G : va_G) (cy : Nat → ClassId) (sz : Nat) (i_0 : Int32) (i_1 : Int32) (h0 : mm_rg i_0 0 63) (h1 : mm_rg i_1 0 5)  : mm_CI l yX12_isBit (mm_ws yX12_isBit cX12_isBit 2 (some .boolean)) ({ frames := 0, cells := 0, slots := 0, locals := 0 } : Room) G cy sz [] [.int i_0, .int i_1] (fun u : Unit => []) (fun (r : Int32) (u : Unit) => ((0 = r ∧ mm_nbit i_0 i_1) ∨ (1 = r ∧ mm_bit i_0 i_1))) 0 0 := by
  refine mm_begin (lv := [(0, .int i_0), (1, .int i_1)]) (by decide) (Nat.le_of_ble_eq_true rfl) rfl ?_
  intro p e s m below meth c A ls R args Q H locs hRe hQ hAe hx hb hr hlocks hml hown hnm hts hsz hA hS hP hK hD hZ hl
  have hRf : R.frames = 0 := by rw [hRe]
  have hRl : R.locals = 0 := by rw [hRe]
  have hRc : R.cells = 0 := by rw [hRe]
  have hRs : R.slots = 0 := by rw [hRe]
  refine lv_iload_n hx hb dX12_isBit_0 rfl (lv_at hl 0 rfl) ?_
  refine lv_iload_n hx hb dX12_isBit_1 rfl (lv_at hl 1 rfl) ?_
  refine lv_ishr hx hb dX12_isBit_2 ?_
  refine lv_topi (fun v1 ev1 => ?_)
  refine lv_iconst (v := 1) hx hb dX12_isBit_3 (by decide) ?_
  refine lv_iand hx hb dX12_isBit_4 ?_
  refine lv_topi (fun v2 ev2 => ?_)
  have rv2 : mm_rg v2 0 1 := mm_andR ev2 mm_k1 (by decide)
  refine lv_iconst (v := 1) hx hb dX12_isBit_5 (by decide) ?_
  refine lv_icmp_ne (tgt := 13) hx hb dX12_isBit_6 (by decide) (fun c3 => ?_) (fun c3 => ?_)
  · have q4 := mm_neH (hi := 0) (mm_ne c3) rv2 mm_k1 (by decide) (by decide)
    refine lv_iconst (v := 0) hx hb dX12_isBit_13 (by decide) ?_
    have w5 : mm_nbit i_0 i_1 := (mm_nbit_of ev1 ev2 (mm_ne c3) h0 h1 (by decide))
    subst hAe
    rw [hQ]
    exact W.zret (v := 0) hx hb hr rfl (fun t ht hW => ⟨⟨0, (), rfl, (Or.inl ⟨rfl, w5⟩), by rw [ht]; exact hP, hK.warm hW, hD⟩, hS.F ht⟩) hS.2.2 dX12_isBit_14
  · have q6 := mm_eqI (lo := 1) (hi := 1) c3 rv2 mm_k1 (by decide)
    refine lv_iconst (v := 1) hx hb dX12_isBit_9 (by decide) ?_
    refine lv_goto (tgt := 14) hx hb dX12_isBit_10 (by decide) ?_
    have w7 : mm_bit i_0 i_1 := (mm_bit_of ev1 ev2 c3 h0 h1 (by decide))
    subst hAe
    rw [hQ]
    exact W.zret (v := 1) hx hb hr rfl (fun t ht hW => ⟨⟨1, (), rfl, (Or.inr ⟨rfl, w7⟩), by rw [ht]; exact hP, hK.warm hW, hD⟩, hS.F ht⟩) hS.2.2 dX12_isBit_14

set_option maxHeartbeats 4000000 in
set_option maxRecDepth 100000 in
theorem M233_X12_heirsOf (l : Launch) (G : va_G) (cy : Nat → ClassId) (sz : Nat) (a_0 : Nat) (i_0 : Int32) (i_1 : Int32) (i_2 : Int32) (i_3 : Int32) (a_1 : Nat) (a_2 : Nat) (a_3 : Nat) (a_4 : Nat) (a_5 : Nat) (i_4 : Int32) (i_5 : Int32) (i_6 : Int32) (i_7 : Int32) (i_8 : Int32) (j_0 : Int64) (i_9 : Int32) (i_10 : Int32) (i_11 : Int32) (i_12 : Int32) (a_6 : Nat) (a_7 : Nat) (a_8 : Nat) (a_9 : Nat) (a_10 : Nat) (a_11 : Nat) (a_12 : Nat) (a_13 : Nat) (a_14 : Nat) (a_15 : Nat) (a_16 : Nat) (a_17 : Nat) (a_18 : Nat) (i_13 : Int32) (i_14 : Int32) (i_15 : Int32) (i_16 : Int32) (i_17 : Int32) (i_18 : Int32) (a_19 : Nat) (i_19 : Int32) (a_20 : Nat) (i_20 : Int32) (i_21 : Int32) (i_22 : Int32) (i_23 : Int32) (i_24 : Int32) (i_25 : Int32) (i_26 : Int32) (i_27 : Int32) (i_28 : Int32) (i_29 : Int32) (i_30 : Int32) (i_31 : Int32) (i_32 : Int32) (i_33 : Int32) (i_34 : Int32) (i_35 : Int32) (i_36 : Int32) (i_37 : Int32) (i_38 : Int32) (i_39 : Int32) (i_40 : Int32) (i_41 : Int32) (i_42 : Int32) (i_43 : Int32) (i_44 : Int32) (i_45 : Int32) (i_46 : Int32) (i_47 : Int32) (i_48 : Int32) (i_49 : Int32) (h0 : mm_rg i_0 0 2) (h1 : mm_rg i_1 0 1000000007) (h2 : mm_rg i_2 0 63) (h3 : mm_rg i_20 0 10) (h4 : mm_rg i_21 0 99) (h5 : mm_rg i_22 0 9) (h6 : mm_rg i_23 0 3) (h7 : mm_rg i_24 0 6) (h8 : mm_rg i_25 0 30) (h9 : mm_rg i_26 0 10) (h10 : mm_rg i_27 0 99) (h11 : mm_rg i_28 0 9) (h12 : mm_rg i_29 0 3) (h13 : mm_rg i_30 0 6) (h14 : mm_rg i_31 0 30) (h15 : mm_rg i_32 0 10) (h16 : mm_rg i_33 0 99) (h17 : mm_rg i_34 0 9) (h18 : mm_rg i_35 0 3) (h19 : mm_rg i_36 0 6) (h20 : mm_rg i_37 0 30) (h21 : mm_rg i_38 0 10) (h22 : mm_rg i_39 0 99) (h23 : mm_rg i_40 0 9) (h24 : mm_rg i_41 0 3) (h25 : mm_rg i_42 0 6) (h26 : mm_rg i_43 0 30) (h27 : mm_rg i_44 0 10) (h28 : mm_rg i_45 0 99) (h29 : mm_rg i_46 0 9) (h30 : mm_rg i_47 0 3) (h31 : mm_rg i_48 0 6) (h32 : mm_rg i_49 0 30) (h33 : mm_pc 0 i_2)  : mm_CI l yX12_heirsOf (mm_ws yX12_heirsOf cX12_heirsOf 7 (some .int)) ({ frames := 1, cells := 0, slots := 0, locals := 21 } : Room) G cy sz [(a_0, .inr (12, [.int i_3, .ref a_1, .ref a_2, .ref a_3, .ref a_4, .ref a_5, .int i_4, .int i_5, .int i_6, .int i_7, .int i_8, .long j_0, .int i_9, .int i_10, .int i_11, .int i_12, .ref a_6, .ref a_7, .ref a_8, .ref a_9, .ref a_10, .ref a_11, .ref a_12, .ref a_13, .ref a_14, .ref a_15, .ref a_16, .ref a_17, .ref a_18, .int i_13, .int i_14, .int i_15, .int i_16, .int i_17, .int i_18, .ref a_19, .int i_19, .ref a_20])), (a_7, .inl (cy 1, 30, .inl (mm_g [i_20, i_21, i_22, i_23, i_24, i_25, i_26, i_27, i_28, i_29, i_30, i_31, i_32, i_33, i_34, i_35, i_36, i_37, i_38, i_39, i_40, i_41, i_42, i_43, i_44, i_45, i_46, i_47, i_48, i_49])))] [.ref a_0, .int i_0, .int i_1, .int i_2] (fun u : Unit => [(a_0, .inr (12, [.int i_3, .ref a_1, .ref a_2, .ref a_3, .ref a_4, .ref a_5, .int i_4, .int i_5, .int i_6, .int i_7, .int i_8, .long j_0, .int i_9, .int i_10, .int i_11, .int i_12, .ref a_6, .ref a_7, .ref a_8, .ref a_9, .ref a_10, .ref a_11, .ref a_12, .ref a_13, .ref a_14, .ref a_15, .ref a_16, .ref a_17, .ref a_18, .int i_13, .int i_14, .int i_15, .int i_16, .int i_17, .int i_18, .ref a_19, .int i_19, .ref a_20])), (a_7, .inl (cy 1, 30, .inl (mm_g [i_20, i_21, i_22, i_23, i_24, i_25, i_26, i_27, i_28, i_29, i_30, i_31, i_32, i_33, i_34, i_35, i_36, i_37, i_38, i_39, i_40, i_41, i_42, i_43, i_44, i_45, i_46, i_47, i_48, i_49])))]) (fun (r : Int32) (u : Unit) => mm_rg r (-1000000) 0) 0 0 := by
  refine mm_begin (lv := [(0, .ref a_0), (1, .int i_0), (2, .int i_1), (3, .int i_2)]) (by decide) (Nat.le_of_ble_eq_true rfl) rfl ?_
  intro p e s m below meth c A ls R args Q H locs hRe hQ hAe hx hb hr hlocks hml hown hnm hts hsz hA hS hP hK hD hZ hl
  have hRf : R.frames = 1 := by rw [hRe]
  have hRl : R.locals = 21 := by rw [hRe]
  have hRc : R.cells = 0 := by rw [hRe]
  have hRs : R.slots = 0 := by rw [hRe]
  refine lv_iload_n hx hb dX12_heirsOf_0 rfl (lv_at hl 3 rfl) ?_
  refine lv_if_ne (tgt := 8) hx hb dX12_heirsOf_1 (by decide) (fun c1 => ?_) (fun c1 => ?_)
  · have q2 := mm_neL (lo := 1) (mm_ne c1) h2 mm_k0 (by decide) (by decide)
    have q3 : mm_rg i_2 0 0 := mm_pc_0 h33 q2 (by decide)
    refine lv_ldcw (v := (-1000000)) hx hb hown (mm_h hts mm_w1460) dX12_heirsOf_8 ?_
    refine lv_istore (lv' := [(4, .int (-1000000)), (0, .ref a_0), (1, .int i_0), (2, .int i_1), (3, .int i_2)]) hx hb dX12_heirsOf_11 hl (by decide) rfl ?_
    clear hl
    clear ls
    intro ls hl
    refine lv_iconst (v := 0) hx hb dX12_heirsOf_13 (by decide) ?_
    refine lv_istore (lv' := [(5, .int 0), (4, .int (-1000000)), (0, .ref a_0), (1, .int i_0), (2, .int i_1), (3, .int i_2)]) hx hb dX12_heirsOf_14 hl (by decide) rfl ?_
    clear hl
    clear ls
    intro ls hl
    have L16_83 : ∀ (n : Nat) (x16_5_83 : Int32), mm_rg x16_5_83 0 6 → (6 - x16_5_83.toInt).toNat < n → ∀ (H : Heap) (locs : List Loc), va_P G vwCl [(a_0, .inr (12, [.int i_3, .ref a_1, .ref a_2, .ref a_3, .ref a_4, .ref a_5, .int i_4, .int i_5, .int i_6, .int i_7, .int i_8, .long j_0, .int i_9, .int i_10, .int i_11, .int i_12, .ref a_6, .ref a_7, .ref a_8, .ref a_9, .ref a_10, .ref a_11, .ref a_12, .ref a_13, .ref a_14, .ref a_15, .ref a_16, .ref a_17, .ref a_18, .int i_13, .int i_14, .int i_15, .int i_16, .int i_17, .int i_18, .ref a_19, .int i_19, .ref a_20])), (a_7, .inl (cy 1, 30, .inl (mm_g [i_20, i_21, i_22, i_23, i_24, i_25, i_26, i_27, i_28, i_29, i_30, i_31, i_32, i_33, i_34, i_35, i_36, i_37, i_38, i_39, i_40, i_41, i_42, i_43, i_44, i_45, i_46, i_47, i_48, i_49])))] H → va_D A [(a_0, .inr (12, [.int i_3, .ref a_1, .ref a_2, .ref a_3, .ref a_4, .ref a_5, .int i_4, .int i_5, .int i_6, .int i_7, .int i_8, .long j_0, .int i_9, .int i_10, .int i_11, .int i_12, .ref a_6, .ref a_7, .ref a_8, .ref a_9, .ref a_10, .ref a_11, .ref a_12, .ref a_13, .ref a_14, .ref a_15, .ref a_16, .ref a_17, .ref a_18, .int i_13, .int i_14, .int i_15, .int i_16, .int i_17, .int i_18, .ref a_19, .int i_19, .ref a_20])), (a_7, .inl (cy 1, 30, .inl (mm_g [i_20, i_21, i_22, i_23, i_24, i_25, i_26, i_27, i_28, i_29, i_30, i_31, i_32, i_33, i_34, i_35, i_36, i_37, i_38, i_39, i_40, i_41, i_42, i_43, i_44, i_45, i_46, i_47, i_48, i_49])))] → va_S A s.heap H locs → ∀ (ls : Array Slot), lv_has ls 7 [(5, .int x16_5_83), (4, .int (-1000000)), (0, .ref a_0), (1, .int i_0), (2, .int i_1), (3, .int i_2)] → W p l e R s m args below meth c H locs 0 0 Q (F0 m 16 ls []) := by
      intro n
      induction n with
      | zero => intro x16_5_83 rx16_5_83 hm; exact absurd hm (Nat.not_lt_zero _)
      | succ n ih16 =>
        intro x16_5_83 rx16_5_83 hm16 H locs hP hD hS ls hl
        refine lv_iload hx hb dX12_heirsOf_16 (lv_at hl 0 rfl) ?_
        refine lv_aload_n hx hb dX12_heirsOf_18 rfl (lv_at hl 2 rfl) ?_
        refine mm_finir (va_runV (As := []) (rest := [.int x16_5_83]) ⟨hx, hb, hml, hown, hts⟩ (M95_X12_texts l G cy H.size a_0 i_3 a_1 a_2 a_3 a_4 a_5 i_4 i_5 i_6 i_7 i_8 j_0 i_9 i_10 i_11 i_12 a_6 a_7 a_8 a_9 a_10 a_11 a_12 a_13 a_14 a_15 a_16 a_17 a_18 i_13 i_14 i_15 i_16 i_17 i_18 a_19 i_19 a_20 i_20 i_21 i_22 i_23 i_24 i_25 i_26 i_27 i_28 i_29 i_30 i_31 i_32 i_33 i_34 i_35 i_36 i_37 i_38 i_39 i_40 i_41 i_42 i_43 i_44 i_45 i_46 i_47 i_48 i_49 h3 h4 h5 h6 h7 h8 h9 h10 h11 h12 h13 h14 h15 h16 h17 h18 h19 h20 h21 h22 h23 h24 h25 h26 h27 h28 h29 h30 h31 h32) (cwV 0 hts (mm_gV mm_w617 mm_w618 mm_w619 mm_w5 mm_w620) rfl rfl rfl hd_X12_texts ⟨by rw [hRf]; exact Nat.le_of_ble_eq_true rfl, by rw [hRl]; exact Nat.le_of_ble_eq_true rfl⟩) (mm_preV hK hZ hS hA hP hD [0, 1] rfl rfl 0 rfl rfl rfl) rfl rfl hl.1 rfl (lv_room (Nat.le_of_ble_eq_true rfl)) dX12_heirsOf_19 ⟨by rw [hRc]; exact Nat.le_of_ble_eq_true rfl, by rw [hRs]; exact Nat.le_of_ble_eq_true rfl⟩) hP hD hS hA [0, 1] rfl (fun _ => rfl) ?_
        clear hP hD hS
        clear H locs
        intro v85 _u H locs hw hP hD hS
        subst hw
        refine lv_icmp_ge (tgt := 86) hx hb dX12_heirsOf_22 (by decide) (fun c86 => ?_) (fun c86 => ?_)
        · refine lv_iload hx hb dX12_heirsOf_86 (lv_at hl 1 rfl) ?_
          subst hAe
          rw [hQ]
          exact W.iret (v := (-1000000)) hx hb hr (fun t ht hW => ⟨⟨(-1000000), (), rfl, (mm_wk mm_km1000000 (by decide)), by rw [ht]; exact hP, hK.warm hW, hD⟩, hS.F ht⟩) hS.2.2 dX12_heirsOf_88
        · have q87 := mm_ltL (h := 5) (mm_nle c86) rx16_5_83 h7 (by decide)
          have q88 := mm_ltR (lo := 1) (mm_nle c86) rx16_5_83 h7 (by decide)
          refine lv_iload_n hx hb dX12_heirsOf_25 rfl (lv_at hl 5 rfl) ?_
          refine lv_iload hx hb dX12_heirsOf_26 (lv_at hl 0 rfl) ?_
          refine mm_finir (va_runS (As := [.int i_2, .int x16_5_83]) (rest := []) ⟨hx, hb, hml, hown, hts⟩ (M232_X12_isBit l G cy H.size i_2 x16_5_83 (mm_wk q3 (by decide)) q87) (va_cwS 2 hts (mm_gS mm_w1461 mm_w1462 mm_w5 mm_w1463) rfl rfl rfl hs_X12_isBit ⟨by rw [hRf]; exact Nat.le_of_ble_eq_true rfl, by rw [hRl]; exact Nat.le_of_ble_eq_true rfl⟩) (mm_preS hK hZ hS hA hP hD [] rfl rfl) rfl rfl hl.1 rfl (lv_room (Nat.le_of_ble_eq_true rfl)) dX12_heirsOf_28 ⟨by rw [hRc]; exact Nat.le_of_ble_eq_true rfl, by rw [hRs]; exact Nat.le_of_ble_eq_true rfl⟩) hP hD hS hA [] rfl (fun _ => rfl) ?_
          clear hP hD hS
          clear H locs
          intro v89 _u H locs hw hP hD hS
          rcases hw with ⟨rfl, w90⟩ | ⟨rfl, w91⟩
          · refine lv_if_ne (tgt := 37) hx hb dX12_heirsOf_31 (by decide) (fun c92 => ?_) (fun c92 => ?_)
            · have q93 := mm_neL (lo := 1) (mm_ne c92) mm_k0 mm_k0 (by decide) (by decide)
              exact mm_no q93 (by decide)
            · refine lv_goto (tgt := 80) hx hb dX12_heirsOf_34 (by decide) ?_
              obtain ⟨v94, ev94⟩ : ∃ y : Int32, y = x16_5_83 + 1 := ⟨_, rfl⟩
              refine lv_iinc (v := v94) (lv' := [(5, .int v94), (4, .int (-1000000)), (0, .ref a_0), (1, .int i_0), (2, .int i_1), (3, .int i_2)]) hx hb dX12_heirsOf_80 hl (k := 0) rfl (by rw [ev94]; rfl) (by decide) rfl ?_
              clear hl
              clear ls
              intro ls hl
              have rv94 : mm_rg v94 1 6 := mm_add ev94 q87 mm_k1 (by decide) (by decide)
              have tv94 := mm_addEc ev94 q87 mm_k1 (by decide) (k := 1) (by decide)
              refine lv_goto (tgt := 16) hx hb dX12_heirsOf_83 (by decide) ?_
              exact ih16 v94 (mm_wk rv94 (by decide)) (mm_mu hm16 tv94 (by decide) (rv94).2 (by decide)) H locs hP hD hS ls (lv_sub hl [0, 1, 2, 3, 4, 5] rfl)
          · exact mm_bit_no w91 q3 (by decide)
    exact L16_83 _ 0 (mm_wk mm_k0 (by decide)) (Nat.lt_succ_self _) H locs hP hD hS ls (lv_sub hl [0, 1, 2, 3, 4, 5] rfl)
  · have q95 := mm_eqI (lo := 0) (hi := 0) c1 h2 mm_k0 (by decide)
    refine lv_iconst (v := 0) hx hb dX12_heirsOf_4 (by decide) ?_
    refine lv_goto (tgt := 11) hx hb dX12_heirsOf_5 (by decide) ?_
    refine lv_istore (lv' := [(4, .int 0), (0, .ref a_0), (1, .int i_0), (2, .int i_1), (3, .int i_2)]) hx hb dX12_heirsOf_11 hl (by decide) rfl ?_
    clear hl
    clear ls
    intro ls hl
    refine lv_iconst (v := 0) hx hb dX12_heirsOf_13 (by decide) ?_
    refine lv_istore (lv' := [(5, .int 0), (4, .int 0), (0, .ref a_0), (1, .int i_0), (2, .int i_1), (3, .int i_2)]) hx hb dX12_heirsOf_14 hl (by decide) rfl ?_
    clear hl
    clear ls
    intro ls hl
    have L16_175 : ∀ (n : Nat) (x16_5_175 : Int32), mm_rg x16_5_175 0 6 → (6 - x16_5_175.toInt).toNat < n → ∀ (H : Heap) (locs : List Loc), va_P G vwCl [(a_0, .inr (12, [.int i_3, .ref a_1, .ref a_2, .ref a_3, .ref a_4, .ref a_5, .int i_4, .int i_5, .int i_6, .int i_7, .int i_8, .long j_0, .int i_9, .int i_10, .int i_11, .int i_12, .ref a_6, .ref a_7, .ref a_8, .ref a_9, .ref a_10, .ref a_11, .ref a_12, .ref a_13, .ref a_14, .ref a_15, .ref a_16, .ref a_17, .ref a_18, .int i_13, .int i_14, .int i_15, .int i_16, .int i_17, .int i_18, .ref a_19, .int i_19, .ref a_20])), (a_7, .inl (cy 1, 30, .inl (mm_g [i_20, i_21, i_22, i_23, i_24, i_25, i_26, i_27, i_28, i_29, i_30, i_31, i_32, i_33, i_34, i_35, i_36, i_37, i_38, i_39, i_40, i_41, i_42, i_43, i_44, i_45, i_46, i_47, i_48, i_49])))] H → va_D A [(a_0, .inr (12, [.int i_3, .ref a_1, .ref a_2, .ref a_3, .ref a_4, .ref a_5, .int i_4, .int i_5, .int i_6, .int i_7, .int i_8, .long j_0, .int i_9, .int i_10, .int i_11, .int i_12, .ref a_6, .ref a_7, .ref a_8, .ref a_9, .ref a_10, .ref a_11, .ref a_12, .ref a_13, .ref a_14, .ref a_15, .ref a_16, .ref a_17, .ref a_18, .int i_13, .int i_14, .int i_15, .int i_16, .int i_17, .int i_18, .ref a_19, .int i_19, .ref a_20])), (a_7, .inl (cy 1, 30, .inl (mm_g [i_20, i_21, i_22, i_23, i_24, i_25, i_26, i_27, i_28, i_29, i_30, i_31, i_32, i_33, i_34, i_35, i_36, i_37, i_38, i_39, i_40, i_41, i_42, i_43, i_44, i_45, i_46, i_47, i_48, i_49])))] → va_S A s.heap H locs → ∀ (ls : Array Slot), lv_has ls 7 [(5, .int x16_5_175), (4, .int 0), (0, .ref a_0), (1, .int i_0), (2, .int i_1), (3, .int i_2)] → W p l e R s m args below meth c H locs 0 0 Q (F0 m 16 ls []) := by
      intro n
      induction n with
      | zero => intro x16_5_175 rx16_5_175 hm; exact absurd hm (Nat.not_lt_zero _)
      | succ n ih16 =>
        intro x16_5_175 rx16_5_175 hm16 H locs hP hD hS ls hl
        refine lv_iload hx hb dX12_heirsOf_16 (lv_at hl 0 rfl) ?_
        refine lv_aload_n hx hb dX12_heirsOf_18 rfl (lv_at hl 2 rfl) ?_
        refine mm_finir (va_runV (As := []) (rest := [.int x16_5_175]) ⟨hx, hb, hml, hown, hts⟩ (M95_X12_texts l G cy H.size a_0 i_3 a_1 a_2 a_3 a_4 a_5 i_4 i_5 i_6 i_7 i_8 j_0 i_9 i_10 i_11 i_12 a_6 a_7 a_8 a_9 a_10 a_11 a_12 a_13 a_14 a_15 a_16 a_17 a_18 i_13 i_14 i_15 i_16 i_17 i_18 a_19 i_19 a_20 i_20 i_21 i_22 i_23 i_24 i_25 i_26 i_27 i_28 i_29 i_30 i_31 i_32 i_33 i_34 i_35 i_36 i_37 i_38 i_39 i_40 i_41 i_42 i_43 i_44 i_45 i_46 i_47 i_48 i_49 h3 h4 h5 h6 h7 h8 h9 h10 h11 h12 h13 h14 h15 h16 h17 h18 h19 h20 h21 h22 h23 h24 h25 h26 h27 h28 h29 h30 h31 h32) (cwV 0 hts (mm_gV mm_w617 mm_w618 mm_w619 mm_w5 mm_w620) rfl rfl rfl hd_X12_texts ⟨by rw [hRf]; exact Nat.le_of_ble_eq_true rfl, by rw [hRl]; exact Nat.le_of_ble_eq_true rfl⟩) (mm_preV hK hZ hS hA hP hD [0, 1] rfl rfl 0 rfl rfl rfl) rfl rfl hl.1 rfl (lv_room (Nat.le_of_ble_eq_true rfl)) dX12_heirsOf_19 ⟨by rw [hRc]; exact Nat.le_of_ble_eq_true rfl, by rw [hRs]; exact Nat.le_of_ble_eq_true rfl⟩) hP hD hS hA [0, 1] rfl (fun _ => rfl) ?_
        clear hP hD hS
        clear H locs
        intro v177 _u H locs hw hP hD hS
        subst hw
        refine lv_icmp_ge (tgt := 86) hx hb dX12_heirsOf_22 (by decide) (fun c178 => ?_) (fun c178 => ?_)
        · refine lv_iload hx hb dX12_heirsOf_86 (lv_at hl 1 rfl) ?_
          subst hAe
          rw [hQ]
          exact W.iret (v := 0) hx hb hr (fun t ht hW => ⟨⟨0, (), rfl, (mm_wk mm_k0 (by decide)), by rw [ht]; exact hP, hK.warm hW, hD⟩, hS.F ht⟩) hS.2.2 dX12_heirsOf_88
        · have q179 := mm_ltL (h := 5) (mm_nle c178) rx16_5_175 h7 (by decide)
          have q180 := mm_ltR (lo := 1) (mm_nle c178) rx16_5_175 h7 (by decide)
          refine lv_iload_n hx hb dX12_heirsOf_25 rfl (lv_at hl 5 rfl) ?_
          refine lv_iload hx hb dX12_heirsOf_26 (lv_at hl 0 rfl) ?_
          refine mm_finir (va_runS (As := [.int i_2, .int x16_5_175]) (rest := []) ⟨hx, hb, hml, hown, hts⟩ (M232_X12_isBit l G cy H.size i_2 x16_5_175 (mm_wk q95 (by decide)) q179) (va_cwS 2 hts (mm_gS mm_w1461 mm_w1462 mm_w5 mm_w1463) rfl rfl rfl hs_X12_isBit ⟨by rw [hRf]; exact Nat.le_of_ble_eq_true rfl, by rw [hRl]; exact Nat.le_of_ble_eq_true rfl⟩) (mm_preS hK hZ hS hA hP hD [] rfl rfl) rfl rfl hl.1 rfl (lv_room (Nat.le_of_ble_eq_true rfl)) dX12_heirsOf_28 ⟨by rw [hRc]; exact Nat.le_of_ble_eq_true rfl, by rw [hRs]; exact Nat.le_of_ble_eq_true rfl⟩) hP hD hS hA [] rfl (fun _ => rfl) ?_
          clear hP hD hS
          clear H locs
          intro v181 _u H locs hw hP hD hS
          rcases hw with ⟨rfl, w182⟩ | ⟨rfl, w183⟩
          · refine lv_if_ne (tgt := 37) hx hb dX12_heirsOf_31 (by decide) (fun c184 => ?_) (fun c184 => ?_)
            · have q185 := mm_neL (lo := 1) (mm_ne c184) mm_k0 mm_k0 (by decide) (by decide)
              exact mm_no q185 (by decide)
            · refine lv_goto (tgt := 80) hx hb dX12_heirsOf_34 (by decide) ?_
              obtain ⟨v186, ev186⟩ : ∃ y : Int32, y = x16_5_175 + 1 := ⟨_, rfl⟩
              refine lv_iinc (v := v186) (lv' := [(5, .int v186), (4, .int 0), (0, .ref a_0), (1, .int i_0), (2, .int i_1), (3, .int i_2)]) hx hb dX12_heirsOf_80 hl (k := 0) rfl (by rw [ev186]; rfl) (by decide) rfl ?_
              clear hl
              clear ls
              intro ls hl
              have rv186 : mm_rg v186 1 6 := mm_add ev186 q179 mm_k1 (by decide) (by decide)
              have tv186 := mm_addEc ev186 q179 mm_k1 (by decide) (k := 1) (by decide)
              refine lv_goto (tgt := 16) hx hb dX12_heirsOf_83 (by decide) ?_
              exact ih16 v186 (mm_wk rv186 (by decide)) (mm_mu hm16 tv186 (by decide) (rv186).2 (by decide)) H locs hP hD hS ls (lv_sub hl [0, 1, 2, 3, 4, 5] rfl)
          · exact mm_bit_no w183 q95 (by decide)
    exact L16_175 _ 0 (mm_wk mm_k0 (by decide)) (Nat.lt_succ_self _) H locs hP hD hS ls (lv_sub hl [0, 1, 2, 3, 4, 5] rfl)

set_option maxHeartbeats 4000000 in
set_option maxRecDepth 100000 in
theorem M234_X12_heirsOf (l : Launch) (G : va_G) (cy : Nat → ClassId) (sz : Nat) (a_0 : Nat) (i_0 : Int32) (i_1 : Int32) (i_2 : Int32) (i_3 : Int32) (a_1 : Nat) (a_2 : Nat) (a_3 : Nat) (a_4 : Nat) (a_5 : Nat) (i_4 : Int32) (i_5 : Int32) (i_6 : Int32) (i_7 : Int32) (i_8 : Int32) (j_0 : Int64) (i_9 : Int32) (i_10 : Int32) (i_11 : Int32) (i_12 : Int32) (a_6 : Nat) (a_7 : Nat) (a_8 : Nat) (a_9 : Nat) (a_10 : Nat) (a_11 : Nat) (a_12 : Nat) (a_13 : Nat) (a_14 : Nat) (a_15 : Nat) (a_16 : Nat) (a_17 : Nat) (a_18 : Nat) (i_13 : Int32) (i_14 : Int32) (i_15 : Int32) (i_16 : Int32) (i_17 : Int32) (i_18 : Int32) (a_19 : Nat) (i_19 : Int32) (a_20 : Nat) (i_20 : Int32) (i_21 : Int32) (i_22 : Int32) (i_23 : Int32) (i_24 : Int32) (i_25 : Int32) (i_26 : Int32) (i_27 : Int32) (i_28 : Int32) (i_29 : Int32) (i_30 : Int32) (i_31 : Int32) (i_32 : Int32) (i_33 : Int32) (i_34 : Int32) (i_35 : Int32) (i_36 : Int32) (i_37 : Int32) (i_38 : Int32) (i_39 : Int32) (i_40 : Int32) (i_41 : Int32) (i_42 : Int32) (i_43 : Int32) (i_44 : Int32) (i_45 : Int32) (i_46 : Int32) (i_47 : Int32) (i_48 : Int32) (i_49 : Int32) (f_0 : Nat → Int32) (f_1 : Nat → Int32) (f_2 : Nat → Int32) (f_3 : Nat → Int32) (f_4 : Nat → Int32) (f_5 : Nat → Int32) (f_6 : Nat → Int32) (h0 : mm_rg i_0 0 2) (h1 : mm_rg i_1 0 1000000006) (h2 : mm_rg i_2 0 63) (h3 : mm_rg i_13 0 8) (h4 : mm_rg i_20 0 10) (h5 : mm_rg i_21 0 99) (h6 : mm_rg i_22 0 9) (h7 : mm_rg i_23 0 3) (h8 : mm_rg i_24 0 6) (h9 : mm_rg i_25 0 30) (h10 : mm_rg i_26 0 10) (h11 : mm_rg i_27 0 99) (h12 : mm_rg i_28 0 9) (h13 : mm_rg i_29 0 3) (h14 : mm_rg i_30 0 6) (h15 : mm_rg i_31 0 30) (h16 : mm_rg i_32 0 10) (h17 : mm_rg i_33 0 99) (h18 : mm_rg i_34 0 9) (h19 : mm_rg i_35 0 3) (h20 : mm_rg i_36 0 6) (h21 : mm_rg i_37 0 30) (h22 : mm_rg i_38 0 10) (h23 : mm_rg i_39 0 99) (h24 : mm_rg i_40 0 9) (h25 : mm_rg i_41 0 3) (h26 : mm_rg i_42 0 6) (h27 : mm_rg i_43 0 30) (h28 : mm_rg i_44 0 10) (h29 : mm_rg i_45 0 99) (h30 : mm_rg i_46 0 9) (h31 : mm_rg i_47 0 3) (h32 : mm_rg i_48 0 6) (h33 : mm_rg i_49 0 30) (h34 : mm_ar f_0 0 99) (h35 : mm_ar f_1 0 8) (h36 : mm_ar f_2 0 9) (h37 : mm_ar f_3 (-1) 99) (h38 : mm_ar f_4 0 9) (h39 : mm_ar f_5 0 210) (h40 : mm_ar f_6 0 9) (h41 : mm_txs f_1 f_2 0 i_22 i_24) (h42 : mm_acs f_3 0 i_22 i_23 i_25) (h43 : mm_txs f_1 f_2 1 i_28 i_30) (h44 : mm_acs f_3 1 i_28 i_29 i_31) (h45 : mm_txs f_1 f_2 2 i_34 i_36) (h46 : mm_acs f_3 2 i_34 i_35 i_37) (h47 : mm_txs f_1 f_2 3 i_40 i_42) (h48 : mm_acs f_3 3 i_40 i_41 i_43) (h49 : mm_f1 f_5 i_0) (h50 : mm_pc 1 i_2)  : mm_CI l yX12_heirsOf (mm_ws yX12_heirsOf cX12_heirsOf 7 (some .int)) ({ frames := 3, cells := 0, slots := 0, locals := 73 } : Room) G cy sz [(a_0, .inr (12, [.int i_3, .ref a_1, .ref a_2, .ref a_3, .ref a_4, .ref a_5, .int i_4, .int i_5, .int i_6, .int i_7, .int i_8, .long j_0, .int i_9, .int i_10, .int i_11, .int i_12, .ref a_6, .ref a_7, .ref a_8, .ref a_9, .ref a_10, .ref a_11, .ref a_12, .ref a_13, .ref a_14, .ref a_15, .ref a_16, .ref a_17, .ref a_18, .int i_13, .int i_14, .int i_15, .int i_16, .int i_17, .int i_18, .ref a_19, .int i_19, .ref a_20])), (a_7, .inl (cy 1, 30, .inl (mm_g [i_20, i_21, i_22, i_23, i_24, i_25, i_26, i_27, i_28, i_29, i_30, i_31, i_32, i_33, i_34, i_35, i_36, i_37, i_38, i_39, i_40, i_41, i_42, i_43, i_44, i_45, i_46, i_47, i_48, i_49]))), (a_8, .inl (cy 1, 90, .inl f_0)), (a_11, .inl (cy 1, 30, .inl f_1)), (a_12, .inl (cy 1, 240, .inl f_2)), (a_13, .inl (cy 1, 450, .inl f_3)), (a_15, .inl (cy 1, 7200, .inl f_4)), (a_16, .inl (cy 1, 3, .inl f_5)), (a_18, .inl (cy 1, 8, .inl f_6))] [.ref a_0, .int i_0, .int i_1, .int i_2] (fun u : Int32 × Int32 × Int32 × (Nat → Int32) => [(a_0, .inr (12, [.int i_3, .ref a_1, .ref a_2, .ref a_3, .ref a_4, .ref a_5, .int i_4, .int i_5, .int i_6, .int i_7, .int i_8, .long j_0, .int i_9, .int i_10, .int i_11, .int i_12, .ref a_6, .ref a_7, .ref a_8, .ref a_9, .ref a_10, .ref a_11, .ref a_12, .ref a_13, .ref a_14, .ref a_15, .ref a_16, .ref a_17, .ref a_18, .int u.1, .int u.2.1, .int u.2.2.1, .int i_16, .int i_17, .int i_18, .ref a_19, .int i_19, .ref a_20])), (a_7, .inl (cy 1, 30, .inl (mm_g [i_20, i_21, i_22, i_23, i_24, i_25, i_26, i_27, i_28, i_29, i_30, i_31, i_32, i_33, i_34, i_35, i_36, i_37, i_38, i_39, i_40, i_41, i_42, i_43, i_44, i_45, i_46, i_47, i_48, i_49]))), (a_8, .inl (cy 1, 90, .inl f_0)), (a_11, .inl (cy 1, 30, .inl f_1)), (a_12, .inl (cy 1, 240, .inl f_2)), (a_13, .inl (cy 1, 450, .inl f_3)), (a_15, .inl (cy 1, 7200, .inl f_4)), (a_16, .inl (cy 1, 3, .inl f_5)), (a_18, .inl (cy 1, 8, .inl u.2.2.2))]) (fun (r : Int32) (u : Int32 × Int32 × Int32 × (Nat → Int32)) => mm_rg u.1 0 8 ∧ mm_ar u.2.2.2 0 9 ∧ mm_rg r (-1000000) 1009999) 0 0 := by
  refine mm_begin (lv := [(0, .ref a_0), (1, .int i_0), (2, .int i_1), (3, .int i_2)]) (by decide) (Nat.le_of_ble_eq_true rfl) rfl ?_
  intro p e s m below meth c A ls R args Q H locs hRe hQ hAe hx hb hr hlocks hml hown hnm hts hsz hA hS hP hK hD hZ hl
  have hRf : R.frames = 3 := by rw [hRe]
  have hRl : R.locals = 73 := by rw [hRe]
  have hRc : R.cells = 0 := by rw [hRe]
  have hRs : R.slots = 0 := by rw [hRe]
  refine lv_iload_n hx hb dX12_heirsOf_0 rfl (lv_at hl 3 rfl) ?_
  refine lv_if_ne (tgt := 8) hx hb dX12_heirsOf_1 (by decide) (fun c1 => ?_) (fun c1 => ?_)
  · have q2 := mm_neL (lo := 1) (mm_ne c1) h2 mm_k0 (by decide) (by decide)
    refine lv_ldcw (v := (-1000000)) hx hb hown (mm_h hts mm_w1460) dX12_heirsOf_8 ?_
    refine lv_istore (lv' := [(4, .int (-1000000)), (0, .ref a_0), (1, .int i_0), (2, .int i_1), (3, .int i_2)]) hx hb dX12_heirsOf_11 hl (by decide) rfl ?_
    clear hl
    clear ls
    intro ls hl
    refine lv_iconst (v := 0) hx hb dX12_heirsOf_13 (by decide) ?_
    refine lv_istore (lv' := [(5, .int 0), (4, .int (-1000000)), (0, .ref a_0), (1, .int i_0), (2, .int i_1), (3, .int i_2)]) hx hb dX12_heirsOf_14 hl (by decide) rfl ?_
    clear hl
    clear ls
    intro ls hl
    have L16_258 : ∀ (n : Nat) (x16_5_253 : Int32) (x16_4_254 : Int32) (y16_0_29_255 : Int32) (y16_0_30_256 : Int32) (y16_0_31_257 : Int32) (z16_8_258 : Nat → Int32), mm_rg x16_5_253 0 6 → mm_rg x16_4_254 (-1000000) 1009999 → mm_rg y16_0_29_255 0 8 → mm_ar z16_8_258 0 9 → (6 - x16_5_253.toInt).toNat < n → ∀ (H : Heap) (locs : List Loc), va_P G vwCl [(a_0, .inr (12, [.int i_3, .ref a_1, .ref a_2, .ref a_3, .ref a_4, .ref a_5, .int i_4, .int i_5, .int i_6, .int i_7, .int i_8, .long j_0, .int i_9, .int i_10, .int i_11, .int i_12, .ref a_6, .ref a_7, .ref a_8, .ref a_9, .ref a_10, .ref a_11, .ref a_12, .ref a_13, .ref a_14, .ref a_15, .ref a_16, .ref a_17, .ref a_18, .int y16_0_29_255, .int y16_0_30_256, .int y16_0_31_257, .int i_16, .int i_17, .int i_18, .ref a_19, .int i_19, .ref a_20])), (a_7, .inl (cy 1, 30, .inl (mm_g [i_20, i_21, i_22, i_23, i_24, i_25, i_26, i_27, i_28, i_29, i_30, i_31, i_32, i_33, i_34, i_35, i_36, i_37, i_38, i_39, i_40, i_41, i_42, i_43, i_44, i_45, i_46, i_47, i_48, i_49]))), (a_8, .inl (cy 1, 90, .inl f_0)), (a_11, .inl (cy 1, 30, .inl f_1)), (a_12, .inl (cy 1, 240, .inl f_2)), (a_13, .inl (cy 1, 450, .inl f_3)), (a_15, .inl (cy 1, 7200, .inl f_4)), (a_16, .inl (cy 1, 3, .inl f_5)), (a_18, .inl (cy 1, 8, .inl z16_8_258))] H → va_D A [(a_0, .inr (12, [.int i_3, .ref a_1, .ref a_2, .ref a_3, .ref a_4, .ref a_5, .int i_4, .int i_5, .int i_6, .int i_7, .int i_8, .long j_0, .int i_9, .int i_10, .int i_11, .int i_12, .ref a_6, .ref a_7, .ref a_8, .ref a_9, .ref a_10, .ref a_11, .ref a_12, .ref a_13, .ref a_14, .ref a_15, .ref a_16, .ref a_17, .ref a_18, .int y16_0_29_255, .int y16_0_30_256, .int y16_0_31_257, .int i_16, .int i_17, .int i_18, .ref a_19, .int i_19, .ref a_20])), (a_7, .inl (cy 1, 30, .inl (mm_g [i_20, i_21, i_22, i_23, i_24, i_25, i_26, i_27, i_28, i_29, i_30, i_31, i_32, i_33, i_34, i_35, i_36, i_37, i_38, i_39, i_40, i_41, i_42, i_43, i_44, i_45, i_46, i_47, i_48, i_49]))), (a_8, .inl (cy 1, 90, .inl f_0)), (a_11, .inl (cy 1, 30, .inl f_1)), (a_12, .inl (cy 1, 240, .inl f_2)), (a_13, .inl (cy 1, 450, .inl f_3)), (a_15, .inl (cy 1, 7200, .inl f_4)), (a_16, .inl (cy 1, 3, .inl f_5)), (a_18, .inl (cy 1, 8, .inl z16_8_258))] → va_S A s.heap H locs → ∀ (ls : Array Slot), lv_has ls 7 [(5, .int x16_5_253), (4, .int x16_4_254), (0, .ref a_0), (1, .int i_0), (2, .int i_1), (3, .int i_2)] → W p l e R s m args below meth c H locs 0 0 Q (F0 m 16 ls []) := by
      intro n
      induction n with
      | zero => intro x16_5_253 x16_4_254 y16_0_29_255 y16_0_30_256 y16_0_31_257 z16_8_258 rx16_5_253 rx16_4_254 ry16_0_29_255 rz16_8_258 hm; exact absurd hm (Nat.not_lt_zero _)
      | succ n ih16 =>
        intro x16_5_253 x16_4_254 y16_0_29_255 y16_0_30_256 y16_0_31_257 z16_8_258 rx16_5_253 rx16_4_254 ry16_0_29_255 rz16_8_258 hm16 H locs hP hD hS ls hl
        refine lv_iload hx hb dX12_heirsOf_16 (lv_at hl 0 rfl) ?_
        refine lv_aload_n hx hb dX12_heirsOf_18 rfl (lv_at hl 2 rfl) ?_
        refine mm_finir (va_runV (As := []) (rest := [.int x16_5_253]) ⟨hx, hb, hml, hown, hts⟩ (M95_X12_texts l G cy H.size a_0 i_3 a_1 a_2 a_3 a_4 a_5 i_4 i_5 i_6 i_7 i_8 j_0 i_9 i_10 i_11 i_12 a_6 a_7 a_8 a_9 a_10 a_11 a_12 a_13 a_14 a_15 a_16 a_17 a_18 y16_0_29_255 y16_0_30_256 y16_0_31_257 i_16 i_17 i_18 a_19 i_19 a_20 i_20 i_21 i_22 i_23 i_24 i_25 i_26 i_27 i_28 i_29 i_30 i_31 i_32 i_33 i_34 i_35 i_36 i_37 i_38 i_39 i_40 i_41 i_42 i_43 i_44 i_45 i_46 i_47 i_48 i_49 h4 h5 h6 h7 h8 h9 h10 h11 h12 h13 h14 h15 h16 h17 h18 h19 h20 h21 h22 h23 h24 h25 h26 h27 h28 h29 h30 h31 h32 h33) (cwV 0 hts (mm_gV mm_w617 mm_w618 mm_w619 mm_w5 mm_w620) rfl rfl rfl hd_X12_texts ⟨by rw [hRf]; exact Nat.le_of_ble_eq_true rfl, by rw [hRl]; exact Nat.le_of_ble_eq_true rfl⟩) (mm_preV hK hZ hS hA hP hD [0, 1] rfl rfl 0 rfl rfl rfl) rfl rfl hl.1 rfl (lv_room (Nat.le_of_ble_eq_true rfl)) dX12_heirsOf_19 ⟨by rw [hRc]; exact Nat.le_of_ble_eq_true rfl, by rw [hRs]; exact Nat.le_of_ble_eq_true rfl⟩) hP hD hS hA [0, 1] rfl (fun _ => rfl) ?_
        clear hP hD hS
        clear H locs
        intro v260 _u H locs hw hP hD hS
        subst hw
        refine lv_icmp_ge (tgt := 86) hx hb dX12_heirsOf_22 (by decide) (fun c261 => ?_) (fun c261 => ?_)
        · refine lv_iload hx hb dX12_heirsOf_86 (lv_at hl 1 rfl) ?_
          subst hAe
          rw [hQ]
          exact W.iret (v := x16_4_254) hx hb hr (fun t ht hW => ⟨⟨x16_4_254, (y16_0_29_255, y16_0_30_256, y16_0_31_257, z16_8_258), rfl, ⟨ry16_0_29_255, rz16_8_258, rx16_4_254⟩, by rw [ht]; exact hP, hK.warm hW, hD⟩, hS.F ht⟩) hS.2.2 dX12_heirsOf_88
        · have q262 := mm_ltL (h := 5) (mm_nle c261) rx16_5_253 h8 (by decide)
          have q263 := mm_ltR (lo := 1) (mm_nle c261) rx16_5_253 h8 (by decide)
          refine lv_iload_n hx hb dX12_heirsOf_25 rfl (lv_at hl 5 rfl) ?_
          refine lv_iload hx hb dX12_heirsOf_26 (lv_at hl 0 rfl) ?_
          refine mm_finir (va_runS (As := [.int i_2, .int x16_5_253]) (rest := []) ⟨hx, hb, hml, hown, hts⟩ (M232_X12_isBit l G cy H.size i_2 x16_5_253 (mm_wk q2 (by decide)) q262) (va_cwS 2 hts (mm_gS mm_w1461 mm_w1462 mm_w5 mm_w1463) rfl rfl rfl hs_X12_isBit ⟨by rw [hRf]; exact Nat.le_of_ble_eq_true rfl, by rw [hRl]; exact Nat.le_of_ble_eq_true rfl⟩) (mm_preS hK hZ hS hA hP hD [] rfl rfl) rfl rfl hl.1 rfl (lv_room (Nat.le_of_ble_eq_true rfl)) dX12_heirsOf_28 ⟨by rw [hRc]; exact Nat.le_of_ble_eq_true rfl, by rw [hRs]; exact Nat.le_of_ble_eq_true rfl⟩) hP hD hS hA [] rfl (fun _ => rfl) ?_
          clear hP hD hS
          clear H locs
          intro v264 _u H locs hw hP hD hS
          rcases hw with ⟨rfl, w265⟩ | ⟨rfl, w266⟩
          · refine lv_if_ne (tgt := 37) hx hb dX12_heirsOf_31 (by decide) (fun c267 => ?_) (fun c267 => ?_)
            · have q268 := mm_neL (lo := 1) (mm_ne c267) mm_k0 mm_k0 (by decide) (by decide)
              exact mm_no q268 (by decide)
            · refine lv_goto (tgt := 80) hx hb dX12_heirsOf_34 (by decide) ?_
              obtain ⟨v269, ev269⟩ : ∃ y : Int32, y = x16_5_253 + 1 := ⟨_, rfl⟩
              refine lv_iinc (v := v269) (lv' := [(5, .int v269), (4, .int x16_4_254), (0, .ref a_0), (1, .int i_0), (2, .int i_1), (3, .int i_2)]) hx hb dX12_heirsOf_80 hl (k := 0) rfl (by rw [ev269]; rfl) (by decide) rfl ?_
              clear hl
              clear ls
              intro ls hl
              have rv269 : mm_rg v269 1 6 := mm_add ev269 q262 mm_k1 (by decide) (by decide)
              have tv269 := mm_addEc ev269 q262 mm_k1 (by decide) (k := 1) (by decide)
              refine lv_goto (tgt := 16) hx hb dX12_heirsOf_83 (by decide) ?_
              exact ih16 v269 x16_4_254 y16_0_29_255 y16_0_30_256 y16_0_31_257 z16_8_258 (mm_wk rv269 (by decide)) rx16_4_254 ry16_0_29_255 rz16_8_258 (mm_mu hm16 tv269 (by decide) (rv269).2 (by decide)) H locs hP hD hS ls (lv_sub hl [0, 1, 2, 3, 4, 5] rfl)
          · refine lv_if_ne (tgt := 37) hx hb dX12_heirsOf_31 (by decide) (fun c270 => ?_) (fun c270 => ?_)
            · refine lv_aload_n hx hb dX12_heirsOf_37 rfl (lv_at hl 2 rfl) ?_
              refine lv_iload_n hx hb dX12_heirsOf_38 rfl (lv_at hl 3 rfl) ?_
              refine lv_iload_n hx hb dX12_heirsOf_39 rfl (lv_at hl 4 rfl) ?_
              refine lv_iload hx hb dX12_heirsOf_40 (lv_at hl 0 rfl) ?_
              refine mm_fini (va_runV (As := [.int i_0, .int i_1, .int x16_5_253]) (rest := []) ⟨hx, hb, hml, hown, hts⟩ (M141_X12_reads l G cy H.size a_0 i_0 i_1 x16_5_253 i_3 a_1 a_2 a_3 a_4 a_5 i_4 i_5 i_6 i_7 i_8 j_0 i_9 i_10 i_11 i_12 a_6 a_7 a_8 a_9 a_10 a_11 a_12 a_13 a_14 a_15 a_16 a_17 a_18 y16_0_29_255 y16_0_30_256 y16_0_31_257 i_16 i_17 i_18 a_19 i_19 a_20 i_20 i_21 i_22 i_23 i_24 i_25 i_26 i_27 i_28 i_29 i_30 i_31 i_32 i_33 i_34 i_35 i_36 i_37 i_38 i_39 i_40 i_41 i_42 i_43 i_44 i_45 i_46 i_47 i_48 i_49 f_0 f_1 f_2 f_3 f_4 f_5 z16_8_258 h0 (mm_wk h1 (by decide)) q262 ry16_0_29_255 h4 h5 h6 h7 (mm_wk q263 (by decide)) h9 h10 h11 h12 h13 h14 h15 h16 h17 h18 h19 h20 h21 h22 h23 h24 h25 h26 h27 h28 h29 h30 h31 h32 h33 h34 h35 h36 h37 h38 h39 rz16_8_258 h41 h42 h43 h44 h45 h46 h47 h48 h49) (cwV 3 hts (mm_gV mm_w852 mm_w853 mm_w854 mm_w5 mm_w855) rfl rfl rfl hd_X12_reads ⟨by rw [hRf]; exact Nat.le_of_ble_eq_true rfl, by rw [hRl]; exact Nat.le_of_ble_eq_true rfl⟩) (mm_preV hK hZ hS hA hP hD [0, 1, 2, 3, 4, 5, 6, 7, 8] rfl rfl 0 rfl rfl rfl) rfl rfl hl.1 rfl (lv_room (Nat.le_of_ble_eq_true rfl)) dX12_heirsOf_42 ⟨by rw [hRc]; exact Nat.le_of_ble_eq_true rfl, by rw [hRs]; exact Nat.le_of_ble_eq_true rfl⟩) hP hD hS hA (fun u : Int32 × Int32 × Int32 × (Nat → Int32) => [(a_0, .inr (12, [.int i_3, .ref a_1, .ref a_2, .ref a_3, .ref a_4, .ref a_5, .int i_4, .int i_5, .int i_6, .int i_7, .int i_8, .long j_0, .int i_9, .int i_10, .int i_11, .int i_12, .ref a_6, .ref a_7, .ref a_8, .ref a_9, .ref a_10, .ref a_11, .ref a_12, .ref a_13, .ref a_14, .ref a_15, .ref a_16, .ref a_17, .ref a_18, .int u.1, .int u.2.1, .int u.2.2.1, .int i_16, .int i_17, .int i_18, .ref a_19, .int i_19, .ref a_20])), (a_7, .inl (cy 1, 30, .inl (mm_g [i_20, i_21, i_22, i_23, i_24, i_25, i_26, i_27, i_28, i_29, i_30, i_31, i_32, i_33, i_34, i_35, i_36, i_37, i_38, i_39, i_40, i_41, i_42, i_43, i_44, i_45, i_46, i_47, i_48, i_49]))), (a_8, .inl (cy 1, 90, .inl f_0)), (a_11, .inl (cy 1, 30, .inl f_1)), (a_12, .inl (cy 1, 240, .inl f_2)), (a_13, .inl (cy 1, 450, .inl f_3)), (a_15, .inl (cy 1, 7200, .inl f_4)), (a_16, .inl (cy 1, 3, .inl f_5)), (a_18, .inl (cy 1, 8, .inl u.2.2.2))]) [0, 1, 2, 3, 4, 5, 6, 7, 8] [] (n := 9) (fun _ => rfl) (by decide +kernel) (by decide +kernel) rfl (fun _ => rfl) (wr := []) rfl (fun _ => rfl) (fun _ => @rfl _ ([a_0, a_7, a_8, a_11, a_12, a_13, a_15, a_16, a_18] : List Nat)) ?_
              clear hP hD hS
              clear H locs
              intro v275 u
              obtain ⟨n271, n272, n273, n274⟩ := u
              intro H locs hw (hP : va_P G vwCl [(a_0, .inr (12, [.int i_3, .ref a_1, .ref a_2, .ref a_3, .ref a_4, .ref a_5, .int i_4, .int i_5, .int i_6, .int i_7, .int i_8, .long j_0, .int i_9, .int i_10, .int i_11, .int i_12, .ref a_6, .ref a_7, .ref a_8, .ref a_9, .ref a_10, .ref a_11, .ref a_12, .ref a_13, .ref a_14, .ref a_15, .ref a_16, .ref a_17, .ref a_18, .int n271, .int n272, .int n273, .int i_16, .int i_17, .int i_18, .ref a_19, .int i_19, .ref a_20])), (a_7, .inl (cy 1, 30, .inl (mm_g [i_20, i_21, i_22, i_23, i_24, i_25, i_26, i_27, i_28, i_29, i_30, i_31, i_32, i_33, i_34, i_35, i_36, i_37, i_38, i_39, i_40, i_41, i_42, i_43, i_44, i_45, i_46, i_47, i_48, i_49]))), (a_8, .inl (cy 1, 90, .inl f_0)), (a_11, .inl (cy 1, 30, .inl f_1)), (a_12, .inl (cy 1, 240, .inl f_2)), (a_13, .inl (cy 1, 450, .inl f_3)), (a_15, .inl (cy 1, 7200, .inl f_4)), (a_16, .inl (cy 1, 3, .inl f_5)), (a_18, .inl (cy 1, 8, .inl n274))] H) (hD : va_D A [(a_0, .inr (12, [.int i_3, .ref a_1, .ref a_2, .ref a_3, .ref a_4, .ref a_5, .int i_4, .int i_5, .int i_6, .int i_7, .int i_8, .long j_0, .int i_9, .int i_10, .int i_11, .int i_12, .ref a_6, .ref a_7, .ref a_8, .ref a_9, .ref a_10, .ref a_11, .ref a_12, .ref a_13, .ref a_14, .ref a_15, .ref a_16, .ref a_17, .ref a_18, .int n271, .int n272, .int n273, .int i_16, .int i_17, .int i_18, .ref a_19, .int i_19, .ref a_20])), (a_7, .inl (cy 1, 30, .inl (mm_g [i_20, i_21, i_22, i_23, i_24, i_25, i_26, i_27, i_28, i_29, i_30, i_31, i_32, i_33, i_34, i_35, i_36, i_37, i_38, i_39, i_40, i_41, i_42, i_43, i_44, i_45, i_46, i_47, i_48, i_49]))), (a_8, .inl (cy 1, 90, .inl f_0)), (a_11, .inl (cy 1, 30, .inl f_1)), (a_12, .inl (cy 1, 240, .inl f_2)), (a_13, .inl (cy 1, 450, .inl f_3)), (a_15, .inl (cy 1, 7200, .inl f_4)), (a_16, .inl (cy 1, 3, .inl f_5)), (a_18, .inl (cy 1, 8, .inl n274))]) hS
              obtain ⟨w276, w277, hw⟩ := hw
              obtain ⟨w278, w279⟩ := hw
              replace w279 : mm_rd f_4 f_5 f_0 f_1 f_2 f_3 i_0 i_1 x16_5_253 i_21 i_22 i_25 v275 := w279
              refine lv_aload_n hx hb dX12_heirsOf_45 rfl (lv_at hl 2 rfl) ?_
              refine lv_iload_n hx hb dX12_heirsOf_46 rfl (lv_at hl 3 rfl) ?_
              refine lv_iload_n hx hb dX12_heirsOf_47 rfl (lv_at hl 4 rfl) ?_
              refine lv_iconst (v := 1) hx hb dX12_heirsOf_48 (by decide) ?_
              refine lv_iadd hx hb dX12_heirsOf_49 ?_
              refine lv_topi (fun v280 ev280 => ?_)
              have rv280 : mm_rg v280 1 1000000007 := mm_add ev280 h1 mm_k1 (by decide) (by decide)
              have tv280 := mm_addEc ev280 h1 mm_k1 (by decide) (k := 1) (by decide)
              refine lv_iload_n hx hb dX12_heirsOf_50 rfl (lv_at hl 5 rfl) ?_
              refine lv_iconst (v := 1) hx hb dX12_heirsOf_51 (by decide) ?_
              refine lv_iload hx hb dX12_heirsOf_52 (lv_at hl 0 rfl) ?_
              refine lv_ishl hx hb dX12_heirsOf_54 ?_
              refine lv_topi (fun v281 ev281 => ?_)
              have rv281 : mm_rg v281 1 32 := mm_shl1 ev281 q262 (by decide)
              refine lv_iconst (v := (-1)) hx hb dX12_heirsOf_55 (by decide) ?_
              refine lv_ixor hx hb dX12_heirsOf_56 ?_
              refine lv_topi (fun v282 ev282 => ?_)
              refine lv_iand hx hb dX12_heirsOf_57 ?_
              refine lv_topi (fun v283 ev283 => ?_)
              have rv283 : mm_rg v283 0 63 := mm_andL ev283 q2 (by decide)
              refine mm_finir (va_runV (As := [.int i_0, .int v280, .int v283]) (rest := [.int v275]) ⟨hx, hb, hml, hown, hts⟩ (M233_X12_heirsOf l G cy H.size a_0 i_0 v280 v283 i_3 a_1 a_2 a_3 a_4 a_5 i_4 i_5 i_6 i_7 i_8 j_0 i_9 i_10 i_11 i_12 a_6 a_7 a_8 a_9 a_10 a_11 a_12 a_13 a_14 a_15 a_16 a_17 a_18 n271 n272 n273 i_16 i_17 i_18 a_19 i_19 a_20 i_20 i_21 i_22 i_23 i_24 i_25 i_26 i_27 i_28 i_29 i_30 i_31 i_32 i_33 i_34 i_35 i_36 i_37 i_38 i_39 i_40 i_41 i_42 i_43 i_44 i_45 i_46 i_47 i_48 i_49 h0 (mm_wk rv280 (by decide)) rv283 h4 h5 h6 h7 (mm_wk q263 (by decide)) h9 h10 h11 h12 h13 h14 h15 h16 h17 h18 h19 h20 h21 h22 h23 h24 h25 h26 h27 h28 h29 h30 h31 h32 h33 (mm_pc_cut h50 w266 ev281 ev282 ev283 q2 q262 (by decide))) (cwV 3 hts (mm_gV mm_w1456 mm_w1457 mm_w1458 mm_w5 mm_w1459) rfl rfl rfl hd_X12_heirsOf ⟨by rw [hRf]; exact Nat.le_of_ble_eq_true rfl, by rw [hRl]; exact Nat.le_of_ble_eq_true rfl⟩) (mm_preV hK hZ hS hA hP hD [0, 1] rfl rfl 0 rfl rfl rfl) rfl rfl hl.1 rfl (lv_room (Nat.le_of_ble_eq_true rfl)) dX12_heirsOf_58 ⟨by rw [hRc]; exact Nat.le_of_ble_eq_true rfl, by rw [hRs]; exact Nat.le_of_ble_eq_true rfl⟩) hP hD hS hA [0, 1] rfl (fun _ => rfl) ?_
              clear hP hD hS
              clear H locs
              intro v284 _u H locs hw hP hD hS
              have w285 := hw
              refine lv_isub hx hb dX12_heirsOf_61 ?_
              refine lv_topi (fun v286 ev286 => ?_)
              have rv286 : mm_rg v286 0 1009999 := mm_sub ev286 w278 w285 (by decide) (by decide)
              have tv286 := mm_subE ev286 w278 w285 (by decide)
              refine lv_istore (lv' := [(6, .int v286), (5, .int x16_5_253), (4, .int x16_4_254), (0, .ref a_0), (1, .int i_0), (2, .int i_1), (3, .int i_2)]) hx hb dX12_heirsOf_62 hl (by decide) rfl ?_
              clear hl
              clear ls
              intro ls hl
              refine lv_iload hx hb dX12_heirsOf_64 (lv_at hl 0 rfl) ?_
              refine lv_iload hx hb dX12_heirsOf_66 (lv_at hl 2 rfl) ?_
              refine lv_icmp_le (tgt := 76) hx hb dX12_heirsOf_68 (by decide) (fun c287 => ?_) (fun c287 => ?_)
              · have q288 := mm_leR (mm_le c287) rv286 rx16_4_254
                refine lv_iload hx hb dX12_heirsOf_76 (lv_at hl 2 rfl) ?_
                refine lv_istore (lv' := [(4, .int x16_4_254), (6, .int v286), (5, .int x16_5_253), (0, .ref a_0), (1, .int i_0), (2, .int i_1), (3, .int i_2)]) hx hb dX12_heirsOf_78 hl (by decide) rfl ?_
                clear hl
                clear ls
                intro ls hl
                obtain ⟨v289, ev289⟩ : ∃ y : Int32, y = x16_5_253 + 1 := ⟨_, rfl⟩
                refine lv_iinc (v := v289) (lv' := [(5, .int v289), (4, .int x16_4_254), (6, .int v286), (0, .ref a_0), (1, .int i_0), (2, .int i_1), (3, .int i_2)]) hx hb dX12_heirsOf_80 hl (k := 2) rfl (by rw [ev289]; rfl) (by decide) rfl ?_
                clear hl
                clear ls
                intro ls hl
                have rv289 : mm_rg v289 1 6 := mm_add ev289 q262 mm_k1 (by decide) (by decide)
                have tv289 := mm_addEc ev289 q262 mm_k1 (by decide) (k := 1) (by decide)
                refine lv_goto (tgt := 16) hx hb dX12_heirsOf_83 (by decide) ?_
                exact ih16 v289 x16_4_254 n271 n272 n273 n274 (mm_wk rv289 (by decide)) (mm_wk q288 (by decide)) w276 w277 (mm_mu hm16 tv289 (by decide) (rv289).2 (by decide)) H locs hP hD hS ls (lv_sub hl [0, 1, 3, 4, 5, 6] rfl)
              · have q290 := mm_ltL (h := 1009998) (mm_nle c287) rx16_4_254 rv286 (by decide)
                refine lv_iload hx hb dX12_heirsOf_71 (lv_at hl 0 rfl) ?_
                refine lv_goto (tgt := 78) hx hb dX12_heirsOf_73 (by decide) ?_
                refine lv_istore (lv' := [(4, .int v286), (6, .int v286), (5, .int x16_5_253), (0, .ref a_0), (1, .int i_0), (2, .int i_1), (3, .int i_2)]) hx hb dX12_heirsOf_78 hl (by decide) rfl ?_
                clear hl
                clear ls
                intro ls hl
                obtain ⟨v291, ev291⟩ : ∃ y : Int32, y = x16_5_253 + 1 := ⟨_, rfl⟩
                refine lv_iinc (v := v291) (lv' := [(5, .int v291), (4, .int v286), (6, .int v286), (0, .ref a_0), (1, .int i_0), (2, .int i_1), (3, .int i_2)]) hx hb dX12_heirsOf_80 hl (k := 2) rfl (by rw [ev291]; rfl) (by decide) rfl ?_
                clear hl
                clear ls
                intro ls hl
                have rv291 : mm_rg v291 1 6 := mm_add ev291 q262 mm_k1 (by decide) (by decide)
                have tv291 := mm_addEc ev291 q262 mm_k1 (by decide) (k := 1) (by decide)
                refine lv_goto (tgt := 16) hx hb dX12_heirsOf_83 (by decide) ?_
                exact ih16 v291 v286 n271 n272 n273 n274 (mm_wk rv291 (by decide)) (mm_wk rv286 (by decide)) w276 w277 (mm_mu hm16 tv291 (by decide) (rv291).2 (by decide)) H locs hP hD hS ls (lv_sub hl [0, 1, 3, 4, 5, 6] rfl)
            · exact mm_eqN c270.symm mm_k0 mm_k1 (by decide)
    exact L16_258 _ 0 (-1000000) i_13 i_14 i_15 f_6 (mm_wk mm_k0 (by decide)) (mm_wk mm_km1000000 (by decide)) h3 h40 (Nat.lt_succ_self _) H locs hP hD hS ls (lv_sub hl [0, 1, 2, 3, 4, 5] rfl)
  · have q292 := mm_eqI (lo := 0) (hi := 0) c1 h2 mm_k0 (by decide)
    refine lv_iconst (v := 0) hx hb dX12_heirsOf_4 (by decide) ?_
    refine lv_goto (tgt := 11) hx hb dX12_heirsOf_5 (by decide) ?_
    refine lv_istore (lv' := [(4, .int 0), (0, .ref a_0), (1, .int i_0), (2, .int i_1), (3, .int i_2)]) hx hb dX12_heirsOf_11 hl (by decide) rfl ?_
    clear hl
    clear ls
    intro ls hl
    refine lv_iconst (v := 0) hx hb dX12_heirsOf_13 (by decide) ?_
    refine lv_istore (lv' := [(5, .int 0), (4, .int 0), (0, .ref a_0), (1, .int i_0), (2, .int i_1), (3, .int i_2)]) hx hb dX12_heirsOf_14 hl (by decide) rfl ?_
    clear hl
    clear ls
    intro ls hl
    have L16_372 : ∀ (n : Nat) (x16_5_372 : Int32), mm_rg x16_5_372 0 6 → (6 - x16_5_372.toInt).toNat < n → ∀ (H : Heap) (locs : List Loc), va_P G vwCl [(a_0, .inr (12, [.int i_3, .ref a_1, .ref a_2, .ref a_3, .ref a_4, .ref a_5, .int i_4, .int i_5, .int i_6, .int i_7, .int i_8, .long j_0, .int i_9, .int i_10, .int i_11, .int i_12, .ref a_6, .ref a_7, .ref a_8, .ref a_9, .ref a_10, .ref a_11, .ref a_12, .ref a_13, .ref a_14, .ref a_15, .ref a_16, .ref a_17, .ref a_18, .int i_13, .int i_14, .int i_15, .int i_16, .int i_17, .int i_18, .ref a_19, .int i_19, .ref a_20])), (a_7, .inl (cy 1, 30, .inl (mm_g [i_20, i_21, i_22, i_23, i_24, i_25, i_26, i_27, i_28, i_29, i_30, i_31, i_32, i_33, i_34, i_35, i_36, i_37, i_38, i_39, i_40, i_41, i_42, i_43, i_44, i_45, i_46, i_47, i_48, i_49]))), (a_8, .inl (cy 1, 90, .inl f_0)), (a_11, .inl (cy 1, 30, .inl f_1)), (a_12, .inl (cy 1, 240, .inl f_2)), (a_13, .inl (cy 1, 450, .inl f_3)), (a_15, .inl (cy 1, 7200, .inl f_4)), (a_16, .inl (cy 1, 3, .inl f_5)), (a_18, .inl (cy 1, 8, .inl f_6))] H → va_D A [(a_0, .inr (12, [.int i_3, .ref a_1, .ref a_2, .ref a_3, .ref a_4, .ref a_5, .int i_4, .int i_5, .int i_6, .int i_7, .int i_8, .long j_0, .int i_9, .int i_10, .int i_11, .int i_12, .ref a_6, .ref a_7, .ref a_8, .ref a_9, .ref a_10, .ref a_11, .ref a_12, .ref a_13, .ref a_14, .ref a_15, .ref a_16, .ref a_17, .ref a_18, .int i_13, .int i_14, .int i_15, .int i_16, .int i_17, .int i_18, .ref a_19, .int i_19, .ref a_20])), (a_7, .inl (cy 1, 30, .inl (mm_g [i_20, i_21, i_22, i_23, i_24, i_25, i_26, i_27, i_28, i_29, i_30, i_31, i_32, i_33, i_34, i_35, i_36, i_37, i_38, i_39, i_40, i_41, i_42, i_43, i_44, i_45, i_46, i_47, i_48, i_49]))), (a_8, .inl (cy 1, 90, .inl f_0)), (a_11, .inl (cy 1, 30, .inl f_1)), (a_12, .inl (cy 1, 240, .inl f_2)), (a_13, .inl (cy 1, 450, .inl f_3)), (a_15, .inl (cy 1, 7200, .inl f_4)), (a_16, .inl (cy 1, 3, .inl f_5)), (a_18, .inl (cy 1, 8, .inl f_6))] → va_S A s.heap H locs → ∀ (ls : Array Slot), lv_has ls 7 [(5, .int x16_5_372), (4, .int 0), (0, .ref a_0), (1, .int i_0), (2, .int i_1), (3, .int i_2)] → W p l e R s m args below meth c H locs 0 0 Q (F0 m 16 ls []) := by
      intro n
      induction n with
      | zero => intro x16_5_372 rx16_5_372 hm; exact absurd hm (Nat.not_lt_zero _)
      | succ n ih16 =>
        intro x16_5_372 rx16_5_372 hm16 H locs hP hD hS ls hl
        refine lv_iload hx hb dX12_heirsOf_16 (lv_at hl 0 rfl) ?_
        refine lv_aload_n hx hb dX12_heirsOf_18 rfl (lv_at hl 2 rfl) ?_
        refine mm_finir (va_runV (As := []) (rest := [.int x16_5_372]) ⟨hx, hb, hml, hown, hts⟩ (M95_X12_texts l G cy H.size a_0 i_3 a_1 a_2 a_3 a_4 a_5 i_4 i_5 i_6 i_7 i_8 j_0 i_9 i_10 i_11 i_12 a_6 a_7 a_8 a_9 a_10 a_11 a_12 a_13 a_14 a_15 a_16 a_17 a_18 i_13 i_14 i_15 i_16 i_17 i_18 a_19 i_19 a_20 i_20 i_21 i_22 i_23 i_24 i_25 i_26 i_27 i_28 i_29 i_30 i_31 i_32 i_33 i_34 i_35 i_36 i_37 i_38 i_39 i_40 i_41 i_42 i_43 i_44 i_45 i_46 i_47 i_48 i_49 h4 h5 h6 h7 h8 h9 h10 h11 h12 h13 h14 h15 h16 h17 h18 h19 h20 h21 h22 h23 h24 h25 h26 h27 h28 h29 h30 h31 h32 h33) (cwV 0 hts (mm_gV mm_w617 mm_w618 mm_w619 mm_w5 mm_w620) rfl rfl rfl hd_X12_texts ⟨by rw [hRf]; exact Nat.le_of_ble_eq_true rfl, by rw [hRl]; exact Nat.le_of_ble_eq_true rfl⟩) (mm_preV hK hZ hS hA hP hD [0, 1] rfl rfl 0 rfl rfl rfl) rfl rfl hl.1 rfl (lv_room (Nat.le_of_ble_eq_true rfl)) dX12_heirsOf_19 ⟨by rw [hRc]; exact Nat.le_of_ble_eq_true rfl, by rw [hRs]; exact Nat.le_of_ble_eq_true rfl⟩) hP hD hS hA [0, 1] rfl (fun _ => rfl) ?_
        clear hP hD hS
        clear H locs
        intro v374 _u H locs hw hP hD hS
        subst hw
        refine lv_icmp_ge (tgt := 86) hx hb dX12_heirsOf_22 (by decide) (fun c375 => ?_) (fun c375 => ?_)
        · refine lv_iload hx hb dX12_heirsOf_86 (lv_at hl 1 rfl) ?_
          subst hAe
          rw [hQ]
          exact W.iret (v := 0) hx hb hr (fun t ht hW => ⟨⟨0, (i_13, i_14, i_15, f_6), rfl, ⟨h3, h40, (mm_wk mm_k0 (by decide))⟩, by rw [ht]; exact hP, hK.warm hW, hD⟩, hS.F ht⟩) hS.2.2 dX12_heirsOf_88
        · have q376 := mm_ltL (h := 5) (mm_nle c375) rx16_5_372 h8 (by decide)
          have q377 := mm_ltR (lo := 1) (mm_nle c375) rx16_5_372 h8 (by decide)
          refine lv_iload_n hx hb dX12_heirsOf_25 rfl (lv_at hl 5 rfl) ?_
          refine lv_iload hx hb dX12_heirsOf_26 (lv_at hl 0 rfl) ?_
          refine mm_finir (va_runS (As := [.int i_2, .int x16_5_372]) (rest := []) ⟨hx, hb, hml, hown, hts⟩ (M232_X12_isBit l G cy H.size i_2 x16_5_372 (mm_wk q292 (by decide)) q376) (va_cwS 2 hts (mm_gS mm_w1461 mm_w1462 mm_w5 mm_w1463) rfl rfl rfl hs_X12_isBit ⟨by rw [hRf]; exact Nat.le_of_ble_eq_true rfl, by rw [hRl]; exact Nat.le_of_ble_eq_true rfl⟩) (mm_preS hK hZ hS hA hP hD [] rfl rfl) rfl rfl hl.1 rfl (lv_room (Nat.le_of_ble_eq_true rfl)) dX12_heirsOf_28 ⟨by rw [hRc]; exact Nat.le_of_ble_eq_true rfl, by rw [hRs]; exact Nat.le_of_ble_eq_true rfl⟩) hP hD hS hA [] rfl (fun _ => rfl) ?_
          clear hP hD hS
          clear H locs
          intro v378 _u H locs hw hP hD hS
          rcases hw with ⟨rfl, w379⟩ | ⟨rfl, w380⟩
          · refine lv_if_ne (tgt := 37) hx hb dX12_heirsOf_31 (by decide) (fun c381 => ?_) (fun c381 => ?_)
            · have q382 := mm_neL (lo := 1) (mm_ne c381) mm_k0 mm_k0 (by decide) (by decide)
              exact mm_no q382 (by decide)
            · refine lv_goto (tgt := 80) hx hb dX12_heirsOf_34 (by decide) ?_
              obtain ⟨v383, ev383⟩ : ∃ y : Int32, y = x16_5_372 + 1 := ⟨_, rfl⟩
              refine lv_iinc (v := v383) (lv' := [(5, .int v383), (4, .int 0), (0, .ref a_0), (1, .int i_0), (2, .int i_1), (3, .int i_2)]) hx hb dX12_heirsOf_80 hl (k := 0) rfl (by rw [ev383]; rfl) (by decide) rfl ?_
              clear hl
              clear ls
              intro ls hl
              have rv383 : mm_rg v383 1 6 := mm_add ev383 q376 mm_k1 (by decide) (by decide)
              have tv383 := mm_addEc ev383 q376 mm_k1 (by decide) (k := 1) (by decide)
              refine lv_goto (tgt := 16) hx hb dX12_heirsOf_83 (by decide) ?_
              exact ih16 v383 (mm_wk rv383 (by decide)) (mm_mu hm16 tv383 (by decide) (rv383).2 (by decide)) H locs hP hD hS ls (lv_sub hl [0, 1, 2, 3, 4, 5] rfl)
          · exact mm_bit_no w380 q292 (by decide)
    exact L16_372 _ 0 (mm_wk mm_k0 (by decide)) (Nat.lt_succ_self _) H locs hP hD hS ls (lv_sub hl [0, 1, 2, 3, 4, 5] rfl)

set_option maxHeartbeats 4000000 in
set_option maxRecDepth 100000 in
theorem M235_X12_heirsOf (l : Launch) (G : va_G) (cy : Nat → ClassId) (sz : Nat) (a_0 : Nat) (i_0 : Int32) (i_1 : Int32) (i_2 : Int32) (i_3 : Int32) (a_1 : Nat) (a_2 : Nat) (a_3 : Nat) (a_4 : Nat) (a_5 : Nat) (i_4 : Int32) (i_5 : Int32) (i_6 : Int32) (i_7 : Int32) (i_8 : Int32) (j_0 : Int64) (i_9 : Int32) (i_10 : Int32) (i_11 : Int32) (i_12 : Int32) (a_6 : Nat) (a_7 : Nat) (a_8 : Nat) (a_9 : Nat) (a_10 : Nat) (a_11 : Nat) (a_12 : Nat) (a_13 : Nat) (a_14 : Nat) (a_15 : Nat) (a_16 : Nat) (a_17 : Nat) (a_18 : Nat) (i_13 : Int32) (i_14 : Int32) (i_15 : Int32) (i_16 : Int32) (i_17 : Int32) (i_18 : Int32) (a_19 : Nat) (i_19 : Int32) (a_20 : Nat) (i_20 : Int32) (i_21 : Int32) (i_22 : Int32) (i_23 : Int32) (i_24 : Int32) (i_25 : Int32) (i_26 : Int32) (i_27 : Int32) (i_28 : Int32) (i_29 : Int32) (i_30 : Int32) (i_31 : Int32) (i_32 : Int32) (i_33 : Int32) (i_34 : Int32) (i_35 : Int32) (i_36 : Int32) (i_37 : Int32) (i_38 : Int32) (i_39 : Int32) (i_40 : Int32) (i_41 : Int32) (i_42 : Int32) (i_43 : Int32) (i_44 : Int32) (i_45 : Int32) (i_46 : Int32) (i_47 : Int32) (i_48 : Int32) (i_49 : Int32) (f_0 : Nat → Int32) (f_1 : Nat → Int32) (f_2 : Nat → Int32) (f_3 : Nat → Int32) (f_4 : Nat → Int32) (f_5 : Nat → Int32) (f_6 : Nat → Int32) (h0 : mm_rg i_0 0 2) (h1 : mm_rg i_1 0 1000000005) (h2 : mm_rg i_2 0 63) (h3 : mm_rg i_13 0 8) (h4 : mm_rg i_20 0 10) (h5 : mm_rg i_21 0 99) (h6 : mm_rg i_22 0 9) (h7 : mm_rg i_23 0 3) (h8 : mm_rg i_24 0 6) (h9 : mm_rg i_25 0 30) (h10 : mm_rg i_26 0 10) (h11 : mm_rg i_27 0 99) (h12 : mm_rg i_28 0 9) (h13 : mm_rg i_29 0 3) (h14 : mm_rg i_30 0 6) (h15 : mm_rg i_31 0 30) (h16 : mm_rg i_32 0 10) (h17 : mm_rg i_33 0 99) (h18 : mm_rg i_34 0 9) (h19 : mm_rg i_35 0 3) (h20 : mm_rg i_36 0 6) (h21 : mm_rg i_37 0 30) (h22 : mm_rg i_38 0 10) (h23 : mm_rg i_39 0 99) (h24 : mm_rg i_40 0 9) (h25 : mm_rg i_41 0 3) (h26 : mm_rg i_42 0 6) (h27 : mm_rg i_43 0 30) (h28 : mm_rg i_44 0 10) (h29 : mm_rg i_45 0 99) (h30 : mm_rg i_46 0 9) (h31 : mm_rg i_47 0 3) (h32 : mm_rg i_48 0 6) (h33 : mm_rg i_49 0 30) (h34 : mm_ar f_0 0 99) (h35 : mm_ar f_1 0 8) (h36 : mm_ar f_2 0 9) (h37 : mm_ar f_3 (-1) 99) (h38 : mm_ar f_4 0 9) (h39 : mm_ar f_5 0 210) (h40 : mm_ar f_6 0 9) (h41 : mm_txs f_1 f_2 0 i_22 i_24) (h42 : mm_acs f_3 0 i_22 i_23 i_25) (h43 : mm_txs f_1 f_2 1 i_28 i_30) (h44 : mm_acs f_3 1 i_28 i_29 i_31) (h45 : mm_txs f_1 f_2 2 i_34 i_36) (h46 : mm_acs f_3 2 i_34 i_35 i_37) (h47 : mm_txs f_1 f_2 3 i_40 i_42) (h48 : mm_acs f_3 3 i_40 i_41 i_43) (h49 : mm_f1 f_5 i_0) (h50 : mm_pc 2 i_2)  : mm_CI l yX12_heirsOf (mm_ws yX12_heirsOf cX12_heirsOf 7 (some .int)) ({ frames := 4, cells := 0, slots := 0, locals := 99 } : Room) G cy sz [(a_0, .inr (12, [.int i_3, .ref a_1, .ref a_2, .ref a_3, .ref a_4, .ref a_5, .int i_4, .int i_5, .int i_6, .int i_7, .int i_8, .long j_0, .int i_9, .int i_10, .int i_11, .int i_12, .ref a_6, .ref a_7, .ref a_8, .ref a_9, .ref a_10, .ref a_11, .ref a_12, .ref a_13, .ref a_14, .ref a_15, .ref a_16, .ref a_17, .ref a_18, .int i_13, .int i_14, .int i_15, .int i_16, .int i_17, .int i_18, .ref a_19, .int i_19, .ref a_20])), (a_7, .inl (cy 1, 30, .inl (mm_g [i_20, i_21, i_22, i_23, i_24, i_25, i_26, i_27, i_28, i_29, i_30, i_31, i_32, i_33, i_34, i_35, i_36, i_37, i_38, i_39, i_40, i_41, i_42, i_43, i_44, i_45, i_46, i_47, i_48, i_49]))), (a_8, .inl (cy 1, 90, .inl f_0)), (a_11, .inl (cy 1, 30, .inl f_1)), (a_12, .inl (cy 1, 240, .inl f_2)), (a_13, .inl (cy 1, 450, .inl f_3)), (a_15, .inl (cy 1, 7200, .inl f_4)), (a_16, .inl (cy 1, 3, .inl f_5)), (a_18, .inl (cy 1, 8, .inl f_6))] [.ref a_0, .int i_0, .int i_1, .int i_2] (fun u : Int32 × Int32 × Int32 × (Nat → Int32) => [(a_0, .inr (12, [.int i_3, .ref a_1, .ref a_2, .ref a_3, .ref a_4, .ref a_5, .int i_4, .int i_5, .int i_6, .int i_7, .int i_8, .long j_0, .int i_9, .int i_10, .int i_11, .int i_12, .ref a_6, .ref a_7, .ref a_8, .ref a_9, .ref a_10, .ref a_11, .ref a_12, .ref a_13, .ref a_14, .ref a_15, .ref a_16, .ref a_17, .ref a_18, .int u.1, .int u.2.1, .int u.2.2.1, .int i_16, .int i_17, .int i_18, .ref a_19, .int i_19, .ref a_20])), (a_7, .inl (cy 1, 30, .inl (mm_g [i_20, i_21, i_22, i_23, i_24, i_25, i_26, i_27, i_28, i_29, i_30, i_31, i_32, i_33, i_34, i_35, i_36, i_37, i_38, i_39, i_40, i_41, i_42, i_43, i_44, i_45, i_46, i_47, i_48, i_49]))), (a_8, .inl (cy 1, 90, .inl f_0)), (a_11, .inl (cy 1, 30, .inl f_1)), (a_12, .inl (cy 1, 240, .inl f_2)), (a_13, .inl (cy 1, 450, .inl f_3)), (a_15, .inl (cy 1, 7200, .inl f_4)), (a_16, .inl (cy 1, 3, .inl f_5)), (a_18, .inl (cy 1, 8, .inl u.2.2.2))]) (fun (r : Int32) (u : Int32 × Int32 × Int32 × (Nat → Int32)) => mm_rg u.1 0 8 ∧ mm_ar u.2.2.2 0 9 ∧ mm_rg r (-1000000) 1009999) 0 0 := by
  refine mm_begin (lv := [(0, .ref a_0), (1, .int i_0), (2, .int i_1), (3, .int i_2)]) (by decide) (Nat.le_of_ble_eq_true rfl) rfl ?_
  intro p e s m below meth c A ls R args Q H locs hRe hQ hAe hx hb hr hlocks hml hown hnm hts hsz hA hS hP hK hD hZ hl
  have hRf : R.frames = 4 := by rw [hRe]
  have hRl : R.locals = 99 := by rw [hRe]
  have hRc : R.cells = 0 := by rw [hRe]
  have hRs : R.slots = 0 := by rw [hRe]
  refine lv_iload_n hx hb dX12_heirsOf_0 rfl (lv_at hl 3 rfl) ?_
  refine lv_if_ne (tgt := 8) hx hb dX12_heirsOf_1 (by decide) (fun c1 => ?_) (fun c1 => ?_)
  · have q2 := mm_neL (lo := 1) (mm_ne c1) h2 mm_k0 (by decide) (by decide)
    refine lv_ldcw (v := (-1000000)) hx hb hown (mm_h hts mm_w1460) dX12_heirsOf_8 ?_
    refine lv_istore (lv' := [(4, .int (-1000000)), (0, .ref a_0), (1, .int i_0), (2, .int i_1), (3, .int i_2)]) hx hb dX12_heirsOf_11 hl (by decide) rfl ?_
    clear hl
    clear ls
    intro ls hl
    refine lv_iconst (v := 0) hx hb dX12_heirsOf_13 (by decide) ?_
    refine lv_istore (lv' := [(5, .int 0), (4, .int (-1000000)), (0, .ref a_0), (1, .int i_0), (2, .int i_1), (3, .int i_2)]) hx hb dX12_heirsOf_14 hl (by decide) rfl ?_
    clear hl
    clear ls
    intro ls hl
    have L16_319 : ∀ (n : Nat) (x16_5_314 : Int32) (x16_4_315 : Int32) (y16_0_29_316 : Int32) (y16_0_30_317 : Int32) (y16_0_31_318 : Int32) (z16_8_319 : Nat → Int32), mm_rg x16_5_314 0 6 → mm_rg x16_4_315 (-1000000) 1009999 → mm_rg y16_0_29_316 0 8 → mm_ar z16_8_319 0 9 → (6 - x16_5_314.toInt).toNat < n → ∀ (H : Heap) (locs : List Loc), va_P G vwCl [(a_0, .inr (12, [.int i_3, .ref a_1, .ref a_2, .ref a_3, .ref a_4, .ref a_5, .int i_4, .int i_5, .int i_6, .int i_7, .int i_8, .long j_0, .int i_9, .int i_10, .int i_11, .int i_12, .ref a_6, .ref a_7, .ref a_8, .ref a_9, .ref a_10, .ref a_11, .ref a_12, .ref a_13, .ref a_14, .ref a_15, .ref a_16, .ref a_17, .ref a_18, .int y16_0_29_316, .int y16_0_30_317, .int y16_0_31_318, .int i_16, .int i_17, .int i_18, .ref a_19, .int i_19, .ref a_20])), (a_7, .inl (cy 1, 30, .inl (mm_g [i_20, i_21, i_22, i_23, i_24, i_25, i_26, i_27, i_28, i_29, i_30, i_31, i_32, i_33, i_34, i_35, i_36, i_37, i_38, i_39, i_40, i_41, i_42, i_43, i_44, i_45, i_46, i_47, i_48, i_49]))), (a_8, .inl (cy 1, 90, .inl f_0)), (a_11, .inl (cy 1, 30, .inl f_1)), (a_12, .inl (cy 1, 240, .inl f_2)), (a_13, .inl (cy 1, 450, .inl f_3)), (a_15, .inl (cy 1, 7200, .inl f_4)), (a_16, .inl (cy 1, 3, .inl f_5)), (a_18, .inl (cy 1, 8, .inl z16_8_319))] H → va_D A [(a_0, .inr (12, [.int i_3, .ref a_1, .ref a_2, .ref a_3, .ref a_4, .ref a_5, .int i_4, .int i_5, .int i_6, .int i_7, .int i_8, .long j_0, .int i_9, .int i_10, .int i_11, .int i_12, .ref a_6, .ref a_7, .ref a_8, .ref a_9, .ref a_10, .ref a_11, .ref a_12, .ref a_13, .ref a_14, .ref a_15, .ref a_16, .ref a_17, .ref a_18, .int y16_0_29_316, .int y16_0_30_317, .int y16_0_31_318, .int i_16, .int i_17, .int i_18, .ref a_19, .int i_19, .ref a_20])), (a_7, .inl (cy 1, 30, .inl (mm_g [i_20, i_21, i_22, i_23, i_24, i_25, i_26, i_27, i_28, i_29, i_30, i_31, i_32, i_33, i_34, i_35, i_36, i_37, i_38, i_39, i_40, i_41, i_42, i_43, i_44, i_45, i_46, i_47, i_48, i_49]))), (a_8, .inl (cy 1, 90, .inl f_0)), (a_11, .inl (cy 1, 30, .inl f_1)), (a_12, .inl (cy 1, 240, .inl f_2)), (a_13, .inl (cy 1, 450, .inl f_3)), (a_15, .inl (cy 1, 7200, .inl f_4)), (a_16, .inl (cy 1, 3, .inl f_5)), (a_18, .inl (cy 1, 8, .inl z16_8_319))] → va_S A s.heap H locs → ∀ (ls : Array Slot), lv_has ls 7 [(5, .int x16_5_314), (4, .int x16_4_315), (0, .ref a_0), (1, .int i_0), (2, .int i_1), (3, .int i_2)] → W p l e R s m args below meth c H locs 0 0 Q (F0 m 16 ls []) := by
      intro n
      induction n with
      | zero => intro x16_5_314 x16_4_315 y16_0_29_316 y16_0_30_317 y16_0_31_318 z16_8_319 rx16_5_314 rx16_4_315 ry16_0_29_316 rz16_8_319 hm; exact absurd hm (Nat.not_lt_zero _)
      | succ n ih16 =>
        intro x16_5_314 x16_4_315 y16_0_29_316 y16_0_30_317 y16_0_31_318 z16_8_319 rx16_5_314 rx16_4_315 ry16_0_29_316 rz16_8_319 hm16 H locs hP hD hS ls hl
        refine lv_iload hx hb dX12_heirsOf_16 (lv_at hl 0 rfl) ?_
        refine lv_aload_n hx hb dX12_heirsOf_18 rfl (lv_at hl 2 rfl) ?_
        refine mm_finir (va_runV (As := []) (rest := [.int x16_5_314]) ⟨hx, hb, hml, hown, hts⟩ (M95_X12_texts l G cy H.size a_0 i_3 a_1 a_2 a_3 a_4 a_5 i_4 i_5 i_6 i_7 i_8 j_0 i_9 i_10 i_11 i_12 a_6 a_7 a_8 a_9 a_10 a_11 a_12 a_13 a_14 a_15 a_16 a_17 a_18 y16_0_29_316 y16_0_30_317 y16_0_31_318 i_16 i_17 i_18 a_19 i_19 a_20 i_20 i_21 i_22 i_23 i_24 i_25 i_26 i_27 i_28 i_29 i_30 i_31 i_32 i_33 i_34 i_35 i_36 i_37 i_38 i_39 i_40 i_41 i_42 i_43 i_44 i_45 i_46 i_47 i_48 i_49 h4 h5 h6 h7 h8 h9 h10 h11 h12 h13 h14 h15 h16 h17 h18 h19 h20 h21 h22 h23 h24 h25 h26 h27 h28 h29 h30 h31 h32 h33) (cwV 0 hts (mm_gV mm_w617 mm_w618 mm_w619 mm_w5 mm_w620) rfl rfl rfl hd_X12_texts ⟨by rw [hRf]; exact Nat.le_of_ble_eq_true rfl, by rw [hRl]; exact Nat.le_of_ble_eq_true rfl⟩) (mm_preV hK hZ hS hA hP hD [0, 1] rfl rfl 0 rfl rfl rfl) rfl rfl hl.1 rfl (lv_room (Nat.le_of_ble_eq_true rfl)) dX12_heirsOf_19 ⟨by rw [hRc]; exact Nat.le_of_ble_eq_true rfl, by rw [hRs]; exact Nat.le_of_ble_eq_true rfl⟩) hP hD hS hA [0, 1] rfl (fun _ => rfl) ?_
        clear hP hD hS
        clear H locs
        intro v321 _u H locs hw hP hD hS
        subst hw
        refine lv_icmp_ge (tgt := 86) hx hb dX12_heirsOf_22 (by decide) (fun c322 => ?_) (fun c322 => ?_)
        · refine lv_iload hx hb dX12_heirsOf_86 (lv_at hl 1 rfl) ?_
          subst hAe
          rw [hQ]
          exact W.iret (v := x16_4_315) hx hb hr (fun t ht hW => ⟨⟨x16_4_315, (y16_0_29_316, y16_0_30_317, y16_0_31_318, z16_8_319), rfl, ⟨ry16_0_29_316, rz16_8_319, rx16_4_315⟩, by rw [ht]; exact hP, hK.warm hW, hD⟩, hS.F ht⟩) hS.2.2 dX12_heirsOf_88
        · have q323 := mm_ltL (h := 5) (mm_nle c322) rx16_5_314 h8 (by decide)
          have q324 := mm_ltR (lo := 1) (mm_nle c322) rx16_5_314 h8 (by decide)
          refine lv_iload_n hx hb dX12_heirsOf_25 rfl (lv_at hl 5 rfl) ?_
          refine lv_iload hx hb dX12_heirsOf_26 (lv_at hl 0 rfl) ?_
          refine mm_finir (va_runS (As := [.int i_2, .int x16_5_314]) (rest := []) ⟨hx, hb, hml, hown, hts⟩ (M232_X12_isBit l G cy H.size i_2 x16_5_314 (mm_wk q2 (by decide)) q323) (va_cwS 2 hts (mm_gS mm_w1461 mm_w1462 mm_w5 mm_w1463) rfl rfl rfl hs_X12_isBit ⟨by rw [hRf]; exact Nat.le_of_ble_eq_true rfl, by rw [hRl]; exact Nat.le_of_ble_eq_true rfl⟩) (mm_preS hK hZ hS hA hP hD [] rfl rfl) rfl rfl hl.1 rfl (lv_room (Nat.le_of_ble_eq_true rfl)) dX12_heirsOf_28 ⟨by rw [hRc]; exact Nat.le_of_ble_eq_true rfl, by rw [hRs]; exact Nat.le_of_ble_eq_true rfl⟩) hP hD hS hA [] rfl (fun _ => rfl) ?_
          clear hP hD hS
          clear H locs
          intro v325 _u H locs hw hP hD hS
          rcases hw with ⟨rfl, w326⟩ | ⟨rfl, w327⟩
          · refine lv_if_ne (tgt := 37) hx hb dX12_heirsOf_31 (by decide) (fun c328 => ?_) (fun c328 => ?_)
            · have q329 := mm_neL (lo := 1) (mm_ne c328) mm_k0 mm_k0 (by decide) (by decide)
              exact mm_no q329 (by decide)
            · refine lv_goto (tgt := 80) hx hb dX12_heirsOf_34 (by decide) ?_
              obtain ⟨v330, ev330⟩ : ∃ y : Int32, y = x16_5_314 + 1 := ⟨_, rfl⟩
              refine lv_iinc (v := v330) (lv' := [(5, .int v330), (4, .int x16_4_315), (0, .ref a_0), (1, .int i_0), (2, .int i_1), (3, .int i_2)]) hx hb dX12_heirsOf_80 hl (k := 0) rfl (by rw [ev330]; rfl) (by decide) rfl ?_
              clear hl
              clear ls
              intro ls hl
              have rv330 : mm_rg v330 1 6 := mm_add ev330 q323 mm_k1 (by decide) (by decide)
              have tv330 := mm_addEc ev330 q323 mm_k1 (by decide) (k := 1) (by decide)
              refine lv_goto (tgt := 16) hx hb dX12_heirsOf_83 (by decide) ?_
              exact ih16 v330 x16_4_315 y16_0_29_316 y16_0_30_317 y16_0_31_318 z16_8_319 (mm_wk rv330 (by decide)) rx16_4_315 ry16_0_29_316 rz16_8_319 (mm_mu hm16 tv330 (by decide) (rv330).2 (by decide)) H locs hP hD hS ls (lv_sub hl [0, 1, 2, 3, 4, 5] rfl)
          · refine lv_if_ne (tgt := 37) hx hb dX12_heirsOf_31 (by decide) (fun c331 => ?_) (fun c331 => ?_)
            · refine lv_aload_n hx hb dX12_heirsOf_37 rfl (lv_at hl 2 rfl) ?_
              refine lv_iload_n hx hb dX12_heirsOf_38 rfl (lv_at hl 3 rfl) ?_
              refine lv_iload_n hx hb dX12_heirsOf_39 rfl (lv_at hl 4 rfl) ?_
              refine lv_iload hx hb dX12_heirsOf_40 (lv_at hl 0 rfl) ?_
              refine mm_fini (va_runV (As := [.int i_0, .int i_1, .int x16_5_314]) (rest := []) ⟨hx, hb, hml, hown, hts⟩ (M141_X12_reads l G cy H.size a_0 i_0 i_1 x16_5_314 i_3 a_1 a_2 a_3 a_4 a_5 i_4 i_5 i_6 i_7 i_8 j_0 i_9 i_10 i_11 i_12 a_6 a_7 a_8 a_9 a_10 a_11 a_12 a_13 a_14 a_15 a_16 a_17 a_18 y16_0_29_316 y16_0_30_317 y16_0_31_318 i_16 i_17 i_18 a_19 i_19 a_20 i_20 i_21 i_22 i_23 i_24 i_25 i_26 i_27 i_28 i_29 i_30 i_31 i_32 i_33 i_34 i_35 i_36 i_37 i_38 i_39 i_40 i_41 i_42 i_43 i_44 i_45 i_46 i_47 i_48 i_49 f_0 f_1 f_2 f_3 f_4 f_5 z16_8_319 h0 (mm_wk h1 (by decide)) q323 ry16_0_29_316 h4 h5 h6 h7 (mm_wk q324 (by decide)) h9 h10 h11 h12 h13 h14 h15 h16 h17 h18 h19 h20 h21 h22 h23 h24 h25 h26 h27 h28 h29 h30 h31 h32 h33 h34 h35 h36 h37 h38 h39 rz16_8_319 h41 h42 h43 h44 h45 h46 h47 h48 h49) (cwV 3 hts (mm_gV mm_w852 mm_w853 mm_w854 mm_w5 mm_w855) rfl rfl rfl hd_X12_reads ⟨by rw [hRf]; exact Nat.le_of_ble_eq_true rfl, by rw [hRl]; exact Nat.le_of_ble_eq_true rfl⟩) (mm_preV hK hZ hS hA hP hD [0, 1, 2, 3, 4, 5, 6, 7, 8] rfl rfl 0 rfl rfl rfl) rfl rfl hl.1 rfl (lv_room (Nat.le_of_ble_eq_true rfl)) dX12_heirsOf_42 ⟨by rw [hRc]; exact Nat.le_of_ble_eq_true rfl, by rw [hRs]; exact Nat.le_of_ble_eq_true rfl⟩) hP hD hS hA (fun u : Int32 × Int32 × Int32 × (Nat → Int32) => [(a_0, .inr (12, [.int i_3, .ref a_1, .ref a_2, .ref a_3, .ref a_4, .ref a_5, .int i_4, .int i_5, .int i_6, .int i_7, .int i_8, .long j_0, .int i_9, .int i_10, .int i_11, .int i_12, .ref a_6, .ref a_7, .ref a_8, .ref a_9, .ref a_10, .ref a_11, .ref a_12, .ref a_13, .ref a_14, .ref a_15, .ref a_16, .ref a_17, .ref a_18, .int u.1, .int u.2.1, .int u.2.2.1, .int i_16, .int i_17, .int i_18, .ref a_19, .int i_19, .ref a_20])), (a_7, .inl (cy 1, 30, .inl (mm_g [i_20, i_21, i_22, i_23, i_24, i_25, i_26, i_27, i_28, i_29, i_30, i_31, i_32, i_33, i_34, i_35, i_36, i_37, i_38, i_39, i_40, i_41, i_42, i_43, i_44, i_45, i_46, i_47, i_48, i_49]))), (a_8, .inl (cy 1, 90, .inl f_0)), (a_11, .inl (cy 1, 30, .inl f_1)), (a_12, .inl (cy 1, 240, .inl f_2)), (a_13, .inl (cy 1, 450, .inl f_3)), (a_15, .inl (cy 1, 7200, .inl f_4)), (a_16, .inl (cy 1, 3, .inl f_5)), (a_18, .inl (cy 1, 8, .inl u.2.2.2))]) [0, 1, 2, 3, 4, 5, 6, 7, 8] [] (n := 9) (fun _ => rfl) (by decide +kernel) (by decide +kernel) rfl (fun _ => rfl) (wr := []) rfl (fun _ => rfl) (fun _ => @rfl _ ([a_0, a_7, a_8, a_11, a_12, a_13, a_15, a_16, a_18] : List Nat)) ?_
              clear hP hD hS
              clear H locs
              intro v336 u
              obtain ⟨n332, n333, n334, n335⟩ := u
              intro H locs hw (hP : va_P G vwCl [(a_0, .inr (12, [.int i_3, .ref a_1, .ref a_2, .ref a_3, .ref a_4, .ref a_5, .int i_4, .int i_5, .int i_6, .int i_7, .int i_8, .long j_0, .int i_9, .int i_10, .int i_11, .int i_12, .ref a_6, .ref a_7, .ref a_8, .ref a_9, .ref a_10, .ref a_11, .ref a_12, .ref a_13, .ref a_14, .ref a_15, .ref a_16, .ref a_17, .ref a_18, .int n332, .int n333, .int n334, .int i_16, .int i_17, .int i_18, .ref a_19, .int i_19, .ref a_20])), (a_7, .inl (cy 1, 30, .inl (mm_g [i_20, i_21, i_22, i_23, i_24, i_25, i_26, i_27, i_28, i_29, i_30, i_31, i_32, i_33, i_34, i_35, i_36, i_37, i_38, i_39, i_40, i_41, i_42, i_43, i_44, i_45, i_46, i_47, i_48, i_49]))), (a_8, .inl (cy 1, 90, .inl f_0)), (a_11, .inl (cy 1, 30, .inl f_1)), (a_12, .inl (cy 1, 240, .inl f_2)), (a_13, .inl (cy 1, 450, .inl f_3)), (a_15, .inl (cy 1, 7200, .inl f_4)), (a_16, .inl (cy 1, 3, .inl f_5)), (a_18, .inl (cy 1, 8, .inl n335))] H) (hD : va_D A [(a_0, .inr (12, [.int i_3, .ref a_1, .ref a_2, .ref a_3, .ref a_4, .ref a_5, .int i_4, .int i_5, .int i_6, .int i_7, .int i_8, .long j_0, .int i_9, .int i_10, .int i_11, .int i_12, .ref a_6, .ref a_7, .ref a_8, .ref a_9, .ref a_10, .ref a_11, .ref a_12, .ref a_13, .ref a_14, .ref a_15, .ref a_16, .ref a_17, .ref a_18, .int n332, .int n333, .int n334, .int i_16, .int i_17, .int i_18, .ref a_19, .int i_19, .ref a_20])), (a_7, .inl (cy 1, 30, .inl (mm_g [i_20, i_21, i_22, i_23, i_24, i_25, i_26, i_27, i_28, i_29, i_30, i_31, i_32, i_33, i_34, i_35, i_36, i_37, i_38, i_39, i_40, i_41, i_42, i_43, i_44, i_45, i_46, i_47, i_48, i_49]))), (a_8, .inl (cy 1, 90, .inl f_0)), (a_11, .inl (cy 1, 30, .inl f_1)), (a_12, .inl (cy 1, 240, .inl f_2)), (a_13, .inl (cy 1, 450, .inl f_3)), (a_15, .inl (cy 1, 7200, .inl f_4)), (a_16, .inl (cy 1, 3, .inl f_5)), (a_18, .inl (cy 1, 8, .inl n335))]) hS
              obtain ⟨w337, w338, hw⟩ := hw
              obtain ⟨w339, w340⟩ := hw
              replace w340 : mm_rd f_4 f_5 f_0 f_1 f_2 f_3 i_0 i_1 x16_5_314 i_21 i_22 i_25 v336 := w340
              refine lv_aload_n hx hb dX12_heirsOf_45 rfl (lv_at hl 2 rfl) ?_
              refine lv_iload_n hx hb dX12_heirsOf_46 rfl (lv_at hl 3 rfl) ?_
              refine lv_iload_n hx hb dX12_heirsOf_47 rfl (lv_at hl 4 rfl) ?_
              refine lv_iconst (v := 1) hx hb dX12_heirsOf_48 (by decide) ?_
              refine lv_iadd hx hb dX12_heirsOf_49 ?_
              refine lv_topi (fun v341 ev341 => ?_)
              have rv341 : mm_rg v341 1 1000000006 := mm_add ev341 h1 mm_k1 (by decide) (by decide)
              have tv341 := mm_addEc ev341 h1 mm_k1 (by decide) (k := 1) (by decide)
              refine lv_iload_n hx hb dX12_heirsOf_50 rfl (lv_at hl 5 rfl) ?_
              refine lv_iconst (v := 1) hx hb dX12_heirsOf_51 (by decide) ?_
              refine lv_iload hx hb dX12_heirsOf_52 (lv_at hl 0 rfl) ?_
              refine lv_ishl hx hb dX12_heirsOf_54 ?_
              refine lv_topi (fun v342 ev342 => ?_)
              have rv342 : mm_rg v342 1 32 := mm_shl1 ev342 q323 (by decide)
              refine lv_iconst (v := (-1)) hx hb dX12_heirsOf_55 (by decide) ?_
              refine lv_ixor hx hb dX12_heirsOf_56 ?_
              refine lv_topi (fun v343 ev343 => ?_)
              refine lv_iand hx hb dX12_heirsOf_57 ?_
              refine lv_topi (fun v344 ev344 => ?_)
              have rv344 : mm_rg v344 0 63 := mm_andL ev344 q2 (by decide)
              refine mm_fini (va_runV (As := [.int i_0, .int v341, .int v344]) (rest := [.int v336]) ⟨hx, hb, hml, hown, hts⟩ (M234_X12_heirsOf l G cy H.size a_0 i_0 v341 v344 i_3 a_1 a_2 a_3 a_4 a_5 i_4 i_5 i_6 i_7 i_8 j_0 i_9 i_10 i_11 i_12 a_6 a_7 a_8 a_9 a_10 a_11 a_12 a_13 a_14 a_15 a_16 a_17 a_18 n332 n333 n334 i_16 i_17 i_18 a_19 i_19 a_20 i_20 i_21 i_22 i_23 i_24 i_25 i_26 i_27 i_28 i_29 i_30 i_31 i_32 i_33 i_34 i_35 i_36 i_37 i_38 i_39 i_40 i_41 i_42 i_43 i_44 i_45 i_46 i_47 i_48 i_49 f_0 f_1 f_2 f_3 f_4 f_5 n335 h0 (mm_wk rv341 (by decide)) rv344 w337 h4 h5 h6 h7 (mm_wk q324 (by decide)) h9 h10 h11 h12 h13 h14 h15 h16 h17 h18 h19 h20 h21 h22 h23 h24 h25 h26 h27 h28 h29 h30 h31 h32 h33 h34 h35 h36 h37 h38 h39 w338 h41 h42 h43 h44 h45 h46 h47 h48 h49 (mm_pc_cut h50 w327 ev342 ev343 ev344 q2 q323 (by decide))) (cwV 3 hts (mm_gV mm_w1456 mm_w1457 mm_w1458 mm_w5 mm_w1459) rfl rfl rfl hd_X12_heirsOf ⟨by rw [hRf]; exact Nat.le_of_ble_eq_true rfl, by rw [hRl]; exact Nat.le_of_ble_eq_true rfl⟩) (mm_preV hK hZ hS hA hP hD [0, 1, 2, 3, 4, 5, 6, 7, 8] rfl rfl 0 rfl rfl rfl) rfl rfl hl.1 rfl (lv_room (Nat.le_of_ble_eq_true rfl)) dX12_heirsOf_58 ⟨by rw [hRc]; exact Nat.le_of_ble_eq_true rfl, by rw [hRs]; exact Nat.le_of_ble_eq_true rfl⟩) hP hD hS hA (fun u : Int32 × Int32 × Int32 × (Nat → Int32) => [(a_0, .inr (12, [.int i_3, .ref a_1, .ref a_2, .ref a_3, .ref a_4, .ref a_5, .int i_4, .int i_5, .int i_6, .int i_7, .int i_8, .long j_0, .int i_9, .int i_10, .int i_11, .int i_12, .ref a_6, .ref a_7, .ref a_8, .ref a_9, .ref a_10, .ref a_11, .ref a_12, .ref a_13, .ref a_14, .ref a_15, .ref a_16, .ref a_17, .ref a_18, .int u.1, .int u.2.1, .int u.2.2.1, .int i_16, .int i_17, .int i_18, .ref a_19, .int i_19, .ref a_20])), (a_7, .inl (cy 1, 30, .inl (mm_g [i_20, i_21, i_22, i_23, i_24, i_25, i_26, i_27, i_28, i_29, i_30, i_31, i_32, i_33, i_34, i_35, i_36, i_37, i_38, i_39, i_40, i_41, i_42, i_43, i_44, i_45, i_46, i_47, i_48, i_49]))), (a_8, .inl (cy 1, 90, .inl f_0)), (a_11, .inl (cy 1, 30, .inl f_1)), (a_12, .inl (cy 1, 240, .inl f_2)), (a_13, .inl (cy 1, 450, .inl f_3)), (a_15, .inl (cy 1, 7200, .inl f_4)), (a_16, .inl (cy 1, 3, .inl f_5)), (a_18, .inl (cy 1, 8, .inl u.2.2.2))]) [0, 1, 2, 3, 4, 5, 6, 7, 8] [] (n := 9) (fun _ => rfl) (by decide +kernel) (by decide +kernel) rfl (fun _ => rfl) (wr := []) rfl (fun _ => rfl) (fun _ => @rfl _ ([a_0, a_7, a_8, a_11, a_12, a_13, a_15, a_16, a_18] : List Nat)) ?_
              clear hP hD hS
              clear H locs
              intro v349 u
              obtain ⟨n345, n346, n347, n348⟩ := u
              intro H locs hw (hP : va_P G vwCl [(a_0, .inr (12, [.int i_3, .ref a_1, .ref a_2, .ref a_3, .ref a_4, .ref a_5, .int i_4, .int i_5, .int i_6, .int i_7, .int i_8, .long j_0, .int i_9, .int i_10, .int i_11, .int i_12, .ref a_6, .ref a_7, .ref a_8, .ref a_9, .ref a_10, .ref a_11, .ref a_12, .ref a_13, .ref a_14, .ref a_15, .ref a_16, .ref a_17, .ref a_18, .int n345, .int n346, .int n347, .int i_16, .int i_17, .int i_18, .ref a_19, .int i_19, .ref a_20])), (a_7, .inl (cy 1, 30, .inl (mm_g [i_20, i_21, i_22, i_23, i_24, i_25, i_26, i_27, i_28, i_29, i_30, i_31, i_32, i_33, i_34, i_35, i_36, i_37, i_38, i_39, i_40, i_41, i_42, i_43, i_44, i_45, i_46, i_47, i_48, i_49]))), (a_8, .inl (cy 1, 90, .inl f_0)), (a_11, .inl (cy 1, 30, .inl f_1)), (a_12, .inl (cy 1, 240, .inl f_2)), (a_13, .inl (cy 1, 450, .inl f_3)), (a_15, .inl (cy 1, 7200, .inl f_4)), (a_16, .inl (cy 1, 3, .inl f_5)), (a_18, .inl (cy 1, 8, .inl n348))] H) (hD : va_D A [(a_0, .inr (12, [.int i_3, .ref a_1, .ref a_2, .ref a_3, .ref a_4, .ref a_5, .int i_4, .int i_5, .int i_6, .int i_7, .int i_8, .long j_0, .int i_9, .int i_10, .int i_11, .int i_12, .ref a_6, .ref a_7, .ref a_8, .ref a_9, .ref a_10, .ref a_11, .ref a_12, .ref a_13, .ref a_14, .ref a_15, .ref a_16, .ref a_17, .ref a_18, .int n345, .int n346, .int n347, .int i_16, .int i_17, .int i_18, .ref a_19, .int i_19, .ref a_20])), (a_7, .inl (cy 1, 30, .inl (mm_g [i_20, i_21, i_22, i_23, i_24, i_25, i_26, i_27, i_28, i_29, i_30, i_31, i_32, i_33, i_34, i_35, i_36, i_37, i_38, i_39, i_40, i_41, i_42, i_43, i_44, i_45, i_46, i_47, i_48, i_49]))), (a_8, .inl (cy 1, 90, .inl f_0)), (a_11, .inl (cy 1, 30, .inl f_1)), (a_12, .inl (cy 1, 240, .inl f_2)), (a_13, .inl (cy 1, 450, .inl f_3)), (a_15, .inl (cy 1, 7200, .inl f_4)), (a_16, .inl (cy 1, 3, .inl f_5)), (a_18, .inl (cy 1, 8, .inl n348))]) hS
              obtain ⟨w350, w351, hw⟩ := hw
              have w352 := hw
              refine lv_isub hx hb dX12_heirsOf_61 ?_
              refine lv_topi (fun v353 ev353 => ?_)
              have rv353 : mm_rg v353 (-1009999) 1009999 := mm_sub ev353 w339 w352 (by decide) (by decide)
              have tv353 := mm_subE ev353 w339 w352 (by decide)
              refine lv_istore (lv' := [(6, .int v353), (5, .int x16_5_314), (4, .int x16_4_315), (0, .ref a_0), (1, .int i_0), (2, .int i_1), (3, .int i_2)]) hx hb dX12_heirsOf_62 hl (by decide) rfl ?_
              clear hl
              clear ls
              intro ls hl
              refine lv_iload hx hb dX12_heirsOf_64 (lv_at hl 0 rfl) ?_
              refine lv_iload hx hb dX12_heirsOf_66 (lv_at hl 2 rfl) ?_
              refine lv_icmp_le (tgt := 76) hx hb dX12_heirsOf_68 (by decide) (fun c354 => ?_) (fun c354 => ?_)
              · refine lv_iload hx hb dX12_heirsOf_76 (lv_at hl 2 rfl) ?_
                refine lv_istore (lv' := [(4, .int x16_4_315), (6, .int v353), (5, .int x16_5_314), (0, .ref a_0), (1, .int i_0), (2, .int i_1), (3, .int i_2)]) hx hb dX12_heirsOf_78 hl (by decide) rfl ?_
                clear hl
                clear ls
                intro ls hl
                obtain ⟨v355, ev355⟩ : ∃ y : Int32, y = x16_5_314 + 1 := ⟨_, rfl⟩
                refine lv_iinc (v := v355) (lv' := [(5, .int v355), (4, .int x16_4_315), (6, .int v353), (0, .ref a_0), (1, .int i_0), (2, .int i_1), (3, .int i_2)]) hx hb dX12_heirsOf_80 hl (k := 2) rfl (by rw [ev355]; rfl) (by decide) rfl ?_
                clear hl
                clear ls
                intro ls hl
                have rv355 : mm_rg v355 1 6 := mm_add ev355 q323 mm_k1 (by decide) (by decide)
                have tv355 := mm_addEc ev355 q323 mm_k1 (by decide) (k := 1) (by decide)
                refine lv_goto (tgt := 16) hx hb dX12_heirsOf_83 (by decide) ?_
                exact ih16 v355 x16_4_315 n345 n346 n347 n348 (mm_wk rv355 (by decide)) rx16_4_315 w350 w351 (mm_mu hm16 tv355 (by decide) (rv355).2 (by decide)) H locs hP hD hS ls (lv_sub hl [0, 1, 3, 4, 5, 6] rfl)
              · have q356 := mm_ltL (h := 1009998) (mm_nle c354) rx16_4_315 rv353 (by decide)
                have q357 := mm_ltR (lo := (-999999)) (mm_nle c354) rx16_4_315 rv353 (by decide)
                have q358 : mm_rg v349 (-1000000) 1009998 := mm_unsubY tv353 q357 w339 w352 (by decide)
                refine lv_iload hx hb dX12_heirsOf_71 (lv_at hl 0 rfl) ?_
                refine lv_goto (tgt := 78) hx hb dX12_heirsOf_73 (by decide) ?_
                refine lv_istore (lv' := [(4, .int v353), (6, .int v353), (5, .int x16_5_314), (0, .ref a_0), (1, .int i_0), (2, .int i_1), (3, .int i_2)]) hx hb dX12_heirsOf_78 hl (by decide) rfl ?_
                clear hl
                clear ls
                intro ls hl
                obtain ⟨v359, ev359⟩ : ∃ y : Int32, y = x16_5_314 + 1 := ⟨_, rfl⟩
                refine lv_iinc (v := v359) (lv' := [(5, .int v359), (4, .int v353), (6, .int v353), (0, .ref a_0), (1, .int i_0), (2, .int i_1), (3, .int i_2)]) hx hb dX12_heirsOf_80 hl (k := 2) rfl (by rw [ev359]; rfl) (by decide) rfl ?_
                clear hl
                clear ls
                intro ls hl
                have rv359 : mm_rg v359 1 6 := mm_add ev359 q323 mm_k1 (by decide) (by decide)
                have tv359 := mm_addEc ev359 q323 mm_k1 (by decide) (k := 1) (by decide)
                refine lv_goto (tgt := 16) hx hb dX12_heirsOf_83 (by decide) ?_
                exact ih16 v359 v353 n345 n346 n347 n348 (mm_wk rv359 (by decide)) (mm_wk q357 (by decide)) w350 w351 (mm_mu hm16 tv359 (by decide) (rv359).2 (by decide)) H locs hP hD hS ls (lv_sub hl [0, 1, 3, 4, 5, 6] rfl)
            · exact mm_eqN c331.symm mm_k0 mm_k1 (by decide)
    exact L16_319 _ 0 (-1000000) i_13 i_14 i_15 f_6 (mm_wk mm_k0 (by decide)) (mm_wk mm_km1000000 (by decide)) h3 h40 (Nat.lt_succ_self _) H locs hP hD hS ls (lv_sub hl [0, 1, 2, 3, 4, 5] rfl)
  · have q360 := mm_eqI (lo := 0) (hi := 0) c1 h2 mm_k0 (by decide)
    refine lv_iconst (v := 0) hx hb dX12_heirsOf_4 (by decide) ?_
    refine lv_goto (tgt := 11) hx hb dX12_heirsOf_5 (by decide) ?_
    refine lv_istore (lv' := [(4, .int 0), (0, .ref a_0), (1, .int i_0), (2, .int i_1), (3, .int i_2)]) hx hb dX12_heirsOf_11 hl (by decide) rfl ?_
    clear hl
    clear ls
    intro ls hl
    refine lv_iconst (v := 0) hx hb dX12_heirsOf_13 (by decide) ?_
    refine lv_istore (lv' := [(5, .int 0), (4, .int 0), (0, .ref a_0), (1, .int i_0), (2, .int i_1), (3, .int i_2)]) hx hb dX12_heirsOf_14 hl (by decide) rfl ?_
    clear hl
    clear ls
    intro ls hl
    have L16_440 : ∀ (n : Nat) (x16_5_440 : Int32), mm_rg x16_5_440 0 6 → (6 - x16_5_440.toInt).toNat < n → ∀ (H : Heap) (locs : List Loc), va_P G vwCl [(a_0, .inr (12, [.int i_3, .ref a_1, .ref a_2, .ref a_3, .ref a_4, .ref a_5, .int i_4, .int i_5, .int i_6, .int i_7, .int i_8, .long j_0, .int i_9, .int i_10, .int i_11, .int i_12, .ref a_6, .ref a_7, .ref a_8, .ref a_9, .ref a_10, .ref a_11, .ref a_12, .ref a_13, .ref a_14, .ref a_15, .ref a_16, .ref a_17, .ref a_18, .int i_13, .int i_14, .int i_15, .int i_16, .int i_17, .int i_18, .ref a_19, .int i_19, .ref a_20])), (a_7, .inl (cy 1, 30, .inl (mm_g [i_20, i_21, i_22, i_23, i_24, i_25, i_26, i_27, i_28, i_29, i_30, i_31, i_32, i_33, i_34, i_35, i_36, i_37, i_38, i_39, i_40, i_41, i_42, i_43, i_44, i_45, i_46, i_47, i_48, i_49]))), (a_8, .inl (cy 1, 90, .inl f_0)), (a_11, .inl (cy 1, 30, .inl f_1)), (a_12, .inl (cy 1, 240, .inl f_2)), (a_13, .inl (cy 1, 450, .inl f_3)), (a_15, .inl (cy 1, 7200, .inl f_4)), (a_16, .inl (cy 1, 3, .inl f_5)), (a_18, .inl (cy 1, 8, .inl f_6))] H → va_D A [(a_0, .inr (12, [.int i_3, .ref a_1, .ref a_2, .ref a_3, .ref a_4, .ref a_5, .int i_4, .int i_5, .int i_6, .int i_7, .int i_8, .long j_0, .int i_9, .int i_10, .int i_11, .int i_12, .ref a_6, .ref a_7, .ref a_8, .ref a_9, .ref a_10, .ref a_11, .ref a_12, .ref a_13, .ref a_14, .ref a_15, .ref a_16, .ref a_17, .ref a_18, .int i_13, .int i_14, .int i_15, .int i_16, .int i_17, .int i_18, .ref a_19, .int i_19, .ref a_20])), (a_7, .inl (cy 1, 30, .inl (mm_g [i_20, i_21, i_22, i_23, i_24, i_25, i_26, i_27, i_28, i_29, i_30, i_31, i_32, i_33, i_34, i_35, i_36, i_37, i_38, i_39, i_40, i_41, i_42, i_43, i_44, i_45, i_46, i_47, i_48, i_49]))), (a_8, .inl (cy 1, 90, .inl f_0)), (a_11, .inl (cy 1, 30, .inl f_1)), (a_12, .inl (cy 1, 240, .inl f_2)), (a_13, .inl (cy 1, 450, .inl f_3)), (a_15, .inl (cy 1, 7200, .inl f_4)), (a_16, .inl (cy 1, 3, .inl f_5)), (a_18, .inl (cy 1, 8, .inl f_6))] → va_S A s.heap H locs → ∀ (ls : Array Slot), lv_has ls 7 [(5, .int x16_5_440), (4, .int 0), (0, .ref a_0), (1, .int i_0), (2, .int i_1), (3, .int i_2)] → W p l e R s m args below meth c H locs 0 0 Q (F0 m 16 ls []) := by
      intro n
      induction n with
      | zero => intro x16_5_440 rx16_5_440 hm; exact absurd hm (Nat.not_lt_zero _)
      | succ n ih16 =>
        intro x16_5_440 rx16_5_440 hm16 H locs hP hD hS ls hl
        refine lv_iload hx hb dX12_heirsOf_16 (lv_at hl 0 rfl) ?_
        refine lv_aload_n hx hb dX12_heirsOf_18 rfl (lv_at hl 2 rfl) ?_
        refine mm_finir (va_runV (As := []) (rest := [.int x16_5_440]) ⟨hx, hb, hml, hown, hts⟩ (M95_X12_texts l G cy H.size a_0 i_3 a_1 a_2 a_3 a_4 a_5 i_4 i_5 i_6 i_7 i_8 j_0 i_9 i_10 i_11 i_12 a_6 a_7 a_8 a_9 a_10 a_11 a_12 a_13 a_14 a_15 a_16 a_17 a_18 i_13 i_14 i_15 i_16 i_17 i_18 a_19 i_19 a_20 i_20 i_21 i_22 i_23 i_24 i_25 i_26 i_27 i_28 i_29 i_30 i_31 i_32 i_33 i_34 i_35 i_36 i_37 i_38 i_39 i_40 i_41 i_42 i_43 i_44 i_45 i_46 i_47 i_48 i_49 h4 h5 h6 h7 h8 h9 h10 h11 h12 h13 h14 h15 h16 h17 h18 h19 h20 h21 h22 h23 h24 h25 h26 h27 h28 h29 h30 h31 h32 h33) (cwV 0 hts (mm_gV mm_w617 mm_w618 mm_w619 mm_w5 mm_w620) rfl rfl rfl hd_X12_texts ⟨by rw [hRf]; exact Nat.le_of_ble_eq_true rfl, by rw [hRl]; exact Nat.le_of_ble_eq_true rfl⟩) (mm_preV hK hZ hS hA hP hD [0, 1] rfl rfl 0 rfl rfl rfl) rfl rfl hl.1 rfl (lv_room (Nat.le_of_ble_eq_true rfl)) dX12_heirsOf_19 ⟨by rw [hRc]; exact Nat.le_of_ble_eq_true rfl, by rw [hRs]; exact Nat.le_of_ble_eq_true rfl⟩) hP hD hS hA [0, 1] rfl (fun _ => rfl) ?_
        clear hP hD hS
        clear H locs
        intro v442 _u H locs hw hP hD hS
        subst hw
        refine lv_icmp_ge (tgt := 86) hx hb dX12_heirsOf_22 (by decide) (fun c443 => ?_) (fun c443 => ?_)
        · refine lv_iload hx hb dX12_heirsOf_86 (lv_at hl 1 rfl) ?_
          subst hAe
          rw [hQ]
          exact W.iret (v := 0) hx hb hr (fun t ht hW => ⟨⟨0, (i_13, i_14, i_15, f_6), rfl, ⟨h3, h40, (mm_wk mm_k0 (by decide))⟩, by rw [ht]; exact hP, hK.warm hW, hD⟩, hS.F ht⟩) hS.2.2 dX12_heirsOf_88
        · have q444 := mm_ltL (h := 5) (mm_nle c443) rx16_5_440 h8 (by decide)
          have q445 := mm_ltR (lo := 1) (mm_nle c443) rx16_5_440 h8 (by decide)
          refine lv_iload_n hx hb dX12_heirsOf_25 rfl (lv_at hl 5 rfl) ?_
          refine lv_iload hx hb dX12_heirsOf_26 (lv_at hl 0 rfl) ?_
          refine mm_finir (va_runS (As := [.int i_2, .int x16_5_440]) (rest := []) ⟨hx, hb, hml, hown, hts⟩ (M232_X12_isBit l G cy H.size i_2 x16_5_440 (mm_wk q360 (by decide)) q444) (va_cwS 2 hts (mm_gS mm_w1461 mm_w1462 mm_w5 mm_w1463) rfl rfl rfl hs_X12_isBit ⟨by rw [hRf]; exact Nat.le_of_ble_eq_true rfl, by rw [hRl]; exact Nat.le_of_ble_eq_true rfl⟩) (mm_preS hK hZ hS hA hP hD [] rfl rfl) rfl rfl hl.1 rfl (lv_room (Nat.le_of_ble_eq_true rfl)) dX12_heirsOf_28 ⟨by rw [hRc]; exact Nat.le_of_ble_eq_true rfl, by rw [hRs]; exact Nat.le_of_ble_eq_true rfl⟩) hP hD hS hA [] rfl (fun _ => rfl) ?_
          clear hP hD hS
          clear H locs
          intro v446 _u H locs hw hP hD hS
          rcases hw with ⟨rfl, w447⟩ | ⟨rfl, w448⟩
          · refine lv_if_ne (tgt := 37) hx hb dX12_heirsOf_31 (by decide) (fun c449 => ?_) (fun c449 => ?_)
            · have q450 := mm_neL (lo := 1) (mm_ne c449) mm_k0 mm_k0 (by decide) (by decide)
              exact mm_no q450 (by decide)
            · refine lv_goto (tgt := 80) hx hb dX12_heirsOf_34 (by decide) ?_
              obtain ⟨v451, ev451⟩ : ∃ y : Int32, y = x16_5_440 + 1 := ⟨_, rfl⟩
              refine lv_iinc (v := v451) (lv' := [(5, .int v451), (4, .int 0), (0, .ref a_0), (1, .int i_0), (2, .int i_1), (3, .int i_2)]) hx hb dX12_heirsOf_80 hl (k := 0) rfl (by rw [ev451]; rfl) (by decide) rfl ?_
              clear hl
              clear ls
              intro ls hl
              have rv451 : mm_rg v451 1 6 := mm_add ev451 q444 mm_k1 (by decide) (by decide)
              have tv451 := mm_addEc ev451 q444 mm_k1 (by decide) (k := 1) (by decide)
              refine lv_goto (tgt := 16) hx hb dX12_heirsOf_83 (by decide) ?_
              exact ih16 v451 (mm_wk rv451 (by decide)) (mm_mu hm16 tv451 (by decide) (rv451).2 (by decide)) H locs hP hD hS ls (lv_sub hl [0, 1, 2, 3, 4, 5] rfl)
          · exact mm_bit_no w448 q360 (by decide)
    exact L16_440 _ 0 (mm_wk mm_k0 (by decide)) (Nat.lt_succ_self _) H locs hP hD hS ls (lv_sub hl [0, 1, 2, 3, 4, 5] rfl)

set_option maxHeartbeats 4000000 in
set_option maxRecDepth 100000 in
theorem M236_X12_heirsOf (l : Launch) (G : va_G) (cy : Nat → ClassId) (sz : Nat) (a_0 : Nat) (i_0 : Int32) (i_1 : Int32) (i_2 : Int32) (i_3 : Int32) (a_1 : Nat) (a_2 : Nat) (a_3 : Nat) (a_4 : Nat) (a_5 : Nat) (i_4 : Int32) (i_5 : Int32) (i_6 : Int32) (i_7 : Int32) (i_8 : Int32) (j_0 : Int64) (i_9 : Int32) (i_10 : Int32) (i_11 : Int32) (i_12 : Int32) (a_6 : Nat) (a_7 : Nat) (a_8 : Nat) (a_9 : Nat) (a_10 : Nat) (a_11 : Nat) (a_12 : Nat) (a_13 : Nat) (a_14 : Nat) (a_15 : Nat) (a_16 : Nat) (a_17 : Nat) (a_18 : Nat) (i_13 : Int32) (i_14 : Int32) (i_15 : Int32) (i_16 : Int32) (i_17 : Int32) (i_18 : Int32) (a_19 : Nat) (i_19 : Int32) (a_20 : Nat) (i_20 : Int32) (i_21 : Int32) (i_22 : Int32) (i_23 : Int32) (i_24 : Int32) (i_25 : Int32) (i_26 : Int32) (i_27 : Int32) (i_28 : Int32) (i_29 : Int32) (i_30 : Int32) (i_31 : Int32) (i_32 : Int32) (i_33 : Int32) (i_34 : Int32) (i_35 : Int32) (i_36 : Int32) (i_37 : Int32) (i_38 : Int32) (i_39 : Int32) (i_40 : Int32) (i_41 : Int32) (i_42 : Int32) (i_43 : Int32) (i_44 : Int32) (i_45 : Int32) (i_46 : Int32) (i_47 : Int32) (i_48 : Int32) (i_49 : Int32) (f_0 : Nat → Int32) (f_1 : Nat → Int32) (f_2 : Nat → Int32) (f_3 : Nat → Int32) (f_4 : Nat → Int32) (f_5 : Nat → Int32) (f_6 : Nat → Int32) (h0 : mm_rg i_0 0 2) (h1 : mm_rg i_1 0 1000000004) (h2 : mm_rg i_2 0 63) (h3 : mm_rg i_13 0 8) (h4 : mm_rg i_20 0 10) (h5 : mm_rg i_21 0 99) (h6 : mm_rg i_22 0 9) (h7 : mm_rg i_23 0 3) (h8 : mm_rg i_24 0 6) (h9 : mm_rg i_25 0 30) (h10 : mm_rg i_26 0 10) (h11 : mm_rg i_27 0 99) (h12 : mm_rg i_28 0 9) (h13 : mm_rg i_29 0 3) (h14 : mm_rg i_30 0 6) (h15 : mm_rg i_31 0 30) (h16 : mm_rg i_32 0 10) (h17 : mm_rg i_33 0 99) (h18 : mm_rg i_34 0 9) (h19 : mm_rg i_35 0 3) (h20 : mm_rg i_36 0 6) (h21 : mm_rg i_37 0 30) (h22 : mm_rg i_38 0 10) (h23 : mm_rg i_39 0 99) (h24 : mm_rg i_40 0 9) (h25 : mm_rg i_41 0 3) (h26 : mm_rg i_42 0 6) (h27 : mm_rg i_43 0 30) (h28 : mm_rg i_44 0 10) (h29 : mm_rg i_45 0 99) (h30 : mm_rg i_46 0 9) (h31 : mm_rg i_47 0 3) (h32 : mm_rg i_48 0 6) (h33 : mm_rg i_49 0 30) (h34 : mm_ar f_0 0 99) (h35 : mm_ar f_1 0 8) (h36 : mm_ar f_2 0 9) (h37 : mm_ar f_3 (-1) 99) (h38 : mm_ar f_4 0 9) (h39 : mm_ar f_5 0 210) (h40 : mm_ar f_6 0 9) (h41 : mm_txs f_1 f_2 0 i_22 i_24) (h42 : mm_acs f_3 0 i_22 i_23 i_25) (h43 : mm_txs f_1 f_2 1 i_28 i_30) (h44 : mm_acs f_3 1 i_28 i_29 i_31) (h45 : mm_txs f_1 f_2 2 i_34 i_36) (h46 : mm_acs f_3 2 i_34 i_35 i_37) (h47 : mm_txs f_1 f_2 3 i_40 i_42) (h48 : mm_acs f_3 3 i_40 i_41 i_43) (h49 : mm_f1 f_5 i_0) (h50 : mm_pc 3 i_2)  : mm_CI l yX12_heirsOf (mm_ws yX12_heirsOf cX12_heirsOf 7 (some .int)) ({ frames := 5, cells := 0, slots := 0, locals := 125 } : Room) G cy sz [(a_0, .inr (12, [.int i_3, .ref a_1, .ref a_2, .ref a_3, .ref a_4, .ref a_5, .int i_4, .int i_5, .int i_6, .int i_7, .int i_8, .long j_0, .int i_9, .int i_10, .int i_11, .int i_12, .ref a_6, .ref a_7, .ref a_8, .ref a_9, .ref a_10, .ref a_11, .ref a_12, .ref a_13, .ref a_14, .ref a_15, .ref a_16, .ref a_17, .ref a_18, .int i_13, .int i_14, .int i_15, .int i_16, .int i_17, .int i_18, .ref a_19, .int i_19, .ref a_20])), (a_7, .inl (cy 1, 30, .inl (mm_g [i_20, i_21, i_22, i_23, i_24, i_25, i_26, i_27, i_28, i_29, i_30, i_31, i_32, i_33, i_34, i_35, i_36, i_37, i_38, i_39, i_40, i_41, i_42, i_43, i_44, i_45, i_46, i_47, i_48, i_49]))), (a_8, .inl (cy 1, 90, .inl f_0)), (a_11, .inl (cy 1, 30, .inl f_1)), (a_12, .inl (cy 1, 240, .inl f_2)), (a_13, .inl (cy 1, 450, .inl f_3)), (a_15, .inl (cy 1, 7200, .inl f_4)), (a_16, .inl (cy 1, 3, .inl f_5)), (a_18, .inl (cy 1, 8, .inl f_6))] [.ref a_0, .int i_0, .int i_1, .int i_2] (fun u : Int32 × Int32 × Int32 × (Nat → Int32) => [(a_0, .inr (12, [.int i_3, .ref a_1, .ref a_2, .ref a_3, .ref a_4, .ref a_5, .int i_4, .int i_5, .int i_6, .int i_7, .int i_8, .long j_0, .int i_9, .int i_10, .int i_11, .int i_12, .ref a_6, .ref a_7, .ref a_8, .ref a_9, .ref a_10, .ref a_11, .ref a_12, .ref a_13, .ref a_14, .ref a_15, .ref a_16, .ref a_17, .ref a_18, .int u.1, .int u.2.1, .int u.2.2.1, .int i_16, .int i_17, .int i_18, .ref a_19, .int i_19, .ref a_20])), (a_7, .inl (cy 1, 30, .inl (mm_g [i_20, i_21, i_22, i_23, i_24, i_25, i_26, i_27, i_28, i_29, i_30, i_31, i_32, i_33, i_34, i_35, i_36, i_37, i_38, i_39, i_40, i_41, i_42, i_43, i_44, i_45, i_46, i_47, i_48, i_49]))), (a_8, .inl (cy 1, 90, .inl f_0)), (a_11, .inl (cy 1, 30, .inl f_1)), (a_12, .inl (cy 1, 240, .inl f_2)), (a_13, .inl (cy 1, 450, .inl f_3)), (a_15, .inl (cy 1, 7200, .inl f_4)), (a_16, .inl (cy 1, 3, .inl f_5)), (a_18, .inl (cy 1, 8, .inl u.2.2.2))]) (fun (r : Int32) (u : Int32 × Int32 × Int32 × (Nat → Int32)) => mm_rg u.1 0 8 ∧ mm_ar u.2.2.2 0 9 ∧ mm_rg r (-1000000) 1009999) 0 0 := by
  refine mm_begin (lv := [(0, .ref a_0), (1, .int i_0), (2, .int i_1), (3, .int i_2)]) (by decide) (Nat.le_of_ble_eq_true rfl) rfl ?_
  intro p e s m below meth c A ls R args Q H locs hRe hQ hAe hx hb hr hlocks hml hown hnm hts hsz hA hS hP hK hD hZ hl
  have hRf : R.frames = 5 := by rw [hRe]
  have hRl : R.locals = 125 := by rw [hRe]
  have hRc : R.cells = 0 := by rw [hRe]
  have hRs : R.slots = 0 := by rw [hRe]
  refine lv_iload_n hx hb dX12_heirsOf_0 rfl (lv_at hl 3 rfl) ?_
  refine lv_if_ne (tgt := 8) hx hb dX12_heirsOf_1 (by decide) (fun c1 => ?_) (fun c1 => ?_)
  · have q2 := mm_neL (lo := 1) (mm_ne c1) h2 mm_k0 (by decide) (by decide)
    refine lv_ldcw (v := (-1000000)) hx hb hown (mm_h hts mm_w1460) dX12_heirsOf_8 ?_
    refine lv_istore (lv' := [(4, .int (-1000000)), (0, .ref a_0), (1, .int i_0), (2, .int i_1), (3, .int i_2)]) hx hb dX12_heirsOf_11 hl (by decide) rfl ?_
    clear hl
    clear ls
    intro ls hl
    refine lv_iconst (v := 0) hx hb dX12_heirsOf_13 (by decide) ?_
    refine lv_istore (lv' := [(5, .int 0), (4, .int (-1000000)), (0, .ref a_0), (1, .int i_0), (2, .int i_1), (3, .int i_2)]) hx hb dX12_heirsOf_14 hl (by decide) rfl ?_
    clear hl
    clear ls
    intro ls hl
    have L16_319 : ∀ (n : Nat) (x16_5_314 : Int32) (x16_4_315 : Int32) (y16_0_29_316 : Int32) (y16_0_30_317 : Int32) (y16_0_31_318 : Int32) (z16_8_319 : Nat → Int32), mm_rg x16_5_314 0 6 → mm_rg x16_4_315 (-1000000) 1009999 → mm_rg y16_0_29_316 0 8 → mm_ar z16_8_319 0 9 → (6 - x16_5_314.toInt).toNat < n → ∀ (H : Heap) (locs : List Loc), va_P G vwCl [(a_0, .inr (12, [.int i_3, .ref a_1, .ref a_2, .ref a_3, .ref a_4, .ref a_5, .int i_4, .int i_5, .int i_6, .int i_7, .int i_8, .long j_0, .int i_9, .int i_10, .int i_11, .int i_12, .ref a_6, .ref a_7, .ref a_8, .ref a_9, .ref a_10, .ref a_11, .ref a_12, .ref a_13, .ref a_14, .ref a_15, .ref a_16, .ref a_17, .ref a_18, .int y16_0_29_316, .int y16_0_30_317, .int y16_0_31_318, .int i_16, .int i_17, .int i_18, .ref a_19, .int i_19, .ref a_20])), (a_7, .inl (cy 1, 30, .inl (mm_g [i_20, i_21, i_22, i_23, i_24, i_25, i_26, i_27, i_28, i_29, i_30, i_31, i_32, i_33, i_34, i_35, i_36, i_37, i_38, i_39, i_40, i_41, i_42, i_43, i_44, i_45, i_46, i_47, i_48, i_49]))), (a_8, .inl (cy 1, 90, .inl f_0)), (a_11, .inl (cy 1, 30, .inl f_1)), (a_12, .inl (cy 1, 240, .inl f_2)), (a_13, .inl (cy 1, 450, .inl f_3)), (a_15, .inl (cy 1, 7200, .inl f_4)), (a_16, .inl (cy 1, 3, .inl f_5)), (a_18, .inl (cy 1, 8, .inl z16_8_319))] H → va_D A [(a_0, .inr (12, [.int i_3, .ref a_1, .ref a_2, .ref a_3, .ref a_4, .ref a_5, .int i_4, .int i_5, .int i_6, .int i_7, .int i_8, .long j_0, .int i_9, .int i_10, .int i_11, .int i_12, .ref a_6, .ref a_7, .ref a_8, .ref a_9, .ref a_10, .ref a_11, .ref a_12, .ref a_13, .ref a_14, .ref a_15, .ref a_16, .ref a_17, .ref a_18, .int y16_0_29_316, .int y16_0_30_317, .int y16_0_31_318, .int i_16, .int i_17, .int i_18, .ref a_19, .int i_19, .ref a_20])), (a_7, .inl (cy 1, 30, .inl (mm_g [i_20, i_21, i_22, i_23, i_24, i_25, i_26, i_27, i_28, i_29, i_30, i_31, i_32, i_33, i_34, i_35, i_36, i_37, i_38, i_39, i_40, i_41, i_42, i_43, i_44, i_45, i_46, i_47, i_48, i_49]))), (a_8, .inl (cy 1, 90, .inl f_0)), (a_11, .inl (cy 1, 30, .inl f_1)), (a_12, .inl (cy 1, 240, .inl f_2)), (a_13, .inl (cy 1, 450, .inl f_3)), (a_15, .inl (cy 1, 7200, .inl f_4)), (a_16, .inl (cy 1, 3, .inl f_5)), (a_18, .inl (cy 1, 8, .inl z16_8_319))] → va_S A s.heap H locs → ∀ (ls : Array Slot), lv_has ls 7 [(5, .int x16_5_314), (4, .int x16_4_315), (0, .ref a_0), (1, .int i_0), (2, .int i_1), (3, .int i_2)] → W p l e R s m args below meth c H locs 0 0 Q (F0 m 16 ls []) := by
      intro n
      induction n with
      | zero => intro x16_5_314 x16_4_315 y16_0_29_316 y16_0_30_317 y16_0_31_318 z16_8_319 rx16_5_314 rx16_4_315 ry16_0_29_316 rz16_8_319 hm; exact absurd hm (Nat.not_lt_zero _)
      | succ n ih16 =>
        intro x16_5_314 x16_4_315 y16_0_29_316 y16_0_30_317 y16_0_31_318 z16_8_319 rx16_5_314 rx16_4_315 ry16_0_29_316 rz16_8_319 hm16 H locs hP hD hS ls hl
        refine lv_iload hx hb dX12_heirsOf_16 (lv_at hl 0 rfl) ?_
        refine lv_aload_n hx hb dX12_heirsOf_18 rfl (lv_at hl 2 rfl) ?_
        refine mm_finir (va_runV (As := []) (rest := [.int x16_5_314]) ⟨hx, hb, hml, hown, hts⟩ (M95_X12_texts l G cy H.size a_0 i_3 a_1 a_2 a_3 a_4 a_5 i_4 i_5 i_6 i_7 i_8 j_0 i_9 i_10 i_11 i_12 a_6 a_7 a_8 a_9 a_10 a_11 a_12 a_13 a_14 a_15 a_16 a_17 a_18 y16_0_29_316 y16_0_30_317 y16_0_31_318 i_16 i_17 i_18 a_19 i_19 a_20 i_20 i_21 i_22 i_23 i_24 i_25 i_26 i_27 i_28 i_29 i_30 i_31 i_32 i_33 i_34 i_35 i_36 i_37 i_38 i_39 i_40 i_41 i_42 i_43 i_44 i_45 i_46 i_47 i_48 i_49 h4 h5 h6 h7 h8 h9 h10 h11 h12 h13 h14 h15 h16 h17 h18 h19 h20 h21 h22 h23 h24 h25 h26 h27 h28 h29 h30 h31 h32 h33) (cwV 0 hts (mm_gV mm_w617 mm_w618 mm_w619 mm_w5 mm_w620) rfl rfl rfl hd_X12_texts ⟨by rw [hRf]; exact Nat.le_of_ble_eq_true rfl, by rw [hRl]; exact Nat.le_of_ble_eq_true rfl⟩) (mm_preV hK hZ hS hA hP hD [0, 1] rfl rfl 0 rfl rfl rfl) rfl rfl hl.1 rfl (lv_room (Nat.le_of_ble_eq_true rfl)) dX12_heirsOf_19 ⟨by rw [hRc]; exact Nat.le_of_ble_eq_true rfl, by rw [hRs]; exact Nat.le_of_ble_eq_true rfl⟩) hP hD hS hA [0, 1] rfl (fun _ => rfl) ?_
        clear hP hD hS
        clear H locs
        intro v321 _u H locs hw hP hD hS
        subst hw
        refine lv_icmp_ge (tgt := 86) hx hb dX12_heirsOf_22 (by decide) (fun c322 => ?_) (fun c322 => ?_)
        · refine lv_iload hx hb dX12_heirsOf_86 (lv_at hl 1 rfl) ?_
          subst hAe
          rw [hQ]
          exact W.iret (v := x16_4_315) hx hb hr (fun t ht hW => ⟨⟨x16_4_315, (y16_0_29_316, y16_0_30_317, y16_0_31_318, z16_8_319), rfl, ⟨ry16_0_29_316, rz16_8_319, rx16_4_315⟩, by rw [ht]; exact hP, hK.warm hW, hD⟩, hS.F ht⟩) hS.2.2 dX12_heirsOf_88
        · have q323 := mm_ltL (h := 5) (mm_nle c322) rx16_5_314 h8 (by decide)
          have q324 := mm_ltR (lo := 1) (mm_nle c322) rx16_5_314 h8 (by decide)
          refine lv_iload_n hx hb dX12_heirsOf_25 rfl (lv_at hl 5 rfl) ?_
          refine lv_iload hx hb dX12_heirsOf_26 (lv_at hl 0 rfl) ?_
          refine mm_finir (va_runS (As := [.int i_2, .int x16_5_314]) (rest := []) ⟨hx, hb, hml, hown, hts⟩ (M232_X12_isBit l G cy H.size i_2 x16_5_314 (mm_wk q2 (by decide)) q323) (va_cwS 2 hts (mm_gS mm_w1461 mm_w1462 mm_w5 mm_w1463) rfl rfl rfl hs_X12_isBit ⟨by rw [hRf]; exact Nat.le_of_ble_eq_true rfl, by rw [hRl]; exact Nat.le_of_ble_eq_true rfl⟩) (mm_preS hK hZ hS hA hP hD [] rfl rfl) rfl rfl hl.1 rfl (lv_room (Nat.le_of_ble_eq_true rfl)) dX12_heirsOf_28 ⟨by rw [hRc]; exact Nat.le_of_ble_eq_true rfl, by rw [hRs]; exact Nat.le_of_ble_eq_true rfl⟩) hP hD hS hA [] rfl (fun _ => rfl) ?_
          clear hP hD hS
          clear H locs
          intro v325 _u H locs hw hP hD hS
          rcases hw with ⟨rfl, w326⟩ | ⟨rfl, w327⟩
          · refine lv_if_ne (tgt := 37) hx hb dX12_heirsOf_31 (by decide) (fun c328 => ?_) (fun c328 => ?_)
            · have q329 := mm_neL (lo := 1) (mm_ne c328) mm_k0 mm_k0 (by decide) (by decide)
              exact mm_no q329 (by decide)
            · refine lv_goto (tgt := 80) hx hb dX12_heirsOf_34 (by decide) ?_
              obtain ⟨v330, ev330⟩ : ∃ y : Int32, y = x16_5_314 + 1 := ⟨_, rfl⟩
              refine lv_iinc (v := v330) (lv' := [(5, .int v330), (4, .int x16_4_315), (0, .ref a_0), (1, .int i_0), (2, .int i_1), (3, .int i_2)]) hx hb dX12_heirsOf_80 hl (k := 0) rfl (by rw [ev330]; rfl) (by decide) rfl ?_
              clear hl
              clear ls
              intro ls hl
              have rv330 : mm_rg v330 1 6 := mm_add ev330 q323 mm_k1 (by decide) (by decide)
              have tv330 := mm_addEc ev330 q323 mm_k1 (by decide) (k := 1) (by decide)
              refine lv_goto (tgt := 16) hx hb dX12_heirsOf_83 (by decide) ?_
              exact ih16 v330 x16_4_315 y16_0_29_316 y16_0_30_317 y16_0_31_318 z16_8_319 (mm_wk rv330 (by decide)) rx16_4_315 ry16_0_29_316 rz16_8_319 (mm_mu hm16 tv330 (by decide) (rv330).2 (by decide)) H locs hP hD hS ls (lv_sub hl [0, 1, 2, 3, 4, 5] rfl)
          · refine lv_if_ne (tgt := 37) hx hb dX12_heirsOf_31 (by decide) (fun c331 => ?_) (fun c331 => ?_)
            · refine lv_aload_n hx hb dX12_heirsOf_37 rfl (lv_at hl 2 rfl) ?_
              refine lv_iload_n hx hb dX12_heirsOf_38 rfl (lv_at hl 3 rfl) ?_
              refine lv_iload_n hx hb dX12_heirsOf_39 rfl (lv_at hl 4 rfl) ?_
              refine lv_iload hx hb dX12_heirsOf_40 (lv_at hl 0 rfl) ?_
              refine mm_fini (va_runV (As := [.int i_0, .int i_1, .int x16_5_314]) (rest := []) ⟨hx, hb, hml, hown, hts⟩ (M141_X12_reads l G cy H.size a_0 i_0 i_1 x16_5_314 i_3 a_1 a_2 a_3 a_4 a_5 i_4 i_5 i_6 i_7 i_8 j_0 i_9 i_10 i_11 i_12 a_6 a_7 a_8 a_9 a_10 a_11 a_12 a_13 a_14 a_15 a_16 a_17 a_18 y16_0_29_316 y16_0_30_317 y16_0_31_318 i_16 i_17 i_18 a_19 i_19 a_20 i_20 i_21 i_22 i_23 i_24 i_25 i_26 i_27 i_28 i_29 i_30 i_31 i_32 i_33 i_34 i_35 i_36 i_37 i_38 i_39 i_40 i_41 i_42 i_43 i_44 i_45 i_46 i_47 i_48 i_49 f_0 f_1 f_2 f_3 f_4 f_5 z16_8_319 h0 (mm_wk h1 (by decide)) q323 ry16_0_29_316 h4 h5 h6 h7 (mm_wk q324 (by decide)) h9 h10 h11 h12 h13 h14 h15 h16 h17 h18 h19 h20 h21 h22 h23 h24 h25 h26 h27 h28 h29 h30 h31 h32 h33 h34 h35 h36 h37 h38 h39 rz16_8_319 h41 h42 h43 h44 h45 h46 h47 h48 h49) (cwV 3 hts (mm_gV mm_w852 mm_w853 mm_w854 mm_w5 mm_w855) rfl rfl rfl hd_X12_reads ⟨by rw [hRf]; exact Nat.le_of_ble_eq_true rfl, by rw [hRl]; exact Nat.le_of_ble_eq_true rfl⟩) (mm_preV hK hZ hS hA hP hD [0, 1, 2, 3, 4, 5, 6, 7, 8] rfl rfl 0 rfl rfl rfl) rfl rfl hl.1 rfl (lv_room (Nat.le_of_ble_eq_true rfl)) dX12_heirsOf_42 ⟨by rw [hRc]; exact Nat.le_of_ble_eq_true rfl, by rw [hRs]; exact Nat.le_of_ble_eq_true rfl⟩) hP hD hS hA (fun u : Int32 × Int32 × Int32 × (Nat → Int32) => [(a_0, .inr (12, [.int i_3, .ref a_1, .ref a_2, .ref a_3, .ref a_4, .ref a_5, .int i_4, .int i_5, .int i_6, .int i_7, .int i_8, .long j_0, .int i_9, .int i_10, .int i_11, .int i_12, .ref a_6, .ref a_7, .ref a_8, .ref a_9, .ref a_10, .ref a_11, .ref a_12, .ref a_13, .ref a_14, .ref a_15, .ref a_16, .ref a_17, .ref a_18, .int u.1, .int u.2.1, .int u.2.2.1, .int i_16, .int i_17, .int i_18, .ref a_19, .int i_19, .ref a_20])), (a_7, .inl (cy 1, 30, .inl (mm_g [i_20, i_21, i_22, i_23, i_24, i_25, i_26, i_27, i_28, i_29, i_30, i_31, i_32, i_33, i_34, i_35, i_36, i_37, i_38, i_39, i_40, i_41, i_42, i_43, i_44, i_45, i_46, i_47, i_48, i_49]))), (a_8, .inl (cy 1, 90, .inl f_0)), (a_11, .inl (cy 1, 30, .inl f_1)), (a_12, .inl (cy 1, 240, .inl f_2)), (a_13, .inl (cy 1, 450, .inl f_3)), (a_15, .inl (cy 1, 7200, .inl f_4)), (a_16, .inl (cy 1, 3, .inl f_5)), (a_18, .inl (cy 1, 8, .inl u.2.2.2))]) [0, 1, 2, 3, 4, 5, 6, 7, 8] [] (n := 9) (fun _ => rfl) (by decide +kernel) (by decide +kernel) rfl (fun _ => rfl) (wr := []) rfl (fun _ => rfl) (fun _ => @rfl _ ([a_0, a_7, a_8, a_11, a_12, a_13, a_15, a_16, a_18] : List Nat)) ?_
              clear hP hD hS
              clear H locs
              intro v336 u
              obtain ⟨n332, n333, n334, n335⟩ := u
              intro H locs hw (hP : va_P G vwCl [(a_0, .inr (12, [.int i_3, .ref a_1, .ref a_2, .ref a_3, .ref a_4, .ref a_5, .int i_4, .int i_5, .int i_6, .int i_7, .int i_8, .long j_0, .int i_9, .int i_10, .int i_11, .int i_12, .ref a_6, .ref a_7, .ref a_8, .ref a_9, .ref a_10, .ref a_11, .ref a_12, .ref a_13, .ref a_14, .ref a_15, .ref a_16, .ref a_17, .ref a_18, .int n332, .int n333, .int n334, .int i_16, .int i_17, .int i_18, .ref a_19, .int i_19, .ref a_20])), (a_7, .inl (cy 1, 30, .inl (mm_g [i_20, i_21, i_22, i_23, i_24, i_25, i_26, i_27, i_28, i_29, i_30, i_31, i_32, i_33, i_34, i_35, i_36, i_37, i_38, i_39, i_40, i_41, i_42, i_43, i_44, i_45, i_46, i_47, i_48, i_49]))), (a_8, .inl (cy 1, 90, .inl f_0)), (a_11, .inl (cy 1, 30, .inl f_1)), (a_12, .inl (cy 1, 240, .inl f_2)), (a_13, .inl (cy 1, 450, .inl f_3)), (a_15, .inl (cy 1, 7200, .inl f_4)), (a_16, .inl (cy 1, 3, .inl f_5)), (a_18, .inl (cy 1, 8, .inl n335))] H) (hD : va_D A [(a_0, .inr (12, [.int i_3, .ref a_1, .ref a_2, .ref a_3, .ref a_4, .ref a_5, .int i_4, .int i_5, .int i_6, .int i_7, .int i_8, .long j_0, .int i_9, .int i_10, .int i_11, .int i_12, .ref a_6, .ref a_7, .ref a_8, .ref a_9, .ref a_10, .ref a_11, .ref a_12, .ref a_13, .ref a_14, .ref a_15, .ref a_16, .ref a_17, .ref a_18, .int n332, .int n333, .int n334, .int i_16, .int i_17, .int i_18, .ref a_19, .int i_19, .ref a_20])), (a_7, .inl (cy 1, 30, .inl (mm_g [i_20, i_21, i_22, i_23, i_24, i_25, i_26, i_27, i_28, i_29, i_30, i_31, i_32, i_33, i_34, i_35, i_36, i_37, i_38, i_39, i_40, i_41, i_42, i_43, i_44, i_45, i_46, i_47, i_48, i_49]))), (a_8, .inl (cy 1, 90, .inl f_0)), (a_11, .inl (cy 1, 30, .inl f_1)), (a_12, .inl (cy 1, 240, .inl f_2)), (a_13, .inl (cy 1, 450, .inl f_3)), (a_15, .inl (cy 1, 7200, .inl f_4)), (a_16, .inl (cy 1, 3, .inl f_5)), (a_18, .inl (cy 1, 8, .inl n335))]) hS
              obtain ⟨w337, w338, hw⟩ := hw
              obtain ⟨w339, w340⟩ := hw
              replace w340 : mm_rd f_4 f_5 f_0 f_1 f_2 f_3 i_0 i_1 x16_5_314 i_21 i_22 i_25 v336 := w340
              refine lv_aload_n hx hb dX12_heirsOf_45 rfl (lv_at hl 2 rfl) ?_
              refine lv_iload_n hx hb dX12_heirsOf_46 rfl (lv_at hl 3 rfl) ?_
              refine lv_iload_n hx hb dX12_heirsOf_47 rfl (lv_at hl 4 rfl) ?_
              refine lv_iconst (v := 1) hx hb dX12_heirsOf_48 (by decide) ?_
              refine lv_iadd hx hb dX12_heirsOf_49 ?_
              refine lv_topi (fun v341 ev341 => ?_)
              have rv341 : mm_rg v341 1 1000000005 := mm_add ev341 h1 mm_k1 (by decide) (by decide)
              have tv341 := mm_addEc ev341 h1 mm_k1 (by decide) (k := 1) (by decide)
              refine lv_iload_n hx hb dX12_heirsOf_50 rfl (lv_at hl 5 rfl) ?_
              refine lv_iconst (v := 1) hx hb dX12_heirsOf_51 (by decide) ?_
              refine lv_iload hx hb dX12_heirsOf_52 (lv_at hl 0 rfl) ?_
              refine lv_ishl hx hb dX12_heirsOf_54 ?_
              refine lv_topi (fun v342 ev342 => ?_)
              have rv342 : mm_rg v342 1 32 := mm_shl1 ev342 q323 (by decide)
              refine lv_iconst (v := (-1)) hx hb dX12_heirsOf_55 (by decide) ?_
              refine lv_ixor hx hb dX12_heirsOf_56 ?_
              refine lv_topi (fun v343 ev343 => ?_)
              refine lv_iand hx hb dX12_heirsOf_57 ?_
              refine lv_topi (fun v344 ev344 => ?_)
              have rv344 : mm_rg v344 0 63 := mm_andL ev344 q2 (by decide)
              refine mm_fini (va_runV (As := [.int i_0, .int v341, .int v344]) (rest := [.int v336]) ⟨hx, hb, hml, hown, hts⟩ (M235_X12_heirsOf l G cy H.size a_0 i_0 v341 v344 i_3 a_1 a_2 a_3 a_4 a_5 i_4 i_5 i_6 i_7 i_8 j_0 i_9 i_10 i_11 i_12 a_6 a_7 a_8 a_9 a_10 a_11 a_12 a_13 a_14 a_15 a_16 a_17 a_18 n332 n333 n334 i_16 i_17 i_18 a_19 i_19 a_20 i_20 i_21 i_22 i_23 i_24 i_25 i_26 i_27 i_28 i_29 i_30 i_31 i_32 i_33 i_34 i_35 i_36 i_37 i_38 i_39 i_40 i_41 i_42 i_43 i_44 i_45 i_46 i_47 i_48 i_49 f_0 f_1 f_2 f_3 f_4 f_5 n335 h0 (mm_wk rv341 (by decide)) rv344 w337 h4 h5 h6 h7 (mm_wk q324 (by decide)) h9 h10 h11 h12 h13 h14 h15 h16 h17 h18 h19 h20 h21 h22 h23 h24 h25 h26 h27 h28 h29 h30 h31 h32 h33 h34 h35 h36 h37 h38 h39 w338 h41 h42 h43 h44 h45 h46 h47 h48 h49 (mm_pc_cut h50 w327 ev342 ev343 ev344 q2 q323 (by decide))) (cwV 3 hts (mm_gV mm_w1456 mm_w1457 mm_w1458 mm_w5 mm_w1459) rfl rfl rfl hd_X12_heirsOf ⟨by rw [hRf]; exact Nat.le_of_ble_eq_true rfl, by rw [hRl]; exact Nat.le_of_ble_eq_true rfl⟩) (mm_preV hK hZ hS hA hP hD [0, 1, 2, 3, 4, 5, 6, 7, 8] rfl rfl 0 rfl rfl rfl) rfl rfl hl.1 rfl (lv_room (Nat.le_of_ble_eq_true rfl)) dX12_heirsOf_58 ⟨by rw [hRc]; exact Nat.le_of_ble_eq_true rfl, by rw [hRs]; exact Nat.le_of_ble_eq_true rfl⟩) hP hD hS hA (fun u : Int32 × Int32 × Int32 × (Nat → Int32) => [(a_0, .inr (12, [.int i_3, .ref a_1, .ref a_2, .ref a_3, .ref a_4, .ref a_5, .int i_4, .int i_5, .int i_6, .int i_7, .int i_8, .long j_0, .int i_9, .int i_10, .int i_11, .int i_12, .ref a_6, .ref a_7, .ref a_8, .ref a_9, .ref a_10, .ref a_11, .ref a_12, .ref a_13, .ref a_14, .ref a_15, .ref a_16, .ref a_17, .ref a_18, .int u.1, .int u.2.1, .int u.2.2.1, .int i_16, .int i_17, .int i_18, .ref a_19, .int i_19, .ref a_20])), (a_7, .inl (cy 1, 30, .inl (mm_g [i_20, i_21, i_22, i_23, i_24, i_25, i_26, i_27, i_28, i_29, i_30, i_31, i_32, i_33, i_34, i_35, i_36, i_37, i_38, i_39, i_40, i_41, i_42, i_43, i_44, i_45, i_46, i_47, i_48, i_49]))), (a_8, .inl (cy 1, 90, .inl f_0)), (a_11, .inl (cy 1, 30, .inl f_1)), (a_12, .inl (cy 1, 240, .inl f_2)), (a_13, .inl (cy 1, 450, .inl f_3)), (a_15, .inl (cy 1, 7200, .inl f_4)), (a_16, .inl (cy 1, 3, .inl f_5)), (a_18, .inl (cy 1, 8, .inl u.2.2.2))]) [0, 1, 2, 3, 4, 5, 6, 7, 8] [] (n := 9) (fun _ => rfl) (by decide +kernel) (by decide +kernel) rfl (fun _ => rfl) (wr := []) rfl (fun _ => rfl) (fun _ => @rfl _ ([a_0, a_7, a_8, a_11, a_12, a_13, a_15, a_16, a_18] : List Nat)) ?_
              clear hP hD hS
              clear H locs
              intro v349 u
              obtain ⟨n345, n346, n347, n348⟩ := u
              intro H locs hw (hP : va_P G vwCl [(a_0, .inr (12, [.int i_3, .ref a_1, .ref a_2, .ref a_3, .ref a_4, .ref a_5, .int i_4, .int i_5, .int i_6, .int i_7, .int i_8, .long j_0, .int i_9, .int i_10, .int i_11, .int i_12, .ref a_6, .ref a_7, .ref a_8, .ref a_9, .ref a_10, .ref a_11, .ref a_12, .ref a_13, .ref a_14, .ref a_15, .ref a_16, .ref a_17, .ref a_18, .int n345, .int n346, .int n347, .int i_16, .int i_17, .int i_18, .ref a_19, .int i_19, .ref a_20])), (a_7, .inl (cy 1, 30, .inl (mm_g [i_20, i_21, i_22, i_23, i_24, i_25, i_26, i_27, i_28, i_29, i_30, i_31, i_32, i_33, i_34, i_35, i_36, i_37, i_38, i_39, i_40, i_41, i_42, i_43, i_44, i_45, i_46, i_47, i_48, i_49]))), (a_8, .inl (cy 1, 90, .inl f_0)), (a_11, .inl (cy 1, 30, .inl f_1)), (a_12, .inl (cy 1, 240, .inl f_2)), (a_13, .inl (cy 1, 450, .inl f_3)), (a_15, .inl (cy 1, 7200, .inl f_4)), (a_16, .inl (cy 1, 3, .inl f_5)), (a_18, .inl (cy 1, 8, .inl n348))] H) (hD : va_D A [(a_0, .inr (12, [.int i_3, .ref a_1, .ref a_2, .ref a_3, .ref a_4, .ref a_5, .int i_4, .int i_5, .int i_6, .int i_7, .int i_8, .long j_0, .int i_9, .int i_10, .int i_11, .int i_12, .ref a_6, .ref a_7, .ref a_8, .ref a_9, .ref a_10, .ref a_11, .ref a_12, .ref a_13, .ref a_14, .ref a_15, .ref a_16, .ref a_17, .ref a_18, .int n345, .int n346, .int n347, .int i_16, .int i_17, .int i_18, .ref a_19, .int i_19, .ref a_20])), (a_7, .inl (cy 1, 30, .inl (mm_g [i_20, i_21, i_22, i_23, i_24, i_25, i_26, i_27, i_28, i_29, i_30, i_31, i_32, i_33, i_34, i_35, i_36, i_37, i_38, i_39, i_40, i_41, i_42, i_43, i_44, i_45, i_46, i_47, i_48, i_49]))), (a_8, .inl (cy 1, 90, .inl f_0)), (a_11, .inl (cy 1, 30, .inl f_1)), (a_12, .inl (cy 1, 240, .inl f_2)), (a_13, .inl (cy 1, 450, .inl f_3)), (a_15, .inl (cy 1, 7200, .inl f_4)), (a_16, .inl (cy 1, 3, .inl f_5)), (a_18, .inl (cy 1, 8, .inl n348))]) hS
              obtain ⟨w350, w351, hw⟩ := hw
              have w352 := hw
              refine lv_isub hx hb dX12_heirsOf_61 ?_
              refine lv_topi (fun v353 ev353 => ?_)
              have rv353 : mm_rg v353 (-1009999) 1009999 := mm_sub ev353 w339 w352 (by decide) (by decide)
              have tv353 := mm_subE ev353 w339 w352 (by decide)
              refine lv_istore (lv' := [(6, .int v353), (5, .int x16_5_314), (4, .int x16_4_315), (0, .ref a_0), (1, .int i_0), (2, .int i_1), (3, .int i_2)]) hx hb dX12_heirsOf_62 hl (by decide) rfl ?_
              clear hl
              clear ls
              intro ls hl
              refine lv_iload hx hb dX12_heirsOf_64 (lv_at hl 0 rfl) ?_
              refine lv_iload hx hb dX12_heirsOf_66 (lv_at hl 2 rfl) ?_
              refine lv_icmp_le (tgt := 76) hx hb dX12_heirsOf_68 (by decide) (fun c354 => ?_) (fun c354 => ?_)
              · refine lv_iload hx hb dX12_heirsOf_76 (lv_at hl 2 rfl) ?_
                refine lv_istore (lv' := [(4, .int x16_4_315), (6, .int v353), (5, .int x16_5_314), (0, .ref a_0), (1, .int i_0), (2, .int i_1), (3, .int i_2)]) hx hb dX12_heirsOf_78 hl (by decide) rfl ?_
                clear hl
                clear ls
                intro ls hl
                obtain ⟨v355, ev355⟩ : ∃ y : Int32, y = x16_5_314 + 1 := ⟨_, rfl⟩
                refine lv_iinc (v := v355) (lv' := [(5, .int v355), (4, .int x16_4_315), (6, .int v353), (0, .ref a_0), (1, .int i_0), (2, .int i_1), (3, .int i_2)]) hx hb dX12_heirsOf_80 hl (k := 2) rfl (by rw [ev355]; rfl) (by decide) rfl ?_
                clear hl
                clear ls
                intro ls hl
                have rv355 : mm_rg v355 1 6 := mm_add ev355 q323 mm_k1 (by decide) (by decide)
                have tv355 := mm_addEc ev355 q323 mm_k1 (by decide) (k := 1) (by decide)
                refine lv_goto (tgt := 16) hx hb dX12_heirsOf_83 (by decide) ?_
                exact ih16 v355 x16_4_315 n345 n346 n347 n348 (mm_wk rv355 (by decide)) rx16_4_315 w350 w351 (mm_mu hm16 tv355 (by decide) (rv355).2 (by decide)) H locs hP hD hS ls (lv_sub hl [0, 1, 3, 4, 5, 6] rfl)
              · have q356 := mm_ltL (h := 1009998) (mm_nle c354) rx16_4_315 rv353 (by decide)
                have q357 := mm_ltR (lo := (-999999)) (mm_nle c354) rx16_4_315 rv353 (by decide)
                have q358 : mm_rg v349 (-1000000) 1009998 := mm_unsubY tv353 q357 w339 w352 (by decide)
                refine lv_iload hx hb dX12_heirsOf_71 (lv_at hl 0 rfl) ?_
                refine lv_goto (tgt := 78) hx hb dX12_heirsOf_73 (by decide) ?_
                refine lv_istore (lv' := [(4, .int v353), (6, .int v353), (5, .int x16_5_314), (0, .ref a_0), (1, .int i_0), (2, .int i_1), (3, .int i_2)]) hx hb dX12_heirsOf_78 hl (by decide) rfl ?_
                clear hl
                clear ls
                intro ls hl
                obtain ⟨v359, ev359⟩ : ∃ y : Int32, y = x16_5_314 + 1 := ⟨_, rfl⟩
                refine lv_iinc (v := v359) (lv' := [(5, .int v359), (4, .int v353), (6, .int v353), (0, .ref a_0), (1, .int i_0), (2, .int i_1), (3, .int i_2)]) hx hb dX12_heirsOf_80 hl (k := 2) rfl (by rw [ev359]; rfl) (by decide) rfl ?_
                clear hl
                clear ls
                intro ls hl
                have rv359 : mm_rg v359 1 6 := mm_add ev359 q323 mm_k1 (by decide) (by decide)
                have tv359 := mm_addEc ev359 q323 mm_k1 (by decide) (k := 1) (by decide)
                refine lv_goto (tgt := 16) hx hb dX12_heirsOf_83 (by decide) ?_
                exact ih16 v359 v353 n345 n346 n347 n348 (mm_wk rv359 (by decide)) (mm_wk q357 (by decide)) w350 w351 (mm_mu hm16 tv359 (by decide) (rv359).2 (by decide)) H locs hP hD hS ls (lv_sub hl [0, 1, 3, 4, 5, 6] rfl)
            · exact mm_eqN c331.symm mm_k0 mm_k1 (by decide)
    exact L16_319 _ 0 (-1000000) i_13 i_14 i_15 f_6 (mm_wk mm_k0 (by decide)) (mm_wk mm_km1000000 (by decide)) h3 h40 (Nat.lt_succ_self _) H locs hP hD hS ls (lv_sub hl [0, 1, 2, 3, 4, 5] rfl)
  · have q360 := mm_eqI (lo := 0) (hi := 0) c1 h2 mm_k0 (by decide)
    refine lv_iconst (v := 0) hx hb dX12_heirsOf_4 (by decide) ?_
    refine lv_goto (tgt := 11) hx hb dX12_heirsOf_5 (by decide) ?_
    refine lv_istore (lv' := [(4, .int 0), (0, .ref a_0), (1, .int i_0), (2, .int i_1), (3, .int i_2)]) hx hb dX12_heirsOf_11 hl (by decide) rfl ?_
    clear hl
    clear ls
    intro ls hl
    refine lv_iconst (v := 0) hx hb dX12_heirsOf_13 (by decide) ?_
    refine lv_istore (lv' := [(5, .int 0), (4, .int 0), (0, .ref a_0), (1, .int i_0), (2, .int i_1), (3, .int i_2)]) hx hb dX12_heirsOf_14 hl (by decide) rfl ?_
    clear hl
    clear ls
    intro ls hl
    have L16_440 : ∀ (n : Nat) (x16_5_440 : Int32), mm_rg x16_5_440 0 6 → (6 - x16_5_440.toInt).toNat < n → ∀ (H : Heap) (locs : List Loc), va_P G vwCl [(a_0, .inr (12, [.int i_3, .ref a_1, .ref a_2, .ref a_3, .ref a_4, .ref a_5, .int i_4, .int i_5, .int i_6, .int i_7, .int i_8, .long j_0, .int i_9, .int i_10, .int i_11, .int i_12, .ref a_6, .ref a_7, .ref a_8, .ref a_9, .ref a_10, .ref a_11, .ref a_12, .ref a_13, .ref a_14, .ref a_15, .ref a_16, .ref a_17, .ref a_18, .int i_13, .int i_14, .int i_15, .int i_16, .int i_17, .int i_18, .ref a_19, .int i_19, .ref a_20])), (a_7, .inl (cy 1, 30, .inl (mm_g [i_20, i_21, i_22, i_23, i_24, i_25, i_26, i_27, i_28, i_29, i_30, i_31, i_32, i_33, i_34, i_35, i_36, i_37, i_38, i_39, i_40, i_41, i_42, i_43, i_44, i_45, i_46, i_47, i_48, i_49]))), (a_8, .inl (cy 1, 90, .inl f_0)), (a_11, .inl (cy 1, 30, .inl f_1)), (a_12, .inl (cy 1, 240, .inl f_2)), (a_13, .inl (cy 1, 450, .inl f_3)), (a_15, .inl (cy 1, 7200, .inl f_4)), (a_16, .inl (cy 1, 3, .inl f_5)), (a_18, .inl (cy 1, 8, .inl f_6))] H → va_D A [(a_0, .inr (12, [.int i_3, .ref a_1, .ref a_2, .ref a_3, .ref a_4, .ref a_5, .int i_4, .int i_5, .int i_6, .int i_7, .int i_8, .long j_0, .int i_9, .int i_10, .int i_11, .int i_12, .ref a_6, .ref a_7, .ref a_8, .ref a_9, .ref a_10, .ref a_11, .ref a_12, .ref a_13, .ref a_14, .ref a_15, .ref a_16, .ref a_17, .ref a_18, .int i_13, .int i_14, .int i_15, .int i_16, .int i_17, .int i_18, .ref a_19, .int i_19, .ref a_20])), (a_7, .inl (cy 1, 30, .inl (mm_g [i_20, i_21, i_22, i_23, i_24, i_25, i_26, i_27, i_28, i_29, i_30, i_31, i_32, i_33, i_34, i_35, i_36, i_37, i_38, i_39, i_40, i_41, i_42, i_43, i_44, i_45, i_46, i_47, i_48, i_49]))), (a_8, .inl (cy 1, 90, .inl f_0)), (a_11, .inl (cy 1, 30, .inl f_1)), (a_12, .inl (cy 1, 240, .inl f_2)), (a_13, .inl (cy 1, 450, .inl f_3)), (a_15, .inl (cy 1, 7200, .inl f_4)), (a_16, .inl (cy 1, 3, .inl f_5)), (a_18, .inl (cy 1, 8, .inl f_6))] → va_S A s.heap H locs → ∀ (ls : Array Slot), lv_has ls 7 [(5, .int x16_5_440), (4, .int 0), (0, .ref a_0), (1, .int i_0), (2, .int i_1), (3, .int i_2)] → W p l e R s m args below meth c H locs 0 0 Q (F0 m 16 ls []) := by
      intro n
      induction n with
      | zero => intro x16_5_440 rx16_5_440 hm; exact absurd hm (Nat.not_lt_zero _)
      | succ n ih16 =>
        intro x16_5_440 rx16_5_440 hm16 H locs hP hD hS ls hl
        refine lv_iload hx hb dX12_heirsOf_16 (lv_at hl 0 rfl) ?_
        refine lv_aload_n hx hb dX12_heirsOf_18 rfl (lv_at hl 2 rfl) ?_
        refine mm_finir (va_runV (As := []) (rest := [.int x16_5_440]) ⟨hx, hb, hml, hown, hts⟩ (M95_X12_texts l G cy H.size a_0 i_3 a_1 a_2 a_3 a_4 a_5 i_4 i_5 i_6 i_7 i_8 j_0 i_9 i_10 i_11 i_12 a_6 a_7 a_8 a_9 a_10 a_11 a_12 a_13 a_14 a_15 a_16 a_17 a_18 i_13 i_14 i_15 i_16 i_17 i_18 a_19 i_19 a_20 i_20 i_21 i_22 i_23 i_24 i_25 i_26 i_27 i_28 i_29 i_30 i_31 i_32 i_33 i_34 i_35 i_36 i_37 i_38 i_39 i_40 i_41 i_42 i_43 i_44 i_45 i_46 i_47 i_48 i_49 h4 h5 h6 h7 h8 h9 h10 h11 h12 h13 h14 h15 h16 h17 h18 h19 h20 h21 h22 h23 h24 h25 h26 h27 h28 h29 h30 h31 h32 h33) (cwV 0 hts (mm_gV mm_w617 mm_w618 mm_w619 mm_w5 mm_w620) rfl rfl rfl hd_X12_texts ⟨by rw [hRf]; exact Nat.le_of_ble_eq_true rfl, by rw [hRl]; exact Nat.le_of_ble_eq_true rfl⟩) (mm_preV hK hZ hS hA hP hD [0, 1] rfl rfl 0 rfl rfl rfl) rfl rfl hl.1 rfl (lv_room (Nat.le_of_ble_eq_true rfl)) dX12_heirsOf_19 ⟨by rw [hRc]; exact Nat.le_of_ble_eq_true rfl, by rw [hRs]; exact Nat.le_of_ble_eq_true rfl⟩) hP hD hS hA [0, 1] rfl (fun _ => rfl) ?_
        clear hP hD hS
        clear H locs
        intro v442 _u H locs hw hP hD hS
        subst hw
        refine lv_icmp_ge (tgt := 86) hx hb dX12_heirsOf_22 (by decide) (fun c443 => ?_) (fun c443 => ?_)
        · refine lv_iload hx hb dX12_heirsOf_86 (lv_at hl 1 rfl) ?_
          subst hAe
          rw [hQ]
          exact W.iret (v := 0) hx hb hr (fun t ht hW => ⟨⟨0, (i_13, i_14, i_15, f_6), rfl, ⟨h3, h40, (mm_wk mm_k0 (by decide))⟩, by rw [ht]; exact hP, hK.warm hW, hD⟩, hS.F ht⟩) hS.2.2 dX12_heirsOf_88
        · have q444 := mm_ltL (h := 5) (mm_nle c443) rx16_5_440 h8 (by decide)
          have q445 := mm_ltR (lo := 1) (mm_nle c443) rx16_5_440 h8 (by decide)
          refine lv_iload_n hx hb dX12_heirsOf_25 rfl (lv_at hl 5 rfl) ?_
          refine lv_iload hx hb dX12_heirsOf_26 (lv_at hl 0 rfl) ?_
          refine mm_finir (va_runS (As := [.int i_2, .int x16_5_440]) (rest := []) ⟨hx, hb, hml, hown, hts⟩ (M232_X12_isBit l G cy H.size i_2 x16_5_440 (mm_wk q360 (by decide)) q444) (va_cwS 2 hts (mm_gS mm_w1461 mm_w1462 mm_w5 mm_w1463) rfl rfl rfl hs_X12_isBit ⟨by rw [hRf]; exact Nat.le_of_ble_eq_true rfl, by rw [hRl]; exact Nat.le_of_ble_eq_true rfl⟩) (mm_preS hK hZ hS hA hP hD [] rfl rfl) rfl rfl hl.1 rfl (lv_room (Nat.le_of_ble_eq_true rfl)) dX12_heirsOf_28 ⟨by rw [hRc]; exact Nat.le_of_ble_eq_true rfl, by rw [hRs]; exact Nat.le_of_ble_eq_true rfl⟩) hP hD hS hA [] rfl (fun _ => rfl) ?_
          clear hP hD hS
          clear H locs
          intro v446 _u H locs hw hP hD hS
          rcases hw with ⟨rfl, w447⟩ | ⟨rfl, w448⟩
          · refine lv_if_ne (tgt := 37) hx hb dX12_heirsOf_31 (by decide) (fun c449 => ?_) (fun c449 => ?_)
            · have q450 := mm_neL (lo := 1) (mm_ne c449) mm_k0 mm_k0 (by decide) (by decide)
              exact mm_no q450 (by decide)
            · refine lv_goto (tgt := 80) hx hb dX12_heirsOf_34 (by decide) ?_
              obtain ⟨v451, ev451⟩ : ∃ y : Int32, y = x16_5_440 + 1 := ⟨_, rfl⟩
              refine lv_iinc (v := v451) (lv' := [(5, .int v451), (4, .int 0), (0, .ref a_0), (1, .int i_0), (2, .int i_1), (3, .int i_2)]) hx hb dX12_heirsOf_80 hl (k := 0) rfl (by rw [ev451]; rfl) (by decide) rfl ?_
              clear hl
              clear ls
              intro ls hl
              have rv451 : mm_rg v451 1 6 := mm_add ev451 q444 mm_k1 (by decide) (by decide)
              have tv451 := mm_addEc ev451 q444 mm_k1 (by decide) (k := 1) (by decide)
              refine lv_goto (tgt := 16) hx hb dX12_heirsOf_83 (by decide) ?_
              exact ih16 v451 (mm_wk rv451 (by decide)) (mm_mu hm16 tv451 (by decide) (rv451).2 (by decide)) H locs hP hD hS ls (lv_sub hl [0, 1, 2, 3, 4, 5] rfl)
          · exact mm_bit_no w448 q360 (by decide)
    exact L16_440 _ 0 (mm_wk mm_k0 (by decide)) (Nat.lt_succ_self _) H locs hP hD hS ls (lv_sub hl [0, 1, 2, 3, 4, 5] rfl)

