theorem dX12_isSent_0 : decode cX12_isSent 0 = .ok (.aload_n 0, 1) := by decide +kernel
theorem dX12_isSent_1 : decode cX12_isSent 1 = .ok (.iload_n 1, 1) := by decide +kernel
theorem dX12_isSent_2 : decode cX12_isSent 2 = .ok (.iload_n 2, 1) := by decide +kernel
theorem dX12_isSent_3 : decode cX12_isSent 3 = .ok (.invokevirtual 323, 3) := by decide +kernel
theorem dX12_isSent_6 : decode cX12_isSent 6 = .ok (.ifCond .eq 29, 3) := by decide +kernel
theorem dX12_isSent_9 : decode cX12_isSent 9 = .ok (.aload_n 0, 1) := by decide +kernel
theorem dX12_isSent_10 : decode cX12_isSent 10 = .ok (.iload_n 3, 1) := by decide +kernel
theorem dX12_isSent_11 : decode cX12_isSent 11 = .ok (.i2l, 1) := by decide +kernel
theorem dX12_isSent_12 : decode cX12_isSent 12 = .ok (.invokevirtual 317, 3) := by decide +kernel
theorem dX12_isSent_15 : decode cX12_isSent 15 = .ok (.ifCond .eq 20, 3) := by decide +kernel
theorem dX12_isSent_18 : decode cX12_isSent 18 = .ok (.iload 4, 2) := by decide +kernel
theorem dX12_isSent_20 : decode cX12_isSent 20 = .ok (.i2l, 1) := by decide +kernel
theorem dX12_isSent_21 : decode cX12_isSent 21 = .ok (.lconst 0, 1) := by decide +kernel
theorem dX12_isSent_22 : decode cX12_isSent 22 = .ok (.ldc2_w 410, 3) := by decide +kernel
theorem dX12_isSent_25 : decode cX12_isSent 25 = .ok (.invokestatic 82, 3) := by decide +kernel
theorem dX12_isSent_28 : decode cX12_isSent 28 = .ok (.ifCond .eq 7, 3) := by decide +kernel
theorem dX12_isSent_31 : decode cX12_isSent 31 = .ok (.iconst 1, 1) := by decide +kernel
theorem dX12_isSent_32 : decode cX12_isSent 32 = .ok (.goto 4, 3) := by decide +kernel
theorem dX12_isSent_35 : decode cX12_isSent 35 = .ok (.iconst 0, 1) := by decide +kernel
theorem dX12_isSent_36 : decode cX12_isSent 36 = .ok (.ireturn, 1) := by decide +kernel
theorem dX12_power_0 : decode cX12_power 0 = .ok (.iload_n 2, 1) := by decide +kernel
theorem dX12_power_1 : decode cX12_power 1 = .ok (.ifCond .ne 7, 3) := by decide +kernel
theorem dX12_power_4 : decode cX12_power 4 = .ok (.lconst 1, 1) := by decide +kernel
theorem dX12_power_5 : decode cX12_power 5 = .ok (.goto 12, 3) := by decide +kernel
theorem dX12_power_8 : decode cX12_power 8 = .ok (.lload_n 0, 1) := by decide +kernel
theorem dX12_power_9 : decode cX12_power 9 = .ok (.lload_n 0, 1) := by decide +kernel
theorem dX12_power_10 : decode cX12_power 10 = .ok (.iload_n 2, 1) := by decide +kernel
theorem dX12_power_11 : decode cX12_power 11 = .ok (.iconst 1, 1) := by decide +kernel
theorem dX12_power_12 : decode cX12_power 12 = .ok (.isub, 1) := by decide +kernel
theorem dX12_power_13 : decode cX12_power 13 = .ok (.invokestatic 427, 3) := by decide +kernel
theorem dX12_power_16 : decode cX12_power 16 = .ok (.lmul, 1) := by decide +kernel
theorem dX12_power_17 : decode cX12_power 17 = .ok (.lreturn, 1) := by decide +kernel
theorem dX12_sizeOf_0 : decode cX12_sizeOf 0 = .ok (.iconst 0, 1) := by decide +kernel
theorem dX12_sizeOf_1 : decode cX12_sizeOf 1 = .ok (.istore_n 1, 1) := by decide +kernel
theorem dX12_sizeOf_2 : decode cX12_sizeOf 2 = .ok (.iload_n 0, 1) := by decide +kernel
theorem dX12_sizeOf_3 : decode cX12_sizeOf 3 = .ok (.istore_n 2, 1) := by decide +kernel
theorem dX12_sizeOf_4 : decode cX12_sizeOf 4 = .ok (.iload_n 2, 1) := by decide +kernel
theorem dX12_sizeOf_5 : decode cX12_sizeOf 5 = .ok (.ifCond .eq 15, 3) := by decide +kernel
theorem dX12_sizeOf_8 : decode cX12_sizeOf 8 = .ok (.iinc 1 1, 3) := by decide +kernel
theorem dX12_sizeOf_11 : decode cX12_sizeOf 11 = .ok (.iload_n 2, 1) := by decide +kernel
theorem dX12_sizeOf_12 : decode cX12_sizeOf 12 = .ok (.iload_n 2, 1) := by decide +kernel
theorem dX12_sizeOf_13 : decode cX12_sizeOf 13 = .ok (.iconst 1, 1) := by decide +kernel
theorem dX12_sizeOf_14 : decode cX12_sizeOf 14 = .ok (.isub, 1) := by decide +kernel
theorem dX12_sizeOf_15 : decode cX12_sizeOf 15 = .ok (.iand, 1) := by decide +kernel
theorem dX12_sizeOf_16 : decode cX12_sizeOf 16 = .ok (.istore_n 2, 1) := by decide +kernel
theorem dX12_sizeOf_17 : decode cX12_sizeOf 17 = .ok (.goto (-13), 3) := by decide +kernel
theorem dX12_sizeOf_20 : decode cX12_sizeOf 20 = .ok (.iload_n 1, 1) := by decide +kernel
theorem dX12_sizeOf_21 : decode cX12_sizeOf 21 = .ok (.ireturn, 1) := by decide +kernel
theorem dX12_weightOf_0 : decode cX12_weightOf 0 = .ok (.aload_n 0, 1) := by decide +kernel
theorem dX12_weightOf_1 : decode cX12_weightOf 1 = .ok (.invokevirtual 326, 3) := by decide +kernel
theorem dX12_weightOf_4 : decode cX12_weightOf 4 = .ok (.lconst 0, 1) := by decide +kernel
theorem dX12_weightOf_5 : decode cX12_weightOf 5 = .ok (.lstore 6, 2) := by decide +kernel
theorem dX12_weightOf_7 : decode cX12_weightOf 7 = .ok (.iconst 0, 1) := by decide +kernel
theorem dX12_weightOf_8 : decode cX12_weightOf 8 = .ok (.istore 8, 2) := by decide +kernel
theorem dX12_weightOf_10 : decode cX12_weightOf 10 = .ok (.iload 8, 2) := by decide +kernel
theorem dX12_weightOf_12 : decode cX12_weightOf 12 = .ok (.iconst 1, 1) := by decide +kernel
theorem dX12_weightOf_13 : decode cX12_weightOf 13 = .ok (.iload 4, 2) := by decide +kernel
theorem dX12_weightOf_15 : decode cX12_weightOf 15 = .ok (.ishl, 1) := by decide +kernel
theorem dX12_weightOf_16 : decode cX12_weightOf 16 = .ok (.if_icmp .ge 95, 3) := by decide +kernel
theorem dX12_weightOf_19 : decode cX12_weightOf 19 = .ok (.iload 8, 2) := by decide +kernel
theorem dX12_weightOf_21 : decode cX12_weightOf 21 = .ok (.invokestatic 430, 3) := by decide +kernel
theorem dX12_weightOf_24 : decode cX12_weightOf 24 = .ok (.istore 9, 2) := by decide +kernel
theorem dX12_weightOf_26 : decode cX12_weightOf 26 = .ok (.aload_n 0, 1) := by decide +kernel
theorem dX12_weightOf_27 : decode cX12_weightOf 27 = .ok (.getfield 34, 3) := by decide +kernel
theorem dX12_weightOf_30 : decode cX12_weightOf 30 = .ok (.iconst 0, 1) := by decide +kernel
theorem dX12_weightOf_31 : decode cX12_weightOf 31 = .ok (.iaload, 1) := by decide +kernel
theorem dX12_weightOf_32 : decode cX12_weightOf 32 = .ok (.i2l, 1) := by decide +kernel
theorem dX12_weightOf_33 : decode cX12_weightOf 33 = .ok (.iload 9, 2) := by decide +kernel
theorem dX12_weightOf_35 : decode cX12_weightOf 35 = .ok (.invokestatic 427, 3) := by decide +kernel
theorem dX12_weightOf_38 : decode cX12_weightOf 38 = .ok (.ldc2_w 433, 3) := by decide +kernel
theorem dX12_weightOf_41 : decode cX12_weightOf 41 = .ok (.aload_n 0, 1) := by decide +kernel
theorem dX12_weightOf_42 : decode cX12_weightOf 42 = .ok (.getfield 34, 3) := by decide +kernel
theorem dX12_weightOf_45 : decode cX12_weightOf 45 = .ok (.iconst 0, 1) := by decide +kernel
theorem dX12_weightOf_46 : decode cX12_weightOf 46 = .ok (.iaload, 1) := by decide +kernel
theorem dX12_weightOf_47 : decode cX12_weightOf 47 = .ok (.i2l, 1) := by decide +kernel
theorem dX12_weightOf_48 : decode cX12_weightOf 48 = .ok (.lsub, 1) := by decide +kernel
theorem dX12_weightOf_49 : decode cX12_weightOf 49 = .ok (.iload 4, 2) := by decide +kernel
theorem dX12_weightOf_51 : decode cX12_weightOf 51 = .ok (.iload 9, 2) := by decide +kernel
theorem dX12_weightOf_53 : decode cX12_weightOf 53 = .ok (.isub, 1) := by decide +kernel
theorem dX12_weightOf_54 : decode cX12_weightOf 54 = .ok (.invokestatic 427, 3) := by decide +kernel
theorem dX12_weightOf_57 : decode cX12_weightOf 57 = .ok (.lmul, 1) := by decide +kernel
theorem dX12_weightOf_58 : decode cX12_weightOf 58 = .ok (.lstore 10, 2) := by decide +kernel
theorem dX12_weightOf_60 : decode cX12_weightOf 60 = .ok (.aload_n 0, 1) := by decide +kernel
theorem dX12_weightOf_61 : decode cX12_weightOf 61 = .ok (.iload_n 1, 1) := by decide +kernel
theorem dX12_weightOf_62 : decode cX12_weightOf 62 = .ok (.iload_n 2, 1) := by decide +kernel
theorem dX12_weightOf_63 : decode cX12_weightOf 63 = .ok (.iload 9, 2) := by decide +kernel
theorem dX12_weightOf_65 : decode cX12_weightOf 65 = .ok (.iadd, 1) := by decide +kernel
theorem dX12_weightOf_66 : decode cX12_weightOf 66 = .ok (.iload_n 3, 1) := by decide +kernel
theorem dX12_weightOf_67 : decode cX12_weightOf 67 = .ok (.invokevirtual 338, 3) := by decide +kernel
theorem dX12_weightOf_70 : decode cX12_weightOf 70 = .ok (.istore 12, 2) := by decide +kernel
theorem dX12_weightOf_72 : decode cX12_weightOf 72 = .ok (.lload 6, 2) := by decide +kernel
theorem dX12_weightOf_74 : decode cX12_weightOf 74 = .ok (.lload 10, 2) := by decide +kernel
theorem dX12_weightOf_76 : decode cX12_weightOf 76 = .ok (.iload 5, 2) := by decide +kernel
theorem dX12_weightOf_78 : decode cX12_weightOf 78 = .ok (.ifCond .eq 8, 3) := by decide +kernel
theorem dX12_weightOf_86 : decode cX12_weightOf 86 = .ok (.iload 12, 2) := by decide +kernel
theorem dX12_weightOf_88 : decode cX12_weightOf 88 = .ok (.aload_n 0, 1) := by decide +kernel
theorem dX12_weightOf_89 : decode cX12_weightOf 89 = .ok (.invokevirtual 308, 3) := by decide +kernel
theorem dX12_weightOf_92 : decode cX12_weightOf 92 = .ok (.if_icmp .le 7, 3) := by decide +kernel
theorem dX12_weightOf_95 : decode cX12_weightOf 95 = .ok (.iconst 1, 1) := by decide +kernel
theorem dX12_weightOf_96 : decode cX12_weightOf 96 = .ok (.goto 4, 3) := by decide +kernel
theorem dX12_weightOf_99 : decode cX12_weightOf 99 = .ok (.iconst 0, 1) := by decide +kernel
theorem dX12_weightOf_100 : decode cX12_weightOf 100 = .ok (.i2l, 1) := by decide +kernel
theorem dX12_weightOf_101 : decode cX12_weightOf 101 = .ok (.lmul, 1) := by decide +kernel
theorem dX12_weightOf_102 : decode cX12_weightOf 102 = .ok (.ladd, 1) := by decide +kernel
theorem dX12_weightOf_103 : decode cX12_weightOf 103 = .ok (.lstore 6, 2) := by decide +kernel
theorem dX12_weightOf_105 : decode cX12_weightOf 105 = .ok (.iinc 8 1, 3) := by decide +kernel
theorem dX12_weightOf_108 : decode cX12_weightOf 108 = .ok (.goto (-98), 3) := by decide +kernel
theorem dX12_weightOf_111 : decode cX12_weightOf 111 = .ok (.lload 6, 2) := by decide +kernel
theorem dX12_weightOf_113 : decode cX12_weightOf 113 = .ok (.lreturn, 1) := by decide +kernel
theorem hs_X12_power : yX12_power.cls ≠ "java/lang/invoke/MethodHandle" ∧ yX12_power.cls ≠ "java/lang/invoke/VarHandle" ∧ (parseMethodDescriptor yX12_power.desc).map (fun d => d.parameters.length) = some 2 := by decide +kernel
theorem hs_X12_sizeOf : yX12_sizeOf.cls ≠ "java/lang/invoke/MethodHandle" ∧ yX12_sizeOf.cls ≠ "java/lang/invoke/VarHandle" ∧ (parseMethodDescriptor yX12_sizeOf.desc).map (fun d => d.parameters.length) = some 1 := by decide +kernel
set_option maxHeartbeats 4000000 in
set_option maxRecDepth 100000 in
theorem M243_X12_isSent (l : Launch) (G : va_G) (cy : Nat → ClassId) (sz : Nat) (a_0 : Nat) (i_0 : Int32) (i_1 : Int32) (i_2 : Int32) (i_3 : Int32) (i_4 : Int32) (a_1 : Nat) (a_2 : Nat) (a_3 : Nat) (a_4 : Nat) (a_5 : Nat) (i_5 : Int32) (i_6 : Int32) (i_7 : Int32) (i_8 : Int32) (i_9 : Int32) (j_0 : Int64) (i_10 : Int32) (i_11 : Int32) (i_12 : Int32) (i_13 : Int32) (a_6 : Nat) (a_7 : Nat) (a_8 : Nat) (a_9 : Nat) (a_10 : Nat) (a_11 : Nat) (a_12 : Nat) (a_13 : Nat) (a_14 : Nat) (a_15 : Nat) (a_16 : Nat) (a_17 : Nat) (a_18 : Nat) (i_14 : Int32) (i_15 : Int32) (i_16 : Int32) (i_17 : Int32) (i_18 : Int32) (i_19 : Int32) (a_19 : Nat) (i_20 : Int32) (a_20 : Nat) (i_21 : Int32) (i_22 : Int32) (i_23 : Int32) (i_24 : Int32) (i_25 : Int32) (i_26 : Int32) (i_27 : Int32) (i_28 : Int32) (i_29 : Int32) (i_30 : Int32) (i_31 : Int32) (i_32 : Int32) (i_33 : Int32) (i_34 : Int32) (i_35 : Int32) (i_36 : Int32) (i_37 : Int32) (i_38 : Int32) (i_39 : Int32) (i_40 : Int32) (i_41 : Int32) (i_42 : Int32) (i_43 : Int32) (i_44 : Int32) (i_45 : Int32) (i_46 : Int32) (i_47 : Int32) (i_48 : Int32) (i_49 : Int32) (i_50 : Int32) (h0 : mm_rg i_21 0 10) (h1 : mm_rg i_22 0 99) (h2 : mm_rg i_23 0 9) (h3 : mm_rg i_24 0 3) (h4 : mm_rg i_25 0 6) (h5 : mm_rg i_26 0 30) (h6 : mm_rg i_27 0 10) (h7 : mm_rg i_28 0 99) (h8 : mm_rg i_29 0 9) (h9 : mm_rg i_30 0 3) (h10 : mm_rg i_31 0 6) (h11 : mm_rg i_32 0 30) (h12 : mm_rg i_33 0 10) (h13 : mm_rg i_34 0 99) (h14 : mm_rg i_35 0 9) (h15 : mm_rg i_36 0 3) (h16 : mm_rg i_37 0 6) (h17 : mm_rg i_38 0 30) (h18 : mm_rg i_39 0 10) (h19 : mm_rg i_40 0 99) (h20 : mm_rg i_41 0 9) (h21 : mm_rg i_42 0 3) (h22 : mm_rg i_43 0 6) (h23 : mm_rg i_44 0 30) (h24 : mm_rg i_45 0 10) (h25 : mm_rg i_46 0 99) (h26 : mm_rg i_47 0 9) (h27 : mm_rg i_48 0 3) (h28 : mm_rg i_49 0 6) (h29 : mm_rg i_50 0 30)  : mm_CI l yX12_isSent (mm_ws yX12_isSent cX12_isSent 5 (some .boolean)) ({ frames := 3, cells := 0, slots := 0, locals := 68 } : Room) G cy sz [(a_0, .inr (12, [.int i_4, .ref a_1, .ref a_2, .ref a_3, .ref a_4, .ref a_5, .int i_5, .int i_6, .int i_7, .int i_8, .int i_9, .long j_0, .int i_10, .int i_11, .int i_12, .int i_13, .ref a_6, .ref a_7, .ref a_8, .ref a_9, .ref a_10, .ref a_11, .ref a_12, .ref a_13, .ref a_14, .ref a_15, .ref a_16, .ref a_17, .ref a_18, .int i_14, .int i_15, .int i_16, .int i_17, .int i_18, .int i_19, .ref a_19, .int i_20, .ref a_20])), (a_7, .inl (cy 1, 30, .inl (mm_g [i_21, i_22, i_23, i_24, i_25, i_26, i_27, i_28, i_29, i_30, i_31, i_32, i_33, i_34, i_35, i_36, i_37, i_38, i_39, i_40, i_41, i_42, i_43, i_44, i_45, i_46, i_47, i_48, i_49, i_50])))] [.ref a_0, .int i_0, .int i_1, .int i_2, .int i_3] (fun u : Unit => [(a_0, .inr (12, [.int i_4, .ref a_1, .ref a_2, .ref a_3, .ref a_4, .ref a_5, .int i_5, .int i_6, .int i_7, .int i_8, .int i_9, .long j_0, .int i_10, .int i_11, .int i_12, .int i_13, .ref a_6, .ref a_7, .ref a_8, .ref a_9, .ref a_10, .ref a_11, .ref a_12, .ref a_13, .ref a_14, .ref a_15, .ref a_16, .ref a_17, .ref a_18, .int i_14, .int i_15, .int i_16, .int i_17, .int i_18, .int i_19, .ref a_19, .int i_20, .ref a_20])), (a_7, .inl (cy 1, 30, .inl (mm_g [i_21, i_22, i_23, i_24, i_25, i_26, i_27, i_28, i_29, i_30, i_31, i_32, i_33, i_34, i_35, i_36, i_37, i_38, i_39, i_40, i_41, i_42, i_43, i_44, i_45, i_46, i_47, i_48, i_49, i_50])))]) (fun (r : Int32) (u : Unit) => ((0 = r) ∨ (1 = r ∧ mm_rg i_0 0 2 ∧ mm_rg i_1 0 1000000000 ∧ mm_rg i_2 0 5 ∧ mm_rg i_3 0 7 ∧ (i_0 : Int32).toInt < (i_24 : Int32).toInt))) 0 0 := by
  refine mm_begin (lv := [(0, .ref a_0), (1, .int i_0), (2, .int i_1), (3, .int i_2), (4, .int i_3)]) (by decide) (Nat.le_of_ble_eq_true rfl) rfl ?_
  intro p e s m below meth c A ls R args Q H locs hRe hQ hAe hx hb hr hlocks hml hown hnm hts hsz hA hS hP hK hD hZ hl
  have hRf : R.frames = 3 := by rw [hRe]
  have hRl : R.locals = 68 := by rw [hRe]
  have hRc : R.cells = 0 := by rw [hRe]
  have hRs : R.slots = 0 := by rw [hRe]
  refine lv_aload_n hx hb dX12_isSent_0 rfl (lv_at hl 0 rfl) ?_
  refine lv_iload_n hx hb dX12_isSent_1 rfl (lv_at hl 1 rfl) ?_
  refine lv_iload_n hx hb dX12_isSent_2 rfl (lv_at hl 2 rfl) ?_
  refine mm_finir (va_runV (As := [.int i_0, .int i_1]) (rest := []) ⟨hx, hb, hml, hown, hts⟩ (M104_X12_isThen l G cy H.size a_0 i_0 i_1 i_4 a_1 a_2 a_3 a_4 a_5 i_5 i_6 i_7 i_8 i_9 j_0 i_10 i_11 i_12 i_13 a_6 a_7 a_8 a_9 a_10 a_11 a_12 a_13 a_14 a_15 a_16 a_17 a_18 i_14 i_15 i_16 i_17 i_18 i_19 a_19 i_20 a_20 i_21 i_22 i_23 i_24 i_25 i_26 i_27 i_28 i_29 i_30 i_31 i_32 i_33 i_34 i_35 i_36 i_37 i_38 i_39 i_40 i_41 i_42 i_43 i_44 i_45 i_46 i_47 i_48 i_49 i_50 h0 h1 h2 h3 h4 h5 h6 h7 h8 h9 h10 h11 h12 h13 h14 h15 h16 h17 h18 h19 h20 h21 h22 h23 h24 h25 h26 h27 h28 h29) (cwV 2 hts (mm_gV mm_w678 mm_w679 mm_w680 mm_w5 mm_w681) rfl rfl rfl hd_X12_isThen ⟨by rw [hRf]; exact Nat.le_of_ble_eq_true rfl, by rw [hRl]; exact Nat.le_of_ble_eq_true rfl⟩) (mm_preV hK hZ hS hA hP hD [0, 1] rfl rfl 0 rfl rfl rfl) rfl rfl hl.1 rfl (lv_room (Nat.le_of_ble_eq_true rfl)) dX12_isSent_3 ⟨by rw [hRc]; exact Nat.le_of_ble_eq_true rfl, by rw [hRs]; exact Nat.le_of_ble_eq_true rfl⟩) hP hD hS hA [0, 1] rfl (fun _ => rfl) ?_
  clear hP hD hS
  clear H locs
  intro v1 _u H locs hw hP hD hS
  rcases hw with rfl | ⟨rfl, w2, w3, w4⟩
  · refine lv_if_eq (tgt := 35) hx hb dX12_isSent_6 (by decide) (fun c5 => ?_) (fun c5 => ?_)
    · refine lv_iconst (v := 0) hx hb dX12_isSent_35 (by decide) ?_
      subst hAe
      rw [hQ]
      exact W.zret (v := 0) hx hb hr rfl (fun t ht hW => ⟨⟨0, (), rfl, (Or.inl rfl), by rw [ht]; exact hP, hK.warm hW, hD⟩, hS.F ht⟩) hS.2.2 dX12_isSent_36
    · have q6 := mm_neL (lo := 1) (mm_ne c5) mm_k0 mm_k0 (by decide) (by decide)
      exact mm_no q6 (by decide)
  · have q7 := mm_ltR (lo := 1) w4 w2 h3 (by decide)
    refine lv_if_eq (tgt := 35) hx hb dX12_isSent_6 (by decide) (fun c8 => ?_) (fun c8 => ?_)
    · exact mm_eqN c8.symm mm_k0 mm_k1 (by decide)
    · refine lv_aload_n hx hb dX12_isSent_9 rfl (lv_at hl 0 rfl) ?_
      refine lv_iload_n hx hb dX12_isSent_10 rfl (lv_at hl 3 rfl) ?_
      obtain ⟨v9, ev9⟩ : ∃ y : Int64, y = i_2.toInt64 := ⟨_, rfl⟩
      refine lv_i2l hx hb dX12_isSent_11 ev9.symm ?_
      have rv9 : mm_rl v9 (-2147483648) 2147483647 := mm_i2l ev9 (mm_top i_2)
      refine mm_finir (va_runV (As := [.long v9]) (rest := []) ⟨hx, hb, hml, hown, hts⟩ (M96_X12_isText l G cy H.size a_0 v9 i_4 a_1 a_2 a_3 a_4 a_5 i_5 i_6 i_7 i_8 i_9 j_0 i_10 i_11 i_12 i_13 a_6 a_7 a_8 a_9 a_10 a_11 a_12 a_13 a_14 a_15 a_16 a_17 a_18 i_14 i_15 i_16 i_17 i_18 i_19 a_19 i_20 a_20 i_21 i_22 i_23 i_24 i_25 i_26 i_27 i_28 i_29 i_30 i_31 i_32 i_33 i_34 i_35 i_36 i_37 i_38 i_39 i_40 i_41 i_42 i_43 i_44 i_45 i_46 i_47 i_48 i_49 i_50 h0 h1 h2 (mm_wk q7 (by decide)) h4 h5 h6 h7 h8 h9 h10 h11 h12 h13 h14 h15 h16 h17 h18 h19 h20 h21 h22 h23 h24 h25 h26 h27 h28 h29) (cwV 1 hts (mm_gV mm_w613 mm_w614 mm_w615 mm_w5 mm_w616) rfl rfl rfl hd_X12_isText ⟨by rw [hRf]; exact Nat.le_of_ble_eq_true rfl, by rw [hRl]; exact Nat.le_of_ble_eq_true rfl⟩) (mm_preV hK hZ hS hA hP hD [0, 1] rfl rfl 0 rfl rfl rfl) rfl rfl hl.1 rfl (lv_room (Nat.le_of_ble_eq_true rfl)) dX12_isSent_12 ⟨by rw [hRc]; exact Nat.le_of_ble_eq_true rfl, by rw [hRs]; exact Nat.le_of_ble_eq_true rfl⟩) hP hD hS hA [0, 1] rfl (fun _ => rfl) ?_
      clear hP hD hS
      clear H locs
      intro v10 _u H locs hw hP hD hS
      rcases hw with rfl | ⟨rfl, w11, w12⟩
      · refine lv_if_eq (tgt := 35) hx hb dX12_isSent_15 (by decide) (fun c13 => ?_) (fun c13 => ?_)
        · refine lv_iconst (v := 0) hx hb dX12_isSent_35 (by decide) ?_
          subst hAe
          rw [hQ]
          exact W.zret (v := 0) hx hb hr rfl (fun t ht hW => ⟨⟨0, (), rfl, (Or.inl rfl), by rw [ht]; exact hP, hK.warm hW, hD⟩, hS.F ht⟩) hS.2.2 dX12_isSent_36
        · have q14 := mm_neL (lo := 1) (mm_ne c13) mm_k0 mm_k0 (by decide) (by decide)
          exact mm_no q14 (by decide)
      · have q15 := mm_meet (lo := 0) (hi := 5) (mm_l2x ev9 w11) (mm_top i_2) (by decide)
        have w16 := mm_tx_lt w12 (mm_i2lE ev9)
        have q17 := mm_ltR (lo := 1) w16 q15 h4 (by decide)
        refine lv_if_eq (tgt := 35) hx hb dX12_isSent_15 (by decide) (fun c18 => ?_) (fun c18 => ?_)
        · exact mm_eqN c18.symm mm_k0 mm_k1 (by decide)
        · refine lv_iload hx hb dX12_isSent_18 (lv_at hl 4 rfl) ?_
          obtain ⟨v19, ev19⟩ : ∃ y : Int64, y = i_3.toInt64 := ⟨_, rfl⟩
          refine lv_i2l hx hb dX12_isSent_20 ev19.symm ?_
          have rv19 : mm_rl v19 (-2147483648) 2147483647 := mm_i2l ev19 (mm_top i_3)
          refine lv_lconst (v := 0) hx hb dX12_isSent_21 (by decide) ?_
          refine lv_ldc2 (v := 7) hx hb hown (mm_h hts mm_w1399) dX12_isSent_22 ?_
          refine mm_finir (va_runS (As := [.long v19, .long 0, .long 7]) (rest := []) ⟨hx, hb, hml, hown, hts⟩ (M7_X12_in l G cy H.size v19 7 ) (va_cwS 3 hts (mm_gS mm_w191 mm_w192 mm_w5 mm_w193) rfl rfl rfl hs_X12_in ⟨by rw [hRf]; exact Nat.le_of_ble_eq_true rfl, by rw [hRl]; exact Nat.le_of_ble_eq_true rfl⟩) (mm_preS hK hZ hS hA hP hD [] rfl rfl) rfl rfl hl.1 rfl (lv_room (Nat.le_of_ble_eq_true rfl)) dX12_isSent_25 ⟨by rw [hRc]; exact Nat.le_of_ble_eq_true rfl, by rw [hRs]; exact Nat.le_of_ble_eq_true rfl⟩) hP hD hS hA [] rfl (fun _ => rfl) ?_
          clear hP hD hS
          clear H locs
          intro v20 _u H locs hw hP hD hS
          rcases hw with ⟨rfl, w21⟩ | ⟨rfl, w22, w23, w24, w25⟩
          · refine lv_if_eq (tgt := 35) hx hb dX12_isSent_28 (by decide) (fun c26 => ?_) (fun c26 => ?_)
            · refine lv_iconst (v := 0) hx hb dX12_isSent_35 (by decide) ?_
              subst hAe
              rw [hQ]
              exact W.zret (v := 0) hx hb hr rfl (fun t ht hW => ⟨⟨0, (), rfl, (Or.inl rfl), by rw [ht]; exact hP, hK.warm hW, hD⟩, hS.F ht⟩) hS.2.2 dX12_isSent_36
            · have q27 := mm_neL (lo := 1) (mm_ne c26) mm_k0 mm_k0 (by decide) (by decide)
              exact mm_no q27 (by decide)
          · have q28 := mm_meetl (lo := 0) (hi := 2147483647) w22 rv19 (by decide)
            have q29 := mm_meet (lo := 0) (hi := 2147483647) (mm_l2x ev19 q28) (mm_top i_3) (by decide)
            have q30 := mm_leLl w24 q28 mm_kl7
            have q31 := mm_meet (lo := 0) (hi := 7) (mm_l2x ev19 q30) q29 (by decide)
            refine lv_if_eq (tgt := 35) hx hb dX12_isSent_28 (by decide) (fun c32 => ?_) (fun c32 => ?_)
            · exact mm_eqN c32.symm mm_k0 mm_k1 (by decide)
            · refine lv_iconst (v := 1) hx hb dX12_isSent_31 (by decide) ?_
              refine lv_goto (tgt := 36) hx hb dX12_isSent_32 (by decide) ?_
              subst hAe
              rw [hQ]
              exact W.zret (v := 1) hx hb hr rfl (fun t ht hW => ⟨⟨1, (), rfl, (Or.inr ⟨rfl, w2, w3, q15, q31, w4⟩), by rw [ht]; exact hP, hK.warm hW, hD⟩, hS.F ht⟩) hS.2.2 dX12_isSent_36

set_option maxHeartbeats 4000000 in
set_option maxRecDepth 100000 in
theorem M244_X12_sizeOf (l : Launch) (G : va_G) (cy : Nat → ClassId) (sz : Nat) (i_0 : Int32) (h0 : mm_rg i_0 0 127)  : mm_CI l yX12_sizeOf (mm_ws yX12_sizeOf cX12_sizeOf 3 (some .int)) ({ frames := 0, cells := 0, slots := 0, locals := 0 } : Room) G cy sz [] [.int i_0] (fun u : Unit => []) (fun (r : Int32) (u : Unit) => mm_rg r 0 7 ∧ mm_pcn i_0 r) 0 0 := by
  refine mm_begin (lv := [(0, .int i_0)]) (by decide) (Nat.le_of_ble_eq_true rfl) rfl ?_
  intro p e s m below meth c A ls R args Q H locs hRe hQ hAe hx hb hr hlocks hml hown hnm hts hsz hA hS hP hK hD hZ hl
  have hRf : R.frames = 0 := by rw [hRe]
  have hRl : R.locals = 0 := by rw [hRe]
  have hRc : R.cells = 0 := by rw [hRe]
  have hRs : R.slots = 0 := by rw [hRe]
  refine lv_iconst (v := 0) hx hb dX12_sizeOf_0 (by decide) ?_
  refine lv_istore_n (lv' := [(1, .int 0), (0, .int i_0)]) hx hb dX12_sizeOf_1 rfl hl (by decide) rfl ?_
  clear hl
  clear ls
  intro ls hl
  refine lv_iload_n hx hb dX12_sizeOf_2 rfl (lv_at hl 1 rfl) ?_
  refine lv_istore_n (lv' := [(2, .int i_0), (1, .int 0), (0, .int i_0)]) hx hb dX12_sizeOf_3 rfl hl (by decide) rfl ?_
  clear hl
  clear ls
  intro ls hl
  have L4_14 : ∀ (n : Nat) (x4_2_12 : Int32) (x4_1_13 : Int32), mm_rg x4_2_12 0 127 → mm_rg x4_1_13 0 7 → mm_pcs i_0 x4_1_13 x4_2_12 → (x4_2_12 : Int32).toInt.toNat < n → ∀ (H : Heap) (locs : List Loc), va_P G vwCl [] H → va_D A [] → va_S A s.heap H locs → ∀ (ls : Array Slot), lv_has ls 3 [(2, .int x4_2_12), (1, .int x4_1_13), (0, .int i_0)] → W p l e R s m args below meth c H locs 0 0 Q (F0 m 4 ls []) := by
    intro n
    induction n with
    | zero => intro x4_2_12 x4_1_13 rx4_2_12 rx4_1_13 w14 hm; exact absurd hm (Nat.not_lt_zero _)
    | succ n ih4 =>
      intro x4_2_12 x4_1_13 rx4_2_12 rx4_1_13 w14 hm4 H locs hP hD hS ls hl
      refine lv_iload_n hx hb dX12_sizeOf_4 rfl (lv_at hl 0 rfl) ?_
      refine lv_if_eq (tgt := 20) hx hb dX12_sizeOf_5 (by decide) (fun c16 => ?_) (fun c16 => ?_)
      · have q17 := mm_eqI (lo := 0) (hi := 0) c16 rx4_2_12 mm_k0 (by decide)
        refine lv_iload_n hx hb dX12_sizeOf_20 rfl (lv_at hl 1 rfl) ?_
        have w18 : mm_pcn i_0 x4_1_13 := (mm_pcn_of w14 q17 (by decide))
        subst hAe
        rw [hQ]
        exact W.iret (v := x4_1_13) hx hb hr (fun t ht hW => ⟨⟨x4_1_13, (), rfl, ⟨rx4_1_13, w18⟩, by rw [ht]; exact hP, hK.warm hW, hD⟩, hS.F ht⟩) hS.2.2 dX12_sizeOf_21
      · have q19 := mm_neL (lo := 1) (mm_ne c16) rx4_2_12 mm_k0 (by decide) (by decide)
        obtain ⟨v20, ev20⟩ : ∃ y : Int32, y = x4_1_13 + 1 := ⟨_, rfl⟩
        refine lv_iinc (v := v20) (lv' := [(1, .int v20), (2, .int x4_2_12), (0, .int i_0)]) hx hb dX12_sizeOf_8 hl (k := 1) rfl (by rw [ev20]; rfl) (by decide) rfl ?_
        clear hl
        clear ls
        intro ls hl
        have rv20 : mm_rg v20 1 8 := mm_add ev20 rx4_1_13 mm_k1 (by decide) (by decide)
        have tv20 := mm_addEc ev20 rx4_1_13 mm_k1 (by decide) (k := 1) (by decide)
        refine lv_iload_n hx hb dX12_sizeOf_11 rfl (lv_at hl 1 rfl) ?_
        refine lv_iload_n hx hb dX12_sizeOf_12 rfl (lv_at hl 1 rfl) ?_
        refine lv_iconst (v := 1) hx hb dX12_sizeOf_13 (by decide) ?_
        refine lv_isub hx hb dX12_sizeOf_14 ?_
        refine lv_topi (fun v21 ev21 => ?_)
        have rv21 : mm_rg v21 0 126 := mm_sub ev21 q19 mm_k1 (by decide) (by decide)
        have tv21 := mm_subEc ev21 q19 mm_k1 (by decide) (k := (-1)) (by decide)
        refine lv_iand hx hb dX12_sizeOf_15 ?_
        refine lv_topi (fun v22 ev22 => ?_)
        have rv22 : mm_rg v22 0 126 := mm_andR ev22 rv21 (by decide)
        refine lv_istore_n (lv' := [(2, .int v22), (1, .int v20), (0, .int i_0)]) hx hb dX12_sizeOf_16 rfl hl (by decide) rfl ?_
        clear hl
        clear ls
        intro ls hl
        refine lv_goto (tgt := 4) hx hb dX12_sizeOf_17 (by decide) ?_
        have w23 : mm_pcs i_0 v20 v22 := (mm_pcs_s w14 tv20 ev22 ev21 q19 (by decide))
        have q24 : mm_rg v20 1 7 := mm_pcs_rg w23 rv20 (by decide)
        have q25 : mm_rg v22 0 127 := mm_pcs_an ev22 q19 (by decide)
        exact ih4 v22 v20 q25 (mm_wk q24 (by decide)) w23 (mm_szM hm4 ev22 ev21 q19 (by decide)) H locs hP hD hS ls (lv_sub hl [0, 1, 2] rfl)
  exact L4_14 _ i_0 0 h0 (mm_wk mm_k0 (by decide)) (mm_pcs_0 _) (Nat.lt_succ_self _) H locs hP hD hS ls (lv_sub hl [0, 1, 2] rfl)

set_option maxHeartbeats 4000000 in
set_option maxRecDepth 100000 in
theorem M245_X12_power (l : Launch) (G : va_G) (cy : Nat → ClassId) (sz : Nat) (j_0 : Int64) (i_0 : Int32) (h0 : mm_rl j_0 0 10) (h1 : mm_rg i_0 0 0)  : mm_CL l yX12_power (mm_ws yX12_power cX12_power 3 (some .long)) ({ frames := 0, cells := 0, slots := 0, locals := 0 } : Room) G cy sz [] [.long j_0, .int i_0] (fun u : Unit => []) (fun (r : Int64) (u : Unit) => mm_rl r 1 1 ∧ mm_pw i_0 r) 0 0 := by
  refine mm_begin (lv := [(0, .long j_0), (2, .int i_0)]) (by decide) (Nat.le_of_ble_eq_true rfl) rfl ?_
  intro p e s m below meth c A ls R args Q H locs hRe hQ hAe hx hb hr hlocks hml hown hnm hts hsz hA hS hP hK hD hZ hl
  have hRf : R.frames = 0 := by rw [hRe]
  have hRl : R.locals = 0 := by rw [hRe]
  have hRc : R.cells = 0 := by rw [hRe]
  have hRs : R.slots = 0 := by rw [hRe]
  refine lv_iload_n hx hb dX12_power_0 rfl (lv_at hl 1 rfl) ?_
  refine lv_if_ne (tgt := 8) hx hb dX12_power_1 (by decide) (fun c1 => ?_) (fun c1 => ?_)
  · have q2 := mm_neL (lo := 1) (mm_ne c1) h1 mm_k0 (by decide) (by decide)
    exact mm_no q2 (by decide)
  · refine lv_lconst (v := 1) hx hb dX12_power_4 (by decide) ?_
    refine lv_goto (tgt := 17) hx hb dX12_power_5 (by decide) ?_
    have w3 : mm_pw i_0 1 := (mm_pw_0 _)
    subst hAe
    rw [hQ]
    exact W.lret (v := 1) hx hb hr (fun t ht hW => ⟨⟨1, (), rfl, ⟨mm_kl1, w3⟩, by rw [ht]; exact hP, hK.warm hW, hD⟩, hS.F ht⟩) hS.2.2 dX12_power_17

set_option maxHeartbeats 4000000 in
set_option maxRecDepth 100000 in
theorem M246_X12_power (l : Launch) (G : va_G) (cy : Nat → ClassId) (sz : Nat) (j_0 : Int64) (i_0 : Int32) (h0 : mm_rl j_0 0 10) (h1 : mm_rg i_0 0 1)  : mm_CL l yX12_power (mm_ws yX12_power cX12_power 3 (some .long)) ({ frames := 1, cells := 0, slots := 0, locals := 22 } : Room) G cy sz [] [.long j_0, .int i_0] (fun u : Unit => []) (fun (r : Int64) (u : Unit) => mm_rl r 0 10 ∧ mm_pw i_0 r) 0 0 := by
  refine mm_begin (lv := [(0, .long j_0), (2, .int i_0)]) (by decide) (Nat.le_of_ble_eq_true rfl) rfl ?_
  intro p e s m below meth c A ls R args Q H locs hRe hQ hAe hx hb hr hlocks hml hown hnm hts hsz hA hS hP hK hD hZ hl
  have hRf : R.frames = 1 := by rw [hRe]
  have hRl : R.locals = 22 := by rw [hRe]
  have hRc : R.cells = 0 := by rw [hRe]
  have hRs : R.slots = 0 := by rw [hRe]
  refine lv_iload_n hx hb dX12_power_0 rfl (lv_at hl 1 rfl) ?_
  refine lv_if_ne (tgt := 8) hx hb dX12_power_1 (by decide) (fun c1 => ?_) (fun c1 => ?_)
  · have q2 := mm_neL (lo := 1) (mm_ne c1) h1 mm_k0 (by decide) (by decide)
    refine lv_lload_n hx hb dX12_power_8 rfl (lv_at hl 0 rfl) ?_
    refine lv_lload_n hx hb dX12_power_9 rfl (lv_at hl 0 rfl) ?_
    refine lv_iload_n hx hb dX12_power_10 rfl (lv_at hl 1 rfl) ?_
    refine lv_iconst (v := 1) hx hb dX12_power_11 (by decide) ?_
    refine lv_isub hx hb dX12_power_12 ?_
    refine lv_topi (fun v3 ev3 => ?_)
    have rv3 : mm_rg v3 0 0 := mm_sub ev3 q2 mm_k1 (by decide) (by decide)
    have tv3 := mm_subEc ev3 q2 mm_k1 (by decide) (k := (-1)) (by decide)
    refine mm_finlr (va_runS (As := [.long j_0, .int v3]) (rest := [.long j_0]) ⟨hx, hb, hml, hown, hts⟩ (M245_X12_power l G cy H.size j_0 v3 h0 rv3) (va_cwS 2 hts (mm_gS mm_w1523 mm_w1524 mm_w5 mm_w1525) rfl rfl rfl hs_X12_power ⟨by rw [hRf]; exact Nat.le_of_ble_eq_true rfl, by rw [hRl]; exact Nat.le_of_ble_eq_true rfl⟩) (mm_preS hK hZ hS hA hP hD [] rfl rfl) rfl rfl hl.1 rfl (lv_room (Nat.le_of_ble_eq_true rfl)) dX12_power_13 ⟨by rw [hRc]; exact Nat.le_of_ble_eq_true rfl, by rw [hRs]; exact Nat.le_of_ble_eq_true rfl⟩) hP hD hS hA [] rfl (fun _ => rfl) ?_
    clear hP hD hS
    clear H locs
    intro v4 _u H locs hw hP hD hS
    obtain ⟨w5, w6⟩ := hw
    refine lv_lmul hx hb dX12_power_16 ?_
    refine lv_topl (fun v7 ev7 => ?_)
    have rv7 : mm_rl v7 0 10 := mm_mull ev7 h0 w5 (by decide) (by decide)
    have w8 : mm_pw i_0 v7 := (mm_pw_s w6 tv3 ev7 h0 w5 rv3 (by decide))
    subst hAe
    rw [hQ]
    exact W.lret (v := v7) hx hb hr (fun t ht hW => ⟨⟨v7, (), rfl, ⟨rv7, w8⟩, by rw [ht]; exact hP, hK.warm hW, hD⟩, hS.F ht⟩) hS.2.2 dX12_power_17
  · have q9 := mm_eqI (lo := 0) (hi := 0) c1 h1 mm_k0 (by decide)
    refine lv_lconst (v := 1) hx hb dX12_power_4 (by decide) ?_
    refine lv_goto (tgt := 17) hx hb dX12_power_5 (by decide) ?_
    have w10 : mm_pw i_0 1 := (mm_pw_0 _)
    subst hAe
    rw [hQ]
    exact W.lret (v := 1) hx hb hr (fun t ht hW => ⟨⟨1, (), rfl, ⟨(mm_wkl mm_kl1 (by decide)), w10⟩, by rw [ht]; exact hP, hK.warm hW, hD⟩, hS.F ht⟩) hS.2.2 dX12_power_17

set_option maxHeartbeats 4000000 in
set_option maxRecDepth 100000 in
theorem M247_X12_power (l : Launch) (G : va_G) (cy : Nat → ClassId) (sz : Nat) (j_0 : Int64) (i_0 : Int32) (h0 : mm_rl j_0 0 10) (h1 : mm_rg i_0 0 2)  : mm_CL l yX12_power (mm_ws yX12_power cX12_power 3 (some .long)) ({ frames := 2, cells := 0, slots := 0, locals := 44 } : Room) G cy sz [] [.long j_0, .int i_0] (fun u : Unit => []) (fun (r : Int64) (u : Unit) => mm_rl r 0 100 ∧ mm_pw i_0 r) 0 0 := by
  refine mm_begin (lv := [(0, .long j_0), (2, .int i_0)]) (by decide) (Nat.le_of_ble_eq_true rfl) rfl ?_
  intro p e s m below meth c A ls R args Q H locs hRe hQ hAe hx hb hr hlocks hml hown hnm hts hsz hA hS hP hK hD hZ hl
  have hRf : R.frames = 2 := by rw [hRe]
  have hRl : R.locals = 44 := by rw [hRe]
  have hRc : R.cells = 0 := by rw [hRe]
  have hRs : R.slots = 0 := by rw [hRe]
  refine lv_iload_n hx hb dX12_power_0 rfl (lv_at hl 1 rfl) ?_
  refine lv_if_ne (tgt := 8) hx hb dX12_power_1 (by decide) (fun c1 => ?_) (fun c1 => ?_)
  · have q2 := mm_neL (lo := 1) (mm_ne c1) h1 mm_k0 (by decide) (by decide)
    refine lv_lload_n hx hb dX12_power_8 rfl (lv_at hl 0 rfl) ?_
    refine lv_lload_n hx hb dX12_power_9 rfl (lv_at hl 0 rfl) ?_
    refine lv_iload_n hx hb dX12_power_10 rfl (lv_at hl 1 rfl) ?_
    refine lv_iconst (v := 1) hx hb dX12_power_11 (by decide) ?_
    refine lv_isub hx hb dX12_power_12 ?_
    refine lv_topi (fun v3 ev3 => ?_)
    have rv3 : mm_rg v3 0 1 := mm_sub ev3 q2 mm_k1 (by decide) (by decide)
    have tv3 := mm_subEc ev3 q2 mm_k1 (by decide) (k := (-1)) (by decide)
    refine mm_finlr (va_runS (As := [.long j_0, .int v3]) (rest := [.long j_0]) ⟨hx, hb, hml, hown, hts⟩ (M246_X12_power l G cy H.size j_0 v3 h0 rv3) (va_cwS 2 hts (mm_gS mm_w1523 mm_w1524 mm_w5 mm_w1525) rfl rfl rfl hs_X12_power ⟨by rw [hRf]; exact Nat.le_of_ble_eq_true rfl, by rw [hRl]; exact Nat.le_of_ble_eq_true rfl⟩) (mm_preS hK hZ hS hA hP hD [] rfl rfl) rfl rfl hl.1 rfl (lv_room (Nat.le_of_ble_eq_true rfl)) dX12_power_13 ⟨by rw [hRc]; exact Nat.le_of_ble_eq_true rfl, by rw [hRs]; exact Nat.le_of_ble_eq_true rfl⟩) hP hD hS hA [] rfl (fun _ => rfl) ?_
    clear hP hD hS
    clear H locs
    intro v4 _u H locs hw hP hD hS
    obtain ⟨w5, w6⟩ := hw
    refine lv_lmul hx hb dX12_power_16 ?_
    refine lv_topl (fun v7 ev7 => ?_)
    have rv7 : mm_rl v7 0 100 := mm_mull ev7 h0 w5 (by decide) (by decide)
    have w8 : mm_pw i_0 v7 := (mm_pw_s w6 tv3 ev7 h0 w5 rv3 (by decide))
    subst hAe
    rw [hQ]
    exact W.lret (v := v7) hx hb hr (fun t ht hW => ⟨⟨v7, (), rfl, ⟨rv7, w8⟩, by rw [ht]; exact hP, hK.warm hW, hD⟩, hS.F ht⟩) hS.2.2 dX12_power_17
  · have q9 := mm_eqI (lo := 0) (hi := 0) c1 h1 mm_k0 (by decide)
    refine lv_lconst (v := 1) hx hb dX12_power_4 (by decide) ?_
    refine lv_goto (tgt := 17) hx hb dX12_power_5 (by decide) ?_
    have w10 : mm_pw i_0 1 := (mm_pw_0 _)
    subst hAe
    rw [hQ]
    exact W.lret (v := 1) hx hb hr (fun t ht hW => ⟨⟨1, (), rfl, ⟨(mm_wkl mm_kl1 (by decide)), w10⟩, by rw [ht]; exact hP, hK.warm hW, hD⟩, hS.F ht⟩) hS.2.2 dX12_power_17

set_option maxHeartbeats 4000000 in
set_option maxRecDepth 100000 in
theorem M248_X12_power (l : Launch) (G : va_G) (cy : Nat → ClassId) (sz : Nat) (j_0 : Int64) (i_0 : Int32) (h0 : mm_rl j_0 0 10) (h1 : mm_rg i_0 0 3)  : mm_CL l yX12_power (mm_ws yX12_power cX12_power 3 (some .long)) ({ frames := 3, cells := 0, slots := 0, locals := 66 } : Room) G cy sz [] [.long j_0, .int i_0] (fun u : Unit => []) (fun (r : Int64) (u : Unit) => mm_rl r 0 1000 ∧ mm_pw i_0 r) 0 0 := by
  refine mm_begin (lv := [(0, .long j_0), (2, .int i_0)]) (by decide) (Nat.le_of_ble_eq_true rfl) rfl ?_
  intro p e s m below meth c A ls R args Q H locs hRe hQ hAe hx hb hr hlocks hml hown hnm hts hsz hA hS hP hK hD hZ hl
  have hRf : R.frames = 3 := by rw [hRe]
  have hRl : R.locals = 66 := by rw [hRe]
  have hRc : R.cells = 0 := by rw [hRe]
  have hRs : R.slots = 0 := by rw [hRe]
  refine lv_iload_n hx hb dX12_power_0 rfl (lv_at hl 1 rfl) ?_
  refine lv_if_ne (tgt := 8) hx hb dX12_power_1 (by decide) (fun c1 => ?_) (fun c1 => ?_)
  · have q2 := mm_neL (lo := 1) (mm_ne c1) h1 mm_k0 (by decide) (by decide)
    refine lv_lload_n hx hb dX12_power_8 rfl (lv_at hl 0 rfl) ?_
    refine lv_lload_n hx hb dX12_power_9 rfl (lv_at hl 0 rfl) ?_
    refine lv_iload_n hx hb dX12_power_10 rfl (lv_at hl 1 rfl) ?_
    refine lv_iconst (v := 1) hx hb dX12_power_11 (by decide) ?_
    refine lv_isub hx hb dX12_power_12 ?_
    refine lv_topi (fun v3 ev3 => ?_)
    have rv3 : mm_rg v3 0 2 := mm_sub ev3 q2 mm_k1 (by decide) (by decide)
    have tv3 := mm_subEc ev3 q2 mm_k1 (by decide) (k := (-1)) (by decide)
    refine mm_finlr (va_runS (As := [.long j_0, .int v3]) (rest := [.long j_0]) ⟨hx, hb, hml, hown, hts⟩ (M247_X12_power l G cy H.size j_0 v3 h0 rv3) (va_cwS 2 hts (mm_gS mm_w1523 mm_w1524 mm_w5 mm_w1525) rfl rfl rfl hs_X12_power ⟨by rw [hRf]; exact Nat.le_of_ble_eq_true rfl, by rw [hRl]; exact Nat.le_of_ble_eq_true rfl⟩) (mm_preS hK hZ hS hA hP hD [] rfl rfl) rfl rfl hl.1 rfl (lv_room (Nat.le_of_ble_eq_true rfl)) dX12_power_13 ⟨by rw [hRc]; exact Nat.le_of_ble_eq_true rfl, by rw [hRs]; exact Nat.le_of_ble_eq_true rfl⟩) hP hD hS hA [] rfl (fun _ => rfl) ?_
    clear hP hD hS
    clear H locs
    intro v4 _u H locs hw hP hD hS
    obtain ⟨w5, w6⟩ := hw
    refine lv_lmul hx hb dX12_power_16 ?_
    refine lv_topl (fun v7 ev7 => ?_)
    have rv7 : mm_rl v7 0 1000 := mm_mull ev7 h0 w5 (by decide) (by decide)
    have w8 : mm_pw i_0 v7 := (mm_pw_s w6 tv3 ev7 h0 w5 rv3 (by decide))
    subst hAe
    rw [hQ]
    exact W.lret (v := v7) hx hb hr (fun t ht hW => ⟨⟨v7, (), rfl, ⟨rv7, w8⟩, by rw [ht]; exact hP, hK.warm hW, hD⟩, hS.F ht⟩) hS.2.2 dX12_power_17
  · have q9 := mm_eqI (lo := 0) (hi := 0) c1 h1 mm_k0 (by decide)
    refine lv_lconst (v := 1) hx hb dX12_power_4 (by decide) ?_
    refine lv_goto (tgt := 17) hx hb dX12_power_5 (by decide) ?_
    have w10 : mm_pw i_0 1 := (mm_pw_0 _)
    subst hAe
    rw [hQ]
    exact W.lret (v := 1) hx hb hr (fun t ht hW => ⟨⟨1, (), rfl, ⟨(mm_wkl mm_kl1 (by decide)), w10⟩, by rw [ht]; exact hP, hK.warm hW, hD⟩, hS.F ht⟩) hS.2.2 dX12_power_17

set_option maxHeartbeats 4000000 in
set_option maxRecDepth 100000 in
theorem M249_X12_power (l : Launch) (G : va_G) (cy : Nat → ClassId) (sz : Nat) (j_0 : Int64) (i_0 : Int32) (h0 : mm_rl j_0 0 10) (h1 : mm_rg i_0 0 4)  : mm_CL l yX12_power (mm_ws yX12_power cX12_power 3 (some .long)) ({ frames := 4, cells := 0, slots := 0, locals := 88 } : Room) G cy sz [] [.long j_0, .int i_0] (fun u : Unit => []) (fun (r : Int64) (u : Unit) => mm_rl r 0 10000 ∧ mm_pw i_0 r) 0 0 := by
  refine mm_begin (lv := [(0, .long j_0), (2, .int i_0)]) (by decide) (Nat.le_of_ble_eq_true rfl) rfl ?_
  intro p e s m below meth c A ls R args Q H locs hRe hQ hAe hx hb hr hlocks hml hown hnm hts hsz hA hS hP hK hD hZ hl
  have hRf : R.frames = 4 := by rw [hRe]
  have hRl : R.locals = 88 := by rw [hRe]
  have hRc : R.cells = 0 := by rw [hRe]
  have hRs : R.slots = 0 := by rw [hRe]
  refine lv_iload_n hx hb dX12_power_0 rfl (lv_at hl 1 rfl) ?_
  refine lv_if_ne (tgt := 8) hx hb dX12_power_1 (by decide) (fun c1 => ?_) (fun c1 => ?_)
  · have q2 := mm_neL (lo := 1) (mm_ne c1) h1 mm_k0 (by decide) (by decide)
    refine lv_lload_n hx hb dX12_power_8 rfl (lv_at hl 0 rfl) ?_
    refine lv_lload_n hx hb dX12_power_9 rfl (lv_at hl 0 rfl) ?_
    refine lv_iload_n hx hb dX12_power_10 rfl (lv_at hl 1 rfl) ?_
    refine lv_iconst (v := 1) hx hb dX12_power_11 (by decide) ?_
    refine lv_isub hx hb dX12_power_12 ?_
    refine lv_topi (fun v3 ev3 => ?_)
    have rv3 : mm_rg v3 0 3 := mm_sub ev3 q2 mm_k1 (by decide) (by decide)
    have tv3 := mm_subEc ev3 q2 mm_k1 (by decide) (k := (-1)) (by decide)
    refine mm_finlr (va_runS (As := [.long j_0, .int v3]) (rest := [.long j_0]) ⟨hx, hb, hml, hown, hts⟩ (M248_X12_power l G cy H.size j_0 v3 h0 rv3) (va_cwS 2 hts (mm_gS mm_w1523 mm_w1524 mm_w5 mm_w1525) rfl rfl rfl hs_X12_power ⟨by rw [hRf]; exact Nat.le_of_ble_eq_true rfl, by rw [hRl]; exact Nat.le_of_ble_eq_true rfl⟩) (mm_preS hK hZ hS hA hP hD [] rfl rfl) rfl rfl hl.1 rfl (lv_room (Nat.le_of_ble_eq_true rfl)) dX12_power_13 ⟨by rw [hRc]; exact Nat.le_of_ble_eq_true rfl, by rw [hRs]; exact Nat.le_of_ble_eq_true rfl⟩) hP hD hS hA [] rfl (fun _ => rfl) ?_
    clear hP hD hS
    clear H locs
    intro v4 _u H locs hw hP hD hS
    obtain ⟨w5, w6⟩ := hw
    refine lv_lmul hx hb dX12_power_16 ?_
    refine lv_topl (fun v7 ev7 => ?_)
    have rv7 : mm_rl v7 0 10000 := mm_mull ev7 h0 w5 (by decide) (by decide)
    have w8 : mm_pw i_0 v7 := (mm_pw_s w6 tv3 ev7 h0 w5 rv3 (by decide))
    subst hAe
    rw [hQ]
    exact W.lret (v := v7) hx hb hr (fun t ht hW => ⟨⟨v7, (), rfl, ⟨rv7, w8⟩, by rw [ht]; exact hP, hK.warm hW, hD⟩, hS.F ht⟩) hS.2.2 dX12_power_17
  · have q9 := mm_eqI (lo := 0) (hi := 0) c1 h1 mm_k0 (by decide)
    refine lv_lconst (v := 1) hx hb dX12_power_4 (by decide) ?_
    refine lv_goto (tgt := 17) hx hb dX12_power_5 (by decide) ?_
    have w10 : mm_pw i_0 1 := (mm_pw_0 _)
    subst hAe
    rw [hQ]
    exact W.lret (v := 1) hx hb hr (fun t ht hW => ⟨⟨1, (), rfl, ⟨(mm_wkl mm_kl1 (by decide)), w10⟩, by rw [ht]; exact hP, hK.warm hW, hD⟩, hS.F ht⟩) hS.2.2 dX12_power_17

set_option maxHeartbeats 4000000 in
set_option maxRecDepth 100000 in
theorem M250_X12_power (l : Launch) (G : va_G) (cy : Nat → ClassId) (sz : Nat) (j_0 : Int64) (i_0 : Int32) (h0 : mm_rl j_0 0 10) (h1 : mm_rg i_0 0 5)  : mm_CL l yX12_power (mm_ws yX12_power cX12_power 3 (some .long)) ({ frames := 5, cells := 0, slots := 0, locals := 110 } : Room) G cy sz [] [.long j_0, .int i_0] (fun u : Unit => []) (fun (r : Int64) (u : Unit) => mm_rl r 0 100000 ∧ mm_pw i_0 r) 0 0 := by
  refine mm_begin (lv := [(0, .long j_0), (2, .int i_0)]) (by decide) (Nat.le_of_ble_eq_true rfl) rfl ?_
  intro p e s m below meth c A ls R args Q H locs hRe hQ hAe hx hb hr hlocks hml hown hnm hts hsz hA hS hP hK hD hZ hl
  have hRf : R.frames = 5 := by rw [hRe]
  have hRl : R.locals = 110 := by rw [hRe]
  have hRc : R.cells = 0 := by rw [hRe]
  have hRs : R.slots = 0 := by rw [hRe]
  refine lv_iload_n hx hb dX12_power_0 rfl (lv_at hl 1 rfl) ?_
  refine lv_if_ne (tgt := 8) hx hb dX12_power_1 (by decide) (fun c1 => ?_) (fun c1 => ?_)
  · have q2 := mm_neL (lo := 1) (mm_ne c1) h1 mm_k0 (by decide) (by decide)
    refine lv_lload_n hx hb dX12_power_8 rfl (lv_at hl 0 rfl) ?_
    refine lv_lload_n hx hb dX12_power_9 rfl (lv_at hl 0 rfl) ?_
    refine lv_iload_n hx hb dX12_power_10 rfl (lv_at hl 1 rfl) ?_
    refine lv_iconst (v := 1) hx hb dX12_power_11 (by decide) ?_
    refine lv_isub hx hb dX12_power_12 ?_
    refine lv_topi (fun v3 ev3 => ?_)
    have rv3 : mm_rg v3 0 4 := mm_sub ev3 q2 mm_k1 (by decide) (by decide)
    have tv3 := mm_subEc ev3 q2 mm_k1 (by decide) (k := (-1)) (by decide)
    refine mm_finlr (va_runS (As := [.long j_0, .int v3]) (rest := [.long j_0]) ⟨hx, hb, hml, hown, hts⟩ (M249_X12_power l G cy H.size j_0 v3 h0 rv3) (va_cwS 2 hts (mm_gS mm_w1523 mm_w1524 mm_w5 mm_w1525) rfl rfl rfl hs_X12_power ⟨by rw [hRf]; exact Nat.le_of_ble_eq_true rfl, by rw [hRl]; exact Nat.le_of_ble_eq_true rfl⟩) (mm_preS hK hZ hS hA hP hD [] rfl rfl) rfl rfl hl.1 rfl (lv_room (Nat.le_of_ble_eq_true rfl)) dX12_power_13 ⟨by rw [hRc]; exact Nat.le_of_ble_eq_true rfl, by rw [hRs]; exact Nat.le_of_ble_eq_true rfl⟩) hP hD hS hA [] rfl (fun _ => rfl) ?_
    clear hP hD hS
    clear H locs
    intro v4 _u H locs hw hP hD hS
    obtain ⟨w5, w6⟩ := hw
    refine lv_lmul hx hb dX12_power_16 ?_
    refine lv_topl (fun v7 ev7 => ?_)
    have rv7 : mm_rl v7 0 100000 := mm_mull ev7 h0 w5 (by decide) (by decide)
    have w8 : mm_pw i_0 v7 := (mm_pw_s w6 tv3 ev7 h0 w5 rv3 (by decide))
    subst hAe
    rw [hQ]
    exact W.lret (v := v7) hx hb hr (fun t ht hW => ⟨⟨v7, (), rfl, ⟨rv7, w8⟩, by rw [ht]; exact hP, hK.warm hW, hD⟩, hS.F ht⟩) hS.2.2 dX12_power_17
  · have q9 := mm_eqI (lo := 0) (hi := 0) c1 h1 mm_k0 (by decide)
    refine lv_lconst (v := 1) hx hb dX12_power_4 (by decide) ?_
    refine lv_goto (tgt := 17) hx hb dX12_power_5 (by decide) ?_
    have w10 : mm_pw i_0 1 := (mm_pw_0 _)
    subst hAe
    rw [hQ]
    exact W.lret (v := 1) hx hb hr (fun t ht hW => ⟨⟨1, (), rfl, ⟨(mm_wkl mm_kl1 (by decide)), w10⟩, by rw [ht]; exact hP, hK.warm hW, hD⟩, hS.F ht⟩) hS.2.2 dX12_power_17

set_option maxHeartbeats 4000000 in
set_option maxRecDepth 100000 in
theorem M251_X12_power (l : Launch) (G : va_G) (cy : Nat → ClassId) (sz : Nat) (j_0 : Int64) (i_0 : Int32) (h0 : mm_rl j_0 0 10) (h1 : mm_rg i_0 0 6)  : mm_CL l yX12_power (mm_ws yX12_power cX12_power 3 (some .long)) ({ frames := 6, cells := 0, slots := 0, locals := 132 } : Room) G cy sz [] [.long j_0, .int i_0] (fun u : Unit => []) (fun (r : Int64) (u : Unit) => mm_rl r 0 1000000 ∧ mm_pw i_0 r) 0 0 := by
  refine mm_begin (lv := [(0, .long j_0), (2, .int i_0)]) (by decide) (Nat.le_of_ble_eq_true rfl) rfl ?_
  intro p e s m below meth c A ls R args Q H locs hRe hQ hAe hx hb hr hlocks hml hown hnm hts hsz hA hS hP hK hD hZ hl
  have hRf : R.frames = 6 := by rw [hRe]
  have hRl : R.locals = 132 := by rw [hRe]
  have hRc : R.cells = 0 := by rw [hRe]
  have hRs : R.slots = 0 := by rw [hRe]
  refine lv_iload_n hx hb dX12_power_0 rfl (lv_at hl 1 rfl) ?_
  refine lv_if_ne (tgt := 8) hx hb dX12_power_1 (by decide) (fun c1 => ?_) (fun c1 => ?_)
  · have q2 := mm_neL (lo := 1) (mm_ne c1) h1 mm_k0 (by decide) (by decide)
    refine lv_lload_n hx hb dX12_power_8 rfl (lv_at hl 0 rfl) ?_
    refine lv_lload_n hx hb dX12_power_9 rfl (lv_at hl 0 rfl) ?_
    refine lv_iload_n hx hb dX12_power_10 rfl (lv_at hl 1 rfl) ?_
    refine lv_iconst (v := 1) hx hb dX12_power_11 (by decide) ?_
    refine lv_isub hx hb dX12_power_12 ?_
    refine lv_topi (fun v3 ev3 => ?_)
    have rv3 : mm_rg v3 0 5 := mm_sub ev3 q2 mm_k1 (by decide) (by decide)
    have tv3 := mm_subEc ev3 q2 mm_k1 (by decide) (k := (-1)) (by decide)
    refine mm_finlr (va_runS (As := [.long j_0, .int v3]) (rest := [.long j_0]) ⟨hx, hb, hml, hown, hts⟩ (M250_X12_power l G cy H.size j_0 v3 h0 rv3) (va_cwS 2 hts (mm_gS mm_w1523 mm_w1524 mm_w5 mm_w1525) rfl rfl rfl hs_X12_power ⟨by rw [hRf]; exact Nat.le_of_ble_eq_true rfl, by rw [hRl]; exact Nat.le_of_ble_eq_true rfl⟩) (mm_preS hK hZ hS hA hP hD [] rfl rfl) rfl rfl hl.1 rfl (lv_room (Nat.le_of_ble_eq_true rfl)) dX12_power_13 ⟨by rw [hRc]; exact Nat.le_of_ble_eq_true rfl, by rw [hRs]; exact Nat.le_of_ble_eq_true rfl⟩) hP hD hS hA [] rfl (fun _ => rfl) ?_
    clear hP hD hS
    clear H locs
    intro v4 _u H locs hw hP hD hS
    obtain ⟨w5, w6⟩ := hw
    refine lv_lmul hx hb dX12_power_16 ?_
    refine lv_topl (fun v7 ev7 => ?_)
    have rv7 : mm_rl v7 0 1000000 := mm_mull ev7 h0 w5 (by decide) (by decide)
    have w8 : mm_pw i_0 v7 := (mm_pw_s w6 tv3 ev7 h0 w5 rv3 (by decide))
    subst hAe
    rw [hQ]
    exact W.lret (v := v7) hx hb hr (fun t ht hW => ⟨⟨v7, (), rfl, ⟨rv7, w8⟩, by rw [ht]; exact hP, hK.warm hW, hD⟩, hS.F ht⟩) hS.2.2 dX12_power_17
  · have q9 := mm_eqI (lo := 0) (hi := 0) c1 h1 mm_k0 (by decide)
    refine lv_lconst (v := 1) hx hb dX12_power_4 (by decide) ?_
    refine lv_goto (tgt := 17) hx hb dX12_power_5 (by decide) ?_
    have w10 : mm_pw i_0 1 := (mm_pw_0 _)
    subst hAe
    rw [hQ]
    exact W.lret (v := 1) hx hb hr (fun t ht hW => ⟨⟨1, (), rfl, ⟨(mm_wkl mm_kl1 (by decide)), w10⟩, by rw [ht]; exact hP, hK.warm hW, hD⟩, hS.F ht⟩) hS.2.2 dX12_power_17

set_option maxHeartbeats 4000000 in
set_option maxRecDepth 100000 in
theorem M252_X12_power (l : Launch) (G : va_G) (cy : Nat → ClassId) (sz : Nat) (j_0 : Int64) (i_0 : Int32) (h0 : mm_rl j_0 0 10) (h1 : mm_rg i_0 0 7)  : mm_CL l yX12_power (mm_ws yX12_power cX12_power 3 (some .long)) ({ frames := 7, cells := 0, slots := 0, locals := 154 } : Room) G cy sz [] [.long j_0, .int i_0] (fun u : Unit => []) (fun (r : Int64) (u : Unit) => mm_rl r 0 10000000 ∧ mm_pw i_0 r) 0 0 := by
  refine mm_begin (lv := [(0, .long j_0), (2, .int i_0)]) (by decide) (Nat.le_of_ble_eq_true rfl) rfl ?_
  intro p e s m below meth c A ls R args Q H locs hRe hQ hAe hx hb hr hlocks hml hown hnm hts hsz hA hS hP hK hD hZ hl
  have hRf : R.frames = 7 := by rw [hRe]
  have hRl : R.locals = 154 := by rw [hRe]
  have hRc : R.cells = 0 := by rw [hRe]
  have hRs : R.slots = 0 := by rw [hRe]
  refine lv_iload_n hx hb dX12_power_0 rfl (lv_at hl 1 rfl) ?_
  refine lv_if_ne (tgt := 8) hx hb dX12_power_1 (by decide) (fun c1 => ?_) (fun c1 => ?_)
  · have q2 := mm_neL (lo := 1) (mm_ne c1) h1 mm_k0 (by decide) (by decide)
    refine lv_lload_n hx hb dX12_power_8 rfl (lv_at hl 0 rfl) ?_
    refine lv_lload_n hx hb dX12_power_9 rfl (lv_at hl 0 rfl) ?_
    refine lv_iload_n hx hb dX12_power_10 rfl (lv_at hl 1 rfl) ?_
    refine lv_iconst (v := 1) hx hb dX12_power_11 (by decide) ?_
    refine lv_isub hx hb dX12_power_12 ?_
    refine lv_topi (fun v3 ev3 => ?_)
    have rv3 : mm_rg v3 0 6 := mm_sub ev3 q2 mm_k1 (by decide) (by decide)
    have tv3 := mm_subEc ev3 q2 mm_k1 (by decide) (k := (-1)) (by decide)
    refine mm_finlr (va_runS (As := [.long j_0, .int v3]) (rest := [.long j_0]) ⟨hx, hb, hml, hown, hts⟩ (M251_X12_power l G cy H.size j_0 v3 h0 rv3) (va_cwS 2 hts (mm_gS mm_w1523 mm_w1524 mm_w5 mm_w1525) rfl rfl rfl hs_X12_power ⟨by rw [hRf]; exact Nat.le_of_ble_eq_true rfl, by rw [hRl]; exact Nat.le_of_ble_eq_true rfl⟩) (mm_preS hK hZ hS hA hP hD [] rfl rfl) rfl rfl hl.1 rfl (lv_room (Nat.le_of_ble_eq_true rfl)) dX12_power_13 ⟨by rw [hRc]; exact Nat.le_of_ble_eq_true rfl, by rw [hRs]; exact Nat.le_of_ble_eq_true rfl⟩) hP hD hS hA [] rfl (fun _ => rfl) ?_
    clear hP hD hS
    clear H locs
    intro v4 _u H locs hw hP hD hS
    obtain ⟨w5, w6⟩ := hw
    refine lv_lmul hx hb dX12_power_16 ?_
    refine lv_topl (fun v7 ev7 => ?_)
    have rv7 : mm_rl v7 0 10000000 := mm_mull ev7 h0 w5 (by decide) (by decide)
    have w8 : mm_pw i_0 v7 := (mm_pw_s w6 tv3 ev7 h0 w5 rv3 (by decide))
    subst hAe
    rw [hQ]
    exact W.lret (v := v7) hx hb hr (fun t ht hW => ⟨⟨v7, (), rfl, ⟨rv7, w8⟩, by rw [ht]; exact hP, hK.warm hW, hD⟩, hS.F ht⟩) hS.2.2 dX12_power_17
  · have q9 := mm_eqI (lo := 0) (hi := 0) c1 h1 mm_k0 (by decide)
    refine lv_lconst (v := 1) hx hb dX12_power_4 (by decide) ?_
    refine lv_goto (tgt := 17) hx hb dX12_power_5 (by decide) ?_
    have w10 : mm_pw i_0 1 := (mm_pw_0 _)
    subst hAe
    rw [hQ]
    exact W.lret (v := 1) hx hb hr (fun t ht hW => ⟨⟨1, (), rfl, ⟨(mm_wkl mm_kl1 (by decide)), w10⟩, by rw [ht]; exact hP, hK.warm hW, hD⟩, hS.F ht⟩) hS.2.2 dX12_power_17

set_option maxHeartbeats 4000000 in
set_option maxRecDepth 100000 in
theorem M253_X12_weightOf (l : Launch) (G : va_G) (cy : Nat → ClassId) (sz : Nat) (a_0 : Nat) (i_0 : Int32) (i_1 : Int32) (i_2 : Int32) (i_3 : Int32) (i_4 : Int32) (a_1 : Nat) (a_2 : Nat) (a_3 : Nat) (a_4 : Nat) (a_5 : Nat) (i_5 : Int32) (i_6 : Int32) (i_7 : Int32) (i_8 : Int32) (i_9 : Int32) (j_0 : Int64) (i_10 : Int32) (i_11 : Int32) (i_12 : Int32) (i_13 : Int32) (a_6 : Nat) (a_7 : Nat) (a_8 : Nat) (a_9 : Nat) (a_10 : Nat) (a_11 : Nat) (a_12 : Nat) (a_13 : Nat) (a_14 : Nat) (a_15 : Nat) (a_16 : Nat) (a_17 : Nat) (a_18 : Nat) (i_14 : Int32) (i_15 : Int32) (i_16 : Int32) (i_17 : Int32) (i_18 : Int32) (i_19 : Int32) (a_19 : Nat) (i_20 : Int32) (a_20 : Nat) (i_21 : Int32) (i_22 : Int32) (i_23 : Int32) (i_24 : Int32) (i_25 : Int32) (i_26 : Int32) (i_27 : Int32) (i_28 : Int32) (i_29 : Int32) (i_30 : Int32) (i_31 : Int32) (i_32 : Int32) (i_33 : Int32) (i_34 : Int32) (i_35 : Int32) (i_36 : Int32) (i_37 : Int32) (i_38 : Int32) (i_39 : Int32) (i_40 : Int32) (i_41 : Int32) (i_42 : Int32) (i_43 : Int32) (i_44 : Int32) (i_45 : Int32) (i_46 : Int32) (i_47 : Int32) (i_48 : Int32) (i_49 : Int32) (i_50 : Int32) (i_51 : Int32) (i_52 : Int32) (i_53 : Int32) (i_54 : Int32) (i_55 : Int32) (f_0 : Nat → Int32) (f_1 : Nat → Int32) (f_2 : Nat → Int32) (f_3 : Nat → Int32) (f_4 : Nat → Int32) (f_5 : Nat → Int32) (f_6 : Nat → Int32) (f_7 : Nat → Int32) (f_8 : Nat → Int32) (f_9 : Nat → Int32) (h0 : mm_rg i_0 0 2) (h1 : mm_rg i_1 0 1000000000) (h2 : mm_rg i_2 0 5) (h3 : mm_rg i_3 0 7) (h4 : mm_rg i_14 0 8) (h5 : mm_rg i_21 0 601) (h6 : mm_rg i_22 0 601) (h7 : mm_rg i_23 0 601) (h8 : mm_rg i_24 0 601) (h9 : mm_rg i_25 0 601) (h10 : mm_rg i_26 0 10) (h11 : mm_rg i_27 0 99) (h12 : mm_rg i_28 0 9) (h13 : mm_rg i_29 0 3) (h14 : mm_rg i_30 0 6) (h15 : mm_rg i_31 0 30) (h16 : mm_rg i_32 0 10) (h17 : mm_rg i_33 0 99) (h18 : mm_rg i_34 0 9) (h19 : mm_rg i_35 0 3) (h20 : mm_rg i_36 0 6) (h21 : mm_rg i_37 0 30) (h22 : mm_rg i_38 0 10) (h23 : mm_rg i_39 0 99) (h24 : mm_rg i_40 0 9) (h25 : mm_rg i_41 0 3) (h26 : mm_rg i_42 0 6) (h27 : mm_rg i_43 0 30) (h28 : mm_rg i_44 0 10) (h29 : mm_rg i_45 0 99) (h30 : mm_rg i_46 0 9) (h31 : mm_rg i_47 0 3) (h32 : mm_rg i_48 0 6) (h33 : mm_rg i_49 0 30) (h34 : mm_rg i_50 0 10) (h35 : mm_rg i_51 0 99) (h36 : mm_rg i_52 0 9) (h37 : mm_rg i_53 0 3) (h38 : mm_rg i_54 0 6) (h39 : mm_rg i_55 0 30) (h40 : mm_ar f_0 0 99) (h41 : mm_ar f_1 0 7) (h42 : mm_ar f_2 0 9) (h43 : mm_ar f_3 0 8) (h44 : mm_ar f_4 0 9) (h45 : mm_ar f_5 (-1) 99) (h46 : mm_ar f_6 0 9) (h47 : mm_ar f_7 0 210) (h48 : mm_ar f_8 0 210) (h49 : mm_ar f_9 0 9) (h50 : mm_rls f_1 f_2 0 i_28 i_29) (h51 : mm_txs f_3 f_4 0 i_28 i_30) (h52 : mm_acs f_5 0 i_28 i_29 i_31) (h53 : mm_tl i_21 i_29 i_30) (h54 : mm_rls f_1 f_2 1 i_34 i_35) (h55 : mm_txs f_3 f_4 1 i_34 i_36) (h56 : mm_acs f_5 1 i_34 i_35 i_37) (h57 : mm_tl i_22 i_35 i_36) (h58 : mm_rls f_1 f_2 2 i_40 i_41) (h59 : mm_txs f_3 f_4 2 i_40 i_42) (h60 : mm_acs f_5 2 i_40 i_41 i_43) (h61 : mm_tl i_23 i_41 i_42) (h62 : mm_rls f_1 f_2 3 i_46 i_47) (h63 : mm_txs f_3 f_4 3 i_46 i_48) (h64 : mm_acs f_5 3 i_46 i_47 i_49) (h65 : mm_tl i_24 i_47 i_48) (h66 : (i_0 : Int32).toInt < (i_29 : Int32).toInt)  : mm_CL l yX12_weightOf (mm_ws yX12_weightOf cX12_weightOf 13 (some .long)) ({ frames := 14, cells := 0, slots := 0, locals := 300 } : Room) G cy sz [(a_0, .inr (12, [.int i_4, .ref a_1, .ref a_2, .ref a_3, .ref a_4, .ref a_5, .int i_5, .int i_6, .int i_7, .int i_8, .int i_9, .long j_0, .int i_10, .int i_11, .int i_12, .int i_13, .ref a_6, .ref a_7, .ref a_8, .ref a_9, .ref a_10, .ref a_11, .ref a_12, .ref a_13, .ref a_14, .ref a_15, .ref a_16, .ref a_17, .ref a_18, .int i_14, .int i_15, .int i_16, .int i_17, .int i_18, .int i_19, .ref a_19, .int i_20, .ref a_20])), (a_6, .inl (cy 1, 5, .inl (mm_g [i_21, i_22, i_23, i_24, i_25]))), (a_7, .inl (cy 1, 30, .inl (mm_g [i_26, i_27, i_28, i_29, i_30, i_31, i_32, i_33, i_34, i_35, i_36, i_37, i_38, i_39, i_40, i_41, i_42, i_43, i_44, i_45, i_46, i_47, i_48, i_49, i_50, i_51, i_52, i_53, i_54, i_55]))), (a_8, .inl (cy 1, 90, .inl f_0)), (a_9, .inl (cy 1, 15, .inl f_1)), (a_10, .inl (cy 1, 1050, .inl f_2)), (a_11, .inl (cy 1, 30, .inl f_3)), (a_12, .inl (cy 1, 240, .inl f_4)), (a_13, .inl (cy 1, 450, .inl f_5)), (a_15, .inl (cy 1, 7200, .inl f_6)), (a_16, .inl (cy 1, 3, .inl f_7)), (a_17, .inl (cy 1, 3, .inl f_8)), (a_18, .inl (cy 1, 8, .inl f_9))] [.ref a_0, .int i_0, .int i_1, .int i_2, .int i_3, .int 0] (fun u : Int32 × Int32 × Int32 × (Nat → Int32) × (Nat → Int32) × (Nat → Int32) × (Nat → Int32) => [(a_0, .inr (12, [.int i_4, .ref a_1, .ref a_2, .ref a_3, .ref a_4, .ref a_5, .int i_5, .int i_6, .int i_7, .int i_8, .int i_9, .long j_0, .int i_10, .int i_11, .int i_12, .int i_13, .ref a_6, .ref a_7, .ref a_8, .ref a_9, .ref a_10, .ref a_11, .ref a_12, .ref a_13, .ref a_14, .ref a_15, .ref a_16, .ref a_17, .ref a_18, .int u.1, .int u.2.1, .int u.2.2.1, .int i_17, .int i_18, .int i_19, .ref a_19, .int i_20, .ref a_20])), (a_6, .inl (cy 1, 5, .inl (mm_g [i_21, i_22, i_23, i_24, i_25]))), (a_7, .inl (cy 1, 30, .inl (mm_g [i_26, i_27, i_28, i_29, i_30, i_31, i_32, i_33, i_34, i_35, i_36, i_37, i_38, i_39, i_40, i_41, i_42, i_43, i_44, i_45, i_46, i_47, i_48, i_49, i_50, i_51, i_52, i_53, i_54, i_55]))), (a_8, .inl (cy 1, 90, .inl f_0)), (a_9, .inl (cy 1, 15, .inl f_1)), (a_10, .inl (cy 1, 1050, .inl f_2)), (a_11, .inl (cy 1, 30, .inl f_3)), (a_12, .inl (cy 1, 240, .inl f_4)), (a_13, .inl (cy 1, 450, .inl f_5)), (a_15, .inl (cy 1, 7200, .inl u.2.2.2.1)), (a_16, .inl (cy 1, 3, .inl u.2.2.2.2.1)), (a_17, .inl (cy 1, 3, .inl u.2.2.2.2.2.1)), (a_18, .inl (cy 1, 8, .inl u.2.2.2.2.2.2))]) (fun (r : Int64) (u : Int32 × Int32 × Int32 × (Nat → Int32) × (Nat → Int32) × (Nat → Int32) × (Nat → Int32)) => mm_rg u.1 0 8 ∧ mm_ar u.2.2.2.1 0 9 ∧ mm_ar u.2.2.2.2.1 0 210 ∧ mm_ar u.2.2.2.2.2.1 0 210 ∧ mm_ar u.2.2.2.2.2.2 0 9 ∧ mm_rl r 0 12798720000000) 0 0 := by
  refine mm_begin (lv := [(0, .ref a_0), (1, .int i_0), (2, .int i_1), (3, .int i_2), (4, .int i_3), (5, .int 0)]) (by decide) (Nat.le_of_ble_eq_true rfl) rfl ?_
  intro p e s m below meth c A ls R args Q H locs hRe hQ hAe hx hb hr hlocks hml hown hnm hts hsz hA hS hP hK hD hZ hl
  have hRf : R.frames = 14 := by rw [hRe]
  have hRl : R.locals = 300 := by rw [hRe]
  have hRc : R.cells = 0 := by rw [hRe]
  have hRs : R.slots = 0 := by rw [hRe]
  have q1 := mm_ltR (lo := 1) h66 h0 h13 (by decide)
  have q2 : mm_rg i_21 1 601 := mm_tl_3 h53 q1 h5 (by decide)
  refine lv_aload_n hx hb dX12_weightOf_0 rfl (lv_at hl 0 rfl) ?_
  refine mm_finv (va_runV (As := []) (rest := []) ⟨hx, hb, hml, hown, hts⟩ (M125_X12_lays l G cy H.size a_0 i_4 a_1 a_2 a_3 a_4 a_5 i_5 i_6 i_7 i_8 i_9 j_0 i_10 i_11 i_12 i_13 a_6 a_7 a_8 a_9 a_10 a_11 a_12 a_13 a_14 a_15 a_16 a_17 a_18 i_14 i_15 i_16 i_17 i_18 i_19 a_19 i_20 a_20 i_21 i_22 i_23 i_24 i_25 i_26 i_27 i_28 i_29 i_30 i_31 i_32 i_33 i_34 i_35 i_36 i_37 i_38 i_39 i_40 i_41 i_42 i_43 i_44 i_45 i_46 i_47 i_48 i_49 i_50 i_51 i_52 i_53 i_54 i_55 f_1 f_2 f_5 f_6 f_7 f_8 (mm_wk q2 (by decide)) h6 h7 h8 h9 h10 h11 h12 (mm_wk q1 (by decide)) h14 h15 h16 h17 h18 h19 h20 h21 h22 h23 h24 h25 h26 h27 h28 h29 h30 h31 h32 h33 h34 h35 h36 h37 h38 h39 h41 h42 h45 h46 h47 h48 h50 h52 h53 h54 h56 h57 h58 h60 h61 h62 h64 h65) (cwV 0 hts (mm_gV mm_w686 mm_w687 mm_w688 mm_w5 mm_w689) rfl rfl rfl hd_X12_lays ⟨by rw [hRf]; exact Nat.le_of_ble_eq_true rfl, by rw [hRl]; exact Nat.le_of_ble_eq_true rfl⟩) (mm_preV hK hZ hS hA hP hD [0, 1, 2, 4, 5, 8, 9, 10, 11] rfl rfl 0 rfl rfl rfl) rfl rfl hl.1 rfl (lv_room (Nat.le_of_ble_eq_true rfl)) dX12_weightOf_1 ⟨by rw [hRc]; exact Nat.le_of_ble_eq_true rfl, by rw [hRs]; exact Nat.le_of_ble_eq_true rfl⟩) hP hD hS hA (fun u : (Nat → Int32) × (Nat → Int32) × (Nat → Int32) => [(a_0, .inr (12, [.int i_4, .ref a_1, .ref a_2, .ref a_3, .ref a_4, .ref a_5, .int i_5, .int i_6, .int i_7, .int i_8, .int i_9, .long j_0, .int i_10, .int i_11, .int i_12, .int i_13, .ref a_6, .ref a_7, .ref a_8, .ref a_9, .ref a_10, .ref a_11, .ref a_12, .ref a_13, .ref a_14, .ref a_15, .ref a_16, .ref a_17, .ref a_18, .int i_14, .int i_15, .int i_16, .int i_17, .int i_18, .int i_19, .ref a_19, .int i_20, .ref a_20])), (a_6, .inl (cy 1, 5, .inl (mm_g [i_21, i_22, i_23, i_24, i_25]))), (a_7, .inl (cy 1, 30, .inl (mm_g [i_26, i_27, i_28, i_29, i_30, i_31, i_32, i_33, i_34, i_35, i_36, i_37, i_38, i_39, i_40, i_41, i_42, i_43, i_44, i_45, i_46, i_47, i_48, i_49, i_50, i_51, i_52, i_53, i_54, i_55]))), (a_8, .inl (cy 1, 90, .inl f_0)), (a_9, .inl (cy 1, 15, .inl f_1)), (a_10, .inl (cy 1, 1050, .inl f_2)), (a_11, .inl (cy 1, 30, .inl f_3)), (a_12, .inl (cy 1, 240, .inl f_4)), (a_13, .inl (cy 1, 450, .inl f_5)), (a_15, .inl (cy 1, 7200, .inl u.1)), (a_16, .inl (cy 1, 3, .inl u.2.1)), (a_17, .inl (cy 1, 3, .inl u.2.2)), (a_18, .inl (cy 1, 8, .inl f_9))]) [0, 1, 2, 4, 5, 8, 9, 10, 11] [3, 6, 7, 12] (n := 13) (fun _ => rfl) (by decide +kernel) (by decide +kernel) rfl (fun _ => rfl) (wr := [(a_8, .inl (cy 1, 90, .inl f_0)), (a_11, .inl (cy 1, 30, .inl f_3)), (a_12, .inl (cy 1, 240, .inl f_4)), (a_18, .inl (cy 1, 8, .inl f_9))]) rfl (fun _ => rfl) (fun _ => @rfl _ ([a_0, a_6, a_7, a_9, a_10, a_13, a_15, a_16, a_17] : List Nat)) ?_
  clear hP hD hS
  clear H locs
  intro u
  obtain ⟨n3, n4, n5⟩ := u
  intro H locs hw (hP : va_P G vwCl [(a_0, .inr (12, [.int i_4, .ref a_1, .ref a_2, .ref a_3, .ref a_4, .ref a_5, .int i_5, .int i_6, .int i_7, .int i_8, .int i_9, .long j_0, .int i_10, .int i_11, .int i_12, .int i_13, .ref a_6, .ref a_7, .ref a_8, .ref a_9, .ref a_10, .ref a_11, .ref a_12, .ref a_13, .ref a_14, .ref a_15, .ref a_16, .ref a_17, .ref a_18, .int i_14, .int i_15, .int i_16, .int i_17, .int i_18, .int i_19, .ref a_19, .int i_20, .ref a_20])), (a_6, .inl (cy 1, 5, .inl (mm_g [i_21, i_22, i_23, i_24, i_25]))), (a_7, .inl (cy 1, 30, .inl (mm_g [i_26, i_27, i_28, i_29, i_30, i_31, i_32, i_33, i_34, i_35, i_36, i_37, i_38, i_39, i_40, i_41, i_42, i_43, i_44, i_45, i_46, i_47, i_48, i_49, i_50, i_51, i_52, i_53, i_54, i_55]))), (a_8, .inl (cy 1, 90, .inl f_0)), (a_9, .inl (cy 1, 15, .inl f_1)), (a_10, .inl (cy 1, 1050, .inl f_2)), (a_11, .inl (cy 1, 30, .inl f_3)), (a_12, .inl (cy 1, 240, .inl f_4)), (a_13, .inl (cy 1, 450, .inl f_5)), (a_15, .inl (cy 1, 7200, .inl n3)), (a_16, .inl (cy 1, 3, .inl n4)), (a_17, .inl (cy 1, 3, .inl n5)), (a_18, .inl (cy 1, 8, .inl f_9))] H) (hD : va_D A [(a_0, .inr (12, [.int i_4, .ref a_1, .ref a_2, .ref a_3, .ref a_4, .ref a_5, .int i_5, .int i_6, .int i_7, .int i_8, .int i_9, .long j_0, .int i_10, .int i_11, .int i_12, .int i_13, .ref a_6, .ref a_7, .ref a_8, .ref a_9, .ref a_10, .ref a_11, .ref a_12, .ref a_13, .ref a_14, .ref a_15, .ref a_16, .ref a_17, .ref a_18, .int i_14, .int i_15, .int i_16, .int i_17, .int i_18, .int i_19, .ref a_19, .int i_20, .ref a_20])), (a_6, .inl (cy 1, 5, .inl (mm_g [i_21, i_22, i_23, i_24, i_25]))), (a_7, .inl (cy 1, 30, .inl (mm_g [i_26, i_27, i_28, i_29, i_30, i_31, i_32, i_33, i_34, i_35, i_36, i_37, i_38, i_39, i_40, i_41, i_42, i_43, i_44, i_45, i_46, i_47, i_48, i_49, i_50, i_51, i_52, i_53, i_54, i_55]))), (a_8, .inl (cy 1, 90, .inl f_0)), (a_9, .inl (cy 1, 15, .inl f_1)), (a_10, .inl (cy 1, 1050, .inl f_2)), (a_11, .inl (cy 1, 30, .inl f_3)), (a_12, .inl (cy 1, 240, .inl f_4)), (a_13, .inl (cy 1, 450, .inl f_5)), (a_15, .inl (cy 1, 7200, .inl n3)), (a_16, .inl (cy 1, 3, .inl n4)), (a_17, .inl (cy 1, 3, .inl n5)), (a_18, .inl (cy 1, 8, .inl f_9))]) hS
  obtain ⟨w6, w7, w8, w9, w10⟩ := hw
  replace w9 : mm_laid n4 n5 i_29 := w9
  replace w10 : mm_tab n3 n4 i_28 i_29 := w10
  refine lv_lconst (v := 0) hx hb dX12_weightOf_4 (by decide) ?_
  refine lv_lstore (lv' := [(6, .long 0), (0, .ref a_0), (1, .int i_0), (2, .int i_1), (3, .int i_2), (4, .int i_3), (5, .int 0)]) hx hb dX12_weightOf_5 hl (by decide) rfl ?_
  clear hl
  clear ls
  intro ls hl
  refine lv_iconst (v := 0) hx hb dX12_weightOf_7 (by decide) ?_
  refine lv_istore (lv' := [(8, .int 0), (6, .long 0), (0, .ref a_0), (1, .int i_0), (2, .int i_1), (3, .int i_2), (4, .int i_3), (5, .int 0)]) hx hb dX12_weightOf_8 hl (by decide) rfl ?_
  clear hl
  clear ls
  intro ls hl
  have L10_702 : ∀ (n : Nat) (x10_8_696 : Int32) (x10_6_697 : Int64) (y10_0_29_698 : Int32) (y10_0_30_699 : Int32) (y10_0_31_700 : Int32) (z10_12_701 : Nat → Int32), mm_rg x10_8_696 0 128 → mm_rl x10_6_697 0 12798720000000 → mm_rg y10_0_29_698 0 8 → mm_ar z10_12_701 0 9 → mm_sv 99990000000 x10_8_696 x10_6_697 → (128 - x10_8_696.toInt).toNat < n → ∀ (H : Heap) (locs : List Loc), va_P G vwCl [(a_0, .inr (12, [.int i_4, .ref a_1, .ref a_2, .ref a_3, .ref a_4, .ref a_5, .int i_5, .int i_6, .int i_7, .int i_8, .int i_9, .long j_0, .int i_10, .int i_11, .int i_12, .int i_13, .ref a_6, .ref a_7, .ref a_8, .ref a_9, .ref a_10, .ref a_11, .ref a_12, .ref a_13, .ref a_14, .ref a_15, .ref a_16, .ref a_17, .ref a_18, .int y10_0_29_698, .int y10_0_30_699, .int y10_0_31_700, .int i_17, .int i_18, .int i_19, .ref a_19, .int i_20, .ref a_20])), (a_6, .inl (cy 1, 5, .inl (mm_g [i_21, i_22, i_23, i_24, i_25]))), (a_7, .inl (cy 1, 30, .inl (mm_g [i_26, i_27, i_28, i_29, i_30, i_31, i_32, i_33, i_34, i_35, i_36, i_37, i_38, i_39, i_40, i_41, i_42, i_43, i_44, i_45, i_46, i_47, i_48, i_49, i_50, i_51, i_52, i_53, i_54, i_55]))), (a_8, .inl (cy 1, 90, .inl f_0)), (a_9, .inl (cy 1, 15, .inl f_1)), (a_10, .inl (cy 1, 1050, .inl f_2)), (a_11, .inl (cy 1, 30, .inl f_3)), (a_12, .inl (cy 1, 240, .inl f_4)), (a_13, .inl (cy 1, 450, .inl f_5)), (a_15, .inl (cy 1, 7200, .inl n3)), (a_16, .inl (cy 1, 3, .inl n4)), (a_17, .inl (cy 1, 3, .inl n5)), (a_18, .inl (cy 1, 8, .inl z10_12_701))] H → va_D A [(a_0, .inr (12, [.int i_4, .ref a_1, .ref a_2, .ref a_3, .ref a_4, .ref a_5, .int i_5, .int i_6, .int i_7, .int i_8, .int i_9, .long j_0, .int i_10, .int i_11, .int i_12, .int i_13, .ref a_6, .ref a_7, .ref a_8, .ref a_9, .ref a_10, .ref a_11, .ref a_12, .ref a_13, .ref a_14, .ref a_15, .ref a_16, .ref a_17, .ref a_18, .int y10_0_29_698, .int y10_0_30_699, .int y10_0_31_700, .int i_17, .int i_18, .int i_19, .ref a_19, .int i_20, .ref a_20])), (a_6, .inl (cy 1, 5, .inl (mm_g [i_21, i_22, i_23, i_24, i_25]))), (a_7, .inl (cy 1, 30, .inl (mm_g [i_26, i_27, i_28, i_29, i_30, i_31, i_32, i_33, i_34, i_35, i_36, i_37, i_38, i_39, i_40, i_41, i_42, i_43, i_44, i_45, i_46, i_47, i_48, i_49, i_50, i_51, i_52, i_53, i_54, i_55]))), (a_8, .inl (cy 1, 90, .inl f_0)), (a_9, .inl (cy 1, 15, .inl f_1)), (a_10, .inl (cy 1, 1050, .inl f_2)), (a_11, .inl (cy 1, 30, .inl f_3)), (a_12, .inl (cy 1, 240, .inl f_4)), (a_13, .inl (cy 1, 450, .inl f_5)), (a_15, .inl (cy 1, 7200, .inl n3)), (a_16, .inl (cy 1, 3, .inl n4)), (a_17, .inl (cy 1, 3, .inl n5)), (a_18, .inl (cy 1, 8, .inl z10_12_701))] → va_S A s.heap H locs → ∀ (ls : Array Slot), lv_has ls 13 [(8, .int x10_8_696), (6, .long x10_6_697), (0, .ref a_0), (1, .int i_0), (2, .int i_1), (3, .int i_2), (4, .int i_3), (5, .int 0)] → W p l e R s m args below meth c H locs 0 0 Q (F0 m 10 ls []) := by
    intro n
    induction n with
    | zero => intro x10_8_696 x10_6_697 y10_0_29_698 y10_0_30_699 y10_0_31_700 z10_12_701 rx10_8_696 rx10_6_697 ry10_0_29_698 rz10_12_701 w702 hm; exact absurd hm (Nat.not_lt_zero _)
    | succ n ih10 =>
      intro x10_8_696 x10_6_697 y10_0_29_698 y10_0_30_699 y10_0_31_700 z10_12_701 rx10_8_696 rx10_6_697 ry10_0_29_698 rz10_12_701 w702 hm10 H locs hP hD hS ls hl
      refine lv_iload hx hb dX12_weightOf_10 (lv_at hl 0 rfl) ?_
      refine lv_iconst (v := 1) hx hb dX12_weightOf_12 (by decide) ?_
      refine lv_iload hx hb dX12_weightOf_13 (lv_at hl 6 rfl) ?_
      refine lv_ishl hx hb dX12_weightOf_15 ?_
      refine lv_topi (fun v704 ev704 => ?_)
      have rv704 : mm_rg v704 1 128 := mm_shl1 ev704 h3 (by decide)
      refine lv_icmp_ge (tgt := 111) hx hb dX12_weightOf_16 (by decide) (fun c705 => ?_) (fun c705 => ?_)
      · have q706 := mm_leR (mm_le c705) rv704 rx10_8_696
        refine lv_lload hx hb dX12_weightOf_111 (lv_at hl 1 rfl) ?_
        subst hAe
        rw [hQ]
        exact W.lret (v := x10_6_697) hx hb hr (fun t ht hW => ⟨⟨x10_6_697, (y10_0_29_698, y10_0_30_699, y10_0_31_700, n3, n4, n5, z10_12_701), rfl, ⟨ry10_0_29_698, w6, w7, w8, rz10_12_701, rx10_6_697⟩, by rw [ht]; exact hP, hK.warm hW, hD⟩, hS.F ht⟩) hS.2.2 dX12_weightOf_113
      · have q707 := mm_ltL (h := 127) (mm_nle c705) rx10_8_696 rv704 (by decide)
        have q708 : mm_rl x10_6_697 0 12698730000000 := mm_sv_rl w702 q707 (by decide)
        refine lv_iload hx hb dX12_weightOf_19 (lv_at hl 0 rfl) ?_
        refine mm_finir (va_runS (As := [.int x10_8_696]) (rest := []) ⟨hx, hb, hml, hown, hts⟩ (M244_X12_sizeOf l G cy H.size x10_8_696 q707) (va_cwS 1 hts (mm_gS mm_w1520 mm_w1521 mm_w5 mm_w1522) rfl rfl rfl hs_X12_sizeOf ⟨by rw [hRf]; exact Nat.le_of_ble_eq_true rfl, by rw [hRl]; exact Nat.le_of_ble_eq_true rfl⟩) (mm_preS hK hZ hS hA hP hD [] rfl rfl) rfl rfl hl.1 rfl (lv_room (Nat.le_of_ble_eq_true rfl)) dX12_weightOf_21 ⟨by rw [hRc]; exact Nat.le_of_ble_eq_true rfl, by rw [hRs]; exact Nat.le_of_ble_eq_true rfl⟩) hP hD hS hA [] rfl (fun _ => rfl) ?_
        clear hP hD hS
        clear H locs
        intro v709 _u H locs hw hP hD hS
        obtain ⟨w710, w711⟩ := hw
        have w712 := mm_pcn_le w711 (mm_nle c705) ev704 h3 q707 (by decide)
        refine lv_istore (lv' := [(9, .int v709), (8, .int x10_8_696), (6, .long x10_6_697), (0, .ref a_0), (1, .int i_0), (2, .int i_1), (3, .int i_2), (4, .int i_3), (5, .int 0)]) hx hb dX12_weightOf_24 hl (by decide) rfl ?_
        clear hl
        clear ls
        intro ls hl
        refine lv_aload_n hx hb dX12_weightOf_26 rfl (lv_at hl 3 rfl) ?_
        refine va_get (D := G) (ci := 12) (v := .ref a_7) (C := RX12) (T := TX12) (N := 38) hx hb hts (mm_i inlX12) hown hK.1 hP 0 rfl rfl 17 (by decide) (mm_h hts mm_w149) (fun _ h9 => h9) rfl dX12_weightOf_27 ?_
        refine lv_iconst (v := 0) hx hb dX12_weightOf_30 (by decide) ?_
        refine va_iald hx hb hK.1 hP 2 1 rfl rfl (mm_in mm_k0 (by decide)) dX12_weightOf_31 ?_
        rw [show (mm_g [i_26, i_27, i_28, i_29, i_30, i_31, i_32, i_33, i_34, i_35, i_36, i_37, i_38, i_39, i_40, i_41, i_42, i_43, i_44, i_45, i_46, i_47, i_48, i_49, i_50, i_51, i_52, i_53, i_54, i_55]) (0 : Int32).toNatClampNeg = i_26 from mm_ge 0 (by decide) rfl]
        obtain ⟨v713, ev713⟩ : ∃ y : Int64, y = i_26.toInt64 := ⟨_, rfl⟩
        refine lv_i2l hx hb dX12_weightOf_32 ev713.symm ?_
        have rv713 : mm_rl v713 0 10 := mm_i2l ev713 h10
        refine lv_iload hx hb dX12_weightOf_33 (lv_at hl 0 rfl) ?_
        refine mm_finlr (va_runS (As := [.long v713, .int v709]) (rest := []) ⟨hx, hb, hml, hown, hts⟩ (M252_X12_power l G cy H.size v713 v709 rv713 w710) (va_cwS 2 hts (mm_gS mm_w1523 mm_w1524 mm_w5 mm_w1525) rfl rfl rfl hs_X12_power ⟨by rw [hRf]; exact Nat.le_of_ble_eq_true rfl, by rw [hRl]; exact Nat.le_of_ble_eq_true rfl⟩) (mm_preS hK hZ hS hA hP hD [] rfl rfl) rfl rfl hl.1 rfl (lv_room (Nat.le_of_ble_eq_true rfl)) dX12_weightOf_35 ⟨by rw [hRc]; exact Nat.le_of_ble_eq_true rfl, by rw [hRs]; exact Nat.le_of_ble_eq_true rfl⟩) hP hD hS hA [] rfl (fun _ => rfl) ?_
        clear hP hD hS
        clear H locs
        intro v714 _u H locs hw hP hD hS
        obtain ⟨w715, w716⟩ := hw
        refine lv_ldc2 (v := 10) hx hb hown (mm_h hts mm_w1511) dX12_weightOf_38 ?_
        refine lv_aload_n hx hb dX12_weightOf_41 rfl (lv_at hl 3 rfl) ?_
        refine va_get (D := G) (ci := 12) (v := .ref a_7) (C := RX12) (T := TX12) (N := 38) hx hb hts (mm_i inlX12) hown hK.1 hP 0 rfl rfl 17 (by decide) (mm_h hts mm_w149) (fun _ h9 => h9) rfl dX12_weightOf_42 ?_
        refine lv_iconst (v := 0) hx hb dX12_weightOf_45 (by decide) ?_
        refine va_iald hx hb hK.1 hP 2 1 rfl rfl (mm_in mm_k0 (by decide)) dX12_weightOf_46 ?_
        rw [show (mm_g [i_26, i_27, i_28, i_29, i_30, i_31, i_32, i_33, i_34, i_35, i_36, i_37, i_38, i_39, i_40, i_41, i_42, i_43, i_44, i_45, i_46, i_47, i_48, i_49, i_50, i_51, i_52, i_53, i_54, i_55]) (0 : Int32).toNatClampNeg = i_26 from mm_ge 0 (by decide) rfl]
        obtain ⟨v717, ev717⟩ : ∃ y : Int64, y = i_26.toInt64 := ⟨_, rfl⟩
        refine lv_i2l hx hb dX12_weightOf_47 ev717.symm ?_
        have rv717 : mm_rl v717 0 10 := mm_i2l ev717 h10
        refine lv_lsub hx hb dX12_weightOf_48 ?_
        refine lv_topl (fun v718 ev718 => ?_)
        have rv718 : mm_rl v718 0 10 := mm_subl ev718 mm_kl10 rv717 (by decide) (by decide)
        refine lv_iload hx hb dX12_weightOf_49 (lv_at hl 7 rfl) ?_
        refine lv_iload hx hb dX12_weightOf_51 (lv_at hl 0 rfl) ?_
        refine lv_isub hx hb dX12_weightOf_53 ?_
        refine lv_topi (fun v719 ev719 => ?_)
        have rv719 : mm_rg v719 (-7) 7 := mm_sub ev719 h3 w710 (by decide) (by decide)
        have tv719 := mm_subE ev719 h3 w710 (by decide)
        have q720 : mm_rg v719 0 7 := mm_sub0 ev719 w712 h3 w710 (by decide)
        refine mm_finlr (va_runS (As := [.long v718, .int v719]) (rest := [.long v714]) ⟨hx, hb, hml, hown, hts⟩ (M252_X12_power l G cy H.size v718 v719 rv718 q720) (va_cwS 2 hts (mm_gS mm_w1523 mm_w1524 mm_w5 mm_w1525) rfl rfl rfl hs_X12_power ⟨by rw [hRf]; exact Nat.le_of_ble_eq_true rfl, by rw [hRl]; exact Nat.le_of_ble_eq_true rfl⟩) (mm_preS hK hZ hS hA hP hD [] rfl rfl) rfl rfl hl.1 rfl (lv_room (Nat.le_of_ble_eq_true rfl)) dX12_weightOf_54 ⟨by rw [hRc]; exact Nat.le_of_ble_eq_true rfl, by rw [hRs]; exact Nat.le_of_ble_eq_true rfl⟩) hP hD hS hA [] rfl (fun _ => rfl) ?_
        clear hP hD hS
        clear H locs
        intro v721 _u H locs hw hP hD hS
        obtain ⟨w722, w723⟩ := hw
        refine lv_lmul hx hb dX12_weightOf_57 ?_
        refine lv_topl (fun v724 ev724 => ?_)
        have rv724 : mm_rl v724 0 100000000000000 := mm_mull ev724 w715 w722 (by decide) (by decide)
        have q725 : mm_rl v724 0 10000000 := mm_pw_mul w716 w723 tv719 ev724 h3 w710 q720 (by decide)
        refine lv_lstore (lv' := [(10, .long v724), (9, .int v709), (8, .int x10_8_696), (6, .long x10_6_697), (0, .ref a_0), (1, .int i_0), (2, .int i_1), (3, .int i_2), (4, .int i_3), (5, .int 0)]) hx hb dX12_weightOf_58 hl (by decide) rfl ?_
        clear hl
        clear ls
        intro ls hl
        refine lv_aload_n hx hb dX12_weightOf_60 rfl (lv_at hl 4 rfl) ?_
        refine lv_iload_n hx hb dX12_weightOf_61 rfl (lv_at hl 5 rfl) ?_
        refine lv_iload_n hx hb dX12_weightOf_62 rfl (lv_at hl 6 rfl) ?_
        refine lv_iload hx hb dX12_weightOf_63 (lv_at hl 1 rfl) ?_
        refine lv_iadd hx hb dX12_weightOf_65 ?_
        refine lv_topi (fun v726 ev726 => ?_)
        have rv726 : mm_rg v726 0 1000000007 := mm_add ev726 h1 w710 (by decide) (by decide)
        have tv726 := mm_addE ev726 h1 w710 (by decide)
        refine lv_iload_n hx hb dX12_weightOf_66 rfl (lv_at hl 7 rfl) ?_
        refine mm_fini (va_runV (As := [.int i_0, .int v726, .int i_2]) (rest := []) ⟨hx, hb, hml, hown, hts⟩ (M141_X12_reads l G cy H.size a_0 i_0 v726 i_2 i_4 a_1 a_2 a_3 a_4 a_5 i_5 i_6 i_7 i_8 i_9 j_0 i_10 i_11 i_12 i_13 a_6 a_7 a_8 a_9 a_10 a_11 a_12 a_13 a_14 a_15 a_16 a_17 a_18 y10_0_29_698 y10_0_30_699 y10_0_31_700 i_17 i_18 i_19 a_19 i_20 a_20 i_26 i_27 i_28 i_29 i_30 i_31 i_32 i_33 i_34 i_35 i_36 i_37 i_38 i_39 i_40 i_41 i_42 i_43 i_44 i_45 i_46 i_47 i_48 i_49 i_50 i_51 i_52 i_53 i_54 i_55 f_0 f_3 f_4 f_5 n3 n4 z10_12_701 h0 (mm_wk rv726 (by decide)) h2 ry10_0_29_698 h10 h11 h12 (mm_wk q1 (by decide)) h14 h15 h16 h17 h18 h19 h20 h21 h22 h23 h24 h25 h26 h27 h28 h29 h30 h31 h32 h33 h34 h35 h36 h37 h38 h39 h40 h43 h44 h45 w6 w7 rz10_12_701 h51 h52 h55 h56 h59 h60 h63 h64 (mm_f1_l w9 h66 h0 (by decide))) (cwV 3 hts (mm_gV mm_w852 mm_w853 mm_w854 mm_w5 mm_w855) rfl rfl rfl hd_X12_reads ⟨by rw [hRf]; exact Nat.le_of_ble_eq_true rfl, by rw [hRl]; exact Nat.le_of_ble_eq_true rfl⟩) (mm_preV hK hZ hS hA hP hD [0, 2, 3, 6, 7, 8, 9, 10, 12] rfl rfl 0 rfl rfl rfl) rfl rfl hl.1 rfl (lv_room (Nat.le_of_ble_eq_true rfl)) dX12_weightOf_67 ⟨by rw [hRc]; exact Nat.le_of_ble_eq_true rfl, by rw [hRs]; exact Nat.le_of_ble_eq_true rfl⟩) hP hD hS hA (fun u : Int32 × Int32 × Int32 × (Nat → Int32) => [(a_0, .inr (12, [.int i_4, .ref a_1, .ref a_2, .ref a_3, .ref a_4, .ref a_5, .int i_5, .int i_6, .int i_7, .int i_8, .int i_9, .long j_0, .int i_10, .int i_11, .int i_12, .int i_13, .ref a_6, .ref a_7, .ref a_8, .ref a_9, .ref a_10, .ref a_11, .ref a_12, .ref a_13, .ref a_14, .ref a_15, .ref a_16, .ref a_17, .ref a_18, .int u.1, .int u.2.1, .int u.2.2.1, .int i_17, .int i_18, .int i_19, .ref a_19, .int i_20, .ref a_20])), (a_6, .inl (cy 1, 5, .inl (mm_g [i_21, i_22, i_23, i_24, i_25]))), (a_7, .inl (cy 1, 30, .inl (mm_g [i_26, i_27, i_28, i_29, i_30, i_31, i_32, i_33, i_34, i_35, i_36, i_37, i_38, i_39, i_40, i_41, i_42, i_43, i_44, i_45, i_46, i_47, i_48, i_49, i_50, i_51, i_52, i_53, i_54, i_55]))), (a_8, .inl (cy 1, 90, .inl f_0)), (a_9, .inl (cy 1, 15, .inl f_1)), (a_10, .inl (cy 1, 1050, .inl f_2)), (a_11, .inl (cy 1, 30, .inl f_3)), (a_12, .inl (cy 1, 240, .inl f_4)), (a_13, .inl (cy 1, 450, .inl f_5)), (a_15, .inl (cy 1, 7200, .inl n3)), (a_16, .inl (cy 1, 3, .inl n4)), (a_17, .inl (cy 1, 3, .inl n5)), (a_18, .inl (cy 1, 8, .inl u.2.2.2))]) [0, 2, 3, 6, 7, 8, 9, 10, 12] [1, 4, 5, 11] (n := 13) (fun _ => rfl) (by decide +kernel) (by decide +kernel) rfl (fun _ => rfl) (wr := [(a_6, .inl (cy 1, 5, .inl (mm_g [i_21, i_22, i_23, i_24, i_25]))), (a_9, .inl (cy 1, 15, .inl f_1)), (a_10, .inl (cy 1, 1050, .inl f_2)), (a_17, .inl (cy 1, 3, .inl n5))]) rfl (fun _ => rfl) (fun _ => @rfl _ ([a_0, a_7, a_8, a_11, a_12, a_13, a_15, a_16, a_18] : List Nat)) ?_
        clear hP hD hS
        clear H locs
        intro v731 u
        obtain ⟨n727, n728, n729, n730⟩ := u
        intro H locs hw (hP : va_P G vwCl [(a_0, .inr (12, [.int i_4, .ref a_1, .ref a_2, .ref a_3, .ref a_4, .ref a_5, .int i_5, .int i_6, .int i_7, .int i_8, .int i_9, .long j_0, .int i_10, .int i_11, .int i_12, .int i_13, .ref a_6, .ref a_7, .ref a_8, .ref a_9, .ref a_10, .ref a_11, .ref a_12, .ref a_13, .ref a_14, .ref a_15, .ref a_16, .ref a_17, .ref a_18, .int n727, .int n728, .int n729, .int i_17, .int i_18, .int i_19, .ref a_19, .int i_20, .ref a_20])), (a_6, .inl (cy 1, 5, .inl (mm_g [i_21, i_22, i_23, i_24, i_25]))), (a_7, .inl (cy 1, 30, .inl (mm_g [i_26, i_27, i_28, i_29, i_30, i_31, i_32, i_33, i_34, i_35, i_36, i_37, i_38, i_39, i_40, i_41, i_42, i_43, i_44, i_45, i_46, i_47, i_48, i_49, i_50, i_51, i_52, i_53, i_54, i_55]))), (a_8, .inl (cy 1, 90, .inl f_0)), (a_9, .inl (cy 1, 15, .inl f_1)), (a_10, .inl (cy 1, 1050, .inl f_2)), (a_11, .inl (cy 1, 30, .inl f_3)), (a_12, .inl (cy 1, 240, .inl f_4)), (a_13, .inl (cy 1, 450, .inl f_5)), (a_15, .inl (cy 1, 7200, .inl n3)), (a_16, .inl (cy 1, 3, .inl n4)), (a_17, .inl (cy 1, 3, .inl n5)), (a_18, .inl (cy 1, 8, .inl n730))] H) (hD : va_D A [(a_0, .inr (12, [.int i_4, .ref a_1, .ref a_2, .ref a_3, .ref a_4, .ref a_5, .int i_5, .int i_6, .int i_7, .int i_8, .int i_9, .long j_0, .int i_10, .int i_11, .int i_12, .int i_13, .ref a_6, .ref a_7, .ref a_8, .ref a_9, .ref a_10, .ref a_11, .ref a_12, .ref a_13, .ref a_14, .ref a_15, .ref a_16, .ref a_17, .ref a_18, .int n727, .int n728, .int n729, .int i_17, .int i_18, .int i_19, .ref a_19, .int i_20, .ref a_20])), (a_6, .inl (cy 1, 5, .inl (mm_g [i_21, i_22, i_23, i_24, i_25]))), (a_7, .inl (cy 1, 30, .inl (mm_g [i_26, i_27, i_28, i_29, i_30, i_31, i_32, i_33, i_34, i_35, i_36, i_37, i_38, i_39, i_40, i_41, i_42, i_43, i_44, i_45, i_46, i_47, i_48, i_49, i_50, i_51, i_52, i_53, i_54, i_55]))), (a_8, .inl (cy 1, 90, .inl f_0)), (a_9, .inl (cy 1, 15, .inl f_1)), (a_10, .inl (cy 1, 1050, .inl f_2)), (a_11, .inl (cy 1, 30, .inl f_3)), (a_12, .inl (cy 1, 240, .inl f_4)), (a_13, .inl (cy 1, 450, .inl f_5)), (a_15, .inl (cy 1, 7200, .inl n3)), (a_16, .inl (cy 1, 3, .inl n4)), (a_17, .inl (cy 1, 3, .inl n5)), (a_18, .inl (cy 1, 8, .inl n730))]) hS
        obtain ⟨w732, w733, hw⟩ := hw
        obtain ⟨w734, w735⟩ := hw
        replace w735 : mm_rd n3 n4 f_0 f_3 f_4 f_5 i_0 v726 i_2 i_27 i_28 i_31 v731 := w735
        refine lv_istore (lv' := [(12, .int v731), (10, .long v724), (9, .int v709), (8, .int x10_8_696), (6, .long x10_6_697), (0, .ref a_0), (1, .int i_0), (2, .int i_1), (3, .int i_2), (4, .int i_3), (5, .int 0)]) hx hb dX12_weightOf_70 hl (by decide) rfl ?_
        clear hl
        clear ls
        intro ls hl
        refine lv_lload hx hb dX12_weightOf_72 (lv_at hl 4 rfl) ?_
        refine lv_lload hx hb dX12_weightOf_74 (lv_at hl 1 rfl) ?_
        refine lv_iload hx hb dX12_weightOf_76 (lv_at hl 10 rfl) ?_
        refine lv_if_eq (tgt := 86) hx hb dX12_weightOf_78 (by decide) (fun c736 => ?_) (fun c736 => ?_)
        · refine lv_iload hx hb dX12_weightOf_86 (lv_at hl 0 rfl) ?_
          refine lv_aload_n hx hb dX12_weightOf_88 rfl (lv_at hl 5 rfl) ?_
          refine mm_finir (va_runV (As := []) (rest := [.int v731, .long v724, .long x10_6_697]) ⟨hx, hb, hml, hown, hts⟩ (M139_X12_stockNow l G cy H.size a_0 i_4 a_1 a_2 a_3 a_4 a_5 i_5 i_6 i_7 i_8 i_9 j_0 i_10 i_11 i_12 i_13 a_6 a_7 a_8 a_9 a_10 a_11 a_12 a_13 a_14 a_15 a_16 a_17 a_18 n727 n728 n729 i_17 i_18 i_19 a_19 i_20 a_20 i_26 i_27 i_28 i_29 i_30 i_31 i_32 i_33 i_34 i_35 i_36 i_37 i_38 i_39 i_40 i_41 i_42 i_43 i_44 i_45 i_46 i_47 i_48 i_49 i_50 i_51 i_52 i_53 i_54 i_55 f_5 h10 h11 h12 (mm_wk q1 (by decide)) h14 h15 h16 h17 h18 h19 h20 h21 h22 h23 h24 h25 h26 h27 h28 h29 h30 h31 h32 h33 h34 h35 h36 h37 h38 h39 h45 h52 h56 h60 h64) (cwV 0 hts (mm_gV mm_w861 mm_w862 mm_w863 mm_w5 mm_w864) rfl rfl rfl hd_X12_stockNow ⟨by rw [hRf]; exact Nat.le_of_ble_eq_true rfl, by rw [hRl]; exact Nat.le_of_ble_eq_true rfl⟩) (mm_preV hK hZ hS hA hP hD [0, 2, 8] rfl rfl 0 rfl rfl rfl) rfl rfl hl.1 rfl (lv_room (Nat.le_of_ble_eq_true rfl)) dX12_weightOf_89 ⟨by rw [hRc]; exact Nat.le_of_ble_eq_true rfl, by rw [hRs]; exact Nat.le_of_ble_eq_true rfl⟩) hP hD hS hA [0, 2, 8] rfl (fun _ => rfl) ?_
          clear hP hD hS
          clear H locs
          intro v737 _u H locs hw hP hD hS
          obtain ⟨w738, w739⟩ := hw
          refine lv_icmp_le (tgt := 99) hx hb dX12_weightOf_92 (by decide) (fun c740 => ?_) (fun c740 => ?_)
          · have q741 := mm_leL (mm_le c740) w734 w738
            refine lv_iconst (v := 0) hx hb dX12_weightOf_99 (by decide) ?_
            refine lv_i2l (v := 0) hx hb dX12_weightOf_100 (by decide) ?_
            refine lv_lmul hx hb dX12_weightOf_101 ?_
            refine lv_topl (fun v742 ev742 => ?_)
            have rv742 : mm_rl v742 0 0 := mm_mull ev742 q725 mm_kl0 (by decide) (by decide)
            refine lv_ladd hx hb dX12_weightOf_102 ?_
            refine lv_topl (fun v743 ev743 => ?_)
            have rv743 : mm_rl v743 0 12698730000000 := mm_addl ev743 q708 rv742 (by decide) (by decide)
            have tv743 := mm_addlE ev743 q708 rv742 (by decide)
            refine lv_lstore (lv' := [(6, .long v743), (12, .int v731), (10, .long v724), (9, .int v709), (8, .int x10_8_696), (0, .ref a_0), (1, .int i_0), (2, .int i_1), (3, .int i_2), (4, .int i_3), (5, .int 0)]) hx hb dX12_weightOf_103 hl (by decide) rfl ?_
            clear hl
            clear ls
            intro ls hl
            obtain ⟨v744, ev744⟩ : ∃ y : Int32, y = x10_8_696 + 1 := ⟨_, rfl⟩
            refine lv_iinc (v := v744) (lv' := [(8, .int v744), (6, .long v743), (12, .int v731), (10, .long v724), (9, .int v709), (0, .ref a_0), (1, .int i_0), (2, .int i_1), (3, .int i_2), (4, .int i_3), (5, .int 0)]) hx hb dX12_weightOf_105 hl (k := 4) rfl (by rw [ev744]; rfl) (by decide) rfl ?_
            clear hl
            clear ls
            intro ls hl
            have rv744 : mm_rg v744 1 128 := mm_add ev744 q707 mm_k1 (by decide) (by decide)
            have tv744 := mm_addEc ev744 q707 mm_k1 (by decide) (k := 1) (by decide)
            refine lv_goto (tgt := 10) hx hb dX12_weightOf_108 (by decide) ?_
            have w745 : mm_sv 99990000000 v744 v743 := (mm_sv_s w702 tv744 tv743 rv742 (by decide))
            have q746 : mm_rl v743 0 12798720000000 := mm_sv_rl w745 rv744 (by decide)
            exact ih10 v744 v743 n727 n728 n729 n730 (mm_wk rv744 (by decide)) q746 w732 w733 w745 (mm_mu hm10 tv744 (by decide) (rv744).2 (by decide)) H locs hP hD hS ls (lv_sub hl [0, 1, 5, 6, 7, 8, 9, 10] rfl)
          · have q747 := mm_ltR (lo := 1) (mm_nle c740) w738 w734 (by decide)
            refine lv_iconst (v := 1) hx hb dX12_weightOf_95 (by decide) ?_
            refine lv_goto (tgt := 100) hx hb dX12_weightOf_96 (by decide) ?_
            refine lv_i2l (v := 1) hx hb dX12_weightOf_100 (by decide) ?_
            refine lv_lmul hx hb dX12_weightOf_101 ?_
            refine lv_topl (fun v748 ev748 => ?_)
            have rv748 : mm_rl v748 0 10000000 := mm_mull ev748 q725 mm_kl1 (by decide) (by decide)
            refine lv_ladd hx hb dX12_weightOf_102 ?_
            refine lv_topl (fun v749 ev749 => ?_)
            have rv749 : mm_rl v749 0 12698740000000 := mm_addl ev749 q708 rv748 (by decide) (by decide)
            have tv749 := mm_addlE ev749 q708 rv748 (by decide)
            refine lv_lstore (lv' := [(6, .long v749), (12, .int v731), (10, .long v724), (9, .int v709), (8, .int x10_8_696), (0, .ref a_0), (1, .int i_0), (2, .int i_1), (3, .int i_2), (4, .int i_3), (5, .int 0)]) hx hb dX12_weightOf_103 hl (by decide) rfl ?_
            clear hl
            clear ls
            intro ls hl
            obtain ⟨v750, ev750⟩ : ∃ y : Int32, y = x10_8_696 + 1 := ⟨_, rfl⟩
            refine lv_iinc (v := v750) (lv' := [(8, .int v750), (6, .long v749), (12, .int v731), (10, .long v724), (9, .int v709), (0, .ref a_0), (1, .int i_0), (2, .int i_1), (3, .int i_2), (4, .int i_3), (5, .int 0)]) hx hb dX12_weightOf_105 hl (k := 4) rfl (by rw [ev750]; rfl) (by decide) rfl ?_
            clear hl
            clear ls
            intro ls hl
            have rv750 : mm_rg v750 1 128 := mm_add ev750 q707 mm_k1 (by decide) (by decide)
            have tv750 := mm_addEc ev750 q707 mm_k1 (by decide) (k := 1) (by decide)
            refine lv_goto (tgt := 10) hx hb dX12_weightOf_108 (by decide) ?_
            have w751 : mm_sv 99990000000 v750 v749 := (mm_sv_s w702 tv750 tv749 rv748 (by decide))
            have q752 : mm_rl v749 0 12798720000000 := mm_sv_rl w751 rv750 (by decide)
            exact ih10 v750 v749 n727 n728 n729 n730 (mm_wk rv750 (by decide)) q752 w732 w733 w751 (mm_mu hm10 tv750 (by decide) (rv750).2 (by decide)) H locs hP hD hS ls (lv_sub hl [0, 1, 5, 6, 7, 8, 9, 10] rfl)
        · have q753 := mm_neL (lo := 1) (mm_ne c736) mm_k0 mm_k0 (by decide) (by decide)
          exact mm_no q753 (by decide)
  exact L10_702 _ 0 0 i_14 i_15 i_16 f_9 (mm_wk mm_k0 (by decide)) (mm_wkl mm_kl0 (by decide)) h4 h49 (mm_sv_0 _) (Nat.lt_succ_self _) H locs hP hD hS ls (lv_sub hl [0, 1, 2, 3, 4, 5, 6, 7] rfl)

set_option maxHeartbeats 4000000 in
set_option maxRecDepth 100000 in
theorem M254_X12_power (l : Launch) (G : va_G) (cy : Nat → ClassId) (sz : Nat) (i_0 : Int32) (h0 : mm_rg i_0 0 0)  : mm_CL l yX12_power (mm_ws yX12_power cX12_power 3 (some .long)) ({ frames := 0, cells := 0, slots := 0, locals := 0 } : Room) G cy sz [] [.long 10, .int i_0] (fun u : Unit => []) (fun (r : Int64) (u : Unit) => mm_rl r 1 1 ∧ mm_pw i_0 r) 0 0 := by
  refine mm_begin (lv := [(0, .long 10), (2, .int i_0)]) (by decide) (Nat.le_of_ble_eq_true rfl) rfl ?_
  intro p e s m below meth c A ls R args Q H locs hRe hQ hAe hx hb hr hlocks hml hown hnm hts hsz hA hS hP hK hD hZ hl
  have hRf : R.frames = 0 := by rw [hRe]
  have hRl : R.locals = 0 := by rw [hRe]
  have hRc : R.cells = 0 := by rw [hRe]
  have hRs : R.slots = 0 := by rw [hRe]
  refine lv_iload_n hx hb dX12_power_0 rfl (lv_at hl 1 rfl) ?_
  refine lv_if_ne (tgt := 8) hx hb dX12_power_1 (by decide) (fun c1 => ?_) (fun c1 => ?_)
  · have q2 := mm_neL (lo := 1) (mm_ne c1) h0 mm_k0 (by decide) (by decide)
    exact mm_no q2 (by decide)
  · refine lv_lconst (v := 1) hx hb dX12_power_4 (by decide) ?_
    refine lv_goto (tgt := 17) hx hb dX12_power_5 (by decide) ?_
    have w3 : mm_pw i_0 1 := (mm_pw_0 _)
    subst hAe
    rw [hQ]
    exact W.lret (v := 1) hx hb hr (fun t ht hW => ⟨⟨1, (), rfl, ⟨mm_kl1, w3⟩, by rw [ht]; exact hP, hK.warm hW, hD⟩, hS.F ht⟩) hS.2.2 dX12_power_17

set_option maxHeartbeats 4000000 in
set_option maxRecDepth 100000 in
theorem M255_X12_power (l : Launch) (G : va_G) (cy : Nat → ClassId) (sz : Nat) (i_0 : Int32) (h0 : mm_rg i_0 0 1)  : mm_CL l yX12_power (mm_ws yX12_power cX12_power 3 (some .long)) ({ frames := 1, cells := 0, slots := 0, locals := 22 } : Room) G cy sz [] [.long 10, .int i_0] (fun u : Unit => []) (fun (r : Int64) (u : Unit) => mm_rl r 1 10 ∧ mm_pw i_0 r) 0 0 := by
  refine mm_begin (lv := [(0, .long 10), (2, .int i_0)]) (by decide) (Nat.le_of_ble_eq_true rfl) rfl ?_
  intro p e s m below meth c A ls R args Q H locs hRe hQ hAe hx hb hr hlocks hml hown hnm hts hsz hA hS hP hK hD hZ hl
  have hRf : R.frames = 1 := by rw [hRe]
  have hRl : R.locals = 22 := by rw [hRe]
  have hRc : R.cells = 0 := by rw [hRe]
  have hRs : R.slots = 0 := by rw [hRe]
  refine lv_iload_n hx hb dX12_power_0 rfl (lv_at hl 1 rfl) ?_
  refine lv_if_ne (tgt := 8) hx hb dX12_power_1 (by decide) (fun c1 => ?_) (fun c1 => ?_)
  · have q2 := mm_neL (lo := 1) (mm_ne c1) h0 mm_k0 (by decide) (by decide)
    refine lv_lload_n hx hb dX12_power_8 rfl (lv_at hl 0 rfl) ?_
    refine lv_lload_n hx hb dX12_power_9 rfl (lv_at hl 0 rfl) ?_
    refine lv_iload_n hx hb dX12_power_10 rfl (lv_at hl 1 rfl) ?_
    refine lv_iconst (v := 1) hx hb dX12_power_11 (by decide) ?_
    refine lv_isub hx hb dX12_power_12 ?_
    refine lv_topi (fun v3 ev3 => ?_)
    have rv3 : mm_rg v3 0 0 := mm_sub ev3 q2 mm_k1 (by decide) (by decide)
    have tv3 := mm_subEc ev3 q2 mm_k1 (by decide) (k := (-1)) (by decide)
    refine mm_finlr (va_runS (As := [.long 10, .int v3]) (rest := [.long 10]) ⟨hx, hb, hml, hown, hts⟩ (M254_X12_power l G cy H.size v3 rv3) (va_cwS 2 hts (mm_gS mm_w1523 mm_w1524 mm_w5 mm_w1525) rfl rfl rfl hs_X12_power ⟨by rw [hRf]; exact Nat.le_of_ble_eq_true rfl, by rw [hRl]; exact Nat.le_of_ble_eq_true rfl⟩) (mm_preS hK hZ hS hA hP hD [] rfl rfl) rfl rfl hl.1 rfl (lv_room (Nat.le_of_ble_eq_true rfl)) dX12_power_13 ⟨by rw [hRc]; exact Nat.le_of_ble_eq_true rfl, by rw [hRs]; exact Nat.le_of_ble_eq_true rfl⟩) hP hD hS hA [] rfl (fun _ => rfl) ?_
    clear hP hD hS
    clear H locs
    intro v4 _u H locs hw hP hD hS
    obtain ⟨w5, w6⟩ := hw
    refine lv_lmul hx hb dX12_power_16 ?_
    refine lv_topl (fun v7 ev7 => ?_)
    have rv7 : mm_rl v7 10 10 := mm_mull ev7 mm_kl10 w5 (by decide) (by decide)
    have w8 : mm_pw i_0 v7 := (mm_pw_s w6 tv3 ev7 mm_kl10 w5 rv3 (by decide))
    subst hAe
    rw [hQ]
    exact W.lret (v := v7) hx hb hr (fun t ht hW => ⟨⟨v7, (), rfl, ⟨(mm_wkl rv7 (by decide)), w8⟩, by rw [ht]; exact hP, hK.warm hW, hD⟩, hS.F ht⟩) hS.2.2 dX12_power_17
  · have q9 := mm_eqI (lo := 0) (hi := 0) c1 h0 mm_k0 (by decide)
    refine lv_lconst (v := 1) hx hb dX12_power_4 (by decide) ?_
    refine lv_goto (tgt := 17) hx hb dX12_power_5 (by decide) ?_
    have w10 : mm_pw i_0 1 := (mm_pw_0 _)
    subst hAe
    rw [hQ]
    exact W.lret (v := 1) hx hb hr (fun t ht hW => ⟨⟨1, (), rfl, ⟨(mm_wkl mm_kl1 (by decide)), w10⟩, by rw [ht]; exact hP, hK.warm hW, hD⟩, hS.F ht⟩) hS.2.2 dX12_power_17

set_option maxHeartbeats 4000000 in
set_option maxRecDepth 100000 in
theorem M256_X12_power (l : Launch) (G : va_G) (cy : Nat → ClassId) (sz : Nat) (i_0 : Int32) (h0 : mm_rg i_0 0 2)  : mm_CL l yX12_power (mm_ws yX12_power cX12_power 3 (some .long)) ({ frames := 2, cells := 0, slots := 0, locals := 44 } : Room) G cy sz [] [.long 10, .int i_0] (fun u : Unit => []) (fun (r : Int64) (u : Unit) => mm_rl r 1 100 ∧ mm_pw i_0 r) 0 0 := by
  refine mm_begin (lv := [(0, .long 10), (2, .int i_0)]) (by decide) (Nat.le_of_ble_eq_true rfl) rfl ?_
  intro p e s m below meth c A ls R args Q H locs hRe hQ hAe hx hb hr hlocks hml hown hnm hts hsz hA hS hP hK hD hZ hl
  have hRf : R.frames = 2 := by rw [hRe]
  have hRl : R.locals = 44 := by rw [hRe]
  have hRc : R.cells = 0 := by rw [hRe]
  have hRs : R.slots = 0 := by rw [hRe]
  refine lv_iload_n hx hb dX12_power_0 rfl (lv_at hl 1 rfl) ?_
  refine lv_if_ne (tgt := 8) hx hb dX12_power_1 (by decide) (fun c1 => ?_) (fun c1 => ?_)
  · have q2 := mm_neL (lo := 1) (mm_ne c1) h0 mm_k0 (by decide) (by decide)
    refine lv_lload_n hx hb dX12_power_8 rfl (lv_at hl 0 rfl) ?_
    refine lv_lload_n hx hb dX12_power_9 rfl (lv_at hl 0 rfl) ?_
    refine lv_iload_n hx hb dX12_power_10 rfl (lv_at hl 1 rfl) ?_
    refine lv_iconst (v := 1) hx hb dX12_power_11 (by decide) ?_
    refine lv_isub hx hb dX12_power_12 ?_
    refine lv_topi (fun v3 ev3 => ?_)
    have rv3 : mm_rg v3 0 1 := mm_sub ev3 q2 mm_k1 (by decide) (by decide)
    have tv3 := mm_subEc ev3 q2 mm_k1 (by decide) (k := (-1)) (by decide)
    refine mm_finlr (va_runS (As := [.long 10, .int v3]) (rest := [.long 10]) ⟨hx, hb, hml, hown, hts⟩ (M255_X12_power l G cy H.size v3 rv3) (va_cwS 2 hts (mm_gS mm_w1523 mm_w1524 mm_w5 mm_w1525) rfl rfl rfl hs_X12_power ⟨by rw [hRf]; exact Nat.le_of_ble_eq_true rfl, by rw [hRl]; exact Nat.le_of_ble_eq_true rfl⟩) (mm_preS hK hZ hS hA hP hD [] rfl rfl) rfl rfl hl.1 rfl (lv_room (Nat.le_of_ble_eq_true rfl)) dX12_power_13 ⟨by rw [hRc]; exact Nat.le_of_ble_eq_true rfl, by rw [hRs]; exact Nat.le_of_ble_eq_true rfl⟩) hP hD hS hA [] rfl (fun _ => rfl) ?_
    clear hP hD hS
    clear H locs
    intro v4 _u H locs hw hP hD hS
    obtain ⟨w5, w6⟩ := hw
    refine lv_lmul hx hb dX12_power_16 ?_
    refine lv_topl (fun v7 ev7 => ?_)
    have rv7 : mm_rl v7 10 100 := mm_mull ev7 mm_kl10 w5 (by decide) (by decide)
    have w8 : mm_pw i_0 v7 := (mm_pw_s w6 tv3 ev7 mm_kl10 w5 rv3 (by decide))
    subst hAe
    rw [hQ]
    exact W.lret (v := v7) hx hb hr (fun t ht hW => ⟨⟨v7, (), rfl, ⟨(mm_wkl rv7 (by decide)), w8⟩, by rw [ht]; exact hP, hK.warm hW, hD⟩, hS.F ht⟩) hS.2.2 dX12_power_17
  · have q9 := mm_eqI (lo := 0) (hi := 0) c1 h0 mm_k0 (by decide)
    refine lv_lconst (v := 1) hx hb dX12_power_4 (by decide) ?_
    refine lv_goto (tgt := 17) hx hb dX12_power_5 (by decide) ?_
    have w10 : mm_pw i_0 1 := (mm_pw_0 _)
    subst hAe
    rw [hQ]
    exact W.lret (v := 1) hx hb hr (fun t ht hW => ⟨⟨1, (), rfl, ⟨(mm_wkl mm_kl1 (by decide)), w10⟩, by rw [ht]; exact hP, hK.warm hW, hD⟩, hS.F ht⟩) hS.2.2 dX12_power_17

set_option maxHeartbeats 4000000 in
set_option maxRecDepth 100000 in
theorem M257_X12_power (l : Launch) (G : va_G) (cy : Nat → ClassId) (sz : Nat) (i_0 : Int32) (h0 : mm_rg i_0 0 3)  : mm_CL l yX12_power (mm_ws yX12_power cX12_power 3 (some .long)) ({ frames := 3, cells := 0, slots := 0, locals := 66 } : Room) G cy sz [] [.long 10, .int i_0] (fun u : Unit => []) (fun (r : Int64) (u : Unit) => mm_rl r 1 1000 ∧ mm_pw i_0 r) 0 0 := by
  refine mm_begin (lv := [(0, .long 10), (2, .int i_0)]) (by decide) (Nat.le_of_ble_eq_true rfl) rfl ?_
  intro p e s m below meth c A ls R args Q H locs hRe hQ hAe hx hb hr hlocks hml hown hnm hts hsz hA hS hP hK hD hZ hl
  have hRf : R.frames = 3 := by rw [hRe]
  have hRl : R.locals = 66 := by rw [hRe]
  have hRc : R.cells = 0 := by rw [hRe]
  have hRs : R.slots = 0 := by rw [hRe]
  refine lv_iload_n hx hb dX12_power_0 rfl (lv_at hl 1 rfl) ?_
  refine lv_if_ne (tgt := 8) hx hb dX12_power_1 (by decide) (fun c1 => ?_) (fun c1 => ?_)
  · have q2 := mm_neL (lo := 1) (mm_ne c1) h0 mm_k0 (by decide) (by decide)
    refine lv_lload_n hx hb dX12_power_8 rfl (lv_at hl 0 rfl) ?_
    refine lv_lload_n hx hb dX12_power_9 rfl (lv_at hl 0 rfl) ?_
    refine lv_iload_n hx hb dX12_power_10 rfl (lv_at hl 1 rfl) ?_
    refine lv_iconst (v := 1) hx hb dX12_power_11 (by decide) ?_
    refine lv_isub hx hb dX12_power_12 ?_
    refine lv_topi (fun v3 ev3 => ?_)
    have rv3 : mm_rg v3 0 2 := mm_sub ev3 q2 mm_k1 (by decide) (by decide)
    have tv3 := mm_subEc ev3 q2 mm_k1 (by decide) (k := (-1)) (by decide)
    refine mm_finlr (va_runS (As := [.long 10, .int v3]) (rest := [.long 10]) ⟨hx, hb, hml, hown, hts⟩ (M256_X12_power l G cy H.size v3 rv3) (va_cwS 2 hts (mm_gS mm_w1523 mm_w1524 mm_w5 mm_w1525) rfl rfl rfl hs_X12_power ⟨by rw [hRf]; exact Nat.le_of_ble_eq_true rfl, by rw [hRl]; exact Nat.le_of_ble_eq_true rfl⟩) (mm_preS hK hZ hS hA hP hD [] rfl rfl) rfl rfl hl.1 rfl (lv_room (Nat.le_of_ble_eq_true rfl)) dX12_power_13 ⟨by rw [hRc]; exact Nat.le_of_ble_eq_true rfl, by rw [hRs]; exact Nat.le_of_ble_eq_true rfl⟩) hP hD hS hA [] rfl (fun _ => rfl) ?_
    clear hP hD hS
    clear H locs
    intro v4 _u H locs hw hP hD hS
    obtain ⟨w5, w6⟩ := hw
    refine lv_lmul hx hb dX12_power_16 ?_
    refine lv_topl (fun v7 ev7 => ?_)
    have rv7 : mm_rl v7 10 1000 := mm_mull ev7 mm_kl10 w5 (by decide) (by decide)
    have w8 : mm_pw i_0 v7 := (mm_pw_s w6 tv3 ev7 mm_kl10 w5 rv3 (by decide))
    subst hAe
    rw [hQ]
    exact W.lret (v := v7) hx hb hr (fun t ht hW => ⟨⟨v7, (), rfl, ⟨(mm_wkl rv7 (by decide)), w8⟩, by rw [ht]; exact hP, hK.warm hW, hD⟩, hS.F ht⟩) hS.2.2 dX12_power_17
  · have q9 := mm_eqI (lo := 0) (hi := 0) c1 h0 mm_k0 (by decide)
    refine lv_lconst (v := 1) hx hb dX12_power_4 (by decide) ?_
    refine lv_goto (tgt := 17) hx hb dX12_power_5 (by decide) ?_
    have w10 : mm_pw i_0 1 := (mm_pw_0 _)
    subst hAe
    rw [hQ]
    exact W.lret (v := 1) hx hb hr (fun t ht hW => ⟨⟨1, (), rfl, ⟨(mm_wkl mm_kl1 (by decide)), w10⟩, by rw [ht]; exact hP, hK.warm hW, hD⟩, hS.F ht⟩) hS.2.2 dX12_power_17

set_option maxHeartbeats 4000000 in
set_option maxRecDepth 100000 in
theorem M258_X12_power (l : Launch) (G : va_G) (cy : Nat → ClassId) (sz : Nat) (i_0 : Int32) (h0 : mm_rg i_0 0 4)  : mm_CL l yX12_power (mm_ws yX12_power cX12_power 3 (some .long)) ({ frames := 4, cells := 0, slots := 0, locals := 88 } : Room) G cy sz [] [.long 10, .int i_0] (fun u : Unit => []) (fun (r : Int64) (u : Unit) => mm_rl r 1 10000 ∧ mm_pw i_0 r) 0 0 := by
  refine mm_begin (lv := [(0, .long 10), (2, .int i_0)]) (by decide) (Nat.le_of_ble_eq_true rfl) rfl ?_
  intro p e s m below meth c A ls R args Q H locs hRe hQ hAe hx hb hr hlocks hml hown hnm hts hsz hA hS hP hK hD hZ hl
  have hRf : R.frames = 4 := by rw [hRe]
  have hRl : R.locals = 88 := by rw [hRe]
  have hRc : R.cells = 0 := by rw [hRe]
  have hRs : R.slots = 0 := by rw [hRe]
  refine lv_iload_n hx hb dX12_power_0 rfl (lv_at hl 1 rfl) ?_
  refine lv_if_ne (tgt := 8) hx hb dX12_power_1 (by decide) (fun c1 => ?_) (fun c1 => ?_)
  · have q2 := mm_neL (lo := 1) (mm_ne c1) h0 mm_k0 (by decide) (by decide)
    refine lv_lload_n hx hb dX12_power_8 rfl (lv_at hl 0 rfl) ?_
    refine lv_lload_n hx hb dX12_power_9 rfl (lv_at hl 0 rfl) ?_
    refine lv_iload_n hx hb dX12_power_10 rfl (lv_at hl 1 rfl) ?_
    refine lv_iconst (v := 1) hx hb dX12_power_11 (by decide) ?_
    refine lv_isub hx hb dX12_power_12 ?_
    refine lv_topi (fun v3 ev3 => ?_)
    have rv3 : mm_rg v3 0 3 := mm_sub ev3 q2 mm_k1 (by decide) (by decide)
    have tv3 := mm_subEc ev3 q2 mm_k1 (by decide) (k := (-1)) (by decide)
    refine mm_finlr (va_runS (As := [.long 10, .int v3]) (rest := [.long 10]) ⟨hx, hb, hml, hown, hts⟩ (M257_X12_power l G cy H.size v3 rv3) (va_cwS 2 hts (mm_gS mm_w1523 mm_w1524 mm_w5 mm_w1525) rfl rfl rfl hs_X12_power ⟨by rw [hRf]; exact Nat.le_of_ble_eq_true rfl, by rw [hRl]; exact Nat.le_of_ble_eq_true rfl⟩) (mm_preS hK hZ hS hA hP hD [] rfl rfl) rfl rfl hl.1 rfl (lv_room (Nat.le_of_ble_eq_true rfl)) dX12_power_13 ⟨by rw [hRc]; exact Nat.le_of_ble_eq_true rfl, by rw [hRs]; exact Nat.le_of_ble_eq_true rfl⟩) hP hD hS hA [] rfl (fun _ => rfl) ?_
    clear hP hD hS
    clear H locs
    intro v4 _u H locs hw hP hD hS
    obtain ⟨w5, w6⟩ := hw
    refine lv_lmul hx hb dX12_power_16 ?_
    refine lv_topl (fun v7 ev7 => ?_)
    have rv7 : mm_rl v7 10 10000 := mm_mull ev7 mm_kl10 w5 (by decide) (by decide)
    have w8 : mm_pw i_0 v7 := (mm_pw_s w6 tv3 ev7 mm_kl10 w5 rv3 (by decide))
    subst hAe
    rw [hQ]
    exact W.lret (v := v7) hx hb hr (fun t ht hW => ⟨⟨v7, (), rfl, ⟨(mm_wkl rv7 (by decide)), w8⟩, by rw [ht]; exact hP, hK.warm hW, hD⟩, hS.F ht⟩) hS.2.2 dX12_power_17
  · have q9 := mm_eqI (lo := 0) (hi := 0) c1 h0 mm_k0 (by decide)
    refine lv_lconst (v := 1) hx hb dX12_power_4 (by decide) ?_
    refine lv_goto (tgt := 17) hx hb dX12_power_5 (by decide) ?_
    have w10 : mm_pw i_0 1 := (mm_pw_0 _)
    subst hAe
    rw [hQ]
    exact W.lret (v := 1) hx hb hr (fun t ht hW => ⟨⟨1, (), rfl, ⟨(mm_wkl mm_kl1 (by decide)), w10⟩, by rw [ht]; exact hP, hK.warm hW, hD⟩, hS.F ht⟩) hS.2.2 dX12_power_17

set_option maxHeartbeats 4000000 in
set_option maxRecDepth 100000 in
theorem M259_X12_power (l : Launch) (G : va_G) (cy : Nat → ClassId) (sz : Nat) (i_0 : Int32) (h0 : mm_rg i_0 0 5)  : mm_CL l yX12_power (mm_ws yX12_power cX12_power 3 (some .long)) ({ frames := 5, cells := 0, slots := 0, locals := 110 } : Room) G cy sz [] [.long 10, .int i_0] (fun u : Unit => []) (fun (r : Int64) (u : Unit) => mm_rl r 1 100000 ∧ mm_pw i_0 r) 0 0 := by
  refine mm_begin (lv := [(0, .long 10), (2, .int i_0)]) (by decide) (Nat.le_of_ble_eq_true rfl) rfl ?_
  intro p e s m below meth c A ls R args Q H locs hRe hQ hAe hx hb hr hlocks hml hown hnm hts hsz hA hS hP hK hD hZ hl
  have hRf : R.frames = 5 := by rw [hRe]
  have hRl : R.locals = 110 := by rw [hRe]
  have hRc : R.cells = 0 := by rw [hRe]
  have hRs : R.slots = 0 := by rw [hRe]
  refine lv_iload_n hx hb dX12_power_0 rfl (lv_at hl 1 rfl) ?_
  refine lv_if_ne (tgt := 8) hx hb dX12_power_1 (by decide) (fun c1 => ?_) (fun c1 => ?_)
  · have q2 := mm_neL (lo := 1) (mm_ne c1) h0 mm_k0 (by decide) (by decide)
    refine lv_lload_n hx hb dX12_power_8 rfl (lv_at hl 0 rfl) ?_
    refine lv_lload_n hx hb dX12_power_9 rfl (lv_at hl 0 rfl) ?_
    refine lv_iload_n hx hb dX12_power_10 rfl (lv_at hl 1 rfl) ?_
    refine lv_iconst (v := 1) hx hb dX12_power_11 (by decide) ?_
    refine lv_isub hx hb dX12_power_12 ?_
    refine lv_topi (fun v3 ev3 => ?_)
    have rv3 : mm_rg v3 0 4 := mm_sub ev3 q2 mm_k1 (by decide) (by decide)
    have tv3 := mm_subEc ev3 q2 mm_k1 (by decide) (k := (-1)) (by decide)
    refine mm_finlr (va_runS (As := [.long 10, .int v3]) (rest := [.long 10]) ⟨hx, hb, hml, hown, hts⟩ (M258_X12_power l G cy H.size v3 rv3) (va_cwS 2 hts (mm_gS mm_w1523 mm_w1524 mm_w5 mm_w1525) rfl rfl rfl hs_X12_power ⟨by rw [hRf]; exact Nat.le_of_ble_eq_true rfl, by rw [hRl]; exact Nat.le_of_ble_eq_true rfl⟩) (mm_preS hK hZ hS hA hP hD [] rfl rfl) rfl rfl hl.1 rfl (lv_room (Nat.le_of_ble_eq_true rfl)) dX12_power_13 ⟨by rw [hRc]; exact Nat.le_of_ble_eq_true rfl, by rw [hRs]; exact Nat.le_of_ble_eq_true rfl⟩) hP hD hS hA [] rfl (fun _ => rfl) ?_
    clear hP hD hS
    clear H locs
    intro v4 _u H locs hw hP hD hS
    obtain ⟨w5, w6⟩ := hw
    refine lv_lmul hx hb dX12_power_16 ?_
    refine lv_topl (fun v7 ev7 => ?_)
    have rv7 : mm_rl v7 10 100000 := mm_mull ev7 mm_kl10 w5 (by decide) (by decide)
    have w8 : mm_pw i_0 v7 := (mm_pw_s w6 tv3 ev7 mm_kl10 w5 rv3 (by decide))
    subst hAe
    rw [hQ]
    exact W.lret (v := v7) hx hb hr (fun t ht hW => ⟨⟨v7, (), rfl, ⟨(mm_wkl rv7 (by decide)), w8⟩, by rw [ht]; exact hP, hK.warm hW, hD⟩, hS.F ht⟩) hS.2.2 dX12_power_17
  · have q9 := mm_eqI (lo := 0) (hi := 0) c1 h0 mm_k0 (by decide)
    refine lv_lconst (v := 1) hx hb dX12_power_4 (by decide) ?_
    refine lv_goto (tgt := 17) hx hb dX12_power_5 (by decide) ?_
    have w10 : mm_pw i_0 1 := (mm_pw_0 _)
    subst hAe
    rw [hQ]
    exact W.lret (v := 1) hx hb hr (fun t ht hW => ⟨⟨1, (), rfl, ⟨(mm_wkl mm_kl1 (by decide)), w10⟩, by rw [ht]; exact hP, hK.warm hW, hD⟩, hS.F ht⟩) hS.2.2 dX12_power_17

set_option maxHeartbeats 4000000 in
set_option maxRecDepth 100000 in
theorem M260_X12_power (l : Launch) (G : va_G) (cy : Nat → ClassId) (sz : Nat) (i_0 : Int32) (h0 : mm_rg i_0 0 6)  : mm_CL l yX12_power (mm_ws yX12_power cX12_power 3 (some .long)) ({ frames := 6, cells := 0, slots := 0, locals := 132 } : Room) G cy sz [] [.long 10, .int i_0] (fun u : Unit => []) (fun (r : Int64) (u : Unit) => mm_rl r 1 1000000 ∧ mm_pw i_0 r) 0 0 := by
  refine mm_begin (lv := [(0, .long 10), (2, .int i_0)]) (by decide) (Nat.le_of_ble_eq_true rfl) rfl ?_
  intro p e s m below meth c A ls R args Q H locs hRe hQ hAe hx hb hr hlocks hml hown hnm hts hsz hA hS hP hK hD hZ hl
  have hRf : R.frames = 6 := by rw [hRe]
  have hRl : R.locals = 132 := by rw [hRe]
  have hRc : R.cells = 0 := by rw [hRe]
  have hRs : R.slots = 0 := by rw [hRe]
  refine lv_iload_n hx hb dX12_power_0 rfl (lv_at hl 1 rfl) ?_
  refine lv_if_ne (tgt := 8) hx hb dX12_power_1 (by decide) (fun c1 => ?_) (fun c1 => ?_)
  · have q2 := mm_neL (lo := 1) (mm_ne c1) h0 mm_k0 (by decide) (by decide)
    refine lv_lload_n hx hb dX12_power_8 rfl (lv_at hl 0 rfl) ?_
    refine lv_lload_n hx hb dX12_power_9 rfl (lv_at hl 0 rfl) ?_
    refine lv_iload_n hx hb dX12_power_10 rfl (lv_at hl 1 rfl) ?_
    refine lv_iconst (v := 1) hx hb dX12_power_11 (by decide) ?_
    refine lv_isub hx hb dX12_power_12 ?_
    refine lv_topi (fun v3 ev3 => ?_)
    have rv3 : mm_rg v3 0 5 := mm_sub ev3 q2 mm_k1 (by decide) (by decide)
    have tv3 := mm_subEc ev3 q2 mm_k1 (by decide) (k := (-1)) (by decide)
    refine mm_finlr (va_runS (As := [.long 10, .int v3]) (rest := [.long 10]) ⟨hx, hb, hml, hown, hts⟩ (M259_X12_power l G cy H.size v3 rv3) (va_cwS 2 hts (mm_gS mm_w1523 mm_w1524 mm_w5 mm_w1525) rfl rfl rfl hs_X12_power ⟨by rw [hRf]; exact Nat.le_of_ble_eq_true rfl, by rw [hRl]; exact Nat.le_of_ble_eq_true rfl⟩) (mm_preS hK hZ hS hA hP hD [] rfl rfl) rfl rfl hl.1 rfl (lv_room (Nat.le_of_ble_eq_true rfl)) dX12_power_13 ⟨by rw [hRc]; exact Nat.le_of_ble_eq_true rfl, by rw [hRs]; exact Nat.le_of_ble_eq_true rfl⟩) hP hD hS hA [] rfl (fun _ => rfl) ?_
    clear hP hD hS
    clear H locs
    intro v4 _u H locs hw hP hD hS
    obtain ⟨w5, w6⟩ := hw
    refine lv_lmul hx hb dX12_power_16 ?_
    refine lv_topl (fun v7 ev7 => ?_)
    have rv7 : mm_rl v7 10 1000000 := mm_mull ev7 mm_kl10 w5 (by decide) (by decide)
    have w8 : mm_pw i_0 v7 := (mm_pw_s w6 tv3 ev7 mm_kl10 w5 rv3 (by decide))
    subst hAe
    rw [hQ]
    exact W.lret (v := v7) hx hb hr (fun t ht hW => ⟨⟨v7, (), rfl, ⟨(mm_wkl rv7 (by decide)), w8⟩, by rw [ht]; exact hP, hK.warm hW, hD⟩, hS.F ht⟩) hS.2.2 dX12_power_17
  · have q9 := mm_eqI (lo := 0) (hi := 0) c1 h0 mm_k0 (by decide)
    refine lv_lconst (v := 1) hx hb dX12_power_4 (by decide) ?_
    refine lv_goto (tgt := 17) hx hb dX12_power_5 (by decide) ?_
    have w10 : mm_pw i_0 1 := (mm_pw_0 _)
    subst hAe
    rw [hQ]
    exact W.lret (v := 1) hx hb hr (fun t ht hW => ⟨⟨1, (), rfl, ⟨(mm_wkl mm_kl1 (by decide)), w10⟩, by rw [ht]; exact hP, hK.warm hW, hD⟩, hS.F ht⟩) hS.2.2 dX12_power_17

