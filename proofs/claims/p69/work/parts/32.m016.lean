theorem dX12_count_0 : decode cX12_count 0 = .ok (.aload_n 0, 1) := by decide +kernel
theorem dX12_count_1 : decode cX12_count 1 = .ok (.iconst 0, 1) := by decide +kernel
theorem dX12_count_2 : decode cX12_count 2 = .ok (.putfield 77, 3) := by decide +kernel
theorem dX12_count_5 : decode cX12_count 5 = .ok (.iconst 0, 1) := by decide +kernel
theorem dX12_count_6 : decode cX12_count 6 = .ok (.istore_n 2, 1) := by decide +kernel
theorem dX12_count_7 : decode cX12_count 7 = .ok (.iload_n 1, 1) := by decide +kernel
theorem dX12_count_8 : decode cX12_count 8 = .ok (.tableswitch 168 0 9 #[56, 63, 70, 75, 82, 111, 116, 123, 130, 135], 56) := by decide +kernel
theorem dX12_count_64 : decode cX12_count 64 = .ok (.aload_n 0, 1) := by decide +kernel
theorem dX12_count_65 : decode cX12_count 65 = .ok (.getfield 34, 3) := by decide +kernel
theorem dX12_count_68 : decode cX12_count 68 = .ok (.iconst 0, 1) := by decide +kernel
theorem dX12_count_69 : decode cX12_count 69 = .ok (.iaload, 1) := by decide +kernel
theorem dX12_count_70 : decode cX12_count 70 = .ok (.ireturn, 1) := by decide +kernel
theorem dX12_count_71 : decode cX12_count 71 = .ok (.aload_n 0, 1) := by decide +kernel
theorem dX12_count_72 : decode cX12_count 72 = .ok (.getfield 34, 3) := by decide +kernel
theorem dX12_count_75 : decode cX12_count 75 = .ok (.iconst 1, 1) := by decide +kernel
theorem dX12_count_76 : decode cX12_count 76 = .ok (.iaload, 1) := by decide +kernel
theorem dX12_count_77 : decode cX12_count 77 = .ok (.ireturn, 1) := by decide +kernel
theorem dX12_count_78 : decode cX12_count 78 = .ok (.aload_n 0, 1) := by decide +kernel
theorem dX12_count_79 : decode cX12_count 79 = .ok (.invokevirtual 254, 3) := by decide +kernel
theorem dX12_count_82 : decode cX12_count 82 = .ok (.ireturn, 1) := by decide +kernel
theorem dX12_count_83 : decode cX12_count 83 = .ok (.aload_n 0, 1) := by decide +kernel
theorem dX12_count_84 : decode cX12_count 84 = .ok (.getfield 34, 3) := by decide +kernel
theorem dX12_count_87 : decode cX12_count 87 = .ok (.iconst 3, 1) := by decide +kernel
theorem dX12_count_88 : decode cX12_count 88 = .ok (.iaload, 1) := by decide +kernel
theorem dX12_count_89 : decode cX12_count 89 = .ok (.ireturn, 1) := by decide +kernel
theorem dX12_count_90 : decode cX12_count 90 = .ok (.iconst 0, 1) := by decide +kernel
theorem dX12_count_91 : decode cX12_count 91 = .ok (.istore_n 3, 1) := by decide +kernel
theorem dX12_count_92 : decode cX12_count 92 = .ok (.iload_n 3, 1) := by decide +kernel
theorem dX12_count_93 : decode cX12_count 93 = .ok (.aload_n 0, 1) := by decide +kernel
theorem dX12_count_94 : decode cX12_count 94 = .ok (.getfield 34, 3) := by decide +kernel
theorem dX12_count_97 : decode cX12_count 97 = .ok (.iconst 3, 1) := by decide +kernel
theorem dX12_count_98 : decode cX12_count 98 = .ok (.iaload, 1) := by decide +kernel
theorem dX12_count_99 : decode cX12_count 99 = .ok (.if_icmp .ge 18, 3) := by decide +kernel
theorem dX12_count_102 : decode cX12_count 102 = .ok (.iload_n 2, 1) := by decide +kernel
theorem dX12_count_103 : decode cX12_count 103 = .ok (.aload_n 0, 1) := by decide +kernel
theorem dX12_count_104 : decode cX12_count 104 = .ok (.getfield 40, 3) := by decide +kernel
theorem dX12_count_107 : decode cX12_count 107 = .ok (.iload_n 3, 1) := by decide +kernel
theorem dX12_count_108 : decode cX12_count 108 = .ok (.iaload, 1) := by decide +kernel
theorem dX12_count_109 : decode cX12_count 109 = .ok (.iadd, 1) := by decide +kernel
theorem dX12_count_110 : decode cX12_count 110 = .ok (.istore_n 2, 1) := by decide +kernel
theorem dX12_count_111 : decode cX12_count 111 = .ok (.iinc 3 1, 3) := by decide +kernel
theorem dX12_count_114 : decode cX12_count 114 = .ok (.goto (-22), 3) := by decide +kernel
theorem dX12_count_117 : decode cX12_count 117 = .ok (.iload_n 2, 1) := by decide +kernel
theorem dX12_count_118 : decode cX12_count 118 = .ok (.ireturn, 1) := by decide +kernel
theorem dX12_count_119 : decode cX12_count 119 = .ok (.aload_n 0, 1) := by decide +kernel
theorem dX12_count_120 : decode cX12_count 120 = .ok (.invokevirtual 260, 3) := by decide +kernel
theorem dX12_count_123 : decode cX12_count 123 = .ok (.ireturn, 1) := by decide +kernel
theorem dX12_count_124 : decode cX12_count 124 = .ok (.aload_n 0, 1) := by decide +kernel
theorem dX12_count_125 : decode cX12_count 125 = .ok (.getfield 34, 3) := by decide +kernel
theorem dX12_count_128 : decode cX12_count 128 = .ok (.iconst 5, 1) := by decide +kernel
theorem dX12_count_129 : decode cX12_count 129 = .ok (.iaload, 1) := by decide +kernel
theorem dX12_count_130 : decode cX12_count 130 = .ok (.ireturn, 1) := by decide +kernel
theorem dX12_count_131 : decode cX12_count 131 = .ok (.aload_n 0, 1) := by decide +kernel
theorem dX12_count_132 : decode cX12_count 132 = .ok (.getfield 31, 3) := by decide +kernel
theorem dX12_count_135 : decode cX12_count 135 = .ok (.iconst 0, 1) := by decide +kernel
theorem dX12_count_136 : decode cX12_count 136 = .ok (.iaload, 1) := by decide +kernel
theorem dX12_count_137 : decode cX12_count 137 = .ok (.ireturn, 1) := by decide +kernel
theorem dX12_count_138 : decode cX12_count 138 = .ok (.aload_n 0, 1) := by decide +kernel
theorem dX12_count_139 : decode cX12_count 139 = .ok (.getfield 94, 3) := by decide +kernel
theorem dX12_count_142 : decode cX12_count 142 = .ok (.ireturn, 1) := by decide +kernel
theorem dX12_count_143 : decode cX12_count 143 = .ok (.iconst 0, 1) := by decide +kernel
theorem dX12_count_144 : decode cX12_count 144 = .ok (.istore_n 3, 1) := by decide +kernel
theorem dX12_count_145 : decode cX12_count 145 = .ok (.iload_n 3, 1) := by decide +kernel
theorem dX12_count_146 : decode cX12_count 146 = .ok (.iconst 4, 1) := by decide +kernel
theorem dX12_count_147 : decode cX12_count 147 = .ok (.if_icmp .ge 27, 3) := by decide +kernel
theorem dX12_count_150 : decode cX12_count 150 = .ok (.iload_n 2, 1) := by decide +kernel
theorem dX12_count_151 : decode cX12_count 151 = .ok (.aload_n 0, 1) := by decide +kernel
theorem dX12_count_152 : decode cX12_count 152 = .ok (.getfield 7, 3) := by decide +kernel
theorem dX12_count_155 : decode cX12_count 155 = .ok (.iload_n 3, 1) := by decide +kernel
theorem dX12_count_156 : decode cX12_count 156 = .ok (.iaload, 1) := by decide +kernel
theorem dX12_count_157 : decode cX12_count 157 = .ok (.iconst (-1), 1) := by decide +kernel
theorem dX12_count_158 : decode cX12_count 158 = .ok (.if_icmp .ne 7, 3) := by decide +kernel
theorem dX12_count_161 : decode cX12_count 161 = .ok (.iconst 0, 1) := by decide +kernel
theorem dX12_count_162 : decode cX12_count 162 = .ok (.goto 4, 3) := by decide +kernel
theorem dX12_count_165 : decode cX12_count 165 = .ok (.iconst 1, 1) := by decide +kernel
theorem dX12_count_166 : decode cX12_count 166 = .ok (.iadd, 1) := by decide +kernel
theorem dX12_count_167 : decode cX12_count 167 = .ok (.istore_n 2, 1) := by decide +kernel
theorem dX12_count_168 : decode cX12_count 168 = .ok (.iinc 3 1, 3) := by decide +kernel
theorem dX12_count_171 : decode cX12_count 171 = .ok (.goto (-26), 3) := by decide +kernel
theorem dX12_count_174 : decode cX12_count 174 = .ok (.iload_n 2, 1) := by decide +kernel
theorem dX12_count_175 : decode cX12_count 175 = .ok (.ireturn, 1) := by decide +kernel
theorem dX12_count_176 : decode cX12_count 176 = .ok (.iconst (-1), 1) := by decide +kernel
theorem dX12_count_177 : decode cX12_count 177 = .ok (.ireturn, 1) := by decide +kernel
set_option maxHeartbeats 4000000 in
set_option maxRecDepth 100000 in
theorem M112_X12_count (l : Launch) (G : va_G) (cy : Nat → ClassId) (sz : Nat) (a_0 : Nat) (i_0 : Int32) (i_1 : Int32) (a_1 : Nat) (a_2 : Nat) (a_3 : Nat) (a_4 : Nat) (a_5 : Nat) (i_2 : Int32) (i_3 : Int32) (i_4 : Int32) (i_5 : Int32) (i_6 : Int32) (j_0 : Int64) (i_7 : Int32) (i_8 : Int32) (i_9 : Int32) (i_10 : Int32) (a_6 : Nat) (a_7 : Nat) (a_8 : Nat) (a_9 : Nat) (a_10 : Nat) (a_11 : Nat) (a_12 : Nat) (a_13 : Nat) (a_14 : Nat) (a_15 : Nat) (a_16 : Nat) (a_17 : Nat) (a_18 : Nat) (i_11 : Int32) (i_12 : Int32) (i_13 : Int32) (i_14 : Int32) (i_15 : Int32) (i_16 : Int32) (a_19 : Nat) (i_17 : Int32) (a_20 : Nat) (f_0 : Nat → Int32) (i_18 : Int32) (i_19 : Int32) (i_20 : Int32) (i_21 : Int32) (i_22 : Int32) (i_23 : Int32) (i_24 : Int32) (i_25 : Int32) (i_26 : Int32) (i_27 : Int32) (i_28 : Int32) (i_29 : Int32) (i_30 : Int32) (i_31 : Int32) (i_32 : Int32) (i_33 : Int32) (i_34 : Int32) (i_35 : Int32) (i_36 : Int32) (i_37 : Int32) (i_38 : Int32) (i_39 : Int32) (i_40 : Int32) (i_41 : Int32) (i_42 : Int32) (i_43 : Int32) (i_44 : Int32) (i_45 : Int32) (i_46 : Int32) (i_47 : Int32) (i_48 : Int32) (i_49 : Int32) (i_50 : Int32) (i_51 : Int32) (i_52 : Int32) (f_1 : Nat → Int32) (h0 : mm_rg i_2 0 600) (h1 : mm_ar f_0 (-1) 3) (h2 : mm_rg i_18 0 601) (h3 : mm_rg i_19 0 601) (h4 : mm_rg i_20 0 601) (h5 : mm_rg i_21 0 601) (h6 : mm_rg i_22 0 601) (h7 : mm_rg i_23 0 10) (h8 : mm_rg i_24 0 99) (h9 : mm_rg i_25 0 9) (h10 : mm_rg i_26 0 3) (h11 : mm_rg i_27 0 6) (h12 : mm_rg i_28 0 30) (h13 : mm_rg i_29 0 10) (h14 : mm_rg i_30 0 99) (h15 : mm_rg i_31 0 9) (h16 : mm_rg i_32 0 3) (h17 : mm_rg i_33 0 6) (h18 : mm_rg i_34 0 30) (h19 : mm_rg i_35 0 10) (h20 : mm_rg i_36 0 99) (h21 : mm_rg i_37 0 9) (h22 : mm_rg i_38 0 3) (h23 : mm_rg i_39 0 6) (h24 : mm_rg i_40 0 30) (h25 : mm_rg i_41 0 10) (h26 : mm_rg i_42 0 99) (h27 : mm_rg i_43 0 9) (h28 : mm_rg i_44 0 3) (h29 : mm_rg i_45 0 6) (h30 : mm_rg i_46 0 30) (h31 : mm_rg i_47 0 10) (h32 : mm_rg i_48 0 99) (h33 : mm_rg i_49 0 9) (h34 : mm_rg i_50 0 3) (h35 : mm_rg i_51 0 6) (h36 : mm_rg i_52 0 30) (h37 : mm_ar f_1 0 7) (h38 : mm_tl i_18 i_26 i_27) (h39 : mm_tl i_19 i_32 i_33) (h40 : mm_tl i_20 i_38 i_39) (h41 : mm_tl i_21 i_44 i_45)  : mm_CI l yX12_count (mm_ws yX12_count cX12_count 4 (some .int)) ({ frames := 1, cells := 0, slots := 0, locals := 20 } : Room) G cy sz [(a_0, .inr (12, [.int i_1, .ref a_1, .ref a_2, .ref a_3, .ref a_4, .ref a_5, .int i_2, .int i_3, .int i_4, .int i_5, .int i_6, .long j_0, .int i_7, .int i_8, .int i_9, .int i_10, .ref a_6, .ref a_7, .ref a_8, .ref a_9, .ref a_10, .ref a_11, .ref a_12, .ref a_13, .ref a_14, .ref a_15, .ref a_16, .ref a_17, .ref a_18, .int i_11, .int i_12, .int i_13, .int i_14, .int i_15, .int i_16, .ref a_19, .int i_17, .ref a_20])), (a_1, .inl (cy 1, 4, .inl f_0)), (a_6, .inl (cy 1, 5, .inl (mm_g [i_18, i_19, i_20, i_21, i_22]))), (a_7, .inl (cy 1, 30, .inl (mm_g [i_23, i_24, i_25, i_26, i_27, i_28, i_29, i_30, i_31, i_32, i_33, i_34, i_35, i_36, i_37, i_38, i_39, i_40, i_41, i_42, i_43, i_44, i_45, i_46, i_47, i_48, i_49, i_50, i_51, i_52]))), (a_9, .inl (cy 1, 15, .inl f_1))] [.ref a_0, .int i_0] (fun u : Unit => [(a_0, .inr (12, [.int 0, .ref a_1, .ref a_2, .ref a_3, .ref a_4, .ref a_5, .int i_2, .int i_3, .int i_4, .int i_5, .int i_6, .long j_0, .int i_7, .int i_8, .int i_9, .int i_10, .ref a_6, .ref a_7, .ref a_8, .ref a_9, .ref a_10, .ref a_11, .ref a_12, .ref a_13, .ref a_14, .ref a_15, .ref a_16, .ref a_17, .ref a_18, .int i_11, .int i_12, .int i_13, .int i_14, .int i_15, .int i_16, .ref a_19, .int i_17, .ref a_20])), (a_1, .inl (cy 1, 4, .inl f_0)), (a_6, .inl (cy 1, 5, .inl (mm_g [i_18, i_19, i_20, i_21, i_22]))), (a_7, .inl (cy 1, 30, .inl (mm_g [i_23, i_24, i_25, i_26, i_27, i_28, i_29, i_30, i_31, i_32, i_33, i_34, i_35, i_36, i_37, i_38, i_39, i_40, i_41, i_42, i_43, i_44, i_45, i_46, i_47, i_48, i_49, i_50, i_51, i_52]))), (a_9, .inl (cy 1, 15, .inl f_1))]) (fun (r : Int32) (u : Unit) => mm_rg r (-1) 601) 0 0 := by
  refine mm_begin (lv := [(0, .ref a_0), (1, .int i_0)]) (by decide) (Nat.le_of_ble_eq_true rfl) rfl ?_
  intro p e s m below meth c A ls R args Q H locs hRe hQ hAe hx hb hr hlocks hml hown hnm hts hsz hA hS hP hK hD hZ hl
  have hRf : R.frames = 1 := by rw [hRe]
  have hRl : R.locals = 20 := by rw [hRe]
  have hRc : R.cells = 0 := by rw [hRe]
  have hRs : R.slots = 0 := by rw [hRe]
  refine lv_aload_n hx hb dX12_count_0 rfl (lv_at hl 0 rfl) ?_
  refine lv_iconst (v := 0) hx hb dX12_count_1 (by decide) ?_
  refine va_put (D := G) (ci := 12) (v := .int 0) (ty := tyX12 0) (C := RX12) (T := TX12) (N := 38) hx hb hts (mm_i inlX12) tyX12 tyX12_ok nmX12 hown hK.1 hP hD hS 0 rfl rfl 0 (by decide) (mm_h hts mm_w177) (fun _ h9 => h9) rfl (tyX12_ok 0 (by decide)) rfl rfl (Nat.le_of_ble_eq_true rfl) dX12_count_2 ?_
  clear hP hD hS
  clear H locs
  intro H locs (hP : va_P G vwCl [(a_0, .inr (12, [.int 0, .ref a_1, .ref a_2, .ref a_3, .ref a_4, .ref a_5, .int i_2, .int i_3, .int i_4, .int i_5, .int i_6, .long j_0, .int i_7, .int i_8, .int i_9, .int i_10, .ref a_6, .ref a_7, .ref a_8, .ref a_9, .ref a_10, .ref a_11, .ref a_12, .ref a_13, .ref a_14, .ref a_15, .ref a_16, .ref a_17, .ref a_18, .int i_11, .int i_12, .int i_13, .int i_14, .int i_15, .int i_16, .ref a_19, .int i_17, .ref a_20])), (a_1, .inl (cy 1, 4, .inl f_0)), (a_6, .inl (cy 1, 5, .inl (mm_g [i_18, i_19, i_20, i_21, i_22]))), (a_7, .inl (cy 1, 30, .inl (mm_g [i_23, i_24, i_25, i_26, i_27, i_28, i_29, i_30, i_31, i_32, i_33, i_34, i_35, i_36, i_37, i_38, i_39, i_40, i_41, i_42, i_43, i_44, i_45, i_46, i_47, i_48, i_49, i_50, i_51, i_52]))), (a_9, .inl (cy 1, 15, .inl f_1))] H) (hD : va_D A [(a_0, .inr (12, [.int 0, .ref a_1, .ref a_2, .ref a_3, .ref a_4, .ref a_5, .int i_2, .int i_3, .int i_4, .int i_5, .int i_6, .long j_0, .int i_7, .int i_8, .int i_9, .int i_10, .ref a_6, .ref a_7, .ref a_8, .ref a_9, .ref a_10, .ref a_11, .ref a_12, .ref a_13, .ref a_14, .ref a_15, .ref a_16, .ref a_17, .ref a_18, .int i_11, .int i_12, .int i_13, .int i_14, .int i_15, .int i_16, .ref a_19, .int i_17, .ref a_20])), (a_1, .inl (cy 1, 4, .inl f_0)), (a_6, .inl (cy 1, 5, .inl (mm_g [i_18, i_19, i_20, i_21, i_22]))), (a_7, .inl (cy 1, 30, .inl (mm_g [i_23, i_24, i_25, i_26, i_27, i_28, i_29, i_30, i_31, i_32, i_33, i_34, i_35, i_36, i_37, i_38, i_39, i_40, i_41, i_42, i_43, i_44, i_45, i_46, i_47, i_48, i_49, i_50, i_51, i_52]))), (a_9, .inl (cy 1, 15, .inl f_1))]) hS
  refine lv_iconst (v := 0) hx hb dX12_count_5 (by decide) ?_
  refine lv_istore_n (lv' := [(2, .int 0), (0, .ref a_0), (1, .int i_0)]) hx hb dX12_count_6 rfl hl (by decide) rfl ?_
  clear hl
  clear ls
  intro ls hl
  refine lv_iload_n hx hb dX12_count_7 rfl (lv_at hl 2 rfl) ?_
  rcases mm_out i_0 0 9 with c1 | c1 | c1
  · have q2 : mm_rg i_0 (-2147483648) (-1) := ⟨((mm_top i_0)).1, by omega⟩
    refine lv_tableOut (tgt := 176) hx hb dX12_count_8 (Or.inl c1) (by decide) ?_
    refine lv_iconst (v := (-1)) hx hb dX12_count_176 (by decide) ?_
    subst hAe
    rw [hQ]
    exact W.iret (v := (-1)) hx hb hr (fun t ht hW => ⟨⟨(-1), (), rfl, (mm_wk mm_km1 (by decide)), by rw [ht]; exact hP, hK.warm hW, hD⟩, hS.F ht⟩) hS.2.2 dX12_count_177
  · have q3 : mm_rg i_0 10 2147483647 := ⟨by omega, ((mm_top i_0)).2⟩
    refine lv_tableOut (tgt := 176) hx hb dX12_count_8 (Or.inr c1) (by decide) ?_
    refine lv_iconst (v := (-1)) hx hb dX12_count_176 (by decide) ?_
    subst hAe
    rw [hQ]
    exact W.iret (v := (-1)) hx hb hr (fun t ht hW => ⟨⟨(-1), (), rfl, (mm_wk mm_km1 (by decide)), by rw [ht]; exact hP, hK.warm hW, hD⟩, hS.F ht⟩) hS.2.2 dX12_count_177
  · have c4 := mm_cases10 c1
    rcases c4 with rfl | rfl | rfl | rfl | rfl | rfl | rfl | rfl | rfl | rfl
    · refine lv_tableIn (tgt := 64) hx hb dX12_count_8 (by decide) (by decide) rfl (by decide) ?_
      refine lv_aload_n hx hb dX12_count_64 rfl (lv_at hl 1 rfl) ?_
      refine va_get (D := G) (ci := 12) (v := .ref a_7) (C := RX12) (T := TX12) (N := 38) hx hb hts (mm_i inlX12) hown hK.1 hP 0 rfl rfl 17 (by decide) (mm_h hts mm_w149) (fun _ h9 => h9) rfl dX12_count_65 ?_
      refine lv_iconst (v := 0) hx hb dX12_count_68 (by decide) ?_
      refine va_iald hx hb hK.1 hP 3 1 rfl rfl (mm_in mm_k0 (by decide)) dX12_count_69 ?_
      rw [show (mm_g [i_23, i_24, i_25, i_26, i_27, i_28, i_29, i_30, i_31, i_32, i_33, i_34, i_35, i_36, i_37, i_38, i_39, i_40, i_41, i_42, i_43, i_44, i_45, i_46, i_47, i_48, i_49, i_50, i_51, i_52]) (0 : Int32).toNatClampNeg = i_23 from mm_ge 0 (by decide) rfl]
      subst hAe
      rw [hQ]
      exact W.iret (v := i_23) hx hb hr (fun t ht hW => ⟨⟨i_23, (), rfl, (mm_wk h7 (by decide)), by rw [ht]; exact hP, hK.warm hW, hD⟩, hS.F ht⟩) hS.2.2 dX12_count_70
    · refine lv_tableIn (tgt := 71) hx hb dX12_count_8 (by decide) (by decide) rfl (by decide) ?_
      refine lv_aload_n hx hb dX12_count_71 rfl (lv_at hl 1 rfl) ?_
      refine va_get (D := G) (ci := 12) (v := .ref a_7) (C := RX12) (T := TX12) (N := 38) hx hb hts (mm_i inlX12) hown hK.1 hP 0 rfl rfl 17 (by decide) (mm_h hts mm_w149) (fun _ h9 => h9) rfl dX12_count_72 ?_
      refine lv_iconst (v := 1) hx hb dX12_count_75 (by decide) ?_
      refine va_iald hx hb hK.1 hP 3 1 rfl rfl (mm_in mm_k1 (by decide)) dX12_count_76 ?_
      rw [show (mm_g [i_23, i_24, i_25, i_26, i_27, i_28, i_29, i_30, i_31, i_32, i_33, i_34, i_35, i_36, i_37, i_38, i_39, i_40, i_41, i_42, i_43, i_44, i_45, i_46, i_47, i_48, i_49, i_50, i_51, i_52]) (1 : Int32).toNatClampNeg = i_24 from mm_ge 1 (by decide) rfl]
      subst hAe
      rw [hQ]
      exact W.iret (v := i_24) hx hb hr (fun t ht hW => ⟨⟨i_24, (), rfl, (mm_wk h8 (by decide)), by rw [ht]; exact hP, hK.warm hW, hD⟩, hS.F ht⟩) hS.2.2 dX12_count_77
    · refine lv_tableIn (tgt := 78) hx hb dX12_count_8 (by decide) (by decide) rfl (by decide) ?_
      refine lv_aload_n hx hb dX12_count_78 rfl (lv_at hl 1 rfl) ?_
      refine mm_finir (va_runV (As := []) (rest := []) ⟨hx, hb, hml, hown, hts⟩ (M92_X12_senses l G cy H.size a_0 0 a_1 a_2 a_3 a_4 a_5 i_2 i_3 i_4 i_5 i_6 j_0 i_7 i_8 i_9 i_10 a_6 a_7 a_8 a_9 a_10 a_11 a_12 a_13 a_14 a_15 a_16 a_17 a_18 i_11 i_12 i_13 i_14 i_15 i_16 a_19 i_17 a_20 i_23 i_24 i_25 i_26 i_27 i_28 i_29 i_30 i_31 i_32 i_33 i_34 i_35 i_36 i_37 i_38 i_39 i_40 i_41 i_42 i_43 i_44 i_45 i_46 i_47 i_48 i_49 i_50 i_51 i_52 h7 h8 h9 h10 h11 h12 h13 h14 h15 h16 h17 h18 h19 h20 h21 h22 h23 h24 h25 h26 h27 h28 h29 h30 h31 h32 h33 h34 h35 h36) (cwV 0 hts (mm_gV mm_w588 mm_w589 mm_w590 mm_w5 mm_w591) rfl rfl rfl hd_X12_senses ⟨by rw [hRf]; exact Nat.le_of_ble_eq_true rfl, by rw [hRl]; exact Nat.le_of_ble_eq_true rfl⟩) (mm_preV hK hZ hS hA hP hD [0, 3] rfl rfl 0 rfl rfl rfl) rfl rfl hl.1 rfl (lv_room (Nat.le_of_ble_eq_true rfl)) dX12_count_79 ⟨by rw [hRc]; exact Nat.le_of_ble_eq_true rfl, by rw [hRs]; exact Nat.le_of_ble_eq_true rfl⟩) hP hD hS hA [0, 3] rfl (fun _ => rfl) ?_
      clear hP hD hS
      clear H locs
      intro v5 _u H locs hw hP hD hS
      subst hw
      subst hAe
      rw [hQ]
      exact W.iret (v := i_25) hx hb hr (fun t ht hW => ⟨⟨i_25, (), rfl, (mm_wk h9 (by decide)), by rw [ht]; exact hP, hK.warm hW, hD⟩, hS.F ht⟩) hS.2.2 dX12_count_82
    · refine lv_tableIn (tgt := 83) hx hb dX12_count_8 (by decide) (by decide) rfl (by decide) ?_
      refine lv_aload_n hx hb dX12_count_83 rfl (lv_at hl 1 rfl) ?_
      refine va_get (D := G) (ci := 12) (v := .ref a_7) (C := RX12) (T := TX12) (N := 38) hx hb hts (mm_i inlX12) hown hK.1 hP 0 rfl rfl 17 (by decide) (mm_h hts mm_w149) (fun _ h9 => h9) rfl dX12_count_84 ?_
      refine lv_iconst (v := 3) hx hb dX12_count_87 (by decide) ?_
      refine va_iald hx hb hK.1 hP 3 1 rfl rfl (mm_in mm_k3 (by decide)) dX12_count_88 ?_
      rw [show (mm_g [i_23, i_24, i_25, i_26, i_27, i_28, i_29, i_30, i_31, i_32, i_33, i_34, i_35, i_36, i_37, i_38, i_39, i_40, i_41, i_42, i_43, i_44, i_45, i_46, i_47, i_48, i_49, i_50, i_51, i_52]) (3 : Int32).toNatClampNeg = i_26 from mm_ge 3 (by decide) rfl]
      subst hAe
      rw [hQ]
      exact W.iret (v := i_26) hx hb hr (fun t ht hW => ⟨⟨i_26, (), rfl, (mm_wk h10 (by decide)), by rw [ht]; exact hP, hK.warm hW, hD⟩, hS.F ht⟩) hS.2.2 dX12_count_89
    · refine lv_tableIn (tgt := 90) hx hb dX12_count_8 (by decide) (by decide) rfl (by decide) ?_
      refine lv_iconst (v := 0) hx hb dX12_count_90 (by decide) ?_
      refine lv_istore_n (lv' := [(3, .int 0), (2, .int 0), (0, .ref a_0), (1, .int 4)]) hx hb dX12_count_91 rfl hl (by decide) rfl ?_
      clear hl
      clear ls
      intro ls hl
      refine lv_iload_n hx hb dX12_count_92 rfl (lv_at hl 0 rfl) ?_
      refine lv_aload_n hx hb dX12_count_93 rfl (lv_at hl 2 rfl) ?_
      refine va_get (D := G) (ci := 12) (v := .ref a_7) (C := RX12) (T := TX12) (N := 38) hx hb hts (mm_i inlX12) hown hK.1 hP 0 rfl rfl 17 (by decide) (mm_h hts mm_w149) (fun _ h9 => h9) rfl dX12_count_94 ?_
      refine lv_iconst (v := 3) hx hb dX12_count_97 (by decide) ?_
      refine va_iald hx hb hK.1 hP 3 1 rfl rfl (mm_in mm_k3 (by decide)) dX12_count_98 ?_
      rw [show (mm_g [i_23, i_24, i_25, i_26, i_27, i_28, i_29, i_30, i_31, i_32, i_33, i_34, i_35, i_36, i_37, i_38, i_39, i_40, i_41, i_42, i_43, i_44, i_45, i_46, i_47, i_48, i_49, i_50, i_51, i_52]) (3 : Int32).toNatClampNeg = i_26 from mm_ge 3 (by decide) rfl]
      refine lv_icmp_ge (tgt := 117) hx hb dX12_count_99 (by decide) (fun c6 => ?_) (fun c6 => ?_)
      · have q7 := mm_leL (mm_le c6) h10 mm_k0
        refine lv_iload_n hx hb dX12_count_117 rfl (lv_at hl 1 rfl) ?_
        subst hAe
        rw [hQ]
        exact W.iret (v := 0) hx hb hr (fun t ht hW => ⟨⟨0, (), rfl, (mm_wk mm_k0 (by decide)), by rw [ht]; exact hP, hK.warm hW, hD⟩, hS.F ht⟩) hS.2.2 dX12_count_118
      · have q8 := mm_ltR (lo := 1) (mm_nle c6) mm_k0 h10 (by decide)
        have q9 : mm_rg i_18 1 601 := mm_tl_3 h38 q8 h2 (by decide)
        refine lv_iload_n hx hb dX12_count_102 rfl (lv_at hl 1 rfl) ?_
        refine lv_aload_n hx hb dX12_count_103 rfl (lv_at hl 2 rfl) ?_
        refine va_get (D := G) (ci := 12) (v := .ref a_9) (C := RX12) (T := TX12) (N := 38) hx hb hts (mm_i inlX12) hown hK.1 hP 0 rfl rfl 19 (by decide) (mm_h hts mm_w151) (fun _ h9 => h9) rfl dX12_count_104 ?_
        refine lv_iload_n hx hb dX12_count_107 rfl (lv_at hl 0 rfl) ?_
        refine va_iald hx hb hK.1 hP 4 1 rfl rfl (mm_in mm_k0 (by decide)) dX12_count_108 ?_
        refine lv_topi (fun v10 ev10 => ?_)
        have rv10 : mm_rg v10 0 7 := mm_eqv ev10 (h37 _)
        refine lv_iadd hx hb dX12_count_109 ?_
        refine lv_topi (fun v11 ev11 => ?_)
        have rv11 : mm_rg v11 0 7 := mm_add ev11 mm_k0 rv10 (by decide) (by decide)
        have tv11 := mm_addEd ev11 mm_k0 rv10 (by decide) (k := 0) (by decide)
        refine lv_istore_n (lv' := [(2, .int v11), (3, .int 0), (0, .ref a_0), (1, .int 4)]) hx hb dX12_count_110 rfl hl (by decide) rfl ?_
        clear hl
        clear ls
        intro ls hl
        refine lv_iinc (v := 1) (lv' := [(3, .int 1), (2, .int v11), (0, .ref a_0), (1, .int 4)]) hx hb dX12_count_111 hl (k := 1) rfl (by decide) (by decide) rfl ?_
        clear hl
        clear ls
        intro ls hl
        refine lv_goto (tgt := 92) hx hb dX12_count_114 (by decide) ?_
        refine lv_iload_n hx hb dX12_count_92 rfl (lv_at hl 0 rfl) ?_
        refine lv_aload_n hx hb dX12_count_93 rfl (lv_at hl 2 rfl) ?_
        refine va_get (D := G) (ci := 12) (v := .ref a_7) (C := RX12) (T := TX12) (N := 38) hx hb hts (mm_i inlX12) hown hK.1 hP 0 rfl rfl 17 (by decide) (mm_h hts mm_w149) (fun _ h9 => h9) rfl dX12_count_94 ?_
        refine lv_iconst (v := 3) hx hb dX12_count_97 (by decide) ?_
        refine va_iald hx hb hK.1 hP 3 1 rfl rfl (mm_in mm_k3 (by decide)) dX12_count_98 ?_
        rw [show (mm_g [i_23, i_24, i_25, i_26, i_27, i_28, i_29, i_30, i_31, i_32, i_33, i_34, i_35, i_36, i_37, i_38, i_39, i_40, i_41, i_42, i_43, i_44, i_45, i_46, i_47, i_48, i_49, i_50, i_51, i_52]) (3 : Int32).toNatClampNeg = i_26 from mm_ge 3 (by decide) rfl]
        refine lv_icmp_ge (tgt := 117) hx hb dX12_count_99 (by decide) (fun c12 => ?_) (fun c12 => ?_)
        · have q13 := mm_leL (mm_le c12) q8 mm_k1
          refine lv_iload_n hx hb dX12_count_117 rfl (lv_at hl 1 rfl) ?_
          subst hAe
          rw [hQ]
          exact W.iret (v := v11) hx hb hr (fun t ht hW => ⟨⟨v11, (), rfl, (mm_wk rv11 (by decide)), by rw [ht]; exact hP, hK.warm hW, hD⟩, hS.F ht⟩) hS.2.2 dX12_count_118
        · have q14 := mm_ltR (lo := 2) (mm_nle c12) mm_k1 q8 (by decide)
          refine lv_iload_n hx hb dX12_count_102 rfl (lv_at hl 1 rfl) ?_
          refine lv_aload_n hx hb dX12_count_103 rfl (lv_at hl 2 rfl) ?_
          refine va_get (D := G) (ci := 12) (v := .ref a_9) (C := RX12) (T := TX12) (N := 38) hx hb hts (mm_i inlX12) hown hK.1 hP 0 rfl rfl 19 (by decide) (mm_h hts mm_w151) (fun _ h9 => h9) rfl dX12_count_104 ?_
          refine lv_iload_n hx hb dX12_count_107 rfl (lv_at hl 0 rfl) ?_
          refine va_iald hx hb hK.1 hP 4 1 rfl rfl (mm_in mm_k1 (by decide)) dX12_count_108 ?_
          refine lv_topi (fun v15 ev15 => ?_)
          have rv15 : mm_rg v15 0 7 := mm_eqv ev15 (h37 _)
          refine lv_iadd hx hb dX12_count_109 ?_
          refine lv_topi (fun v16 ev16 => ?_)
          have rv16 : mm_rg v16 0 14 := mm_add ev16 rv11 rv15 (by decide) (by decide)
          have tv16 := mm_addE ev16 rv11 rv15 (by decide)
          refine lv_istore_n (lv' := [(2, .int v16), (3, .int 1), (0, .ref a_0), (1, .int 4)]) hx hb dX12_count_110 rfl hl (by decide) rfl ?_
          clear hl
          clear ls
          intro ls hl
          refine lv_iinc (v := 2) (lv' := [(3, .int 2), (2, .int v16), (0, .ref a_0), (1, .int 4)]) hx hb dX12_count_111 hl (k := 1) rfl (by decide) (by decide) rfl ?_
          clear hl
          clear ls
          intro ls hl
          refine lv_goto (tgt := 92) hx hb dX12_count_114 (by decide) ?_
          refine lv_iload_n hx hb dX12_count_92 rfl (lv_at hl 0 rfl) ?_
          refine lv_aload_n hx hb dX12_count_93 rfl (lv_at hl 2 rfl) ?_
          refine va_get (D := G) (ci := 12) (v := .ref a_7) (C := RX12) (T := TX12) (N := 38) hx hb hts (mm_i inlX12) hown hK.1 hP 0 rfl rfl 17 (by decide) (mm_h hts mm_w149) (fun _ h9 => h9) rfl dX12_count_94 ?_
          refine lv_iconst (v := 3) hx hb dX12_count_97 (by decide) ?_
          refine va_iald hx hb hK.1 hP 3 1 rfl rfl (mm_in mm_k3 (by decide)) dX12_count_98 ?_
          rw [show (mm_g [i_23, i_24, i_25, i_26, i_27, i_28, i_29, i_30, i_31, i_32, i_33, i_34, i_35, i_36, i_37, i_38, i_39, i_40, i_41, i_42, i_43, i_44, i_45, i_46, i_47, i_48, i_49, i_50, i_51, i_52]) (3 : Int32).toNatClampNeg = i_26 from mm_ge 3 (by decide) rfl]
          refine lv_icmp_ge (tgt := 117) hx hb dX12_count_99 (by decide) (fun c17 => ?_) (fun c17 => ?_)
          · have q18 := mm_leL (mm_le c17) q14 mm_k2
            refine lv_iload_n hx hb dX12_count_117 rfl (lv_at hl 1 rfl) ?_
            subst hAe
            rw [hQ]
            exact W.iret (v := v16) hx hb hr (fun t ht hW => ⟨⟨v16, (), rfl, (mm_wk rv16 (by decide)), by rw [ht]; exact hP, hK.warm hW, hD⟩, hS.F ht⟩) hS.2.2 dX12_count_118
          · have q19 := mm_ltR (lo := 3) (mm_nle c17) mm_k2 q14 (by decide)
            refine lv_iload_n hx hb dX12_count_102 rfl (lv_at hl 1 rfl) ?_
            refine lv_aload_n hx hb dX12_count_103 rfl (lv_at hl 2 rfl) ?_
            refine va_get (D := G) (ci := 12) (v := .ref a_9) (C := RX12) (T := TX12) (N := 38) hx hb hts (mm_i inlX12) hown hK.1 hP 0 rfl rfl 19 (by decide) (mm_h hts mm_w151) (fun _ h9 => h9) rfl dX12_count_104 ?_
            refine lv_iload_n hx hb dX12_count_107 rfl (lv_at hl 0 rfl) ?_
            refine va_iald hx hb hK.1 hP 4 1 rfl rfl (mm_in mm_k2 (by decide)) dX12_count_108 ?_
            refine lv_topi (fun v20 ev20 => ?_)
            have rv20 : mm_rg v20 0 7 := mm_eqv ev20 (h37 _)
            refine lv_iadd hx hb dX12_count_109 ?_
            refine lv_topi (fun v21 ev21 => ?_)
            have rv21 : mm_rg v21 0 21 := mm_add ev21 rv16 rv20 (by decide) (by decide)
            have tv21 := mm_addE ev21 rv16 rv20 (by decide)
            refine lv_istore_n (lv' := [(2, .int v21), (3, .int 2), (0, .ref a_0), (1, .int 4)]) hx hb dX12_count_110 rfl hl (by decide) rfl ?_
            clear hl
            clear ls
            intro ls hl
            refine lv_iinc (v := 3) (lv' := [(3, .int 3), (2, .int v21), (0, .ref a_0), (1, .int 4)]) hx hb dX12_count_111 hl (k := 1) rfl (by decide) (by decide) rfl ?_
            clear hl
            clear ls
            intro ls hl
            refine lv_goto (tgt := 92) hx hb dX12_count_114 (by decide) ?_
            refine lv_iload_n hx hb dX12_count_92 rfl (lv_at hl 0 rfl) ?_
            refine lv_aload_n hx hb dX12_count_93 rfl (lv_at hl 2 rfl) ?_
            refine va_get (D := G) (ci := 12) (v := .ref a_7) (C := RX12) (T := TX12) (N := 38) hx hb hts (mm_i inlX12) hown hK.1 hP 0 rfl rfl 17 (by decide) (mm_h hts mm_w149) (fun _ h9 => h9) rfl dX12_count_94 ?_
            refine lv_iconst (v := 3) hx hb dX12_count_97 (by decide) ?_
            refine va_iald hx hb hK.1 hP 3 1 rfl rfl (mm_in mm_k3 (by decide)) dX12_count_98 ?_
            rw [show (mm_g [i_23, i_24, i_25, i_26, i_27, i_28, i_29, i_30, i_31, i_32, i_33, i_34, i_35, i_36, i_37, i_38, i_39, i_40, i_41, i_42, i_43, i_44, i_45, i_46, i_47, i_48, i_49, i_50, i_51, i_52]) (3 : Int32).toNatClampNeg = i_26 from mm_ge 3 (by decide) rfl]
            refine lv_icmp_ge (tgt := 117) hx hb dX12_count_99 (by decide) (fun c22 => ?_) (fun c22 => ?_)
            · refine lv_iload_n hx hb dX12_count_117 rfl (lv_at hl 1 rfl) ?_
              subst hAe
              rw [hQ]
              exact W.iret (v := v21) hx hb hr (fun t ht hW => ⟨⟨v21, (), rfl, (mm_wk rv21 (by decide)), by rw [ht]; exact hP, hK.warm hW, hD⟩, hS.F ht⟩) hS.2.2 dX12_count_118
            · have q23 := mm_ltL (h := 2) (mm_nle c22) mm_k3 q19 (by decide)
              exact mm_no q23 (by decide)
    · refine lv_tableIn (tgt := 119) hx hb dX12_count_8 (by decide) (by decide) rfl (by decide) ?_
      refine lv_aload_n hx hb dX12_count_119 rfl (lv_at hl 1 rfl) ?_
      refine mm_finir (va_runV (As := []) (rest := []) ⟨hx, hb, hml, hown, hts⟩ (M95_X12_texts l G cy H.size a_0 0 a_1 a_2 a_3 a_4 a_5 i_2 i_3 i_4 i_5 i_6 j_0 i_7 i_8 i_9 i_10 a_6 a_7 a_8 a_9 a_10 a_11 a_12 a_13 a_14 a_15 a_16 a_17 a_18 i_11 i_12 i_13 i_14 i_15 i_16 a_19 i_17 a_20 i_23 i_24 i_25 i_26 i_27 i_28 i_29 i_30 i_31 i_32 i_33 i_34 i_35 i_36 i_37 i_38 i_39 i_40 i_41 i_42 i_43 i_44 i_45 i_46 i_47 i_48 i_49 i_50 i_51 i_52 h7 h8 h9 h10 h11 h12 h13 h14 h15 h16 h17 h18 h19 h20 h21 h22 h23 h24 h25 h26 h27 h28 h29 h30 h31 h32 h33 h34 h35 h36) (cwV 0 hts (mm_gV mm_w617 mm_w618 mm_w619 mm_w5 mm_w620) rfl rfl rfl hd_X12_texts ⟨by rw [hRf]; exact Nat.le_of_ble_eq_true rfl, by rw [hRl]; exact Nat.le_of_ble_eq_true rfl⟩) (mm_preV hK hZ hS hA hP hD [0, 3] rfl rfl 0 rfl rfl rfl) rfl rfl hl.1 rfl (lv_room (Nat.le_of_ble_eq_true rfl)) dX12_count_120 ⟨by rw [hRc]; exact Nat.le_of_ble_eq_true rfl, by rw [hRs]; exact Nat.le_of_ble_eq_true rfl⟩) hP hD hS hA [0, 3] rfl (fun _ => rfl) ?_
      clear hP hD hS
      clear H locs
      intro v24 _u H locs hw hP hD hS
      subst hw
      subst hAe
      rw [hQ]
      exact W.iret (v := i_27) hx hb hr (fun t ht hW => ⟨⟨i_27, (), rfl, (mm_wk h11 (by decide)), by rw [ht]; exact hP, hK.warm hW, hD⟩, hS.F ht⟩) hS.2.2 dX12_count_123
    · refine lv_tableIn (tgt := 124) hx hb dX12_count_8 (by decide) (by decide) rfl (by decide) ?_
      refine lv_aload_n hx hb dX12_count_124 rfl (lv_at hl 1 rfl) ?_
      refine va_get (D := G) (ci := 12) (v := .ref a_7) (C := RX12) (T := TX12) (N := 38) hx hb hts (mm_i inlX12) hown hK.1 hP 0 rfl rfl 17 (by decide) (mm_h hts mm_w149) (fun _ h9 => h9) rfl dX12_count_125 ?_
      refine lv_iconst (v := 5) hx hb dX12_count_128 (by decide) ?_
      refine va_iald hx hb hK.1 hP 3 1 rfl rfl (mm_in mm_k5 (by decide)) dX12_count_129 ?_
      rw [show (mm_g [i_23, i_24, i_25, i_26, i_27, i_28, i_29, i_30, i_31, i_32, i_33, i_34, i_35, i_36, i_37, i_38, i_39, i_40, i_41, i_42, i_43, i_44, i_45, i_46, i_47, i_48, i_49, i_50, i_51, i_52]) (5 : Int32).toNatClampNeg = i_28 from mm_ge 5 (by decide) rfl]
      subst hAe
      rw [hQ]
      exact W.iret (v := i_28) hx hb hr (fun t ht hW => ⟨⟨i_28, (), rfl, (mm_wk h12 (by decide)), by rw [ht]; exact hP, hK.warm hW, hD⟩, hS.F ht⟩) hS.2.2 dX12_count_130
    · refine lv_tableIn (tgt := 131) hx hb dX12_count_8 (by decide) (by decide) rfl (by decide) ?_
      refine lv_aload_n hx hb dX12_count_131 rfl (lv_at hl 1 rfl) ?_
      refine va_get (D := G) (ci := 12) (v := .ref a_6) (C := RX12) (T := TX12) (N := 38) hx hb hts (mm_i inlX12) hown hK.1 hP 0 rfl rfl 16 (by decide) (mm_h hts mm_w148) (fun _ h9 => h9) rfl dX12_count_132 ?_
      refine lv_iconst (v := 0) hx hb dX12_count_135 (by decide) ?_
      refine va_iald hx hb hK.1 hP 2 1 rfl rfl (mm_in mm_k0 (by decide)) dX12_count_136 ?_
      rw [show (mm_g [i_18, i_19, i_20, i_21, i_22]) (0 : Int32).toNatClampNeg = i_18 from mm_ge 0 (by decide) rfl]
      subst hAe
      rw [hQ]
      exact W.iret (v := i_18) hx hb hr (fun t ht hW => ⟨⟨i_18, (), rfl, (mm_wk h2 (by decide)), by rw [ht]; exact hP, hK.warm hW, hD⟩, hS.F ht⟩) hS.2.2 dX12_count_137
    · refine lv_tableIn (tgt := 138) hx hb dX12_count_8 (by decide) (by decide) rfl (by decide) ?_
      refine lv_aload_n hx hb dX12_count_138 rfl (lv_at hl 1 rfl) ?_
      refine va_get (D := G) (ci := 12) (v := .int i_2) (C := RX12) (T := TX12) (N := 38) hx hb hts (mm_i inlX12) hown hK.1 hP 0 rfl rfl 6 (by decide) (mm_h hts mm_w178) (fun _ h9 => h9) rfl dX12_count_139 ?_
      subst hAe
      rw [hQ]
      exact W.iret (v := i_2) hx hb hr (fun t ht hW => ⟨⟨i_2, (), rfl, (mm_wk h0 (by decide)), by rw [ht]; exact hP, hK.warm hW, hD⟩, hS.F ht⟩) hS.2.2 dX12_count_142
    · refine lv_tableIn (tgt := 143) hx hb dX12_count_8 (by decide) (by decide) rfl (by decide) ?_
      refine lv_iconst (v := 0) hx hb dX12_count_143 (by decide) ?_
      refine lv_istore_n (lv' := [(3, .int 0), (2, .int 0), (0, .ref a_0), (1, .int 9)]) hx hb dX12_count_144 rfl hl (by decide) rfl ?_
      clear hl
      clear ls
      intro ls hl
      refine lv_iload_n hx hb dX12_count_145 rfl (lv_at hl 0 rfl) ?_
      refine lv_iconst (v := 4) hx hb dX12_count_146 (by decide) ?_
      refine lv_icmp_ge (tgt := 174) hx hb dX12_count_147 (by decide) (fun c25 => ?_) (fun c25 => ?_)
      · have q26 := mm_leL (mm_le c25) mm_k4 mm_k0
        exact mm_no q26 (by decide)
      · refine lv_iload_n hx hb dX12_count_150 rfl (lv_at hl 1 rfl) ?_
        refine lv_aload_n hx hb dX12_count_151 rfl (lv_at hl 2 rfl) ?_
        refine va_get (D := G) (ci := 12) (v := .ref a_1) (C := RX12) (T := TX12) (N := 38) hx hb hts (mm_i inlX12) hown hK.1 hP 0 rfl rfl 1 (by decide) (mm_h hts mm_w142) (fun _ h9 => h9) rfl dX12_count_152 ?_
        refine lv_iload_n hx hb dX12_count_155 rfl (lv_at hl 0 rfl) ?_
        refine va_iald hx hb hK.1 hP 1 1 rfl rfl (mm_in mm_k0 (by decide)) dX12_count_156 ?_
        refine lv_topi (fun v27 ev27 => ?_)
        have rv27 : mm_rg v27 (-1) 3 := mm_eqv ev27 (h1 _)
        refine lv_iconst (v := (-1)) hx hb dX12_count_157 (by decide) ?_
        refine lv_icmp_ne (tgt := 165) hx hb dX12_count_158 (by decide) (fun c28 => ?_) (fun c28 => ?_)
        · have q29 := mm_neL (lo := 0) (mm_ne c28) rv27 mm_km1 (by decide) (by decide)
          refine lv_iconst (v := 1) hx hb dX12_count_165 (by decide) ?_
          refine lv_iadd hx hb dX12_count_166 ?_
          refine lv_topi (fun v30 ev30 => ?_)
          obtain rfl : v30 = 1 := ev30.trans (by decide)
          refine lv_istore_n (lv' := [(2, .int 1), (3, .int 0), (0, .ref a_0), (1, .int 9)]) hx hb dX12_count_167 rfl hl (by decide) rfl ?_
          clear hl
          clear ls
          intro ls hl
          refine lv_iinc (v := 1) (lv' := [(3, .int 1), (2, .int 1), (0, .ref a_0), (1, .int 9)]) hx hb dX12_count_168 hl (k := 1) rfl (by decide) (by decide) rfl ?_
          clear hl
          clear ls
          intro ls hl
          refine lv_goto (tgt := 145) hx hb dX12_count_171 (by decide) ?_
          refine lv_iload_n hx hb dX12_count_145 rfl (lv_at hl 0 rfl) ?_
          refine lv_iconst (v := 4) hx hb dX12_count_146 (by decide) ?_
          refine lv_icmp_ge (tgt := 174) hx hb dX12_count_147 (by decide) (fun c31 => ?_) (fun c31 => ?_)
          · have q32 := mm_leL (mm_le c31) mm_k4 mm_k1
            exact mm_no q32 (by decide)
          · refine lv_iload_n hx hb dX12_count_150 rfl (lv_at hl 1 rfl) ?_
            refine lv_aload_n hx hb dX12_count_151 rfl (lv_at hl 2 rfl) ?_
            refine va_get (D := G) (ci := 12) (v := .ref a_1) (C := RX12) (T := TX12) (N := 38) hx hb hts (mm_i inlX12) hown hK.1 hP 0 rfl rfl 1 (by decide) (mm_h hts mm_w142) (fun _ h9 => h9) rfl dX12_count_152 ?_
            refine lv_iload_n hx hb dX12_count_155 rfl (lv_at hl 0 rfl) ?_
            refine va_iald hx hb hK.1 hP 1 1 rfl rfl (mm_in mm_k1 (by decide)) dX12_count_156 ?_
            refine lv_topi (fun v33 ev33 => ?_)
            have rv33 : mm_rg v33 (-1) 3 := mm_eqv ev33 (h1 _)
            refine lv_iconst (v := (-1)) hx hb dX12_count_157 (by decide) ?_
            refine lv_icmp_ne (tgt := 165) hx hb dX12_count_158 (by decide) (fun c34 => ?_) (fun c34 => ?_)
            · have q35 := mm_neL (lo := 0) (mm_ne c34) rv33 mm_km1 (by decide) (by decide)
              refine lv_iconst (v := 1) hx hb dX12_count_165 (by decide) ?_
              refine lv_iadd hx hb dX12_count_166 ?_
              refine lv_topi (fun v36 ev36 => ?_)
              obtain rfl : v36 = 2 := ev36.trans (by decide)
              refine lv_istore_n (lv' := [(2, .int 2), (3, .int 1), (0, .ref a_0), (1, .int 9)]) hx hb dX12_count_167 rfl hl (by decide) rfl ?_
              clear hl
              clear ls
              intro ls hl
              refine lv_iinc (v := 2) (lv' := [(3, .int 2), (2, .int 2), (0, .ref a_0), (1, .int 9)]) hx hb dX12_count_168 hl (k := 1) rfl (by decide) (by decide) rfl ?_
              clear hl
              clear ls
              intro ls hl
              refine lv_goto (tgt := 145) hx hb dX12_count_171 (by decide) ?_
              refine lv_iload_n hx hb dX12_count_145 rfl (lv_at hl 0 rfl) ?_
              refine lv_iconst (v := 4) hx hb dX12_count_146 (by decide) ?_
              refine lv_icmp_ge (tgt := 174) hx hb dX12_count_147 (by decide) (fun c37 => ?_) (fun c37 => ?_)
              · have q38 := mm_leL (mm_le c37) mm_k4 mm_k2
                exact mm_no q38 (by decide)
              · refine lv_iload_n hx hb dX12_count_150 rfl (lv_at hl 1 rfl) ?_
                refine lv_aload_n hx hb dX12_count_151 rfl (lv_at hl 2 rfl) ?_
                refine va_get (D := G) (ci := 12) (v := .ref a_1) (C := RX12) (T := TX12) (N := 38) hx hb hts (mm_i inlX12) hown hK.1 hP 0 rfl rfl 1 (by decide) (mm_h hts mm_w142) (fun _ h9 => h9) rfl dX12_count_152 ?_
                refine lv_iload_n hx hb dX12_count_155 rfl (lv_at hl 0 rfl) ?_
                refine va_iald hx hb hK.1 hP 1 1 rfl rfl (mm_in mm_k2 (by decide)) dX12_count_156 ?_
                refine lv_topi (fun v39 ev39 => ?_)
                have rv39 : mm_rg v39 (-1) 3 := mm_eqv ev39 (h1 _)
                refine lv_iconst (v := (-1)) hx hb dX12_count_157 (by decide) ?_
                refine lv_icmp_ne (tgt := 165) hx hb dX12_count_158 (by decide) (fun c40 => ?_) (fun c40 => ?_)
                · have q41 := mm_neL (lo := 0) (mm_ne c40) rv39 mm_km1 (by decide) (by decide)
                  refine lv_iconst (v := 1) hx hb dX12_count_165 (by decide) ?_
                  refine lv_iadd hx hb dX12_count_166 ?_
                  refine lv_topi (fun v42 ev42 => ?_)
                  obtain rfl : v42 = 3 := ev42.trans (by decide)
                  refine lv_istore_n (lv' := [(2, .int 3), (3, .int 2), (0, .ref a_0), (1, .int 9)]) hx hb dX12_count_167 rfl hl (by decide) rfl ?_
                  clear hl
                  clear ls
                  intro ls hl
                  refine lv_iinc (v := 3) (lv' := [(3, .int 3), (2, .int 3), (0, .ref a_0), (1, .int 9)]) hx hb dX12_count_168 hl (k := 1) rfl (by decide) (by decide) rfl ?_
                  clear hl
                  clear ls
                  intro ls hl
                  refine lv_goto (tgt := 145) hx hb dX12_count_171 (by decide) ?_
                  refine lv_iload_n hx hb dX12_count_145 rfl (lv_at hl 0 rfl) ?_
                  refine lv_iconst (v := 4) hx hb dX12_count_146 (by decide) ?_
                  refine lv_icmp_ge (tgt := 174) hx hb dX12_count_147 (by decide) (fun c43 => ?_) (fun c43 => ?_)
                  · have q44 := mm_leL (mm_le c43) mm_k4 mm_k3
                    exact mm_no q44 (by decide)
                  · refine lv_iload_n hx hb dX12_count_150 rfl (lv_at hl 1 rfl) ?_
                    refine lv_aload_n hx hb dX12_count_151 rfl (lv_at hl 2 rfl) ?_
                    refine va_get (D := G) (ci := 12) (v := .ref a_1) (C := RX12) (T := TX12) (N := 38) hx hb hts (mm_i inlX12) hown hK.1 hP 0 rfl rfl 1 (by decide) (mm_h hts mm_w142) (fun _ h9 => h9) rfl dX12_count_152 ?_
                    refine lv_iload_n hx hb dX12_count_155 rfl (lv_at hl 0 rfl) ?_
                    refine va_iald hx hb hK.1 hP 1 1 rfl rfl (mm_in mm_k3 (by decide)) dX12_count_156 ?_
                    refine lv_topi (fun v45 ev45 => ?_)
                    have rv45 : mm_rg v45 (-1) 3 := mm_eqv ev45 (h1 _)
                    refine lv_iconst (v := (-1)) hx hb dX12_count_157 (by decide) ?_
                    refine lv_icmp_ne (tgt := 165) hx hb dX12_count_158 (by decide) (fun c46 => ?_) (fun c46 => ?_)
                    · have q47 := mm_neL (lo := 0) (mm_ne c46) rv45 mm_km1 (by decide) (by decide)
                      refine lv_iconst (v := 1) hx hb dX12_count_165 (by decide) ?_
                      refine lv_iadd hx hb dX12_count_166 ?_
                      refine lv_topi (fun v48 ev48 => ?_)
                      obtain rfl : v48 = 4 := ev48.trans (by decide)
                      refine lv_istore_n (lv' := [(2, .int 4), (3, .int 3), (0, .ref a_0), (1, .int 9)]) hx hb dX12_count_167 rfl hl (by decide) rfl ?_
                      clear hl
                      clear ls
                      intro ls hl
                      refine lv_iinc (v := 4) (lv' := [(3, .int 4), (2, .int 4), (0, .ref a_0), (1, .int 9)]) hx hb dX12_count_168 hl (k := 1) rfl (by decide) (by decide) rfl ?_
                      clear hl
                      clear ls
                      intro ls hl
                      refine lv_goto (tgt := 145) hx hb dX12_count_171 (by decide) ?_
                      refine lv_iload_n hx hb dX12_count_145 rfl (lv_at hl 0 rfl) ?_
                      refine lv_iconst (v := 4) hx hb dX12_count_146 (by decide) ?_
                      refine lv_icmp_ge (tgt := 174) hx hb dX12_count_147 (by decide) (fun c49 => ?_) (fun c49 => ?_)
                      · refine lv_iload_n hx hb dX12_count_174 rfl (lv_at hl 1 rfl) ?_
                        subst hAe
                        rw [hQ]
                        exact W.iret (v := 4) hx hb hr (fun t ht hW => ⟨⟨4, (), rfl, (mm_wk mm_k4 (by decide)), by rw [ht]; exact hP, hK.warm hW, hD⟩, hS.F ht⟩) hS.2.2 dX12_count_175
                      · have q50 := mm_ltL (h := 3) (mm_nle c49) mm_k4 mm_k4 (by decide)
                        exact mm_no q50 (by decide)
                    · have q51 := mm_eqI (lo := (-1)) (hi := (-1)) c46 rv45 mm_km1 (by decide)
                      refine lv_iconst (v := 0) hx hb dX12_count_161 (by decide) ?_
                      refine lv_goto (tgt := 166) hx hb dX12_count_162 (by decide) ?_
                      refine lv_iadd hx hb dX12_count_166 ?_
                      refine lv_topi (fun v52 ev52 => ?_)
                      obtain rfl : v52 = 3 := ev52.trans (by decide)
                      refine lv_istore_n (lv' := [(2, .int 3), (3, .int 3), (0, .ref a_0), (1, .int 9)]) hx hb dX12_count_167 rfl hl (by decide) rfl ?_
                      clear hl
                      clear ls
                      intro ls hl
                      refine lv_iinc (v := 4) (lv' := [(3, .int 4), (2, .int 3), (0, .ref a_0), (1, .int 9)]) hx hb dX12_count_168 hl (k := 1) rfl (by decide) (by decide) rfl ?_
                      clear hl
                      clear ls
                      intro ls hl
                      refine lv_goto (tgt := 145) hx hb dX12_count_171 (by decide) ?_
                      refine lv_iload_n hx hb dX12_count_145 rfl (lv_at hl 0 rfl) ?_
                      refine lv_iconst (v := 4) hx hb dX12_count_146 (by decide) ?_
                      refine lv_icmp_ge (tgt := 174) hx hb dX12_count_147 (by decide) (fun c53 => ?_) (fun c53 => ?_)
                      · refine lv_iload_n hx hb dX12_count_174 rfl (lv_at hl 1 rfl) ?_
                        subst hAe
                        rw [hQ]
                        exact W.iret (v := 3) hx hb hr (fun t ht hW => ⟨⟨3, (), rfl, (mm_wk mm_k3 (by decide)), by rw [ht]; exact hP, hK.warm hW, hD⟩, hS.F ht⟩) hS.2.2 dX12_count_175
                      · have q54 := mm_ltL (h := 3) (mm_nle c53) mm_k4 mm_k4 (by decide)
                        exact mm_no q54 (by decide)
                · have q55 := mm_eqI (lo := (-1)) (hi := (-1)) c40 rv39 mm_km1 (by decide)
                  refine lv_iconst (v := 0) hx hb dX12_count_161 (by decide) ?_
                  refine lv_goto (tgt := 166) hx hb dX12_count_162 (by decide) ?_
                  refine lv_iadd hx hb dX12_count_166 ?_
                  refine lv_topi (fun v56 ev56 => ?_)
                  obtain rfl : v56 = 2 := ev56.trans (by decide)
                  refine lv_istore_n (lv' := [(2, .int 2), (3, .int 2), (0, .ref a_0), (1, .int 9)]) hx hb dX12_count_167 rfl hl (by decide) rfl ?_
                  clear hl
                  clear ls
                  intro ls hl
                  refine lv_iinc (v := 3) (lv' := [(3, .int 3), (2, .int 2), (0, .ref a_0), (1, .int 9)]) hx hb dX12_count_168 hl (k := 1) rfl (by decide) (by decide) rfl ?_
                  clear hl
                  clear ls
                  intro ls hl
                  refine lv_goto (tgt := 145) hx hb dX12_count_171 (by decide) ?_
                  refine lv_iload_n hx hb dX12_count_145 rfl (lv_at hl 0 rfl) ?_
                  refine lv_iconst (v := 4) hx hb dX12_count_146 (by decide) ?_
                  refine lv_icmp_ge (tgt := 174) hx hb dX12_count_147 (by decide) (fun c57 => ?_) (fun c57 => ?_)
                  · have q58 := mm_leL (mm_le c57) mm_k4 mm_k3
                    exact mm_no q58 (by decide)
                  · refine lv_iload_n hx hb dX12_count_150 rfl (lv_at hl 1 rfl) ?_
                    refine lv_aload_n hx hb dX12_count_151 rfl (lv_at hl 2 rfl) ?_
                    refine va_get (D := G) (ci := 12) (v := .ref a_1) (C := RX12) (T := TX12) (N := 38) hx hb hts (mm_i inlX12) hown hK.1 hP 0 rfl rfl 1 (by decide) (mm_h hts mm_w142) (fun _ h9 => h9) rfl dX12_count_152 ?_
                    refine lv_iload_n hx hb dX12_count_155 rfl (lv_at hl 0 rfl) ?_
                    refine va_iald hx hb hK.1 hP 1 1 rfl rfl (mm_in mm_k3 (by decide)) dX12_count_156 ?_
                    refine lv_topi (fun v59 ev59 => ?_)
                    have rv59 : mm_rg v59 (-1) 3 := mm_eqv ev59 (h1 _)
                    refine lv_iconst (v := (-1)) hx hb dX12_count_157 (by decide) ?_
                    refine lv_icmp_ne (tgt := 165) hx hb dX12_count_158 (by decide) (fun c60 => ?_) (fun c60 => ?_)
                    · have q61 := mm_neL (lo := 0) (mm_ne c60) rv59 mm_km1 (by decide) (by decide)
                      refine lv_iconst (v := 1) hx hb dX12_count_165 (by decide) ?_
                      refine lv_iadd hx hb dX12_count_166 ?_
                      refine lv_topi (fun v62 ev62 => ?_)
                      obtain rfl : v62 = 3 := ev62.trans (by decide)
                      refine lv_istore_n (lv' := [(2, .int 3), (3, .int 3), (0, .ref a_0), (1, .int 9)]) hx hb dX12_count_167 rfl hl (by decide) rfl ?_
                      clear hl
                      clear ls
                      intro ls hl
                      refine lv_iinc (v := 4) (lv' := [(3, .int 4), (2, .int 3), (0, .ref a_0), (1, .int 9)]) hx hb dX12_count_168 hl (k := 1) rfl (by decide) (by decide) rfl ?_
                      clear hl
                      clear ls
                      intro ls hl
                      refine lv_goto (tgt := 145) hx hb dX12_count_171 (by decide) ?_
                      refine lv_iload_n hx hb dX12_count_145 rfl (lv_at hl 0 rfl) ?_
                      refine lv_iconst (v := 4) hx hb dX12_count_146 (by decide) ?_
                      refine lv_icmp_ge (tgt := 174) hx hb dX12_count_147 (by decide) (fun c63 => ?_) (fun c63 => ?_)
                      · refine lv_iload_n hx hb dX12_count_174 rfl (lv_at hl 1 rfl) ?_
                        subst hAe
                        rw [hQ]
                        exact W.iret (v := 3) hx hb hr (fun t ht hW => ⟨⟨3, (), rfl, (mm_wk mm_k3 (by decide)), by rw [ht]; exact hP, hK.warm hW, hD⟩, hS.F ht⟩) hS.2.2 dX12_count_175
                      · have q64 := mm_ltL (h := 3) (mm_nle c63) mm_k4 mm_k4 (by decide)
                        exact mm_no q64 (by decide)
                    · have q65 := mm_eqI (lo := (-1)) (hi := (-1)) c60 rv59 mm_km1 (by decide)
                      refine lv_iconst (v := 0) hx hb dX12_count_161 (by decide) ?_
                      refine lv_goto (tgt := 166) hx hb dX12_count_162 (by decide) ?_
                      refine lv_iadd hx hb dX12_count_166 ?_
                      refine lv_topi (fun v66 ev66 => ?_)
                      obtain rfl : v66 = 2 := ev66.trans (by decide)
                      refine lv_istore_n (lv' := [(2, .int 2), (3, .int 3), (0, .ref a_0), (1, .int 9)]) hx hb dX12_count_167 rfl hl (by decide) rfl ?_
                      clear hl
                      clear ls
                      intro ls hl
                      refine lv_iinc (v := 4) (lv' := [(3, .int 4), (2, .int 2), (0, .ref a_0), (1, .int 9)]) hx hb dX12_count_168 hl (k := 1) rfl (by decide) (by decide) rfl ?_
                      clear hl
                      clear ls
                      intro ls hl
                      refine lv_goto (tgt := 145) hx hb dX12_count_171 (by decide) ?_
                      refine lv_iload_n hx hb dX12_count_145 rfl (lv_at hl 0 rfl) ?_
                      refine lv_iconst (v := 4) hx hb dX12_count_146 (by decide) ?_
                      refine lv_icmp_ge (tgt := 174) hx hb dX12_count_147 (by decide) (fun c67 => ?_) (fun c67 => ?_)
                      · refine lv_iload_n hx hb dX12_count_174 rfl (lv_at hl 1 rfl) ?_
                        subst hAe
                        rw [hQ]
                        exact W.iret (v := 2) hx hb hr (fun t ht hW => ⟨⟨2, (), rfl, (mm_wk mm_k2 (by decide)), by rw [ht]; exact hP, hK.warm hW, hD⟩, hS.F ht⟩) hS.2.2 dX12_count_175
                      · have q68 := mm_ltL (h := 3) (mm_nle c67) mm_k4 mm_k4 (by decide)
                        exact mm_no q68 (by decide)
            · have q69 := mm_eqI (lo := (-1)) (hi := (-1)) c34 rv33 mm_km1 (by decide)
              refine lv_iconst (v := 0) hx hb dX12_count_161 (by decide) ?_
              refine lv_goto (tgt := 166) hx hb dX12_count_162 (by decide) ?_
              refine lv_iadd hx hb dX12_count_166 ?_
              refine lv_topi (fun v70 ev70 => ?_)
              obtain rfl : v70 = 1 := ev70.trans (by decide)
              refine lv_istore_n (lv' := [(2, .int 1), (3, .int 1), (0, .ref a_0), (1, .int 9)]) hx hb dX12_count_167 rfl hl (by decide) rfl ?_
              clear hl
              clear ls
              intro ls hl
              refine lv_iinc (v := 2) (lv' := [(3, .int 2), (2, .int 1), (0, .ref a_0), (1, .int 9)]) hx hb dX12_count_168 hl (k := 1) rfl (by decide) (by decide) rfl ?_
              clear hl
              clear ls
              intro ls hl
              refine lv_goto (tgt := 145) hx hb dX12_count_171 (by decide) ?_
              refine lv_iload_n hx hb dX12_count_145 rfl (lv_at hl 0 rfl) ?_
              refine lv_iconst (v := 4) hx hb dX12_count_146 (by decide) ?_
              refine lv_icmp_ge (tgt := 174) hx hb dX12_count_147 (by decide) (fun c71 => ?_) (fun c71 => ?_)
              · have q72 := mm_leL (mm_le c71) mm_k4 mm_k2
                exact mm_no q72 (by decide)
              · refine lv_iload_n hx hb dX12_count_150 rfl (lv_at hl 1 rfl) ?_
                refine lv_aload_n hx hb dX12_count_151 rfl (lv_at hl 2 rfl) ?_
                refine va_get (D := G) (ci := 12) (v := .ref a_1) (C := RX12) (T := TX12) (N := 38) hx hb hts (mm_i inlX12) hown hK.1 hP 0 rfl rfl 1 (by decide) (mm_h hts mm_w142) (fun _ h9 => h9) rfl dX12_count_152 ?_
                refine lv_iload_n hx hb dX12_count_155 rfl (lv_at hl 0 rfl) ?_
                refine va_iald hx hb hK.1 hP 1 1 rfl rfl (mm_in mm_k2 (by decide)) dX12_count_156 ?_
                refine lv_topi (fun v73 ev73 => ?_)
                have rv73 : mm_rg v73 (-1) 3 := mm_eqv ev73 (h1 _)
                refine lv_iconst (v := (-1)) hx hb dX12_count_157 (by decide) ?_
                refine lv_icmp_ne (tgt := 165) hx hb dX12_count_158 (by decide) (fun c74 => ?_) (fun c74 => ?_)
                · have q75 := mm_neL (lo := 0) (mm_ne c74) rv73 mm_km1 (by decide) (by decide)
                  refine lv_iconst (v := 1) hx hb dX12_count_165 (by decide) ?_
                  refine lv_iadd hx hb dX12_count_166 ?_
                  refine lv_topi (fun v76 ev76 => ?_)
                  obtain rfl : v76 = 2 := ev76.trans (by decide)
                  refine lv_istore_n (lv' := [(2, .int 2), (3, .int 2), (0, .ref a_0), (1, .int 9)]) hx hb dX12_count_167 rfl hl (by decide) rfl ?_
                  clear hl
                  clear ls
                  intro ls hl
                  refine lv_iinc (v := 3) (lv' := [(3, .int 3), (2, .int 2), (0, .ref a_0), (1, .int 9)]) hx hb dX12_count_168 hl (k := 1) rfl (by decide) (by decide) rfl ?_
                  clear hl
                  clear ls
                  intro ls hl
                  refine lv_goto (tgt := 145) hx hb dX12_count_171 (by decide) ?_
                  refine lv_iload_n hx hb dX12_count_145 rfl (lv_at hl 0 rfl) ?_
                  refine lv_iconst (v := 4) hx hb dX12_count_146 (by decide) ?_
                  refine lv_icmp_ge (tgt := 174) hx hb dX12_count_147 (by decide) (fun c77 => ?_) (fun c77 => ?_)
                  · have q78 := mm_leL (mm_le c77) mm_k4 mm_k3
                    exact mm_no q78 (by decide)
                  · refine lv_iload_n hx hb dX12_count_150 rfl (lv_at hl 1 rfl) ?_
                    refine lv_aload_n hx hb dX12_count_151 rfl (lv_at hl 2 rfl) ?_
                    refine va_get (D := G) (ci := 12) (v := .ref a_1) (C := RX12) (T := TX12) (N := 38) hx hb hts (mm_i inlX12) hown hK.1 hP 0 rfl rfl 1 (by decide) (mm_h hts mm_w142) (fun _ h9 => h9) rfl dX12_count_152 ?_
                    refine lv_iload_n hx hb dX12_count_155 rfl (lv_at hl 0 rfl) ?_
                    refine va_iald hx hb hK.1 hP 1 1 rfl rfl (mm_in mm_k3 (by decide)) dX12_count_156 ?_
                    refine lv_topi (fun v79 ev79 => ?_)
                    have rv79 : mm_rg v79 (-1) 3 := mm_eqv ev79 (h1 _)
                    refine lv_iconst (v := (-1)) hx hb dX12_count_157 (by decide) ?_
                    refine lv_icmp_ne (tgt := 165) hx hb dX12_count_158 (by decide) (fun c80 => ?_) (fun c80 => ?_)
                    · have q81 := mm_neL (lo := 0) (mm_ne c80) rv79 mm_km1 (by decide) (by decide)
                      refine lv_iconst (v := 1) hx hb dX12_count_165 (by decide) ?_
                      refine lv_iadd hx hb dX12_count_166 ?_
                      refine lv_topi (fun v82 ev82 => ?_)
                      obtain rfl : v82 = 3 := ev82.trans (by decide)
                      refine lv_istore_n (lv' := [(2, .int 3), (3, .int 3), (0, .ref a_0), (1, .int 9)]) hx hb dX12_count_167 rfl hl (by decide) rfl ?_
                      clear hl
                      clear ls
                      intro ls hl
                      refine lv_iinc (v := 4) (lv' := [(3, .int 4), (2, .int 3), (0, .ref a_0), (1, .int 9)]) hx hb dX12_count_168 hl (k := 1) rfl (by decide) (by decide) rfl ?_
                      clear hl
                      clear ls
                      intro ls hl
                      refine lv_goto (tgt := 145) hx hb dX12_count_171 (by decide) ?_
                      refine lv_iload_n hx hb dX12_count_145 rfl (lv_at hl 0 rfl) ?_
                      refine lv_iconst (v := 4) hx hb dX12_count_146 (by decide) ?_
                      refine lv_icmp_ge (tgt := 174) hx hb dX12_count_147 (by decide) (fun c83 => ?_) (fun c83 => ?_)
                      · refine lv_iload_n hx hb dX12_count_174 rfl (lv_at hl 1 rfl) ?_
                        subst hAe
                        rw [hQ]
                        exact W.iret (v := 3) hx hb hr (fun t ht hW => ⟨⟨3, (), rfl, (mm_wk mm_k3 (by decide)), by rw [ht]; exact hP, hK.warm hW, hD⟩, hS.F ht⟩) hS.2.2 dX12_count_175
                      · have q84 := mm_ltL (h := 3) (mm_nle c83) mm_k4 mm_k4 (by decide)
                        exact mm_no q84 (by decide)
                    · have q85 := mm_eqI (lo := (-1)) (hi := (-1)) c80 rv79 mm_km1 (by decide)
                      refine lv_iconst (v := 0) hx hb dX12_count_161 (by decide) ?_
                      refine lv_goto (tgt := 166) hx hb dX12_count_162 (by decide) ?_
                      refine lv_iadd hx hb dX12_count_166 ?_
                      refine lv_topi (fun v86 ev86 => ?_)
                      obtain rfl : v86 = 2 := ev86.trans (by decide)
                      refine lv_istore_n (lv' := [(2, .int 2), (3, .int 3), (0, .ref a_0), (1, .int 9)]) hx hb dX12_count_167 rfl hl (by decide) rfl ?_
                      clear hl
                      clear ls
                      intro ls hl
                      refine lv_iinc (v := 4) (lv' := [(3, .int 4), (2, .int 2), (0, .ref a_0), (1, .int 9)]) hx hb dX12_count_168 hl (k := 1) rfl (by decide) (by decide) rfl ?_
                      clear hl
                      clear ls
                      intro ls hl
                      refine lv_goto (tgt := 145) hx hb dX12_count_171 (by decide) ?_
                      refine lv_iload_n hx hb dX12_count_145 rfl (lv_at hl 0 rfl) ?_
                      refine lv_iconst (v := 4) hx hb dX12_count_146 (by decide) ?_
                      refine lv_icmp_ge (tgt := 174) hx hb dX12_count_147 (by decide) (fun c87 => ?_) (fun c87 => ?_)
                      · refine lv_iload_n hx hb dX12_count_174 rfl (lv_at hl 1 rfl) ?_
                        subst hAe
                        rw [hQ]
                        exact W.iret (v := 2) hx hb hr (fun t ht hW => ⟨⟨2, (), rfl, (mm_wk mm_k2 (by decide)), by rw [ht]; exact hP, hK.warm hW, hD⟩, hS.F ht⟩) hS.2.2 dX12_count_175
                      · have q88 := mm_ltL (h := 3) (mm_nle c87) mm_k4 mm_k4 (by decide)
                        exact mm_no q88 (by decide)
                · have q89 := mm_eqI (lo := (-1)) (hi := (-1)) c74 rv73 mm_km1 (by decide)
                  refine lv_iconst (v := 0) hx hb dX12_count_161 (by decide) ?_
                  refine lv_goto (tgt := 166) hx hb dX12_count_162 (by decide) ?_
                  refine lv_iadd hx hb dX12_count_166 ?_
                  refine lv_topi (fun v90 ev90 => ?_)
                  obtain rfl : v90 = 1 := ev90.trans (by decide)
                  refine lv_istore_n (lv' := [(2, .int 1), (3, .int 2), (0, .ref a_0), (1, .int 9)]) hx hb dX12_count_167 rfl hl (by decide) rfl ?_
                  clear hl
                  clear ls
                  intro ls hl
                  refine lv_iinc (v := 3) (lv' := [(3, .int 3), (2, .int 1), (0, .ref a_0), (1, .int 9)]) hx hb dX12_count_168 hl (k := 1) rfl (by decide) (by decide) rfl ?_
                  clear hl
                  clear ls
                  intro ls hl
                  refine lv_goto (tgt := 145) hx hb dX12_count_171 (by decide) ?_
                  refine lv_iload_n hx hb dX12_count_145 rfl (lv_at hl 0 rfl) ?_
                  refine lv_iconst (v := 4) hx hb dX12_count_146 (by decide) ?_
                  refine lv_icmp_ge (tgt := 174) hx hb dX12_count_147 (by decide) (fun c91 => ?_) (fun c91 => ?_)
                  · have q92 := mm_leL (mm_le c91) mm_k4 mm_k3
                    exact mm_no q92 (by decide)
                  · refine lv_iload_n hx hb dX12_count_150 rfl (lv_at hl 1 rfl) ?_
                    refine lv_aload_n hx hb dX12_count_151 rfl (lv_at hl 2 rfl) ?_
                    refine va_get (D := G) (ci := 12) (v := .ref a_1) (C := RX12) (T := TX12) (N := 38) hx hb hts (mm_i inlX12) hown hK.1 hP 0 rfl rfl 1 (by decide) (mm_h hts mm_w142) (fun _ h9 => h9) rfl dX12_count_152 ?_
                    refine lv_iload_n hx hb dX12_count_155 rfl (lv_at hl 0 rfl) ?_
                    refine va_iald hx hb hK.1 hP 1 1 rfl rfl (mm_in mm_k3 (by decide)) dX12_count_156 ?_
                    refine lv_topi (fun v93 ev93 => ?_)
                    have rv93 : mm_rg v93 (-1) 3 := mm_eqv ev93 (h1 _)
                    refine lv_iconst (v := (-1)) hx hb dX12_count_157 (by decide) ?_
                    refine lv_icmp_ne (tgt := 165) hx hb dX12_count_158 (by decide) (fun c94 => ?_) (fun c94 => ?_)
                    · have q95 := mm_neL (lo := 0) (mm_ne c94) rv93 mm_km1 (by decide) (by decide)
                      refine lv_iconst (v := 1) hx hb dX12_count_165 (by decide) ?_
                      refine lv_iadd hx hb dX12_count_166 ?_
                      refine lv_topi (fun v96 ev96 => ?_)
                      obtain rfl : v96 = 2 := ev96.trans (by decide)
                      refine lv_istore_n (lv' := [(2, .int 2), (3, .int 3), (0, .ref a_0), (1, .int 9)]) hx hb dX12_count_167 rfl hl (by decide) rfl ?_
                      clear hl
                      clear ls
                      intro ls hl
                      refine lv_iinc (v := 4) (lv' := [(3, .int 4), (2, .int 2), (0, .ref a_0), (1, .int 9)]) hx hb dX12_count_168 hl (k := 1) rfl (by decide) (by decide) rfl ?_
                      clear hl
                      clear ls
                      intro ls hl
                      refine lv_goto (tgt := 145) hx hb dX12_count_171 (by decide) ?_
                      refine lv_iload_n hx hb dX12_count_145 rfl (lv_at hl 0 rfl) ?_
                      refine lv_iconst (v := 4) hx hb dX12_count_146 (by decide) ?_
                      refine lv_icmp_ge (tgt := 174) hx hb dX12_count_147 (by decide) (fun c97 => ?_) (fun c97 => ?_)
                      · refine lv_iload_n hx hb dX12_count_174 rfl (lv_at hl 1 rfl) ?_
                        subst hAe
                        rw [hQ]
                        exact W.iret (v := 2) hx hb hr (fun t ht hW => ⟨⟨2, (), rfl, (mm_wk mm_k2 (by decide)), by rw [ht]; exact hP, hK.warm hW, hD⟩, hS.F ht⟩) hS.2.2 dX12_count_175
                      · have q98 := mm_ltL (h := 3) (mm_nle c97) mm_k4 mm_k4 (by decide)
                        exact mm_no q98 (by decide)
                    · have q99 := mm_eqI (lo := (-1)) (hi := (-1)) c94 rv93 mm_km1 (by decide)
                      refine lv_iconst (v := 0) hx hb dX12_count_161 (by decide) ?_
                      refine lv_goto (tgt := 166) hx hb dX12_count_162 (by decide) ?_
                      refine lv_iadd hx hb dX12_count_166 ?_
                      refine lv_topi (fun v100 ev100 => ?_)
                      obtain rfl : v100 = 1 := ev100.trans (by decide)
                      refine lv_istore_n (lv' := [(2, .int 1), (3, .int 3), (0, .ref a_0), (1, .int 9)]) hx hb dX12_count_167 rfl hl (by decide) rfl ?_
                      clear hl
                      clear ls
                      intro ls hl
                      refine lv_iinc (v := 4) (lv' := [(3, .int 4), (2, .int 1), (0, .ref a_0), (1, .int 9)]) hx hb dX12_count_168 hl (k := 1) rfl (by decide) (by decide) rfl ?_
                      clear hl
                      clear ls
                      intro ls hl
                      refine lv_goto (tgt := 145) hx hb dX12_count_171 (by decide) ?_
                      refine lv_iload_n hx hb dX12_count_145 rfl (lv_at hl 0 rfl) ?_
                      refine lv_iconst (v := 4) hx hb dX12_count_146 (by decide) ?_
                      refine lv_icmp_ge (tgt := 174) hx hb dX12_count_147 (by decide) (fun c101 => ?_) (fun c101 => ?_)
                      · refine lv_iload_n hx hb dX12_count_174 rfl (lv_at hl 1 rfl) ?_
                        subst hAe
                        rw [hQ]
                        exact W.iret (v := 1) hx hb hr (fun t ht hW => ⟨⟨1, (), rfl, (mm_wk mm_k1 (by decide)), by rw [ht]; exact hP, hK.warm hW, hD⟩, hS.F ht⟩) hS.2.2 dX12_count_175
                      · have q102 := mm_ltL (h := 3) (mm_nle c101) mm_k4 mm_k4 (by decide)
                        exact mm_no q102 (by decide)
        · have q103 := mm_eqI (lo := (-1)) (hi := (-1)) c28 rv27 mm_km1 (by decide)
          refine lv_iconst (v := 0) hx hb dX12_count_161 (by decide) ?_
          refine lv_goto (tgt := 166) hx hb dX12_count_162 (by decide) ?_
          refine lv_iadd hx hb dX12_count_166 ?_
          refine lv_topi (fun v104 ev104 => ?_)
          obtain rfl : v104 = 0 := ev104.trans (by decide)
          refine lv_istore_n (lv' := [(2, .int 0), (3, .int 0), (0, .ref a_0), (1, .int 9)]) hx hb dX12_count_167 rfl hl (by decide) rfl ?_
          clear hl
          clear ls
          intro ls hl
          refine lv_iinc (v := 1) (lv' := [(3, .int 1), (2, .int 0), (0, .ref a_0), (1, .int 9)]) hx hb dX12_count_168 hl (k := 1) rfl (by decide) (by decide) rfl ?_
          clear hl
          clear ls
          intro ls hl
          refine lv_goto (tgt := 145) hx hb dX12_count_171 (by decide) ?_
          refine lv_iload_n hx hb dX12_count_145 rfl (lv_at hl 0 rfl) ?_
          refine lv_iconst (v := 4) hx hb dX12_count_146 (by decide) ?_
          refine lv_icmp_ge (tgt := 174) hx hb dX12_count_147 (by decide) (fun c105 => ?_) (fun c105 => ?_)
          · have q106 := mm_leL (mm_le c105) mm_k4 mm_k1
            exact mm_no q106 (by decide)
          · refine lv_iload_n hx hb dX12_count_150 rfl (lv_at hl 1 rfl) ?_
            refine lv_aload_n hx hb dX12_count_151 rfl (lv_at hl 2 rfl) ?_
            refine va_get (D := G) (ci := 12) (v := .ref a_1) (C := RX12) (T := TX12) (N := 38) hx hb hts (mm_i inlX12) hown hK.1 hP 0 rfl rfl 1 (by decide) (mm_h hts mm_w142) (fun _ h9 => h9) rfl dX12_count_152 ?_
            refine lv_iload_n hx hb dX12_count_155 rfl (lv_at hl 0 rfl) ?_
            refine va_iald hx hb hK.1 hP 1 1 rfl rfl (mm_in mm_k1 (by decide)) dX12_count_156 ?_
            refine lv_topi (fun v107 ev107 => ?_)
            have rv107 : mm_rg v107 (-1) 3 := mm_eqv ev107 (h1 _)
            refine lv_iconst (v := (-1)) hx hb dX12_count_157 (by decide) ?_
            refine lv_icmp_ne (tgt := 165) hx hb dX12_count_158 (by decide) (fun c108 => ?_) (fun c108 => ?_)
            · have q109 := mm_neL (lo := 0) (mm_ne c108) rv107 mm_km1 (by decide) (by decide)
              refine lv_iconst (v := 1) hx hb dX12_count_165 (by decide) ?_
              refine lv_iadd hx hb dX12_count_166 ?_
              refine lv_topi (fun v110 ev110 => ?_)
              obtain rfl : v110 = 1 := ev110.trans (by decide)
              refine lv_istore_n (lv' := [(2, .int 1), (3, .int 1), (0, .ref a_0), (1, .int 9)]) hx hb dX12_count_167 rfl hl (by decide) rfl ?_
              clear hl
              clear ls
              intro ls hl
              refine lv_iinc (v := 2) (lv' := [(3, .int 2), (2, .int 1), (0, .ref a_0), (1, .int 9)]) hx hb dX12_count_168 hl (k := 1) rfl (by decide) (by decide) rfl ?_
              clear hl
              clear ls
              intro ls hl
              refine lv_goto (tgt := 145) hx hb dX12_count_171 (by decide) ?_
              refine lv_iload_n hx hb dX12_count_145 rfl (lv_at hl 0 rfl) ?_
              refine lv_iconst (v := 4) hx hb dX12_count_146 (by decide) ?_
              refine lv_icmp_ge (tgt := 174) hx hb dX12_count_147 (by decide) (fun c111 => ?_) (fun c111 => ?_)
              · have q112 := mm_leL (mm_le c111) mm_k4 mm_k2
                exact mm_no q112 (by decide)
              · refine lv_iload_n hx hb dX12_count_150 rfl (lv_at hl 1 rfl) ?_
                refine lv_aload_n hx hb dX12_count_151 rfl (lv_at hl 2 rfl) ?_
                refine va_get (D := G) (ci := 12) (v := .ref a_1) (C := RX12) (T := TX12) (N := 38) hx hb hts (mm_i inlX12) hown hK.1 hP 0 rfl rfl 1 (by decide) (mm_h hts mm_w142) (fun _ h9 => h9) rfl dX12_count_152 ?_
                refine lv_iload_n hx hb dX12_count_155 rfl (lv_at hl 0 rfl) ?_
                refine va_iald hx hb hK.1 hP 1 1 rfl rfl (mm_in mm_k2 (by decide)) dX12_count_156 ?_
                refine lv_topi (fun v113 ev113 => ?_)
                have rv113 : mm_rg v113 (-1) 3 := mm_eqv ev113 (h1 _)
                refine lv_iconst (v := (-1)) hx hb dX12_count_157 (by decide) ?_
                refine lv_icmp_ne (tgt := 165) hx hb dX12_count_158 (by decide) (fun c114 => ?_) (fun c114 => ?_)
                · have q115 := mm_neL (lo := 0) (mm_ne c114) rv113 mm_km1 (by decide) (by decide)
                  refine lv_iconst (v := 1) hx hb dX12_count_165 (by decide) ?_
                  refine lv_iadd hx hb dX12_count_166 ?_
                  refine lv_topi (fun v116 ev116 => ?_)
                  obtain rfl : v116 = 2 := ev116.trans (by decide)
                  refine lv_istore_n (lv' := [(2, .int 2), (3, .int 2), (0, .ref a_0), (1, .int 9)]) hx hb dX12_count_167 rfl hl (by decide) rfl ?_
                  clear hl
                  clear ls
                  intro ls hl
                  refine lv_iinc (v := 3) (lv' := [(3, .int 3), (2, .int 2), (0, .ref a_0), (1, .int 9)]) hx hb dX12_count_168 hl (k := 1) rfl (by decide) (by decide) rfl ?_
                  clear hl
                  clear ls
                  intro ls hl
                  refine lv_goto (tgt := 145) hx hb dX12_count_171 (by decide) ?_
                  refine lv_iload_n hx hb dX12_count_145 rfl (lv_at hl 0 rfl) ?_
                  refine lv_iconst (v := 4) hx hb dX12_count_146 (by decide) ?_
                  refine lv_icmp_ge (tgt := 174) hx hb dX12_count_147 (by decide) (fun c117 => ?_) (fun c117 => ?_)
                  · have q118 := mm_leL (mm_le c117) mm_k4 mm_k3
                    exact mm_no q118 (by decide)
                  · refine lv_iload_n hx hb dX12_count_150 rfl (lv_at hl 1 rfl) ?_
                    refine lv_aload_n hx hb dX12_count_151 rfl (lv_at hl 2 rfl) ?_
                    refine va_get (D := G) (ci := 12) (v := .ref a_1) (C := RX12) (T := TX12) (N := 38) hx hb hts (mm_i inlX12) hown hK.1 hP 0 rfl rfl 1 (by decide) (mm_h hts mm_w142) (fun _ h9 => h9) rfl dX12_count_152 ?_
                    refine lv_iload_n hx hb dX12_count_155 rfl (lv_at hl 0 rfl) ?_
                    refine va_iald hx hb hK.1 hP 1 1 rfl rfl (mm_in mm_k3 (by decide)) dX12_count_156 ?_
                    refine lv_topi (fun v119 ev119 => ?_)
                    have rv119 : mm_rg v119 (-1) 3 := mm_eqv ev119 (h1 _)
                    refine lv_iconst (v := (-1)) hx hb dX12_count_157 (by decide) ?_
                    refine lv_icmp_ne (tgt := 165) hx hb dX12_count_158 (by decide) (fun c120 => ?_) (fun c120 => ?_)
                    · have q121 := mm_neL (lo := 0) (mm_ne c120) rv119 mm_km1 (by decide) (by decide)
                      refine lv_iconst (v := 1) hx hb dX12_count_165 (by decide) ?_
                      refine lv_iadd hx hb dX12_count_166 ?_
                      refine lv_topi (fun v122 ev122 => ?_)
                      obtain rfl : v122 = 3 := ev122.trans (by decide)
                      refine lv_istore_n (lv' := [(2, .int 3), (3, .int 3), (0, .ref a_0), (1, .int 9)]) hx hb dX12_count_167 rfl hl (by decide) rfl ?_
                      clear hl
                      clear ls
                      intro ls hl
                      refine lv_iinc (v := 4) (lv' := [(3, .int 4), (2, .int 3), (0, .ref a_0), (1, .int 9)]) hx hb dX12_count_168 hl (k := 1) rfl (by decide) (by decide) rfl ?_
                      clear hl
                      clear ls
                      intro ls hl
                      refine lv_goto (tgt := 145) hx hb dX12_count_171 (by decide) ?_
                      refine lv_iload_n hx hb dX12_count_145 rfl (lv_at hl 0 rfl) ?_
                      refine lv_iconst (v := 4) hx hb dX12_count_146 (by decide) ?_
                      refine lv_icmp_ge (tgt := 174) hx hb dX12_count_147 (by decide) (fun c123 => ?_) (fun c123 => ?_)
                      · refine lv_iload_n hx hb dX12_count_174 rfl (lv_at hl 1 rfl) ?_
                        subst hAe
                        rw [hQ]
                        exact W.iret (v := 3) hx hb hr (fun t ht hW => ⟨⟨3, (), rfl, (mm_wk mm_k3 (by decide)), by rw [ht]; exact hP, hK.warm hW, hD⟩, hS.F ht⟩) hS.2.2 dX12_count_175
                      · have q124 := mm_ltL (h := 3) (mm_nle c123) mm_k4 mm_k4 (by decide)
                        exact mm_no q124 (by decide)
                    · have q125 := mm_eqI (lo := (-1)) (hi := (-1)) c120 rv119 mm_km1 (by decide)
                      refine lv_iconst (v := 0) hx hb dX12_count_161 (by decide) ?_
                      refine lv_goto (tgt := 166) hx hb dX12_count_162 (by decide) ?_
                      refine lv_iadd hx hb dX12_count_166 ?_
                      refine lv_topi (fun v126 ev126 => ?_)
                      obtain rfl : v126 = 2 := ev126.trans (by decide)
                      refine lv_istore_n (lv' := [(2, .int 2), (3, .int 3), (0, .ref a_0), (1, .int 9)]) hx hb dX12_count_167 rfl hl (by decide) rfl ?_
                      clear hl
                      clear ls
                      intro ls hl
                      refine lv_iinc (v := 4) (lv' := [(3, .int 4), (2, .int 2), (0, .ref a_0), (1, .int 9)]) hx hb dX12_count_168 hl (k := 1) rfl (by decide) (by decide) rfl ?_
                      clear hl
                      clear ls
                      intro ls hl
                      refine lv_goto (tgt := 145) hx hb dX12_count_171 (by decide) ?_
                      refine lv_iload_n hx hb dX12_count_145 rfl (lv_at hl 0 rfl) ?_
                      refine lv_iconst (v := 4) hx hb dX12_count_146 (by decide) ?_
                      refine lv_icmp_ge (tgt := 174) hx hb dX12_count_147 (by decide) (fun c127 => ?_) (fun c127 => ?_)
                      · refine lv_iload_n hx hb dX12_count_174 rfl (lv_at hl 1 rfl) ?_
                        subst hAe
                        rw [hQ]
                        exact W.iret (v := 2) hx hb hr (fun t ht hW => ⟨⟨2, (), rfl, (mm_wk mm_k2 (by decide)), by rw [ht]; exact hP, hK.warm hW, hD⟩, hS.F ht⟩) hS.2.2 dX12_count_175
                      · have q128 := mm_ltL (h := 3) (mm_nle c127) mm_k4 mm_k4 (by decide)
                        exact mm_no q128 (by decide)
                · have q129 := mm_eqI (lo := (-1)) (hi := (-1)) c114 rv113 mm_km1 (by decide)
                  refine lv_iconst (v := 0) hx hb dX12_count_161 (by decide) ?_
                  refine lv_goto (tgt := 166) hx hb dX12_count_162 (by decide) ?_
                  refine lv_iadd hx hb dX12_count_166 ?_
                  refine lv_topi (fun v130 ev130 => ?_)
                  obtain rfl : v130 = 1 := ev130.trans (by decide)
                  refine lv_istore_n (lv' := [(2, .int 1), (3, .int 2), (0, .ref a_0), (1, .int 9)]) hx hb dX12_count_167 rfl hl (by decide) rfl ?_
                  clear hl
                  clear ls
                  intro ls hl
                  refine lv_iinc (v := 3) (lv' := [(3, .int 3), (2, .int 1), (0, .ref a_0), (1, .int 9)]) hx hb dX12_count_168 hl (k := 1) rfl (by decide) (by decide) rfl ?_
                  clear hl
                  clear ls
                  intro ls hl
                  refine lv_goto (tgt := 145) hx hb dX12_count_171 (by decide) ?_
                  refine lv_iload_n hx hb dX12_count_145 rfl (lv_at hl 0 rfl) ?_
                  refine lv_iconst (v := 4) hx hb dX12_count_146 (by decide) ?_
                  refine lv_icmp_ge (tgt := 174) hx hb dX12_count_147 (by decide) (fun c131 => ?_) (fun c131 => ?_)
                  · have q132 := mm_leL (mm_le c131) mm_k4 mm_k3
                    exact mm_no q132 (by decide)
                  · refine lv_iload_n hx hb dX12_count_150 rfl (lv_at hl 1 rfl) ?_
                    refine lv_aload_n hx hb dX12_count_151 rfl (lv_at hl 2 rfl) ?_
                    refine va_get (D := G) (ci := 12) (v := .ref a_1) (C := RX12) (T := TX12) (N := 38) hx hb hts (mm_i inlX12) hown hK.1 hP 0 rfl rfl 1 (by decide) (mm_h hts mm_w142) (fun _ h9 => h9) rfl dX12_count_152 ?_
                    refine lv_iload_n hx hb dX12_count_155 rfl (lv_at hl 0 rfl) ?_
                    refine va_iald hx hb hK.1 hP 1 1 rfl rfl (mm_in mm_k3 (by decide)) dX12_count_156 ?_
                    refine lv_topi (fun v133 ev133 => ?_)
                    have rv133 : mm_rg v133 (-1) 3 := mm_eqv ev133 (h1 _)
                    refine lv_iconst (v := (-1)) hx hb dX12_count_157 (by decide) ?_
                    refine lv_icmp_ne (tgt := 165) hx hb dX12_count_158 (by decide) (fun c134 => ?_) (fun c134 => ?_)
                    · have q135 := mm_neL (lo := 0) (mm_ne c134) rv133 mm_km1 (by decide) (by decide)
                      refine lv_iconst (v := 1) hx hb dX12_count_165 (by decide) ?_
                      refine lv_iadd hx hb dX12_count_166 ?_
                      refine lv_topi (fun v136 ev136 => ?_)
                      obtain rfl : v136 = 2 := ev136.trans (by decide)
                      refine lv_istore_n (lv' := [(2, .int 2), (3, .int 3), (0, .ref a_0), (1, .int 9)]) hx hb dX12_count_167 rfl hl (by decide) rfl ?_
                      clear hl
                      clear ls
                      intro ls hl
                      refine lv_iinc (v := 4) (lv' := [(3, .int 4), (2, .int 2), (0, .ref a_0), (1, .int 9)]) hx hb dX12_count_168 hl (k := 1) rfl (by decide) (by decide) rfl ?_
                      clear hl
                      clear ls
                      intro ls hl
                      refine lv_goto (tgt := 145) hx hb dX12_count_171 (by decide) ?_
                      refine lv_iload_n hx hb dX12_count_145 rfl (lv_at hl 0 rfl) ?_
                      refine lv_iconst (v := 4) hx hb dX12_count_146 (by decide) ?_
                      refine lv_icmp_ge (tgt := 174) hx hb dX12_count_147 (by decide) (fun c137 => ?_) (fun c137 => ?_)
                      · refine lv_iload_n hx hb dX12_count_174 rfl (lv_at hl 1 rfl) ?_
                        subst hAe
                        rw [hQ]
                        exact W.iret (v := 2) hx hb hr (fun t ht hW => ⟨⟨2, (), rfl, (mm_wk mm_k2 (by decide)), by rw [ht]; exact hP, hK.warm hW, hD⟩, hS.F ht⟩) hS.2.2 dX12_count_175
                      · have q138 := mm_ltL (h := 3) (mm_nle c137) mm_k4 mm_k4 (by decide)
                        exact mm_no q138 (by decide)
                    · have q139 := mm_eqI (lo := (-1)) (hi := (-1)) c134 rv133 mm_km1 (by decide)
                      refine lv_iconst (v := 0) hx hb dX12_count_161 (by decide) ?_
                      refine lv_goto (tgt := 166) hx hb dX12_count_162 (by decide) ?_
                      refine lv_iadd hx hb dX12_count_166 ?_
                      refine lv_topi (fun v140 ev140 => ?_)
                      obtain rfl : v140 = 1 := ev140.trans (by decide)
                      refine lv_istore_n (lv' := [(2, .int 1), (3, .int 3), (0, .ref a_0), (1, .int 9)]) hx hb dX12_count_167 rfl hl (by decide) rfl ?_
                      clear hl
                      clear ls
                      intro ls hl
                      refine lv_iinc (v := 4) (lv' := [(3, .int 4), (2, .int 1), (0, .ref a_0), (1, .int 9)]) hx hb dX12_count_168 hl (k := 1) rfl (by decide) (by decide) rfl ?_
                      clear hl
                      clear ls
                      intro ls hl
                      refine lv_goto (tgt := 145) hx hb dX12_count_171 (by decide) ?_
                      refine lv_iload_n hx hb dX12_count_145 rfl (lv_at hl 0 rfl) ?_
                      refine lv_iconst (v := 4) hx hb dX12_count_146 (by decide) ?_
                      refine lv_icmp_ge (tgt := 174) hx hb dX12_count_147 (by decide) (fun c141 => ?_) (fun c141 => ?_)
                      · refine lv_iload_n hx hb dX12_count_174 rfl (lv_at hl 1 rfl) ?_
                        subst hAe
                        rw [hQ]
                        exact W.iret (v := 1) hx hb hr (fun t ht hW => ⟨⟨1, (), rfl, (mm_wk mm_k1 (by decide)), by rw [ht]; exact hP, hK.warm hW, hD⟩, hS.F ht⟩) hS.2.2 dX12_count_175
                      · have q142 := mm_ltL (h := 3) (mm_nle c141) mm_k4 mm_k4 (by decide)
                        exact mm_no q142 (by decide)
            · have q143 := mm_eqI (lo := (-1)) (hi := (-1)) c108 rv107 mm_km1 (by decide)
              refine lv_iconst (v := 0) hx hb dX12_count_161 (by decide) ?_
              refine lv_goto (tgt := 166) hx hb dX12_count_162 (by decide) ?_
              refine lv_iadd hx hb dX12_count_166 ?_
              refine lv_topi (fun v144 ev144 => ?_)
              obtain rfl : v144 = 0 := ev144.trans (by decide)
              refine lv_istore_n (lv' := [(2, .int 0), (3, .int 1), (0, .ref a_0), (1, .int 9)]) hx hb dX12_count_167 rfl hl (by decide) rfl ?_
              clear hl
              clear ls
              intro ls hl
              refine lv_iinc (v := 2) (lv' := [(3, .int 2), (2, .int 0), (0, .ref a_0), (1, .int 9)]) hx hb dX12_count_168 hl (k := 1) rfl (by decide) (by decide) rfl ?_
              clear hl
              clear ls
              intro ls hl
              refine lv_goto (tgt := 145) hx hb dX12_count_171 (by decide) ?_
              refine lv_iload_n hx hb dX12_count_145 rfl (lv_at hl 0 rfl) ?_
              refine lv_iconst (v := 4) hx hb dX12_count_146 (by decide) ?_
              refine lv_icmp_ge (tgt := 174) hx hb dX12_count_147 (by decide) (fun c145 => ?_) (fun c145 => ?_)
              · have q146 := mm_leL (mm_le c145) mm_k4 mm_k2
                exact mm_no q146 (by decide)
              · refine lv_iload_n hx hb dX12_count_150 rfl (lv_at hl 1 rfl) ?_
                refine lv_aload_n hx hb dX12_count_151 rfl (lv_at hl 2 rfl) ?_
                refine va_get (D := G) (ci := 12) (v := .ref a_1) (C := RX12) (T := TX12) (N := 38) hx hb hts (mm_i inlX12) hown hK.1 hP 0 rfl rfl 1 (by decide) (mm_h hts mm_w142) (fun _ h9 => h9) rfl dX12_count_152 ?_
                refine lv_iload_n hx hb dX12_count_155 rfl (lv_at hl 0 rfl) ?_
                refine va_iald hx hb hK.1 hP 1 1 rfl rfl (mm_in mm_k2 (by decide)) dX12_count_156 ?_
                refine lv_topi (fun v147 ev147 => ?_)
                have rv147 : mm_rg v147 (-1) 3 := mm_eqv ev147 (h1 _)
                refine lv_iconst (v := (-1)) hx hb dX12_count_157 (by decide) ?_
                refine lv_icmp_ne (tgt := 165) hx hb dX12_count_158 (by decide) (fun c148 => ?_) (fun c148 => ?_)
                · have q149 := mm_neL (lo := 0) (mm_ne c148) rv147 mm_km1 (by decide) (by decide)
                  refine lv_iconst (v := 1) hx hb dX12_count_165 (by decide) ?_
                  refine lv_iadd hx hb dX12_count_166 ?_
                  refine lv_topi (fun v150 ev150 => ?_)
                  obtain rfl : v150 = 1 := ev150.trans (by decide)
                  refine lv_istore_n (lv' := [(2, .int 1), (3, .int 2), (0, .ref a_0), (1, .int 9)]) hx hb dX12_count_167 rfl hl (by decide) rfl ?_
                  clear hl
                  clear ls
                  intro ls hl
                  refine lv_iinc (v := 3) (lv' := [(3, .int 3), (2, .int 1), (0, .ref a_0), (1, .int 9)]) hx hb dX12_count_168 hl (k := 1) rfl (by decide) (by decide) rfl ?_
                  clear hl
                  clear ls
                  intro ls hl
                  refine lv_goto (tgt := 145) hx hb dX12_count_171 (by decide) ?_
                  refine lv_iload_n hx hb dX12_count_145 rfl (lv_at hl 0 rfl) ?_
                  refine lv_iconst (v := 4) hx hb dX12_count_146 (by decide) ?_
                  refine lv_icmp_ge (tgt := 174) hx hb dX12_count_147 (by decide) (fun c151 => ?_) (fun c151 => ?_)
                  · have q152 := mm_leL (mm_le c151) mm_k4 mm_k3
                    exact mm_no q152 (by decide)
                  · refine lv_iload_n hx hb dX12_count_150 rfl (lv_at hl 1 rfl) ?_
                    refine lv_aload_n hx hb dX12_count_151 rfl (lv_at hl 2 rfl) ?_
                    refine va_get (D := G) (ci := 12) (v := .ref a_1) (C := RX12) (T := TX12) (N := 38) hx hb hts (mm_i inlX12) hown hK.1 hP 0 rfl rfl 1 (by decide) (mm_h hts mm_w142) (fun _ h9 => h9) rfl dX12_count_152 ?_
                    refine lv_iload_n hx hb dX12_count_155 rfl (lv_at hl 0 rfl) ?_
                    refine va_iald hx hb hK.1 hP 1 1 rfl rfl (mm_in mm_k3 (by decide)) dX12_count_156 ?_
                    refine lv_topi (fun v153 ev153 => ?_)
                    have rv153 : mm_rg v153 (-1) 3 := mm_eqv ev153 (h1 _)
                    refine lv_iconst (v := (-1)) hx hb dX12_count_157 (by decide) ?_
                    refine lv_icmp_ne (tgt := 165) hx hb dX12_count_158 (by decide) (fun c154 => ?_) (fun c154 => ?_)
                    · have q155 := mm_neL (lo := 0) (mm_ne c154) rv153 mm_km1 (by decide) (by decide)
                      refine lv_iconst (v := 1) hx hb dX12_count_165 (by decide) ?_
                      refine lv_iadd hx hb dX12_count_166 ?_
                      refine lv_topi (fun v156 ev156 => ?_)
                      obtain rfl : v156 = 2 := ev156.trans (by decide)
                      refine lv_istore_n (lv' := [(2, .int 2), (3, .int 3), (0, .ref a_0), (1, .int 9)]) hx hb dX12_count_167 rfl hl (by decide) rfl ?_
                      clear hl
                      clear ls
                      intro ls hl
                      refine lv_iinc (v := 4) (lv' := [(3, .int 4), (2, .int 2), (0, .ref a_0), (1, .int 9)]) hx hb dX12_count_168 hl (k := 1) rfl (by decide) (by decide) rfl ?_
                      clear hl
                      clear ls
                      intro ls hl
                      refine lv_goto (tgt := 145) hx hb dX12_count_171 (by decide) ?_
                      refine lv_iload_n hx hb dX12_count_145 rfl (lv_at hl 0 rfl) ?_
                      refine lv_iconst (v := 4) hx hb dX12_count_146 (by decide) ?_
                      refine lv_icmp_ge (tgt := 174) hx hb dX12_count_147 (by decide) (fun c157 => ?_) (fun c157 => ?_)
                      · refine lv_iload_n hx hb dX12_count_174 rfl (lv_at hl 1 rfl) ?_
                        subst hAe
                        rw [hQ]
                        exact W.iret (v := 2) hx hb hr (fun t ht hW => ⟨⟨2, (), rfl, (mm_wk mm_k2 (by decide)), by rw [ht]; exact hP, hK.warm hW, hD⟩, hS.F ht⟩) hS.2.2 dX12_count_175
                      · have q158 := mm_ltL (h := 3) (mm_nle c157) mm_k4 mm_k4 (by decide)
                        exact mm_no q158 (by decide)
                    · have q159 := mm_eqI (lo := (-1)) (hi := (-1)) c154 rv153 mm_km1 (by decide)
                      refine lv_iconst (v := 0) hx hb dX12_count_161 (by decide) ?_
                      refine lv_goto (tgt := 166) hx hb dX12_count_162 (by decide) ?_
                      refine lv_iadd hx hb dX12_count_166 ?_
                      refine lv_topi (fun v160 ev160 => ?_)
                      obtain rfl : v160 = 1 := ev160.trans (by decide)
                      refine lv_istore_n (lv' := [(2, .int 1), (3, .int 3), (0, .ref a_0), (1, .int 9)]) hx hb dX12_count_167 rfl hl (by decide) rfl ?_
                      clear hl
                      clear ls
                      intro ls hl
                      refine lv_iinc (v := 4) (lv' := [(3, .int 4), (2, .int 1), (0, .ref a_0), (1, .int 9)]) hx hb dX12_count_168 hl (k := 1) rfl (by decide) (by decide) rfl ?_
                      clear hl
                      clear ls
                      intro ls hl
                      refine lv_goto (tgt := 145) hx hb dX12_count_171 (by decide) ?_
                      refine lv_iload_n hx hb dX12_count_145 rfl (lv_at hl 0 rfl) ?_
                      refine lv_iconst (v := 4) hx hb dX12_count_146 (by decide) ?_
                      refine lv_icmp_ge (tgt := 174) hx hb dX12_count_147 (by decide) (fun c161 => ?_) (fun c161 => ?_)
                      · refine lv_iload_n hx hb dX12_count_174 rfl (lv_at hl 1 rfl) ?_
                        subst hAe
                        rw [hQ]
                        exact W.iret (v := 1) hx hb hr (fun t ht hW => ⟨⟨1, (), rfl, (mm_wk mm_k1 (by decide)), by rw [ht]; exact hP, hK.warm hW, hD⟩, hS.F ht⟩) hS.2.2 dX12_count_175
                      · have q162 := mm_ltL (h := 3) (mm_nle c161) mm_k4 mm_k4 (by decide)
                        exact mm_no q162 (by decide)
                · have q163 := mm_eqI (lo := (-1)) (hi := (-1)) c148 rv147 mm_km1 (by decide)
                  refine lv_iconst (v := 0) hx hb dX12_count_161 (by decide) ?_
                  refine lv_goto (tgt := 166) hx hb dX12_count_162 (by decide) ?_
                  refine lv_iadd hx hb dX12_count_166 ?_
                  refine lv_topi (fun v164 ev164 => ?_)
                  obtain rfl : v164 = 0 := ev164.trans (by decide)
                  refine lv_istore_n (lv' := [(2, .int 0), (3, .int 2), (0, .ref a_0), (1, .int 9)]) hx hb dX12_count_167 rfl hl (by decide) rfl ?_
                  clear hl
                  clear ls
                  intro ls hl
                  refine lv_iinc (v := 3) (lv' := [(3, .int 3), (2, .int 0), (0, .ref a_0), (1, .int 9)]) hx hb dX12_count_168 hl (k := 1) rfl (by decide) (by decide) rfl ?_
                  clear hl
                  clear ls
                  intro ls hl
                  refine lv_goto (tgt := 145) hx hb dX12_count_171 (by decide) ?_
                  refine lv_iload_n hx hb dX12_count_145 rfl (lv_at hl 0 rfl) ?_
                  refine lv_iconst (v := 4) hx hb dX12_count_146 (by decide) ?_
                  refine lv_icmp_ge (tgt := 174) hx hb dX12_count_147 (by decide) (fun c165 => ?_) (fun c165 => ?_)
                  · have q166 := mm_leL (mm_le c165) mm_k4 mm_k3
                    exact mm_no q166 (by decide)
                  · refine lv_iload_n hx hb dX12_count_150 rfl (lv_at hl 1 rfl) ?_
                    refine lv_aload_n hx hb dX12_count_151 rfl (lv_at hl 2 rfl) ?_
                    refine va_get (D := G) (ci := 12) (v := .ref a_1) (C := RX12) (T := TX12) (N := 38) hx hb hts (mm_i inlX12) hown hK.1 hP 0 rfl rfl 1 (by decide) (mm_h hts mm_w142) (fun _ h9 => h9) rfl dX12_count_152 ?_
                    refine lv_iload_n hx hb dX12_count_155 rfl (lv_at hl 0 rfl) ?_
                    refine va_iald hx hb hK.1 hP 1 1 rfl rfl (mm_in mm_k3 (by decide)) dX12_count_156 ?_
                    refine lv_topi (fun v167 ev167 => ?_)
                    have rv167 : mm_rg v167 (-1) 3 := mm_eqv ev167 (h1 _)
                    refine lv_iconst (v := (-1)) hx hb dX12_count_157 (by decide) ?_
                    refine lv_icmp_ne (tgt := 165) hx hb dX12_count_158 (by decide) (fun c168 => ?_) (fun c168 => ?_)
                    · have q169 := mm_neL (lo := 0) (mm_ne c168) rv167 mm_km1 (by decide) (by decide)
                      refine lv_iconst (v := 1) hx hb dX12_count_165 (by decide) ?_
                      refine lv_iadd hx hb dX12_count_166 ?_
                      refine lv_topi (fun v170 ev170 => ?_)
                      obtain rfl : v170 = 1 := ev170.trans (by decide)
                      refine lv_istore_n (lv' := [(2, .int 1), (3, .int 3), (0, .ref a_0), (1, .int 9)]) hx hb dX12_count_167 rfl hl (by decide) rfl ?_
                      clear hl
                      clear ls
                      intro ls hl
                      refine lv_iinc (v := 4) (lv' := [(3, .int 4), (2, .int 1), (0, .ref a_0), (1, .int 9)]) hx hb dX12_count_168 hl (k := 1) rfl (by decide) (by decide) rfl ?_
                      clear hl
                      clear ls
                      intro ls hl
                      refine lv_goto (tgt := 145) hx hb dX12_count_171 (by decide) ?_
                      refine lv_iload_n hx hb dX12_count_145 rfl (lv_at hl 0 rfl) ?_
                      refine lv_iconst (v := 4) hx hb dX12_count_146 (by decide) ?_
                      refine lv_icmp_ge (tgt := 174) hx hb dX12_count_147 (by decide) (fun c171 => ?_) (fun c171 => ?_)
                      · refine lv_iload_n hx hb dX12_count_174 rfl (lv_at hl 1 rfl) ?_
                        subst hAe
                        rw [hQ]
                        exact W.iret (v := 1) hx hb hr (fun t ht hW => ⟨⟨1, (), rfl, (mm_wk mm_k1 (by decide)), by rw [ht]; exact hP, hK.warm hW, hD⟩, hS.F ht⟩) hS.2.2 dX12_count_175
                      · have q172 := mm_ltL (h := 3) (mm_nle c171) mm_k4 mm_k4 (by decide)
                        exact mm_no q172 (by decide)
                    · have q173 := mm_eqI (lo := (-1)) (hi := (-1)) c168 rv167 mm_km1 (by decide)
                      refine lv_iconst (v := 0) hx hb dX12_count_161 (by decide) ?_
                      refine lv_goto (tgt := 166) hx hb dX12_count_162 (by decide) ?_
                      refine lv_iadd hx hb dX12_count_166 ?_
                      refine lv_topi (fun v174 ev174 => ?_)
                      obtain rfl : v174 = 0 := ev174.trans (by decide)
                      refine lv_istore_n (lv' := [(2, .int 0), (3, .int 3), (0, .ref a_0), (1, .int 9)]) hx hb dX12_count_167 rfl hl (by decide) rfl ?_
                      clear hl
                      clear ls
                      intro ls hl
                      refine lv_iinc (v := 4) (lv' := [(3, .int 4), (2, .int 0), (0, .ref a_0), (1, .int 9)]) hx hb dX12_count_168 hl (k := 1) rfl (by decide) (by decide) rfl ?_
                      clear hl
                      clear ls
                      intro ls hl
                      refine lv_goto (tgt := 145) hx hb dX12_count_171 (by decide) ?_
                      refine lv_iload_n hx hb dX12_count_145 rfl (lv_at hl 0 rfl) ?_
                      refine lv_iconst (v := 4) hx hb dX12_count_146 (by decide) ?_
                      refine lv_icmp_ge (tgt := 174) hx hb dX12_count_147 (by decide) (fun c175 => ?_) (fun c175 => ?_)
                      · refine lv_iload_n hx hb dX12_count_174 rfl (lv_at hl 1 rfl) ?_
                        subst hAe
                        rw [hQ]
                        exact W.iret (v := 0) hx hb hr (fun t ht hW => ⟨⟨0, (), rfl, (mm_wk mm_k0 (by decide)), by rw [ht]; exact hP, hK.warm hW, hD⟩, hS.F ht⟩) hS.2.2 dX12_count_175
                      · have q176 := mm_ltL (h := 3) (mm_nle c175) mm_k4 mm_k4 (by decide)
                        exact mm_no q176 (by decide)

set_option maxHeartbeats 4000000 in
set_option maxRecDepth 100000 in
theorem M113_X12_copyRow (l : Launch) (G : va_G) (cy : Nat → ClassId) (sz : Nat) (a_0 : Nat) (i_0 : Int32) (i_1 : Int32) (i_2 : Int32) (i_3 : Int32) (i_4 : Int32) (h0 : mm_rg i_0 0 601) (h1 : mm_rg i_1 0 601) (h2 : mm_rg i_2 0 601) (h3 : mm_rg i_3 0 601) (h4 : mm_rg i_4 0 601)  : mm_CV l yX12_copyRow (mm_ws yX12_copyRow cX12_copyRow 5 (none)) ({ frames := 0, cells := 0, slots := 0, locals := 0 } : Room) G cy sz [(a_0, .inl (cy 1, 5, .inl (mm_g [i_0, i_1, i_2, i_3, i_4])))] [.ref a_0, .int 1, .int 0, .int 1] (fun u : Unit => [(a_0, .inl (cy 1, 5, .inl (mm_g [i_0, i_0, i_2, i_3, i_4])))]) (fun u : Unit => True) 0 0 := by
  refine mm_begin (lv := [(0, .ref a_0), (1, .int 1), (2, .int 0), (3, .int 1)]) (by decide) (Nat.le_of_ble_eq_true rfl) rfl ?_
  intro p e s m below meth c A ls R args Q H locs hRe hQ hAe hx hb hr hlocks hml hown hnm hts hsz hA hS hP hK hD hZ hl
  have hRf : R.frames = 0 := by rw [hRe]
  have hRl : R.locals = 0 := by rw [hRe]
  have hRc : R.cells = 0 := by rw [hRe]
  have hRs : R.slots = 0 := by rw [hRe]
  refine lv_iconst (v := 0) hx hb dX12_copyRow_0 (by decide) ?_
  refine lv_istore (lv' := [(4, .int 0), (0, .ref a_0), (1, .int 1), (2, .int 0), (3, .int 1)]) hx hb dX12_copyRow_1 hl (by decide) rfl ?_
  clear hl
  clear ls
  intro ls hl
  refine lv_iload hx hb dX12_copyRow_3 (lv_at hl 0 rfl) ?_
  refine lv_iload_n hx hb dX12_copyRow_5 rfl (lv_at hl 2 rfl) ?_
  refine lv_icmp_ge (tgt := 31) hx hb dX12_copyRow_6 (by decide) (fun c1 => ?_) (fun c1 => ?_)
  · have q2 := mm_leL (mm_le c1) mm_k1 mm_k0
    exact mm_no q2 (by decide)
  · refine lv_aload_n hx hb dX12_copyRow_9 rfl (lv_at hl 1 rfl) ?_
    refine lv_iload_n hx hb dX12_copyRow_10 rfl (lv_at hl 2 rfl) ?_
    refine lv_iload_n hx hb dX12_copyRow_11 rfl (lv_at hl 4 rfl) ?_
    refine lv_imul hx hb dX12_copyRow_12 ?_
    refine lv_topi (fun v3 ev3 => ?_)
    obtain rfl : v3 = 1 := ev3.trans (by decide)
    refine lv_iload hx hb dX12_copyRow_13 (lv_at hl 0 rfl) ?_
    refine lv_iadd hx hb dX12_copyRow_15 ?_
    refine lv_topi (fun v4 ev4 => ?_)
    obtain rfl : v4 = 1 := ev4.trans (by decide)
    refine lv_aload_n hx hb dX12_copyRow_16 rfl (lv_at hl 1 rfl) ?_
    refine lv_iload_n hx hb dX12_copyRow_17 rfl (lv_at hl 2 rfl) ?_
    refine lv_iload_n hx hb dX12_copyRow_18 rfl (lv_at hl 3 rfl) ?_
    refine lv_imul hx hb dX12_copyRow_19 ?_
    refine lv_topi (fun v5 ev5 => ?_)
    obtain rfl : v5 = 0 := ev5.trans (by decide)
    refine lv_iload hx hb dX12_copyRow_20 (lv_at hl 0 rfl) ?_
    refine lv_iadd hx hb dX12_copyRow_22 ?_
    refine lv_topi (fun v6 ev6 => ?_)
    obtain rfl : v6 = 0 := ev6.trans (by decide)
    refine va_iald hx hb hK.1 hP 0 1 rfl rfl (mm_in mm_k0 (by decide)) dX12_copyRow_23 ?_
    rw [show (mm_g [i_0, i_1, i_2, i_3, i_4]) (0 : Int32).toNatClampNeg = i_0 from mm_ge 0 (by decide) rfl]
    refine va_iast hx hb hK.1 hP hD hS 0 1 rfl rfl (mm_in mm_k1 (by decide)) dX12_copyRow_24 ?_
    clear hP hD hS
    clear H locs
    rw [show upd (mm_g [i_0, i_1, i_2, i_3, i_4]) (1 : Int32).toNatClampNeg i_0 = (mm_g [i_0, i_0, i_2, i_3, i_4]) from mm_gs2 1 5 (by decide) rfl rfl rfl]
    intro H locs (hP : va_P G vwCl [(a_0, .inl (cy 1, 5, .inl (mm_g [i_0, i_0, i_2, i_3, i_4])))] H) (hD : va_D A [(a_0, .inl (cy 1, 5, .inl (mm_g [i_0, i_0, i_2, i_3, i_4])))]) hS
    refine lv_iinc (v := 1) (lv' := [(4, .int 1), (0, .ref a_0), (1, .int 1), (2, .int 0), (3, .int 1)]) hx hb dX12_copyRow_25 hl (k := 0) rfl (by decide) (by decide) rfl ?_
    clear hl
    clear ls
    intro ls hl
    refine lv_goto (tgt := 3) hx hb dX12_copyRow_28 (by decide) ?_
    refine lv_iload hx hb dX12_copyRow_3 (lv_at hl 0 rfl) ?_
    refine lv_iload_n hx hb dX12_copyRow_5 rfl (lv_at hl 2 rfl) ?_
    refine lv_icmp_ge (tgt := 31) hx hb dX12_copyRow_6 (by decide) (fun c7 => ?_) (fun c7 => ?_)
    · subst hAe
      rw [hQ]
      exact W.vret hx hb hr (fun t ht hW => ⟨⟨(), rfl, trivial, by rw [ht]; exact hP, hK.warm hW, hD⟩, hS.F ht⟩) hS.2.2 dX12_copyRow_31
    · have q8 := mm_ltL (h := 0) (mm_nle c7) mm_k1 mm_k1 (by decide)
      exact mm_no q8 (by decide)

