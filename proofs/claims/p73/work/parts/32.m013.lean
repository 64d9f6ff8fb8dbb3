theorem dX12_count_0 : decode cX12_count 0 = .ok (.aload_n 0, 1) := by decide +kernel
theorem dX12_count_1 : decode cX12_count 1 = .ok (.iconst 0, 1) := by decide +kernel
theorem dX12_count_2 : decode cX12_count 2 = .ok (.putfield 77, 3) := by decide +kernel
theorem dX12_count_5 : decode cX12_count 5 = .ok (.iconst 0, 1) := by decide +kernel
theorem dX12_count_6 : decode cX12_count 6 = .ok (.istore_n 2, 1) := by decide +kernel
theorem dX12_count_7 : decode cX12_count 7 = .ok (.iload_n 1, 1) := by decide +kernel
theorem dX12_count_8 : decode cX12_count 8 = .ok (.tableswitch 168 0 9 #[56, 63, 70, 75, 82, 111, 116, 123, 130, 135], 56) := by decide +kernel
theorem dX12_count_64 : decode cX12_count 64 = .ok (.aload_n 0, 1) := by decide +kernel
theorem dX12_count_65 : decode cX12_count 65 = .ok (.getfield 34, 3) := by decide +kernel
theorem dX12_count_68 : decode cX12_count 68 = .ok (.iconst 0, 1) := by decide +kernel
theorem dX12_count_69 : decode cX12_count 69 = .ok (.iaload, 1) := by decide +kernel
theorem dX12_count_70 : decode cX12_count 70 = .ok (.ireturn, 1) := by decide +kernel
theorem dX12_count_71 : decode cX12_count 71 = .ok (.aload_n 0, 1) := by decide +kernel
theorem dX12_count_72 : decode cX12_count 72 = .ok (.getfield 34, 3) := by decide +kernel
theorem dX12_count_75 : decode cX12_count 75 = .ok (.iconst 1, 1) := by decide +kernel
theorem dX12_count_76 : decode cX12_count 76 = .ok (.iaload, 1) := by decide +kernel
theorem dX12_count_77 : decode cX12_count 77 = .ok (.ireturn, 1) := by decide +kernel
theorem dX12_count_78 : decode cX12_count 78 = .ok (.aload_n 0, 1) := by decide +kernel
theorem dX12_count_79 : decode cX12_count 79 = .ok (.invokevirtual 254, 3) := by decide +kernel
theorem dX12_count_82 : decode cX12_count 82 = .ok (.ireturn, 1) := by decide +kernel
theorem dX12_count_83 : decode cX12_count 83 = .ok (.aload_n 0, 1) := by decide +kernel
theorem dX12_count_84 : decode cX12_count 84 = .ok (.getfield 34, 3) := by decide +kernel
theorem dX12_count_87 : decode cX12_count 87 = .ok (.iconst 3, 1) := by decide +kernel
theorem dX12_count_88 : decode cX12_count 88 = .ok (.iaload, 1) := by decide +kernel
theorem dX12_count_89 : decode cX12_count 89 = .ok (.ireturn, 1) := by decide +kernel
theorem dX12_count_90 : decode cX12_count 90 = .ok (.iconst 0, 1) := by decide +kernel
theorem dX12_count_91 : decode cX12_count 91 = .ok (.istore_n 3, 1) := by decide +kernel
theorem dX12_count_92 : decode cX12_count 92 = .ok (.iload_n 3, 1) := by decide +kernel
theorem dX12_count_93 : decode cX12_count 93 = .ok (.aload_n 0, 1) := by decide +kernel
theorem dX12_count_94 : decode cX12_count 94 = .ok (.getfield 34, 3) := by decide +kernel
theorem dX12_count_97 : decode cX12_count 97 = .ok (.iconst 3, 1) := by decide +kernel
theorem dX12_count_98 : decode cX12_count 98 = .ok (.iaload, 1) := by decide +kernel
theorem dX12_count_99 : decode cX12_count 99 = .ok (.if_icmp .ge 18, 3) := by decide +kernel
theorem dX12_count_102 : decode cX12_count 102 = .ok (.iload_n 2, 1) := by decide +kernel
theorem dX12_count_103 : decode cX12_count 103 = .ok (.aload_n 0, 1) := by decide +kernel
theorem dX12_count_104 : decode cX12_count 104 = .ok (.getfield 40, 3) := by decide +kernel
theorem dX12_count_107 : decode cX12_count 107 = .ok (.iload_n 3, 1) := by decide +kernel
theorem dX12_count_108 : decode cX12_count 108 = .ok (.iaload, 1) := by decide +kernel
theorem dX12_count_109 : decode cX12_count 109 = .ok (.iadd, 1) := by decide +kernel
theorem dX12_count_110 : decode cX12_count 110 = .ok (.istore_n 2, 1) := by decide +kernel
theorem dX12_count_111 : decode cX12_count 111 = .ok (.iinc 3 1, 3) := by decide +kernel
theorem dX12_count_114 : decode cX12_count 114 = .ok (.goto (-22), 3) := by decide +kernel
theorem dX12_count_117 : decode cX12_count 117 = .ok (.iload_n 2, 1) := by decide +kernel
theorem dX12_count_118 : decode cX12_count 118 = .ok (.ireturn, 1) := by decide +kernel
theorem dX12_count_119 : decode cX12_count 119 = .ok (.aload_n 0, 1) := by decide +kernel
theorem dX12_count_120 : decode cX12_count 120 = .ok (.invokevirtual 260, 3) := by decide +kernel
theorem dX12_count_123 : decode cX12_count 123 = .ok (.ireturn, 1) := by decide +kernel
theorem dX12_count_124 : decode cX12_count 124 = .ok (.aload_n 0, 1) := by decide +kernel
theorem dX12_count_125 : decode cX12_count 125 = .ok (.getfield 34, 3) := by decide +kernel
theorem dX12_count_128 : decode cX12_count 128 = .ok (.iconst 5, 1) := by decide +kernel
theorem dX12_count_129 : decode cX12_count 129 = .ok (.iaload, 1) := by decide +kernel
theorem dX12_count_130 : decode cX12_count 130 = .ok (.ireturn, 1) := by decide +kernel
theorem dX12_count_131 : decode cX12_count 131 = .ok (.aload_n 0, 1) := by decide +kernel
theorem dX12_count_132 : decode cX12_count 132 = .ok (.getfield 31, 3) := by decide +kernel
theorem dX12_count_135 : decode cX12_count 135 = .ok (.iconst 0, 1) := by decide +kernel
theorem dX12_count_136 : decode cX12_count 136 = .ok (.iaload, 1) := by decide +kernel
theorem dX12_count_137 : decode cX12_count 137 = .ok (.ireturn, 1) := by decide +kernel
theorem dX12_count_138 : decode cX12_count 138 = .ok (.aload_n 0, 1) := by decide +kernel
theorem dX12_count_139 : decode cX12_count 139 = .ok (.getfield 94, 3) := by decide +kernel
theorem dX12_count_142 : decode cX12_count 142 = .ok (.ireturn, 1) := by decide +kernel
theorem dX12_count_143 : decode cX12_count 143 = .ok (.iconst 0, 1) := by decide +kernel
theorem dX12_count_144 : decode cX12_count 144 = .ok (.istore_n 3, 1) := by decide +kernel
theorem dX12_count_145 : decode cX12_count 145 = .ok (.iload_n 3, 1) := by decide +kernel
theorem dX12_count_146 : decode cX12_count 146 = .ok (.iconst 4, 1) := by decide +kernel
theorem dX12_count_147 : decode cX12_count 147 = .ok (.if_icmp .ge 27, 3) := by decide +kernel
theorem dX12_count_150 : decode cX12_count 150 = .ok (.iload_n 2, 1) := by decide +kernel
theorem dX12_count_151 : decode cX12_count 151 = .ok (.aload_n 0, 1) := by decide +kernel
theorem dX12_count_152 : decode cX12_count 152 = .ok (.getfield 7, 3) := by decide +kernel
theorem dX12_count_155 : decode cX12_count 155 = .ok (.iload_n 3, 1) := by decide +kernel
theorem dX12_count_156 : decode cX12_count 156 = .ok (.iaload, 1) := by decide +kernel
theorem dX12_count_157 : decode cX12_count 157 = .ok (.iconst (-1), 1) := by decide +kernel
theorem dX12_count_158 : decode cX12_count 158 = .ok (.if_icmp .ne 7, 3) := by decide +kernel
theorem dX12_count_161 : decode cX12_count 161 = .ok (.iconst 0, 1) := by decide +kernel
theorem dX12_count_162 : decode cX12_count 162 = .ok (.goto 4, 3) := by decide +kernel
theorem dX12_count_165 : decode cX12_count 165 = .ok (.iconst 1, 1) := by decide +kernel
theorem dX12_count_166 : decode cX12_count 166 = .ok (.iadd, 1) := by decide +kernel
theorem dX12_count_167 : decode cX12_count 167 = .ok (.istore_n 2, 1) := by decide +kernel
theorem dX12_count_168 : decode cX12_count 168 = .ok (.iinc 3 1, 3) := by decide +kernel
theorem dX12_count_171 : decode cX12_count 171 = .ok (.goto (-26), 3) := by decide +kernel
theorem dX12_count_174 : decode cX12_count 174 = .ok (.iload_n 2, 1) := by decide +kernel
theorem dX12_count_175 : decode cX12_count 175 = .ok (.ireturn, 1) := by decide +kernel
theorem dX12_count_176 : decode cX12_count 176 = .ok (.iconst (-1), 1) := by decide +kernel
theorem dX12_count_177 : decode cX12_count 177 = .ok (.ireturn, 1) := by decide +kernel
theorem dX12_rate_0 : decode cX12_rate 0 = .ok (.aload_n 0, 1) := by decide +kernel
theorem dX12_rate_1 : decode cX12_rate 1 = .ok (.iconst 0, 1) := by decide +kernel
theorem dX12_rate_2 : decode cX12_rate 2 = .ok (.putfield 77, 3) := by decide +kernel
theorem dX12_rate_5 : decode cX12_rate 5 = .ok (.iload_n 1, 1) := by decide +kernel
theorem dX12_rate_6 : decode cX12_rate 6 = .ok (.i2l, 1) := by decide +kernel
theorem dX12_rate_7 : decode cX12_rate 7 = .ok (.lconst 0, 1) := by decide +kernel
theorem dX12_rate_8 : decode cX12_rate 8 = .ok (.aload_n 0, 1) := by decide +kernel
theorem dX12_rate_9 : decode cX12_rate 9 = .ok (.invokevirtual 254, 3) := by decide +kernel
theorem dX12_rate_12 : decode cX12_rate 12 = .ok (.i2l, 1) := by decide +kernel
theorem dX12_rate_13 : decode cX12_rate 13 = .ok (.lconst 1, 1) := by decide +kernel
theorem dX12_rate_14 : decode cX12_rate 14 = .ok (.lsub, 1) := by decide +kernel
theorem dX12_rate_15 : decode cX12_rate 15 = .ok (.invokestatic 82, 3) := by decide +kernel
theorem dX12_rate_18 : decode cX12_rate 18 = .ok (.ifCond .eq 27, 3) := by decide +kernel
theorem dX12_rate_21 : decode cX12_rate 21 = .ok (.aload_n 0, 1) := by decide +kernel
theorem dX12_rate_22 : decode cX12_rate 22 = .ok (.getfield 37, 3) := by decide +kernel
theorem dX12_rate_25 : decode cX12_rate 25 = .ok (.iconst 2, 1) := by decide +kernel
theorem dX12_rate_26 : decode cX12_rate 26 = .ok (.iload_n 1, 1) := by decide +kernel
theorem dX12_rate_27 : decode cX12_rate 27 = .ok (.imul, 1) := by decide +kernel
theorem dX12_rate_28 : decode cX12_rate 28 = .ok (.iaload, 1) := by decide +kernel
theorem dX12_rate_29 : decode cX12_rate 29 = .ok (.iconst 1, 1) := by decide +kernel
theorem dX12_rate_30 : decode cX12_rate 30 = .ok (.if_icmp .gt 15, 3) := by decide +kernel
theorem dX12_rate_33 : decode cX12_rate 33 = .ok (.iload_n 2, 1) := by decide +kernel
theorem dX12_rate_34 : decode cX12_rate 34 = .ok (.i2l, 1) := by decide +kernel
theorem dX12_rate_35 : decode cX12_rate 35 = .ok (.lconst 0, 1) := by decide +kernel
theorem dX12_rate_36 : decode cX12_rate 36 = .ok (.ldc2_w 467, 3) := by decide +kernel
theorem dX12_rate_39 : decode cX12_rate 39 = .ok (.invokestatic 82, 3) := by decide +kernel
theorem dX12_rate_42 : decode cX12_rate 42 = .ok (.ifCond .ne 6, 3) := by decide +kernel
theorem dX12_rate_45 : decode cX12_rate 45 = .ok (.bipush (-2), 2) := by decide +kernel
theorem dX12_rate_47 : decode cX12_rate 47 = .ok (.ireturn, 1) := by decide +kernel
theorem dX12_rate_48 : decode cX12_rate 48 = .ok (.aload_n 0, 1) := by decide +kernel
theorem dX12_rate_49 : decode cX12_rate 49 = .ok (.getfield 34, 3) := by decide +kernel
theorem dX12_rate_52 : decode cX12_rate 52 = .ok (.iconst 5, 1) := by decide +kernel
theorem dX12_rate_53 : decode cX12_rate 53 = .ok (.iaload, 1) := by decide +kernel
theorem dX12_rate_54 : decode cX12_rate 54 = .ok (.ifCond .le 6, 3) := by decide +kernel
theorem dX12_rate_57 : decode cX12_rate 57 = .ok (.bipush (-5), 2) := by decide +kernel
theorem dX12_rate_59 : decode cX12_rate 59 = .ok (.ireturn, 1) := by decide +kernel
theorem dX12_rate_60 : decode cX12_rate 60 = .ok (.aload_n 0, 1) := by decide +kernel
theorem dX12_rate_61 : decode cX12_rate 61 = .ok (.getfield 37, 3) := by decide +kernel
theorem dX12_rate_64 : decode cX12_rate 64 = .ok (.iconst 2, 1) := by decide +kernel
theorem dX12_rate_65 : decode cX12_rate 65 = .ok (.iload_n 1, 1) := by decide +kernel
theorem dX12_rate_66 : decode cX12_rate 66 = .ok (.imul, 1) := by decide +kernel
theorem dX12_rate_67 : decode cX12_rate 67 = .ok (.iconst 1, 1) := by decide +kernel
theorem dX12_rate_68 : decode cX12_rate 68 = .ok (.iadd, 1) := by decide +kernel
theorem dX12_rate_69 : decode cX12_rate 69 = .ok (.iaload, 1) := by decide +kernel
theorem dX12_rate_70 : decode cX12_rate 70 = .ok (.istore_n 3, 1) := by decide +kernel
theorem dX12_rate_71 : decode cX12_rate 71 = .ok (.aload_n 0, 1) := by decide +kernel
theorem dX12_rate_72 : decode cX12_rate 72 = .ok (.getfield 37, 3) := by decide +kernel
theorem dX12_rate_75 : decode cX12_rate 75 = .ok (.iconst 2, 1) := by decide +kernel
theorem dX12_rate_76 : decode cX12_rate 76 = .ok (.iload_n 1, 1) := by decide +kernel
theorem dX12_rate_77 : decode cX12_rate 77 = .ok (.imul, 1) := by decide +kernel
theorem dX12_rate_78 : decode cX12_rate 78 = .ok (.iconst 1, 1) := by decide +kernel
theorem dX12_rate_79 : decode cX12_rate 79 = .ok (.iadd, 1) := by decide +kernel
theorem dX12_rate_80 : decode cX12_rate 80 = .ok (.iload_n 2, 1) := by decide +kernel
theorem dX12_rate_81 : decode cX12_rate 81 = .ok (.iastore, 1) := by decide +kernel
theorem dX12_rate_82 : decode cX12_rate 82 = .ok (.iload_n 3, 1) := by decide +kernel
theorem dX12_rate_83 : decode cX12_rate 83 = .ok (.ireturn, 1) := by decide +kernel
theorem mm_k15 : mm_rg 15 15 15 := ⟨by decide, by decide⟩
theorem mm_k17 : mm_rg 17 17 17 := ⟨by decide, by decide⟩
theorem mm_k180 : mm_rg 180 180 180 := ⟨by decide, by decide⟩
theorem mm_k19 : mm_rg 19 19 19 := ⟨by decide, by decide⟩
theorem mm_k21 : mm_rg 21 21 21 := ⟨by decide, by decide⟩
theorem mm_k22 : mm_rg 22 22 22 := ⟨by decide, by decide⟩
theorem mm_k23 : mm_rg 23 23 23 := ⟨by decide, by decide⟩
theorem mm_k420 : mm_rg 420 420 420 := ⟨by decide, by decide⟩
theorem mm_k54 : mm_rg 54 54 54 := ⟨by decide, by decide⟩
theorem mm_k96 : mm_rg 96 96 96 := ⟨by decide, by decide⟩
set_option maxHeartbeats 4000000 in
set_option maxRecDepth 100000 in
theorem M321_X12_rate (l : Launch) (G : va_G) (cy : Nat → ClassId) (sz : Nat) (a_0 : Nat) (i_0 : Int32) (i_1 : Int32) (i_2 : Int32) (a_1 : Nat) (a_2 : Nat) (a_3 : Nat) (a_4 : Nat) (a_5 : Nat) (i_3 : Int32) (i_4 : Int32) (i_5 : Int32) (i_6 : Int32) (i_7 : Int32) (j_0 : Int64) (i_8 : Int32) (i_9 : Int32) (i_10 : Int32) (i_11 : Int32) (a_6 : Nat) (a_7 : Nat) (a_8 : Nat) (a_9 : Nat) (a_10 : Nat) (a_11 : Nat) (a_12 : Nat) (a_13 : Nat) (a_14 : Nat) (a_15 : Nat) (a_16 : Nat) (a_17 : Nat) (a_18 : Nat) (i_12 : Int32) (i_13 : Int32) (i_14 : Int32) (i_15 : Int32) (i_16 : Int32) (i_17 : Int32) (a_19 : Nat) (i_18 : Int32) (a_20 : Nat) (i_19 : Int32) (i_20 : Int32) (i_21 : Int32) (i_22 : Int32) (i_23 : Int32) (i_24 : Int32) (i_25 : Int32) (i_26 : Int32) (i_27 : Int32) (i_28 : Int32) (i_29 : Int32) (i_30 : Int32) (i_31 : Int32) (i_32 : Int32) (i_33 : Int32) (i_34 : Int32) (i_35 : Int32) (i_36 : Int32) (i_37 : Int32) (i_38 : Int32) (i_39 : Int32) (i_40 : Int32) (i_41 : Int32) (i_42 : Int32) (i_43 : Int32) (i_44 : Int32) (i_45 : Int32) (i_46 : Int32) (i_47 : Int32) (i_48 : Int32) (f_0 : Nat → Int32) (h0 : mm_rg i_19 0 10) (h1 : mm_rg i_20 0 99) (h2 : mm_rg i_21 0 9) (h3 : mm_rg i_22 0 3) (h4 : mm_rg i_23 0 6) (h5 : mm_rg i_24 0 30) (h6 : mm_rg i_25 0 10) (h7 : mm_rg i_26 0 99) (h8 : mm_rg i_27 0 9) (h9 : mm_rg i_28 0 3) (h10 : mm_rg i_29 0 6) (h11 : mm_rg i_30 0 30) (h12 : mm_rg i_31 0 10) (h13 : mm_rg i_32 0 99) (h14 : mm_rg i_33 0 9) (h15 : mm_rg i_34 0 3) (h16 : mm_rg i_35 0 6) (h17 : mm_rg i_36 0 30) (h18 : mm_rg i_37 0 10) (h19 : mm_rg i_38 0 99) (h20 : mm_rg i_39 0 9) (h21 : mm_rg i_40 0 3) (h22 : mm_rg i_41 0 6) (h23 : mm_rg i_42 0 30) (h24 : mm_rg i_43 0 10) (h25 : mm_rg i_44 0 99) (h26 : mm_rg i_45 0 9) (h27 : mm_rg i_46 0 3) (h28 : mm_rg i_47 0 6) (h29 : mm_rg i_48 0 30) (h30 : mm_ar f_0 0 99)  : mm_CI l yX12_rate (mm_ws yX12_rate cX12_rate 4 (some .int)) ({ frames := 1, cells := 0, slots := 0, locals := 25 } : Room) G cy sz [(a_0, .inr (12, [.int i_2, .ref a_1, .ref a_2, .ref a_3, .ref a_4, .ref a_5, .int i_3, .int i_4, .int i_5, .int i_6, .int i_7, .long j_0, .int i_8, .int i_9, .int i_10, .int i_11, .ref a_6, .ref a_7, .ref a_8, .ref a_9, .ref a_10, .ref a_11, .ref a_12, .ref a_13, .ref a_14, .ref a_15, .ref a_16, .ref a_17, .ref a_18, .int i_12, .int i_13, .int i_14, .int i_15, .int i_16, .int i_17, .ref a_19, .int i_18, .ref a_20])), (a_7, .inl (cy 1, 30, .inl (mm_g [i_19, i_20, i_21, i_22, i_23, i_24, i_25, i_26, i_27, i_28, i_29, i_30, i_31, i_32, i_33, i_34, i_35, i_36, i_37, i_38, i_39, i_40, i_41, i_42, i_43, i_44, i_45, i_46, i_47, i_48]))), (a_8, .inl (cy 1, 90, .inl f_0))] [.ref a_0, .int i_0, .int i_1] (fun u : (Nat → Int32) => [(a_0, .inr (12, [.int 0, .ref a_1, .ref a_2, .ref a_3, .ref a_4, .ref a_5, .int i_3, .int i_4, .int i_5, .int i_6, .int i_7, .long j_0, .int i_8, .int i_9, .int i_10, .int i_11, .ref a_6, .ref a_7, .ref a_8, .ref a_9, .ref a_10, .ref a_11, .ref a_12, .ref a_13, .ref a_14, .ref a_15, .ref a_16, .ref a_17, .ref a_18, .int i_12, .int i_13, .int i_14, .int i_15, .int i_16, .int i_17, .ref a_19, .int i_18, .ref a_20])), (a_7, .inl (cy 1, 30, .inl (mm_g [i_19, i_20, i_21, i_22, i_23, i_24, i_25, i_26, i_27, i_28, i_29, i_30, i_31, i_32, i_33, i_34, i_35, i_36, i_37, i_38, i_39, i_40, i_41, i_42, i_43, i_44, i_45, i_46, i_47, i_48]))), (a_8, .inl (cy 1, 90, .inl u))]) (fun (r : Int32) (u : (Nat → Int32)) => mm_ar u 0 99 ∧ mm_rg r (-5) 99) 0 0 := by
  refine mm_begin (lv := [(0, .ref a_0), (1, .int i_0), (2, .int i_1)]) (by decide) (Nat.le_of_ble_eq_true rfl) rfl ?_
  intro p e s m below meth c A ls R args Q H locs hRe hQ hAe hx hb hr hlocks hml hown hnm hts hsz hA hS hP hK hD hZ hl
  have hRf : R.frames = 1 := by rw [hRe]
  have hRl : R.locals = 25 := by rw [hRe]
  have hRc : R.cells = 0 := by rw [hRe]
  have hRs : R.slots = 0 := by rw [hRe]
  refine lv_aload_n hx hb dX12_rate_0 rfl (lv_at hl 0 rfl) ?_
  refine lv_iconst (v := 0) hx hb dX12_rate_1 (by decide) ?_
  refine va_put (D := G) (ci := 12) (v := .int 0) (ty := tyX12 0) (C := RX12) (T := TX12) (N := 38) hx hb hts (mm_i inlX12) tyX12 tyX12_ok nmX12 hown hK.1 hP hD hS 0 rfl rfl 0 (by decide) (mm_h hts mm_w177) (fun _ h9 => h9) rfl (tyX12_ok 0 (by decide)) rfl rfl (Nat.le_of_ble_eq_true rfl) dX12_rate_2 ?_
  clear hP hD hS
  clear H locs
  intro H locs (hP : va_P G vwCl [(a_0, .inr (12, [.int 0, .ref a_1, .ref a_2, .ref a_3, .ref a_4, .ref a_5, .int i_3, .int i_4, .int i_5, .int i_6, .int i_7, .long j_0, .int i_8, .int i_9, .int i_10, .int i_11, .ref a_6, .ref a_7, .ref a_8, .ref a_9, .ref a_10, .ref a_11, .ref a_12, .ref a_13, .ref a_14, .ref a_15, .ref a_16, .ref a_17, .ref a_18, .int i_12, .int i_13, .int i_14, .int i_15, .int i_16, .int i_17, .ref a_19, .int i_18, .ref a_20])), (a_7, .inl (cy 1, 30, .inl (mm_g [i_19, i_20, i_21, i_22, i_23, i_24, i_25, i_26, i_27, i_28, i_29, i_30, i_31, i_32, i_33, i_34, i_35, i_36, i_37, i_38, i_39, i_40, i_41, i_42, i_43, i_44, i_45, i_46, i_47, i_48]))), (a_8, .inl (cy 1, 90, .inl f_0))] H) (hD : va_D A [(a_0, .inr (12, [.int 0, .ref a_1, .ref a_2, .ref a_3, .ref a_4, .ref a_5, .int i_3, .int i_4, .int i_5, .int i_6, .int i_7, .long j_0, .int i_8, .int i_9, .int i_10, .int i_11, .ref a_6, .ref a_7, .ref a_8, .ref a_9, .ref a_10, .ref a_11, .ref a_12, .ref a_13, .ref a_14, .ref a_15, .ref a_16, .ref a_17, .ref a_18, .int i_12, .int i_13, .int i_14, .int i_15, .int i_16, .int i_17, .ref a_19, .int i_18, .ref a_20])), (a_7, .inl (cy 1, 30, .inl (mm_g [i_19, i_20, i_21, i_22, i_23, i_24, i_25, i_26, i_27, i_28, i_29, i_30, i_31, i_32, i_33, i_34, i_35, i_36, i_37, i_38, i_39, i_40, i_41, i_42, i_43, i_44, i_45, i_46, i_47, i_48]))), (a_8, .inl (cy 1, 90, .inl f_0))]) hS
  refine lv_iload_n hx hb dX12_rate_5 rfl (lv_at hl 1 rfl) ?_
  obtain ⟨v1, ev1⟩ : ∃ y : Int64, y = i_0.toInt64 := ⟨_, rfl⟩
  refine lv_i2l hx hb dX12_rate_6 ev1.symm ?_
  have rv1 : mm_rl v1 (-2147483648) 2147483647 := mm_i2l ev1 (mm_top i_0)
  refine lv_lconst (v := 0) hx hb dX12_rate_7 (by decide) ?_
  refine lv_aload_n hx hb dX12_rate_8 rfl (lv_at hl 0 rfl) ?_
  refine mm_finir (va_runV (As := []) (rest := [.long 0, .long v1]) ⟨hx, hb, hml, hown, hts⟩ (M92_X12_senses l G cy H.size a_0 0 a_1 a_2 a_3 a_4 a_5 i_3 i_4 i_5 i_6 i_7 j_0 i_8 i_9 i_10 i_11 a_6 a_7 a_8 a_9 a_10 a_11 a_12 a_13 a_14 a_15 a_16 a_17 a_18 i_12 i_13 i_14 i_15 i_16 i_17 a_19 i_18 a_20 i_19 i_20 i_21 i_22 i_23 i_24 i_25 i_26 i_27 i_28 i_29 i_30 i_31 i_32 i_33 i_34 i_35 i_36 i_37 i_38 i_39 i_40 i_41 i_42 i_43 i_44 i_45 i_46 i_47 i_48 h0 h1 h2 h3 h4 h5 h6 h7 h8 h9 h10 h11 h12 h13 h14 h15 h16 h17 h18 h19 h20 h21 h22 h23 h24 h25 h26 h27 h28 h29) (cwV 0 hts (mm_gV mm_w588 mm_w589 mm_w590 mm_w5 mm_w591) rfl rfl rfl hd_X12_senses ⟨by rw [hRf]; exact Nat.le_of_ble_eq_true rfl, by rw [hRl]; exact Nat.le_of_ble_eq_true rfl⟩) (mm_preV hK hZ hS hA hP hD [0, 1] rfl rfl 0 rfl rfl rfl) rfl rfl hl.1 rfl (lv_room (Nat.le_of_ble_eq_true rfl)) dX12_rate_9 ⟨by rw [hRc]; exact Nat.le_of_ble_eq_true rfl, by rw [hRs]; exact Nat.le_of_ble_eq_true rfl⟩) hP hD hS hA [0, 1] rfl (fun _ => rfl) ?_
  clear hP hD hS
  clear H locs
  intro v2 _u H locs hw hP hD hS
  subst hw
  obtain ⟨v3, ev3⟩ : ∃ y : Int64, y = i_21.toInt64 := ⟨_, rfl⟩
  refine lv_i2l hx hb dX12_rate_12 ev3.symm ?_
  have rv3 : mm_rl v3 0 9 := mm_i2l ev3 h2
  refine lv_lconst (v := 1) hx hb dX12_rate_13 (by decide) ?_
  refine lv_lsub hx hb dX12_rate_14 ?_
  refine lv_topl (fun v4 ev4 => ?_)
  have rv4 : mm_rl v4 (-1) 8 := mm_subl ev4 rv3 mm_kl1 (by decide) (by decide)
  have tv4 := mm_sublEc ev4 rv3 mm_kl1 (by decide) (k := 1) (by decide)
  refine mm_finir (va_runS (As := [.long v1, .long 0, .long v4]) (rest := []) ⟨hx, hb, hml, hown, hts⟩ (M7_X12_in l G cy H.size v1 v4 ) (va_cwS 3 hts (mm_gS mm_w191 mm_w192 mm_w5 mm_w193) rfl rfl rfl hs_X12_in ⟨by rw [hRf]; exact Nat.le_of_ble_eq_true rfl, by rw [hRl]; exact Nat.le_of_ble_eq_true rfl⟩) (mm_preS hK hZ hS hA hP hD [] rfl rfl) rfl rfl hl.1 rfl (lv_room (Nat.le_of_ble_eq_true rfl)) dX12_rate_15 ⟨by rw [hRc]; exact Nat.le_of_ble_eq_true rfl, by rw [hRs]; exact Nat.le_of_ble_eq_true rfl⟩) hP hD hS hA [] rfl (fun _ => rfl) ?_
  clear hP hD hS
  clear H locs
  intro v5 _u H locs hw hP hD hS
  rcases hw with ⟨rfl, w6⟩ | ⟨rfl, w7, w8, w9, w10⟩
  · refine lv_if_eq (tgt := 45) hx hb dX12_rate_18 (by decide) (fun c11 => ?_) (fun c11 => ?_)
    · refine lv_bipush (v := (-2)) hx hb dX12_rate_45 (by decide) ?_
      subst hAe
      rw [hQ]
      exact W.iret (v := (-2)) hx hb hr (fun t ht hW => ⟨⟨(-2), f_0, rfl, ⟨h30, (mm_wk mm_km2 (by decide))⟩, by rw [ht]; exact hP, hK.warm hW, hD⟩, hS.F ht⟩) hS.2.2 dX12_rate_47
    · exact absurd rfl (mm_ne c11)
  · have q12 := mm_meetl (lo := 0) (hi := 2147483647) w7 rv1 (by decide)
    have q13 := mm_meet (lo := 0) (hi := 2147483647) (mm_l2x ev1 q12) (mm_top i_0) (by decide)
    have q14 := mm_meetl (lo := 0) (hi := 8) w8 rv4 (by decide)
    have q15 := mm_leLl w9 q12 q14
    have q16 := mm_meet (lo := 0) (hi := 8) (mm_l2x ev1 q15) q13 (by decide)
    have w17 : (i_0 : Int32).toInt < (i_21 : Int32).toInt := by have := (mm_i2lE ev1); have := (mm_i2lE ev3); have := tv4; have := w9; omega
    have q18 := mm_ltR (lo := 1) w17 q16 h2 (by decide)
    refine lv_if_eq (tgt := 45) hx hb dX12_rate_18 (by decide) (fun c19 => ?_) (fun c19 => ?_)
    · exact mm_eqN c19.symm mm_k0 mm_k1 (by decide)
    · refine lv_aload_n hx hb dX12_rate_21 rfl (lv_at hl 0 rfl) ?_
      refine va_get (D := G) (ci := 12) (v := .ref a_8) (C := RX12) (T := TX12) (N := 38) hx hb hts (mm_i inlX12) hown hK.1 hP 0 rfl rfl 18 (by decide) (mm_h hts mm_w150) (fun _ h9 => h9) rfl dX12_rate_22 ?_
      refine lv_iconst (v := 2) hx hb dX12_rate_25 (by decide) ?_
      refine lv_iload_n hx hb dX12_rate_26 rfl (lv_at hl 1 rfl) ?_
      refine lv_imul hx hb dX12_rate_27 ?_
      refine lv_topi (fun v20 ev20 => ?_)
      have rv20 : mm_rg v20 0 16 := mm_mul ev20 mm_k2 q16 (by decide) (by decide)
      have tv20 := mm_mulEc ev20 mm_k2 q16 (by decide) (k := 2) (by decide)
      refine va_iald hx hb hK.1 hP 2 1 rfl rfl (mm_in rv20 (by decide)) dX12_rate_28 ?_
      refine lv_topi (fun v21 ev21 => ?_)
      have rv21 : mm_rg v21 0 99 := mm_eqv ev21 (h30 _)
      refine lv_iconst (v := 1) hx hb dX12_rate_29 (by decide) ?_
      refine lv_icmp_gt (tgt := 45) hx hb dX12_rate_30 (by decide) (fun c22 => ?_) (fun c22 => ?_)
      · have q23 := mm_ltR (lo := 2) (mm_lt c22) mm_k1 rv21 (by decide)
        refine lv_bipush (v := (-2)) hx hb dX12_rate_45 (by decide) ?_
        subst hAe
        rw [hQ]
        exact W.iret (v := (-2)) hx hb hr (fun t ht hW => ⟨⟨(-2), f_0, rfl, ⟨h30, (mm_wk mm_km2 (by decide))⟩, by rw [ht]; exact hP, hK.warm hW, hD⟩, hS.F ht⟩) hS.2.2 dX12_rate_47
      · have q24 := mm_leL (mm_nlt c22) rv21 mm_k1
        refine lv_iload_n hx hb dX12_rate_33 rfl (lv_at hl 2 rfl) ?_
        obtain ⟨v25, ev25⟩ : ∃ y : Int64, y = i_1.toInt64 := ⟨_, rfl⟩
        refine lv_i2l hx hb dX12_rate_34 ev25.symm ?_
        have rv25 : mm_rl v25 (-2147483648) 2147483647 := mm_i2l ev25 (mm_top i_1)
        refine lv_lconst (v := 0) hx hb dX12_rate_35 (by decide) ?_
        refine lv_ldc2 (v := 99) hx hb hown (mm_h hts mm_w1566) dX12_rate_36 ?_
        refine mm_finir (va_runS (As := [.long v25, .long 0, .long 99]) (rest := []) ⟨hx, hb, hml, hown, hts⟩ (M7_X12_in l G cy H.size v25 99 ) (va_cwS 3 hts (mm_gS mm_w191 mm_w192 mm_w5 mm_w193) rfl rfl rfl hs_X12_in ⟨by rw [hRf]; exact Nat.le_of_ble_eq_true rfl, by rw [hRl]; exact Nat.le_of_ble_eq_true rfl⟩) (mm_preS hK hZ hS hA hP hD [] rfl rfl) rfl rfl hl.1 rfl (lv_room (Nat.le_of_ble_eq_true rfl)) dX12_rate_39 ⟨by rw [hRc]; exact Nat.le_of_ble_eq_true rfl, by rw [hRs]; exact Nat.le_of_ble_eq_true rfl⟩) hP hD hS hA [] rfl (fun _ => rfl) ?_
        clear hP hD hS
        clear H locs
        intro v26 _u H locs hw hP hD hS
        rcases hw with ⟨rfl, w27⟩ | ⟨rfl, w28, w29, w30, w31⟩
        · refine lv_if_ne (tgt := 48) hx hb dX12_rate_42 (by decide) (fun c32 => ?_) (fun c32 => ?_)
          · exact absurd rfl (mm_ne c32)
          · refine lv_bipush (v := (-2)) hx hb dX12_rate_45 (by decide) ?_
            subst hAe
            rw [hQ]
            exact W.iret (v := (-2)) hx hb hr (fun t ht hW => ⟨⟨(-2), f_0, rfl, ⟨h30, (mm_wk mm_km2 (by decide))⟩, by rw [ht]; exact hP, hK.warm hW, hD⟩, hS.F ht⟩) hS.2.2 dX12_rate_47
        · have q33 := mm_meetl (lo := 0) (hi := 2147483647) w28 rv25 (by decide)
          have q34 := mm_meet (lo := 0) (hi := 2147483647) (mm_l2x ev25 q33) (mm_top i_1) (by decide)
          have q35 := mm_leLl w30 q33 mm_kl99
          have q36 := mm_meet (lo := 0) (hi := 99) (mm_l2x ev25 q35) q34 (by decide)
          refine lv_if_ne (tgt := 48) hx hb dX12_rate_42 (by decide) (fun c37 => ?_) (fun c37 => ?_)
          · refine lv_aload_n hx hb dX12_rate_48 rfl (lv_at hl 0 rfl) ?_
            refine va_get (D := G) (ci := 12) (v := .ref a_7) (C := RX12) (T := TX12) (N := 38) hx hb hts (mm_i inlX12) hown hK.1 hP 0 rfl rfl 17 (by decide) (mm_h hts mm_w149) (fun _ h9 => h9) rfl dX12_rate_49 ?_
            refine lv_iconst (v := 5) hx hb dX12_rate_52 (by decide) ?_
            refine va_iald hx hb hK.1 hP 1 1 rfl rfl (mm_in mm_k5 (by decide)) dX12_rate_53 ?_
            rw [show (mm_g [i_19, i_20, i_21, i_22, i_23, i_24, i_25, i_26, i_27, i_28, i_29, i_30, i_31, i_32, i_33, i_34, i_35, i_36, i_37, i_38, i_39, i_40, i_41, i_42, i_43, i_44, i_45, i_46, i_47, i_48]) (5 : Int32).toNatClampNeg = i_24 from mm_ge 5 (by decide) rfl]
            refine lv_if_le (tgt := 60) hx hb dX12_rate_54 (by decide) (fun c38 => ?_) (fun c38 => ?_)
            · have q39 := mm_leL (mm_le c38) h5 mm_k0
              refine lv_aload_n hx hb dX12_rate_60 rfl (lv_at hl 0 rfl) ?_
              refine va_get (D := G) (ci := 12) (v := .ref a_8) (C := RX12) (T := TX12) (N := 38) hx hb hts (mm_i inlX12) hown hK.1 hP 0 rfl rfl 18 (by decide) (mm_h hts mm_w150) (fun _ h9 => h9) rfl dX12_rate_61 ?_
              refine lv_iconst (v := 2) hx hb dX12_rate_64 (by decide) ?_
              refine lv_iload_n hx hb dX12_rate_65 rfl (lv_at hl 1 rfl) ?_
              refine lv_imul hx hb dX12_rate_66 ?_
              refine lv_topi (fun v40 ev40 => ?_)
              have rv40 : mm_rg v40 0 16 := mm_mul ev40 mm_k2 q16 (by decide) (by decide)
              have tv40 := mm_mulEc ev40 mm_k2 q16 (by decide) (k := 2) (by decide)
              refine lv_iconst (v := 1) hx hb dX12_rate_67 (by decide) ?_
              refine lv_iadd hx hb dX12_rate_68 ?_
              refine lv_topi (fun v41 ev41 => ?_)
              have rv41 : mm_rg v41 1 17 := mm_add ev41 rv40 mm_k1 (by decide) (by decide)
              have tv41 := mm_addEc ev41 rv40 mm_k1 (by decide) (k := 1) (by decide)
              refine va_iald hx hb hK.1 hP 2 1 rfl rfl (mm_in rv41 (by decide)) dX12_rate_69 ?_
              refine lv_topi (fun v42 ev42 => ?_)
              have rv42 : mm_rg v42 0 99 := mm_eqv ev42 (h30 _)
              refine lv_istore_n (lv' := [(3, .int v42), (0, .ref a_0), (1, .int i_0), (2, .int i_1)]) hx hb dX12_rate_70 rfl hl (by decide) rfl ?_
              clear hl
              clear ls
              intro ls hl
              refine lv_aload_n hx hb dX12_rate_71 rfl (lv_at hl 1 rfl) ?_
              refine va_get (D := G) (ci := 12) (v := .ref a_8) (C := RX12) (T := TX12) (N := 38) hx hb hts (mm_i inlX12) hown hK.1 hP 0 rfl rfl 18 (by decide) (mm_h hts mm_w150) (fun _ h9 => h9) rfl dX12_rate_72 ?_
              refine lv_iconst (v := 2) hx hb dX12_rate_75 (by decide) ?_
              refine lv_iload_n hx hb dX12_rate_76 rfl (lv_at hl 2 rfl) ?_
              refine lv_imul hx hb dX12_rate_77 ?_
              refine lv_topi (fun v43 ev43 => ?_)
              have rv43 : mm_rg v43 0 16 := mm_mul ev43 mm_k2 q16 (by decide) (by decide)
              have tv43 := mm_mulEc ev43 mm_k2 q16 (by decide) (k := 2) (by decide)
              refine lv_iconst (v := 1) hx hb dX12_rate_78 (by decide) ?_
              refine lv_iadd hx hb dX12_rate_79 ?_
              refine lv_topi (fun v44 ev44 => ?_)
              have rv44 : mm_rg v44 1 17 := mm_add ev44 rv43 mm_k1 (by decide) (by decide)
              have tv44 := mm_addEc ev44 rv43 mm_k1 (by decide) (k := 1) (by decide)
              refine lv_iload_n hx hb dX12_rate_80 rfl (lv_at hl 3 rfl) ?_
              refine va_iast hx hb hK.1 hP hD hS 2 1 rfl rfl (mm_in rv44 (by decide)) dX12_rate_81 ?_
              clear hP hD hS
              clear H locs
              obtain ⟨g45, eg45⟩ : ∃ z : Nat → Int32, z = upd f_0 v44.toNatClampNeg i_1 := ⟨_, rfl⟩
              rw [← eg45]
              intro H locs (hP : va_P G vwCl [(a_0, .inr (12, [.int 0, .ref a_1, .ref a_2, .ref a_3, .ref a_4, .ref a_5, .int i_3, .int i_4, .int i_5, .int i_6, .int i_7, .long j_0, .int i_8, .int i_9, .int i_10, .int i_11, .ref a_6, .ref a_7, .ref a_8, .ref a_9, .ref a_10, .ref a_11, .ref a_12, .ref a_13, .ref a_14, .ref a_15, .ref a_16, .ref a_17, .ref a_18, .int i_12, .int i_13, .int i_14, .int i_15, .int i_16, .int i_17, .ref a_19, .int i_18, .ref a_20])), (a_7, .inl (cy 1, 30, .inl (mm_g [i_19, i_20, i_21, i_22, i_23, i_24, i_25, i_26, i_27, i_28, i_29, i_30, i_31, i_32, i_33, i_34, i_35, i_36, i_37, i_38, i_39, i_40, i_41, i_42, i_43, i_44, i_45, i_46, i_47, i_48]))), (a_8, .inl (cy 1, 90, .inl g45))] H) (hD : va_D A [(a_0, .inr (12, [.int 0, .ref a_1, .ref a_2, .ref a_3, .ref a_4, .ref a_5, .int i_3, .int i_4, .int i_5, .int i_6, .int i_7, .long j_0, .int i_8, .int i_9, .int i_10, .int i_11, .ref a_6, .ref a_7, .ref a_8, .ref a_9, .ref a_10, .ref a_11, .ref a_12, .ref a_13, .ref a_14, .ref a_15, .ref a_16, .ref a_17, .ref a_18, .int i_12, .int i_13, .int i_14, .int i_15, .int i_16, .int i_17, .ref a_19, .int i_18, .ref a_20])), (a_7, .inl (cy 1, 30, .inl (mm_g [i_19, i_20, i_21, i_22, i_23, i_24, i_25, i_26, i_27, i_28, i_29, i_30, i_31, i_32, i_33, i_34, i_35, i_36, i_37, i_38, i_39, i_40, i_41, i_42, i_43, i_44, i_45, i_46, i_47, i_48]))), (a_8, .inl (cy 1, 90, .inl g45))]) hS
              have rg45 : mm_ar g45 0 99 := by rw [eg45]; exact mm_ar_upd (mm_ar_wk h30 (by decide)) (mm_wk q36 (by decide)) _
              refine lv_iload_n hx hb dX12_rate_82 rfl (lv_at hl 0 rfl) ?_
              subst hAe
              rw [hQ]
              exact W.iret (v := v42) hx hb hr (fun t ht hW => ⟨⟨v42, g45, rfl, ⟨rg45, (mm_wk rv42 (by decide))⟩, by rw [ht]; exact hP, hK.warm hW, hD⟩, hS.F ht⟩) hS.2.2 dX12_rate_83
            · have q46 := mm_ltR (lo := 1) (mm_nle c38) mm_k0 h5 (by decide)
              refine lv_bipush (v := (-5)) hx hb dX12_rate_57 (by decide) ?_
              subst hAe
              rw [hQ]
              exact W.iret (v := (-5)) hx hb hr (fun t ht hW => ⟨⟨(-5), f_0, rfl, ⟨h30, (mm_wk mm_km5 (by decide))⟩, by rw [ht]; exact hP, hK.warm hW, hD⟩, hS.F ht⟩) hS.2.2 dX12_rate_59
          · exact mm_eqN c37.symm mm_k0 mm_k1 (by decide)

set_option maxHeartbeats 4000000 in
set_option maxRecDepth 100000 in
theorem M322_X12_count (l : Launch) (G : va_G) (cy : Nat → ClassId) (sz : Nat) (a_0 : Nat) (i_0 : Int32) (i_1 : Int32) (a_1 : Nat) (a_2 : Nat) (a_3 : Nat) (a_4 : Nat) (a_5 : Nat) (i_2 : Int32) (i_3 : Int32) (i_4 : Int32) (i_5 : Int32) (i_6 : Int32) (j_0 : Int64) (i_7 : Int32) (i_8 : Int32) (i_9 : Int32) (i_10 : Int32) (a_6 : Nat) (a_7 : Nat) (a_8 : Nat) (a_9 : Nat) (a_10 : Nat) (a_11 : Nat) (a_12 : Nat) (a_13 : Nat) (a_14 : Nat) (a_15 : Nat) (a_16 : Nat) (a_17 : Nat) (a_18 : Nat) (i_11 : Int32) (i_12 : Int32) (i_13 : Int32) (i_14 : Int32) (i_15 : Int32) (i_16 : Int32) (a_19 : Nat) (i_17 : Int32) (a_20 : Nat) (f_0 : Nat → Int32) (i_18 : Int32) (i_19 : Int32) (i_20 : Int32) (i_21 : Int32) (i_22 : Int32) (i_23 : Int32) (i_24 : Int32) (i_25 : Int32) (i_26 : Int32) (i_27 : Int32) (i_28 : Int32) (i_29 : Int32) (i_30 : Int32) (i_31 : Int32) (i_32 : Int32) (i_33 : Int32) (i_34 : Int32) (i_35 : Int32) (i_36 : Int32) (i_37 : Int32) (i_38 : Int32) (i_39 : Int32) (i_40 : Int32) (i_41 : Int32) (i_42 : Int32) (i_43 : Int32) (i_44 : Int32) (i_45 : Int32) (i_46 : Int32) (i_47 : Int32) (i_48 : Int32) (i_49 : Int32) (i_50 : Int32) (i_51 : Int32) (i_52 : Int32) (f_1 : Nat → Int32) (h0 : mm_rg i_2 0 600) (h1 : mm_ar f_0 (-1) 3) (h2 : mm_rg i_18 0 601) (h3 : mm_rg i_19 0 601) (h4 : mm_rg i_20 0 601) (h5 : mm_rg i_21 0 601) (h6 : mm_rg i_22 0 601) (h7 : mm_rg i_23 0 10) (h8 : mm_rg i_24 0 99) (h9 : mm_rg i_25 0 9) (h10 : mm_rg i_26 0 3) (h11 : mm_rg i_27 0 6) (h12 : mm_rg i_28 0 30) (h13 : mm_rg i_29 0 10) (h14 : mm_rg i_30 0 99) (h15 : mm_rg i_31 0 9) (h16 : mm_rg i_32 0 3) (h17 : mm_rg i_33 0 6) (h18 : mm_rg i_34 0 30) (h19 : mm_rg i_35 0 10) (h20 : mm_rg i_36 0 99) (h21 : mm_rg i_37 0 9) (h22 : mm_rg i_38 0 3) (h23 : mm_rg i_39 0 6) (h24 : mm_rg i_40 0 30) (h25 : mm_rg i_41 0 10) (h26 : mm_rg i_42 0 99) (h27 : mm_rg i_43 0 9) (h28 : mm_rg i_44 0 3) (h29 : mm_rg i_45 0 6) (h30 : mm_rg i_46 0 30) (h31 : mm_rg i_47 0 10) (h32 : mm_rg i_48 0 99) (h33 : mm_rg i_49 0 9) (h34 : mm_rg i_50 0 3) (h35 : mm_rg i_51 0 6) (h36 : mm_rg i_52 0 30) (h37 : mm_ar f_1 0 7) (h38 : mm_tl i_18 i_26 i_27) (h39 : mm_tl i_19 i_32 i_33) (h40 : mm_tl i_20 i_38 i_39) (h41 : mm_tl i_21 i_44 i_45)  : mm_CI l yX12_count (mm_ws yX12_count cX12_count 4 (some .int)) ({ frames := 1, cells := 0, slots := 0, locals := 20 } : Room) G cy sz [(a_0, .inr (12, [.int i_1, .ref a_1, .ref a_2, .ref a_3, .ref a_4, .ref a_5, .int i_2, .int i_3, .int i_4, .int i_5, .int i_6, .long j_0, .int i_7, .int i_8, .int i_9, .int i_10, .ref a_6, .ref a_7, .ref a_8, .ref a_9, .ref a_10, .ref a_11, .ref a_12, .ref a_13, .ref a_14, .ref a_15, .ref a_16, .ref a_17, .ref a_18, .int i_11, .int i_12, .int i_13, .int i_14, .int i_15, .int i_16, .ref a_19, .int i_17, .ref a_20])), (a_1, .inl (cy 1, 4, .inl f_0)), (a_6, .inl (cy 1, 5, .inl (mm_g [i_18, i_19, i_20, i_21, i_22]))), (a_7, .inl (cy 1, 30, .inl (mm_g [i_23, i_24, i_25, i_26, i_27, i_28, i_29, i_30, i_31, i_32, i_33, i_34, i_35, i_36, i_37, i_38, i_39, i_40, i_41, i_42, i_43, i_44, i_45, i_46, i_47, i_48, i_49, i_50, i_51, i_52]))), (a_9, .inl (cy 1, 15, .inl f_1))] [.ref a_0, .int i_0] (fun u : Unit => [(a_0, .inr (12, [.int 0, .ref a_1, .ref a_2, .ref a_3, .ref a_4, .ref a_5, .int i_2, .int i_3, .int i_4, .int i_5, .int i_6, .long j_0, .int i_7, .int i_8, .int i_9, .int i_10, .ref a_6, .ref a_7, .ref a_8, .ref a_9, .ref a_10, .ref a_11, .ref a_12, .ref a_13, .ref a_14, .ref a_15, .ref a_16, .ref a_17, .ref a_18, .int i_11, .int i_12, .int i_13, .int i_14, .int i_15, .int i_16, .ref a_19, .int i_17, .ref a_20])), (a_1, .inl (cy 1, 4, .inl f_0)), (a_6, .inl (cy 1, 5, .inl (mm_g [i_18, i_19, i_20, i_21, i_22]))), (a_7, .inl (cy 1, 30, .inl (mm_g [i_23, i_24, i_25, i_26, i_27, i_28, i_29, i_30, i_31, i_32, i_33, i_34, i_35, i_36, i_37, i_38, i_39, i_40, i_41, i_42, i_43, i_44, i_45, i_46, i_47, i_48, i_49, i_50, i_51, i_52]))), (a_9, .inl (cy 1, 15, .inl f_1))]) (fun (r : Int32) (u : Unit) => mm_rg r (-1) 601) 0 0 := by
  refine mm_begin (lv := [(0, .ref a_0), (1, .int i_0)]) (by decide) (Nat.le_of_ble_eq_true rfl) rfl ?_
  intro p e s m below meth c A ls R args Q H locs hRe hQ hAe hx hb hr hlocks hml hown hnm hts hsz hA hS hP hK hD hZ hl
  have hRf : R.frames = 1 := by rw [hRe]
  have hRl : R.locals = 20 := by rw [hRe]
  have hRc : R.cells = 0 := by rw [hRe]
  have hRs : R.slots = 0 := by rw [hRe]
  refine lv_aload_n hx hb dX12_count_0 rfl (lv_at hl 0 rfl) ?_
  refine lv_iconst (v := 0) hx hb dX12_count_1 (by decide) ?_
  refine va_put (D := G) (ci := 12) (v := .int 0) (ty := tyX12 0) (C := RX12) (T := TX12) (N := 38) hx hb hts (mm_i inlX12) tyX12 tyX12_ok nmX12 hown hK.1 hP hD hS 0 rfl rfl 0 (by decide) (mm_h hts mm_w177) (fun _ h9 => h9) rfl (tyX12_ok 0 (by decide)) rfl rfl (Nat.le_of_ble_eq_true rfl) dX12_count_2 ?_
  clear hP hD hS
  clear H locs
  intro H locs (hP : va_P G vwCl [(a_0, .inr (12, [.int 0, .ref a_1, .ref a_2, .ref a_3, .ref a_4, .ref a_5, .int i_2, .int i_3, .int i_4, .int i_5, .int i_6, .long j_0, .int i_7, .int i_8, .int i_9, .int i_10, .ref a_6, .ref a_7, .ref a_8, .ref a_9, .ref a_10, .ref a_11, .ref a_12, .ref a_13, .ref a_14, .ref a_15, .ref a_16, .ref a_17, .ref a_18, .int i_11, .int i_12, .int i_13, .int i_14, .int i_15, .int i_16, .ref a_19, .int i_17, .ref a_20])), (a_1, .inl (cy 1, 4, .inl f_0)), (a_6, .inl (cy 1, 5, .inl (mm_g [i_18, i_19, i_20, i_21, i_22]))), (a_7, .inl (cy 1, 30, .inl (mm_g [i_23, i_24, i_25, i_26, i_27, i_28, i_29, i_30, i_31, i_32, i_33, i_34, i_35, i_36, i_37, i_38, i_39, i_40, i_41, i_42, i_43, i_44, i_45, i_46, i_47, i_48, i_49, i_50, i_51, i_52]))), (a_9, .inl (cy 1, 15, .inl f_1))] H) (hD : va_D A [(a_0, .inr (12, [.int 0, .ref a_1, .ref a_2, .ref a_3, .ref a_4, .ref a_5, .int i_2, .int i_3, .int i_4, .int i_5, .int i_6, .long j_0, .int i_7, .int i_8, .int i_9, .int i_10, .ref a_6, .ref a_7, .ref a_8, .ref a_9, .ref a_10, .ref a_11, .ref a_12, .ref a_13, .ref a_14, .ref a_15, .ref a_16, .ref a_17, .ref a_18, .int i_11, .int i_12, .int i_13, .int i_14, .int i_15, .int i_16, .ref a_19, .int i_17, .ref a_20])), (a_1, .inl (cy 1, 4, .inl f_0)), (a_6, .inl (cy 1, 5, .inl (mm_g [i_18, i_19, i_20, i_21, i_22]))), (a_7, .inl (cy 1, 30, .inl (mm_g [i_23, i_24, i_25, i_26, i_27, i_28, i_29, i_30, i_31, i_32, i_33, i_34, i_35, i_36, i_37, i_38, i_39, i_40, i_41, i_42, i_43, i_44, i_45, i_46, i_47, i_48, i_49, i_50, i_51, i_52]))), (a_9, .inl (cy 1, 15, .inl f_1))]) hS
  refine lv_iconst (v := 0) hx hb dX12_count_5 (by decide) ?_
  refine lv_istore_n (lv' := [(2, .int 0), (0, .ref a_0), (1, .int i_0)]) hx hb dX12_count_6 rfl hl (by decide) rfl ?_
  clear hl
  clear ls
  intro ls hl
  refine lv_iload_n hx hb dX12_count_7 rfl (lv_at hl 2 rfl) ?_
  rcases mm_out i_0 0 9 with c1 | c1 | c1
  · have q2 : mm_rg i_0 (-2147483648) (-1) := ⟨((mm_top i_0)).1, by omega⟩
    refine lv_tableOut (tgt := 176) hx hb dX12_count_8 (Or.inl c1) (by decide) ?_
    refine lv_iconst (v := (-1)) hx hb dX12_count_176 (by decide) ?_
    subst hAe
    rw [hQ]
    exact W.iret (v := (-1)) hx hb hr (fun t ht hW => ⟨⟨(-1), (), rfl, (mm_wk mm_km1 (by decide)), by rw [ht]; exact hP, hK.warm hW, hD⟩, hS.F ht⟩) hS.2.2 dX12_count_177
  · have q3 : mm_rg i_0 10 2147483647 := ⟨by omega, ((mm_top i_0)).2⟩
    refine lv_tableOut (tgt := 176) hx hb dX12_count_8 (Or.inr c1) (by decide) ?_
    refine lv_iconst (v := (-1)) hx hb dX12_count_176 (by decide) ?_
    subst hAe
    rw [hQ]
    exact W.iret (v := (-1)) hx hb hr (fun t ht hW => ⟨⟨(-1), (), rfl, (mm_wk mm_km1 (by decide)), by rw [ht]; exact hP, hK.warm hW, hD⟩, hS.F ht⟩) hS.2.2 dX12_count_177
  · have c4 := mm_cases10 c1
    rcases c4 with rfl | rfl | rfl | rfl | rfl | rfl | rfl | rfl | rfl | rfl
    · refine lv_tableIn (tgt := 64) hx hb dX12_count_8 (by decide) (by decide) rfl (by decide) ?_
      refine lv_aload_n hx hb dX12_count_64 rfl (lv_at hl 1 rfl) ?_
      refine va_get (D := G) (ci := 12) (v := .ref a_7) (C := RX12) (T := TX12) (N := 38) hx hb hts (mm_i inlX12) hown hK.1 hP 0 rfl rfl 17 (by decide) (mm_h hts mm_w149) (fun _ h9 => h9) rfl dX12_count_65 ?_
      refine lv_iconst (v := 0) hx hb dX12_count_68 (by decide) ?_
      refine va_iald hx hb hK.1 hP 3 1 rfl rfl (mm_in mm_k0 (by decide)) dX12_count_69 ?_
      rw [show (mm_g [i_23, i_24, i_25, i_26, i_27, i_28, i_29, i_30, i_31, i_32, i_33, i_34, i_35, i_36, i_37, i_38, i_39, i_40, i_41, i_42, i_43, i_44, i_45, i_46, i_47, i_48, i_49, i_50, i_51, i_52]) (0 : Int32).toNatClampNeg = i_23 from mm_ge 0 (by decide) rfl]
      subst hAe
      rw [hQ]
      exact W.iret (v := i_23) hx hb hr (fun t ht hW => ⟨⟨i_23, (), rfl, (mm_wk h7 (by decide)), by rw [ht]; exact hP, hK.warm hW, hD⟩, hS.F ht⟩) hS.2.2 dX12_count_70
    · refine lv_tableIn (tgt := 71) hx hb dX12_count_8 (by decide) (by decide) rfl (by decide) ?_
      refine lv_aload_n hx hb dX12_count_71 rfl (lv_at hl 1 rfl) ?_
      refine va_get (D := G) (ci := 12) (v := .ref a_7) (C := RX12) (T := TX12) (N := 38) hx hb hts (mm_i inlX12) hown hK.1 hP 0 rfl rfl 17 (by decide) (mm_h hts mm_w149) (fun _ h9 => h9) rfl dX12_count_72 ?_
      refine lv_iconst (v := 1) hx hb dX12_count_75 (by decide) ?_
      refine va_iald hx hb hK.1 hP 3 1 rfl rfl (mm_in mm_k1 (by decide)) dX12_count_76 ?_
      rw [show (mm_g [i_23, i_24, i_25, i_26, i_27, i_28, i_29, i_30, i_31, i_32, i_33, i_34, i_35, i_36, i_37, i_38, i_39, i_40, i_41, i_42, i_43, i_44, i_45, i_46, i_47, i_48, i_49, i_50, i_51, i_52]) (1 : Int32).toNatClampNeg = i_24 from mm_ge 1 (by decide) rfl]
      subst hAe
      rw [hQ]
      exact W.iret (v := i_24) hx hb hr (fun t ht hW => ⟨⟨i_24, (), rfl, (mm_wk h8 (by decide)), by rw [ht]; exact hP, hK.warm hW, hD⟩, hS.F ht⟩) hS.2.2 dX12_count_77
    · refine lv_tableIn (tgt := 78) hx hb dX12_count_8 (by decide) (by decide) rfl (by decide) ?_
      refine lv_aload_n hx hb dX12_count_78 rfl (lv_at hl 1 rfl) ?_
      refine mm_finir (va_runV (As := []) (rest := []) ⟨hx, hb, hml, hown, hts⟩ (M92_X12_senses l G cy H.size a_0 0 a_1 a_2 a_3 a_4 a_5 i_2 i_3 i_4 i_5 i_6 j_0 i_7 i_8 i_9 i_10 a_6 a_7 a_8 a_9 a_10 a_11 a_12 a_13 a_14 a_15 a_16 a_17 a_18 i_11 i_12 i_13 i_14 i_15 i_16 a_19 i_17 a_20 i_23 i_24 i_25 i_26 i_27 i_28 i_29 i_30 i_31 i_32 i_33 i_34 i_35 i_36 i_37 i_38 i_39 i_40 i_41 i_42 i_43 i_44 i_45 i_46 i_47 i_48 i_49 i_50 i_51 i_52 h7 h8 h9 h10 h11 h12 h13 h14 h15 h16 h17 h18 h19 h20 h21 h22 h23 h24 h25 h26 h27 h28 h29 h30 h31 h32 h33 h34 h35 h36) (cwV 0 hts (mm_gV mm_w588 mm_w589 mm_w590 mm_w5 mm_w591) rfl rfl rfl hd_X12_senses ⟨by rw [hRf]; exact Nat.le_of_ble_eq_true rfl, by rw [hRl]; exact Nat.le_of_ble_eq_true rfl⟩) (mm_preV hK hZ hS hA hP hD [0, 3] rfl rfl 0 rfl rfl rfl) rfl rfl hl.1 rfl (lv_room (Nat.le_of_ble_eq_true rfl)) dX12_count_79 ⟨by rw [hRc]; exact Nat.le_of_ble_eq_true rfl, by rw [hRs]; exact Nat.le_of_ble_eq_true rfl⟩) hP hD hS hA [0, 3] rfl (fun _ => rfl) ?_
      clear hP hD hS
      clear H locs
      intro v5 _u H locs hw hP hD hS
      subst hw
      subst hAe
      rw [hQ]
      exact W.iret (v := i_25) hx hb hr (fun t ht hW => ⟨⟨i_25, (), rfl, (mm_wk h9 (by decide)), by rw [ht]; exact hP, hK.warm hW, hD⟩, hS.F ht⟩) hS.2.2 dX12_count_82
    · refine lv_tableIn (tgt := 83) hx hb dX12_count_8 (by decide) (by decide) rfl (by decide) ?_
      refine lv_aload_n hx hb dX12_count_83 rfl (lv_at hl 1 rfl) ?_
      refine va_get (D := G) (ci := 12) (v := .ref a_7) (C := RX12) (T := TX12) (N := 38) hx hb hts (mm_i inlX12) hown hK.1 hP 0 rfl rfl 17 (by decide) (mm_h hts mm_w149) (fun _ h9 => h9) rfl dX12_count_84 ?_
      refine lv_iconst (v := 3) hx hb dX12_count_87 (by decide) ?_
      refine va_iald hx hb hK.1 hP 3 1 rfl rfl (mm_in mm_k3 (by decide)) dX12_count_88 ?_
      rw [show (mm_g [i_23, i_24, i_25, i_26, i_27, i_28, i_29, i_30, i_31, i_32, i_33, i_34, i_35, i_36, i_37, i_38, i_39, i_40, i_41, i_42, i_43, i_44, i_45, i_46, i_47, i_48, i_49, i_50, i_51, i_52]) (3 : Int32).toNatClampNeg = i_26 from mm_ge 3 (by decide) rfl]
      subst hAe
      rw [hQ]
      exact W.iret (v := i_26) hx hb hr (fun t ht hW => ⟨⟨i_26, (), rfl, (mm_wk h10 (by decide)), by rw [ht]; exact hP, hK.warm hW, hD⟩, hS.F ht⟩) hS.2.2 dX12_count_89
    · refine lv_tableIn (tgt := 90) hx hb dX12_count_8 (by decide) (by decide) rfl (by decide) ?_
      refine lv_iconst (v := 0) hx hb dX12_count_90 (by decide) ?_
      refine lv_istore_n (lv' := [(3, .int 0), (2, .int 0), (0, .ref a_0), (1, .int 4)]) hx hb dX12_count_91 rfl hl (by decide) rfl ?_
      clear hl
      clear ls
      intro ls hl
      refine lv_iload_n hx hb dX12_count_92 rfl (lv_at hl 0 rfl) ?_
      refine lv_aload_n hx hb dX12_count_93 rfl (lv_at hl 2 rfl) ?_
      refine va_get (D := G) (ci := 12) (v := .ref a_7) (C := RX12) (T := TX12) (N := 38) hx hb hts (mm_i inlX12) hown hK.1 hP 0 rfl rfl 17 (by decide) (mm_h hts mm_w149) (fun _ h9 => h9) rfl dX12_count_94 ?_
      refine lv_iconst (v := 3) hx hb dX12_count_97 (by decide) ?_
      refine va_iald hx hb hK.1 hP 3 1 rfl rfl (mm_in mm_k3 (by decide)) dX12_count_98 ?_
      rw [show (mm_g [i_23, i_24, i_25, i_26, i_27, i_28, i_29, i_30, i_31, i_32, i_33, i_34, i_35, i_36, i_37, i_38, i_39, i_40, i_41, i_42, i_43, i_44, i_45, i_46, i_47, i_48, i_49, i_50, i_51, i_52]) (3 : Int32).toNatClampNeg = i_26 from mm_ge 3 (by decide) rfl]
      refine lv_icmp_ge (tgt := 117) hx hb dX12_count_99 (by decide) (fun c6 => ?_) (fun c6 => ?_)
      · have q7 := mm_leL (mm_le c6) h10 mm_k0
        refine lv_iload_n hx hb dX12_count_117 rfl (lv_at hl 1 rfl) ?_
        subst hAe
        rw [hQ]
        exact W.iret (v := 0) hx hb hr (fun t ht hW => ⟨⟨0, (), rfl, (mm_wk mm_k0 (by decide)), by rw [ht]; exact hP, hK.warm hW, hD⟩, hS.F ht⟩) hS.2.2 dX12_count_118
      · have q8 := mm_ltR (lo := 1) (mm_nle c6) mm_k0 h10 (by decide)
        have q9 : mm_rg i_18 1 601 := mm_tl_3 h38 q8 h2 (by decide)
        refine lv_iload_n hx hb dX12_count_102 rfl (lv_at hl 1 rfl) ?_
        refine lv_aload_n hx hb dX12_count_103 rfl (lv_at hl 2 rfl) ?_
        refine va_get (D := G) (ci := 12) (v := .ref a_9) (C := RX12) (T := TX12) (N := 38) hx hb hts (mm_i inlX12) hown hK.1 hP 0 rfl rfl 19 (by decide) (mm_h hts mm_w151) (fun _ h9 => h9) rfl dX12_count_104 ?_
        refine lv_iload_n hx hb dX12_count_107 rfl (lv_at hl 0 rfl) ?_
        refine va_iald hx hb hK.1 hP 4 1 rfl rfl (mm_in mm_k0 (by decide)) dX12_count_108 ?_
        refine lv_topi (fun v10 ev10 => ?_)
        have rv10 : mm_rg v10 0 7 := mm_eqv ev10 (h37 _)
        refine lv_iadd hx hb dX12_count_109 ?_
        refine lv_topi (fun v11 ev11 => ?_)
        have rv11 : mm_rg v11 0 7 := mm_add ev11 mm_k0 rv10 (by decide) (by decide)
        have tv11 := mm_addEd ev11 mm_k0 rv10 (by decide) (k := 0) (by decide)
        refine lv_istore_n (lv' := [(2, .int v11), (3, .int 0), (0, .ref a_0), (1, .int 4)]) hx hb dX12_count_110 rfl hl (by decide) rfl ?_
        clear hl
        clear ls
        intro ls hl
        refine lv_iinc (v := 1) (lv' := [(3, .int 1), (2, .int v11), (0, .ref a_0), (1, .int 4)]) hx hb dX12_count_111 hl (k := 1) rfl (by decide) (by decide) rfl ?_
        clear hl
        clear ls
        intro ls hl
        refine lv_goto (tgt := 92) hx hb dX12_count_114 (by decide) ?_
        refine lv_iload_n hx hb dX12_count_92 rfl (lv_at hl 0 rfl) ?_
        refine lv_aload_n hx hb dX12_count_93 rfl (lv_at hl 2 rfl) ?_
        refine va_get (D := G) (ci := 12) (v := .ref a_7) (C := RX12) (T := TX12) (N := 38) hx hb hts (mm_i inlX12) hown hK.1 hP 0 rfl rfl 17 (by decide) (mm_h hts mm_w149) (fun _ h9 => h9) rfl dX12_count_94 ?_
        refine lv_iconst (v := 3) hx hb dX12_count_97 (by decide) ?_
        refine va_iald hx hb hK.1 hP 3 1 rfl rfl (mm_in mm_k3 (by decide)) dX12_count_98 ?_
        rw [show (mm_g [i_23, i_24, i_25, i_26, i_27, i_28, i_29, i_30, i_31, i_32, i_33, i_34, i_35, i_36, i_37, i_38, i_39, i_40, i_41, i_42, i_43, i_44, i_45, i_46, i_47, i_48, i_49, i_50, i_51, i_52]) (3 : Int32).toNatClampNeg = i_26 from mm_ge 3 (by decide) rfl]
        refine lv_icmp_ge (tgt := 117) hx hb dX12_count_99 (by decide) (fun c12 => ?_) (fun c12 => ?_)
        · have q13 := mm_leL (mm_le c12) q8 mm_k1
          refine lv_iload_n hx hb dX12_count_117 rfl (lv_at hl 1 rfl) ?_
          subst hAe
          rw [hQ]
          exact W.iret (v := v11) hx hb hr (fun t ht hW => ⟨⟨v11, (), rfl, (mm_wk rv11 (by decide)), by rw [ht]; exact hP, hK.warm hW, hD⟩, hS.F ht⟩) hS.2.2 dX12_count_118
        · have q14 := mm_ltR (lo := 2) (mm_nle c12) mm_k1 q8 (by decide)
          refine lv_iload_n hx hb dX12_count_102 rfl (lv_at hl 1 rfl) ?_
          refine lv_aload_n hx hb dX12_count_103 rfl (lv_at hl 2 rfl) ?_
          refine va_get (D := G) (ci := 12) (v := .ref a_9) (C := RX12) (T := TX12) (N := 38) hx hb hts (mm_i inlX12) hown hK.1 hP 0 rfl rfl 19 (by decide) (mm_h hts mm_w151) (fun _ h9 => h9) rfl dX12_count_104 ?_
          refine lv_iload_n hx hb dX12_count_107 rfl (lv_at hl 0 rfl) ?_
          refine va_iald hx hb hK.1 hP 4 1 rfl rfl (mm_in mm_k1 (by decide)) dX12_count_108 ?_
          refine lv_topi (fun v15 ev15 => ?_)
          have rv15 : mm_rg v15 0 7 := mm_eqv ev15 (h37 _)
          refine lv_iadd hx hb dX12_count_109 ?_
          refine lv_topi (fun v16 ev16 => ?_)
          have rv16 : mm_rg v16 0 14 := mm_add ev16 rv11 rv15 (by decide) (by decide)
          have tv16 := mm_addE ev16 rv11 rv15 (by decide)
          refine lv_istore_n (lv' := [(2, .int v16), (3, .int 1), (0, .ref a_0), (1, .int 4)]) hx hb dX12_count_110 rfl hl (by decide) rfl ?_
          clear hl
          clear ls
          intro ls hl
          refine lv_iinc (v := 2) (lv' := [(3, .int 2), (2, .int v16), (0, .ref a_0), (1, .int 4)]) hx hb dX12_count_111 hl (k := 1) rfl (by decide) (by decide) rfl ?_
          clear hl
          clear ls
          intro ls hl
          refine lv_goto (tgt := 92) hx hb dX12_count_114 (by decide) ?_
          refine lv_iload_n hx hb dX12_count_92 rfl (lv_at hl 0 rfl) ?_
          refine lv_aload_n hx hb dX12_count_93 rfl (lv_at hl 2 rfl) ?_
          refine va_get (D := G) (ci := 12) (v := .ref a_7) (C := RX12) (T := TX12) (N := 38) hx hb hts (mm_i inlX12) hown hK.1 hP 0 rfl rfl 17 (by decide) (mm_h hts mm_w149) (fun _ h9 => h9) rfl dX12_count_94 ?_
          refine lv_iconst (v := 3) hx hb dX12_count_97 (by decide) ?_
          refine va_iald hx hb hK.1 hP 3 1 rfl rfl (mm_in mm_k3 (by decide)) dX12_count_98 ?_
          rw [show (mm_g [i_23, i_24, i_25, i_26, i_27, i_28, i_29, i_30, i_31, i_32, i_33, i_34, i_35, i_36, i_37, i_38, i_39, i_40, i_41, i_42, i_43, i_44, i_45, i_46, i_47, i_48, i_49, i_50, i_51, i_52]) (3 : Int32).toNatClampNeg = i_26 from mm_ge 3 (by decide) rfl]
          refine lv_icmp_ge (tgt := 117) hx hb dX12_count_99 (by decide) (fun c17 => ?_) (fun c17 => ?_)
          · have q18 := mm_leL (mm_le c17) q14 mm_k2
            refine lv_iload_n hx hb dX12_count_117 rfl (lv_at hl 1 rfl) ?_
            subst hAe
            rw [hQ]
            exact W.iret (v := v16) hx hb hr (fun t ht hW => ⟨⟨v16, (), rfl, (mm_wk rv16 (by decide)), by rw [ht]; exact hP, hK.warm hW, hD⟩, hS.F ht⟩) hS.2.2 dX12_count_118
          · have q19 := mm_ltR (lo := 3) (mm_nle c17) mm_k2 q14 (by decide)
            refine lv_iload_n hx hb dX12_count_102 rfl (lv_at hl 1 rfl) ?_
            refine lv_aload_n hx hb dX12_count_103 rfl (lv_at hl 2 rfl) ?_
            refine va_get (D := G) (ci := 12) (v := .ref a_9) (C := RX12) (T := TX12) (N := 38) hx hb hts (mm_i inlX12) hown hK.1 hP 0 rfl rfl 19 (by decide) (mm_h hts mm_w151) (fun _ h9 => h9) rfl dX12_count_104 ?_
            refine lv_iload_n hx hb dX12_count_107 rfl (lv_at hl 0 rfl) ?_
            refine va_iald hx hb hK.1 hP 4 1 rfl rfl (mm_in mm_k2 (by decide)) dX12_count_108 ?_
            refine lv_topi (fun v20 ev20 => ?_)
            have rv20 : mm_rg v20 0 7 := mm_eqv ev20 (h37 _)
            refine lv_iadd hx hb dX12_count_109 ?_
            refine lv_topi (fun v21 ev21 => ?_)
            have rv21 : mm_rg v21 0 21 := mm_add ev21 rv16 rv20 (by decide) (by decide)
            have tv21 := mm_addE ev21 rv16 rv20 (by decide)
            refine lv_istore_n (lv' := [(2, .int v21), (3, .int 2), (0, .ref a_0), (1, .int 4)]) hx hb dX12_count_110 rfl hl (by decide) rfl ?_
            clear hl
            clear ls
            intro ls hl
            refine lv_iinc (v := 3) (lv' := [(3, .int 3), (2, .int v21), (0, .ref a_0), (1, .int 4)]) hx hb dX12_count_111 hl (k := 1) rfl (by decide) (by decide) rfl ?_
            clear hl
            clear ls
            intro ls hl
            refine lv_goto (tgt := 92) hx hb dX12_count_114 (by decide) ?_
            refine lv_iload_n hx hb dX12_count_92 rfl (lv_at hl 0 rfl) ?_
            refine lv_aload_n hx hb dX12_count_93 rfl (lv_at hl 2 rfl) ?_
            refine va_get (D := G) (ci := 12) (v := .ref a_7) (C := RX12) (T := TX12) (N := 38) hx hb hts (mm_i inlX12) hown hK.1 hP 0 rfl rfl 17 (by decide) (mm_h hts mm_w149) (fun _ h9 => h9) rfl dX12_count_94 ?_
            refine lv_iconst (v := 3) hx hb dX12_count_97 (by decide) ?_
            refine va_iald hx hb hK.1 hP 3 1 rfl rfl (mm_in mm_k3 (by decide)) dX12_count_98 ?_
            rw [show (mm_g [i_23, i_24, i_25, i_26, i_27, i_28, i_29, i_30, i_31, i_32, i_33, i_34, i_35, i_36, i_37, i_38, i_39, i_40, i_41, i_42, i_43, i_44, i_45, i_46, i_47, i_48, i_49, i_50, i_51, i_52]) (3 : Int32).toNatClampNeg = i_26 from mm_ge 3 (by decide) rfl]
            refine lv_icmp_ge (tgt := 117) hx hb dX12_count_99 (by decide) (fun c22 => ?_) (fun c22 => ?_)
            · refine lv_iload_n hx hb dX12_count_117 rfl (lv_at hl 1 rfl) ?_
              subst hAe
              rw [hQ]
              exact W.iret (v := v21) hx hb hr (fun t ht hW => ⟨⟨v21, (), rfl, (mm_wk rv21 (by decide)), by rw [ht]; exact hP, hK.warm hW, hD⟩, hS.F ht⟩) hS.2.2 dX12_count_118
            · have q23 := mm_ltL (h := 2) (mm_nle c22) mm_k3 q19 (by decide)
              exact mm_no q23 (by decide)
    · refine lv_tableIn (tgt := 119) hx hb dX12_count_8 (by decide) (by decide) rfl (by decide) ?_
      refine lv_aload_n hx hb dX12_count_119 rfl (lv_at hl 1 rfl) ?_
      refine mm_finir (va_runV (As := []) (rest := []) ⟨hx, hb, hml, hown, hts⟩ (M95_X12_texts l G cy H.size a_0 0 a_1 a_2 a_3 a_4 a_5 i_2 i_3 i_4 i_5 i_6 j_0 i_7 i_8 i_9 i_10 a_6 a_7 a_8 a_9 a_10 a_11 a_12 a_13 a_14 a_15 a_16 a_17 a_18 i_11 i_12 i_13 i_14 i_15 i_16 a_19 i_17 a_20 i_23 i_24 i_25 i_26 i_27 i_28 i_29 i_30 i_31 i_32 i_33 i_34 i_35 i_36 i_37 i_38 i_39 i_40 i_41 i_42 i_43 i_44 i_45 i_46 i_47 i_48 i_49 i_50 i_51 i_52 h7 h8 h9 h10 h11 h12 h13 h14 h15 h16 h17 h18 h19 h20 h21 h22 h23 h24 h25 h26 h27 h28 h29 h30 h31 h32 h33 h34 h35 h36) (cwV 0 hts (mm_gV mm_w617 mm_w618 mm_w619 mm_w5 mm_w620) rfl rfl rfl hd_X12_texts ⟨by rw [hRf]; exact Nat.le_of_ble_eq_true rfl, by rw [hRl]; exact Nat.le_of_ble_eq_true rfl⟩) (mm_preV hK hZ hS hA hP hD [0, 3] rfl rfl 0 rfl rfl rfl) rfl rfl hl.1 rfl (lv_room (Nat.le_of_ble_eq_true rfl)) dX12_count_120 ⟨by rw [hRc]; exact Nat.le_of_ble_eq_true rfl, by rw [hRs]; exact Nat.le_of_ble_eq_true rfl⟩) hP hD hS hA [0, 3] rfl (fun _ => rfl) ?_
      clear hP hD hS
      clear H locs
      intro v24 _u H locs hw hP hD hS
      subst hw
      subst hAe
      rw [hQ]
      exact W.iret (v := i_27) hx hb hr (fun t ht hW => ⟨⟨i_27, (), rfl, (mm_wk h11 (by decide)), by rw [ht]; exact hP, hK.warm hW, hD⟩, hS.F ht⟩) hS.2.2 dX12_count_123
    · refine lv_tableIn (tgt := 124) hx hb dX12_count_8 (by decide) (by decide) rfl (by decide) ?_
      refine lv_aload_n hx hb dX12_count_124 rfl (lv_at hl 1 rfl) ?_
      refine va_get (D := G) (ci := 12) (v := .ref a_7) (C := RX12) (T := TX12) (N := 38) hx hb hts (mm_i inlX12) hown hK.1 hP 0 rfl rfl 17 (by decide) (mm_h hts mm_w149) (fun _ h9 => h9) rfl dX12_count_125 ?_
      refine lv_iconst (v := 5) hx hb dX12_count_128 (by decide) ?_
      refine va_iald hx hb hK.1 hP 3 1 rfl rfl (mm_in mm_k5 (by decide)) dX12_count_129 ?_
      rw [show (mm_g [i_23, i_24, i_25, i_26, i_27, i_28, i_29, i_30, i_31, i_32, i_33, i_34, i_35, i_36, i_37, i_38, i_39, i_40, i_41, i_42, i_43, i_44, i_45, i_46, i_47, i_48, i_49, i_50, i_51, i_52]) (5 : Int32).toNatClampNeg = i_28 from mm_ge 5 (by decide) rfl]
      subst hAe
      rw [hQ]
      exact W.iret (v := i_28) hx hb hr (fun t ht hW => ⟨⟨i_28, (), rfl, (mm_wk h12 (by decide)), by rw [ht]; exact hP, hK.warm hW, hD⟩, hS.F ht⟩) hS.2.2 dX12_count_130
    · refine lv_tableIn (tgt := 131) hx hb dX12_count_8 (by decide) (by decide) rfl (by decide) ?_
      refine lv_aload_n hx hb dX12_count_131 rfl (lv_at hl 1 rfl) ?_
      refine va_get (D := G) (ci := 12) (v := .ref a_6) (C := RX12) (T := TX12) (N := 38) hx hb hts (mm_i inlX12) hown hK.1 hP 0 rfl rfl 16 (by decide) (mm_h hts mm_w148) (fun _ h9 => h9) rfl dX12_count_132 ?_
      refine lv_iconst (v := 0) hx hb dX12_count_135 (by decide) ?_
      refine va_iald hx hb hK.1 hP 2 1 rfl rfl (mm_in mm_k0 (by decide)) dX12_count_136 ?_
      rw [show (mm_g [i_18, i_19, i_20, i_21, i_22]) (0 : Int32).toNatClampNeg = i_18 from mm_ge 0 (by decide) rfl]
      subst hAe
      rw [hQ]
      exact W.iret (v := i_18) hx hb hr (fun t ht hW => ⟨⟨i_18, (), rfl, (mm_wk h2 (by decide)), by rw [ht]; exact hP, hK.warm hW, hD⟩, hS.F ht⟩) hS.2.2 dX12_count_137
    · refine lv_tableIn (tgt := 138) hx hb dX12_count_8 (by decide) (by decide) rfl (by decide) ?_
      refine lv_aload_n hx hb dX12_count_138 rfl (lv_at hl 1 rfl) ?_
      refine va_get (D := G) (ci := 12) (v := .int i_2) (C := RX12) (T := TX12) (N := 38) hx hb hts (mm_i inlX12) hown hK.1 hP 0 rfl rfl 6 (by decide) (mm_h hts mm_w178) (fun _ h9 => h9) rfl dX12_count_139 ?_
      subst hAe
      rw [hQ]
      exact W.iret (v := i_2) hx hb hr (fun t ht hW => ⟨⟨i_2, (), rfl, (mm_wk h0 (by decide)), by rw [ht]; exact hP, hK.warm hW, hD⟩, hS.F ht⟩) hS.2.2 dX12_count_142
    · refine lv_tableIn (tgt := 143) hx hb dX12_count_8 (by decide) (by decide) rfl (by decide) ?_
      refine lv_iconst (v := 0) hx hb dX12_count_143 (by decide) ?_
      refine lv_istore_n (lv' := [(3, .int 0), (2, .int 0), (0, .ref a_0), (1, .int 9)]) hx hb dX12_count_144 rfl hl (by decide) rfl ?_
      clear hl
      clear ls
      intro ls hl
      refine lv_iload_n hx hb dX12_count_145 rfl (lv_at hl 0 rfl) ?_
      refine lv_iconst (v := 4) hx hb dX12_count_146 (by decide) ?_
      refine lv_icmp_ge (tgt := 174) hx hb dX12_count_147 (by decide) (fun c25 => ?_) (fun c25 => ?_)
      · have q26 := mm_leL (mm_le c25) mm_k4 mm_k0
        exact mm_no q26 (by decide)
      · refine lv_iload_n hx hb dX12_count_150 rfl (lv_at hl 1 rfl) ?_
        refine lv_aload_n hx hb dX12_count_151 rfl (lv_at hl 2 rfl) ?_
        refine va_get (D := G) (ci := 12) (v := .ref a_1) (C := RX12) (T := TX12) (N := 38) hx hb hts (mm_i inlX12) hown hK.1 hP 0 rfl rfl 1 (by decide) (mm_h hts mm_w142) (fun _ h9 => h9) rfl dX12_count_152 ?_
        refine lv_iload_n hx hb dX12_count_155 rfl (lv_at hl 0 rfl) ?_
        refine va_iald hx hb hK.1 hP 1 1 rfl rfl (mm_in mm_k0 (by decide)) dX12_count_156 ?_
        refine lv_topi (fun v27 ev27 => ?_)
        have rv27 : mm_rg v27 (-1) 3 := mm_eqv ev27 (h1 _)
        refine lv_iconst (v := (-1)) hx hb dX12_count_157 (by decide) ?_
        refine lv_icmp_ne (tgt := 165) hx hb dX12_count_158 (by decide) (fun c28 => ?_) (fun c28 => ?_)
        · have q29 := mm_neL (lo := 0) (mm_ne c28) rv27 mm_km1 (by decide) (by decide)
          refine lv_iconst (v := 1) hx hb dX12_count_165 (by decide) ?_
          refine lv_iadd hx hb dX12_count_166 ?_
          refine lv_topi (fun v30 ev30 => ?_)
          obtain rfl : v30 = 1 := ev30.trans (by decide)
          refine lv_istore_n (lv' := [(2, .int 1), (3, .int 0), (0, .ref a_0), (1, .int 9)]) hx hb dX12_count_167 rfl hl (by decide) rfl ?_
          clear hl
          clear ls
          intro ls hl
          refine lv_iinc (v := 1) (lv' := [(3, .int 1), (2, .int 1), (0, .ref a_0), (1, .int 9)]) hx hb dX12_count_168 hl (k := 1) rfl (by decide) (by decide) rfl ?_
          clear hl
          clear ls
          intro ls hl
          refine lv_goto (tgt := 145) hx hb dX12_count_171 (by decide) ?_
          refine lv_iload_n hx hb dX12_count_145 rfl (lv_at hl 0 rfl) ?_
          refine lv_iconst (v := 4) hx hb dX12_count_146 (by decide) ?_
          refine lv_icmp_ge (tgt := 174) hx hb dX12_count_147 (by decide) (fun c31 => ?_) (fun c31 => ?_)
          · have q32 := mm_leL (mm_le c31) mm_k4 mm_k1
            exact mm_no q32 (by decide)
          · refine lv_iload_n hx hb dX12_count_150 rfl (lv_at hl 1 rfl) ?_
            refine lv_aload_n hx hb dX12_count_151 rfl (lv_at hl 2 rfl) ?_
            refine va_get (D := G) (ci := 12) (v := .ref a_1) (C := RX12) (T := TX12) (N := 38) hx hb hts (mm_i inlX12) hown hK.1 hP 0 rfl rfl 1 (by decide) (mm_h hts mm_w142) (fun _ h9 => h9) rfl dX12_count_152 ?_
            refine lv_iload_n hx hb dX12_count_155 rfl (lv_at hl 0 rfl) ?_
            refine va_iald hx hb hK.1 hP 1 1 rfl rfl (mm_in mm_k1 (by decide)) dX12_count_156 ?_
            refine lv_topi (fun v33 ev33 => ?_)
            have rv33 : mm_rg v33 (-1) 3 := mm_eqv ev33 (h1 _)
            refine lv_iconst (v := (-1)) hx hb dX12_count_157 (by decide) ?_
            refine lv_icmp_ne (tgt := 165) hx hb dX12_count_158 (by decide) (fun c34 => ?_) (fun c34 => ?_)
            · have q35 := mm_neL (lo := 0) (mm_ne c34) rv33 mm_km1 (by decide) (by decide)
              refine lv_iconst (v := 1) hx hb dX12_count_165 (by decide) ?_
              refine lv_iadd hx hb dX12_count_166 ?_
              refine lv_topi (fun v36 ev36 => ?_)
              obtain rfl : v36 = 2 := ev36.trans (by decide)
              refine lv_istore_n (lv' := [(2, .int 2), (3, .int 1), (0, .ref a_0), (1, .int 9)]) hx hb dX12_count_167 rfl hl (by decide) rfl ?_
              clear hl
              clear ls
              intro ls hl
              refine lv_iinc (v := 2) (lv' := [(3, .int 2), (2, .int 2), (0, .ref a_0), (1, .int 9)]) hx hb dX12_count_168 hl (k := 1) rfl (by decide) (by decide) rfl ?_
              clear hl
              clear ls
              intro ls hl
              refine lv_goto (tgt := 145) hx hb dX12_count_171 (by decide) ?_
              refine lv_iload_n hx hb dX12_count_145 rfl (lv_at hl 0 rfl) ?_
              refine lv_iconst (v := 4) hx hb dX12_count_146 (by decide) ?_
              refine lv_icmp_ge (tgt := 174) hx hb dX12_count_147 (by decide) (fun c37 => ?_) (fun c37 => ?_)
              · have q38 := mm_leL (mm_le c37) mm_k4 mm_k2
                exact mm_no q38 (by decide)
              · refine lv_iload_n hx hb dX12_count_150 rfl (lv_at hl 1 rfl) ?_
                refine lv_aload_n hx hb dX12_count_151 rfl (lv_at hl 2 rfl) ?_
                refine va_get (D := G) (ci := 12) (v := .ref a_1) (C := RX12) (T := TX12) (N := 38) hx hb hts (mm_i inlX12) hown hK.1 hP 0 rfl rfl 1 (by decide) (mm_h hts mm_w142) (fun _ h9 => h9) rfl dX12_count_152 ?_
                refine lv_iload_n hx hb dX12_count_155 rfl (lv_at hl 0 rfl) ?_
                refine va_iald hx hb hK.1 hP 1 1 rfl rfl (mm_in mm_k2 (by decide)) dX12_count_156 ?_
                refine lv_topi (fun v39 ev39 => ?_)
                have rv39 : mm_rg v39 (-1) 3 := mm_eqv ev39 (h1 _)
                refine lv_iconst (v := (-1)) hx hb dX12_count_157 (by decide) ?_
                refine lv_icmp_ne (tgt := 165) hx hb dX12_count_158 (by decide) (fun c40 => ?_) (fun c40 => ?_)
                · have q41 := mm_neL (lo := 0) (mm_ne c40) rv39 mm_km1 (by decide) (by decide)
                  refine lv_iconst (v := 1) hx hb dX12_count_165 (by decide) ?_
                  refine lv_iadd hx hb dX12_count_166 ?_
                  refine lv_topi (fun v42 ev42 => ?_)
                  obtain rfl : v42 = 3 := ev42.trans (by decide)
                  refine lv_istore_n (lv' := [(2, .int 3), (3, .int 2), (0, .ref a_0), (1, .int 9)]) hx hb dX12_count_167 rfl hl (by decide) rfl ?_
                  clear hl
                  clear ls
                  intro ls hl
                  refine lv_iinc (v := 3) (lv' := [(3, .int 3), (2, .int 3), (0, .ref a_0), (1, .int 9)]) hx hb dX12_count_168 hl (k := 1) rfl (by decide) (by decide) rfl ?_
                  clear hl
                  clear ls
                  intro ls hl
                  refine lv_goto (tgt := 145) hx hb dX12_count_171 (by decide) ?_
                  refine lv_iload_n hx hb dX12_count_145 rfl (lv_at hl 0 rfl) ?_
                  refine lv_iconst (v := 4) hx hb dX12_count_146 (by decide) ?_
                  refine lv_icmp_ge (tgt := 174) hx hb dX12_count_147 (by decide) (fun c43 => ?_) (fun c43 => ?_)
                  · have q44 := mm_leL (mm_le c43) mm_k4 mm_k3
                    exact mm_no q44 (by decide)
                  · refine lv_iload_n hx hb dX12_count_150 rfl (lv_at hl 1 rfl) ?_
                    refine lv_aload_n hx hb dX12_count_151 rfl (lv_at hl 2 rfl) ?_
                    refine va_get (D := G) (ci := 12) (v := .ref a_1) (C := RX12) (T := TX12) (N := 38) hx hb hts (mm_i inlX12) hown hK.1 hP 0 rfl rfl 1 (by decide) (mm_h hts mm_w142) (fun _ h9 => h9) rfl dX12_count_152 ?_
                    refine lv_iload_n hx hb dX12_count_155 rfl (lv_at hl 0 rfl) ?_
                    refine va_iald hx hb hK.1 hP 1 1 rfl rfl (mm_in mm_k3 (by decide)) dX12_count_156 ?_
                    refine lv_topi (fun v45 ev45 => ?_)
                    have rv45 : mm_rg v45 (-1) 3 := mm_eqv ev45 (h1 _)
                    refine lv_iconst (v := (-1)) hx hb dX12_count_157 (by decide) ?_
                    refine lv_icmp_ne (tgt := 165) hx hb dX12_count_158 (by decide) (fun c46 => ?_) (fun c46 => ?_)
                    · have q47 := mm_neL (lo := 0) (mm_ne c46) rv45 mm_km1 (by decide) (by decide)
                      refine lv_iconst (v := 1) hx hb dX12_count_165 (by decide) ?_
                      refine lv_iadd hx hb dX12_count_166 ?_
                      refine lv_topi (fun v48 ev48 => ?_)
                      obtain rfl : v48 = 4 := ev48.trans (by decide)
                      refine lv_istore_n (lv' := [(2, .int 4), (3, .int 3), (0, .ref a_0), (1, .int 9)]) hx hb dX12_count_167 rfl hl (by decide) rfl ?_
                      clear hl
                      clear ls
                      intro ls hl
                      refine lv_iinc (v := 4) (lv' := [(3, .int 4), (2, .int 4), (0, .ref a_0), (1, .int 9)]) hx hb dX12_count_168 hl (k := 1) rfl (by decide) (by decide) rfl ?_
                      clear hl
                      clear ls
                      intro ls hl
                      refine lv_goto (tgt := 145) hx hb dX12_count_171 (by decide) ?_
                      refine lv_iload_n hx hb dX12_count_145 rfl (lv_at hl 0 rfl) ?_
                      refine lv_iconst (v := 4) hx hb dX12_count_146 (by decide) ?_
                      refine lv_icmp_ge (tgt := 174) hx hb dX12_count_147 (by decide) (fun c49 => ?_) (fun c49 => ?_)
                      · refine lv_iload_n hx hb dX12_count_174 rfl (lv_at hl 1 rfl) ?_
                        subst hAe
                        rw [hQ]
                        exact W.iret (v := 4) hx hb hr (fun t ht hW => ⟨⟨4, (), rfl, (mm_wk mm_k4 (by decide)), by rw [ht]; exact hP, hK.warm hW, hD⟩, hS.F ht⟩) hS.2.2 dX12_count_175
                      · have q50 := mm_ltL (h := 3) (mm_nle c49) mm_k4 mm_k4 (by decide)
                        exact mm_no q50 (by decide)
                    · have q51 := mm_eqI (lo := (-1)) (hi := (-1)) c46 rv45 mm_km1 (by decide)
                      refine lv_iconst (v := 0) hx hb dX12_count_161 (by decide) ?_
                      refine lv_goto (tgt := 166) hx hb dX12_count_162 (by decide) ?_
                      refine lv_iadd hx hb dX12_count_166 ?_
                      refine lv_topi (fun v52 ev52 => ?_)
                      obtain rfl : v52 = 3 := ev52.trans (by decide)
                      refine lv_istore_n (lv' := [(2, .int 3), (3, .int 3), (0, .ref a_0), (1, .int 9)]) hx hb dX12_count_167 rfl hl (by decide) rfl ?_
                      clear hl
                      clear ls
                      intro ls hl
                      refine lv_iinc (v := 4) (lv' := [(3, .int 4), (2, .int 3), (0, .ref a_0), (1, .int 9)]) hx hb dX12_count_168 hl (k := 1) rfl (by decide) (by decide) rfl ?_
                      clear hl
                      clear ls
                      intro ls hl
                      refine lv_goto (tgt := 145) hx hb dX12_count_171 (by decide) ?_
                      refine lv_iload_n hx hb dX12_count_145 rfl (lv_at hl 0 rfl) ?_
                      refine lv_iconst (v := 4) hx hb dX12_count_146 (by decide) ?_
                      refine lv_icmp_ge (tgt := 174) hx hb dX12_count_147 (by decide) (fun c53 => ?_) (fun c53 => ?_)
                      · refine lv_iload_n hx hb dX12_count_174 rfl (lv_at hl 1 rfl) ?_
                        subst hAe
                        rw [hQ]
                        exact W.iret (v := 3) hx hb hr (fun t ht hW => ⟨⟨3, (), rfl, (mm_wk mm_k3 (by decide)), by rw [ht]; exact hP, hK.warm hW, hD⟩, hS.F ht⟩) hS.2.2 dX12_count_175
                      · have q54 := mm_ltL (h := 3) (mm_nle c53) mm_k4 mm_k4 (by decide)
                        exact mm_no q54 (by decide)
                · have q55 := mm_eqI (lo := (-1)) (hi := (-1)) c40 rv39 mm_km1 (by decide)
                  refine lv_iconst (v := 0) hx hb dX12_count_161 (by decide) ?_
                  refine lv_goto (tgt := 166) hx hb dX12_count_162 (by decide) ?_
                  refine lv_iadd hx hb dX12_count_166 ?_
                  refine lv_topi (fun v56 ev56 => ?_)
                  obtain rfl : v56 = 2 := ev56.trans (by decide)
                  refine lv_istore_n (lv' := [(2, .int 2), (3, .int 2), (0, .ref a_0), (1, .int 9)]) hx hb dX12_count_167 rfl hl (by decide) rfl ?_
                  clear hl
                  clear ls
                  intro ls hl
                  refine lv_iinc (v := 3) (lv' := [(3, .int 3), (2, .int 2), (0, .ref a_0), (1, .int 9)]) hx hb dX12_count_168 hl (k := 1) rfl (by decide) (by decide) rfl ?_
                  clear hl
                  clear ls
                  intro ls hl
                  refine lv_goto (tgt := 145) hx hb dX12_count_171 (by decide) ?_
                  refine lv_iload_n hx hb dX12_count_145 rfl (lv_at hl 0 rfl) ?_
                  refine lv_iconst (v := 4) hx hb dX12_count_146 (by decide) ?_
                  refine lv_icmp_ge (tgt := 174) hx hb dX12_count_147 (by decide) (fun c57 => ?_) (fun c57 => ?_)
                  · have q58 := mm_leL (mm_le c57) mm_k4 mm_k3
                    exact mm_no q58 (by decide)
                  · refine lv_iload_n hx hb dX12_count_150 rfl (lv_at hl 1 rfl) ?_
                    refine lv_aload_n hx hb dX12_count_151 rfl (lv_at hl 2 rfl) ?_
                    refine va_get (D := G) (ci := 12) (v := .ref a_1) (C := RX12) (T := TX12) (N := 38) hx hb hts (mm_i inlX12) hown hK.1 hP 0 rfl rfl 1 (by decide) (mm_h hts mm_w142) (fun _ h9 => h9) rfl dX12_count_152 ?_
                    refine lv_iload_n hx hb dX12_count_155 rfl (lv_at hl 0 rfl) ?_
                    refine va_iald hx hb hK.1 hP 1 1 rfl rfl (mm_in mm_k3 (by decide)) dX12_count_156 ?_
                    refine lv_topi (fun v59 ev59 => ?_)
                    have rv59 : mm_rg v59 (-1) 3 := mm_eqv ev59 (h1 _)
                    refine lv_iconst (v := (-1)) hx hb dX12_count_157 (by decide) ?_
                    refine lv_icmp_ne (tgt := 165) hx hb dX12_count_158 (by decide) (fun c60 => ?_) (fun c60 => ?_)
                    · have q61 := mm_neL (lo := 0) (mm_ne c60) rv59 mm_km1 (by decide) (by decide)
                      refine lv_iconst (v := 1) hx hb dX12_count_165 (by decide) ?_
                      refine lv_iadd hx hb dX12_count_166 ?_
                      refine lv_topi (fun v62 ev62 => ?_)
                      obtain rfl : v62 = 3 := ev62.trans (by decide)
                      refine lv_istore_n (lv' := [(2, .int 3), (3, .int 3), (0, .ref a_0), (1, .int 9)]) hx hb dX12_count_167 rfl hl (by decide) rfl ?_
                      clear hl
                      clear ls
                      intro ls hl
                      refine lv_iinc (v := 4) (lv' := [(3, .int 4), (2, .int 3), (0, .ref a_0), (1, .int 9)]) hx hb dX12_count_168 hl (k := 1) rfl (by decide) (by decide) rfl ?_
                      clear hl
                      clear ls
                      intro ls hl
                      refine lv_goto (tgt := 145) hx hb dX12_count_171 (by decide) ?_
                      refine lv_iload_n hx hb dX12_count_145 rfl (lv_at hl 0 rfl) ?_
                      refine lv_iconst (v := 4) hx hb dX12_count_146 (by decide) ?_
                      refine lv_icmp_ge (tgt := 174) hx hb dX12_count_147 (by decide) (fun c63 => ?_) (fun c63 => ?_)
                      · refine lv_iload_n hx hb dX12_count_174 rfl (lv_at hl 1 rfl) ?_
                        subst hAe
                        rw [hQ]
                        exact W.iret (v := 3) hx hb hr (fun t ht hW => ⟨⟨3, (), rfl, (mm_wk mm_k3 (by decide)), by rw [ht]; exact hP, hK.warm hW, hD⟩, hS.F ht⟩) hS.2.2 dX12_count_175
                      · have q64 := mm_ltL (h := 3) (mm_nle c63) mm_k4 mm_k4 (by decide)
                        exact mm_no q64 (by decide)
                    · have q65 := mm_eqI (lo := (-1)) (hi := (-1)) c60 rv59 mm_km1 (by decide)
                      refine lv_iconst (v := 0) hx hb dX12_count_161 (by decide) ?_
                      refine lv_goto (tgt := 166) hx hb dX12_count_162 (by decide) ?_
                      refine lv_iadd hx hb dX12_count_166 ?_
                      refine lv_topi (fun v66 ev66 => ?_)
                      obtain rfl : v66 = 2 := ev66.trans (by decide)
                      refine lv_istore_n (lv' := [(2, .int 2), (3, .int 3), (0, .ref a_0), (1, .int 9)]) hx hb dX12_count_167 rfl hl (by decide) rfl ?_
                      clear hl
                      clear ls
                      intro ls hl
                      refine lv_iinc (v := 4) (lv' := [(3, .int 4), (2, .int 2), (0, .ref a_0), (1, .int 9)]) hx hb dX12_count_168 hl (k := 1) rfl (by decide) (by decide) rfl ?_
                      clear hl
                      clear ls
                      intro ls hl
                      refine lv_goto (tgt := 145) hx hb dX12_count_171 (by decide) ?_
                      refine lv_iload_n hx hb dX12_count_145 rfl (lv_at hl 0 rfl) ?_
                      refine lv_iconst (v := 4) hx hb dX12_count_146 (by decide) ?_
                      refine lv_icmp_ge (tgt := 174) hx hb dX12_count_147 (by decide) (fun c67 => ?_) (fun c67 => ?_)
                      · refine lv_iload_n hx hb dX12_count_174 rfl (lv_at hl 1 rfl) ?_
                        subst hAe
                        rw [hQ]
                        exact W.iret (v := 2) hx hb hr (fun t ht hW => ⟨⟨2, (), rfl, (mm_wk mm_k2 (by decide)), by rw [ht]; exact hP, hK.warm hW, hD⟩, hS.F ht⟩) hS.2.2 dX12_count_175
                      · have q68 := mm_ltL (h := 3) (mm_nle c67) mm_k4 mm_k4 (by decide)
                        exact mm_no q68 (by decide)
            · have q69 := mm_eqI (lo := (-1)) (hi := (-1)) c34 rv33 mm_km1 (by decide)
              refine lv_iconst (v := 0) hx hb dX12_count_161 (by decide) ?_
              refine lv_goto (tgt := 166) hx hb dX12_count_162 (by decide) ?_
              refine lv_iadd hx hb dX12_count_166 ?_
              refine lv_topi (fun v70 ev70 => ?_)
              obtain rfl : v70 = 1 := ev70.trans (by decide)
              refine lv_istore_n (lv' := [(2, .int 1), (3, .int 1), (0, .ref a_0), (1, .int 9)]) hx hb dX12_count_167 rfl hl (by decide) rfl ?_
              clear hl
              clear ls
              intro ls hl
              refine lv_iinc (v := 2) (lv' := [(3, .int 2), (2, .int 1), (0, .ref a_0), (1, .int 9)]) hx hb dX12_count_168 hl (k := 1) rfl (by decide) (by decide) rfl ?_
              clear hl
              clear ls
              intro ls hl
              refine lv_goto (tgt := 145) hx hb dX12_count_171 (by decide) ?_
              refine lv_iload_n hx hb dX12_count_145 rfl (lv_at hl 0 rfl) ?_
              refine lv_iconst (v := 4) hx hb dX12_count_146 (by decide) ?_
              refine lv_icmp_ge (tgt := 174) hx hb dX12_count_147 (by decide) (fun c71 => ?_) (fun c71 => ?_)
              · have q72 := mm_leL (mm_le c71) mm_k4 mm_k2
                exact mm_no q72 (by decide)
              · refine lv_iload_n hx hb dX12_count_150 rfl (lv_at hl 1 rfl) ?_
                refine lv_aload_n hx hb dX12_count_151 rfl (lv_at hl 2 rfl) ?_
                refine va_get (D := G) (ci := 12) (v := .ref a_1) (C := RX12) (T := TX12) (N := 38) hx hb hts (mm_i inlX12) hown hK.1 hP 0 rfl rfl 1 (by decide) (mm_h hts mm_w142) (fun _ h9 => h9) rfl dX12_count_152 ?_
                refine lv_iload_n hx hb dX12_count_155 rfl (lv_at hl 0 rfl) ?_
                refine va_iald hx hb hK.1 hP 1 1 rfl rfl (mm_in mm_k2 (by decide)) dX12_count_156 ?_
                refine lv_topi (fun v73 ev73 => ?_)
                have rv73 : mm_rg v73 (-1) 3 := mm_eqv ev73 (h1 _)
                refine lv_iconst (v := (-1)) hx hb dX12_count_157 (by decide) ?_
                refine lv_icmp_ne (tgt := 165) hx hb dX12_count_158 (by decide) (fun c74 => ?_) (fun c74 => ?_)
                · have q75 := mm_neL (lo := 0) (mm_ne c74) rv73 mm_km1 (by decide) (by decide)
                  refine lv_iconst (v := 1) hx hb dX12_count_165 (by decide) ?_
                  refine lv_iadd hx hb dX12_count_166 ?_
                  refine lv_topi (fun v76 ev76 => ?_)
                  obtain rfl : v76 = 2 := ev76.trans (by decide)
                  refine lv_istore_n (lv' := [(2, .int 2), (3, .int 2), (0, .ref a_0), (1, .int 9)]) hx hb dX12_count_167 rfl hl (by decide) rfl ?_
                  clear hl
                  clear ls
                  intro ls hl
                  refine lv_iinc (v := 3) (lv' := [(3, .int 3), (2, .int 2), (0, .ref a_0), (1, .int 9)]) hx hb dX12_count_168 hl (k := 1) rfl (by decide) (by decide) rfl ?_
                  clear hl
                  clear ls
                  intro ls hl
                  refine lv_goto (tgt := 145) hx hb dX12_count_171 (by decide) ?_
                  refine lv_iload_n hx hb dX12_count_145 rfl (lv_at hl 0 rfl) ?_
                  refine lv_iconst (v := 4) hx hb dX12_count_146 (by decide) ?_
                  refine lv_icmp_ge (tgt := 174) hx hb dX12_count_147 (by decide) (fun c77 => ?_) (fun c77 => ?_)
                  · have q78 := mm_leL (mm_le c77) mm_k4 mm_k3
                    exact mm_no q78 (by decide)
                  · refine lv_iload_n hx hb dX12_count_150 rfl (lv_at hl 1 rfl) ?_
                    refine lv_aload_n hx hb dX12_count_151 rfl (lv_at hl 2 rfl) ?_
                    refine va_get (D := G) (ci := 12) (v := .ref a_1) (C := RX12) (T := TX12) (N := 38) hx hb hts (mm_i inlX12) hown hK.1 hP 0 rfl rfl 1 (by decide) (mm_h hts mm_w142) (fun _ h9 => h9) rfl dX12_count_152 ?_
                    refine lv_iload_n hx hb dX12_count_155 rfl (lv_at hl 0 rfl) ?_
                    refine va_iald hx hb hK.1 hP 1 1 rfl rfl (mm_in mm_k3 (by decide)) dX12_count_156 ?_
                    refine lv_topi (fun v79 ev79 => ?_)
                    have rv79 : mm_rg v79 (-1) 3 := mm_eqv ev79 (h1 _)
                    refine lv_iconst (v := (-1)) hx hb dX12_count_157 (by decide) ?_
                    refine lv_icmp_ne (tgt := 165) hx hb dX12_count_158 (by decide) (fun c80 => ?_) (fun c80 => ?_)
                    · have q81 := mm_neL (lo := 0) (mm_ne c80) rv79 mm_km1 (by decide) (by decide)
                      refine lv_iconst (v := 1) hx hb dX12_count_165 (by decide) ?_
                      refine lv_iadd hx hb dX12_count_166 ?_
                      refine lv_topi (fun v82 ev82 => ?_)
                      obtain rfl : v82 = 3 := ev82.trans (by decide)
                      refine lv_istore_n (lv' := [(2, .int 3), (3, .int 3), (0, .ref a_0), (1, .int 9)]) hx hb dX12_count_167 rfl hl (by decide) rfl ?_
                      clear hl
                      clear ls
                      intro ls hl
                      refine lv_iinc (v := 4) (lv' := [(3, .int 4), (2, .int 3), (0, .ref a_0), (1, .int 9)]) hx hb dX12_count_168 hl (k := 1) rfl (by decide) (by decide) rfl ?_
                      clear hl
                      clear ls
                      intro ls hl
                      refine lv_goto (tgt := 145) hx hb dX12_count_171 (by decide) ?_
                      refine lv_iload_n hx hb dX12_count_145 rfl (lv_at hl 0 rfl) ?_
                      refine lv_iconst (v := 4) hx hb dX12_count_146 (by decide) ?_
                      refine lv_icmp_ge (tgt := 174) hx hb dX12_count_147 (by decide) (fun c83 => ?_) (fun c83 => ?_)
                      · refine lv_iload_n hx hb dX12_count_174 rfl (lv_at hl 1 rfl) ?_
                        subst hAe
                        rw [hQ]
                        exact W.iret (v := 3) hx hb hr (fun t ht hW => ⟨⟨3, (), rfl, (mm_wk mm_k3 (by decide)), by rw [ht]; exact hP, hK.warm hW, hD⟩, hS.F ht⟩) hS.2.2 dX12_count_175
                      · have q84 := mm_ltL (h := 3) (mm_nle c83) mm_k4 mm_k4 (by decide)
                        exact mm_no q84 (by decide)
                    · have q85 := mm_eqI (lo := (-1)) (hi := (-1)) c80 rv79 mm_km1 (by decide)
                      refine lv_iconst (v := 0) hx hb dX12_count_161 (by decide) ?_
                      refine lv_goto (tgt := 166) hx hb dX12_count_162 (by decide) ?_
                      refine lv_iadd hx hb dX12_count_166 ?_
                      refine lv_topi (fun v86 ev86 => ?_)
                      obtain rfl : v86 = 2 := ev86.trans (by decide)
                      refine lv_istore_n (lv' := [(2, .int 2), (3, .int 3), (0, .ref a_0), (1, .int 9)]) hx hb dX12_count_167 rfl hl (by decide) rfl ?_
                      clear hl
                      clear ls
                      intro ls hl
                      refine lv_iinc (v := 4) (lv' := [(3, .int 4), (2, .int 2), (0, .ref a_0), (1, .int 9)]) hx hb dX12_count_168 hl (k := 1) rfl (by decide) (by decide) rfl ?_
                      clear hl
                      clear ls
                      intro ls hl
                      refine lv_goto (tgt := 145) hx hb dX12_count_171 (by decide) ?_
                      refine lv_iload_n hx hb dX12_count_145 rfl (lv_at hl 0 rfl) ?_
                      refine lv_iconst (v := 4) hx hb dX12_count_146 (by decide) ?_
                      refine lv_icmp_ge (tgt := 174) hx hb dX12_count_147 (by decide) (fun c87 => ?_) (fun c87 => ?_)
                      · refine lv_iload_n hx hb dX12_count_174 rfl (lv_at hl 1 rfl) ?_
                        subst hAe
                        rw [hQ]
                        exact W.iret (v := 2) hx hb hr (fun t ht hW => ⟨⟨2, (), rfl, (mm_wk mm_k2 (by decide)), by rw [ht]; exact hP, hK.warm hW, hD⟩, hS.F ht⟩) hS.2.2 dX12_count_175
                      · have q88 := mm_ltL (h := 3) (mm_nle c87) mm_k4 mm_k4 (by decide)
                        exact mm_no q88 (by decide)
                · have q89 := mm_eqI (lo := (-1)) (hi := (-1)) c74 rv73 mm_km1 (by decide)
                  refine lv_iconst (v := 0) hx hb dX12_count_161 (by decide) ?_
                  refine lv_goto (tgt := 166) hx hb dX12_count_162 (by decide) ?_
                  refine lv_iadd hx hb dX12_count_166 ?_
                  refine lv_topi (fun v90 ev90 => ?_)
                  obtain rfl : v90 = 1 := ev90.trans (by decide)
                  refine lv_istore_n (lv' := [(2, .int 1), (3, .int 2), (0, .ref a_0), (1, .int 9)]) hx hb dX12_count_167 rfl hl (by decide) rfl ?_
                  clear hl
                  clear ls
                  intro ls hl
                  refine lv_iinc (v := 3) (lv' := [(3, .int 3), (2, .int 1), (0, .ref a_0), (1, .int 9)]) hx hb dX12_count_168 hl (k := 1) rfl (by decide) (by decide) rfl ?_
                  clear hl
                  clear ls
                  intro ls hl
                  refine lv_goto (tgt := 145) hx hb dX12_count_171 (by decide) ?_
                  refine lv_iload_n hx hb dX12_count_145 rfl (lv_at hl 0 rfl) ?_
                  refine lv_iconst (v := 4) hx hb dX12_count_146 (by decide) ?_
                  refine lv_icmp_ge (tgt := 174) hx hb dX12_count_147 (by decide) (fun c91 => ?_) (fun c91 => ?_)
                  · have q92 := mm_leL (mm_le c91) mm_k4 mm_k3
                    exact mm_no q92 (by decide)
                  · refine lv_iload_n hx hb dX12_count_150 rfl (lv_at hl 1 rfl) ?_
                    refine lv_aload_n hx hb dX12_count_151 rfl (lv_at hl 2 rfl) ?_
                    refine va_get (D := G) (ci := 12) (v := .ref a_1) (C := RX12) (T := TX12) (N := 38) hx hb hts (mm_i inlX12) hown hK.1 hP 0 rfl rfl 1 (by decide) (mm_h hts mm_w142) (fun _ h9 => h9) rfl dX12_count_152 ?_
                    refine lv_iload_n hx hb dX12_count_155 rfl (lv_at hl 0 rfl) ?_
                    refine va_iald hx hb hK.1 hP 1 1 rfl rfl (mm_in mm_k3 (by decide)) dX12_count_156 ?_
                    refine lv_topi (fun v93 ev93 => ?_)
                    have rv93 : mm_rg v93 (-1) 3 := mm_eqv ev93 (h1 _)
                    refine lv_iconst (v := (-1)) hx hb dX12_count_157 (by decide) ?_
                    refine lv_icmp_ne (tgt := 165) hx hb dX12_count_158 (by decide) (fun c94 => ?_) (fun c94 => ?_)
                    · have q95 := mm_neL (lo := 0) (mm_ne c94) rv93 mm_km1 (by decide) (by decide)
                      refine lv_iconst (v := 1) hx hb dX12_count_165 (by decide) ?_
                      refine lv_iadd hx hb dX12_count_166 ?_
                      refine lv_topi (fun v96 ev96 => ?_)
                      obtain rfl : v96 = 2 := ev96.trans (by decide)
                      refine lv_istore_n (lv' := [(2, .int 2), (3, .int 3), (0, .ref a_0), (1, .int 9)]) hx hb dX12_count_167 rfl hl (by decide) rfl ?_
                      clear hl
                      clear ls
                      intro ls hl
                      refine lv_iinc (v := 4) (lv' := [(3, .int 4), (2, .int 2), (0, .ref a_0), (1, .int 9)]) hx hb dX12_count_168 hl (k := 1) rfl (by decide) (by decide) rfl ?_
                      clear hl
                      clear ls
                      intro ls hl
                      refine lv_goto (tgt := 145) hx hb dX12_count_171 (by decide) ?_
                      refine lv_iload_n hx hb dX12_count_145 rfl (lv_at hl 0 rfl) ?_
                      refine lv_iconst (v := 4) hx hb dX12_count_146 (by decide) ?_
                      refine lv_icmp_ge (tgt := 174) hx hb dX12_count_147 (by decide) (fun c97 => ?_) (fun c97 => ?_)
                      · refine lv_iload_n hx hb dX12_count_174 rfl (lv_at hl 1 rfl) ?_
                        subst hAe
                        rw [hQ]
                        exact W.iret (v := 2) hx hb hr (fun t ht hW => ⟨⟨2, (), rfl, (mm_wk mm_k2 (by decide)), by rw [ht]; exact hP, hK.warm hW, hD⟩, hS.F ht⟩) hS.2.2 dX12_count_175
                      · have q98 := mm_ltL (h := 3) (mm_nle c97) mm_k4 mm_k4 (by decide)
                        exact mm_no q98 (by decide)
                    · have q99 := mm_eqI (lo := (-1)) (hi := (-1)) c94 rv93 mm_km1 (by decide)
                      refine lv_iconst (v := 0) hx hb dX12_count_161 (by decide) ?_
                      refine lv_goto (tgt := 166) hx hb dX12_count_162 (by decide) ?_
                      refine lv_iadd hx hb dX12_count_166 ?_
                      refine lv_topi (fun v100 ev100 => ?_)
                      obtain rfl : v100 = 1 := ev100.trans (by decide)
                      refine lv_istore_n (lv' := [(2, .int 1), (3, .int 3), (0, .ref a_0), (1, .int 9)]) hx hb dX12_count_167 rfl hl (by decide) rfl ?_
                      clear hl
                      clear ls
                      intro ls hl
                      refine lv_iinc (v := 4) (lv' := [(3, .int 4), (2, .int 1), (0, .ref a_0), (1, .int 9)]) hx hb dX12_count_168 hl (k := 1) rfl (by decide) (by decide) rfl ?_
                      clear hl
                      clear ls
                      intro ls hl
                      refine lv_goto (tgt := 145) hx hb dX12_count_171 (by decide) ?_
                      refine lv_iload_n hx hb dX12_count_145 rfl (lv_at hl 0 rfl) ?_
                      refine lv_iconst (v := 4) hx hb dX12_count_146 (by decide) ?_
                      refine lv_icmp_ge (tgt := 174) hx hb dX12_count_147 (by decide) (fun c101 => ?_) (fun c101 => ?_)
                      · refine lv_iload_n hx hb dX12_count_174 rfl (lv_at hl 1 rfl) ?_
                        subst hAe
                        rw [hQ]
                        exact W.iret (v := 1) hx hb hr (fun t ht hW => ⟨⟨1, (), rfl, (mm_wk mm_k1 (by decide)), by rw [ht]; exact hP, hK.warm hW, hD⟩, hS.F ht⟩) hS.2.2 dX12_count_175
                      · have q102 := mm_ltL (h := 3) (mm_nle c101) mm_k4 mm_k4 (by decide)
                        exact mm_no q102 (by decide)
        · have q103 := mm_eqI (lo := (-1)) (hi := (-1)) c28 rv27 mm_km1 (by decide)
          refine lv_iconst (v := 0) hx hb dX12_count_161 (by decide) ?_
          refine lv_goto (tgt := 166) hx hb dX12_count_162 (by decide) ?_
          refine lv_iadd hx hb dX12_count_166 ?_
          refine lv_topi (fun v104 ev104 => ?_)
          obtain rfl : v104 = 0 := ev104.trans (by decide)
          refine lv_istore_n (lv' := [(2, .int 0), (3, .int 0), (0, .ref a_0), (1, .int 9)]) hx hb dX12_count_167 rfl hl (by decide) rfl ?_
          clear hl
          clear ls
          intro ls hl
          refine lv_iinc (v := 1) (lv' := [(3, .int 1), (2, .int 0), (0, .ref a_0), (1, .int 9)]) hx hb dX12_count_168 hl (k := 1) rfl (by decide) (by decide) rfl ?_
          clear hl
          clear ls
          intro ls hl
          refine lv_goto (tgt := 145) hx hb dX12_count_171 (by decide) ?_
          refine lv_iload_n hx hb dX12_count_145 rfl (lv_at hl 0 rfl) ?_
          refine lv_iconst (v := 4) hx hb dX12_count_146 (by decide) ?_
          refine lv_icmp_ge (tgt := 174) hx hb dX12_count_147 (by decide) (fun c105 => ?_) (fun c105 => ?_)
          · have q106 := mm_leL (mm_le c105) mm_k4 mm_k1
            exact mm_no q106 (by decide)
          · refine lv_iload_n hx hb dX12_count_150 rfl (lv_at hl 1 rfl) ?_
            refine lv_aload_n hx hb dX12_count_151 rfl (lv_at hl 2 rfl) ?_
            refine va_get (D := G) (ci := 12) (v := .ref a_1) (C := RX12) (T := TX12) (N := 38) hx hb hts (mm_i inlX12) hown hK.1 hP 0 rfl rfl 1 (by decide) (mm_h hts mm_w142) (fun _ h9 => h9) rfl dX12_count_152 ?_
            refine lv_iload_n hx hb dX12_count_155 rfl (lv_at hl 0 rfl) ?_
            refine va_iald hx hb hK.1 hP 1 1 rfl rfl (mm_in mm_k1 (by decide)) dX12_count_156 ?_
            refine lv_topi (fun v107 ev107 => ?_)
            have rv107 : mm_rg v107 (-1) 3 := mm_eqv ev107 (h1 _)
            refine lv_iconst (v := (-1)) hx hb dX12_count_157 (by decide) ?_
            refine lv_icmp_ne (tgt := 165) hx hb dX12_count_158 (by decide) (fun c108 => ?_) (fun c108 => ?_)
            · have q109 := mm_neL (lo := 0) (mm_ne c108) rv107 mm_km1 (by decide) (by decide)
              refine lv_iconst (v := 1) hx hb dX12_count_165 (by decide) ?_
              refine lv_iadd hx hb dX12_count_166 ?_
              refine lv_topi (fun v110 ev110 => ?_)
              obtain rfl : v110 = 1 := ev110.trans (by decide)
              refine lv_istore_n (lv' := [(2, .int 1), (3, .int 1), (0, .ref a_0), (1, .int 9)]) hx hb dX12_count_167 rfl hl (by decide) rfl ?_
              clear hl
              clear ls
              intro ls hl
              refine lv_iinc (v := 2) (lv' := [(3, .int 2), (2, .int 1), (0, .ref a_0), (1, .int 9)]) hx hb dX12_count_168 hl (k := 1) rfl (by decide) (by decide) rfl ?_
              clear hl
              clear ls
              intro ls hl
              refine lv_goto (tgt := 145) hx hb dX12_count_171 (by decide) ?_
              refine lv_iload_n hx hb dX12_count_145 rfl (lv_at hl 0 rfl) ?_
              refine lv_iconst (v := 4) hx hb dX12_count_146 (by decide) ?_
              refine lv_icmp_ge (tgt := 174) hx hb dX12_count_147 (by decide) (fun c111 => ?_) (fun c111 => ?_)
              · have q112 := mm_leL (mm_le c111) mm_k4 mm_k2
                exact mm_no q112 (by decide)
              · refine lv_iload_n hx hb dX12_count_150 rfl (lv_at hl 1 rfl) ?_
                refine lv_aload_n hx hb dX12_count_151 rfl (lv_at hl 2 rfl) ?_
                refine va_get (D := G) (ci := 12) (v := .ref a_1) (C := RX12) (T := TX12) (N := 38) hx hb hts (mm_i inlX12) hown hK.1 hP 0 rfl rfl 1 (by decide) (mm_h hts mm_w142) (fun _ h9 => h9) rfl dX12_count_152 ?_
                refine lv_iload_n hx hb dX12_count_155 rfl (lv_at hl 0 rfl) ?_
                refine va_iald hx hb hK.1 hP 1 1 rfl rfl (mm_in mm_k2 (by decide)) dX12_count_156 ?_
                refine lv_topi (fun v113 ev113 => ?_)
                have rv113 : mm_rg v113 (-1) 3 := mm_eqv ev113 (h1 _)
                refine lv_iconst (v := (-1)) hx hb dX12_count_157 (by decide) ?_
                refine lv_icmp_ne (tgt := 165) hx hb dX12_count_158 (by decide) (fun c114 => ?_) (fun c114 => ?_)
                · have q115 := mm_neL (lo := 0) (mm_ne c114) rv113 mm_km1 (by decide) (by decide)
                  refine lv_iconst (v := 1) hx hb dX12_count_165 (by decide) ?_
                  refine lv_iadd hx hb dX12_count_166 ?_
                  refine lv_topi (fun v116 ev116 => ?_)
                  obtain rfl : v116 = 2 := ev116.trans (by decide)
                  refine lv_istore_n (lv' := [(2, .int 2), (3, .int 2), (0, .ref a_0), (1, .int 9)]) hx hb dX12_count_167 rfl hl (by decide) rfl ?_
                  clear hl
                  clear ls
                  intro ls hl
                  refine lv_iinc (v := 3) (lv' := [(3, .int 3), (2, .int 2), (0, .ref a_0), (1, .int 9)]) hx hb dX12_count_168 hl (k := 1) rfl (by decide) (by decide) rfl ?_
                  clear hl
                  clear ls
                  intro ls hl
                  refine lv_goto (tgt := 145) hx hb dX12_count_171 (by decide) ?_
                  refine lv_iload_n hx hb dX12_count_145 rfl (lv_at hl 0 rfl) ?_
                  refine lv_iconst (v := 4) hx hb dX12_count_146 (by decide) ?_
                  refine lv_icmp_ge (tgt := 174) hx hb dX12_count_147 (by decide) (fun c117 => ?_) (fun c117 => ?_)
                  · have q118 := mm_leL (mm_le c117) mm_k4 mm_k3
                    exact mm_no q118 (by decide)
                  · refine lv_iload_n hx hb dX12_count_150 rfl (lv_at hl 1 rfl) ?_
                    refine lv_aload_n hx hb dX12_count_151 rfl (lv_at hl 2 rfl) ?_
                    refine va_get (D := G) (ci := 12) (v := .ref a_1) (C := RX12) (T := TX12) (N := 38) hx hb hts (mm_i inlX12) hown hK.1 hP 0 rfl rfl 1 (by decide) (mm_h hts mm_w142) (fun _ h9 => h9) rfl dX12_count_152 ?_
                    refine lv_iload_n hx hb dX12_count_155 rfl (lv_at hl 0 rfl) ?_
                    refine va_iald hx hb hK.1 hP 1 1 rfl rfl (mm_in mm_k3 (by decide)) dX12_count_156 ?_
                    refine lv_topi (fun v119 ev119 => ?_)
                    have rv119 : mm_rg v119 (-1) 3 := mm_eqv ev119 (h1 _)
                    refine lv_iconst (v := (-1)) hx hb dX12_count_157 (by decide) ?_
                    refine lv_icmp_ne (tgt := 165) hx hb dX12_count_158 (by decide) (fun c120 => ?_) (fun c120 => ?_)
                    · have q121 := mm_neL (lo := 0) (mm_ne c120) rv119 mm_km1 (by decide) (by decide)
                      refine lv_iconst (v := 1) hx hb dX12_count_165 (by decide) ?_
                      refine lv_iadd hx hb dX12_count_166 ?_
                      refine lv_topi (fun v122 ev122 => ?_)
                      obtain rfl : v122 = 3 := ev122.trans (by decide)
                      refine lv_istore_n (lv' := [(2, .int 3), (3, .int 3), (0, .ref a_0), (1, .int 9)]) hx hb dX12_count_167 rfl hl (by decide) rfl ?_
                      clear hl
                      clear ls
                      intro ls hl
                      refine lv_iinc (v := 4) (lv' := [(3, .int 4), (2, .int 3), (0, .ref a_0), (1, .int 9)]) hx hb dX12_count_168 hl (k := 1) rfl (by decide) (by decide) rfl ?_
                      clear hl
                      clear ls
                      intro ls hl
                      refine lv_goto (tgt := 145) hx hb dX12_count_171 (by decide) ?_
                      refine lv_iload_n hx hb dX12_count_145 rfl (lv_at hl 0 rfl) ?_
                      refine lv_iconst (v := 4) hx hb dX12_count_146 (by decide) ?_
                      refine lv_icmp_ge (tgt := 174) hx hb dX12_count_147 (by decide) (fun c123 => ?_) (fun c123 => ?_)
                      · refine lv_iload_n hx hb dX12_count_174 rfl (lv_at hl 1 rfl) ?_
                        subst hAe
                        rw [hQ]
                        exact W.iret (v := 3) hx hb hr (fun t ht hW => ⟨⟨3, (), rfl, (mm_wk mm_k3 (by decide)), by rw [ht]; exact hP, hK.warm hW, hD⟩, hS.F ht⟩) hS.2.2 dX12_count_175
                      · have q124 := mm_ltL (h := 3) (mm_nle c123) mm_k4 mm_k4 (by decide)
                        exact mm_no q124 (by decide)
                    · have q125 := mm_eqI (lo := (-1)) (hi := (-1)) c120 rv119 mm_km1 (by decide)
                      refine lv_iconst (v := 0) hx hb dX12_count_161 (by decide) ?_
                      refine lv_goto (tgt := 166) hx hb dX12_count_162 (by decide) ?_
                      refine lv_iadd hx hb dX12_count_166 ?_
                      refine lv_topi (fun v126 ev126 => ?_)
                      obtain rfl : v126 = 2 := ev126.trans (by decide)
                      refine lv_istore_n (lv' := [(2, .int 2), (3, .int 3), (0, .ref a_0), (1, .int 9)]) hx hb dX12_count_167 rfl hl (by decide) rfl ?_
                      clear hl
                      clear ls
                      intro ls hl
                      refine lv_iinc (v := 4) (lv' := [(3, .int 4), (2, .int 2), (0, .ref a_0), (1, .int 9)]) hx hb dX12_count_168 hl (k := 1) rfl (by decide) (by decide) rfl ?_
                      clear hl
                      clear ls
                      intro ls hl
                      refine lv_goto (tgt := 145) hx hb dX12_count_171 (by decide) ?_
                      refine lv_iload_n hx hb dX12_count_145 rfl (lv_at hl 0 rfl) ?_
                      refine lv_iconst (v := 4) hx hb dX12_count_146 (by decide) ?_
                      refine lv_icmp_ge (tgt := 174) hx hb dX12_count_147 (by decide) (fun c127 => ?_) (fun c127 => ?_)
                      · refine lv_iload_n hx hb dX12_count_174 rfl (lv_at hl 1 rfl) ?_
                        subst hAe
                        rw [hQ]
                        exact W.iret (v := 2) hx hb hr (fun t ht hW => ⟨⟨2, (), rfl, (mm_wk mm_k2 (by decide)), by rw [ht]; exact hP, hK.warm hW, hD⟩, hS.F ht⟩) hS.2.2 dX12_count_175
                      · have q128 := mm_ltL (h := 3) (mm_nle c127) mm_k4 mm_k4 (by decide)
                        exact mm_no q128 (by decide)
                · have q129 := mm_eqI (lo := (-1)) (hi := (-1)) c114 rv113 mm_km1 (by decide)
                  refine lv_iconst (v := 0) hx hb dX12_count_161 (by decide) ?_
                  refine lv_goto (tgt := 166) hx hb dX12_count_162 (by decide) ?_
                  refine lv_iadd hx hb dX12_count_166 ?_
                  refine lv_topi (fun v130 ev130 => ?_)
                  obtain rfl : v130 = 1 := ev130.trans (by decide)
                  refine lv_istore_n (lv' := [(2, .int 1), (3, .int 2), (0, .ref a_0), (1, .int 9)]) hx hb dX12_count_167 rfl hl (by decide) rfl ?_
                  clear hl
                  clear ls
                  intro ls hl
                  refine lv_iinc (v := 3) (lv' := [(3, .int 3), (2, .int 1), (0, .ref a_0), (1, .int 9)]) hx hb dX12_count_168 hl (k := 1) rfl (by decide) (by decide) rfl ?_
                  clear hl
                  clear ls
                  intro ls hl
                  refine lv_goto (tgt := 145) hx hb dX12_count_171 (by decide) ?_
                  refine lv_iload_n hx hb dX12_count_145 rfl (lv_at hl 0 rfl) ?_
                  refine lv_iconst (v := 4) hx hb dX12_count_146 (by decide) ?_
                  refine lv_icmp_ge (tgt := 174) hx hb dX12_count_147 (by decide) (fun c131 => ?_) (fun c131 => ?_)
                  · have q132 := mm_leL (mm_le c131) mm_k4 mm_k3
                    exact mm_no q132 (by decide)
                  · refine lv_iload_n hx hb dX12_count_150 rfl (lv_at hl 1 rfl) ?_
                    refine lv_aload_n hx hb dX12_count_151 rfl (lv_at hl 2 rfl) ?_
                    refine va_get (D := G) (ci := 12) (v := .ref a_1) (C := RX12) (T := TX12) (N := 38) hx hb hts (mm_i inlX12) hown hK.1 hP 0 rfl rfl 1 (by decide) (mm_h hts mm_w142) (fun _ h9 => h9) rfl dX12_count_152 ?_
                    refine lv_iload_n hx hb dX12_count_155 rfl (lv_at hl 0 rfl) ?_
                    refine va_iald hx hb hK.1 hP 1 1 rfl rfl (mm_in mm_k3 (by decide)) dX12_count_156 ?_
                    refine lv_topi (fun v133 ev133 => ?_)
                    have rv133 : mm_rg v133 (-1) 3 := mm_eqv ev133 (h1 _)
                    refine lv_iconst (v := (-1)) hx hb dX12_count_157 (by decide) ?_
                    refine lv_icmp_ne (tgt := 165) hx hb dX12_count_158 (by decide) (fun c134 => ?_) (fun c134 => ?_)
                    · have q135 := mm_neL (lo := 0) (mm_ne c134) rv133 mm_km1 (by decide) (by decide)
                      refine lv_iconst (v := 1) hx hb dX12_count_165 (by decide) ?_
                      refine lv_iadd hx hb dX12_count_166 ?_
                      refine lv_topi (fun v136 ev136 => ?_)
                      obtain rfl : v136 = 2 := ev136.trans (by decide)
                      refine lv_istore_n (lv' := [(2, .int 2), (3, .int 3), (0, .ref a_0), (1, .int 9)]) hx hb dX12_count_167 rfl hl (by decide) rfl ?_
                      clear hl
                      clear ls
                      intro ls hl
                      refine lv_iinc (v := 4) (lv' := [(3, .int 4), (2, .int 2), (0, .ref a_0), (1, .int 9)]) hx hb dX12_count_168 hl (k := 1) rfl (by decide) (by decide) rfl ?_
                      clear hl
                      clear ls
                      intro ls hl
                      refine lv_goto (tgt := 145) hx hb dX12_count_171 (by decide) ?_
                      refine lv_iload_n hx hb dX12_count_145 rfl (lv_at hl 0 rfl) ?_
                      refine lv_iconst (v := 4) hx hb dX12_count_146 (by decide) ?_
                      refine lv_icmp_ge (tgt := 174) hx hb dX12_count_147 (by decide) (fun c137 => ?_) (fun c137 => ?_)
                      · refine lv_iload_n hx hb dX12_count_174 rfl (lv_at hl 1 rfl) ?_
                        subst hAe
                        rw [hQ]
                        exact W.iret (v := 2) hx hb hr (fun t ht hW => ⟨⟨2, (), rfl, (mm_wk mm_k2 (by decide)), by rw [ht]; exact hP, hK.warm hW, hD⟩, hS.F ht⟩) hS.2.2 dX12_count_175
                      · have q138 := mm_ltL (h := 3) (mm_nle c137) mm_k4 mm_k4 (by decide)
                        exact mm_no q138 (by decide)
                    · have q139 := mm_eqI (lo := (-1)) (hi := (-1)) c134 rv133 mm_km1 (by decide)
                      refine lv_iconst (v := 0) hx hb dX12_count_161 (by decide) ?_
                      refine lv_goto (tgt := 166) hx hb dX12_count_162 (by decide) ?_
                      refine lv_iadd hx hb dX12_count_166 ?_
                      refine lv_topi (fun v140 ev140 => ?_)
                      obtain rfl : v140 = 1 := ev140.trans (by decide)
                      refine lv_istore_n (lv' := [(2, .int 1), (3, .int 3), (0, .ref a_0), (1, .int 9)]) hx hb dX12_count_167 rfl hl (by decide) rfl ?_
                      clear hl
                      clear ls
                      intro ls hl
                      refine lv_iinc (v := 4) (lv' := [(3, .int 4), (2, .int 1), (0, .ref a_0), (1, .int 9)]) hx hb dX12_count_168 hl (k := 1) rfl (by decide) (by decide) rfl ?_
                      clear hl
                      clear ls
                      intro ls hl
                      refine lv_goto (tgt := 145) hx hb dX12_count_171 (by decide) ?_
                      refine lv_iload_n hx hb dX12_count_145 rfl (lv_at hl 0 rfl) ?_
                      refine lv_iconst (v := 4) hx hb dX12_count_146 (by decide) ?_
                      refine lv_icmp_ge (tgt := 174) hx hb dX12_count_147 (by decide) (fun c141 => ?_) (fun c141 => ?_)
                      · refine lv_iload_n hx hb dX12_count_174 rfl (lv_at hl 1 rfl) ?_
                        subst hAe
                        rw [hQ]
                        exact W.iret (v := 1) hx hb hr (fun t ht hW => ⟨⟨1, (), rfl, (mm_wk mm_k1 (by decide)), by rw [ht]; exact hP, hK.warm hW, hD⟩, hS.F ht⟩) hS.2.2 dX12_count_175
                      · have q142 := mm_ltL (h := 3) (mm_nle c141) mm_k4 mm_k4 (by decide)
                        exact mm_no q142 (by decide)
            · have q143 := mm_eqI (lo := (-1)) (hi := (-1)) c108 rv107 mm_km1 (by decide)
              refine lv_iconst (v := 0) hx hb dX12_count_161 (by decide) ?_
              refine lv_goto (tgt := 166) hx hb dX12_count_162 (by decide) ?_
              refine lv_iadd hx hb dX12_count_166 ?_
              refine lv_topi (fun v144 ev144 => ?_)
              obtain rfl : v144 = 0 := ev144.trans (by decide)
              refine lv_istore_n (lv' := [(2, .int 0), (3, .int 1), (0, .ref a_0), (1, .int 9)]) hx hb dX12_count_167 rfl hl (by decide) rfl ?_
              clear hl
              clear ls
              intro ls hl
              refine lv_iinc (v := 2) (lv' := [(3, .int 2), (2, .int 0), (0, .ref a_0), (1, .int 9)]) hx hb dX12_count_168 hl (k := 1) rfl (by decide) (by decide) rfl ?_
              clear hl
              clear ls
              intro ls hl
              refine lv_goto (tgt := 145) hx hb dX12_count_171 (by decide) ?_
              refine lv_iload_n hx hb dX12_count_145 rfl (lv_at hl 0 rfl) ?_
              refine lv_iconst (v := 4) hx hb dX12_count_146 (by decide) ?_
              refine lv_icmp_ge (tgt := 174) hx hb dX12_count_147 (by decide) (fun c145 => ?_) (fun c145 => ?_)
              · have q146 := mm_leL (mm_le c145) mm_k4 mm_k2
                exact mm_no q146 (by decide)
              · refine lv_iload_n hx hb dX12_count_150 rfl (lv_at hl 1 rfl) ?_
                refine lv_aload_n hx hb dX12_count_151 rfl (lv_at hl 2 rfl) ?_
                refine va_get (D := G) (ci := 12) (v := .ref a_1) (C := RX12) (T := TX12) (N := 38) hx hb hts (mm_i inlX12) hown hK.1 hP 0 rfl rfl 1 (by decide) (mm_h hts mm_w142) (fun _ h9 => h9) rfl dX12_count_152 ?_
                refine lv_iload_n hx hb dX12_count_155 rfl (lv_at hl 0 rfl) ?_
                refine va_iald hx hb hK.1 hP 1 1 rfl rfl (mm_in mm_k2 (by decide)) dX12_count_156 ?_
                refine lv_topi (fun v147 ev147 => ?_)
                have rv147 : mm_rg v147 (-1) 3 := mm_eqv ev147 (h1 _)
                refine lv_iconst (v := (-1)) hx hb dX12_count_157 (by decide) ?_
                refine lv_icmp_ne (tgt := 165) hx hb dX12_count_158 (by decide) (fun c148 => ?_) (fun c148 => ?_)
                · have q149 := mm_neL (lo := 0) (mm_ne c148) rv147 mm_km1 (by decide) (by decide)
                  refine lv_iconst (v := 1) hx hb dX12_count_165 (by decide) ?_
                  refine lv_iadd hx hb dX12_count_166 ?_
                  refine lv_topi (fun v150 ev150 => ?_)
                  obtain rfl : v150 = 1 := ev150.trans (by decide)
                  refine lv_istore_n (lv' := [(2, .int 1), (3, .int 2), (0, .ref a_0), (1, .int 9)]) hx hb dX12_count_167 rfl hl (by decide) rfl ?_
                  clear hl
                  clear ls
                  intro ls hl
                  refine lv_iinc (v := 3) (lv' := [(3, .int 3), (2, .int 1), (0, .ref a_0), (1, .int 9)]) hx hb dX12_count_168 hl (k := 1) rfl (by decide) (by decide) rfl ?_
                  clear hl
                  clear ls
                  intro ls hl
                  refine lv_goto (tgt := 145) hx hb dX12_count_171 (by decide) ?_
                  refine lv_iload_n hx hb dX12_count_145 rfl (lv_at hl 0 rfl) ?_
                  refine lv_iconst (v := 4) hx hb dX12_count_146 (by decide) ?_
                  refine lv_icmp_ge (tgt := 174) hx hb dX12_count_147 (by decide) (fun c151 => ?_) (fun c151 => ?_)
                  · have q152 := mm_leL (mm_le c151) mm_k4 mm_k3
                    exact mm_no q152 (by decide)
                  · refine lv_iload_n hx hb dX12_count_150 rfl (lv_at hl 1 rfl) ?_
                    refine lv_aload_n hx hb dX12_count_151 rfl (lv_at hl 2 rfl) ?_
                    refine va_get (D := G) (ci := 12) (v := .ref a_1) (C := RX12) (T := TX12) (N := 38) hx hb hts (mm_i inlX12) hown hK.1 hP 0 rfl rfl 1 (by decide) (mm_h hts mm_w142) (fun _ h9 => h9) rfl dX12_count_152 ?_
                    refine lv_iload_n hx hb dX12_count_155 rfl (lv_at hl 0 rfl) ?_
                    refine va_iald hx hb hK.1 hP 1 1 rfl rfl (mm_in mm_k3 (by decide)) dX12_count_156 ?_
                    refine lv_topi (fun v153 ev153 => ?_)
                    have rv153 : mm_rg v153 (-1) 3 := mm_eqv ev153 (h1 _)
                    refine lv_iconst (v := (-1)) hx hb dX12_count_157 (by decide) ?_
                    refine lv_icmp_ne (tgt := 165) hx hb dX12_count_158 (by decide) (fun c154 => ?_) (fun c154 => ?_)
                    · have q155 := mm_neL (lo := 0) (mm_ne c154) rv153 mm_km1 (by decide) (by decide)
                      refine lv_iconst (v := 1) hx hb dX12_count_165 (by decide) ?_
                      refine lv_iadd hx hb dX12_count_166 ?_
                      refine lv_topi (fun v156 ev156 => ?_)
                      obtain rfl : v156 = 2 := ev156.trans (by decide)
                      refine lv_istore_n (lv' := [(2, .int 2), (3, .int 3), (0, .ref a_0), (1, .int 9)]) hx hb dX12_count_167 rfl hl (by decide) rfl ?_
                      clear hl
                      clear ls
                      intro ls hl
                      refine lv_iinc (v := 4) (lv' := [(3, .int 4), (2, .int 2), (0, .ref a_0), (1, .int 9)]) hx hb dX12_count_168 hl (k := 1) rfl (by decide) (by decide) rfl ?_
                      clear hl
                      clear ls
                      intro ls hl
                      refine lv_goto (tgt := 145) hx hb dX12_count_171 (by decide) ?_
                      refine lv_iload_n hx hb dX12_count_145 rfl (lv_at hl 0 rfl) ?_
                      refine lv_iconst (v := 4) hx hb dX12_count_146 (by decide) ?_
                      refine lv_icmp_ge (tgt := 174) hx hb dX12_count_147 (by decide) (fun c157 => ?_) (fun c157 => ?_)
                      · refine lv_iload_n hx hb dX12_count_174 rfl (lv_at hl 1 rfl) ?_
                        subst hAe
                        rw [hQ]
                        exact W.iret (v := 2) hx hb hr (fun t ht hW => ⟨⟨2, (), rfl, (mm_wk mm_k2 (by decide)), by rw [ht]; exact hP, hK.warm hW, hD⟩, hS.F ht⟩) hS.2.2 dX12_count_175
                      · have q158 := mm_ltL (h := 3) (mm_nle c157) mm_k4 mm_k4 (by decide)
                        exact mm_no q158 (by decide)
                    · have q159 := mm_eqI (lo := (-1)) (hi := (-1)) c154 rv153 mm_km1 (by decide)
                      refine lv_iconst (v := 0) hx hb dX12_count_161 (by decide) ?_
                      refine lv_goto (tgt := 166) hx hb dX12_count_162 (by decide) ?_
                      refine lv_iadd hx hb dX12_count_166 ?_
                      refine lv_topi (fun v160 ev160 => ?_)
                      obtain rfl : v160 = 1 := ev160.trans (by decide)
                      refine lv_istore_n (lv' := [(2, .int 1), (3, .int 3), (0, .ref a_0), (1, .int 9)]) hx hb dX12_count_167 rfl hl (by decide) rfl ?_
                      clear hl
                      clear ls
                      intro ls hl
                      refine lv_iinc (v := 4) (lv' := [(3, .int 4), (2, .int 1), (0, .ref a_0), (1, .int 9)]) hx hb dX12_count_168 hl (k := 1) rfl (by decide) (by decide) rfl ?_
                      clear hl
                      clear ls
                      intro ls hl
                      refine lv_goto (tgt := 145) hx hb dX12_count_171 (by decide) ?_
                      refine lv_iload_n hx hb dX12_count_145 rfl (lv_at hl 0 rfl) ?_
                      refine lv_iconst (v := 4) hx hb dX12_count_146 (by decide) ?_
                      refine lv_icmp_ge (tgt := 174) hx hb dX12_count_147 (by decide) (fun c161 => ?_) (fun c161 => ?_)
                      · refine lv_iload_n hx hb dX12_count_174 rfl (lv_at hl 1 rfl) ?_
                        subst hAe
                        rw [hQ]
                        exact W.iret (v := 1) hx hb hr (fun t ht hW => ⟨⟨1, (), rfl, (mm_wk mm_k1 (by decide)), by rw [ht]; exact hP, hK.warm hW, hD⟩, hS.F ht⟩) hS.2.2 dX12_count_175
                      · have q162 := mm_ltL (h := 3) (mm_nle c161) mm_k4 mm_k4 (by decide)
                        exact mm_no q162 (by decide)
                · have q163 := mm_eqI (lo := (-1)) (hi := (-1)) c148 rv147 mm_km1 (by decide)
                  refine lv_iconst (v := 0) hx hb dX12_count_161 (by decide) ?_
                  refine lv_goto (tgt := 166) hx hb dX12_count_162 (by decide) ?_
                  refine lv_iadd hx hb dX12_count_166 ?_
                  refine lv_topi (fun v164 ev164 => ?_)
                  obtain rfl : v164 = 0 := ev164.trans (by decide)
                  refine lv_istore_n (lv' := [(2, .int 0), (3, .int 2), (0, .ref a_0), (1, .int 9)]) hx hb dX12_count_167 rfl hl (by decide) rfl ?_
                  clear hl
                  clear ls
                  intro ls hl
                  refine lv_iinc (v := 3) (lv' := [(3, .int 3), (2, .int 0), (0, .ref a_0), (1, .int 9)]) hx hb dX12_count_168 hl (k := 1) rfl (by decide) (by decide) rfl ?_
                  clear hl
                  clear ls
                  intro ls hl
                  refine lv_goto (tgt := 145) hx hb dX12_count_171 (by decide) ?_
                  refine lv_iload_n hx hb dX12_count_145 rfl (lv_at hl 0 rfl) ?_
                  refine lv_iconst (v := 4) hx hb dX12_count_146 (by decide) ?_
                  refine lv_icmp_ge (tgt := 174) hx hb dX12_count_147 (by decide) (fun c165 => ?_) (fun c165 => ?_)
                  · have q166 := mm_leL (mm_le c165) mm_k4 mm_k3
                    exact mm_no q166 (by decide)
                  · refine lv_iload_n hx hb dX12_count_150 rfl (lv_at hl 1 rfl) ?_
                    refine lv_aload_n hx hb dX12_count_151 rfl (lv_at hl 2 rfl) ?_
                    refine va_get (D := G) (ci := 12) (v := .ref a_1) (C := RX12) (T := TX12) (N := 38) hx hb hts (mm_i inlX12) hown hK.1 hP 0 rfl rfl 1 (by decide) (mm_h hts mm_w142) (fun _ h9 => h9) rfl dX12_count_152 ?_
                    refine lv_iload_n hx hb dX12_count_155 rfl (lv_at hl 0 rfl) ?_
                    refine va_iald hx hb hK.1 hP 1 1 rfl rfl (mm_in mm_k3 (by decide)) dX12_count_156 ?_
                    refine lv_topi (fun v167 ev167 => ?_)
                    have rv167 : mm_rg v167 (-1) 3 := mm_eqv ev167 (h1 _)
                    refine lv_iconst (v := (-1)) hx hb dX12_count_157 (by decide) ?_
                    refine lv_icmp_ne (tgt := 165) hx hb dX12_count_158 (by decide) (fun c168 => ?_) (fun c168 => ?_)
                    · have q169 := mm_neL (lo := 0) (mm_ne c168) rv167 mm_km1 (by decide) (by decide)
                      refine lv_iconst (v := 1) hx hb dX12_count_165 (by decide) ?_
                      refine lv_iadd hx hb dX12_count_166 ?_
                      refine lv_topi (fun v170 ev170 => ?_)
                      obtain rfl : v170 = 1 := ev170.trans (by decide)
                      refine lv_istore_n (lv' := [(2, .int 1), (3, .int 3), (0, .ref a_0), (1, .int 9)]) hx hb dX12_count_167 rfl hl (by decide) rfl ?_
                      clear hl
                      clear ls
                      intro ls hl
                      refine lv_iinc (v := 4) (lv' := [(3, .int 4), (2, .int 1), (0, .ref a_0), (1, .int 9)]) hx hb dX12_count_168 hl (k := 1) rfl (by decide) (by decide) rfl ?_
                      clear hl
                      clear ls
                      intro ls hl
                      refine lv_goto (tgt := 145) hx hb dX12_count_171 (by decide) ?_
                      refine lv_iload_n hx hb dX12_count_145 rfl (lv_at hl 0 rfl) ?_
                      refine lv_iconst (v := 4) hx hb dX12_count_146 (by decide) ?_
                      refine lv_icmp_ge (tgt := 174) hx hb dX12_count_147 (by decide) (fun c171 => ?_) (fun c171 => ?_)
                      · refine lv_iload_n hx hb dX12_count_174 rfl (lv_at hl 1 rfl) ?_
                        subst hAe
                        rw [hQ]
                        exact W.iret (v := 1) hx hb hr (fun t ht hW => ⟨⟨1, (), rfl, (mm_wk mm_k1 (by decide)), by rw [ht]; exact hP, hK.warm hW, hD⟩, hS.F ht⟩) hS.2.2 dX12_count_175
                      · have q172 := mm_ltL (h := 3) (mm_nle c171) mm_k4 mm_k4 (by decide)
                        exact mm_no q172 (by decide)
                    · have q173 := mm_eqI (lo := (-1)) (hi := (-1)) c168 rv167 mm_km1 (by decide)
                      refine lv_iconst (v := 0) hx hb dX12_count_161 (by decide) ?_
                      refine lv_goto (tgt := 166) hx hb dX12_count_162 (by decide) ?_
                      refine lv_iadd hx hb dX12_count_166 ?_
                      refine lv_topi (fun v174 ev174 => ?_)
                      obtain rfl : v174 = 0 := ev174.trans (by decide)
                      refine lv_istore_n (lv' := [(2, .int 0), (3, .int 3), (0, .ref a_0), (1, .int 9)]) hx hb dX12_count_167 rfl hl (by decide) rfl ?_
                      clear hl
                      clear ls
                      intro ls hl
                      refine lv_iinc (v := 4) (lv' := [(3, .int 4), (2, .int 0), (0, .ref a_0), (1, .int 9)]) hx hb dX12_count_168 hl (k := 1) rfl (by decide) (by decide) rfl ?_
                      clear hl
                      clear ls
                      intro ls hl
                      refine lv_goto (tgt := 145) hx hb dX12_count_171 (by decide) ?_
                      refine lv_iload_n hx hb dX12_count_145 rfl (lv_at hl 0 rfl) ?_
                      refine lv_iconst (v := 4) hx hb dX12_count_146 (by decide) ?_
                      refine lv_icmp_ge (tgt := 174) hx hb dX12_count_147 (by decide) (fun c175 => ?_) (fun c175 => ?_)
                      · refine lv_iload_n hx hb dX12_count_174 rfl (lv_at hl 1 rfl) ?_
                        subst hAe
                        rw [hQ]
                        exact W.iret (v := 0) hx hb hr (fun t ht hW => ⟨⟨0, (), rfl, (mm_wk mm_k0 (by decide)), by rw [ht]; exact hP, hK.warm hW, hD⟩, hS.F ht⟩) hS.2.2 dX12_count_175
                      · have q176 := mm_ltL (h := 3) (mm_nle c175) mm_k4 mm_k4 (by decide)
                        exact mm_no q176 (by decide)

set_option maxHeartbeats 4000000 in
set_option maxRecDepth 100000 in
theorem M323_X12_copyRow (l : Launch) (G : va_G) (cy : Nat → ClassId) (sz : Nat) (a_0 : Nat) (i_0 : Int32) (i_1 : Int32) (i_2 : Int32) (i_3 : Int32) (i_4 : Int32) (h0 : mm_rg i_0 0 601) (h1 : mm_rg i_1 0 601) (h2 : mm_rg i_2 0 601) (h3 : mm_rg i_3 0 601) (h4 : mm_rg i_4 0 601)  : mm_CV l yX12_copyRow (mm_ws yX12_copyRow cX12_copyRow 5 (none)) ({ frames := 0, cells := 0, slots := 0, locals := 0 } : Room) G cy sz [(a_0, .inl (cy 1, 5, .inl (mm_g [i_0, i_1, i_2, i_3, i_4])))] [.ref a_0, .int 1, .int 0, .int 1] (fun u : Unit => [(a_0, .inl (cy 1, 5, .inl (mm_g [i_0, i_0, i_2, i_3, i_4])))]) (fun u : Unit => True) 0 0 := by
  refine mm_begin (lv := [(0, .ref a_0), (1, .int 1), (2, .int 0), (3, .int 1)]) (by decide) (Nat.le_of_ble_eq_true rfl) rfl ?_
  intro p e s m below meth c A ls R args Q H locs hRe hQ hAe hx hb hr hlocks hml hown hnm hts hsz hA hS hP hK hD hZ hl
  have hRf : R.frames = 0 := by rw [hRe]
  have hRl : R.locals = 0 := by rw [hRe]
  have hRc : R.cells = 0 := by rw [hRe]
  have hRs : R.slots = 0 := by rw [hRe]
  refine lv_iconst (v := 0) hx hb dX12_copyRow_0 (by decide) ?_
  refine lv_istore (lv' := [(4, .int 0), (0, .ref a_0), (1, .int 1), (2, .int 0), (3, .int 1)]) hx hb dX12_copyRow_1 hl (by decide) rfl ?_
  clear hl
  clear ls
  intro ls hl
  refine lv_iload hx hb dX12_copyRow_3 (lv_at hl 0 rfl) ?_
  refine lv_iload_n hx hb dX12_copyRow_5 rfl (lv_at hl 2 rfl) ?_
  refine lv_icmp_ge (tgt := 31) hx hb dX12_copyRow_6 (by decide) (fun c1 => ?_) (fun c1 => ?_)
  · have q2 := mm_leL (mm_le c1) mm_k1 mm_k0
    exact mm_no q2 (by decide)
  · refine lv_aload_n hx hb dX12_copyRow_9 rfl (lv_at hl 1 rfl) ?_
    refine lv_iload_n hx hb dX12_copyRow_10 rfl (lv_at hl 2 rfl) ?_
    refine lv_iload_n hx hb dX12_copyRow_11 rfl (lv_at hl 4 rfl) ?_
    refine lv_imul hx hb dX12_copyRow_12 ?_
    refine lv_topi (fun v3 ev3 => ?_)
    obtain rfl : v3 = 1 := ev3.trans (by decide)
    refine lv_iload hx hb dX12_copyRow_13 (lv_at hl 0 rfl) ?_
    refine lv_iadd hx hb dX12_copyRow_15 ?_
    refine lv_topi (fun v4 ev4 => ?_)
    obtain rfl : v4 = 1 := ev4.trans (by decide)
    refine lv_aload_n hx hb dX12_copyRow_16 rfl (lv_at hl 1 rfl) ?_
    refine lv_iload_n hx hb dX12_copyRow_17 rfl (lv_at hl 2 rfl) ?_
    refine lv_iload_n hx hb dX12_copyRow_18 rfl (lv_at hl 3 rfl) ?_
    refine lv_imul hx hb dX12_copyRow_19 ?_
    refine lv_topi (fun v5 ev5 => ?_)
    obtain rfl : v5 = 0 := ev5.trans (by decide)
    refine lv_iload hx hb dX12_copyRow_20 (lv_at hl 0 rfl) ?_
    refine lv_iadd hx hb dX12_copyRow_22 ?_
    refine lv_topi (fun v6 ev6 => ?_)
    obtain rfl : v6 = 0 := ev6.trans (by decide)
    refine va_iald hx hb hK.1 hP 0 1 rfl rfl (mm_in mm_k0 (by decide)) dX12_copyRow_23 ?_
    rw [show (mm_g [i_0, i_1, i_2, i_3, i_4]) (0 : Int32).toNatClampNeg = i_0 from mm_ge 0 (by decide) rfl]
    refine va_iast hx hb hK.1 hP hD hS 0 1 rfl rfl (mm_in mm_k1 (by decide)) dX12_copyRow_24 ?_
    clear hP hD hS
    clear H locs
    rw [show upd (mm_g [i_0, i_1, i_2, i_3, i_4]) (1 : Int32).toNatClampNeg i_0 = (mm_g [i_0, i_0, i_2, i_3, i_4]) from mm_gs2 1 5 (by decide) rfl rfl rfl]
    intro H locs (hP : va_P G vwCl [(a_0, .inl (cy 1, 5, .inl (mm_g [i_0, i_0, i_2, i_3, i_4])))] H) (hD : va_D A [(a_0, .inl (cy 1, 5, .inl (mm_g [i_0, i_0, i_2, i_3, i_4])))]) hS
    refine lv_iinc (v := 1) (lv' := [(4, .int 1), (0, .ref a_0), (1, .int 1), (2, .int 0), (3, .int 1)]) hx hb dX12_copyRow_25 hl (k := 0) rfl (by decide) (by decide) rfl ?_
    clear hl
    clear ls
    intro ls hl
    refine lv_goto (tgt := 3) hx hb dX12_copyRow_28 (by decide) ?_
    refine lv_iload hx hb dX12_copyRow_3 (lv_at hl 0 rfl) ?_
    refine lv_iload_n hx hb dX12_copyRow_5 rfl (lv_at hl 2 rfl) ?_
    refine lv_icmp_ge (tgt := 31) hx hb dX12_copyRow_6 (by decide) (fun c7 => ?_) (fun c7 => ?_)
    · subst hAe
      rw [hQ]
      exact W.vret hx hb hr (fun t ht hW => ⟨⟨(), rfl, trivial, by rw [ht]; exact hP, hK.warm hW, hD⟩, hS.F ht⟩) hS.2.2 dX12_copyRow_31
    · have q8 := mm_ltL (h := 0) (mm_nle c7) mm_k1 mm_k1 (by decide)
      exact mm_no q8 (by decide)

set_option maxHeartbeats 4000000 in
set_option maxRecDepth 100000 in
theorem M324_X12_copyRow (l : Launch) (G : va_G) (cy : Nat → ClassId) (sz : Nat) (a_0 : Nat) (i_0 : Int32) (i_1 : Int32) (i_2 : Int32) (i_3 : Int32) (i_4 : Int32) (i_5 : Int32) (i_6 : Int32) (i_7 : Int32) (i_8 : Int32) (i_9 : Int32) (i_10 : Int32) (i_11 : Int32) (i_12 : Int32) (i_13 : Int32) (i_14 : Int32) (i_15 : Int32) (i_16 : Int32) (i_17 : Int32) (i_18 : Int32) (i_19 : Int32) (i_20 : Int32) (i_21 : Int32) (i_22 : Int32) (i_23 : Int32) (i_24 : Int32) (i_25 : Int32) (i_26 : Int32) (i_27 : Int32) (i_28 : Int32) (i_29 : Int32) (h0 : mm_rg i_0 0 10) (h1 : mm_rg i_1 0 99) (h2 : mm_rg i_2 0 9) (h3 : mm_rg i_3 0 3) (h4 : mm_rg i_4 0 6) (h5 : mm_rg i_5 0 30) (h6 : mm_rg i_6 0 10) (h7 : mm_rg i_7 0 99) (h8 : mm_rg i_8 0 9) (h9 : mm_rg i_9 0 3) (h10 : mm_rg i_10 0 6) (h11 : mm_rg i_11 0 30) (h12 : mm_rg i_12 0 10) (h13 : mm_rg i_13 0 99) (h14 : mm_rg i_14 0 9) (h15 : mm_rg i_15 0 3) (h16 : mm_rg i_16 0 6) (h17 : mm_rg i_17 0 30) (h18 : mm_rg i_18 0 10) (h19 : mm_rg i_19 0 99) (h20 : mm_rg i_20 0 9) (h21 : mm_rg i_21 0 3) (h22 : mm_rg i_22 0 6) (h23 : mm_rg i_23 0 30) (h24 : mm_rg i_24 0 10) (h25 : mm_rg i_25 0 99) (h26 : mm_rg i_26 0 9) (h27 : mm_rg i_27 0 3) (h28 : mm_rg i_28 0 6) (h29 : mm_rg i_29 0 30)  : mm_CV l yX12_copyRow (mm_ws yX12_copyRow cX12_copyRow 5 (none)) ({ frames := 0, cells := 0, slots := 0, locals := 0 } : Room) G cy sz [(a_0, .inl (cy 1, 30, .inl (mm_g [i_0, i_1, i_2, i_3, i_4, i_5, i_6, i_7, i_8, i_9, i_10, i_11, i_12, i_13, i_14, i_15, i_16, i_17, i_18, i_19, i_20, i_21, i_22, i_23, i_24, i_25, i_26, i_27, i_28, i_29])))] [.ref a_0, .int 6, .int 0, .int 1] (fun u : Unit => [(a_0, .inl (cy 1, 30, .inl (mm_g [i_0, i_1, i_2, i_3, i_4, i_5, i_0, i_1, i_2, i_3, i_4, i_5, i_12, i_13, i_14, i_15, i_16, i_17, i_18, i_19, i_20, i_21, i_22, i_23, i_24, i_25, i_26, i_27, i_28, i_29])))]) (fun u : Unit => True) 0 0 := by
  refine mm_begin (lv := [(0, .ref a_0), (1, .int 6), (2, .int 0), (3, .int 1)]) (by decide) (Nat.le_of_ble_eq_true rfl) rfl ?_
  intro p e s m below meth c A ls R args Q H locs hRe hQ hAe hx hb hr hlocks hml hown hnm hts hsz hA hS hP hK hD hZ hl
  have hRf : R.frames = 0 := by rw [hRe]
  have hRl : R.locals = 0 := by rw [hRe]
  have hRc : R.cells = 0 := by rw [hRe]
  have hRs : R.slots = 0 := by rw [hRe]
  refine lv_iconst (v := 0) hx hb dX12_copyRow_0 (by decide) ?_
  refine lv_istore (lv' := [(4, .int 0), (0, .ref a_0), (1, .int 6), (2, .int 0), (3, .int 1)]) hx hb dX12_copyRow_1 hl (by decide) rfl ?_
  clear hl
  clear ls
  intro ls hl
  refine lv_iload hx hb dX12_copyRow_3 (lv_at hl 0 rfl) ?_
  refine lv_iload_n hx hb dX12_copyRow_5 rfl (lv_at hl 2 rfl) ?_
  refine lv_icmp_ge (tgt := 31) hx hb dX12_copyRow_6 (by decide) (fun c1 => ?_) (fun c1 => ?_)
  · have q2 := mm_leL (mm_le c1) mm_k6 mm_k0
    exact mm_no q2 (by decide)
  · refine lv_aload_n hx hb dX12_copyRow_9 rfl (lv_at hl 1 rfl) ?_
    refine lv_iload_n hx hb dX12_copyRow_10 rfl (lv_at hl 2 rfl) ?_
    refine lv_iload_n hx hb dX12_copyRow_11 rfl (lv_at hl 4 rfl) ?_
    refine lv_imul hx hb dX12_copyRow_12 ?_
    refine lv_topi (fun v3 ev3 => ?_)
    obtain rfl : v3 = 6 := ev3.trans (by decide)
    refine lv_iload hx hb dX12_copyRow_13 (lv_at hl 0 rfl) ?_
    refine lv_iadd hx hb dX12_copyRow_15 ?_
    refine lv_topi (fun v4 ev4 => ?_)
    obtain rfl : v4 = 6 := ev4.trans (by decide)
    refine lv_aload_n hx hb dX12_copyRow_16 rfl (lv_at hl 1 rfl) ?_
    refine lv_iload_n hx hb dX12_copyRow_17 rfl (lv_at hl 2 rfl) ?_
    refine lv_iload_n hx hb dX12_copyRow_18 rfl (lv_at hl 3 rfl) ?_
    refine lv_imul hx hb dX12_copyRow_19 ?_
    refine lv_topi (fun v5 ev5 => ?_)
    obtain rfl : v5 = 0 := ev5.trans (by decide)
    refine lv_iload hx hb dX12_copyRow_20 (lv_at hl 0 rfl) ?_
    refine lv_iadd hx hb dX12_copyRow_22 ?_
    refine lv_topi (fun v6 ev6 => ?_)
    obtain rfl : v6 = 0 := ev6.trans (by decide)
    refine va_iald hx hb hK.1 hP 0 1 rfl rfl (mm_in mm_k0 (by decide)) dX12_copyRow_23 ?_
    rw [show (mm_g [i_0, i_1, i_2, i_3, i_4, i_5, i_6, i_7, i_8, i_9, i_10, i_11, i_12, i_13, i_14, i_15, i_16, i_17, i_18, i_19, i_20, i_21, i_22, i_23, i_24, i_25, i_26, i_27, i_28, i_29]) (0 : Int32).toNatClampNeg = i_0 from mm_ge 0 (by decide) rfl]
    refine va_iast hx hb hK.1 hP hD hS 0 1 rfl rfl (mm_in mm_k6 (by decide)) dX12_copyRow_24 ?_
    clear hP hD hS
    clear H locs
    rw [show upd (mm_g [i_0, i_1, i_2, i_3, i_4, i_5, i_6, i_7, i_8, i_9, i_10, i_11, i_12, i_13, i_14, i_15, i_16, i_17, i_18, i_19, i_20, i_21, i_22, i_23, i_24, i_25, i_26, i_27, i_28, i_29]) (6 : Int32).toNatClampNeg i_0 = (mm_g [i_0, i_1, i_2, i_3, i_4, i_5, i_0, i_7, i_8, i_9, i_10, i_11, i_12, i_13, i_14, i_15, i_16, i_17, i_18, i_19, i_20, i_21, i_22, i_23, i_24, i_25, i_26, i_27, i_28, i_29]) from mm_gs2 6 30 (by decide) rfl rfl rfl]
    intro H locs (hP : va_P G vwCl [(a_0, .inl (cy 1, 30, .inl (mm_g [i_0, i_1, i_2, i_3, i_4, i_5, i_0, i_7, i_8, i_9, i_10, i_11, i_12, i_13, i_14, i_15, i_16, i_17, i_18, i_19, i_20, i_21, i_22, i_23, i_24, i_25, i_26, i_27, i_28, i_29])))] H) (hD : va_D A [(a_0, .inl (cy 1, 30, .inl (mm_g [i_0, i_1, i_2, i_3, i_4, i_5, i_0, i_7, i_8, i_9, i_10, i_11, i_12, i_13, i_14, i_15, i_16, i_17, i_18, i_19, i_20, i_21, i_22, i_23, i_24, i_25, i_26, i_27, i_28, i_29])))]) hS
    refine lv_iinc (v := 1) (lv' := [(4, .int 1), (0, .ref a_0), (1, .int 6), (2, .int 0), (3, .int 1)]) hx hb dX12_copyRow_25 hl (k := 0) rfl (by decide) (by decide) rfl ?_
    clear hl
    clear ls
    intro ls hl
    refine lv_goto (tgt := 3) hx hb dX12_copyRow_28 (by decide) ?_
    refine lv_iload hx hb dX12_copyRow_3 (lv_at hl 0 rfl) ?_
    refine lv_iload_n hx hb dX12_copyRow_5 rfl (lv_at hl 2 rfl) ?_
    refine lv_icmp_ge (tgt := 31) hx hb dX12_copyRow_6 (by decide) (fun c7 => ?_) (fun c7 => ?_)
    · have q8 := mm_leL (mm_le c7) mm_k6 mm_k1
      exact mm_no q8 (by decide)
    · refine lv_aload_n hx hb dX12_copyRow_9 rfl (lv_at hl 1 rfl) ?_
      refine lv_iload_n hx hb dX12_copyRow_10 rfl (lv_at hl 2 rfl) ?_
      refine lv_iload_n hx hb dX12_copyRow_11 rfl (lv_at hl 4 rfl) ?_
      refine lv_imul hx hb dX12_copyRow_12 ?_
      refine lv_topi (fun v9 ev9 => ?_)
      obtain rfl : v9 = 6 := ev9.trans (by decide)
      refine lv_iload hx hb dX12_copyRow_13 (lv_at hl 0 rfl) ?_
      refine lv_iadd hx hb dX12_copyRow_15 ?_
      refine lv_topi (fun v10 ev10 => ?_)
      obtain rfl : v10 = 7 := ev10.trans (by decide)
      refine lv_aload_n hx hb dX12_copyRow_16 rfl (lv_at hl 1 rfl) ?_
      refine lv_iload_n hx hb dX12_copyRow_17 rfl (lv_at hl 2 rfl) ?_
      refine lv_iload_n hx hb dX12_copyRow_18 rfl (lv_at hl 3 rfl) ?_
      refine lv_imul hx hb dX12_copyRow_19 ?_
      refine lv_topi (fun v11 ev11 => ?_)
      obtain rfl : v11 = 0 := ev11.trans (by decide)
      refine lv_iload hx hb dX12_copyRow_20 (lv_at hl 0 rfl) ?_
      refine lv_iadd hx hb dX12_copyRow_22 ?_
      refine lv_topi (fun v12 ev12 => ?_)
      obtain rfl : v12 = 1 := ev12.trans (by decide)
      refine va_iald hx hb hK.1 hP 0 1 rfl rfl (mm_in mm_k1 (by decide)) dX12_copyRow_23 ?_
      rw [show (mm_g [i_0, i_1, i_2, i_3, i_4, i_5, i_0, i_7, i_8, i_9, i_10, i_11, i_12, i_13, i_14, i_15, i_16, i_17, i_18, i_19, i_20, i_21, i_22, i_23, i_24, i_25, i_26, i_27, i_28, i_29]) (1 : Int32).toNatClampNeg = i_1 from mm_ge 1 (by decide) rfl]
      refine va_iast hx hb hK.1 hP hD hS 0 1 rfl rfl (mm_in mm_k7 (by decide)) dX12_copyRow_24 ?_
      clear hP hD hS
      clear H locs
      rw [show upd (mm_g [i_0, i_1, i_2, i_3, i_4, i_5, i_0, i_7, i_8, i_9, i_10, i_11, i_12, i_13, i_14, i_15, i_16, i_17, i_18, i_19, i_20, i_21, i_22, i_23, i_24, i_25, i_26, i_27, i_28, i_29]) (7 : Int32).toNatClampNeg i_1 = (mm_g [i_0, i_1, i_2, i_3, i_4, i_5, i_0, i_1, i_8, i_9, i_10, i_11, i_12, i_13, i_14, i_15, i_16, i_17, i_18, i_19, i_20, i_21, i_22, i_23, i_24, i_25, i_26, i_27, i_28, i_29]) from mm_gs2 7 30 (by decide) rfl rfl rfl]
      intro H locs (hP : va_P G vwCl [(a_0, .inl (cy 1, 30, .inl (mm_g [i_0, i_1, i_2, i_3, i_4, i_5, i_0, i_1, i_8, i_9, i_10, i_11, i_12, i_13, i_14, i_15, i_16, i_17, i_18, i_19, i_20, i_21, i_22, i_23, i_24, i_25, i_26, i_27, i_28, i_29])))] H) (hD : va_D A [(a_0, .inl (cy 1, 30, .inl (mm_g [i_0, i_1, i_2, i_3, i_4, i_5, i_0, i_1, i_8, i_9, i_10, i_11, i_12, i_13, i_14, i_15, i_16, i_17, i_18, i_19, i_20, i_21, i_22, i_23, i_24, i_25, i_26, i_27, i_28, i_29])))]) hS
      refine lv_iinc (v := 2) (lv' := [(4, .int 2), (0, .ref a_0), (1, .int 6), (2, .int 0), (3, .int 1)]) hx hb dX12_copyRow_25 hl (k := 0) rfl (by decide) (by decide) rfl ?_
      clear hl
      clear ls
      intro ls hl
      refine lv_goto (tgt := 3) hx hb dX12_copyRow_28 (by decide) ?_
      refine lv_iload hx hb dX12_copyRow_3 (lv_at hl 0 rfl) ?_
      refine lv_iload_n hx hb dX12_copyRow_5 rfl (lv_at hl 2 rfl) ?_
      refine lv_icmp_ge (tgt := 31) hx hb dX12_copyRow_6 (by decide) (fun c13 => ?_) (fun c13 => ?_)
      · have q14 := mm_leL (mm_le c13) mm_k6 mm_k2
        exact mm_no q14 (by decide)
      · refine lv_aload_n hx hb dX12_copyRow_9 rfl (lv_at hl 1 rfl) ?_
        refine lv_iload_n hx hb dX12_copyRow_10 rfl (lv_at hl 2 rfl) ?_
        refine lv_iload_n hx hb dX12_copyRow_11 rfl (lv_at hl 4 rfl) ?_
        refine lv_imul hx hb dX12_copyRow_12 ?_
        refine lv_topi (fun v15 ev15 => ?_)
        obtain rfl : v15 = 6 := ev15.trans (by decide)
        refine lv_iload hx hb dX12_copyRow_13 (lv_at hl 0 rfl) ?_
        refine lv_iadd hx hb dX12_copyRow_15 ?_
        refine lv_topi (fun v16 ev16 => ?_)
        obtain rfl : v16 = 8 := ev16.trans (by decide)
        refine lv_aload_n hx hb dX12_copyRow_16 rfl (lv_at hl 1 rfl) ?_
        refine lv_iload_n hx hb dX12_copyRow_17 rfl (lv_at hl 2 rfl) ?_
        refine lv_iload_n hx hb dX12_copyRow_18 rfl (lv_at hl 3 rfl) ?_
        refine lv_imul hx hb dX12_copyRow_19 ?_
        refine lv_topi (fun v17 ev17 => ?_)
        obtain rfl : v17 = 0 := ev17.trans (by decide)
        refine lv_iload hx hb dX12_copyRow_20 (lv_at hl 0 rfl) ?_
        refine lv_iadd hx hb dX12_copyRow_22 ?_
        refine lv_topi (fun v18 ev18 => ?_)
        obtain rfl : v18 = 2 := ev18.trans (by decide)
        refine va_iald hx hb hK.1 hP 0 1 rfl rfl (mm_in mm_k2 (by decide)) dX12_copyRow_23 ?_
        rw [show (mm_g [i_0, i_1, i_2, i_3, i_4, i_5, i_0, i_1, i_8, i_9, i_10, i_11, i_12, i_13, i_14, i_15, i_16, i_17, i_18, i_19, i_20, i_21, i_22, i_23, i_24, i_25, i_26, i_27, i_28, i_29]) (2 : Int32).toNatClampNeg = i_2 from mm_ge 2 (by decide) rfl]
        refine va_iast hx hb hK.1 hP hD hS 0 1 rfl rfl (mm_in mm_k8 (by decide)) dX12_copyRow_24 ?_
        clear hP hD hS
        clear H locs
        rw [show upd (mm_g [i_0, i_1, i_2, i_3, i_4, i_5, i_0, i_1, i_8, i_9, i_10, i_11, i_12, i_13, i_14, i_15, i_16, i_17, i_18, i_19, i_20, i_21, i_22, i_23, i_24, i_25, i_26, i_27, i_28, i_29]) (8 : Int32).toNatClampNeg i_2 = (mm_g [i_0, i_1, i_2, i_3, i_4, i_5, i_0, i_1, i_2, i_9, i_10, i_11, i_12, i_13, i_14, i_15, i_16, i_17, i_18, i_19, i_20, i_21, i_22, i_23, i_24, i_25, i_26, i_27, i_28, i_29]) from mm_gs2 8 30 (by decide) rfl rfl rfl]
        intro H locs (hP : va_P G vwCl [(a_0, .inl (cy 1, 30, .inl (mm_g [i_0, i_1, i_2, i_3, i_4, i_5, i_0, i_1, i_2, i_9, i_10, i_11, i_12, i_13, i_14, i_15, i_16, i_17, i_18, i_19, i_20, i_21, i_22, i_23, i_24, i_25, i_26, i_27, i_28, i_29])))] H) (hD : va_D A [(a_0, .inl (cy 1, 30, .inl (mm_g [i_0, i_1, i_2, i_3, i_4, i_5, i_0, i_1, i_2, i_9, i_10, i_11, i_12, i_13, i_14, i_15, i_16, i_17, i_18, i_19, i_20, i_21, i_22, i_23, i_24, i_25, i_26, i_27, i_28, i_29])))]) hS
        refine lv_iinc (v := 3) (lv' := [(4, .int 3), (0, .ref a_0), (1, .int 6), (2, .int 0), (3, .int 1)]) hx hb dX12_copyRow_25 hl (k := 0) rfl (by decide) (by decide) rfl ?_
        clear hl
        clear ls
        intro ls hl
        refine lv_goto (tgt := 3) hx hb dX12_copyRow_28 (by decide) ?_
        refine lv_iload hx hb dX12_copyRow_3 (lv_at hl 0 rfl) ?_
        refine lv_iload_n hx hb dX12_copyRow_5 rfl (lv_at hl 2 rfl) ?_
        refine lv_icmp_ge (tgt := 31) hx hb dX12_copyRow_6 (by decide) (fun c19 => ?_) (fun c19 => ?_)
        · have q20 := mm_leL (mm_le c19) mm_k6 mm_k3
          exact mm_no q20 (by decide)
        · refine lv_aload_n hx hb dX12_copyRow_9 rfl (lv_at hl 1 rfl) ?_
          refine lv_iload_n hx hb dX12_copyRow_10 rfl (lv_at hl 2 rfl) ?_
          refine lv_iload_n hx hb dX12_copyRow_11 rfl (lv_at hl 4 rfl) ?_
          refine lv_imul hx hb dX12_copyRow_12 ?_
          refine lv_topi (fun v21 ev21 => ?_)
          obtain rfl : v21 = 6 := ev21.trans (by decide)
          refine lv_iload hx hb dX12_copyRow_13 (lv_at hl 0 rfl) ?_
          refine lv_iadd hx hb dX12_copyRow_15 ?_
          refine lv_topi (fun v22 ev22 => ?_)
          obtain rfl : v22 = 9 := ev22.trans (by decide)
          refine lv_aload_n hx hb dX12_copyRow_16 rfl (lv_at hl 1 rfl) ?_
          refine lv_iload_n hx hb dX12_copyRow_17 rfl (lv_at hl 2 rfl) ?_
          refine lv_iload_n hx hb dX12_copyRow_18 rfl (lv_at hl 3 rfl) ?_
          refine lv_imul hx hb dX12_copyRow_19 ?_
          refine lv_topi (fun v23 ev23 => ?_)
          obtain rfl : v23 = 0 := ev23.trans (by decide)
          refine lv_iload hx hb dX12_copyRow_20 (lv_at hl 0 rfl) ?_
          refine lv_iadd hx hb dX12_copyRow_22 ?_
          refine lv_topi (fun v24 ev24 => ?_)
          obtain rfl : v24 = 3 := ev24.trans (by decide)
          refine va_iald hx hb hK.1 hP 0 1 rfl rfl (mm_in mm_k3 (by decide)) dX12_copyRow_23 ?_
          rw [show (mm_g [i_0, i_1, i_2, i_3, i_4, i_5, i_0, i_1, i_2, i_9, i_10, i_11, i_12, i_13, i_14, i_15, i_16, i_17, i_18, i_19, i_20, i_21, i_22, i_23, i_24, i_25, i_26, i_27, i_28, i_29]) (3 : Int32).toNatClampNeg = i_3 from mm_ge 3 (by decide) rfl]
          refine va_iast hx hb hK.1 hP hD hS 0 1 rfl rfl (mm_in mm_k9 (by decide)) dX12_copyRow_24 ?_
          clear hP hD hS
          clear H locs
          rw [show upd (mm_g [i_0, i_1, i_2, i_3, i_4, i_5, i_0, i_1, i_2, i_9, i_10, i_11, i_12, i_13, i_14, i_15, i_16, i_17, i_18, i_19, i_20, i_21, i_22, i_23, i_24, i_25, i_26, i_27, i_28, i_29]) (9 : Int32).toNatClampNeg i_3 = (mm_g [i_0, i_1, i_2, i_3, i_4, i_5, i_0, i_1, i_2, i_3, i_10, i_11, i_12, i_13, i_14, i_15, i_16, i_17, i_18, i_19, i_20, i_21, i_22, i_23, i_24, i_25, i_26, i_27, i_28, i_29]) from mm_gs2 9 30 (by decide) rfl rfl rfl]
          intro H locs (hP : va_P G vwCl [(a_0, .inl (cy 1, 30, .inl (mm_g [i_0, i_1, i_2, i_3, i_4, i_5, i_0, i_1, i_2, i_3, i_10, i_11, i_12, i_13, i_14, i_15, i_16, i_17, i_18, i_19, i_20, i_21, i_22, i_23, i_24, i_25, i_26, i_27, i_28, i_29])))] H) (hD : va_D A [(a_0, .inl (cy 1, 30, .inl (mm_g [i_0, i_1, i_2, i_3, i_4, i_5, i_0, i_1, i_2, i_3, i_10, i_11, i_12, i_13, i_14, i_15, i_16, i_17, i_18, i_19, i_20, i_21, i_22, i_23, i_24, i_25, i_26, i_27, i_28, i_29])))]) hS
          refine lv_iinc (v := 4) (lv' := [(4, .int 4), (0, .ref a_0), (1, .int 6), (2, .int 0), (3, .int 1)]) hx hb dX12_copyRow_25 hl (k := 0) rfl (by decide) (by decide) rfl ?_
          clear hl
          clear ls
          intro ls hl
          refine lv_goto (tgt := 3) hx hb dX12_copyRow_28 (by decide) ?_
          refine lv_iload hx hb dX12_copyRow_3 (lv_at hl 0 rfl) ?_
          refine lv_iload_n hx hb dX12_copyRow_5 rfl (lv_at hl 2 rfl) ?_
          refine lv_icmp_ge (tgt := 31) hx hb dX12_copyRow_6 (by decide) (fun c25 => ?_) (fun c25 => ?_)
          · have q26 := mm_leL (mm_le c25) mm_k6 mm_k4
            exact mm_no q26 (by decide)
          · refine lv_aload_n hx hb dX12_copyRow_9 rfl (lv_at hl 1 rfl) ?_
            refine lv_iload_n hx hb dX12_copyRow_10 rfl (lv_at hl 2 rfl) ?_
            refine lv_iload_n hx hb dX12_copyRow_11 rfl (lv_at hl 4 rfl) ?_
            refine lv_imul hx hb dX12_copyRow_12 ?_
            refine lv_topi (fun v27 ev27 => ?_)
            obtain rfl : v27 = 6 := ev27.trans (by decide)
            refine lv_iload hx hb dX12_copyRow_13 (lv_at hl 0 rfl) ?_
            refine lv_iadd hx hb dX12_copyRow_15 ?_
            refine lv_topi (fun v28 ev28 => ?_)
            obtain rfl : v28 = 10 := ev28.trans (by decide)
            refine lv_aload_n hx hb dX12_copyRow_16 rfl (lv_at hl 1 rfl) ?_
            refine lv_iload_n hx hb dX12_copyRow_17 rfl (lv_at hl 2 rfl) ?_
            refine lv_iload_n hx hb dX12_copyRow_18 rfl (lv_at hl 3 rfl) ?_
            refine lv_imul hx hb dX12_copyRow_19 ?_
            refine lv_topi (fun v29 ev29 => ?_)
            obtain rfl : v29 = 0 := ev29.trans (by decide)
            refine lv_iload hx hb dX12_copyRow_20 (lv_at hl 0 rfl) ?_
            refine lv_iadd hx hb dX12_copyRow_22 ?_
            refine lv_topi (fun v30 ev30 => ?_)
            obtain rfl : v30 = 4 := ev30.trans (by decide)
            refine va_iald hx hb hK.1 hP 0 1 rfl rfl (mm_in mm_k4 (by decide)) dX12_copyRow_23 ?_
            rw [show (mm_g [i_0, i_1, i_2, i_3, i_4, i_5, i_0, i_1, i_2, i_3, i_10, i_11, i_12, i_13, i_14, i_15, i_16, i_17, i_18, i_19, i_20, i_21, i_22, i_23, i_24, i_25, i_26, i_27, i_28, i_29]) (4 : Int32).toNatClampNeg = i_4 from mm_ge 4 (by decide) rfl]
            refine va_iast hx hb hK.1 hP hD hS 0 1 rfl rfl (mm_in mm_k10 (by decide)) dX12_copyRow_24 ?_
            clear hP hD hS
            clear H locs
            rw [show upd (mm_g [i_0, i_1, i_2, i_3, i_4, i_5, i_0, i_1, i_2, i_3, i_10, i_11, i_12, i_13, i_14, i_15, i_16, i_17, i_18, i_19, i_20, i_21, i_22, i_23, i_24, i_25, i_26, i_27, i_28, i_29]) (10 : Int32).toNatClampNeg i_4 = (mm_g [i_0, i_1, i_2, i_3, i_4, i_5, i_0, i_1, i_2, i_3, i_4, i_11, i_12, i_13, i_14, i_15, i_16, i_17, i_18, i_19, i_20, i_21, i_22, i_23, i_24, i_25, i_26, i_27, i_28, i_29]) from mm_gs2 10 30 (by decide) rfl rfl rfl]
            intro H locs (hP : va_P G vwCl [(a_0, .inl (cy 1, 30, .inl (mm_g [i_0, i_1, i_2, i_3, i_4, i_5, i_0, i_1, i_2, i_3, i_4, i_11, i_12, i_13, i_14, i_15, i_16, i_17, i_18, i_19, i_20, i_21, i_22, i_23, i_24, i_25, i_26, i_27, i_28, i_29])))] H) (hD : va_D A [(a_0, .inl (cy 1, 30, .inl (mm_g [i_0, i_1, i_2, i_3, i_4, i_5, i_0, i_1, i_2, i_3, i_4, i_11, i_12, i_13, i_14, i_15, i_16, i_17, i_18, i_19, i_20, i_21, i_22, i_23, i_24, i_25, i_26, i_27, i_28, i_29])))]) hS
            refine lv_iinc (v := 5) (lv' := [(4, .int 5), (0, .ref a_0), (1, .int 6), (2, .int 0), (3, .int 1)]) hx hb dX12_copyRow_25 hl (k := 0) rfl (by decide) (by decide) rfl ?_
            clear hl
            clear ls
            intro ls hl
            refine lv_goto (tgt := 3) hx hb dX12_copyRow_28 (by decide) ?_
            refine lv_iload hx hb dX12_copyRow_3 (lv_at hl 0 rfl) ?_
            refine lv_iload_n hx hb dX12_copyRow_5 rfl (lv_at hl 2 rfl) ?_
            refine lv_icmp_ge (tgt := 31) hx hb dX12_copyRow_6 (by decide) (fun c31 => ?_) (fun c31 => ?_)
            · have q32 := mm_leL (mm_le c31) mm_k6 mm_k5
              exact mm_no q32 (by decide)
            · refine lv_aload_n hx hb dX12_copyRow_9 rfl (lv_at hl 1 rfl) ?_
              refine lv_iload_n hx hb dX12_copyRow_10 rfl (lv_at hl 2 rfl) ?_
              refine lv_iload_n hx hb dX12_copyRow_11 rfl (lv_at hl 4 rfl) ?_
              refine lv_imul hx hb dX12_copyRow_12 ?_
              refine lv_topi (fun v33 ev33 => ?_)
              obtain rfl : v33 = 6 := ev33.trans (by decide)
              refine lv_iload hx hb dX12_copyRow_13 (lv_at hl 0 rfl) ?_
              refine lv_iadd hx hb dX12_copyRow_15 ?_
              refine lv_topi (fun v34 ev34 => ?_)
              obtain rfl : v34 = 11 := ev34.trans (by decide)
              refine lv_aload_n hx hb dX12_copyRow_16 rfl (lv_at hl 1 rfl) ?_
              refine lv_iload_n hx hb dX12_copyRow_17 rfl (lv_at hl 2 rfl) ?_
              refine lv_iload_n hx hb dX12_copyRow_18 rfl (lv_at hl 3 rfl) ?_
              refine lv_imul hx hb dX12_copyRow_19 ?_
              refine lv_topi (fun v35 ev35 => ?_)
              obtain rfl : v35 = 0 := ev35.trans (by decide)
              refine lv_iload hx hb dX12_copyRow_20 (lv_at hl 0 rfl) ?_
              refine lv_iadd hx hb dX12_copyRow_22 ?_
              refine lv_topi (fun v36 ev36 => ?_)
              obtain rfl : v36 = 5 := ev36.trans (by decide)
              refine va_iald hx hb hK.1 hP 0 1 rfl rfl (mm_in mm_k5 (by decide)) dX12_copyRow_23 ?_
              rw [show (mm_g [i_0, i_1, i_2, i_3, i_4, i_5, i_0, i_1, i_2, i_3, i_4, i_11, i_12, i_13, i_14, i_15, i_16, i_17, i_18, i_19, i_20, i_21, i_22, i_23, i_24, i_25, i_26, i_27, i_28, i_29]) (5 : Int32).toNatClampNeg = i_5 from mm_ge 5 (by decide) rfl]
              refine va_iast hx hb hK.1 hP hD hS 0 1 rfl rfl (mm_in mm_k11 (by decide)) dX12_copyRow_24 ?_
              clear hP hD hS
              clear H locs
              rw [show upd (mm_g [i_0, i_1, i_2, i_3, i_4, i_5, i_0, i_1, i_2, i_3, i_4, i_11, i_12, i_13, i_14, i_15, i_16, i_17, i_18, i_19, i_20, i_21, i_22, i_23, i_24, i_25, i_26, i_27, i_28, i_29]) (11 : Int32).toNatClampNeg i_5 = (mm_g [i_0, i_1, i_2, i_3, i_4, i_5, i_0, i_1, i_2, i_3, i_4, i_5, i_12, i_13, i_14, i_15, i_16, i_17, i_18, i_19, i_20, i_21, i_22, i_23, i_24, i_25, i_26, i_27, i_28, i_29]) from mm_gs2 11 30 (by decide) rfl rfl rfl]
              intro H locs (hP : va_P G vwCl [(a_0, .inl (cy 1, 30, .inl (mm_g [i_0, i_1, i_2, i_3, i_4, i_5, i_0, i_1, i_2, i_3, i_4, i_5, i_12, i_13, i_14, i_15, i_16, i_17, i_18, i_19, i_20, i_21, i_22, i_23, i_24, i_25, i_26, i_27, i_28, i_29])))] H) (hD : va_D A [(a_0, .inl (cy 1, 30, .inl (mm_g [i_0, i_1, i_2, i_3, i_4, i_5, i_0, i_1, i_2, i_3, i_4, i_5, i_12, i_13, i_14, i_15, i_16, i_17, i_18, i_19, i_20, i_21, i_22, i_23, i_24, i_25, i_26, i_27, i_28, i_29])))]) hS
              refine lv_iinc (v := 6) (lv' := [(4, .int 6), (0, .ref a_0), (1, .int 6), (2, .int 0), (3, .int 1)]) hx hb dX12_copyRow_25 hl (k := 0) rfl (by decide) (by decide) rfl ?_
              clear hl
              clear ls
              intro ls hl
              refine lv_goto (tgt := 3) hx hb dX12_copyRow_28 (by decide) ?_
              refine lv_iload hx hb dX12_copyRow_3 (lv_at hl 0 rfl) ?_
              refine lv_iload_n hx hb dX12_copyRow_5 rfl (lv_at hl 2 rfl) ?_
              refine lv_icmp_ge (tgt := 31) hx hb dX12_copyRow_6 (by decide) (fun c37 => ?_) (fun c37 => ?_)
              · subst hAe
                rw [hQ]
                exact W.vret hx hb hr (fun t ht hW => ⟨⟨(), rfl, trivial, by rw [ht]; exact hP, hK.warm hW, hD⟩, hS.F ht⟩) hS.2.2 dX12_copyRow_31
              · have q38 := mm_ltL (h := 5) (mm_nle c37) mm_k6 mm_k6 (by decide)
                exact mm_no q38 (by decide)

set_option maxHeartbeats 4000000 in
set_option maxRecDepth 100000 in
theorem M325_X12_copyRow (l : Launch) (G : va_G) (cy : Nat → ClassId) (sz : Nat) (a_0 : Nat) (f_0 : Nat → Int32) (h0 : mm_ar f_0 0 99)  : mm_CV l yX12_copyRow (mm_ws yX12_copyRow cX12_copyRow 5 (none)) ({ frames := 0, cells := 0, slots := 0, locals := 0 } : Room) G cy sz [(a_0, .inl (cy 1, 90, .inl f_0))] [.ref a_0, .int 18, .int 0, .int 1] (fun u : (Nat → Int32) => [(a_0, .inl (cy 1, 90, .inl u))]) (fun u : (Nat → Int32) => mm_ar u 0 99 ∧ mm_crw f_0 u 18 0 1) 0 0 := by
  refine mm_begin (lv := [(0, .ref a_0), (1, .int 18), (2, .int 0), (3, .int 1)]) (by decide) (Nat.le_of_ble_eq_true rfl) rfl ?_
  intro p e s m below meth c A ls R args Q H locs hRe hQ hAe hx hb hr hlocks hml hown hnm hts hsz hA hS hP hK hD hZ hl
  have hRf : R.frames = 0 := by rw [hRe]
  have hRl : R.locals = 0 := by rw [hRe]
  have hRc : R.cells = 0 := by rw [hRe]
  have hRs : R.slots = 0 := by rw [hRe]
  refine lv_iconst (v := 0) hx hb dX12_copyRow_0 (by decide) ?_
  refine lv_istore (lv' := [(4, .int 0), (0, .ref a_0), (1, .int 18), (2, .int 0), (3, .int 1)]) hx hb dX12_copyRow_1 hl (by decide) rfl ?_
  clear hl
  clear ls
  intro ls hl
  have L3_130 : ∀ (n : Nat) (x3_4_128 : Int32) (z3_0_129 : Nat → Int32), mm_rg x3_4_128 0 18 → mm_ar z3_0_129 0 99 → mm_crk f_0 z3_0_129 18 0 1 x3_4_128 → (18 - x3_4_128.toInt).toNat < n → ∀ (H : Heap) (locs : List Loc), va_P G vwCl [(a_0, .inl (cy 1, 90, .inl z3_0_129))] H → va_D A [(a_0, .inl (cy 1, 90, .inl z3_0_129))] → va_S A s.heap H locs → ∀ (ls : Array Slot), lv_has ls 5 [(4, .int x3_4_128), (0, .ref a_0), (1, .int 18), (2, .int 0), (3, .int 1)] → W p l e R s m args below meth c H locs 0 0 Q (F0 m 3 ls []) := by
    intro n
    induction n with
    | zero => intro x3_4_128 z3_0_129 rx3_4_128 rz3_0_129 w130 hm; exact absurd hm (Nat.not_lt_zero _)
    | succ n ih3 =>
      intro x3_4_128 z3_0_129 rx3_4_128 rz3_0_129 w130 hm3 H locs hP hD hS ls hl
      refine lv_iload hx hb dX12_copyRow_3 (lv_at hl 0 rfl) ?_
      refine lv_iload_n hx hb dX12_copyRow_5 rfl (lv_at hl 2 rfl) ?_
      refine lv_icmp_ge (tgt := 31) hx hb dX12_copyRow_6 (by decide) (fun c132 => ?_) (fun c132 => ?_)
      · have q133 := mm_leR (mm_le c132) mm_k18 rx3_4_128
        have w134 : mm_crw f_0 z3_0_129 18 0 1 := (mm_crw_of w130 q133 (by decide))
        subst hAe
        rw [hQ]
        exact W.vret hx hb hr (fun t ht hW => ⟨⟨z3_0_129, rfl, ⟨rz3_0_129, w134⟩, by rw [ht]; exact hP, hK.warm hW, hD⟩, hS.F ht⟩) hS.2.2 dX12_copyRow_31
      · have q135 := mm_ltL (h := 17) (mm_nle c132) rx3_4_128 mm_k18 (by decide)
        refine lv_aload_n hx hb dX12_copyRow_9 rfl (lv_at hl 1 rfl) ?_
        refine lv_iload_n hx hb dX12_copyRow_10 rfl (lv_at hl 2 rfl) ?_
        refine lv_iload_n hx hb dX12_copyRow_11 rfl (lv_at hl 4 rfl) ?_
        refine lv_imul hx hb dX12_copyRow_12 ?_
        refine lv_topi (fun v136 ev136 => ?_)
        obtain rfl : v136 = 18 := ev136.trans (by decide)
        refine lv_iload hx hb dX12_copyRow_13 (lv_at hl 0 rfl) ?_
        refine lv_iadd hx hb dX12_copyRow_15 ?_
        refine lv_topi (fun v137 ev137 => ?_)
        have rv137 : mm_rg v137 18 35 := mm_add ev137 mm_k18 q135 (by decide) (by decide)
        have tv137 := mm_addEd ev137 mm_k18 q135 (by decide) (k := 18) (by decide)
        refine lv_aload_n hx hb dX12_copyRow_16 rfl (lv_at hl 1 rfl) ?_
        refine lv_iload_n hx hb dX12_copyRow_17 rfl (lv_at hl 2 rfl) ?_
        refine lv_iload_n hx hb dX12_copyRow_18 rfl (lv_at hl 3 rfl) ?_
        refine lv_imul hx hb dX12_copyRow_19 ?_
        refine lv_topi (fun v138 ev138 => ?_)
        obtain rfl : v138 = 0 := ev138.trans (by decide)
        refine lv_iload hx hb dX12_copyRow_20 (lv_at hl 0 rfl) ?_
        refine lv_iadd hx hb dX12_copyRow_22 ?_
        refine lv_topi (fun v139 ev139 => ?_)
        have rv139 : mm_rg v139 0 17 := mm_add ev139 mm_k0 q135 (by decide) (by decide)
        have tv139 := mm_addEd ev139 mm_k0 q135 (by decide) (k := 0) (by decide)
        refine va_iald hx hb hK.1 hP 0 1 rfl rfl (mm_in rv139 (by decide)) dX12_copyRow_23 ?_
        refine lv_topi (fun v140 ev140 => ?_)
        have rv140 : mm_rg v140 0 99 := mm_eqv ev140 (rz3_0_129 _)
        refine va_iast hx hb hK.1 hP hD hS 0 1 rfl rfl (mm_in rv137 (by decide)) dX12_copyRow_24 ?_
        clear hP hD hS
        clear H locs
        obtain ⟨g141, eg141⟩ : ∃ z : Nat → Int32, z = upd z3_0_129 v137.toNatClampNeg v140 := ⟨_, rfl⟩
        rw [← eg141]
        intro H locs (hP : va_P G vwCl [(a_0, .inl (cy 1, 90, .inl g141))] H) (hD : va_D A [(a_0, .inl (cy 1, 90, .inl g141))]) hS
        have rg141 : mm_ar g141 0 99 := by rw [eg141]; exact mm_ar_upd (mm_ar_wk rz3_0_129 (by decide)) (mm_wk rv140 (by decide)) _
        obtain ⟨v142, ev142⟩ : ∃ y : Int32, y = x3_4_128 + 1 := ⟨_, rfl⟩
        refine lv_iinc (v := v142) (lv' := [(4, .int v142), (0, .ref a_0), (1, .int 18), (2, .int 0), (3, .int 1)]) hx hb dX12_copyRow_25 hl (k := 0) rfl (by rw [ev142]; rfl) (by decide) rfl ?_
        clear hl
        clear ls
        intro ls hl
        have rv142 : mm_rg v142 1 18 := mm_add ev142 q135 mm_k1 (by decide) (by decide)
        have tv142 := mm_addEc ev142 q135 mm_k1 (by decide) (k := 1) (by decide)
        refine lv_goto (tgt := 3) hx hb dX12_copyRow_28 (by decide) ?_
        exact ih3 v142 g141 (mm_wk rv142 (by decide)) rg141 (mm_crk_s w130 tv142 q135 eg141 ev140 (by have := tv137; omega) (by have := tv139; omega) (by decide)) (mm_mu hm3 tv142 (by decide) (rv142).2 (by decide)) H locs hP hD hS ls (lv_sub hl [0, 1, 2, 3, 4] rfl)
  exact L3_130 _ 0 f_0 (mm_wk mm_k0 (by decide)) h0 (mm_crk_0 _ _ _ _) (Nat.lt_succ_self _) H locs hP hD hS ls (lv_sub hl [0, 1, 2, 3, 4] rfl)

set_option maxHeartbeats 4000000 in
set_option maxRecDepth 100000 in
theorem M326_X12_copyRow (l : Launch) (G : va_G) (cy : Nat → ClassId) (sz : Nat) (a_0 : Nat) (f_0 : Nat → Int32) (h0 : mm_ar f_0 0 7)  : mm_CV l yX12_copyRow (mm_ws yX12_copyRow cX12_copyRow 5 (none)) ({ frames := 0, cells := 0, slots := 0, locals := 0 } : Room) G cy sz [(a_0, .inl (cy 1, 15, .inl f_0))] [.ref a_0, .int 3, .int 0, .int 1] (fun u : (Nat → Int32) => [(a_0, .inl (cy 1, 15, .inl u))]) (fun u : (Nat → Int32) => mm_ar u 0 7 ∧ mm_crw f_0 u 3 0 1) 0 0 := by
  refine mm_begin (lv := [(0, .ref a_0), (1, .int 3), (2, .int 0), (3, .int 1)]) (by decide) (Nat.le_of_ble_eq_true rfl) rfl ?_
  intro p e s m below meth c A ls R args Q H locs hRe hQ hAe hx hb hr hlocks hml hown hnm hts hsz hA hS hP hK hD hZ hl
  have hRf : R.frames = 0 := by rw [hRe]
  have hRl : R.locals = 0 := by rw [hRe]
  have hRc : R.cells = 0 := by rw [hRe]
  have hRs : R.slots = 0 := by rw [hRe]
  refine lv_iconst (v := 0) hx hb dX12_copyRow_0 (by decide) ?_
  refine lv_istore (lv' := [(4, .int 0), (0, .ref a_0), (1, .int 3), (2, .int 0), (3, .int 1)]) hx hb dX12_copyRow_1 hl (by decide) rfl ?_
  clear hl
  clear ls
  intro ls hl
  have L3_48 : ∀ (n : Nat) (x3_4_46 : Int32) (z3_0_47 : Nat → Int32), mm_rg x3_4_46 0 3 → mm_ar z3_0_47 0 7 → mm_crk f_0 z3_0_47 3 0 1 x3_4_46 → (3 - x3_4_46.toInt).toNat < n → ∀ (H : Heap) (locs : List Loc), va_P G vwCl [(a_0, .inl (cy 1, 15, .inl z3_0_47))] H → va_D A [(a_0, .inl (cy 1, 15, .inl z3_0_47))] → va_S A s.heap H locs → ∀ (ls : Array Slot), lv_has ls 5 [(4, .int x3_4_46), (0, .ref a_0), (1, .int 3), (2, .int 0), (3, .int 1)] → W p l e R s m args below meth c H locs 0 0 Q (F0 m 3 ls []) := by
    intro n
    induction n with
    | zero => intro x3_4_46 z3_0_47 rx3_4_46 rz3_0_47 w48 hm; exact absurd hm (Nat.not_lt_zero _)
    | succ n ih3 =>
      intro x3_4_46 z3_0_47 rx3_4_46 rz3_0_47 w48 hm3 H locs hP hD hS ls hl
      refine lv_iload hx hb dX12_copyRow_3 (lv_at hl 0 rfl) ?_
      refine lv_iload_n hx hb dX12_copyRow_5 rfl (lv_at hl 2 rfl) ?_
      refine lv_icmp_ge (tgt := 31) hx hb dX12_copyRow_6 (by decide) (fun c50 => ?_) (fun c50 => ?_)
      · have q51 := mm_leR (mm_le c50) mm_k3 rx3_4_46
        have w52 : mm_crw f_0 z3_0_47 3 0 1 := (mm_crw_of w48 q51 (by decide))
        subst hAe
        rw [hQ]
        exact W.vret hx hb hr (fun t ht hW => ⟨⟨z3_0_47, rfl, ⟨rz3_0_47, w52⟩, by rw [ht]; exact hP, hK.warm hW, hD⟩, hS.F ht⟩) hS.2.2 dX12_copyRow_31
      · have q53 := mm_ltL (h := 2) (mm_nle c50) rx3_4_46 mm_k3 (by decide)
        refine lv_aload_n hx hb dX12_copyRow_9 rfl (lv_at hl 1 rfl) ?_
        refine lv_iload_n hx hb dX12_copyRow_10 rfl (lv_at hl 2 rfl) ?_
        refine lv_iload_n hx hb dX12_copyRow_11 rfl (lv_at hl 4 rfl) ?_
        refine lv_imul hx hb dX12_copyRow_12 ?_
        refine lv_topi (fun v54 ev54 => ?_)
        obtain rfl : v54 = 3 := ev54.trans (by decide)
        refine lv_iload hx hb dX12_copyRow_13 (lv_at hl 0 rfl) ?_
        refine lv_iadd hx hb dX12_copyRow_15 ?_
        refine lv_topi (fun v55 ev55 => ?_)
        have rv55 : mm_rg v55 3 5 := mm_add ev55 mm_k3 q53 (by decide) (by decide)
        have tv55 := mm_addEd ev55 mm_k3 q53 (by decide) (k := 3) (by decide)
        refine lv_aload_n hx hb dX12_copyRow_16 rfl (lv_at hl 1 rfl) ?_
        refine lv_iload_n hx hb dX12_copyRow_17 rfl (lv_at hl 2 rfl) ?_
        refine lv_iload_n hx hb dX12_copyRow_18 rfl (lv_at hl 3 rfl) ?_
        refine lv_imul hx hb dX12_copyRow_19 ?_
        refine lv_topi (fun v56 ev56 => ?_)
        obtain rfl : v56 = 0 := ev56.trans (by decide)
        refine lv_iload hx hb dX12_copyRow_20 (lv_at hl 0 rfl) ?_
        refine lv_iadd hx hb dX12_copyRow_22 ?_
        refine lv_topi (fun v57 ev57 => ?_)
        have rv57 : mm_rg v57 0 2 := mm_add ev57 mm_k0 q53 (by decide) (by decide)
        have tv57 := mm_addEd ev57 mm_k0 q53 (by decide) (k := 0) (by decide)
        refine va_iald hx hb hK.1 hP 0 1 rfl rfl (mm_in rv57 (by decide)) dX12_copyRow_23 ?_
        refine lv_topi (fun v58 ev58 => ?_)
        have rv58 : mm_rg v58 0 7 := mm_eqv ev58 (rz3_0_47 _)
        refine va_iast hx hb hK.1 hP hD hS 0 1 rfl rfl (mm_in rv55 (by decide)) dX12_copyRow_24 ?_
        clear hP hD hS
        clear H locs
        obtain ⟨g59, eg59⟩ : ∃ z : Nat → Int32, z = upd z3_0_47 v55.toNatClampNeg v58 := ⟨_, rfl⟩
        rw [← eg59]
        intro H locs (hP : va_P G vwCl [(a_0, .inl (cy 1, 15, .inl g59))] H) (hD : va_D A [(a_0, .inl (cy 1, 15, .inl g59))]) hS
        have rg59 : mm_ar g59 0 7 := by rw [eg59]; exact mm_ar_upd (mm_ar_wk rz3_0_47 (by decide)) (mm_wk rv58 (by decide)) _
        obtain ⟨v60, ev60⟩ : ∃ y : Int32, y = x3_4_46 + 1 := ⟨_, rfl⟩
        refine lv_iinc (v := v60) (lv' := [(4, .int v60), (0, .ref a_0), (1, .int 3), (2, .int 0), (3, .int 1)]) hx hb dX12_copyRow_25 hl (k := 0) rfl (by rw [ev60]; rfl) (by decide) rfl ?_
        clear hl
        clear ls
        intro ls hl
        have rv60 : mm_rg v60 1 3 := mm_add ev60 q53 mm_k1 (by decide) (by decide)
        have tv60 := mm_addEc ev60 q53 mm_k1 (by decide) (k := 1) (by decide)
        refine lv_goto (tgt := 3) hx hb dX12_copyRow_28 (by decide) ?_
        exact ih3 v60 g59 (mm_wk rv60 (by decide)) rg59 (mm_crk_s w48 tv60 q53 eg59 ev58 (by have := tv55; omega) (by have := tv57; omega) (by decide)) (mm_mu hm3 tv60 (by decide) (rv60).2 (by decide)) H locs hP hD hS ls (lv_sub hl [0, 1, 2, 3, 4] rfl)
  exact L3_48 _ 0 f_0 (mm_wk mm_k0 (by decide)) h0 (mm_crk_0 _ _ _ _) (Nat.lt_succ_self _) H locs hP hD hS ls (lv_sub hl [0, 1, 2, 3, 4] rfl)

set_option maxHeartbeats 4000000 in
set_option maxRecDepth 100000 in
theorem M327_X12_copyRow (l : Launch) (G : va_G) (cy : Nat → ClassId) (sz : Nat) (a_0 : Nat) (f_0 : Nat → Int32) (h0 : mm_ar f_0 0 9)  : mm_CV l yX12_copyRow (mm_ws yX12_copyRow cX12_copyRow 5 (none)) ({ frames := 0, cells := 0, slots := 0, locals := 0 } : Room) G cy sz [(a_0, .inl (cy 1, 1050, .inl f_0))] [.ref a_0, .int 210, .int 0, .int 1] (fun u : (Nat → Int32) => [(a_0, .inl (cy 1, 1050, .inl u))]) (fun u : (Nat → Int32) => mm_ar u 0 9 ∧ mm_crw f_0 u 210 0 1) 0 0 := by
  refine mm_begin (lv := [(0, .ref a_0), (1, .int 210), (2, .int 0), (3, .int 1)]) (by decide) (Nat.le_of_ble_eq_true rfl) rfl ?_
  intro p e s m below meth c A ls R args Q H locs hRe hQ hAe hx hb hr hlocks hml hown hnm hts hsz hA hS hP hK hD hZ hl
  have hRf : R.frames = 0 := by rw [hRe]
  have hRl : R.locals = 0 := by rw [hRe]
  have hRc : R.cells = 0 := by rw [hRe]
  have hRs : R.slots = 0 := by rw [hRe]
  refine lv_iconst (v := 0) hx hb dX12_copyRow_0 (by decide) ?_
  refine lv_istore (lv' := [(4, .int 0), (0, .ref a_0), (1, .int 210), (2, .int 0), (3, .int 1)]) hx hb dX12_copyRow_1 hl (by decide) rfl ?_
  clear hl
  clear ls
  intro ls hl
  have L3_148 : ∀ (n : Nat) (x3_4_146 : Int32) (z3_0_147 : Nat → Int32), mm_rg x3_4_146 0 210 → mm_ar z3_0_147 0 9 → mm_crk f_0 z3_0_147 210 0 1 x3_4_146 → (210 - x3_4_146.toInt).toNat < n → ∀ (H : Heap) (locs : List Loc), va_P G vwCl [(a_0, .inl (cy 1, 1050, .inl z3_0_147))] H → va_D A [(a_0, .inl (cy 1, 1050, .inl z3_0_147))] → va_S A s.heap H locs → ∀ (ls : Array Slot), lv_has ls 5 [(4, .int x3_4_146), (0, .ref a_0), (1, .int 210), (2, .int 0), (3, .int 1)] → W p l e R s m args below meth c H locs 0 0 Q (F0 m 3 ls []) := by
    intro n
    induction n with
    | zero => intro x3_4_146 z3_0_147 rx3_4_146 rz3_0_147 w148 hm; exact absurd hm (Nat.not_lt_zero _)
    | succ n ih3 =>
      intro x3_4_146 z3_0_147 rx3_4_146 rz3_0_147 w148 hm3 H locs hP hD hS ls hl
      refine lv_iload hx hb dX12_copyRow_3 (lv_at hl 0 rfl) ?_
      refine lv_iload_n hx hb dX12_copyRow_5 rfl (lv_at hl 2 rfl) ?_
      refine lv_icmp_ge (tgt := 31) hx hb dX12_copyRow_6 (by decide) (fun c150 => ?_) (fun c150 => ?_)
      · have q151 := mm_leR (mm_le c150) mm_k210 rx3_4_146
        have w152 : mm_crw f_0 z3_0_147 210 0 1 := (mm_crw_of w148 q151 (by decide))
        subst hAe
        rw [hQ]
        exact W.vret hx hb hr (fun t ht hW => ⟨⟨z3_0_147, rfl, ⟨rz3_0_147, w152⟩, by rw [ht]; exact hP, hK.warm hW, hD⟩, hS.F ht⟩) hS.2.2 dX12_copyRow_31
      · have q153 := mm_ltL (h := 209) (mm_nle c150) rx3_4_146 mm_k210 (by decide)
        refine lv_aload_n hx hb dX12_copyRow_9 rfl (lv_at hl 1 rfl) ?_
        refine lv_iload_n hx hb dX12_copyRow_10 rfl (lv_at hl 2 rfl) ?_
        refine lv_iload_n hx hb dX12_copyRow_11 rfl (lv_at hl 4 rfl) ?_
        refine lv_imul hx hb dX12_copyRow_12 ?_
        refine lv_topi (fun v154 ev154 => ?_)
        obtain rfl : v154 = 210 := ev154.trans (by decide)
        refine lv_iload hx hb dX12_copyRow_13 (lv_at hl 0 rfl) ?_
        refine lv_iadd hx hb dX12_copyRow_15 ?_
        refine lv_topi (fun v155 ev155 => ?_)
        have rv155 : mm_rg v155 210 419 := mm_add ev155 mm_k210 q153 (by decide) (by decide)
        have tv155 := mm_addEd ev155 mm_k210 q153 (by decide) (k := 210) (by decide)
        refine lv_aload_n hx hb dX12_copyRow_16 rfl (lv_at hl 1 rfl) ?_
        refine lv_iload_n hx hb dX12_copyRow_17 rfl (lv_at hl 2 rfl) ?_
        refine lv_iload_n hx hb dX12_copyRow_18 rfl (lv_at hl 3 rfl) ?_
        refine lv_imul hx hb dX12_copyRow_19 ?_
        refine lv_topi (fun v156 ev156 => ?_)
        obtain rfl : v156 = 0 := ev156.trans (by decide)
        refine lv_iload hx hb dX12_copyRow_20 (lv_at hl 0 rfl) ?_
        refine lv_iadd hx hb dX12_copyRow_22 ?_
        refine lv_topi (fun v157 ev157 => ?_)
        have rv157 : mm_rg v157 0 209 := mm_add ev157 mm_k0 q153 (by decide) (by decide)
        have tv157 := mm_addEd ev157 mm_k0 q153 (by decide) (k := 0) (by decide)
        refine va_iald hx hb hK.1 hP 0 1 rfl rfl (mm_in rv157 (by decide)) dX12_copyRow_23 ?_
        refine lv_topi (fun v158 ev158 => ?_)
        have rv158 : mm_rg v158 0 9 := mm_eqv ev158 (rz3_0_147 _)
        refine va_iast hx hb hK.1 hP hD hS 0 1 rfl rfl (mm_in rv155 (by decide)) dX12_copyRow_24 ?_
        clear hP hD hS
        clear H locs
        obtain ⟨g159, eg159⟩ : ∃ z : Nat → Int32, z = upd z3_0_147 v155.toNatClampNeg v158 := ⟨_, rfl⟩
        rw [← eg159]
        intro H locs (hP : va_P G vwCl [(a_0, .inl (cy 1, 1050, .inl g159))] H) (hD : va_D A [(a_0, .inl (cy 1, 1050, .inl g159))]) hS
        have rg159 : mm_ar g159 0 9 := by rw [eg159]; exact mm_ar_upd (mm_ar_wk rz3_0_147 (by decide)) (mm_wk rv158 (by decide)) _
        obtain ⟨v160, ev160⟩ : ∃ y : Int32, y = x3_4_146 + 1 := ⟨_, rfl⟩
        refine lv_iinc (v := v160) (lv' := [(4, .int v160), (0, .ref a_0), (1, .int 210), (2, .int 0), (3, .int 1)]) hx hb dX12_copyRow_25 hl (k := 0) rfl (by rw [ev160]; rfl) (by decide) rfl ?_
        clear hl
        clear ls
        intro ls hl
        have rv160 : mm_rg v160 1 210 := mm_add ev160 q153 mm_k1 (by decide) (by decide)
        have tv160 := mm_addEc ev160 q153 mm_k1 (by decide) (k := 1) (by decide)
        refine lv_goto (tgt := 3) hx hb dX12_copyRow_28 (by decide) ?_
        exact ih3 v160 g159 (mm_wk rv160 (by decide)) rg159 (mm_crk_s w148 tv160 q153 eg159 ev158 (by have := tv155; omega) (by have := tv157; omega) (by decide)) (mm_mu hm3 tv160 (by decide) (rv160).2 (by decide)) H locs hP hD hS ls (lv_sub hl [0, 1, 2, 3, 4] rfl)
  exact L3_148 _ 0 f_0 (mm_wk mm_k0 (by decide)) h0 (mm_crk_0 _ _ _ _) (Nat.lt_succ_self _) H locs hP hD hS ls (lv_sub hl [0, 1, 2, 3, 4] rfl)

set_option maxHeartbeats 4000000 in
set_option maxRecDepth 100000 in
theorem M328_X12_copyRow (l : Launch) (G : va_G) (cy : Nat → ClassId) (sz : Nat) (a_0 : Nat) (f_0 : Nat → Int32) (h0 : mm_ar f_0 0 8)  : mm_CV l yX12_copyRow (mm_ws yX12_copyRow cX12_copyRow 5 (none)) ({ frames := 0, cells := 0, slots := 0, locals := 0 } : Room) G cy sz [(a_0, .inl (cy 1, 30, .inl f_0))] [.ref a_0, .int 6, .int 0, .int 1] (fun u : (Nat → Int32) => [(a_0, .inl (cy 1, 30, .inl u))]) (fun u : (Nat → Int32) => mm_ar u 0 8 ∧ mm_crw f_0 u 6 0 1) 0 0 := by
  refine mm_begin (lv := [(0, .ref a_0), (1, .int 6), (2, .int 0), (3, .int 1)]) (by decide) (Nat.le_of_ble_eq_true rfl) rfl ?_
  intro p e s m below meth c A ls R args Q H locs hRe hQ hAe hx hb hr hlocks hml hown hnm hts hsz hA hS hP hK hD hZ hl
  have hRf : R.frames = 0 := by rw [hRe]
  have hRl : R.locals = 0 := by rw [hRe]
  have hRc : R.cells = 0 := by rw [hRe]
  have hRs : R.slots = 0 := by rw [hRe]
  refine lv_iconst (v := 0) hx hb dX12_copyRow_0 (by decide) ?_
  refine lv_istore (lv' := [(4, .int 0), (0, .ref a_0), (1, .int 6), (2, .int 0), (3, .int 1)]) hx hb dX12_copyRow_1 hl (by decide) rfl ?_
  clear hl
  clear ls
  intro ls hl
  have L3_75 : ∀ (n : Nat) (x3_4_73 : Int32) (z3_0_74 : Nat → Int32), mm_rg x3_4_73 0 6 → mm_ar z3_0_74 0 8 → mm_crk f_0 z3_0_74 6 0 1 x3_4_73 → (6 - x3_4_73.toInt).toNat < n → ∀ (H : Heap) (locs : List Loc), va_P G vwCl [(a_0, .inl (cy 1, 30, .inl z3_0_74))] H → va_D A [(a_0, .inl (cy 1, 30, .inl z3_0_74))] → va_S A s.heap H locs → ∀ (ls : Array Slot), lv_has ls 5 [(4, .int x3_4_73), (0, .ref a_0), (1, .int 6), (2, .int 0), (3, .int 1)] → W p l e R s m args below meth c H locs 0 0 Q (F0 m 3 ls []) := by
    intro n
    induction n with
    | zero => intro x3_4_73 z3_0_74 rx3_4_73 rz3_0_74 w75 hm; exact absurd hm (Nat.not_lt_zero _)
    | succ n ih3 =>
      intro x3_4_73 z3_0_74 rx3_4_73 rz3_0_74 w75 hm3 H locs hP hD hS ls hl
      refine lv_iload hx hb dX12_copyRow_3 (lv_at hl 0 rfl) ?_
      refine lv_iload_n hx hb dX12_copyRow_5 rfl (lv_at hl 2 rfl) ?_
      refine lv_icmp_ge (tgt := 31) hx hb dX12_copyRow_6 (by decide) (fun c77 => ?_) (fun c77 => ?_)
      · have q78 := mm_leR (mm_le c77) mm_k6 rx3_4_73
        have w79 : mm_crw f_0 z3_0_74 6 0 1 := (mm_crw_of w75 q78 (by decide))
        subst hAe
        rw [hQ]
        exact W.vret hx hb hr (fun t ht hW => ⟨⟨z3_0_74, rfl, ⟨rz3_0_74, w79⟩, by rw [ht]; exact hP, hK.warm hW, hD⟩, hS.F ht⟩) hS.2.2 dX12_copyRow_31
      · have q80 := mm_ltL (h := 5) (mm_nle c77) rx3_4_73 mm_k6 (by decide)
        refine lv_aload_n hx hb dX12_copyRow_9 rfl (lv_at hl 1 rfl) ?_
        refine lv_iload_n hx hb dX12_copyRow_10 rfl (lv_at hl 2 rfl) ?_
        refine lv_iload_n hx hb dX12_copyRow_11 rfl (lv_at hl 4 rfl) ?_
        refine lv_imul hx hb dX12_copyRow_12 ?_
        refine lv_topi (fun v81 ev81 => ?_)
        obtain rfl : v81 = 6 := ev81.trans (by decide)
        refine lv_iload hx hb dX12_copyRow_13 (lv_at hl 0 rfl) ?_
        refine lv_iadd hx hb dX12_copyRow_15 ?_
        refine lv_topi (fun v82 ev82 => ?_)
        have rv82 : mm_rg v82 6 11 := mm_add ev82 mm_k6 q80 (by decide) (by decide)
        have tv82 := mm_addEd ev82 mm_k6 q80 (by decide) (k := 6) (by decide)
        refine lv_aload_n hx hb dX12_copyRow_16 rfl (lv_at hl 1 rfl) ?_
        refine lv_iload_n hx hb dX12_copyRow_17 rfl (lv_at hl 2 rfl) ?_
        refine lv_iload_n hx hb dX12_copyRow_18 rfl (lv_at hl 3 rfl) ?_
        refine lv_imul hx hb dX12_copyRow_19 ?_
        refine lv_topi (fun v83 ev83 => ?_)
        obtain rfl : v83 = 0 := ev83.trans (by decide)
        refine lv_iload hx hb dX12_copyRow_20 (lv_at hl 0 rfl) ?_
        refine lv_iadd hx hb dX12_copyRow_22 ?_
        refine lv_topi (fun v84 ev84 => ?_)
        have rv84 : mm_rg v84 0 5 := mm_add ev84 mm_k0 q80 (by decide) (by decide)
        have tv84 := mm_addEd ev84 mm_k0 q80 (by decide) (k := 0) (by decide)
        refine va_iald hx hb hK.1 hP 0 1 rfl rfl (mm_in rv84 (by decide)) dX12_copyRow_23 ?_
        refine lv_topi (fun v85 ev85 => ?_)
        have rv85 : mm_rg v85 0 8 := mm_eqv ev85 (rz3_0_74 _)
        refine va_iast hx hb hK.1 hP hD hS 0 1 rfl rfl (mm_in rv82 (by decide)) dX12_copyRow_24 ?_
        clear hP hD hS
        clear H locs
        obtain ⟨g86, eg86⟩ : ∃ z : Nat → Int32, z = upd z3_0_74 v82.toNatClampNeg v85 := ⟨_, rfl⟩
        rw [← eg86]
        intro H locs (hP : va_P G vwCl [(a_0, .inl (cy 1, 30, .inl g86))] H) (hD : va_D A [(a_0, .inl (cy 1, 30, .inl g86))]) hS
        have rg86 : mm_ar g86 0 8 := by rw [eg86]; exact mm_ar_upd (mm_ar_wk rz3_0_74 (by decide)) (mm_wk rv85 (by decide)) _
        obtain ⟨v87, ev87⟩ : ∃ y : Int32, y = x3_4_73 + 1 := ⟨_, rfl⟩
        refine lv_iinc (v := v87) (lv' := [(4, .int v87), (0, .ref a_0), (1, .int 6), (2, .int 0), (3, .int 1)]) hx hb dX12_copyRow_25 hl (k := 0) rfl (by rw [ev87]; rfl) (by decide) rfl ?_
        clear hl
        clear ls
        intro ls hl
        have rv87 : mm_rg v87 1 6 := mm_add ev87 q80 mm_k1 (by decide) (by decide)
        have tv87 := mm_addEc ev87 q80 mm_k1 (by decide) (k := 1) (by decide)
        refine lv_goto (tgt := 3) hx hb dX12_copyRow_28 (by decide) ?_
        exact ih3 v87 g86 (mm_wk rv87 (by decide)) rg86 (mm_crk_s w75 tv87 q80 eg86 ev85 (by have := tv82; omega) (by have := tv84; omega) (by decide)) (mm_mu hm3 tv87 (by decide) (rv87).2 (by decide)) H locs hP hD hS ls (lv_sub hl [0, 1, 2, 3, 4] rfl)
  exact L3_75 _ 0 f_0 (mm_wk mm_k0 (by decide)) h0 (mm_crk_0 _ _ _ _) (Nat.lt_succ_self _) H locs hP hD hS ls (lv_sub hl [0, 1, 2, 3, 4] rfl)

set_option maxHeartbeats 4000000 in
set_option maxRecDepth 100000 in
theorem M329_X12_copyRow (l : Launch) (G : va_G) (cy : Nat → ClassId) (sz : Nat) (a_0 : Nat) (f_0 : Nat → Int32) (h0 : mm_ar f_0 0 9)  : mm_CV l yX12_copyRow (mm_ws yX12_copyRow cX12_copyRow 5 (none)) ({ frames := 0, cells := 0, slots := 0, locals := 0 } : Room) G cy sz [(a_0, .inl (cy 1, 240, .inl f_0))] [.ref a_0, .int 48, .int 0, .int 1] (fun u : (Nat → Int32) => [(a_0, .inl (cy 1, 240, .inl u))]) (fun u : (Nat → Int32) => mm_ar u 0 9 ∧ mm_crw f_0 u 48 0 1) 0 0 := by
  refine mm_begin (lv := [(0, .ref a_0), (1, .int 48), (2, .int 0), (3, .int 1)]) (by decide) (Nat.le_of_ble_eq_true rfl) rfl ?_
  intro p e s m below meth c A ls R args Q H locs hRe hQ hAe hx hb hr hlocks hml hown hnm hts hsz hA hS hP hK hD hZ hl
  have hRf : R.frames = 0 := by rw [hRe]
  have hRl : R.locals = 0 := by rw [hRe]
  have hRc : R.cells = 0 := by rw [hRe]
  have hRs : R.slots = 0 := by rw [hRe]
  refine lv_iconst (v := 0) hx hb dX12_copyRow_0 (by decide) ?_
  refine lv_istore (lv' := [(4, .int 0), (0, .ref a_0), (1, .int 48), (2, .int 0), (3, .int 1)]) hx hb dX12_copyRow_1 hl (by decide) rfl ?_
  clear hl
  clear ls
  intro ls hl
  have L3_130 : ∀ (n : Nat) (x3_4_128 : Int32) (z3_0_129 : Nat → Int32), mm_rg x3_4_128 0 48 → mm_ar z3_0_129 0 9 → mm_crk f_0 z3_0_129 48 0 1 x3_4_128 → (48 - x3_4_128.toInt).toNat < n → ∀ (H : Heap) (locs : List Loc), va_P G vwCl [(a_0, .inl (cy 1, 240, .inl z3_0_129))] H → va_D A [(a_0, .inl (cy 1, 240, .inl z3_0_129))] → va_S A s.heap H locs → ∀ (ls : Array Slot), lv_has ls 5 [(4, .int x3_4_128), (0, .ref a_0), (1, .int 48), (2, .int 0), (3, .int 1)] → W p l e R s m args below meth c H locs 0 0 Q (F0 m 3 ls []) := by
    intro n
    induction n with
    | zero => intro x3_4_128 z3_0_129 rx3_4_128 rz3_0_129 w130 hm; exact absurd hm (Nat.not_lt_zero _)
    | succ n ih3 =>
      intro x3_4_128 z3_0_129 rx3_4_128 rz3_0_129 w130 hm3 H locs hP hD hS ls hl
      refine lv_iload hx hb dX12_copyRow_3 (lv_at hl 0 rfl) ?_
      refine lv_iload_n hx hb dX12_copyRow_5 rfl (lv_at hl 2 rfl) ?_
      refine lv_icmp_ge (tgt := 31) hx hb dX12_copyRow_6 (by decide) (fun c132 => ?_) (fun c132 => ?_)
      · have q133 := mm_leR (mm_le c132) mm_k48 rx3_4_128
        have w134 : mm_crw f_0 z3_0_129 48 0 1 := (mm_crw_of w130 q133 (by decide))
        subst hAe
        rw [hQ]
        exact W.vret hx hb hr (fun t ht hW => ⟨⟨z3_0_129, rfl, ⟨rz3_0_129, w134⟩, by rw [ht]; exact hP, hK.warm hW, hD⟩, hS.F ht⟩) hS.2.2 dX12_copyRow_31
      · have q135 := mm_ltL (h := 47) (mm_nle c132) rx3_4_128 mm_k48 (by decide)
        refine lv_aload_n hx hb dX12_copyRow_9 rfl (lv_at hl 1 rfl) ?_
        refine lv_iload_n hx hb dX12_copyRow_10 rfl (lv_at hl 2 rfl) ?_
        refine lv_iload_n hx hb dX12_copyRow_11 rfl (lv_at hl 4 rfl) ?_
        refine lv_imul hx hb dX12_copyRow_12 ?_
        refine lv_topi (fun v136 ev136 => ?_)
        obtain rfl : v136 = 48 := ev136.trans (by decide)
        refine lv_iload hx hb dX12_copyRow_13 (lv_at hl 0 rfl) ?_
        refine lv_iadd hx hb dX12_copyRow_15 ?_
        refine lv_topi (fun v137 ev137 => ?_)
        have rv137 : mm_rg v137 48 95 := mm_add ev137 mm_k48 q135 (by decide) (by decide)
        have tv137 := mm_addEd ev137 mm_k48 q135 (by decide) (k := 48) (by decide)
        refine lv_aload_n hx hb dX12_copyRow_16 rfl (lv_at hl 1 rfl) ?_
        refine lv_iload_n hx hb dX12_copyRow_17 rfl (lv_at hl 2 rfl) ?_
        refine lv_iload_n hx hb dX12_copyRow_18 rfl (lv_at hl 3 rfl) ?_
        refine lv_imul hx hb dX12_copyRow_19 ?_
        refine lv_topi (fun v138 ev138 => ?_)
        obtain rfl : v138 = 0 := ev138.trans (by decide)
        refine lv_iload hx hb dX12_copyRow_20 (lv_at hl 0 rfl) ?_
        refine lv_iadd hx hb dX12_copyRow_22 ?_
        refine lv_topi (fun v139 ev139 => ?_)
        have rv139 : mm_rg v139 0 47 := mm_add ev139 mm_k0 q135 (by decide) (by decide)
        have tv139 := mm_addEd ev139 mm_k0 q135 (by decide) (k := 0) (by decide)
        refine va_iald hx hb hK.1 hP 0 1 rfl rfl (mm_in rv139 (by decide)) dX12_copyRow_23 ?_
        refine lv_topi (fun v140 ev140 => ?_)
        have rv140 : mm_rg v140 0 9 := mm_eqv ev140 (rz3_0_129 _)
        refine va_iast hx hb hK.1 hP hD hS 0 1 rfl rfl (mm_in rv137 (by decide)) dX12_copyRow_24 ?_
        clear hP hD hS
        clear H locs
        obtain ⟨g141, eg141⟩ : ∃ z : Nat → Int32, z = upd z3_0_129 v137.toNatClampNeg v140 := ⟨_, rfl⟩
        rw [← eg141]
        intro H locs (hP : va_P G vwCl [(a_0, .inl (cy 1, 240, .inl g141))] H) (hD : va_D A [(a_0, .inl (cy 1, 240, .inl g141))]) hS
        have rg141 : mm_ar g141 0 9 := by rw [eg141]; exact mm_ar_upd (mm_ar_wk rz3_0_129 (by decide)) (mm_wk rv140 (by decide)) _
        obtain ⟨v142, ev142⟩ : ∃ y : Int32, y = x3_4_128 + 1 := ⟨_, rfl⟩
        refine lv_iinc (v := v142) (lv' := [(4, .int v142), (0, .ref a_0), (1, .int 48), (2, .int 0), (3, .int 1)]) hx hb dX12_copyRow_25 hl (k := 0) rfl (by rw [ev142]; rfl) (by decide) rfl ?_
        clear hl
        clear ls
        intro ls hl
        have rv142 : mm_rg v142 1 48 := mm_add ev142 q135 mm_k1 (by decide) (by decide)
        have tv142 := mm_addEc ev142 q135 mm_k1 (by decide) (k := 1) (by decide)
        refine lv_goto (tgt := 3) hx hb dX12_copyRow_28 (by decide) ?_
        exact ih3 v142 g141 (mm_wk rv142 (by decide)) rg141 (mm_crk_s w130 tv142 q135 eg141 ev140 (by have := tv137; omega) (by have := tv139; omega) (by decide)) (mm_mu hm3 tv142 (by decide) (rv142).2 (by decide)) H locs hP hD hS ls (lv_sub hl [0, 1, 2, 3, 4] rfl)
  exact L3_130 _ 0 f_0 (mm_wk mm_k0 (by decide)) h0 (mm_crk_0 _ _ _ _) (Nat.lt_succ_self _) H locs hP hD hS ls (lv_sub hl [0, 1, 2, 3, 4] rfl)

set_option maxHeartbeats 4000000 in
set_option maxRecDepth 100000 in
theorem M330_X12_copyRow (l : Launch) (G : va_G) (cy : Nat → ClassId) (sz : Nat) (a_0 : Nat) (f_0 : Nat → Int32) (h0 : mm_ar f_0 (-1) 99)  : mm_CV l yX12_copyRow (mm_ws yX12_copyRow cX12_copyRow 5 (none)) ({ frames := 0, cells := 0, slots := 0, locals := 0 } : Room) G cy sz [(a_0, .inl (cy 1, 450, .inl f_0))] [.ref a_0, .int 90, .int 0, .int 1] (fun u : (Nat → Int32) => [(a_0, .inl (cy 1, 450, .inl u))]) (fun u : (Nat → Int32) => mm_ar u (-1) 99 ∧ mm_crw f_0 u 90 0 1) 0 0 := by
  refine mm_begin (lv := [(0, .ref a_0), (1, .int 90), (2, .int 0), (3, .int 1)]) (by decide) (Nat.le_of_ble_eq_true rfl) rfl ?_
  intro p e s m below meth c A ls R args Q H locs hRe hQ hAe hx hb hr hlocks hml hown hnm hts hsz hA hS hP hK hD hZ hl
  have hRf : R.frames = 0 := by rw [hRe]
  have hRl : R.locals = 0 := by rw [hRe]
  have hRc : R.cells = 0 := by rw [hRe]
  have hRs : R.slots = 0 := by rw [hRe]
  refine lv_iconst (v := 0) hx hb dX12_copyRow_0 (by decide) ?_
  refine lv_istore (lv' := [(4, .int 0), (0, .ref a_0), (1, .int 90), (2, .int 0), (3, .int 1)]) hx hb dX12_copyRow_1 hl (by decide) rfl ?_
  clear hl
  clear ls
  intro ls hl
  have L3_139 : ∀ (n : Nat) (x3_4_137 : Int32) (z3_0_138 : Nat → Int32), mm_rg x3_4_137 0 90 → mm_ar z3_0_138 (-1) 99 → mm_crk f_0 z3_0_138 90 0 1 x3_4_137 → (90 - x3_4_137.toInt).toNat < n → ∀ (H : Heap) (locs : List Loc), va_P G vwCl [(a_0, .inl (cy 1, 450, .inl z3_0_138))] H → va_D A [(a_0, .inl (cy 1, 450, .inl z3_0_138))] → va_S A s.heap H locs → ∀ (ls : Array Slot), lv_has ls 5 [(4, .int x3_4_137), (0, .ref a_0), (1, .int 90), (2, .int 0), (3, .int 1)] → W p l e R s m args below meth c H locs 0 0 Q (F0 m 3 ls []) := by
    intro n
    induction n with
    | zero => intro x3_4_137 z3_0_138 rx3_4_137 rz3_0_138 w139 hm; exact absurd hm (Nat.not_lt_zero _)
    | succ n ih3 =>
      intro x3_4_137 z3_0_138 rx3_4_137 rz3_0_138 w139 hm3 H locs hP hD hS ls hl
      refine lv_iload hx hb dX12_copyRow_3 (lv_at hl 0 rfl) ?_
      refine lv_iload_n hx hb dX12_copyRow_5 rfl (lv_at hl 2 rfl) ?_
      refine lv_icmp_ge (tgt := 31) hx hb dX12_copyRow_6 (by decide) (fun c141 => ?_) (fun c141 => ?_)
      · have q142 := mm_leR (mm_le c141) mm_k90 rx3_4_137
        have w143 : mm_crw f_0 z3_0_138 90 0 1 := (mm_crw_of w139 q142 (by decide))
        subst hAe
        rw [hQ]
        exact W.vret hx hb hr (fun t ht hW => ⟨⟨z3_0_138, rfl, ⟨rz3_0_138, w143⟩, by rw [ht]; exact hP, hK.warm hW, hD⟩, hS.F ht⟩) hS.2.2 dX12_copyRow_31
      · have q144 := mm_ltL (h := 89) (mm_nle c141) rx3_4_137 mm_k90 (by decide)
        refine lv_aload_n hx hb dX12_copyRow_9 rfl (lv_at hl 1 rfl) ?_
        refine lv_iload_n hx hb dX12_copyRow_10 rfl (lv_at hl 2 rfl) ?_
        refine lv_iload_n hx hb dX12_copyRow_11 rfl (lv_at hl 4 rfl) ?_
        refine lv_imul hx hb dX12_copyRow_12 ?_
        refine lv_topi (fun v145 ev145 => ?_)
        obtain rfl : v145 = 90 := ev145.trans (by decide)
        refine lv_iload hx hb dX12_copyRow_13 (lv_at hl 0 rfl) ?_
        refine lv_iadd hx hb dX12_copyRow_15 ?_
        refine lv_topi (fun v146 ev146 => ?_)
        have rv146 : mm_rg v146 90 179 := mm_add ev146 mm_k90 q144 (by decide) (by decide)
        have tv146 := mm_addEd ev146 mm_k90 q144 (by decide) (k := 90) (by decide)
        refine lv_aload_n hx hb dX12_copyRow_16 rfl (lv_at hl 1 rfl) ?_
        refine lv_iload_n hx hb dX12_copyRow_17 rfl (lv_at hl 2 rfl) ?_
        refine lv_iload_n hx hb dX12_copyRow_18 rfl (lv_at hl 3 rfl) ?_
        refine lv_imul hx hb dX12_copyRow_19 ?_
        refine lv_topi (fun v147 ev147 => ?_)
        obtain rfl : v147 = 0 := ev147.trans (by decide)
        refine lv_iload hx hb dX12_copyRow_20 (lv_at hl 0 rfl) ?_
        refine lv_iadd hx hb dX12_copyRow_22 ?_
        refine lv_topi (fun v148 ev148 => ?_)
        have rv148 : mm_rg v148 0 89 := mm_add ev148 mm_k0 q144 (by decide) (by decide)
        have tv148 := mm_addEd ev148 mm_k0 q144 (by decide) (k := 0) (by decide)
        refine va_iald hx hb hK.1 hP 0 1 rfl rfl (mm_in rv148 (by decide)) dX12_copyRow_23 ?_
        refine lv_topi (fun v149 ev149 => ?_)
        have rv149 : mm_rg v149 (-1) 99 := mm_eqv ev149 (rz3_0_138 _)
        refine va_iast hx hb hK.1 hP hD hS 0 1 rfl rfl (mm_in rv146 (by decide)) dX12_copyRow_24 ?_
        clear hP hD hS
        clear H locs
        obtain ⟨g150, eg150⟩ : ∃ z : Nat → Int32, z = upd z3_0_138 v146.toNatClampNeg v149 := ⟨_, rfl⟩
        rw [← eg150]
        intro H locs (hP : va_P G vwCl [(a_0, .inl (cy 1, 450, .inl g150))] H) (hD : va_D A [(a_0, .inl (cy 1, 450, .inl g150))]) hS
        have rg150 : mm_ar g150 (-1) 99 := by rw [eg150]; exact mm_ar_upd (mm_ar_wk rz3_0_138 (by decide)) (mm_wk rv149 (by decide)) _
        obtain ⟨v151, ev151⟩ : ∃ y : Int32, y = x3_4_137 + 1 := ⟨_, rfl⟩
        refine lv_iinc (v := v151) (lv' := [(4, .int v151), (0, .ref a_0), (1, .int 90), (2, .int 0), (3, .int 1)]) hx hb dX12_copyRow_25 hl (k := 0) rfl (by rw [ev151]; rfl) (by decide) rfl ?_
        clear hl
        clear ls
        intro ls hl
        have rv151 : mm_rg v151 1 90 := mm_add ev151 q144 mm_k1 (by decide) (by decide)
        have tv151 := mm_addEc ev151 q144 mm_k1 (by decide) (k := 1) (by decide)
        refine lv_goto (tgt := 3) hx hb dX12_copyRow_28 (by decide) ?_
        exact ih3 v151 g150 (mm_wk rv151 (by decide)) rg150 (mm_crk_s w139 tv151 q144 eg150 ev149 (by have := tv146; omega) (by have := tv148; omega) (by decide)) (mm_mu hm3 tv151 (by decide) (rv151).2 (by decide)) H locs hP hD hS ls (lv_sub hl [0, 1, 2, 3, 4] rfl)
  exact L3_139 _ 0 f_0 (mm_wk mm_k0 (by decide)) h0 (mm_crk_0 _ _ _ _) (Nat.lt_succ_self _) H locs hP hD hS ls (lv_sub hl [0, 1, 2, 3, 4] rfl)

set_option maxHeartbeats 4000000 in
set_option maxRecDepth 100000 in
theorem M331_X12_copyBook (l : Launch) (G : va_G) (cy : Nat → ClassId) (sz : Nat) (a_0 : Nat) (i_0 : Int32) (a_1 : Nat) (a_2 : Nat) (a_3 : Nat) (a_4 : Nat) (a_5 : Nat) (i_1 : Int32) (i_2 : Int32) (i_3 : Int32) (i_4 : Int32) (i_5 : Int32) (j_0 : Int64) (i_6 : Int32) (i_7 : Int32) (i_8 : Int32) (i_9 : Int32) (a_6 : Nat) (a_7 : Nat) (a_8 : Nat) (a_9 : Nat) (a_10 : Nat) (a_11 : Nat) (a_12 : Nat) (a_13 : Nat) (a_14 : Nat) (a_15 : Nat) (a_16 : Nat) (a_17 : Nat) (a_18 : Nat) (i_10 : Int32) (i_11 : Int32) (i_12 : Int32) (i_13 : Int32) (i_14 : Int32) (i_15 : Int32) (a_19 : Nat) (i_16 : Int32) (a_20 : Nat) (i_17 : Int32) (i_18 : Int32) (i_19 : Int32) (i_20 : Int32) (i_21 : Int32) (i_22 : Int32) (i_23 : Int32) (i_24 : Int32) (i_25 : Int32) (i_26 : Int32) (i_27 : Int32) (i_28 : Int32) (i_29 : Int32) (i_30 : Int32) (i_31 : Int32) (i_32 : Int32) (i_33 : Int32) (i_34 : Int32) (i_35 : Int32) (i_36 : Int32) (i_37 : Int32) (i_38 : Int32) (i_39 : Int32) (i_40 : Int32) (i_41 : Int32) (i_42 : Int32) (i_43 : Int32) (i_44 : Int32) (i_45 : Int32) (i_46 : Int32) (i_47 : Int32) (i_48 : Int32) (i_49 : Int32) (i_50 : Int32) (i_51 : Int32) (f_0 : Nat → Int32) (f_1 : Nat → Int32) (f_2 : Nat → Int32) (f_3 : Nat → Int32) (f_4 : Nat → Int32) (f_5 : Nat → Int32) (h0 : mm_rg i_17 0 601) (h1 : mm_rg i_18 0 601) (h2 : mm_rg i_19 0 601) (h3 : mm_rg i_20 0 601) (h4 : mm_rg i_21 0 601) (h5 : mm_rg i_22 0 10) (h6 : mm_rg i_23 0 99) (h7 : mm_rg i_24 0 9) (h8 : mm_rg i_25 0 3) (h9 : mm_rg i_26 0 6) (h10 : mm_rg i_27 0 30) (h11 : mm_rg i_28 0 10) (h12 : mm_rg i_29 0 99) (h13 : mm_rg i_30 0 9) (h14 : mm_rg i_31 0 3) (h15 : mm_rg i_32 0 6) (h16 : mm_rg i_33 0 30) (h17 : mm_rg i_34 0 10) (h18 : mm_rg i_35 0 99) (h19 : mm_rg i_36 0 9) (h20 : mm_rg i_37 0 3) (h21 : mm_rg i_38 0 6) (h22 : mm_rg i_39 0 30) (h23 : mm_rg i_40 0 10) (h24 : mm_rg i_41 0 99) (h25 : mm_rg i_42 0 9) (h26 : mm_rg i_43 0 3) (h27 : mm_rg i_44 0 6) (h28 : mm_rg i_45 0 30) (h29 : mm_rg i_46 0 10) (h30 : mm_rg i_47 0 99) (h31 : mm_rg i_48 0 9) (h32 : mm_rg i_49 0 3) (h33 : mm_rg i_50 0 6) (h34 : mm_rg i_51 0 30) (h35 : mm_ar f_0 0 99) (h36 : mm_ar f_1 0 7) (h37 : mm_ar f_2 0 9) (h38 : mm_ar f_3 0 8) (h39 : mm_ar f_4 0 9) (h40 : mm_ar f_5 (-1) 99) (h41 : mm_rls f_1 f_2 0 i_24 i_25) (h42 : mm_txs f_3 f_4 0 i_24 i_26) (h43 : mm_acs f_5 0 i_24 i_25 i_27) (h44 : mm_tl i_17 i_25 i_26) (h45 : mm_rls f_1 f_2 1 i_30 i_31) (h46 : mm_txs f_3 f_4 1 i_30 i_32) (h47 : mm_acs f_5 1 i_30 i_31 i_33) (h48 : mm_tl i_18 i_31 i_32) (h49 : mm_rls f_1 f_2 2 i_36 i_37) (h50 : mm_txs f_3 f_4 2 i_36 i_38) (h51 : mm_acs f_5 2 i_36 i_37 i_39) (h52 : mm_tl i_19 i_37 i_38) (h53 : mm_rls f_1 f_2 3 i_42 i_43) (h54 : mm_txs f_3 f_4 3 i_42 i_44) (h55 : mm_acs f_5 3 i_42 i_43 i_45) (h56 : mm_tl i_20 i_43 i_44)  : mm_CV l yX12_copyBook (mm_ws yX12_copyBook cX12_copyBook 3 (none)) ({ frames := 1, cells := 0, slots := 0, locals := 24 } : Room) G cy sz [(a_0, .inr (12, [.int i_0, .ref a_1, .ref a_2, .ref a_3, .ref a_4, .ref a_5, .int i_1, .int i_2, .int i_3, .int i_4, .int i_5, .long j_0, .int i_6, .int i_7, .int i_8, .int i_9, .ref a_6, .ref a_7, .ref a_8, .ref a_9, .ref a_10, .ref a_11, .ref a_12, .ref a_13, .ref a_14, .ref a_15, .ref a_16, .ref a_17, .ref a_18, .int i_10, .int i_11, .int i_12, .int i_13, .int i_14, .int i_15, .ref a_19, .int i_16, .ref a_20])), (a_6, .inl (cy 1, 5, .inl (mm_g [i_17, i_18, i_19, i_20, i_21]))), (a_7, .inl (cy 1, 30, .inl (mm_g [i_22, i_23, i_24, i_25, i_26, i_27, i_28, i_29, i_30, i_31, i_32, i_33, i_34, i_35, i_36, i_37, i_38, i_39, i_40, i_41, i_42, i_43, i_44, i_45, i_46, i_47, i_48, i_49, i_50, i_51]))), (a_8, .inl (cy 1, 90, .inl f_0)), (a_9, .inl (cy 1, 15, .inl f_1)), (a_10, .inl (cy 1, 1050, .inl f_2)), (a_11, .inl (cy 1, 30, .inl f_3)), (a_12, .inl (cy 1, 240, .inl f_4)), (a_13, .inl (cy 1, 450, .inl f_5))] [.ref a_0, .int 0, .int 1] (fun u : (Nat → Int32) × (Nat → Int32) × (Nat → Int32) × (Nat → Int32) × (Nat → Int32) × (Nat → Int32) => [(a_0, .inr (12, [.int i_0, .ref a_1, .ref a_2, .ref a_3, .ref a_4, .ref a_5, .int i_1, .int i_2, .int i_3, .int i_4, .int i_5, .long j_0, .int i_6, .int i_7, .int i_8, .int i_9, .ref a_6, .ref a_7, .ref a_8, .ref a_9, .ref a_10, .ref a_11, .ref a_12, .ref a_13, .ref a_14, .ref a_15, .ref a_16, .ref a_17, .ref a_18, .int i_10, .int i_11, .int i_12, .int i_13, .int i_14, .int i_15, .ref a_19, .int i_16, .ref a_20])), (a_6, .inl (cy 1, 5, .inl (mm_g [i_17, i_17, i_19, i_20, i_21]))), (a_7, .inl (cy 1, 30, .inl (mm_g [i_22, i_23, i_24, i_25, i_26, i_27, i_22, i_23, i_24, i_25, i_26, i_27, i_34, i_35, i_36, i_37, i_38, i_39, i_40, i_41, i_42, i_43, i_44, i_45, i_46, i_47, i_48, i_49, i_50, i_51]))), (a_8, .inl (cy 1, 90, .inl u.1)), (a_9, .inl (cy 1, 15, .inl u.2.1)), (a_10, .inl (cy 1, 1050, .inl u.2.2.1)), (a_11, .inl (cy 1, 30, .inl u.2.2.2.1)), (a_12, .inl (cy 1, 240, .inl u.2.2.2.2.1)), (a_13, .inl (cy 1, 450, .inl u.2.2.2.2.2))]) (fun u : (Nat → Int32) × (Nat → Int32) × (Nat → Int32) × (Nat → Int32) × (Nat → Int32) × (Nat → Int32) => mm_ar u.1 0 99 ∧ mm_ar u.2.1 0 7 ∧ mm_ar u.2.2.1 0 9 ∧ mm_ar u.2.2.2.1 0 8 ∧ mm_ar u.2.2.2.2.1 0 9 ∧ mm_ar u.2.2.2.2.2 (-1) 99 ∧ mm_rls u.2.1 u.2.2.1 0 i_24 i_25 ∧ mm_txs u.2.2.2.1 u.2.2.2.2.1 0 i_24 i_26 ∧ mm_acs u.2.2.2.2.2 0 i_24 i_25 i_27 ∧ mm_rls u.2.1 u.2.2.1 1 i_24 i_25 ∧ mm_txs u.2.2.2.1 u.2.2.2.2.1 1 i_24 i_26 ∧ mm_acs u.2.2.2.2.2 1 i_24 i_25 i_27 ∧ mm_rls u.2.1 u.2.2.1 2 i_36 i_37 ∧ mm_txs u.2.2.2.1 u.2.2.2.2.1 2 i_36 i_38 ∧ mm_acs u.2.2.2.2.2 2 i_36 i_37 i_39 ∧ mm_rls u.2.1 u.2.2.1 3 i_42 i_43 ∧ mm_txs u.2.2.2.1 u.2.2.2.2.1 3 i_42 i_44 ∧ mm_acs u.2.2.2.2.2 3 i_42 i_43 i_45) 0 0 := by
  refine mm_begin (lv := [(0, .ref a_0), (1, .int 0), (2, .int 1)]) (by decide) (Nat.le_of_ble_eq_true rfl) rfl ?_
  intro p e s m below meth c A ls R args Q H locs hRe hQ hAe hx hb hr hlocks hml hown hnm hts hsz hA hS hP hK hD hZ hl
  have hRf : R.frames = 1 := by rw [hRe]
  have hRl : R.locals = 24 := by rw [hRe]
  have hRc : R.cells = 0 := by rw [hRe]
  have hRs : R.slots = 0 := by rw [hRe]
  refine lv_aload_n hx hb dX12_copyBook_0 rfl (lv_at hl 0 rfl) ?_
  refine va_get (D := G) (ci := 12) (v := .ref a_6) (C := RX12) (T := TX12) (N := 38) hx hb hts (mm_i inlX12) hown hK.1 hP 0 rfl rfl 16 (by decide) (mm_h hts mm_w148) (fun _ h9 => h9) rfl dX12_copyBook_1 ?_
  refine lv_iconst (v := 1) hx hb dX12_copyBook_4 (by decide) ?_
  refine lv_iload_n hx hb dX12_copyBook_5 rfl (lv_at hl 1 rfl) ?_
  refine lv_iload_n hx hb dX12_copyBook_6 rfl (lv_at hl 2 rfl) ?_
  refine mm_finv (va_runS (As := [.ref a_6, .int 1, .int 0, .int 1]) (rest := []) ⟨hx, hb, hml, hown, hts⟩ (M323_X12_copyRow l G cy H.size a_6 i_17 i_18 i_19 i_20 i_21 h0 h1 h2 h3 h4) (va_cwS 4 hts (mm_gS mm_w557 mm_w558 mm_w5 mm_w559) rfl rfl rfl hs_X12_copyRow ⟨by rw [hRf]; exact Nat.le_of_ble_eq_true rfl, by rw [hRl]; exact Nat.le_of_ble_eq_true rfl⟩) (mm_preS hK hZ hS hA hP hD [1] rfl rfl) rfl rfl hl.1 rfl (lv_room (Nat.le_of_ble_eq_true rfl)) dX12_copyBook_7 ⟨by rw [hRc]; exact Nat.le_of_ble_eq_true rfl, by rw [hRs]; exact Nat.le_of_ble_eq_true rfl⟩) hP hD hS hA (fun u : Unit => [(a_0, .inr (12, [.int i_0, .ref a_1, .ref a_2, .ref a_3, .ref a_4, .ref a_5, .int i_1, .int i_2, .int i_3, .int i_4, .int i_5, .long j_0, .int i_6, .int i_7, .int i_8, .int i_9, .ref a_6, .ref a_7, .ref a_8, .ref a_9, .ref a_10, .ref a_11, .ref a_12, .ref a_13, .ref a_14, .ref a_15, .ref a_16, .ref a_17, .ref a_18, .int i_10, .int i_11, .int i_12, .int i_13, .int i_14, .int i_15, .ref a_19, .int i_16, .ref a_20])), (a_6, .inl (cy 1, 5, .inl (mm_g [i_17, i_17, i_19, i_20, i_21]))), (a_7, .inl (cy 1, 30, .inl (mm_g [i_22, i_23, i_24, i_25, i_26, i_27, i_28, i_29, i_30, i_31, i_32, i_33, i_34, i_35, i_36, i_37, i_38, i_39, i_40, i_41, i_42, i_43, i_44, i_45, i_46, i_47, i_48, i_49, i_50, i_51]))), (a_8, .inl (cy 1, 90, .inl f_0)), (a_9, .inl (cy 1, 15, .inl f_1)), (a_10, .inl (cy 1, 1050, .inl f_2)), (a_11, .inl (cy 1, 30, .inl f_3)), (a_12, .inl (cy 1, 240, .inl f_4)), (a_13, .inl (cy 1, 450, .inl f_5))]) [1] [0, 2, 3, 4, 5, 6, 7, 8] (n := 9) (fun _ => rfl) (by decide +kernel) (by decide +kernel) rfl (fun _ => rfl) (wr := [(a_0, .inr (12, [.int i_0, .ref a_1, .ref a_2, .ref a_3, .ref a_4, .ref a_5, .int i_1, .int i_2, .int i_3, .int i_4, .int i_5, .long j_0, .int i_6, .int i_7, .int i_8, .int i_9, .ref a_6, .ref a_7, .ref a_8, .ref a_9, .ref a_10, .ref a_11, .ref a_12, .ref a_13, .ref a_14, .ref a_15, .ref a_16, .ref a_17, .ref a_18, .int i_10, .int i_11, .int i_12, .int i_13, .int i_14, .int i_15, .ref a_19, .int i_16, .ref a_20])), (a_7, .inl (cy 1, 30, .inl (mm_g [i_22, i_23, i_24, i_25, i_26, i_27, i_28, i_29, i_30, i_31, i_32, i_33, i_34, i_35, i_36, i_37, i_38, i_39, i_40, i_41, i_42, i_43, i_44, i_45, i_46, i_47, i_48, i_49, i_50, i_51]))), (a_8, .inl (cy 1, 90, .inl f_0)), (a_9, .inl (cy 1, 15, .inl f_1)), (a_10, .inl (cy 1, 1050, .inl f_2)), (a_11, .inl (cy 1, 30, .inl f_3)), (a_12, .inl (cy 1, 240, .inl f_4)), (a_13, .inl (cy 1, 450, .inl f_5))]) rfl (fun _ => rfl) (fun _ => @rfl _ ([a_6] : List Nat)) ?_
  clear hP hD hS
  clear H locs
  intro _u H locs hw (hP : va_P G vwCl [(a_0, .inr (12, [.int i_0, .ref a_1, .ref a_2, .ref a_3, .ref a_4, .ref a_5, .int i_1, .int i_2, .int i_3, .int i_4, .int i_5, .long j_0, .int i_6, .int i_7, .int i_8, .int i_9, .ref a_6, .ref a_7, .ref a_8, .ref a_9, .ref a_10, .ref a_11, .ref a_12, .ref a_13, .ref a_14, .ref a_15, .ref a_16, .ref a_17, .ref a_18, .int i_10, .int i_11, .int i_12, .int i_13, .int i_14, .int i_15, .ref a_19, .int i_16, .ref a_20])), (a_6, .inl (cy 1, 5, .inl (mm_g [i_17, i_17, i_19, i_20, i_21]))), (a_7, .inl (cy 1, 30, .inl (mm_g [i_22, i_23, i_24, i_25, i_26, i_27, i_28, i_29, i_30, i_31, i_32, i_33, i_34, i_35, i_36, i_37, i_38, i_39, i_40, i_41, i_42, i_43, i_44, i_45, i_46, i_47, i_48, i_49, i_50, i_51]))), (a_8, .inl (cy 1, 90, .inl f_0)), (a_9, .inl (cy 1, 15, .inl f_1)), (a_10, .inl (cy 1, 1050, .inl f_2)), (a_11, .inl (cy 1, 30, .inl f_3)), (a_12, .inl (cy 1, 240, .inl f_4)), (a_13, .inl (cy 1, 450, .inl f_5))] H) (hD : va_D A [(a_0, .inr (12, [.int i_0, .ref a_1, .ref a_2, .ref a_3, .ref a_4, .ref a_5, .int i_1, .int i_2, .int i_3, .int i_4, .int i_5, .long j_0, .int i_6, .int i_7, .int i_8, .int i_9, .ref a_6, .ref a_7, .ref a_8, .ref a_9, .ref a_10, .ref a_11, .ref a_12, .ref a_13, .ref a_14, .ref a_15, .ref a_16, .ref a_17, .ref a_18, .int i_10, .int i_11, .int i_12, .int i_13, .int i_14, .int i_15, .ref a_19, .int i_16, .ref a_20])), (a_6, .inl (cy 1, 5, .inl (mm_g [i_17, i_17, i_19, i_20, i_21]))), (a_7, .inl (cy 1, 30, .inl (mm_g [i_22, i_23, i_24, i_25, i_26, i_27, i_28, i_29, i_30, i_31, i_32, i_33, i_34, i_35, i_36, i_37, i_38, i_39, i_40, i_41, i_42, i_43, i_44, i_45, i_46, i_47, i_48, i_49, i_50, i_51]))), (a_8, .inl (cy 1, 90, .inl f_0)), (a_9, .inl (cy 1, 15, .inl f_1)), (a_10, .inl (cy 1, 1050, .inl f_2)), (a_11, .inl (cy 1, 30, .inl f_3)), (a_12, .inl (cy 1, 240, .inl f_4)), (a_13, .inl (cy 1, 450, .inl f_5))]) hS
  refine lv_aload_n hx hb dX12_copyBook_10 rfl (lv_at hl 0 rfl) ?_
  refine va_get (D := G) (ci := 12) (v := .ref a_7) (C := RX12) (T := TX12) (N := 38) hx hb hts (mm_i inlX12) hown hK.1 hP 0 rfl rfl 17 (by decide) (mm_h hts mm_w149) (fun _ h9 => h9) rfl dX12_copyBook_11 ?_
  refine lv_bipush (v := 6) hx hb dX12_copyBook_14 (by decide) ?_
  refine lv_iload_n hx hb dX12_copyBook_16 rfl (lv_at hl 1 rfl) ?_
  refine lv_iload_n hx hb dX12_copyBook_17 rfl (lv_at hl 2 rfl) ?_
  refine mm_finv (va_runS (As := [.ref a_7, .int 6, .int 0, .int 1]) (rest := []) ⟨hx, hb, hml, hown, hts⟩ (M324_X12_copyRow l G cy H.size a_7 i_22 i_23 i_24 i_25 i_26 i_27 i_28 i_29 i_30 i_31 i_32 i_33 i_34 i_35 i_36 i_37 i_38 i_39 i_40 i_41 i_42 i_43 i_44 i_45 i_46 i_47 i_48 i_49 i_50 i_51 h5 h6 h7 h8 h9 h10 h11 h12 h13 h14 h15 h16 h17 h18 h19 h20 h21 h22 h23 h24 h25 h26 h27 h28 h29 h30 h31 h32 h33 h34) (va_cwS 4 hts (mm_gS mm_w557 mm_w558 mm_w5 mm_w559) rfl rfl rfl hs_X12_copyRow ⟨by rw [hRf]; exact Nat.le_of_ble_eq_true rfl, by rw [hRl]; exact Nat.le_of_ble_eq_true rfl⟩) (mm_preS hK hZ hS hA hP hD [2] rfl rfl) rfl rfl hl.1 rfl (lv_room (Nat.le_of_ble_eq_true rfl)) dX12_copyBook_18 ⟨by rw [hRc]; exact Nat.le_of_ble_eq_true rfl, by rw [hRs]; exact Nat.le_of_ble_eq_true rfl⟩) hP hD hS hA (fun u : Unit => [(a_0, .inr (12, [.int i_0, .ref a_1, .ref a_2, .ref a_3, .ref a_4, .ref a_5, .int i_1, .int i_2, .int i_3, .int i_4, .int i_5, .long j_0, .int i_6, .int i_7, .int i_8, .int i_9, .ref a_6, .ref a_7, .ref a_8, .ref a_9, .ref a_10, .ref a_11, .ref a_12, .ref a_13, .ref a_14, .ref a_15, .ref a_16, .ref a_17, .ref a_18, .int i_10, .int i_11, .int i_12, .int i_13, .int i_14, .int i_15, .ref a_19, .int i_16, .ref a_20])), (a_6, .inl (cy 1, 5, .inl (mm_g [i_17, i_17, i_19, i_20, i_21]))), (a_7, .inl (cy 1, 30, .inl (mm_g [i_22, i_23, i_24, i_25, i_26, i_27, i_22, i_23, i_24, i_25, i_26, i_27, i_34, i_35, i_36, i_37, i_38, i_39, i_40, i_41, i_42, i_43, i_44, i_45, i_46, i_47, i_48, i_49, i_50, i_51]))), (a_8, .inl (cy 1, 90, .inl f_0)), (a_9, .inl (cy 1, 15, .inl f_1)), (a_10, .inl (cy 1, 1050, .inl f_2)), (a_11, .inl (cy 1, 30, .inl f_3)), (a_12, .inl (cy 1, 240, .inl f_4)), (a_13, .inl (cy 1, 450, .inl f_5))]) [2] [0, 1, 3, 4, 5, 6, 7, 8] (n := 9) (fun _ => rfl) (by decide +kernel) (by decide +kernel) rfl (fun _ => rfl) (wr := [(a_0, .inr (12, [.int i_0, .ref a_1, .ref a_2, .ref a_3, .ref a_4, .ref a_5, .int i_1, .int i_2, .int i_3, .int i_4, .int i_5, .long j_0, .int i_6, .int i_7, .int i_8, .int i_9, .ref a_6, .ref a_7, .ref a_8, .ref a_9, .ref a_10, .ref a_11, .ref a_12, .ref a_13, .ref a_14, .ref a_15, .ref a_16, .ref a_17, .ref a_18, .int i_10, .int i_11, .int i_12, .int i_13, .int i_14, .int i_15, .ref a_19, .int i_16, .ref a_20])), (a_6, .inl (cy 1, 5, .inl (mm_g [i_17, i_17, i_19, i_20, i_21]))), (a_8, .inl (cy 1, 90, .inl f_0)), (a_9, .inl (cy 1, 15, .inl f_1)), (a_10, .inl (cy 1, 1050, .inl f_2)), (a_11, .inl (cy 1, 30, .inl f_3)), (a_12, .inl (cy 1, 240, .inl f_4)), (a_13, .inl (cy 1, 450, .inl f_5))]) rfl (fun _ => rfl) (fun _ => @rfl _ ([a_7] : List Nat)) ?_
  clear hP hD hS
  clear H locs
  intro _u H locs hw (hP : va_P G vwCl [(a_0, .inr (12, [.int i_0, .ref a_1, .ref a_2, .ref a_3, .ref a_4, .ref a_5, .int i_1, .int i_2, .int i_3, .int i_4, .int i_5, .long j_0, .int i_6, .int i_7, .int i_8, .int i_9, .ref a_6, .ref a_7, .ref a_8, .ref a_9, .ref a_10, .ref a_11, .ref a_12, .ref a_13, .ref a_14, .ref a_15, .ref a_16, .ref a_17, .ref a_18, .int i_10, .int i_11, .int i_12, .int i_13, .int i_14, .int i_15, .ref a_19, .int i_16, .ref a_20])), (a_6, .inl (cy 1, 5, .inl (mm_g [i_17, i_17, i_19, i_20, i_21]))), (a_7, .inl (cy 1, 30, .inl (mm_g [i_22, i_23, i_24, i_25, i_26, i_27, i_22, i_23, i_24, i_25, i_26, i_27, i_34, i_35, i_36, i_37, i_38, i_39, i_40, i_41, i_42, i_43, i_44, i_45, i_46, i_47, i_48, i_49, i_50, i_51]))), (a_8, .inl (cy 1, 90, .inl f_0)), (a_9, .inl (cy 1, 15, .inl f_1)), (a_10, .inl (cy 1, 1050, .inl f_2)), (a_11, .inl (cy 1, 30, .inl f_3)), (a_12, .inl (cy 1, 240, .inl f_4)), (a_13, .inl (cy 1, 450, .inl f_5))] H) (hD : va_D A [(a_0, .inr (12, [.int i_0, .ref a_1, .ref a_2, .ref a_3, .ref a_4, .ref a_5, .int i_1, .int i_2, .int i_3, .int i_4, .int i_5, .long j_0, .int i_6, .int i_7, .int i_8, .int i_9, .ref a_6, .ref a_7, .ref a_8, .ref a_9, .ref a_10, .ref a_11, .ref a_12, .ref a_13, .ref a_14, .ref a_15, .ref a_16, .ref a_17, .ref a_18, .int i_10, .int i_11, .int i_12, .int i_13, .int i_14, .int i_15, .ref a_19, .int i_16, .ref a_20])), (a_6, .inl (cy 1, 5, .inl (mm_g [i_17, i_17, i_19, i_20, i_21]))), (a_7, .inl (cy 1, 30, .inl (mm_g [i_22, i_23, i_24, i_25, i_26, i_27, i_22, i_23, i_24, i_25, i_26, i_27, i_34, i_35, i_36, i_37, i_38, i_39, i_40, i_41, i_42, i_43, i_44, i_45, i_46, i_47, i_48, i_49, i_50, i_51]))), (a_8, .inl (cy 1, 90, .inl f_0)), (a_9, .inl (cy 1, 15, .inl f_1)), (a_10, .inl (cy 1, 1050, .inl f_2)), (a_11, .inl (cy 1, 30, .inl f_3)), (a_12, .inl (cy 1, 240, .inl f_4)), (a_13, .inl (cy 1, 450, .inl f_5))]) hS
  refine lv_aload_n hx hb dX12_copyBook_21 rfl (lv_at hl 0 rfl) ?_
  refine va_get (D := G) (ci := 12) (v := .ref a_8) (C := RX12) (T := TX12) (N := 38) hx hb hts (mm_i inlX12) hown hK.1 hP 0 rfl rfl 18 (by decide) (mm_h hts mm_w150) (fun _ h9 => h9) rfl dX12_copyBook_22 ?_
  refine lv_bipush (v := 18) hx hb dX12_copyBook_25 (by decide) ?_
  refine lv_iload_n hx hb dX12_copyBook_27 rfl (lv_at hl 1 rfl) ?_
  refine lv_iload_n hx hb dX12_copyBook_28 rfl (lv_at hl 2 rfl) ?_
  refine mm_finv (va_runS (As := [.ref a_8, .int 18, .int 0, .int 1]) (rest := []) ⟨hx, hb, hml, hown, hts⟩ (M325_X12_copyRow l G cy H.size a_8 f_0 h35) (va_cwS 4 hts (mm_gS mm_w557 mm_w558 mm_w5 mm_w559) rfl rfl rfl hs_X12_copyRow ⟨by rw [hRf]; exact Nat.le_of_ble_eq_true rfl, by rw [hRl]; exact Nat.le_of_ble_eq_true rfl⟩) (mm_preS hK hZ hS hA hP hD [3] rfl rfl) rfl rfl hl.1 rfl (lv_room (Nat.le_of_ble_eq_true rfl)) dX12_copyBook_29 ⟨by rw [hRc]; exact Nat.le_of_ble_eq_true rfl, by rw [hRs]; exact Nat.le_of_ble_eq_true rfl⟩) hP hD hS hA (fun u : (Nat → Int32) => [(a_0, .inr (12, [.int i_0, .ref a_1, .ref a_2, .ref a_3, .ref a_4, .ref a_5, .int i_1, .int i_2, .int i_3, .int i_4, .int i_5, .long j_0, .int i_6, .int i_7, .int i_8, .int i_9, .ref a_6, .ref a_7, .ref a_8, .ref a_9, .ref a_10, .ref a_11, .ref a_12, .ref a_13, .ref a_14, .ref a_15, .ref a_16, .ref a_17, .ref a_18, .int i_10, .int i_11, .int i_12, .int i_13, .int i_14, .int i_15, .ref a_19, .int i_16, .ref a_20])), (a_6, .inl (cy 1, 5, .inl (mm_g [i_17, i_17, i_19, i_20, i_21]))), (a_7, .inl (cy 1, 30, .inl (mm_g [i_22, i_23, i_24, i_25, i_26, i_27, i_22, i_23, i_24, i_25, i_26, i_27, i_34, i_35, i_36, i_37, i_38, i_39, i_40, i_41, i_42, i_43, i_44, i_45, i_46, i_47, i_48, i_49, i_50, i_51]))), (a_8, .inl (cy 1, 90, .inl u)), (a_9, .inl (cy 1, 15, .inl f_1)), (a_10, .inl (cy 1, 1050, .inl f_2)), (a_11, .inl (cy 1, 30, .inl f_3)), (a_12, .inl (cy 1, 240, .inl f_4)), (a_13, .inl (cy 1, 450, .inl f_5))]) [3] [0, 1, 2, 4, 5, 6, 7, 8] (n := 9) (fun _ => rfl) (by decide +kernel) (by decide +kernel) rfl (fun _ => rfl) (wr := [(a_0, .inr (12, [.int i_0, .ref a_1, .ref a_2, .ref a_3, .ref a_4, .ref a_5, .int i_1, .int i_2, .int i_3, .int i_4, .int i_5, .long j_0, .int i_6, .int i_7, .int i_8, .int i_9, .ref a_6, .ref a_7, .ref a_8, .ref a_9, .ref a_10, .ref a_11, .ref a_12, .ref a_13, .ref a_14, .ref a_15, .ref a_16, .ref a_17, .ref a_18, .int i_10, .int i_11, .int i_12, .int i_13, .int i_14, .int i_15, .ref a_19, .int i_16, .ref a_20])), (a_6, .inl (cy 1, 5, .inl (mm_g [i_17, i_17, i_19, i_20, i_21]))), (a_7, .inl (cy 1, 30, .inl (mm_g [i_22, i_23, i_24, i_25, i_26, i_27, i_22, i_23, i_24, i_25, i_26, i_27, i_34, i_35, i_36, i_37, i_38, i_39, i_40, i_41, i_42, i_43, i_44, i_45, i_46, i_47, i_48, i_49, i_50, i_51]))), (a_9, .inl (cy 1, 15, .inl f_1)), (a_10, .inl (cy 1, 1050, .inl f_2)), (a_11, .inl (cy 1, 30, .inl f_3)), (a_12, .inl (cy 1, 240, .inl f_4)), (a_13, .inl (cy 1, 450, .inl f_5))]) rfl (fun _ => rfl) (fun _ => rfl) ?_
  clear hP hD hS
  clear H locs
  intro n1 H locs hw (hP : va_P G vwCl [(a_0, .inr (12, [.int i_0, .ref a_1, .ref a_2, .ref a_3, .ref a_4, .ref a_5, .int i_1, .int i_2, .int i_3, .int i_4, .int i_5, .long j_0, .int i_6, .int i_7, .int i_8, .int i_9, .ref a_6, .ref a_7, .ref a_8, .ref a_9, .ref a_10, .ref a_11, .ref a_12, .ref a_13, .ref a_14, .ref a_15, .ref a_16, .ref a_17, .ref a_18, .int i_10, .int i_11, .int i_12, .int i_13, .int i_14, .int i_15, .ref a_19, .int i_16, .ref a_20])), (a_6, .inl (cy 1, 5, .inl (mm_g [i_17, i_17, i_19, i_20, i_21]))), (a_7, .inl (cy 1, 30, .inl (mm_g [i_22, i_23, i_24, i_25, i_26, i_27, i_22, i_23, i_24, i_25, i_26, i_27, i_34, i_35, i_36, i_37, i_38, i_39, i_40, i_41, i_42, i_43, i_44, i_45, i_46, i_47, i_48, i_49, i_50, i_51]))), (a_8, .inl (cy 1, 90, .inl n1)), (a_9, .inl (cy 1, 15, .inl f_1)), (a_10, .inl (cy 1, 1050, .inl f_2)), (a_11, .inl (cy 1, 30, .inl f_3)), (a_12, .inl (cy 1, 240, .inl f_4)), (a_13, .inl (cy 1, 450, .inl f_5))] H) (hD : va_D A [(a_0, .inr (12, [.int i_0, .ref a_1, .ref a_2, .ref a_3, .ref a_4, .ref a_5, .int i_1, .int i_2, .int i_3, .int i_4, .int i_5, .long j_0, .int i_6, .int i_7, .int i_8, .int i_9, .ref a_6, .ref a_7, .ref a_8, .ref a_9, .ref a_10, .ref a_11, .ref a_12, .ref a_13, .ref a_14, .ref a_15, .ref a_16, .ref a_17, .ref a_18, .int i_10, .int i_11, .int i_12, .int i_13, .int i_14, .int i_15, .ref a_19, .int i_16, .ref a_20])), (a_6, .inl (cy 1, 5, .inl (mm_g [i_17, i_17, i_19, i_20, i_21]))), (a_7, .inl (cy 1, 30, .inl (mm_g [i_22, i_23, i_24, i_25, i_26, i_27, i_22, i_23, i_24, i_25, i_26, i_27, i_34, i_35, i_36, i_37, i_38, i_39, i_40, i_41, i_42, i_43, i_44, i_45, i_46, i_47, i_48, i_49, i_50, i_51]))), (a_8, .inl (cy 1, 90, .inl n1)), (a_9, .inl (cy 1, 15, .inl f_1)), (a_10, .inl (cy 1, 1050, .inl f_2)), (a_11, .inl (cy 1, 30, .inl f_3)), (a_12, .inl (cy 1, 240, .inl f_4)), (a_13, .inl (cy 1, 450, .inl f_5))]) hS
  obtain ⟨w2, w3⟩ := hw
  refine lv_aload_n hx hb dX12_copyBook_32 rfl (lv_at hl 0 rfl) ?_
  refine va_get (D := G) (ci := 12) (v := .ref a_9) (C := RX12) (T := TX12) (N := 38) hx hb hts (mm_i inlX12) hown hK.1 hP 0 rfl rfl 19 (by decide) (mm_h hts mm_w151) (fun _ h9 => h9) rfl dX12_copyBook_33 ?_
  refine lv_iconst (v := 3) hx hb dX12_copyBook_36 (by decide) ?_
  refine lv_iload_n hx hb dX12_copyBook_37 rfl (lv_at hl 1 rfl) ?_
  refine lv_iload_n hx hb dX12_copyBook_38 rfl (lv_at hl 2 rfl) ?_
  refine mm_finv (va_runS (As := [.ref a_9, .int 3, .int 0, .int 1]) (rest := []) ⟨hx, hb, hml, hown, hts⟩ (M326_X12_copyRow l G cy H.size a_9 f_1 h36) (va_cwS 4 hts (mm_gS mm_w557 mm_w558 mm_w5 mm_w559) rfl rfl rfl hs_X12_copyRow ⟨by rw [hRf]; exact Nat.le_of_ble_eq_true rfl, by rw [hRl]; exact Nat.le_of_ble_eq_true rfl⟩) (mm_preS hK hZ hS hA hP hD [4] rfl rfl) rfl rfl hl.1 rfl (lv_room (Nat.le_of_ble_eq_true rfl)) dX12_copyBook_39 ⟨by rw [hRc]; exact Nat.le_of_ble_eq_true rfl, by rw [hRs]; exact Nat.le_of_ble_eq_true rfl⟩) hP hD hS hA (fun u : (Nat → Int32) => [(a_0, .inr (12, [.int i_0, .ref a_1, .ref a_2, .ref a_3, .ref a_4, .ref a_5, .int i_1, .int i_2, .int i_3, .int i_4, .int i_5, .long j_0, .int i_6, .int i_7, .int i_8, .int i_9, .ref a_6, .ref a_7, .ref a_8, .ref a_9, .ref a_10, .ref a_11, .ref a_12, .ref a_13, .ref a_14, .ref a_15, .ref a_16, .ref a_17, .ref a_18, .int i_10, .int i_11, .int i_12, .int i_13, .int i_14, .int i_15, .ref a_19, .int i_16, .ref a_20])), (a_6, .inl (cy 1, 5, .inl (mm_g [i_17, i_17, i_19, i_20, i_21]))), (a_7, .inl (cy 1, 30, .inl (mm_g [i_22, i_23, i_24, i_25, i_26, i_27, i_22, i_23, i_24, i_25, i_26, i_27, i_34, i_35, i_36, i_37, i_38, i_39, i_40, i_41, i_42, i_43, i_44, i_45, i_46, i_47, i_48, i_49, i_50, i_51]))), (a_8, .inl (cy 1, 90, .inl n1)), (a_9, .inl (cy 1, 15, .inl u)), (a_10, .inl (cy 1, 1050, .inl f_2)), (a_11, .inl (cy 1, 30, .inl f_3)), (a_12, .inl (cy 1, 240, .inl f_4)), (a_13, .inl (cy 1, 450, .inl f_5))]) [4] [0, 1, 2, 3, 5, 6, 7, 8] (n := 9) (fun _ => rfl) (by decide +kernel) (by decide +kernel) rfl (fun _ => rfl) (wr := [(a_0, .inr (12, [.int i_0, .ref a_1, .ref a_2, .ref a_3, .ref a_4, .ref a_5, .int i_1, .int i_2, .int i_3, .int i_4, .int i_5, .long j_0, .int i_6, .int i_7, .int i_8, .int i_9, .ref a_6, .ref a_7, .ref a_8, .ref a_9, .ref a_10, .ref a_11, .ref a_12, .ref a_13, .ref a_14, .ref a_15, .ref a_16, .ref a_17, .ref a_18, .int i_10, .int i_11, .int i_12, .int i_13, .int i_14, .int i_15, .ref a_19, .int i_16, .ref a_20])), (a_6, .inl (cy 1, 5, .inl (mm_g [i_17, i_17, i_19, i_20, i_21]))), (a_7, .inl (cy 1, 30, .inl (mm_g [i_22, i_23, i_24, i_25, i_26, i_27, i_22, i_23, i_24, i_25, i_26, i_27, i_34, i_35, i_36, i_37, i_38, i_39, i_40, i_41, i_42, i_43, i_44, i_45, i_46, i_47, i_48, i_49, i_50, i_51]))), (a_8, .inl (cy 1, 90, .inl n1)), (a_10, .inl (cy 1, 1050, .inl f_2)), (a_11, .inl (cy 1, 30, .inl f_3)), (a_12, .inl (cy 1, 240, .inl f_4)), (a_13, .inl (cy 1, 450, .inl f_5))]) rfl (fun _ => rfl) (fun _ => rfl) ?_
  clear hP hD hS
  clear H locs
  intro n4 H locs hw (hP : va_P G vwCl [(a_0, .inr (12, [.int i_0, .ref a_1, .ref a_2, .ref a_3, .ref a_4, .ref a_5, .int i_1, .int i_2, .int i_3, .int i_4, .int i_5, .long j_0, .int i_6, .int i_7, .int i_8, .int i_9, .ref a_6, .ref a_7, .ref a_8, .ref a_9, .ref a_10, .ref a_11, .ref a_12, .ref a_13, .ref a_14, .ref a_15, .ref a_16, .ref a_17, .ref a_18, .int i_10, .int i_11, .int i_12, .int i_13, .int i_14, .int i_15, .ref a_19, .int i_16, .ref a_20])), (a_6, .inl (cy 1, 5, .inl (mm_g [i_17, i_17, i_19, i_20, i_21]))), (a_7, .inl (cy 1, 30, .inl (mm_g [i_22, i_23, i_24, i_25, i_26, i_27, i_22, i_23, i_24, i_25, i_26, i_27, i_34, i_35, i_36, i_37, i_38, i_39, i_40, i_41, i_42, i_43, i_44, i_45, i_46, i_47, i_48, i_49, i_50, i_51]))), (a_8, .inl (cy 1, 90, .inl n1)), (a_9, .inl (cy 1, 15, .inl n4)), (a_10, .inl (cy 1, 1050, .inl f_2)), (a_11, .inl (cy 1, 30, .inl f_3)), (a_12, .inl (cy 1, 240, .inl f_4)), (a_13, .inl (cy 1, 450, .inl f_5))] H) (hD : va_D A [(a_0, .inr (12, [.int i_0, .ref a_1, .ref a_2, .ref a_3, .ref a_4, .ref a_5, .int i_1, .int i_2, .int i_3, .int i_4, .int i_5, .long j_0, .int i_6, .int i_7, .int i_8, .int i_9, .ref a_6, .ref a_7, .ref a_8, .ref a_9, .ref a_10, .ref a_11, .ref a_12, .ref a_13, .ref a_14, .ref a_15, .ref a_16, .ref a_17, .ref a_18, .int i_10, .int i_11, .int i_12, .int i_13, .int i_14, .int i_15, .ref a_19, .int i_16, .ref a_20])), (a_6, .inl (cy 1, 5, .inl (mm_g [i_17, i_17, i_19, i_20, i_21]))), (a_7, .inl (cy 1, 30, .inl (mm_g [i_22, i_23, i_24, i_25, i_26, i_27, i_22, i_23, i_24, i_25, i_26, i_27, i_34, i_35, i_36, i_37, i_38, i_39, i_40, i_41, i_42, i_43, i_44, i_45, i_46, i_47, i_48, i_49, i_50, i_51]))), (a_8, .inl (cy 1, 90, .inl n1)), (a_9, .inl (cy 1, 15, .inl n4)), (a_10, .inl (cy 1, 1050, .inl f_2)), (a_11, .inl (cy 1, 30, .inl f_3)), (a_12, .inl (cy 1, 240, .inl f_4)), (a_13, .inl (cy 1, 450, .inl f_5))]) hS
  obtain ⟨w5, w6⟩ := hw
  refine lv_aload_n hx hb dX12_copyBook_42 rfl (lv_at hl 0 rfl) ?_
  refine va_get (D := G) (ci := 12) (v := .ref a_10) (C := RX12) (T := TX12) (N := 38) hx hb hts (mm_i inlX12) hown hK.1 hP 0 rfl rfl 20 (by decide) (mm_h hts mm_w152) (fun _ h9 => h9) rfl dX12_copyBook_43 ?_
  refine lv_sipush (v := 210) hx hb dX12_copyBook_46 (by decide) ?_
  refine lv_iload_n hx hb dX12_copyBook_49 rfl (lv_at hl 1 rfl) ?_
  refine lv_iload_n hx hb dX12_copyBook_50 rfl (lv_at hl 2 rfl) ?_
  refine mm_finv (va_runS (As := [.ref a_10, .int 210, .int 0, .int 1]) (rest := []) ⟨hx, hb, hml, hown, hts⟩ (M327_X12_copyRow l G cy H.size a_10 f_2 h37) (va_cwS 4 hts (mm_gS mm_w557 mm_w558 mm_w5 mm_w559) rfl rfl rfl hs_X12_copyRow ⟨by rw [hRf]; exact Nat.le_of_ble_eq_true rfl, by rw [hRl]; exact Nat.le_of_ble_eq_true rfl⟩) (mm_preS hK hZ hS hA hP hD [5] rfl rfl) rfl rfl hl.1 rfl (lv_room (Nat.le_of_ble_eq_true rfl)) dX12_copyBook_51 ⟨by rw [hRc]; exact Nat.le_of_ble_eq_true rfl, by rw [hRs]; exact Nat.le_of_ble_eq_true rfl⟩) hP hD hS hA (fun u : (Nat → Int32) => [(a_0, .inr (12, [.int i_0, .ref a_1, .ref a_2, .ref a_3, .ref a_4, .ref a_5, .int i_1, .int i_2, .int i_3, .int i_4, .int i_5, .long j_0, .int i_6, .int i_7, .int i_8, .int i_9, .ref a_6, .ref a_7, .ref a_8, .ref a_9, .ref a_10, .ref a_11, .ref a_12, .ref a_13, .ref a_14, .ref a_15, .ref a_16, .ref a_17, .ref a_18, .int i_10, .int i_11, .int i_12, .int i_13, .int i_14, .int i_15, .ref a_19, .int i_16, .ref a_20])), (a_6, .inl (cy 1, 5, .inl (mm_g [i_17, i_17, i_19, i_20, i_21]))), (a_7, .inl (cy 1, 30, .inl (mm_g [i_22, i_23, i_24, i_25, i_26, i_27, i_22, i_23, i_24, i_25, i_26, i_27, i_34, i_35, i_36, i_37, i_38, i_39, i_40, i_41, i_42, i_43, i_44, i_45, i_46, i_47, i_48, i_49, i_50, i_51]))), (a_8, .inl (cy 1, 90, .inl n1)), (a_9, .inl (cy 1, 15, .inl n4)), (a_10, .inl (cy 1, 1050, .inl u)), (a_11, .inl (cy 1, 30, .inl f_3)), (a_12, .inl (cy 1, 240, .inl f_4)), (a_13, .inl (cy 1, 450, .inl f_5))]) [5] [0, 1, 2, 3, 4, 6, 7, 8] (n := 9) (fun _ => rfl) (by decide +kernel) (by decide +kernel) rfl (fun _ => rfl) (wr := [(a_0, .inr (12, [.int i_0, .ref a_1, .ref a_2, .ref a_3, .ref a_4, .ref a_5, .int i_1, .int i_2, .int i_3, .int i_4, .int i_5, .long j_0, .int i_6, .int i_7, .int i_8, .int i_9, .ref a_6, .ref a_7, .ref a_8, .ref a_9, .ref a_10, .ref a_11, .ref a_12, .ref a_13, .ref a_14, .ref a_15, .ref a_16, .ref a_17, .ref a_18, .int i_10, .int i_11, .int i_12, .int i_13, .int i_14, .int i_15, .ref a_19, .int i_16, .ref a_20])), (a_6, .inl (cy 1, 5, .inl (mm_g [i_17, i_17, i_19, i_20, i_21]))), (a_7, .inl (cy 1, 30, .inl (mm_g [i_22, i_23, i_24, i_25, i_26, i_27, i_22, i_23, i_24, i_25, i_26, i_27, i_34, i_35, i_36, i_37, i_38, i_39, i_40, i_41, i_42, i_43, i_44, i_45, i_46, i_47, i_48, i_49, i_50, i_51]))), (a_8, .inl (cy 1, 90, .inl n1)), (a_9, .inl (cy 1, 15, .inl n4)), (a_11, .inl (cy 1, 30, .inl f_3)), (a_12, .inl (cy 1, 240, .inl f_4)), (a_13, .inl (cy 1, 450, .inl f_5))]) rfl (fun _ => rfl) (fun _ => rfl) ?_
  clear hP hD hS
  clear H locs
  intro n7 H locs hw (hP : va_P G vwCl [(a_0, .inr (12, [.int i_0, .ref a_1, .ref a_2, .ref a_3, .ref a_4, .ref a_5, .int i_1, .int i_2, .int i_3, .int i_4, .int i_5, .long j_0, .int i_6, .int i_7, .int i_8, .int i_9, .ref a_6, .ref a_7, .ref a_8, .ref a_9, .ref a_10, .ref a_11, .ref a_12, .ref a_13, .ref a_14, .ref a_15, .ref a_16, .ref a_17, .ref a_18, .int i_10, .int i_11, .int i_12, .int i_13, .int i_14, .int i_15, .ref a_19, .int i_16, .ref a_20])), (a_6, .inl (cy 1, 5, .inl (mm_g [i_17, i_17, i_19, i_20, i_21]))), (a_7, .inl (cy 1, 30, .inl (mm_g [i_22, i_23, i_24, i_25, i_26, i_27, i_22, i_23, i_24, i_25, i_26, i_27, i_34, i_35, i_36, i_37, i_38, i_39, i_40, i_41, i_42, i_43, i_44, i_45, i_46, i_47, i_48, i_49, i_50, i_51]))), (a_8, .inl (cy 1, 90, .inl n1)), (a_9, .inl (cy 1, 15, .inl n4)), (a_10, .inl (cy 1, 1050, .inl n7)), (a_11, .inl (cy 1, 30, .inl f_3)), (a_12, .inl (cy 1, 240, .inl f_4)), (a_13, .inl (cy 1, 450, .inl f_5))] H) (hD : va_D A [(a_0, .inr (12, [.int i_0, .ref a_1, .ref a_2, .ref a_3, .ref a_4, .ref a_5, .int i_1, .int i_2, .int i_3, .int i_4, .int i_5, .long j_0, .int i_6, .int i_7, .int i_8, .int i_9, .ref a_6, .ref a_7, .ref a_8, .ref a_9, .ref a_10, .ref a_11, .ref a_12, .ref a_13, .ref a_14, .ref a_15, .ref a_16, .ref a_17, .ref a_18, .int i_10, .int i_11, .int i_12, .int i_13, .int i_14, .int i_15, .ref a_19, .int i_16, .ref a_20])), (a_6, .inl (cy 1, 5, .inl (mm_g [i_17, i_17, i_19, i_20, i_21]))), (a_7, .inl (cy 1, 30, .inl (mm_g [i_22, i_23, i_24, i_25, i_26, i_27, i_22, i_23, i_24, i_25, i_26, i_27, i_34, i_35, i_36, i_37, i_38, i_39, i_40, i_41, i_42, i_43, i_44, i_45, i_46, i_47, i_48, i_49, i_50, i_51]))), (a_8, .inl (cy 1, 90, .inl n1)), (a_9, .inl (cy 1, 15, .inl n4)), (a_10, .inl (cy 1, 1050, .inl n7)), (a_11, .inl (cy 1, 30, .inl f_3)), (a_12, .inl (cy 1, 240, .inl f_4)), (a_13, .inl (cy 1, 450, .inl f_5))]) hS
  obtain ⟨w8, w9⟩ := hw
  refine lv_aload_n hx hb dX12_copyBook_54 rfl (lv_at hl 0 rfl) ?_
  refine va_get (D := G) (ci := 12) (v := .ref a_11) (C := RX12) (T := TX12) (N := 38) hx hb hts (mm_i inlX12) hown hK.1 hP 0 rfl rfl 21 (by decide) (mm_h hts mm_w153) (fun _ h9 => h9) rfl dX12_copyBook_55 ?_
  refine lv_bipush (v := 6) hx hb dX12_copyBook_58 (by decide) ?_
  refine lv_iload_n hx hb dX12_copyBook_60 rfl (lv_at hl 1 rfl) ?_
  refine lv_iload_n hx hb dX12_copyBook_61 rfl (lv_at hl 2 rfl) ?_
  refine mm_finv (va_runS (As := [.ref a_11, .int 6, .int 0, .int 1]) (rest := []) ⟨hx, hb, hml, hown, hts⟩ (M328_X12_copyRow l G cy H.size a_11 f_3 h38) (va_cwS 4 hts (mm_gS mm_w557 mm_w558 mm_w5 mm_w559) rfl rfl rfl hs_X12_copyRow ⟨by rw [hRf]; exact Nat.le_of_ble_eq_true rfl, by rw [hRl]; exact Nat.le_of_ble_eq_true rfl⟩) (mm_preS hK hZ hS hA hP hD [6] rfl rfl) rfl rfl hl.1 rfl (lv_room (Nat.le_of_ble_eq_true rfl)) dX12_copyBook_62 ⟨by rw [hRc]; exact Nat.le_of_ble_eq_true rfl, by rw [hRs]; exact Nat.le_of_ble_eq_true rfl⟩) hP hD hS hA (fun u : (Nat → Int32) => [(a_0, .inr (12, [.int i_0, .ref a_1, .ref a_2, .ref a_3, .ref a_4, .ref a_5, .int i_1, .int i_2, .int i_3, .int i_4, .int i_5, .long j_0, .int i_6, .int i_7, .int i_8, .int i_9, .ref a_6, .ref a_7, .ref a_8, .ref a_9, .ref a_10, .ref a_11, .ref a_12, .ref a_13, .ref a_14, .ref a_15, .ref a_16, .ref a_17, .ref a_18, .int i_10, .int i_11, .int i_12, .int i_13, .int i_14, .int i_15, .ref a_19, .int i_16, .ref a_20])), (a_6, .inl (cy 1, 5, .inl (mm_g [i_17, i_17, i_19, i_20, i_21]))), (a_7, .inl (cy 1, 30, .inl (mm_g [i_22, i_23, i_24, i_25, i_26, i_27, i_22, i_23, i_24, i_25, i_26, i_27, i_34, i_35, i_36, i_37, i_38, i_39, i_40, i_41, i_42, i_43, i_44, i_45, i_46, i_47, i_48, i_49, i_50, i_51]))), (a_8, .inl (cy 1, 90, .inl n1)), (a_9, .inl (cy 1, 15, .inl n4)), (a_10, .inl (cy 1, 1050, .inl n7)), (a_11, .inl (cy 1, 30, .inl u)), (a_12, .inl (cy 1, 240, .inl f_4)), (a_13, .inl (cy 1, 450, .inl f_5))]) [6] [0, 1, 2, 3, 4, 5, 7, 8] (n := 9) (fun _ => rfl) (by decide +kernel) (by decide +kernel) rfl (fun _ => rfl) (wr := [(a_0, .inr (12, [.int i_0, .ref a_1, .ref a_2, .ref a_3, .ref a_4, .ref a_5, .int i_1, .int i_2, .int i_3, .int i_4, .int i_5, .long j_0, .int i_6, .int i_7, .int i_8, .int i_9, .ref a_6, .ref a_7, .ref a_8, .ref a_9, .ref a_10, .ref a_11, .ref a_12, .ref a_13, .ref a_14, .ref a_15, .ref a_16, .ref a_17, .ref a_18, .int i_10, .int i_11, .int i_12, .int i_13, .int i_14, .int i_15, .ref a_19, .int i_16, .ref a_20])), (a_6, .inl (cy 1, 5, .inl (mm_g [i_17, i_17, i_19, i_20, i_21]))), (a_7, .inl (cy 1, 30, .inl (mm_g [i_22, i_23, i_24, i_25, i_26, i_27, i_22, i_23, i_24, i_25, i_26, i_27, i_34, i_35, i_36, i_37, i_38, i_39, i_40, i_41, i_42, i_43, i_44, i_45, i_46, i_47, i_48, i_49, i_50, i_51]))), (a_8, .inl (cy 1, 90, .inl n1)), (a_9, .inl (cy 1, 15, .inl n4)), (a_10, .inl (cy 1, 1050, .inl n7)), (a_12, .inl (cy 1, 240, .inl f_4)), (a_13, .inl (cy 1, 450, .inl f_5))]) rfl (fun _ => rfl) (fun _ => rfl) ?_
  clear hP hD hS
  clear H locs
  intro n10 H locs hw (hP : va_P G vwCl [(a_0, .inr (12, [.int i_0, .ref a_1, .ref a_2, .ref a_3, .ref a_4, .ref a_5, .int i_1, .int i_2, .int i_3, .int i_4, .int i_5, .long j_0, .int i_6, .int i_7, .int i_8, .int i_9, .ref a_6, .ref a_7, .ref a_8, .ref a_9, .ref a_10, .ref a_11, .ref a_12, .ref a_13, .ref a_14, .ref a_15, .ref a_16, .ref a_17, .ref a_18, .int i_10, .int i_11, .int i_12, .int i_13, .int i_14, .int i_15, .ref a_19, .int i_16, .ref a_20])), (a_6, .inl (cy 1, 5, .inl (mm_g [i_17, i_17, i_19, i_20, i_21]))), (a_7, .inl (cy 1, 30, .inl (mm_g [i_22, i_23, i_24, i_25, i_26, i_27, i_22, i_23, i_24, i_25, i_26, i_27, i_34, i_35, i_36, i_37, i_38, i_39, i_40, i_41, i_42, i_43, i_44, i_45, i_46, i_47, i_48, i_49, i_50, i_51]))), (a_8, .inl (cy 1, 90, .inl n1)), (a_9, .inl (cy 1, 15, .inl n4)), (a_10, .inl (cy 1, 1050, .inl n7)), (a_11, .inl (cy 1, 30, .inl n10)), (a_12, .inl (cy 1, 240, .inl f_4)), (a_13, .inl (cy 1, 450, .inl f_5))] H) (hD : va_D A [(a_0, .inr (12, [.int i_0, .ref a_1, .ref a_2, .ref a_3, .ref a_4, .ref a_5, .int i_1, .int i_2, .int i_3, .int i_4, .int i_5, .long j_0, .int i_6, .int i_7, .int i_8, .int i_9, .ref a_6, .ref a_7, .ref a_8, .ref a_9, .ref a_10, .ref a_11, .ref a_12, .ref a_13, .ref a_14, .ref a_15, .ref a_16, .ref a_17, .ref a_18, .int i_10, .int i_11, .int i_12, .int i_13, .int i_14, .int i_15, .ref a_19, .int i_16, .ref a_20])), (a_6, .inl (cy 1, 5, .inl (mm_g [i_17, i_17, i_19, i_20, i_21]))), (a_7, .inl (cy 1, 30, .inl (mm_g [i_22, i_23, i_24, i_25, i_26, i_27, i_22, i_23, i_24, i_25, i_26, i_27, i_34, i_35, i_36, i_37, i_38, i_39, i_40, i_41, i_42, i_43, i_44, i_45, i_46, i_47, i_48, i_49, i_50, i_51]))), (a_8, .inl (cy 1, 90, .inl n1)), (a_9, .inl (cy 1, 15, .inl n4)), (a_10, .inl (cy 1, 1050, .inl n7)), (a_11, .inl (cy 1, 30, .inl n10)), (a_12, .inl (cy 1, 240, .inl f_4)), (a_13, .inl (cy 1, 450, .inl f_5))]) hS
  obtain ⟨w11, w12⟩ := hw
  refine lv_aload_n hx hb dX12_copyBook_65 rfl (lv_at hl 0 rfl) ?_
  refine va_get (D := G) (ci := 12) (v := .ref a_12) (C := RX12) (T := TX12) (N := 38) hx hb hts (mm_i inlX12) hown hK.1 hP 0 rfl rfl 22 (by decide) (mm_h hts mm_w154) (fun _ h9 => h9) rfl dX12_copyBook_66 ?_
  refine lv_bipush (v := 48) hx hb dX12_copyBook_69 (by decide) ?_
  refine lv_iload_n hx hb dX12_copyBook_71 rfl (lv_at hl 1 rfl) ?_
  refine lv_iload_n hx hb dX12_copyBook_72 rfl (lv_at hl 2 rfl) ?_
  refine mm_finv (va_runS (As := [.ref a_12, .int 48, .int 0, .int 1]) (rest := []) ⟨hx, hb, hml, hown, hts⟩ (M329_X12_copyRow l G cy H.size a_12 f_4 h39) (va_cwS 4 hts (mm_gS mm_w557 mm_w558 mm_w5 mm_w559) rfl rfl rfl hs_X12_copyRow ⟨by rw [hRf]; exact Nat.le_of_ble_eq_true rfl, by rw [hRl]; exact Nat.le_of_ble_eq_true rfl⟩) (mm_preS hK hZ hS hA hP hD [7] rfl rfl) rfl rfl hl.1 rfl (lv_room (Nat.le_of_ble_eq_true rfl)) dX12_copyBook_73 ⟨by rw [hRc]; exact Nat.le_of_ble_eq_true rfl, by rw [hRs]; exact Nat.le_of_ble_eq_true rfl⟩) hP hD hS hA (fun u : (Nat → Int32) => [(a_0, .inr (12, [.int i_0, .ref a_1, .ref a_2, .ref a_3, .ref a_4, .ref a_5, .int i_1, .int i_2, .int i_3, .int i_4, .int i_5, .long j_0, .int i_6, .int i_7, .int i_8, .int i_9, .ref a_6, .ref a_7, .ref a_8, .ref a_9, .ref a_10, .ref a_11, .ref a_12, .ref a_13, .ref a_14, .ref a_15, .ref a_16, .ref a_17, .ref a_18, .int i_10, .int i_11, .int i_12, .int i_13, .int i_14, .int i_15, .ref a_19, .int i_16, .ref a_20])), (a_6, .inl (cy 1, 5, .inl (mm_g [i_17, i_17, i_19, i_20, i_21]))), (a_7, .inl (cy 1, 30, .inl (mm_g [i_22, i_23, i_24, i_25, i_26, i_27, i_22, i_23, i_24, i_25, i_26, i_27, i_34, i_35, i_36, i_37, i_38, i_39, i_40, i_41, i_42, i_43, i_44, i_45, i_46, i_47, i_48, i_49, i_50, i_51]))), (a_8, .inl (cy 1, 90, .inl n1)), (a_9, .inl (cy 1, 15, .inl n4)), (a_10, .inl (cy 1, 1050, .inl n7)), (a_11, .inl (cy 1, 30, .inl n10)), (a_12, .inl (cy 1, 240, .inl u)), (a_13, .inl (cy 1, 450, .inl f_5))]) [7] [0, 1, 2, 3, 4, 5, 6, 8] (n := 9) (fun _ => rfl) (by decide +kernel) (by decide +kernel) rfl (fun _ => rfl) (wr := [(a_0, .inr (12, [.int i_0, .ref a_1, .ref a_2, .ref a_3, .ref a_4, .ref a_5, .int i_1, .int i_2, .int i_3, .int i_4, .int i_5, .long j_0, .int i_6, .int i_7, .int i_8, .int i_9, .ref a_6, .ref a_7, .ref a_8, .ref a_9, .ref a_10, .ref a_11, .ref a_12, .ref a_13, .ref a_14, .ref a_15, .ref a_16, .ref a_17, .ref a_18, .int i_10, .int i_11, .int i_12, .int i_13, .int i_14, .int i_15, .ref a_19, .int i_16, .ref a_20])), (a_6, .inl (cy 1, 5, .inl (mm_g [i_17, i_17, i_19, i_20, i_21]))), (a_7, .inl (cy 1, 30, .inl (mm_g [i_22, i_23, i_24, i_25, i_26, i_27, i_22, i_23, i_24, i_25, i_26, i_27, i_34, i_35, i_36, i_37, i_38, i_39, i_40, i_41, i_42, i_43, i_44, i_45, i_46, i_47, i_48, i_49, i_50, i_51]))), (a_8, .inl (cy 1, 90, .inl n1)), (a_9, .inl (cy 1, 15, .inl n4)), (a_10, .inl (cy 1, 1050, .inl n7)), (a_11, .inl (cy 1, 30, .inl n10)), (a_13, .inl (cy 1, 450, .inl f_5))]) rfl (fun _ => rfl) (fun _ => rfl) ?_
  clear hP hD hS
  clear H locs
  intro n13 H locs hw (hP : va_P G vwCl [(a_0, .inr (12, [.int i_0, .ref a_1, .ref a_2, .ref a_3, .ref a_4, .ref a_5, .int i_1, .int i_2, .int i_3, .int i_4, .int i_5, .long j_0, .int i_6, .int i_7, .int i_8, .int i_9, .ref a_6, .ref a_7, .ref a_8, .ref a_9, .ref a_10, .ref a_11, .ref a_12, .ref a_13, .ref a_14, .ref a_15, .ref a_16, .ref a_17, .ref a_18, .int i_10, .int i_11, .int i_12, .int i_13, .int i_14, .int i_15, .ref a_19, .int i_16, .ref a_20])), (a_6, .inl (cy 1, 5, .inl (mm_g [i_17, i_17, i_19, i_20, i_21]))), (a_7, .inl (cy 1, 30, .inl (mm_g [i_22, i_23, i_24, i_25, i_26, i_27, i_22, i_23, i_24, i_25, i_26, i_27, i_34, i_35, i_36, i_37, i_38, i_39, i_40, i_41, i_42, i_43, i_44, i_45, i_46, i_47, i_48, i_49, i_50, i_51]))), (a_8, .inl (cy 1, 90, .inl n1)), (a_9, .inl (cy 1, 15, .inl n4)), (a_10, .inl (cy 1, 1050, .inl n7)), (a_11, .inl (cy 1, 30, .inl n10)), (a_12, .inl (cy 1, 240, .inl n13)), (a_13, .inl (cy 1, 450, .inl f_5))] H) (hD : va_D A [(a_0, .inr (12, [.int i_0, .ref a_1, .ref a_2, .ref a_3, .ref a_4, .ref a_5, .int i_1, .int i_2, .int i_3, .int i_4, .int i_5, .long j_0, .int i_6, .int i_7, .int i_8, .int i_9, .ref a_6, .ref a_7, .ref a_8, .ref a_9, .ref a_10, .ref a_11, .ref a_12, .ref a_13, .ref a_14, .ref a_15, .ref a_16, .ref a_17, .ref a_18, .int i_10, .int i_11, .int i_12, .int i_13, .int i_14, .int i_15, .ref a_19, .int i_16, .ref a_20])), (a_6, .inl (cy 1, 5, .inl (mm_g [i_17, i_17, i_19, i_20, i_21]))), (a_7, .inl (cy 1, 30, .inl (mm_g [i_22, i_23, i_24, i_25, i_26, i_27, i_22, i_23, i_24, i_25, i_26, i_27, i_34, i_35, i_36, i_37, i_38, i_39, i_40, i_41, i_42, i_43, i_44, i_45, i_46, i_47, i_48, i_49, i_50, i_51]))), (a_8, .inl (cy 1, 90, .inl n1)), (a_9, .inl (cy 1, 15, .inl n4)), (a_10, .inl (cy 1, 1050, .inl n7)), (a_11, .inl (cy 1, 30, .inl n10)), (a_12, .inl (cy 1, 240, .inl n13)), (a_13, .inl (cy 1, 450, .inl f_5))]) hS
  obtain ⟨w14, w15⟩ := hw
  refine lv_aload_n hx hb dX12_copyBook_76 rfl (lv_at hl 0 rfl) ?_
  refine va_get (D := G) (ci := 12) (v := .ref a_13) (C := RX12) (T := TX12) (N := 38) hx hb hts (mm_i inlX12) hown hK.1 hP 0 rfl rfl 23 (by decide) (mm_h hts mm_w155) (fun _ h9 => h9) rfl dX12_copyBook_77 ?_
  refine lv_bipush (v := 90) hx hb dX12_copyBook_80 (by decide) ?_
  refine lv_iload_n hx hb dX12_copyBook_82 rfl (lv_at hl 1 rfl) ?_
  refine lv_iload_n hx hb dX12_copyBook_83 rfl (lv_at hl 2 rfl) ?_
  refine mm_finv (va_runS (As := [.ref a_13, .int 90, .int 0, .int 1]) (rest := []) ⟨hx, hb, hml, hown, hts⟩ (M330_X12_copyRow l G cy H.size a_13 f_5 h40) (va_cwS 4 hts (mm_gS mm_w557 mm_w558 mm_w5 mm_w559) rfl rfl rfl hs_X12_copyRow ⟨by rw [hRf]; exact Nat.le_of_ble_eq_true rfl, by rw [hRl]; exact Nat.le_of_ble_eq_true rfl⟩) (mm_preS hK hZ hS hA hP hD [8] rfl rfl) rfl rfl hl.1 rfl (lv_room (Nat.le_of_ble_eq_true rfl)) dX12_copyBook_84 ⟨by rw [hRc]; exact Nat.le_of_ble_eq_true rfl, by rw [hRs]; exact Nat.le_of_ble_eq_true rfl⟩) hP hD hS hA (fun u : (Nat → Int32) => [(a_0, .inr (12, [.int i_0, .ref a_1, .ref a_2, .ref a_3, .ref a_4, .ref a_5, .int i_1, .int i_2, .int i_3, .int i_4, .int i_5, .long j_0, .int i_6, .int i_7, .int i_8, .int i_9, .ref a_6, .ref a_7, .ref a_8, .ref a_9, .ref a_10, .ref a_11, .ref a_12, .ref a_13, .ref a_14, .ref a_15, .ref a_16, .ref a_17, .ref a_18, .int i_10, .int i_11, .int i_12, .int i_13, .int i_14, .int i_15, .ref a_19, .int i_16, .ref a_20])), (a_6, .inl (cy 1, 5, .inl (mm_g [i_17, i_17, i_19, i_20, i_21]))), (a_7, .inl (cy 1, 30, .inl (mm_g [i_22, i_23, i_24, i_25, i_26, i_27, i_22, i_23, i_24, i_25, i_26, i_27, i_34, i_35, i_36, i_37, i_38, i_39, i_40, i_41, i_42, i_43, i_44, i_45, i_46, i_47, i_48, i_49, i_50, i_51]))), (a_8, .inl (cy 1, 90, .inl n1)), (a_9, .inl (cy 1, 15, .inl n4)), (a_10, .inl (cy 1, 1050, .inl n7)), (a_11, .inl (cy 1, 30, .inl n10)), (a_12, .inl (cy 1, 240, .inl n13)), (a_13, .inl (cy 1, 450, .inl u))]) [8] [0, 1, 2, 3, 4, 5, 6, 7] (n := 9) (fun _ => rfl) (by decide +kernel) (by decide +kernel) rfl (fun _ => rfl) (wr := [(a_0, .inr (12, [.int i_0, .ref a_1, .ref a_2, .ref a_3, .ref a_4, .ref a_5, .int i_1, .int i_2, .int i_3, .int i_4, .int i_5, .long j_0, .int i_6, .int i_7, .int i_8, .int i_9, .ref a_6, .ref a_7, .ref a_8, .ref a_9, .ref a_10, .ref a_11, .ref a_12, .ref a_13, .ref a_14, .ref a_15, .ref a_16, .ref a_17, .ref a_18, .int i_10, .int i_11, .int i_12, .int i_13, .int i_14, .int i_15, .ref a_19, .int i_16, .ref a_20])), (a_6, .inl (cy 1, 5, .inl (mm_g [i_17, i_17, i_19, i_20, i_21]))), (a_7, .inl (cy 1, 30, .inl (mm_g [i_22, i_23, i_24, i_25, i_26, i_27, i_22, i_23, i_24, i_25, i_26, i_27, i_34, i_35, i_36, i_37, i_38, i_39, i_40, i_41, i_42, i_43, i_44, i_45, i_46, i_47, i_48, i_49, i_50, i_51]))), (a_8, .inl (cy 1, 90, .inl n1)), (a_9, .inl (cy 1, 15, .inl n4)), (a_10, .inl (cy 1, 1050, .inl n7)), (a_11, .inl (cy 1, 30, .inl n10)), (a_12, .inl (cy 1, 240, .inl n13))]) rfl (fun _ => rfl) (fun _ => rfl) ?_
  clear hP hD hS
  clear H locs
  intro n16 H locs hw (hP : va_P G vwCl [(a_0, .inr (12, [.int i_0, .ref a_1, .ref a_2, .ref a_3, .ref a_4, .ref a_5, .int i_1, .int i_2, .int i_3, .int i_4, .int i_5, .long j_0, .int i_6, .int i_7, .int i_8, .int i_9, .ref a_6, .ref a_7, .ref a_8, .ref a_9, .ref a_10, .ref a_11, .ref a_12, .ref a_13, .ref a_14, .ref a_15, .ref a_16, .ref a_17, .ref a_18, .int i_10, .int i_11, .int i_12, .int i_13, .int i_14, .int i_15, .ref a_19, .int i_16, .ref a_20])), (a_6, .inl (cy 1, 5, .inl (mm_g [i_17, i_17, i_19, i_20, i_21]))), (a_7, .inl (cy 1, 30, .inl (mm_g [i_22, i_23, i_24, i_25, i_26, i_27, i_22, i_23, i_24, i_25, i_26, i_27, i_34, i_35, i_36, i_37, i_38, i_39, i_40, i_41, i_42, i_43, i_44, i_45, i_46, i_47, i_48, i_49, i_50, i_51]))), (a_8, .inl (cy 1, 90, .inl n1)), (a_9, .inl (cy 1, 15, .inl n4)), (a_10, .inl (cy 1, 1050, .inl n7)), (a_11, .inl (cy 1, 30, .inl n10)), (a_12, .inl (cy 1, 240, .inl n13)), (a_13, .inl (cy 1, 450, .inl n16))] H) (hD : va_D A [(a_0, .inr (12, [.int i_0, .ref a_1, .ref a_2, .ref a_3, .ref a_4, .ref a_5, .int i_1, .int i_2, .int i_3, .int i_4, .int i_5, .long j_0, .int i_6, .int i_7, .int i_8, .int i_9, .ref a_6, .ref a_7, .ref a_8, .ref a_9, .ref a_10, .ref a_11, .ref a_12, .ref a_13, .ref a_14, .ref a_15, .ref a_16, .ref a_17, .ref a_18, .int i_10, .int i_11, .int i_12, .int i_13, .int i_14, .int i_15, .ref a_19, .int i_16, .ref a_20])), (a_6, .inl (cy 1, 5, .inl (mm_g [i_17, i_17, i_19, i_20, i_21]))), (a_7, .inl (cy 1, 30, .inl (mm_g [i_22, i_23, i_24, i_25, i_26, i_27, i_22, i_23, i_24, i_25, i_26, i_27, i_34, i_35, i_36, i_37, i_38, i_39, i_40, i_41, i_42, i_43, i_44, i_45, i_46, i_47, i_48, i_49, i_50, i_51]))), (a_8, .inl (cy 1, 90, .inl n1)), (a_9, .inl (cy 1, 15, .inl n4)), (a_10, .inl (cy 1, 1050, .inl n7)), (a_11, .inl (cy 1, 30, .inl n10)), (a_12, .inl (cy 1, 240, .inl n13)), (a_13, .inl (cy 1, 450, .inl n16))]) hS
  obtain ⟨w17, w18⟩ := hw
  have w19 : mm_rls n4 n7 0 i_24 i_25 := (mm_rls_ck h41 w6 w9 (by decide))
  have w20 : mm_txs n10 n13 0 i_24 i_26 := (mm_txs_ck h42 w12 w15 (by decide))
  have w21 : mm_acs n16 0 i_24 i_25 i_27 := (mm_acs_ck h43 w18 (by decide))
  have w22 : mm_rls n4 n7 1 i_24 i_25 := (mm_rls_cp h41 w6 w9)
  have w23 : mm_txs n10 n13 1 i_24 i_26 := (mm_txs_cp h42 w12 w15)
  have w24 : mm_acs n16 1 i_24 i_25 i_27 := (mm_acs_cp h43 w18)
  have w25 : mm_rls n4 n7 2 i_36 i_37 := (mm_rls_ck h49 w6 w9 (by decide))
  have w26 : mm_txs n10 n13 2 i_36 i_38 := (mm_txs_ck h50 w12 w15 (by decide))
  have w27 : mm_acs n16 2 i_36 i_37 i_39 := (mm_acs_ck h51 w18 (by decide))
  have w28 : mm_rls n4 n7 3 i_42 i_43 := (mm_rls_ck h53 w6 w9 (by decide))
  have w29 : mm_txs n10 n13 3 i_42 i_44 := (mm_txs_ck h54 w12 w15 (by decide))
  have w30 : mm_acs n16 3 i_42 i_43 i_45 := (mm_acs_ck h55 w18 (by decide))
  subst hAe
  rw [hQ]
  exact W.vret hx hb hr (fun t ht hW => ⟨⟨(n1, n4, n7, n10, n13, n16), rfl, ⟨w2, w5, w8, w11, w14, w17, w19, w20, w21, w22, w23, w24, w25, w26, w27, w28, w29, w30⟩, by rw [ht]; exact hP, hK.warm hW, hD⟩, hS.F ht⟩) hS.2.2 dX12_copyBook_87

set_option maxHeartbeats 4000000 in
set_option maxRecDepth 100000 in
theorem M332_X12_copyRow (l : Launch) (G : va_G) (cy : Nat → ClassId) (sz : Nat) (a_0 : Nat) (i_0 : Int32) (i_1 : Int32) (i_2 : Int32) (i_3 : Int32) (i_4 : Int32) (h0 : mm_rg i_0 0 601) (h1 : mm_rg i_1 0 601) (h2 : mm_rg i_2 0 601) (h3 : mm_rg i_3 0 601) (h4 : mm_rg i_4 0 601)  : mm_CV l yX12_copyRow (mm_ws yX12_copyRow cX12_copyRow 5 (none)) ({ frames := 0, cells := 0, slots := 0, locals := 0 } : Room) G cy sz [(a_0, .inl (cy 1, 5, .inl (mm_g [i_0, i_1, i_2, i_3, i_4])))] [.ref a_0, .int 1, .int 0, .int 2] (fun u : Unit => [(a_0, .inl (cy 1, 5, .inl (mm_g [i_0, i_1, i_0, i_3, i_4])))]) (fun u : Unit => True) 0 0 := by
  refine mm_begin (lv := [(0, .ref a_0), (1, .int 1), (2, .int 0), (3, .int 2)]) (by decide) (Nat.le_of_ble_eq_true rfl) rfl ?_
  intro p e s m below meth c A ls R args Q H locs hRe hQ hAe hx hb hr hlocks hml hown hnm hts hsz hA hS hP hK hD hZ hl
  have hRf : R.frames = 0 := by rw [hRe]
  have hRl : R.locals = 0 := by rw [hRe]
  have hRc : R.cells = 0 := by rw [hRe]
  have hRs : R.slots = 0 := by rw [hRe]
  refine lv_iconst (v := 0) hx hb dX12_copyRow_0 (by decide) ?_
  refine lv_istore (lv' := [(4, .int 0), (0, .ref a_0), (1, .int 1), (2, .int 0), (3, .int 2)]) hx hb dX12_copyRow_1 hl (by decide) rfl ?_
  clear hl
  clear ls
  intro ls hl
  refine lv_iload hx hb dX12_copyRow_3 (lv_at hl 0 rfl) ?_
  refine lv_iload_n hx hb dX12_copyRow_5 rfl (lv_at hl 2 rfl) ?_
  refine lv_icmp_ge (tgt := 31) hx hb dX12_copyRow_6 (by decide) (fun c1 => ?_) (fun c1 => ?_)
  · have q2 := mm_leL (mm_le c1) mm_k1 mm_k0
    exact mm_no q2 (by decide)
  · refine lv_aload_n hx hb dX12_copyRow_9 rfl (lv_at hl 1 rfl) ?_
    refine lv_iload_n hx hb dX12_copyRow_10 rfl (lv_at hl 2 rfl) ?_
    refine lv_iload_n hx hb dX12_copyRow_11 rfl (lv_at hl 4 rfl) ?_
    refine lv_imul hx hb dX12_copyRow_12 ?_
    refine lv_topi (fun v3 ev3 => ?_)
    obtain rfl : v3 = 2 := ev3.trans (by decide)
    refine lv_iload hx hb dX12_copyRow_13 (lv_at hl 0 rfl) ?_
    refine lv_iadd hx hb dX12_copyRow_15 ?_
    refine lv_topi (fun v4 ev4 => ?_)
    obtain rfl : v4 = 2 := ev4.trans (by decide)
    refine lv_aload_n hx hb dX12_copyRow_16 rfl (lv_at hl 1 rfl) ?_
    refine lv_iload_n hx hb dX12_copyRow_17 rfl (lv_at hl 2 rfl) ?_
    refine lv_iload_n hx hb dX12_copyRow_18 rfl (lv_at hl 3 rfl) ?_
    refine lv_imul hx hb dX12_copyRow_19 ?_
    refine lv_topi (fun v5 ev5 => ?_)
    obtain rfl : v5 = 0 := ev5.trans (by decide)
    refine lv_iload hx hb dX12_copyRow_20 (lv_at hl 0 rfl) ?_
    refine lv_iadd hx hb dX12_copyRow_22 ?_
    refine lv_topi (fun v6 ev6 => ?_)
    obtain rfl : v6 = 0 := ev6.trans (by decide)
    refine va_iald hx hb hK.1 hP 0 1 rfl rfl (mm_in mm_k0 (by decide)) dX12_copyRow_23 ?_
    rw [show (mm_g [i_0, i_1, i_2, i_3, i_4]) (0 : Int32).toNatClampNeg = i_0 from mm_ge 0 (by decide) rfl]
    refine va_iast hx hb hK.1 hP hD hS 0 1 rfl rfl (mm_in mm_k2 (by decide)) dX12_copyRow_24 ?_
    clear hP hD hS
    clear H locs
    rw [show upd (mm_g [i_0, i_1, i_2, i_3, i_4]) (2 : Int32).toNatClampNeg i_0 = (mm_g [i_0, i_1, i_0, i_3, i_4]) from mm_gs2 2 5 (by decide) rfl rfl rfl]
    intro H locs (hP : va_P G vwCl [(a_0, .inl (cy 1, 5, .inl (mm_g [i_0, i_1, i_0, i_3, i_4])))] H) (hD : va_D A [(a_0, .inl (cy 1, 5, .inl (mm_g [i_0, i_1, i_0, i_3, i_4])))]) hS
    refine lv_iinc (v := 1) (lv' := [(4, .int 1), (0, .ref a_0), (1, .int 1), (2, .int 0), (3, .int 2)]) hx hb dX12_copyRow_25 hl (k := 0) rfl (by decide) (by decide) rfl ?_
    clear hl
    clear ls
    intro ls hl
    refine lv_goto (tgt := 3) hx hb dX12_copyRow_28 (by decide) ?_
    refine lv_iload hx hb dX12_copyRow_3 (lv_at hl 0 rfl) ?_
    refine lv_iload_n hx hb dX12_copyRow_5 rfl (lv_at hl 2 rfl) ?_
    refine lv_icmp_ge (tgt := 31) hx hb dX12_copyRow_6 (by decide) (fun c7 => ?_) (fun c7 => ?_)
    · subst hAe
      rw [hQ]
      exact W.vret hx hb hr (fun t ht hW => ⟨⟨(), rfl, trivial, by rw [ht]; exact hP, hK.warm hW, hD⟩, hS.F ht⟩) hS.2.2 dX12_copyRow_31
    · have q8 := mm_ltL (h := 0) (mm_nle c7) mm_k1 mm_k1 (by decide)
      exact mm_no q8 (by decide)

set_option maxHeartbeats 4000000 in
set_option maxRecDepth 100000 in
theorem M333_X12_copyRow (l : Launch) (G : va_G) (cy : Nat → ClassId) (sz : Nat) (a_0 : Nat) (i_0 : Int32) (i_1 : Int32) (i_2 : Int32) (i_3 : Int32) (i_4 : Int32) (i_5 : Int32) (i_6 : Int32) (i_7 : Int32) (i_8 : Int32) (i_9 : Int32) (i_10 : Int32) (i_11 : Int32) (i_12 : Int32) (i_13 : Int32) (i_14 : Int32) (i_15 : Int32) (i_16 : Int32) (i_17 : Int32) (i_18 : Int32) (i_19 : Int32) (i_20 : Int32) (i_21 : Int32) (i_22 : Int32) (i_23 : Int32) (i_24 : Int32) (i_25 : Int32) (i_26 : Int32) (i_27 : Int32) (i_28 : Int32) (i_29 : Int32) (h0 : mm_rg i_0 0 10) (h1 : mm_rg i_1 0 99) (h2 : mm_rg i_2 0 9) (h3 : mm_rg i_3 0 3) (h4 : mm_rg i_4 0 6) (h5 : mm_rg i_5 0 30) (h6 : mm_rg i_6 0 10) (h7 : mm_rg i_7 0 99) (h8 : mm_rg i_8 0 9) (h9 : mm_rg i_9 0 3) (h10 : mm_rg i_10 0 6) (h11 : mm_rg i_11 0 30) (h12 : mm_rg i_12 0 10) (h13 : mm_rg i_13 0 99) (h14 : mm_rg i_14 0 9) (h15 : mm_rg i_15 0 3) (h16 : mm_rg i_16 0 6) (h17 : mm_rg i_17 0 30) (h18 : mm_rg i_18 0 10) (h19 : mm_rg i_19 0 99) (h20 : mm_rg i_20 0 9) (h21 : mm_rg i_21 0 3) (h22 : mm_rg i_22 0 6) (h23 : mm_rg i_23 0 30) (h24 : mm_rg i_24 0 10) (h25 : mm_rg i_25 0 99) (h26 : mm_rg i_26 0 9) (h27 : mm_rg i_27 0 3) (h28 : mm_rg i_28 0 6) (h29 : mm_rg i_29 0 30)  : mm_CV l yX12_copyRow (mm_ws yX12_copyRow cX12_copyRow 5 (none)) ({ frames := 0, cells := 0, slots := 0, locals := 0 } : Room) G cy sz [(a_0, .inl (cy 1, 30, .inl (mm_g [i_0, i_1, i_2, i_3, i_4, i_5, i_6, i_7, i_8, i_9, i_10, i_11, i_12, i_13, i_14, i_15, i_16, i_17, i_18, i_19, i_20, i_21, i_22, i_23, i_24, i_25, i_26, i_27, i_28, i_29])))] [.ref a_0, .int 6, .int 0, .int 2] (fun u : Unit => [(a_0, .inl (cy 1, 30, .inl (mm_g [i_0, i_1, i_2, i_3, i_4, i_5, i_6, i_7, i_8, i_9, i_10, i_11, i_0, i_1, i_2, i_3, i_4, i_5, i_18, i_19, i_20, i_21, i_22, i_23, i_24, i_25, i_26, i_27, i_28, i_29])))]) (fun u : Unit => True) 0 0 := by
  refine mm_begin (lv := [(0, .ref a_0), (1, .int 6), (2, .int 0), (3, .int 2)]) (by decide) (Nat.le_of_ble_eq_true rfl) rfl ?_
  intro p e s m below meth c A ls R args Q H locs hRe hQ hAe hx hb hr hlocks hml hown hnm hts hsz hA hS hP hK hD hZ hl
  have hRf : R.frames = 0 := by rw [hRe]
  have hRl : R.locals = 0 := by rw [hRe]
  have hRc : R.cells = 0 := by rw [hRe]
  have hRs : R.slots = 0 := by rw [hRe]
  refine lv_iconst (v := 0) hx hb dX12_copyRow_0 (by decide) ?_
  refine lv_istore (lv' := [(4, .int 0), (0, .ref a_0), (1, .int 6), (2, .int 0), (3, .int 2)]) hx hb dX12_copyRow_1 hl (by decide) rfl ?_
  clear hl
  clear ls
  intro ls hl
  refine lv_iload hx hb dX12_copyRow_3 (lv_at hl 0 rfl) ?_
  refine lv_iload_n hx hb dX12_copyRow_5 rfl (lv_at hl 2 rfl) ?_
  refine lv_icmp_ge (tgt := 31) hx hb dX12_copyRow_6 (by decide) (fun c1 => ?_) (fun c1 => ?_)
  · have q2 := mm_leL (mm_le c1) mm_k6 mm_k0
    exact mm_no q2 (by decide)
  · refine lv_aload_n hx hb dX12_copyRow_9 rfl (lv_at hl 1 rfl) ?_
    refine lv_iload_n hx hb dX12_copyRow_10 rfl (lv_at hl 2 rfl) ?_
    refine lv_iload_n hx hb dX12_copyRow_11 rfl (lv_at hl 4 rfl) ?_
    refine lv_imul hx hb dX12_copyRow_12 ?_
    refine lv_topi (fun v3 ev3 => ?_)
    obtain rfl : v3 = 12 := ev3.trans (by decide)
    refine lv_iload hx hb dX12_copyRow_13 (lv_at hl 0 rfl) ?_
    refine lv_iadd hx hb dX12_copyRow_15 ?_
    refine lv_topi (fun v4 ev4 => ?_)
    obtain rfl : v4 = 12 := ev4.trans (by decide)
    refine lv_aload_n hx hb dX12_copyRow_16 rfl (lv_at hl 1 rfl) ?_
    refine lv_iload_n hx hb dX12_copyRow_17 rfl (lv_at hl 2 rfl) ?_
    refine lv_iload_n hx hb dX12_copyRow_18 rfl (lv_at hl 3 rfl) ?_
    refine lv_imul hx hb dX12_copyRow_19 ?_
    refine lv_topi (fun v5 ev5 => ?_)
    obtain rfl : v5 = 0 := ev5.trans (by decide)
    refine lv_iload hx hb dX12_copyRow_20 (lv_at hl 0 rfl) ?_
    refine lv_iadd hx hb dX12_copyRow_22 ?_
    refine lv_topi (fun v6 ev6 => ?_)
    obtain rfl : v6 = 0 := ev6.trans (by decide)
    refine va_iald hx hb hK.1 hP 0 1 rfl rfl (mm_in mm_k0 (by decide)) dX12_copyRow_23 ?_
    rw [show (mm_g [i_0, i_1, i_2, i_3, i_4, i_5, i_6, i_7, i_8, i_9, i_10, i_11, i_12, i_13, i_14, i_15, i_16, i_17, i_18, i_19, i_20, i_21, i_22, i_23, i_24, i_25, i_26, i_27, i_28, i_29]) (0 : Int32).toNatClampNeg = i_0 from mm_ge 0 (by decide) rfl]
    refine va_iast hx hb hK.1 hP hD hS 0 1 rfl rfl (mm_in mm_k12 (by decide)) dX12_copyRow_24 ?_
    clear hP hD hS
    clear H locs
    rw [show upd (mm_g [i_0, i_1, i_2, i_3, i_4, i_5, i_6, i_7, i_8, i_9, i_10, i_11, i_12, i_13, i_14, i_15, i_16, i_17, i_18, i_19, i_20, i_21, i_22, i_23, i_24, i_25, i_26, i_27, i_28, i_29]) (12 : Int32).toNatClampNeg i_0 = (mm_g [i_0, i_1, i_2, i_3, i_4, i_5, i_6, i_7, i_8, i_9, i_10, i_11, i_0, i_13, i_14, i_15, i_16, i_17, i_18, i_19, i_20, i_21, i_22, i_23, i_24, i_25, i_26, i_27, i_28, i_29]) from mm_gs2 12 30 (by decide) rfl rfl rfl]
    intro H locs (hP : va_P G vwCl [(a_0, .inl (cy 1, 30, .inl (mm_g [i_0, i_1, i_2, i_3, i_4, i_5, i_6, i_7, i_8, i_9, i_10, i_11, i_0, i_13, i_14, i_15, i_16, i_17, i_18, i_19, i_20, i_21, i_22, i_23, i_24, i_25, i_26, i_27, i_28, i_29])))] H) (hD : va_D A [(a_0, .inl (cy 1, 30, .inl (mm_g [i_0, i_1, i_2, i_3, i_4, i_5, i_6, i_7, i_8, i_9, i_10, i_11, i_0, i_13, i_14, i_15, i_16, i_17, i_18, i_19, i_20, i_21, i_22, i_23, i_24, i_25, i_26, i_27, i_28, i_29])))]) hS
    refine lv_iinc (v := 1) (lv' := [(4, .int 1), (0, .ref a_0), (1, .int 6), (2, .int 0), (3, .int 2)]) hx hb dX12_copyRow_25 hl (k := 0) rfl (by decide) (by decide) rfl ?_
    clear hl
    clear ls
    intro ls hl
    refine lv_goto (tgt := 3) hx hb dX12_copyRow_28 (by decide) ?_
    refine lv_iload hx hb dX12_copyRow_3 (lv_at hl 0 rfl) ?_
    refine lv_iload_n hx hb dX12_copyRow_5 rfl (lv_at hl 2 rfl) ?_
    refine lv_icmp_ge (tgt := 31) hx hb dX12_copyRow_6 (by decide) (fun c7 => ?_) (fun c7 => ?_)
    · have q8 := mm_leL (mm_le c7) mm_k6 mm_k1
      exact mm_no q8 (by decide)
    · refine lv_aload_n hx hb dX12_copyRow_9 rfl (lv_at hl 1 rfl) ?_
      refine lv_iload_n hx hb dX12_copyRow_10 rfl (lv_at hl 2 rfl) ?_
      refine lv_iload_n hx hb dX12_copyRow_11 rfl (lv_at hl 4 rfl) ?_
      refine lv_imul hx hb dX12_copyRow_12 ?_
      refine lv_topi (fun v9 ev9 => ?_)
      obtain rfl : v9 = 12 := ev9.trans (by decide)
      refine lv_iload hx hb dX12_copyRow_13 (lv_at hl 0 rfl) ?_
      refine lv_iadd hx hb dX12_copyRow_15 ?_
      refine lv_topi (fun v10 ev10 => ?_)
      obtain rfl : v10 = 13 := ev10.trans (by decide)
      refine lv_aload_n hx hb dX12_copyRow_16 rfl (lv_at hl 1 rfl) ?_
      refine lv_iload_n hx hb dX12_copyRow_17 rfl (lv_at hl 2 rfl) ?_
      refine lv_iload_n hx hb dX12_copyRow_18 rfl (lv_at hl 3 rfl) ?_
      refine lv_imul hx hb dX12_copyRow_19 ?_
      refine lv_topi (fun v11 ev11 => ?_)
      obtain rfl : v11 = 0 := ev11.trans (by decide)
      refine lv_iload hx hb dX12_copyRow_20 (lv_at hl 0 rfl) ?_
      refine lv_iadd hx hb dX12_copyRow_22 ?_
      refine lv_topi (fun v12 ev12 => ?_)
      obtain rfl : v12 = 1 := ev12.trans (by decide)
      refine va_iald hx hb hK.1 hP 0 1 rfl rfl (mm_in mm_k1 (by decide)) dX12_copyRow_23 ?_
      rw [show (mm_g [i_0, i_1, i_2, i_3, i_4, i_5, i_6, i_7, i_8, i_9, i_10, i_11, i_0, i_13, i_14, i_15, i_16, i_17, i_18, i_19, i_20, i_21, i_22, i_23, i_24, i_25, i_26, i_27, i_28, i_29]) (1 : Int32).toNatClampNeg = i_1 from mm_ge 1 (by decide) rfl]
      refine va_iast hx hb hK.1 hP hD hS 0 1 rfl rfl (mm_in mm_k13 (by decide)) dX12_copyRow_24 ?_
      clear hP hD hS
      clear H locs
      rw [show upd (mm_g [i_0, i_1, i_2, i_3, i_4, i_5, i_6, i_7, i_8, i_9, i_10, i_11, i_0, i_13, i_14, i_15, i_16, i_17, i_18, i_19, i_20, i_21, i_22, i_23, i_24, i_25, i_26, i_27, i_28, i_29]) (13 : Int32).toNatClampNeg i_1 = (mm_g [i_0, i_1, i_2, i_3, i_4, i_5, i_6, i_7, i_8, i_9, i_10, i_11, i_0, i_1, i_14, i_15, i_16, i_17, i_18, i_19, i_20, i_21, i_22, i_23, i_24, i_25, i_26, i_27, i_28, i_29]) from mm_gs2 13 30 (by decide) rfl rfl rfl]
      intro H locs (hP : va_P G vwCl [(a_0, .inl (cy 1, 30, .inl (mm_g [i_0, i_1, i_2, i_3, i_4, i_5, i_6, i_7, i_8, i_9, i_10, i_11, i_0, i_1, i_14, i_15, i_16, i_17, i_18, i_19, i_20, i_21, i_22, i_23, i_24, i_25, i_26, i_27, i_28, i_29])))] H) (hD : va_D A [(a_0, .inl (cy 1, 30, .inl (mm_g [i_0, i_1, i_2, i_3, i_4, i_5, i_6, i_7, i_8, i_9, i_10, i_11, i_0, i_1, i_14, i_15, i_16, i_17, i_18, i_19, i_20, i_21, i_22, i_23, i_24, i_25, i_26, i_27, i_28, i_29])))]) hS
      refine lv_iinc (v := 2) (lv' := [(4, .int 2), (0, .ref a_0), (1, .int 6), (2, .int 0), (3, .int 2)]) hx hb dX12_copyRow_25 hl (k := 0) rfl (by decide) (by decide) rfl ?_
      clear hl
      clear ls
      intro ls hl
      refine lv_goto (tgt := 3) hx hb dX12_copyRow_28 (by decide) ?_
      refine lv_iload hx hb dX12_copyRow_3 (lv_at hl 0 rfl) ?_
      refine lv_iload_n hx hb dX12_copyRow_5 rfl (lv_at hl 2 rfl) ?_
      refine lv_icmp_ge (tgt := 31) hx hb dX12_copyRow_6 (by decide) (fun c13 => ?_) (fun c13 => ?_)
      · have q14 := mm_leL (mm_le c13) mm_k6 mm_k2
        exact mm_no q14 (by decide)
      · refine lv_aload_n hx hb dX12_copyRow_9 rfl (lv_at hl 1 rfl) ?_
        refine lv_iload_n hx hb dX12_copyRow_10 rfl (lv_at hl 2 rfl) ?_
        refine lv_iload_n hx hb dX12_copyRow_11 rfl (lv_at hl 4 rfl) ?_
        refine lv_imul hx hb dX12_copyRow_12 ?_
        refine lv_topi (fun v15 ev15 => ?_)
        obtain rfl : v15 = 12 := ev15.trans (by decide)
        refine lv_iload hx hb dX12_copyRow_13 (lv_at hl 0 rfl) ?_
        refine lv_iadd hx hb dX12_copyRow_15 ?_
        refine lv_topi (fun v16 ev16 => ?_)
        obtain rfl : v16 = 14 := ev16.trans (by decide)
        refine lv_aload_n hx hb dX12_copyRow_16 rfl (lv_at hl 1 rfl) ?_
        refine lv_iload_n hx hb dX12_copyRow_17 rfl (lv_at hl 2 rfl) ?_
        refine lv_iload_n hx hb dX12_copyRow_18 rfl (lv_at hl 3 rfl) ?_
        refine lv_imul hx hb dX12_copyRow_19 ?_
        refine lv_topi (fun v17 ev17 => ?_)
        obtain rfl : v17 = 0 := ev17.trans (by decide)
        refine lv_iload hx hb dX12_copyRow_20 (lv_at hl 0 rfl) ?_
        refine lv_iadd hx hb dX12_copyRow_22 ?_
        refine lv_topi (fun v18 ev18 => ?_)
        obtain rfl : v18 = 2 := ev18.trans (by decide)
        refine va_iald hx hb hK.1 hP 0 1 rfl rfl (mm_in mm_k2 (by decide)) dX12_copyRow_23 ?_
        rw [show (mm_g [i_0, i_1, i_2, i_3, i_4, i_5, i_6, i_7, i_8, i_9, i_10, i_11, i_0, i_1, i_14, i_15, i_16, i_17, i_18, i_19, i_20, i_21, i_22, i_23, i_24, i_25, i_26, i_27, i_28, i_29]) (2 : Int32).toNatClampNeg = i_2 from mm_ge 2 (by decide) rfl]
        refine va_iast hx hb hK.1 hP hD hS 0 1 rfl rfl (mm_in mm_k14 (by decide)) dX12_copyRow_24 ?_
        clear hP hD hS
        clear H locs
        rw [show upd (mm_g [i_0, i_1, i_2, i_3, i_4, i_5, i_6, i_7, i_8, i_9, i_10, i_11, i_0, i_1, i_14, i_15, i_16, i_17, i_18, i_19, i_20, i_21, i_22, i_23, i_24, i_25, i_26, i_27, i_28, i_29]) (14 : Int32).toNatClampNeg i_2 = (mm_g [i_0, i_1, i_2, i_3, i_4, i_5, i_6, i_7, i_8, i_9, i_10, i_11, i_0, i_1, i_2, i_15, i_16, i_17, i_18, i_19, i_20, i_21, i_22, i_23, i_24, i_25, i_26, i_27, i_28, i_29]) from mm_gs2 14 30 (by decide) rfl rfl rfl]
        intro H locs (hP : va_P G vwCl [(a_0, .inl (cy 1, 30, .inl (mm_g [i_0, i_1, i_2, i_3, i_4, i_5, i_6, i_7, i_8, i_9, i_10, i_11, i_0, i_1, i_2, i_15, i_16, i_17, i_18, i_19, i_20, i_21, i_22, i_23, i_24, i_25, i_26, i_27, i_28, i_29])))] H) (hD : va_D A [(a_0, .inl (cy 1, 30, .inl (mm_g [i_0, i_1, i_2, i_3, i_4, i_5, i_6, i_7, i_8, i_9, i_10, i_11, i_0, i_1, i_2, i_15, i_16, i_17, i_18, i_19, i_20, i_21, i_22, i_23, i_24, i_25, i_26, i_27, i_28, i_29])))]) hS
        refine lv_iinc (v := 3) (lv' := [(4, .int 3), (0, .ref a_0), (1, .int 6), (2, .int 0), (3, .int 2)]) hx hb dX12_copyRow_25 hl (k := 0) rfl (by decide) (by decide) rfl ?_
        clear hl
        clear ls
        intro ls hl
        refine lv_goto (tgt := 3) hx hb dX12_copyRow_28 (by decide) ?_
        refine lv_iload hx hb dX12_copyRow_3 (lv_at hl 0 rfl) ?_
        refine lv_iload_n hx hb dX12_copyRow_5 rfl (lv_at hl 2 rfl) ?_
        refine lv_icmp_ge (tgt := 31) hx hb dX12_copyRow_6 (by decide) (fun c19 => ?_) (fun c19 => ?_)
        · have q20 := mm_leL (mm_le c19) mm_k6 mm_k3
          exact mm_no q20 (by decide)
        · refine lv_aload_n hx hb dX12_copyRow_9 rfl (lv_at hl 1 rfl) ?_
          refine lv_iload_n hx hb dX12_copyRow_10 rfl (lv_at hl 2 rfl) ?_
          refine lv_iload_n hx hb dX12_copyRow_11 rfl (lv_at hl 4 rfl) ?_
          refine lv_imul hx hb dX12_copyRow_12 ?_
          refine lv_topi (fun v21 ev21 => ?_)
          obtain rfl : v21 = 12 := ev21.trans (by decide)
          refine lv_iload hx hb dX12_copyRow_13 (lv_at hl 0 rfl) ?_
          refine lv_iadd hx hb dX12_copyRow_15 ?_
          refine lv_topi (fun v22 ev22 => ?_)
          obtain rfl : v22 = 15 := ev22.trans (by decide)
          refine lv_aload_n hx hb dX12_copyRow_16 rfl (lv_at hl 1 rfl) ?_
          refine lv_iload_n hx hb dX12_copyRow_17 rfl (lv_at hl 2 rfl) ?_
          refine lv_iload_n hx hb dX12_copyRow_18 rfl (lv_at hl 3 rfl) ?_
          refine lv_imul hx hb dX12_copyRow_19 ?_
          refine lv_topi (fun v23 ev23 => ?_)
          obtain rfl : v23 = 0 := ev23.trans (by decide)
          refine lv_iload hx hb dX12_copyRow_20 (lv_at hl 0 rfl) ?_
          refine lv_iadd hx hb dX12_copyRow_22 ?_
          refine lv_topi (fun v24 ev24 => ?_)
          obtain rfl : v24 = 3 := ev24.trans (by decide)
          refine va_iald hx hb hK.1 hP 0 1 rfl rfl (mm_in mm_k3 (by decide)) dX12_copyRow_23 ?_
          rw [show (mm_g [i_0, i_1, i_2, i_3, i_4, i_5, i_6, i_7, i_8, i_9, i_10, i_11, i_0, i_1, i_2, i_15, i_16, i_17, i_18, i_19, i_20, i_21, i_22, i_23, i_24, i_25, i_26, i_27, i_28, i_29]) (3 : Int32).toNatClampNeg = i_3 from mm_ge 3 (by decide) rfl]
          refine va_iast hx hb hK.1 hP hD hS 0 1 rfl rfl (mm_in mm_k15 (by decide)) dX12_copyRow_24 ?_
          clear hP hD hS
          clear H locs
          rw [show upd (mm_g [i_0, i_1, i_2, i_3, i_4, i_5, i_6, i_7, i_8, i_9, i_10, i_11, i_0, i_1, i_2, i_15, i_16, i_17, i_18, i_19, i_20, i_21, i_22, i_23, i_24, i_25, i_26, i_27, i_28, i_29]) (15 : Int32).toNatClampNeg i_3 = (mm_g [i_0, i_1, i_2, i_3, i_4, i_5, i_6, i_7, i_8, i_9, i_10, i_11, i_0, i_1, i_2, i_3, i_16, i_17, i_18, i_19, i_20, i_21, i_22, i_23, i_24, i_25, i_26, i_27, i_28, i_29]) from mm_gs2 15 30 (by decide) rfl rfl rfl]
          intro H locs (hP : va_P G vwCl [(a_0, .inl (cy 1, 30, .inl (mm_g [i_0, i_1, i_2, i_3, i_4, i_5, i_6, i_7, i_8, i_9, i_10, i_11, i_0, i_1, i_2, i_3, i_16, i_17, i_18, i_19, i_20, i_21, i_22, i_23, i_24, i_25, i_26, i_27, i_28, i_29])))] H) (hD : va_D A [(a_0, .inl (cy 1, 30, .inl (mm_g [i_0, i_1, i_2, i_3, i_4, i_5, i_6, i_7, i_8, i_9, i_10, i_11, i_0, i_1, i_2, i_3, i_16, i_17, i_18, i_19, i_20, i_21, i_22, i_23, i_24, i_25, i_26, i_27, i_28, i_29])))]) hS
          refine lv_iinc (v := 4) (lv' := [(4, .int 4), (0, .ref a_0), (1, .int 6), (2, .int 0), (3, .int 2)]) hx hb dX12_copyRow_25 hl (k := 0) rfl (by decide) (by decide) rfl ?_
          clear hl
          clear ls
          intro ls hl
          refine lv_goto (tgt := 3) hx hb dX12_copyRow_28 (by decide) ?_
          refine lv_iload hx hb dX12_copyRow_3 (lv_at hl 0 rfl) ?_
          refine lv_iload_n hx hb dX12_copyRow_5 rfl (lv_at hl 2 rfl) ?_
          refine lv_icmp_ge (tgt := 31) hx hb dX12_copyRow_6 (by decide) (fun c25 => ?_) (fun c25 => ?_)
          · have q26 := mm_leL (mm_le c25) mm_k6 mm_k4
            exact mm_no q26 (by decide)
          · refine lv_aload_n hx hb dX12_copyRow_9 rfl (lv_at hl 1 rfl) ?_
            refine lv_iload_n hx hb dX12_copyRow_10 rfl (lv_at hl 2 rfl) ?_
            refine lv_iload_n hx hb dX12_copyRow_11 rfl (lv_at hl 4 rfl) ?_
            refine lv_imul hx hb dX12_copyRow_12 ?_
            refine lv_topi (fun v27 ev27 => ?_)
            obtain rfl : v27 = 12 := ev27.trans (by decide)
            refine lv_iload hx hb dX12_copyRow_13 (lv_at hl 0 rfl) ?_
            refine lv_iadd hx hb dX12_copyRow_15 ?_
            refine lv_topi (fun v28 ev28 => ?_)
            obtain rfl : v28 = 16 := ev28.trans (by decide)
            refine lv_aload_n hx hb dX12_copyRow_16 rfl (lv_at hl 1 rfl) ?_
            refine lv_iload_n hx hb dX12_copyRow_17 rfl (lv_at hl 2 rfl) ?_
            refine lv_iload_n hx hb dX12_copyRow_18 rfl (lv_at hl 3 rfl) ?_
            refine lv_imul hx hb dX12_copyRow_19 ?_
            refine lv_topi (fun v29 ev29 => ?_)
            obtain rfl : v29 = 0 := ev29.trans (by decide)
            refine lv_iload hx hb dX12_copyRow_20 (lv_at hl 0 rfl) ?_
            refine lv_iadd hx hb dX12_copyRow_22 ?_
            refine lv_topi (fun v30 ev30 => ?_)
            obtain rfl : v30 = 4 := ev30.trans (by decide)
            refine va_iald hx hb hK.1 hP 0 1 rfl rfl (mm_in mm_k4 (by decide)) dX12_copyRow_23 ?_
            rw [show (mm_g [i_0, i_1, i_2, i_3, i_4, i_5, i_6, i_7, i_8, i_9, i_10, i_11, i_0, i_1, i_2, i_3, i_16, i_17, i_18, i_19, i_20, i_21, i_22, i_23, i_24, i_25, i_26, i_27, i_28, i_29]) (4 : Int32).toNatClampNeg = i_4 from mm_ge 4 (by decide) rfl]
            refine va_iast hx hb hK.1 hP hD hS 0 1 rfl rfl (mm_in mm_k16 (by decide)) dX12_copyRow_24 ?_
            clear hP hD hS
            clear H locs
            rw [show upd (mm_g [i_0, i_1, i_2, i_3, i_4, i_5, i_6, i_7, i_8, i_9, i_10, i_11, i_0, i_1, i_2, i_3, i_16, i_17, i_18, i_19, i_20, i_21, i_22, i_23, i_24, i_25, i_26, i_27, i_28, i_29]) (16 : Int32).toNatClampNeg i_4 = (mm_g [i_0, i_1, i_2, i_3, i_4, i_5, i_6, i_7, i_8, i_9, i_10, i_11, i_0, i_1, i_2, i_3, i_4, i_17, i_18, i_19, i_20, i_21, i_22, i_23, i_24, i_25, i_26, i_27, i_28, i_29]) from mm_gs2 16 30 (by decide) rfl rfl rfl]
            intro H locs (hP : va_P G vwCl [(a_0, .inl (cy 1, 30, .inl (mm_g [i_0, i_1, i_2, i_3, i_4, i_5, i_6, i_7, i_8, i_9, i_10, i_11, i_0, i_1, i_2, i_3, i_4, i_17, i_18, i_19, i_20, i_21, i_22, i_23, i_24, i_25, i_26, i_27, i_28, i_29])))] H) (hD : va_D A [(a_0, .inl (cy 1, 30, .inl (mm_g [i_0, i_1, i_2, i_3, i_4, i_5, i_6, i_7, i_8, i_9, i_10, i_11, i_0, i_1, i_2, i_3, i_4, i_17, i_18, i_19, i_20, i_21, i_22, i_23, i_24, i_25, i_26, i_27, i_28, i_29])))]) hS
            refine lv_iinc (v := 5) (lv' := [(4, .int 5), (0, .ref a_0), (1, .int 6), (2, .int 0), (3, .int 2)]) hx hb dX12_copyRow_25 hl (k := 0) rfl (by decide) (by decide) rfl ?_
            clear hl
            clear ls
            intro ls hl
            refine lv_goto (tgt := 3) hx hb dX12_copyRow_28 (by decide) ?_
            refine lv_iload hx hb dX12_copyRow_3 (lv_at hl 0 rfl) ?_
            refine lv_iload_n hx hb dX12_copyRow_5 rfl (lv_at hl 2 rfl) ?_
            refine lv_icmp_ge (tgt := 31) hx hb dX12_copyRow_6 (by decide) (fun c31 => ?_) (fun c31 => ?_)
            · have q32 := mm_leL (mm_le c31) mm_k6 mm_k5
              exact mm_no q32 (by decide)
            · refine lv_aload_n hx hb dX12_copyRow_9 rfl (lv_at hl 1 rfl) ?_
              refine lv_iload_n hx hb dX12_copyRow_10 rfl (lv_at hl 2 rfl) ?_
              refine lv_iload_n hx hb dX12_copyRow_11 rfl (lv_at hl 4 rfl) ?_
              refine lv_imul hx hb dX12_copyRow_12 ?_
              refine lv_topi (fun v33 ev33 => ?_)
              obtain rfl : v33 = 12 := ev33.trans (by decide)
              refine lv_iload hx hb dX12_copyRow_13 (lv_at hl 0 rfl) ?_
              refine lv_iadd hx hb dX12_copyRow_15 ?_
              refine lv_topi (fun v34 ev34 => ?_)
              obtain rfl : v34 = 17 := ev34.trans (by decide)
              refine lv_aload_n hx hb dX12_copyRow_16 rfl (lv_at hl 1 rfl) ?_
              refine lv_iload_n hx hb dX12_copyRow_17 rfl (lv_at hl 2 rfl) ?_
              refine lv_iload_n hx hb dX12_copyRow_18 rfl (lv_at hl 3 rfl) ?_
              refine lv_imul hx hb dX12_copyRow_19 ?_
              refine lv_topi (fun v35 ev35 => ?_)
              obtain rfl : v35 = 0 := ev35.trans (by decide)
              refine lv_iload hx hb dX12_copyRow_20 (lv_at hl 0 rfl) ?_
              refine lv_iadd hx hb dX12_copyRow_22 ?_
              refine lv_topi (fun v36 ev36 => ?_)
              obtain rfl : v36 = 5 := ev36.trans (by decide)
              refine va_iald hx hb hK.1 hP 0 1 rfl rfl (mm_in mm_k5 (by decide)) dX12_copyRow_23 ?_
              rw [show (mm_g [i_0, i_1, i_2, i_3, i_4, i_5, i_6, i_7, i_8, i_9, i_10, i_11, i_0, i_1, i_2, i_3, i_4, i_17, i_18, i_19, i_20, i_21, i_22, i_23, i_24, i_25, i_26, i_27, i_28, i_29]) (5 : Int32).toNatClampNeg = i_5 from mm_ge 5 (by decide) rfl]
              refine va_iast hx hb hK.1 hP hD hS 0 1 rfl rfl (mm_in mm_k17 (by decide)) dX12_copyRow_24 ?_
              clear hP hD hS
              clear H locs
              rw [show upd (mm_g [i_0, i_1, i_2, i_3, i_4, i_5, i_6, i_7, i_8, i_9, i_10, i_11, i_0, i_1, i_2, i_3, i_4, i_17, i_18, i_19, i_20, i_21, i_22, i_23, i_24, i_25, i_26, i_27, i_28, i_29]) (17 : Int32).toNatClampNeg i_5 = (mm_g [i_0, i_1, i_2, i_3, i_4, i_5, i_6, i_7, i_8, i_9, i_10, i_11, i_0, i_1, i_2, i_3, i_4, i_5, i_18, i_19, i_20, i_21, i_22, i_23, i_24, i_25, i_26, i_27, i_28, i_29]) from mm_gs2 17 30 (by decide) rfl rfl rfl]
              intro H locs (hP : va_P G vwCl [(a_0, .inl (cy 1, 30, .inl (mm_g [i_0, i_1, i_2, i_3, i_4, i_5, i_6, i_7, i_8, i_9, i_10, i_11, i_0, i_1, i_2, i_3, i_4, i_5, i_18, i_19, i_20, i_21, i_22, i_23, i_24, i_25, i_26, i_27, i_28, i_29])))] H) (hD : va_D A [(a_0, .inl (cy 1, 30, .inl (mm_g [i_0, i_1, i_2, i_3, i_4, i_5, i_6, i_7, i_8, i_9, i_10, i_11, i_0, i_1, i_2, i_3, i_4, i_5, i_18, i_19, i_20, i_21, i_22, i_23, i_24, i_25, i_26, i_27, i_28, i_29])))]) hS
              refine lv_iinc (v := 6) (lv' := [(4, .int 6), (0, .ref a_0), (1, .int 6), (2, .int 0), (3, .int 2)]) hx hb dX12_copyRow_25 hl (k := 0) rfl (by decide) (by decide) rfl ?_
              clear hl
              clear ls
              intro ls hl
              refine lv_goto (tgt := 3) hx hb dX12_copyRow_28 (by decide) ?_
              refine lv_iload hx hb dX12_copyRow_3 (lv_at hl 0 rfl) ?_
              refine lv_iload_n hx hb dX12_copyRow_5 rfl (lv_at hl 2 rfl) ?_
              refine lv_icmp_ge (tgt := 31) hx hb dX12_copyRow_6 (by decide) (fun c37 => ?_) (fun c37 => ?_)
              · subst hAe
                rw [hQ]
                exact W.vret hx hb hr (fun t ht hW => ⟨⟨(), rfl, trivial, by rw [ht]; exact hP, hK.warm hW, hD⟩, hS.F ht⟩) hS.2.2 dX12_copyRow_31
              · have q38 := mm_ltL (h := 5) (mm_nle c37) mm_k6 mm_k6 (by decide)
                exact mm_no q38 (by decide)

set_option maxHeartbeats 4000000 in
set_option maxRecDepth 100000 in
theorem M334_X12_copyRow (l : Launch) (G : va_G) (cy : Nat → ClassId) (sz : Nat) (a_0 : Nat) (f_0 : Nat → Int32) (h0 : mm_ar f_0 0 99)  : mm_CV l yX12_copyRow (mm_ws yX12_copyRow cX12_copyRow 5 (none)) ({ frames := 0, cells := 0, slots := 0, locals := 0 } : Room) G cy sz [(a_0, .inl (cy 1, 90, .inl f_0))] [.ref a_0, .int 18, .int 0, .int 2] (fun u : (Nat → Int32) => [(a_0, .inl (cy 1, 90, .inl u))]) (fun u : (Nat → Int32) => mm_ar u 0 99 ∧ mm_crw f_0 u 18 0 2) 0 0 := by
  refine mm_begin (lv := [(0, .ref a_0), (1, .int 18), (2, .int 0), (3, .int 2)]) (by decide) (Nat.le_of_ble_eq_true rfl) rfl ?_
  intro p e s m below meth c A ls R args Q H locs hRe hQ hAe hx hb hr hlocks hml hown hnm hts hsz hA hS hP hK hD hZ hl
  have hRf : R.frames = 0 := by rw [hRe]
  have hRl : R.locals = 0 := by rw [hRe]
  have hRc : R.cells = 0 := by rw [hRe]
  have hRs : R.slots = 0 := by rw [hRe]
  refine lv_iconst (v := 0) hx hb dX12_copyRow_0 (by decide) ?_
  refine lv_istore (lv' := [(4, .int 0), (0, .ref a_0), (1, .int 18), (2, .int 0), (3, .int 2)]) hx hb dX12_copyRow_1 hl (by decide) rfl ?_
  clear hl
  clear ls
  intro ls hl
  have L3_130 : ∀ (n : Nat) (x3_4_128 : Int32) (z3_0_129 : Nat → Int32), mm_rg x3_4_128 0 18 → mm_ar z3_0_129 0 99 → mm_crk f_0 z3_0_129 18 0 2 x3_4_128 → (18 - x3_4_128.toInt).toNat < n → ∀ (H : Heap) (locs : List Loc), va_P G vwCl [(a_0, .inl (cy 1, 90, .inl z3_0_129))] H → va_D A [(a_0, .inl (cy 1, 90, .inl z3_0_129))] → va_S A s.heap H locs → ∀ (ls : Array Slot), lv_has ls 5 [(4, .int x3_4_128), (0, .ref a_0), (1, .int 18), (2, .int 0), (3, .int 2)] → W p l e R s m args below meth c H locs 0 0 Q (F0 m 3 ls []) := by
    intro n
    induction n with
    | zero => intro x3_4_128 z3_0_129 rx3_4_128 rz3_0_129 w130 hm; exact absurd hm (Nat.not_lt_zero _)
    | succ n ih3 =>
      intro x3_4_128 z3_0_129 rx3_4_128 rz3_0_129 w130 hm3 H locs hP hD hS ls hl
      refine lv_iload hx hb dX12_copyRow_3 (lv_at hl 0 rfl) ?_
      refine lv_iload_n hx hb dX12_copyRow_5 rfl (lv_at hl 2 rfl) ?_
      refine lv_icmp_ge (tgt := 31) hx hb dX12_copyRow_6 (by decide) (fun c132 => ?_) (fun c132 => ?_)
      · have q133 := mm_leR (mm_le c132) mm_k18 rx3_4_128
        have w134 : mm_crw f_0 z3_0_129 18 0 2 := (mm_crw_of w130 q133 (by decide))
        subst hAe
        rw [hQ]
        exact W.vret hx hb hr (fun t ht hW => ⟨⟨z3_0_129, rfl, ⟨rz3_0_129, w134⟩, by rw [ht]; exact hP, hK.warm hW, hD⟩, hS.F ht⟩) hS.2.2 dX12_copyRow_31
      · have q135 := mm_ltL (h := 17) (mm_nle c132) rx3_4_128 mm_k18 (by decide)
        refine lv_aload_n hx hb dX12_copyRow_9 rfl (lv_at hl 1 rfl) ?_
        refine lv_iload_n hx hb dX12_copyRow_10 rfl (lv_at hl 2 rfl) ?_
        refine lv_iload_n hx hb dX12_copyRow_11 rfl (lv_at hl 4 rfl) ?_
        refine lv_imul hx hb dX12_copyRow_12 ?_
        refine lv_topi (fun v136 ev136 => ?_)
        obtain rfl : v136 = 36 := ev136.trans (by decide)
        refine lv_iload hx hb dX12_copyRow_13 (lv_at hl 0 rfl) ?_
        refine lv_iadd hx hb dX12_copyRow_15 ?_
        refine lv_topi (fun v137 ev137 => ?_)
        have rv137 : mm_rg v137 36 53 := mm_add ev137 mm_k36 q135 (by decide) (by decide)
        have tv137 := mm_addEd ev137 mm_k36 q135 (by decide) (k := 36) (by decide)
        refine lv_aload_n hx hb dX12_copyRow_16 rfl (lv_at hl 1 rfl) ?_
        refine lv_iload_n hx hb dX12_copyRow_17 rfl (lv_at hl 2 rfl) ?_
        refine lv_iload_n hx hb dX12_copyRow_18 rfl (lv_at hl 3 rfl) ?_
        refine lv_imul hx hb dX12_copyRow_19 ?_
        refine lv_topi (fun v138 ev138 => ?_)
        obtain rfl : v138 = 0 := ev138.trans (by decide)
        refine lv_iload hx hb dX12_copyRow_20 (lv_at hl 0 rfl) ?_
        refine lv_iadd hx hb dX12_copyRow_22 ?_
        refine lv_topi (fun v139 ev139 => ?_)
        have rv139 : mm_rg v139 0 17 := mm_add ev139 mm_k0 q135 (by decide) (by decide)
        have tv139 := mm_addEd ev139 mm_k0 q135 (by decide) (k := 0) (by decide)
        refine va_iald hx hb hK.1 hP 0 1 rfl rfl (mm_in rv139 (by decide)) dX12_copyRow_23 ?_
        refine lv_topi (fun v140 ev140 => ?_)
        have rv140 : mm_rg v140 0 99 := mm_eqv ev140 (rz3_0_129 _)
        refine va_iast hx hb hK.1 hP hD hS 0 1 rfl rfl (mm_in rv137 (by decide)) dX12_copyRow_24 ?_
        clear hP hD hS
        clear H locs
        obtain ⟨g141, eg141⟩ : ∃ z : Nat → Int32, z = upd z3_0_129 v137.toNatClampNeg v140 := ⟨_, rfl⟩
        rw [← eg141]
        intro H locs (hP : va_P G vwCl [(a_0, .inl (cy 1, 90, .inl g141))] H) (hD : va_D A [(a_0, .inl (cy 1, 90, .inl g141))]) hS
        have rg141 : mm_ar g141 0 99 := by rw [eg141]; exact mm_ar_upd (mm_ar_wk rz3_0_129 (by decide)) (mm_wk rv140 (by decide)) _
        obtain ⟨v142, ev142⟩ : ∃ y : Int32, y = x3_4_128 + 1 := ⟨_, rfl⟩
        refine lv_iinc (v := v142) (lv' := [(4, .int v142), (0, .ref a_0), (1, .int 18), (2, .int 0), (3, .int 2)]) hx hb dX12_copyRow_25 hl (k := 0) rfl (by rw [ev142]; rfl) (by decide) rfl ?_
        clear hl
        clear ls
        intro ls hl
        have rv142 : mm_rg v142 1 18 := mm_add ev142 q135 mm_k1 (by decide) (by decide)
        have tv142 := mm_addEc ev142 q135 mm_k1 (by decide) (k := 1) (by decide)
        refine lv_goto (tgt := 3) hx hb dX12_copyRow_28 (by decide) ?_
        exact ih3 v142 g141 (mm_wk rv142 (by decide)) rg141 (mm_crk_s w130 tv142 q135 eg141 ev140 (by have := tv137; omega) (by have := tv139; omega) (by decide)) (mm_mu hm3 tv142 (by decide) (rv142).2 (by decide)) H locs hP hD hS ls (lv_sub hl [0, 1, 2, 3, 4] rfl)
  exact L3_130 _ 0 f_0 (mm_wk mm_k0 (by decide)) h0 (mm_crk_0 _ _ _ _) (Nat.lt_succ_self _) H locs hP hD hS ls (lv_sub hl [0, 1, 2, 3, 4] rfl)

set_option maxHeartbeats 4000000 in
set_option maxRecDepth 100000 in
theorem M335_X12_copyRow (l : Launch) (G : va_G) (cy : Nat → ClassId) (sz : Nat) (a_0 : Nat) (f_0 : Nat → Int32) (h0 : mm_ar f_0 0 7)  : mm_CV l yX12_copyRow (mm_ws yX12_copyRow cX12_copyRow 5 (none)) ({ frames := 0, cells := 0, slots := 0, locals := 0 } : Room) G cy sz [(a_0, .inl (cy 1, 15, .inl f_0))] [.ref a_0, .int 3, .int 0, .int 2] (fun u : (Nat → Int32) => [(a_0, .inl (cy 1, 15, .inl u))]) (fun u : (Nat → Int32) => mm_ar u 0 7 ∧ mm_crw f_0 u 3 0 2) 0 0 := by
  refine mm_begin (lv := [(0, .ref a_0), (1, .int 3), (2, .int 0), (3, .int 2)]) (by decide) (Nat.le_of_ble_eq_true rfl) rfl ?_
  intro p e s m below meth c A ls R args Q H locs hRe hQ hAe hx hb hr hlocks hml hown hnm hts hsz hA hS hP hK hD hZ hl
  have hRf : R.frames = 0 := by rw [hRe]
  have hRl : R.locals = 0 := by rw [hRe]
  have hRc : R.cells = 0 := by rw [hRe]
  have hRs : R.slots = 0 := by rw [hRe]
  refine lv_iconst (v := 0) hx hb dX12_copyRow_0 (by decide) ?_
  refine lv_istore (lv' := [(4, .int 0), (0, .ref a_0), (1, .int 3), (2, .int 0), (3, .int 2)]) hx hb dX12_copyRow_1 hl (by decide) rfl ?_
  clear hl
  clear ls
  intro ls hl
  have L3_48 : ∀ (n : Nat) (x3_4_46 : Int32) (z3_0_47 : Nat → Int32), mm_rg x3_4_46 0 3 → mm_ar z3_0_47 0 7 → mm_crk f_0 z3_0_47 3 0 2 x3_4_46 → (3 - x3_4_46.toInt).toNat < n → ∀ (H : Heap) (locs : List Loc), va_P G vwCl [(a_0, .inl (cy 1, 15, .inl z3_0_47))] H → va_D A [(a_0, .inl (cy 1, 15, .inl z3_0_47))] → va_S A s.heap H locs → ∀ (ls : Array Slot), lv_has ls 5 [(4, .int x3_4_46), (0, .ref a_0), (1, .int 3), (2, .int 0), (3, .int 2)] → W p l e R s m args below meth c H locs 0 0 Q (F0 m 3 ls []) := by
    intro n
    induction n with
    | zero => intro x3_4_46 z3_0_47 rx3_4_46 rz3_0_47 w48 hm; exact absurd hm (Nat.not_lt_zero _)
    | succ n ih3 =>
      intro x3_4_46 z3_0_47 rx3_4_46 rz3_0_47 w48 hm3 H locs hP hD hS ls hl
      refine lv_iload hx hb dX12_copyRow_3 (lv_at hl 0 rfl) ?_
      refine lv_iload_n hx hb dX12_copyRow_5 rfl (lv_at hl 2 rfl) ?_
      refine lv_icmp_ge (tgt := 31) hx hb dX12_copyRow_6 (by decide) (fun c50 => ?_) (fun c50 => ?_)
      · have q51 := mm_leR (mm_le c50) mm_k3 rx3_4_46
        have w52 : mm_crw f_0 z3_0_47 3 0 2 := (mm_crw_of w48 q51 (by decide))
        subst hAe
        rw [hQ]
        exact W.vret hx hb hr (fun t ht hW => ⟨⟨z3_0_47, rfl, ⟨rz3_0_47, w52⟩, by rw [ht]; exact hP, hK.warm hW, hD⟩, hS.F ht⟩) hS.2.2 dX12_copyRow_31
      · have q53 := mm_ltL (h := 2) (mm_nle c50) rx3_4_46 mm_k3 (by decide)
        refine lv_aload_n hx hb dX12_copyRow_9 rfl (lv_at hl 1 rfl) ?_
        refine lv_iload_n hx hb dX12_copyRow_10 rfl (lv_at hl 2 rfl) ?_
        refine lv_iload_n hx hb dX12_copyRow_11 rfl (lv_at hl 4 rfl) ?_
        refine lv_imul hx hb dX12_copyRow_12 ?_
        refine lv_topi (fun v54 ev54 => ?_)
        obtain rfl : v54 = 6 := ev54.trans (by decide)
        refine lv_iload hx hb dX12_copyRow_13 (lv_at hl 0 rfl) ?_
        refine lv_iadd hx hb dX12_copyRow_15 ?_
        refine lv_topi (fun v55 ev55 => ?_)
        have rv55 : mm_rg v55 6 8 := mm_add ev55 mm_k6 q53 (by decide) (by decide)
        have tv55 := mm_addEd ev55 mm_k6 q53 (by decide) (k := 6) (by decide)
        refine lv_aload_n hx hb dX12_copyRow_16 rfl (lv_at hl 1 rfl) ?_
        refine lv_iload_n hx hb dX12_copyRow_17 rfl (lv_at hl 2 rfl) ?_
        refine lv_iload_n hx hb dX12_copyRow_18 rfl (lv_at hl 3 rfl) ?_
        refine lv_imul hx hb dX12_copyRow_19 ?_
        refine lv_topi (fun v56 ev56 => ?_)
        obtain rfl : v56 = 0 := ev56.trans (by decide)
        refine lv_iload hx hb dX12_copyRow_20 (lv_at hl 0 rfl) ?_
        refine lv_iadd hx hb dX12_copyRow_22 ?_
        refine lv_topi (fun v57 ev57 => ?_)
        have rv57 : mm_rg v57 0 2 := mm_add ev57 mm_k0 q53 (by decide) (by decide)
        have tv57 := mm_addEd ev57 mm_k0 q53 (by decide) (k := 0) (by decide)
        refine va_iald hx hb hK.1 hP 0 1 rfl rfl (mm_in rv57 (by decide)) dX12_copyRow_23 ?_
        refine lv_topi (fun v58 ev58 => ?_)
        have rv58 : mm_rg v58 0 7 := mm_eqv ev58 (rz3_0_47 _)
        refine va_iast hx hb hK.1 hP hD hS 0 1 rfl rfl (mm_in rv55 (by decide)) dX12_copyRow_24 ?_
        clear hP hD hS
        clear H locs
        obtain ⟨g59, eg59⟩ : ∃ z : Nat → Int32, z = upd z3_0_47 v55.toNatClampNeg v58 := ⟨_, rfl⟩
        rw [← eg59]
        intro H locs (hP : va_P G vwCl [(a_0, .inl (cy 1, 15, .inl g59))] H) (hD : va_D A [(a_0, .inl (cy 1, 15, .inl g59))]) hS
        have rg59 : mm_ar g59 0 7 := by rw [eg59]; exact mm_ar_upd (mm_ar_wk rz3_0_47 (by decide)) (mm_wk rv58 (by decide)) _
        obtain ⟨v60, ev60⟩ : ∃ y : Int32, y = x3_4_46 + 1 := ⟨_, rfl⟩
        refine lv_iinc (v := v60) (lv' := [(4, .int v60), (0, .ref a_0), (1, .int 3), (2, .int 0), (3, .int 2)]) hx hb dX12_copyRow_25 hl (k := 0) rfl (by rw [ev60]; rfl) (by decide) rfl ?_
        clear hl
        clear ls
        intro ls hl
        have rv60 : mm_rg v60 1 3 := mm_add ev60 q53 mm_k1 (by decide) (by decide)
        have tv60 := mm_addEc ev60 q53 mm_k1 (by decide) (k := 1) (by decide)
        refine lv_goto (tgt := 3) hx hb dX12_copyRow_28 (by decide) ?_
        exact ih3 v60 g59 (mm_wk rv60 (by decide)) rg59 (mm_crk_s w48 tv60 q53 eg59 ev58 (by have := tv55; omega) (by have := tv57; omega) (by decide)) (mm_mu hm3 tv60 (by decide) (rv60).2 (by decide)) H locs hP hD hS ls (lv_sub hl [0, 1, 2, 3, 4] rfl)
  exact L3_48 _ 0 f_0 (mm_wk mm_k0 (by decide)) h0 (mm_crk_0 _ _ _ _) (Nat.lt_succ_self _) H locs hP hD hS ls (lv_sub hl [0, 1, 2, 3, 4] rfl)

set_option maxHeartbeats 4000000 in
set_option maxRecDepth 100000 in
theorem M336_X12_copyRow (l : Launch) (G : va_G) (cy : Nat → ClassId) (sz : Nat) (a_0 : Nat) (f_0 : Nat → Int32) (h0 : mm_ar f_0 0 9)  : mm_CV l yX12_copyRow (mm_ws yX12_copyRow cX12_copyRow 5 (none)) ({ frames := 0, cells := 0, slots := 0, locals := 0 } : Room) G cy sz [(a_0, .inl (cy 1, 1050, .inl f_0))] [.ref a_0, .int 210, .int 0, .int 2] (fun u : (Nat → Int32) => [(a_0, .inl (cy 1, 1050, .inl u))]) (fun u : (Nat → Int32) => mm_ar u 0 9 ∧ mm_crw f_0 u 210 0 2) 0 0 := by
  refine mm_begin (lv := [(0, .ref a_0), (1, .int 210), (2, .int 0), (3, .int 2)]) (by decide) (Nat.le_of_ble_eq_true rfl) rfl ?_
  intro p e s m below meth c A ls R args Q H locs hRe hQ hAe hx hb hr hlocks hml hown hnm hts hsz hA hS hP hK hD hZ hl
  have hRf : R.frames = 0 := by rw [hRe]
  have hRl : R.locals = 0 := by rw [hRe]
  have hRc : R.cells = 0 := by rw [hRe]
  have hRs : R.slots = 0 := by rw [hRe]
  refine lv_iconst (v := 0) hx hb dX12_copyRow_0 (by decide) ?_
  refine lv_istore (lv' := [(4, .int 0), (0, .ref a_0), (1, .int 210), (2, .int 0), (3, .int 2)]) hx hb dX12_copyRow_1 hl (by decide) rfl ?_
  clear hl
  clear ls
  intro ls hl
  have L3_148 : ∀ (n : Nat) (x3_4_146 : Int32) (z3_0_147 : Nat → Int32), mm_rg x3_4_146 0 210 → mm_ar z3_0_147 0 9 → mm_crk f_0 z3_0_147 210 0 2 x3_4_146 → (210 - x3_4_146.toInt).toNat < n → ∀ (H : Heap) (locs : List Loc), va_P G vwCl [(a_0, .inl (cy 1, 1050, .inl z3_0_147))] H → va_D A [(a_0, .inl (cy 1, 1050, .inl z3_0_147))] → va_S A s.heap H locs → ∀ (ls : Array Slot), lv_has ls 5 [(4, .int x3_4_146), (0, .ref a_0), (1, .int 210), (2, .int 0), (3, .int 2)] → W p l e R s m args below meth c H locs 0 0 Q (F0 m 3 ls []) := by
    intro n
    induction n with
    | zero => intro x3_4_146 z3_0_147 rx3_4_146 rz3_0_147 w148 hm; exact absurd hm (Nat.not_lt_zero _)
    | succ n ih3 =>
      intro x3_4_146 z3_0_147 rx3_4_146 rz3_0_147 w148 hm3 H locs hP hD hS ls hl
      refine lv_iload hx hb dX12_copyRow_3 (lv_at hl 0 rfl) ?_
      refine lv_iload_n hx hb dX12_copyRow_5 rfl (lv_at hl 2 rfl) ?_
      refine lv_icmp_ge (tgt := 31) hx hb dX12_copyRow_6 (by decide) (fun c150 => ?_) (fun c150 => ?_)
      · have q151 := mm_leR (mm_le c150) mm_k210 rx3_4_146
        have w152 : mm_crw f_0 z3_0_147 210 0 2 := (mm_crw_of w148 q151 (by decide))
        subst hAe
        rw [hQ]
        exact W.vret hx hb hr (fun t ht hW => ⟨⟨z3_0_147, rfl, ⟨rz3_0_147, w152⟩, by rw [ht]; exact hP, hK.warm hW, hD⟩, hS.F ht⟩) hS.2.2 dX12_copyRow_31
      · have q153 := mm_ltL (h := 209) (mm_nle c150) rx3_4_146 mm_k210 (by decide)
        refine lv_aload_n hx hb dX12_copyRow_9 rfl (lv_at hl 1 rfl) ?_
        refine lv_iload_n hx hb dX12_copyRow_10 rfl (lv_at hl 2 rfl) ?_
        refine lv_iload_n hx hb dX12_copyRow_11 rfl (lv_at hl 4 rfl) ?_
        refine lv_imul hx hb dX12_copyRow_12 ?_
        refine lv_topi (fun v154 ev154 => ?_)
        obtain rfl : v154 = 420 := ev154.trans (by decide)
        refine lv_iload hx hb dX12_copyRow_13 (lv_at hl 0 rfl) ?_
        refine lv_iadd hx hb dX12_copyRow_15 ?_
        refine lv_topi (fun v155 ev155 => ?_)
        have rv155 : mm_rg v155 420 629 := mm_add ev155 mm_k420 q153 (by decide) (by decide)
        have tv155 := mm_addEd ev155 mm_k420 q153 (by decide) (k := 420) (by decide)
        refine lv_aload_n hx hb dX12_copyRow_16 rfl (lv_at hl 1 rfl) ?_
        refine lv_iload_n hx hb dX12_copyRow_17 rfl (lv_at hl 2 rfl) ?_
        refine lv_iload_n hx hb dX12_copyRow_18 rfl (lv_at hl 3 rfl) ?_
        refine lv_imul hx hb dX12_copyRow_19 ?_
        refine lv_topi (fun v156 ev156 => ?_)
        obtain rfl : v156 = 0 := ev156.trans (by decide)
        refine lv_iload hx hb dX12_copyRow_20 (lv_at hl 0 rfl) ?_
        refine lv_iadd hx hb dX12_copyRow_22 ?_
        refine lv_topi (fun v157 ev157 => ?_)
        have rv157 : mm_rg v157 0 209 := mm_add ev157 mm_k0 q153 (by decide) (by decide)
        have tv157 := mm_addEd ev157 mm_k0 q153 (by decide) (k := 0) (by decide)
        refine va_iald hx hb hK.1 hP 0 1 rfl rfl (mm_in rv157 (by decide)) dX12_copyRow_23 ?_
        refine lv_topi (fun v158 ev158 => ?_)
        have rv158 : mm_rg v158 0 9 := mm_eqv ev158 (rz3_0_147 _)
        refine va_iast hx hb hK.1 hP hD hS 0 1 rfl rfl (mm_in rv155 (by decide)) dX12_copyRow_24 ?_
        clear hP hD hS
        clear H locs
        obtain ⟨g159, eg159⟩ : ∃ z : Nat → Int32, z = upd z3_0_147 v155.toNatClampNeg v158 := ⟨_, rfl⟩
        rw [← eg159]
        intro H locs (hP : va_P G vwCl [(a_0, .inl (cy 1, 1050, .inl g159))] H) (hD : va_D A [(a_0, .inl (cy 1, 1050, .inl g159))]) hS
        have rg159 : mm_ar g159 0 9 := by rw [eg159]; exact mm_ar_upd (mm_ar_wk rz3_0_147 (by decide)) (mm_wk rv158 (by decide)) _
        obtain ⟨v160, ev160⟩ : ∃ y : Int32, y = x3_4_146 + 1 := ⟨_, rfl⟩
        refine lv_iinc (v := v160) (lv' := [(4, .int v160), (0, .ref a_0), (1, .int 210), (2, .int 0), (3, .int 2)]) hx hb dX12_copyRow_25 hl (k := 0) rfl (by rw [ev160]; rfl) (by decide) rfl ?_
        clear hl
        clear ls
        intro ls hl
        have rv160 : mm_rg v160 1 210 := mm_add ev160 q153 mm_k1 (by decide) (by decide)
        have tv160 := mm_addEc ev160 q153 mm_k1 (by decide) (k := 1) (by decide)
        refine lv_goto (tgt := 3) hx hb dX12_copyRow_28 (by decide) ?_
        exact ih3 v160 g159 (mm_wk rv160 (by decide)) rg159 (mm_crk_s w148 tv160 q153 eg159 ev158 (by have := tv155; omega) (by have := tv157; omega) (by decide)) (mm_mu hm3 tv160 (by decide) (rv160).2 (by decide)) H locs hP hD hS ls (lv_sub hl [0, 1, 2, 3, 4] rfl)
  exact L3_148 _ 0 f_0 (mm_wk mm_k0 (by decide)) h0 (mm_crk_0 _ _ _ _) (Nat.lt_succ_self _) H locs hP hD hS ls (lv_sub hl [0, 1, 2, 3, 4] rfl)

set_option maxHeartbeats 4000000 in
set_option maxRecDepth 100000 in
theorem M337_X12_copyRow (l : Launch) (G : va_G) (cy : Nat → ClassId) (sz : Nat) (a_0 : Nat) (f_0 : Nat → Int32) (h0 : mm_ar f_0 0 8)  : mm_CV l yX12_copyRow (mm_ws yX12_copyRow cX12_copyRow 5 (none)) ({ frames := 0, cells := 0, slots := 0, locals := 0 } : Room) G cy sz [(a_0, .inl (cy 1, 30, .inl f_0))] [.ref a_0, .int 6, .int 0, .int 2] (fun u : (Nat → Int32) => [(a_0, .inl (cy 1, 30, .inl u))]) (fun u : (Nat → Int32) => mm_ar u 0 8 ∧ mm_crw f_0 u 6 0 2) 0 0 := by
  refine mm_begin (lv := [(0, .ref a_0), (1, .int 6), (2, .int 0), (3, .int 2)]) (by decide) (Nat.le_of_ble_eq_true rfl) rfl ?_
  intro p e s m below meth c A ls R args Q H locs hRe hQ hAe hx hb hr hlocks hml hown hnm hts hsz hA hS hP hK hD hZ hl
  have hRf : R.frames = 0 := by rw [hRe]
  have hRl : R.locals = 0 := by rw [hRe]
  have hRc : R.cells = 0 := by rw [hRe]
  have hRs : R.slots = 0 := by rw [hRe]
  refine lv_iconst (v := 0) hx hb dX12_copyRow_0 (by decide) ?_
  refine lv_istore (lv' := [(4, .int 0), (0, .ref a_0), (1, .int 6), (2, .int 0), (3, .int 2)]) hx hb dX12_copyRow_1 hl (by decide) rfl ?_
  clear hl
  clear ls
  intro ls hl
  have L3_75 : ∀ (n : Nat) (x3_4_73 : Int32) (z3_0_74 : Nat → Int32), mm_rg x3_4_73 0 6 → mm_ar z3_0_74 0 8 → mm_crk f_0 z3_0_74 6 0 2 x3_4_73 → (6 - x3_4_73.toInt).toNat < n → ∀ (H : Heap) (locs : List Loc), va_P G vwCl [(a_0, .inl (cy 1, 30, .inl z3_0_74))] H → va_D A [(a_0, .inl (cy 1, 30, .inl z3_0_74))] → va_S A s.heap H locs → ∀ (ls : Array Slot), lv_has ls 5 [(4, .int x3_4_73), (0, .ref a_0), (1, .int 6), (2, .int 0), (3, .int 2)] → W p l e R s m args below meth c H locs 0 0 Q (F0 m 3 ls []) := by
    intro n
    induction n with
    | zero => intro x3_4_73 z3_0_74 rx3_4_73 rz3_0_74 w75 hm; exact absurd hm (Nat.not_lt_zero _)
    | succ n ih3 =>
      intro x3_4_73 z3_0_74 rx3_4_73 rz3_0_74 w75 hm3 H locs hP hD hS ls hl
      refine lv_iload hx hb dX12_copyRow_3 (lv_at hl 0 rfl) ?_
      refine lv_iload_n hx hb dX12_copyRow_5 rfl (lv_at hl 2 rfl) ?_
      refine lv_icmp_ge (tgt := 31) hx hb dX12_copyRow_6 (by decide) (fun c77 => ?_) (fun c77 => ?_)
      · have q78 := mm_leR (mm_le c77) mm_k6 rx3_4_73
        have w79 : mm_crw f_0 z3_0_74 6 0 2 := (mm_crw_of w75 q78 (by decide))
        subst hAe
        rw [hQ]
        exact W.vret hx hb hr (fun t ht hW => ⟨⟨z3_0_74, rfl, ⟨rz3_0_74, w79⟩, by rw [ht]; exact hP, hK.warm hW, hD⟩, hS.F ht⟩) hS.2.2 dX12_copyRow_31
      · have q80 := mm_ltL (h := 5) (mm_nle c77) rx3_4_73 mm_k6 (by decide)
        refine lv_aload_n hx hb dX12_copyRow_9 rfl (lv_at hl 1 rfl) ?_
        refine lv_iload_n hx hb dX12_copyRow_10 rfl (lv_at hl 2 rfl) ?_
        refine lv_iload_n hx hb dX12_copyRow_11 rfl (lv_at hl 4 rfl) ?_
        refine lv_imul hx hb dX12_copyRow_12 ?_
        refine lv_topi (fun v81 ev81 => ?_)
        obtain rfl : v81 = 12 := ev81.trans (by decide)
        refine lv_iload hx hb dX12_copyRow_13 (lv_at hl 0 rfl) ?_
        refine lv_iadd hx hb dX12_copyRow_15 ?_
        refine lv_topi (fun v82 ev82 => ?_)
        have rv82 : mm_rg v82 12 17 := mm_add ev82 mm_k12 q80 (by decide) (by decide)
        have tv82 := mm_addEd ev82 mm_k12 q80 (by decide) (k := 12) (by decide)
        refine lv_aload_n hx hb dX12_copyRow_16 rfl (lv_at hl 1 rfl) ?_
        refine lv_iload_n hx hb dX12_copyRow_17 rfl (lv_at hl 2 rfl) ?_
        refine lv_iload_n hx hb dX12_copyRow_18 rfl (lv_at hl 3 rfl) ?_
        refine lv_imul hx hb dX12_copyRow_19 ?_
        refine lv_topi (fun v83 ev83 => ?_)
        obtain rfl : v83 = 0 := ev83.trans (by decide)
        refine lv_iload hx hb dX12_copyRow_20 (lv_at hl 0 rfl) ?_
        refine lv_iadd hx hb dX12_copyRow_22 ?_
        refine lv_topi (fun v84 ev84 => ?_)
        have rv84 : mm_rg v84 0 5 := mm_add ev84 mm_k0 q80 (by decide) (by decide)
        have tv84 := mm_addEd ev84 mm_k0 q80 (by decide) (k := 0) (by decide)
        refine va_iald hx hb hK.1 hP 0 1 rfl rfl (mm_in rv84 (by decide)) dX12_copyRow_23 ?_
        refine lv_topi (fun v85 ev85 => ?_)
        have rv85 : mm_rg v85 0 8 := mm_eqv ev85 (rz3_0_74 _)
        refine va_iast hx hb hK.1 hP hD hS 0 1 rfl rfl (mm_in rv82 (by decide)) dX12_copyRow_24 ?_
        clear hP hD hS
        clear H locs
        obtain ⟨g86, eg86⟩ : ∃ z : Nat → Int32, z = upd z3_0_74 v82.toNatClampNeg v85 := ⟨_, rfl⟩
        rw [← eg86]
        intro H locs (hP : va_P G vwCl [(a_0, .inl (cy 1, 30, .inl g86))] H) (hD : va_D A [(a_0, .inl (cy 1, 30, .inl g86))]) hS
        have rg86 : mm_ar g86 0 8 := by rw [eg86]; exact mm_ar_upd (mm_ar_wk rz3_0_74 (by decide)) (mm_wk rv85 (by decide)) _
        obtain ⟨v87, ev87⟩ : ∃ y : Int32, y = x3_4_73 + 1 := ⟨_, rfl⟩
        refine lv_iinc (v := v87) (lv' := [(4, .int v87), (0, .ref a_0), (1, .int 6), (2, .int 0), (3, .int 2)]) hx hb dX12_copyRow_25 hl (k := 0) rfl (by rw [ev87]; rfl) (by decide) rfl ?_
        clear hl
        clear ls
        intro ls hl
        have rv87 : mm_rg v87 1 6 := mm_add ev87 q80 mm_k1 (by decide) (by decide)
        have tv87 := mm_addEc ev87 q80 mm_k1 (by decide) (k := 1) (by decide)
        refine lv_goto (tgt := 3) hx hb dX12_copyRow_28 (by decide) ?_
        exact ih3 v87 g86 (mm_wk rv87 (by decide)) rg86 (mm_crk_s w75 tv87 q80 eg86 ev85 (by have := tv82; omega) (by have := tv84; omega) (by decide)) (mm_mu hm3 tv87 (by decide) (rv87).2 (by decide)) H locs hP hD hS ls (lv_sub hl [0, 1, 2, 3, 4] rfl)
  exact L3_75 _ 0 f_0 (mm_wk mm_k0 (by decide)) h0 (mm_crk_0 _ _ _ _) (Nat.lt_succ_self _) H locs hP hD hS ls (lv_sub hl [0, 1, 2, 3, 4] rfl)

set_option maxHeartbeats 4000000 in
set_option maxRecDepth 100000 in
theorem M338_X12_copyRow (l : Launch) (G : va_G) (cy : Nat → ClassId) (sz : Nat) (a_0 : Nat) (f_0 : Nat → Int32) (h0 : mm_ar f_0 0 9)  : mm_CV l yX12_copyRow (mm_ws yX12_copyRow cX12_copyRow 5 (none)) ({ frames := 0, cells := 0, slots := 0, locals := 0 } : Room) G cy sz [(a_0, .inl (cy 1, 240, .inl f_0))] [.ref a_0, .int 48, .int 0, .int 2] (fun u : (Nat → Int32) => [(a_0, .inl (cy 1, 240, .inl u))]) (fun u : (Nat → Int32) => mm_ar u 0 9 ∧ mm_crw f_0 u 48 0 2) 0 0 := by
  refine mm_begin (lv := [(0, .ref a_0), (1, .int 48), (2, .int 0), (3, .int 2)]) (by decide) (Nat.le_of_ble_eq_true rfl) rfl ?_
  intro p e s m below meth c A ls R args Q H locs hRe hQ hAe hx hb hr hlocks hml hown hnm hts hsz hA hS hP hK hD hZ hl
  have hRf : R.frames = 0 := by rw [hRe]
  have hRl : R.locals = 0 := by rw [hRe]
  have hRc : R.cells = 0 := by rw [hRe]
  have hRs : R.slots = 0 := by rw [hRe]
  refine lv_iconst (v := 0) hx hb dX12_copyRow_0 (by decide) ?_
  refine lv_istore (lv' := [(4, .int 0), (0, .ref a_0), (1, .int 48), (2, .int 0), (3, .int 2)]) hx hb dX12_copyRow_1 hl (by decide) rfl ?_
  clear hl
  clear ls
  intro ls hl
  have L3_130 : ∀ (n : Nat) (x3_4_128 : Int32) (z3_0_129 : Nat → Int32), mm_rg x3_4_128 0 48 → mm_ar z3_0_129 0 9 → mm_crk f_0 z3_0_129 48 0 2 x3_4_128 → (48 - x3_4_128.toInt).toNat < n → ∀ (H : Heap) (locs : List Loc), va_P G vwCl [(a_0, .inl (cy 1, 240, .inl z3_0_129))] H → va_D A [(a_0, .inl (cy 1, 240, .inl z3_0_129))] → va_S A s.heap H locs → ∀ (ls : Array Slot), lv_has ls 5 [(4, .int x3_4_128), (0, .ref a_0), (1, .int 48), (2, .int 0), (3, .int 2)] → W p l e R s m args below meth c H locs 0 0 Q (F0 m 3 ls []) := by
    intro n
    induction n with
    | zero => intro x3_4_128 z3_0_129 rx3_4_128 rz3_0_129 w130 hm; exact absurd hm (Nat.not_lt_zero _)
    | succ n ih3 =>
      intro x3_4_128 z3_0_129 rx3_4_128 rz3_0_129 w130 hm3 H locs hP hD hS ls hl
      refine lv_iload hx hb dX12_copyRow_3 (lv_at hl 0 rfl) ?_
      refine lv_iload_n hx hb dX12_copyRow_5 rfl (lv_at hl 2 rfl) ?_
      refine lv_icmp_ge (tgt := 31) hx hb dX12_copyRow_6 (by decide) (fun c132 => ?_) (fun c132 => ?_)
      · have q133 := mm_leR (mm_le c132) mm_k48 rx3_4_128
        have w134 : mm_crw f_0 z3_0_129 48 0 2 := (mm_crw_of w130 q133 (by decide))
        subst hAe
        rw [hQ]
        exact W.vret hx hb hr (fun t ht hW => ⟨⟨z3_0_129, rfl, ⟨rz3_0_129, w134⟩, by rw [ht]; exact hP, hK.warm hW, hD⟩, hS.F ht⟩) hS.2.2 dX12_copyRow_31
      · have q135 := mm_ltL (h := 47) (mm_nle c132) rx3_4_128 mm_k48 (by decide)
        refine lv_aload_n hx hb dX12_copyRow_9 rfl (lv_at hl 1 rfl) ?_
        refine lv_iload_n hx hb dX12_copyRow_10 rfl (lv_at hl 2 rfl) ?_
        refine lv_iload_n hx hb dX12_copyRow_11 rfl (lv_at hl 4 rfl) ?_
        refine lv_imul hx hb dX12_copyRow_12 ?_
        refine lv_topi (fun v136 ev136 => ?_)
        obtain rfl : v136 = 96 := ev136.trans (by decide)
        refine lv_iload hx hb dX12_copyRow_13 (lv_at hl 0 rfl) ?_
        refine lv_iadd hx hb dX12_copyRow_15 ?_
        refine lv_topi (fun v137 ev137 => ?_)
        have rv137 : mm_rg v137 96 143 := mm_add ev137 mm_k96 q135 (by decide) (by decide)
        have tv137 := mm_addEd ev137 mm_k96 q135 (by decide) (k := 96) (by decide)
        refine lv_aload_n hx hb dX12_copyRow_16 rfl (lv_at hl 1 rfl) ?_
        refine lv_iload_n hx hb dX12_copyRow_17 rfl (lv_at hl 2 rfl) ?_
        refine lv_iload_n hx hb dX12_copyRow_18 rfl (lv_at hl 3 rfl) ?_
        refine lv_imul hx hb dX12_copyRow_19 ?_
        refine lv_topi (fun v138 ev138 => ?_)
        obtain rfl : v138 = 0 := ev138.trans (by decide)
        refine lv_iload hx hb dX12_copyRow_20 (lv_at hl 0 rfl) ?_
        refine lv_iadd hx hb dX12_copyRow_22 ?_
        refine lv_topi (fun v139 ev139 => ?_)
        have rv139 : mm_rg v139 0 47 := mm_add ev139 mm_k0 q135 (by decide) (by decide)
        have tv139 := mm_addEd ev139 mm_k0 q135 (by decide) (k := 0) (by decide)
        refine va_iald hx hb hK.1 hP 0 1 rfl rfl (mm_in rv139 (by decide)) dX12_copyRow_23 ?_
        refine lv_topi (fun v140 ev140 => ?_)
        have rv140 : mm_rg v140 0 9 := mm_eqv ev140 (rz3_0_129 _)
        refine va_iast hx hb hK.1 hP hD hS 0 1 rfl rfl (mm_in rv137 (by decide)) dX12_copyRow_24 ?_
        clear hP hD hS
        clear H locs
        obtain ⟨g141, eg141⟩ : ∃ z : Nat → Int32, z = upd z3_0_129 v137.toNatClampNeg v140 := ⟨_, rfl⟩
        rw [← eg141]
        intro H locs (hP : va_P G vwCl [(a_0, .inl (cy 1, 240, .inl g141))] H) (hD : va_D A [(a_0, .inl (cy 1, 240, .inl g141))]) hS
        have rg141 : mm_ar g141 0 9 := by rw [eg141]; exact mm_ar_upd (mm_ar_wk rz3_0_129 (by decide)) (mm_wk rv140 (by decide)) _
        obtain ⟨v142, ev142⟩ : ∃ y : Int32, y = x3_4_128 + 1 := ⟨_, rfl⟩
        refine lv_iinc (v := v142) (lv' := [(4, .int v142), (0, .ref a_0), (1, .int 48), (2, .int 0), (3, .int 2)]) hx hb dX12_copyRow_25 hl (k := 0) rfl (by rw [ev142]; rfl) (by decide) rfl ?_
        clear hl
        clear ls
        intro ls hl
        have rv142 : mm_rg v142 1 48 := mm_add ev142 q135 mm_k1 (by decide) (by decide)
        have tv142 := mm_addEc ev142 q135 mm_k1 (by decide) (k := 1) (by decide)
        refine lv_goto (tgt := 3) hx hb dX12_copyRow_28 (by decide) ?_
        exact ih3 v142 g141 (mm_wk rv142 (by decide)) rg141 (mm_crk_s w130 tv142 q135 eg141 ev140 (by have := tv137; omega) (by have := tv139; omega) (by decide)) (mm_mu hm3 tv142 (by decide) (rv142).2 (by decide)) H locs hP hD hS ls (lv_sub hl [0, 1, 2, 3, 4] rfl)
  exact L3_130 _ 0 f_0 (mm_wk mm_k0 (by decide)) h0 (mm_crk_0 _ _ _ _) (Nat.lt_succ_self _) H locs hP hD hS ls (lv_sub hl [0, 1, 2, 3, 4] rfl)

set_option maxHeartbeats 4000000 in
set_option maxRecDepth 100000 in
theorem M339_X12_copyRow (l : Launch) (G : va_G) (cy : Nat → ClassId) (sz : Nat) (a_0 : Nat) (f_0 : Nat → Int32) (h0 : mm_ar f_0 (-1) 99)  : mm_CV l yX12_copyRow (mm_ws yX12_copyRow cX12_copyRow 5 (none)) ({ frames := 0, cells := 0, slots := 0, locals := 0 } : Room) G cy sz [(a_0, .inl (cy 1, 450, .inl f_0))] [.ref a_0, .int 90, .int 0, .int 2] (fun u : (Nat → Int32) => [(a_0, .inl (cy 1, 450, .inl u))]) (fun u : (Nat → Int32) => mm_ar u (-1) 99 ∧ mm_crw f_0 u 90 0 2) 0 0 := by
  refine mm_begin (lv := [(0, .ref a_0), (1, .int 90), (2, .int 0), (3, .int 2)]) (by decide) (Nat.le_of_ble_eq_true rfl) rfl ?_
  intro p e s m below meth c A ls R args Q H locs hRe hQ hAe hx hb hr hlocks hml hown hnm hts hsz hA hS hP hK hD hZ hl
  have hRf : R.frames = 0 := by rw [hRe]
  have hRl : R.locals = 0 := by rw [hRe]
  have hRc : R.cells = 0 := by rw [hRe]
  have hRs : R.slots = 0 := by rw [hRe]
  refine lv_iconst (v := 0) hx hb dX12_copyRow_0 (by decide) ?_
  refine lv_istore (lv' := [(4, .int 0), (0, .ref a_0), (1, .int 90), (2, .int 0), (3, .int 2)]) hx hb dX12_copyRow_1 hl (by decide) rfl ?_
  clear hl
  clear ls
  intro ls hl
  have L3_139 : ∀ (n : Nat) (x3_4_137 : Int32) (z3_0_138 : Nat → Int32), mm_rg x3_4_137 0 90 → mm_ar z3_0_138 (-1) 99 → mm_crk f_0 z3_0_138 90 0 2 x3_4_137 → (90 - x3_4_137.toInt).toNat < n → ∀ (H : Heap) (locs : List Loc), va_P G vwCl [(a_0, .inl (cy 1, 450, .inl z3_0_138))] H → va_D A [(a_0, .inl (cy 1, 450, .inl z3_0_138))] → va_S A s.heap H locs → ∀ (ls : Array Slot), lv_has ls 5 [(4, .int x3_4_137), (0, .ref a_0), (1, .int 90), (2, .int 0), (3, .int 2)] → W p l e R s m args below meth c H locs 0 0 Q (F0 m 3 ls []) := by
    intro n
    induction n with
    | zero => intro x3_4_137 z3_0_138 rx3_4_137 rz3_0_138 w139 hm; exact absurd hm (Nat.not_lt_zero _)
    | succ n ih3 =>
      intro x3_4_137 z3_0_138 rx3_4_137 rz3_0_138 w139 hm3 H locs hP hD hS ls hl
      refine lv_iload hx hb dX12_copyRow_3 (lv_at hl 0 rfl) ?_
      refine lv_iload_n hx hb dX12_copyRow_5 rfl (lv_at hl 2 rfl) ?_
      refine lv_icmp_ge (tgt := 31) hx hb dX12_copyRow_6 (by decide) (fun c141 => ?_) (fun c141 => ?_)
      · have q142 := mm_leR (mm_le c141) mm_k90 rx3_4_137
        have w143 : mm_crw f_0 z3_0_138 90 0 2 := (mm_crw_of w139 q142 (by decide))
        subst hAe
        rw [hQ]
        exact W.vret hx hb hr (fun t ht hW => ⟨⟨z3_0_138, rfl, ⟨rz3_0_138, w143⟩, by rw [ht]; exact hP, hK.warm hW, hD⟩, hS.F ht⟩) hS.2.2 dX12_copyRow_31
      · have q144 := mm_ltL (h := 89) (mm_nle c141) rx3_4_137 mm_k90 (by decide)
        refine lv_aload_n hx hb dX12_copyRow_9 rfl (lv_at hl 1 rfl) ?_
        refine lv_iload_n hx hb dX12_copyRow_10 rfl (lv_at hl 2 rfl) ?_
        refine lv_iload_n hx hb dX12_copyRow_11 rfl (lv_at hl 4 rfl) ?_
        refine lv_imul hx hb dX12_copyRow_12 ?_
        refine lv_topi (fun v145 ev145 => ?_)
        obtain rfl : v145 = 180 := ev145.trans (by decide)
        refine lv_iload hx hb dX12_copyRow_13 (lv_at hl 0 rfl) ?_
        refine lv_iadd hx hb dX12_copyRow_15 ?_
        refine lv_topi (fun v146 ev146 => ?_)
        have rv146 : mm_rg v146 180 269 := mm_add ev146 mm_k180 q144 (by decide) (by decide)
        have tv146 := mm_addEd ev146 mm_k180 q144 (by decide) (k := 180) (by decide)
        refine lv_aload_n hx hb dX12_copyRow_16 rfl (lv_at hl 1 rfl) ?_
        refine lv_iload_n hx hb dX12_copyRow_17 rfl (lv_at hl 2 rfl) ?_
        refine lv_iload_n hx hb dX12_copyRow_18 rfl (lv_at hl 3 rfl) ?_
        refine lv_imul hx hb dX12_copyRow_19 ?_
        refine lv_topi (fun v147 ev147 => ?_)
        obtain rfl : v147 = 0 := ev147.trans (by decide)
        refine lv_iload hx hb dX12_copyRow_20 (lv_at hl 0 rfl) ?_
        refine lv_iadd hx hb dX12_copyRow_22 ?_
        refine lv_topi (fun v148 ev148 => ?_)
        have rv148 : mm_rg v148 0 89 := mm_add ev148 mm_k0 q144 (by decide) (by decide)
        have tv148 := mm_addEd ev148 mm_k0 q144 (by decide) (k := 0) (by decide)
        refine va_iald hx hb hK.1 hP 0 1 rfl rfl (mm_in rv148 (by decide)) dX12_copyRow_23 ?_
        refine lv_topi (fun v149 ev149 => ?_)
        have rv149 : mm_rg v149 (-1) 99 := mm_eqv ev149 (rz3_0_138 _)
        refine va_iast hx hb hK.1 hP hD hS 0 1 rfl rfl (mm_in rv146 (by decide)) dX12_copyRow_24 ?_
        clear hP hD hS
        clear H locs
        obtain ⟨g150, eg150⟩ : ∃ z : Nat → Int32, z = upd z3_0_138 v146.toNatClampNeg v149 := ⟨_, rfl⟩
        rw [← eg150]
        intro H locs (hP : va_P G vwCl [(a_0, .inl (cy 1, 450, .inl g150))] H) (hD : va_D A [(a_0, .inl (cy 1, 450, .inl g150))]) hS
        have rg150 : mm_ar g150 (-1) 99 := by rw [eg150]; exact mm_ar_upd (mm_ar_wk rz3_0_138 (by decide)) (mm_wk rv149 (by decide)) _
        obtain ⟨v151, ev151⟩ : ∃ y : Int32, y = x3_4_137 + 1 := ⟨_, rfl⟩
        refine lv_iinc (v := v151) (lv' := [(4, .int v151), (0, .ref a_0), (1, .int 90), (2, .int 0), (3, .int 2)]) hx hb dX12_copyRow_25 hl (k := 0) rfl (by rw [ev151]; rfl) (by decide) rfl ?_
        clear hl
        clear ls
        intro ls hl
        have rv151 : mm_rg v151 1 90 := mm_add ev151 q144 mm_k1 (by decide) (by decide)
        have tv151 := mm_addEc ev151 q144 mm_k1 (by decide) (k := 1) (by decide)
        refine lv_goto (tgt := 3) hx hb dX12_copyRow_28 (by decide) ?_
        exact ih3 v151 g150 (mm_wk rv151 (by decide)) rg150 (mm_crk_s w139 tv151 q144 eg150 ev149 (by have := tv146; omega) (by have := tv148; omega) (by decide)) (mm_mu hm3 tv151 (by decide) (rv151).2 (by decide)) H locs hP hD hS ls (lv_sub hl [0, 1, 2, 3, 4] rfl)
  exact L3_139 _ 0 f_0 (mm_wk mm_k0 (by decide)) h0 (mm_crk_0 _ _ _ _) (Nat.lt_succ_self _) H locs hP hD hS ls (lv_sub hl [0, 1, 2, 3, 4] rfl)

set_option maxHeartbeats 4000000 in
set_option maxRecDepth 100000 in
theorem M340_X12_copyBook (l : Launch) (G : va_G) (cy : Nat → ClassId) (sz : Nat) (a_0 : Nat) (i_0 : Int32) (a_1 : Nat) (a_2 : Nat) (a_3 : Nat) (a_4 : Nat) (a_5 : Nat) (i_1 : Int32) (i_2 : Int32) (i_3 : Int32) (i_4 : Int32) (i_5 : Int32) (j_0 : Int64) (i_6 : Int32) (i_7 : Int32) (i_8 : Int32) (i_9 : Int32) (a_6 : Nat) (a_7 : Nat) (a_8 : Nat) (a_9 : Nat) (a_10 : Nat) (a_11 : Nat) (a_12 : Nat) (a_13 : Nat) (a_14 : Nat) (a_15 : Nat) (a_16 : Nat) (a_17 : Nat) (a_18 : Nat) (i_10 : Int32) (i_11 : Int32) (i_12 : Int32) (i_13 : Int32) (i_14 : Int32) (i_15 : Int32) (a_19 : Nat) (i_16 : Int32) (a_20 : Nat) (i_17 : Int32) (i_18 : Int32) (i_19 : Int32) (i_20 : Int32) (i_21 : Int32) (i_22 : Int32) (i_23 : Int32) (i_24 : Int32) (i_25 : Int32) (i_26 : Int32) (i_27 : Int32) (i_28 : Int32) (i_29 : Int32) (i_30 : Int32) (i_31 : Int32) (i_32 : Int32) (i_33 : Int32) (i_34 : Int32) (i_35 : Int32) (i_36 : Int32) (i_37 : Int32) (i_38 : Int32) (i_39 : Int32) (i_40 : Int32) (i_41 : Int32) (i_42 : Int32) (i_43 : Int32) (i_44 : Int32) (i_45 : Int32) (i_46 : Int32) (i_47 : Int32) (i_48 : Int32) (i_49 : Int32) (i_50 : Int32) (i_51 : Int32) (f_0 : Nat → Int32) (f_1 : Nat → Int32) (f_2 : Nat → Int32) (f_3 : Nat → Int32) (f_4 : Nat → Int32) (f_5 : Nat → Int32) (h0 : mm_rg i_17 0 601) (h1 : mm_rg i_18 0 601) (h2 : mm_rg i_19 0 601) (h3 : mm_rg i_20 0 601) (h4 : mm_rg i_21 0 601) (h5 : mm_rg i_22 0 10) (h6 : mm_rg i_23 0 99) (h7 : mm_rg i_24 0 9) (h8 : mm_rg i_25 0 3) (h9 : mm_rg i_26 0 6) (h10 : mm_rg i_27 0 30) (h11 : mm_rg i_28 0 10) (h12 : mm_rg i_29 0 99) (h13 : mm_rg i_30 0 9) (h14 : mm_rg i_31 0 3) (h15 : mm_rg i_32 0 6) (h16 : mm_rg i_33 0 30) (h17 : mm_rg i_34 0 10) (h18 : mm_rg i_35 0 99) (h19 : mm_rg i_36 0 9) (h20 : mm_rg i_37 0 3) (h21 : mm_rg i_38 0 6) (h22 : mm_rg i_39 0 30) (h23 : mm_rg i_40 0 10) (h24 : mm_rg i_41 0 99) (h25 : mm_rg i_42 0 9) (h26 : mm_rg i_43 0 3) (h27 : mm_rg i_44 0 6) (h28 : mm_rg i_45 0 30) (h29 : mm_rg i_46 0 10) (h30 : mm_rg i_47 0 99) (h31 : mm_rg i_48 0 9) (h32 : mm_rg i_49 0 3) (h33 : mm_rg i_50 0 6) (h34 : mm_rg i_51 0 30) (h35 : mm_ar f_0 0 99) (h36 : mm_ar f_1 0 7) (h37 : mm_ar f_2 0 9) (h38 : mm_ar f_3 0 8) (h39 : mm_ar f_4 0 9) (h40 : mm_ar f_5 (-1) 99) (h41 : mm_rls f_1 f_2 0 i_24 i_25) (h42 : mm_txs f_3 f_4 0 i_24 i_26) (h43 : mm_acs f_5 0 i_24 i_25 i_27) (h44 : mm_tl i_17 i_25 i_26) (h45 : mm_rls f_1 f_2 1 i_30 i_31) (h46 : mm_txs f_3 f_4 1 i_30 i_32) (h47 : mm_acs f_5 1 i_30 i_31 i_33) (h48 : mm_tl i_18 i_31 i_32) (h49 : mm_rls f_1 f_2 2 i_36 i_37) (h50 : mm_txs f_3 f_4 2 i_36 i_38) (h51 : mm_acs f_5 2 i_36 i_37 i_39) (h52 : mm_tl i_19 i_37 i_38) (h53 : mm_rls f_1 f_2 3 i_42 i_43) (h54 : mm_txs f_3 f_4 3 i_42 i_44) (h55 : mm_acs f_5 3 i_42 i_43 i_45) (h56 : mm_tl i_20 i_43 i_44)  : mm_CV l yX12_copyBook (mm_ws yX12_copyBook cX12_copyBook 3 (none)) ({ frames := 1, cells := 0, slots := 0, locals := 24 } : Room) G cy sz [(a_0, .inr (12, [.int i_0, .ref a_1, .ref a_2, .ref a_3, .ref a_4, .ref a_5, .int i_1, .int i_2, .int i_3, .int i_4, .int i_5, .long j_0, .int i_6, .int i_7, .int i_8, .int i_9, .ref a_6, .ref a_7, .ref a_8, .ref a_9, .ref a_10, .ref a_11, .ref a_12, .ref a_13, .ref a_14, .ref a_15, .ref a_16, .ref a_17, .ref a_18, .int i_10, .int i_11, .int i_12, .int i_13, .int i_14, .int i_15, .ref a_19, .int i_16, .ref a_20])), (a_6, .inl (cy 1, 5, .inl (mm_g [i_17, i_18, i_19, i_20, i_21]))), (a_7, .inl (cy 1, 30, .inl (mm_g [i_22, i_23, i_24, i_25, i_26, i_27, i_28, i_29, i_30, i_31, i_32, i_33, i_34, i_35, i_36, i_37, i_38, i_39, i_40, i_41, i_42, i_43, i_44, i_45, i_46, i_47, i_48, i_49, i_50, i_51]))), (a_8, .inl (cy 1, 90, .inl f_0)), (a_9, .inl (cy 1, 15, .inl f_1)), (a_10, .inl (cy 1, 1050, .inl f_2)), (a_11, .inl (cy 1, 30, .inl f_3)), (a_12, .inl (cy 1, 240, .inl f_4)), (a_13, .inl (cy 1, 450, .inl f_5))] [.ref a_0, .int 0, .int 2] (fun u : (Nat → Int32) × (Nat → Int32) × (Nat → Int32) × (Nat → Int32) × (Nat → Int32) × (Nat → Int32) => [(a_0, .inr (12, [.int i_0, .ref a_1, .ref a_2, .ref a_3, .ref a_4, .ref a_5, .int i_1, .int i_2, .int i_3, .int i_4, .int i_5, .long j_0, .int i_6, .int i_7, .int i_8, .int i_9, .ref a_6, .ref a_7, .ref a_8, .ref a_9, .ref a_10, .ref a_11, .ref a_12, .ref a_13, .ref a_14, .ref a_15, .ref a_16, .ref a_17, .ref a_18, .int i_10, .int i_11, .int i_12, .int i_13, .int i_14, .int i_15, .ref a_19, .int i_16, .ref a_20])), (a_6, .inl (cy 1, 5, .inl (mm_g [i_17, i_18, i_17, i_20, i_21]))), (a_7, .inl (cy 1, 30, .inl (mm_g [i_22, i_23, i_24, i_25, i_26, i_27, i_28, i_29, i_30, i_31, i_32, i_33, i_22, i_23, i_24, i_25, i_26, i_27, i_40, i_41, i_42, i_43, i_44, i_45, i_46, i_47, i_48, i_49, i_50, i_51]))), (a_8, .inl (cy 1, 90, .inl u.1)), (a_9, .inl (cy 1, 15, .inl u.2.1)), (a_10, .inl (cy 1, 1050, .inl u.2.2.1)), (a_11, .inl (cy 1, 30, .inl u.2.2.2.1)), (a_12, .inl (cy 1, 240, .inl u.2.2.2.2.1)), (a_13, .inl (cy 1, 450, .inl u.2.2.2.2.2))]) (fun u : (Nat → Int32) × (Nat → Int32) × (Nat → Int32) × (Nat → Int32) × (Nat → Int32) × (Nat → Int32) => mm_ar u.1 0 99 ∧ mm_ar u.2.1 0 7 ∧ mm_ar u.2.2.1 0 9 ∧ mm_ar u.2.2.2.1 0 8 ∧ mm_ar u.2.2.2.2.1 0 9 ∧ mm_ar u.2.2.2.2.2 (-1) 99 ∧ mm_rls u.2.1 u.2.2.1 0 i_24 i_25 ∧ mm_txs u.2.2.2.1 u.2.2.2.2.1 0 i_24 i_26 ∧ mm_acs u.2.2.2.2.2 0 i_24 i_25 i_27 ∧ mm_rls u.2.1 u.2.2.1 1 i_30 i_31 ∧ mm_txs u.2.2.2.1 u.2.2.2.2.1 1 i_30 i_32 ∧ mm_acs u.2.2.2.2.2 1 i_30 i_31 i_33 ∧ mm_rls u.2.1 u.2.2.1 2 i_24 i_25 ∧ mm_txs u.2.2.2.1 u.2.2.2.2.1 2 i_24 i_26 ∧ mm_acs u.2.2.2.2.2 2 i_24 i_25 i_27 ∧ mm_rls u.2.1 u.2.2.1 3 i_42 i_43 ∧ mm_txs u.2.2.2.1 u.2.2.2.2.1 3 i_42 i_44 ∧ mm_acs u.2.2.2.2.2 3 i_42 i_43 i_45) 0 0 := by
  refine mm_begin (lv := [(0, .ref a_0), (1, .int 0), (2, .int 2)]) (by decide) (Nat.le_of_ble_eq_true rfl) rfl ?_
  intro p e s m below meth c A ls R args Q H locs hRe hQ hAe hx hb hr hlocks hml hown hnm hts hsz hA hS hP hK hD hZ hl
  have hRf : R.frames = 1 := by rw [hRe]
  have hRl : R.locals = 24 := by rw [hRe]
  have hRc : R.cells = 0 := by rw [hRe]
  have hRs : R.slots = 0 := by rw [hRe]
  refine lv_aload_n hx hb dX12_copyBook_0 rfl (lv_at hl 0 rfl) ?_
  refine va_get (D := G) (ci := 12) (v := .ref a_6) (C := RX12) (T := TX12) (N := 38) hx hb hts (mm_i inlX12) hown hK.1 hP 0 rfl rfl 16 (by decide) (mm_h hts mm_w148) (fun _ h9 => h9) rfl dX12_copyBook_1 ?_
  refine lv_iconst (v := 1) hx hb dX12_copyBook_4 (by decide) ?_
  refine lv_iload_n hx hb dX12_copyBook_5 rfl (lv_at hl 1 rfl) ?_
  refine lv_iload_n hx hb dX12_copyBook_6 rfl (lv_at hl 2 rfl) ?_
  refine mm_finv (va_runS (As := [.ref a_6, .int 1, .int 0, .int 2]) (rest := []) ⟨hx, hb, hml, hown, hts⟩ (M332_X12_copyRow l G cy H.size a_6 i_17 i_18 i_19 i_20 i_21 h0 h1 h2 h3 h4) (va_cwS 4 hts (mm_gS mm_w557 mm_w558 mm_w5 mm_w559) rfl rfl rfl hs_X12_copyRow ⟨by rw [hRf]; exact Nat.le_of_ble_eq_true rfl, by rw [hRl]; exact Nat.le_of_ble_eq_true rfl⟩) (mm_preS hK hZ hS hA hP hD [1] rfl rfl) rfl rfl hl.1 rfl (lv_room (Nat.le_of_ble_eq_true rfl)) dX12_copyBook_7 ⟨by rw [hRc]; exact Nat.le_of_ble_eq_true rfl, by rw [hRs]; exact Nat.le_of_ble_eq_true rfl⟩) hP hD hS hA (fun u : Unit => [(a_0, .inr (12, [.int i_0, .ref a_1, .ref a_2, .ref a_3, .ref a_4, .ref a_5, .int i_1, .int i_2, .int i_3, .int i_4, .int i_5, .long j_0, .int i_6, .int i_7, .int i_8, .int i_9, .ref a_6, .ref a_7, .ref a_8, .ref a_9, .ref a_10, .ref a_11, .ref a_12, .ref a_13, .ref a_14, .ref a_15, .ref a_16, .ref a_17, .ref a_18, .int i_10, .int i_11, .int i_12, .int i_13, .int i_14, .int i_15, .ref a_19, .int i_16, .ref a_20])), (a_6, .inl (cy 1, 5, .inl (mm_g [i_17, i_18, i_17, i_20, i_21]))), (a_7, .inl (cy 1, 30, .inl (mm_g [i_22, i_23, i_24, i_25, i_26, i_27, i_28, i_29, i_30, i_31, i_32, i_33, i_34, i_35, i_36, i_37, i_38, i_39, i_40, i_41, i_42, i_43, i_44, i_45, i_46, i_47, i_48, i_49, i_50, i_51]))), (a_8, .inl (cy 1, 90, .inl f_0)), (a_9, .inl (cy 1, 15, .inl f_1)), (a_10, .inl (cy 1, 1050, .inl f_2)), (a_11, .inl (cy 1, 30, .inl f_3)), (a_12, .inl (cy 1, 240, .inl f_4)), (a_13, .inl (cy 1, 450, .inl f_5))]) [1] [0, 2, 3, 4, 5, 6, 7, 8] (n := 9) (fun _ => rfl) (by decide +kernel) (by decide +kernel) rfl (fun _ => rfl) (wr := [(a_0, .inr (12, [.int i_0, .ref a_1, .ref a_2, .ref a_3, .ref a_4, .ref a_5, .int i_1, .int i_2, .int i_3, .int i_4, .int i_5, .long j_0, .int i_6, .int i_7, .int i_8, .int i_9, .ref a_6, .ref a_7, .ref a_8, .ref a_9, .ref a_10, .ref a_11, .ref a_12, .ref a_13, .ref a_14, .ref a_15, .ref a_16, .ref a_17, .ref a_18, .int i_10, .int i_11, .int i_12, .int i_13, .int i_14, .int i_15, .ref a_19, .int i_16, .ref a_20])), (a_7, .inl (cy 1, 30, .inl (mm_g [i_22, i_23, i_24, i_25, i_26, i_27, i_28, i_29, i_30, i_31, i_32, i_33, i_34, i_35, i_36, i_37, i_38, i_39, i_40, i_41, i_42, i_43, i_44, i_45, i_46, i_47, i_48, i_49, i_50, i_51]))), (a_8, .inl (cy 1, 90, .inl f_0)), (a_9, .inl (cy 1, 15, .inl f_1)), (a_10, .inl (cy 1, 1050, .inl f_2)), (a_11, .inl (cy 1, 30, .inl f_3)), (a_12, .inl (cy 1, 240, .inl f_4)), (a_13, .inl (cy 1, 450, .inl f_5))]) rfl (fun _ => rfl) (fun _ => @rfl _ ([a_6] : List Nat)) ?_
  clear hP hD hS
  clear H locs
  intro _u H locs hw (hP : va_P G vwCl [(a_0, .inr (12, [.int i_0, .ref a_1, .ref a_2, .ref a_3, .ref a_4, .ref a_5, .int i_1, .int i_2, .int i_3, .int i_4, .int i_5, .long j_0, .int i_6, .int i_7, .int i_8, .int i_9, .ref a_6, .ref a_7, .ref a_8, .ref a_9, .ref a_10, .ref a_11, .ref a_12, .ref a_13, .ref a_14, .ref a_15, .ref a_16, .ref a_17, .ref a_18, .int i_10, .int i_11, .int i_12, .int i_13, .int i_14, .int i_15, .ref a_19, .int i_16, .ref a_20])), (a_6, .inl (cy 1, 5, .inl (mm_g [i_17, i_18, i_17, i_20, i_21]))), (a_7, .inl (cy 1, 30, .inl (mm_g [i_22, i_23, i_24, i_25, i_26, i_27, i_28, i_29, i_30, i_31, i_32, i_33, i_34, i_35, i_36, i_37, i_38, i_39, i_40, i_41, i_42, i_43, i_44, i_45, i_46, i_47, i_48, i_49, i_50, i_51]))), (a_8, .inl (cy 1, 90, .inl f_0)), (a_9, .inl (cy 1, 15, .inl f_1)), (a_10, .inl (cy 1, 1050, .inl f_2)), (a_11, .inl (cy 1, 30, .inl f_3)), (a_12, .inl (cy 1, 240, .inl f_4)), (a_13, .inl (cy 1, 450, .inl f_5))] H) (hD : va_D A [(a_0, .inr (12, [.int i_0, .ref a_1, .ref a_2, .ref a_3, .ref a_4, .ref a_5, .int i_1, .int i_2, .int i_3, .int i_4, .int i_5, .long j_0, .int i_6, .int i_7, .int i_8, .int i_9, .ref a_6, .ref a_7, .ref a_8, .ref a_9, .ref a_10, .ref a_11, .ref a_12, .ref a_13, .ref a_14, .ref a_15, .ref a_16, .ref a_17, .ref a_18, .int i_10, .int i_11, .int i_12, .int i_13, .int i_14, .int i_15, .ref a_19, .int i_16, .ref a_20])), (a_6, .inl (cy 1, 5, .inl (mm_g [i_17, i_18, i_17, i_20, i_21]))), (a_7, .inl (cy 1, 30, .inl (mm_g [i_22, i_23, i_24, i_25, i_26, i_27, i_28, i_29, i_30, i_31, i_32, i_33, i_34, i_35, i_36, i_37, i_38, i_39, i_40, i_41, i_42, i_43, i_44, i_45, i_46, i_47, i_48, i_49, i_50, i_51]))), (a_8, .inl (cy 1, 90, .inl f_0)), (a_9, .inl (cy 1, 15, .inl f_1)), (a_10, .inl (cy 1, 1050, .inl f_2)), (a_11, .inl (cy 1, 30, .inl f_3)), (a_12, .inl (cy 1, 240, .inl f_4)), (a_13, .inl (cy 1, 450, .inl f_5))]) hS
  refine lv_aload_n hx hb dX12_copyBook_10 rfl (lv_at hl 0 rfl) ?_
  refine va_get (D := G) (ci := 12) (v := .ref a_7) (C := RX12) (T := TX12) (N := 38) hx hb hts (mm_i inlX12) hown hK.1 hP 0 rfl rfl 17 (by decide) (mm_h hts mm_w149) (fun _ h9 => h9) rfl dX12_copyBook_11 ?_
  refine lv_bipush (v := 6) hx hb dX12_copyBook_14 (by decide) ?_
  refine lv_iload_n hx hb dX12_copyBook_16 rfl (lv_at hl 1 rfl) ?_
  refine lv_iload_n hx hb dX12_copyBook_17 rfl (lv_at hl 2 rfl) ?_
  refine mm_finv (va_runS (As := [.ref a_7, .int 6, .int 0, .int 2]) (rest := []) ⟨hx, hb, hml, hown, hts⟩ (M333_X12_copyRow l G cy H.size a_7 i_22 i_23 i_24 i_25 i_26 i_27 i_28 i_29 i_30 i_31 i_32 i_33 i_34 i_35 i_36 i_37 i_38 i_39 i_40 i_41 i_42 i_43 i_44 i_45 i_46 i_47 i_48 i_49 i_50 i_51 h5 h6 h7 h8 h9 h10 h11 h12 h13 h14 h15 h16 h17 h18 h19 h20 h21 h22 h23 h24 h25 h26 h27 h28 h29 h30 h31 h32 h33 h34) (va_cwS 4 hts (mm_gS mm_w557 mm_w558 mm_w5 mm_w559) rfl rfl rfl hs_X12_copyRow ⟨by rw [hRf]; exact Nat.le_of_ble_eq_true rfl, by rw [hRl]; exact Nat.le_of_ble_eq_true rfl⟩) (mm_preS hK hZ hS hA hP hD [2] rfl rfl) rfl rfl hl.1 rfl (lv_room (Nat.le_of_ble_eq_true rfl)) dX12_copyBook_18 ⟨by rw [hRc]; exact Nat.le_of_ble_eq_true rfl, by rw [hRs]; exact Nat.le_of_ble_eq_true rfl⟩) hP hD hS hA (fun u : Unit => [(a_0, .inr (12, [.int i_0, .ref a_1, .ref a_2, .ref a_3, .ref a_4, .ref a_5, .int i_1, .int i_2, .int i_3, .int i_4, .int i_5, .long j_0, .int i_6, .int i_7, .int i_8, .int i_9, .ref a_6, .ref a_7, .ref a_8, .ref a_9, .ref a_10, .ref a_11, .ref a_12, .ref a_13, .ref a_14, .ref a_15, .ref a_16, .ref a_17, .ref a_18, .int i_10, .int i_11, .int i_12, .int i_13, .int i_14, .int i_15, .ref a_19, .int i_16, .ref a_20])), (a_6, .inl (cy 1, 5, .inl (mm_g [i_17, i_18, i_17, i_20, i_21]))), (a_7, .inl (cy 1, 30, .inl (mm_g [i_22, i_23, i_24, i_25, i_26, i_27, i_28, i_29, i_30, i_31, i_32, i_33, i_22, i_23, i_24, i_25, i_26, i_27, i_40, i_41, i_42, i_43, i_44, i_45, i_46, i_47, i_48, i_49, i_50, i_51]))), (a_8, .inl (cy 1, 90, .inl f_0)), (a_9, .inl (cy 1, 15, .inl f_1)), (a_10, .inl (cy 1, 1050, .inl f_2)), (a_11, .inl (cy 1, 30, .inl f_3)), (a_12, .inl (cy 1, 240, .inl f_4)), (a_13, .inl (cy 1, 450, .inl f_5))]) [2] [0, 1, 3, 4, 5, 6, 7, 8] (n := 9) (fun _ => rfl) (by decide +kernel) (by decide +kernel) rfl (fun _ => rfl) (wr := [(a_0, .inr (12, [.int i_0, .ref a_1, .ref a_2, .ref a_3, .ref a_4, .ref a_5, .int i_1, .int i_2, .int i_3, .int i_4, .int i_5, .long j_0, .int i_6, .int i_7, .int i_8, .int i_9, .ref a_6, .ref a_7, .ref a_8, .ref a_9, .ref a_10, .ref a_11, .ref a_12, .ref a_13, .ref a_14, .ref a_15, .ref a_16, .ref a_17, .ref a_18, .int i_10, .int i_11, .int i_12, .int i_13, .int i_14, .int i_15, .ref a_19, .int i_16, .ref a_20])), (a_6, .inl (cy 1, 5, .inl (mm_g [i_17, i_18, i_17, i_20, i_21]))), (a_8, .inl (cy 1, 90, .inl f_0)), (a_9, .inl (cy 1, 15, .inl f_1)), (a_10, .inl (cy 1, 1050, .inl f_2)), (a_11, .inl (cy 1, 30, .inl f_3)), (a_12, .inl (cy 1, 240, .inl f_4)), (a_13, .inl (cy 1, 450, .inl f_5))]) rfl (fun _ => rfl) (fun _ => @rfl _ ([a_7] : List Nat)) ?_
  clear hP hD hS
  clear H locs
  intro _u H locs hw (hP : va_P G vwCl [(a_0, .inr (12, [.int i_0, .ref a_1, .ref a_2, .ref a_3, .ref a_4, .ref a_5, .int i_1, .int i_2, .int i_3, .int i_4, .int i_5, .long j_0, .int i_6, .int i_7, .int i_8, .int i_9, .ref a_6, .ref a_7, .ref a_8, .ref a_9, .ref a_10, .ref a_11, .ref a_12, .ref a_13, .ref a_14, .ref a_15, .ref a_16, .ref a_17, .ref a_18, .int i_10, .int i_11, .int i_12, .int i_13, .int i_14, .int i_15, .ref a_19, .int i_16, .ref a_20])), (a_6, .inl (cy 1, 5, .inl (mm_g [i_17, i_18, i_17, i_20, i_21]))), (a_7, .inl (cy 1, 30, .inl (mm_g [i_22, i_23, i_24, i_25, i_26, i_27, i_28, i_29, i_30, i_31, i_32, i_33, i_22, i_23, i_24, i_25, i_26, i_27, i_40, i_41, i_42, i_43, i_44, i_45, i_46, i_47, i_48, i_49, i_50, i_51]))), (a_8, .inl (cy 1, 90, .inl f_0)), (a_9, .inl (cy 1, 15, .inl f_1)), (a_10, .inl (cy 1, 1050, .inl f_2)), (a_11, .inl (cy 1, 30, .inl f_3)), (a_12, .inl (cy 1, 240, .inl f_4)), (a_13, .inl (cy 1, 450, .inl f_5))] H) (hD : va_D A [(a_0, .inr (12, [.int i_0, .ref a_1, .ref a_2, .ref a_3, .ref a_4, .ref a_5, .int i_1, .int i_2, .int i_3, .int i_4, .int i_5, .long j_0, .int i_6, .int i_7, .int i_8, .int i_9, .ref a_6, .ref a_7, .ref a_8, .ref a_9, .ref a_10, .ref a_11, .ref a_12, .ref a_13, .ref a_14, .ref a_15, .ref a_16, .ref a_17, .ref a_18, .int i_10, .int i_11, .int i_12, .int i_13, .int i_14, .int i_15, .ref a_19, .int i_16, .ref a_20])), (a_6, .inl (cy 1, 5, .inl (mm_g [i_17, i_18, i_17, i_20, i_21]))), (a_7, .inl (cy 1, 30, .inl (mm_g [i_22, i_23, i_24, i_25, i_26, i_27, i_28, i_29, i_30, i_31, i_32, i_33, i_22, i_23, i_24, i_25, i_26, i_27, i_40, i_41, i_42, i_43, i_44, i_45, i_46, i_47, i_48, i_49, i_50, i_51]))), (a_8, .inl (cy 1, 90, .inl f_0)), (a_9, .inl (cy 1, 15, .inl f_1)), (a_10, .inl (cy 1, 1050, .inl f_2)), (a_11, .inl (cy 1, 30, .inl f_3)), (a_12, .inl (cy 1, 240, .inl f_4)), (a_13, .inl (cy 1, 450, .inl f_5))]) hS
  refine lv_aload_n hx hb dX12_copyBook_21 rfl (lv_at hl 0 rfl) ?_
  refine va_get (D := G) (ci := 12) (v := .ref a_8) (C := RX12) (T := TX12) (N := 38) hx hb hts (mm_i inlX12) hown hK.1 hP 0 rfl rfl 18 (by decide) (mm_h hts mm_w150) (fun _ h9 => h9) rfl dX12_copyBook_22 ?_
  refine lv_bipush (v := 18) hx hb dX12_copyBook_25 (by decide) ?_
  refine lv_iload_n hx hb dX12_copyBook_27 rfl (lv_at hl 1 rfl) ?_
  refine lv_iload_n hx hb dX12_copyBook_28 rfl (lv_at hl 2 rfl) ?_
  refine mm_finv (va_runS (As := [.ref a_8, .int 18, .int 0, .int 2]) (rest := []) ⟨hx, hb, hml, hown, hts⟩ (M334_X12_copyRow l G cy H.size a_8 f_0 h35) (va_cwS 4 hts (mm_gS mm_w557 mm_w558 mm_w5 mm_w559) rfl rfl rfl hs_X12_copyRow ⟨by rw [hRf]; exact Nat.le_of_ble_eq_true rfl, by rw [hRl]; exact Nat.le_of_ble_eq_true rfl⟩) (mm_preS hK hZ hS hA hP hD [3] rfl rfl) rfl rfl hl.1 rfl (lv_room (Nat.le_of_ble_eq_true rfl)) dX12_copyBook_29 ⟨by rw [hRc]; exact Nat.le_of_ble_eq_true rfl, by rw [hRs]; exact Nat.le_of_ble_eq_true rfl⟩) hP hD hS hA (fun u : (Nat → Int32) => [(a_0, .inr (12, [.int i_0, .ref a_1, .ref a_2, .ref a_3, .ref a_4, .ref a_5, .int i_1, .int i_2, .int i_3, .int i_4, .int i_5, .long j_0, .int i_6, .int i_7, .int i_8, .int i_9, .ref a_6, .ref a_7, .ref a_8, .ref a_9, .ref a_10, .ref a_11, .ref a_12, .ref a_13, .ref a_14, .ref a_15, .ref a_16, .ref a_17, .ref a_18, .int i_10, .int i_11, .int i_12, .int i_13, .int i_14, .int i_15, .ref a_19, .int i_16, .ref a_20])), (a_6, .inl (cy 1, 5, .inl (mm_g [i_17, i_18, i_17, i_20, i_21]))), (a_7, .inl (cy 1, 30, .inl (mm_g [i_22, i_23, i_24, i_25, i_26, i_27, i_28, i_29, i_30, i_31, i_32, i_33, i_22, i_23, i_24, i_25, i_26, i_27, i_40, i_41, i_42, i_43, i_44, i_45, i_46, i_47, i_48, i_49, i_50, i_51]))), (a_8, .inl (cy 1, 90, .inl u)), (a_9, .inl (cy 1, 15, .inl f_1)), (a_10, .inl (cy 1, 1050, .inl f_2)), (a_11, .inl (cy 1, 30, .inl f_3)), (a_12, .inl (cy 1, 240, .inl f_4)), (a_13, .inl (cy 1, 450, .inl f_5))]) [3] [0, 1, 2, 4, 5, 6, 7, 8] (n := 9) (fun _ => rfl) (by decide +kernel) (by decide +kernel) rfl (fun _ => rfl) (wr := [(a_0, .inr (12, [.int i_0, .ref a_1, .ref a_2, .ref a_3, .ref a_4, .ref a_5, .int i_1, .int i_2, .int i_3, .int i_4, .int i_5, .long j_0, .int i_6, .int i_7, .int i_8, .int i_9, .ref a_6, .ref a_7, .ref a_8, .ref a_9, .ref a_10, .ref a_11, .ref a_12, .ref a_13, .ref a_14, .ref a_15, .ref a_16, .ref a_17, .ref a_18, .int i_10, .int i_11, .int i_12, .int i_13, .int i_14, .int i_15, .ref a_19, .int i_16, .ref a_20])), (a_6, .inl (cy 1, 5, .inl (mm_g [i_17, i_18, i_17, i_20, i_21]))), (a_7, .inl (cy 1, 30, .inl (mm_g [i_22, i_23, i_24, i_25, i_26, i_27, i_28, i_29, i_30, i_31, i_32, i_33, i_22, i_23, i_24, i_25, i_26, i_27, i_40, i_41, i_42, i_43, i_44, i_45, i_46, i_47, i_48, i_49, i_50, i_51]))), (a_9, .inl (cy 1, 15, .inl f_1)), (a_10, .inl (cy 1, 1050, .inl f_2)), (a_11, .inl (cy 1, 30, .inl f_3)), (a_12, .inl (cy 1, 240, .inl f_4)), (a_13, .inl (cy 1, 450, .inl f_5))]) rfl (fun _ => rfl) (fun _ => rfl) ?_
  clear hP hD hS
  clear H locs
  intro n1 H locs hw (hP : va_P G vwCl [(a_0, .inr (12, [.int i_0, .ref a_1, .ref a_2, .ref a_3, .ref a_4, .ref a_5, .int i_1, .int i_2, .int i_3, .int i_4, .int i_5, .long j_0, .int i_6, .int i_7, .int i_8, .int i_9, .ref a_6, .ref a_7, .ref a_8, .ref a_9, .ref a_10, .ref a_11, .ref a_12, .ref a_13, .ref a_14, .ref a_15, .ref a_16, .ref a_17, .ref a_18, .int i_10, .int i_11, .int i_12, .int i_13, .int i_14, .int i_15, .ref a_19, .int i_16, .ref a_20])), (a_6, .inl (cy 1, 5, .inl (mm_g [i_17, i_18, i_17, i_20, i_21]))), (a_7, .inl (cy 1, 30, .inl (mm_g [i_22, i_23, i_24, i_25, i_26, i_27, i_28, i_29, i_30, i_31, i_32, i_33, i_22, i_23, i_24, i_25, i_26, i_27, i_40, i_41, i_42, i_43, i_44, i_45, i_46, i_47, i_48, i_49, i_50, i_51]))), (a_8, .inl (cy 1, 90, .inl n1)), (a_9, .inl (cy 1, 15, .inl f_1)), (a_10, .inl (cy 1, 1050, .inl f_2)), (a_11, .inl (cy 1, 30, .inl f_3)), (a_12, .inl (cy 1, 240, .inl f_4)), (a_13, .inl (cy 1, 450, .inl f_5))] H) (hD : va_D A [(a_0, .inr (12, [.int i_0, .ref a_1, .ref a_2, .ref a_3, .ref a_4, .ref a_5, .int i_1, .int i_2, .int i_3, .int i_4, .int i_5, .long j_0, .int i_6, .int i_7, .int i_8, .int i_9, .ref a_6, .ref a_7, .ref a_8, .ref a_9, .ref a_10, .ref a_11, .ref a_12, .ref a_13, .ref a_14, .ref a_15, .ref a_16, .ref a_17, .ref a_18, .int i_10, .int i_11, .int i_12, .int i_13, .int i_14, .int i_15, .ref a_19, .int i_16, .ref a_20])), (a_6, .inl (cy 1, 5, .inl (mm_g [i_17, i_18, i_17, i_20, i_21]))), (a_7, .inl (cy 1, 30, .inl (mm_g [i_22, i_23, i_24, i_25, i_26, i_27, i_28, i_29, i_30, i_31, i_32, i_33, i_22, i_23, i_24, i_25, i_26, i_27, i_40, i_41, i_42, i_43, i_44, i_45, i_46, i_47, i_48, i_49, i_50, i_51]))), (a_8, .inl (cy 1, 90, .inl n1)), (a_9, .inl (cy 1, 15, .inl f_1)), (a_10, .inl (cy 1, 1050, .inl f_2)), (a_11, .inl (cy 1, 30, .inl f_3)), (a_12, .inl (cy 1, 240, .inl f_4)), (a_13, .inl (cy 1, 450, .inl f_5))]) hS
  obtain ⟨w2, w3⟩ := hw
  refine lv_aload_n hx hb dX12_copyBook_32 rfl (lv_at hl 0 rfl) ?_
  refine va_get (D := G) (ci := 12) (v := .ref a_9) (C := RX12) (T := TX12) (N := 38) hx hb hts (mm_i inlX12) hown hK.1 hP 0 rfl rfl 19 (by decide) (mm_h hts mm_w151) (fun _ h9 => h9) rfl dX12_copyBook_33 ?_
  refine lv_iconst (v := 3) hx hb dX12_copyBook_36 (by decide) ?_
  refine lv_iload_n hx hb dX12_copyBook_37 rfl (lv_at hl 1 rfl) ?_
  refine lv_iload_n hx hb dX12_copyBook_38 rfl (lv_at hl 2 rfl) ?_
  refine mm_finv (va_runS (As := [.ref a_9, .int 3, .int 0, .int 2]) (rest := []) ⟨hx, hb, hml, hown, hts⟩ (M335_X12_copyRow l G cy H.size a_9 f_1 h36) (va_cwS 4 hts (mm_gS mm_w557 mm_w558 mm_w5 mm_w559) rfl rfl rfl hs_X12_copyRow ⟨by rw [hRf]; exact Nat.le_of_ble_eq_true rfl, by rw [hRl]; exact Nat.le_of_ble_eq_true rfl⟩) (mm_preS hK hZ hS hA hP hD [4] rfl rfl) rfl rfl hl.1 rfl (lv_room (Nat.le_of_ble_eq_true rfl)) dX12_copyBook_39 ⟨by rw [hRc]; exact Nat.le_of_ble_eq_true rfl, by rw [hRs]; exact Nat.le_of_ble_eq_true rfl⟩) hP hD hS hA (fun u : (Nat → Int32) => [(a_0, .inr (12, [.int i_0, .ref a_1, .ref a_2, .ref a_3, .ref a_4, .ref a_5, .int i_1, .int i_2, .int i_3, .int i_4, .int i_5, .long j_0, .int i_6, .int i_7, .int i_8, .int i_9, .ref a_6, .ref a_7, .ref a_8, .ref a_9, .ref a_10, .ref a_11, .ref a_12, .ref a_13, .ref a_14, .ref a_15, .ref a_16, .ref a_17, .ref a_18, .int i_10, .int i_11, .int i_12, .int i_13, .int i_14, .int i_15, .ref a_19, .int i_16, .ref a_20])), (a_6, .inl (cy 1, 5, .inl (mm_g [i_17, i_18, i_17, i_20, i_21]))), (a_7, .inl (cy 1, 30, .inl (mm_g [i_22, i_23, i_24, i_25, i_26, i_27, i_28, i_29, i_30, i_31, i_32, i_33, i_22, i_23, i_24, i_25, i_26, i_27, i_40, i_41, i_42, i_43, i_44, i_45, i_46, i_47, i_48, i_49, i_50, i_51]))), (a_8, .inl (cy 1, 90, .inl n1)), (a_9, .inl (cy 1, 15, .inl u)), (a_10, .inl (cy 1, 1050, .inl f_2)), (a_11, .inl (cy 1, 30, .inl f_3)), (a_12, .inl (cy 1, 240, .inl f_4)), (a_13, .inl (cy 1, 450, .inl f_5))]) [4] [0, 1, 2, 3, 5, 6, 7, 8] (n := 9) (fun _ => rfl) (by decide +kernel) (by decide +kernel) rfl (fun _ => rfl) (wr := [(a_0, .inr (12, [.int i_0, .ref a_1, .ref a_2, .ref a_3, .ref a_4, .ref a_5, .int i_1, .int i_2, .int i_3, .int i_4, .int i_5, .long j_0, .int i_6, .int i_7, .int i_8, .int i_9, .ref a_6, .ref a_7, .ref a_8, .ref a_9, .ref a_10, .ref a_11, .ref a_12, .ref a_13, .ref a_14, .ref a_15, .ref a_16, .ref a_17, .ref a_18, .int i_10, .int i_11, .int i_12, .int i_13, .int i_14, .int i_15, .ref a_19, .int i_16, .ref a_20])), (a_6, .inl (cy 1, 5, .inl (mm_g [i_17, i_18, i_17, i_20, i_21]))), (a_7, .inl (cy 1, 30, .inl (mm_g [i_22, i_23, i_24, i_25, i_26, i_27, i_28, i_29, i_30, i_31, i_32, i_33, i_22, i_23, i_24, i_25, i_26, i_27, i_40, i_41, i_42, i_43, i_44, i_45, i_46, i_47, i_48, i_49, i_50, i_51]))), (a_8, .inl (cy 1, 90, .inl n1)), (a_10, .inl (cy 1, 1050, .inl f_2)), (a_11, .inl (cy 1, 30, .inl f_3)), (a_12, .inl (cy 1, 240, .inl f_4)), (a_13, .inl (cy 1, 450, .inl f_5))]) rfl (fun _ => rfl) (fun _ => rfl) ?_
  clear hP hD hS
  clear H locs
  intro n4 H locs hw (hP : va_P G vwCl [(a_0, .inr (12, [.int i_0, .ref a_1, .ref a_2, .ref a_3, .ref a_4, .ref a_5, .int i_1, .int i_2, .int i_3, .int i_4, .int i_5, .long j_0, .int i_6, .int i_7, .int i_8, .int i_9, .ref a_6, .ref a_7, .ref a_8, .ref a_9, .ref a_10, .ref a_11, .ref a_12, .ref a_13, .ref a_14, .ref a_15, .ref a_16, .ref a_17, .ref a_18, .int i_10, .int i_11, .int i_12, .int i_13, .int i_14, .int i_15, .ref a_19, .int i_16, .ref a_20])), (a_6, .inl (cy 1, 5, .inl (mm_g [i_17, i_18, i_17, i_20, i_21]))), (a_7, .inl (cy 1, 30, .inl (mm_g [i_22, i_23, i_24, i_25, i_26, i_27, i_28, i_29, i_30, i_31, i_32, i_33, i_22, i_23, i_24, i_25, i_26, i_27, i_40, i_41, i_42, i_43, i_44, i_45, i_46, i_47, i_48, i_49, i_50, i_51]))), (a_8, .inl (cy 1, 90, .inl n1)), (a_9, .inl (cy 1, 15, .inl n4)), (a_10, .inl (cy 1, 1050, .inl f_2)), (a_11, .inl (cy 1, 30, .inl f_3)), (a_12, .inl (cy 1, 240, .inl f_4)), (a_13, .inl (cy 1, 450, .inl f_5))] H) (hD : va_D A [(a_0, .inr (12, [.int i_0, .ref a_1, .ref a_2, .ref a_3, .ref a_4, .ref a_5, .int i_1, .int i_2, .int i_3, .int i_4, .int i_5, .long j_0, .int i_6, .int i_7, .int i_8, .int i_9, .ref a_6, .ref a_7, .ref a_8, .ref a_9, .ref a_10, .ref a_11, .ref a_12, .ref a_13, .ref a_14, .ref a_15, .ref a_16, .ref a_17, .ref a_18, .int i_10, .int i_11, .int i_12, .int i_13, .int i_14, .int i_15, .ref a_19, .int i_16, .ref a_20])), (a_6, .inl (cy 1, 5, .inl (mm_g [i_17, i_18, i_17, i_20, i_21]))), (a_7, .inl (cy 1, 30, .inl (mm_g [i_22, i_23, i_24, i_25, i_26, i_27, i_28, i_29, i_30, i_31, i_32, i_33, i_22, i_23, i_24, i_25, i_26, i_27, i_40, i_41, i_42, i_43, i_44, i_45, i_46, i_47, i_48, i_49, i_50, i_51]))), (a_8, .inl (cy 1, 90, .inl n1)), (a_9, .inl (cy 1, 15, .inl n4)), (a_10, .inl (cy 1, 1050, .inl f_2)), (a_11, .inl (cy 1, 30, .inl f_3)), (a_12, .inl (cy 1, 240, .inl f_4)), (a_13, .inl (cy 1, 450, .inl f_5))]) hS
  obtain ⟨w5, w6⟩ := hw
  refine lv_aload_n hx hb dX12_copyBook_42 rfl (lv_at hl 0 rfl) ?_
  refine va_get (D := G) (ci := 12) (v := .ref a_10) (C := RX12) (T := TX12) (N := 38) hx hb hts (mm_i inlX12) hown hK.1 hP 0 rfl rfl 20 (by decide) (mm_h hts mm_w152) (fun _ h9 => h9) rfl dX12_copyBook_43 ?_
  refine lv_sipush (v := 210) hx hb dX12_copyBook_46 (by decide) ?_
  refine lv_iload_n hx hb dX12_copyBook_49 rfl (lv_at hl 1 rfl) ?_
  refine lv_iload_n hx hb dX12_copyBook_50 rfl (lv_at hl 2 rfl) ?_
  refine mm_finv (va_runS (As := [.ref a_10, .int 210, .int 0, .int 2]) (rest := []) ⟨hx, hb, hml, hown, hts⟩ (M336_X12_copyRow l G cy H.size a_10 f_2 h37) (va_cwS 4 hts (mm_gS mm_w557 mm_w558 mm_w5 mm_w559) rfl rfl rfl hs_X12_copyRow ⟨by rw [hRf]; exact Nat.le_of_ble_eq_true rfl, by rw [hRl]; exact Nat.le_of_ble_eq_true rfl⟩) (mm_preS hK hZ hS hA hP hD [5] rfl rfl) rfl rfl hl.1 rfl (lv_room (Nat.le_of_ble_eq_true rfl)) dX12_copyBook_51 ⟨by rw [hRc]; exact Nat.le_of_ble_eq_true rfl, by rw [hRs]; exact Nat.le_of_ble_eq_true rfl⟩) hP hD hS hA (fun u : (Nat → Int32) => [(a_0, .inr (12, [.int i_0, .ref a_1, .ref a_2, .ref a_3, .ref a_4, .ref a_5, .int i_1, .int i_2, .int i_3, .int i_4, .int i_5, .long j_0, .int i_6, .int i_7, .int i_8, .int i_9, .ref a_6, .ref a_7, .ref a_8, .ref a_9, .ref a_10, .ref a_11, .ref a_12, .ref a_13, .ref a_14, .ref a_15, .ref a_16, .ref a_17, .ref a_18, .int i_10, .int i_11, .int i_12, .int i_13, .int i_14, .int i_15, .ref a_19, .int i_16, .ref a_20])), (a_6, .inl (cy 1, 5, .inl (mm_g [i_17, i_18, i_17, i_20, i_21]))), (a_7, .inl (cy 1, 30, .inl (mm_g [i_22, i_23, i_24, i_25, i_26, i_27, i_28, i_29, i_30, i_31, i_32, i_33, i_22, i_23, i_24, i_25, i_26, i_27, i_40, i_41, i_42, i_43, i_44, i_45, i_46, i_47, i_48, i_49, i_50, i_51]))), (a_8, .inl (cy 1, 90, .inl n1)), (a_9, .inl (cy 1, 15, .inl n4)), (a_10, .inl (cy 1, 1050, .inl u)), (a_11, .inl (cy 1, 30, .inl f_3)), (a_12, .inl (cy 1, 240, .inl f_4)), (a_13, .inl (cy 1, 450, .inl f_5))]) [5] [0, 1, 2, 3, 4, 6, 7, 8] (n := 9) (fun _ => rfl) (by decide +kernel) (by decide +kernel) rfl (fun _ => rfl) (wr := [(a_0, .inr (12, [.int i_0, .ref a_1, .ref a_2, .ref a_3, .ref a_4, .ref a_5, .int i_1, .int i_2, .int i_3, .int i_4, .int i_5, .long j_0, .int i_6, .int i_7, .int i_8, .int i_9, .ref a_6, .ref a_7, .ref a_8, .ref a_9, .ref a_10, .ref a_11, .ref a_12, .ref a_13, .ref a_14, .ref a_15, .ref a_16, .ref a_17, .ref a_18, .int i_10, .int i_11, .int i_12, .int i_13, .int i_14, .int i_15, .ref a_19, .int i_16, .ref a_20])), (a_6, .inl (cy 1, 5, .inl (mm_g [i_17, i_18, i_17, i_20, i_21]))), (a_7, .inl (cy 1, 30, .inl (mm_g [i_22, i_23, i_24, i_25, i_26, i_27, i_28, i_29, i_30, i_31, i_32, i_33, i_22, i_23, i_24, i_25, i_26, i_27, i_40, i_41, i_42, i_43, i_44, i_45, i_46, i_47, i_48, i_49, i_50, i_51]))), (a_8, .inl (cy 1, 90, .inl n1)), (a_9, .inl (cy 1, 15, .inl n4)), (a_11, .inl (cy 1, 30, .inl f_3)), (a_12, .inl (cy 1, 240, .inl f_4)), (a_13, .inl (cy 1, 450, .inl f_5))]) rfl (fun _ => rfl) (fun _ => rfl) ?_
  clear hP hD hS
  clear H locs
  intro n7 H locs hw (hP : va_P G vwCl [(a_0, .inr (12, [.int i_0, .ref a_1, .ref a_2, .ref a_3, .ref a_4, .ref a_5, .int i_1, .int i_2, .int i_3, .int i_4, .int i_5, .long j_0, .int i_6, .int i_7, .int i_8, .int i_9, .ref a_6, .ref a_7, .ref a_8, .ref a_9, .ref a_10, .ref a_11, .ref a_12, .ref a_13, .ref a_14, .ref a_15, .ref a_16, .ref a_17, .ref a_18, .int i_10, .int i_11, .int i_12, .int i_13, .int i_14, .int i_15, .ref a_19, .int i_16, .ref a_20])), (a_6, .inl (cy 1, 5, .inl (mm_g [i_17, i_18, i_17, i_20, i_21]))), (a_7, .inl (cy 1, 30, .inl (mm_g [i_22, i_23, i_24, i_25, i_26, i_27, i_28, i_29, i_30, i_31, i_32, i_33, i_22, i_23, i_24, i_25, i_26, i_27, i_40, i_41, i_42, i_43, i_44, i_45, i_46, i_47, i_48, i_49, i_50, i_51]))), (a_8, .inl (cy 1, 90, .inl n1)), (a_9, .inl (cy 1, 15, .inl n4)), (a_10, .inl (cy 1, 1050, .inl n7)), (a_11, .inl (cy 1, 30, .inl f_3)), (a_12, .inl (cy 1, 240, .inl f_4)), (a_13, .inl (cy 1, 450, .inl f_5))] H) (hD : va_D A [(a_0, .inr (12, [.int i_0, .ref a_1, .ref a_2, .ref a_3, .ref a_4, .ref a_5, .int i_1, .int i_2, .int i_3, .int i_4, .int i_5, .long j_0, .int i_6, .int i_7, .int i_8, .int i_9, .ref a_6, .ref a_7, .ref a_8, .ref a_9, .ref a_10, .ref a_11, .ref a_12, .ref a_13, .ref a_14, .ref a_15, .ref a_16, .ref a_17, .ref a_18, .int i_10, .int i_11, .int i_12, .int i_13, .int i_14, .int i_15, .ref a_19, .int i_16, .ref a_20])), (a_6, .inl (cy 1, 5, .inl (mm_g [i_17, i_18, i_17, i_20, i_21]))), (a_7, .inl (cy 1, 30, .inl (mm_g [i_22, i_23, i_24, i_25, i_26, i_27, i_28, i_29, i_30, i_31, i_32, i_33, i_22, i_23, i_24, i_25, i_26, i_27, i_40, i_41, i_42, i_43, i_44, i_45, i_46, i_47, i_48, i_49, i_50, i_51]))), (a_8, .inl (cy 1, 90, .inl n1)), (a_9, .inl (cy 1, 15, .inl n4)), (a_10, .inl (cy 1, 1050, .inl n7)), (a_11, .inl (cy 1, 30, .inl f_3)), (a_12, .inl (cy 1, 240, .inl f_4)), (a_13, .inl (cy 1, 450, .inl f_5))]) hS
  obtain ⟨w8, w9⟩ := hw
  refine lv_aload_n hx hb dX12_copyBook_54 rfl (lv_at hl 0 rfl) ?_
  refine va_get (D := G) (ci := 12) (v := .ref a_11) (C := RX12) (T := TX12) (N := 38) hx hb hts (mm_i inlX12) hown hK.1 hP 0 rfl rfl 21 (by decide) (mm_h hts mm_w153) (fun _ h9 => h9) rfl dX12_copyBook_55 ?_
  refine lv_bipush (v := 6) hx hb dX12_copyBook_58 (by decide) ?_
  refine lv_iload_n hx hb dX12_copyBook_60 rfl (lv_at hl 1 rfl) ?_
  refine lv_iload_n hx hb dX12_copyBook_61 rfl (lv_at hl 2 rfl) ?_
  refine mm_finv (va_runS (As := [.ref a_11, .int 6, .int 0, .int 2]) (rest := []) ⟨hx, hb, hml, hown, hts⟩ (M337_X12_copyRow l G cy H.size a_11 f_3 h38) (va_cwS 4 hts (mm_gS mm_w557 mm_w558 mm_w5 mm_w559) rfl rfl rfl hs_X12_copyRow ⟨by rw [hRf]; exact Nat.le_of_ble_eq_true rfl, by rw [hRl]; exact Nat.le_of_ble_eq_true rfl⟩) (mm_preS hK hZ hS hA hP hD [6] rfl rfl) rfl rfl hl.1 rfl (lv_room (Nat.le_of_ble_eq_true rfl)) dX12_copyBook_62 ⟨by rw [hRc]; exact Nat.le_of_ble_eq_true rfl, by rw [hRs]; exact Nat.le_of_ble_eq_true rfl⟩) hP hD hS hA (fun u : (Nat → Int32) => [(a_0, .inr (12, [.int i_0, .ref a_1, .ref a_2, .ref a_3, .ref a_4, .ref a_5, .int i_1, .int i_2, .int i_3, .int i_4, .int i_5, .long j_0, .int i_6, .int i_7, .int i_8, .int i_9, .ref a_6, .ref a_7, .ref a_8, .ref a_9, .ref a_10, .ref a_11, .ref a_12, .ref a_13, .ref a_14, .ref a_15, .ref a_16, .ref a_17, .ref a_18, .int i_10, .int i_11, .int i_12, .int i_13, .int i_14, .int i_15, .ref a_19, .int i_16, .ref a_20])), (a_6, .inl (cy 1, 5, .inl (mm_g [i_17, i_18, i_17, i_20, i_21]))), (a_7, .inl (cy 1, 30, .inl (mm_g [i_22, i_23, i_24, i_25, i_26, i_27, i_28, i_29, i_30, i_31, i_32, i_33, i_22, i_23, i_24, i_25, i_26, i_27, i_40, i_41, i_42, i_43, i_44, i_45, i_46, i_47, i_48, i_49, i_50, i_51]))), (a_8, .inl (cy 1, 90, .inl n1)), (a_9, .inl (cy 1, 15, .inl n4)), (a_10, .inl (cy 1, 1050, .inl n7)), (a_11, .inl (cy 1, 30, .inl u)), (a_12, .inl (cy 1, 240, .inl f_4)), (a_13, .inl (cy 1, 450, .inl f_5))]) [6] [0, 1, 2, 3, 4, 5, 7, 8] (n := 9) (fun _ => rfl) (by decide +kernel) (by decide +kernel) rfl (fun _ => rfl) (wr := [(a_0, .inr (12, [.int i_0, .ref a_1, .ref a_2, .ref a_3, .ref a_4, .ref a_5, .int i_1, .int i_2, .int i_3, .int i_4, .int i_5, .long j_0, .int i_6, .int i_7, .int i_8, .int i_9, .ref a_6, .ref a_7, .ref a_8, .ref a_9, .ref a_10, .ref a_11, .ref a_12, .ref a_13, .ref a_14, .ref a_15, .ref a_16, .ref a_17, .ref a_18, .int i_10, .int i_11, .int i_12, .int i_13, .int i_14, .int i_15, .ref a_19, .int i_16, .ref a_20])), (a_6, .inl (cy 1, 5, .inl (mm_g [i_17, i_18, i_17, i_20, i_21]))), (a_7, .inl (cy 1, 30, .inl (mm_g [i_22, i_23, i_24, i_25, i_26, i_27, i_28, i_29, i_30, i_31, i_32, i_33, i_22, i_23, i_24, i_25, i_26, i_27, i_40, i_41, i_42, i_43, i_44, i_45, i_46, i_47, i_48, i_49, i_50, i_51]))), (a_8, .inl (cy 1, 90, .inl n1)), (a_9, .inl (cy 1, 15, .inl n4)), (a_10, .inl (cy 1, 1050, .inl n7)), (a_12, .inl (cy 1, 240, .inl f_4)), (a_13, .inl (cy 1, 450, .inl f_5))]) rfl (fun _ => rfl) (fun _ => rfl) ?_
  clear hP hD hS
  clear H locs
  intro n10 H locs hw (hP : va_P G vwCl [(a_0, .inr (12, [.int i_0, .ref a_1, .ref a_2, .ref a_3, .ref a_4, .ref a_5, .int i_1, .int i_2, .int i_3, .int i_4, .int i_5, .long j_0, .int i_6, .int i_7, .int i_8, .int i_9, .ref a_6, .ref a_7, .ref a_8, .ref a_9, .ref a_10, .ref a_11, .ref a_12, .ref a_13, .ref a_14, .ref a_15, .ref a_16, .ref a_17, .ref a_18, .int i_10, .int i_11, .int i_12, .int i_13, .int i_14, .int i_15, .ref a_19, .int i_16, .ref a_20])), (a_6, .inl (cy 1, 5, .inl (mm_g [i_17, i_18, i_17, i_20, i_21]))), (a_7, .inl (cy 1, 30, .inl (mm_g [i_22, i_23, i_24, i_25, i_26, i_27, i_28, i_29, i_30, i_31, i_32, i_33, i_22, i_23, i_24, i_25, i_26, i_27, i_40, i_41, i_42, i_43, i_44, i_45, i_46, i_47, i_48, i_49, i_50, i_51]))), (a_8, .inl (cy 1, 90, .inl n1)), (a_9, .inl (cy 1, 15, .inl n4)), (a_10, .inl (cy 1, 1050, .inl n7)), (a_11, .inl (cy 1, 30, .inl n10)), (a_12, .inl (cy 1, 240, .inl f_4)), (a_13, .inl (cy 1, 450, .inl f_5))] H) (hD : va_D A [(a_0, .inr (12, [.int i_0, .ref a_1, .ref a_2, .ref a_3, .ref a_4, .ref a_5, .int i_1, .int i_2, .int i_3, .int i_4, .int i_5, .long j_0, .int i_6, .int i_7, .int i_8, .int i_9, .ref a_6, .ref a_7, .ref a_8, .ref a_9, .ref a_10, .ref a_11, .ref a_12, .ref a_13, .ref a_14, .ref a_15, .ref a_16, .ref a_17, .ref a_18, .int i_10, .int i_11, .int i_12, .int i_13, .int i_14, .int i_15, .ref a_19, .int i_16, .ref a_20])), (a_6, .inl (cy 1, 5, .inl (mm_g [i_17, i_18, i_17, i_20, i_21]))), (a_7, .inl (cy 1, 30, .inl (mm_g [i_22, i_23, i_24, i_25, i_26, i_27, i_28, i_29, i_30, i_31, i_32, i_33, i_22, i_23, i_24, i_25, i_26, i_27, i_40, i_41, i_42, i_43, i_44, i_45, i_46, i_47, i_48, i_49, i_50, i_51]))), (a_8, .inl (cy 1, 90, .inl n1)), (a_9, .inl (cy 1, 15, .inl n4)), (a_10, .inl (cy 1, 1050, .inl n7)), (a_11, .inl (cy 1, 30, .inl n10)), (a_12, .inl (cy 1, 240, .inl f_4)), (a_13, .inl (cy 1, 450, .inl f_5))]) hS
  obtain ⟨w11, w12⟩ := hw
  refine lv_aload_n hx hb dX12_copyBook_65 rfl (lv_at hl 0 rfl) ?_
  refine va_get (D := G) (ci := 12) (v := .ref a_12) (C := RX12) (T := TX12) (N := 38) hx hb hts (mm_i inlX12) hown hK.1 hP 0 rfl rfl 22 (by decide) (mm_h hts mm_w154) (fun _ h9 => h9) rfl dX12_copyBook_66 ?_
  refine lv_bipush (v := 48) hx hb dX12_copyBook_69 (by decide) ?_
  refine lv_iload_n hx hb dX12_copyBook_71 rfl (lv_at hl 1 rfl) ?_
  refine lv_iload_n hx hb dX12_copyBook_72 rfl (lv_at hl 2 rfl) ?_
  refine mm_finv (va_runS (As := [.ref a_12, .int 48, .int 0, .int 2]) (rest := []) ⟨hx, hb, hml, hown, hts⟩ (M338_X12_copyRow l G cy H.size a_12 f_4 h39) (va_cwS 4 hts (mm_gS mm_w557 mm_w558 mm_w5 mm_w559) rfl rfl rfl hs_X12_copyRow ⟨by rw [hRf]; exact Nat.le_of_ble_eq_true rfl, by rw [hRl]; exact Nat.le_of_ble_eq_true rfl⟩) (mm_preS hK hZ hS hA hP hD [7] rfl rfl) rfl rfl hl.1 rfl (lv_room (Nat.le_of_ble_eq_true rfl)) dX12_copyBook_73 ⟨by rw [hRc]; exact Nat.le_of_ble_eq_true rfl, by rw [hRs]; exact Nat.le_of_ble_eq_true rfl⟩) hP hD hS hA (fun u : (Nat → Int32) => [(a_0, .inr (12, [.int i_0, .ref a_1, .ref a_2, .ref a_3, .ref a_4, .ref a_5, .int i_1, .int i_2, .int i_3, .int i_4, .int i_5, .long j_0, .int i_6, .int i_7, .int i_8, .int i_9, .ref a_6, .ref a_7, .ref a_8, .ref a_9, .ref a_10, .ref a_11, .ref a_12, .ref a_13, .ref a_14, .ref a_15, .ref a_16, .ref a_17, .ref a_18, .int i_10, .int i_11, .int i_12, .int i_13, .int i_14, .int i_15, .ref a_19, .int i_16, .ref a_20])), (a_6, .inl (cy 1, 5, .inl (mm_g [i_17, i_18, i_17, i_20, i_21]))), (a_7, .inl (cy 1, 30, .inl (mm_g [i_22, i_23, i_24, i_25, i_26, i_27, i_28, i_29, i_30, i_31, i_32, i_33, i_22, i_23, i_24, i_25, i_26, i_27, i_40, i_41, i_42, i_43, i_44, i_45, i_46, i_47, i_48, i_49, i_50, i_51]))), (a_8, .inl (cy 1, 90, .inl n1)), (a_9, .inl (cy 1, 15, .inl n4)), (a_10, .inl (cy 1, 1050, .inl n7)), (a_11, .inl (cy 1, 30, .inl n10)), (a_12, .inl (cy 1, 240, .inl u)), (a_13, .inl (cy 1, 450, .inl f_5))]) [7] [0, 1, 2, 3, 4, 5, 6, 8] (n := 9) (fun _ => rfl) (by decide +kernel) (by decide +kernel) rfl (fun _ => rfl) (wr := [(a_0, .inr (12, [.int i_0, .ref a_1, .ref a_2, .ref a_3, .ref a_4, .ref a_5, .int i_1, .int i_2, .int i_3, .int i_4, .int i_5, .long j_0, .int i_6, .int i_7, .int i_8, .int i_9, .ref a_6, .ref a_7, .ref a_8, .ref a_9, .ref a_10, .ref a_11, .ref a_12, .ref a_13, .ref a_14, .ref a_15, .ref a_16, .ref a_17, .ref a_18, .int i_10, .int i_11, .int i_12, .int i_13, .int i_14, .int i_15, .ref a_19, .int i_16, .ref a_20])), (a_6, .inl (cy 1, 5, .inl (mm_g [i_17, i_18, i_17, i_20, i_21]))), (a_7, .inl (cy 1, 30, .inl (mm_g [i_22, i_23, i_24, i_25, i_26, i_27, i_28, i_29, i_30, i_31, i_32, i_33, i_22, i_23, i_24, i_25, i_26, i_27, i_40, i_41, i_42, i_43, i_44, i_45, i_46, i_47, i_48, i_49, i_50, i_51]))), (a_8, .inl (cy 1, 90, .inl n1)), (a_9, .inl (cy 1, 15, .inl n4)), (a_10, .inl (cy 1, 1050, .inl n7)), (a_11, .inl (cy 1, 30, .inl n10)), (a_13, .inl (cy 1, 450, .inl f_5))]) rfl (fun _ => rfl) (fun _ => rfl) ?_
  clear hP hD hS
  clear H locs
  intro n13 H locs hw (hP : va_P G vwCl [(a_0, .inr (12, [.int i_0, .ref a_1, .ref a_2, .ref a_3, .ref a_4, .ref a_5, .int i_1, .int i_2, .int i_3, .int i_4, .int i_5, .long j_0, .int i_6, .int i_7, .int i_8, .int i_9, .ref a_6, .ref a_7, .ref a_8, .ref a_9, .ref a_10, .ref a_11, .ref a_12, .ref a_13, .ref a_14, .ref a_15, .ref a_16, .ref a_17, .ref a_18, .int i_10, .int i_11, .int i_12, .int i_13, .int i_14, .int i_15, .ref a_19, .int i_16, .ref a_20])), (a_6, .inl (cy 1, 5, .inl (mm_g [i_17, i_18, i_17, i_20, i_21]))), (a_7, .inl (cy 1, 30, .inl (mm_g [i_22, i_23, i_24, i_25, i_26, i_27, i_28, i_29, i_30, i_31, i_32, i_33, i_22, i_23, i_24, i_25, i_26, i_27, i_40, i_41, i_42, i_43, i_44, i_45, i_46, i_47, i_48, i_49, i_50, i_51]))), (a_8, .inl (cy 1, 90, .inl n1)), (a_9, .inl (cy 1, 15, .inl n4)), (a_10, .inl (cy 1, 1050, .inl n7)), (a_11, .inl (cy 1, 30, .inl n10)), (a_12, .inl (cy 1, 240, .inl n13)), (a_13, .inl (cy 1, 450, .inl f_5))] H) (hD : va_D A [(a_0, .inr (12, [.int i_0, .ref a_1, .ref a_2, .ref a_3, .ref a_4, .ref a_5, .int i_1, .int i_2, .int i_3, .int i_4, .int i_5, .long j_0, .int i_6, .int i_7, .int i_8, .int i_9, .ref a_6, .ref a_7, .ref a_8, .ref a_9, .ref a_10, .ref a_11, .ref a_12, .ref a_13, .ref a_14, .ref a_15, .ref a_16, .ref a_17, .ref a_18, .int i_10, .int i_11, .int i_12, .int i_13, .int i_14, .int i_15, .ref a_19, .int i_16, .ref a_20])), (a_6, .inl (cy 1, 5, .inl (mm_g [i_17, i_18, i_17, i_20, i_21]))), (a_7, .inl (cy 1, 30, .inl (mm_g [i_22, i_23, i_24, i_25, i_26, i_27, i_28, i_29, i_30, i_31, i_32, i_33, i_22, i_23, i_24, i_25, i_26, i_27, i_40, i_41, i_42, i_43, i_44, i_45, i_46, i_47, i_48, i_49, i_50, i_51]))), (a_8, .inl (cy 1, 90, .inl n1)), (a_9, .inl (cy 1, 15, .inl n4)), (a_10, .inl (cy 1, 1050, .inl n7)), (a_11, .inl (cy 1, 30, .inl n10)), (a_12, .inl (cy 1, 240, .inl n13)), (a_13, .inl (cy 1, 450, .inl f_5))]) hS
  obtain ⟨w14, w15⟩ := hw
  refine lv_aload_n hx hb dX12_copyBook_76 rfl (lv_at hl 0 rfl) ?_
  refine va_get (D := G) (ci := 12) (v := .ref a_13) (C := RX12) (T := TX12) (N := 38) hx hb hts (mm_i inlX12) hown hK.1 hP 0 rfl rfl 23 (by decide) (mm_h hts mm_w155) (fun _ h9 => h9) rfl dX12_copyBook_77 ?_
  refine lv_bipush (v := 90) hx hb dX12_copyBook_80 (by decide) ?_
  refine lv_iload_n hx hb dX12_copyBook_82 rfl (lv_at hl 1 rfl) ?_
  refine lv_iload_n hx hb dX12_copyBook_83 rfl (lv_at hl 2 rfl) ?_
  refine mm_finv (va_runS (As := [.ref a_13, .int 90, .int 0, .int 2]) (rest := []) ⟨hx, hb, hml, hown, hts⟩ (M339_X12_copyRow l G cy H.size a_13 f_5 h40) (va_cwS 4 hts (mm_gS mm_w557 mm_w558 mm_w5 mm_w559) rfl rfl rfl hs_X12_copyRow ⟨by rw [hRf]; exact Nat.le_of_ble_eq_true rfl, by rw [hRl]; exact Nat.le_of_ble_eq_true rfl⟩) (mm_preS hK hZ hS hA hP hD [8] rfl rfl) rfl rfl hl.1 rfl (lv_room (Nat.le_of_ble_eq_true rfl)) dX12_copyBook_84 ⟨by rw [hRc]; exact Nat.le_of_ble_eq_true rfl, by rw [hRs]; exact Nat.le_of_ble_eq_true rfl⟩) hP hD hS hA (fun u : (Nat → Int32) => [(a_0, .inr (12, [.int i_0, .ref a_1, .ref a_2, .ref a_3, .ref a_4, .ref a_5, .int i_1, .int i_2, .int i_3, .int i_4, .int i_5, .long j_0, .int i_6, .int i_7, .int i_8, .int i_9, .ref a_6, .ref a_7, .ref a_8, .ref a_9, .ref a_10, .ref a_11, .ref a_12, .ref a_13, .ref a_14, .ref a_15, .ref a_16, .ref a_17, .ref a_18, .int i_10, .int i_11, .int i_12, .int i_13, .int i_14, .int i_15, .ref a_19, .int i_16, .ref a_20])), (a_6, .inl (cy 1, 5, .inl (mm_g [i_17, i_18, i_17, i_20, i_21]))), (a_7, .inl (cy 1, 30, .inl (mm_g [i_22, i_23, i_24, i_25, i_26, i_27, i_28, i_29, i_30, i_31, i_32, i_33, i_22, i_23, i_24, i_25, i_26, i_27, i_40, i_41, i_42, i_43, i_44, i_45, i_46, i_47, i_48, i_49, i_50, i_51]))), (a_8, .inl (cy 1, 90, .inl n1)), (a_9, .inl (cy 1, 15, .inl n4)), (a_10, .inl (cy 1, 1050, .inl n7)), (a_11, .inl (cy 1, 30, .inl n10)), (a_12, .inl (cy 1, 240, .inl n13)), (a_13, .inl (cy 1, 450, .inl u))]) [8] [0, 1, 2, 3, 4, 5, 6, 7] (n := 9) (fun _ => rfl) (by decide +kernel) (by decide +kernel) rfl (fun _ => rfl) (wr := [(a_0, .inr (12, [.int i_0, .ref a_1, .ref a_2, .ref a_3, .ref a_4, .ref a_5, .int i_1, .int i_2, .int i_3, .int i_4, .int i_5, .long j_0, .int i_6, .int i_7, .int i_8, .int i_9, .ref a_6, .ref a_7, .ref a_8, .ref a_9, .ref a_10, .ref a_11, .ref a_12, .ref a_13, .ref a_14, .ref a_15, .ref a_16, .ref a_17, .ref a_18, .int i_10, .int i_11, .int i_12, .int i_13, .int i_14, .int i_15, .ref a_19, .int i_16, .ref a_20])), (a_6, .inl (cy 1, 5, .inl (mm_g [i_17, i_18, i_17, i_20, i_21]))), (a_7, .inl (cy 1, 30, .inl (mm_g [i_22, i_23, i_24, i_25, i_26, i_27, i_28, i_29, i_30, i_31, i_32, i_33, i_22, i_23, i_24, i_25, i_26, i_27, i_40, i_41, i_42, i_43, i_44, i_45, i_46, i_47, i_48, i_49, i_50, i_51]))), (a_8, .inl (cy 1, 90, .inl n1)), (a_9, .inl (cy 1, 15, .inl n4)), (a_10, .inl (cy 1, 1050, .inl n7)), (a_11, .inl (cy 1, 30, .inl n10)), (a_12, .inl (cy 1, 240, .inl n13))]) rfl (fun _ => rfl) (fun _ => rfl) ?_
  clear hP hD hS
  clear H locs
  intro n16 H locs hw (hP : va_P G vwCl [(a_0, .inr (12, [.int i_0, .ref a_1, .ref a_2, .ref a_3, .ref a_4, .ref a_5, .int i_1, .int i_2, .int i_3, .int i_4, .int i_5, .long j_0, .int i_6, .int i_7, .int i_8, .int i_9, .ref a_6, .ref a_7, .ref a_8, .ref a_9, .ref a_10, .ref a_11, .ref a_12, .ref a_13, .ref a_14, .ref a_15, .ref a_16, .ref a_17, .ref a_18, .int i_10, .int i_11, .int i_12, .int i_13, .int i_14, .int i_15, .ref a_19, .int i_16, .ref a_20])), (a_6, .inl (cy 1, 5, .inl (mm_g [i_17, i_18, i_17, i_20, i_21]))), (a_7, .inl (cy 1, 30, .inl (mm_g [i_22, i_23, i_24, i_25, i_26, i_27, i_28, i_29, i_30, i_31, i_32, i_33, i_22, i_23, i_24, i_25, i_26, i_27, i_40, i_41, i_42, i_43, i_44, i_45, i_46, i_47, i_48, i_49, i_50, i_51]))), (a_8, .inl (cy 1, 90, .inl n1)), (a_9, .inl (cy 1, 15, .inl n4)), (a_10, .inl (cy 1, 1050, .inl n7)), (a_11, .inl (cy 1, 30, .inl n10)), (a_12, .inl (cy 1, 240, .inl n13)), (a_13, .inl (cy 1, 450, .inl n16))] H) (hD : va_D A [(a_0, .inr (12, [.int i_0, .ref a_1, .ref a_2, .ref a_3, .ref a_4, .ref a_5, .int i_1, .int i_2, .int i_3, .int i_4, .int i_5, .long j_0, .int i_6, .int i_7, .int i_8, .int i_9, .ref a_6, .ref a_7, .ref a_8, .ref a_9, .ref a_10, .ref a_11, .ref a_12, .ref a_13, .ref a_14, .ref a_15, .ref a_16, .ref a_17, .ref a_18, .int i_10, .int i_11, .int i_12, .int i_13, .int i_14, .int i_15, .ref a_19, .int i_16, .ref a_20])), (a_6, .inl (cy 1, 5, .inl (mm_g [i_17, i_18, i_17, i_20, i_21]))), (a_7, .inl (cy 1, 30, .inl (mm_g [i_22, i_23, i_24, i_25, i_26, i_27, i_28, i_29, i_30, i_31, i_32, i_33, i_22, i_23, i_24, i_25, i_26, i_27, i_40, i_41, i_42, i_43, i_44, i_45, i_46, i_47, i_48, i_49, i_50, i_51]))), (a_8, .inl (cy 1, 90, .inl n1)), (a_9, .inl (cy 1, 15, .inl n4)), (a_10, .inl (cy 1, 1050, .inl n7)), (a_11, .inl (cy 1, 30, .inl n10)), (a_12, .inl (cy 1, 240, .inl n13)), (a_13, .inl (cy 1, 450, .inl n16))]) hS
  obtain ⟨w17, w18⟩ := hw
  have w19 : mm_rls n4 n7 0 i_24 i_25 := (mm_rls_ck h41 w6 w9 (by decide))
  have w20 : mm_txs n10 n13 0 i_24 i_26 := (mm_txs_ck h42 w12 w15 (by decide))
  have w21 : mm_acs n16 0 i_24 i_25 i_27 := (mm_acs_ck h43 w18 (by decide))
  have w22 : mm_rls n4 n7 1 i_30 i_31 := (mm_rls_ck h45 w6 w9 (by decide))
  have w23 : mm_txs n10 n13 1 i_30 i_32 := (mm_txs_ck h46 w12 w15 (by decide))
  have w24 : mm_acs n16 1 i_30 i_31 i_33 := (mm_acs_ck h47 w18 (by decide))
  have w25 : mm_rls n4 n7 2 i_24 i_25 := (mm_rls_cp h41 w6 w9)
  have w26 : mm_txs n10 n13 2 i_24 i_26 := (mm_txs_cp h42 w12 w15)
  have w27 : mm_acs n16 2 i_24 i_25 i_27 := (mm_acs_cp h43 w18)
  have w28 : mm_rls n4 n7 3 i_42 i_43 := (mm_rls_ck h53 w6 w9 (by decide))
  have w29 : mm_txs n10 n13 3 i_42 i_44 := (mm_txs_ck h54 w12 w15 (by decide))
  have w30 : mm_acs n16 3 i_42 i_43 i_45 := (mm_acs_ck h55 w18 (by decide))
  subst hAe
  rw [hQ]
  exact W.vret hx hb hr (fun t ht hW => ⟨⟨(n1, n4, n7, n10, n13, n16), rfl, ⟨w2, w5, w8, w11, w14, w17, w19, w20, w21, w22, w23, w24, w25, w26, w27, w28, w29, w30⟩, by rw [ht]; exact hP, hK.warm hW, hD⟩, hS.F ht⟩) hS.2.2 dX12_copyBook_87

set_option maxHeartbeats 4000000 in
set_option maxRecDepth 100000 in
theorem M341_X12_copyRow (l : Launch) (G : va_G) (cy : Nat → ClassId) (sz : Nat) (a_0 : Nat) (i_0 : Int32) (i_1 : Int32) (i_2 : Int32) (i_3 : Int32) (i_4 : Int32) (h0 : mm_rg i_0 0 601) (h1 : mm_rg i_1 0 601) (h2 : mm_rg i_2 0 601) (h3 : mm_rg i_3 0 601) (h4 : mm_rg i_4 0 601)  : mm_CV l yX12_copyRow (mm_ws yX12_copyRow cX12_copyRow 5 (none)) ({ frames := 0, cells := 0, slots := 0, locals := 0 } : Room) G cy sz [(a_0, .inl (cy 1, 5, .inl (mm_g [i_0, i_1, i_2, i_3, i_4])))] [.ref a_0, .int 1, .int 0, .int 3] (fun u : Unit => [(a_0, .inl (cy 1, 5, .inl (mm_g [i_0, i_1, i_2, i_0, i_4])))]) (fun u : Unit => True) 0 0 := by
  refine mm_begin (lv := [(0, .ref a_0), (1, .int 1), (2, .int 0), (3, .int 3)]) (by decide) (Nat.le_of_ble_eq_true rfl) rfl ?_
  intro p e s m below meth c A ls R args Q H locs hRe hQ hAe hx hb hr hlocks hml hown hnm hts hsz hA hS hP hK hD hZ hl
  have hRf : R.frames = 0 := by rw [hRe]
  have hRl : R.locals = 0 := by rw [hRe]
  have hRc : R.cells = 0 := by rw [hRe]
  have hRs : R.slots = 0 := by rw [hRe]
  refine lv_iconst (v := 0) hx hb dX12_copyRow_0 (by decide) ?_
  refine lv_istore (lv' := [(4, .int 0), (0, .ref a_0), (1, .int 1), (2, .int 0), (3, .int 3)]) hx hb dX12_copyRow_1 hl (by decide) rfl ?_
  clear hl
  clear ls
  intro ls hl
  refine lv_iload hx hb dX12_copyRow_3 (lv_at hl 0 rfl) ?_
  refine lv_iload_n hx hb dX12_copyRow_5 rfl (lv_at hl 2 rfl) ?_
  refine lv_icmp_ge (tgt := 31) hx hb dX12_copyRow_6 (by decide) (fun c1 => ?_) (fun c1 => ?_)
  · have q2 := mm_leL (mm_le c1) mm_k1 mm_k0
    exact mm_no q2 (by decide)
  · refine lv_aload_n hx hb dX12_copyRow_9 rfl (lv_at hl 1 rfl) ?_
    refine lv_iload_n hx hb dX12_copyRow_10 rfl (lv_at hl 2 rfl) ?_
    refine lv_iload_n hx hb dX12_copyRow_11 rfl (lv_at hl 4 rfl) ?_
    refine lv_imul hx hb dX12_copyRow_12 ?_
    refine lv_topi (fun v3 ev3 => ?_)
    obtain rfl : v3 = 3 := ev3.trans (by decide)
    refine lv_iload hx hb dX12_copyRow_13 (lv_at hl 0 rfl) ?_
    refine lv_iadd hx hb dX12_copyRow_15 ?_
    refine lv_topi (fun v4 ev4 => ?_)
    obtain rfl : v4 = 3 := ev4.trans (by decide)
    refine lv_aload_n hx hb dX12_copyRow_16 rfl (lv_at hl 1 rfl) ?_
    refine lv_iload_n hx hb dX12_copyRow_17 rfl (lv_at hl 2 rfl) ?_
    refine lv_iload_n hx hb dX12_copyRow_18 rfl (lv_at hl 3 rfl) ?_
    refine lv_imul hx hb dX12_copyRow_19 ?_
    refine lv_topi (fun v5 ev5 => ?_)
    obtain rfl : v5 = 0 := ev5.trans (by decide)
    refine lv_iload hx hb dX12_copyRow_20 (lv_at hl 0 rfl) ?_
    refine lv_iadd hx hb dX12_copyRow_22 ?_
    refine lv_topi (fun v6 ev6 => ?_)
    obtain rfl : v6 = 0 := ev6.trans (by decide)
    refine va_iald hx hb hK.1 hP 0 1 rfl rfl (mm_in mm_k0 (by decide)) dX12_copyRow_23 ?_
    rw [show (mm_g [i_0, i_1, i_2, i_3, i_4]) (0 : Int32).toNatClampNeg = i_0 from mm_ge 0 (by decide) rfl]
    refine va_iast hx hb hK.1 hP hD hS 0 1 rfl rfl (mm_in mm_k3 (by decide)) dX12_copyRow_24 ?_
    clear hP hD hS
    clear H locs
    rw [show upd (mm_g [i_0, i_1, i_2, i_3, i_4]) (3 : Int32).toNatClampNeg i_0 = (mm_g [i_0, i_1, i_2, i_0, i_4]) from mm_gs2 3 5 (by decide) rfl rfl rfl]
    intro H locs (hP : va_P G vwCl [(a_0, .inl (cy 1, 5, .inl (mm_g [i_0, i_1, i_2, i_0, i_4])))] H) (hD : va_D A [(a_0, .inl (cy 1, 5, .inl (mm_g [i_0, i_1, i_2, i_0, i_4])))]) hS
    refine lv_iinc (v := 1) (lv' := [(4, .int 1), (0, .ref a_0), (1, .int 1), (2, .int 0), (3, .int 3)]) hx hb dX12_copyRow_25 hl (k := 0) rfl (by decide) (by decide) rfl ?_
    clear hl
    clear ls
    intro ls hl
    refine lv_goto (tgt := 3) hx hb dX12_copyRow_28 (by decide) ?_
    refine lv_iload hx hb dX12_copyRow_3 (lv_at hl 0 rfl) ?_
    refine lv_iload_n hx hb dX12_copyRow_5 rfl (lv_at hl 2 rfl) ?_
    refine lv_icmp_ge (tgt := 31) hx hb dX12_copyRow_6 (by decide) (fun c7 => ?_) (fun c7 => ?_)
    · subst hAe
      rw [hQ]
      exact W.vret hx hb hr (fun t ht hW => ⟨⟨(), rfl, trivial, by rw [ht]; exact hP, hK.warm hW, hD⟩, hS.F ht⟩) hS.2.2 dX12_copyRow_31
    · have q8 := mm_ltL (h := 0) (mm_nle c7) mm_k1 mm_k1 (by decide)
      exact mm_no q8 (by decide)

set_option maxHeartbeats 4000000 in
set_option maxRecDepth 100000 in
theorem M342_X12_copyRow (l : Launch) (G : va_G) (cy : Nat → ClassId) (sz : Nat) (a_0 : Nat) (i_0 : Int32) (i_1 : Int32) (i_2 : Int32) (i_3 : Int32) (i_4 : Int32) (i_5 : Int32) (i_6 : Int32) (i_7 : Int32) (i_8 : Int32) (i_9 : Int32) (i_10 : Int32) (i_11 : Int32) (i_12 : Int32) (i_13 : Int32) (i_14 : Int32) (i_15 : Int32) (i_16 : Int32) (i_17 : Int32) (i_18 : Int32) (i_19 : Int32) (i_20 : Int32) (i_21 : Int32) (i_22 : Int32) (i_23 : Int32) (i_24 : Int32) (i_25 : Int32) (i_26 : Int32) (i_27 : Int32) (i_28 : Int32) (i_29 : Int32) (h0 : mm_rg i_0 0 10) (h1 : mm_rg i_1 0 99) (h2 : mm_rg i_2 0 9) (h3 : mm_rg i_3 0 3) (h4 : mm_rg i_4 0 6) (h5 : mm_rg i_5 0 30) (h6 : mm_rg i_6 0 10) (h7 : mm_rg i_7 0 99) (h8 : mm_rg i_8 0 9) (h9 : mm_rg i_9 0 3) (h10 : mm_rg i_10 0 6) (h11 : mm_rg i_11 0 30) (h12 : mm_rg i_12 0 10) (h13 : mm_rg i_13 0 99) (h14 : mm_rg i_14 0 9) (h15 : mm_rg i_15 0 3) (h16 : mm_rg i_16 0 6) (h17 : mm_rg i_17 0 30) (h18 : mm_rg i_18 0 10) (h19 : mm_rg i_19 0 99) (h20 : mm_rg i_20 0 9) (h21 : mm_rg i_21 0 3) (h22 : mm_rg i_22 0 6) (h23 : mm_rg i_23 0 30) (h24 : mm_rg i_24 0 10) (h25 : mm_rg i_25 0 99) (h26 : mm_rg i_26 0 9) (h27 : mm_rg i_27 0 3) (h28 : mm_rg i_28 0 6) (h29 : mm_rg i_29 0 30)  : mm_CV l yX12_copyRow (mm_ws yX12_copyRow cX12_copyRow 5 (none)) ({ frames := 0, cells := 0, slots := 0, locals := 0 } : Room) G cy sz [(a_0, .inl (cy 1, 30, .inl (mm_g [i_0, i_1, i_2, i_3, i_4, i_5, i_6, i_7, i_8, i_9, i_10, i_11, i_12, i_13, i_14, i_15, i_16, i_17, i_18, i_19, i_20, i_21, i_22, i_23, i_24, i_25, i_26, i_27, i_28, i_29])))] [.ref a_0, .int 6, .int 0, .int 3] (fun u : Unit => [(a_0, .inl (cy 1, 30, .inl (mm_g [i_0, i_1, i_2, i_3, i_4, i_5, i_6, i_7, i_8, i_9, i_10, i_11, i_12, i_13, i_14, i_15, i_16, i_17, i_0, i_1, i_2, i_3, i_4, i_5, i_24, i_25, i_26, i_27, i_28, i_29])))]) (fun u : Unit => True) 0 0 := by
  refine mm_begin (lv := [(0, .ref a_0), (1, .int 6), (2, .int 0), (3, .int 3)]) (by decide) (Nat.le_of_ble_eq_true rfl) rfl ?_
  intro p e s m below meth c A ls R args Q H locs hRe hQ hAe hx hb hr hlocks hml hown hnm hts hsz hA hS hP hK hD hZ hl
  have hRf : R.frames = 0 := by rw [hRe]
  have hRl : R.locals = 0 := by rw [hRe]
  have hRc : R.cells = 0 := by rw [hRe]
  have hRs : R.slots = 0 := by rw [hRe]
  refine lv_iconst (v := 0) hx hb dX12_copyRow_0 (by decide) ?_
  refine lv_istore (lv' := [(4, .int 0), (0, .ref a_0), (1, .int 6), (2, .int 0), (3, .int 3)]) hx hb dX12_copyRow_1 hl (by decide) rfl ?_
  clear hl
  clear ls
  intro ls hl
  refine lv_iload hx hb dX12_copyRow_3 (lv_at hl 0 rfl) ?_
  refine lv_iload_n hx hb dX12_copyRow_5 rfl (lv_at hl 2 rfl) ?_
  refine lv_icmp_ge (tgt := 31) hx hb dX12_copyRow_6 (by decide) (fun c1 => ?_) (fun c1 => ?_)
  · have q2 := mm_leL (mm_le c1) mm_k6 mm_k0
    exact mm_no q2 (by decide)
  · refine lv_aload_n hx hb dX12_copyRow_9 rfl (lv_at hl 1 rfl) ?_
    refine lv_iload_n hx hb dX12_copyRow_10 rfl (lv_at hl 2 rfl) ?_
    refine lv_iload_n hx hb dX12_copyRow_11 rfl (lv_at hl 4 rfl) ?_
    refine lv_imul hx hb dX12_copyRow_12 ?_
    refine lv_topi (fun v3 ev3 => ?_)
    obtain rfl : v3 = 18 := ev3.trans (by decide)
    refine lv_iload hx hb dX12_copyRow_13 (lv_at hl 0 rfl) ?_
    refine lv_iadd hx hb dX12_copyRow_15 ?_
    refine lv_topi (fun v4 ev4 => ?_)
    obtain rfl : v4 = 18 := ev4.trans (by decide)
    refine lv_aload_n hx hb dX12_copyRow_16 rfl (lv_at hl 1 rfl) ?_
    refine lv_iload_n hx hb dX12_copyRow_17 rfl (lv_at hl 2 rfl) ?_
    refine lv_iload_n hx hb dX12_copyRow_18 rfl (lv_at hl 3 rfl) ?_
    refine lv_imul hx hb dX12_copyRow_19 ?_
    refine lv_topi (fun v5 ev5 => ?_)
    obtain rfl : v5 = 0 := ev5.trans (by decide)
    refine lv_iload hx hb dX12_copyRow_20 (lv_at hl 0 rfl) ?_
    refine lv_iadd hx hb dX12_copyRow_22 ?_
    refine lv_topi (fun v6 ev6 => ?_)
    obtain rfl : v6 = 0 := ev6.trans (by decide)
    refine va_iald hx hb hK.1 hP 0 1 rfl rfl (mm_in mm_k0 (by decide)) dX12_copyRow_23 ?_
    rw [show (mm_g [i_0, i_1, i_2, i_3, i_4, i_5, i_6, i_7, i_8, i_9, i_10, i_11, i_12, i_13, i_14, i_15, i_16, i_17, i_18, i_19, i_20, i_21, i_22, i_23, i_24, i_25, i_26, i_27, i_28, i_29]) (0 : Int32).toNatClampNeg = i_0 from mm_ge 0 (by decide) rfl]
    refine va_iast hx hb hK.1 hP hD hS 0 1 rfl rfl (mm_in mm_k18 (by decide)) dX12_copyRow_24 ?_
    clear hP hD hS
    clear H locs
    rw [show upd (mm_g [i_0, i_1, i_2, i_3, i_4, i_5, i_6, i_7, i_8, i_9, i_10, i_11, i_12, i_13, i_14, i_15, i_16, i_17, i_18, i_19, i_20, i_21, i_22, i_23, i_24, i_25, i_26, i_27, i_28, i_29]) (18 : Int32).toNatClampNeg i_0 = (mm_g [i_0, i_1, i_2, i_3, i_4, i_5, i_6, i_7, i_8, i_9, i_10, i_11, i_12, i_13, i_14, i_15, i_16, i_17, i_0, i_19, i_20, i_21, i_22, i_23, i_24, i_25, i_26, i_27, i_28, i_29]) from mm_gs2 18 30 (by decide) rfl rfl rfl]
    intro H locs (hP : va_P G vwCl [(a_0, .inl (cy 1, 30, .inl (mm_g [i_0, i_1, i_2, i_3, i_4, i_5, i_6, i_7, i_8, i_9, i_10, i_11, i_12, i_13, i_14, i_15, i_16, i_17, i_0, i_19, i_20, i_21, i_22, i_23, i_24, i_25, i_26, i_27, i_28, i_29])))] H) (hD : va_D A [(a_0, .inl (cy 1, 30, .inl (mm_g [i_0, i_1, i_2, i_3, i_4, i_5, i_6, i_7, i_8, i_9, i_10, i_11, i_12, i_13, i_14, i_15, i_16, i_17, i_0, i_19, i_20, i_21, i_22, i_23, i_24, i_25, i_26, i_27, i_28, i_29])))]) hS
    refine lv_iinc (v := 1) (lv' := [(4, .int 1), (0, .ref a_0), (1, .int 6), (2, .int 0), (3, .int 3)]) hx hb dX12_copyRow_25 hl (k := 0) rfl (by decide) (by decide) rfl ?_
    clear hl
    clear ls
    intro ls hl
    refine lv_goto (tgt := 3) hx hb dX12_copyRow_28 (by decide) ?_
    refine lv_iload hx hb dX12_copyRow_3 (lv_at hl 0 rfl) ?_
    refine lv_iload_n hx hb dX12_copyRow_5 rfl (lv_at hl 2 rfl) ?_
    refine lv_icmp_ge (tgt := 31) hx hb dX12_copyRow_6 (by decide) (fun c7 => ?_) (fun c7 => ?_)
    · have q8 := mm_leL (mm_le c7) mm_k6 mm_k1
      exact mm_no q8 (by decide)
    · refine lv_aload_n hx hb dX12_copyRow_9 rfl (lv_at hl 1 rfl) ?_
      refine lv_iload_n hx hb dX12_copyRow_10 rfl (lv_at hl 2 rfl) ?_
      refine lv_iload_n hx hb dX12_copyRow_11 rfl (lv_at hl 4 rfl) ?_
      refine lv_imul hx hb dX12_copyRow_12 ?_
      refine lv_topi (fun v9 ev9 => ?_)
      obtain rfl : v9 = 18 := ev9.trans (by decide)
      refine lv_iload hx hb dX12_copyRow_13 (lv_at hl 0 rfl) ?_
      refine lv_iadd hx hb dX12_copyRow_15 ?_
      refine lv_topi (fun v10 ev10 => ?_)
      obtain rfl : v10 = 19 := ev10.trans (by decide)
      refine lv_aload_n hx hb dX12_copyRow_16 rfl (lv_at hl 1 rfl) ?_
      refine lv_iload_n hx hb dX12_copyRow_17 rfl (lv_at hl 2 rfl) ?_
      refine lv_iload_n hx hb dX12_copyRow_18 rfl (lv_at hl 3 rfl) ?_
      refine lv_imul hx hb dX12_copyRow_19 ?_
      refine lv_topi (fun v11 ev11 => ?_)
      obtain rfl : v11 = 0 := ev11.trans (by decide)
      refine lv_iload hx hb dX12_copyRow_20 (lv_at hl 0 rfl) ?_
      refine lv_iadd hx hb dX12_copyRow_22 ?_
      refine lv_topi (fun v12 ev12 => ?_)
      obtain rfl : v12 = 1 := ev12.trans (by decide)
      refine va_iald hx hb hK.1 hP 0 1 rfl rfl (mm_in mm_k1 (by decide)) dX12_copyRow_23 ?_
      rw [show (mm_g [i_0, i_1, i_2, i_3, i_4, i_5, i_6, i_7, i_8, i_9, i_10, i_11, i_12, i_13, i_14, i_15, i_16, i_17, i_0, i_19, i_20, i_21, i_22, i_23, i_24, i_25, i_26, i_27, i_28, i_29]) (1 : Int32).toNatClampNeg = i_1 from mm_ge 1 (by decide) rfl]
      refine va_iast hx hb hK.1 hP hD hS 0 1 rfl rfl (mm_in mm_k19 (by decide)) dX12_copyRow_24 ?_
      clear hP hD hS
      clear H locs
      rw [show upd (mm_g [i_0, i_1, i_2, i_3, i_4, i_5, i_6, i_7, i_8, i_9, i_10, i_11, i_12, i_13, i_14, i_15, i_16, i_17, i_0, i_19, i_20, i_21, i_22, i_23, i_24, i_25, i_26, i_27, i_28, i_29]) (19 : Int32).toNatClampNeg i_1 = (mm_g [i_0, i_1, i_2, i_3, i_4, i_5, i_6, i_7, i_8, i_9, i_10, i_11, i_12, i_13, i_14, i_15, i_16, i_17, i_0, i_1, i_20, i_21, i_22, i_23, i_24, i_25, i_26, i_27, i_28, i_29]) from mm_gs2 19 30 (by decide) rfl rfl rfl]
      intro H locs (hP : va_P G vwCl [(a_0, .inl (cy 1, 30, .inl (mm_g [i_0, i_1, i_2, i_3, i_4, i_5, i_6, i_7, i_8, i_9, i_10, i_11, i_12, i_13, i_14, i_15, i_16, i_17, i_0, i_1, i_20, i_21, i_22, i_23, i_24, i_25, i_26, i_27, i_28, i_29])))] H) (hD : va_D A [(a_0, .inl (cy 1, 30, .inl (mm_g [i_0, i_1, i_2, i_3, i_4, i_5, i_6, i_7, i_8, i_9, i_10, i_11, i_12, i_13, i_14, i_15, i_16, i_17, i_0, i_1, i_20, i_21, i_22, i_23, i_24, i_25, i_26, i_27, i_28, i_29])))]) hS
      refine lv_iinc (v := 2) (lv' := [(4, .int 2), (0, .ref a_0), (1, .int 6), (2, .int 0), (3, .int 3)]) hx hb dX12_copyRow_25 hl (k := 0) rfl (by decide) (by decide) rfl ?_
      clear hl
      clear ls
      intro ls hl
      refine lv_goto (tgt := 3) hx hb dX12_copyRow_28 (by decide) ?_
      refine lv_iload hx hb dX12_copyRow_3 (lv_at hl 0 rfl) ?_
      refine lv_iload_n hx hb dX12_copyRow_5 rfl (lv_at hl 2 rfl) ?_
      refine lv_icmp_ge (tgt := 31) hx hb dX12_copyRow_6 (by decide) (fun c13 => ?_) (fun c13 => ?_)
      · have q14 := mm_leL (mm_le c13) mm_k6 mm_k2
        exact mm_no q14 (by decide)
      · refine lv_aload_n hx hb dX12_copyRow_9 rfl (lv_at hl 1 rfl) ?_
        refine lv_iload_n hx hb dX12_copyRow_10 rfl (lv_at hl 2 rfl) ?_
        refine lv_iload_n hx hb dX12_copyRow_11 rfl (lv_at hl 4 rfl) ?_
        refine lv_imul hx hb dX12_copyRow_12 ?_
        refine lv_topi (fun v15 ev15 => ?_)
        obtain rfl : v15 = 18 := ev15.trans (by decide)
        refine lv_iload hx hb dX12_copyRow_13 (lv_at hl 0 rfl) ?_
        refine lv_iadd hx hb dX12_copyRow_15 ?_
        refine lv_topi (fun v16 ev16 => ?_)
        obtain rfl : v16 = 20 := ev16.trans (by decide)
        refine lv_aload_n hx hb dX12_copyRow_16 rfl (lv_at hl 1 rfl) ?_
        refine lv_iload_n hx hb dX12_copyRow_17 rfl (lv_at hl 2 rfl) ?_
        refine lv_iload_n hx hb dX12_copyRow_18 rfl (lv_at hl 3 rfl) ?_
        refine lv_imul hx hb dX12_copyRow_19 ?_
        refine lv_topi (fun v17 ev17 => ?_)
        obtain rfl : v17 = 0 := ev17.trans (by decide)
        refine lv_iload hx hb dX12_copyRow_20 (lv_at hl 0 rfl) ?_
        refine lv_iadd hx hb dX12_copyRow_22 ?_
        refine lv_topi (fun v18 ev18 => ?_)
        obtain rfl : v18 = 2 := ev18.trans (by decide)
        refine va_iald hx hb hK.1 hP 0 1 rfl rfl (mm_in mm_k2 (by decide)) dX12_copyRow_23 ?_
        rw [show (mm_g [i_0, i_1, i_2, i_3, i_4, i_5, i_6, i_7, i_8, i_9, i_10, i_11, i_12, i_13, i_14, i_15, i_16, i_17, i_0, i_1, i_20, i_21, i_22, i_23, i_24, i_25, i_26, i_27, i_28, i_29]) (2 : Int32).toNatClampNeg = i_2 from mm_ge 2 (by decide) rfl]
        refine va_iast hx hb hK.1 hP hD hS 0 1 rfl rfl (mm_in mm_k20 (by decide)) dX12_copyRow_24 ?_
        clear hP hD hS
        clear H locs
        rw [show upd (mm_g [i_0, i_1, i_2, i_3, i_4, i_5, i_6, i_7, i_8, i_9, i_10, i_11, i_12, i_13, i_14, i_15, i_16, i_17, i_0, i_1, i_20, i_21, i_22, i_23, i_24, i_25, i_26, i_27, i_28, i_29]) (20 : Int32).toNatClampNeg i_2 = (mm_g [i_0, i_1, i_2, i_3, i_4, i_5, i_6, i_7, i_8, i_9, i_10, i_11, i_12, i_13, i_14, i_15, i_16, i_17, i_0, i_1, i_2, i_21, i_22, i_23, i_24, i_25, i_26, i_27, i_28, i_29]) from mm_gs2 20 30 (by decide) rfl rfl rfl]
        intro H locs (hP : va_P G vwCl [(a_0, .inl (cy 1, 30, .inl (mm_g [i_0, i_1, i_2, i_3, i_4, i_5, i_6, i_7, i_8, i_9, i_10, i_11, i_12, i_13, i_14, i_15, i_16, i_17, i_0, i_1, i_2, i_21, i_22, i_23, i_24, i_25, i_26, i_27, i_28, i_29])))] H) (hD : va_D A [(a_0, .inl (cy 1, 30, .inl (mm_g [i_0, i_1, i_2, i_3, i_4, i_5, i_6, i_7, i_8, i_9, i_10, i_11, i_12, i_13, i_14, i_15, i_16, i_17, i_0, i_1, i_2, i_21, i_22, i_23, i_24, i_25, i_26, i_27, i_28, i_29])))]) hS
        refine lv_iinc (v := 3) (lv' := [(4, .int 3), (0, .ref a_0), (1, .int 6), (2, .int 0), (3, .int 3)]) hx hb dX12_copyRow_25 hl (k := 0) rfl (by decide) (by decide) rfl ?_
        clear hl
        clear ls
        intro ls hl
        refine lv_goto (tgt := 3) hx hb dX12_copyRow_28 (by decide) ?_
        refine lv_iload hx hb dX12_copyRow_3 (lv_at hl 0 rfl) ?_
        refine lv_iload_n hx hb dX12_copyRow_5 rfl (lv_at hl 2 rfl) ?_
        refine lv_icmp_ge (tgt := 31) hx hb dX12_copyRow_6 (by decide) (fun c19 => ?_) (fun c19 => ?_)
        · have q20 := mm_leL (mm_le c19) mm_k6 mm_k3
          exact mm_no q20 (by decide)
        · refine lv_aload_n hx hb dX12_copyRow_9 rfl (lv_at hl 1 rfl) ?_
          refine lv_iload_n hx hb dX12_copyRow_10 rfl (lv_at hl 2 rfl) ?_
          refine lv_iload_n hx hb dX12_copyRow_11 rfl (lv_at hl 4 rfl) ?_
          refine lv_imul hx hb dX12_copyRow_12 ?_
          refine lv_topi (fun v21 ev21 => ?_)
          obtain rfl : v21 = 18 := ev21.trans (by decide)
          refine lv_iload hx hb dX12_copyRow_13 (lv_at hl 0 rfl) ?_
          refine lv_iadd hx hb dX12_copyRow_15 ?_
          refine lv_topi (fun v22 ev22 => ?_)
          obtain rfl : v22 = 21 := ev22.trans (by decide)
          refine lv_aload_n hx hb dX12_copyRow_16 rfl (lv_at hl 1 rfl) ?_
          refine lv_iload_n hx hb dX12_copyRow_17 rfl (lv_at hl 2 rfl) ?_
          refine lv_iload_n hx hb dX12_copyRow_18 rfl (lv_at hl 3 rfl) ?_
          refine lv_imul hx hb dX12_copyRow_19 ?_
          refine lv_topi (fun v23 ev23 => ?_)
          obtain rfl : v23 = 0 := ev23.trans (by decide)
          refine lv_iload hx hb dX12_copyRow_20 (lv_at hl 0 rfl) ?_
          refine lv_iadd hx hb dX12_copyRow_22 ?_
          refine lv_topi (fun v24 ev24 => ?_)
          obtain rfl : v24 = 3 := ev24.trans (by decide)
          refine va_iald hx hb hK.1 hP 0 1 rfl rfl (mm_in mm_k3 (by decide)) dX12_copyRow_23 ?_
          rw [show (mm_g [i_0, i_1, i_2, i_3, i_4, i_5, i_6, i_7, i_8, i_9, i_10, i_11, i_12, i_13, i_14, i_15, i_16, i_17, i_0, i_1, i_2, i_21, i_22, i_23, i_24, i_25, i_26, i_27, i_28, i_29]) (3 : Int32).toNatClampNeg = i_3 from mm_ge 3 (by decide) rfl]
          refine va_iast hx hb hK.1 hP hD hS 0 1 rfl rfl (mm_in mm_k21 (by decide)) dX12_copyRow_24 ?_
          clear hP hD hS
          clear H locs
          rw [show upd (mm_g [i_0, i_1, i_2, i_3, i_4, i_5, i_6, i_7, i_8, i_9, i_10, i_11, i_12, i_13, i_14, i_15, i_16, i_17, i_0, i_1, i_2, i_21, i_22, i_23, i_24, i_25, i_26, i_27, i_28, i_29]) (21 : Int32).toNatClampNeg i_3 = (mm_g [i_0, i_1, i_2, i_3, i_4, i_5, i_6, i_7, i_8, i_9, i_10, i_11, i_12, i_13, i_14, i_15, i_16, i_17, i_0, i_1, i_2, i_3, i_22, i_23, i_24, i_25, i_26, i_27, i_28, i_29]) from mm_gs2 21 30 (by decide) rfl rfl rfl]
          intro H locs (hP : va_P G vwCl [(a_0, .inl (cy 1, 30, .inl (mm_g [i_0, i_1, i_2, i_3, i_4, i_5, i_6, i_7, i_8, i_9, i_10, i_11, i_12, i_13, i_14, i_15, i_16, i_17, i_0, i_1, i_2, i_3, i_22, i_23, i_24, i_25, i_26, i_27, i_28, i_29])))] H) (hD : va_D A [(a_0, .inl (cy 1, 30, .inl (mm_g [i_0, i_1, i_2, i_3, i_4, i_5, i_6, i_7, i_8, i_9, i_10, i_11, i_12, i_13, i_14, i_15, i_16, i_17, i_0, i_1, i_2, i_3, i_22, i_23, i_24, i_25, i_26, i_27, i_28, i_29])))]) hS
          refine lv_iinc (v := 4) (lv' := [(4, .int 4), (0, .ref a_0), (1, .int 6), (2, .int 0), (3, .int 3)]) hx hb dX12_copyRow_25 hl (k := 0) rfl (by decide) (by decide) rfl ?_
          clear hl
          clear ls
          intro ls hl
          refine lv_goto (tgt := 3) hx hb dX12_copyRow_28 (by decide) ?_
          refine lv_iload hx hb dX12_copyRow_3 (lv_at hl 0 rfl) ?_
          refine lv_iload_n hx hb dX12_copyRow_5 rfl (lv_at hl 2 rfl) ?_
          refine lv_icmp_ge (tgt := 31) hx hb dX12_copyRow_6 (by decide) (fun c25 => ?_) (fun c25 => ?_)
          · have q26 := mm_leL (mm_le c25) mm_k6 mm_k4
            exact mm_no q26 (by decide)
          · refine lv_aload_n hx hb dX12_copyRow_9 rfl (lv_at hl 1 rfl) ?_
            refine lv_iload_n hx hb dX12_copyRow_10 rfl (lv_at hl 2 rfl) ?_
            refine lv_iload_n hx hb dX12_copyRow_11 rfl (lv_at hl 4 rfl) ?_
            refine lv_imul hx hb dX12_copyRow_12 ?_
            refine lv_topi (fun v27 ev27 => ?_)
            obtain rfl : v27 = 18 := ev27.trans (by decide)
            refine lv_iload hx hb dX12_copyRow_13 (lv_at hl 0 rfl) ?_
            refine lv_iadd hx hb dX12_copyRow_15 ?_
            refine lv_topi (fun v28 ev28 => ?_)
            obtain rfl : v28 = 22 := ev28.trans (by decide)
            refine lv_aload_n hx hb dX12_copyRow_16 rfl (lv_at hl 1 rfl) ?_
            refine lv_iload_n hx hb dX12_copyRow_17 rfl (lv_at hl 2 rfl) ?_
            refine lv_iload_n hx hb dX12_copyRow_18 rfl (lv_at hl 3 rfl) ?_
            refine lv_imul hx hb dX12_copyRow_19 ?_
            refine lv_topi (fun v29 ev29 => ?_)
            obtain rfl : v29 = 0 := ev29.trans (by decide)
            refine lv_iload hx hb dX12_copyRow_20 (lv_at hl 0 rfl) ?_
            refine lv_iadd hx hb dX12_copyRow_22 ?_
            refine lv_topi (fun v30 ev30 => ?_)
            obtain rfl : v30 = 4 := ev30.trans (by decide)
            refine va_iald hx hb hK.1 hP 0 1 rfl rfl (mm_in mm_k4 (by decide)) dX12_copyRow_23 ?_
            rw [show (mm_g [i_0, i_1, i_2, i_3, i_4, i_5, i_6, i_7, i_8, i_9, i_10, i_11, i_12, i_13, i_14, i_15, i_16, i_17, i_0, i_1, i_2, i_3, i_22, i_23, i_24, i_25, i_26, i_27, i_28, i_29]) (4 : Int32).toNatClampNeg = i_4 from mm_ge 4 (by decide) rfl]
            refine va_iast hx hb hK.1 hP hD hS 0 1 rfl rfl (mm_in mm_k22 (by decide)) dX12_copyRow_24 ?_
            clear hP hD hS
            clear H locs
            rw [show upd (mm_g [i_0, i_1, i_2, i_3, i_4, i_5, i_6, i_7, i_8, i_9, i_10, i_11, i_12, i_13, i_14, i_15, i_16, i_17, i_0, i_1, i_2, i_3, i_22, i_23, i_24, i_25, i_26, i_27, i_28, i_29]) (22 : Int32).toNatClampNeg i_4 = (mm_g [i_0, i_1, i_2, i_3, i_4, i_5, i_6, i_7, i_8, i_9, i_10, i_11, i_12, i_13, i_14, i_15, i_16, i_17, i_0, i_1, i_2, i_3, i_4, i_23, i_24, i_25, i_26, i_27, i_28, i_29]) from mm_gs2 22 30 (by decide) rfl rfl rfl]
            intro H locs (hP : va_P G vwCl [(a_0, .inl (cy 1, 30, .inl (mm_g [i_0, i_1, i_2, i_3, i_4, i_5, i_6, i_7, i_8, i_9, i_10, i_11, i_12, i_13, i_14, i_15, i_16, i_17, i_0, i_1, i_2, i_3, i_4, i_23, i_24, i_25, i_26, i_27, i_28, i_29])))] H) (hD : va_D A [(a_0, .inl (cy 1, 30, .inl (mm_g [i_0, i_1, i_2, i_3, i_4, i_5, i_6, i_7, i_8, i_9, i_10, i_11, i_12, i_13, i_14, i_15, i_16, i_17, i_0, i_1, i_2, i_3, i_4, i_23, i_24, i_25, i_26, i_27, i_28, i_29])))]) hS
            refine lv_iinc (v := 5) (lv' := [(4, .int 5), (0, .ref a_0), (1, .int 6), (2, .int 0), (3, .int 3)]) hx hb dX12_copyRow_25 hl (k := 0) rfl (by decide) (by decide) rfl ?_
            clear hl
            clear ls
            intro ls hl
            refine lv_goto (tgt := 3) hx hb dX12_copyRow_28 (by decide) ?_
            refine lv_iload hx hb dX12_copyRow_3 (lv_at hl 0 rfl) ?_
            refine lv_iload_n hx hb dX12_copyRow_5 rfl (lv_at hl 2 rfl) ?_
            refine lv_icmp_ge (tgt := 31) hx hb dX12_copyRow_6 (by decide) (fun c31 => ?_) (fun c31 => ?_)
            · have q32 := mm_leL (mm_le c31) mm_k6 mm_k5
              exact mm_no q32 (by decide)
            · refine lv_aload_n hx hb dX12_copyRow_9 rfl (lv_at hl 1 rfl) ?_
              refine lv_iload_n hx hb dX12_copyRow_10 rfl (lv_at hl 2 rfl) ?_
              refine lv_iload_n hx hb dX12_copyRow_11 rfl (lv_at hl 4 rfl) ?_
              refine lv_imul hx hb dX12_copyRow_12 ?_
              refine lv_topi (fun v33 ev33 => ?_)
              obtain rfl : v33 = 18 := ev33.trans (by decide)
              refine lv_iload hx hb dX12_copyRow_13 (lv_at hl 0 rfl) ?_
              refine lv_iadd hx hb dX12_copyRow_15 ?_
              refine lv_topi (fun v34 ev34 => ?_)
              obtain rfl : v34 = 23 := ev34.trans (by decide)
              refine lv_aload_n hx hb dX12_copyRow_16 rfl (lv_at hl 1 rfl) ?_
              refine lv_iload_n hx hb dX12_copyRow_17 rfl (lv_at hl 2 rfl) ?_
              refine lv_iload_n hx hb dX12_copyRow_18 rfl (lv_at hl 3 rfl) ?_
              refine lv_imul hx hb dX12_copyRow_19 ?_
              refine lv_topi (fun v35 ev35 => ?_)
              obtain rfl : v35 = 0 := ev35.trans (by decide)
              refine lv_iload hx hb dX12_copyRow_20 (lv_at hl 0 rfl) ?_
              refine lv_iadd hx hb dX12_copyRow_22 ?_
              refine lv_topi (fun v36 ev36 => ?_)
              obtain rfl : v36 = 5 := ev36.trans (by decide)
              refine va_iald hx hb hK.1 hP 0 1 rfl rfl (mm_in mm_k5 (by decide)) dX12_copyRow_23 ?_
              rw [show (mm_g [i_0, i_1, i_2, i_3, i_4, i_5, i_6, i_7, i_8, i_9, i_10, i_11, i_12, i_13, i_14, i_15, i_16, i_17, i_0, i_1, i_2, i_3, i_4, i_23, i_24, i_25, i_26, i_27, i_28, i_29]) (5 : Int32).toNatClampNeg = i_5 from mm_ge 5 (by decide) rfl]
              refine va_iast hx hb hK.1 hP hD hS 0 1 rfl rfl (mm_in mm_k23 (by decide)) dX12_copyRow_24 ?_
              clear hP hD hS
              clear H locs
              rw [show upd (mm_g [i_0, i_1, i_2, i_3, i_4, i_5, i_6, i_7, i_8, i_9, i_10, i_11, i_12, i_13, i_14, i_15, i_16, i_17, i_0, i_1, i_2, i_3, i_4, i_23, i_24, i_25, i_26, i_27, i_28, i_29]) (23 : Int32).toNatClampNeg i_5 = (mm_g [i_0, i_1, i_2, i_3, i_4, i_5, i_6, i_7, i_8, i_9, i_10, i_11, i_12, i_13, i_14, i_15, i_16, i_17, i_0, i_1, i_2, i_3, i_4, i_5, i_24, i_25, i_26, i_27, i_28, i_29]) from mm_gs2 23 30 (by decide) rfl rfl rfl]
              intro H locs (hP : va_P G vwCl [(a_0, .inl (cy 1, 30, .inl (mm_g [i_0, i_1, i_2, i_3, i_4, i_5, i_6, i_7, i_8, i_9, i_10, i_11, i_12, i_13, i_14, i_15, i_16, i_17, i_0, i_1, i_2, i_3, i_4, i_5, i_24, i_25, i_26, i_27, i_28, i_29])))] H) (hD : va_D A [(a_0, .inl (cy 1, 30, .inl (mm_g [i_0, i_1, i_2, i_3, i_4, i_5, i_6, i_7, i_8, i_9, i_10, i_11, i_12, i_13, i_14, i_15, i_16, i_17, i_0, i_1, i_2, i_3, i_4, i_5, i_24, i_25, i_26, i_27, i_28, i_29])))]) hS
              refine lv_iinc (v := 6) (lv' := [(4, .int 6), (0, .ref a_0), (1, .int 6), (2, .int 0), (3, .int 3)]) hx hb dX12_copyRow_25 hl (k := 0) rfl (by decide) (by decide) rfl ?_
              clear hl
              clear ls
              intro ls hl
              refine lv_goto (tgt := 3) hx hb dX12_copyRow_28 (by decide) ?_
              refine lv_iload hx hb dX12_copyRow_3 (lv_at hl 0 rfl) ?_
              refine lv_iload_n hx hb dX12_copyRow_5 rfl (lv_at hl 2 rfl) ?_
              refine lv_icmp_ge (tgt := 31) hx hb dX12_copyRow_6 (by decide) (fun c37 => ?_) (fun c37 => ?_)
              · subst hAe
                rw [hQ]
                exact W.vret hx hb hr (fun t ht hW => ⟨⟨(), rfl, trivial, by rw [ht]; exact hP, hK.warm hW, hD⟩, hS.F ht⟩) hS.2.2 dX12_copyRow_31
              · have q38 := mm_ltL (h := 5) (mm_nle c37) mm_k6 mm_k6 (by decide)
                exact mm_no q38 (by decide)

set_option maxHeartbeats 4000000 in
set_option maxRecDepth 100000 in
theorem M343_X12_copyRow (l : Launch) (G : va_G) (cy : Nat → ClassId) (sz : Nat) (a_0 : Nat) (f_0 : Nat → Int32) (h0 : mm_ar f_0 0 99)  : mm_CV l yX12_copyRow (mm_ws yX12_copyRow cX12_copyRow 5 (none)) ({ frames := 0, cells := 0, slots := 0, locals := 0 } : Room) G cy sz [(a_0, .inl (cy 1, 90, .inl f_0))] [.ref a_0, .int 18, .int 0, .int 3] (fun u : (Nat → Int32) => [(a_0, .inl (cy 1, 90, .inl u))]) (fun u : (Nat → Int32) => mm_ar u 0 99 ∧ mm_crw f_0 u 18 0 3) 0 0 := by
  refine mm_begin (lv := [(0, .ref a_0), (1, .int 18), (2, .int 0), (3, .int 3)]) (by decide) (Nat.le_of_ble_eq_true rfl) rfl ?_
  intro p e s m below meth c A ls R args Q H locs hRe hQ hAe hx hb hr hlocks hml hown hnm hts hsz hA hS hP hK hD hZ hl
  have hRf : R.frames = 0 := by rw [hRe]
  have hRl : R.locals = 0 := by rw [hRe]
  have hRc : R.cells = 0 := by rw [hRe]
  have hRs : R.slots = 0 := by rw [hRe]
  refine lv_iconst (v := 0) hx hb dX12_copyRow_0 (by decide) ?_
  refine lv_istore (lv' := [(4, .int 0), (0, .ref a_0), (1, .int 18), (2, .int 0), (3, .int 3)]) hx hb dX12_copyRow_1 hl (by decide) rfl ?_
  clear hl
  clear ls
  intro ls hl
  have L3_130 : ∀ (n : Nat) (x3_4_128 : Int32) (z3_0_129 : Nat → Int32), mm_rg x3_4_128 0 18 → mm_ar z3_0_129 0 99 → mm_crk f_0 z3_0_129 18 0 3 x3_4_128 → (18 - x3_4_128.toInt).toNat < n → ∀ (H : Heap) (locs : List Loc), va_P G vwCl [(a_0, .inl (cy 1, 90, .inl z3_0_129))] H → va_D A [(a_0, .inl (cy 1, 90, .inl z3_0_129))] → va_S A s.heap H locs → ∀ (ls : Array Slot), lv_has ls 5 [(4, .int x3_4_128), (0, .ref a_0), (1, .int 18), (2, .int 0), (3, .int 3)] → W p l e R s m args below meth c H locs 0 0 Q (F0 m 3 ls []) := by
    intro n
    induction n with
    | zero => intro x3_4_128 z3_0_129 rx3_4_128 rz3_0_129 w130 hm; exact absurd hm (Nat.not_lt_zero _)
    | succ n ih3 =>
      intro x3_4_128 z3_0_129 rx3_4_128 rz3_0_129 w130 hm3 H locs hP hD hS ls hl
      refine lv_iload hx hb dX12_copyRow_3 (lv_at hl 0 rfl) ?_
      refine lv_iload_n hx hb dX12_copyRow_5 rfl (lv_at hl 2 rfl) ?_
      refine lv_icmp_ge (tgt := 31) hx hb dX12_copyRow_6 (by decide) (fun c132 => ?_) (fun c132 => ?_)
      · have q133 := mm_leR (mm_le c132) mm_k18 rx3_4_128
        have w134 : mm_crw f_0 z3_0_129 18 0 3 := (mm_crw_of w130 q133 (by decide))
        subst hAe
        rw [hQ]
        exact W.vret hx hb hr (fun t ht hW => ⟨⟨z3_0_129, rfl, ⟨rz3_0_129, w134⟩, by rw [ht]; exact hP, hK.warm hW, hD⟩, hS.F ht⟩) hS.2.2 dX12_copyRow_31
      · have q135 := mm_ltL (h := 17) (mm_nle c132) rx3_4_128 mm_k18 (by decide)
        refine lv_aload_n hx hb dX12_copyRow_9 rfl (lv_at hl 1 rfl) ?_
        refine lv_iload_n hx hb dX12_copyRow_10 rfl (lv_at hl 2 rfl) ?_
        refine lv_iload_n hx hb dX12_copyRow_11 rfl (lv_at hl 4 rfl) ?_
        refine lv_imul hx hb dX12_copyRow_12 ?_
        refine lv_topi (fun v136 ev136 => ?_)
        obtain rfl : v136 = 54 := ev136.trans (by decide)
        refine lv_iload hx hb dX12_copyRow_13 (lv_at hl 0 rfl) ?_
        refine lv_iadd hx hb dX12_copyRow_15 ?_
        refine lv_topi (fun v137 ev137 => ?_)
        have rv137 : mm_rg v137 54 71 := mm_add ev137 mm_k54 q135 (by decide) (by decide)
        have tv137 := mm_addEd ev137 mm_k54 q135 (by decide) (k := 54) (by decide)
        refine lv_aload_n hx hb dX12_copyRow_16 rfl (lv_at hl 1 rfl) ?_
        refine lv_iload_n hx hb dX12_copyRow_17 rfl (lv_at hl 2 rfl) ?_
        refine lv_iload_n hx hb dX12_copyRow_18 rfl (lv_at hl 3 rfl) ?_
        refine lv_imul hx hb dX12_copyRow_19 ?_
        refine lv_topi (fun v138 ev138 => ?_)
        obtain rfl : v138 = 0 := ev138.trans (by decide)
        refine lv_iload hx hb dX12_copyRow_20 (lv_at hl 0 rfl) ?_
        refine lv_iadd hx hb dX12_copyRow_22 ?_
        refine lv_topi (fun v139 ev139 => ?_)
        have rv139 : mm_rg v139 0 17 := mm_add ev139 mm_k0 q135 (by decide) (by decide)
        have tv139 := mm_addEd ev139 mm_k0 q135 (by decide) (k := 0) (by decide)
        refine va_iald hx hb hK.1 hP 0 1 rfl rfl (mm_in rv139 (by decide)) dX12_copyRow_23 ?_
        refine lv_topi (fun v140 ev140 => ?_)
        have rv140 : mm_rg v140 0 99 := mm_eqv ev140 (rz3_0_129 _)
        refine va_iast hx hb hK.1 hP hD hS 0 1 rfl rfl (mm_in rv137 (by decide)) dX12_copyRow_24 ?_
        clear hP hD hS
        clear H locs
        obtain ⟨g141, eg141⟩ : ∃ z : Nat → Int32, z = upd z3_0_129 v137.toNatClampNeg v140 := ⟨_, rfl⟩
        rw [← eg141]
        intro H locs (hP : va_P G vwCl [(a_0, .inl (cy 1, 90, .inl g141))] H) (hD : va_D A [(a_0, .inl (cy 1, 90, .inl g141))]) hS
        have rg141 : mm_ar g141 0 99 := by rw [eg141]; exact mm_ar_upd (mm_ar_wk rz3_0_129 (by decide)) (mm_wk rv140 (by decide)) _
        obtain ⟨v142, ev142⟩ : ∃ y : Int32, y = x3_4_128 + 1 := ⟨_, rfl⟩
        refine lv_iinc (v := v142) (lv' := [(4, .int v142), (0, .ref a_0), (1, .int 18), (2, .int 0), (3, .int 3)]) hx hb dX12_copyRow_25 hl (k := 0) rfl (by rw [ev142]; rfl) (by decide) rfl ?_
        clear hl
        clear ls
        intro ls hl
        have rv142 : mm_rg v142 1 18 := mm_add ev142 q135 mm_k1 (by decide) (by decide)
        have tv142 := mm_addEc ev142 q135 mm_k1 (by decide) (k := 1) (by decide)
        refine lv_goto (tgt := 3) hx hb dX12_copyRow_28 (by decide) ?_
        exact ih3 v142 g141 (mm_wk rv142 (by decide)) rg141 (mm_crk_s w130 tv142 q135 eg141 ev140 (by have := tv137; omega) (by have := tv139; omega) (by decide)) (mm_mu hm3 tv142 (by decide) (rv142).2 (by decide)) H locs hP hD hS ls (lv_sub hl [0, 1, 2, 3, 4] rfl)
  exact L3_130 _ 0 f_0 (mm_wk mm_k0 (by decide)) h0 (mm_crk_0 _ _ _ _) (Nat.lt_succ_self _) H locs hP hD hS ls (lv_sub hl [0, 1, 2, 3, 4] rfl)

