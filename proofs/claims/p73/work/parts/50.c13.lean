theorem hd_X11_paste : yX11_paste.cls = RX11 ∧ yX11_paste.cls ≠ "java/lang/invoke/MethodHandle" ∧ yX11_paste.cls ≠ "java/lang/invoke/VarHandle" ∧ (parseMethodDescriptor yX11_paste.desc).map (fun d => d.parameters.length) = some 5 := by decide +kernel
theorem hd_X12_paste : yX12_paste.cls = RX12 ∧ yX12_paste.cls ≠ "java/lang/invoke/MethodHandle" ∧ yX12_paste.cls ≠ "java/lang/invoke/VarHandle" ∧ (parseMethodDescriptor yX12_paste.desc).map (fun d => d.parameters.length) = some 5 := by decide +kernel
set_option maxHeartbeats 40000000 in
set_option maxRecDepth 100000 in
theorem lc_71 {p : Program} {e : Env} {s : State} {m : MethodId} {below : List Frame} {meth : Method} {c : Code} {b L : Nat} {xs : Nat → Int32} {G : va_G} {cy : Nat → ClassId} {qx qm : Nat} {ux um : Nat → Nat} {A : Nat → Prop} (l : Launch) (hx : p.tables.exec = Jvm.exec) (hb : c.code = code) (hr : meth.sig.returnType = ret) (hlocks : meth.locks = false) (hml : c.maxLocals = 4) (hown : s.vm.findClass R_law = some m.cls) (hts : ∀ w ∈ lw_x :: wsL_law, w.before #[Value.ref b] s = true) (hX : va_X b L xs s s.heap) (hbl : b < s.heap.size) (hAe : A = fun q => s.heap.size ≤ q) (hK : mm_K G cy s) (hZ : mm_Z cy A s s.heap) {H : Heap} {locs : List Loc} {ls : Array Slot} (hS : va_S A s.heap H locs) {i : Int32} (ri : mm_rg i 0 378) (hiL : i.toInt + 6 ≤ (L : Int)) (ih : ∀ i6 : Int32, i6 = i + 6 → lw_H p l e s m below meth c b G cy A qx qm ux um i6) {xv0 : Int32} {xf1 : Nat → Int32} {xv2 xv3 xv4 xv5 xv6 xv7 xv8 xv9 xv10 xv11 xv12 xv13 xv14 xv15 : Int32} {xf16 xf17 xf18 xf19 xf20 xf21 xf22 xf23 xf24 xf25 : Nat → Int32} {xv26 xv27 xv28 xv29 xv30 xv31 xv32 xv33 : Int32} {xf34 xf35 xf36 xf37 xf38 xf39 xf40 xf41 xf42 xf43 : Nat → Int32} {xv44 xv45 xv46 : Int32} {xf47 xf48 : Nat → Int32} {xv49 xv50 xv51 : Int32} {xf52 xf53 : Nat → Int32} {xv54 xv55 xv56 : Int32} {xf57 xf58 : Nat → Int32} {xv59 xv60 xv61 xv62 xv63 xv64 xv65 xv66 : Int32} {xf67 xf68 xf69 xf70 xf71 xf72 xf73 xf74 xf75 xf76 : Nat → Int32} {xv77 xv78 xv79 xv80 xv81 xv82 xv83 xv84 : Int32} {xf85 xf86 xf87 xf88 xf89 xf90 xf91 xf92 xf93 xf94 : Nat → Int32} {xv95 xv96 xv97 xv98 xv99 xv100 xv101 xv102 : Int32} {xf103 xf104 xf105 xf106 xf107 xf108 xf109 xf110 xf111 xf112 xf113 : Nat → Int32} {xv114 xv115 xv116 : Int32} {xf117 : Nat → Int64} {xv118 xv119 xv120 : Int32} {xf121 : Nat → Int64} {xv122 xv123 xv124 : Int32} {xf125 : Nat → Int64} {xv126 xv127 xv128 : Int32} {xf129 : Nat → Int64} {xv130 : Int32} {xf131 : Nat → Int32} {xv132 : Int32} {xf133 : Nat → Int32} {xv134 xv135 xv136 xv137 : Int32} {xf138 xf139 xf140 xf141 xf142 xf143 : Nat → Int32} {xf144 : Nat → Int64} {mv0 mv1 mv2 mv3 mv4 mv5 : Int32} {ml6 : Int64} {mv7 mv8 mv9 mv10 mv11 mv12 mv13 mv14 mv15 mv16 mv17 : Int32} {mf18 mf19 : Nat → Int32} {mf20 mf21 : Nat → Int64} {mf22 : Nat → Int32} {me23 me24 me25 me26 me27 me28 me29 me30 me31 me32 me33 me34 me35 me36 me37 me38 me39 me40 me41 me42 me43 me44 me45 me46 me47 me48 me49 me50 me51 me52 me53 me54 me55 me56 me57 : Int32} {mf58 mf59 mf60 mf61 mf62 mf63 mf64 mf65 mf66 mf67 mf68 mf69 mf70 : Nat → Int32} (rxv0 : mm_rg xv0 0 600) (rxf1 : mm_ar xf1 (-128) 127) (rxv2 : mm_rg xv2 0 3) (rxv4 : mm_rg xv4 0 5) (rxv5 : mm_rg xv5 0 600) (rxv6 : mm_rg xv6 0 600) (rxv9 : mm_rg xv9 0 10) (rxv10 : mm_rg xv10 0 99) (rxv11 : mm_rg xv11 0 99) (rxv12 : mm_rg xv12 0 9) (rxv13 : mm_rg xv13 0 3) (rxv14 : mm_rg xv14 0 6) (rxv15 : mm_rg xv15 0 30) (rxf16 : mm_ar xf16 (-1) 4) (rxf17 : mm_ar xf17 0 99) (rxf18 : mm_ar xf18 0 7) (rxf19 : mm_ar xf19 0 9) (rxf20 : mm_ar xf20 0 8) (rxf21 : mm_ar xf21 0 9) (rxf22 : mm_ar xf22 0 9) (rxf23 : mm_ar xf23 (-1) 2) (rxf24 : mm_ar xf24 0 99) (rxf25 : mm_ar xf25 0 9) (rxv27 : mm_rg xv27 0 10) (rxv28 : mm_rg xv28 0 99) (rxv29 : mm_rg xv29 0 99) (rxv30 : mm_rg xv30 0 9) (rxv31 : mm_rg xv31 0 3) (rxv32 : mm_rg xv32 0 6) (rxv33 : mm_rg xv33 0 30) (rxf34 : mm_ar xf34 (-1) 4) (rxf35 : mm_ar xf35 0 99) (rxf36 : mm_ar xf36 0 7) (rxf37 : mm_ar xf37 0 9) (rxf38 : mm_ar xf38 0 8) (rxf39 : mm_ar xf39 0 9) (rxf40 : mm_ar xf40 0 9) (rxf41 : mm_ar xf41 (-1) 2) (rxf42 : mm_ar xf42 0 99) (rxf43 : mm_ar xf43 0 9) (rxv44 : mm_rg xv44 1 10) (rxv46 : mm_rg xv46 (-2147483648) 210) (rxf47 : mm_ar xf47 0 9) (rxf48 : mm_ar xf48 0 9) (rxv49 : mm_rg xv49 1 10) (rxv51 : mm_rg xv51 (-2147483648) 210) (rxf52 : mm_ar xf52 0 9) (rxf53 : mm_ar xf53 0 9) (rxv54 : mm_rg xv54 1 10) (rxv56 : mm_rg xv56 (-2147483648) 210) (rxf57 : mm_ar xf57 0 9) (rxf58 : mm_ar xf58 0 9) (rxv60 : mm_rg xv60 0 10) (rxv61 : mm_rg xv61 0 99) (rxv62 : mm_rg xv62 0 99) (rxv63 : mm_rg xv63 0 9) (rxv64 : mm_rg xv64 0 3) (rxv65 : mm_rg xv65 0 6) (rxv66 : mm_rg xv66 0 30) (rxf67 : mm_ar xf67 (-1) 4) (rxf68 : mm_ar xf68 0 99) (rxf69 : mm_ar xf69 0 7) (rxf70 : mm_ar xf70 0 9) (rxf71 : mm_ar xf71 0 8) (rxf72 : mm_ar xf72 0 9) (rxf73 : mm_ar xf73 0 9) (rxf74 : mm_ar xf74 (-1) 2) (rxf75 : mm_ar xf75 0 99) (rxf76 : mm_ar xf76 0 9) (rxv78 : mm_rg xv78 0 10) (rxv79 : mm_rg xv79 0 99) (rxv80 : mm_rg xv80 0 99) (rxv81 : mm_rg xv81 0 9) (rxv82 : mm_rg xv82 0 3) (rxv83 : mm_rg xv83 0 6) (rxv84 : mm_rg xv84 0 30) (rxf85 : mm_ar xf85 (-1) 4) (rxf86 : mm_ar xf86 0 99) (rxf87 : mm_ar xf87 0 7) (rxf88 : mm_ar xf88 0 9) (rxf89 : mm_ar xf89 0 8) (rxf90 : mm_ar xf90 0 9) (rxf91 : mm_ar xf91 0 9) (rxf92 : mm_ar xf92 (-1) 2) (rxf93 : mm_ar xf93 0 99) (rxf94 : mm_ar xf94 0 9) (rxv96 : mm_rg xv96 0 10) (rxv97 : mm_rg xv97 0 99) (rxv98 : mm_rg xv98 0 99) (rxv99 : mm_rg xv99 0 9) (rxv100 : mm_rg xv100 0 3) (rxv101 : mm_rg xv101 0 6) (rxv102 : mm_rg xv102 0 30) (rxf103 : mm_ar xf103 (-1) 4) (rxf104 : mm_ar xf104 0 99) (rxf105 : mm_ar xf105 0 7) (rxf106 : mm_ar xf106 0 9) (rxf107 : mm_ar xf107 0 8) (rxf108 : mm_ar xf108 0 9) (rxf109 : mm_ar xf109 0 9) (rxf110 : mm_ar xf110 (-1) 2) (rxf111 : mm_ar xf111 0 99) (rxf112 : mm_ar xf112 0 9) (rxf113 : mm_ar xf113 0 1) (rxv114 : mm_rg xv114 0 1) (rxv115 : mm_rg xv115 0 3) (rxv116 : mm_rg xv116 0 60) (rxv118 : mm_rg xv118 0 1) (rxv119 : mm_rg xv119 0 3) (rxv120 : mm_rg xv120 0 60) (rxv122 : mm_rg xv122 0 1) (rxv123 : mm_rg xv123 0 3) (rxv124 : mm_rg xv124 0 60) (rxv126 : mm_rg xv126 0 1) (rxv127 : mm_rg xv127 0 3) (rxv128 : mm_rg xv128 0 60) (rxv130 : mm_rg xv130 0 210) (rxv132 : mm_rg xv132 0 210) (rxf133 : mm_ar xf133 0 209) (rxv134 : mm_rg xv134 0 7) (rxv136 : mm_rg xv136 0 4) (rxf138 : mm_ar xf138 0 9) (rxf140 : mm_ar xf140 0 9) (rmv1 : mm_rg mv1 0 600) (rmv2 : mm_rg mv2 0 600) (rmv3 : mm_rg mv3 0 4) (rmv4 : mm_rg mv4 0 600) (rmv7 : mm_rg mv7 0 3) (rmv11 : mm_rg mv11 0 8) (rmf18 : mm_ar mf18 (-1) 3) (rmf19 : mm_ar mf19 0 60) (rmf22 : mm_ar mf22 (-128) 127) (rme23 : mm_rg me23 0 601) (rme24 : mm_rg me24 0 601) (rme25 : mm_rg me25 0 601) (rme26 : mm_rg me26 0 601) (rme27 : mm_rg me27 0 601) (rme28 : mm_rg me28 0 10) (rme29 : mm_rg me29 0 99) (rme30 : mm_rg me30 0 9) (rme31 : mm_rg me31 0 3) (rme32 : mm_rg me32 0 6) (rme33 : mm_rg me33 0 30) (rme34 : mm_rg me34 0 10) (rme35 : mm_rg me35 0 99) (rme36 : mm_rg me36 0 9) (rme37 : mm_rg me37 0 3) (rme38 : mm_rg me38 0 6) (rme39 : mm_rg me39 0 30) (rme40 : mm_rg me40 0 10) (rme41 : mm_rg me41 0 99) (rme42 : mm_rg me42 0 9) (rme43 : mm_rg me43 0 3) (rme44 : mm_rg me44 0 6) (rme45 : mm_rg me45 0 30) (rme46 : mm_rg me46 0 10) (rme47 : mm_rg me47 0 99) (rme48 : mm_rg me48 0 9) (rme49 : mm_rg me49 0 3) (rme50 : mm_rg me50 0 6) (rme51 : mm_rg me51 0 30) (rme52 : mm_rg me52 0 10) (rme53 : mm_rg me53 0 99) (rme54 : mm_rg me54 0 9) (rme55 : mm_rg me55 0 3) (rme56 : mm_rg me56 0 6) (rme57 : mm_rg me57 0 30) (rmf58 : mm_ar mf58 0 99) (rmf59 : mm_ar mf59 0 7) (rmf60 : mm_ar mf60 0 9) (rmf61 : mm_ar mf61 0 8) (rmf62 : mm_ar mf62 0 9) (rmf63 : mm_ar mf63 (-1) 99) (rmf64 : mm_ar mf64 0 1) (rmf65 : mm_ar mf65 0 9) (rmf66 : mm_ar mf66 0 210) (rmf67 : mm_ar mf67 0 210) (rmf68 : mm_ar mf68 0 9) (rmf69 : mm_ar mf69 0 1) (wI179 : mm_act xf23 xf24) (wI180 : mm_act xf41 xf42) (wI181 : mm_act xf74 xf75) (wI182 : mm_act xf92 xf93) (wI183 : mm_act xf110 xf111) (wI184 : mm_rls mf59 mf60 0 me30 me31) (wI185 : mm_txs mf61 mf62 0 me30 me32) (wI186 : mm_acs mf63 0 me30 me31 me33) (wI187 : mm_tl me23 me31 me32) (wI188 : mm_rls mf59 mf60 1 me36 me37) (wI189 : mm_txs mf61 mf62 1 me36 me38) (wI190 : mm_acs mf63 1 me36 me37 me39) (wI191 : mm_tl me24 me37 me38) (wI192 : mm_rls mf59 mf60 2 me42 me43) (wI193 : mm_txs mf61 mf62 2 me42 me44) (wI194 : mm_acs mf63 2 me42 me43 me45) (wI195 : mm_tl me25 me43 me44) (wI196 : mm_rls mf59 mf60 3 me48 me49) (wI197 : mm_txs mf61 mf62 3 me48 me50) (wI198 : mm_acs mf63 3 me48 me49 me51) (wI199 : mm_tl me26 me49 me50) (wI200 : mm_rj xv114 xv115 xv116 mf18 mf19 0) (wI201 : mm_rj xv118 xv119 xv120 mf18 mf19 1) (wI202 : mm_rj xv122 xv123 xv124 mf18 mf19 2) (wI203 : mm_rj xv126 xv127 xv128 mf18 mf19 3) (hP : va_P G vwCl (lw_W qx qm ux um cy xv0 xf1 xv2 xv3 xv4 xv5 xv6 xv7 xv8 xv9 xv10 xv11 xv12 xv13 xv14 xv15 xf16 xf17 xf18 xf19 xf20 xf21 xf22 xf23 xf24 xf25 xv26 xv27 xv28 xv29 xv30 xv31 xv32 xv33 xf34 xf35 xf36 xf37 xf38 xf39 xf40 xf41 xf42 xf43 xv44 xv45 xv46 xf47 xf48 xv49 xv50 xv51 xf52 xf53 xv54 xv55 xv56 xf57 xf58 xv59 xv60 xv61 xv62 xv63 xv64 xv65 xv66 xf67 xf68 xf69 xf70 xf71 xf72 xf73 xf74 xf75 xf76 xv77 xv78 xv79 xv80 xv81 xv82 xv83 xv84 xf85 xf86 xf87 xf88 xf89 xf90 xf91 xf92 xf93 xf94 xv95 xv96 xv97 xv98 xv99 xv100 xv101 xv102 xf103 xf104 xf105 xf106 xf107 xf108 xf109 xf110 xf111 xf112 xf113 xv114 xv115 xv116 xf117 xv118 xv119 xv120 xf121 xv122 xv123 xv124 xf125 xv126 xv127 xv128 xf129 xv130 xf131 xv132 xf133 xv134 xv135 xv136 xv137 xf138 xf139 xf140 xf141 xf142 xf143 xf144 mv0 mv1 mv2 mv3 mv4 mv5 ml6 mv7 mv8 mv9 mv10 mv11 mv12 mv13 mv14 mv15 mv16 mv17 mf18 mf19 mf20 mf21 mf22 me23 me24 me25 me26 me27 me28 me29 me30 me31 me32 me33 me34 me35 me36 me37 me38 me39 me40 me41 me42 me43 me44 me45 me46 me47 me48 me49 me50 me51 me52 me53 me54 me55 me56 me57 mf58 mf59 mf60 mf61 mf62 mf63 mf64 mf65 mf66 mf67 mf68 mf69 mf70) H) (hD : va_D A (lw_W qx qm ux um cy xv0 xf1 xv2 xv3 xv4 xv5 xv6 xv7 xv8 xv9 xv10 xv11 xv12 xv13 xv14 xv15 xf16 xf17 xf18 xf19 xf20 xf21 xf22 xf23 xf24 xf25 xv26 xv27 xv28 xv29 xv30 xv31 xv32 xv33 xf34 xf35 xf36 xf37 xf38 xf39 xf40 xf41 xf42 xf43 xv44 xv45 xv46 xf47 xf48 xv49 xv50 xv51 xf52 xf53 xv54 xv55 xv56 xf57 xf58 xv59 xv60 xv61 xv62 xv63 xv64 xv65 xv66 xf67 xf68 xf69 xf70 xf71 xf72 xf73 xf74 xf75 xf76 xv77 xv78 xv79 xv80 xv81 xv82 xv83 xv84 xf85 xf86 xf87 xf88 xf89 xf90 xf91 xf92 xf93 xf94 xv95 xv96 xv97 xv98 xv99 xv100 xv101 xv102 xf103 xf104 xf105 xf106 xf107 xf108 xf109 xf110 xf111 xf112 xf113 xv114 xv115 xv116 xf117 xv118 xv119 xv120 xf121 xv122 xv123 xv124 xf125 xv126 xv127 xv128 xf129 xv130 xf131 xv132 xf133 xv134 xv135 xv136 xv137 xf138 xf139 xf140 xf141 xf142 xf143 xf144 mv0 mv1 mv2 mv3 mv4 mv5 ml6 mv7 mv8 mv9 mv10 mv11 mv12 mv13 mv14 mv15 mv16 mv17 mf18 mf19 mf20 mf21 mf22 me23 me24 me25 me26 me27 me28 me29 me30 me31 me32 me33 me34 me35 me36 me37 me38 me39 me40 me41 me42 me43 me44 me45 me46 me47 me48 me49 me50 me51 me52 me53 me54 me55 me56 me57 mf58 mf59 mf60 mf61 mf62 mf63 mf64 mf65 mf66 mf67 mf68 mf69 mf70)) (hl : lv_has ls 4 [(3, .int i), (2, .ref qm), (1, .ref qx), (0, .ref b)]) : W p l e room_1 s m #[Value.ref b] below meth c H locs 116 20302 (lw_Z below #[Value.ref b] s) (F0 m 3089 ls []) := by
  have hA : ∀ q, s.heap.size ≤ q → A q := by rw [hAe]; exact fun _ h => h
  have hbA : ¬ A b := by rw [hAe]; exact Nat.not_le.mpr hbl
  have hRf : room_1.frames = 2048 := rfl
  have hRl : room_1.locals = 84000 := rfl
  have hRc : room_1.cells = 600000 := rfl
  have hRs : room_1.slots = 7302250 := rfl
  obtain ⟨p1, ep1⟩ : ∃ z : Int32, z = xs (i + 1).toNatClampNeg := ⟨_, rfl⟩
  obtain ⟨p2, ep2⟩ : ∃ z : Int32, z = xs (i + 2).toNatClampNeg := ⟨_, rfl⟩
  obtain ⟨p3, ep3⟩ : ∃ z : Int32, z = xs (i + 3).toNatClampNeg := ⟨_, rfl⟩
  obtain ⟨p4, ep4⟩ : ∃ z : Int32, z = xs (i + 4).toNatClampNeg := ⟨_, rfl⟩
  obtain ⟨p5, ep5⟩ : ∃ z : Int32, z = xs (i + 5).toNatClampNeg := ⟨_, rfl⟩
  refine lv_aload_n hx hb dL_law_3089 rfl (lv_at hl 2 rfl) ?_
  refine lv_aload_n hx hb dL_law_3090 rfl (lv_at hl 3 rfl) ?_
  refine lv_iload_n hx hb dL_law_3091 rfl (lv_at hl 0 rfl) ?_
  refine lv_iconst (v := 1) hx hb dL_law_3092 (by decide) ?_
  refine lv_iadd hx hb dL_law_3093 ?_
  refine lv_topi (fun v1 ev1 => ?_)
  have rv1 : mm_rg v1 1 379 := mm_add ev1 ri mm_k1 (by decide) (by decide)
  have tv1 := mm_addEc ev1 ri mm_k1 (by decide) (k := 1) (by decide)
  refine va_sld hx hb hX hbl hbA hS (mm_inL tv1 ri hiL (by decide)) dL_law_3094 ?_
  refine lv_topi (fun v2 ev2 => ?_)
  obtain rfl : p1 = v2 := ep1.trans (by rw [ev2, ev1])
  refine lv_aload_n hx hb dL_law_3095 rfl (lv_at hl 3 rfl) ?_
  refine lv_iload_n hx hb dL_law_3096 rfl (lv_at hl 0 rfl) ?_
  refine lv_iconst (v := 2) hx hb dL_law_3097 (by decide) ?_
  refine lv_iadd hx hb dL_law_3098 ?_
  refine lv_topi (fun v3 ev3 => ?_)
  have rv3 : mm_rg v3 2 380 := mm_add ev3 ri mm_k2 (by decide) (by decide)
  have tv3 := mm_addEc ev3 ri mm_k2 (by decide) (k := 2) (by decide)
  refine va_sld hx hb hX hbl hbA hS (mm_inL tv3 ri hiL (by decide)) dL_law_3099 ?_
  refine lv_topi (fun v4 ev4 => ?_)
  obtain rfl : p2 = v4 := ep2.trans (by rw [ev4, ev3])
  refine lv_aload_n hx hb dL_law_3100 rfl (lv_at hl 3 rfl) ?_
  refine lv_iload_n hx hb dL_law_3101 rfl (lv_at hl 0 rfl) ?_
  refine lv_iconst (v := 3) hx hb dL_law_3102 (by decide) ?_
  refine lv_iadd hx hb dL_law_3103 ?_
  refine lv_topi (fun v5 ev5 => ?_)
  have rv5 : mm_rg v5 3 381 := mm_add ev5 ri mm_k3 (by decide) (by decide)
  have tv5 := mm_addEc ev5 ri mm_k3 (by decide) (k := 3) (by decide)
  refine va_sld hx hb hX hbl hbA hS (mm_inL tv5 ri hiL (by decide)) dL_law_3104 ?_
  refine lv_topi (fun v6 ev6 => ?_)
  obtain rfl : p3 = v6 := ep3.trans (by rw [ev6, ev5])
  refine lv_aload_n hx hb dL_law_3105 rfl (lv_at hl 3 rfl) ?_
  refine lv_iload_n hx hb dL_law_3106 rfl (lv_at hl 0 rfl) ?_
  refine lv_iconst (v := 4) hx hb dL_law_3107 (by decide) ?_
  refine lv_iadd hx hb dL_law_3108 ?_
  refine lv_topi (fun v7 ev7 => ?_)
  have rv7 : mm_rg v7 4 382 := mm_add ev7 ri mm_k4 (by decide) (by decide)
  have tv7 := mm_addEc ev7 ri mm_k4 (by decide) (k := 4) (by decide)
  refine va_sld hx hb hX hbl hbA hS (mm_inL tv7 ri hiL (by decide)) dL_law_3109 ?_
  refine lv_topi (fun v8 ev8 => ?_)
  obtain rfl : p4 = v8 := ep4.trans (by rw [ev8, ev7])
  refine lv_aload_n hx hb dL_law_3110 rfl (lv_at hl 3 rfl) ?_
  refine lv_iload_n hx hb dL_law_3111 rfl (lv_at hl 0 rfl) ?_
  refine lv_iconst (v := 5) hx hb dL_law_3112 (by decide) ?_
  refine lv_iadd hx hb dL_law_3113 ?_
  refine lv_topi (fun v9 ev9 => ?_)
  have rv9 : mm_rg v9 5 383 := mm_add ev9 ri mm_k5 (by decide) (by decide)
  have tv9 := mm_addEc ev9 ri mm_k5 (by decide) (k := 5) (by decide)
  refine va_sld hx hb hX hbl hbA hS (mm_inL tv9 ri hiL (by decide)) dL_law_3114 ?_
  refine lv_topi (fun v10 ev10 => ?_)
  obtain rfl : p5 = v10 := ep5.trans (by rw [ev10, ev9])
  refine mm_fini (va_runV (As := [.int p1, .int p2, .int p3, .int p4, .int p5]) (rest := []) ⟨hx, hb, hml, hown, hts⟩ (C551_X11_paste l G cy H.size qx p1 p2 p3 p4 p5 (ux 0) (ux 2) (ux 14) (ux 36) (ux 70) (ux 71) (ux 80) (ux 82) (ux 84) (ux 89) (ux 92) (ux 72) (ux 74) (ux 76) (ux 78) xv114 xv115 xv116 (ux 73) xf117 xv118 xv119 xv120 (ux 75) xf121 xv122 xv123 xv124 (ux 77) xf125 xv126 xv127 xv128 (ux 79) xf129 rxv114 rxv115 rxv116 rxv118 rxv119 rxv120 rxv122 rxv123 rxv124 rxv126 rxv127 rxv128) (cwV 5 hts (mm_gV mm_w1706 mm_w1707 mm_w1708 mm_w2 mm_w1709) rfl rfl rfl hd_X11_paste ⟨by rw [hRf]; exact Nat.le_of_ble_eq_true rfl, by rw [hRl]; exact Nat.le_of_ble_eq_true rfl⟩) (mm_preV hK hZ hS hA hP hD [0, 72, 73, 74, 75, 76, 77, 78, 79, 80] rfl rfl 0 rfl rfl rfl) rfl rfl hl.1 rfl (lv_room (Nat.le_of_ble_eq_true rfl)) dL_law_3115 ⟨by rw [hRc]; exact Nat.le_of_ble_eq_true rfl, by rw [hRs]; exact Nat.le_of_ble_eq_true rfl⟩) hP hD hS hA (fun u : (Nat → Int64) × (Nat → Int64) × (Nat → Int64) × (Nat → Int64) => (lw_W qx qm ux um cy xv0 xf1 xv2 xv3 xv4 xv5 xv6 xv7 xv8 xv9 xv10 xv11 xv12 xv13 xv14 xv15 xf16 xf17 xf18 xf19 xf20 xf21 xf22 xf23 xf24 xf25 xv26 xv27 xv28 xv29 xv30 xv31 xv32 xv33 xf34 xf35 xf36 xf37 xf38 xf39 xf40 xf41 xf42 xf43 xv44 xv45 xv46 xf47 xf48 xv49 xv50 xv51 xf52 xf53 xv54 xv55 xv56 xf57 xf58 xv59 xv60 xv61 xv62 xv63 xv64 xv65 xv66 xf67 xf68 xf69 xf70 xf71 xf72 xf73 xf74 xf75 xf76 xv77 xv78 xv79 xv80 xv81 xv82 xv83 xv84 xf85 xf86 xf87 xf88 xf89 xf90 xf91 xf92 xf93 xf94 xv95 xv96 xv97 xv98 xv99 xv100 xv101 xv102 xf103 xf104 xf105 xf106 xf107 xf108 xf109 xf110 xf111 xf112 xf113 xv114 xv115 xv116 u.1 xv118 xv119 xv120 u.2.1 xv122 xv123 xv124 u.2.2.1 xv126 xv127 xv128 u.2.2.2 xv130 xf131 xv132 xf133 xv134 xv135 xv136 xv137 xf138 xf139 xf140 xf141 xf142 xf143 xf144 mv0 mv1 mv2 mv3 mv4 mv5 ml6 mv7 mv8 mv9 mv10 mv11 mv12 mv13 mv14 mv15 mv16 mv17 mf18 mf19 mf20 mf21 mf22 me23 me24 me25 me26 me27 me28 me29 me30 me31 me32 me33 me34 me35 me36 me37 me38 me39 me40 me41 me42 me43 me44 me45 me46 me47 me48 me49 me50 me51 me52 me53 me54 me55 me56 me57 mf58 mf59 mf60 mf61 mf62 mf63 mf64 mf65 mf66 mf67 mf68 mf69 mf70)) [0, 72, 73, 74, 75, 76, 77, 78, 79, 80] [1, 2, 3, 4, 5, 6, 7, 8, 9, 10, 11, 12, 13, 14, 15, 16, 17, 18, 19, 20, 21, 22, 23, 24, 25, 26, 27, 28, 29, 30, 31, 32, 33, 34, 35, 36, 37, 38, 39, 40, 41, 42, 43, 44, 45, 46, 47, 48, 49, 50, 51, 52, 53, 54, 55, 56, 57, 58, 59, 60, 61, 62, 63, 64, 65, 66, 67, 68, 69, 70, 71, 81, 82, 83, 84, 85, 86, 87, 88, 89, 90, 91, 92, 93, 94, 95, 96, 97, 98, 99, 100, 101, 102, 103, 104, 105, 106, 107, 108, 109, 110, 111, 112, 113, 114, 115] (n := 116) (fun _ => rfl) (by decide +kernel) (by decide +kernel) rfl (fun _ => rfl) (wr := List.filterMap (fun i => ((lw_W qx qm ux um cy xv0 xf1 xv2 xv3 xv4 xv5 xv6 xv7 xv8 xv9 xv10 xv11 xv12 xv13 xv14 xv15 xf16 xf17 xf18 xf19 xf20 xf21 xf22 xf23 xf24 xf25 xv26 xv27 xv28 xv29 xv30 xv31 xv32 xv33 xf34 xf35 xf36 xf37 xf38 xf39 xf40 xf41 xf42 xf43 xv44 xv45 xv46 xf47 xf48 xv49 xv50 xv51 xf52 xf53 xv54 xv55 xv56 xf57 xf58 xv59 xv60 xv61 xv62 xv63 xv64 xv65 xv66 xf67 xf68 xf69 xf70 xf71 xf72 xf73 xf74 xf75 xf76 xv77 xv78 xv79 xv80 xv81 xv82 xv83 xv84 xf85 xf86 xf87 xf88 xf89 xf90 xf91 xf92 xf93 xf94 xv95 xv96 xv97 xv98 xv99 xv100 xv101 xv102 xf103 xf104 xf105 xf106 xf107 xf108 xf109 xf110 xf111 xf112 xf113 xv114 xv115 xv116 xf117 xv118 xv119 xv120 xf121 xv122 xv123 xv124 xf125 xv126 xv127 xv128 xf129 xv130 xf131 xv132 xf133 xv134 xv135 xv136 xv137 xf138 xf139 xf140 xf141 xf142 xf143 xf144 mv0 mv1 mv2 mv3 mv4 mv5 ml6 mv7 mv8 mv9 mv10 mv11 mv12 mv13 mv14 mv15 mv16 mv17 mf18 mf19 mf20 mf21 mf22 me23 me24 me25 me26 me27 me28 me29 me30 me31 me32 me33 me34 me35 me36 me37 me38 me39 me40 me41 me42 me43 me44 me45 me46 me47 me48 me49 me50 me51 me52 me53 me54 me55 me56 me57 mf58 mf59 mf60 mf61 mf62 mf63 mf64 mf65 mf66 mf67 mf68 mf69 mf70))[i]?) [1, 2, 3, 4, 5, 6, 7, 8, 9, 10, 11, 12, 13, 14, 15, 16, 17, 18, 19, 20, 21, 22, 23, 24, 25, 26, 27, 28, 29, 30, 31, 32, 33, 34, 35, 36, 37, 38, 39, 40, 41, 42, 43, 44, 45, 46, 47, 48, 49, 50, 51, 52, 53, 54, 55, 56, 57, 58, 59, 60, 61, 62, 63, 64, 65, 66, 67, 68, 69, 70, 71, 81, 82, 83, 84, 85, 86, 87, 88, 89, 90, 91, 92, 93, 94, 95, 96, 97, 98, 99, 100, 101, 102, 103, 104, 105, 106, 107, 108, 109, 110, 111, 112, 113, 114, 115]) rfl (fun _ => rfl) (fun _ => rfl) ?_
  clear hP hD hS
  clear H locs
  intro v15 u
  obtain ⟨n11, n12, n13, n14⟩ := u
  intro H locs hw (hP : va_P G vwCl (lw_W qx qm ux um cy xv0 xf1 xv2 xv3 xv4 xv5 xv6 xv7 xv8 xv9 xv10 xv11 xv12 xv13 xv14 xv15 xf16 xf17 xf18 xf19 xf20 xf21 xf22 xf23 xf24 xf25 xv26 xv27 xv28 xv29 xv30 xv31 xv32 xv33 xf34 xf35 xf36 xf37 xf38 xf39 xf40 xf41 xf42 xf43 xv44 xv45 xv46 xf47 xf48 xv49 xv50 xv51 xf52 xf53 xv54 xv55 xv56 xf57 xf58 xv59 xv60 xv61 xv62 xv63 xv64 xv65 xv66 xf67 xf68 xf69 xf70 xf71 xf72 xf73 xf74 xf75 xf76 xv77 xv78 xv79 xv80 xv81 xv82 xv83 xv84 xf85 xf86 xf87 xf88 xf89 xf90 xf91 xf92 xf93 xf94 xv95 xv96 xv97 xv98 xv99 xv100 xv101 xv102 xf103 xf104 xf105 xf106 xf107 xf108 xf109 xf110 xf111 xf112 xf113 xv114 xv115 xv116 n11 xv118 xv119 xv120 n12 xv122 xv123 xv124 n13 xv126 xv127 xv128 n14 xv130 xf131 xv132 xf133 xv134 xv135 xv136 xv137 xf138 xf139 xf140 xf141 xf142 xf143 xf144 mv0 mv1 mv2 mv3 mv4 mv5 ml6 mv7 mv8 mv9 mv10 mv11 mv12 mv13 mv14 mv15 mv16 mv17 mf18 mf19 mf20 mf21 mf22 me23 me24 me25 me26 me27 me28 me29 me30 me31 me32 me33 me34 me35 me36 me37 me38 me39 me40 me41 me42 me43 me44 me45 me46 me47 me48 me49 me50 me51 me52 me53 me54 me55 me56 me57 mf58 mf59 mf60 mf61 mf62 mf63 mf64 mf65 mf66 mf67 mf68 mf69 mf70) H) (hD : va_D A (lw_W qx qm ux um cy xv0 xf1 xv2 xv3 xv4 xv5 xv6 xv7 xv8 xv9 xv10 xv11 xv12 xv13 xv14 xv15 xf16 xf17 xf18 xf19 xf20 xf21 xf22 xf23 xf24 xf25 xv26 xv27 xv28 xv29 xv30 xv31 xv32 xv33 xf34 xf35 xf36 xf37 xf38 xf39 xf40 xf41 xf42 xf43 xv44 xv45 xv46 xf47 xf48 xv49 xv50 xv51 xf52 xf53 xv54 xv55 xv56 xf57 xf58 xv59 xv60 xv61 xv62 xv63 xv64 xv65 xv66 xf67 xf68 xf69 xf70 xf71 xf72 xf73 xf74 xf75 xf76 xv77 xv78 xv79 xv80 xv81 xv82 xv83 xv84 xf85 xf86 xf87 xf88 xf89 xf90 xf91 xf92 xf93 xf94 xv95 xv96 xv97 xv98 xv99 xv100 xv101 xv102 xf103 xf104 xf105 xf106 xf107 xf108 xf109 xf110 xf111 xf112 xf113 xv114 xv115 xv116 n11 xv118 xv119 xv120 n12 xv122 xv123 xv124 n13 xv126 xv127 xv128 n14 xv130 xf131 xv132 xf133 xv134 xv135 xv136 xv137 xf138 xf139 xf140 xf141 xf142 xf143 xf144 mv0 mv1 mv2 mv3 mv4 mv5 ml6 mv7 mv8 mv9 mv10 mv11 mv12 mv13 mv14 mv15 mv16 mv17 mf18 mf19 mf20 mf21 mf22 me23 me24 me25 me26 me27 me28 me29 me30 me31 me32 me33 me34 me35 me36 me37 me38 me39 me40 me41 me42 me43 me44 me45 me46 me47 me48 me49 me50 me51 me52 me53 me54 me55 me56 me57 mf58 mf59 mf60 mf61 mf62 mf63 mf64 mf65 mf66 mf67 mf68 mf69 mf70)) hS
  have w16 := hw
  replace w16 : (((-2) = v15 ∧ mm_rg p1 (-2147483648) (-1)) ∨ ((-2) = v15 ∧ mm_rg p1 4 2147483647) ∨ ((-2) = v15 ∧ mm_rg p1 0 3 ∧ mm_rg p3 (-2147483648) (-1)) ∨ ((-2) = v15 ∧ mm_rg p1 0 3 ∧ mm_rg p3 4 2147483647) ∨ ((-6) = v15 ∧ mm_rg p1 0 3 ∧ mm_rg p3 0 3 ∧ mm_y0 xv114 xv118 xv122 xv126 p1) ∨ ((-7) = v15 ∧ mm_rg p1 0 3 ∧ mm_rg p3 0 3 ∧ mm_y1 xv114 xv118 xv122 xv126 p1 ∧ mm_y1 xv114 xv118 xv122 xv126 p3 ∧ mm_ye xv115 xv119 xv123 xv127 p1 p3 ∧ mm_yb xv116 xv120 xv124 xv128 p1 p3 p2 p4 p5) ∨ (0 = v15 ∧ mm_rg p1 0 3 ∧ mm_rg p3 0 3 ∧ mm_y1 xv114 xv118 xv122 xv126 p1 ∧ mm_y1 xv114 xv118 xv122 xv126 p3 ∧ mm_ye xv115 xv119 xv123 xv127 p1 p3 ∧ mm_yg xv116 xv120 xv124 xv128 p1 p3 p2 p4 p5) ∨ ((-8) = v15 ∧ mm_rg p1 0 3 ∧ mm_rg p3 0 3 ∧ mm_y1 xv114 xv118 xv122 xv126 p1 ∧ mm_y1 xv114 xv118 xv122 xv126 p3 ∧ mm_yn xv115 xv119 xv123 xv127 p1 p3) ∨ ((-6) = v15 ∧ mm_rg p1 0 3 ∧ mm_rg p3 0 3 ∧ mm_y1 xv114 xv118 xv122 xv126 p1 ∧ mm_y0 xv114 xv118 xv122 xv126 p3)) := w16
  refine lv_aload_n hx hb dL_law_3118 rfl (lv_at hl 1 rfl) ?_
  refine lv_aload_n hx hb dL_law_3119 rfl (lv_at hl 3 rfl) ?_
  refine lv_iload_n hx hb dL_law_3120 rfl (lv_at hl 0 rfl) ?_
  refine lv_iconst (v := 1) hx hb dL_law_3121 (by decide) ?_
  refine lv_iadd hx hb dL_law_3122 ?_
  refine lv_topi (fun v17 ev17 => ?_)
  have rv17 : mm_rg v17 1 379 := mm_add ev17 ri mm_k1 (by decide) (by decide)
  have tv17 := mm_addEc ev17 ri mm_k1 (by decide) (k := 1) (by decide)
  refine va_sld hx hb hX hbl hbA hS (mm_inL tv17 ri hiL (by decide)) dL_law_3123 ?_
  refine lv_topi (fun v18 ev18 => ?_)
  obtain rfl : p1 = v18 := ep1.trans (by rw [ev18, ev17])
  refine lv_aload_n hx hb dL_law_3124 rfl (lv_at hl 3 rfl) ?_
  refine lv_iload_n hx hb dL_law_3125 rfl (lv_at hl 0 rfl) ?_
  refine lv_iconst (v := 2) hx hb dL_law_3126 (by decide) ?_
  refine lv_iadd hx hb dL_law_3127 ?_
  refine lv_topi (fun v19 ev19 => ?_)
  have rv19 : mm_rg v19 2 380 := mm_add ev19 ri mm_k2 (by decide) (by decide)
  have tv19 := mm_addEc ev19 ri mm_k2 (by decide) (k := 2) (by decide)
  refine va_sld hx hb hX hbl hbA hS (mm_inL tv19 ri hiL (by decide)) dL_law_3128 ?_
  refine lv_topi (fun v20 ev20 => ?_)
  obtain rfl : p2 = v20 := ep2.trans (by rw [ev20, ev19])
  refine lv_aload_n hx hb dL_law_3129 rfl (lv_at hl 3 rfl) ?_
  refine lv_iload_n hx hb dL_law_3130 rfl (lv_at hl 0 rfl) ?_
  refine lv_iconst (v := 3) hx hb dL_law_3131 (by decide) ?_
  refine lv_iadd hx hb dL_law_3132 ?_
  refine lv_topi (fun v21 ev21 => ?_)
  have rv21 : mm_rg v21 3 381 := mm_add ev21 ri mm_k3 (by decide) (by decide)
  have tv21 := mm_addEc ev21 ri mm_k3 (by decide) (k := 3) (by decide)
  refine va_sld hx hb hX hbl hbA hS (mm_inL tv21 ri hiL (by decide)) dL_law_3133 ?_
  refine lv_topi (fun v22 ev22 => ?_)
  obtain rfl : p3 = v22 := ep3.trans (by rw [ev22, ev21])
  refine lv_aload_n hx hb dL_law_3134 rfl (lv_at hl 3 rfl) ?_
  refine lv_iload_n hx hb dL_law_3135 rfl (lv_at hl 0 rfl) ?_
  refine lv_iconst (v := 4) hx hb dL_law_3136 (by decide) ?_
  refine lv_iadd hx hb dL_law_3137 ?_
  refine lv_topi (fun v23 ev23 => ?_)
  have rv23 : mm_rg v23 4 382 := mm_add ev23 ri mm_k4 (by decide) (by decide)
  have tv23 := mm_addEc ev23 ri mm_k4 (by decide) (k := 4) (by decide)
  refine va_sld hx hb hX hbl hbA hS (mm_inL tv23 ri hiL (by decide)) dL_law_3138 ?_
  refine lv_topi (fun v24 ev24 => ?_)
  obtain rfl : p4 = v24 := ep4.trans (by rw [ev24, ev23])
  refine lv_aload_n hx hb dL_law_3139 rfl (lv_at hl 3 rfl) ?_
  refine lv_iload_n hx hb dL_law_3140 rfl (lv_at hl 0 rfl) ?_
  refine lv_iconst (v := 5) hx hb dL_law_3141 (by decide) ?_
  refine lv_iadd hx hb dL_law_3142 ?_
  refine lv_topi (fun v25 ev25 => ?_)
  have rv25 : mm_rg v25 5 383 := mm_add ev25 ri mm_k5 (by decide) (by decide)
  have tv25 := mm_addEc ev25 ri mm_k5 (by decide) (k := 5) (by decide)
  refine va_sld hx hb hX hbl hbA hS (mm_inL tv25 ri hiL (by decide)) dL_law_3143 ?_
  refine lv_topi (fun v26 ev26 => ?_)
  obtain rfl : p5 = v26 := ep5.trans (by rw [ev26, ev25])
  refine mm_fini (va_runV (As := [.int p1, .int p2, .int p3, .int p4, .int p5]) (rest := [.int v15]) ⟨hx, hb, hml, hown, hts⟩ (C386_X12_paste l G cy H.size qm p1 p2 p3 p4 p5 mv0 (um 0) (um 1) (um 2) (um 3) (um 4) mv1 mv2 mv3 mv4 mv5 ml6 mv7 mv8 mv9 mv10 (um 5) (um 6) (um 7) (um 8) (um 9) (um 10) (um 11) (um 12) (um 13) (um 14) (um 15) (um 16) (um 17) mv11 mv12 mv13 mv14 mv15 mv16 (um 18) mv17 (um 19) mf18 mf19 mf20 mf21 rmf18 rmf19) (cwV 5 hts (mm_gV mm_w1717 mm_w1718 mm_w1719 mm_w5 mm_w1720) rfl rfl rfl hd_X12_paste ⟨by rw [hRf]; exact Nat.le_of_ble_eq_true rfl, by rw [hRl]; exact Nat.le_of_ble_eq_true rfl⟩) (mm_preV hK hZ hS hA hP hD [95, 96, 97, 98, 99] rfl rfl 95 rfl rfl rfl) rfl rfl hl.1 rfl (lv_room (Nat.le_of_ble_eq_true rfl)) dL_law_3144 ⟨by rw [hRc]; exact Nat.le_of_ble_eq_true rfl, by rw [hRs]; exact Nat.le_of_ble_eq_true rfl⟩) hP hD hS hA (fun u : (Nat → Int64) × (Nat → Int64) => (lw_W qx qm ux um cy xv0 xf1 xv2 xv3 xv4 xv5 xv6 xv7 xv8 xv9 xv10 xv11 xv12 xv13 xv14 xv15 xf16 xf17 xf18 xf19 xf20 xf21 xf22 xf23 xf24 xf25 xv26 xv27 xv28 xv29 xv30 xv31 xv32 xv33 xf34 xf35 xf36 xf37 xf38 xf39 xf40 xf41 xf42 xf43 xv44 xv45 xv46 xf47 xf48 xv49 xv50 xv51 xf52 xf53 xv54 xv55 xv56 xf57 xf58 xv59 xv60 xv61 xv62 xv63 xv64 xv65 xv66 xf67 xf68 xf69 xf70 xf71 xf72 xf73 xf74 xf75 xf76 xv77 xv78 xv79 xv80 xv81 xv82 xv83 xv84 xf85 xf86 xf87 xf88 xf89 xf90 xf91 xf92 xf93 xf94 xv95 xv96 xv97 xv98 xv99 xv100 xv101 xv102 xf103 xf104 xf105 xf106 xf107 xf108 xf109 xf110 xf111 xf112 xf113 xv114 xv115 xv116 n11 xv118 xv119 xv120 n12 xv122 xv123 xv124 n13 xv126 xv127 xv128 n14 xv130 xf131 xv132 xf133 xv134 xv135 xv136 xv137 xf138 xf139 xf140 xf141 xf142 xf143 xf144 0 mv1 mv2 mv3 mv4 mv5 ml6 mv7 mv8 mv9 mv10 mv11 mv12 mv13 mv14 mv15 mv16 mv17 mf18 mf19 u.1 u.2 mf22 me23 me24 me25 me26 me27 me28 me29 me30 me31 me32 me33 me34 me35 me36 me37 me38 me39 me40 me41 me42 me43 me44 me45 me46 me47 me48 me49 me50 me51 me52 me53 me54 me55 me56 me57 mf58 mf59 mf60 mf61 mf62 mf63 mf64 mf65 mf66 mf67 mf68 mf69 mf70)) [95, 96, 97, 98, 99] [0, 1, 2, 3, 4, 5, 6, 7, 8, 9, 10, 11, 12, 13, 14, 15, 16, 17, 18, 19, 20, 21, 22, 23, 24, 25, 26, 27, 28, 29, 30, 31, 32, 33, 34, 35, 36, 37, 38, 39, 40, 41, 42, 43, 44, 45, 46, 47, 48, 49, 50, 51, 52, 53, 54, 55, 56, 57, 58, 59, 60, 61, 62, 63, 64, 65, 66, 67, 68, 69, 70, 71, 72, 73, 74, 75, 76, 77, 78, 79, 80, 81, 82, 83, 84, 85, 86, 87, 88, 89, 90, 91, 92, 93, 94, 100, 101, 102, 103, 104, 105, 106, 107, 108, 109, 110, 111, 112, 113, 114, 115] (n := 116) (fun _ => rfl) (by decide +kernel) (by decide +kernel) rfl (fun _ => rfl) (wr := List.filterMap (fun i => ((lw_W qx qm ux um cy xv0 xf1 xv2 xv3 xv4 xv5 xv6 xv7 xv8 xv9 xv10 xv11 xv12 xv13 xv14 xv15 xf16 xf17 xf18 xf19 xf20 xf21 xf22 xf23 xf24 xf25 xv26 xv27 xv28 xv29 xv30 xv31 xv32 xv33 xf34 xf35 xf36 xf37 xf38 xf39 xf40 xf41 xf42 xf43 xv44 xv45 xv46 xf47 xf48 xv49 xv50 xv51 xf52 xf53 xv54 xv55 xv56 xf57 xf58 xv59 xv60 xv61 xv62 xv63 xv64 xv65 xv66 xf67 xf68 xf69 xf70 xf71 xf72 xf73 xf74 xf75 xf76 xv77 xv78 xv79 xv80 xv81 xv82 xv83 xv84 xf85 xf86 xf87 xf88 xf89 xf90 xf91 xf92 xf93 xf94 xv95 xv96 xv97 xv98 xv99 xv100 xv101 xv102 xf103 xf104 xf105 xf106 xf107 xf108 xf109 xf110 xf111 xf112 xf113 xv114 xv115 xv116 n11 xv118 xv119 xv120 n12 xv122 xv123 xv124 n13 xv126 xv127 xv128 n14 xv130 xf131 xv132 xf133 xv134 xv135 xv136 xv137 xf138 xf139 xf140 xf141 xf142 xf143 xf144 mv0 mv1 mv2 mv3 mv4 mv5 ml6 mv7 mv8 mv9 mv10 mv11 mv12 mv13 mv14 mv15 mv16 mv17 mf18 mf19 mf20 mf21 mf22 me23 me24 me25 me26 me27 me28 me29 me30 me31 me32 me33 me34 me35 me36 me37 me38 me39 me40 me41 me42 me43 me44 me45 me46 me47 me48 me49 me50 me51 me52 me53 me54 me55 me56 me57 mf58 mf59 mf60 mf61 mf62 mf63 mf64 mf65 mf66 mf67 mf68 mf69 mf70))[i]?) [0, 1, 2, 3, 4, 5, 6, 7, 8, 9, 10, 11, 12, 13, 14, 15, 16, 17, 18, 19, 20, 21, 22, 23, 24, 25, 26, 27, 28, 29, 30, 31, 32, 33, 34, 35, 36, 37, 38, 39, 40, 41, 42, 43, 44, 45, 46, 47, 48, 49, 50, 51, 52, 53, 54, 55, 56, 57, 58, 59, 60, 61, 62, 63, 64, 65, 66, 67, 68, 69, 70, 71, 72, 73, 74, 75, 76, 77, 78, 79, 80, 81, 82, 83, 84, 85, 86, 87, 88, 89, 90, 91, 92, 93, 94, 100, 101, 102, 103, 104, 105, 106, 107, 108, 109, 110, 111, 112, 113, 114, 115]) rfl (fun _ => rfl) (fun _ => rfl) ?_
  clear hP hD hS
  clear H locs
  intro v29 u
  obtain ⟨n27, n28⟩ := u
  intro H locs hw (hP : va_P G vwCl (lw_W qx qm ux um cy xv0 xf1 xv2 xv3 xv4 xv5 xv6 xv7 xv8 xv9 xv10 xv11 xv12 xv13 xv14 xv15 xf16 xf17 xf18 xf19 xf20 xf21 xf22 xf23 xf24 xf25 xv26 xv27 xv28 xv29 xv30 xv31 xv32 xv33 xf34 xf35 xf36 xf37 xf38 xf39 xf40 xf41 xf42 xf43 xv44 xv45 xv46 xf47 xf48 xv49 xv50 xv51 xf52 xf53 xv54 xv55 xv56 xf57 xf58 xv59 xv60 xv61 xv62 xv63 xv64 xv65 xv66 xf67 xf68 xf69 xf70 xf71 xf72 xf73 xf74 xf75 xf76 xv77 xv78 xv79 xv80 xv81 xv82 xv83 xv84 xf85 xf86 xf87 xf88 xf89 xf90 xf91 xf92 xf93 xf94 xv95 xv96 xv97 xv98 xv99 xv100 xv101 xv102 xf103 xf104 xf105 xf106 xf107 xf108 xf109 xf110 xf111 xf112 xf113 xv114 xv115 xv116 n11 xv118 xv119 xv120 n12 xv122 xv123 xv124 n13 xv126 xv127 xv128 n14 xv130 xf131 xv132 xf133 xv134 xv135 xv136 xv137 xf138 xf139 xf140 xf141 xf142 xf143 xf144 0 mv1 mv2 mv3 mv4 mv5 ml6 mv7 mv8 mv9 mv10 mv11 mv12 mv13 mv14 mv15 mv16 mv17 mf18 mf19 n27 n28 mf22 me23 me24 me25 me26 me27 me28 me29 me30 me31 me32 me33 me34 me35 me36 me37 me38 me39 me40 me41 me42 me43 me44 me45 me46 me47 me48 me49 me50 me51 me52 me53 me54 me55 me56 me57 mf58 mf59 mf60 mf61 mf62 mf63 mf64 mf65 mf66 mf67 mf68 mf69 mf70) H) (hD : va_D A (lw_W qx qm ux um cy xv0 xf1 xv2 xv3 xv4 xv5 xv6 xv7 xv8 xv9 xv10 xv11 xv12 xv13 xv14 xv15 xf16 xf17 xf18 xf19 xf20 xf21 xf22 xf23 xf24 xf25 xv26 xv27 xv28 xv29 xv30 xv31 xv32 xv33 xf34 xf35 xf36 xf37 xf38 xf39 xf40 xf41 xf42 xf43 xv44 xv45 xv46 xf47 xf48 xv49 xv50 xv51 xf52 xf53 xv54 xv55 xv56 xf57 xf58 xv59 xv60 xv61 xv62 xv63 xv64 xv65 xv66 xf67 xf68 xf69 xf70 xf71 xf72 xf73 xf74 xf75 xf76 xv77 xv78 xv79 xv80 xv81 xv82 xv83 xv84 xf85 xf86 xf87 xf88 xf89 xf90 xf91 xf92 xf93 xf94 xv95 xv96 xv97 xv98 xv99 xv100 xv101 xv102 xf103 xf104 xf105 xf106 xf107 xf108 xf109 xf110 xf111 xf112 xf113 xv114 xv115 xv116 n11 xv118 xv119 xv120 n12 xv122 xv123 xv124 n13 xv126 xv127 xv128 n14 xv130 xf131 xv132 xf133 xv134 xv135 xv136 xv137 xf138 xf139 xf140 xf141 xf142 xf143 xf144 0 mv1 mv2 mv3 mv4 mv5 ml6 mv7 mv8 mv9 mv10 mv11 mv12 mv13 mv14 mv15 mv16 mv17 mf18 mf19 n27 n28 mf22 me23 me24 me25 me26 me27 me28 me29 me30 me31 me32 me33 me34 me35 me36 me37 me38 me39 me40 me41 me42 me43 me44 me45 me46 me47 me48 me49 me50 me51 me52 me53 me54 me55 me56 me57 mf58 mf59 mf60 mf61 mf62 mf63 mf64 mf65 mf66 mf67 mf68 mf69 mf70)) hS
  have hB : ∀ ls : Array Slot, lv_has ls 4 [(3, .int i), (2, .ref qm), (1, .ref qx), (0, .ref b)] → W p l e room_1 s m #[Value.ref b] below meth c H locs 116 20302 (lw_Z below #[Value.ref b] s) (F0 m 3152 ls []) := by
    intro ls hl
    obtain ⟨v30, ev30⟩ : ∃ y : Int32, y = i + 6 := ⟨_, rfl⟩
    refine lv_iinc (v := v30) (lv' := [(3, .int v30), (2, .ref qm), (1, .ref qx), (0, .ref b)]) hx hb dL_law_3152 hl (k := 0) rfl (by rw [ev30]; rfl) (by decide) rfl ?_
    clear hl
    clear ls
    intro ls hl
    have rv30 : mm_rg v30 6 384 := mm_add ev30 ri mm_k6 (by decide) (by decide)
    have tv30 := mm_addEc ev30 ri mm_k6 (by decide) (k := 6) (by decide)
    refine lv_goto (tgt := 18) hx hb dL_law_3155 (by decide) ?_
    have hI2 : lw_I xv0 xf1 xv2 xv3 xv4 xv5 xv6 xv7 xv8 xv9 xv10 xv11 xv12 xv13 xv14 xv15 xf16 xf17 xf18 xf19 xf20 xf21 xf22 xf23 xf24 xf25 xv26 xv27 xv28 xv29 xv30 xv31 xv32 xv33 xf34 xf35 xf36 xf37 xf38 xf39 xf40 xf41 xf42 xf43 xv44 xv45 xv46 xf47 xf48 xv49 xv50 xv51 xf52 xf53 xv54 xv55 xv56 xf57 xf58 xv59 xv60 xv61 xv62 xv63 xv64 xv65 xv66 xf67 xf68 xf69 xf70 xf71 xf72 xf73 xf74 xf75 xf76 xv77 xv78 xv79 xv80 xv81 xv82 xv83 xv84 xf85 xf86 xf87 xf88 xf89 xf90 xf91 xf92 xf93 xf94 xv95 xv96 xv97 xv98 xv99 xv100 xv101 xv102 xf103 xf104 xf105 xf106 xf107 xf108 xf109 xf110 xf111 xf112 xf113 xv114 xv115 xv116 n11 xv118 xv119 xv120 n12 xv122 xv123 xv124 n13 xv126 xv127 xv128 n14 xv130 xf131 xv132 xf133 xv134 xv135 xv136 xv137 xf138 xf139 xf140 xf141 xf142 xf143 xf144 0 mv1 mv2 mv3 mv4 mv5 ml6 mv7 mv8 mv9 mv10 mv11 mv12 mv13 mv14 mv15 mv16 mv17 mf18 mf19 n27 n28 mf22 me23 me24 me25 me26 me27 me28 me29 me30 me31 me32 me33 me34 me35 me36 me37 me38 me39 me40 me41 me42 me43 me44 me45 me46 me47 me48 me49 me50 me51 me52 me53 me54 me55 me56 me57 mf58 mf59 mf60 mf61 mf62 mf63 mf64 mf65 mf66 mf67 mf68 mf69 mf70 := ⟨rxv0, rxf1, rxv2, rxv4, rxv5, rxv6, rxv9, rxv10, rxv11, rxv12, rxv13, rxv14, rxv15, rxf16, rxf17, rxf18, rxf19, rxf20, rxf21, rxf22, rxf23, rxf24, rxf25, rxv27, rxv28, rxv29, rxv30, rxv31, rxv32, rxv33, rxf34, rxf35, rxf36, rxf37, rxf38, rxf39, rxf40, rxf41, rxf42, rxf43, rxv44, rxv46, rxf47, rxf48, rxv49, rxv51, rxf52, rxf53, rxv54, rxv56, rxf57, rxf58, rxv60, rxv61, rxv62, rxv63, rxv64, rxv65, rxv66, rxf67, rxf68, rxf69, rxf70, rxf71, rxf72, rxf73, rxf74, rxf75, rxf76, rxv78, rxv79, rxv80, rxv81, rxv82, rxv83, rxv84, rxf85, rxf86, rxf87, rxf88, rxf89, rxf90, rxf91, rxf92, rxf93, rxf94, rxv96, rxv97, rxv98, rxv99, rxv100, rxv101, rxv102, rxf103, rxf104, rxf105, rxf106, rxf107, rxf108, rxf109, rxf110, rxf111, rxf112, rxf113, rxv114, rxv115, rxv116, rxv118, rxv119, rxv120, rxv122, rxv123, rxv124, rxv126, rxv127, rxv128, rxv130, rxv132, rxf133, rxv134, rxv136, rxf138, rxf140, rmv1, rmv2, rmv3, rmv4, rmv7, rmv11, rmf18, rmf19, rmf22, rme23, rme24, rme25, rme26, rme27, rme28, rme29, rme30, rme31, rme32, rme33, rme34, rme35, rme36, rme37, rme38, rme39, rme40, rme41, rme42, rme43, rme44, rme45, rme46, rme47, rme48, rme49, rme50, rme51, rme52, rme53, rme54, rme55, rme56, rme57, rmf58, rmf59, rmf60, rmf61, rmf62, rmf63, rmf64, rmf65, rmf66, rmf67, rmf68, rmf69, wI179, wI180, wI181, wI182, wI183, wI184, wI185, wI186, wI187, wI188, wI189, wI190, wI191, wI192, wI193, wI194, wI195, wI196, wI197, wI198, wI199, wI200, wI201, wI202, wI203⟩
    exact ih v30 ev30 xv0 xf1 xv2 xv3 xv4 xv5 xv6 xv7 xv8 xv9 xv10 xv11 xv12 xv13 xv14 xv15 xf16 xf17 xf18 xf19 xf20 xf21 xf22 xf23 xf24 xf25 xv26 xv27 xv28 xv29 xv30 xv31 xv32 xv33 xf34 xf35 xf36 xf37 xf38 xf39 xf40 xf41 xf42 xf43 xv44 xv45 xv46 xf47 xf48 xv49 xv50 xv51 xf52 xf53 xv54 xv55 xv56 xf57 xf58 xv59 xv60 xv61 xv62 xv63 xv64 xv65 xv66 xf67 xf68 xf69 xf70 xf71 xf72 xf73 xf74 xf75 xf76 xv77 xv78 xv79 xv80 xv81 xv82 xv83 xv84 xf85 xf86 xf87 xf88 xf89 xf90 xf91 xf92 xf93 xf94 xv95 xv96 xv97 xv98 xv99 xv100 xv101 xv102 xf103 xf104 xf105 xf106 xf107 xf108 xf109 xf110 xf111 xf112 xf113 xv114 xv115 xv116 n11 xv118 xv119 xv120 n12 xv122 xv123 xv124 n13 xv126 xv127 xv128 n14 xv130 xf131 xv132 xf133 xv134 xv135 xv136 xv137 xf138 xf139 xf140 xf141 xf142 xf143 xf144 0 mv1 mv2 mv3 mv4 mv5 ml6 mv7 mv8 mv9 mv10 mv11 mv12 mv13 mv14 mv15 mv16 mv17 mf18 mf19 n27 n28 mf22 me23 me24 me25 me26 me27 me28 me29 me30 me31 me32 me33 me34 me35 me36 me37 me38 me39 me40 me41 me42 me43 me44 me45 me46 me47 me48 me49 me50 me51 me52 me53 me54 me55 me56 me57 mf58 mf59 mf60 mf61 mf62 mf63 mf64 mf65 mf66 mf67 mf68 mf69 mf70 hI2 H locs hP hD hS ls (lv_sub hl [0, 1, 2, 3] rfl)
  clear hP hD hS rxv0 rxf1 rxv2 rxv4 rxv5 rxv6 rxv9 rxv10 rxv11 rxv12 rxv13 rxv14 rxv15 rxf16 rxf17 rxf18 rxf19 rxf20 rxf21 rxf22 rxf23 rxf24 rxf25 rxv27 rxv28 rxv29 rxv30 rxv31 rxv32 rxv33 rxf34 rxf35 rxf36 rxf37 rxf38 rxf39 rxf40 rxf41 rxf42 rxf43 rxv44 rxv46 rxf47 rxf48 rxv49 rxv51 rxf52 rxf53 rxv54 rxv56 rxf57 rxf58 rxv60 rxv61 rxv62 rxv63 rxv64 rxv65 rxv66 rxf67 rxf68 rxf69 rxf70 rxf71 rxf72 rxf73 rxf74 rxf75 rxf76 rxv78 rxv79 rxv80 rxv81 rxv82 rxv83 rxv84 rxf85 rxf86 rxf87 rxf88 rxf89 rxf90 rxf91 rxf92 rxf93 rxf94 rxv96 rxv97 rxv98 rxv99 rxv100 rxv101 rxv102 rxf103 rxf104 rxf105 rxf106 rxf107 rxf108 rxf109 rxf110 rxf111 rxf112 rxf113 rxv114 rxv115 rxv116 rxv118 rxv119 rxv120 rxv122 rxv123 rxv124 rxv126 rxv127 rxv128 rxv130 rxv132 rxf133 rxv134 rxv136 rxf138 rxf140 rmv1 rmv2 rmv3 rmv4 rmv7 rmv11 rmf18 rmf19 rmf22 rme23 rme24 rme25 rme26 rme27 rme28 rme29 rme30 rme31 rme32 rme33 rme34 rme35 rme36 rme37 rme38 rme39 rme40 rme41 rme42 rme43 rme44 rme45 rme46 rme47 rme48 rme49 rme50 rme51 rme52 rme53 rme54 rme55 rme56 rme57 rmf58 rmf59 rmf60 rmf61 rmf62 rmf63 rmf64 rmf65 rmf66 rmf67 rmf68 rmf69 wI179 wI180 wI181 wI182 wI183 wI184 wI185 wI186 wI187 wI188 wI189 wI190 wI191 wI192 wI193 wI194 wI195 wI196 wI197 wI198 wI199
  try clear xv0
  try clear xf1
  try clear xv2
  try clear xv3
  try clear xv4
  try clear xv5
  try clear xv6
  try clear xv7
  try clear xv8
  try clear xv9
  try clear xv10
  try clear xv11
  try clear xv12
  try clear xv13
  try clear xv14
  try clear xv15
  try clear xf16
  try clear xf17
  try clear xf18
  try clear xf19
  try clear xf20
  try clear xf21
  try clear xf22
  try clear xf23
  try clear xf24
  try clear xf25
  try clear xv26
  try clear xv27
  try clear xv28
  try clear xv29
  try clear xv30
  try clear xv31
  try clear xv32
  try clear xv33
  try clear xf34
  try clear xf35
  try clear xf36
  try clear xf37
  try clear xf38
  try clear xf39
  try clear xf40
  try clear xf41
  try clear xf42
  try clear xf43
  try clear xv44
  try clear xv45
  try clear xv46
  try clear xf47
  try clear xf48
  try clear xv49
  try clear xv50
  try clear xv51
  try clear xf52
  try clear xf53
  try clear xv54
  try clear xv55
  try clear xv56
  try clear xf57
  try clear xf58
  try clear xv59
  try clear xv60
  try clear xv61
  try clear xv62
  try clear xv63
  try clear xv64
  try clear xv65
  try clear xv66
  try clear xf67
  try clear xf68
  try clear xf69
  try clear xf70
  try clear xf71
  try clear xf72
  try clear xf73
  try clear xf74
  try clear xf75
  try clear xf76
  try clear xv77
  try clear xv78
  try clear xv79
  try clear xv80
  try clear xv81
  try clear xv82
  try clear xv83
  try clear xv84
  try clear xf85
  try clear xf86
  try clear xf87
  try clear xf88
  try clear xf89
  try clear xf90
  try clear xf91
  try clear xf92
  try clear xf93
  try clear xf94
  try clear xv95
  try clear xv96
  try clear xv97
  try clear xv98
  try clear xv99
  try clear xv100
  try clear xv101
  try clear xv102
  try clear xf103
  try clear xf104
  try clear xf105
  try clear xf106
  try clear xf107
  try clear xf108
  try clear xf109
  try clear xf110
  try clear xf111
  try clear xf112
  try clear xf113
  try clear xv114
  try clear xv115
  try clear xv116
  try clear xf117
  try clear xv118
  try clear xv119
  try clear xv120
  try clear xf121
  try clear xv122
  try clear xv123
  try clear xv124
  try clear xf125
  try clear xv126
  try clear xv127
  try clear xv128
  try clear xf129
  try clear xv130
  try clear xf131
  try clear xv132
  try clear xf133
  try clear xv134
  try clear xv135
  try clear xv136
  try clear xv137
  try clear xf138
  try clear xf139
  try clear xf140
  try clear xf141
  try clear xf142
  try clear xf143
  try clear xf144
  try clear mv0
  try clear mv1
  try clear mv2
  try clear mv3
  try clear mv4
  try clear mv5
  try clear ml6
  try clear mv7
  try clear mv8
  try clear mv9
  try clear mv10
  try clear mv11
  try clear mv12
  try clear mv13
  try clear mv14
  try clear mv15
  try clear mv16
  try clear mv17
  try clear mf20
  try clear mf21
  try clear mf22
  try clear me23
  try clear me24
  try clear me25
  try clear me26
  try clear me27
  try clear me28
  try clear me29
  try clear me30
  try clear me31
  try clear me32
  try clear me33
  try clear me34
  try clear me35
  try clear me36
  try clear me37
  try clear me38
  try clear me39
  try clear me40
  try clear me41
  try clear me42
  try clear me43
  try clear me44
  try clear me45
  try clear me46
  try clear me47
  try clear me48
  try clear me49
  try clear me50
  try clear me51
  try clear me52
  try clear me53
  try clear me54
  try clear me55
  try clear me56
  try clear me57
  try clear mf58
  try clear mf59
  try clear mf60
  try clear mf61
  try clear mf62
  try clear mf63
  try clear mf64
  try clear mf65
  try clear mf66
  try clear mf67
  try clear mf68
  try clear mf69
  try clear mf70
  rcases hw with ⟨rfl, w31⟩ | ⟨rfl, w32⟩ | ⟨rfl, w33, w34⟩ | ⟨rfl, w35, w36⟩ | ⟨rfl, w37, w38, w39⟩ | ⟨rfl, w40, w41, w42, w43, w44, w45⟩ | ⟨rfl, w46, w47, w48, w49, w50, w51⟩ | ⟨rfl, w52, w53, w54, w55, w56⟩ | ⟨rfl, w57, w58, w59, w60⟩
  · rcases w16 with ⟨rfl, w61⟩ | ⟨rfl, w62⟩ | ⟨rfl, w63, w64⟩ | ⟨rfl, w65, w66⟩ | ⟨rfl, w67, w68, w69⟩ | ⟨rfl, w70, w71, w72, w73, w74, w75⟩ | ⟨rfl, w76, w77, w78, w79, w80, w81⟩ | ⟨rfl, w82, w83, w84, w85, w86⟩ | ⟨rfl, w87, w88, w89, w90⟩
    · refine lv_icmp_eq (tgt := 3152) hx hb dL_law_3147 (by decide) (fun c91 => ?_) (fun c91 => ?_)
      · exact hB ls hl
      · exact absurd rfl (mm_ne c91)
    · exact mm_noX w62 w31 (by decide)
    · exact mm_noX w63 w31 (by decide)
    · exact mm_noX w65 w31 (by decide)
    · exact mm_noX w67 w31 (by decide)
    · exact mm_noX w70 w31 (by decide)
    · exact mm_noX w76 w31 (by decide)
    · exact mm_noX w82 w31 (by decide)
    · exact mm_noX w87 w31 (by decide)
  · rcases w16 with ⟨rfl, w92⟩ | ⟨rfl, w93⟩ | ⟨rfl, w94, w95⟩ | ⟨rfl, w96, w97⟩ | ⟨rfl, w98, w99, w100⟩ | ⟨rfl, w101, w102, w103, w104, w105, w106⟩ | ⟨rfl, w107, w108, w109, w110, w111, w112⟩ | ⟨rfl, w113, w114, w115, w116, w117⟩ | ⟨rfl, w118, w119, w120, w121⟩
    · exact mm_noX w92 w32 (by decide)
    · refine lv_icmp_eq (tgt := 3152) hx hb dL_law_3147 (by decide) (fun c122 => ?_) (fun c122 => ?_)
      · exact hB ls hl
      · exact absurd rfl (mm_ne c122)
    · exact mm_noX w94 w32 (by decide)
    · exact mm_noX w96 w32 (by decide)
    · exact mm_noX w98 w32 (by decide)
    · exact mm_noX w101 w32 (by decide)
    · exact mm_noX w107 w32 (by decide)
    · exact mm_noX w113 w32 (by decide)
    · exact mm_noX w118 w32 (by decide)
  · rcases w16 with ⟨rfl, w123⟩ | ⟨rfl, w124⟩ | ⟨rfl, w125, w126⟩ | ⟨rfl, w127, w128⟩ | ⟨rfl, w129, w130, w131⟩ | ⟨rfl, w132, w133, w134, w135, w136, w137⟩ | ⟨rfl, w138, w139, w140, w141, w142, w143⟩ | ⟨rfl, w144, w145, w146, w147, w148⟩ | ⟨rfl, w149, w150, w151, w152⟩
    · exact mm_noX w123 w33 (by decide)
    · exact mm_noX w124 w33 (by decide)
    · refine lv_icmp_eq (tgt := 3152) hx hb dL_law_3147 (by decide) (fun c153 => ?_) (fun c153 => ?_)
      · exact hB ls hl
      · exact absurd rfl (mm_ne c153)
    · exact mm_noX w128 w34 (by decide)
    · exact mm_noX w130 w34 (by decide)
    · exact mm_noX w133 w34 (by decide)
    · exact mm_noX w139 w34 (by decide)
    · exact mm_noX w145 w34 (by decide)
    · exact mm_noX w150 w34 (by decide)
  · rcases w16 with ⟨rfl, w154⟩ | ⟨rfl, w155⟩ | ⟨rfl, w156, w157⟩ | ⟨rfl, w158, w159⟩ | ⟨rfl, w160, w161, w162⟩ | ⟨rfl, w163, w164, w165, w166, w167, w168⟩ | ⟨rfl, w169, w170, w171, w172, w173, w174⟩ | ⟨rfl, w175, w176, w177, w178, w179⟩ | ⟨rfl, w180, w181, w182, w183⟩
    · exact mm_noX w154 w35 (by decide)
    · exact mm_noX w155 w35 (by decide)
    · exact mm_noX w157 w36 (by decide)
    · refine lv_icmp_eq (tgt := 3152) hx hb dL_law_3147 (by decide) (fun c184 => ?_) (fun c184 => ?_)
      · exact hB ls hl
      · exact absurd rfl (mm_ne c184)
    · exact mm_noX w161 w36 (by decide)
    · exact mm_noX w164 w36 (by decide)
    · exact mm_noX w170 w36 (by decide)
    · exact mm_noX w176 w36 (by decide)
    · exact mm_noX w181 w36 (by decide)
  · replace w39 : mm_z0 mf18 p1 := w39
    rcases w16 with ⟨rfl, w185⟩ | ⟨rfl, w186⟩ | ⟨rfl, w187, w188⟩ | ⟨rfl, w189, w190⟩ | ⟨rfl, w191, w192, w193⟩ | ⟨rfl, w194, w195, w196, w197, w198, w199⟩ | ⟨rfl, w200, w201, w202, w203, w204, w205⟩ | ⟨rfl, w206, w207, w208, w209, w210⟩ | ⟨rfl, w211, w212, w213, w214⟩
    · exact mm_noX w185 w37 (by decide)
    · exact mm_noX w186 w37 (by decide)
    · exact mm_noX w188 w38 (by decide)
    · exact mm_noX w190 w38 (by decide)
    · refine lv_icmp_eq (tgt := 3152) hx hb dL_law_3147 (by decide) (fun c215 => ?_) (fun c215 => ?_)
      · exact hB ls hl
      · exact absurd rfl (mm_ne c215)
    · exact mm_y1_no (mm_r4 wI200 wI201 wI202 wI203 w194 (by decide)) w196 w39
    · exact mm_y1_no (mm_r4 wI200 wI201 wI202 wI203 w200 (by decide)) w202 w39
    · exact mm_y1_no (mm_r4 wI200 wI201 wI202 wI203 w206 (by decide)) w208 w39
    · exact mm_y1_no (mm_r4 wI200 wI201 wI202 wI203 w211 (by decide)) w213 w39
  · replace w42 : mm_z1 mf18 p1 := w42
    replace w43 : mm_z1 mf18 p3 := w43
    replace w44 : mm_weq mf18 p1 p3 := w44
    replace w45 : mm_mb mf19 p1 p3 p2 p4 p5 := w45
    rcases w16 with ⟨rfl, w216⟩ | ⟨rfl, w217⟩ | ⟨rfl, w218, w219⟩ | ⟨rfl, w220, w221⟩ | ⟨rfl, w222, w223, w224⟩ | ⟨rfl, w225, w226, w227, w228, w229, w230⟩ | ⟨rfl, w231, w232, w233, w234, w235, w236⟩ | ⟨rfl, w237, w238, w239, w240, w241⟩ | ⟨rfl, w242, w243, w244, w245⟩
    · exact mm_noX w216 w40 (by decide)
    · exact mm_noX w217 w40 (by decide)
    · exact mm_noX w219 w41 (by decide)
    · exact mm_noX w221 w41 (by decide)
    · exact mm_y0_no (mm_r4 wI200 wI201 wI202 wI203 w222 (by decide)) w224 w42
    · refine lv_icmp_eq (tgt := 3152) hx hb dL_law_3147 (by decide) (fun c246 => ?_) (fun c246 => ?_)
      · exact hB ls hl
      · exact absurd rfl (mm_ne c246)
    · exact mm_yg_no (mm_r4 wI200 wI201 wI202 wI203 w231 (by decide)) (mm_r4 wI200 wI201 wI202 wI203 w232 (by decide)) w236 w45
    · exact mm_yn_no (mm_r4 wI200 wI201 wI202 wI203 w237 (by decide)) (mm_r4 wI200 wI201 wI202 wI203 w238 (by decide)) w239 w240 w241 w44
    · exact mm_y0_no (mm_r4 wI200 wI201 wI202 wI203 w243 (by decide)) w245 w43
  · replace w48 : mm_z1 mf18 p1 := w48
    replace w49 : mm_z1 mf18 p3 := w49
    replace w50 : mm_weq mf18 p1 p3 := w50
    replace w51 : mm_mg mf19 p1 p3 p2 p4 p5 := w51
    rcases w16 with ⟨rfl, w247⟩ | ⟨rfl, w248⟩ | ⟨rfl, w249, w250⟩ | ⟨rfl, w251, w252⟩ | ⟨rfl, w253, w254, w255⟩ | ⟨rfl, w256, w257, w258, w259, w260, w261⟩ | ⟨rfl, w262, w263, w264, w265, w266, w267⟩ | ⟨rfl, w268, w269, w270, w271, w272⟩ | ⟨rfl, w273, w274, w275, w276⟩
    · exact mm_noX w247 w46 (by decide)
    · exact mm_noX w248 w46 (by decide)
    · exact mm_noX w250 w47 (by decide)
    · exact mm_noX w252 w47 (by decide)
    · exact mm_y0_no (mm_r4 wI200 wI201 wI202 wI203 w253 (by decide)) w255 w48
    · exact mm_yb_no (mm_r4 wI200 wI201 wI202 wI203 w256 (by decide)) (mm_r4 wI200 wI201 wI202 wI203 w257 (by decide)) w261 w51
    · refine lv_icmp_eq (tgt := 3152) hx hb dL_law_3147 (by decide) (fun c277 => ?_) (fun c277 => ?_)
      · exact hB ls hl
      · exact absurd rfl (mm_ne c277)
    · exact mm_yn_no (mm_r4 wI200 wI201 wI202 wI203 w268 (by decide)) (mm_r4 wI200 wI201 wI202 wI203 w269 (by decide)) w270 w271 w272 w50
    · exact mm_y0_no (mm_r4 wI200 wI201 wI202 wI203 w274 (by decide)) w276 w49
  · replace w54 : mm_z1 mf18 p1 := w54
    replace w55 : mm_z1 mf18 p3 := w55
    replace w56 : mm_wne mf18 p1 p3 := w56
    rcases w16 with ⟨rfl, w278⟩ | ⟨rfl, w279⟩ | ⟨rfl, w280, w281⟩ | ⟨rfl, w282, w283⟩ | ⟨rfl, w284, w285, w286⟩ | ⟨rfl, w287, w288, w289, w290, w291, w292⟩ | ⟨rfl, w293, w294, w295, w296, w297, w298⟩ | ⟨rfl, w299, w300, w301, w302, w303⟩ | ⟨rfl, w304, w305, w306, w307⟩
    · exact mm_noX w278 w52 (by decide)
    · exact mm_noX w279 w52 (by decide)
    · exact mm_noX w281 w53 (by decide)
    · exact mm_noX w283 w53 (by decide)
    · exact mm_y0_no (mm_r4 wI200 wI201 wI202 wI203 w284 (by decide)) w286 w54
    · exact mm_ye_no (mm_r4 wI200 wI201 wI202 wI203 w287 (by decide)) (mm_r4 wI200 wI201 wI202 wI203 w288 (by decide)) w289 w290 w291 w56
    · exact mm_ye_no (mm_r4 wI200 wI201 wI202 wI203 w293 (by decide)) (mm_r4 wI200 wI201 wI202 wI203 w294 (by decide)) w295 w296 w297 w56
    · refine lv_icmp_eq (tgt := 3152) hx hb dL_law_3147 (by decide) (fun c308 => ?_) (fun c308 => ?_)
      · exact hB ls hl
      · exact absurd rfl (mm_ne c308)
    · exact mm_y0_no (mm_r4 wI200 wI201 wI202 wI203 w305 (by decide)) w307 w55
  · replace w59 : mm_z1 mf18 p1 := w59
    replace w60 : mm_z0 mf18 p3 := w60
    rcases w16 with ⟨rfl, w309⟩ | ⟨rfl, w310⟩ | ⟨rfl, w311, w312⟩ | ⟨rfl, w313, w314⟩ | ⟨rfl, w315, w316, w317⟩ | ⟨rfl, w318, w319, w320, w321, w322, w323⟩ | ⟨rfl, w324, w325, w326, w327, w328, w329⟩ | ⟨rfl, w330, w331, w332, w333, w334⟩ | ⟨rfl, w335, w336, w337, w338⟩
    · exact mm_noX w309 w57 (by decide)
    · exact mm_noX w310 w57 (by decide)
    · exact mm_noX w312 w58 (by decide)
    · exact mm_noX w314 w58 (by decide)
    · exact mm_y0_no (mm_r4 wI200 wI201 wI202 wI203 w315 (by decide)) w317 w59
    · exact mm_y1_no (mm_r4 wI200 wI201 wI202 wI203 w319 (by decide)) w321 w60
    · exact mm_y1_no (mm_r4 wI200 wI201 wI202 wI203 w325 (by decide)) w327 w60
    · exact mm_y1_no (mm_r4 wI200 wI201 wI202 wI203 w331 (by decide)) w333 w60
    · refine lv_icmp_eq (tgt := 3152) hx hb dL_law_3147 (by decide) (fun c339 => ?_) (fun c339 => ?_)
      · exact hB ls hl
      · exact absurd rfl (mm_ne c339)

