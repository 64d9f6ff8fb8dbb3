theorem hd_X11_back : yX11_back.cls = RX11 ∧ yX11_back.cls ≠ "java/lang/invoke/MethodHandle" ∧ yX11_back.cls ≠ "java/lang/invoke/VarHandle" ∧ (parseMethodDescriptor yX11_back.desc).map (fun d => d.parameters.length) = some 1 := by decide +kernel
theorem hd_X11_row : yX11_row.cls = RX11 ∧ yX11_row.cls ≠ "java/lang/invoke/MethodHandle" ∧ yX11_row.cls ≠ "java/lang/invoke/VarHandle" ∧ (parseMethodDescriptor yX11_row.desc).map (fun d => d.parameters.length) = some 3 := by decide +kernel
theorem hd_X11_write : yX11_write.cls = RX11 ∧ yX11_write.cls ≠ "java/lang/invoke/MethodHandle" ∧ yX11_write.cls ≠ "java/lang/invoke/VarHandle" ∧ (parseMethodDescriptor yX11_write.desc).map (fun d => d.parameters.length) = some 3 := by decide +kernel
theorem hd_X12_back : yX12_back.cls = RX12 ∧ yX12_back.cls ≠ "java/lang/invoke/MethodHandle" ∧ yX12_back.cls ≠ "java/lang/invoke/VarHandle" ∧ (parseMethodDescriptor yX12_back.desc).map (fun d => d.parameters.length) = some 1 := by decide +kernel
theorem hd_X12_row : yX12_row.cls = RX12 ∧ yX12_row.cls ≠ "java/lang/invoke/MethodHandle" ∧ yX12_row.cls ≠ "java/lang/invoke/VarHandle" ∧ (parseMethodDescriptor yX12_row.desc).map (fun d => d.parameters.length) = some 3 := by decide +kernel
theorem hd_X12_write : yX12_write.cls = RX12 ∧ yX12_write.cls ≠ "java/lang/invoke/MethodHandle" ∧ yX12_write.cls ≠ "java/lang/invoke/VarHandle" ∧ (parseMethodDescriptor yX12_write.desc).map (fun d => d.parameters.length) = some 3 := by decide +kernel
set_option maxHeartbeats 40000000 in
set_option maxRecDepth 100000 in
theorem lc_68 {p : Program} {e : Env} {s : State} {m : MethodId} {below : List Frame} {meth : Method} {c : Code} {b L : Nat} {xs : Nat → Int32} {G : va_G} {cy : Nat → ClassId} {qx qm : Nat} {ux um : Nat → Nat} {A : Nat → Prop} (l : Launch) (hx : p.tables.exec = Jvm.exec) (hb : c.code = code) (hr : meth.sig.returnType = ret) (hlocks : meth.locks = false) (hml : c.maxLocals = 4) (hown : s.vm.findClass R_law = some m.cls) (hts : ∀ w ∈ lw_x :: wsL_law, w.before #[Value.ref b] s = true) (hX : va_X b L xs s s.heap) (hbl : b < s.heap.size) (hAe : A = fun q => s.heap.size ≤ q) (hK : mm_K G cy s) (hZ : mm_Z cy A s s.heap) {H : Heap} {locs : List Loc} {ls : Array Slot} (hS : va_S A s.heap H locs) {i : Int32} (ri : mm_rg i 0 378) (hiL : i.toInt + 6 ≤ (L : Int)) (ih : ∀ i6 : Int32, i6 = i + 6 → lw_H p l e s m below meth c b G cy A qx qm ux um i6) {xv0 : Int32} {xf1 : Nat → Int32} {xv2 xv3 xv4 xv5 xv6 xv7 xv8 xv9 xv10 xv11 xv12 xv13 xv14 xv15 : Int32} {xf16 xf17 xf18 xf19 xf20 xf21 xf22 xf23 xf24 xf25 : Nat → Int32} {xv26 xv27 xv28 xv29 xv30 xv31 xv32 xv33 : Int32} {xf34 xf35 xf36 xf37 xf38 xf39 xf40 xf41 xf42 xf43 : Nat → Int32} {xv44 xv45 xv46 : Int32} {xf47 xf48 : Nat → Int32} {xv49 xv50 xv51 : Int32} {xf52 xf53 : Nat → Int32} {xv54 xv55 xv56 : Int32} {xf57 xf58 : Nat → Int32} {xv59 xv60 xv61 xv62 xv63 xv64 xv65 xv66 : Int32} {xf67 xf68 xf69 xf70 xf71 xf72 xf73 xf74 xf75 xf76 : Nat → Int32} {xv77 xv78 xv79 xv80 xv81 xv82 xv83 xv84 : Int32} {xf85 xf86 xf87 xf88 xf89 xf90 xf91 xf92 xf93 xf94 : Nat → Int32} {xv95 xv96 xv97 xv98 xv99 xv100 xv101 xv102 : Int32} {xf103 xf104 xf105 xf106 xf107 xf108 xf109 xf110 xf111 xf112 xf113 : Nat → Int32} {xv114 xv115 xv116 : Int32} {xf117 : Nat → Int64} {xv118 xv119 xv120 : Int32} {xf121 : Nat → Int64} {xv122 xv123 xv124 : Int32} {xf125 : Nat → Int64} {xv126 xv127 xv128 : Int32} {xf129 : Nat → Int64} {xv130 : Int32} {xf131 : Nat → Int32} {xv132 : Int32} {xf133 : Nat → Int32} {xv134 xv135 xv136 xv137 : Int32} {xf138 xf139 xf140 xf141 xf142 xf143 : Nat → Int32} {xf144 : Nat → Int64} {mv0 mv1 mv2 mv3 mv4 mv5 : Int32} {ml6 : Int64} {mv7 mv8 mv9 mv10 mv11 mv12 mv13 mv14 mv15 mv16 mv17 : Int32} {mf18 mf19 : Nat → Int32} {mf20 mf21 : Nat → Int64} {mf22 : Nat → Int32} {me23 me24 me25 me26 me27 me28 me29 me30 me31 me32 me33 me34 me35 me36 me37 me38 me39 me40 me41 me42 me43 me44 me45 me46 me47 me48 me49 me50 me51 me52 me53 me54 me55 me56 me57 : Int32} {mf58 mf59 mf60 mf61 mf62 mf63 mf64 mf65 mf66 mf67 mf68 mf69 mf70 : Nat → Int32} (rxv0 : mm_rg xv0 0 600) (rxf1 : mm_ar xf1 (-128) 127) (rxv2 : mm_rg xv2 0 3) (rxv4 : mm_rg xv4 0 5) (rxv5 : mm_rg xv5 0 600) (rxv6 : mm_rg xv6 0 600) (rxv9 : mm_rg xv9 0 10) (rxv10 : mm_rg xv10 0 99) (rxv11 : mm_rg xv11 0 99) (rxv12 : mm_rg xv12 0 9) (rxv13 : mm_rg xv13 0 3) (rxv14 : mm_rg xv14 0 6) (rxv15 : mm_rg xv15 0 30) (rxf16 : mm_ar xf16 (-1) 4) (rxf17 : mm_ar xf17 0 99) (rxf18 : mm_ar xf18 0 7) (rxf19 : mm_ar xf19 0 9) (rxf20 : mm_ar xf20 0 8) (rxf21 : mm_ar xf21 0 9) (rxf22 : mm_ar xf22 0 9) (rxf23 : mm_ar xf23 (-1) 2) (rxf24 : mm_ar xf24 0 99) (rxf25 : mm_ar xf25 0 9) (rxv27 : mm_rg xv27 0 10) (rxv28 : mm_rg xv28 0 99) (rxv29 : mm_rg xv29 0 99) (rxv30 : mm_rg xv30 0 9) (rxv31 : mm_rg xv31 0 3) (rxv32 : mm_rg xv32 0 6) (rxv33 : mm_rg xv33 0 30) (rxf34 : mm_ar xf34 (-1) 4) (rxf35 : mm_ar xf35 0 99) (rxf36 : mm_ar xf36 0 7) (rxf37 : mm_ar xf37 0 9) (rxf38 : mm_ar xf38 0 8) (rxf39 : mm_ar xf39 0 9) (rxf40 : mm_ar xf40 0 9) (rxf41 : mm_ar xf41 (-1) 2) (rxf42 : mm_ar xf42 0 99) (rxf43 : mm_ar xf43 0 9) (rxv44 : mm_rg xv44 1 10) (rxv46 : mm_rg xv46 (-2147483648) 210) (rxf47 : mm_ar xf47 0 9) (rxf48 : mm_ar xf48 0 9) (rxv49 : mm_rg xv49 1 10) (rxv51 : mm_rg xv51 (-2147483648) 210) (rxf52 : mm_ar xf52 0 9) (rxf53 : mm_ar xf53 0 9) (rxv54 : mm_rg xv54 1 10) (rxv56 : mm_rg xv56 (-2147483648) 210) (rxf57 : mm_ar xf57 0 9) (rxf58 : mm_ar xf58 0 9) (rxv60 : mm_rg xv60 0 10) (rxv61 : mm_rg xv61 0 99) (rxv62 : mm_rg xv62 0 99) (rxv63 : mm_rg xv63 0 9) (rxv64 : mm_rg xv64 0 3) (rxv65 : mm_rg xv65 0 6) (rxv66 : mm_rg xv66 0 30) (rxf67 : mm_ar xf67 (-1) 4) (rxf68 : mm_ar xf68 0 99) (rxf69 : mm_ar xf69 0 7) (rxf70 : mm_ar xf70 0 9) (rxf71 : mm_ar xf71 0 8) (rxf72 : mm_ar xf72 0 9) (rxf73 : mm_ar xf73 0 9) (rxf74 : mm_ar xf74 (-1) 2) (rxf75 : mm_ar xf75 0 99) (rxf76 : mm_ar xf76 0 9) (rxv78 : mm_rg xv78 0 10) (rxv79 : mm_rg xv79 0 99) (rxv80 : mm_rg xv80 0 99) (rxv81 : mm_rg xv81 0 9) (rxv82 : mm_rg xv82 0 3) (rxv83 : mm_rg xv83 0 6) (rxv84 : mm_rg xv84 0 30) (rxf85 : mm_ar xf85 (-1) 4) (rxf86 : mm_ar xf86 0 99) (rxf87 : mm_ar xf87 0 7) (rxf88 : mm_ar xf88 0 9) (rxf89 : mm_ar xf89 0 8) (rxf90 : mm_ar xf90 0 9) (rxf91 : mm_ar xf91 0 9) (rxf92 : mm_ar xf92 (-1) 2) (rxf93 : mm_ar xf93 0 99) (rxf94 : mm_ar xf94 0 9) (rxv96 : mm_rg xv96 0 10) (rxv97 : mm_rg xv97 0 99) (rxv98 : mm_rg xv98 0 99) (rxv99 : mm_rg xv99 0 9) (rxv100 : mm_rg xv100 0 3) (rxv101 : mm_rg xv101 0 6) (rxv102 : mm_rg xv102 0 30) (rxf103 : mm_ar xf103 (-1) 4) (rxf104 : mm_ar xf104 0 99) (rxf105 : mm_ar xf105 0 7) (rxf106 : mm_ar xf106 0 9) (rxf107 : mm_ar xf107 0 8) (rxf108 : mm_ar xf108 0 9) (rxf109 : mm_ar xf109 0 9) (rxf110 : mm_ar xf110 (-1) 2) (rxf111 : mm_ar xf111 0 99) (rxf112 : mm_ar xf112 0 9) (rxf113 : mm_ar xf113 0 1) (rxv114 : mm_rg xv114 0 1) (rxv115 : mm_rg xv115 0 3) (rxv116 : mm_rg xv116 0 60) (rxv118 : mm_rg xv118 0 1) (rxv119 : mm_rg xv119 0 3) (rxv120 : mm_rg xv120 0 60) (rxv122 : mm_rg xv122 0 1) (rxv123 : mm_rg xv123 0 3) (rxv124 : mm_rg xv124 0 60) (rxv126 : mm_rg xv126 0 1) (rxv127 : mm_rg xv127 0 3) (rxv128 : mm_rg xv128 0 60) (rxv130 : mm_rg xv130 0 210) (rxv132 : mm_rg xv132 0 210) (rxf133 : mm_ar xf133 0 209) (rxv134 : mm_rg xv134 0 7) (rxv136 : mm_rg xv136 0 4) (rxf138 : mm_ar xf138 0 9) (rxf140 : mm_ar xf140 0 9) (rmv1 : mm_rg mv1 0 600) (rmv2 : mm_rg mv2 0 600) (rmv3 : mm_rg mv3 0 4) (rmv4 : mm_rg mv4 0 600) (rmv7 : mm_rg mv7 0 3) (rmv11 : mm_rg mv11 0 8) (rmf18 : mm_ar mf18 (-1) 3) (rmf19 : mm_ar mf19 0 60) (rmf22 : mm_ar mf22 (-128) 127) (rme23 : mm_rg me23 0 601) (rme24 : mm_rg me24 0 601) (rme25 : mm_rg me25 0 601) (rme26 : mm_rg me26 0 601) (rme27 : mm_rg me27 0 601) (rme28 : mm_rg me28 0 10) (rme29 : mm_rg me29 0 99) (rme30 : mm_rg me30 0 9) (rme31 : mm_rg me31 0 3) (rme32 : mm_rg me32 0 6) (rme33 : mm_rg me33 0 30) (rme34 : mm_rg me34 0 10) (rme35 : mm_rg me35 0 99) (rme36 : mm_rg me36 0 9) (rme37 : mm_rg me37 0 3) (rme38 : mm_rg me38 0 6) (rme39 : mm_rg me39 0 30) (rme40 : mm_rg me40 0 10) (rme41 : mm_rg me41 0 99) (rme42 : mm_rg me42 0 9) (rme43 : mm_rg me43 0 3) (rme44 : mm_rg me44 0 6) (rme45 : mm_rg me45 0 30) (rme46 : mm_rg me46 0 10) (rme47 : mm_rg me47 0 99) (rme48 : mm_rg me48 0 9) (rme49 : mm_rg me49 0 3) (rme50 : mm_rg me50 0 6) (rme51 : mm_rg me51 0 30) (rme52 : mm_rg me52 0 10) (rme53 : mm_rg me53 0 99) (rme54 : mm_rg me54 0 9) (rme55 : mm_rg me55 0 3) (rme56 : mm_rg me56 0 6) (rme57 : mm_rg me57 0 30) (rmf58 : mm_ar mf58 0 99) (rmf59 : mm_ar mf59 0 7) (rmf60 : mm_ar mf60 0 9) (rmf61 : mm_ar mf61 0 8) (rmf62 : mm_ar mf62 0 9) (rmf63 : mm_ar mf63 (-1) 99) (rmf64 : mm_ar mf64 0 1) (rmf65 : mm_ar mf65 0 9) (rmf66 : mm_ar mf66 0 210) (rmf67 : mm_ar mf67 0 210) (rmf68 : mm_ar mf68 0 9) (rmf69 : mm_ar mf69 0 1) (wI179 : mm_act xf23 xf24) (wI180 : mm_act xf41 xf42) (wI181 : mm_act xf74 xf75) (wI182 : mm_act xf92 xf93) (wI183 : mm_act xf110 xf111) (wI184 : mm_rls mf59 mf60 0 me30 me31) (wI185 : mm_txs mf61 mf62 0 me30 me32) (wI186 : mm_acs mf63 0 me30 me31 me33) (wI187 : mm_tl me23 me31 me32) (wI188 : mm_rls mf59 mf60 1 me36 me37) (wI189 : mm_txs mf61 mf62 1 me36 me38) (wI190 : mm_acs mf63 1 me36 me37 me39) (wI191 : mm_tl me24 me37 me38) (wI192 : mm_rls mf59 mf60 2 me42 me43) (wI193 : mm_txs mf61 mf62 2 me42 me44) (wI194 : mm_acs mf63 2 me42 me43 me45) (wI195 : mm_tl me25 me43 me44) (wI196 : mm_rls mf59 mf60 3 me48 me49) (wI197 : mm_txs mf61 mf62 3 me48 me50) (wI198 : mm_acs mf63 3 me48 me49 me51) (wI199 : mm_tl me26 me49 me50) (wI200 : mm_rj xv114 xv115 xv116 mf18 mf19 0) (wI201 : mm_rj xv118 xv119 xv120 mf18 mf19 1) (wI202 : mm_rj xv122 xv123 xv124 mf18 mf19 2) (wI203 : mm_rj xv126 xv127 xv128 mf18 mf19 3) (hP : va_P G vwCl (lw_W qx qm ux um cy xv0 xf1 xv2 xv3 xv4 xv5 xv6 xv7 xv8 xv9 xv10 xv11 xv12 xv13 xv14 xv15 xf16 xf17 xf18 xf19 xf20 xf21 xf22 xf23 xf24 xf25 xv26 xv27 xv28 xv29 xv30 xv31 xv32 xv33 xf34 xf35 xf36 xf37 xf38 xf39 xf40 xf41 xf42 xf43 xv44 xv45 xv46 xf47 xf48 xv49 xv50 xv51 xf52 xf53 xv54 xv55 xv56 xf57 xf58 xv59 xv60 xv61 xv62 xv63 xv64 xv65 xv66 xf67 xf68 xf69 xf70 xf71 xf72 xf73 xf74 xf75 xf76 xv77 xv78 xv79 xv80 xv81 xv82 xv83 xv84 xf85 xf86 xf87 xf88 xf89 xf90 xf91 xf92 xf93 xf94 xv95 xv96 xv97 xv98 xv99 xv100 xv101 xv102 xf103 xf104 xf105 xf106 xf107 xf108 xf109 xf110 xf111 xf112 xf113 xv114 xv115 xv116 xf117 xv118 xv119 xv120 xf121 xv122 xv123 xv124 xf125 xv126 xv127 xv128 xf129 xv130 xf131 xv132 xf133 xv134 xv135 xv136 xv137 xf138 xf139 xf140 xf141 xf142 xf143 xf144 mv0 mv1 mv2 mv3 mv4 mv5 ml6 mv7 mv8 mv9 mv10 mv11 mv12 mv13 mv14 mv15 mv16 mv17 mf18 mf19 mf20 mf21 mf22 me23 me24 me25 me26 me27 me28 me29 me30 me31 me32 me33 me34 me35 me36 me37 me38 me39 me40 me41 me42 me43 me44 me45 me46 me47 me48 me49 me50 me51 me52 me53 me54 me55 me56 me57 mf58 mf59 mf60 mf61 mf62 mf63 mf64 mf65 mf66 mf67 mf68 mf69 mf70) H) (hD : va_D A (lw_W qx qm ux um cy xv0 xf1 xv2 xv3 xv4 xv5 xv6 xv7 xv8 xv9 xv10 xv11 xv12 xv13 xv14 xv15 xf16 xf17 xf18 xf19 xf20 xf21 xf22 xf23 xf24 xf25 xv26 xv27 xv28 xv29 xv30 xv31 xv32 xv33 xf34 xf35 xf36 xf37 xf38 xf39 xf40 xf41 xf42 xf43 xv44 xv45 xv46 xf47 xf48 xv49 xv50 xv51 xf52 xf53 xv54 xv55 xv56 xf57 xf58 xv59 xv60 xv61 xv62 xv63 xv64 xv65 xv66 xf67 xf68 xf69 xf70 xf71 xf72 xf73 xf74 xf75 xf76 xv77 xv78 xv79 xv80 xv81 xv82 xv83 xv84 xf85 xf86 xf87 xf88 xf89 xf90 xf91 xf92 xf93 xf94 xv95 xv96 xv97 xv98 xv99 xv100 xv101 xv102 xf103 xf104 xf105 xf106 xf107 xf108 xf109 xf110 xf111 xf112 xf113 xv114 xv115 xv116 xf117 xv118 xv119 xv120 xf121 xv122 xv123 xv124 xf125 xv126 xv127 xv128 xf129 xv130 xf131 xv132 xf133 xv134 xv135 xv136 xv137 xf138 xf139 xf140 xf141 xf142 xf143 xf144 mv0 mv1 mv2 mv3 mv4 mv5 ml6 mv7 mv8 mv9 mv10 mv11 mv12 mv13 mv14 mv15 mv16 mv17 mf18 mf19 mf20 mf21 mf22 me23 me24 me25 me26 me27 me28 me29 me30 me31 me32 me33 me34 me35 me36 me37 me38 me39 me40 me41 me42 me43 me44 me45 me46 me47 me48 me49 me50 me51 me52 me53 me54 me55 me56 me57 mf58 mf59 mf60 mf61 mf62 mf63 mf64 mf65 mf66 mf67 mf68 mf69 mf70)) (hl : lv_has ls 4 [(3, .int i), (2, .ref qm), (1, .ref qx), (0, .ref b)]) : W p l e room_1 s m #[Value.ref b] below meth c H locs 116 20302 (lw_Z below #[Value.ref b] s) (F0 m 2950 ls []) := by
  have hA : ∀ q, s.heap.size ≤ q → A q := by rw [hAe]; exact fun _ h => h
  have hbA : ¬ A b := by rw [hAe]; exact Nat.not_le.mpr hbl
  have hRf : room_1.frames = 2048 := rfl
  have hRl : room_1.locals = 84000 := rfl
  have hRc : room_1.cells = 600000 := rfl
  have hRs : room_1.slots = 7302250 := rfl
  obtain ⟨p1, ep1⟩ : ∃ z : Int32, z = xs (i + 1).toNatClampNeg := ⟨_, rfl⟩
  obtain ⟨p2, ep2⟩ : ∃ z : Int32, z = xs (i + 2).toNatClampNeg := ⟨_, rfl⟩
  obtain ⟨p3, ep3⟩ : ∃ z : Int32, z = xs (i + 3).toNatClampNeg := ⟨_, rfl⟩
  obtain ⟨p4, ep4⟩ : ∃ z : Int32, z = xs (i + 4).toNatClampNeg := ⟨_, rfl⟩
  obtain ⟨p5, ep5⟩ : ∃ z : Int32, z = xs (i + 5).toNatClampNeg := ⟨_, rfl⟩
  refine lv_aload_n hx hb dL_law_2950 rfl (lv_at hl 2 rfl) ?_
  refine lv_aload_n hx hb dL_law_2951 rfl (lv_at hl 3 rfl) ?_
  refine lv_iload_n hx hb dL_law_2952 rfl (lv_at hl 0 rfl) ?_
  refine lv_iconst (v := 1) hx hb dL_law_2953 (by decide) ?_
  refine lv_iadd hx hb dL_law_2954 ?_
  refine lv_topi (fun v1 ev1 => ?_)
  have rv1 : mm_rg v1 1 379 := mm_add ev1 ri mm_k1 (by decide) (by decide)
  have tv1 := mm_addEc ev1 ri mm_k1 (by decide) (k := 1) (by decide)
  refine va_sld hx hb hX hbl hbA hS (mm_inL tv1 ri hiL (by decide)) dL_law_2955 ?_
  refine lv_topi (fun v2 ev2 => ?_)
  obtain rfl : p1 = v2 := ep1.trans (by rw [ev2, ev1])
  refine mm_fini (va_runV (As := [.int p1]) (rest := []) ⟨hx, hb, hml, hown, hts⟩ (K535_X11_back l G cy H.size qx p1 (ux 0) (ux 2) (ux 14) (ux 36) (ux 70) (ux 71) (ux 80) (ux 82) (ux 84) (ux 89) (ux 92) (ux 15) (ux 26) xv26 xv27 xv28 xv29 xv30 xv31 xv32 xv33 (ux 16) (ux 17) (ux 18) (ux 19) (ux 20) (ux 21) (ux 22) (ux 23) (ux 24) (ux 25) xf34 xf35 xf36 xf37 xf38 xf39 xf40 xf41 xf42 xf43 (ux 27) (ux 30) (ux 33) (ux 28) (ux 29) xv44 xv45 xv46 xf47 xf48 (ux 31) (ux 32) xv49 xv50 xv51 xf52 xf53 (ux 34) (ux 35) xv54 xv55 xv56 xf57 xf58 (ux 37) (ux 48) (ux 59) xv59 xv60 xv61 xv62 xv63 xv64 xv65 xv66 (ux 38) (ux 39) (ux 40) (ux 41) (ux 42) (ux 43) (ux 44) (ux 45) (ux 46) (ux 47) xf67 xf68 xf69 xf70 xf71 xf72 xf73 xf74 xf75 xf76 xv77 xv78 xv79 xv80 xv81 xv82 xv83 xv84 (ux 49) (ux 50) (ux 51) (ux 52) (ux 53) (ux 54) (ux 55) (ux 56) (ux 57) (ux 58) xf85 xf86 xf87 xf88 xf89 xf90 xf91 xf92 xf93 xf94 xv95 xv96 xv97 xv98 xv99 xv100 xv101 xv102 (ux 60) (ux 61) (ux 62) (ux 63) (ux 64) (ux 65) (ux 66) (ux 67) (ux 68) (ux 69) xf103 xf104 xf105 xf106 xf107 xf108 xf109 xf110 xf111 xf112 xf113 rxv27 rxv28 rxv29 rxv30 rxv31 rxv32 rxv33 rxf34 rxf35 rxf36 rxf37 rxf38 rxf39 rxf40 rxf41 rxf42 rxf43 rxv44 rxv46 rxf47 rxf48 rxv49 rxv51 rxf52 rxf53 rxv54 rxv56 rxf57 rxf58 rxv60 rxv61 rxv62 rxv63 rxv64 rxv65 rxv66 rxf67 rxf68 rxf69 rxf70 rxf71 rxf72 rxf73 rxf74 rxf75 rxf76 rxv78 rxv79 rxv80 rxv81 rxv82 rxv83 rxv84 rxf85 rxf86 rxf87 rxf88 rxf89 rxf90 rxf91 rxf92 rxf93 rxf94 rxv96 rxv97 rxv98 rxv99 rxv100 rxv101 rxv102 rxf103 rxf104 rxf105 rxf106 rxf107 rxf108 rxf109 rxf110 rxf111 rxf112 rxf113 wI180 wI181 wI182 wI183) (cwV 1 hts (mm_gV mm_w1665 mm_w1666 mm_w1667 mm_w2 mm_w1668) rfl rfl rfl hd_X11_back ⟨by rw [hRf]; exact Nat.le_of_ble_eq_true rfl, by rw [hRl]; exact Nat.le_of_ble_eq_true rfl⟩) (mm_preV hK hZ hS hA hP hD [0, 15, 16, 17, 18, 19, 20, 21, 22, 23, 24, 25, 26, 27, 28, 29, 30, 31, 32, 33, 34, 35, 36, 37, 38, 39, 40, 41, 42, 43, 44, 45, 46, 47, 48, 49, 50, 51, 52, 53, 54, 55, 56, 57, 58, 59, 60, 61, 62, 63, 64, 65, 66, 67, 68, 69, 70, 71] rfl rfl 0 rfl rfl rfl) rfl rfl hl.1 rfl (lv_room (Nat.le_of_ble_eq_true rfl)) dL_law_2956 ⟨by rw [hRc]; exact Nat.le_of_ble_eq_true rfl, by rw [hRs]; exact Nat.le_of_ble_eq_true rfl⟩) hP hD hS hA (fun u : Int32 × Int32 × Int32 × Int32 × Int32 × Int32 × Int32 × Int32 × (Nat → Int32) × (Nat → Int32) × (Nat → Int32) × (Nat → Int32) × (Nat → Int32) × (Nat → Int32) × (Nat → Int32) × (Nat → Int32) × (Nat → Int32) × (Nat → Int32) × Int32 × Int32 × Int32 × (Nat → Int32) × (Nat → Int32) × Int32 × Int32 × Int32 × (Nat → Int32) × (Nat → Int32) × Int32 × Int32 × Int32 × (Nat → Int32) × (Nat → Int32) => (lw_W qx qm ux um cy xv0 xf1 xv2 xv3 xv4 xv5 xv6 xv7 xv8 xv9 xv10 xv11 xv12 xv13 xv14 xv15 xf16 xf17 xf18 xf19 xf20 xf21 xf22 xf23 xf24 xf25 u.1 u.2.1 u.2.2.1 u.2.2.2.1 u.2.2.2.2.1 u.2.2.2.2.2.1 u.2.2.2.2.2.2.1 u.2.2.2.2.2.2.2.1 u.2.2.2.2.2.2.2.2.1 u.2.2.2.2.2.2.2.2.2.1 u.2.2.2.2.2.2.2.2.2.2.1 u.2.2.2.2.2.2.2.2.2.2.2.1 u.2.2.2.2.2.2.2.2.2.2.2.2.1 u.2.2.2.2.2.2.2.2.2.2.2.2.2.1 u.2.2.2.2.2.2.2.2.2.2.2.2.2.2.1 u.2.2.2.2.2.2.2.2.2.2.2.2.2.2.2.1 u.2.2.2.2.2.2.2.2.2.2.2.2.2.2.2.2.1 u.2.2.2.2.2.2.2.2.2.2.2.2.2.2.2.2.2.1 u.2.2.2.2.2.2.2.2.2.2.2.2.2.2.2.2.2.2.1 u.2.2.2.2.2.2.2.2.2.2.2.2.2.2.2.2.2.2.2.1 u.2.2.2.2.2.2.2.2.2.2.2.2.2.2.2.2.2.2.2.2.1 u.2.2.2.2.2.2.2.2.2.2.2.2.2.2.2.2.2.2.2.2.2.1 u.2.2.2.2.2.2.2.2.2.2.2.2.2.2.2.2.2.2.2.2.2.2.1 u.2.2.2.2.2.2.2.2.2.2.2.2.2.2.2.2.2.2.2.2.2.2.2.1 u.2.2.2.2.2.2.2.2.2.2.2.2.2.2.2.2.2.2.2.2.2.2.2.2.1 u.2.2.2.2.2.2.2.2.2.2.2.2.2.2.2.2.2.2.2.2.2.2.2.2.2.1 u.2.2.2.2.2.2.2.2.2.2.2.2.2.2.2.2.2.2.2.2.2.2.2.2.2.2.1 u.2.2.2.2.2.2.2.2.2.2.2.2.2.2.2.2.2.2.2.2.2.2.2.2.2.2.2.1 u.2.2.2.2.2.2.2.2.2.2.2.2.2.2.2.2.2.2.2.2.2.2.2.2.2.2.2.2.1 u.2.2.2.2.2.2.2.2.2.2.2.2.2.2.2.2.2.2.2.2.2.2.2.2.2.2.2.2.2.1 u.2.2.2.2.2.2.2.2.2.2.2.2.2.2.2.2.2.2.2.2.2.2.2.2.2.2.2.2.2.2.1 u.2.2.2.2.2.2.2.2.2.2.2.2.2.2.2.2.2.2.2.2.2.2.2.2.2.2.2.2.2.2.2.1 u.2.2.2.2.2.2.2.2.2.2.2.2.2.2.2.2.2.2.2.2.2.2.2.2.2.2.2.2.2.2.2.2 xv59 xv60 xv61 xv62 xv63 xv64 xv65 xv66 xf67 xf68 xf69 xf70 xf71 xf72 xf73 xf74 xf75 xf76 xv77 xv78 xv79 xv80 xv81 xv82 xv83 xv84 xf85 xf86 xf87 xf88 xf89 xf90 xf91 xf92 xf93 xf94 xv95 xv96 xv97 xv98 xv99 xv100 xv101 xv102 xf103 xf104 xf105 xf106 xf107 xf108 xf109 xf110 xf111 xf112 xf113 xv114 xv115 xv116 xf117 xv118 xv119 xv120 xf121 xv122 xv123 xv124 xf125 xv126 xv127 xv128 xf129 xv130 xf131 xv132 xf133 xv134 xv135 xv136 xv137 xf138 xf139 xf140 xf141 xf142 xf143 xf144 mv0 mv1 mv2 mv3 mv4 mv5 ml6 mv7 mv8 mv9 mv10 mv11 mv12 mv13 mv14 mv15 mv16 mv17 mf18 mf19 mf20 mf21 mf22 me23 me24 me25 me26 me27 me28 me29 me30 me31 me32 me33 me34 me35 me36 me37 me38 me39 me40 me41 me42 me43 me44 me45 me46 me47 me48 me49 me50 me51 me52 me53 me54 me55 me56 me57 mf58 mf59 mf60 mf61 mf62 mf63 mf64 mf65 mf66 mf67 mf68 mf69 mf70)) [0, 15, 16, 17, 18, 19, 20, 21, 22, 23, 24, 25, 26, 27, 28, 29, 30, 31, 32, 33, 34, 35, 36, 37, 38, 39, 40, 41, 42, 43, 44, 45, 46, 47, 48, 49, 50, 51, 52, 53, 54, 55, 56, 57, 58, 59, 60, 61, 62, 63, 64, 65, 66, 67, 68, 69, 70, 71] [1, 2, 3, 4, 5, 6, 7, 8, 9, 10, 11, 12, 13, 14, 72, 73, 74, 75, 76, 77, 78, 79, 80, 81, 82, 83, 84, 85, 86, 87, 88, 89, 90, 91, 92, 93, 94, 95, 96, 97, 98, 99, 100, 101, 102, 103, 104, 105, 106, 107, 108, 109, 110, 111, 112, 113, 114, 115] (n := 116) (fun _ => rfl) (by decide +kernel) (by decide +kernel) rfl (fun _ => rfl) (wr := List.filterMap (fun i => ((lw_W qx qm ux um cy xv0 xf1 xv2 xv3 xv4 xv5 xv6 xv7 xv8 xv9 xv10 xv11 xv12 xv13 xv14 xv15 xf16 xf17 xf18 xf19 xf20 xf21 xf22 xf23 xf24 xf25 xv26 xv27 xv28 xv29 xv30 xv31 xv32 xv33 xf34 xf35 xf36 xf37 xf38 xf39 xf40 xf41 xf42 xf43 xv44 xv45 xv46 xf47 xf48 xv49 xv50 xv51 xf52 xf53 xv54 xv55 xv56 xf57 xf58 xv59 xv60 xv61 xv62 xv63 xv64 xv65 xv66 xf67 xf68 xf69 xf70 xf71 xf72 xf73 xf74 xf75 xf76 xv77 xv78 xv79 xv80 xv81 xv82 xv83 xv84 xf85 xf86 xf87 xf88 xf89 xf90 xf91 xf92 xf93 xf94 xv95 xv96 xv97 xv98 xv99 xv100 xv101 xv102 xf103 xf104 xf105 xf106 xf107 xf108 xf109 xf110 xf111 xf112 xf113 xv114 xv115 xv116 xf117 xv118 xv119 xv120 xf121 xv122 xv123 xv124 xf125 xv126 xv127 xv128 xf129 xv130 xf131 xv132 xf133 xv134 xv135 xv136 xv137 xf138 xf139 xf140 xf141 xf142 xf143 xf144 mv0 mv1 mv2 mv3 mv4 mv5 ml6 mv7 mv8 mv9 mv10 mv11 mv12 mv13 mv14 mv15 mv16 mv17 mf18 mf19 mf20 mf21 mf22 me23 me24 me25 me26 me27 me28 me29 me30 me31 me32 me33 me34 me35 me36 me37 me38 me39 me40 me41 me42 me43 me44 me45 me46 me47 me48 me49 me50 me51 me52 me53 me54 me55 me56 me57 mf58 mf59 mf60 mf61 mf62 mf63 mf64 mf65 mf66 mf67 mf68 mf69 mf70))[i]?) [1, 2, 3, 4, 5, 6, 7, 8, 9, 10, 11, 12, 13, 14, 72, 73, 74, 75, 76, 77, 78, 79, 80, 81, 82, 83, 84, 85, 86, 87, 88, 89, 90, 91, 92, 93, 94, 95, 96, 97, 98, 99, 100, 101, 102, 103, 104, 105, 106, 107, 108, 109, 110, 111, 112, 113, 114, 115]) rfl (fun _ => rfl) (fun _ => rfl) ?_
  clear hP hD hS
  clear H locs
  intro v36 u
  obtain ⟨n3, n4, n5, n6, n7, n8, n9, n10, n11, n12, n13, n14, n15, n16, n17, n18, n19, n20, n21, n22, n23, n24, n25, n26, n27, n28, n29, n30, n31, n32, n33, n34, n35⟩ := u
  intro H locs hw (hP : va_P G vwCl (lw_W qx qm ux um cy xv0 xf1 xv2 xv3 xv4 xv5 xv6 xv7 xv8 xv9 xv10 xv11 xv12 xv13 xv14 xv15 xf16 xf17 xf18 xf19 xf20 xf21 xf22 xf23 xf24 xf25 n3 n4 n5 n6 n7 n8 n9 n10 n11 n12 n13 n14 n15 n16 n17 n18 n19 n20 n21 n22 n23 n24 n25 n26 n27 n28 n29 n30 n31 n32 n33 n34 n35 xv59 xv60 xv61 xv62 xv63 xv64 xv65 xv66 xf67 xf68 xf69 xf70 xf71 xf72 xf73 xf74 xf75 xf76 xv77 xv78 xv79 xv80 xv81 xv82 xv83 xv84 xf85 xf86 xf87 xf88 xf89 xf90 xf91 xf92 xf93 xf94 xv95 xv96 xv97 xv98 xv99 xv100 xv101 xv102 xf103 xf104 xf105 xf106 xf107 xf108 xf109 xf110 xf111 xf112 xf113 xv114 xv115 xv116 xf117 xv118 xv119 xv120 xf121 xv122 xv123 xv124 xf125 xv126 xv127 xv128 xf129 xv130 xf131 xv132 xf133 xv134 xv135 xv136 xv137 xf138 xf139 xf140 xf141 xf142 xf143 xf144 mv0 mv1 mv2 mv3 mv4 mv5 ml6 mv7 mv8 mv9 mv10 mv11 mv12 mv13 mv14 mv15 mv16 mv17 mf18 mf19 mf20 mf21 mf22 me23 me24 me25 me26 me27 me28 me29 me30 me31 me32 me33 me34 me35 me36 me37 me38 me39 me40 me41 me42 me43 me44 me45 me46 me47 me48 me49 me50 me51 me52 me53 me54 me55 me56 me57 mf58 mf59 mf60 mf61 mf62 mf63 mf64 mf65 mf66 mf67 mf68 mf69 mf70) H) (hD : va_D A (lw_W qx qm ux um cy xv0 xf1 xv2 xv3 xv4 xv5 xv6 xv7 xv8 xv9 xv10 xv11 xv12 xv13 xv14 xv15 xf16 xf17 xf18 xf19 xf20 xf21 xf22 xf23 xf24 xf25 n3 n4 n5 n6 n7 n8 n9 n10 n11 n12 n13 n14 n15 n16 n17 n18 n19 n20 n21 n22 n23 n24 n25 n26 n27 n28 n29 n30 n31 n32 n33 n34 n35 xv59 xv60 xv61 xv62 xv63 xv64 xv65 xv66 xf67 xf68 xf69 xf70 xf71 xf72 xf73 xf74 xf75 xf76 xv77 xv78 xv79 xv80 xv81 xv82 xv83 xv84 xf85 xf86 xf87 xf88 xf89 xf90 xf91 xf92 xf93 xf94 xv95 xv96 xv97 xv98 xv99 xv100 xv101 xv102 xf103 xf104 xf105 xf106 xf107 xf108 xf109 xf110 xf111 xf112 xf113 xv114 xv115 xv116 xf117 xv118 xv119 xv120 xf121 xv122 xv123 xv124 xf125 xv126 xv127 xv128 xf129 xv130 xf131 xv132 xf133 xv134 xv135 xv136 xv137 xf138 xf139 xf140 xf141 xf142 xf143 xf144 mv0 mv1 mv2 mv3 mv4 mv5 ml6 mv7 mv8 mv9 mv10 mv11 mv12 mv13 mv14 mv15 mv16 mv17 mf18 mf19 mf20 mf21 mf22 me23 me24 me25 me26 me27 me28 me29 me30 me31 me32 me33 me34 me35 me36 me37 me38 me39 me40 me41 me42 me43 me44 me45 me46 me47 me48 me49 me50 me51 me52 me53 me54 me55 me56 me57 mf58 mf59 mf60 mf61 mf62 mf63 mf64 mf65 mf66 mf67 mf68 mf69 mf70)) hS
  obtain ⟨w37, w38, w39, w40, w41, w42, w43, w44, w45, w46, w47, w48, w49, w50, w51, w52, w53, w54, w55, w56, w57, w58, w59, w60, w61, w62, w63, w64, w65, w66, hw⟩ := hw
  replace w66 : mm_act n18 n19 := w66
  have w67 := hw
  refine lv_pop hx hb dL_law_2959 rfl ?_
  refine lv_aload_n hx hb dL_law_2960 rfl (lv_at hl 1 rfl) ?_
  refine lv_aload_n hx hb dL_law_2961 rfl (lv_at hl 3 rfl) ?_
  refine lv_iload_n hx hb dL_law_2962 rfl (lv_at hl 0 rfl) ?_
  refine lv_iconst (v := 1) hx hb dL_law_2963 (by decide) ?_
  refine lv_iadd hx hb dL_law_2964 ?_
  refine lv_topi (fun v68 ev68 => ?_)
  have rv68 : mm_rg v68 1 379 := mm_add ev68 ri mm_k1 (by decide) (by decide)
  have tv68 := mm_addEc ev68 ri mm_k1 (by decide) (k := 1) (by decide)
  refine va_sld hx hb hX hbl hbA hS (mm_inL tv68 ri hiL (by decide)) dL_law_2965 ?_
  refine lv_topi (fun v69 ev69 => ?_)
  obtain rfl : p1 = v69 := ep1.trans (by rw [ev69, ev68])
  refine mm_fini (va_runV (As := [.int p1]) (rest := []) ⟨hx, hb, hml, hown, hts⟩ (M378_X12_back l G cy H.size qm p1 mv0 (um 0) (um 1) (um 2) (um 3) (um 4) mv1 mv2 mv3 mv4 mv5 ml6 mv7 mv8 mv9 mv10 (um 5) (um 6) (um 7) (um 8) (um 9) (um 10) (um 11) (um 12) (um 13) (um 14) (um 15) (um 16) (um 17) mv11 mv12 mv13 mv14 mv15 mv16 (um 18) mv17 (um 19) me23 me24 me25 me26 me27 me28 me29 me30 me31 me32 me33 me34 me35 me36 me37 me38 me39 me40 me41 me42 me43 me44 me45 me46 me47 me48 me49 me50 me51 me52 me53 me54 me55 me56 me57 mf58 mf59 mf60 mf61 mf62 mf63 mf64 rme23 rme24 rme25 rme26 rme27 rme28 rme29 rme30 rme31 rme32 rme33 rme34 rme35 rme36 rme37 rme38 rme39 rme40 rme41 rme42 rme43 rme44 rme45 rme46 rme47 rme48 rme49 rme50 rme51 rme52 rme53 rme54 rme55 rme56 rme57 rmf58 rmf59 rmf60 rmf61 rmf62 rmf63 rmf64 wI184 wI185 wI186 wI187 wI188 wI189 wI190 wI191 wI192 wI193 wI194 wI195 wI196 wI197 wI198 wI199) (cwV 1 hts (mm_gV mm_w1669 mm_w1670 mm_w1671 mm_w5 mm_w1672) rfl rfl rfl hd_X12_back ⟨by rw [hRf]; exact Nat.le_of_ble_eq_true rfl, by rw [hRl]; exact Nat.le_of_ble_eq_true rfl⟩) (mm_preV hK hZ hS hA hP hD [95, 101, 102, 103, 104, 105, 106, 107, 108, 109] rfl rfl 95 rfl rfl rfl) rfl rfl hl.1 rfl (lv_room (Nat.le_of_ble_eq_true rfl)) dL_law_2966 ⟨by rw [hRc]; exact Nat.le_of_ble_eq_true rfl, by rw [hRs]; exact Nat.le_of_ble_eq_true rfl⟩) hP hD hS hA (fun u : Int32 × Int32 × Int32 × Int32 × Int32 × Int32 × Int32 × (Nat → Int32) × (Nat → Int32) × (Nat → Int32) × (Nat → Int32) × (Nat → Int32) × (Nat → Int32) => (lw_W qx qm ux um cy xv0 xf1 xv2 xv3 xv4 xv5 xv6 xv7 xv8 xv9 xv10 xv11 xv12 xv13 xv14 xv15 xf16 xf17 xf18 xf19 xf20 xf21 xf22 xf23 xf24 xf25 n3 n4 n5 n6 n7 n8 n9 n10 n11 n12 n13 n14 n15 n16 n17 n18 n19 n20 n21 n22 n23 n24 n25 n26 n27 n28 n29 n30 n31 n32 n33 n34 n35 xv59 xv60 xv61 xv62 xv63 xv64 xv65 xv66 xf67 xf68 xf69 xf70 xf71 xf72 xf73 xf74 xf75 xf76 xv77 xv78 xv79 xv80 xv81 xv82 xv83 xv84 xf85 xf86 xf87 xf88 xf89 xf90 xf91 xf92 xf93 xf94 xv95 xv96 xv97 xv98 xv99 xv100 xv101 xv102 xf103 xf104 xf105 xf106 xf107 xf108 xf109 xf110 xf111 xf112 xf113 xv114 xv115 xv116 xf117 xv118 xv119 xv120 xf121 xv122 xv123 xv124 xf125 xv126 xv127 xv128 xf129 xv130 xf131 xv132 xf133 xv134 xv135 xv136 xv137 xf138 xf139 xf140 xf141 xf142 xf143 xf144 0 mv1 mv2 mv3 mv4 mv5 ml6 mv7 mv8 mv9 mv10 mv11 mv12 mv13 mv14 mv15 mv16 mv17 mf18 mf19 mf20 mf21 mf22 u.1 me24 me25 me26 me27 u.2.1 u.2.2.1 u.2.2.2.1 u.2.2.2.2.1 u.2.2.2.2.2.1 u.2.2.2.2.2.2.1 me34 me35 me36 me37 me38 me39 me40 me41 me42 me43 me44 me45 me46 me47 me48 me49 me50 me51 me52 me53 me54 me55 me56 me57 u.2.2.2.2.2.2.2.1 u.2.2.2.2.2.2.2.2.1 u.2.2.2.2.2.2.2.2.2.1 u.2.2.2.2.2.2.2.2.2.2.1 u.2.2.2.2.2.2.2.2.2.2.2.1 u.2.2.2.2.2.2.2.2.2.2.2.2 mf64 mf65 mf66 mf67 mf68 mf69 mf70)) [95, 101, 102, 103, 104, 105, 106, 107, 108, 109] [0, 1, 2, 3, 4, 5, 6, 7, 8, 9, 10, 11, 12, 13, 14, 15, 16, 17, 18, 19, 20, 21, 22, 23, 24, 25, 26, 27, 28, 29, 30, 31, 32, 33, 34, 35, 36, 37, 38, 39, 40, 41, 42, 43, 44, 45, 46, 47, 48, 49, 50, 51, 52, 53, 54, 55, 56, 57, 58, 59, 60, 61, 62, 63, 64, 65, 66, 67, 68, 69, 70, 71, 72, 73, 74, 75, 76, 77, 78, 79, 80, 81, 82, 83, 84, 85, 86, 87, 88, 89, 90, 91, 92, 93, 94, 96, 97, 98, 99, 100, 110, 111, 112, 113, 114, 115] (n := 116) (fun _ => rfl) (by decide +kernel) (by decide +kernel) rfl (fun _ => rfl) (wr := List.filterMap (fun i => ((lw_W qx qm ux um cy xv0 xf1 xv2 xv3 xv4 xv5 xv6 xv7 xv8 xv9 xv10 xv11 xv12 xv13 xv14 xv15 xf16 xf17 xf18 xf19 xf20 xf21 xf22 xf23 xf24 xf25 n3 n4 n5 n6 n7 n8 n9 n10 n11 n12 n13 n14 n15 n16 n17 n18 n19 n20 n21 n22 n23 n24 n25 n26 n27 n28 n29 n30 n31 n32 n33 n34 n35 xv59 xv60 xv61 xv62 xv63 xv64 xv65 xv66 xf67 xf68 xf69 xf70 xf71 xf72 xf73 xf74 xf75 xf76 xv77 xv78 xv79 xv80 xv81 xv82 xv83 xv84 xf85 xf86 xf87 xf88 xf89 xf90 xf91 xf92 xf93 xf94 xv95 xv96 xv97 xv98 xv99 xv100 xv101 xv102 xf103 xf104 xf105 xf106 xf107 xf108 xf109 xf110 xf111 xf112 xf113 xv114 xv115 xv116 xf117 xv118 xv119 xv120 xf121 xv122 xv123 xv124 xf125 xv126 xv127 xv128 xf129 xv130 xf131 xv132 xf133 xv134 xv135 xv136 xv137 xf138 xf139 xf140 xf141 xf142 xf143 xf144 mv0 mv1 mv2 mv3 mv4 mv5 ml6 mv7 mv8 mv9 mv10 mv11 mv12 mv13 mv14 mv15 mv16 mv17 mf18 mf19 mf20 mf21 mf22 me23 me24 me25 me26 me27 me28 me29 me30 me31 me32 me33 me34 me35 me36 me37 me38 me39 me40 me41 me42 me43 me44 me45 me46 me47 me48 me49 me50 me51 me52 me53 me54 me55 me56 me57 mf58 mf59 mf60 mf61 mf62 mf63 mf64 mf65 mf66 mf67 mf68 mf69 mf70))[i]?) [0, 1, 2, 3, 4, 5, 6, 7, 8, 9, 10, 11, 12, 13, 14, 15, 16, 17, 18, 19, 20, 21, 22, 23, 24, 25, 26, 27, 28, 29, 30, 31, 32, 33, 34, 35, 36, 37, 38, 39, 40, 41, 42, 43, 44, 45, 46, 47, 48, 49, 50, 51, 52, 53, 54, 55, 56, 57, 58, 59, 60, 61, 62, 63, 64, 65, 66, 67, 68, 69, 70, 71, 72, 73, 74, 75, 76, 77, 78, 79, 80, 81, 82, 83, 84, 85, 86, 87, 88, 89, 90, 91, 92, 93, 94, 96, 97, 98, 99, 100, 110, 111, 112, 113, 114, 115]) rfl (fun _ => rfl) (fun _ => @rfl _ ([qm, (um 5), (um 6), (um 7), (um 8), (um 9), (um 10), (um 11), (um 12), (um 13)] : List Nat)) ?_
  clear hP hD hS
  clear H locs
  intro v83 u
  obtain ⟨n70, n71, n72, n73, n74, n75, n76, n77, n78, n79, n80, n81, n82⟩ := u
  intro H locs hw (hP : va_P G vwCl (lw_W qx qm ux um cy xv0 xf1 xv2 xv3 xv4 xv5 xv6 xv7 xv8 xv9 xv10 xv11 xv12 xv13 xv14 xv15 xf16 xf17 xf18 xf19 xf20 xf21 xf22 xf23 xf24 xf25 n3 n4 n5 n6 n7 n8 n9 n10 n11 n12 n13 n14 n15 n16 n17 n18 n19 n20 n21 n22 n23 n24 n25 n26 n27 n28 n29 n30 n31 n32 n33 n34 n35 xv59 xv60 xv61 xv62 xv63 xv64 xv65 xv66 xf67 xf68 xf69 xf70 xf71 xf72 xf73 xf74 xf75 xf76 xv77 xv78 xv79 xv80 xv81 xv82 xv83 xv84 xf85 xf86 xf87 xf88 xf89 xf90 xf91 xf92 xf93 xf94 xv95 xv96 xv97 xv98 xv99 xv100 xv101 xv102 xf103 xf104 xf105 xf106 xf107 xf108 xf109 xf110 xf111 xf112 xf113 xv114 xv115 xv116 xf117 xv118 xv119 xv120 xf121 xv122 xv123 xv124 xf125 xv126 xv127 xv128 xf129 xv130 xf131 xv132 xf133 xv134 xv135 xv136 xv137 xf138 xf139 xf140 xf141 xf142 xf143 xf144 0 mv1 mv2 mv3 mv4 mv5 ml6 mv7 mv8 mv9 mv10 mv11 mv12 mv13 mv14 mv15 mv16 mv17 mf18 mf19 mf20 mf21 mf22 n70 me24 me25 me26 me27 n71 n72 n73 n74 n75 n76 me34 me35 me36 me37 me38 me39 me40 me41 me42 me43 me44 me45 me46 me47 me48 me49 me50 me51 me52 me53 me54 me55 me56 me57 n77 n78 n79 n80 n81 n82 mf64 mf65 mf66 mf67 mf68 mf69 mf70) H) (hD : va_D A (lw_W qx qm ux um cy xv0 xf1 xv2 xv3 xv4 xv5 xv6 xv7 xv8 xv9 xv10 xv11 xv12 xv13 xv14 xv15 xf16 xf17 xf18 xf19 xf20 xf21 xf22 xf23 xf24 xf25 n3 n4 n5 n6 n7 n8 n9 n10 n11 n12 n13 n14 n15 n16 n17 n18 n19 n20 n21 n22 n23 n24 n25 n26 n27 n28 n29 n30 n31 n32 n33 n34 n35 xv59 xv60 xv61 xv62 xv63 xv64 xv65 xv66 xf67 xf68 xf69 xf70 xf71 xf72 xf73 xf74 xf75 xf76 xv77 xv78 xv79 xv80 xv81 xv82 xv83 xv84 xf85 xf86 xf87 xf88 xf89 xf90 xf91 xf92 xf93 xf94 xv95 xv96 xv97 xv98 xv99 xv100 xv101 xv102 xf103 xf104 xf105 xf106 xf107 xf108 xf109 xf110 xf111 xf112 xf113 xv114 xv115 xv116 xf117 xv118 xv119 xv120 xf121 xv122 xv123 xv124 xf125 xv126 xv127 xv128 xf129 xv130 xf131 xv132 xf133 xv134 xv135 xv136 xv137 xf138 xf139 xf140 xf141 xf142 xf143 xf144 0 mv1 mv2 mv3 mv4 mv5 ml6 mv7 mv8 mv9 mv10 mv11 mv12 mv13 mv14 mv15 mv16 mv17 mf18 mf19 mf20 mf21 mf22 n70 me24 me25 me26 me27 n71 n72 n73 n74 n75 n76 me34 me35 me36 me37 me38 me39 me40 me41 me42 me43 me44 me45 me46 me47 me48 me49 me50 me51 me52 me53 me54 me55 me56 me57 n77 n78 n79 n80 n81 n82 mf64 mf65 mf66 mf67 mf68 mf69 mf70)) hS
  obtain ⟨w84, w85, w86, w87, w88, w89, w90, w91, w92, w93, w94, w95, w96, w97, w98, w99, w100, w101, w102, w103, w104, w105, w106, w107, w108, w109, hw⟩ := hw
  replace w97 : mm_rls n78 n79 0 n73 n74 := w97
  replace w98 : mm_txs n80 n81 0 n73 n75 := w98
  replace w99 : mm_acs n82 0 n73 n74 n76 := w99
  replace w100 : mm_tl n70 n74 n75 := w100
  replace w101 : mm_rls n78 n79 1 me36 me37 := w101
  replace w102 : mm_txs n80 n81 1 me36 me38 := w102
  replace w103 : mm_acs n82 1 me36 me37 me39 := w103
  replace w104 : mm_rls n78 n79 2 me42 me43 := w104
  replace w105 : mm_txs n80 n81 2 me42 me44 := w105
  replace w106 : mm_acs n82 2 me42 me43 me45 := w106
  replace w107 : mm_rls n78 n79 3 me48 me49 := w107
  replace w108 : mm_txs n80 n81 3 me48 me50 := w108
  replace w109 : mm_acs n82 3 me48 me49 me51 := w109
  have w110 := hw
  refine lv_pop hx hb dL_law_2969 rfl ?_
  refine lv_goto (tgt := 3152) hx hb dL_law_2970 (by decide) ?_
  obtain ⟨v111, ev111⟩ : ∃ y : Int32, y = i + 6 := ⟨_, rfl⟩
  refine lv_iinc (v := v111) (lv' := [(3, .int v111), (2, .ref qm), (1, .ref qx), (0, .ref b)]) hx hb dL_law_3152 hl (k := 0) rfl (by rw [ev111]; rfl) (by decide) rfl ?_
  clear hl
  clear ls
  intro ls hl
  have rv111 : mm_rg v111 6 384 := mm_add ev111 ri mm_k6 (by decide) (by decide)
  have tv111 := mm_addEc ev111 ri mm_k6 (by decide) (k := 6) (by decide)
  refine lv_goto (tgt := 18) hx hb dL_law_3155 (by decide) ?_
  have hI2 : lw_I xv0 xf1 xv2 xv3 xv4 xv5 xv6 xv7 xv8 xv9 xv10 xv11 xv12 xv13 xv14 xv15 xf16 xf17 xf18 xf19 xf20 xf21 xf22 xf23 xf24 xf25 n3 n4 n5 n6 n7 n8 n9 n10 n11 n12 n13 n14 n15 n16 n17 n18 n19 n20 n21 n22 n23 n24 n25 n26 n27 n28 n29 n30 n31 n32 n33 n34 n35 xv59 xv60 xv61 xv62 xv63 xv64 xv65 xv66 xf67 xf68 xf69 xf70 xf71 xf72 xf73 xf74 xf75 xf76 xv77 xv78 xv79 xv80 xv81 xv82 xv83 xv84 xf85 xf86 xf87 xf88 xf89 xf90 xf91 xf92 xf93 xf94 xv95 xv96 xv97 xv98 xv99 xv100 xv101 xv102 xf103 xf104 xf105 xf106 xf107 xf108 xf109 xf110 xf111 xf112 xf113 xv114 xv115 xv116 xf117 xv118 xv119 xv120 xf121 xv122 xv123 xv124 xf125 xv126 xv127 xv128 xf129 xv130 xf131 xv132 xf133 xv134 xv135 xv136 xv137 xf138 xf139 xf140 xf141 xf142 xf143 xf144 0 mv1 mv2 mv3 mv4 mv5 ml6 mv7 mv8 mv9 mv10 mv11 mv12 mv13 mv14 mv15 mv16 mv17 mf18 mf19 mf20 mf21 mf22 n70 me24 me25 me26 me27 n71 n72 n73 n74 n75 n76 me34 me35 me36 me37 me38 me39 me40 me41 me42 me43 me44 me45 me46 me47 me48 me49 me50 me51 me52 me53 me54 me55 me56 me57 n77 n78 n79 n80 n81 n82 mf64 mf65 mf66 mf67 mf68 mf69 mf70 := ⟨rxv0, rxf1, rxv2, rxv4, rxv5, rxv6, rxv9, rxv10, rxv11, rxv12, rxv13, rxv14, rxv15, rxf16, rxf17, rxf18, rxf19, rxf20, rxf21, rxf22, rxf23, rxf24, rxf25, w37, w38, w39, w40, w41, w42, w43, w44, w45, w46, w47, w48, w49, w50, w51, w52, w53, w54, w55, w56, w57, w58, w59, w60, w61, w62, w63, w64, w65, rxv60, rxv61, rxv62, rxv63, rxv64, rxv65, rxv66, rxf67, rxf68, rxf69, rxf70, rxf71, rxf72, rxf73, rxf74, rxf75, rxf76, rxv78, rxv79, rxv80, rxv81, rxv82, rxv83, rxv84, rxf85, rxf86, rxf87, rxf88, rxf89, rxf90, rxf91, rxf92, rxf93, rxf94, rxv96, rxv97, rxv98, rxv99, rxv100, rxv101, rxv102, rxf103, rxf104, rxf105, rxf106, rxf107, rxf108, rxf109, rxf110, rxf111, rxf112, rxf113, rxv114, rxv115, rxv116, rxv118, rxv119, rxv120, rxv122, rxv123, rxv124, rxv126, rxv127, rxv128, rxv130, rxv132, rxf133, rxv134, rxv136, rxf138, rxf140, rmv1, rmv2, rmv3, rmv4, rmv7, rmv11, rmf18, rmf19, rmf22, w84, rme24, rme25, rme26, rme27, w85, w86, w87, w88, w89, w90, rme34, rme35, rme36, rme37, rme38, rme39, rme40, rme41, rme42, rme43, rme44, rme45, rme46, rme47, rme48, rme49, rme50, rme51, rme52, rme53, rme54, rme55, rme56, rme57, w91, w92, w93, w94, w95, w96, rmf64, rmf65, rmf66, rmf67, rmf68, rmf69, wI179, w66, wI181, wI182, wI183, w97, w98, w99, w100, w101, w102, w103, wI191, w104, w105, w106, wI195, w107, w108, w109, wI199, wI200, wI201, wI202, wI203⟩
  exact ih v111 ev111 xv0 xf1 xv2 xv3 xv4 xv5 xv6 xv7 xv8 xv9 xv10 xv11 xv12 xv13 xv14 xv15 xf16 xf17 xf18 xf19 xf20 xf21 xf22 xf23 xf24 xf25 n3 n4 n5 n6 n7 n8 n9 n10 n11 n12 n13 n14 n15 n16 n17 n18 n19 n20 n21 n22 n23 n24 n25 n26 n27 n28 n29 n30 n31 n32 n33 n34 n35 xv59 xv60 xv61 xv62 xv63 xv64 xv65 xv66 xf67 xf68 xf69 xf70 xf71 xf72 xf73 xf74 xf75 xf76 xv77 xv78 xv79 xv80 xv81 xv82 xv83 xv84 xf85 xf86 xf87 xf88 xf89 xf90 xf91 xf92 xf93 xf94 xv95 xv96 xv97 xv98 xv99 xv100 xv101 xv102 xf103 xf104 xf105 xf106 xf107 xf108 xf109 xf110 xf111 xf112 xf113 xv114 xv115 xv116 xf117 xv118 xv119 xv120 xf121 xv122 xv123 xv124 xf125 xv126 xv127 xv128 xf129 xv130 xf131 xv132 xf133 xv134 xv135 xv136 xv137 xf138 xf139 xf140 xf141 xf142 xf143 xf144 0 mv1 mv2 mv3 mv4 mv5 ml6 mv7 mv8 mv9 mv10 mv11 mv12 mv13 mv14 mv15 mv16 mv17 mf18 mf19 mf20 mf21 mf22 n70 me24 me25 me26 me27 n71 n72 n73 n74 n75 n76 me34 me35 me36 me37 me38 me39 me40 me41 me42 me43 me44 me45 me46 me47 me48 me49 me50 me51 me52 me53 me54 me55 me56 me57 n77 n78 n79 n80 n81 n82 mf64 mf65 mf66 mf67 mf68 mf69 mf70 hI2 H locs hP hD hS ls (lv_sub hl [0, 1, 2, 3] rfl)

set_option maxHeartbeats 40000000 in
set_option maxRecDepth 100000 in
theorem lc_69 {p : Program} {e : Env} {s : State} {m : MethodId} {below : List Frame} {meth : Method} {c : Code} {b L : Nat} {xs : Nat → Int32} {G : va_G} {cy : Nat → ClassId} {qx qm : Nat} {ux um : Nat → Nat} {A : Nat → Prop} (l : Launch) (hx : p.tables.exec = Jvm.exec) (hb : c.code = code) (hr : meth.sig.returnType = ret) (hlocks : meth.locks = false) (hml : c.maxLocals = 4) (hown : s.vm.findClass R_law = some m.cls) (hts : ∀ w ∈ lw_x :: wsL_law, w.before #[Value.ref b] s = true) (hX : va_X b L xs s s.heap) (hbl : b < s.heap.size) (hAe : A = fun q => s.heap.size ≤ q) (hK : mm_K G cy s) (hZ : mm_Z cy A s s.heap) {H : Heap} {locs : List Loc} {ls : Array Slot} (hS : va_S A s.heap H locs) {i : Int32} (ri : mm_rg i 0 378) (hiL : i.toInt + 6 ≤ (L : Int)) (ih : ∀ i6 : Int32, i6 = i + 6 → lw_H p l e s m below meth c b G cy A qx qm ux um i6) {xv0 : Int32} {xf1 : Nat → Int32} {xv2 xv3 xv4 xv5 xv6 xv7 xv8 xv9 xv10 xv11 xv12 xv13 xv14 xv15 : Int32} {xf16 xf17 xf18 xf19 xf20 xf21 xf22 xf23 xf24 xf25 : Nat → Int32} {xv26 xv27 xv28 xv29 xv30 xv31 xv32 xv33 : Int32} {xf34 xf35 xf36 xf37 xf38 xf39 xf40 xf41 xf42 xf43 : Nat → Int32} {xv44 xv45 xv46 : Int32} {xf47 xf48 : Nat → Int32} {xv49 xv50 xv51 : Int32} {xf52 xf53 : Nat → Int32} {xv54 xv55 xv56 : Int32} {xf57 xf58 : Nat → Int32} {xv59 xv60 xv61 xv62 xv63 xv64 xv65 xv66 : Int32} {xf67 xf68 xf69 xf70 xf71 xf72 xf73 xf74 xf75 xf76 : Nat → Int32} {xv77 xv78 xv79 xv80 xv81 xv82 xv83 xv84 : Int32} {xf85 xf86 xf87 xf88 xf89 xf90 xf91 xf92 xf93 xf94 : Nat → Int32} {xv95 xv96 xv97 xv98 xv99 xv100 xv101 xv102 : Int32} {xf103 xf104 xf105 xf106 xf107 xf108 xf109 xf110 xf111 xf112 xf113 : Nat → Int32} {xv114 xv115 xv116 : Int32} {xf117 : Nat → Int64} {xv118 xv119 xv120 : Int32} {xf121 : Nat → Int64} {xv122 xv123 xv124 : Int32} {xf125 : Nat → Int64} {xv126 xv127 xv128 : Int32} {xf129 : Nat → Int64} {xv130 : Int32} {xf131 : Nat → Int32} {xv132 : Int32} {xf133 : Nat → Int32} {xv134 xv135 xv136 xv137 : Int32} {xf138 xf139 xf140 xf141 xf142 xf143 : Nat → Int32} {xf144 : Nat → Int64} {mv0 mv1 mv2 mv3 mv4 mv5 : Int32} {ml6 : Int64} {mv7 mv8 mv9 mv10 mv11 mv12 mv13 mv14 mv15 mv16 mv17 : Int32} {mf18 mf19 : Nat → Int32} {mf20 mf21 : Nat → Int64} {mf22 : Nat → Int32} {me23 me24 me25 me26 me27 me28 me29 me30 me31 me32 me33 me34 me35 me36 me37 me38 me39 me40 me41 me42 me43 me44 me45 me46 me47 me48 me49 me50 me51 me52 me53 me54 me55 me56 me57 : Int32} {mf58 mf59 mf60 mf61 mf62 mf63 mf64 mf65 mf66 mf67 mf68 mf69 mf70 : Nat → Int32} (rxv0 : mm_rg xv0 0 600) (rxf1 : mm_ar xf1 (-128) 127) (rxv2 : mm_rg xv2 0 3) (rxv4 : mm_rg xv4 0 5) (rxv5 : mm_rg xv5 0 600) (rxv6 : mm_rg xv6 0 600) (rxv9 : mm_rg xv9 0 10) (rxv10 : mm_rg xv10 0 99) (rxv11 : mm_rg xv11 0 99) (rxv12 : mm_rg xv12 0 9) (rxv13 : mm_rg xv13 0 3) (rxv14 : mm_rg xv14 0 6) (rxv15 : mm_rg xv15 0 30) (rxf16 : mm_ar xf16 (-1) 4) (rxf17 : mm_ar xf17 0 99) (rxf18 : mm_ar xf18 0 7) (rxf19 : mm_ar xf19 0 9) (rxf20 : mm_ar xf20 0 8) (rxf21 : mm_ar xf21 0 9) (rxf22 : mm_ar xf22 0 9) (rxf23 : mm_ar xf23 (-1) 2) (rxf24 : mm_ar xf24 0 99) (rxf25 : mm_ar xf25 0 9) (rxv27 : mm_rg xv27 0 10) (rxv28 : mm_rg xv28 0 99) (rxv29 : mm_rg xv29 0 99) (rxv30 : mm_rg xv30 0 9) (rxv31 : mm_rg xv31 0 3) (rxv32 : mm_rg xv32 0 6) (rxv33 : mm_rg xv33 0 30) (rxf34 : mm_ar xf34 (-1) 4) (rxf35 : mm_ar xf35 0 99) (rxf36 : mm_ar xf36 0 7) (rxf37 : mm_ar xf37 0 9) (rxf38 : mm_ar xf38 0 8) (rxf39 : mm_ar xf39 0 9) (rxf40 : mm_ar xf40 0 9) (rxf41 : mm_ar xf41 (-1) 2) (rxf42 : mm_ar xf42 0 99) (rxf43 : mm_ar xf43 0 9) (rxv44 : mm_rg xv44 1 10) (rxv46 : mm_rg xv46 (-2147483648) 210) (rxf47 : mm_ar xf47 0 9) (rxf48 : mm_ar xf48 0 9) (rxv49 : mm_rg xv49 1 10) (rxv51 : mm_rg xv51 (-2147483648) 210) (rxf52 : mm_ar xf52 0 9) (rxf53 : mm_ar xf53 0 9) (rxv54 : mm_rg xv54 1 10) (rxv56 : mm_rg xv56 (-2147483648) 210) (rxf57 : mm_ar xf57 0 9) (rxf58 : mm_ar xf58 0 9) (rxv60 : mm_rg xv60 0 10) (rxv61 : mm_rg xv61 0 99) (rxv62 : mm_rg xv62 0 99) (rxv63 : mm_rg xv63 0 9) (rxv64 : mm_rg xv64 0 3) (rxv65 : mm_rg xv65 0 6) (rxv66 : mm_rg xv66 0 30) (rxf67 : mm_ar xf67 (-1) 4) (rxf68 : mm_ar xf68 0 99) (rxf69 : mm_ar xf69 0 7) (rxf70 : mm_ar xf70 0 9) (rxf71 : mm_ar xf71 0 8) (rxf72 : mm_ar xf72 0 9) (rxf73 : mm_ar xf73 0 9) (rxf74 : mm_ar xf74 (-1) 2) (rxf75 : mm_ar xf75 0 99) (rxf76 : mm_ar xf76 0 9) (rxv78 : mm_rg xv78 0 10) (rxv79 : mm_rg xv79 0 99) (rxv80 : mm_rg xv80 0 99) (rxv81 : mm_rg xv81 0 9) (rxv82 : mm_rg xv82 0 3) (rxv83 : mm_rg xv83 0 6) (rxv84 : mm_rg xv84 0 30) (rxf85 : mm_ar xf85 (-1) 4) (rxf86 : mm_ar xf86 0 99) (rxf87 : mm_ar xf87 0 7) (rxf88 : mm_ar xf88 0 9) (rxf89 : mm_ar xf89 0 8) (rxf90 : mm_ar xf90 0 9) (rxf91 : mm_ar xf91 0 9) (rxf92 : mm_ar xf92 (-1) 2) (rxf93 : mm_ar xf93 0 99) (rxf94 : mm_ar xf94 0 9) (rxv96 : mm_rg xv96 0 10) (rxv97 : mm_rg xv97 0 99) (rxv98 : mm_rg xv98 0 99) (rxv99 : mm_rg xv99 0 9) (rxv100 : mm_rg xv100 0 3) (rxv101 : mm_rg xv101 0 6) (rxv102 : mm_rg xv102 0 30) (rxf103 : mm_ar xf103 (-1) 4) (rxf104 : mm_ar xf104 0 99) (rxf105 : mm_ar xf105 0 7) (rxf106 : mm_ar xf106 0 9) (rxf107 : mm_ar xf107 0 8) (rxf108 : mm_ar xf108 0 9) (rxf109 : mm_ar xf109 0 9) (rxf110 : mm_ar xf110 (-1) 2) (rxf111 : mm_ar xf111 0 99) (rxf112 : mm_ar xf112 0 9) (rxf113 : mm_ar xf113 0 1) (rxv114 : mm_rg xv114 0 1) (rxv115 : mm_rg xv115 0 3) (rxv116 : mm_rg xv116 0 60) (rxv118 : mm_rg xv118 0 1) (rxv119 : mm_rg xv119 0 3) (rxv120 : mm_rg xv120 0 60) (rxv122 : mm_rg xv122 0 1) (rxv123 : mm_rg xv123 0 3) (rxv124 : mm_rg xv124 0 60) (rxv126 : mm_rg xv126 0 1) (rxv127 : mm_rg xv127 0 3) (rxv128 : mm_rg xv128 0 60) (rxv130 : mm_rg xv130 0 210) (rxv132 : mm_rg xv132 0 210) (rxf133 : mm_ar xf133 0 209) (rxv134 : mm_rg xv134 0 7) (rxv136 : mm_rg xv136 0 4) (rxf138 : mm_ar xf138 0 9) (rxf140 : mm_ar xf140 0 9) (rmv1 : mm_rg mv1 0 600) (rmv2 : mm_rg mv2 0 600) (rmv3 : mm_rg mv3 0 4) (rmv4 : mm_rg mv4 0 600) (rmv7 : mm_rg mv7 0 3) (rmv11 : mm_rg mv11 0 8) (rmf18 : mm_ar mf18 (-1) 3) (rmf19 : mm_ar mf19 0 60) (rmf22 : mm_ar mf22 (-128) 127) (rme23 : mm_rg me23 0 601) (rme24 : mm_rg me24 0 601) (rme25 : mm_rg me25 0 601) (rme26 : mm_rg me26 0 601) (rme27 : mm_rg me27 0 601) (rme28 : mm_rg me28 0 10) (rme29 : mm_rg me29 0 99) (rme30 : mm_rg me30 0 9) (rme31 : mm_rg me31 0 3) (rme32 : mm_rg me32 0 6) (rme33 : mm_rg me33 0 30) (rme34 : mm_rg me34 0 10) (rme35 : mm_rg me35 0 99) (rme36 : mm_rg me36 0 9) (rme37 : mm_rg me37 0 3) (rme38 : mm_rg me38 0 6) (rme39 : mm_rg me39 0 30) (rme40 : mm_rg me40 0 10) (rme41 : mm_rg me41 0 99) (rme42 : mm_rg me42 0 9) (rme43 : mm_rg me43 0 3) (rme44 : mm_rg me44 0 6) (rme45 : mm_rg me45 0 30) (rme46 : mm_rg me46 0 10) (rme47 : mm_rg me47 0 99) (rme48 : mm_rg me48 0 9) (rme49 : mm_rg me49 0 3) (rme50 : mm_rg me50 0 6) (rme51 : mm_rg me51 0 30) (rme52 : mm_rg me52 0 10) (rme53 : mm_rg me53 0 99) (rme54 : mm_rg me54 0 9) (rme55 : mm_rg me55 0 3) (rme56 : mm_rg me56 0 6) (rme57 : mm_rg me57 0 30) (rmf58 : mm_ar mf58 0 99) (rmf59 : mm_ar mf59 0 7) (rmf60 : mm_ar mf60 0 9) (rmf61 : mm_ar mf61 0 8) (rmf62 : mm_ar mf62 0 9) (rmf63 : mm_ar mf63 (-1) 99) (rmf64 : mm_ar mf64 0 1) (rmf65 : mm_ar mf65 0 9) (rmf66 : mm_ar mf66 0 210) (rmf67 : mm_ar mf67 0 210) (rmf68 : mm_ar mf68 0 9) (rmf69 : mm_ar mf69 0 1) (wI179 : mm_act xf23 xf24) (wI180 : mm_act xf41 xf42) (wI181 : mm_act xf74 xf75) (wI182 : mm_act xf92 xf93) (wI183 : mm_act xf110 xf111) (wI184 : mm_rls mf59 mf60 0 me30 me31) (wI185 : mm_txs mf61 mf62 0 me30 me32) (wI186 : mm_acs mf63 0 me30 me31 me33) (wI187 : mm_tl me23 me31 me32) (wI188 : mm_rls mf59 mf60 1 me36 me37) (wI189 : mm_txs mf61 mf62 1 me36 me38) (wI190 : mm_acs mf63 1 me36 me37 me39) (wI191 : mm_tl me24 me37 me38) (wI192 : mm_rls mf59 mf60 2 me42 me43) (wI193 : mm_txs mf61 mf62 2 me42 me44) (wI194 : mm_acs mf63 2 me42 me43 me45) (wI195 : mm_tl me25 me43 me44) (wI196 : mm_rls mf59 mf60 3 me48 me49) (wI197 : mm_txs mf61 mf62 3 me48 me50) (wI198 : mm_acs mf63 3 me48 me49 me51) (wI199 : mm_tl me26 me49 me50) (wI200 : mm_rj xv114 xv115 xv116 mf18 mf19 0) (wI201 : mm_rj xv118 xv119 xv120 mf18 mf19 1) (wI202 : mm_rj xv122 xv123 xv124 mf18 mf19 2) (wI203 : mm_rj xv126 xv127 xv128 mf18 mf19 3) (hP : va_P G vwCl (lw_W qx qm ux um cy xv0 xf1 xv2 xv3 xv4 xv5 xv6 xv7 xv8 xv9 xv10 xv11 xv12 xv13 xv14 xv15 xf16 xf17 xf18 xf19 xf20 xf21 xf22 xf23 xf24 xf25 xv26 xv27 xv28 xv29 xv30 xv31 xv32 xv33 xf34 xf35 xf36 xf37 xf38 xf39 xf40 xf41 xf42 xf43 xv44 xv45 xv46 xf47 xf48 xv49 xv50 xv51 xf52 xf53 xv54 xv55 xv56 xf57 xf58 xv59 xv60 xv61 xv62 xv63 xv64 xv65 xv66 xf67 xf68 xf69 xf70 xf71 xf72 xf73 xf74 xf75 xf76 xv77 xv78 xv79 xv80 xv81 xv82 xv83 xv84 xf85 xf86 xf87 xf88 xf89 xf90 xf91 xf92 xf93 xf94 xv95 xv96 xv97 xv98 xv99 xv100 xv101 xv102 xf103 xf104 xf105 xf106 xf107 xf108 xf109 xf110 xf111 xf112 xf113 xv114 xv115 xv116 xf117 xv118 xv119 xv120 xf121 xv122 xv123 xv124 xf125 xv126 xv127 xv128 xf129 xv130 xf131 xv132 xf133 xv134 xv135 xv136 xv137 xf138 xf139 xf140 xf141 xf142 xf143 xf144 mv0 mv1 mv2 mv3 mv4 mv5 ml6 mv7 mv8 mv9 mv10 mv11 mv12 mv13 mv14 mv15 mv16 mv17 mf18 mf19 mf20 mf21 mf22 me23 me24 me25 me26 me27 me28 me29 me30 me31 me32 me33 me34 me35 me36 me37 me38 me39 me40 me41 me42 me43 me44 me45 me46 me47 me48 me49 me50 me51 me52 me53 me54 me55 me56 me57 mf58 mf59 mf60 mf61 mf62 mf63 mf64 mf65 mf66 mf67 mf68 mf69 mf70) H) (hD : va_D A (lw_W qx qm ux um cy xv0 xf1 xv2 xv3 xv4 xv5 xv6 xv7 xv8 xv9 xv10 xv11 xv12 xv13 xv14 xv15 xf16 xf17 xf18 xf19 xf20 xf21 xf22 xf23 xf24 xf25 xv26 xv27 xv28 xv29 xv30 xv31 xv32 xv33 xf34 xf35 xf36 xf37 xf38 xf39 xf40 xf41 xf42 xf43 xv44 xv45 xv46 xf47 xf48 xv49 xv50 xv51 xf52 xf53 xv54 xv55 xv56 xf57 xf58 xv59 xv60 xv61 xv62 xv63 xv64 xv65 xv66 xf67 xf68 xf69 xf70 xf71 xf72 xf73 xf74 xf75 xf76 xv77 xv78 xv79 xv80 xv81 xv82 xv83 xv84 xf85 xf86 xf87 xf88 xf89 xf90 xf91 xf92 xf93 xf94 xv95 xv96 xv97 xv98 xv99 xv100 xv101 xv102 xf103 xf104 xf105 xf106 xf107 xf108 xf109 xf110 xf111 xf112 xf113 xv114 xv115 xv116 xf117 xv118 xv119 xv120 xf121 xv122 xv123 xv124 xf125 xv126 xv127 xv128 xf129 xv130 xf131 xv132 xf133 xv134 xv135 xv136 xv137 xf138 xf139 xf140 xf141 xf142 xf143 xf144 mv0 mv1 mv2 mv3 mv4 mv5 ml6 mv7 mv8 mv9 mv10 mv11 mv12 mv13 mv14 mv15 mv16 mv17 mf18 mf19 mf20 mf21 mf22 me23 me24 me25 me26 me27 me28 me29 me30 me31 me32 me33 me34 me35 me36 me37 me38 me39 me40 me41 me42 me43 me44 me45 me46 me47 me48 me49 me50 me51 me52 me53 me54 me55 me56 me57 mf58 mf59 mf60 mf61 mf62 mf63 mf64 mf65 mf66 mf67 mf68 mf69 mf70)) (hl : lv_has ls 4 [(3, .int i), (2, .ref qm), (1, .ref qx), (0, .ref b)]) : W p l e room_1 s m #[Value.ref b] below meth c H locs 116 20302 (lw_Z below #[Value.ref b] s) (F0 m 2973 ls []) := by
  have hA : ∀ q, s.heap.size ≤ q → A q := by rw [hAe]; exact fun _ h => h
  have hbA : ¬ A b := by rw [hAe]; exact Nat.not_le.mpr hbl
  have hRf : room_1.frames = 2048 := rfl
  have hRl : room_1.locals = 84000 := rfl
  have hRc : room_1.cells = 600000 := rfl
  have hRs : room_1.slots = 7302250 := rfl
  obtain ⟨p1, ep1⟩ : ∃ z : Int32, z = xs (i + 1).toNatClampNeg := ⟨_, rfl⟩
  obtain ⟨p2, ep2⟩ : ∃ z : Int32, z = xs (i + 2).toNatClampNeg := ⟨_, rfl⟩
  obtain ⟨p3, ep3⟩ : ∃ z : Int32, z = xs (i + 3).toNatClampNeg := ⟨_, rfl⟩
  obtain ⟨p4, ep4⟩ : ∃ z : Int32, z = xs (i + 4).toNatClampNeg := ⟨_, rfl⟩
  obtain ⟨p5, ep5⟩ : ∃ z : Int32, z = xs (i + 5).toNatClampNeg := ⟨_, rfl⟩
  refine lv_aload_n hx hb dL_law_2973 rfl (lv_at hl 2 rfl) ?_
  refine lv_aload_n hx hb dL_law_2974 rfl (lv_at hl 3 rfl) ?_
  refine lv_iload_n hx hb dL_law_2975 rfl (lv_at hl 0 rfl) ?_
  refine lv_iconst (v := 1) hx hb dL_law_2976 (by decide) ?_
  refine lv_iadd hx hb dL_law_2977 ?_
  refine lv_topi (fun v1 ev1 => ?_)
  have rv1 : mm_rg v1 1 379 := mm_add ev1 ri mm_k1 (by decide) (by decide)
  have tv1 := mm_addEc ev1 ri mm_k1 (by decide) (k := 1) (by decide)
  refine va_sld hx hb hX hbl hbA hS (mm_inL tv1 ri hiL (by decide)) dL_law_2978 ?_
  refine lv_topi (fun v2 ev2 => ?_)
  obtain rfl : p1 = v2 := ep1.trans (by rw [ev2, ev1])
  refine lv_aload_n hx hb dL_law_2979 rfl (lv_at hl 3 rfl) ?_
  refine lv_iload_n hx hb dL_law_2980 rfl (lv_at hl 0 rfl) ?_
  refine lv_iconst (v := 2) hx hb dL_law_2981 (by decide) ?_
  refine lv_iadd hx hb dL_law_2982 ?_
  refine lv_topi (fun v3 ev3 => ?_)
  have rv3 : mm_rg v3 2 380 := mm_add ev3 ri mm_k2 (by decide) (by decide)
  have tv3 := mm_addEc ev3 ri mm_k2 (by decide) (k := 2) (by decide)
  refine va_sld hx hb hX hbl hbA hS (mm_inL tv3 ri hiL (by decide)) dL_law_2983 ?_
  refine lv_topi (fun v4 ev4 => ?_)
  obtain rfl : p2 = v4 := ep2.trans (by rw [ev4, ev3])
  refine lv_aload_n hx hb dL_law_2984 rfl (lv_at hl 3 rfl) ?_
  refine lv_iload_n hx hb dL_law_2985 rfl (lv_at hl 0 rfl) ?_
  refine lv_iconst (v := 3) hx hb dL_law_2986 (by decide) ?_
  refine lv_iadd hx hb dL_law_2987 ?_
  refine lv_topi (fun v5 ev5 => ?_)
  have rv5 : mm_rg v5 3 381 := mm_add ev5 ri mm_k3 (by decide) (by decide)
  have tv5 := mm_addEc ev5 ri mm_k3 (by decide) (k := 3) (by decide)
  refine va_sld hx hb hX hbl hbA hS (mm_inL tv5 ri hiL (by decide)) dL_law_2988 ?_
  refine lv_topi (fun v6 ev6 => ?_)
  obtain rfl : p3 = v6 := ep3.trans (by rw [ev6, ev5])
  refine mm_fini (va_runV (As := [.int p1, .int p2, .int p3]) (rest := []) ⟨hx, hb, hml, hown, hts⟩ (C546_X11_row l G cy H.size qx p1 p2 p3 (ux 0) (ux 2) (ux 14) (ux 36) (ux 70) (ux 71) (ux 80) (ux 82) (ux 84) (ux 89) (ux 92) (ux 72) (ux 74) (ux 76) (ux 78) xv114 xv115 xv116 (ux 73) xf117 xv118 xv119 xv120 (ux 75) xf121 xv122 xv123 xv124 (ux 77) xf125 xv126 xv127 xv128 (ux 79) xf129 rxv114 rxv115 rxv116 rxv118 rxv119 rxv120 rxv122 rxv123 rxv124 rxv126 rxv127 rxv128) (cwV 3 hts (mm_gV mm_w1673 mm_w1674 mm_w1675 mm_w2 mm_w1676) rfl rfl rfl hd_X11_row ⟨by rw [hRf]; exact Nat.le_of_ble_eq_true rfl, by rw [hRl]; exact Nat.le_of_ble_eq_true rfl⟩) (mm_preV hK hZ hS hA hP hD [0, 72, 73, 74, 75, 76, 77, 78, 79, 80] rfl rfl 0 rfl rfl rfl) rfl rfl hl.1 rfl (lv_room (Nat.le_of_ble_eq_true rfl)) dL_law_2989 ⟨by rw [hRc]; exact Nat.le_of_ble_eq_true rfl, by rw [hRs]; exact Nat.le_of_ble_eq_true rfl⟩) hP hD hS hA (fun u : Int32 × Int32 × Int32 × (Nat → Int64) × Int32 × Int32 × Int32 × (Nat → Int64) × Int32 × Int32 × Int32 × (Nat → Int64) × Int32 × Int32 × Int32 × (Nat → Int64) => (lw_W qx qm ux um cy xv0 xf1 xv2 xv3 xv4 xv5 xv6 xv7 xv8 xv9 xv10 xv11 xv12 xv13 xv14 xv15 xf16 xf17 xf18 xf19 xf20 xf21 xf22 xf23 xf24 xf25 xv26 xv27 xv28 xv29 xv30 xv31 xv32 xv33 xf34 xf35 xf36 xf37 xf38 xf39 xf40 xf41 xf42 xf43 xv44 xv45 xv46 xf47 xf48 xv49 xv50 xv51 xf52 xf53 xv54 xv55 xv56 xf57 xf58 xv59 xv60 xv61 xv62 xv63 xv64 xv65 xv66 xf67 xf68 xf69 xf70 xf71 xf72 xf73 xf74 xf75 xf76 xv77 xv78 xv79 xv80 xv81 xv82 xv83 xv84 xf85 xf86 xf87 xf88 xf89 xf90 xf91 xf92 xf93 xf94 xv95 xv96 xv97 xv98 xv99 xv100 xv101 xv102 xf103 xf104 xf105 xf106 xf107 xf108 xf109 xf110 xf111 xf112 xf113 u.1 u.2.1 u.2.2.1 u.2.2.2.1 u.2.2.2.2.1 u.2.2.2.2.2.1 u.2.2.2.2.2.2.1 u.2.2.2.2.2.2.2.1 u.2.2.2.2.2.2.2.2.1 u.2.2.2.2.2.2.2.2.2.1 u.2.2.2.2.2.2.2.2.2.2.1 u.2.2.2.2.2.2.2.2.2.2.2.1 u.2.2.2.2.2.2.2.2.2.2.2.2.1 u.2.2.2.2.2.2.2.2.2.2.2.2.2.1 u.2.2.2.2.2.2.2.2.2.2.2.2.2.2.1 u.2.2.2.2.2.2.2.2.2.2.2.2.2.2.2 xv130 xf131 xv132 xf133 xv134 xv135 xv136 xv137 xf138 xf139 xf140 xf141 xf142 xf143 xf144 mv0 mv1 mv2 mv3 mv4 mv5 ml6 mv7 mv8 mv9 mv10 mv11 mv12 mv13 mv14 mv15 mv16 mv17 mf18 mf19 mf20 mf21 mf22 me23 me24 me25 me26 me27 me28 me29 me30 me31 me32 me33 me34 me35 me36 me37 me38 me39 me40 me41 me42 me43 me44 me45 me46 me47 me48 me49 me50 me51 me52 me53 me54 me55 me56 me57 mf58 mf59 mf60 mf61 mf62 mf63 mf64 mf65 mf66 mf67 mf68 mf69 mf70)) [0, 72, 73, 74, 75, 76, 77, 78, 79, 80] [1, 2, 3, 4, 5, 6, 7, 8, 9, 10, 11, 12, 13, 14, 15, 16, 17, 18, 19, 20, 21, 22, 23, 24, 25, 26, 27, 28, 29, 30, 31, 32, 33, 34, 35, 36, 37, 38, 39, 40, 41, 42, 43, 44, 45, 46, 47, 48, 49, 50, 51, 52, 53, 54, 55, 56, 57, 58, 59, 60, 61, 62, 63, 64, 65, 66, 67, 68, 69, 70, 71, 81, 82, 83, 84, 85, 86, 87, 88, 89, 90, 91, 92, 93, 94, 95, 96, 97, 98, 99, 100, 101, 102, 103, 104, 105, 106, 107, 108, 109, 110, 111, 112, 113, 114, 115] (n := 116) (fun _ => rfl) (by decide +kernel) (by decide +kernel) rfl (fun _ => rfl) (wr := List.filterMap (fun i => ((lw_W qx qm ux um cy xv0 xf1 xv2 xv3 xv4 xv5 xv6 xv7 xv8 xv9 xv10 xv11 xv12 xv13 xv14 xv15 xf16 xf17 xf18 xf19 xf20 xf21 xf22 xf23 xf24 xf25 xv26 xv27 xv28 xv29 xv30 xv31 xv32 xv33 xf34 xf35 xf36 xf37 xf38 xf39 xf40 xf41 xf42 xf43 xv44 xv45 xv46 xf47 xf48 xv49 xv50 xv51 xf52 xf53 xv54 xv55 xv56 xf57 xf58 xv59 xv60 xv61 xv62 xv63 xv64 xv65 xv66 xf67 xf68 xf69 xf70 xf71 xf72 xf73 xf74 xf75 xf76 xv77 xv78 xv79 xv80 xv81 xv82 xv83 xv84 xf85 xf86 xf87 xf88 xf89 xf90 xf91 xf92 xf93 xf94 xv95 xv96 xv97 xv98 xv99 xv100 xv101 xv102 xf103 xf104 xf105 xf106 xf107 xf108 xf109 xf110 xf111 xf112 xf113 xv114 xv115 xv116 xf117 xv118 xv119 xv120 xf121 xv122 xv123 xv124 xf125 xv126 xv127 xv128 xf129 xv130 xf131 xv132 xf133 xv134 xv135 xv136 xv137 xf138 xf139 xf140 xf141 xf142 xf143 xf144 mv0 mv1 mv2 mv3 mv4 mv5 ml6 mv7 mv8 mv9 mv10 mv11 mv12 mv13 mv14 mv15 mv16 mv17 mf18 mf19 mf20 mf21 mf22 me23 me24 me25 me26 me27 me28 me29 me30 me31 me32 me33 me34 me35 me36 me37 me38 me39 me40 me41 me42 me43 me44 me45 me46 me47 me48 me49 me50 me51 me52 me53 me54 me55 me56 me57 mf58 mf59 mf60 mf61 mf62 mf63 mf64 mf65 mf66 mf67 mf68 mf69 mf70))[i]?) [1, 2, 3, 4, 5, 6, 7, 8, 9, 10, 11, 12, 13, 14, 15, 16, 17, 18, 19, 20, 21, 22, 23, 24, 25, 26, 27, 28, 29, 30, 31, 32, 33, 34, 35, 36, 37, 38, 39, 40, 41, 42, 43, 44, 45, 46, 47, 48, 49, 50, 51, 52, 53, 54, 55, 56, 57, 58, 59, 60, 61, 62, 63, 64, 65, 66, 67, 68, 69, 70, 71, 81, 82, 83, 84, 85, 86, 87, 88, 89, 90, 91, 92, 93, 94, 95, 96, 97, 98, 99, 100, 101, 102, 103, 104, 105, 106, 107, 108, 109, 110, 111, 112, 113, 114, 115]) rfl (fun _ => rfl) (fun _ => rfl) ?_
  clear hP hD hS
  clear H locs
  intro v23 u
  obtain ⟨n7, n8, n9, n10, n11, n12, n13, n14, n15, n16, n17, n18, n19, n20, n21, n22⟩ := u
  intro H locs hw (hP : va_P G vwCl (lw_W qx qm ux um cy xv0 xf1 xv2 xv3 xv4 xv5 xv6 xv7 xv8 xv9 xv10 xv11 xv12 xv13 xv14 xv15 xf16 xf17 xf18 xf19 xf20 xf21 xf22 xf23 xf24 xf25 xv26 xv27 xv28 xv29 xv30 xv31 xv32 xv33 xf34 xf35 xf36 xf37 xf38 xf39 xf40 xf41 xf42 xf43 xv44 xv45 xv46 xf47 xf48 xv49 xv50 xv51 xf52 xf53 xv54 xv55 xv56 xf57 xf58 xv59 xv60 xv61 xv62 xv63 xv64 xv65 xv66 xf67 xf68 xf69 xf70 xf71 xf72 xf73 xf74 xf75 xf76 xv77 xv78 xv79 xv80 xv81 xv82 xv83 xv84 xf85 xf86 xf87 xf88 xf89 xf90 xf91 xf92 xf93 xf94 xv95 xv96 xv97 xv98 xv99 xv100 xv101 xv102 xf103 xf104 xf105 xf106 xf107 xf108 xf109 xf110 xf111 xf112 xf113 n7 n8 n9 n10 n11 n12 n13 n14 n15 n16 n17 n18 n19 n20 n21 n22 xv130 xf131 xv132 xf133 xv134 xv135 xv136 xv137 xf138 xf139 xf140 xf141 xf142 xf143 xf144 mv0 mv1 mv2 mv3 mv4 mv5 ml6 mv7 mv8 mv9 mv10 mv11 mv12 mv13 mv14 mv15 mv16 mv17 mf18 mf19 mf20 mf21 mf22 me23 me24 me25 me26 me27 me28 me29 me30 me31 me32 me33 me34 me35 me36 me37 me38 me39 me40 me41 me42 me43 me44 me45 me46 me47 me48 me49 me50 me51 me52 me53 me54 me55 me56 me57 mf58 mf59 mf60 mf61 mf62 mf63 mf64 mf65 mf66 mf67 mf68 mf69 mf70) H) (hD : va_D A (lw_W qx qm ux um cy xv0 xf1 xv2 xv3 xv4 xv5 xv6 xv7 xv8 xv9 xv10 xv11 xv12 xv13 xv14 xv15 xf16 xf17 xf18 xf19 xf20 xf21 xf22 xf23 xf24 xf25 xv26 xv27 xv28 xv29 xv30 xv31 xv32 xv33 xf34 xf35 xf36 xf37 xf38 xf39 xf40 xf41 xf42 xf43 xv44 xv45 xv46 xf47 xf48 xv49 xv50 xv51 xf52 xf53 xv54 xv55 xv56 xf57 xf58 xv59 xv60 xv61 xv62 xv63 xv64 xv65 xv66 xf67 xf68 xf69 xf70 xf71 xf72 xf73 xf74 xf75 xf76 xv77 xv78 xv79 xv80 xv81 xv82 xv83 xv84 xf85 xf86 xf87 xf88 xf89 xf90 xf91 xf92 xf93 xf94 xv95 xv96 xv97 xv98 xv99 xv100 xv101 xv102 xf103 xf104 xf105 xf106 xf107 xf108 xf109 xf110 xf111 xf112 xf113 n7 n8 n9 n10 n11 n12 n13 n14 n15 n16 n17 n18 n19 n20 n21 n22 xv130 xf131 xv132 xf133 xv134 xv135 xv136 xv137 xf138 xf139 xf140 xf141 xf142 xf143 xf144 mv0 mv1 mv2 mv3 mv4 mv5 ml6 mv7 mv8 mv9 mv10 mv11 mv12 mv13 mv14 mv15 mv16 mv17 mf18 mf19 mf20 mf21 mf22 me23 me24 me25 me26 me27 me28 me29 me30 me31 me32 me33 me34 me35 me36 me37 me38 me39 me40 me41 me42 me43 me44 me45 me46 me47 me48 me49 me50 me51 me52 me53 me54 me55 me56 me57 mf58 mf59 mf60 mf61 mf62 mf63 mf64 mf65 mf66 mf67 mf68 mf69 mf70)) hS
  obtain ⟨w24, w25, w26, w27, w28, w29, w30, w31, w32, w33, w34, w35, w36, w37, w38, w39, hw⟩ := hw
  replace w36 : mm_xr 0 xv114 xv115 xv116 n7 n8 n9 p1 p2 p3 := w36
  replace w37 : mm_xr 1 xv118 xv119 xv120 n11 n12 n13 p1 p2 p3 := w37
  replace w38 : mm_xr 2 xv122 xv123 xv124 n15 n16 n17 p1 p2 p3 := w38
  replace w39 : mm_xr 3 xv126 xv127 xv128 n19 n20 n21 p1 p2 p3 := w39
  rcases hw with ⟨rfl, w40⟩ | ⟨rfl, w41⟩ | ⟨rfl, w42, w43⟩ | ⟨rfl, w44, w45⟩ | ⟨rfl, w46, w47, w48⟩ | ⟨rfl, w49, w50, w51⟩ | ⟨rfl, w52, w53, w54⟩
  · refine lv_pop hx hb dL_law_2992 rfl ?_
    refine lv_aload_n hx hb dL_law_2993 rfl (lv_at hl 1 rfl) ?_
    refine lv_aload_n hx hb dL_law_2994 rfl (lv_at hl 3 rfl) ?_
    refine lv_iload_n hx hb dL_law_2995 rfl (lv_at hl 0 rfl) ?_
    refine lv_iconst (v := 1) hx hb dL_law_2996 (by decide) ?_
    refine lv_iadd hx hb dL_law_2997 ?_
    refine lv_topi (fun v55 ev55 => ?_)
    have rv55 : mm_rg v55 1 379 := mm_add ev55 ri mm_k1 (by decide) (by decide)
    have tv55 := mm_addEc ev55 ri mm_k1 (by decide) (k := 1) (by decide)
    refine va_sld hx hb hX hbl hbA hS (mm_inL tv55 ri hiL (by decide)) dL_law_2998 ?_
    refine lv_topi (fun v56 ev56 => ?_)
    obtain rfl : p1 = v56 := ep1.trans (by rw [ev56, ev55])
    refine lv_aload_n hx hb dL_law_2999 rfl (lv_at hl 3 rfl) ?_
    refine lv_iload_n hx hb dL_law_3000 rfl (lv_at hl 0 rfl) ?_
    refine lv_iconst (v := 2) hx hb dL_law_3001 (by decide) ?_
    refine lv_iadd hx hb dL_law_3002 ?_
    refine lv_topi (fun v57 ev57 => ?_)
    have rv57 : mm_rg v57 2 380 := mm_add ev57 ri mm_k2 (by decide) (by decide)
    have tv57 := mm_addEc ev57 ri mm_k2 (by decide) (k := 2) (by decide)
    refine va_sld hx hb hX hbl hbA hS (mm_inL tv57 ri hiL (by decide)) dL_law_3003 ?_
    refine lv_topi (fun v58 ev58 => ?_)
    obtain rfl : p2 = v58 := ep2.trans (by rw [ev58, ev57])
    refine lv_aload_n hx hb dL_law_3004 rfl (lv_at hl 3 rfl) ?_
    refine lv_iload_n hx hb dL_law_3005 rfl (lv_at hl 0 rfl) ?_
    refine lv_iconst (v := 3) hx hb dL_law_3006 (by decide) ?_
    refine lv_iadd hx hb dL_law_3007 ?_
    refine lv_topi (fun v59 ev59 => ?_)
    have rv59 : mm_rg v59 3 381 := mm_add ev59 ri mm_k3 (by decide) (by decide)
    have tv59 := mm_addEc ev59 ri mm_k3 (by decide) (k := 3) (by decide)
    refine va_sld hx hb hX hbl hbA hS (mm_inL tv59 ri hiL (by decide)) dL_law_3008 ?_
    refine lv_topi (fun v60 ev60 => ?_)
    obtain rfl : p3 = v60 := ep3.trans (by rw [ev60, ev59])
    refine mm_fini (va_runV (As := [.int p1, .int p2, .int p3]) (rest := []) ⟨hx, hb, hml, hown, hts⟩ (C385_X12_row l G cy H.size qm p1 p2 p3 mv0 (um 0) (um 1) (um 2) (um 3) (um 4) mv1 mv2 mv3 mv4 mv5 ml6 mv7 mv8 mv9 mv10 (um 5) (um 6) (um 7) (um 8) (um 9) (um 10) (um 11) (um 12) (um 13) (um 14) (um 15) (um 16) (um 17) mv11 mv12 mv13 mv14 mv15 mv16 (um 18) mv17 (um 19) mf18 mf19 mf20 rmf18 rmf19) (cwV 3 hts (mm_gV mm_w1686 mm_w1687 mm_w1688 mm_w5 mm_w1689) rfl rfl rfl hd_X12_row ⟨by rw [hRf]; exact Nat.le_of_ble_eq_true rfl, by rw [hRl]; exact Nat.le_of_ble_eq_true rfl⟩) (mm_preV hK hZ hS hA hP hD [95, 96, 97, 98] rfl rfl 95 rfl rfl rfl) rfl rfl hl.1 rfl (lv_room (Nat.le_of_ble_eq_true rfl)) dL_law_3009 ⟨by rw [hRc]; exact Nat.le_of_ble_eq_true rfl, by rw [hRs]; exact Nat.le_of_ble_eq_true rfl⟩) hP hD hS hA (fun u : (Nat → Int32) × (Nat → Int32) × (Nat → Int64) => (lw_W qx qm ux um cy xv0 xf1 xv2 xv3 xv4 xv5 xv6 xv7 xv8 xv9 xv10 xv11 xv12 xv13 xv14 xv15 xf16 xf17 xf18 xf19 xf20 xf21 xf22 xf23 xf24 xf25 xv26 xv27 xv28 xv29 xv30 xv31 xv32 xv33 xf34 xf35 xf36 xf37 xf38 xf39 xf40 xf41 xf42 xf43 xv44 xv45 xv46 xf47 xf48 xv49 xv50 xv51 xf52 xf53 xv54 xv55 xv56 xf57 xf58 xv59 xv60 xv61 xv62 xv63 xv64 xv65 xv66 xf67 xf68 xf69 xf70 xf71 xf72 xf73 xf74 xf75 xf76 xv77 xv78 xv79 xv80 xv81 xv82 xv83 xv84 xf85 xf86 xf87 xf88 xf89 xf90 xf91 xf92 xf93 xf94 xv95 xv96 xv97 xv98 xv99 xv100 xv101 xv102 xf103 xf104 xf105 xf106 xf107 xf108 xf109 xf110 xf111 xf112 xf113 n7 n8 n9 n10 n11 n12 n13 n14 n15 n16 n17 n18 n19 n20 n21 n22 xv130 xf131 xv132 xf133 xv134 xv135 xv136 xv137 xf138 xf139 xf140 xf141 xf142 xf143 xf144 0 mv1 mv2 mv3 mv4 mv5 ml6 mv7 mv8 mv9 mv10 mv11 mv12 mv13 mv14 mv15 mv16 mv17 u.1 u.2.1 u.2.2 mf21 mf22 me23 me24 me25 me26 me27 me28 me29 me30 me31 me32 me33 me34 me35 me36 me37 me38 me39 me40 me41 me42 me43 me44 me45 me46 me47 me48 me49 me50 me51 me52 me53 me54 me55 me56 me57 mf58 mf59 mf60 mf61 mf62 mf63 mf64 mf65 mf66 mf67 mf68 mf69 mf70)) [95, 96, 97, 98] [0, 1, 2, 3, 4, 5, 6, 7, 8, 9, 10, 11, 12, 13, 14, 15, 16, 17, 18, 19, 20, 21, 22, 23, 24, 25, 26, 27, 28, 29, 30, 31, 32, 33, 34, 35, 36, 37, 38, 39, 40, 41, 42, 43, 44, 45, 46, 47, 48, 49, 50, 51, 52, 53, 54, 55, 56, 57, 58, 59, 60, 61, 62, 63, 64, 65, 66, 67, 68, 69, 70, 71, 72, 73, 74, 75, 76, 77, 78, 79, 80, 81, 82, 83, 84, 85, 86, 87, 88, 89, 90, 91, 92, 93, 94, 99, 100, 101, 102, 103, 104, 105, 106, 107, 108, 109, 110, 111, 112, 113, 114, 115] (n := 116) (fun _ => rfl) (by decide +kernel) (by decide +kernel) rfl (fun _ => rfl) (wr := List.filterMap (fun i => ((lw_W qx qm ux um cy xv0 xf1 xv2 xv3 xv4 xv5 xv6 xv7 xv8 xv9 xv10 xv11 xv12 xv13 xv14 xv15 xf16 xf17 xf18 xf19 xf20 xf21 xf22 xf23 xf24 xf25 xv26 xv27 xv28 xv29 xv30 xv31 xv32 xv33 xf34 xf35 xf36 xf37 xf38 xf39 xf40 xf41 xf42 xf43 xv44 xv45 xv46 xf47 xf48 xv49 xv50 xv51 xf52 xf53 xv54 xv55 xv56 xf57 xf58 xv59 xv60 xv61 xv62 xv63 xv64 xv65 xv66 xf67 xf68 xf69 xf70 xf71 xf72 xf73 xf74 xf75 xf76 xv77 xv78 xv79 xv80 xv81 xv82 xv83 xv84 xf85 xf86 xf87 xf88 xf89 xf90 xf91 xf92 xf93 xf94 xv95 xv96 xv97 xv98 xv99 xv100 xv101 xv102 xf103 xf104 xf105 xf106 xf107 xf108 xf109 xf110 xf111 xf112 xf113 n7 n8 n9 n10 n11 n12 n13 n14 n15 n16 n17 n18 n19 n20 n21 n22 xv130 xf131 xv132 xf133 xv134 xv135 xv136 xv137 xf138 xf139 xf140 xf141 xf142 xf143 xf144 mv0 mv1 mv2 mv3 mv4 mv5 ml6 mv7 mv8 mv9 mv10 mv11 mv12 mv13 mv14 mv15 mv16 mv17 mf18 mf19 mf20 mf21 mf22 me23 me24 me25 me26 me27 me28 me29 me30 me31 me32 me33 me34 me35 me36 me37 me38 me39 me40 me41 me42 me43 me44 me45 me46 me47 me48 me49 me50 me51 me52 me53 me54 me55 me56 me57 mf58 mf59 mf60 mf61 mf62 mf63 mf64 mf65 mf66 mf67 mf68 mf69 mf70))[i]?) [0, 1, 2, 3, 4, 5, 6, 7, 8, 9, 10, 11, 12, 13, 14, 15, 16, 17, 18, 19, 20, 21, 22, 23, 24, 25, 26, 27, 28, 29, 30, 31, 32, 33, 34, 35, 36, 37, 38, 39, 40, 41, 42, 43, 44, 45, 46, 47, 48, 49, 50, 51, 52, 53, 54, 55, 56, 57, 58, 59, 60, 61, 62, 63, 64, 65, 66, 67, 68, 69, 70, 71, 72, 73, 74, 75, 76, 77, 78, 79, 80, 81, 82, 83, 84, 85, 86, 87, 88, 89, 90, 91, 92, 93, 94, 99, 100, 101, 102, 103, 104, 105, 106, 107, 108, 109, 110, 111, 112, 113, 114, 115]) rfl (fun _ => rfl) (fun _ => rfl) ?_
    clear hP hD hS
    clear H locs
    intro v64 u
    obtain ⟨n61, n62, n63⟩ := u
    intro H locs hw (hP : va_P G vwCl (lw_W qx qm ux um cy xv0 xf1 xv2 xv3 xv4 xv5 xv6 xv7 xv8 xv9 xv10 xv11 xv12 xv13 xv14 xv15 xf16 xf17 xf18 xf19 xf20 xf21 xf22 xf23 xf24 xf25 xv26 xv27 xv28 xv29 xv30 xv31 xv32 xv33 xf34 xf35 xf36 xf37 xf38 xf39 xf40 xf41 xf42 xf43 xv44 xv45 xv46 xf47 xf48 xv49 xv50 xv51 xf52 xf53 xv54 xv55 xv56 xf57 xf58 xv59 xv60 xv61 xv62 xv63 xv64 xv65 xv66 xf67 xf68 xf69 xf70 xf71 xf72 xf73 xf74 xf75 xf76 xv77 xv78 xv79 xv80 xv81 xv82 xv83 xv84 xf85 xf86 xf87 xf88 xf89 xf90 xf91 xf92 xf93 xf94 xv95 xv96 xv97 xv98 xv99 xv100 xv101 xv102 xf103 xf104 xf105 xf106 xf107 xf108 xf109 xf110 xf111 xf112 xf113 n7 n8 n9 n10 n11 n12 n13 n14 n15 n16 n17 n18 n19 n20 n21 n22 xv130 xf131 xv132 xf133 xv134 xv135 xv136 xv137 xf138 xf139 xf140 xf141 xf142 xf143 xf144 0 mv1 mv2 mv3 mv4 mv5 ml6 mv7 mv8 mv9 mv10 mv11 mv12 mv13 mv14 mv15 mv16 mv17 n61 n62 n63 mf21 mf22 me23 me24 me25 me26 me27 me28 me29 me30 me31 me32 me33 me34 me35 me36 me37 me38 me39 me40 me41 me42 me43 me44 me45 me46 me47 me48 me49 me50 me51 me52 me53 me54 me55 me56 me57 mf58 mf59 mf60 mf61 mf62 mf63 mf64 mf65 mf66 mf67 mf68 mf69 mf70) H) (hD : va_D A (lw_W qx qm ux um cy xv0 xf1 xv2 xv3 xv4 xv5 xv6 xv7 xv8 xv9 xv10 xv11 xv12 xv13 xv14 xv15 xf16 xf17 xf18 xf19 xf20 xf21 xf22 xf23 xf24 xf25 xv26 xv27 xv28 xv29 xv30 xv31 xv32 xv33 xf34 xf35 xf36 xf37 xf38 xf39 xf40 xf41 xf42 xf43 xv44 xv45 xv46 xf47 xf48 xv49 xv50 xv51 xf52 xf53 xv54 xv55 xv56 xf57 xf58 xv59 xv60 xv61 xv62 xv63 xv64 xv65 xv66 xf67 xf68 xf69 xf70 xf71 xf72 xf73 xf74 xf75 xf76 xv77 xv78 xv79 xv80 xv81 xv82 xv83 xv84 xf85 xf86 xf87 xf88 xf89 xf90 xf91 xf92 xf93 xf94 xv95 xv96 xv97 xv98 xv99 xv100 xv101 xv102 xf103 xf104 xf105 xf106 xf107 xf108 xf109 xf110 xf111 xf112 xf113 n7 n8 n9 n10 n11 n12 n13 n14 n15 n16 n17 n18 n19 n20 n21 n22 xv130 xf131 xv132 xf133 xv134 xv135 xv136 xv137 xf138 xf139 xf140 xf141 xf142 xf143 xf144 0 mv1 mv2 mv3 mv4 mv5 ml6 mv7 mv8 mv9 mv10 mv11 mv12 mv13 mv14 mv15 mv16 mv17 n61 n62 n63 mf21 mf22 me23 me24 me25 me26 me27 me28 me29 me30 me31 me32 me33 me34 me35 me36 me37 me38 me39 me40 me41 me42 me43 me44 me45 me46 me47 me48 me49 me50 me51 me52 me53 me54 me55 me56 me57 mf58 mf59 mf60 mf61 mf62 mf63 mf64 mf65 mf66 mf67 mf68 mf69 mf70)) hS
    obtain ⟨w65, w66, w67, hw⟩ := hw
    replace w67 : mm_mr mf18 mf19 n61 n62 p1 p2 p3 := w67
    rcases hw with ⟨rfl, w68⟩ | ⟨rfl, w69⟩ | ⟨rfl, w70, w71⟩ | ⟨rfl, w72, w73⟩ | ⟨rfl, w74, w75, w76⟩ | ⟨rfl, w77, w78, w79⟩ | ⟨rfl, w80, w81, w82⟩
    · refine lv_pop hx hb dL_law_3012 rfl ?_
      refine lv_goto (tgt := 3152) hx hb dL_law_3013 (by decide) ?_
      obtain ⟨v83, ev83⟩ : ∃ y : Int32, y = i + 6 := ⟨_, rfl⟩
      refine lv_iinc (v := v83) (lv' := [(3, .int v83), (2, .ref qm), (1, .ref qx), (0, .ref b)]) hx hb dL_law_3152 hl (k := 0) rfl (by rw [ev83]; rfl) (by decide) rfl ?_
      clear hl
      clear ls
      intro ls hl
      have rv83 : mm_rg v83 6 384 := mm_add ev83 ri mm_k6 (by decide) (by decide)
      have tv83 := mm_addEc ev83 ri mm_k6 (by decide) (k := 6) (by decide)
      refine lv_goto (tgt := 18) hx hb dL_law_3155 (by decide) ?_
      have hI2 : lw_I xv0 xf1 xv2 xv3 xv4 xv5 xv6 xv7 xv8 xv9 xv10 xv11 xv12 xv13 xv14 xv15 xf16 xf17 xf18 xf19 xf20 xf21 xf22 xf23 xf24 xf25 xv26 xv27 xv28 xv29 xv30 xv31 xv32 xv33 xf34 xf35 xf36 xf37 xf38 xf39 xf40 xf41 xf42 xf43 xv44 xv45 xv46 xf47 xf48 xv49 xv50 xv51 xf52 xf53 xv54 xv55 xv56 xf57 xf58 xv59 xv60 xv61 xv62 xv63 xv64 xv65 xv66 xf67 xf68 xf69 xf70 xf71 xf72 xf73 xf74 xf75 xf76 xv77 xv78 xv79 xv80 xv81 xv82 xv83 xv84 xf85 xf86 xf87 xf88 xf89 xf90 xf91 xf92 xf93 xf94 xv95 xv96 xv97 xv98 xv99 xv100 xv101 xv102 xf103 xf104 xf105 xf106 xf107 xf108 xf109 xf110 xf111 xf112 xf113 n7 n8 n9 n10 n11 n12 n13 n14 n15 n16 n17 n18 n19 n20 n21 n22 xv130 xf131 xv132 xf133 xv134 xv135 xv136 xv137 xf138 xf139 xf140 xf141 xf142 xf143 xf144 0 mv1 mv2 mv3 mv4 mv5 ml6 mv7 mv8 mv9 mv10 mv11 mv12 mv13 mv14 mv15 mv16 mv17 n61 n62 n63 mf21 mf22 me23 me24 me25 me26 me27 me28 me29 me30 me31 me32 me33 me34 me35 me36 me37 me38 me39 me40 me41 me42 me43 me44 me45 me46 me47 me48 me49 me50 me51 me52 me53 me54 me55 me56 me57 mf58 mf59 mf60 mf61 mf62 mf63 mf64 mf65 mf66 mf67 mf68 mf69 mf70 := ⟨rxv0, rxf1, rxv2, rxv4, rxv5, rxv6, rxv9, rxv10, rxv11, rxv12, rxv13, rxv14, rxv15, rxf16, rxf17, rxf18, rxf19, rxf20, rxf21, rxf22, rxf23, rxf24, rxf25, rxv27, rxv28, rxv29, rxv30, rxv31, rxv32, rxv33, rxf34, rxf35, rxf36, rxf37, rxf38, rxf39, rxf40, rxf41, rxf42, rxf43, rxv44, rxv46, rxf47, rxf48, rxv49, rxv51, rxf52, rxf53, rxv54, rxv56, rxf57, rxf58, rxv60, rxv61, rxv62, rxv63, rxv64, rxv65, rxv66, rxf67, rxf68, rxf69, rxf70, rxf71, rxf72, rxf73, rxf74, rxf75, rxf76, rxv78, rxv79, rxv80, rxv81, rxv82, rxv83, rxv84, rxf85, rxf86, rxf87, rxf88, rxf89, rxf90, rxf91, rxf92, rxf93, rxf94, rxv96, rxv97, rxv98, rxv99, rxv100, rxv101, rxv102, rxf103, rxf104, rxf105, rxf106, rxf107, rxf108, rxf109, rxf110, rxf111, rxf112, rxf113, w24, w25, w26, w27, w28, w29, w30, w31, w32, w33, w34, w35, rxv130, rxv132, rxf133, rxv134, rxv136, rxf138, rxf140, rmv1, rmv2, rmv3, rmv4, rmv7, rmv11, w65, w66, rmf22, rme23, rme24, rme25, rme26, rme27, rme28, rme29, rme30, rme31, rme32, rme33, rme34, rme35, rme36, rme37, rme38, rme39, rme40, rme41, rme42, rme43, rme44, rme45, rme46, rme47, rme48, rme49, rme50, rme51, rme52, rme53, rme54, rme55, rme56, rme57, rmf58, rmf59, rmf60, rmf61, rmf62, rmf63, rmf64, rmf65, rmf66, rmf67, rmf68, rmf69, wI179, wI180, wI181, wI182, wI183, wI184, wI185, wI186, wI187, wI188, wI189, wI190, wI191, wI192, wI193, wI194, wI195, wI196, wI197, wI198, wI199, (mm_rj_u wI200 w36 w67 (by decide)), (mm_rj_u wI201 w37 w67 (by decide)), (mm_rj_u wI202 w38 w67 (by decide)), (mm_rj_u wI203 w39 w67 (by decide))⟩
      exact ih v83 ev83 xv0 xf1 xv2 xv3 xv4 xv5 xv6 xv7 xv8 xv9 xv10 xv11 xv12 xv13 xv14 xv15 xf16 xf17 xf18 xf19 xf20 xf21 xf22 xf23 xf24 xf25 xv26 xv27 xv28 xv29 xv30 xv31 xv32 xv33 xf34 xf35 xf36 xf37 xf38 xf39 xf40 xf41 xf42 xf43 xv44 xv45 xv46 xf47 xf48 xv49 xv50 xv51 xf52 xf53 xv54 xv55 xv56 xf57 xf58 xv59 xv60 xv61 xv62 xv63 xv64 xv65 xv66 xf67 xf68 xf69 xf70 xf71 xf72 xf73 xf74 xf75 xf76 xv77 xv78 xv79 xv80 xv81 xv82 xv83 xv84 xf85 xf86 xf87 xf88 xf89 xf90 xf91 xf92 xf93 xf94 xv95 xv96 xv97 xv98 xv99 xv100 xv101 xv102 xf103 xf104 xf105 xf106 xf107 xf108 xf109 xf110 xf111 xf112 xf113 n7 n8 n9 n10 n11 n12 n13 n14 n15 n16 n17 n18 n19 n20 n21 n22 xv130 xf131 xv132 xf133 xv134 xv135 xv136 xv137 xf138 xf139 xf140 xf141 xf142 xf143 xf144 0 mv1 mv2 mv3 mv4 mv5 ml6 mv7 mv8 mv9 mv10 mv11 mv12 mv13 mv14 mv15 mv16 mv17 n61 n62 n63 mf21 mf22 me23 me24 me25 me26 me27 me28 me29 me30 me31 me32 me33 me34 me35 me36 me37 me38 me39 me40 me41 me42 me43 me44 me45 me46 me47 me48 me49 me50 me51 me52 me53 me54 me55 me56 me57 mf58 mf59 mf60 mf61 mf62 mf63 mf64 mf65 mf66 mf67 mf68 mf69 mf70 hI2 H locs hP hD hS ls (lv_sub hl [0, 1, 2, 3] rfl)
    · exact mm_noX w69 w40 (by decide)
    · exact mm_noX w70 w40 (by decide)
    · exact mm_noX w72 w40 (by decide)
    · exact mm_noX w74 w40 (by decide)
    · exact mm_noX w77 w40 (by decide)
    · exact mm_noX w80 w40 (by decide)
  · refine lv_pop hx hb dL_law_2992 rfl ?_
    refine lv_aload_n hx hb dL_law_2993 rfl (lv_at hl 1 rfl) ?_
    refine lv_aload_n hx hb dL_law_2994 rfl (lv_at hl 3 rfl) ?_
    refine lv_iload_n hx hb dL_law_2995 rfl (lv_at hl 0 rfl) ?_
    refine lv_iconst (v := 1) hx hb dL_law_2996 (by decide) ?_
    refine lv_iadd hx hb dL_law_2997 ?_
    refine lv_topi (fun v84 ev84 => ?_)
    have rv84 : mm_rg v84 1 379 := mm_add ev84 ri mm_k1 (by decide) (by decide)
    have tv84 := mm_addEc ev84 ri mm_k1 (by decide) (k := 1) (by decide)
    refine va_sld hx hb hX hbl hbA hS (mm_inL tv84 ri hiL (by decide)) dL_law_2998 ?_
    refine lv_topi (fun v85 ev85 => ?_)
    obtain rfl : p1 = v85 := ep1.trans (by rw [ev85, ev84])
    refine lv_aload_n hx hb dL_law_2999 rfl (lv_at hl 3 rfl) ?_
    refine lv_iload_n hx hb dL_law_3000 rfl (lv_at hl 0 rfl) ?_
    refine lv_iconst (v := 2) hx hb dL_law_3001 (by decide) ?_
    refine lv_iadd hx hb dL_law_3002 ?_
    refine lv_topi (fun v86 ev86 => ?_)
    have rv86 : mm_rg v86 2 380 := mm_add ev86 ri mm_k2 (by decide) (by decide)
    have tv86 := mm_addEc ev86 ri mm_k2 (by decide) (k := 2) (by decide)
    refine va_sld hx hb hX hbl hbA hS (mm_inL tv86 ri hiL (by decide)) dL_law_3003 ?_
    refine lv_topi (fun v87 ev87 => ?_)
    obtain rfl : p2 = v87 := ep2.trans (by rw [ev87, ev86])
    refine lv_aload_n hx hb dL_law_3004 rfl (lv_at hl 3 rfl) ?_
    refine lv_iload_n hx hb dL_law_3005 rfl (lv_at hl 0 rfl) ?_
    refine lv_iconst (v := 3) hx hb dL_law_3006 (by decide) ?_
    refine lv_iadd hx hb dL_law_3007 ?_
    refine lv_topi (fun v88 ev88 => ?_)
    have rv88 : mm_rg v88 3 381 := mm_add ev88 ri mm_k3 (by decide) (by decide)
    have tv88 := mm_addEc ev88 ri mm_k3 (by decide) (k := 3) (by decide)
    refine va_sld hx hb hX hbl hbA hS (mm_inL tv88 ri hiL (by decide)) dL_law_3008 ?_
    refine lv_topi (fun v89 ev89 => ?_)
    obtain rfl : p3 = v89 := ep3.trans (by rw [ev89, ev88])
    refine mm_fini (va_runV (As := [.int p1, .int p2, .int p3]) (rest := []) ⟨hx, hb, hml, hown, hts⟩ (C385_X12_row l G cy H.size qm p1 p2 p3 mv0 (um 0) (um 1) (um 2) (um 3) (um 4) mv1 mv2 mv3 mv4 mv5 ml6 mv7 mv8 mv9 mv10 (um 5) (um 6) (um 7) (um 8) (um 9) (um 10) (um 11) (um 12) (um 13) (um 14) (um 15) (um 16) (um 17) mv11 mv12 mv13 mv14 mv15 mv16 (um 18) mv17 (um 19) mf18 mf19 mf20 rmf18 rmf19) (cwV 3 hts (mm_gV mm_w1686 mm_w1687 mm_w1688 mm_w5 mm_w1689) rfl rfl rfl hd_X12_row ⟨by rw [hRf]; exact Nat.le_of_ble_eq_true rfl, by rw [hRl]; exact Nat.le_of_ble_eq_true rfl⟩) (mm_preV hK hZ hS hA hP hD [95, 96, 97, 98] rfl rfl 95 rfl rfl rfl) rfl rfl hl.1 rfl (lv_room (Nat.le_of_ble_eq_true rfl)) dL_law_3009 ⟨by rw [hRc]; exact Nat.le_of_ble_eq_true rfl, by rw [hRs]; exact Nat.le_of_ble_eq_true rfl⟩) hP hD hS hA (fun u : (Nat → Int32) × (Nat → Int32) × (Nat → Int64) => (lw_W qx qm ux um cy xv0 xf1 xv2 xv3 xv4 xv5 xv6 xv7 xv8 xv9 xv10 xv11 xv12 xv13 xv14 xv15 xf16 xf17 xf18 xf19 xf20 xf21 xf22 xf23 xf24 xf25 xv26 xv27 xv28 xv29 xv30 xv31 xv32 xv33 xf34 xf35 xf36 xf37 xf38 xf39 xf40 xf41 xf42 xf43 xv44 xv45 xv46 xf47 xf48 xv49 xv50 xv51 xf52 xf53 xv54 xv55 xv56 xf57 xf58 xv59 xv60 xv61 xv62 xv63 xv64 xv65 xv66 xf67 xf68 xf69 xf70 xf71 xf72 xf73 xf74 xf75 xf76 xv77 xv78 xv79 xv80 xv81 xv82 xv83 xv84 xf85 xf86 xf87 xf88 xf89 xf90 xf91 xf92 xf93 xf94 xv95 xv96 xv97 xv98 xv99 xv100 xv101 xv102 xf103 xf104 xf105 xf106 xf107 xf108 xf109 xf110 xf111 xf112 xf113 n7 n8 n9 n10 n11 n12 n13 n14 n15 n16 n17 n18 n19 n20 n21 n22 xv130 xf131 xv132 xf133 xv134 xv135 xv136 xv137 xf138 xf139 xf140 xf141 xf142 xf143 xf144 0 mv1 mv2 mv3 mv4 mv5 ml6 mv7 mv8 mv9 mv10 mv11 mv12 mv13 mv14 mv15 mv16 mv17 u.1 u.2.1 u.2.2 mf21 mf22 me23 me24 me25 me26 me27 me28 me29 me30 me31 me32 me33 me34 me35 me36 me37 me38 me39 me40 me41 me42 me43 me44 me45 me46 me47 me48 me49 me50 me51 me52 me53 me54 me55 me56 me57 mf58 mf59 mf60 mf61 mf62 mf63 mf64 mf65 mf66 mf67 mf68 mf69 mf70)) [95, 96, 97, 98] [0, 1, 2, 3, 4, 5, 6, 7, 8, 9, 10, 11, 12, 13, 14, 15, 16, 17, 18, 19, 20, 21, 22, 23, 24, 25, 26, 27, 28, 29, 30, 31, 32, 33, 34, 35, 36, 37, 38, 39, 40, 41, 42, 43, 44, 45, 46, 47, 48, 49, 50, 51, 52, 53, 54, 55, 56, 57, 58, 59, 60, 61, 62, 63, 64, 65, 66, 67, 68, 69, 70, 71, 72, 73, 74, 75, 76, 77, 78, 79, 80, 81, 82, 83, 84, 85, 86, 87, 88, 89, 90, 91, 92, 93, 94, 99, 100, 101, 102, 103, 104, 105, 106, 107, 108, 109, 110, 111, 112, 113, 114, 115] (n := 116) (fun _ => rfl) (by decide +kernel) (by decide +kernel) rfl (fun _ => rfl) (wr := List.filterMap (fun i => ((lw_W qx qm ux um cy xv0 xf1 xv2 xv3 xv4 xv5 xv6 xv7 xv8 xv9 xv10 xv11 xv12 xv13 xv14 xv15 xf16 xf17 xf18 xf19 xf20 xf21 xf22 xf23 xf24 xf25 xv26 xv27 xv28 xv29 xv30 xv31 xv32 xv33 xf34 xf35 xf36 xf37 xf38 xf39 xf40 xf41 xf42 xf43 xv44 xv45 xv46 xf47 xf48 xv49 xv50 xv51 xf52 xf53 xv54 xv55 xv56 xf57 xf58 xv59 xv60 xv61 xv62 xv63 xv64 xv65 xv66 xf67 xf68 xf69 xf70 xf71 xf72 xf73 xf74 xf75 xf76 xv77 xv78 xv79 xv80 xv81 xv82 xv83 xv84 xf85 xf86 xf87 xf88 xf89 xf90 xf91 xf92 xf93 xf94 xv95 xv96 xv97 xv98 xv99 xv100 xv101 xv102 xf103 xf104 xf105 xf106 xf107 xf108 xf109 xf110 xf111 xf112 xf113 n7 n8 n9 n10 n11 n12 n13 n14 n15 n16 n17 n18 n19 n20 n21 n22 xv130 xf131 xv132 xf133 xv134 xv135 xv136 xv137 xf138 xf139 xf140 xf141 xf142 xf143 xf144 mv0 mv1 mv2 mv3 mv4 mv5 ml6 mv7 mv8 mv9 mv10 mv11 mv12 mv13 mv14 mv15 mv16 mv17 mf18 mf19 mf20 mf21 mf22 me23 me24 me25 me26 me27 me28 me29 me30 me31 me32 me33 me34 me35 me36 me37 me38 me39 me40 me41 me42 me43 me44 me45 me46 me47 me48 me49 me50 me51 me52 me53 me54 me55 me56 me57 mf58 mf59 mf60 mf61 mf62 mf63 mf64 mf65 mf66 mf67 mf68 mf69 mf70))[i]?) [0, 1, 2, 3, 4, 5, 6, 7, 8, 9, 10, 11, 12, 13, 14, 15, 16, 17, 18, 19, 20, 21, 22, 23, 24, 25, 26, 27, 28, 29, 30, 31, 32, 33, 34, 35, 36, 37, 38, 39, 40, 41, 42, 43, 44, 45, 46, 47, 48, 49, 50, 51, 52, 53, 54, 55, 56, 57, 58, 59, 60, 61, 62, 63, 64, 65, 66, 67, 68, 69, 70, 71, 72, 73, 74, 75, 76, 77, 78, 79, 80, 81, 82, 83, 84, 85, 86, 87, 88, 89, 90, 91, 92, 93, 94, 99, 100, 101, 102, 103, 104, 105, 106, 107, 108, 109, 110, 111, 112, 113, 114, 115]) rfl (fun _ => rfl) (fun _ => rfl) ?_
    clear hP hD hS
    clear H locs
    intro v93 u
    obtain ⟨n90, n91, n92⟩ := u
    intro H locs hw (hP : va_P G vwCl (lw_W qx qm ux um cy xv0 xf1 xv2 xv3 xv4 xv5 xv6 xv7 xv8 xv9 xv10 xv11 xv12 xv13 xv14 xv15 xf16 xf17 xf18 xf19 xf20 xf21 xf22 xf23 xf24 xf25 xv26 xv27 xv28 xv29 xv30 xv31 xv32 xv33 xf34 xf35 xf36 xf37 xf38 xf39 xf40 xf41 xf42 xf43 xv44 xv45 xv46 xf47 xf48 xv49 xv50 xv51 xf52 xf53 xv54 xv55 xv56 xf57 xf58 xv59 xv60 xv61 xv62 xv63 xv64 xv65 xv66 xf67 xf68 xf69 xf70 xf71 xf72 xf73 xf74 xf75 xf76 xv77 xv78 xv79 xv80 xv81 xv82 xv83 xv84 xf85 xf86 xf87 xf88 xf89 xf90 xf91 xf92 xf93 xf94 xv95 xv96 xv97 xv98 xv99 xv100 xv101 xv102 xf103 xf104 xf105 xf106 xf107 xf108 xf109 xf110 xf111 xf112 xf113 n7 n8 n9 n10 n11 n12 n13 n14 n15 n16 n17 n18 n19 n20 n21 n22 xv130 xf131 xv132 xf133 xv134 xv135 xv136 xv137 xf138 xf139 xf140 xf141 xf142 xf143 xf144 0 mv1 mv2 mv3 mv4 mv5 ml6 mv7 mv8 mv9 mv10 mv11 mv12 mv13 mv14 mv15 mv16 mv17 n90 n91 n92 mf21 mf22 me23 me24 me25 me26 me27 me28 me29 me30 me31 me32 me33 me34 me35 me36 me37 me38 me39 me40 me41 me42 me43 me44 me45 me46 me47 me48 me49 me50 me51 me52 me53 me54 me55 me56 me57 mf58 mf59 mf60 mf61 mf62 mf63 mf64 mf65 mf66 mf67 mf68 mf69 mf70) H) (hD : va_D A (lw_W qx qm ux um cy xv0 xf1 xv2 xv3 xv4 xv5 xv6 xv7 xv8 xv9 xv10 xv11 xv12 xv13 xv14 xv15 xf16 xf17 xf18 xf19 xf20 xf21 xf22 xf23 xf24 xf25 xv26 xv27 xv28 xv29 xv30 xv31 xv32 xv33 xf34 xf35 xf36 xf37 xf38 xf39 xf40 xf41 xf42 xf43 xv44 xv45 xv46 xf47 xf48 xv49 xv50 xv51 xf52 xf53 xv54 xv55 xv56 xf57 xf58 xv59 xv60 xv61 xv62 xv63 xv64 xv65 xv66 xf67 xf68 xf69 xf70 xf71 xf72 xf73 xf74 xf75 xf76 xv77 xv78 xv79 xv80 xv81 xv82 xv83 xv84 xf85 xf86 xf87 xf88 xf89 xf90 xf91 xf92 xf93 xf94 xv95 xv96 xv97 xv98 xv99 xv100 xv101 xv102 xf103 xf104 xf105 xf106 xf107 xf108 xf109 xf110 xf111 xf112 xf113 n7 n8 n9 n10 n11 n12 n13 n14 n15 n16 n17 n18 n19 n20 n21 n22 xv130 xf131 xv132 xf133 xv134 xv135 xv136 xv137 xf138 xf139 xf140 xf141 xf142 xf143 xf144 0 mv1 mv2 mv3 mv4 mv5 ml6 mv7 mv8 mv9 mv10 mv11 mv12 mv13 mv14 mv15 mv16 mv17 n90 n91 n92 mf21 mf22 me23 me24 me25 me26 me27 me28 me29 me30 me31 me32 me33 me34 me35 me36 me37 me38 me39 me40 me41 me42 me43 me44 me45 me46 me47 me48 me49 me50 me51 me52 me53 me54 me55 me56 me57 mf58 mf59 mf60 mf61 mf62 mf63 mf64 mf65 mf66 mf67 mf68 mf69 mf70)) hS
    obtain ⟨w94, w95, w96, hw⟩ := hw
    replace w96 : mm_mr mf18 mf19 n90 n91 p1 p2 p3 := w96
    rcases hw with ⟨rfl, w97⟩ | ⟨rfl, w98⟩ | ⟨rfl, w99, w100⟩ | ⟨rfl, w101, w102⟩ | ⟨rfl, w103, w104, w105⟩ | ⟨rfl, w106, w107, w108⟩ | ⟨rfl, w109, w110, w111⟩
    · exact mm_noX w97 w41 (by decide)
    · refine lv_pop hx hb dL_law_3012 rfl ?_
      refine lv_goto (tgt := 3152) hx hb dL_law_3013 (by decide) ?_
      obtain ⟨v112, ev112⟩ : ∃ y : Int32, y = i + 6 := ⟨_, rfl⟩
      refine lv_iinc (v := v112) (lv' := [(3, .int v112), (2, .ref qm), (1, .ref qx), (0, .ref b)]) hx hb dL_law_3152 hl (k := 0) rfl (by rw [ev112]; rfl) (by decide) rfl ?_
      clear hl
      clear ls
      intro ls hl
      have rv112 : mm_rg v112 6 384 := mm_add ev112 ri mm_k6 (by decide) (by decide)
      have tv112 := mm_addEc ev112 ri mm_k6 (by decide) (k := 6) (by decide)
      refine lv_goto (tgt := 18) hx hb dL_law_3155 (by decide) ?_
      have hI2 : lw_I xv0 xf1 xv2 xv3 xv4 xv5 xv6 xv7 xv8 xv9 xv10 xv11 xv12 xv13 xv14 xv15 xf16 xf17 xf18 xf19 xf20 xf21 xf22 xf23 xf24 xf25 xv26 xv27 xv28 xv29 xv30 xv31 xv32 xv33 xf34 xf35 xf36 xf37 xf38 xf39 xf40 xf41 xf42 xf43 xv44 xv45 xv46 xf47 xf48 xv49 xv50 xv51 xf52 xf53 xv54 xv55 xv56 xf57 xf58 xv59 xv60 xv61 xv62 xv63 xv64 xv65 xv66 xf67 xf68 xf69 xf70 xf71 xf72 xf73 xf74 xf75 xf76 xv77 xv78 xv79 xv80 xv81 xv82 xv83 xv84 xf85 xf86 xf87 xf88 xf89 xf90 xf91 xf92 xf93 xf94 xv95 xv96 xv97 xv98 xv99 xv100 xv101 xv102 xf103 xf104 xf105 xf106 xf107 xf108 xf109 xf110 xf111 xf112 xf113 n7 n8 n9 n10 n11 n12 n13 n14 n15 n16 n17 n18 n19 n20 n21 n22 xv130 xf131 xv132 xf133 xv134 xv135 xv136 xv137 xf138 xf139 xf140 xf141 xf142 xf143 xf144 0 mv1 mv2 mv3 mv4 mv5 ml6 mv7 mv8 mv9 mv10 mv11 mv12 mv13 mv14 mv15 mv16 mv17 n90 n91 n92 mf21 mf22 me23 me24 me25 me26 me27 me28 me29 me30 me31 me32 me33 me34 me35 me36 me37 me38 me39 me40 me41 me42 me43 me44 me45 me46 me47 me48 me49 me50 me51 me52 me53 me54 me55 me56 me57 mf58 mf59 mf60 mf61 mf62 mf63 mf64 mf65 mf66 mf67 mf68 mf69 mf70 := ⟨rxv0, rxf1, rxv2, rxv4, rxv5, rxv6, rxv9, rxv10, rxv11, rxv12, rxv13, rxv14, rxv15, rxf16, rxf17, rxf18, rxf19, rxf20, rxf21, rxf22, rxf23, rxf24, rxf25, rxv27, rxv28, rxv29, rxv30, rxv31, rxv32, rxv33, rxf34, rxf35, rxf36, rxf37, rxf38, rxf39, rxf40, rxf41, rxf42, rxf43, rxv44, rxv46, rxf47, rxf48, rxv49, rxv51, rxf52, rxf53, rxv54, rxv56, rxf57, rxf58, rxv60, rxv61, rxv62, rxv63, rxv64, rxv65, rxv66, rxf67, rxf68, rxf69, rxf70, rxf71, rxf72, rxf73, rxf74, rxf75, rxf76, rxv78, rxv79, rxv80, rxv81, rxv82, rxv83, rxv84, rxf85, rxf86, rxf87, rxf88, rxf89, rxf90, rxf91, rxf92, rxf93, rxf94, rxv96, rxv97, rxv98, rxv99, rxv100, rxv101, rxv102, rxf103, rxf104, rxf105, rxf106, rxf107, rxf108, rxf109, rxf110, rxf111, rxf112, rxf113, w24, w25, w26, w27, w28, w29, w30, w31, w32, w33, w34, w35, rxv130, rxv132, rxf133, rxv134, rxv136, rxf138, rxf140, rmv1, rmv2, rmv3, rmv4, rmv7, rmv11, w94, w95, rmf22, rme23, rme24, rme25, rme26, rme27, rme28, rme29, rme30, rme31, rme32, rme33, rme34, rme35, rme36, rme37, rme38, rme39, rme40, rme41, rme42, rme43, rme44, rme45, rme46, rme47, rme48, rme49, rme50, rme51, rme52, rme53, rme54, rme55, rme56, rme57, rmf58, rmf59, rmf60, rmf61, rmf62, rmf63, rmf64, rmf65, rmf66, rmf67, rmf68, rmf69, wI179, wI180, wI181, wI182, wI183, wI184, wI185, wI186, wI187, wI188, wI189, wI190, wI191, wI192, wI193, wI194, wI195, wI196, wI197, wI198, wI199, (mm_rj_u wI200 w36 w96 (by decide)), (mm_rj_u wI201 w37 w96 (by decide)), (mm_rj_u wI202 w38 w96 (by decide)), (mm_rj_u wI203 w39 w96 (by decide))⟩
      exact ih v112 ev112 xv0 xf1 xv2 xv3 xv4 xv5 xv6 xv7 xv8 xv9 xv10 xv11 xv12 xv13 xv14 xv15 xf16 xf17 xf18 xf19 xf20 xf21 xf22 xf23 xf24 xf25 xv26 xv27 xv28 xv29 xv30 xv31 xv32 xv33 xf34 xf35 xf36 xf37 xf38 xf39 xf40 xf41 xf42 xf43 xv44 xv45 xv46 xf47 xf48 xv49 xv50 xv51 xf52 xf53 xv54 xv55 xv56 xf57 xf58 xv59 xv60 xv61 xv62 xv63 xv64 xv65 xv66 xf67 xf68 xf69 xf70 xf71 xf72 xf73 xf74 xf75 xf76 xv77 xv78 xv79 xv80 xv81 xv82 xv83 xv84 xf85 xf86 xf87 xf88 xf89 xf90 xf91 xf92 xf93 xf94 xv95 xv96 xv97 xv98 xv99 xv100 xv101 xv102 xf103 xf104 xf105 xf106 xf107 xf108 xf109 xf110 xf111 xf112 xf113 n7 n8 n9 n10 n11 n12 n13 n14 n15 n16 n17 n18 n19 n20 n21 n22 xv130 xf131 xv132 xf133 xv134 xv135 xv136 xv137 xf138 xf139 xf140 xf141 xf142 xf143 xf144 0 mv1 mv2 mv3 mv4 mv5 ml6 mv7 mv8 mv9 mv10 mv11 mv12 mv13 mv14 mv15 mv16 mv17 n90 n91 n92 mf21 mf22 me23 me24 me25 me26 me27 me28 me29 me30 me31 me32 me33 me34 me35 me36 me37 me38 me39 me40 me41 me42 me43 me44 me45 me46 me47 me48 me49 me50 me51 me52 me53 me54 me55 me56 me57 mf58 mf59 mf60 mf61 mf62 mf63 mf64 mf65 mf66 mf67 mf68 mf69 mf70 hI2 H locs hP hD hS ls (lv_sub hl [0, 1, 2, 3] rfl)
    · exact mm_noX w99 w41 (by decide)
    · exact mm_noX w101 w41 (by decide)
    · exact mm_noX w103 w41 (by decide)
    · exact mm_noX w106 w41 (by decide)
    · exact mm_noX w109 w41 (by decide)
  · refine lv_pop hx hb dL_law_2992 rfl ?_
    refine lv_aload_n hx hb dL_law_2993 rfl (lv_at hl 1 rfl) ?_
    refine lv_aload_n hx hb dL_law_2994 rfl (lv_at hl 3 rfl) ?_
    refine lv_iload_n hx hb dL_law_2995 rfl (lv_at hl 0 rfl) ?_
    refine lv_iconst (v := 1) hx hb dL_law_2996 (by decide) ?_
    refine lv_iadd hx hb dL_law_2997 ?_
    refine lv_topi (fun v113 ev113 => ?_)
    have rv113 : mm_rg v113 1 379 := mm_add ev113 ri mm_k1 (by decide) (by decide)
    have tv113 := mm_addEc ev113 ri mm_k1 (by decide) (k := 1) (by decide)
    refine va_sld hx hb hX hbl hbA hS (mm_inL tv113 ri hiL (by decide)) dL_law_2998 ?_
    refine lv_topi (fun v114 ev114 => ?_)
    obtain rfl : p1 = v114 := ep1.trans (by rw [ev114, ev113])
    refine lv_aload_n hx hb dL_law_2999 rfl (lv_at hl 3 rfl) ?_
    refine lv_iload_n hx hb dL_law_3000 rfl (lv_at hl 0 rfl) ?_
    refine lv_iconst (v := 2) hx hb dL_law_3001 (by decide) ?_
    refine lv_iadd hx hb dL_law_3002 ?_
    refine lv_topi (fun v115 ev115 => ?_)
    have rv115 : mm_rg v115 2 380 := mm_add ev115 ri mm_k2 (by decide) (by decide)
    have tv115 := mm_addEc ev115 ri mm_k2 (by decide) (k := 2) (by decide)
    refine va_sld hx hb hX hbl hbA hS (mm_inL tv115 ri hiL (by decide)) dL_law_3003 ?_
    refine lv_topi (fun v116 ev116 => ?_)
    obtain rfl : p2 = v116 := ep2.trans (by rw [ev116, ev115])
    refine lv_aload_n hx hb dL_law_3004 rfl (lv_at hl 3 rfl) ?_
    refine lv_iload_n hx hb dL_law_3005 rfl (lv_at hl 0 rfl) ?_
    refine lv_iconst (v := 3) hx hb dL_law_3006 (by decide) ?_
    refine lv_iadd hx hb dL_law_3007 ?_
    refine lv_topi (fun v117 ev117 => ?_)
    have rv117 : mm_rg v117 3 381 := mm_add ev117 ri mm_k3 (by decide) (by decide)
    have tv117 := mm_addEc ev117 ri mm_k3 (by decide) (k := 3) (by decide)
    refine va_sld hx hb hX hbl hbA hS (mm_inL tv117 ri hiL (by decide)) dL_law_3008 ?_
    refine lv_topi (fun v118 ev118 => ?_)
    obtain rfl : p3 = v118 := ep3.trans (by rw [ev118, ev117])
    refine mm_fini (va_runV (As := [.int p1, .int p2, .int p3]) (rest := []) ⟨hx, hb, hml, hown, hts⟩ (C385_X12_row l G cy H.size qm p1 p2 p3 mv0 (um 0) (um 1) (um 2) (um 3) (um 4) mv1 mv2 mv3 mv4 mv5 ml6 mv7 mv8 mv9 mv10 (um 5) (um 6) (um 7) (um 8) (um 9) (um 10) (um 11) (um 12) (um 13) (um 14) (um 15) (um 16) (um 17) mv11 mv12 mv13 mv14 mv15 mv16 (um 18) mv17 (um 19) mf18 mf19 mf20 rmf18 rmf19) (cwV 3 hts (mm_gV mm_w1686 mm_w1687 mm_w1688 mm_w5 mm_w1689) rfl rfl rfl hd_X12_row ⟨by rw [hRf]; exact Nat.le_of_ble_eq_true rfl, by rw [hRl]; exact Nat.le_of_ble_eq_true rfl⟩) (mm_preV hK hZ hS hA hP hD [95, 96, 97, 98] rfl rfl 95 rfl rfl rfl) rfl rfl hl.1 rfl (lv_room (Nat.le_of_ble_eq_true rfl)) dL_law_3009 ⟨by rw [hRc]; exact Nat.le_of_ble_eq_true rfl, by rw [hRs]; exact Nat.le_of_ble_eq_true rfl⟩) hP hD hS hA (fun u : (Nat → Int32) × (Nat → Int32) × (Nat → Int64) => (lw_W qx qm ux um cy xv0 xf1 xv2 xv3 xv4 xv5 xv6 xv7 xv8 xv9 xv10 xv11 xv12 xv13 xv14 xv15 xf16 xf17 xf18 xf19 xf20 xf21 xf22 xf23 xf24 xf25 xv26 xv27 xv28 xv29 xv30 xv31 xv32 xv33 xf34 xf35 xf36 xf37 xf38 xf39 xf40 xf41 xf42 xf43 xv44 xv45 xv46 xf47 xf48 xv49 xv50 xv51 xf52 xf53 xv54 xv55 xv56 xf57 xf58 xv59 xv60 xv61 xv62 xv63 xv64 xv65 xv66 xf67 xf68 xf69 xf70 xf71 xf72 xf73 xf74 xf75 xf76 xv77 xv78 xv79 xv80 xv81 xv82 xv83 xv84 xf85 xf86 xf87 xf88 xf89 xf90 xf91 xf92 xf93 xf94 xv95 xv96 xv97 xv98 xv99 xv100 xv101 xv102 xf103 xf104 xf105 xf106 xf107 xf108 xf109 xf110 xf111 xf112 xf113 n7 n8 n9 n10 n11 n12 n13 n14 n15 n16 n17 n18 n19 n20 n21 n22 xv130 xf131 xv132 xf133 xv134 xv135 xv136 xv137 xf138 xf139 xf140 xf141 xf142 xf143 xf144 0 mv1 mv2 mv3 mv4 mv5 ml6 mv7 mv8 mv9 mv10 mv11 mv12 mv13 mv14 mv15 mv16 mv17 u.1 u.2.1 u.2.2 mf21 mf22 me23 me24 me25 me26 me27 me28 me29 me30 me31 me32 me33 me34 me35 me36 me37 me38 me39 me40 me41 me42 me43 me44 me45 me46 me47 me48 me49 me50 me51 me52 me53 me54 me55 me56 me57 mf58 mf59 mf60 mf61 mf62 mf63 mf64 mf65 mf66 mf67 mf68 mf69 mf70)) [95, 96, 97, 98] [0, 1, 2, 3, 4, 5, 6, 7, 8, 9, 10, 11, 12, 13, 14, 15, 16, 17, 18, 19, 20, 21, 22, 23, 24, 25, 26, 27, 28, 29, 30, 31, 32, 33, 34, 35, 36, 37, 38, 39, 40, 41, 42, 43, 44, 45, 46, 47, 48, 49, 50, 51, 52, 53, 54, 55, 56, 57, 58, 59, 60, 61, 62, 63, 64, 65, 66, 67, 68, 69, 70, 71, 72, 73, 74, 75, 76, 77, 78, 79, 80, 81, 82, 83, 84, 85, 86, 87, 88, 89, 90, 91, 92, 93, 94, 99, 100, 101, 102, 103, 104, 105, 106, 107, 108, 109, 110, 111, 112, 113, 114, 115] (n := 116) (fun _ => rfl) (by decide +kernel) (by decide +kernel) rfl (fun _ => rfl) (wr := List.filterMap (fun i => ((lw_W qx qm ux um cy xv0 xf1 xv2 xv3 xv4 xv5 xv6 xv7 xv8 xv9 xv10 xv11 xv12 xv13 xv14 xv15 xf16 xf17 xf18 xf19 xf20 xf21 xf22 xf23 xf24 xf25 xv26 xv27 xv28 xv29 xv30 xv31 xv32 xv33 xf34 xf35 xf36 xf37 xf38 xf39 xf40 xf41 xf42 xf43 xv44 xv45 xv46 xf47 xf48 xv49 xv50 xv51 xf52 xf53 xv54 xv55 xv56 xf57 xf58 xv59 xv60 xv61 xv62 xv63 xv64 xv65 xv66 xf67 xf68 xf69 xf70 xf71 xf72 xf73 xf74 xf75 xf76 xv77 xv78 xv79 xv80 xv81 xv82 xv83 xv84 xf85 xf86 xf87 xf88 xf89 xf90 xf91 xf92 xf93 xf94 xv95 xv96 xv97 xv98 xv99 xv100 xv101 xv102 xf103 xf104 xf105 xf106 xf107 xf108 xf109 xf110 xf111 xf112 xf113 n7 n8 n9 n10 n11 n12 n13 n14 n15 n16 n17 n18 n19 n20 n21 n22 xv130 xf131 xv132 xf133 xv134 xv135 xv136 xv137 xf138 xf139 xf140 xf141 xf142 xf143 xf144 mv0 mv1 mv2 mv3 mv4 mv5 ml6 mv7 mv8 mv9 mv10 mv11 mv12 mv13 mv14 mv15 mv16 mv17 mf18 mf19 mf20 mf21 mf22 me23 me24 me25 me26 me27 me28 me29 me30 me31 me32 me33 me34 me35 me36 me37 me38 me39 me40 me41 me42 me43 me44 me45 me46 me47 me48 me49 me50 me51 me52 me53 me54 me55 me56 me57 mf58 mf59 mf60 mf61 mf62 mf63 mf64 mf65 mf66 mf67 mf68 mf69 mf70))[i]?) [0, 1, 2, 3, 4, 5, 6, 7, 8, 9, 10, 11, 12, 13, 14, 15, 16, 17, 18, 19, 20, 21, 22, 23, 24, 25, 26, 27, 28, 29, 30, 31, 32, 33, 34, 35, 36, 37, 38, 39, 40, 41, 42, 43, 44, 45, 46, 47, 48, 49, 50, 51, 52, 53, 54, 55, 56, 57, 58, 59, 60, 61, 62, 63, 64, 65, 66, 67, 68, 69, 70, 71, 72, 73, 74, 75, 76, 77, 78, 79, 80, 81, 82, 83, 84, 85, 86, 87, 88, 89, 90, 91, 92, 93, 94, 99, 100, 101, 102, 103, 104, 105, 106, 107, 108, 109, 110, 111, 112, 113, 114, 115]) rfl (fun _ => rfl) (fun _ => rfl) ?_
    clear hP hD hS
    clear H locs
    intro v122 u
    obtain ⟨n119, n120, n121⟩ := u
    intro H locs hw (hP : va_P G vwCl (lw_W qx qm ux um cy xv0 xf1 xv2 xv3 xv4 xv5 xv6 xv7 xv8 xv9 xv10 xv11 xv12 xv13 xv14 xv15 xf16 xf17 xf18 xf19 xf20 xf21 xf22 xf23 xf24 xf25 xv26 xv27 xv28 xv29 xv30 xv31 xv32 xv33 xf34 xf35 xf36 xf37 xf38 xf39 xf40 xf41 xf42 xf43 xv44 xv45 xv46 xf47 xf48 xv49 xv50 xv51 xf52 xf53 xv54 xv55 xv56 xf57 xf58 xv59 xv60 xv61 xv62 xv63 xv64 xv65 xv66 xf67 xf68 xf69 xf70 xf71 xf72 xf73 xf74 xf75 xf76 xv77 xv78 xv79 xv80 xv81 xv82 xv83 xv84 xf85 xf86 xf87 xf88 xf89 xf90 xf91 xf92 xf93 xf94 xv95 xv96 xv97 xv98 xv99 xv100 xv101 xv102 xf103 xf104 xf105 xf106 xf107 xf108 xf109 xf110 xf111 xf112 xf113 n7 n8 n9 n10 n11 n12 n13 n14 n15 n16 n17 n18 n19 n20 n21 n22 xv130 xf131 xv132 xf133 xv134 xv135 xv136 xv137 xf138 xf139 xf140 xf141 xf142 xf143 xf144 0 mv1 mv2 mv3 mv4 mv5 ml6 mv7 mv8 mv9 mv10 mv11 mv12 mv13 mv14 mv15 mv16 mv17 n119 n120 n121 mf21 mf22 me23 me24 me25 me26 me27 me28 me29 me30 me31 me32 me33 me34 me35 me36 me37 me38 me39 me40 me41 me42 me43 me44 me45 me46 me47 me48 me49 me50 me51 me52 me53 me54 me55 me56 me57 mf58 mf59 mf60 mf61 mf62 mf63 mf64 mf65 mf66 mf67 mf68 mf69 mf70) H) (hD : va_D A (lw_W qx qm ux um cy xv0 xf1 xv2 xv3 xv4 xv5 xv6 xv7 xv8 xv9 xv10 xv11 xv12 xv13 xv14 xv15 xf16 xf17 xf18 xf19 xf20 xf21 xf22 xf23 xf24 xf25 xv26 xv27 xv28 xv29 xv30 xv31 xv32 xv33 xf34 xf35 xf36 xf37 xf38 xf39 xf40 xf41 xf42 xf43 xv44 xv45 xv46 xf47 xf48 xv49 xv50 xv51 xf52 xf53 xv54 xv55 xv56 xf57 xf58 xv59 xv60 xv61 xv62 xv63 xv64 xv65 xv66 xf67 xf68 xf69 xf70 xf71 xf72 xf73 xf74 xf75 xf76 xv77 xv78 xv79 xv80 xv81 xv82 xv83 xv84 xf85 xf86 xf87 xf88 xf89 xf90 xf91 xf92 xf93 xf94 xv95 xv96 xv97 xv98 xv99 xv100 xv101 xv102 xf103 xf104 xf105 xf106 xf107 xf108 xf109 xf110 xf111 xf112 xf113 n7 n8 n9 n10 n11 n12 n13 n14 n15 n16 n17 n18 n19 n20 n21 n22 xv130 xf131 xv132 xf133 xv134 xv135 xv136 xv137 xf138 xf139 xf140 xf141 xf142 xf143 xf144 0 mv1 mv2 mv3 mv4 mv5 ml6 mv7 mv8 mv9 mv10 mv11 mv12 mv13 mv14 mv15 mv16 mv17 n119 n120 n121 mf21 mf22 me23 me24 me25 me26 me27 me28 me29 me30 me31 me32 me33 me34 me35 me36 me37 me38 me39 me40 me41 me42 me43 me44 me45 me46 me47 me48 me49 me50 me51 me52 me53 me54 me55 me56 me57 mf58 mf59 mf60 mf61 mf62 mf63 mf64 mf65 mf66 mf67 mf68 mf69 mf70)) hS
    obtain ⟨w123, w124, w125, hw⟩ := hw
    replace w125 : mm_mr mf18 mf19 n119 n120 p1 p2 p3 := w125
    rcases hw with ⟨rfl, w126⟩ | ⟨rfl, w127⟩ | ⟨rfl, w128, w129⟩ | ⟨rfl, w130, w131⟩ | ⟨rfl, w132, w133, w134⟩ | ⟨rfl, w135, w136, w137⟩ | ⟨rfl, w138, w139, w140⟩
    · exact mm_noX w126 w42 (by decide)
    · exact mm_noX w127 w42 (by decide)
    · refine lv_pop hx hb dL_law_3012 rfl ?_
      refine lv_goto (tgt := 3152) hx hb dL_law_3013 (by decide) ?_
      obtain ⟨v141, ev141⟩ : ∃ y : Int32, y = i + 6 := ⟨_, rfl⟩
      refine lv_iinc (v := v141) (lv' := [(3, .int v141), (2, .ref qm), (1, .ref qx), (0, .ref b)]) hx hb dL_law_3152 hl (k := 0) rfl (by rw [ev141]; rfl) (by decide) rfl ?_
      clear hl
      clear ls
      intro ls hl
      have rv141 : mm_rg v141 6 384 := mm_add ev141 ri mm_k6 (by decide) (by decide)
      have tv141 := mm_addEc ev141 ri mm_k6 (by decide) (k := 6) (by decide)
      refine lv_goto (tgt := 18) hx hb dL_law_3155 (by decide) ?_
      have hI2 : lw_I xv0 xf1 xv2 xv3 xv4 xv5 xv6 xv7 xv8 xv9 xv10 xv11 xv12 xv13 xv14 xv15 xf16 xf17 xf18 xf19 xf20 xf21 xf22 xf23 xf24 xf25 xv26 xv27 xv28 xv29 xv30 xv31 xv32 xv33 xf34 xf35 xf36 xf37 xf38 xf39 xf40 xf41 xf42 xf43 xv44 xv45 xv46 xf47 xf48 xv49 xv50 xv51 xf52 xf53 xv54 xv55 xv56 xf57 xf58 xv59 xv60 xv61 xv62 xv63 xv64 xv65 xv66 xf67 xf68 xf69 xf70 xf71 xf72 xf73 xf74 xf75 xf76 xv77 xv78 xv79 xv80 xv81 xv82 xv83 xv84 xf85 xf86 xf87 xf88 xf89 xf90 xf91 xf92 xf93 xf94 xv95 xv96 xv97 xv98 xv99 xv100 xv101 xv102 xf103 xf104 xf105 xf106 xf107 xf108 xf109 xf110 xf111 xf112 xf113 n7 n8 n9 n10 n11 n12 n13 n14 n15 n16 n17 n18 n19 n20 n21 n22 xv130 xf131 xv132 xf133 xv134 xv135 xv136 xv137 xf138 xf139 xf140 xf141 xf142 xf143 xf144 0 mv1 mv2 mv3 mv4 mv5 ml6 mv7 mv8 mv9 mv10 mv11 mv12 mv13 mv14 mv15 mv16 mv17 n119 n120 n121 mf21 mf22 me23 me24 me25 me26 me27 me28 me29 me30 me31 me32 me33 me34 me35 me36 me37 me38 me39 me40 me41 me42 me43 me44 me45 me46 me47 me48 me49 me50 me51 me52 me53 me54 me55 me56 me57 mf58 mf59 mf60 mf61 mf62 mf63 mf64 mf65 mf66 mf67 mf68 mf69 mf70 := ⟨rxv0, rxf1, rxv2, rxv4, rxv5, rxv6, rxv9, rxv10, rxv11, rxv12, rxv13, rxv14, rxv15, rxf16, rxf17, rxf18, rxf19, rxf20, rxf21, rxf22, rxf23, rxf24, rxf25, rxv27, rxv28, rxv29, rxv30, rxv31, rxv32, rxv33, rxf34, rxf35, rxf36, rxf37, rxf38, rxf39, rxf40, rxf41, rxf42, rxf43, rxv44, rxv46, rxf47, rxf48, rxv49, rxv51, rxf52, rxf53, rxv54, rxv56, rxf57, rxf58, rxv60, rxv61, rxv62, rxv63, rxv64, rxv65, rxv66, rxf67, rxf68, rxf69, rxf70, rxf71, rxf72, rxf73, rxf74, rxf75, rxf76, rxv78, rxv79, rxv80, rxv81, rxv82, rxv83, rxv84, rxf85, rxf86, rxf87, rxf88, rxf89, rxf90, rxf91, rxf92, rxf93, rxf94, rxv96, rxv97, rxv98, rxv99, rxv100, rxv101, rxv102, rxf103, rxf104, rxf105, rxf106, rxf107, rxf108, rxf109, rxf110, rxf111, rxf112, rxf113, w24, w25, w26, w27, w28, w29, w30, w31, w32, w33, w34, w35, rxv130, rxv132, rxf133, rxv134, rxv136, rxf138, rxf140, rmv1, rmv2, rmv3, rmv4, rmv7, rmv11, w123, w124, rmf22, rme23, rme24, rme25, rme26, rme27, rme28, rme29, rme30, rme31, rme32, rme33, rme34, rme35, rme36, rme37, rme38, rme39, rme40, rme41, rme42, rme43, rme44, rme45, rme46, rme47, rme48, rme49, rme50, rme51, rme52, rme53, rme54, rme55, rme56, rme57, rmf58, rmf59, rmf60, rmf61, rmf62, rmf63, rmf64, rmf65, rmf66, rmf67, rmf68, rmf69, wI179, wI180, wI181, wI182, wI183, wI184, wI185, wI186, wI187, wI188, wI189, wI190, wI191, wI192, wI193, wI194, wI195, wI196, wI197, wI198, wI199, (mm_rj_u wI200 w36 w125 (by decide)), (mm_rj_u wI201 w37 w125 (by decide)), (mm_rj_u wI202 w38 w125 (by decide)), (mm_rj_u wI203 w39 w125 (by decide))⟩
      exact ih v141 ev141 xv0 xf1 xv2 xv3 xv4 xv5 xv6 xv7 xv8 xv9 xv10 xv11 xv12 xv13 xv14 xv15 xf16 xf17 xf18 xf19 xf20 xf21 xf22 xf23 xf24 xf25 xv26 xv27 xv28 xv29 xv30 xv31 xv32 xv33 xf34 xf35 xf36 xf37 xf38 xf39 xf40 xf41 xf42 xf43 xv44 xv45 xv46 xf47 xf48 xv49 xv50 xv51 xf52 xf53 xv54 xv55 xv56 xf57 xf58 xv59 xv60 xv61 xv62 xv63 xv64 xv65 xv66 xf67 xf68 xf69 xf70 xf71 xf72 xf73 xf74 xf75 xf76 xv77 xv78 xv79 xv80 xv81 xv82 xv83 xv84 xf85 xf86 xf87 xf88 xf89 xf90 xf91 xf92 xf93 xf94 xv95 xv96 xv97 xv98 xv99 xv100 xv101 xv102 xf103 xf104 xf105 xf106 xf107 xf108 xf109 xf110 xf111 xf112 xf113 n7 n8 n9 n10 n11 n12 n13 n14 n15 n16 n17 n18 n19 n20 n21 n22 xv130 xf131 xv132 xf133 xv134 xv135 xv136 xv137 xf138 xf139 xf140 xf141 xf142 xf143 xf144 0 mv1 mv2 mv3 mv4 mv5 ml6 mv7 mv8 mv9 mv10 mv11 mv12 mv13 mv14 mv15 mv16 mv17 n119 n120 n121 mf21 mf22 me23 me24 me25 me26 me27 me28 me29 me30 me31 me32 me33 me34 me35 me36 me37 me38 me39 me40 me41 me42 me43 me44 me45 me46 me47 me48 me49 me50 me51 me52 me53 me54 me55 me56 me57 mf58 mf59 mf60 mf61 mf62 mf63 mf64 mf65 mf66 mf67 mf68 mf69 mf70 hI2 H locs hP hD hS ls (lv_sub hl [0, 1, 2, 3] rfl)
    · exact mm_noX w131 w43 (by decide)
    · exact mm_noX w133 w43 (by decide)
    · exact mm_noX w136 w43 (by decide)
    · exact mm_noX w139 w43 (by decide)
  · refine lv_pop hx hb dL_law_2992 rfl ?_
    refine lv_aload_n hx hb dL_law_2993 rfl (lv_at hl 1 rfl) ?_
    refine lv_aload_n hx hb dL_law_2994 rfl (lv_at hl 3 rfl) ?_
    refine lv_iload_n hx hb dL_law_2995 rfl (lv_at hl 0 rfl) ?_
    refine lv_iconst (v := 1) hx hb dL_law_2996 (by decide) ?_
    refine lv_iadd hx hb dL_law_2997 ?_
    refine lv_topi (fun v142 ev142 => ?_)
    have rv142 : mm_rg v142 1 379 := mm_add ev142 ri mm_k1 (by decide) (by decide)
    have tv142 := mm_addEc ev142 ri mm_k1 (by decide) (k := 1) (by decide)
    refine va_sld hx hb hX hbl hbA hS (mm_inL tv142 ri hiL (by decide)) dL_law_2998 ?_
    refine lv_topi (fun v143 ev143 => ?_)
    obtain rfl : p1 = v143 := ep1.trans (by rw [ev143, ev142])
    refine lv_aload_n hx hb dL_law_2999 rfl (lv_at hl 3 rfl) ?_
    refine lv_iload_n hx hb dL_law_3000 rfl (lv_at hl 0 rfl) ?_
    refine lv_iconst (v := 2) hx hb dL_law_3001 (by decide) ?_
    refine lv_iadd hx hb dL_law_3002 ?_
    refine lv_topi (fun v144 ev144 => ?_)
    have rv144 : mm_rg v144 2 380 := mm_add ev144 ri mm_k2 (by decide) (by decide)
    have tv144 := mm_addEc ev144 ri mm_k2 (by decide) (k := 2) (by decide)
    refine va_sld hx hb hX hbl hbA hS (mm_inL tv144 ri hiL (by decide)) dL_law_3003 ?_
    refine lv_topi (fun v145 ev145 => ?_)
    obtain rfl : p2 = v145 := ep2.trans (by rw [ev145, ev144])
    refine lv_aload_n hx hb dL_law_3004 rfl (lv_at hl 3 rfl) ?_
    refine lv_iload_n hx hb dL_law_3005 rfl (lv_at hl 0 rfl) ?_
    refine lv_iconst (v := 3) hx hb dL_law_3006 (by decide) ?_
    refine lv_iadd hx hb dL_law_3007 ?_
    refine lv_topi (fun v146 ev146 => ?_)
    have rv146 : mm_rg v146 3 381 := mm_add ev146 ri mm_k3 (by decide) (by decide)
    have tv146 := mm_addEc ev146 ri mm_k3 (by decide) (k := 3) (by decide)
    refine va_sld hx hb hX hbl hbA hS (mm_inL tv146 ri hiL (by decide)) dL_law_3008 ?_
    refine lv_topi (fun v147 ev147 => ?_)
    obtain rfl : p3 = v147 := ep3.trans (by rw [ev147, ev146])
    refine mm_fini (va_runV (As := [.int p1, .int p2, .int p3]) (rest := []) ⟨hx, hb, hml, hown, hts⟩ (C385_X12_row l G cy H.size qm p1 p2 p3 mv0 (um 0) (um 1) (um 2) (um 3) (um 4) mv1 mv2 mv3 mv4 mv5 ml6 mv7 mv8 mv9 mv10 (um 5) (um 6) (um 7) (um 8) (um 9) (um 10) (um 11) (um 12) (um 13) (um 14) (um 15) (um 16) (um 17) mv11 mv12 mv13 mv14 mv15 mv16 (um 18) mv17 (um 19) mf18 mf19 mf20 rmf18 rmf19) (cwV 3 hts (mm_gV mm_w1686 mm_w1687 mm_w1688 mm_w5 mm_w1689) rfl rfl rfl hd_X12_row ⟨by rw [hRf]; exact Nat.le_of_ble_eq_true rfl, by rw [hRl]; exact Nat.le_of_ble_eq_true rfl⟩) (mm_preV hK hZ hS hA hP hD [95, 96, 97, 98] rfl rfl 95 rfl rfl rfl) rfl rfl hl.1 rfl (lv_room (Nat.le_of_ble_eq_true rfl)) dL_law_3009 ⟨by rw [hRc]; exact Nat.le_of_ble_eq_true rfl, by rw [hRs]; exact Nat.le_of_ble_eq_true rfl⟩) hP hD hS hA (fun u : (Nat → Int32) × (Nat → Int32) × (Nat → Int64) => (lw_W qx qm ux um cy xv0 xf1 xv2 xv3 xv4 xv5 xv6 xv7 xv8 xv9 xv10 xv11 xv12 xv13 xv14 xv15 xf16 xf17 xf18 xf19 xf20 xf21 xf22 xf23 xf24 xf25 xv26 xv27 xv28 xv29 xv30 xv31 xv32 xv33 xf34 xf35 xf36 xf37 xf38 xf39 xf40 xf41 xf42 xf43 xv44 xv45 xv46 xf47 xf48 xv49 xv50 xv51 xf52 xf53 xv54 xv55 xv56 xf57 xf58 xv59 xv60 xv61 xv62 xv63 xv64 xv65 xv66 xf67 xf68 xf69 xf70 xf71 xf72 xf73 xf74 xf75 xf76 xv77 xv78 xv79 xv80 xv81 xv82 xv83 xv84 xf85 xf86 xf87 xf88 xf89 xf90 xf91 xf92 xf93 xf94 xv95 xv96 xv97 xv98 xv99 xv100 xv101 xv102 xf103 xf104 xf105 xf106 xf107 xf108 xf109 xf110 xf111 xf112 xf113 n7 n8 n9 n10 n11 n12 n13 n14 n15 n16 n17 n18 n19 n20 n21 n22 xv130 xf131 xv132 xf133 xv134 xv135 xv136 xv137 xf138 xf139 xf140 xf141 xf142 xf143 xf144 0 mv1 mv2 mv3 mv4 mv5 ml6 mv7 mv8 mv9 mv10 mv11 mv12 mv13 mv14 mv15 mv16 mv17 u.1 u.2.1 u.2.2 mf21 mf22 me23 me24 me25 me26 me27 me28 me29 me30 me31 me32 me33 me34 me35 me36 me37 me38 me39 me40 me41 me42 me43 me44 me45 me46 me47 me48 me49 me50 me51 me52 me53 me54 me55 me56 me57 mf58 mf59 mf60 mf61 mf62 mf63 mf64 mf65 mf66 mf67 mf68 mf69 mf70)) [95, 96, 97, 98] [0, 1, 2, 3, 4, 5, 6, 7, 8, 9, 10, 11, 12, 13, 14, 15, 16, 17, 18, 19, 20, 21, 22, 23, 24, 25, 26, 27, 28, 29, 30, 31, 32, 33, 34, 35, 36, 37, 38, 39, 40, 41, 42, 43, 44, 45, 46, 47, 48, 49, 50, 51, 52, 53, 54, 55, 56, 57, 58, 59, 60, 61, 62, 63, 64, 65, 66, 67, 68, 69, 70, 71, 72, 73, 74, 75, 76, 77, 78, 79, 80, 81, 82, 83, 84, 85, 86, 87, 88, 89, 90, 91, 92, 93, 94, 99, 100, 101, 102, 103, 104, 105, 106, 107, 108, 109, 110, 111, 112, 113, 114, 115] (n := 116) (fun _ => rfl) (by decide +kernel) (by decide +kernel) rfl (fun _ => rfl) (wr := List.filterMap (fun i => ((lw_W qx qm ux um cy xv0 xf1 xv2 xv3 xv4 xv5 xv6 xv7 xv8 xv9 xv10 xv11 xv12 xv13 xv14 xv15 xf16 xf17 xf18 xf19 xf20 xf21 xf22 xf23 xf24 xf25 xv26 xv27 xv28 xv29 xv30 xv31 xv32 xv33 xf34 xf35 xf36 xf37 xf38 xf39 xf40 xf41 xf42 xf43 xv44 xv45 xv46 xf47 xf48 xv49 xv50 xv51 xf52 xf53 xv54 xv55 xv56 xf57 xf58 xv59 xv60 xv61 xv62 xv63 xv64 xv65 xv66 xf67 xf68 xf69 xf70 xf71 xf72 xf73 xf74 xf75 xf76 xv77 xv78 xv79 xv80 xv81 xv82 xv83 xv84 xf85 xf86 xf87 xf88 xf89 xf90 xf91 xf92 xf93 xf94 xv95 xv96 xv97 xv98 xv99 xv100 xv101 xv102 xf103 xf104 xf105 xf106 xf107 xf108 xf109 xf110 xf111 xf112 xf113 n7 n8 n9 n10 n11 n12 n13 n14 n15 n16 n17 n18 n19 n20 n21 n22 xv130 xf131 xv132 xf133 xv134 xv135 xv136 xv137 xf138 xf139 xf140 xf141 xf142 xf143 xf144 mv0 mv1 mv2 mv3 mv4 mv5 ml6 mv7 mv8 mv9 mv10 mv11 mv12 mv13 mv14 mv15 mv16 mv17 mf18 mf19 mf20 mf21 mf22 me23 me24 me25 me26 me27 me28 me29 me30 me31 me32 me33 me34 me35 me36 me37 me38 me39 me40 me41 me42 me43 me44 me45 me46 me47 me48 me49 me50 me51 me52 me53 me54 me55 me56 me57 mf58 mf59 mf60 mf61 mf62 mf63 mf64 mf65 mf66 mf67 mf68 mf69 mf70))[i]?) [0, 1, 2, 3, 4, 5, 6, 7, 8, 9, 10, 11, 12, 13, 14, 15, 16, 17, 18, 19, 20, 21, 22, 23, 24, 25, 26, 27, 28, 29, 30, 31, 32, 33, 34, 35, 36, 37, 38, 39, 40, 41, 42, 43, 44, 45, 46, 47, 48, 49, 50, 51, 52, 53, 54, 55, 56, 57, 58, 59, 60, 61, 62, 63, 64, 65, 66, 67, 68, 69, 70, 71, 72, 73, 74, 75, 76, 77, 78, 79, 80, 81, 82, 83, 84, 85, 86, 87, 88, 89, 90, 91, 92, 93, 94, 99, 100, 101, 102, 103, 104, 105, 106, 107, 108, 109, 110, 111, 112, 113, 114, 115]) rfl (fun _ => rfl) (fun _ => rfl) ?_
    clear hP hD hS
    clear H locs
    intro v151 u
    obtain ⟨n148, n149, n150⟩ := u
    intro H locs hw (hP : va_P G vwCl (lw_W qx qm ux um cy xv0 xf1 xv2 xv3 xv4 xv5 xv6 xv7 xv8 xv9 xv10 xv11 xv12 xv13 xv14 xv15 xf16 xf17 xf18 xf19 xf20 xf21 xf22 xf23 xf24 xf25 xv26 xv27 xv28 xv29 xv30 xv31 xv32 xv33 xf34 xf35 xf36 xf37 xf38 xf39 xf40 xf41 xf42 xf43 xv44 xv45 xv46 xf47 xf48 xv49 xv50 xv51 xf52 xf53 xv54 xv55 xv56 xf57 xf58 xv59 xv60 xv61 xv62 xv63 xv64 xv65 xv66 xf67 xf68 xf69 xf70 xf71 xf72 xf73 xf74 xf75 xf76 xv77 xv78 xv79 xv80 xv81 xv82 xv83 xv84 xf85 xf86 xf87 xf88 xf89 xf90 xf91 xf92 xf93 xf94 xv95 xv96 xv97 xv98 xv99 xv100 xv101 xv102 xf103 xf104 xf105 xf106 xf107 xf108 xf109 xf110 xf111 xf112 xf113 n7 n8 n9 n10 n11 n12 n13 n14 n15 n16 n17 n18 n19 n20 n21 n22 xv130 xf131 xv132 xf133 xv134 xv135 xv136 xv137 xf138 xf139 xf140 xf141 xf142 xf143 xf144 0 mv1 mv2 mv3 mv4 mv5 ml6 mv7 mv8 mv9 mv10 mv11 mv12 mv13 mv14 mv15 mv16 mv17 n148 n149 n150 mf21 mf22 me23 me24 me25 me26 me27 me28 me29 me30 me31 me32 me33 me34 me35 me36 me37 me38 me39 me40 me41 me42 me43 me44 me45 me46 me47 me48 me49 me50 me51 me52 me53 me54 me55 me56 me57 mf58 mf59 mf60 mf61 mf62 mf63 mf64 mf65 mf66 mf67 mf68 mf69 mf70) H) (hD : va_D A (lw_W qx qm ux um cy xv0 xf1 xv2 xv3 xv4 xv5 xv6 xv7 xv8 xv9 xv10 xv11 xv12 xv13 xv14 xv15 xf16 xf17 xf18 xf19 xf20 xf21 xf22 xf23 xf24 xf25 xv26 xv27 xv28 xv29 xv30 xv31 xv32 xv33 xf34 xf35 xf36 xf37 xf38 xf39 xf40 xf41 xf42 xf43 xv44 xv45 xv46 xf47 xf48 xv49 xv50 xv51 xf52 xf53 xv54 xv55 xv56 xf57 xf58 xv59 xv60 xv61 xv62 xv63 xv64 xv65 xv66 xf67 xf68 xf69 xf70 xf71 xf72 xf73 xf74 xf75 xf76 xv77 xv78 xv79 xv80 xv81 xv82 xv83 xv84 xf85 xf86 xf87 xf88 xf89 xf90 xf91 xf92 xf93 xf94 xv95 xv96 xv97 xv98 xv99 xv100 xv101 xv102 xf103 xf104 xf105 xf106 xf107 xf108 xf109 xf110 xf111 xf112 xf113 n7 n8 n9 n10 n11 n12 n13 n14 n15 n16 n17 n18 n19 n20 n21 n22 xv130 xf131 xv132 xf133 xv134 xv135 xv136 xv137 xf138 xf139 xf140 xf141 xf142 xf143 xf144 0 mv1 mv2 mv3 mv4 mv5 ml6 mv7 mv8 mv9 mv10 mv11 mv12 mv13 mv14 mv15 mv16 mv17 n148 n149 n150 mf21 mf22 me23 me24 me25 me26 me27 me28 me29 me30 me31 me32 me33 me34 me35 me36 me37 me38 me39 me40 me41 me42 me43 me44 me45 me46 me47 me48 me49 me50 me51 me52 me53 me54 me55 me56 me57 mf58 mf59 mf60 mf61 mf62 mf63 mf64 mf65 mf66 mf67 mf68 mf69 mf70)) hS
    obtain ⟨w152, w153, w154, hw⟩ := hw
    replace w154 : mm_mr mf18 mf19 n148 n149 p1 p2 p3 := w154
    rcases hw with ⟨rfl, w155⟩ | ⟨rfl, w156⟩ | ⟨rfl, w157, w158⟩ | ⟨rfl, w159, w160⟩ | ⟨rfl, w161, w162, w163⟩ | ⟨rfl, w164, w165, w166⟩ | ⟨rfl, w167, w168, w169⟩
    · exact mm_noX w155 w44 (by decide)
    · exact mm_noX w156 w44 (by decide)
    · exact mm_noX w158 w45 (by decide)
    · refine lv_pop hx hb dL_law_3012 rfl ?_
      refine lv_goto (tgt := 3152) hx hb dL_law_3013 (by decide) ?_
      obtain ⟨v170, ev170⟩ : ∃ y : Int32, y = i + 6 := ⟨_, rfl⟩
      refine lv_iinc (v := v170) (lv' := [(3, .int v170), (2, .ref qm), (1, .ref qx), (0, .ref b)]) hx hb dL_law_3152 hl (k := 0) rfl (by rw [ev170]; rfl) (by decide) rfl ?_
      clear hl
      clear ls
      intro ls hl
      have rv170 : mm_rg v170 6 384 := mm_add ev170 ri mm_k6 (by decide) (by decide)
      have tv170 := mm_addEc ev170 ri mm_k6 (by decide) (k := 6) (by decide)
      refine lv_goto (tgt := 18) hx hb dL_law_3155 (by decide) ?_
      have hI2 : lw_I xv0 xf1 xv2 xv3 xv4 xv5 xv6 xv7 xv8 xv9 xv10 xv11 xv12 xv13 xv14 xv15 xf16 xf17 xf18 xf19 xf20 xf21 xf22 xf23 xf24 xf25 xv26 xv27 xv28 xv29 xv30 xv31 xv32 xv33 xf34 xf35 xf36 xf37 xf38 xf39 xf40 xf41 xf42 xf43 xv44 xv45 xv46 xf47 xf48 xv49 xv50 xv51 xf52 xf53 xv54 xv55 xv56 xf57 xf58 xv59 xv60 xv61 xv62 xv63 xv64 xv65 xv66 xf67 xf68 xf69 xf70 xf71 xf72 xf73 xf74 xf75 xf76 xv77 xv78 xv79 xv80 xv81 xv82 xv83 xv84 xf85 xf86 xf87 xf88 xf89 xf90 xf91 xf92 xf93 xf94 xv95 xv96 xv97 xv98 xv99 xv100 xv101 xv102 xf103 xf104 xf105 xf106 xf107 xf108 xf109 xf110 xf111 xf112 xf113 n7 n8 n9 n10 n11 n12 n13 n14 n15 n16 n17 n18 n19 n20 n21 n22 xv130 xf131 xv132 xf133 xv134 xv135 xv136 xv137 xf138 xf139 xf140 xf141 xf142 xf143 xf144 0 mv1 mv2 mv3 mv4 mv5 ml6 mv7 mv8 mv9 mv10 mv11 mv12 mv13 mv14 mv15 mv16 mv17 n148 n149 n150 mf21 mf22 me23 me24 me25 me26 me27 me28 me29 me30 me31 me32 me33 me34 me35 me36 me37 me38 me39 me40 me41 me42 me43 me44 me45 me46 me47 me48 me49 me50 me51 me52 me53 me54 me55 me56 me57 mf58 mf59 mf60 mf61 mf62 mf63 mf64 mf65 mf66 mf67 mf68 mf69 mf70 := ⟨rxv0, rxf1, rxv2, rxv4, rxv5, rxv6, rxv9, rxv10, rxv11, rxv12, rxv13, rxv14, rxv15, rxf16, rxf17, rxf18, rxf19, rxf20, rxf21, rxf22, rxf23, rxf24, rxf25, rxv27, rxv28, rxv29, rxv30, rxv31, rxv32, rxv33, rxf34, rxf35, rxf36, rxf37, rxf38, rxf39, rxf40, rxf41, rxf42, rxf43, rxv44, rxv46, rxf47, rxf48, rxv49, rxv51, rxf52, rxf53, rxv54, rxv56, rxf57, rxf58, rxv60, rxv61, rxv62, rxv63, rxv64, rxv65, rxv66, rxf67, rxf68, rxf69, rxf70, rxf71, rxf72, rxf73, rxf74, rxf75, rxf76, rxv78, rxv79, rxv80, rxv81, rxv82, rxv83, rxv84, rxf85, rxf86, rxf87, rxf88, rxf89, rxf90, rxf91, rxf92, rxf93, rxf94, rxv96, rxv97, rxv98, rxv99, rxv100, rxv101, rxv102, rxf103, rxf104, rxf105, rxf106, rxf107, rxf108, rxf109, rxf110, rxf111, rxf112, rxf113, w24, w25, w26, w27, w28, w29, w30, w31, w32, w33, w34, w35, rxv130, rxv132, rxf133, rxv134, rxv136, rxf138, rxf140, rmv1, rmv2, rmv3, rmv4, rmv7, rmv11, w152, w153, rmf22, rme23, rme24, rme25, rme26, rme27, rme28, rme29, rme30, rme31, rme32, rme33, rme34, rme35, rme36, rme37, rme38, rme39, rme40, rme41, rme42, rme43, rme44, rme45, rme46, rme47, rme48, rme49, rme50, rme51, rme52, rme53, rme54, rme55, rme56, rme57, rmf58, rmf59, rmf60, rmf61, rmf62, rmf63, rmf64, rmf65, rmf66, rmf67, rmf68, rmf69, wI179, wI180, wI181, wI182, wI183, wI184, wI185, wI186, wI187, wI188, wI189, wI190, wI191, wI192, wI193, wI194, wI195, wI196, wI197, wI198, wI199, (mm_rj_u wI200 w36 w154 (by decide)), (mm_rj_u wI201 w37 w154 (by decide)), (mm_rj_u wI202 w38 w154 (by decide)), (mm_rj_u wI203 w39 w154 (by decide))⟩
      exact ih v170 ev170 xv0 xf1 xv2 xv3 xv4 xv5 xv6 xv7 xv8 xv9 xv10 xv11 xv12 xv13 xv14 xv15 xf16 xf17 xf18 xf19 xf20 xf21 xf22 xf23 xf24 xf25 xv26 xv27 xv28 xv29 xv30 xv31 xv32 xv33 xf34 xf35 xf36 xf37 xf38 xf39 xf40 xf41 xf42 xf43 xv44 xv45 xv46 xf47 xf48 xv49 xv50 xv51 xf52 xf53 xv54 xv55 xv56 xf57 xf58 xv59 xv60 xv61 xv62 xv63 xv64 xv65 xv66 xf67 xf68 xf69 xf70 xf71 xf72 xf73 xf74 xf75 xf76 xv77 xv78 xv79 xv80 xv81 xv82 xv83 xv84 xf85 xf86 xf87 xf88 xf89 xf90 xf91 xf92 xf93 xf94 xv95 xv96 xv97 xv98 xv99 xv100 xv101 xv102 xf103 xf104 xf105 xf106 xf107 xf108 xf109 xf110 xf111 xf112 xf113 n7 n8 n9 n10 n11 n12 n13 n14 n15 n16 n17 n18 n19 n20 n21 n22 xv130 xf131 xv132 xf133 xv134 xv135 xv136 xv137 xf138 xf139 xf140 xf141 xf142 xf143 xf144 0 mv1 mv2 mv3 mv4 mv5 ml6 mv7 mv8 mv9 mv10 mv11 mv12 mv13 mv14 mv15 mv16 mv17 n148 n149 n150 mf21 mf22 me23 me24 me25 me26 me27 me28 me29 me30 me31 me32 me33 me34 me35 me36 me37 me38 me39 me40 me41 me42 me43 me44 me45 me46 me47 me48 me49 me50 me51 me52 me53 me54 me55 me56 me57 mf58 mf59 mf60 mf61 mf62 mf63 mf64 mf65 mf66 mf67 mf68 mf69 mf70 hI2 H locs hP hD hS ls (lv_sub hl [0, 1, 2, 3] rfl)
    · exact mm_noX w162 w45 (by decide)
    · exact mm_noX w165 w45 (by decide)
    · exact mm_noX w168 w45 (by decide)
  · refine lv_pop hx hb dL_law_2992 rfl ?_
    refine lv_aload_n hx hb dL_law_2993 rfl (lv_at hl 1 rfl) ?_
    refine lv_aload_n hx hb dL_law_2994 rfl (lv_at hl 3 rfl) ?_
    refine lv_iload_n hx hb dL_law_2995 rfl (lv_at hl 0 rfl) ?_
    refine lv_iconst (v := 1) hx hb dL_law_2996 (by decide) ?_
    refine lv_iadd hx hb dL_law_2997 ?_
    refine lv_topi (fun v171 ev171 => ?_)
    have rv171 : mm_rg v171 1 379 := mm_add ev171 ri mm_k1 (by decide) (by decide)
    have tv171 := mm_addEc ev171 ri mm_k1 (by decide) (k := 1) (by decide)
    refine va_sld hx hb hX hbl hbA hS (mm_inL tv171 ri hiL (by decide)) dL_law_2998 ?_
    refine lv_topi (fun v172 ev172 => ?_)
    obtain rfl : p1 = v172 := ep1.trans (by rw [ev172, ev171])
    refine lv_aload_n hx hb dL_law_2999 rfl (lv_at hl 3 rfl) ?_
    refine lv_iload_n hx hb dL_law_3000 rfl (lv_at hl 0 rfl) ?_
    refine lv_iconst (v := 2) hx hb dL_law_3001 (by decide) ?_
    refine lv_iadd hx hb dL_law_3002 ?_
    refine lv_topi (fun v173 ev173 => ?_)
    have rv173 : mm_rg v173 2 380 := mm_add ev173 ri mm_k2 (by decide) (by decide)
    have tv173 := mm_addEc ev173 ri mm_k2 (by decide) (k := 2) (by decide)
    refine va_sld hx hb hX hbl hbA hS (mm_inL tv173 ri hiL (by decide)) dL_law_3003 ?_
    refine lv_topi (fun v174 ev174 => ?_)
    obtain rfl : p2 = v174 := ep2.trans (by rw [ev174, ev173])
    refine lv_aload_n hx hb dL_law_3004 rfl (lv_at hl 3 rfl) ?_
    refine lv_iload_n hx hb dL_law_3005 rfl (lv_at hl 0 rfl) ?_
    refine lv_iconst (v := 3) hx hb dL_law_3006 (by decide) ?_
    refine lv_iadd hx hb dL_law_3007 ?_
    refine lv_topi (fun v175 ev175 => ?_)
    have rv175 : mm_rg v175 3 381 := mm_add ev175 ri mm_k3 (by decide) (by decide)
    have tv175 := mm_addEc ev175 ri mm_k3 (by decide) (k := 3) (by decide)
    refine va_sld hx hb hX hbl hbA hS (mm_inL tv175 ri hiL (by decide)) dL_law_3008 ?_
    refine lv_topi (fun v176 ev176 => ?_)
    obtain rfl : p3 = v176 := ep3.trans (by rw [ev176, ev175])
    refine mm_fini (va_runV (As := [.int p1, .int p2, .int p3]) (rest := []) ⟨hx, hb, hml, hown, hts⟩ (C385_X12_row l G cy H.size qm p1 p2 p3 mv0 (um 0) (um 1) (um 2) (um 3) (um 4) mv1 mv2 mv3 mv4 mv5 ml6 mv7 mv8 mv9 mv10 (um 5) (um 6) (um 7) (um 8) (um 9) (um 10) (um 11) (um 12) (um 13) (um 14) (um 15) (um 16) (um 17) mv11 mv12 mv13 mv14 mv15 mv16 (um 18) mv17 (um 19) mf18 mf19 mf20 rmf18 rmf19) (cwV 3 hts (mm_gV mm_w1686 mm_w1687 mm_w1688 mm_w5 mm_w1689) rfl rfl rfl hd_X12_row ⟨by rw [hRf]; exact Nat.le_of_ble_eq_true rfl, by rw [hRl]; exact Nat.le_of_ble_eq_true rfl⟩) (mm_preV hK hZ hS hA hP hD [95, 96, 97, 98] rfl rfl 95 rfl rfl rfl) rfl rfl hl.1 rfl (lv_room (Nat.le_of_ble_eq_true rfl)) dL_law_3009 ⟨by rw [hRc]; exact Nat.le_of_ble_eq_true rfl, by rw [hRs]; exact Nat.le_of_ble_eq_true rfl⟩) hP hD hS hA (fun u : (Nat → Int32) × (Nat → Int32) × (Nat → Int64) => (lw_W qx qm ux um cy xv0 xf1 xv2 xv3 xv4 xv5 xv6 xv7 xv8 xv9 xv10 xv11 xv12 xv13 xv14 xv15 xf16 xf17 xf18 xf19 xf20 xf21 xf22 xf23 xf24 xf25 xv26 xv27 xv28 xv29 xv30 xv31 xv32 xv33 xf34 xf35 xf36 xf37 xf38 xf39 xf40 xf41 xf42 xf43 xv44 xv45 xv46 xf47 xf48 xv49 xv50 xv51 xf52 xf53 xv54 xv55 xv56 xf57 xf58 xv59 xv60 xv61 xv62 xv63 xv64 xv65 xv66 xf67 xf68 xf69 xf70 xf71 xf72 xf73 xf74 xf75 xf76 xv77 xv78 xv79 xv80 xv81 xv82 xv83 xv84 xf85 xf86 xf87 xf88 xf89 xf90 xf91 xf92 xf93 xf94 xv95 xv96 xv97 xv98 xv99 xv100 xv101 xv102 xf103 xf104 xf105 xf106 xf107 xf108 xf109 xf110 xf111 xf112 xf113 n7 n8 n9 n10 n11 n12 n13 n14 n15 n16 n17 n18 n19 n20 n21 n22 xv130 xf131 xv132 xf133 xv134 xv135 xv136 xv137 xf138 xf139 xf140 xf141 xf142 xf143 xf144 0 mv1 mv2 mv3 mv4 mv5 ml6 mv7 mv8 mv9 mv10 mv11 mv12 mv13 mv14 mv15 mv16 mv17 u.1 u.2.1 u.2.2 mf21 mf22 me23 me24 me25 me26 me27 me28 me29 me30 me31 me32 me33 me34 me35 me36 me37 me38 me39 me40 me41 me42 me43 me44 me45 me46 me47 me48 me49 me50 me51 me52 me53 me54 me55 me56 me57 mf58 mf59 mf60 mf61 mf62 mf63 mf64 mf65 mf66 mf67 mf68 mf69 mf70)) [95, 96, 97, 98] [0, 1, 2, 3, 4, 5, 6, 7, 8, 9, 10, 11, 12, 13, 14, 15, 16, 17, 18, 19, 20, 21, 22, 23, 24, 25, 26, 27, 28, 29, 30, 31, 32, 33, 34, 35, 36, 37, 38, 39, 40, 41, 42, 43, 44, 45, 46, 47, 48, 49, 50, 51, 52, 53, 54, 55, 56, 57, 58, 59, 60, 61, 62, 63, 64, 65, 66, 67, 68, 69, 70, 71, 72, 73, 74, 75, 76, 77, 78, 79, 80, 81, 82, 83, 84, 85, 86, 87, 88, 89, 90, 91, 92, 93, 94, 99, 100, 101, 102, 103, 104, 105, 106, 107, 108, 109, 110, 111, 112, 113, 114, 115] (n := 116) (fun _ => rfl) (by decide +kernel) (by decide +kernel) rfl (fun _ => rfl) (wr := List.filterMap (fun i => ((lw_W qx qm ux um cy xv0 xf1 xv2 xv3 xv4 xv5 xv6 xv7 xv8 xv9 xv10 xv11 xv12 xv13 xv14 xv15 xf16 xf17 xf18 xf19 xf20 xf21 xf22 xf23 xf24 xf25 xv26 xv27 xv28 xv29 xv30 xv31 xv32 xv33 xf34 xf35 xf36 xf37 xf38 xf39 xf40 xf41 xf42 xf43 xv44 xv45 xv46 xf47 xf48 xv49 xv50 xv51 xf52 xf53 xv54 xv55 xv56 xf57 xf58 xv59 xv60 xv61 xv62 xv63 xv64 xv65 xv66 xf67 xf68 xf69 xf70 xf71 xf72 xf73 xf74 xf75 xf76 xv77 xv78 xv79 xv80 xv81 xv82 xv83 xv84 xf85 xf86 xf87 xf88 xf89 xf90 xf91 xf92 xf93 xf94 xv95 xv96 xv97 xv98 xv99 xv100 xv101 xv102 xf103 xf104 xf105 xf106 xf107 xf108 xf109 xf110 xf111 xf112 xf113 n7 n8 n9 n10 n11 n12 n13 n14 n15 n16 n17 n18 n19 n20 n21 n22 xv130 xf131 xv132 xf133 xv134 xv135 xv136 xv137 xf138 xf139 xf140 xf141 xf142 xf143 xf144 mv0 mv1 mv2 mv3 mv4 mv5 ml6 mv7 mv8 mv9 mv10 mv11 mv12 mv13 mv14 mv15 mv16 mv17 mf18 mf19 mf20 mf21 mf22 me23 me24 me25 me26 me27 me28 me29 me30 me31 me32 me33 me34 me35 me36 me37 me38 me39 me40 me41 me42 me43 me44 me45 me46 me47 me48 me49 me50 me51 me52 me53 me54 me55 me56 me57 mf58 mf59 mf60 mf61 mf62 mf63 mf64 mf65 mf66 mf67 mf68 mf69 mf70))[i]?) [0, 1, 2, 3, 4, 5, 6, 7, 8, 9, 10, 11, 12, 13, 14, 15, 16, 17, 18, 19, 20, 21, 22, 23, 24, 25, 26, 27, 28, 29, 30, 31, 32, 33, 34, 35, 36, 37, 38, 39, 40, 41, 42, 43, 44, 45, 46, 47, 48, 49, 50, 51, 52, 53, 54, 55, 56, 57, 58, 59, 60, 61, 62, 63, 64, 65, 66, 67, 68, 69, 70, 71, 72, 73, 74, 75, 76, 77, 78, 79, 80, 81, 82, 83, 84, 85, 86, 87, 88, 89, 90, 91, 92, 93, 94, 99, 100, 101, 102, 103, 104, 105, 106, 107, 108, 109, 110, 111, 112, 113, 114, 115]) rfl (fun _ => rfl) (fun _ => rfl) ?_
    clear hP hD hS
    clear H locs
    intro v180 u
    obtain ⟨n177, n178, n179⟩ := u
    intro H locs hw (hP : va_P G vwCl (lw_W qx qm ux um cy xv0 xf1 xv2 xv3 xv4 xv5 xv6 xv7 xv8 xv9 xv10 xv11 xv12 xv13 xv14 xv15 xf16 xf17 xf18 xf19 xf20 xf21 xf22 xf23 xf24 xf25 xv26 xv27 xv28 xv29 xv30 xv31 xv32 xv33 xf34 xf35 xf36 xf37 xf38 xf39 xf40 xf41 xf42 xf43 xv44 xv45 xv46 xf47 xf48 xv49 xv50 xv51 xf52 xf53 xv54 xv55 xv56 xf57 xf58 xv59 xv60 xv61 xv62 xv63 xv64 xv65 xv66 xf67 xf68 xf69 xf70 xf71 xf72 xf73 xf74 xf75 xf76 xv77 xv78 xv79 xv80 xv81 xv82 xv83 xv84 xf85 xf86 xf87 xf88 xf89 xf90 xf91 xf92 xf93 xf94 xv95 xv96 xv97 xv98 xv99 xv100 xv101 xv102 xf103 xf104 xf105 xf106 xf107 xf108 xf109 xf110 xf111 xf112 xf113 n7 n8 n9 n10 n11 n12 n13 n14 n15 n16 n17 n18 n19 n20 n21 n22 xv130 xf131 xv132 xf133 xv134 xv135 xv136 xv137 xf138 xf139 xf140 xf141 xf142 xf143 xf144 0 mv1 mv2 mv3 mv4 mv5 ml6 mv7 mv8 mv9 mv10 mv11 mv12 mv13 mv14 mv15 mv16 mv17 n177 n178 n179 mf21 mf22 me23 me24 me25 me26 me27 me28 me29 me30 me31 me32 me33 me34 me35 me36 me37 me38 me39 me40 me41 me42 me43 me44 me45 me46 me47 me48 me49 me50 me51 me52 me53 me54 me55 me56 me57 mf58 mf59 mf60 mf61 mf62 mf63 mf64 mf65 mf66 mf67 mf68 mf69 mf70) H) (hD : va_D A (lw_W qx qm ux um cy xv0 xf1 xv2 xv3 xv4 xv5 xv6 xv7 xv8 xv9 xv10 xv11 xv12 xv13 xv14 xv15 xf16 xf17 xf18 xf19 xf20 xf21 xf22 xf23 xf24 xf25 xv26 xv27 xv28 xv29 xv30 xv31 xv32 xv33 xf34 xf35 xf36 xf37 xf38 xf39 xf40 xf41 xf42 xf43 xv44 xv45 xv46 xf47 xf48 xv49 xv50 xv51 xf52 xf53 xv54 xv55 xv56 xf57 xf58 xv59 xv60 xv61 xv62 xv63 xv64 xv65 xv66 xf67 xf68 xf69 xf70 xf71 xf72 xf73 xf74 xf75 xf76 xv77 xv78 xv79 xv80 xv81 xv82 xv83 xv84 xf85 xf86 xf87 xf88 xf89 xf90 xf91 xf92 xf93 xf94 xv95 xv96 xv97 xv98 xv99 xv100 xv101 xv102 xf103 xf104 xf105 xf106 xf107 xf108 xf109 xf110 xf111 xf112 xf113 n7 n8 n9 n10 n11 n12 n13 n14 n15 n16 n17 n18 n19 n20 n21 n22 xv130 xf131 xv132 xf133 xv134 xv135 xv136 xv137 xf138 xf139 xf140 xf141 xf142 xf143 xf144 0 mv1 mv2 mv3 mv4 mv5 ml6 mv7 mv8 mv9 mv10 mv11 mv12 mv13 mv14 mv15 mv16 mv17 n177 n178 n179 mf21 mf22 me23 me24 me25 me26 me27 me28 me29 me30 me31 me32 me33 me34 me35 me36 me37 me38 me39 me40 me41 me42 me43 me44 me45 me46 me47 me48 me49 me50 me51 me52 me53 me54 me55 me56 me57 mf58 mf59 mf60 mf61 mf62 mf63 mf64 mf65 mf66 mf67 mf68 mf69 mf70)) hS
    obtain ⟨w181, w182, w183, hw⟩ := hw
    replace w183 : mm_mr mf18 mf19 n177 n178 p1 p2 p3 := w183
    rcases hw with ⟨rfl, w184⟩ | ⟨rfl, w185⟩ | ⟨rfl, w186, w187⟩ | ⟨rfl, w188, w189⟩ | ⟨rfl, w190, w191, w192⟩ | ⟨rfl, w193, w194, w195⟩ | ⟨rfl, w196, w197, w198⟩
    · exact mm_noX w184 w46 (by decide)
    · exact mm_noX w185 w46 (by decide)
    · exact mm_noX w187 w47 (by decide)
    · exact mm_noX w189 w47 (by decide)
    · refine lv_pop hx hb dL_law_3012 rfl ?_
      refine lv_goto (tgt := 3152) hx hb dL_law_3013 (by decide) ?_
      obtain ⟨v199, ev199⟩ : ∃ y : Int32, y = i + 6 := ⟨_, rfl⟩
      refine lv_iinc (v := v199) (lv' := [(3, .int v199), (2, .ref qm), (1, .ref qx), (0, .ref b)]) hx hb dL_law_3152 hl (k := 0) rfl (by rw [ev199]; rfl) (by decide) rfl ?_
      clear hl
      clear ls
      intro ls hl
      have rv199 : mm_rg v199 6 384 := mm_add ev199 ri mm_k6 (by decide) (by decide)
      have tv199 := mm_addEc ev199 ri mm_k6 (by decide) (k := 6) (by decide)
      refine lv_goto (tgt := 18) hx hb dL_law_3155 (by decide) ?_
      have hI2 : lw_I xv0 xf1 xv2 xv3 xv4 xv5 xv6 xv7 xv8 xv9 xv10 xv11 xv12 xv13 xv14 xv15 xf16 xf17 xf18 xf19 xf20 xf21 xf22 xf23 xf24 xf25 xv26 xv27 xv28 xv29 xv30 xv31 xv32 xv33 xf34 xf35 xf36 xf37 xf38 xf39 xf40 xf41 xf42 xf43 xv44 xv45 xv46 xf47 xf48 xv49 xv50 xv51 xf52 xf53 xv54 xv55 xv56 xf57 xf58 xv59 xv60 xv61 xv62 xv63 xv64 xv65 xv66 xf67 xf68 xf69 xf70 xf71 xf72 xf73 xf74 xf75 xf76 xv77 xv78 xv79 xv80 xv81 xv82 xv83 xv84 xf85 xf86 xf87 xf88 xf89 xf90 xf91 xf92 xf93 xf94 xv95 xv96 xv97 xv98 xv99 xv100 xv101 xv102 xf103 xf104 xf105 xf106 xf107 xf108 xf109 xf110 xf111 xf112 xf113 n7 n8 n9 n10 n11 n12 n13 n14 n15 n16 n17 n18 n19 n20 n21 n22 xv130 xf131 xv132 xf133 xv134 xv135 xv136 xv137 xf138 xf139 xf140 xf141 xf142 xf143 xf144 0 mv1 mv2 mv3 mv4 mv5 ml6 mv7 mv8 mv9 mv10 mv11 mv12 mv13 mv14 mv15 mv16 mv17 n177 n178 n179 mf21 mf22 me23 me24 me25 me26 me27 me28 me29 me30 me31 me32 me33 me34 me35 me36 me37 me38 me39 me40 me41 me42 me43 me44 me45 me46 me47 me48 me49 me50 me51 me52 me53 me54 me55 me56 me57 mf58 mf59 mf60 mf61 mf62 mf63 mf64 mf65 mf66 mf67 mf68 mf69 mf70 := ⟨rxv0, rxf1, rxv2, rxv4, rxv5, rxv6, rxv9, rxv10, rxv11, rxv12, rxv13, rxv14, rxv15, rxf16, rxf17, rxf18, rxf19, rxf20, rxf21, rxf22, rxf23, rxf24, rxf25, rxv27, rxv28, rxv29, rxv30, rxv31, rxv32, rxv33, rxf34, rxf35, rxf36, rxf37, rxf38, rxf39, rxf40, rxf41, rxf42, rxf43, rxv44, rxv46, rxf47, rxf48, rxv49, rxv51, rxf52, rxf53, rxv54, rxv56, rxf57, rxf58, rxv60, rxv61, rxv62, rxv63, rxv64, rxv65, rxv66, rxf67, rxf68, rxf69, rxf70, rxf71, rxf72, rxf73, rxf74, rxf75, rxf76, rxv78, rxv79, rxv80, rxv81, rxv82, rxv83, rxv84, rxf85, rxf86, rxf87, rxf88, rxf89, rxf90, rxf91, rxf92, rxf93, rxf94, rxv96, rxv97, rxv98, rxv99, rxv100, rxv101, rxv102, rxf103, rxf104, rxf105, rxf106, rxf107, rxf108, rxf109, rxf110, rxf111, rxf112, rxf113, w24, w25, w26, w27, w28, w29, w30, w31, w32, w33, w34, w35, rxv130, rxv132, rxf133, rxv134, rxv136, rxf138, rxf140, rmv1, rmv2, rmv3, rmv4, rmv7, rmv11, w181, w182, rmf22, rme23, rme24, rme25, rme26, rme27, rme28, rme29, rme30, rme31, rme32, rme33, rme34, rme35, rme36, rme37, rme38, rme39, rme40, rme41, rme42, rme43, rme44, rme45, rme46, rme47, rme48, rme49, rme50, rme51, rme52, rme53, rme54, rme55, rme56, rme57, rmf58, rmf59, rmf60, rmf61, rmf62, rmf63, rmf64, rmf65, rmf66, rmf67, rmf68, rmf69, wI179, wI180, wI181, wI182, wI183, wI184, wI185, wI186, wI187, wI188, wI189, wI190, wI191, wI192, wI193, wI194, wI195, wI196, wI197, wI198, wI199, (mm_rj_u wI200 w36 w183 (by decide)), (mm_rj_u wI201 w37 w183 (by decide)), (mm_rj_u wI202 w38 w183 (by decide)), (mm_rj_u wI203 w39 w183 (by decide))⟩
      exact ih v199 ev199 xv0 xf1 xv2 xv3 xv4 xv5 xv6 xv7 xv8 xv9 xv10 xv11 xv12 xv13 xv14 xv15 xf16 xf17 xf18 xf19 xf20 xf21 xf22 xf23 xf24 xf25 xv26 xv27 xv28 xv29 xv30 xv31 xv32 xv33 xf34 xf35 xf36 xf37 xf38 xf39 xf40 xf41 xf42 xf43 xv44 xv45 xv46 xf47 xf48 xv49 xv50 xv51 xf52 xf53 xv54 xv55 xv56 xf57 xf58 xv59 xv60 xv61 xv62 xv63 xv64 xv65 xv66 xf67 xf68 xf69 xf70 xf71 xf72 xf73 xf74 xf75 xf76 xv77 xv78 xv79 xv80 xv81 xv82 xv83 xv84 xf85 xf86 xf87 xf88 xf89 xf90 xf91 xf92 xf93 xf94 xv95 xv96 xv97 xv98 xv99 xv100 xv101 xv102 xf103 xf104 xf105 xf106 xf107 xf108 xf109 xf110 xf111 xf112 xf113 n7 n8 n9 n10 n11 n12 n13 n14 n15 n16 n17 n18 n19 n20 n21 n22 xv130 xf131 xv132 xf133 xv134 xv135 xv136 xv137 xf138 xf139 xf140 xf141 xf142 xf143 xf144 0 mv1 mv2 mv3 mv4 mv5 ml6 mv7 mv8 mv9 mv10 mv11 mv12 mv13 mv14 mv15 mv16 mv17 n177 n178 n179 mf21 mf22 me23 me24 me25 me26 me27 me28 me29 me30 me31 me32 me33 me34 me35 me36 me37 me38 me39 me40 me41 me42 me43 me44 me45 me46 me47 me48 me49 me50 me51 me52 me53 me54 me55 me56 me57 mf58 mf59 mf60 mf61 mf62 mf63 mf64 mf65 mf66 mf67 mf68 mf69 mf70 hI2 H locs hP hD hS ls (lv_sub hl [0, 1, 2, 3] rfl)
    · exact mm_noX w195 w48 (by decide)
    · exact mm_noX w198 w48 (by decide)
  · refine lv_pop hx hb dL_law_2992 rfl ?_
    refine lv_aload_n hx hb dL_law_2993 rfl (lv_at hl 1 rfl) ?_
    refine lv_aload_n hx hb dL_law_2994 rfl (lv_at hl 3 rfl) ?_
    refine lv_iload_n hx hb dL_law_2995 rfl (lv_at hl 0 rfl) ?_
    refine lv_iconst (v := 1) hx hb dL_law_2996 (by decide) ?_
    refine lv_iadd hx hb dL_law_2997 ?_
    refine lv_topi (fun v200 ev200 => ?_)
    have rv200 : mm_rg v200 1 379 := mm_add ev200 ri mm_k1 (by decide) (by decide)
    have tv200 := mm_addEc ev200 ri mm_k1 (by decide) (k := 1) (by decide)
    refine va_sld hx hb hX hbl hbA hS (mm_inL tv200 ri hiL (by decide)) dL_law_2998 ?_
    refine lv_topi (fun v201 ev201 => ?_)
    obtain rfl : p1 = v201 := ep1.trans (by rw [ev201, ev200])
    refine lv_aload_n hx hb dL_law_2999 rfl (lv_at hl 3 rfl) ?_
    refine lv_iload_n hx hb dL_law_3000 rfl (lv_at hl 0 rfl) ?_
    refine lv_iconst (v := 2) hx hb dL_law_3001 (by decide) ?_
    refine lv_iadd hx hb dL_law_3002 ?_
    refine lv_topi (fun v202 ev202 => ?_)
    have rv202 : mm_rg v202 2 380 := mm_add ev202 ri mm_k2 (by decide) (by decide)
    have tv202 := mm_addEc ev202 ri mm_k2 (by decide) (k := 2) (by decide)
    refine va_sld hx hb hX hbl hbA hS (mm_inL tv202 ri hiL (by decide)) dL_law_3003 ?_
    refine lv_topi (fun v203 ev203 => ?_)
    obtain rfl : p2 = v203 := ep2.trans (by rw [ev203, ev202])
    refine lv_aload_n hx hb dL_law_3004 rfl (lv_at hl 3 rfl) ?_
    refine lv_iload_n hx hb dL_law_3005 rfl (lv_at hl 0 rfl) ?_
    refine lv_iconst (v := 3) hx hb dL_law_3006 (by decide) ?_
    refine lv_iadd hx hb dL_law_3007 ?_
    refine lv_topi (fun v204 ev204 => ?_)
    have rv204 : mm_rg v204 3 381 := mm_add ev204 ri mm_k3 (by decide) (by decide)
    have tv204 := mm_addEc ev204 ri mm_k3 (by decide) (k := 3) (by decide)
    refine va_sld hx hb hX hbl hbA hS (mm_inL tv204 ri hiL (by decide)) dL_law_3008 ?_
    refine lv_topi (fun v205 ev205 => ?_)
    obtain rfl : p3 = v205 := ep3.trans (by rw [ev205, ev204])
    refine mm_fini (va_runV (As := [.int p1, .int p2, .int p3]) (rest := []) ⟨hx, hb, hml, hown, hts⟩ (C385_X12_row l G cy H.size qm p1 p2 p3 mv0 (um 0) (um 1) (um 2) (um 3) (um 4) mv1 mv2 mv3 mv4 mv5 ml6 mv7 mv8 mv9 mv10 (um 5) (um 6) (um 7) (um 8) (um 9) (um 10) (um 11) (um 12) (um 13) (um 14) (um 15) (um 16) (um 17) mv11 mv12 mv13 mv14 mv15 mv16 (um 18) mv17 (um 19) mf18 mf19 mf20 rmf18 rmf19) (cwV 3 hts (mm_gV mm_w1686 mm_w1687 mm_w1688 mm_w5 mm_w1689) rfl rfl rfl hd_X12_row ⟨by rw [hRf]; exact Nat.le_of_ble_eq_true rfl, by rw [hRl]; exact Nat.le_of_ble_eq_true rfl⟩) (mm_preV hK hZ hS hA hP hD [95, 96, 97, 98] rfl rfl 95 rfl rfl rfl) rfl rfl hl.1 rfl (lv_room (Nat.le_of_ble_eq_true rfl)) dL_law_3009 ⟨by rw [hRc]; exact Nat.le_of_ble_eq_true rfl, by rw [hRs]; exact Nat.le_of_ble_eq_true rfl⟩) hP hD hS hA (fun u : (Nat → Int32) × (Nat → Int32) × (Nat → Int64) => (lw_W qx qm ux um cy xv0 xf1 xv2 xv3 xv4 xv5 xv6 xv7 xv8 xv9 xv10 xv11 xv12 xv13 xv14 xv15 xf16 xf17 xf18 xf19 xf20 xf21 xf22 xf23 xf24 xf25 xv26 xv27 xv28 xv29 xv30 xv31 xv32 xv33 xf34 xf35 xf36 xf37 xf38 xf39 xf40 xf41 xf42 xf43 xv44 xv45 xv46 xf47 xf48 xv49 xv50 xv51 xf52 xf53 xv54 xv55 xv56 xf57 xf58 xv59 xv60 xv61 xv62 xv63 xv64 xv65 xv66 xf67 xf68 xf69 xf70 xf71 xf72 xf73 xf74 xf75 xf76 xv77 xv78 xv79 xv80 xv81 xv82 xv83 xv84 xf85 xf86 xf87 xf88 xf89 xf90 xf91 xf92 xf93 xf94 xv95 xv96 xv97 xv98 xv99 xv100 xv101 xv102 xf103 xf104 xf105 xf106 xf107 xf108 xf109 xf110 xf111 xf112 xf113 n7 n8 n9 n10 n11 n12 n13 n14 n15 n16 n17 n18 n19 n20 n21 n22 xv130 xf131 xv132 xf133 xv134 xv135 xv136 xv137 xf138 xf139 xf140 xf141 xf142 xf143 xf144 0 mv1 mv2 mv3 mv4 mv5 ml6 mv7 mv8 mv9 mv10 mv11 mv12 mv13 mv14 mv15 mv16 mv17 u.1 u.2.1 u.2.2 mf21 mf22 me23 me24 me25 me26 me27 me28 me29 me30 me31 me32 me33 me34 me35 me36 me37 me38 me39 me40 me41 me42 me43 me44 me45 me46 me47 me48 me49 me50 me51 me52 me53 me54 me55 me56 me57 mf58 mf59 mf60 mf61 mf62 mf63 mf64 mf65 mf66 mf67 mf68 mf69 mf70)) [95, 96, 97, 98] [0, 1, 2, 3, 4, 5, 6, 7, 8, 9, 10, 11, 12, 13, 14, 15, 16, 17, 18, 19, 20, 21, 22, 23, 24, 25, 26, 27, 28, 29, 30, 31, 32, 33, 34, 35, 36, 37, 38, 39, 40, 41, 42, 43, 44, 45, 46, 47, 48, 49, 50, 51, 52, 53, 54, 55, 56, 57, 58, 59, 60, 61, 62, 63, 64, 65, 66, 67, 68, 69, 70, 71, 72, 73, 74, 75, 76, 77, 78, 79, 80, 81, 82, 83, 84, 85, 86, 87, 88, 89, 90, 91, 92, 93, 94, 99, 100, 101, 102, 103, 104, 105, 106, 107, 108, 109, 110, 111, 112, 113, 114, 115] (n := 116) (fun _ => rfl) (by decide +kernel) (by decide +kernel) rfl (fun _ => rfl) (wr := List.filterMap (fun i => ((lw_W qx qm ux um cy xv0 xf1 xv2 xv3 xv4 xv5 xv6 xv7 xv8 xv9 xv10 xv11 xv12 xv13 xv14 xv15 xf16 xf17 xf18 xf19 xf20 xf21 xf22 xf23 xf24 xf25 xv26 xv27 xv28 xv29 xv30 xv31 xv32 xv33 xf34 xf35 xf36 xf37 xf38 xf39 xf40 xf41 xf42 xf43 xv44 xv45 xv46 xf47 xf48 xv49 xv50 xv51 xf52 xf53 xv54 xv55 xv56 xf57 xf58 xv59 xv60 xv61 xv62 xv63 xv64 xv65 xv66 xf67 xf68 xf69 xf70 xf71 xf72 xf73 xf74 xf75 xf76 xv77 xv78 xv79 xv80 xv81 xv82 xv83 xv84 xf85 xf86 xf87 xf88 xf89 xf90 xf91 xf92 xf93 xf94 xv95 xv96 xv97 xv98 xv99 xv100 xv101 xv102 xf103 xf104 xf105 xf106 xf107 xf108 xf109 xf110 xf111 xf112 xf113 n7 n8 n9 n10 n11 n12 n13 n14 n15 n16 n17 n18 n19 n20 n21 n22 xv130 xf131 xv132 xf133 xv134 xv135 xv136 xv137 xf138 xf139 xf140 xf141 xf142 xf143 xf144 mv0 mv1 mv2 mv3 mv4 mv5 ml6 mv7 mv8 mv9 mv10 mv11 mv12 mv13 mv14 mv15 mv16 mv17 mf18 mf19 mf20 mf21 mf22 me23 me24 me25 me26 me27 me28 me29 me30 me31 me32 me33 me34 me35 me36 me37 me38 me39 me40 me41 me42 me43 me44 me45 me46 me47 me48 me49 me50 me51 me52 me53 me54 me55 me56 me57 mf58 mf59 mf60 mf61 mf62 mf63 mf64 mf65 mf66 mf67 mf68 mf69 mf70))[i]?) [0, 1, 2, 3, 4, 5, 6, 7, 8, 9, 10, 11, 12, 13, 14, 15, 16, 17, 18, 19, 20, 21, 22, 23, 24, 25, 26, 27, 28, 29, 30, 31, 32, 33, 34, 35, 36, 37, 38, 39, 40, 41, 42, 43, 44, 45, 46, 47, 48, 49, 50, 51, 52, 53, 54, 55, 56, 57, 58, 59, 60, 61, 62, 63, 64, 65, 66, 67, 68, 69, 70, 71, 72, 73, 74, 75, 76, 77, 78, 79, 80, 81, 82, 83, 84, 85, 86, 87, 88, 89, 90, 91, 92, 93, 94, 99, 100, 101, 102, 103, 104, 105, 106, 107, 108, 109, 110, 111, 112, 113, 114, 115]) rfl (fun _ => rfl) (fun _ => rfl) ?_
    clear hP hD hS
    clear H locs
    intro v209 u
    obtain ⟨n206, n207, n208⟩ := u
    intro H locs hw (hP : va_P G vwCl (lw_W qx qm ux um cy xv0 xf1 xv2 xv3 xv4 xv5 xv6 xv7 xv8 xv9 xv10 xv11 xv12 xv13 xv14 xv15 xf16 xf17 xf18 xf19 xf20 xf21 xf22 xf23 xf24 xf25 xv26 xv27 xv28 xv29 xv30 xv31 xv32 xv33 xf34 xf35 xf36 xf37 xf38 xf39 xf40 xf41 xf42 xf43 xv44 xv45 xv46 xf47 xf48 xv49 xv50 xv51 xf52 xf53 xv54 xv55 xv56 xf57 xf58 xv59 xv60 xv61 xv62 xv63 xv64 xv65 xv66 xf67 xf68 xf69 xf70 xf71 xf72 xf73 xf74 xf75 xf76 xv77 xv78 xv79 xv80 xv81 xv82 xv83 xv84 xf85 xf86 xf87 xf88 xf89 xf90 xf91 xf92 xf93 xf94 xv95 xv96 xv97 xv98 xv99 xv100 xv101 xv102 xf103 xf104 xf105 xf106 xf107 xf108 xf109 xf110 xf111 xf112 xf113 n7 n8 n9 n10 n11 n12 n13 n14 n15 n16 n17 n18 n19 n20 n21 n22 xv130 xf131 xv132 xf133 xv134 xv135 xv136 xv137 xf138 xf139 xf140 xf141 xf142 xf143 xf144 0 mv1 mv2 mv3 mv4 mv5 ml6 mv7 mv8 mv9 mv10 mv11 mv12 mv13 mv14 mv15 mv16 mv17 n206 n207 n208 mf21 mf22 me23 me24 me25 me26 me27 me28 me29 me30 me31 me32 me33 me34 me35 me36 me37 me38 me39 me40 me41 me42 me43 me44 me45 me46 me47 me48 me49 me50 me51 me52 me53 me54 me55 me56 me57 mf58 mf59 mf60 mf61 mf62 mf63 mf64 mf65 mf66 mf67 mf68 mf69 mf70) H) (hD : va_D A (lw_W qx qm ux um cy xv0 xf1 xv2 xv3 xv4 xv5 xv6 xv7 xv8 xv9 xv10 xv11 xv12 xv13 xv14 xv15 xf16 xf17 xf18 xf19 xf20 xf21 xf22 xf23 xf24 xf25 xv26 xv27 xv28 xv29 xv30 xv31 xv32 xv33 xf34 xf35 xf36 xf37 xf38 xf39 xf40 xf41 xf42 xf43 xv44 xv45 xv46 xf47 xf48 xv49 xv50 xv51 xf52 xf53 xv54 xv55 xv56 xf57 xf58 xv59 xv60 xv61 xv62 xv63 xv64 xv65 xv66 xf67 xf68 xf69 xf70 xf71 xf72 xf73 xf74 xf75 xf76 xv77 xv78 xv79 xv80 xv81 xv82 xv83 xv84 xf85 xf86 xf87 xf88 xf89 xf90 xf91 xf92 xf93 xf94 xv95 xv96 xv97 xv98 xv99 xv100 xv101 xv102 xf103 xf104 xf105 xf106 xf107 xf108 xf109 xf110 xf111 xf112 xf113 n7 n8 n9 n10 n11 n12 n13 n14 n15 n16 n17 n18 n19 n20 n21 n22 xv130 xf131 xv132 xf133 xv134 xv135 xv136 xv137 xf138 xf139 xf140 xf141 xf142 xf143 xf144 0 mv1 mv2 mv3 mv4 mv5 ml6 mv7 mv8 mv9 mv10 mv11 mv12 mv13 mv14 mv15 mv16 mv17 n206 n207 n208 mf21 mf22 me23 me24 me25 me26 me27 me28 me29 me30 me31 me32 me33 me34 me35 me36 me37 me38 me39 me40 me41 me42 me43 me44 me45 me46 me47 me48 me49 me50 me51 me52 me53 me54 me55 me56 me57 mf58 mf59 mf60 mf61 mf62 mf63 mf64 mf65 mf66 mf67 mf68 mf69 mf70)) hS
    obtain ⟨w210, w211, w212, hw⟩ := hw
    replace w212 : mm_mr mf18 mf19 n206 n207 p1 p2 p3 := w212
    rcases hw with ⟨rfl, w213⟩ | ⟨rfl, w214⟩ | ⟨rfl, w215, w216⟩ | ⟨rfl, w217, w218⟩ | ⟨rfl, w219, w220, w221⟩ | ⟨rfl, w222, w223, w224⟩ | ⟨rfl, w225, w226, w227⟩
    · exact mm_noX w213 w49 (by decide)
    · exact mm_noX w214 w49 (by decide)
    · exact mm_noX w216 w50 (by decide)
    · exact mm_noX w218 w50 (by decide)
    · exact mm_noX w221 w51 (by decide)
    · refine lv_pop hx hb dL_law_3012 rfl ?_
      refine lv_goto (tgt := 3152) hx hb dL_law_3013 (by decide) ?_
      obtain ⟨v228, ev228⟩ : ∃ y : Int32, y = i + 6 := ⟨_, rfl⟩
      refine lv_iinc (v := v228) (lv' := [(3, .int v228), (2, .ref qm), (1, .ref qx), (0, .ref b)]) hx hb dL_law_3152 hl (k := 0) rfl (by rw [ev228]; rfl) (by decide) rfl ?_
      clear hl
      clear ls
      intro ls hl
      have rv228 : mm_rg v228 6 384 := mm_add ev228 ri mm_k6 (by decide) (by decide)
      have tv228 := mm_addEc ev228 ri mm_k6 (by decide) (k := 6) (by decide)
      refine lv_goto (tgt := 18) hx hb dL_law_3155 (by decide) ?_
      have hI2 : lw_I xv0 xf1 xv2 xv3 xv4 xv5 xv6 xv7 xv8 xv9 xv10 xv11 xv12 xv13 xv14 xv15 xf16 xf17 xf18 xf19 xf20 xf21 xf22 xf23 xf24 xf25 xv26 xv27 xv28 xv29 xv30 xv31 xv32 xv33 xf34 xf35 xf36 xf37 xf38 xf39 xf40 xf41 xf42 xf43 xv44 xv45 xv46 xf47 xf48 xv49 xv50 xv51 xf52 xf53 xv54 xv55 xv56 xf57 xf58 xv59 xv60 xv61 xv62 xv63 xv64 xv65 xv66 xf67 xf68 xf69 xf70 xf71 xf72 xf73 xf74 xf75 xf76 xv77 xv78 xv79 xv80 xv81 xv82 xv83 xv84 xf85 xf86 xf87 xf88 xf89 xf90 xf91 xf92 xf93 xf94 xv95 xv96 xv97 xv98 xv99 xv100 xv101 xv102 xf103 xf104 xf105 xf106 xf107 xf108 xf109 xf110 xf111 xf112 xf113 n7 n8 n9 n10 n11 n12 n13 n14 n15 n16 n17 n18 n19 n20 n21 n22 xv130 xf131 xv132 xf133 xv134 xv135 xv136 xv137 xf138 xf139 xf140 xf141 xf142 xf143 xf144 0 mv1 mv2 mv3 mv4 mv5 ml6 mv7 mv8 mv9 mv10 mv11 mv12 mv13 mv14 mv15 mv16 mv17 n206 n207 n208 mf21 mf22 me23 me24 me25 me26 me27 me28 me29 me30 me31 me32 me33 me34 me35 me36 me37 me38 me39 me40 me41 me42 me43 me44 me45 me46 me47 me48 me49 me50 me51 me52 me53 me54 me55 me56 me57 mf58 mf59 mf60 mf61 mf62 mf63 mf64 mf65 mf66 mf67 mf68 mf69 mf70 := ⟨rxv0, rxf1, rxv2, rxv4, rxv5, rxv6, rxv9, rxv10, rxv11, rxv12, rxv13, rxv14, rxv15, rxf16, rxf17, rxf18, rxf19, rxf20, rxf21, rxf22, rxf23, rxf24, rxf25, rxv27, rxv28, rxv29, rxv30, rxv31, rxv32, rxv33, rxf34, rxf35, rxf36, rxf37, rxf38, rxf39, rxf40, rxf41, rxf42, rxf43, rxv44, rxv46, rxf47, rxf48, rxv49, rxv51, rxf52, rxf53, rxv54, rxv56, rxf57, rxf58, rxv60, rxv61, rxv62, rxv63, rxv64, rxv65, rxv66, rxf67, rxf68, rxf69, rxf70, rxf71, rxf72, rxf73, rxf74, rxf75, rxf76, rxv78, rxv79, rxv80, rxv81, rxv82, rxv83, rxv84, rxf85, rxf86, rxf87, rxf88, rxf89, rxf90, rxf91, rxf92, rxf93, rxf94, rxv96, rxv97, rxv98, rxv99, rxv100, rxv101, rxv102, rxf103, rxf104, rxf105, rxf106, rxf107, rxf108, rxf109, rxf110, rxf111, rxf112, rxf113, w24, w25, w26, w27, w28, w29, w30, w31, w32, w33, w34, w35, rxv130, rxv132, rxf133, rxv134, rxv136, rxf138, rxf140, rmv1, rmv2, rmv3, rmv4, rmv7, rmv11, w210, w211, rmf22, rme23, rme24, rme25, rme26, rme27, rme28, rme29, rme30, rme31, rme32, rme33, rme34, rme35, rme36, rme37, rme38, rme39, rme40, rme41, rme42, rme43, rme44, rme45, rme46, rme47, rme48, rme49, rme50, rme51, rme52, rme53, rme54, rme55, rme56, rme57, rmf58, rmf59, rmf60, rmf61, rmf62, rmf63, rmf64, rmf65, rmf66, rmf67, rmf68, rmf69, wI179, wI180, wI181, wI182, wI183, wI184, wI185, wI186, wI187, wI188, wI189, wI190, wI191, wI192, wI193, wI194, wI195, wI196, wI197, wI198, wI199, (mm_rj_u wI200 w36 w212 (by decide)), (mm_rj_u wI201 w37 w212 (by decide)), (mm_rj_u wI202 w38 w212 (by decide)), (mm_rj_u wI203 w39 w212 (by decide))⟩
      exact ih v228 ev228 xv0 xf1 xv2 xv3 xv4 xv5 xv6 xv7 xv8 xv9 xv10 xv11 xv12 xv13 xv14 xv15 xf16 xf17 xf18 xf19 xf20 xf21 xf22 xf23 xf24 xf25 xv26 xv27 xv28 xv29 xv30 xv31 xv32 xv33 xf34 xf35 xf36 xf37 xf38 xf39 xf40 xf41 xf42 xf43 xv44 xv45 xv46 xf47 xf48 xv49 xv50 xv51 xf52 xf53 xv54 xv55 xv56 xf57 xf58 xv59 xv60 xv61 xv62 xv63 xv64 xv65 xv66 xf67 xf68 xf69 xf70 xf71 xf72 xf73 xf74 xf75 xf76 xv77 xv78 xv79 xv80 xv81 xv82 xv83 xv84 xf85 xf86 xf87 xf88 xf89 xf90 xf91 xf92 xf93 xf94 xv95 xv96 xv97 xv98 xv99 xv100 xv101 xv102 xf103 xf104 xf105 xf106 xf107 xf108 xf109 xf110 xf111 xf112 xf113 n7 n8 n9 n10 n11 n12 n13 n14 n15 n16 n17 n18 n19 n20 n21 n22 xv130 xf131 xv132 xf133 xv134 xv135 xv136 xv137 xf138 xf139 xf140 xf141 xf142 xf143 xf144 0 mv1 mv2 mv3 mv4 mv5 ml6 mv7 mv8 mv9 mv10 mv11 mv12 mv13 mv14 mv15 mv16 mv17 n206 n207 n208 mf21 mf22 me23 me24 me25 me26 me27 me28 me29 me30 me31 me32 me33 me34 me35 me36 me37 me38 me39 me40 me41 me42 me43 me44 me45 me46 me47 me48 me49 me50 me51 me52 me53 me54 me55 me56 me57 mf58 mf59 mf60 mf61 mf62 mf63 mf64 mf65 mf66 mf67 mf68 mf69 mf70 hI2 H locs hP hD hS ls (lv_sub hl [0, 1, 2, 3] rfl)
    · exact mm_noX w227 w51 (by decide)
  · refine lv_pop hx hb dL_law_2992 rfl ?_
    refine lv_aload_n hx hb dL_law_2993 rfl (lv_at hl 1 rfl) ?_
    refine lv_aload_n hx hb dL_law_2994 rfl (lv_at hl 3 rfl) ?_
    refine lv_iload_n hx hb dL_law_2995 rfl (lv_at hl 0 rfl) ?_
    refine lv_iconst (v := 1) hx hb dL_law_2996 (by decide) ?_
    refine lv_iadd hx hb dL_law_2997 ?_
    refine lv_topi (fun v229 ev229 => ?_)
    have rv229 : mm_rg v229 1 379 := mm_add ev229 ri mm_k1 (by decide) (by decide)
    have tv229 := mm_addEc ev229 ri mm_k1 (by decide) (k := 1) (by decide)
    refine va_sld hx hb hX hbl hbA hS (mm_inL tv229 ri hiL (by decide)) dL_law_2998 ?_
    refine lv_topi (fun v230 ev230 => ?_)
    obtain rfl : p1 = v230 := ep1.trans (by rw [ev230, ev229])
    refine lv_aload_n hx hb dL_law_2999 rfl (lv_at hl 3 rfl) ?_
    refine lv_iload_n hx hb dL_law_3000 rfl (lv_at hl 0 rfl) ?_
    refine lv_iconst (v := 2) hx hb dL_law_3001 (by decide) ?_
    refine lv_iadd hx hb dL_law_3002 ?_
    refine lv_topi (fun v231 ev231 => ?_)
    have rv231 : mm_rg v231 2 380 := mm_add ev231 ri mm_k2 (by decide) (by decide)
    have tv231 := mm_addEc ev231 ri mm_k2 (by decide) (k := 2) (by decide)
    refine va_sld hx hb hX hbl hbA hS (mm_inL tv231 ri hiL (by decide)) dL_law_3003 ?_
    refine lv_topi (fun v232 ev232 => ?_)
    obtain rfl : p2 = v232 := ep2.trans (by rw [ev232, ev231])
    refine lv_aload_n hx hb dL_law_3004 rfl (lv_at hl 3 rfl) ?_
    refine lv_iload_n hx hb dL_law_3005 rfl (lv_at hl 0 rfl) ?_
    refine lv_iconst (v := 3) hx hb dL_law_3006 (by decide) ?_
    refine lv_iadd hx hb dL_law_3007 ?_
    refine lv_topi (fun v233 ev233 => ?_)
    have rv233 : mm_rg v233 3 381 := mm_add ev233 ri mm_k3 (by decide) (by decide)
    have tv233 := mm_addEc ev233 ri mm_k3 (by decide) (k := 3) (by decide)
    refine va_sld hx hb hX hbl hbA hS (mm_inL tv233 ri hiL (by decide)) dL_law_3008 ?_
    refine lv_topi (fun v234 ev234 => ?_)
    obtain rfl : p3 = v234 := ep3.trans (by rw [ev234, ev233])
    refine mm_fini (va_runV (As := [.int p1, .int p2, .int p3]) (rest := []) ⟨hx, hb, hml, hown, hts⟩ (C385_X12_row l G cy H.size qm p1 p2 p3 mv0 (um 0) (um 1) (um 2) (um 3) (um 4) mv1 mv2 mv3 mv4 mv5 ml6 mv7 mv8 mv9 mv10 (um 5) (um 6) (um 7) (um 8) (um 9) (um 10) (um 11) (um 12) (um 13) (um 14) (um 15) (um 16) (um 17) mv11 mv12 mv13 mv14 mv15 mv16 (um 18) mv17 (um 19) mf18 mf19 mf20 rmf18 rmf19) (cwV 3 hts (mm_gV mm_w1686 mm_w1687 mm_w1688 mm_w5 mm_w1689) rfl rfl rfl hd_X12_row ⟨by rw [hRf]; exact Nat.le_of_ble_eq_true rfl, by rw [hRl]; exact Nat.le_of_ble_eq_true rfl⟩) (mm_preV hK hZ hS hA hP hD [95, 96, 97, 98] rfl rfl 95 rfl rfl rfl) rfl rfl hl.1 rfl (lv_room (Nat.le_of_ble_eq_true rfl)) dL_law_3009 ⟨by rw [hRc]; exact Nat.le_of_ble_eq_true rfl, by rw [hRs]; exact Nat.le_of_ble_eq_true rfl⟩) hP hD hS hA (fun u : (Nat → Int32) × (Nat → Int32) × (Nat → Int64) => (lw_W qx qm ux um cy xv0 xf1 xv2 xv3 xv4 xv5 xv6 xv7 xv8 xv9 xv10 xv11 xv12 xv13 xv14 xv15 xf16 xf17 xf18 xf19 xf20 xf21 xf22 xf23 xf24 xf25 xv26 xv27 xv28 xv29 xv30 xv31 xv32 xv33 xf34 xf35 xf36 xf37 xf38 xf39 xf40 xf41 xf42 xf43 xv44 xv45 xv46 xf47 xf48 xv49 xv50 xv51 xf52 xf53 xv54 xv55 xv56 xf57 xf58 xv59 xv60 xv61 xv62 xv63 xv64 xv65 xv66 xf67 xf68 xf69 xf70 xf71 xf72 xf73 xf74 xf75 xf76 xv77 xv78 xv79 xv80 xv81 xv82 xv83 xv84 xf85 xf86 xf87 xf88 xf89 xf90 xf91 xf92 xf93 xf94 xv95 xv96 xv97 xv98 xv99 xv100 xv101 xv102 xf103 xf104 xf105 xf106 xf107 xf108 xf109 xf110 xf111 xf112 xf113 n7 n8 n9 n10 n11 n12 n13 n14 n15 n16 n17 n18 n19 n20 n21 n22 xv130 xf131 xv132 xf133 xv134 xv135 xv136 xv137 xf138 xf139 xf140 xf141 xf142 xf143 xf144 0 mv1 mv2 mv3 mv4 mv5 ml6 mv7 mv8 mv9 mv10 mv11 mv12 mv13 mv14 mv15 mv16 mv17 u.1 u.2.1 u.2.2 mf21 mf22 me23 me24 me25 me26 me27 me28 me29 me30 me31 me32 me33 me34 me35 me36 me37 me38 me39 me40 me41 me42 me43 me44 me45 me46 me47 me48 me49 me50 me51 me52 me53 me54 me55 me56 me57 mf58 mf59 mf60 mf61 mf62 mf63 mf64 mf65 mf66 mf67 mf68 mf69 mf70)) [95, 96, 97, 98] [0, 1, 2, 3, 4, 5, 6, 7, 8, 9, 10, 11, 12, 13, 14, 15, 16, 17, 18, 19, 20, 21, 22, 23, 24, 25, 26, 27, 28, 29, 30, 31, 32, 33, 34, 35, 36, 37, 38, 39, 40, 41, 42, 43, 44, 45, 46, 47, 48, 49, 50, 51, 52, 53, 54, 55, 56, 57, 58, 59, 60, 61, 62, 63, 64, 65, 66, 67, 68, 69, 70, 71, 72, 73, 74, 75, 76, 77, 78, 79, 80, 81, 82, 83, 84, 85, 86, 87, 88, 89, 90, 91, 92, 93, 94, 99, 100, 101, 102, 103, 104, 105, 106, 107, 108, 109, 110, 111, 112, 113, 114, 115] (n := 116) (fun _ => rfl) (by decide +kernel) (by decide +kernel) rfl (fun _ => rfl) (wr := List.filterMap (fun i => ((lw_W qx qm ux um cy xv0 xf1 xv2 xv3 xv4 xv5 xv6 xv7 xv8 xv9 xv10 xv11 xv12 xv13 xv14 xv15 xf16 xf17 xf18 xf19 xf20 xf21 xf22 xf23 xf24 xf25 xv26 xv27 xv28 xv29 xv30 xv31 xv32 xv33 xf34 xf35 xf36 xf37 xf38 xf39 xf40 xf41 xf42 xf43 xv44 xv45 xv46 xf47 xf48 xv49 xv50 xv51 xf52 xf53 xv54 xv55 xv56 xf57 xf58 xv59 xv60 xv61 xv62 xv63 xv64 xv65 xv66 xf67 xf68 xf69 xf70 xf71 xf72 xf73 xf74 xf75 xf76 xv77 xv78 xv79 xv80 xv81 xv82 xv83 xv84 xf85 xf86 xf87 xf88 xf89 xf90 xf91 xf92 xf93 xf94 xv95 xv96 xv97 xv98 xv99 xv100 xv101 xv102 xf103 xf104 xf105 xf106 xf107 xf108 xf109 xf110 xf111 xf112 xf113 n7 n8 n9 n10 n11 n12 n13 n14 n15 n16 n17 n18 n19 n20 n21 n22 xv130 xf131 xv132 xf133 xv134 xv135 xv136 xv137 xf138 xf139 xf140 xf141 xf142 xf143 xf144 mv0 mv1 mv2 mv3 mv4 mv5 ml6 mv7 mv8 mv9 mv10 mv11 mv12 mv13 mv14 mv15 mv16 mv17 mf18 mf19 mf20 mf21 mf22 me23 me24 me25 me26 me27 me28 me29 me30 me31 me32 me33 me34 me35 me36 me37 me38 me39 me40 me41 me42 me43 me44 me45 me46 me47 me48 me49 me50 me51 me52 me53 me54 me55 me56 me57 mf58 mf59 mf60 mf61 mf62 mf63 mf64 mf65 mf66 mf67 mf68 mf69 mf70))[i]?) [0, 1, 2, 3, 4, 5, 6, 7, 8, 9, 10, 11, 12, 13, 14, 15, 16, 17, 18, 19, 20, 21, 22, 23, 24, 25, 26, 27, 28, 29, 30, 31, 32, 33, 34, 35, 36, 37, 38, 39, 40, 41, 42, 43, 44, 45, 46, 47, 48, 49, 50, 51, 52, 53, 54, 55, 56, 57, 58, 59, 60, 61, 62, 63, 64, 65, 66, 67, 68, 69, 70, 71, 72, 73, 74, 75, 76, 77, 78, 79, 80, 81, 82, 83, 84, 85, 86, 87, 88, 89, 90, 91, 92, 93, 94, 99, 100, 101, 102, 103, 104, 105, 106, 107, 108, 109, 110, 111, 112, 113, 114, 115]) rfl (fun _ => rfl) (fun _ => rfl) ?_
    clear hP hD hS
    clear H locs
    intro v238 u
    obtain ⟨n235, n236, n237⟩ := u
    intro H locs hw (hP : va_P G vwCl (lw_W qx qm ux um cy xv0 xf1 xv2 xv3 xv4 xv5 xv6 xv7 xv8 xv9 xv10 xv11 xv12 xv13 xv14 xv15 xf16 xf17 xf18 xf19 xf20 xf21 xf22 xf23 xf24 xf25 xv26 xv27 xv28 xv29 xv30 xv31 xv32 xv33 xf34 xf35 xf36 xf37 xf38 xf39 xf40 xf41 xf42 xf43 xv44 xv45 xv46 xf47 xf48 xv49 xv50 xv51 xf52 xf53 xv54 xv55 xv56 xf57 xf58 xv59 xv60 xv61 xv62 xv63 xv64 xv65 xv66 xf67 xf68 xf69 xf70 xf71 xf72 xf73 xf74 xf75 xf76 xv77 xv78 xv79 xv80 xv81 xv82 xv83 xv84 xf85 xf86 xf87 xf88 xf89 xf90 xf91 xf92 xf93 xf94 xv95 xv96 xv97 xv98 xv99 xv100 xv101 xv102 xf103 xf104 xf105 xf106 xf107 xf108 xf109 xf110 xf111 xf112 xf113 n7 n8 n9 n10 n11 n12 n13 n14 n15 n16 n17 n18 n19 n20 n21 n22 xv130 xf131 xv132 xf133 xv134 xv135 xv136 xv137 xf138 xf139 xf140 xf141 xf142 xf143 xf144 0 mv1 mv2 mv3 mv4 mv5 ml6 mv7 mv8 mv9 mv10 mv11 mv12 mv13 mv14 mv15 mv16 mv17 n235 n236 n237 mf21 mf22 me23 me24 me25 me26 me27 me28 me29 me30 me31 me32 me33 me34 me35 me36 me37 me38 me39 me40 me41 me42 me43 me44 me45 me46 me47 me48 me49 me50 me51 me52 me53 me54 me55 me56 me57 mf58 mf59 mf60 mf61 mf62 mf63 mf64 mf65 mf66 mf67 mf68 mf69 mf70) H) (hD : va_D A (lw_W qx qm ux um cy xv0 xf1 xv2 xv3 xv4 xv5 xv6 xv7 xv8 xv9 xv10 xv11 xv12 xv13 xv14 xv15 xf16 xf17 xf18 xf19 xf20 xf21 xf22 xf23 xf24 xf25 xv26 xv27 xv28 xv29 xv30 xv31 xv32 xv33 xf34 xf35 xf36 xf37 xf38 xf39 xf40 xf41 xf42 xf43 xv44 xv45 xv46 xf47 xf48 xv49 xv50 xv51 xf52 xf53 xv54 xv55 xv56 xf57 xf58 xv59 xv60 xv61 xv62 xv63 xv64 xv65 xv66 xf67 xf68 xf69 xf70 xf71 xf72 xf73 xf74 xf75 xf76 xv77 xv78 xv79 xv80 xv81 xv82 xv83 xv84 xf85 xf86 xf87 xf88 xf89 xf90 xf91 xf92 xf93 xf94 xv95 xv96 xv97 xv98 xv99 xv100 xv101 xv102 xf103 xf104 xf105 xf106 xf107 xf108 xf109 xf110 xf111 xf112 xf113 n7 n8 n9 n10 n11 n12 n13 n14 n15 n16 n17 n18 n19 n20 n21 n22 xv130 xf131 xv132 xf133 xv134 xv135 xv136 xv137 xf138 xf139 xf140 xf141 xf142 xf143 xf144 0 mv1 mv2 mv3 mv4 mv5 ml6 mv7 mv8 mv9 mv10 mv11 mv12 mv13 mv14 mv15 mv16 mv17 n235 n236 n237 mf21 mf22 me23 me24 me25 me26 me27 me28 me29 me30 me31 me32 me33 me34 me35 me36 me37 me38 me39 me40 me41 me42 me43 me44 me45 me46 me47 me48 me49 me50 me51 me52 me53 me54 me55 me56 me57 mf58 mf59 mf60 mf61 mf62 mf63 mf64 mf65 mf66 mf67 mf68 mf69 mf70)) hS
    obtain ⟨w239, w240, w241, hw⟩ := hw
    replace w241 : mm_mr mf18 mf19 n235 n236 p1 p2 p3 := w241
    rcases hw with ⟨rfl, w242⟩ | ⟨rfl, w243⟩ | ⟨rfl, w244, w245⟩ | ⟨rfl, w246, w247⟩ | ⟨rfl, w248, w249, w250⟩ | ⟨rfl, w251, w252, w253⟩ | ⟨rfl, w254, w255, w256⟩
    · exact mm_noX w242 w52 (by decide)
    · exact mm_noX w243 w52 (by decide)
    · exact mm_noX w245 w53 (by decide)
    · exact mm_noX w247 w53 (by decide)
    · exact mm_noX w250 w54 (by decide)
    · exact mm_noX w253 w54 (by decide)
    · refine lv_pop hx hb dL_law_3012 rfl ?_
      refine lv_goto (tgt := 3152) hx hb dL_law_3013 (by decide) ?_
      obtain ⟨v257, ev257⟩ : ∃ y : Int32, y = i + 6 := ⟨_, rfl⟩
      refine lv_iinc (v := v257) (lv' := [(3, .int v257), (2, .ref qm), (1, .ref qx), (0, .ref b)]) hx hb dL_law_3152 hl (k := 0) rfl (by rw [ev257]; rfl) (by decide) rfl ?_
      clear hl
      clear ls
      intro ls hl
      have rv257 : mm_rg v257 6 384 := mm_add ev257 ri mm_k6 (by decide) (by decide)
      have tv257 := mm_addEc ev257 ri mm_k6 (by decide) (k := 6) (by decide)
      refine lv_goto (tgt := 18) hx hb dL_law_3155 (by decide) ?_
      have hI2 : lw_I xv0 xf1 xv2 xv3 xv4 xv5 xv6 xv7 xv8 xv9 xv10 xv11 xv12 xv13 xv14 xv15 xf16 xf17 xf18 xf19 xf20 xf21 xf22 xf23 xf24 xf25 xv26 xv27 xv28 xv29 xv30 xv31 xv32 xv33 xf34 xf35 xf36 xf37 xf38 xf39 xf40 xf41 xf42 xf43 xv44 xv45 xv46 xf47 xf48 xv49 xv50 xv51 xf52 xf53 xv54 xv55 xv56 xf57 xf58 xv59 xv60 xv61 xv62 xv63 xv64 xv65 xv66 xf67 xf68 xf69 xf70 xf71 xf72 xf73 xf74 xf75 xf76 xv77 xv78 xv79 xv80 xv81 xv82 xv83 xv84 xf85 xf86 xf87 xf88 xf89 xf90 xf91 xf92 xf93 xf94 xv95 xv96 xv97 xv98 xv99 xv100 xv101 xv102 xf103 xf104 xf105 xf106 xf107 xf108 xf109 xf110 xf111 xf112 xf113 n7 n8 n9 n10 n11 n12 n13 n14 n15 n16 n17 n18 n19 n20 n21 n22 xv130 xf131 xv132 xf133 xv134 xv135 xv136 xv137 xf138 xf139 xf140 xf141 xf142 xf143 xf144 0 mv1 mv2 mv3 mv4 mv5 ml6 mv7 mv8 mv9 mv10 mv11 mv12 mv13 mv14 mv15 mv16 mv17 n235 n236 n237 mf21 mf22 me23 me24 me25 me26 me27 me28 me29 me30 me31 me32 me33 me34 me35 me36 me37 me38 me39 me40 me41 me42 me43 me44 me45 me46 me47 me48 me49 me50 me51 me52 me53 me54 me55 me56 me57 mf58 mf59 mf60 mf61 mf62 mf63 mf64 mf65 mf66 mf67 mf68 mf69 mf70 := ⟨rxv0, rxf1, rxv2, rxv4, rxv5, rxv6, rxv9, rxv10, rxv11, rxv12, rxv13, rxv14, rxv15, rxf16, rxf17, rxf18, rxf19, rxf20, rxf21, rxf22, rxf23, rxf24, rxf25, rxv27, rxv28, rxv29, rxv30, rxv31, rxv32, rxv33, rxf34, rxf35, rxf36, rxf37, rxf38, rxf39, rxf40, rxf41, rxf42, rxf43, rxv44, rxv46, rxf47, rxf48, rxv49, rxv51, rxf52, rxf53, rxv54, rxv56, rxf57, rxf58, rxv60, rxv61, rxv62, rxv63, rxv64, rxv65, rxv66, rxf67, rxf68, rxf69, rxf70, rxf71, rxf72, rxf73, rxf74, rxf75, rxf76, rxv78, rxv79, rxv80, rxv81, rxv82, rxv83, rxv84, rxf85, rxf86, rxf87, rxf88, rxf89, rxf90, rxf91, rxf92, rxf93, rxf94, rxv96, rxv97, rxv98, rxv99, rxv100, rxv101, rxv102, rxf103, rxf104, rxf105, rxf106, rxf107, rxf108, rxf109, rxf110, rxf111, rxf112, rxf113, w24, w25, w26, w27, w28, w29, w30, w31, w32, w33, w34, w35, rxv130, rxv132, rxf133, rxv134, rxv136, rxf138, rxf140, rmv1, rmv2, rmv3, rmv4, rmv7, rmv11, w239, w240, rmf22, rme23, rme24, rme25, rme26, rme27, rme28, rme29, rme30, rme31, rme32, rme33, rme34, rme35, rme36, rme37, rme38, rme39, rme40, rme41, rme42, rme43, rme44, rme45, rme46, rme47, rme48, rme49, rme50, rme51, rme52, rme53, rme54, rme55, rme56, rme57, rmf58, rmf59, rmf60, rmf61, rmf62, rmf63, rmf64, rmf65, rmf66, rmf67, rmf68, rmf69, wI179, wI180, wI181, wI182, wI183, wI184, wI185, wI186, wI187, wI188, wI189, wI190, wI191, wI192, wI193, wI194, wI195, wI196, wI197, wI198, wI199, (mm_rj_u wI200 w36 w241 (by decide)), (mm_rj_u wI201 w37 w241 (by decide)), (mm_rj_u wI202 w38 w241 (by decide)), (mm_rj_u wI203 w39 w241 (by decide))⟩
      exact ih v257 ev257 xv0 xf1 xv2 xv3 xv4 xv5 xv6 xv7 xv8 xv9 xv10 xv11 xv12 xv13 xv14 xv15 xf16 xf17 xf18 xf19 xf20 xf21 xf22 xf23 xf24 xf25 xv26 xv27 xv28 xv29 xv30 xv31 xv32 xv33 xf34 xf35 xf36 xf37 xf38 xf39 xf40 xf41 xf42 xf43 xv44 xv45 xv46 xf47 xf48 xv49 xv50 xv51 xf52 xf53 xv54 xv55 xv56 xf57 xf58 xv59 xv60 xv61 xv62 xv63 xv64 xv65 xv66 xf67 xf68 xf69 xf70 xf71 xf72 xf73 xf74 xf75 xf76 xv77 xv78 xv79 xv80 xv81 xv82 xv83 xv84 xf85 xf86 xf87 xf88 xf89 xf90 xf91 xf92 xf93 xf94 xv95 xv96 xv97 xv98 xv99 xv100 xv101 xv102 xf103 xf104 xf105 xf106 xf107 xf108 xf109 xf110 xf111 xf112 xf113 n7 n8 n9 n10 n11 n12 n13 n14 n15 n16 n17 n18 n19 n20 n21 n22 xv130 xf131 xv132 xf133 xv134 xv135 xv136 xv137 xf138 xf139 xf140 xf141 xf142 xf143 xf144 0 mv1 mv2 mv3 mv4 mv5 ml6 mv7 mv8 mv9 mv10 mv11 mv12 mv13 mv14 mv15 mv16 mv17 n235 n236 n237 mf21 mf22 me23 me24 me25 me26 me27 me28 me29 me30 me31 me32 me33 me34 me35 me36 me37 me38 me39 me40 me41 me42 me43 me44 me45 me46 me47 me48 me49 me50 me51 me52 me53 me54 me55 me56 me57 mf58 mf59 mf60 mf61 mf62 mf63 mf64 mf65 mf66 mf67 mf68 mf69 mf70 hI2 H locs hP hD hS ls (lv_sub hl [0, 1, 2, 3] rfl)

set_option maxHeartbeats 40000000 in
set_option maxRecDepth 100000 in
theorem lc_70 {p : Program} {e : Env} {s : State} {m : MethodId} {below : List Frame} {meth : Method} {c : Code} {b L : Nat} {xs : Nat → Int32} {G : va_G} {cy : Nat → ClassId} {qx qm : Nat} {ux um : Nat → Nat} {A : Nat → Prop} (l : Launch) (hx : p.tables.exec = Jvm.exec) (hb : c.code = code) (hr : meth.sig.returnType = ret) (hlocks : meth.locks = false) (hml : c.maxLocals = 4) (hown : s.vm.findClass R_law = some m.cls) (hts : ∀ w ∈ lw_x :: wsL_law, w.before #[Value.ref b] s = true) (hX : va_X b L xs s s.heap) (hbl : b < s.heap.size) (hAe : A = fun q => s.heap.size ≤ q) (hK : mm_K G cy s) (hZ : mm_Z cy A s s.heap) {H : Heap} {locs : List Loc} {ls : Array Slot} (hS : va_S A s.heap H locs) {i : Int32} (ri : mm_rg i 0 378) (hiL : i.toInt + 6 ≤ (L : Int)) (ih : ∀ i6 : Int32, i6 = i + 6 → lw_H p l e s m below meth c b G cy A qx qm ux um i6) {xv0 : Int32} {xf1 : Nat → Int32} {xv2 xv3 xv4 xv5 xv6 xv7 xv8 xv9 xv10 xv11 xv12 xv13 xv14 xv15 : Int32} {xf16 xf17 xf18 xf19 xf20 xf21 xf22 xf23 xf24 xf25 : Nat → Int32} {xv26 xv27 xv28 xv29 xv30 xv31 xv32 xv33 : Int32} {xf34 xf35 xf36 xf37 xf38 xf39 xf40 xf41 xf42 xf43 : Nat → Int32} {xv44 xv45 xv46 : Int32} {xf47 xf48 : Nat → Int32} {xv49 xv50 xv51 : Int32} {xf52 xf53 : Nat → Int32} {xv54 xv55 xv56 : Int32} {xf57 xf58 : Nat → Int32} {xv59 xv60 xv61 xv62 xv63 xv64 xv65 xv66 : Int32} {xf67 xf68 xf69 xf70 xf71 xf72 xf73 xf74 xf75 xf76 : Nat → Int32} {xv77 xv78 xv79 xv80 xv81 xv82 xv83 xv84 : Int32} {xf85 xf86 xf87 xf88 xf89 xf90 xf91 xf92 xf93 xf94 : Nat → Int32} {xv95 xv96 xv97 xv98 xv99 xv100 xv101 xv102 : Int32} {xf103 xf104 xf105 xf106 xf107 xf108 xf109 xf110 xf111 xf112 xf113 : Nat → Int32} {xv114 xv115 xv116 : Int32} {xf117 : Nat → Int64} {xv118 xv119 xv120 : Int32} {xf121 : Nat → Int64} {xv122 xv123 xv124 : Int32} {xf125 : Nat → Int64} {xv126 xv127 xv128 : Int32} {xf129 : Nat → Int64} {xv130 : Int32} {xf131 : Nat → Int32} {xv132 : Int32} {xf133 : Nat → Int32} {xv134 xv135 xv136 xv137 : Int32} {xf138 xf139 xf140 xf141 xf142 xf143 : Nat → Int32} {xf144 : Nat → Int64} {mv0 mv1 mv2 mv3 mv4 mv5 : Int32} {ml6 : Int64} {mv7 mv8 mv9 mv10 mv11 mv12 mv13 mv14 mv15 mv16 mv17 : Int32} {mf18 mf19 : Nat → Int32} {mf20 mf21 : Nat → Int64} {mf22 : Nat → Int32} {me23 me24 me25 me26 me27 me28 me29 me30 me31 me32 me33 me34 me35 me36 me37 me38 me39 me40 me41 me42 me43 me44 me45 me46 me47 me48 me49 me50 me51 me52 me53 me54 me55 me56 me57 : Int32} {mf58 mf59 mf60 mf61 mf62 mf63 mf64 mf65 mf66 mf67 mf68 mf69 mf70 : Nat → Int32} (rxv0 : mm_rg xv0 0 600) (rxf1 : mm_ar xf1 (-128) 127) (rxv2 : mm_rg xv2 0 3) (rxv4 : mm_rg xv4 0 5) (rxv5 : mm_rg xv5 0 600) (rxv6 : mm_rg xv6 0 600) (rxv9 : mm_rg xv9 0 10) (rxv10 : mm_rg xv10 0 99) (rxv11 : mm_rg xv11 0 99) (rxv12 : mm_rg xv12 0 9) (rxv13 : mm_rg xv13 0 3) (rxv14 : mm_rg xv14 0 6) (rxv15 : mm_rg xv15 0 30) (rxf16 : mm_ar xf16 (-1) 4) (rxf17 : mm_ar xf17 0 99) (rxf18 : mm_ar xf18 0 7) (rxf19 : mm_ar xf19 0 9) (rxf20 : mm_ar xf20 0 8) (rxf21 : mm_ar xf21 0 9) (rxf22 : mm_ar xf22 0 9) (rxf23 : mm_ar xf23 (-1) 2) (rxf24 : mm_ar xf24 0 99) (rxf25 : mm_ar xf25 0 9) (rxv27 : mm_rg xv27 0 10) (rxv28 : mm_rg xv28 0 99) (rxv29 : mm_rg xv29 0 99) (rxv30 : mm_rg xv30 0 9) (rxv31 : mm_rg xv31 0 3) (rxv32 : mm_rg xv32 0 6) (rxv33 : mm_rg xv33 0 30) (rxf34 : mm_ar xf34 (-1) 4) (rxf35 : mm_ar xf35 0 99) (rxf36 : mm_ar xf36 0 7) (rxf37 : mm_ar xf37 0 9) (rxf38 : mm_ar xf38 0 8) (rxf39 : mm_ar xf39 0 9) (rxf40 : mm_ar xf40 0 9) (rxf41 : mm_ar xf41 (-1) 2) (rxf42 : mm_ar xf42 0 99) (rxf43 : mm_ar xf43 0 9) (rxv44 : mm_rg xv44 1 10) (rxv46 : mm_rg xv46 (-2147483648) 210) (rxf47 : mm_ar xf47 0 9) (rxf48 : mm_ar xf48 0 9) (rxv49 : mm_rg xv49 1 10) (rxv51 : mm_rg xv51 (-2147483648) 210) (rxf52 : mm_ar xf52 0 9) (rxf53 : mm_ar xf53 0 9) (rxv54 : mm_rg xv54 1 10) (rxv56 : mm_rg xv56 (-2147483648) 210) (rxf57 : mm_ar xf57 0 9) (rxf58 : mm_ar xf58 0 9) (rxv60 : mm_rg xv60 0 10) (rxv61 : mm_rg xv61 0 99) (rxv62 : mm_rg xv62 0 99) (rxv63 : mm_rg xv63 0 9) (rxv64 : mm_rg xv64 0 3) (rxv65 : mm_rg xv65 0 6) (rxv66 : mm_rg xv66 0 30) (rxf67 : mm_ar xf67 (-1) 4) (rxf68 : mm_ar xf68 0 99) (rxf69 : mm_ar xf69 0 7) (rxf70 : mm_ar xf70 0 9) (rxf71 : mm_ar xf71 0 8) (rxf72 : mm_ar xf72 0 9) (rxf73 : mm_ar xf73 0 9) (rxf74 : mm_ar xf74 (-1) 2) (rxf75 : mm_ar xf75 0 99) (rxf76 : mm_ar xf76 0 9) (rxv78 : mm_rg xv78 0 10) (rxv79 : mm_rg xv79 0 99) (rxv80 : mm_rg xv80 0 99) (rxv81 : mm_rg xv81 0 9) (rxv82 : mm_rg xv82 0 3) (rxv83 : mm_rg xv83 0 6) (rxv84 : mm_rg xv84 0 30) (rxf85 : mm_ar xf85 (-1) 4) (rxf86 : mm_ar xf86 0 99) (rxf87 : mm_ar xf87 0 7) (rxf88 : mm_ar xf88 0 9) (rxf89 : mm_ar xf89 0 8) (rxf90 : mm_ar xf90 0 9) (rxf91 : mm_ar xf91 0 9) (rxf92 : mm_ar xf92 (-1) 2) (rxf93 : mm_ar xf93 0 99) (rxf94 : mm_ar xf94 0 9) (rxv96 : mm_rg xv96 0 10) (rxv97 : mm_rg xv97 0 99) (rxv98 : mm_rg xv98 0 99) (rxv99 : mm_rg xv99 0 9) (rxv100 : mm_rg xv100 0 3) (rxv101 : mm_rg xv101 0 6) (rxv102 : mm_rg xv102 0 30) (rxf103 : mm_ar xf103 (-1) 4) (rxf104 : mm_ar xf104 0 99) (rxf105 : mm_ar xf105 0 7) (rxf106 : mm_ar xf106 0 9) (rxf107 : mm_ar xf107 0 8) (rxf108 : mm_ar xf108 0 9) (rxf109 : mm_ar xf109 0 9) (rxf110 : mm_ar xf110 (-1) 2) (rxf111 : mm_ar xf111 0 99) (rxf112 : mm_ar xf112 0 9) (rxf113 : mm_ar xf113 0 1) (rxv114 : mm_rg xv114 0 1) (rxv115 : mm_rg xv115 0 3) (rxv116 : mm_rg xv116 0 60) (rxv118 : mm_rg xv118 0 1) (rxv119 : mm_rg xv119 0 3) (rxv120 : mm_rg xv120 0 60) (rxv122 : mm_rg xv122 0 1) (rxv123 : mm_rg xv123 0 3) (rxv124 : mm_rg xv124 0 60) (rxv126 : mm_rg xv126 0 1) (rxv127 : mm_rg xv127 0 3) (rxv128 : mm_rg xv128 0 60) (rxv130 : mm_rg xv130 0 210) (rxv132 : mm_rg xv132 0 210) (rxf133 : mm_ar xf133 0 209) (rxv134 : mm_rg xv134 0 7) (rxv136 : mm_rg xv136 0 4) (rxf138 : mm_ar xf138 0 9) (rxf140 : mm_ar xf140 0 9) (rmv1 : mm_rg mv1 0 600) (rmv2 : mm_rg mv2 0 600) (rmv3 : mm_rg mv3 0 4) (rmv4 : mm_rg mv4 0 600) (rmv7 : mm_rg mv7 0 3) (rmv11 : mm_rg mv11 0 8) (rmf18 : mm_ar mf18 (-1) 3) (rmf19 : mm_ar mf19 0 60) (rmf22 : mm_ar mf22 (-128) 127) (rme23 : mm_rg me23 0 601) (rme24 : mm_rg me24 0 601) (rme25 : mm_rg me25 0 601) (rme26 : mm_rg me26 0 601) (rme27 : mm_rg me27 0 601) (rme28 : mm_rg me28 0 10) (rme29 : mm_rg me29 0 99) (rme30 : mm_rg me30 0 9) (rme31 : mm_rg me31 0 3) (rme32 : mm_rg me32 0 6) (rme33 : mm_rg me33 0 30) (rme34 : mm_rg me34 0 10) (rme35 : mm_rg me35 0 99) (rme36 : mm_rg me36 0 9) (rme37 : mm_rg me37 0 3) (rme38 : mm_rg me38 0 6) (rme39 : mm_rg me39 0 30) (rme40 : mm_rg me40 0 10) (rme41 : mm_rg me41 0 99) (rme42 : mm_rg me42 0 9) (rme43 : mm_rg me43 0 3) (rme44 : mm_rg me44 0 6) (rme45 : mm_rg me45 0 30) (rme46 : mm_rg me46 0 10) (rme47 : mm_rg me47 0 99) (rme48 : mm_rg me48 0 9) (rme49 : mm_rg me49 0 3) (rme50 : mm_rg me50 0 6) (rme51 : mm_rg me51 0 30) (rme52 : mm_rg me52 0 10) (rme53 : mm_rg me53 0 99) (rme54 : mm_rg me54 0 9) (rme55 : mm_rg me55 0 3) (rme56 : mm_rg me56 0 6) (rme57 : mm_rg me57 0 30) (rmf58 : mm_ar mf58 0 99) (rmf59 : mm_ar mf59 0 7) (rmf60 : mm_ar mf60 0 9) (rmf61 : mm_ar mf61 0 8) (rmf62 : mm_ar mf62 0 9) (rmf63 : mm_ar mf63 (-1) 99) (rmf64 : mm_ar mf64 0 1) (rmf65 : mm_ar mf65 0 9) (rmf66 : mm_ar mf66 0 210) (rmf67 : mm_ar mf67 0 210) (rmf68 : mm_ar mf68 0 9) (rmf69 : mm_ar mf69 0 1) (wI179 : mm_act xf23 xf24) (wI180 : mm_act xf41 xf42) (wI181 : mm_act xf74 xf75) (wI182 : mm_act xf92 xf93) (wI183 : mm_act xf110 xf111) (wI184 : mm_rls mf59 mf60 0 me30 me31) (wI185 : mm_txs mf61 mf62 0 me30 me32) (wI186 : mm_acs mf63 0 me30 me31 me33) (wI187 : mm_tl me23 me31 me32) (wI188 : mm_rls mf59 mf60 1 me36 me37) (wI189 : mm_txs mf61 mf62 1 me36 me38) (wI190 : mm_acs mf63 1 me36 me37 me39) (wI191 : mm_tl me24 me37 me38) (wI192 : mm_rls mf59 mf60 2 me42 me43) (wI193 : mm_txs mf61 mf62 2 me42 me44) (wI194 : mm_acs mf63 2 me42 me43 me45) (wI195 : mm_tl me25 me43 me44) (wI196 : mm_rls mf59 mf60 3 me48 me49) (wI197 : mm_txs mf61 mf62 3 me48 me50) (wI198 : mm_acs mf63 3 me48 me49 me51) (wI199 : mm_tl me26 me49 me50) (wI200 : mm_rj xv114 xv115 xv116 mf18 mf19 0) (wI201 : mm_rj xv118 xv119 xv120 mf18 mf19 1) (wI202 : mm_rj xv122 xv123 xv124 mf18 mf19 2) (wI203 : mm_rj xv126 xv127 xv128 mf18 mf19 3) (hP : va_P G vwCl (lw_W qx qm ux um cy xv0 xf1 xv2 xv3 xv4 xv5 xv6 xv7 xv8 xv9 xv10 xv11 xv12 xv13 xv14 xv15 xf16 xf17 xf18 xf19 xf20 xf21 xf22 xf23 xf24 xf25 xv26 xv27 xv28 xv29 xv30 xv31 xv32 xv33 xf34 xf35 xf36 xf37 xf38 xf39 xf40 xf41 xf42 xf43 xv44 xv45 xv46 xf47 xf48 xv49 xv50 xv51 xf52 xf53 xv54 xv55 xv56 xf57 xf58 xv59 xv60 xv61 xv62 xv63 xv64 xv65 xv66 xf67 xf68 xf69 xf70 xf71 xf72 xf73 xf74 xf75 xf76 xv77 xv78 xv79 xv80 xv81 xv82 xv83 xv84 xf85 xf86 xf87 xf88 xf89 xf90 xf91 xf92 xf93 xf94 xv95 xv96 xv97 xv98 xv99 xv100 xv101 xv102 xf103 xf104 xf105 xf106 xf107 xf108 xf109 xf110 xf111 xf112 xf113 xv114 xv115 xv116 xf117 xv118 xv119 xv120 xf121 xv122 xv123 xv124 xf125 xv126 xv127 xv128 xf129 xv130 xf131 xv132 xf133 xv134 xv135 xv136 xv137 xf138 xf139 xf140 xf141 xf142 xf143 xf144 mv0 mv1 mv2 mv3 mv4 mv5 ml6 mv7 mv8 mv9 mv10 mv11 mv12 mv13 mv14 mv15 mv16 mv17 mf18 mf19 mf20 mf21 mf22 me23 me24 me25 me26 me27 me28 me29 me30 me31 me32 me33 me34 me35 me36 me37 me38 me39 me40 me41 me42 me43 me44 me45 me46 me47 me48 me49 me50 me51 me52 me53 me54 me55 me56 me57 mf58 mf59 mf60 mf61 mf62 mf63 mf64 mf65 mf66 mf67 mf68 mf69 mf70) H) (hD : va_D A (lw_W qx qm ux um cy xv0 xf1 xv2 xv3 xv4 xv5 xv6 xv7 xv8 xv9 xv10 xv11 xv12 xv13 xv14 xv15 xf16 xf17 xf18 xf19 xf20 xf21 xf22 xf23 xf24 xf25 xv26 xv27 xv28 xv29 xv30 xv31 xv32 xv33 xf34 xf35 xf36 xf37 xf38 xf39 xf40 xf41 xf42 xf43 xv44 xv45 xv46 xf47 xf48 xv49 xv50 xv51 xf52 xf53 xv54 xv55 xv56 xf57 xf58 xv59 xv60 xv61 xv62 xv63 xv64 xv65 xv66 xf67 xf68 xf69 xf70 xf71 xf72 xf73 xf74 xf75 xf76 xv77 xv78 xv79 xv80 xv81 xv82 xv83 xv84 xf85 xf86 xf87 xf88 xf89 xf90 xf91 xf92 xf93 xf94 xv95 xv96 xv97 xv98 xv99 xv100 xv101 xv102 xf103 xf104 xf105 xf106 xf107 xf108 xf109 xf110 xf111 xf112 xf113 xv114 xv115 xv116 xf117 xv118 xv119 xv120 xf121 xv122 xv123 xv124 xf125 xv126 xv127 xv128 xf129 xv130 xf131 xv132 xf133 xv134 xv135 xv136 xv137 xf138 xf139 xf140 xf141 xf142 xf143 xf144 mv0 mv1 mv2 mv3 mv4 mv5 ml6 mv7 mv8 mv9 mv10 mv11 mv12 mv13 mv14 mv15 mv16 mv17 mf18 mf19 mf20 mf21 mf22 me23 me24 me25 me26 me27 me28 me29 me30 me31 me32 me33 me34 me35 me36 me37 me38 me39 me40 me41 me42 me43 me44 me45 me46 me47 me48 me49 me50 me51 me52 me53 me54 me55 me56 me57 mf58 mf59 mf60 mf61 mf62 mf63 mf64 mf65 mf66 mf67 mf68 mf69 mf70)) (hl : lv_has ls 4 [(3, .int i), (2, .ref qm), (1, .ref qx), (0, .ref b)]) : W p l e room_1 s m #[Value.ref b] below meth c H locs 116 20302 (lw_Z below #[Value.ref b] s) (F0 m 3016 ls []) := by
  have hA : ∀ q, s.heap.size ≤ q → A q := by rw [hAe]; exact fun _ h => h
  have hbA : ¬ A b := by rw [hAe]; exact Nat.not_le.mpr hbl
  have hRf : room_1.frames = 2048 := rfl
  have hRl : room_1.locals = 84000 := rfl
  have hRc : room_1.cells = 600000 := rfl
  have hRs : room_1.slots = 7302250 := rfl
  obtain ⟨p1, ep1⟩ : ∃ z : Int32, z = xs (i + 1).toNatClampNeg := ⟨_, rfl⟩
  obtain ⟨p2, ep2⟩ : ∃ z : Int32, z = xs (i + 2).toNatClampNeg := ⟨_, rfl⟩
  obtain ⟨p3, ep3⟩ : ∃ z : Int32, z = xs (i + 3).toNatClampNeg := ⟨_, rfl⟩
  obtain ⟨p4, ep4⟩ : ∃ z : Int32, z = xs (i + 4).toNatClampNeg := ⟨_, rfl⟩
  obtain ⟨p5, ep5⟩ : ∃ z : Int32, z = xs (i + 5).toNatClampNeg := ⟨_, rfl⟩
  refine lv_aload_n hx hb dL_law_3016 rfl (lv_at hl 2 rfl) ?_
  refine lv_aload_n hx hb dL_law_3017 rfl (lv_at hl 3 rfl) ?_
  refine lv_iload_n hx hb dL_law_3018 rfl (lv_at hl 0 rfl) ?_
  refine lv_iconst (v := 1) hx hb dL_law_3019 (by decide) ?_
  refine lv_iadd hx hb dL_law_3020 ?_
  refine lv_topi (fun v1 ev1 => ?_)
  have rv1 : mm_rg v1 1 379 := mm_add ev1 ri mm_k1 (by decide) (by decide)
  have tv1 := mm_addEc ev1 ri mm_k1 (by decide) (k := 1) (by decide)
  refine va_sld hx hb hX hbl hbA hS (mm_inL tv1 ri hiL (by decide)) dL_law_3021 ?_
  refine lv_topi (fun v2 ev2 => ?_)
  obtain rfl : p1 = v2 := ep1.trans (by rw [ev2, ev1])
  refine lv_aload_n hx hb dL_law_3022 rfl (lv_at hl 3 rfl) ?_
  refine lv_iload_n hx hb dL_law_3023 rfl (lv_at hl 0 rfl) ?_
  refine lv_iconst (v := 2) hx hb dL_law_3024 (by decide) ?_
  refine lv_iadd hx hb dL_law_3025 ?_
  refine lv_topi (fun v3 ev3 => ?_)
  have rv3 : mm_rg v3 2 380 := mm_add ev3 ri mm_k2 (by decide) (by decide)
  have tv3 := mm_addEc ev3 ri mm_k2 (by decide) (k := 2) (by decide)
  refine va_sld hx hb hX hbl hbA hS (mm_inL tv3 ri hiL (by decide)) dL_law_3026 ?_
  refine lv_topi (fun v4 ev4 => ?_)
  obtain rfl : p2 = v4 := ep2.trans (by rw [ev4, ev3])
  refine lv_aload_n hx hb dL_law_3027 rfl (lv_at hl 3 rfl) ?_
  refine lv_iload_n hx hb dL_law_3028 rfl (lv_at hl 0 rfl) ?_
  refine lv_iconst (v := 3) hx hb dL_law_3029 (by decide) ?_
  refine lv_iadd hx hb dL_law_3030 ?_
  refine lv_topi (fun v5 ev5 => ?_)
  have rv5 : mm_rg v5 3 381 := mm_add ev5 ri mm_k3 (by decide) (by decide)
  have tv5 := mm_addEc ev5 ri mm_k3 (by decide) (k := 3) (by decide)
  refine va_sld hx hb hX hbl hbA hS (mm_inL tv5 ri hiL (by decide)) dL_law_3031 ?_
  refine lv_topi (fun v6 ev6 => ?_)
  obtain rfl : p3 = v6 := ep3.trans (by rw [ev6, ev5])
  obtain ⟨v7, ev7⟩ : ∃ y : Int64, y = p3.toInt64 := ⟨_, rfl⟩
  refine lv_i2l hx hb dL_law_3032 ev7.symm ?_
  have rv7 : mm_rl v7 (-2147483648) 2147483647 := mm_i2l ev7 (mm_top p3)
  refine lv_bipush (v := 32) hx hb dL_law_3033 (by decide) ?_
  refine lv_lshl hx hb dL_law_3035 rfl ?_
  refine lv_topl (fun v8 ev8 => ?_)
  refine lv_aload_n hx hb dL_law_3036 rfl (lv_at hl 3 rfl) ?_
  refine lv_iload_n hx hb dL_law_3037 rfl (lv_at hl 0 rfl) ?_
  refine lv_iconst (v := 4) hx hb dL_law_3038 (by decide) ?_
  refine lv_iadd hx hb dL_law_3039 ?_
  refine lv_topi (fun v9 ev9 => ?_)
  have rv9 : mm_rg v9 4 382 := mm_add ev9 ri mm_k4 (by decide) (by decide)
  have tv9 := mm_addEc ev9 ri mm_k4 (by decide) (k := 4) (by decide)
  refine va_sld hx hb hX hbl hbA hS (mm_inL tv9 ri hiL (by decide)) dL_law_3040 ?_
  refine lv_topi (fun v10 ev10 => ?_)
  obtain rfl : p4 = v10 := ep4.trans (by rw [ev10, ev9])
  obtain ⟨v11, ev11⟩ : ∃ y : Int64, y = p4.toInt64 := ⟨_, rfl⟩
  refine lv_i2l hx hb dL_law_3041 ev11.symm ?_
  have rv11 : mm_rl v11 (-2147483648) 2147483647 := mm_i2l ev11 (mm_top p4)
  refine lv_ldc2 (v := 4294967295) hx hb hown (mm_h hts mm_w6) dL_law_3042 ?_
  refine lv_land hx hb dL_law_3045 ?_
  refine lv_topl (fun v12 ev12 => ?_)
  refine lv_lor hx hb dL_law_3046 ?_
  refine lv_topl (fun v13 ev13 => ?_)
  refine mm_fini (va_runV (As := [.int p1, .int p2, .long v13]) (rest := []) ⟨hx, hb, hml, hown, hts⟩ (C548_X11_write l G cy H.size qx p1 p2 v13 (ux 0) (ux 2) (ux 14) (ux 36) (ux 70) (ux 71) (ux 80) (ux 82) (ux 84) (ux 89) (ux 92) (ux 72) (ux 74) (ux 76) (ux 78) xv114 xv115 xv116 (ux 73) xf117 xv118 xv119 xv120 (ux 75) xf121 xv122 xv123 xv124 (ux 77) xf125 xv126 xv127 xv128 (ux 79) xf129 rxv114 rxv115 rxv116 rxv118 rxv119 rxv120 rxv122 rxv123 rxv124 rxv126 rxv127 rxv128) (cwV 3 hts (mm_gV mm_w1690 mm_w1691 mm_w1692 mm_w2 mm_w1693) rfl rfl rfl hd_X11_write ⟨by rw [hRf]; exact Nat.le_of_ble_eq_true rfl, by rw [hRl]; exact Nat.le_of_ble_eq_true rfl⟩) (mm_preV hK hZ hS hA hP hD [0, 72, 73, 74, 75, 76, 77, 78, 79, 80] rfl rfl 0 rfl rfl rfl) rfl rfl hl.1 rfl (lv_room (Nat.le_of_ble_eq_true rfl)) dL_law_3047 ⟨by rw [hRc]; exact Nat.le_of_ble_eq_true rfl, by rw [hRs]; exact Nat.le_of_ble_eq_true rfl⟩) hP hD hS hA (fun u : Int32 × (Nat → Int64) × Int32 × (Nat → Int64) × Int32 × (Nat → Int64) × Int32 × (Nat → Int64) => (lw_W qx qm ux um cy xv0 xf1 xv2 xv3 xv4 xv5 xv6 xv7 xv8 xv9 xv10 xv11 xv12 xv13 xv14 xv15 xf16 xf17 xf18 xf19 xf20 xf21 xf22 xf23 xf24 xf25 xv26 xv27 xv28 xv29 xv30 xv31 xv32 xv33 xf34 xf35 xf36 xf37 xf38 xf39 xf40 xf41 xf42 xf43 xv44 xv45 xv46 xf47 xf48 xv49 xv50 xv51 xf52 xf53 xv54 xv55 xv56 xf57 xf58 xv59 xv60 xv61 xv62 xv63 xv64 xv65 xv66 xf67 xf68 xf69 xf70 xf71 xf72 xf73 xf74 xf75 xf76 xv77 xv78 xv79 xv80 xv81 xv82 xv83 xv84 xf85 xf86 xf87 xf88 xf89 xf90 xf91 xf92 xf93 xf94 xv95 xv96 xv97 xv98 xv99 xv100 xv101 xv102 xf103 xf104 xf105 xf106 xf107 xf108 xf109 xf110 xf111 xf112 xf113 xv114 u.1 xv116 u.2.1 xv118 u.2.2.1 xv120 u.2.2.2.1 xv122 u.2.2.2.2.1 xv124 u.2.2.2.2.2.1 xv126 u.2.2.2.2.2.2.1 xv128 u.2.2.2.2.2.2.2 xv130 xf131 xv132 xf133 xv134 xv135 xv136 xv137 xf138 xf139 xf140 xf141 xf142 xf143 xf144 mv0 mv1 mv2 mv3 mv4 mv5 ml6 mv7 mv8 mv9 mv10 mv11 mv12 mv13 mv14 mv15 mv16 mv17 mf18 mf19 mf20 mf21 mf22 me23 me24 me25 me26 me27 me28 me29 me30 me31 me32 me33 me34 me35 me36 me37 me38 me39 me40 me41 me42 me43 me44 me45 me46 me47 me48 me49 me50 me51 me52 me53 me54 me55 me56 me57 mf58 mf59 mf60 mf61 mf62 mf63 mf64 mf65 mf66 mf67 mf68 mf69 mf70)) [0, 72, 73, 74, 75, 76, 77, 78, 79, 80] [1, 2, 3, 4, 5, 6, 7, 8, 9, 10, 11, 12, 13, 14, 15, 16, 17, 18, 19, 20, 21, 22, 23, 24, 25, 26, 27, 28, 29, 30, 31, 32, 33, 34, 35, 36, 37, 38, 39, 40, 41, 42, 43, 44, 45, 46, 47, 48, 49, 50, 51, 52, 53, 54, 55, 56, 57, 58, 59, 60, 61, 62, 63, 64, 65, 66, 67, 68, 69, 70, 71, 81, 82, 83, 84, 85, 86, 87, 88, 89, 90, 91, 92, 93, 94, 95, 96, 97, 98, 99, 100, 101, 102, 103, 104, 105, 106, 107, 108, 109, 110, 111, 112, 113, 114, 115] (n := 116) (fun _ => rfl) (by decide +kernel) (by decide +kernel) rfl (fun _ => rfl) (wr := List.filterMap (fun i => ((lw_W qx qm ux um cy xv0 xf1 xv2 xv3 xv4 xv5 xv6 xv7 xv8 xv9 xv10 xv11 xv12 xv13 xv14 xv15 xf16 xf17 xf18 xf19 xf20 xf21 xf22 xf23 xf24 xf25 xv26 xv27 xv28 xv29 xv30 xv31 xv32 xv33 xf34 xf35 xf36 xf37 xf38 xf39 xf40 xf41 xf42 xf43 xv44 xv45 xv46 xf47 xf48 xv49 xv50 xv51 xf52 xf53 xv54 xv55 xv56 xf57 xf58 xv59 xv60 xv61 xv62 xv63 xv64 xv65 xv66 xf67 xf68 xf69 xf70 xf71 xf72 xf73 xf74 xf75 xf76 xv77 xv78 xv79 xv80 xv81 xv82 xv83 xv84 xf85 xf86 xf87 xf88 xf89 xf90 xf91 xf92 xf93 xf94 xv95 xv96 xv97 xv98 xv99 xv100 xv101 xv102 xf103 xf104 xf105 xf106 xf107 xf108 xf109 xf110 xf111 xf112 xf113 xv114 xv115 xv116 xf117 xv118 xv119 xv120 xf121 xv122 xv123 xv124 xf125 xv126 xv127 xv128 xf129 xv130 xf131 xv132 xf133 xv134 xv135 xv136 xv137 xf138 xf139 xf140 xf141 xf142 xf143 xf144 mv0 mv1 mv2 mv3 mv4 mv5 ml6 mv7 mv8 mv9 mv10 mv11 mv12 mv13 mv14 mv15 mv16 mv17 mf18 mf19 mf20 mf21 mf22 me23 me24 me25 me26 me27 me28 me29 me30 me31 me32 me33 me34 me35 me36 me37 me38 me39 me40 me41 me42 me43 me44 me45 me46 me47 me48 me49 me50 me51 me52 me53 me54 me55 me56 me57 mf58 mf59 mf60 mf61 mf62 mf63 mf64 mf65 mf66 mf67 mf68 mf69 mf70))[i]?) [1, 2, 3, 4, 5, 6, 7, 8, 9, 10, 11, 12, 13, 14, 15, 16, 17, 18, 19, 20, 21, 22, 23, 24, 25, 26, 27, 28, 29, 30, 31, 32, 33, 34, 35, 36, 37, 38, 39, 40, 41, 42, 43, 44, 45, 46, 47, 48, 49, 50, 51, 52, 53, 54, 55, 56, 57, 58, 59, 60, 61, 62, 63, 64, 65, 66, 67, 68, 69, 70, 71, 81, 82, 83, 84, 85, 86, 87, 88, 89, 90, 91, 92, 93, 94, 95, 96, 97, 98, 99, 100, 101, 102, 103, 104, 105, 106, 107, 108, 109, 110, 111, 112, 113, 114, 115]) rfl (fun _ => rfl) (fun _ => rfl) ?_
  clear hP hD hS
  clear H locs
  intro v22 u
  obtain ⟨n14, n15, n16, n17, n18, n19, n20, n21⟩ := u
  intro H locs hw (hP : va_P G vwCl (lw_W qx qm ux um cy xv0 xf1 xv2 xv3 xv4 xv5 xv6 xv7 xv8 xv9 xv10 xv11 xv12 xv13 xv14 xv15 xf16 xf17 xf18 xf19 xf20 xf21 xf22 xf23 xf24 xf25 xv26 xv27 xv28 xv29 xv30 xv31 xv32 xv33 xf34 xf35 xf36 xf37 xf38 xf39 xf40 xf41 xf42 xf43 xv44 xv45 xv46 xf47 xf48 xv49 xv50 xv51 xf52 xf53 xv54 xv55 xv56 xf57 xf58 xv59 xv60 xv61 xv62 xv63 xv64 xv65 xv66 xf67 xf68 xf69 xf70 xf71 xf72 xf73 xf74 xf75 xf76 xv77 xv78 xv79 xv80 xv81 xv82 xv83 xv84 xf85 xf86 xf87 xf88 xf89 xf90 xf91 xf92 xf93 xf94 xv95 xv96 xv97 xv98 xv99 xv100 xv101 xv102 xf103 xf104 xf105 xf106 xf107 xf108 xf109 xf110 xf111 xf112 xf113 xv114 n14 xv116 n15 xv118 n16 xv120 n17 xv122 n18 xv124 n19 xv126 n20 xv128 n21 xv130 xf131 xv132 xf133 xv134 xv135 xv136 xv137 xf138 xf139 xf140 xf141 xf142 xf143 xf144 mv0 mv1 mv2 mv3 mv4 mv5 ml6 mv7 mv8 mv9 mv10 mv11 mv12 mv13 mv14 mv15 mv16 mv17 mf18 mf19 mf20 mf21 mf22 me23 me24 me25 me26 me27 me28 me29 me30 me31 me32 me33 me34 me35 me36 me37 me38 me39 me40 me41 me42 me43 me44 me45 me46 me47 me48 me49 me50 me51 me52 me53 me54 me55 me56 me57 mf58 mf59 mf60 mf61 mf62 mf63 mf64 mf65 mf66 mf67 mf68 mf69 mf70) H) (hD : va_D A (lw_W qx qm ux um cy xv0 xf1 xv2 xv3 xv4 xv5 xv6 xv7 xv8 xv9 xv10 xv11 xv12 xv13 xv14 xv15 xf16 xf17 xf18 xf19 xf20 xf21 xf22 xf23 xf24 xf25 xv26 xv27 xv28 xv29 xv30 xv31 xv32 xv33 xf34 xf35 xf36 xf37 xf38 xf39 xf40 xf41 xf42 xf43 xv44 xv45 xv46 xf47 xf48 xv49 xv50 xv51 xf52 xf53 xv54 xv55 xv56 xf57 xf58 xv59 xv60 xv61 xv62 xv63 xv64 xv65 xv66 xf67 xf68 xf69 xf70 xf71 xf72 xf73 xf74 xf75 xf76 xv77 xv78 xv79 xv80 xv81 xv82 xv83 xv84 xf85 xf86 xf87 xf88 xf89 xf90 xf91 xf92 xf93 xf94 xv95 xv96 xv97 xv98 xv99 xv100 xv101 xv102 xf103 xf104 xf105 xf106 xf107 xf108 xf109 xf110 xf111 xf112 xf113 xv114 n14 xv116 n15 xv118 n16 xv120 n17 xv122 n18 xv124 n19 xv126 n20 xv128 n21 xv130 xf131 xv132 xf133 xv134 xv135 xv136 xv137 xf138 xf139 xf140 xf141 xf142 xf143 xf144 mv0 mv1 mv2 mv3 mv4 mv5 ml6 mv7 mv8 mv9 mv10 mv11 mv12 mv13 mv14 mv15 mv16 mv17 mf18 mf19 mf20 mf21 mf22 me23 me24 me25 me26 me27 me28 me29 me30 me31 me32 me33 me34 me35 me36 me37 me38 me39 me40 me41 me42 me43 me44 me45 me46 me47 me48 me49 me50 me51 me52 me53 me54 me55 me56 me57 mf58 mf59 mf60 mf61 mf62 mf63 mf64 mf65 mf66 mf67 mf68 mf69 mf70)) hS
  obtain ⟨w23, w24, w25, w26, w27, w28, w29, w30, hw⟩ := hw
  have w31 := hw
  replace w31 : (((-2) = v22 ∧ mm_rg p1 (-2147483648) (-1)) ∨ ((-2) = v22 ∧ mm_rg p1 4 2147483647) ∨ ((-7) = v22 ∧ mm_rg p1 0 0 ∧ mm_rg p2 (-2147483648) (-1) ∧ mm_rg xv114 1 1) ∨ (0 = v22 ∧ mm_rg p1 0 0 ∧ mm_rg p2 0 59 ∧ mm_rg xv114 1 1 ∧ (p2 : Int32).toInt < (xv116 : Int32).toInt) ∨ ((-7) = v22 ∧ mm_rg p1 0 0 ∧ mm_rg p2 0 2147483647 ∧ mm_rg xv114 1 1 ∧ (xv116 : Int32).toInt ≤ (p2 : Int32).toInt) ∨ ((-6) = v22 ∧ mm_rg p1 0 0 ∧ mm_rg xv114 0 0) ∨ ((-7) = v22 ∧ mm_rg p1 1 1 ∧ mm_rg p2 (-2147483648) (-1) ∧ mm_rg xv118 1 1) ∨ (0 = v22 ∧ mm_rg p1 1 1 ∧ mm_rg p2 0 59 ∧ mm_rg xv118 1 1 ∧ (p2 : Int32).toInt < (xv120 : Int32).toInt) ∨ ((-7) = v22 ∧ mm_rg p1 1 1 ∧ mm_rg p2 0 2147483647 ∧ mm_rg xv118 1 1 ∧ (xv120 : Int32).toInt ≤ (p2 : Int32).toInt) ∨ ((-6) = v22 ∧ mm_rg p1 1 1 ∧ mm_rg xv118 0 0) ∨ ((-7) = v22 ∧ mm_rg p1 2 2 ∧ mm_rg p2 (-2147483648) (-1) ∧ mm_rg xv122 1 1) ∨ (0 = v22 ∧ mm_rg p1 2 2 ∧ mm_rg p2 0 59 ∧ mm_rg xv122 1 1 ∧ (p2 : Int32).toInt < (xv124 : Int32).toInt) ∨ ((-7) = v22 ∧ mm_rg p1 2 2 ∧ mm_rg p2 0 2147483647 ∧ mm_rg xv122 1 1 ∧ (xv124 : Int32).toInt ≤ (p2 : Int32).toInt) ∨ ((-6) = v22 ∧ mm_rg p1 2 2 ∧ mm_rg xv122 0 0) ∨ ((-7) = v22 ∧ mm_rg p1 3 3 ∧ mm_rg p2 (-2147483648) (-1) ∧ mm_rg xv126 1 1) ∨ (0 = v22 ∧ mm_rg p1 3 3 ∧ mm_rg p2 0 59 ∧ mm_rg xv126 1 1 ∧ (p2 : Int32).toInt < (xv128 : Int32).toInt) ∨ ((-7) = v22 ∧ mm_rg p1 3 3 ∧ mm_rg p2 0 2147483647 ∧ mm_rg xv126 1 1 ∧ (xv128 : Int32).toInt ≤ (p2 : Int32).toInt) ∨ ((-6) = v22 ∧ mm_rg p1 3 3 ∧ mm_rg xv126 0 0)) := w31
  refine lv_aload_n hx hb dL_law_3050 rfl (lv_at hl 1 rfl) ?_
  refine lv_aload_n hx hb dL_law_3051 rfl (lv_at hl 3 rfl) ?_
  refine lv_iload_n hx hb dL_law_3052 rfl (lv_at hl 0 rfl) ?_
  refine lv_iconst (v := 1) hx hb dL_law_3053 (by decide) ?_
  refine lv_iadd hx hb dL_law_3054 ?_
  refine lv_topi (fun v32 ev32 => ?_)
  have rv32 : mm_rg v32 1 379 := mm_add ev32 ri mm_k1 (by decide) (by decide)
  have tv32 := mm_addEc ev32 ri mm_k1 (by decide) (k := 1) (by decide)
  refine va_sld hx hb hX hbl hbA hS (mm_inL tv32 ri hiL (by decide)) dL_law_3055 ?_
  refine lv_topi (fun v33 ev33 => ?_)
  obtain rfl : p1 = v33 := ep1.trans (by rw [ev33, ev32])
  refine lv_aload_n hx hb dL_law_3056 rfl (lv_at hl 3 rfl) ?_
  refine lv_iload_n hx hb dL_law_3057 rfl (lv_at hl 0 rfl) ?_
  refine lv_iconst (v := 2) hx hb dL_law_3058 (by decide) ?_
  refine lv_iadd hx hb dL_law_3059 ?_
  refine lv_topi (fun v34 ev34 => ?_)
  have rv34 : mm_rg v34 2 380 := mm_add ev34 ri mm_k2 (by decide) (by decide)
  have tv34 := mm_addEc ev34 ri mm_k2 (by decide) (k := 2) (by decide)
  refine va_sld hx hb hX hbl hbA hS (mm_inL tv34 ri hiL (by decide)) dL_law_3060 ?_
  refine lv_topi (fun v35 ev35 => ?_)
  obtain rfl : p2 = v35 := ep2.trans (by rw [ev35, ev34])
  refine lv_aload_n hx hb dL_law_3061 rfl (lv_at hl 3 rfl) ?_
  refine lv_iload_n hx hb dL_law_3062 rfl (lv_at hl 0 rfl) ?_
  refine lv_iconst (v := 3) hx hb dL_law_3063 (by decide) ?_
  refine lv_iadd hx hb dL_law_3064 ?_
  refine lv_topi (fun v36 ev36 => ?_)
  have rv36 : mm_rg v36 3 381 := mm_add ev36 ri mm_k3 (by decide) (by decide)
  have tv36 := mm_addEc ev36 ri mm_k3 (by decide) (k := 3) (by decide)
  refine va_sld hx hb hX hbl hbA hS (mm_inL tv36 ri hiL (by decide)) dL_law_3065 ?_
  refine lv_topi (fun v37 ev37 => ?_)
  obtain rfl : p3 = v37 := ep3.trans (by rw [ev37, ev36])
  obtain ⟨v38, ev38⟩ : ∃ y : Int64, y = p3.toInt64 := ⟨_, rfl⟩
  refine lv_i2l hx hb dL_law_3066 ev38.symm ?_
  have rv38 : mm_rl v38 (-2147483648) 2147483647 := mm_i2l ev38 (mm_top p3)
  refine lv_bipush (v := 32) hx hb dL_law_3067 (by decide) ?_
  refine lv_lshl hx hb dL_law_3069 rfl ?_
  refine lv_topl (fun v39 ev39 => ?_)
  refine lv_aload_n hx hb dL_law_3070 rfl (lv_at hl 3 rfl) ?_
  refine lv_iload_n hx hb dL_law_3071 rfl (lv_at hl 0 rfl) ?_
  refine lv_iconst (v := 4) hx hb dL_law_3072 (by decide) ?_
  refine lv_iadd hx hb dL_law_3073 ?_
  refine lv_topi (fun v40 ev40 => ?_)
  have rv40 : mm_rg v40 4 382 := mm_add ev40 ri mm_k4 (by decide) (by decide)
  have tv40 := mm_addEc ev40 ri mm_k4 (by decide) (k := 4) (by decide)
  refine va_sld hx hb hX hbl hbA hS (mm_inL tv40 ri hiL (by decide)) dL_law_3074 ?_
  refine lv_topi (fun v41 ev41 => ?_)
  obtain rfl : p4 = v41 := ep4.trans (by rw [ev41, ev40])
  obtain ⟨v42, ev42⟩ : ∃ y : Int64, y = p4.toInt64 := ⟨_, rfl⟩
  refine lv_i2l hx hb dL_law_3075 ev42.symm ?_
  have rv42 : mm_rl v42 (-2147483648) 2147483647 := mm_i2l ev42 (mm_top p4)
  refine lv_ldc2 (v := 4294967295) hx hb hown (mm_h hts mm_w6) dL_law_3076 ?_
  refine lv_land hx hb dL_law_3079 ?_
  refine lv_topl (fun v43 ev43 => ?_)
  refine lv_lor hx hb dL_law_3080 ?_
  refine lv_topl (fun v44 ev44 => ?_)
  refine mm_fini (va_runV (As := [.int p1, .int p2, .long v44]) (rest := [.int v22]) ⟨hx, hb, hml, hown, hts⟩ (C387_X12_write l G cy H.size qm p1 p2 v44 mv0 (um 0) (um 1) (um 2) (um 3) (um 4) mv1 mv2 mv3 mv4 mv5 ml6 mv7 mv8 mv9 mv10 (um 5) (um 6) (um 7) (um 8) (um 9) (um 10) (um 11) (um 12) (um 13) (um 14) (um 15) (um 16) (um 17) mv11 mv12 mv13 mv14 mv15 mv16 (um 18) mv17 (um 19) mf18 mf19 mf20 rmf18 rmf19) (cwV 3 hts (mm_gV mm_w1699 mm_w1700 mm_w1701 mm_w5 mm_w1702) rfl rfl rfl hd_X12_write ⟨by rw [hRf]; exact Nat.le_of_ble_eq_true rfl, by rw [hRl]; exact Nat.le_of_ble_eq_true rfl⟩) (mm_preV hK hZ hS hA hP hD [95, 96, 97, 98] rfl rfl 95 rfl rfl rfl) rfl rfl hl.1 rfl (lv_room (Nat.le_of_ble_eq_true rfl)) dL_law_3081 ⟨by rw [hRc]; exact Nat.le_of_ble_eq_true rfl, by rw [hRs]; exact Nat.le_of_ble_eq_true rfl⟩) hP hD hS hA (fun u : (Nat → Int64) => (lw_W qx qm ux um cy xv0 xf1 xv2 xv3 xv4 xv5 xv6 xv7 xv8 xv9 xv10 xv11 xv12 xv13 xv14 xv15 xf16 xf17 xf18 xf19 xf20 xf21 xf22 xf23 xf24 xf25 xv26 xv27 xv28 xv29 xv30 xv31 xv32 xv33 xf34 xf35 xf36 xf37 xf38 xf39 xf40 xf41 xf42 xf43 xv44 xv45 xv46 xf47 xf48 xv49 xv50 xv51 xf52 xf53 xv54 xv55 xv56 xf57 xf58 xv59 xv60 xv61 xv62 xv63 xv64 xv65 xv66 xf67 xf68 xf69 xf70 xf71 xf72 xf73 xf74 xf75 xf76 xv77 xv78 xv79 xv80 xv81 xv82 xv83 xv84 xf85 xf86 xf87 xf88 xf89 xf90 xf91 xf92 xf93 xf94 xv95 xv96 xv97 xv98 xv99 xv100 xv101 xv102 xf103 xf104 xf105 xf106 xf107 xf108 xf109 xf110 xf111 xf112 xf113 xv114 n14 xv116 n15 xv118 n16 xv120 n17 xv122 n18 xv124 n19 xv126 n20 xv128 n21 xv130 xf131 xv132 xf133 xv134 xv135 xv136 xv137 xf138 xf139 xf140 xf141 xf142 xf143 xf144 0 mv1 mv2 mv3 mv4 mv5 ml6 mv7 mv8 mv9 mv10 mv11 mv12 mv13 mv14 mv15 mv16 mv17 mf18 mf19 u mf21 mf22 me23 me24 me25 me26 me27 me28 me29 me30 me31 me32 me33 me34 me35 me36 me37 me38 me39 me40 me41 me42 me43 me44 me45 me46 me47 me48 me49 me50 me51 me52 me53 me54 me55 me56 me57 mf58 mf59 mf60 mf61 mf62 mf63 mf64 mf65 mf66 mf67 mf68 mf69 mf70)) [95, 96, 97, 98] [0, 1, 2, 3, 4, 5, 6, 7, 8, 9, 10, 11, 12, 13, 14, 15, 16, 17, 18, 19, 20, 21, 22, 23, 24, 25, 26, 27, 28, 29, 30, 31, 32, 33, 34, 35, 36, 37, 38, 39, 40, 41, 42, 43, 44, 45, 46, 47, 48, 49, 50, 51, 52, 53, 54, 55, 56, 57, 58, 59, 60, 61, 62, 63, 64, 65, 66, 67, 68, 69, 70, 71, 72, 73, 74, 75, 76, 77, 78, 79, 80, 81, 82, 83, 84, 85, 86, 87, 88, 89, 90, 91, 92, 93, 94, 99, 100, 101, 102, 103, 104, 105, 106, 107, 108, 109, 110, 111, 112, 113, 114, 115] (n := 116) (fun _ => rfl) (by decide +kernel) (by decide +kernel) rfl (fun _ => rfl) (wr := List.filterMap (fun i => ((lw_W qx qm ux um cy xv0 xf1 xv2 xv3 xv4 xv5 xv6 xv7 xv8 xv9 xv10 xv11 xv12 xv13 xv14 xv15 xf16 xf17 xf18 xf19 xf20 xf21 xf22 xf23 xf24 xf25 xv26 xv27 xv28 xv29 xv30 xv31 xv32 xv33 xf34 xf35 xf36 xf37 xf38 xf39 xf40 xf41 xf42 xf43 xv44 xv45 xv46 xf47 xf48 xv49 xv50 xv51 xf52 xf53 xv54 xv55 xv56 xf57 xf58 xv59 xv60 xv61 xv62 xv63 xv64 xv65 xv66 xf67 xf68 xf69 xf70 xf71 xf72 xf73 xf74 xf75 xf76 xv77 xv78 xv79 xv80 xv81 xv82 xv83 xv84 xf85 xf86 xf87 xf88 xf89 xf90 xf91 xf92 xf93 xf94 xv95 xv96 xv97 xv98 xv99 xv100 xv101 xv102 xf103 xf104 xf105 xf106 xf107 xf108 xf109 xf110 xf111 xf112 xf113 xv114 n14 xv116 n15 xv118 n16 xv120 n17 xv122 n18 xv124 n19 xv126 n20 xv128 n21 xv130 xf131 xv132 xf133 xv134 xv135 xv136 xv137 xf138 xf139 xf140 xf141 xf142 xf143 xf144 mv0 mv1 mv2 mv3 mv4 mv5 ml6 mv7 mv8 mv9 mv10 mv11 mv12 mv13 mv14 mv15 mv16 mv17 mf18 mf19 mf20 mf21 mf22 me23 me24 me25 me26 me27 me28 me29 me30 me31 me32 me33 me34 me35 me36 me37 me38 me39 me40 me41 me42 me43 me44 me45 me46 me47 me48 me49 me50 me51 me52 me53 me54 me55 me56 me57 mf58 mf59 mf60 mf61 mf62 mf63 mf64 mf65 mf66 mf67 mf68 mf69 mf70))[i]?) [0, 1, 2, 3, 4, 5, 6, 7, 8, 9, 10, 11, 12, 13, 14, 15, 16, 17, 18, 19, 20, 21, 22, 23, 24, 25, 26, 27, 28, 29, 30, 31, 32, 33, 34, 35, 36, 37, 38, 39, 40, 41, 42, 43, 44, 45, 46, 47, 48, 49, 50, 51, 52, 53, 54, 55, 56, 57, 58, 59, 60, 61, 62, 63, 64, 65, 66, 67, 68, 69, 70, 71, 72, 73, 74, 75, 76, 77, 78, 79, 80, 81, 82, 83, 84, 85, 86, 87, 88, 89, 90, 91, 92, 93, 94, 99, 100, 101, 102, 103, 104, 105, 106, 107, 108, 109, 110, 111, 112, 113, 114, 115]) rfl (fun _ => rfl) (fun _ => rfl) ?_
  clear hP hD hS
  clear H locs
  intro v46 n45 H locs hw (hP : va_P G vwCl (lw_W qx qm ux um cy xv0 xf1 xv2 xv3 xv4 xv5 xv6 xv7 xv8 xv9 xv10 xv11 xv12 xv13 xv14 xv15 xf16 xf17 xf18 xf19 xf20 xf21 xf22 xf23 xf24 xf25 xv26 xv27 xv28 xv29 xv30 xv31 xv32 xv33 xf34 xf35 xf36 xf37 xf38 xf39 xf40 xf41 xf42 xf43 xv44 xv45 xv46 xf47 xf48 xv49 xv50 xv51 xf52 xf53 xv54 xv55 xv56 xf57 xf58 xv59 xv60 xv61 xv62 xv63 xv64 xv65 xv66 xf67 xf68 xf69 xf70 xf71 xf72 xf73 xf74 xf75 xf76 xv77 xv78 xv79 xv80 xv81 xv82 xv83 xv84 xf85 xf86 xf87 xf88 xf89 xf90 xf91 xf92 xf93 xf94 xv95 xv96 xv97 xv98 xv99 xv100 xv101 xv102 xf103 xf104 xf105 xf106 xf107 xf108 xf109 xf110 xf111 xf112 xf113 xv114 n14 xv116 n15 xv118 n16 xv120 n17 xv122 n18 xv124 n19 xv126 n20 xv128 n21 xv130 xf131 xv132 xf133 xv134 xv135 xv136 xv137 xf138 xf139 xf140 xf141 xf142 xf143 xf144 0 mv1 mv2 mv3 mv4 mv5 ml6 mv7 mv8 mv9 mv10 mv11 mv12 mv13 mv14 mv15 mv16 mv17 mf18 mf19 n45 mf21 mf22 me23 me24 me25 me26 me27 me28 me29 me30 me31 me32 me33 me34 me35 me36 me37 me38 me39 me40 me41 me42 me43 me44 me45 me46 me47 me48 me49 me50 me51 me52 me53 me54 me55 me56 me57 mf58 mf59 mf60 mf61 mf62 mf63 mf64 mf65 mf66 mf67 mf68 mf69 mf70) H) (hD : va_D A (lw_W qx qm ux um cy xv0 xf1 xv2 xv3 xv4 xv5 xv6 xv7 xv8 xv9 xv10 xv11 xv12 xv13 xv14 xv15 xf16 xf17 xf18 xf19 xf20 xf21 xf22 xf23 xf24 xf25 xv26 xv27 xv28 xv29 xv30 xv31 xv32 xv33 xf34 xf35 xf36 xf37 xf38 xf39 xf40 xf41 xf42 xf43 xv44 xv45 xv46 xf47 xf48 xv49 xv50 xv51 xf52 xf53 xv54 xv55 xv56 xf57 xf58 xv59 xv60 xv61 xv62 xv63 xv64 xv65 xv66 xf67 xf68 xf69 xf70 xf71 xf72 xf73 xf74 xf75 xf76 xv77 xv78 xv79 xv80 xv81 xv82 xv83 xv84 xf85 xf86 xf87 xf88 xf89 xf90 xf91 xf92 xf93 xf94 xv95 xv96 xv97 xv98 xv99 xv100 xv101 xv102 xf103 xf104 xf105 xf106 xf107 xf108 xf109 xf110 xf111 xf112 xf113 xv114 n14 xv116 n15 xv118 n16 xv120 n17 xv122 n18 xv124 n19 xv126 n20 xv128 n21 xv130 xf131 xv132 xf133 xv134 xv135 xv136 xv137 xf138 xf139 xf140 xf141 xf142 xf143 xf144 0 mv1 mv2 mv3 mv4 mv5 ml6 mv7 mv8 mv9 mv10 mv11 mv12 mv13 mv14 mv15 mv16 mv17 mf18 mf19 n45 mf21 mf22 me23 me24 me25 me26 me27 me28 me29 me30 me31 me32 me33 me34 me35 me36 me37 me38 me39 me40 me41 me42 me43 me44 me45 me46 me47 me48 me49 me50 me51 me52 me53 me54 me55 me56 me57 mf58 mf59 mf60 mf61 mf62 mf63 mf64 mf65 mf66 mf67 mf68 mf69 mf70)) hS
  have hB : ∀ ls : Array Slot, lv_has ls 4 [(3, .int i), (2, .ref qm), (1, .ref qx), (0, .ref b)] → W p l e room_1 s m #[Value.ref b] below meth c H locs 116 20302 (lw_Z below #[Value.ref b] s) (F0 m 3152 ls []) := by
    intro ls hl
    obtain ⟨v47, ev47⟩ : ∃ y : Int32, y = i + 6 := ⟨_, rfl⟩
    refine lv_iinc (v := v47) (lv' := [(3, .int v47), (2, .ref qm), (1, .ref qx), (0, .ref b)]) hx hb dL_law_3152 hl (k := 0) rfl (by rw [ev47]; rfl) (by decide) rfl ?_
    clear hl
    clear ls
    intro ls hl
    have rv47 : mm_rg v47 6 384 := mm_add ev47 ri mm_k6 (by decide) (by decide)
    have tv47 := mm_addEc ev47 ri mm_k6 (by decide) (k := 6) (by decide)
    refine lv_goto (tgt := 18) hx hb dL_law_3155 (by decide) ?_
    have hI2 : lw_I xv0 xf1 xv2 xv3 xv4 xv5 xv6 xv7 xv8 xv9 xv10 xv11 xv12 xv13 xv14 xv15 xf16 xf17 xf18 xf19 xf20 xf21 xf22 xf23 xf24 xf25 xv26 xv27 xv28 xv29 xv30 xv31 xv32 xv33 xf34 xf35 xf36 xf37 xf38 xf39 xf40 xf41 xf42 xf43 xv44 xv45 xv46 xf47 xf48 xv49 xv50 xv51 xf52 xf53 xv54 xv55 xv56 xf57 xf58 xv59 xv60 xv61 xv62 xv63 xv64 xv65 xv66 xf67 xf68 xf69 xf70 xf71 xf72 xf73 xf74 xf75 xf76 xv77 xv78 xv79 xv80 xv81 xv82 xv83 xv84 xf85 xf86 xf87 xf88 xf89 xf90 xf91 xf92 xf93 xf94 xv95 xv96 xv97 xv98 xv99 xv100 xv101 xv102 xf103 xf104 xf105 xf106 xf107 xf108 xf109 xf110 xf111 xf112 xf113 xv114 n14 xv116 n15 xv118 n16 xv120 n17 xv122 n18 xv124 n19 xv126 n20 xv128 n21 xv130 xf131 xv132 xf133 xv134 xv135 xv136 xv137 xf138 xf139 xf140 xf141 xf142 xf143 xf144 0 mv1 mv2 mv3 mv4 mv5 ml6 mv7 mv8 mv9 mv10 mv11 mv12 mv13 mv14 mv15 mv16 mv17 mf18 mf19 n45 mf21 mf22 me23 me24 me25 me26 me27 me28 me29 me30 me31 me32 me33 me34 me35 me36 me37 me38 me39 me40 me41 me42 me43 me44 me45 me46 me47 me48 me49 me50 me51 me52 me53 me54 me55 me56 me57 mf58 mf59 mf60 mf61 mf62 mf63 mf64 mf65 mf66 mf67 mf68 mf69 mf70 := ⟨rxv0, rxf1, rxv2, rxv4, rxv5, rxv6, rxv9, rxv10, rxv11, rxv12, rxv13, rxv14, rxv15, rxf16, rxf17, rxf18, rxf19, rxf20, rxf21, rxf22, rxf23, rxf24, rxf25, rxv27, rxv28, rxv29, rxv30, rxv31, rxv32, rxv33, rxf34, rxf35, rxf36, rxf37, rxf38, rxf39, rxf40, rxf41, rxf42, rxf43, rxv44, rxv46, rxf47, rxf48, rxv49, rxv51, rxf52, rxf53, rxv54, rxv56, rxf57, rxf58, rxv60, rxv61, rxv62, rxv63, rxv64, rxv65, rxv66, rxf67, rxf68, rxf69, rxf70, rxf71, rxf72, rxf73, rxf74, rxf75, rxf76, rxv78, rxv79, rxv80, rxv81, rxv82, rxv83, rxv84, rxf85, rxf86, rxf87, rxf88, rxf89, rxf90, rxf91, rxf92, rxf93, rxf94, rxv96, rxv97, rxv98, rxv99, rxv100, rxv101, rxv102, rxf103, rxf104, rxf105, rxf106, rxf107, rxf108, rxf109, rxf110, rxf111, rxf112, rxf113, rxv114, w23, rxv116, rxv118, w24, rxv120, rxv122, w25, rxv124, rxv126, w26, rxv128, rxv130, rxv132, rxf133, rxv134, rxv136, rxf138, rxf140, rmv1, rmv2, rmv3, rmv4, rmv7, rmv11, rmf18, rmf19, rmf22, rme23, rme24, rme25, rme26, rme27, rme28, rme29, rme30, rme31, rme32, rme33, rme34, rme35, rme36, rme37, rme38, rme39, rme40, rme41, rme42, rme43, rme44, rme45, rme46, rme47, rme48, rme49, rme50, rme51, rme52, rme53, rme54, rme55, rme56, rme57, rmf58, rmf59, rmf60, rmf61, rmf62, rmf63, rmf64, rmf65, rmf66, rmf67, rmf68, rmf69, wI179, wI180, wI181, wI182, wI183, wI184, wI185, wI186, wI187, wI188, wI189, wI190, wI191, wI192, wI193, wI194, wI195, wI196, wI197, wI198, wI199, (mm_rj_e wI200 rfl w27 rfl), (mm_rj_e wI201 rfl w28 rfl), (mm_rj_e wI202 rfl w29 rfl), (mm_rj_e wI203 rfl w30 rfl)⟩
    exact ih v47 ev47 xv0 xf1 xv2 xv3 xv4 xv5 xv6 xv7 xv8 xv9 xv10 xv11 xv12 xv13 xv14 xv15 xf16 xf17 xf18 xf19 xf20 xf21 xf22 xf23 xf24 xf25 xv26 xv27 xv28 xv29 xv30 xv31 xv32 xv33 xf34 xf35 xf36 xf37 xf38 xf39 xf40 xf41 xf42 xf43 xv44 xv45 xv46 xf47 xf48 xv49 xv50 xv51 xf52 xf53 xv54 xv55 xv56 xf57 xf58 xv59 xv60 xv61 xv62 xv63 xv64 xv65 xv66 xf67 xf68 xf69 xf70 xf71 xf72 xf73 xf74 xf75 xf76 xv77 xv78 xv79 xv80 xv81 xv82 xv83 xv84 xf85 xf86 xf87 xf88 xf89 xf90 xf91 xf92 xf93 xf94 xv95 xv96 xv97 xv98 xv99 xv100 xv101 xv102 xf103 xf104 xf105 xf106 xf107 xf108 xf109 xf110 xf111 xf112 xf113 xv114 n14 xv116 n15 xv118 n16 xv120 n17 xv122 n18 xv124 n19 xv126 n20 xv128 n21 xv130 xf131 xv132 xf133 xv134 xv135 xv136 xv137 xf138 xf139 xf140 xf141 xf142 xf143 xf144 0 mv1 mv2 mv3 mv4 mv5 ml6 mv7 mv8 mv9 mv10 mv11 mv12 mv13 mv14 mv15 mv16 mv17 mf18 mf19 n45 mf21 mf22 me23 me24 me25 me26 me27 me28 me29 me30 me31 me32 me33 me34 me35 me36 me37 me38 me39 me40 me41 me42 me43 me44 me45 me46 me47 me48 me49 me50 me51 me52 me53 me54 me55 me56 me57 mf58 mf59 mf60 mf61 mf62 mf63 mf64 mf65 mf66 mf67 mf68 mf69 mf70 hI2 H locs hP hD hS ls (lv_sub hl [0, 1, 2, 3] rfl)
  clear hP hD hS rxv0 rxf1 rxv2 rxv4 rxv5 rxv6 rxv9 rxv10 rxv11 rxv12 rxv13 rxv14 rxv15 rxf16 rxf17 rxf18 rxf19 rxf20 rxf21 rxf22 rxf23 rxf24 rxf25 rxv27 rxv28 rxv29 rxv30 rxv31 rxv32 rxv33 rxf34 rxf35 rxf36 rxf37 rxf38 rxf39 rxf40 rxf41 rxf42 rxf43 rxv44 rxv46 rxf47 rxf48 rxv49 rxv51 rxf52 rxf53 rxv54 rxv56 rxf57 rxf58 rxv60 rxv61 rxv62 rxv63 rxv64 rxv65 rxv66 rxf67 rxf68 rxf69 rxf70 rxf71 rxf72 rxf73 rxf74 rxf75 rxf76 rxv78 rxv79 rxv80 rxv81 rxv82 rxv83 rxv84 rxf85 rxf86 rxf87 rxf88 rxf89 rxf90 rxf91 rxf92 rxf93 rxf94 rxv96 rxv97 rxv98 rxv99 rxv100 rxv101 rxv102 rxf103 rxf104 rxf105 rxf106 rxf107 rxf108 rxf109 rxf110 rxf111 rxf112 rxf113 rxv114 rxv115 rxv118 rxv119 rxv122 rxv123 rxv126 rxv127 rxv130 rxv132 rxf133 rxv134 rxv136 rxf138 rxf140 rmv1 rmv2 rmv3 rmv4 rmv7 rmv11 rmf18 rmf19 rmf22 rme23 rme24 rme25 rme26 rme27 rme28 rme29 rme30 rme31 rme32 rme33 rme34 rme35 rme36 rme37 rme38 rme39 rme40 rme41 rme42 rme43 rme44 rme45 rme46 rme47 rme48 rme49 rme50 rme51 rme52 rme53 rme54 rme55 rme56 rme57 rmf58 rmf59 rmf60 rmf61 rmf62 rmf63 rmf64 rmf65 rmf66 rmf67 rmf68 rmf69 wI179 wI180 wI181 wI182 wI183 wI184 wI185 wI186 wI187 wI188 wI189 wI190 wI191 wI192 wI193 wI194 wI195 wI196 wI197 wI198 wI199
  try clear xv0
  try clear xf1
  try clear xv2
  try clear xv3
  try clear xv4
  try clear xv5
  try clear xv6
  try clear xv7
  try clear xv8
  try clear xv9
  try clear xv10
  try clear xv11
  try clear xv12
  try clear xv13
  try clear xv14
  try clear xv15
  try clear xf16
  try clear xf17
  try clear xf18
  try clear xf19
  try clear xf20
  try clear xf21
  try clear xf22
  try clear xf23
  try clear xf24
  try clear xf25
  try clear xv26
  try clear xv27
  try clear xv28
  try clear xv29
  try clear xv30
  try clear xv31
  try clear xv32
  try clear xv33
  try clear xf34
  try clear xf35
  try clear xf36
  try clear xf37
  try clear xf38
  try clear xf39
  try clear xf40
  try clear xf41
  try clear xf42
  try clear xf43
  try clear xv44
  try clear xv45
  try clear xv46
  try clear xf47
  try clear xf48
  try clear xv49
  try clear xv50
  try clear xv51
  try clear xf52
  try clear xf53
  try clear xv54
  try clear xv55
  try clear xv56
  try clear xf57
  try clear xf58
  try clear xv59
  try clear xv60
  try clear xv61
  try clear xv62
  try clear xv63
  try clear xv64
  try clear xv65
  try clear xv66
  try clear xf67
  try clear xf68
  try clear xf69
  try clear xf70
  try clear xf71
  try clear xf72
  try clear xf73
  try clear xf74
  try clear xf75
  try clear xf76
  try clear xv77
  try clear xv78
  try clear xv79
  try clear xv80
  try clear xv81
  try clear xv82
  try clear xv83
  try clear xv84
  try clear xf85
  try clear xf86
  try clear xf87
  try clear xf88
  try clear xf89
  try clear xf90
  try clear xf91
  try clear xf92
  try clear xf93
  try clear xf94
  try clear xv95
  try clear xv96
  try clear xv97
  try clear xv98
  try clear xv99
  try clear xv100
  try clear xv101
  try clear xv102
  try clear xf103
  try clear xf104
  try clear xf105
  try clear xf106
  try clear xf107
  try clear xf108
  try clear xf109
  try clear xf110
  try clear xf111
  try clear xf112
  try clear xf113
  try clear xv114
  try clear xv115
  try clear xv116
  try clear xf117
  try clear xv118
  try clear xv119
  try clear xv120
  try clear xf121
  try clear xv122
  try clear xv123
  try clear xv124
  try clear xf125
  try clear xv126
  try clear xv127
  try clear xv128
  try clear xf129
  try clear xv130
  try clear xf131
  try clear xv132
  try clear xf133
  try clear xv134
  try clear xv135
  try clear xv136
  try clear xv137
  try clear xf138
  try clear xf139
  try clear xf140
  try clear xf141
  try clear xf142
  try clear xf143
  try clear xf144
  try clear mv0
  try clear mv1
  try clear mv2
  try clear mv3
  try clear mv4
  try clear mv5
  try clear ml6
  try clear mv7
  try clear mv8
  try clear mv9
  try clear mv10
  try clear mv11
  try clear mv12
  try clear mv13
  try clear mv14
  try clear mv15
  try clear mv16
  try clear mv17
  try clear mf18
  try clear mf19
  try clear mf20
  try clear mf21
  try clear mf22
  try clear me23
  try clear me24
  try clear me25
  try clear me26
  try clear me27
  try clear me28
  try clear me29
  try clear me30
  try clear me31
  try clear me32
  try clear me33
  try clear me34
  try clear me35
  try clear me36
  try clear me37
  try clear me38
  try clear me39
  try clear me40
  try clear me41
  try clear me42
  try clear me43
  try clear me44
  try clear me45
  try clear me46
  try clear me47
  try clear me48
  try clear me49
  try clear me50
  try clear me51
  try clear me52
  try clear me53
  try clear me54
  try clear me55
  try clear me56
  try clear me57
  try clear mf58
  try clear mf59
  try clear mf60
  try clear mf61
  try clear mf62
  try clear mf63
  try clear mf64
  try clear mf65
  try clear mf66
  try clear mf67
  try clear mf68
  try clear mf69
  try clear mf70
  rcases hw with ⟨rfl, w48⟩ | ⟨rfl, w49⟩ | ⟨rfl, w50, w51, w52⟩ | ⟨rfl, w53, w54, w55, w56⟩ | ⟨rfl, w57, w58, w59, w60⟩ | ⟨rfl, w61, w62⟩
  · rcases w31 with ⟨rfl, w63⟩ | ⟨rfl, w64⟩ | ⟨rfl, w65, w66, w67⟩ | ⟨rfl, w68, w69, w70, w71⟩ | ⟨rfl, w72, w73, w74, w75⟩ | ⟨rfl, w76, w77⟩ | ⟨rfl, w78, w79, w80⟩ | ⟨rfl, w81, w82, w83, w84⟩ | ⟨rfl, w85, w86, w87, w88⟩ | ⟨rfl, w89, w90⟩ | ⟨rfl, w91, w92, w93⟩ | ⟨rfl, w94, w95, w96, w97⟩ | ⟨rfl, w98, w99, w100, w101⟩ | ⟨rfl, w102, w103⟩ | ⟨rfl, w104, w105, w106⟩ | ⟨rfl, w107, w108, w109, w110⟩ | ⟨rfl, w111, w112, w113, w114⟩ | ⟨rfl, w115, w116⟩
    · refine lv_icmp_eq (tgt := 3152) hx hb dL_law_3084 (by decide) (fun c117 => ?_) (fun c117 => ?_)
      · exact hB ls hl
      · have q118 := mm_neL (lo := (-1)) (mm_ne c117) mm_km2 mm_km2 (by decide) (by decide)
        exact mm_no q118 (by decide)
    · exact mm_noX w64 w48 (by decide)
    · exact mm_noX w65 w48 (by decide)
    · exact mm_noX w68 w48 (by decide)
    · exact mm_noX w72 w48 (by decide)
    · exact mm_noX w76 w48 (by decide)
    · exact mm_noX w78 w48 (by decide)
    · exact mm_noX w81 w48 (by decide)
    · exact mm_noX w85 w48 (by decide)
    · exact mm_noX w89 w48 (by decide)
    · exact mm_noX w91 w48 (by decide)
    · exact mm_noX w94 w48 (by decide)
    · exact mm_noX w98 w48 (by decide)
    · exact mm_noX w102 w48 (by decide)
    · exact mm_noX w104 w48 (by decide)
    · exact mm_noX w107 w48 (by decide)
    · exact mm_noX w111 w48 (by decide)
    · exact mm_noX w115 w48 (by decide)
  · rcases w31 with ⟨rfl, w119⟩ | ⟨rfl, w120⟩ | ⟨rfl, w121, w122, w123⟩ | ⟨rfl, w124, w125, w126, w127⟩ | ⟨rfl, w128, w129, w130, w131⟩ | ⟨rfl, w132, w133⟩ | ⟨rfl, w134, w135, w136⟩ | ⟨rfl, w137, w138, w139, w140⟩ | ⟨rfl, w141, w142, w143, w144⟩ | ⟨rfl, w145, w146⟩ | ⟨rfl, w147, w148, w149⟩ | ⟨rfl, w150, w151, w152, w153⟩ | ⟨rfl, w154, w155, w156, w157⟩ | ⟨rfl, w158, w159⟩ | ⟨rfl, w160, w161, w162⟩ | ⟨rfl, w163, w164, w165, w166⟩ | ⟨rfl, w167, w168, w169, w170⟩ | ⟨rfl, w171, w172⟩
    · exact mm_noX w119 w49 (by decide)
    · refine lv_icmp_eq (tgt := 3152) hx hb dL_law_3084 (by decide) (fun c173 => ?_) (fun c173 => ?_)
      · exact hB ls hl
      · have q174 := mm_neL (lo := (-1)) (mm_ne c173) mm_km2 mm_km2 (by decide) (by decide)
        exact mm_no q174 (by decide)
    · exact mm_noX w121 w49 (by decide)
    · exact mm_noX w124 w49 (by decide)
    · exact mm_noX w128 w49 (by decide)
    · exact mm_noX w132 w49 (by decide)
    · exact mm_noX w134 w49 (by decide)
    · exact mm_noX w137 w49 (by decide)
    · exact mm_noX w141 w49 (by decide)
    · exact mm_noX w145 w49 (by decide)
    · exact mm_noX w147 w49 (by decide)
    · exact mm_noX w150 w49 (by decide)
    · exact mm_noX w154 w49 (by decide)
    · exact mm_noX w158 w49 (by decide)
    · exact mm_noX w160 w49 (by decide)
    · exact mm_noX w163 w49 (by decide)
    · exact mm_noX w167 w49 (by decide)
    · exact mm_noX w171 w49 (by decide)
  · rcases w31 with ⟨rfl, w175⟩ | ⟨rfl, w176⟩ | ⟨rfl, w177, w178, w179⟩ | ⟨rfl, w180, w181, w182, w183⟩ | ⟨rfl, w184, w185, w186, w187⟩ | ⟨rfl, w188, w189⟩ | ⟨rfl, w190, w191, w192⟩ | ⟨rfl, w193, w194, w195, w196⟩ | ⟨rfl, w197, w198, w199, w200⟩ | ⟨rfl, w201, w202⟩ | ⟨rfl, w203, w204, w205⟩ | ⟨rfl, w206, w207, w208, w209⟩ | ⟨rfl, w210, w211, w212, w213⟩ | ⟨rfl, w214, w215⟩ | ⟨rfl, w216, w217, w218⟩ | ⟨rfl, w219, w220, w221, w222⟩ | ⟨rfl, w223, w224, w225, w226⟩ | ⟨rfl, w227, w228⟩
    · exact mm_noX w175 w50 (by decide)
    · exact mm_noX w176 w50 (by decide)
    · refine lv_icmp_eq (tgt := 3152) hx hb dL_law_3084 (by decide) (fun c229 => ?_) (fun c229 => ?_)
      · exact hB ls hl
      · have q230 := mm_neL (lo := (-6)) (mm_ne c229) mm_km7 mm_km7 (by decide) (by decide)
        exact mm_no q230 (by decide)
    · exact mm_noX w181 w51 (by decide)
    · exact mm_noX w185 w51 (by decide)
    · exact mm_rj_no0 wI200 w52 w189 w188 (by decide)
    · refine lv_icmp_eq (tgt := 3152) hx hb dL_law_3084 (by decide) (fun c231 => ?_) (fun c231 => ?_)
      · exact hB ls hl
      · have q232 := mm_neL (lo := (-6)) (mm_ne c231) mm_km7 mm_km7 (by decide) (by decide)
        exact mm_no q232 (by decide)
    · exact mm_noX w194 w51 (by decide)
    · exact mm_noX w198 w51 (by decide)
    · exact mm_rj_no0 wI201 w52 w202 w201 (by decide)
    · refine lv_icmp_eq (tgt := 3152) hx hb dL_law_3084 (by decide) (fun c233 => ?_) (fun c233 => ?_)
      · exact hB ls hl
      · have q234 := mm_neL (lo := (-6)) (mm_ne c233) mm_km7 mm_km7 (by decide) (by decide)
        exact mm_no q234 (by decide)
    · exact mm_noX w207 w51 (by decide)
    · exact mm_noX w211 w51 (by decide)
    · exact mm_rj_no0 wI202 w52 w215 w214 (by decide)
    · refine lv_icmp_eq (tgt := 3152) hx hb dL_law_3084 (by decide) (fun c235 => ?_) (fun c235 => ?_)
      · exact hB ls hl
      · have q236 := mm_neL (lo := (-6)) (mm_ne c235) mm_km7 mm_km7 (by decide) (by decide)
        exact mm_no q236 (by decide)
    · exact mm_noX w220 w51 (by decide)
    · exact mm_noX w224 w51 (by decide)
    · exact mm_rj_no0 wI203 w52 w228 w227 (by decide)
  · rcases w31 with ⟨rfl, w237⟩ | ⟨rfl, w238⟩ | ⟨rfl, w239, w240, w241⟩ | ⟨rfl, w242, w243, w244, w245⟩ | ⟨rfl, w246, w247, w248, w249⟩ | ⟨rfl, w250, w251⟩ | ⟨rfl, w252, w253, w254⟩ | ⟨rfl, w255, w256, w257, w258⟩ | ⟨rfl, w259, w260, w261, w262⟩ | ⟨rfl, w263, w264⟩ | ⟨rfl, w265, w266, w267⟩ | ⟨rfl, w268, w269, w270, w271⟩ | ⟨rfl, w272, w273, w274, w275⟩ | ⟨rfl, w276, w277⟩ | ⟨rfl, w278, w279, w280⟩ | ⟨rfl, w281, w282, w283, w284⟩ | ⟨rfl, w285, w286, w287, w288⟩ | ⟨rfl, w289, w290⟩
    · exact mm_noX w237 w53 (by decide)
    · exact mm_noX w238 w53 (by decide)
    · exact mm_noX w240 w54 (by decide)
    · have q291 := mm_ltR (lo := 1) w245 w243 rxv116 (by decide)
      exact mm_rj_no3 wI200 w56 w245 w242 (by decide)
    · refine lv_icmp_eq (tgt := 3152) hx hb dL_law_3084 (by decide) (fun c292 => ?_) (fun c292 => ?_)
      · exact hB ls hl
      · have q293 := mm_neL (lo := (-6)) (mm_ne c292) mm_km7 mm_km7 (by decide) (by decide)
        exact mm_no q293 (by decide)
    · exact mm_rj_no0 wI200 w55 w251 w250 (by decide)
    · exact mm_noX w253 w54 (by decide)
    · have q294 := mm_ltR (lo := 1) w258 w256 rxv120 (by decide)
      exact mm_rj_no3 wI201 w56 w258 w255 (by decide)
    · refine lv_icmp_eq (tgt := 3152) hx hb dL_law_3084 (by decide) (fun c295 => ?_) (fun c295 => ?_)
      · exact hB ls hl
      · have q296 := mm_neL (lo := (-6)) (mm_ne c295) mm_km7 mm_km7 (by decide) (by decide)
        exact mm_no q296 (by decide)
    · exact mm_rj_no0 wI201 w55 w264 w263 (by decide)
    · exact mm_noX w266 w54 (by decide)
    · have q297 := mm_ltR (lo := 1) w271 w269 rxv124 (by decide)
      exact mm_rj_no3 wI202 w56 w271 w268 (by decide)
    · refine lv_icmp_eq (tgt := 3152) hx hb dL_law_3084 (by decide) (fun c298 => ?_) (fun c298 => ?_)
      · exact hB ls hl
      · have q299 := mm_neL (lo := (-6)) (mm_ne c298) mm_km7 mm_km7 (by decide) (by decide)
        exact mm_no q299 (by decide)
    · exact mm_rj_no0 wI202 w55 w277 w276 (by decide)
    · exact mm_noX w279 w54 (by decide)
    · have q300 := mm_ltR (lo := 1) w284 w282 rxv128 (by decide)
      exact mm_rj_no3 wI203 w56 w284 w281 (by decide)
    · refine lv_icmp_eq (tgt := 3152) hx hb dL_law_3084 (by decide) (fun c301 => ?_) (fun c301 => ?_)
      · exact hB ls hl
      · have q302 := mm_neL (lo := (-6)) (mm_ne c301) mm_km7 mm_km7 (by decide) (by decide)
        exact mm_no q302 (by decide)
    · exact mm_rj_no0 wI203 w55 w290 w289 (by decide)
  · rcases w31 with ⟨rfl, w303⟩ | ⟨rfl, w304⟩ | ⟨rfl, w305, w306, w307⟩ | ⟨rfl, w308, w309, w310, w311⟩ | ⟨rfl, w312, w313, w314, w315⟩ | ⟨rfl, w316, w317⟩ | ⟨rfl, w318, w319, w320⟩ | ⟨rfl, w321, w322, w323, w324⟩ | ⟨rfl, w325, w326, w327, w328⟩ | ⟨rfl, w329, w330⟩ | ⟨rfl, w331, w332, w333⟩ | ⟨rfl, w334, w335, w336, w337⟩ | ⟨rfl, w338, w339, w340, w341⟩ | ⟨rfl, w342, w343⟩ | ⟨rfl, w344, w345, w346⟩ | ⟨rfl, w347, w348, w349, w350⟩ | ⟨rfl, w351, w352, w353, w354⟩ | ⟨rfl, w355, w356⟩
    · exact mm_noX w303 w57 (by decide)
    · exact mm_noX w304 w57 (by decide)
    · exact mm_noX w306 w58 (by decide)
    · have q357 := mm_ltR (lo := 1) w311 w309 rxv116 (by decide)
      refine lv_icmp_eq (tgt := 3152) hx hb dL_law_3084 (by decide) (fun c358 => ?_) (fun c358 => ?_)
      · exact hB ls hl
      · have q359 := mm_neL (lo := 1) (mm_ne c358) mm_k0 mm_k0 (by decide) (by decide)
        exact mm_no q359 (by decide)
    · have q360 := mm_leL w315 rxv116 w58
      exact mm_rj_no2 wI200 w60 w315 w312 (by decide)
    · exact mm_rj_no0 wI200 w59 w317 w316 (by decide)
    · exact mm_noX w319 w58 (by decide)
    · have q361 := mm_ltR (lo := 1) w324 w322 rxv120 (by decide)
      refine lv_icmp_eq (tgt := 3152) hx hb dL_law_3084 (by decide) (fun c362 => ?_) (fun c362 => ?_)
      · exact hB ls hl
      · have q363 := mm_neL (lo := 1) (mm_ne c362) mm_k0 mm_k0 (by decide) (by decide)
        exact mm_no q363 (by decide)
    · have q364 := mm_leL w328 rxv120 w58
      exact mm_rj_no2 wI201 w60 w328 w325 (by decide)
    · exact mm_rj_no0 wI201 w59 w330 w329 (by decide)
    · exact mm_noX w332 w58 (by decide)
    · have q365 := mm_ltR (lo := 1) w337 w335 rxv124 (by decide)
      refine lv_icmp_eq (tgt := 3152) hx hb dL_law_3084 (by decide) (fun c366 => ?_) (fun c366 => ?_)
      · exact hB ls hl
      · have q367 := mm_neL (lo := 1) (mm_ne c366) mm_k0 mm_k0 (by decide) (by decide)
        exact mm_no q367 (by decide)
    · have q368 := mm_leL w341 rxv124 w58
      exact mm_rj_no2 wI202 w60 w341 w338 (by decide)
    · exact mm_rj_no0 wI202 w59 w343 w342 (by decide)
    · exact mm_noX w345 w58 (by decide)
    · have q369 := mm_ltR (lo := 1) w350 w348 rxv128 (by decide)
      refine lv_icmp_eq (tgt := 3152) hx hb dL_law_3084 (by decide) (fun c370 => ?_) (fun c370 => ?_)
      · exact hB ls hl
      · have q371 := mm_neL (lo := 1) (mm_ne c370) mm_k0 mm_k0 (by decide) (by decide)
        exact mm_no q371 (by decide)
    · have q372 := mm_leL w354 rxv128 w58
      exact mm_rj_no2 wI203 w60 w354 w351 (by decide)
    · exact mm_rj_no0 wI203 w59 w356 w355 (by decide)
  · rcases w31 with ⟨rfl, w373⟩ | ⟨rfl, w374⟩ | ⟨rfl, w375, w376, w377⟩ | ⟨rfl, w378, w379, w380, w381⟩ | ⟨rfl, w382, w383, w384, w385⟩ | ⟨rfl, w386, w387⟩ | ⟨rfl, w388, w389, w390⟩ | ⟨rfl, w391, w392, w393, w394⟩ | ⟨rfl, w395, w396, w397, w398⟩ | ⟨rfl, w399, w400⟩ | ⟨rfl, w401, w402, w403⟩ | ⟨rfl, w404, w405, w406, w407⟩ | ⟨rfl, w408, w409, w410, w411⟩ | ⟨rfl, w412, w413⟩ | ⟨rfl, w414, w415, w416⟩ | ⟨rfl, w417, w418, w419, w420⟩ | ⟨rfl, w421, w422, w423, w424⟩ | ⟨rfl, w425, w426⟩
    · exact mm_noX w373 w61 (by decide)
    · exact mm_noX w374 w61 (by decide)
    · exact mm_rj_no1 wI200 w62 w377 w375 (by decide)
    · exact mm_rj_no1 wI200 w62 w380 w378 (by decide)
    · exact mm_rj_no1 wI200 w62 w384 w382 (by decide)
    · refine lv_icmp_eq (tgt := 3152) hx hb dL_law_3084 (by decide) (fun c427 => ?_) (fun c427 => ?_)
      · exact hB ls hl
      · have q428 := mm_neL (lo := (-5)) (mm_ne c427) mm_km6 mm_km6 (by decide) (by decide)
        exact mm_no q428 (by decide)
    · exact mm_rj_no1 wI201 w62 w390 w388 (by decide)
    · exact mm_rj_no1 wI201 w62 w393 w391 (by decide)
    · exact mm_rj_no1 wI201 w62 w397 w395 (by decide)
    · refine lv_icmp_eq (tgt := 3152) hx hb dL_law_3084 (by decide) (fun c429 => ?_) (fun c429 => ?_)
      · exact hB ls hl
      · have q430 := mm_neL (lo := (-5)) (mm_ne c429) mm_km6 mm_km6 (by decide) (by decide)
        exact mm_no q430 (by decide)
    · exact mm_rj_no1 wI202 w62 w403 w401 (by decide)
    · exact mm_rj_no1 wI202 w62 w406 w404 (by decide)
    · exact mm_rj_no1 wI202 w62 w410 w408 (by decide)
    · refine lv_icmp_eq (tgt := 3152) hx hb dL_law_3084 (by decide) (fun c431 => ?_) (fun c431 => ?_)
      · exact hB ls hl
      · have q432 := mm_neL (lo := (-5)) (mm_ne c431) mm_km6 mm_km6 (by decide) (by decide)
        exact mm_no q432 (by decide)
    · exact mm_rj_no1 wI203 w62 w416 w414 (by decide)
    · exact mm_rj_no1 wI203 w62 w419 w417 (by decide)
    · exact mm_rj_no1 wI203 w62 w423 w421 (by decide)
    · refine lv_icmp_eq (tgt := 3152) hx hb dL_law_3084 (by decide) (fun c433 => ?_) (fun c433 => ?_)
      · exact hB ls hl
      · have q434 := mm_neL (lo := (-5)) (mm_ne c433) mm_km6 mm_km6 (by decide) (by decide)
        exact mm_no q434 (by decide)

