theorem hd_X11_again : yX11_again.cls = RX11 ∧ yX11_again.cls ≠ "java/lang/invoke/MethodHandle" ∧ yX11_again.cls ≠ "java/lang/invoke/VarHandle" ∧ (parseMethodDescriptor yX11_again.desc).map (fun d => d.parameters.length) = some 3 := by decide +kernel
theorem hd_X11_agree : yX11_agree.cls = RX11 ∧ yX11_agree.cls ≠ "java/lang/invoke/MethodHandle" ∧ yX11_agree.cls ≠ "java/lang/invoke/VarHandle" ∧ (parseMethodDescriptor yX11_agree.desc).map (fun d => d.parameters.length) = some 3 := by decide +kernel
theorem hd_X11_average : yX11_average.cls = RX11 ∧ yX11_average.cls ≠ "java/lang/invoke/MethodHandle" ∧ yX11_average.cls ≠ "java/lang/invoke/VarHandle" ∧ (parseMethodDescriptor yX11_average.desc).map (fun d => d.parameters.length) = some 3 := by decide +kernel
theorem hd_X11_best : yX11_best.cls = RX11 ∧ yX11_best.cls ≠ "java/lang/invoke/MethodHandle" ∧ yX11_best.cls ≠ "java/lang/invoke/VarHandle" ∧ (parseMethodDescriptor yX11_best.desc).map (fun d => d.parameters.length) = some 4 := by decide +kernel
theorem hd_X11_book : yX11_book.cls = RX11 ∧ yX11_book.cls ≠ "java/lang/invoke/MethodHandle" ∧ yX11_book.cls ≠ "java/lang/invoke/VarHandle" ∧ (parseMethodDescriptor yX11_book.desc).map (fun d => d.parameters.length) = some 0 := by decide +kernel
theorem hd_X11_clear : yX11_clear.cls = RX11 ∧ yX11_clear.cls ≠ "java/lang/invoke/MethodHandle" ∧ yX11_clear.cls ≠ "java/lang/invoke/VarHandle" ∧ (parseMethodDescriptor yX11_clear.desc).map (fun d => d.parameters.length) = some 2 := by decide +kernel
theorem hd_X11_days : yX11_days.cls = RX11 ∧ yX11_days.cls ≠ "java/lang/invoke/MethodHandle" ∧ yX11_days.cls ≠ "java/lang/invoke/VarHandle" ∧ (parseMethodDescriptor yX11_days.desc).map (fun d => d.parameters.length) = some 3 := by decide +kernel
theorem hd_X11_end : yX11_end.cls = RX11 ∧ yX11_end.cls ≠ "java/lang/invoke/MethodHandle" ∧ yX11_end.cls ≠ "java/lang/invoke/VarHandle" ∧ (parseMethodDescriptor yX11_end.desc).map (fun d => d.parameters.length) = some 1 := by decide +kernel
theorem hd_X11_fault : yX11_fault.cls = RX11 ∧ yX11_fault.cls ≠ "java/lang/invoke/MethodHandle" ∧ yX11_fault.cls ≠ "java/lang/invoke/VarHandle" ∧ (parseMethodDescriptor yX11_fault.desc).map (fun d => d.parameters.length) = some 1 := by decide +kernel
theorem hd_X11_feed : yX11_feed.cls = RX11 ∧ yX11_feed.cls ≠ "java/lang/invoke/MethodHandle" ∧ yX11_feed.cls ≠ "java/lang/invoke/VarHandle" ∧ (parseMethodDescriptor yX11_feed.desc).map (fun d => d.parameters.length) = some 5 := by decide +kernel
theorem hd_X11_first : yX11_first.cls = RX11 ∧ yX11_first.cls ≠ "java/lang/invoke/MethodHandle" ∧ yX11_first.cls ≠ "java/lang/invoke/VarHandle" ∧ (parseMethodDescriptor yX11_first.desc).map (fun d => d.parameters.length) = some 4 := by decide +kernel
theorem hd_X11_heard : yX11_heard.cls = RX11 ∧ yX11_heard.cls ≠ "java/lang/invoke/MethodHandle" ∧ yX11_heard.cls ≠ "java/lang/invoke/VarHandle" ∧ (parseMethodDescriptor yX11_heard.desc).map (fun d => d.parameters.length) = some 3 := by decide +kernel
theorem hd_X11_may : yX11_may.cls = RX11 ∧ yX11_may.cls ≠ "java/lang/invoke/MethodHandle" ∧ yX11_may.cls ≠ "java/lang/invoke/VarHandle" ∧ (parseMethodDescriptor yX11_may.desc).map (fun d => d.parameters.length) = some 2 := by decide +kernel
theorem hd_X11_means : yX11_means.cls = RX11 ∧ yX11_means.cls ≠ "java/lang/invoke/MethodHandle" ∧ yX11_means.cls ≠ "java/lang/invoke/VarHandle" ∧ (parseMethodDescriptor yX11_means.desc).map (fun d => d.parameters.length) = some 3 := by decide +kernel
theorem hd_X11_mute : yX11_mute.cls = RX11 ∧ yX11_mute.cls ≠ "java/lang/invoke/MethodHandle" ∧ yX11_mute.cls ≠ "java/lang/invoke/VarHandle" ∧ (parseMethodDescriptor yX11_mute.desc).map (fun d => d.parameters.length) = some 1 := by decide +kernel
theorem hd_X11_muted : yX11_muted.cls = RX11 ∧ yX11_muted.cls ≠ "java/lang/invoke/MethodHandle" ∧ yX11_muted.cls ≠ "java/lang/invoke/VarHandle" ∧ (parseMethodDescriptor yX11_muted.desc).map (fun d => d.parameters.length) = some 1 := by decide +kernel
theorem hd_X11_often : yX11_often.cls = RX11 ∧ yX11_often.cls ≠ "java/lang/invoke/MethodHandle" ∧ yX11_often.cls ≠ "java/lang/invoke/VarHandle" ∧ (parseMethodDescriptor yX11_often.desc).map (fun d => d.parameters.length) = some 3 := by decide +kernel
theorem hd_X11_read : yX11_read.cls = RX11 ∧ yX11_read.cls ≠ "java/lang/invoke/MethodHandle" ∧ yX11_read.cls ≠ "java/lang/invoke/VarHandle" ∧ (parseMethodDescriptor yX11_read.desc).map (fun d => d.parameters.length) = some 3 := by decide +kernel
theorem hd_X11_round : yX11_round.cls = RX11 ∧ yX11_round.cls ≠ "java/lang/invoke/MethodHandle" ∧ yX11_round.cls ≠ "java/lang/invoke/VarHandle" ∧ (parseMethodDescriptor yX11_round.desc).map (fun d => d.parameters.length) = some 1 := by decide +kernel
theorem hd_X11_rule : yX11_rule.cls = RX11 ∧ yX11_rule.cls ≠ "java/lang/invoke/MethodHandle" ∧ yX11_rule.cls ≠ "java/lang/invoke/VarHandle" ∧ (parseMethodDescriptor yX11_rule.desc).map (fun d => d.parameters.length) = some 3 := by decide +kernel
theorem hd_X11_run : yX11_run.cls = RX11 ∧ yX11_run.cls ≠ "java/lang/invoke/MethodHandle" ∧ yX11_run.cls ≠ "java/lang/invoke/VarHandle" ∧ (parseMethodDescriptor yX11_run.desc).map (fun d => d.parameters.length) = some 2 := by decide +kernel
theorem hd_X11_says : yX11_says.cls = RX11 ∧ yX11_says.cls ≠ "java/lang/invoke/MethodHandle" ∧ yX11_says.cls ≠ "java/lang/invoke/VarHandle" ∧ (parseMethodDescriptor yX11_says.desc).map (fun d => d.parameters.length) = some 3 := by decide +kernel
theorem hd_X11_sense : yX11_sense.cls = RX11 ∧ yX11_sense.cls ≠ "java/lang/invoke/MethodHandle" ∧ yX11_sense.cls ≠ "java/lang/invoke/VarHandle" ∧ (parseMethodDescriptor yX11_sense.desc).map (fun d => d.parameters.length) = some 2 := by decide +kernel
theorem hd_X11_silent : yX11_silent.cls = RX11 ∧ yX11_silent.cls ≠ "java/lang/invoke/MethodHandle" ∧ yX11_silent.cls ≠ "java/lang/invoke/VarHandle" ∧ (parseMethodDescriptor yX11_silent.desc).map (fun d => d.parameters.length) = some 3 := by decide +kernel
theorem hd_X11_sorts : yX11_sorts.cls = RX11 ∧ yX11_sorts.cls ≠ "java/lang/invoke/MethodHandle" ∧ yX11_sorts.cls ≠ "java/lang/invoke/VarHandle" ∧ (parseMethodDescriptor yX11_sorts.desc).map (fun d => d.parameters.length) = some 2 := by decide +kernel
theorem hd_X11_stays : yX11_stays.cls = RX11 ∧ yX11_stays.cls ≠ "java/lang/invoke/MethodHandle" ∧ yX11_stays.cls ≠ "java/lang/invoke/VarHandle" ∧ (parseMethodDescriptor yX11_stays.desc).map (fun d => d.parameters.length) = some 2 := by decide +kernel
theorem hd_X11_when : yX11_when.cls = RX11 ∧ yX11_when.cls ≠ "java/lang/invoke/MethodHandle" ∧ yX11_when.cls ≠ "java/lang/invoke/VarHandle" ∧ (parseMethodDescriptor yX11_when.desc).map (fun d => d.parameters.length) = some 4 := by decide +kernel
theorem hd_X11_word : yX11_word.cls = RX11 ∧ yX11_word.cls ≠ "java/lang/invoke/MethodHandle" ∧ yX11_word.cls ≠ "java/lang/invoke/VarHandle" ∧ (parseMethodDescriptor yX11_word.desc).map (fun d => d.parameters.length) = some 2 := by decide +kernel
theorem hd_X11_worst : yX11_worst.cls = RX11 ∧ yX11_worst.cls ≠ "java/lang/invoke/MethodHandle" ∧ yX11_worst.cls ≠ "java/lang/invoke/VarHandle" ∧ (parseMethodDescriptor yX11_worst.desc).map (fun d => d.parameters.length) = some 4 := by decide +kernel
theorem hd_X12_again : yX12_again.cls = RX12 ∧ yX12_again.cls ≠ "java/lang/invoke/MethodHandle" ∧ yX12_again.cls ≠ "java/lang/invoke/VarHandle" ∧ (parseMethodDescriptor yX12_again.desc).map (fun d => d.parameters.length) = some 3 := by decide +kernel
theorem hd_X12_agree : yX12_agree.cls = RX12 ∧ yX12_agree.cls ≠ "java/lang/invoke/MethodHandle" ∧ yX12_agree.cls ≠ "java/lang/invoke/VarHandle" ∧ (parseMethodDescriptor yX12_agree.desc).map (fun d => d.parameters.length) = some 3 := by decide +kernel
theorem hd_X12_average : yX12_average.cls = RX12 ∧ yX12_average.cls ≠ "java/lang/invoke/MethodHandle" ∧ yX12_average.cls ≠ "java/lang/invoke/VarHandle" ∧ (parseMethodDescriptor yX12_average.desc).map (fun d => d.parameters.length) = some 3 := by decide +kernel
theorem hd_X12_best : yX12_best.cls = RX12 ∧ yX12_best.cls ≠ "java/lang/invoke/MethodHandle" ∧ yX12_best.cls ≠ "java/lang/invoke/VarHandle" ∧ (parseMethodDescriptor yX12_best.desc).map (fun d => d.parameters.length) = some 4 := by decide +kernel
theorem hd_X12_book : yX12_book.cls = RX12 ∧ yX12_book.cls ≠ "java/lang/invoke/MethodHandle" ∧ yX12_book.cls ≠ "java/lang/invoke/VarHandle" ∧ (parseMethodDescriptor yX12_book.desc).map (fun d => d.parameters.length) = some 0 := by decide +kernel
theorem hd_X12_clear : yX12_clear.cls = RX12 ∧ yX12_clear.cls ≠ "java/lang/invoke/MethodHandle" ∧ yX12_clear.cls ≠ "java/lang/invoke/VarHandle" ∧ (parseMethodDescriptor yX12_clear.desc).map (fun d => d.parameters.length) = some 2 := by decide +kernel
theorem hd_X12_days : yX12_days.cls = RX12 ∧ yX12_days.cls ≠ "java/lang/invoke/MethodHandle" ∧ yX12_days.cls ≠ "java/lang/invoke/VarHandle" ∧ (parseMethodDescriptor yX12_days.desc).map (fun d => d.parameters.length) = some 3 := by decide +kernel
theorem hd_X12_end : yX12_end.cls = RX12 ∧ yX12_end.cls ≠ "java/lang/invoke/MethodHandle" ∧ yX12_end.cls ≠ "java/lang/invoke/VarHandle" ∧ (parseMethodDescriptor yX12_end.desc).map (fun d => d.parameters.length) = some 1 := by decide +kernel
theorem hd_X12_fault : yX12_fault.cls = RX12 ∧ yX12_fault.cls ≠ "java/lang/invoke/MethodHandle" ∧ yX12_fault.cls ≠ "java/lang/invoke/VarHandle" ∧ (parseMethodDescriptor yX12_fault.desc).map (fun d => d.parameters.length) = some 1 := by decide +kernel
theorem hd_X12_feed : yX12_feed.cls = RX12 ∧ yX12_feed.cls ≠ "java/lang/invoke/MethodHandle" ∧ yX12_feed.cls ≠ "java/lang/invoke/VarHandle" ∧ (parseMethodDescriptor yX12_feed.desc).map (fun d => d.parameters.length) = some 5 := by decide +kernel
theorem hd_X12_first : yX12_first.cls = RX12 ∧ yX12_first.cls ≠ "java/lang/invoke/MethodHandle" ∧ yX12_first.cls ≠ "java/lang/invoke/VarHandle" ∧ (parseMethodDescriptor yX12_first.desc).map (fun d => d.parameters.length) = some 4 := by decide +kernel
theorem hd_X12_heard : yX12_heard.cls = RX12 ∧ yX12_heard.cls ≠ "java/lang/invoke/MethodHandle" ∧ yX12_heard.cls ≠ "java/lang/invoke/VarHandle" ∧ (parseMethodDescriptor yX12_heard.desc).map (fun d => d.parameters.length) = some 3 := by decide +kernel
theorem hd_X12_may : yX12_may.cls = RX12 ∧ yX12_may.cls ≠ "java/lang/invoke/MethodHandle" ∧ yX12_may.cls ≠ "java/lang/invoke/VarHandle" ∧ (parseMethodDescriptor yX12_may.desc).map (fun d => d.parameters.length) = some 2 := by decide +kernel
theorem hd_X12_means : yX12_means.cls = RX12 ∧ yX12_means.cls ≠ "java/lang/invoke/MethodHandle" ∧ yX12_means.cls ≠ "java/lang/invoke/VarHandle" ∧ (parseMethodDescriptor yX12_means.desc).map (fun d => d.parameters.length) = some 3 := by decide +kernel
theorem hd_X12_mute : yX12_mute.cls = RX12 ∧ yX12_mute.cls ≠ "java/lang/invoke/MethodHandle" ∧ yX12_mute.cls ≠ "java/lang/invoke/VarHandle" ∧ (parseMethodDescriptor yX12_mute.desc).map (fun d => d.parameters.length) = some 1 := by decide +kernel
theorem hd_X12_muted : yX12_muted.cls = RX12 ∧ yX12_muted.cls ≠ "java/lang/invoke/MethodHandle" ∧ yX12_muted.cls ≠ "java/lang/invoke/VarHandle" ∧ (parseMethodDescriptor yX12_muted.desc).map (fun d => d.parameters.length) = some 1 := by decide +kernel
theorem hd_X12_often : yX12_often.cls = RX12 ∧ yX12_often.cls ≠ "java/lang/invoke/MethodHandle" ∧ yX12_often.cls ≠ "java/lang/invoke/VarHandle" ∧ (parseMethodDescriptor yX12_often.desc).map (fun d => d.parameters.length) = some 3 := by decide +kernel
theorem hd_X12_read : yX12_read.cls = RX12 ∧ yX12_read.cls ≠ "java/lang/invoke/MethodHandle" ∧ yX12_read.cls ≠ "java/lang/invoke/VarHandle" ∧ (parseMethodDescriptor yX12_read.desc).map (fun d => d.parameters.length) = some 3 := by decide +kernel
theorem hd_X12_round : yX12_round.cls = RX12 ∧ yX12_round.cls ≠ "java/lang/invoke/MethodHandle" ∧ yX12_round.cls ≠ "java/lang/invoke/VarHandle" ∧ (parseMethodDescriptor yX12_round.desc).map (fun d => d.parameters.length) = some 1 := by decide +kernel
theorem hd_X12_rule : yX12_rule.cls = RX12 ∧ yX12_rule.cls ≠ "java/lang/invoke/MethodHandle" ∧ yX12_rule.cls ≠ "java/lang/invoke/VarHandle" ∧ (parseMethodDescriptor yX12_rule.desc).map (fun d => d.parameters.length) = some 3 := by decide +kernel
theorem hd_X12_run : yX12_run.cls = RX12 ∧ yX12_run.cls ≠ "java/lang/invoke/MethodHandle" ∧ yX12_run.cls ≠ "java/lang/invoke/VarHandle" ∧ (parseMethodDescriptor yX12_run.desc).map (fun d => d.parameters.length) = some 2 := by decide +kernel
theorem hd_X12_says : yX12_says.cls = RX12 ∧ yX12_says.cls ≠ "java/lang/invoke/MethodHandle" ∧ yX12_says.cls ≠ "java/lang/invoke/VarHandle" ∧ (parseMethodDescriptor yX12_says.desc).map (fun d => d.parameters.length) = some 3 := by decide +kernel
theorem hd_X12_sense : yX12_sense.cls = RX12 ∧ yX12_sense.cls ≠ "java/lang/invoke/MethodHandle" ∧ yX12_sense.cls ≠ "java/lang/invoke/VarHandle" ∧ (parseMethodDescriptor yX12_sense.desc).map (fun d => d.parameters.length) = some 2 := by decide +kernel
theorem hd_X12_silent : yX12_silent.cls = RX12 ∧ yX12_silent.cls ≠ "java/lang/invoke/MethodHandle" ∧ yX12_silent.cls ≠ "java/lang/invoke/VarHandle" ∧ (parseMethodDescriptor yX12_silent.desc).map (fun d => d.parameters.length) = some 3 := by decide +kernel
theorem hd_X12_sorts : yX12_sorts.cls = RX12 ∧ yX12_sorts.cls ≠ "java/lang/invoke/MethodHandle" ∧ yX12_sorts.cls ≠ "java/lang/invoke/VarHandle" ∧ (parseMethodDescriptor yX12_sorts.desc).map (fun d => d.parameters.length) = some 2 := by decide +kernel
theorem hd_X12_stays : yX12_stays.cls = RX12 ∧ yX12_stays.cls ≠ "java/lang/invoke/MethodHandle" ∧ yX12_stays.cls ≠ "java/lang/invoke/VarHandle" ∧ (parseMethodDescriptor yX12_stays.desc).map (fun d => d.parameters.length) = some 2 := by decide +kernel
theorem hd_X12_when : yX12_when.cls = RX12 ∧ yX12_when.cls ≠ "java/lang/invoke/MethodHandle" ∧ yX12_when.cls ≠ "java/lang/invoke/VarHandle" ∧ (parseMethodDescriptor yX12_when.desc).map (fun d => d.parameters.length) = some 4 := by decide +kernel
theorem hd_X12_word : yX12_word.cls = RX12 ∧ yX12_word.cls ≠ "java/lang/invoke/MethodHandle" ∧ yX12_word.cls ≠ "java/lang/invoke/VarHandle" ∧ (parseMethodDescriptor yX12_word.desc).map (fun d => d.parameters.length) = some 2 := by decide +kernel
theorem hd_X12_worst : yX12_worst.cls = RX12 ∧ yX12_worst.cls ≠ "java/lang/invoke/MethodHandle" ∧ yX12_worst.cls ≠ "java/lang/invoke/VarHandle" ∧ (parseMethodDescriptor yX12_worst.desc).map (fun d => d.parameters.length) = some 4 := by decide +kernel
set_option maxHeartbeats 4000000 in
set_option maxRecDepth 100000 in
theorem lc_0 {p : Program} {e : Env} {s : State} {m : MethodId} {below : List Frame} {meth : Method} {c : Code} {b : Nat} {xs : Nat → Int32} {G : va_G} {cy : Nat → ClassId} {qx qm : Nat} {ux um : Nat → Nat} {H : Heap} {locs : List Loc} {ls : Array Slot} {A : Nat → Prop} (l : Launch) (hx : p.tables.exec = Jvm.exec) (hb : c.code = code) (hr : meth.sig.returnType = ret) (hlocks : meth.locks = false) (hml : c.maxLocals = 4) (hown : s.vm.findClass R_law = some m.cls) (hts : ∀ w ∈ lw_x :: wsL_law, w.before #[Value.ref b] s = true) (hX : va_X b 6 xs s s.heap) (hbl : b < s.heap.size) (hAe : A = fun q => s.heap.size ≤ q) (hK : mm_K G cy s) (hS : va_S A s.heap H locs) (hP : va_P G vwCl [(qx, .inr (11, [.ref (ux 0), .ref (ux 2), .ref (ux 14), .ref (ux 36), .ref (ux 70), .ref (ux 71), .ref (ux 80), .ref (ux 82), .ref (ux 84), .ref (ux 89), .ref (ux 92)])), ((ux 0), .inr (9, [.ref (ux 1), .int 0])), ((ux 1), .inl (cy 0, 600, .inl (fun _ => 0))), (qm, .inr (12, [.int 0, .ref (um 0), .ref (um 1), .ref (um 2), .ref (um 3), .ref (um 4), .int 0, .int 0, .int 0, .int 0, .int 0, .long 0, .int 0, .int 0, .int 0, .int (-1), .ref (um 5), .ref (um 6), .ref (um 7), .ref (um 8), .ref (um 9), .ref (um 10), .ref (um 11), .ref (um 12), .ref (um 13), .ref (um 14), .ref (um 15), .ref (um 16), .ref (um 17), .int 0, .int 0, .int 0, .int 0, .int 0, .int 0, .ref (um 18), .int 0, .ref (um 19)])), ((um 4), .inl (cy 0, 600, .inl (fun _ => 0)))] H) (hD : va_D A [(qx, .inr (11, [.ref (ux 0), .ref (ux 2), .ref (ux 14), .ref (ux 36), .ref (ux 70), .ref (ux 71), .ref (ux 80), .ref (ux 82), .ref (ux 84), .ref (ux 89), .ref (ux 92)])), ((ux 0), .inr (9, [.ref (ux 1), .int 0])), ((ux 1), .inl (cy 0, 600, .inl (fun _ => 0))), (qm, .inr (12, [.int 0, .ref (um 0), .ref (um 1), .ref (um 2), .ref (um 3), .ref (um 4), .int 0, .int 0, .int 0, .int 0, .int 0, .long 0, .int 0, .int 0, .int 0, .int (-1), .ref (um 5), .ref (um 6), .ref (um 7), .ref (um 8), .ref (um 9), .ref (um 10), .ref (um 11), .ref (um 12), .ref (um 13), .ref (um 14), .ref (um 15), .ref (um 16), .ref (um 17), .int 0, .int 0, .int 0, .int 0, .int 0, .int 0, .ref (um 18), .int 0, .ref (um 19)])), ((um 4), .inl (cy 0, 600, .inl (fun _ => 0)))]) (hl : lv_has ls 4 [(3, .int 0), (2, .ref qm), (1, .ref qx), (0, .ref b)]) : W p l e room_1 s m #[Value.ref b] below meth c H locs 116 20302 (lw_Z below #[Value.ref b] s) (F0 m 336 ls []) := by
  have hA : ∀ q, s.heap.size ≤ q → A q := by rw [hAe]; exact fun _ h => h
  have hbA : ¬ A b := by rw [hAe]; exact Nat.not_le.mpr hbl
  have hRf : room_1.frames = 2048 := rfl
  have hRl : room_1.locals = 84000 := rfl
  have hRc : room_1.cells = 600000 := rfl
  have hRs : room_1.slots = 7302250 := rfl
  obtain ⟨p1, ep1⟩ : ∃ z : Int32, z = xs 1 := ⟨_, rfl⟩
  obtain ⟨p2, ep2⟩ : ∃ z : Int32, z = xs 2 := ⟨_, rfl⟩
  obtain ⟨p3, ep3⟩ : ∃ z : Int32, z = xs 3 := ⟨_, rfl⟩
  obtain ⟨p4, ep4⟩ : ∃ z : Int32, z = xs 4 := ⟨_, rfl⟩
  obtain ⟨p5, ep5⟩ : ∃ z : Int32, z = xs 5 := ⟨_, rfl⟩
  refine lv_aload_n hx hb dL_law_336 rfl (lv_at hl 2 rfl) ?_
  refine lv_aload_n hx hb dL_law_337 rfl (lv_at hl 3 rfl) ?_
  refine lv_iload_n hx hb dL_law_338 rfl (lv_at hl 0 rfl) ?_
  refine lv_iconst (v := 1) hx hb dL_law_339 (by decide) ?_
  refine lv_iadd hx hb dL_law_340 ?_
  refine lv_topi (fun v1 ev1 => ?_)
  obtain rfl : v1 = 1 := ev1.trans (by decide)
  refine va_sld hx hb hX hbl hbA hS (mm_in mm_k1 (by decide)) dL_law_341 ?_
  refine lv_topi (fun v2 ev2 => ?_)
  obtain rfl : p1 = v2 := ep1.trans ev2.symm
  refine lv_aload_n hx hb dL_law_342 rfl (lv_at hl 3 rfl) ?_
  refine lv_iload_n hx hb dL_law_343 rfl (lv_at hl 0 rfl) ?_
  refine lv_iconst (v := 2) hx hb dL_law_344 (by decide) ?_
  refine lv_iadd hx hb dL_law_345 ?_
  refine lv_topi (fun v3 ev3 => ?_)
  obtain rfl : v3 = 2 := ev3.trans (by decide)
  refine va_sld hx hb hX hbl hbA hS (mm_in mm_k2 (by decide)) dL_law_346 ?_
  refine lv_topi (fun v4 ev4 => ?_)
  obtain rfl : p2 = v4 := ep2.trans ev4.symm
  refine lv_aload_n hx hb dL_law_347 rfl (lv_at hl 3 rfl) ?_
  refine lv_iload_n hx hb dL_law_348 rfl (lv_at hl 0 rfl) ?_
  refine lv_iconst (v := 3) hx hb dL_law_349 (by decide) ?_
  refine lv_iadd hx hb dL_law_350 ?_
  refine lv_topi (fun v5 ev5 => ?_)
  obtain rfl : v5 = 3 := ev5.trans (by decide)
  refine va_sld hx hb hX hbl hbA hS (mm_in mm_k3 (by decide)) dL_law_351 ?_
  refine lv_topi (fun v6 ev6 => ?_)
  obtain rfl : p3 = v6 := ep3.trans ev6.symm
  refine lv_aload_n hx hb dL_law_352 rfl (lv_at hl 3 rfl) ?_
  refine lv_iload_n hx hb dL_law_353 rfl (lv_at hl 0 rfl) ?_
  refine lv_iconst (v := 4) hx hb dL_law_354 (by decide) ?_
  refine lv_iadd hx hb dL_law_355 ?_
  refine lv_topi (fun v7 ev7 => ?_)
  obtain rfl : v7 = 4 := ev7.trans (by decide)
  refine va_sld hx hb hX hbl hbA hS (mm_in mm_k4 (by decide)) dL_law_356 ?_
  refine lv_topi (fun v8 ev8 => ?_)
  obtain rfl : p4 = v8 := ep4.trans ev8.symm
  refine lv_aload_n hx hb dL_law_357 rfl (lv_at hl 3 rfl) ?_
  refine lv_iload_n hx hb dL_law_358 rfl (lv_at hl 0 rfl) ?_
  refine lv_iconst (v := 5) hx hb dL_law_359 (by decide) ?_
  refine lv_iadd hx hb dL_law_360 ?_
  refine lv_topi (fun v9 ev9 => ?_)
  obtain rfl : v9 = 5 := ev9.trans (by decide)
  refine va_sld hx hb hX hbl hbA hS (mm_in mm_k5 (by decide)) dL_law_361 ?_
  refine lv_topi (fun v10 ev10 => ?_)
  obtain rfl : p5 = v10 := ep5.trans ev10.symm
  refine mm_fini (va_runV (As := [.int p1, .int p2, .int p3, .int p4, .int p5]) (rest := []) ⟨hx, hb, hml, hown, hts⟩ (K19_X11_feed l G cy H.size qx p1 p2 p3 p4 p5 (ux 0) (ux 2) (ux 14) (ux 36) (ux 70) (ux 71) (ux 80) (ux 82) (ux 84) (ux 89) (ux 92) (ux 1) ) (cwV 5 hts (mm_gV mm_w163 mm_w164 mm_w165 mm_w2 mm_w166) rfl rfl rfl hd_X11_feed ⟨by rw [hRf]; exact Nat.le_of_ble_eq_true rfl, by rw [hRl]; exact Nat.le_of_ble_eq_true rfl⟩) (mm_preV hK hP hD [0, 1, 2] rfl rfl 0 rfl rfl rfl) rfl rfl hl.1 rfl (lv_room (Nat.le_of_ble_eq_true rfl)) dL_law_362 ⟨by rw [hRc]; exact Nat.le_of_ble_eq_true rfl, by rw [hRs]; exact Nat.le_of_ble_eq_true rfl⟩) hP hD hS hA (fun u : (Nat → Int32) => [(qx, .inr (11, [.ref (ux 0), .ref (ux 2), .ref (ux 14), .ref (ux 36), .ref (ux 70), .ref (ux 71), .ref (ux 80), .ref (ux 82), .ref (ux 84), .ref (ux 89), .ref (ux 92)])), ((ux 0), .inr (9, [.ref (ux 1), .int 20])), ((ux 1), .inl (cy 0, 600, .inl u)), (qm, .inr (12, [.int 0, .ref (um 0), .ref (um 1), .ref (um 2), .ref (um 3), .ref (um 4), .int 0, .int 0, .int 0, .int 0, .int 0, .long 0, .int 0, .int 0, .int 0, .int (-1), .ref (um 5), .ref (um 6), .ref (um 7), .ref (um 8), .ref (um 9), .ref (um 10), .ref (um 11), .ref (um 12), .ref (um 13), .ref (um 14), .ref (um 15), .ref (um 16), .ref (um 17), .int 0, .int 0, .int 0, .int 0, .int 0, .int 0, .ref (um 18), .int 0, .ref (um 19)])), ((um 4), .inl (cy 0, 600, .inl (fun _ => 0)))]) [0, 1, 2] [3, 4] (n := 5) (fun _ => rfl) (by decide +kernel) (by decide +kernel) rfl (fun _ => rfl) (wr := [(qm, .inr (12, [.int 0, .ref (um 0), .ref (um 1), .ref (um 2), .ref (um 3), .ref (um 4), .int 0, .int 0, .int 0, .int 0, .int 0, .long 0, .int 0, .int 0, .int 0, .int (-1), .ref (um 5), .ref (um 6), .ref (um 7), .ref (um 8), .ref (um 9), .ref (um 10), .ref (um 11), .ref (um 12), .ref (um 13), .ref (um 14), .ref (um 15), .ref (um 16), .ref (um 17), .int 0, .int 0, .int 0, .int 0, .int 0, .int 0, .ref (um 18), .int 0, .ref (um 19)])), ((um 4), .inl (cy 0, 600, .inl (fun _ => 0)))]) rfl (fun _ => rfl) (fun _ => rfl) ?_
  clear hP hD hS
  clear H locs
  intro v12 n11 H locs hw (hP : va_P G vwCl [(qx, .inr (11, [.ref (ux 0), .ref (ux 2), .ref (ux 14), .ref (ux 36), .ref (ux 70), .ref (ux 71), .ref (ux 80), .ref (ux 82), .ref (ux 84), .ref (ux 89), .ref (ux 92)])), ((ux 0), .inr (9, [.ref (ux 1), .int 20])), ((ux 1), .inl (cy 0, 600, .inl n11)), (qm, .inr (12, [.int 0, .ref (um 0), .ref (um 1), .ref (um 2), .ref (um 3), .ref (um 4), .int 0, .int 0, .int 0, .int 0, .int 0, .long 0, .int 0, .int 0, .int 0, .int (-1), .ref (um 5), .ref (um 6), .ref (um 7), .ref (um 8), .ref (um 9), .ref (um 10), .ref (um 11), .ref (um 12), .ref (um 13), .ref (um 14), .ref (um 15), .ref (um 16), .ref (um 17), .int 0, .int 0, .int 0, .int 0, .int 0, .int 0, .ref (um 18), .int 0, .ref (um 19)])), ((um 4), .inl (cy 0, 600, .inl (fun _ => 0)))] H) (hD : va_D A [(qx, .inr (11, [.ref (ux 0), .ref (ux 2), .ref (ux 14), .ref (ux 36), .ref (ux 70), .ref (ux 71), .ref (ux 80), .ref (ux 82), .ref (ux 84), .ref (ux 89), .ref (ux 92)])), ((ux 0), .inr (9, [.ref (ux 1), .int 20])), ((ux 1), .inl (cy 0, 600, .inl n11)), (qm, .inr (12, [.int 0, .ref (um 0), .ref (um 1), .ref (um 2), .ref (um 3), .ref (um 4), .int 0, .int 0, .int 0, .int 0, .int 0, .long 0, .int 0, .int 0, .int 0, .int (-1), .ref (um 5), .ref (um 6), .ref (um 7), .ref (um 8), .ref (um 9), .ref (um 10), .ref (um 11), .ref (um 12), .ref (um 13), .ref (um 14), .ref (um 15), .ref (um 16), .ref (um 17), .int 0, .int 0, .int 0, .int 0, .int 0, .int 0, .ref (um 18), .int 0, .ref (um 19)])), ((um 4), .inl (cy 0, 600, .inl (fun _ => 0)))]) hS
  obtain ⟨w13, hw⟩ := hw
  subst hw
  refine lv_aload_n hx hb dL_law_365 rfl (lv_at hl 1 rfl) ?_
  refine lv_aload_n hx hb dL_law_366 rfl (lv_at hl 3 rfl) ?_
  refine lv_iload_n hx hb dL_law_367 rfl (lv_at hl 0 rfl) ?_
  refine lv_iconst (v := 1) hx hb dL_law_368 (by decide) ?_
  refine lv_iadd hx hb dL_law_369 ?_
  refine lv_topi (fun v14 ev14 => ?_)
  obtain rfl : v14 = 1 := ev14.trans (by decide)
  refine va_sld hx hb hX hbl hbA hS (mm_in mm_k1 (by decide)) dL_law_370 ?_
  refine lv_topi (fun v15 ev15 => ?_)
  obtain rfl : p1 = v15 := ep1.trans ev15.symm
  refine lv_aload_n hx hb dL_law_371 rfl (lv_at hl 3 rfl) ?_
  refine lv_iload_n hx hb dL_law_372 rfl (lv_at hl 0 rfl) ?_
  refine lv_iconst (v := 2) hx hb dL_law_373 (by decide) ?_
  refine lv_iadd hx hb dL_law_374 ?_
  refine lv_topi (fun v16 ev16 => ?_)
  obtain rfl : v16 = 2 := ev16.trans (by decide)
  refine va_sld hx hb hX hbl hbA hS (mm_in mm_k2 (by decide)) dL_law_375 ?_
  refine lv_topi (fun v17 ev17 => ?_)
  obtain rfl : p2 = v17 := ep2.trans ev17.symm
  refine lv_aload_n hx hb dL_law_376 rfl (lv_at hl 3 rfl) ?_
  refine lv_iload_n hx hb dL_law_377 rfl (lv_at hl 0 rfl) ?_
  refine lv_iconst (v := 3) hx hb dL_law_378 (by decide) ?_
  refine lv_iadd hx hb dL_law_379 ?_
  refine lv_topi (fun v18 ev18 => ?_)
  obtain rfl : v18 = 3 := ev18.trans (by decide)
  refine va_sld hx hb hX hbl hbA hS (mm_in mm_k3 (by decide)) dL_law_380 ?_
  refine lv_topi (fun v19 ev19 => ?_)
  obtain rfl : p3 = v19 := ep3.trans ev19.symm
  refine lv_aload_n hx hb dL_law_381 rfl (lv_at hl 3 rfl) ?_
  refine lv_iload_n hx hb dL_law_382 rfl (lv_at hl 0 rfl) ?_
  refine lv_iconst (v := 4) hx hb dL_law_383 (by decide) ?_
  refine lv_iadd hx hb dL_law_384 ?_
  refine lv_topi (fun v20 ev20 => ?_)
  obtain rfl : v20 = 4 := ev20.trans (by decide)
  refine va_sld hx hb hX hbl hbA hS (mm_in mm_k4 (by decide)) dL_law_385 ?_
  refine lv_topi (fun v21 ev21 => ?_)
  obtain rfl : p4 = v21 := ep4.trans ev21.symm
  refine lv_aload_n hx hb dL_law_386 rfl (lv_at hl 3 rfl) ?_
  refine lv_iload_n hx hb dL_law_387 rfl (lv_at hl 0 rfl) ?_
  refine lv_iconst (v := 5) hx hb dL_law_388 (by decide) ?_
  refine lv_iadd hx hb dL_law_389 ?_
  refine lv_topi (fun v22 ev22 => ?_)
  obtain rfl : v22 = 5 := ev22.trans (by decide)
  refine va_sld hx hb hX hbl hbA hS (mm_in mm_k5 (by decide)) dL_law_390 ?_
  refine lv_topi (fun v23 ev23 => ?_)
  obtain rfl : p5 = v23 := ep5.trans ev23.symm
  refine mm_fini (va_runV (As := [.int p1, .int p2, .int p3, .int p4, .int p5]) (rest := [.int 20]) ⟨hx, hb, hml, hown, hts⟩ (K25_X12_feed l G cy H.size qm p1 p2 p3 p4 p5 (um 0) (um 1) (um 2) (um 3) (um 4) 0 0 0 0 0 0 0 0 (-1) (um 5) (um 6) (um 7) (um 8) (um 9) (um 10) (um 11) (um 12) (um 13) (um 14) (um 15) (um 16) (um 17) 0 0 0 0 0 0 (um 18) 0 (um 19) ) (cwV 5 hts (mm_gV mm_w173 mm_w174 mm_w175 mm_w5 mm_w176) rfl rfl rfl hd_X12_feed ⟨by rw [hRf]; exact Nat.le_of_ble_eq_true rfl, by rw [hRl]; exact Nat.le_of_ble_eq_true rfl⟩) (mm_preV hK hP hD [3, 4] rfl rfl 3 rfl rfl rfl) rfl rfl hl.1 rfl (lv_room (Nat.le_of_ble_eq_true rfl)) dL_law_391 ⟨by rw [hRc]; exact Nat.le_of_ble_eq_true rfl, by rw [hRs]; exact Nat.le_of_ble_eq_true rfl⟩) hP hD hS hA (fun u : (Nat → Int32) => [(qx, .inr (11, [.ref (ux 0), .ref (ux 2), .ref (ux 14), .ref (ux 36), .ref (ux 70), .ref (ux 71), .ref (ux 80), .ref (ux 82), .ref (ux 84), .ref (ux 89), .ref (ux 92)])), ((ux 0), .inr (9, [.ref (ux 1), .int 20])), ((ux 1), .inl (cy 0, 600, .inl n11)), (qm, .inr (12, [.int 0, .ref (um 0), .ref (um 1), .ref (um 2), .ref (um 3), .ref (um 4), .int 20, .int 0, .int 0, .int 0, .int 0, .long 0, .int 0, .int 0, .int 0, .int (-1), .ref (um 5), .ref (um 6), .ref (um 7), .ref (um 8), .ref (um 9), .ref (um 10), .ref (um 11), .ref (um 12), .ref (um 13), .ref (um 14), .ref (um 15), .ref (um 16), .ref (um 17), .int 0, .int 0, .int 0, .int 0, .int 0, .int 0, .ref (um 18), .int 0, .ref (um 19)])), ((um 4), .inl (cy 0, 600, .inl u))]) [3, 4] [0, 1, 2] (n := 5) (fun _ => rfl) (by decide +kernel) (by decide +kernel) rfl (fun _ => rfl) (wr := [(qx, .inr (11, [.ref (ux 0), .ref (ux 2), .ref (ux 14), .ref (ux 36), .ref (ux 70), .ref (ux 71), .ref (ux 80), .ref (ux 82), .ref (ux 84), .ref (ux 89), .ref (ux 92)])), ((ux 0), .inr (9, [.ref (ux 1), .int 20])), ((ux 1), .inl (cy 0, 600, .inl n11))]) rfl (fun _ => rfl) (fun _ => rfl) ?_
  clear hP hD hS
  clear H locs
  intro v25 n24 H locs hw (hP : va_P G vwCl [(qx, .inr (11, [.ref (ux 0), .ref (ux 2), .ref (ux 14), .ref (ux 36), .ref (ux 70), .ref (ux 71), .ref (ux 80), .ref (ux 82), .ref (ux 84), .ref (ux 89), .ref (ux 92)])), ((ux 0), .inr (9, [.ref (ux 1), .int 20])), ((ux 1), .inl (cy 0, 600, .inl n11)), (qm, .inr (12, [.int 0, .ref (um 0), .ref (um 1), .ref (um 2), .ref (um 3), .ref (um 4), .int 20, .int 0, .int 0, .int 0, .int 0, .long 0, .int 0, .int 0, .int 0, .int (-1), .ref (um 5), .ref (um 6), .ref (um 7), .ref (um 8), .ref (um 9), .ref (um 10), .ref (um 11), .ref (um 12), .ref (um 13), .ref (um 14), .ref (um 15), .ref (um 16), .ref (um 17), .int 0, .int 0, .int 0, .int 0, .int 0, .int 0, .ref (um 18), .int 0, .ref (um 19)])), ((um 4), .inl (cy 0, 600, .inl n24))] H) (hD : va_D A [(qx, .inr (11, [.ref (ux 0), .ref (ux 2), .ref (ux 14), .ref (ux 36), .ref (ux 70), .ref (ux 71), .ref (ux 80), .ref (ux 82), .ref (ux 84), .ref (ux 89), .ref (ux 92)])), ((ux 0), .inr (9, [.ref (ux 1), .int 20])), ((ux 1), .inl (cy 0, 600, .inl n11)), (qm, .inr (12, [.int 0, .ref (um 0), .ref (um 1), .ref (um 2), .ref (um 3), .ref (um 4), .int 20, .int 0, .int 0, .int 0, .int 0, .long 0, .int 0, .int 0, .int 0, .int (-1), .ref (um 5), .ref (um 6), .ref (um 7), .ref (um 8), .ref (um 9), .ref (um 10), .ref (um 11), .ref (um 12), .ref (um 13), .ref (um 14), .ref (um 15), .ref (um 16), .ref (um 17), .int 0, .int 0, .int 0, .int 0, .int 0, .int 0, .ref (um 18), .int 0, .ref (um 19)])), ((um 4), .inl (cy 0, 600, .inl n24))]) hS
  obtain ⟨w26, hw⟩ := hw
  subst hw
  refine lv_icmp_eq (tgt := 3153) hx hb dL_law_394 (by decide) (fun c27 => ?_) (fun c27 => ?_)
  · refine lv_iinc (v := 6) (lv' := [(3, .int 6), (2, .ref qm), (1, .ref qx), (0, .ref b)]) hx hb dL_law_3153 hl (k := 0) rfl (by decide) (by decide) rfl ?_
    clear hl
    clear ls
    intro ls hl
    refine lv_goto (tgt := 18) hx hb dL_law_3156 (by decide) ?_
    refine lv_iload_n hx hb dL_law_18 rfl (lv_at hl 0 rfl) ?_
    refine lv_aload_n hx hb dL_law_19 rfl (lv_at hl 3 rfl) ?_
    refine va_slen hx hb hX hbl hbA hS dL_law_20 ?_
    refine lv_topi (fun v28 ev28 => ?_)
    obtain rfl : v28 = 6 := ev28.trans (by decide)
    refine lv_bipush (v := 6) hx hb dL_law_21 (by decide) ?_
    refine lv_isub hx hb dL_law_23 ?_
    refine lv_topi (fun v29 ev29 => ?_)
    obtain rfl : v29 = 0 := ev29.trans (by decide)
    refine lv_icmp_gt (tgt := 3159) hx hb dL_law_24 (by decide) (fun c30 => ?_) (fun c30 => ?_)
    · refine lv_iconst (v := 1) hx hb dL_law_3159 (by decide) ?_
      refine va_forget (fun q hq => by have := hS.2.2 q hq; rw [hAe] at this; exact this) ?_
      refine W.widen (k := 600000) (n := 7302250) (Nat.le_of_ble_eq_true rfl) (Nat.le_of_ble_eq_true rfl) ?_
      exact lw_ret hx hb hr hlocks dL_law_3160
    · have q31 := mm_leL (mm_nlt c30) mm_k6 mm_k0
      exact mm_no q31 (by decide)
  · have q32 := mm_neL (lo := 21) (mm_ne c27) mm_k20 mm_k20 (by decide) (by decide)
    exact mm_no q32 (by decide)

set_option maxHeartbeats 4000000 in
set_option maxRecDepth 100000 in
theorem lc_1 {p : Program} {e : Env} {s : State} {m : MethodId} {below : List Frame} {meth : Method} {c : Code} {b : Nat} {xs : Nat → Int32} {G : va_G} {cy : Nat → ClassId} {qx qm : Nat} {ux um : Nat → Nat} {H : Heap} {locs : List Loc} {ls : Array Slot} {A : Nat → Prop} (l : Launch) (hx : p.tables.exec = Jvm.exec) (hb : c.code = code) (hr : meth.sig.returnType = ret) (hlocks : meth.locks = false) (hml : c.maxLocals = 4) (hown : s.vm.findClass R_law = some m.cls) (hts : ∀ w ∈ lw_x :: wsL_law, w.before #[Value.ref b] s = true) (hX : va_X b 6 xs s s.heap) (hbl : b < s.heap.size) (hAe : A = fun q => s.heap.size ≤ q) (hK : mm_K G cy s) (hS : va_S A s.heap H locs) (hP : va_P G vwCl [(qx, .inr (11, [.ref (ux 0), .ref (ux 2), .ref (ux 14), .ref (ux 36), .ref (ux 70), .ref (ux 71), .ref (ux 80), .ref (ux 82), .ref (ux 84), .ref (ux 89), .ref (ux 92)])), ((ux 0), .inr (9, [.ref (ux 1), .int 0])), (qm, .inr (12, [.int 0, .ref (um 0), .ref (um 1), .ref (um 2), .ref (um 3), .ref (um 4), .int 0, .int 0, .int 0, .int 0, .int 0, .long 0, .int 0, .int 0, .int 0, .int (-1), .ref (um 5), .ref (um 6), .ref (um 7), .ref (um 8), .ref (um 9), .ref (um 10), .ref (um 11), .ref (um 12), .ref (um 13), .ref (um 14), .ref (um 15), .ref (um 16), .ref (um 17), .int 0, .int 0, .int 0, .int 0, .int 0, .int 0, .ref (um 18), .int 0, .ref (um 19)]))] H) (hD : va_D A [(qx, .inr (11, [.ref (ux 0), .ref (ux 2), .ref (ux 14), .ref (ux 36), .ref (ux 70), .ref (ux 71), .ref (ux 80), .ref (ux 82), .ref (ux 84), .ref (ux 89), .ref (ux 92)])), ((ux 0), .inr (9, [.ref (ux 1), .int 0])), (qm, .inr (12, [.int 0, .ref (um 0), .ref (um 1), .ref (um 2), .ref (um 3), .ref (um 4), .int 0, .int 0, .int 0, .int 0, .int 0, .long 0, .int 0, .int 0, .int 0, .int (-1), .ref (um 5), .ref (um 6), .ref (um 7), .ref (um 8), .ref (um 9), .ref (um 10), .ref (um 11), .ref (um 12), .ref (um 13), .ref (um 14), .ref (um 15), .ref (um 16), .ref (um 17), .int 0, .int 0, .int 0, .int 0, .int 0, .int 0, .ref (um 18), .int 0, .ref (um 19)]))]) (hl : lv_has ls 4 [(3, .int 0), (2, .ref qm), (1, .ref qx), (0, .ref b)]) : W p l e room_1 s m #[Value.ref b] below meth c H locs 116 20302 (lw_Z below #[Value.ref b] s) (F0 m 399 ls []) := by
  have hA : ∀ q, s.heap.size ≤ q → A q := by rw [hAe]; exact fun _ h => h
  have hbA : ¬ A b := by rw [hAe]; exact Nat.not_le.mpr hbl
  have hRf : room_1.frames = 2048 := rfl
  have hRl : room_1.locals = 84000 := rfl
  have hRc : room_1.cells = 600000 := rfl
  have hRs : room_1.slots = 7302250 := rfl
  obtain ⟨p1, ep1⟩ : ∃ z : Int32, z = xs 1 := ⟨_, rfl⟩
  obtain ⟨p2, ep2⟩ : ∃ z : Int32, z = xs 2 := ⟨_, rfl⟩
  obtain ⟨p3, ep3⟩ : ∃ z : Int32, z = xs 3 := ⟨_, rfl⟩
  obtain ⟨p4, ep4⟩ : ∃ z : Int32, z = xs 4 := ⟨_, rfl⟩
  obtain ⟨p5, ep5⟩ : ∃ z : Int32, z = xs 5 := ⟨_, rfl⟩
  refine lv_aload_n hx hb dL_law_399 rfl (lv_at hl 2 rfl) ?_
  refine lv_aload_n hx hb dL_law_400 rfl (lv_at hl 3 rfl) ?_
  refine lv_iload_n hx hb dL_law_401 rfl (lv_at hl 0 rfl) ?_
  refine lv_iconst (v := 1) hx hb dL_law_402 (by decide) ?_
  refine lv_iadd hx hb dL_law_403 ?_
  refine lv_topi (fun v1 ev1 => ?_)
  obtain rfl : v1 = 1 := ev1.trans (by decide)
  refine va_sld hx hb hX hbl hbA hS (mm_in mm_k1 (by decide)) dL_law_404 ?_
  refine lv_topi (fun v2 ev2 => ?_)
  obtain rfl : p1 = v2 := ep1.trans ev2.symm
  refine mm_fini (va_runV (As := [.int p1]) (rest := []) ⟨hx, hb, hml, hown, hts⟩ (K31_X11_end l G cy H.size qx p1 (ux 0) (ux 2) (ux 14) (ux 36) (ux 70) (ux 71) (ux 80) (ux 82) (ux 84) (ux 89) (ux 92) (ux 1) ) (cwV 1 hts (mm_gV mm_w183 mm_w184 mm_w185 mm_w2 mm_w186) rfl rfl rfl hd_X11_end ⟨by rw [hRf]; exact Nat.le_of_ble_eq_true rfl, by rw [hRl]; exact Nat.le_of_ble_eq_true rfl⟩) (mm_preV hK hP hD [0, 1] rfl rfl 0 rfl rfl rfl) rfl rfl hl.1 rfl (lv_room (Nat.le_of_ble_eq_true rfl)) dL_law_405 ⟨by rw [hRc]; exact Nat.le_of_ble_eq_true rfl, by rw [hRs]; exact Nat.le_of_ble_eq_true rfl⟩) hP hD hS hA (fun u : Int32 => [(qx, .inr (11, [.ref (ux 0), .ref (ux 2), .ref (ux 14), .ref (ux 36), .ref (ux 70), .ref (ux 71), .ref (ux 80), .ref (ux 82), .ref (ux 84), .ref (ux 89), .ref (ux 92)])), ((ux 0), .inr (9, [.ref (ux 1), .int u])), (qm, .inr (12, [.int 0, .ref (um 0), .ref (um 1), .ref (um 2), .ref (um 3), .ref (um 4), .int 0, .int 0, .int 0, .int 0, .int 0, .long 0, .int 0, .int 0, .int 0, .int (-1), .ref (um 5), .ref (um 6), .ref (um 7), .ref (um 8), .ref (um 9), .ref (um 10), .ref (um 11), .ref (um 12), .ref (um 13), .ref (um 14), .ref (um 15), .ref (um 16), .ref (um 17), .int 0, .int 0, .int 0, .int 0, .int 0, .int 0, .ref (um 18), .int 0, .ref (um 19)]))]) [0, 1] [2] (n := 3) (fun _ => rfl) (by decide +kernel) (by decide +kernel) rfl (fun _ => rfl) (wr := [(qm, .inr (12, [.int 0, .ref (um 0), .ref (um 1), .ref (um 2), .ref (um 3), .ref (um 4), .int 0, .int 0, .int 0, .int 0, .int 0, .long 0, .int 0, .int 0, .int 0, .int (-1), .ref (um 5), .ref (um 6), .ref (um 7), .ref (um 8), .ref (um 9), .ref (um 10), .ref (um 11), .ref (um 12), .ref (um 13), .ref (um 14), .ref (um 15), .ref (um 16), .ref (um 17), .int 0, .int 0, .int 0, .int 0, .int 0, .int 0, .ref (um 18), .int 0, .ref (um 19)]))]) rfl (fun _ => rfl) (fun _ => rfl) ?_
  clear hP hD hS
  clear H locs
  intro v4 n3 H locs hw (hP : va_P G vwCl [(qx, .inr (11, [.ref (ux 0), .ref (ux 2), .ref (ux 14), .ref (ux 36), .ref (ux 70), .ref (ux 71), .ref (ux 80), .ref (ux 82), .ref (ux 84), .ref (ux 89), .ref (ux 92)])), ((ux 0), .inr (9, [.ref (ux 1), .int n3])), (qm, .inr (12, [.int 0, .ref (um 0), .ref (um 1), .ref (um 2), .ref (um 3), .ref (um 4), .int 0, .int 0, .int 0, .int 0, .int 0, .long 0, .int 0, .int 0, .int 0, .int (-1), .ref (um 5), .ref (um 6), .ref (um 7), .ref (um 8), .ref (um 9), .ref (um 10), .ref (um 11), .ref (um 12), .ref (um 13), .ref (um 14), .ref (um 15), .ref (um 16), .ref (um 17), .int 0, .int 0, .int 0, .int 0, .int 0, .int 0, .ref (um 18), .int 0, .ref (um 19)]))] H) (hD : va_D A [(qx, .inr (11, [.ref (ux 0), .ref (ux 2), .ref (ux 14), .ref (ux 36), .ref (ux 70), .ref (ux 71), .ref (ux 80), .ref (ux 82), .ref (ux 84), .ref (ux 89), .ref (ux 92)])), ((ux 0), .inr (9, [.ref (ux 1), .int n3])), (qm, .inr (12, [.int 0, .ref (um 0), .ref (um 1), .ref (um 2), .ref (um 3), .ref (um 4), .int 0, .int 0, .int 0, .int 0, .int 0, .long 0, .int 0, .int 0, .int 0, .int (-1), .ref (um 5), .ref (um 6), .ref (um 7), .ref (um 8), .ref (um 9), .ref (um 10), .ref (um 11), .ref (um 12), .ref (um 13), .ref (um 14), .ref (um 15), .ref (um 16), .ref (um 17), .int 0, .int 0, .int 0, .int 0, .int 0, .int 0, .ref (um 18), .int 0, .ref (um 19)]))]) hS
  obtain ⟨w5, hw⟩ := hw
  rcases hw with ⟨rfl, w6⟩ | ⟨rfl, w7⟩ | ⟨rfl, w8⟩
  · refine lv_aload_n hx hb dL_law_408 rfl (lv_at hl 1 rfl) ?_
    refine lv_aload_n hx hb dL_law_409 rfl (lv_at hl 3 rfl) ?_
    refine lv_iload_n hx hb dL_law_410 rfl (lv_at hl 0 rfl) ?_
    refine lv_iconst (v := 1) hx hb dL_law_411 (by decide) ?_
    refine lv_iadd hx hb dL_law_412 ?_
    refine lv_topi (fun v9 ev9 => ?_)
    obtain rfl : v9 = 1 := ev9.trans (by decide)
    refine va_sld hx hb hX hbl hbA hS (mm_in mm_k1 (by decide)) dL_law_413 ?_
    refine lv_topi (fun v10 ev10 => ?_)
    obtain rfl : p1 = v10 := ep1.trans ev10.symm
    refine mm_fini (va_runV (As := [.int p1]) (rest := [.int (-1)]) ⟨hx, hb, hml, hown, hts⟩ (K33_X12_end l G cy H.size qm p1 (um 0) (um 1) (um 2) (um 3) (um 4) 0 0 0 0 0 0 0 0 (-1) (um 5) (um 6) (um 7) (um 8) (um 9) (um 10) (um 11) (um 12) (um 13) (um 14) (um 15) (um 16) (um 17) 0 0 0 0 0 0 (um 18) 0 (um 19) ) (cwV 1 hts (mm_gV mm_w187 mm_w188 mm_w189 mm_w5 mm_w190) rfl rfl rfl hd_X12_end ⟨by rw [hRf]; exact Nat.le_of_ble_eq_true rfl, by rw [hRl]; exact Nat.le_of_ble_eq_true rfl⟩) (mm_preV hK hP hD [2] rfl rfl 2 rfl rfl rfl) rfl rfl hl.1 rfl (lv_room (Nat.le_of_ble_eq_true rfl)) dL_law_414 ⟨by rw [hRc]; exact Nat.le_of_ble_eq_true rfl, by rw [hRs]; exact Nat.le_of_ble_eq_true rfl⟩) hP hD hS hA (fun u : Int32 => [(qx, .inr (11, [.ref (ux 0), .ref (ux 2), .ref (ux 14), .ref (ux 36), .ref (ux 70), .ref (ux 71), .ref (ux 80), .ref (ux 82), .ref (ux 84), .ref (ux 89), .ref (ux 92)])), ((ux 0), .inr (9, [.ref (ux 1), .int n3])), (qm, .inr (12, [.int 0, .ref (um 0), .ref (um 1), .ref (um 2), .ref (um 3), .ref (um 4), .int u, .int 0, .int 0, .int 0, .int 0, .long 0, .int 0, .int 0, .int 0, .int (-1), .ref (um 5), .ref (um 6), .ref (um 7), .ref (um 8), .ref (um 9), .ref (um 10), .ref (um 11), .ref (um 12), .ref (um 13), .ref (um 14), .ref (um 15), .ref (um 16), .ref (um 17), .int 0, .int 0, .int 0, .int 0, .int 0, .int 0, .ref (um 18), .int 0, .ref (um 19)]))]) [2] [0, 1] (n := 3) (fun _ => rfl) (by decide +kernel) (by decide +kernel) rfl (fun _ => rfl) (wr := [(qx, .inr (11, [.ref (ux 0), .ref (ux 2), .ref (ux 14), .ref (ux 36), .ref (ux 70), .ref (ux 71), .ref (ux 80), .ref (ux 82), .ref (ux 84), .ref (ux 89), .ref (ux 92)])), ((ux 0), .inr (9, [.ref (ux 1), .int n3]))]) rfl (fun _ => rfl) (fun _ => rfl) ?_
    clear hP hD hS
    clear H locs
    intro v12 n11 H locs hw (hP : va_P G vwCl [(qx, .inr (11, [.ref (ux 0), .ref (ux 2), .ref (ux 14), .ref (ux 36), .ref (ux 70), .ref (ux 71), .ref (ux 80), .ref (ux 82), .ref (ux 84), .ref (ux 89), .ref (ux 92)])), ((ux 0), .inr (9, [.ref (ux 1), .int n3])), (qm, .inr (12, [.int 0, .ref (um 0), .ref (um 1), .ref (um 2), .ref (um 3), .ref (um 4), .int n11, .int 0, .int 0, .int 0, .int 0, .long 0, .int 0, .int 0, .int 0, .int (-1), .ref (um 5), .ref (um 6), .ref (um 7), .ref (um 8), .ref (um 9), .ref (um 10), .ref (um 11), .ref (um 12), .ref (um 13), .ref (um 14), .ref (um 15), .ref (um 16), .ref (um 17), .int 0, .int 0, .int 0, .int 0, .int 0, .int 0, .ref (um 18), .int 0, .ref (um 19)]))] H) (hD : va_D A [(qx, .inr (11, [.ref (ux 0), .ref (ux 2), .ref (ux 14), .ref (ux 36), .ref (ux 70), .ref (ux 71), .ref (ux 80), .ref (ux 82), .ref (ux 84), .ref (ux 89), .ref (ux 92)])), ((ux 0), .inr (9, [.ref (ux 1), .int n3])), (qm, .inr (12, [.int 0, .ref (um 0), .ref (um 1), .ref (um 2), .ref (um 3), .ref (um 4), .int n11, .int 0, .int 0, .int 0, .int 0, .long 0, .int 0, .int 0, .int 0, .int (-1), .ref (um 5), .ref (um 6), .ref (um 7), .ref (um 8), .ref (um 9), .ref (um 10), .ref (um 11), .ref (um 12), .ref (um 13), .ref (um 14), .ref (um 15), .ref (um 16), .ref (um 17), .int 0, .int 0, .int 0, .int 0, .int 0, .int 0, .ref (um 18), .int 0, .ref (um 19)]))]) hS
    obtain ⟨w13, hw⟩ := hw
    rcases hw with ⟨rfl, w14⟩ | ⟨rfl, w15⟩ | ⟨rfl, w16⟩
    · refine lv_icmp_eq (tgt := 3153) hx hb dL_law_417 (by decide) (fun c17 => ?_) (fun c17 => ?_)
      · refine lv_iinc (v := 6) (lv' := [(3, .int 6), (2, .ref qm), (1, .ref qx), (0, .ref b)]) hx hb dL_law_3153 hl (k := 0) rfl (by decide) (by decide) rfl ?_
        clear hl
        clear ls
        intro ls hl
        refine lv_goto (tgt := 18) hx hb dL_law_3156 (by decide) ?_
        refine lv_iload_n hx hb dL_law_18 rfl (lv_at hl 0 rfl) ?_
        refine lv_aload_n hx hb dL_law_19 rfl (lv_at hl 3 rfl) ?_
        refine va_slen hx hb hX hbl hbA hS dL_law_20 ?_
        refine lv_topi (fun v18 ev18 => ?_)
        obtain rfl : v18 = 6 := ev18.trans (by decide)
        refine lv_bipush (v := 6) hx hb dL_law_21 (by decide) ?_
        refine lv_isub hx hb dL_law_23 ?_
        refine lv_topi (fun v19 ev19 => ?_)
        obtain rfl : v19 = 0 := ev19.trans (by decide)
        refine lv_icmp_gt (tgt := 3159) hx hb dL_law_24 (by decide) (fun c20 => ?_) (fun c20 => ?_)
        · refine lv_iconst (v := 1) hx hb dL_law_3159 (by decide) ?_
          refine va_forget (fun q hq => by have := hS.2.2 q hq; rw [hAe] at this; exact this) ?_
          refine W.widen (k := 600000) (n := 7302250) (Nat.le_of_ble_eq_true rfl) (Nat.le_of_ble_eq_true rfl) ?_
          exact lw_ret hx hb hr hlocks dL_law_3160
        · have q21 := mm_leL (mm_nlt c20) mm_k6 mm_k0
          exact mm_no q21 (by decide)
      · have q22 := mm_neL (lo := 0) (mm_ne c17) mm_km1 mm_km1 (by decide) (by decide)
        exact mm_no q22 (by decide)
    · exact mm_noX w15 w6 (by decide)
    · exact mm_noX w16 w6 (by decide)
  · refine lv_aload_n hx hb dL_law_408 rfl (lv_at hl 1 rfl) ?_
    refine lv_aload_n hx hb dL_law_409 rfl (lv_at hl 3 rfl) ?_
    refine lv_iload_n hx hb dL_law_410 rfl (lv_at hl 0 rfl) ?_
    refine lv_iconst (v := 1) hx hb dL_law_411 (by decide) ?_
    refine lv_iadd hx hb dL_law_412 ?_
    refine lv_topi (fun v23 ev23 => ?_)
    obtain rfl : v23 = 1 := ev23.trans (by decide)
    refine va_sld hx hb hX hbl hbA hS (mm_in mm_k1 (by decide)) dL_law_413 ?_
    refine lv_topi (fun v24 ev24 => ?_)
    obtain rfl : p1 = v24 := ep1.trans ev24.symm
    refine mm_fini (va_runV (As := [.int p1]) (rest := [.int 0]) ⟨hx, hb, hml, hown, hts⟩ (K33_X12_end l G cy H.size qm p1 (um 0) (um 1) (um 2) (um 3) (um 4) 0 0 0 0 0 0 0 0 (-1) (um 5) (um 6) (um 7) (um 8) (um 9) (um 10) (um 11) (um 12) (um 13) (um 14) (um 15) (um 16) (um 17) 0 0 0 0 0 0 (um 18) 0 (um 19) ) (cwV 1 hts (mm_gV mm_w187 mm_w188 mm_w189 mm_w5 mm_w190) rfl rfl rfl hd_X12_end ⟨by rw [hRf]; exact Nat.le_of_ble_eq_true rfl, by rw [hRl]; exact Nat.le_of_ble_eq_true rfl⟩) (mm_preV hK hP hD [2] rfl rfl 2 rfl rfl rfl) rfl rfl hl.1 rfl (lv_room (Nat.le_of_ble_eq_true rfl)) dL_law_414 ⟨by rw [hRc]; exact Nat.le_of_ble_eq_true rfl, by rw [hRs]; exact Nat.le_of_ble_eq_true rfl⟩) hP hD hS hA (fun u : Int32 => [(qx, .inr (11, [.ref (ux 0), .ref (ux 2), .ref (ux 14), .ref (ux 36), .ref (ux 70), .ref (ux 71), .ref (ux 80), .ref (ux 82), .ref (ux 84), .ref (ux 89), .ref (ux 92)])), ((ux 0), .inr (9, [.ref (ux 1), .int n3])), (qm, .inr (12, [.int 0, .ref (um 0), .ref (um 1), .ref (um 2), .ref (um 3), .ref (um 4), .int u, .int 0, .int 0, .int 0, .int 0, .long 0, .int 0, .int 0, .int 0, .int (-1), .ref (um 5), .ref (um 6), .ref (um 7), .ref (um 8), .ref (um 9), .ref (um 10), .ref (um 11), .ref (um 12), .ref (um 13), .ref (um 14), .ref (um 15), .ref (um 16), .ref (um 17), .int 0, .int 0, .int 0, .int 0, .int 0, .int 0, .ref (um 18), .int 0, .ref (um 19)]))]) [2] [0, 1] (n := 3) (fun _ => rfl) (by decide +kernel) (by decide +kernel) rfl (fun _ => rfl) (wr := [(qx, .inr (11, [.ref (ux 0), .ref (ux 2), .ref (ux 14), .ref (ux 36), .ref (ux 70), .ref (ux 71), .ref (ux 80), .ref (ux 82), .ref (ux 84), .ref (ux 89), .ref (ux 92)])), ((ux 0), .inr (9, [.ref (ux 1), .int n3]))]) rfl (fun _ => rfl) (fun _ => rfl) ?_
    clear hP hD hS
    clear H locs
    intro v26 n25 H locs hw (hP : va_P G vwCl [(qx, .inr (11, [.ref (ux 0), .ref (ux 2), .ref (ux 14), .ref (ux 36), .ref (ux 70), .ref (ux 71), .ref (ux 80), .ref (ux 82), .ref (ux 84), .ref (ux 89), .ref (ux 92)])), ((ux 0), .inr (9, [.ref (ux 1), .int n3])), (qm, .inr (12, [.int 0, .ref (um 0), .ref (um 1), .ref (um 2), .ref (um 3), .ref (um 4), .int n25, .int 0, .int 0, .int 0, .int 0, .long 0, .int 0, .int 0, .int 0, .int (-1), .ref (um 5), .ref (um 6), .ref (um 7), .ref (um 8), .ref (um 9), .ref (um 10), .ref (um 11), .ref (um 12), .ref (um 13), .ref (um 14), .ref (um 15), .ref (um 16), .ref (um 17), .int 0, .int 0, .int 0, .int 0, .int 0, .int 0, .ref (um 18), .int 0, .ref (um 19)]))] H) (hD : va_D A [(qx, .inr (11, [.ref (ux 0), .ref (ux 2), .ref (ux 14), .ref (ux 36), .ref (ux 70), .ref (ux 71), .ref (ux 80), .ref (ux 82), .ref (ux 84), .ref (ux 89), .ref (ux 92)])), ((ux 0), .inr (9, [.ref (ux 1), .int n3])), (qm, .inr (12, [.int 0, .ref (um 0), .ref (um 1), .ref (um 2), .ref (um 3), .ref (um 4), .int n25, .int 0, .int 0, .int 0, .int 0, .long 0, .int 0, .int 0, .int 0, .int (-1), .ref (um 5), .ref (um 6), .ref (um 7), .ref (um 8), .ref (um 9), .ref (um 10), .ref (um 11), .ref (um 12), .ref (um 13), .ref (um 14), .ref (um 15), .ref (um 16), .ref (um 17), .int 0, .int 0, .int 0, .int 0, .int 0, .int 0, .ref (um 18), .int 0, .ref (um 19)]))]) hS
    obtain ⟨w27, hw⟩ := hw
    rcases hw with ⟨rfl, w28⟩ | ⟨rfl, w29⟩ | ⟨rfl, w30⟩
    · exact mm_noX w28 w7 (by decide)
    · exact mm_noX w29 w7 (by decide)
    · refine lv_icmp_eq (tgt := 3153) hx hb dL_law_417 (by decide) (fun c31 => ?_) (fun c31 => ?_)
      · refine lv_iinc (v := 6) (lv' := [(3, .int 6), (2, .ref qm), (1, .ref qx), (0, .ref b)]) hx hb dL_law_3153 hl (k := 0) rfl (by decide) (by decide) rfl ?_
        clear hl
        clear ls
        intro ls hl
        refine lv_goto (tgt := 18) hx hb dL_law_3156 (by decide) ?_
        refine lv_iload_n hx hb dL_law_18 rfl (lv_at hl 0 rfl) ?_
        refine lv_aload_n hx hb dL_law_19 rfl (lv_at hl 3 rfl) ?_
        refine va_slen hx hb hX hbl hbA hS dL_law_20 ?_
        refine lv_topi (fun v32 ev32 => ?_)
        obtain rfl : v32 = 6 := ev32.trans (by decide)
        refine lv_bipush (v := 6) hx hb dL_law_21 (by decide) ?_
        refine lv_isub hx hb dL_law_23 ?_
        refine lv_topi (fun v33 ev33 => ?_)
        obtain rfl : v33 = 0 := ev33.trans (by decide)
        refine lv_icmp_gt (tgt := 3159) hx hb dL_law_24 (by decide) (fun c34 => ?_) (fun c34 => ?_)
        · refine lv_iconst (v := 1) hx hb dL_law_3159 (by decide) ?_
          refine va_forget (fun q hq => by have := hS.2.2 q hq; rw [hAe] at this; exact this) ?_
          refine W.widen (k := 600000) (n := 7302250) (Nat.le_of_ble_eq_true rfl) (Nat.le_of_ble_eq_true rfl) ?_
          exact lw_ret hx hb hr hlocks dL_law_3160
        · have q35 := mm_leL (mm_nlt c34) mm_k6 mm_k0
          exact mm_no q35 (by decide)
      · have q36 := mm_neL (lo := 1) (mm_ne c31) mm_k0 mm_k0 (by decide) (by decide)
        exact mm_no q36 (by decide)
  · refine lv_aload_n hx hb dL_law_408 rfl (lv_at hl 1 rfl) ?_
    refine lv_aload_n hx hb dL_law_409 rfl (lv_at hl 3 rfl) ?_
    refine lv_iload_n hx hb dL_law_410 rfl (lv_at hl 0 rfl) ?_
    refine lv_iconst (v := 1) hx hb dL_law_411 (by decide) ?_
    refine lv_iadd hx hb dL_law_412 ?_
    refine lv_topi (fun v37 ev37 => ?_)
    obtain rfl : v37 = 1 := ev37.trans (by decide)
    refine va_sld hx hb hX hbl hbA hS (mm_in mm_k1 (by decide)) dL_law_413 ?_
    refine lv_topi (fun v38 ev38 => ?_)
    obtain rfl : p1 = v38 := ep1.trans ev38.symm
    refine mm_fini (va_runV (As := [.int p1]) (rest := [.int (-1)]) ⟨hx, hb, hml, hown, hts⟩ (K33_X12_end l G cy H.size qm p1 (um 0) (um 1) (um 2) (um 3) (um 4) 0 0 0 0 0 0 0 0 (-1) (um 5) (um 6) (um 7) (um 8) (um 9) (um 10) (um 11) (um 12) (um 13) (um 14) (um 15) (um 16) (um 17) 0 0 0 0 0 0 (um 18) 0 (um 19) ) (cwV 1 hts (mm_gV mm_w187 mm_w188 mm_w189 mm_w5 mm_w190) rfl rfl rfl hd_X12_end ⟨by rw [hRf]; exact Nat.le_of_ble_eq_true rfl, by rw [hRl]; exact Nat.le_of_ble_eq_true rfl⟩) (mm_preV hK hP hD [2] rfl rfl 2 rfl rfl rfl) rfl rfl hl.1 rfl (lv_room (Nat.le_of_ble_eq_true rfl)) dL_law_414 ⟨by rw [hRc]; exact Nat.le_of_ble_eq_true rfl, by rw [hRs]; exact Nat.le_of_ble_eq_true rfl⟩) hP hD hS hA (fun u : Int32 => [(qx, .inr (11, [.ref (ux 0), .ref (ux 2), .ref (ux 14), .ref (ux 36), .ref (ux 70), .ref (ux 71), .ref (ux 80), .ref (ux 82), .ref (ux 84), .ref (ux 89), .ref (ux 92)])), ((ux 0), .inr (9, [.ref (ux 1), .int n3])), (qm, .inr (12, [.int 0, .ref (um 0), .ref (um 1), .ref (um 2), .ref (um 3), .ref (um 4), .int u, .int 0, .int 0, .int 0, .int 0, .long 0, .int 0, .int 0, .int 0, .int (-1), .ref (um 5), .ref (um 6), .ref (um 7), .ref (um 8), .ref (um 9), .ref (um 10), .ref (um 11), .ref (um 12), .ref (um 13), .ref (um 14), .ref (um 15), .ref (um 16), .ref (um 17), .int 0, .int 0, .int 0, .int 0, .int 0, .int 0, .ref (um 18), .int 0, .ref (um 19)]))]) [2] [0, 1] (n := 3) (fun _ => rfl) (by decide +kernel) (by decide +kernel) rfl (fun _ => rfl) (wr := [(qx, .inr (11, [.ref (ux 0), .ref (ux 2), .ref (ux 14), .ref (ux 36), .ref (ux 70), .ref (ux 71), .ref (ux 80), .ref (ux 82), .ref (ux 84), .ref (ux 89), .ref (ux 92)])), ((ux 0), .inr (9, [.ref (ux 1), .int n3]))]) rfl (fun _ => rfl) (fun _ => rfl) ?_
    clear hP hD hS
    clear H locs
    intro v40 n39 H locs hw (hP : va_P G vwCl [(qx, .inr (11, [.ref (ux 0), .ref (ux 2), .ref (ux 14), .ref (ux 36), .ref (ux 70), .ref (ux 71), .ref (ux 80), .ref (ux 82), .ref (ux 84), .ref (ux 89), .ref (ux 92)])), ((ux 0), .inr (9, [.ref (ux 1), .int n3])), (qm, .inr (12, [.int 0, .ref (um 0), .ref (um 1), .ref (um 2), .ref (um 3), .ref (um 4), .int n39, .int 0, .int 0, .int 0, .int 0, .long 0, .int 0, .int 0, .int 0, .int (-1), .ref (um 5), .ref (um 6), .ref (um 7), .ref (um 8), .ref (um 9), .ref (um 10), .ref (um 11), .ref (um 12), .ref (um 13), .ref (um 14), .ref (um 15), .ref (um 16), .ref (um 17), .int 0, .int 0, .int 0, .int 0, .int 0, .int 0, .ref (um 18), .int 0, .ref (um 19)]))] H) (hD : va_D A [(qx, .inr (11, [.ref (ux 0), .ref (ux 2), .ref (ux 14), .ref (ux 36), .ref (ux 70), .ref (ux 71), .ref (ux 80), .ref (ux 82), .ref (ux 84), .ref (ux 89), .ref (ux 92)])), ((ux 0), .inr (9, [.ref (ux 1), .int n3])), (qm, .inr (12, [.int 0, .ref (um 0), .ref (um 1), .ref (um 2), .ref (um 3), .ref (um 4), .int n39, .int 0, .int 0, .int 0, .int 0, .long 0, .int 0, .int 0, .int 0, .int (-1), .ref (um 5), .ref (um 6), .ref (um 7), .ref (um 8), .ref (um 9), .ref (um 10), .ref (um 11), .ref (um 12), .ref (um 13), .ref (um 14), .ref (um 15), .ref (um 16), .ref (um 17), .int 0, .int 0, .int 0, .int 0, .int 0, .int 0, .ref (um 18), .int 0, .ref (um 19)]))]) hS
    obtain ⟨w41, hw⟩ := hw
    rcases hw with ⟨rfl, w42⟩ | ⟨rfl, w43⟩ | ⟨rfl, w44⟩
    · exact mm_noX w42 w8 (by decide)
    · refine lv_icmp_eq (tgt := 3153) hx hb dL_law_417 (by decide) (fun c45 => ?_) (fun c45 => ?_)
      · refine lv_iinc (v := 6) (lv' := [(3, .int 6), (2, .ref qm), (1, .ref qx), (0, .ref b)]) hx hb dL_law_3153 hl (k := 0) rfl (by decide) (by decide) rfl ?_
        clear hl
        clear ls
        intro ls hl
        refine lv_goto (tgt := 18) hx hb dL_law_3156 (by decide) ?_
        refine lv_iload_n hx hb dL_law_18 rfl (lv_at hl 0 rfl) ?_
        refine lv_aload_n hx hb dL_law_19 rfl (lv_at hl 3 rfl) ?_
        refine va_slen hx hb hX hbl hbA hS dL_law_20 ?_
        refine lv_topi (fun v46 ev46 => ?_)
        obtain rfl : v46 = 6 := ev46.trans (by decide)
        refine lv_bipush (v := 6) hx hb dL_law_21 (by decide) ?_
        refine lv_isub hx hb dL_law_23 ?_
        refine lv_topi (fun v47 ev47 => ?_)
        obtain rfl : v47 = 0 := ev47.trans (by decide)
        refine lv_icmp_gt (tgt := 3159) hx hb dL_law_24 (by decide) (fun c48 => ?_) (fun c48 => ?_)
        · refine lv_iconst (v := 1) hx hb dL_law_3159 (by decide) ?_
          refine va_forget (fun q hq => by have := hS.2.2 q hq; rw [hAe] at this; exact this) ?_
          refine W.widen (k := 600000) (n := 7302250) (Nat.le_of_ble_eq_true rfl) (Nat.le_of_ble_eq_true rfl) ?_
          exact lw_ret hx hb hr hlocks dL_law_3160
        · have q49 := mm_leL (mm_nlt c48) mm_k6 mm_k0
          exact mm_no q49 (by decide)
      · have q50 := mm_neL (lo := 0) (mm_ne c45) mm_km1 mm_km1 (by decide) (by decide)
        exact mm_no q50 (by decide)
    · exact mm_noX w44 w8 (by decide)

set_option maxHeartbeats 4000000 in
set_option maxRecDepth 100000 in
theorem lc_2 {p : Program} {e : Env} {s : State} {m : MethodId} {below : List Frame} {meth : Method} {c : Code} {b : Nat} {xs : Nat → Int32} {G : va_G} {cy : Nat → ClassId} {qx qm : Nat} {ux um : Nat → Nat} {H : Heap} {locs : List Loc} {ls : Array Slot} {A : Nat → Prop} (l : Launch) (hx : p.tables.exec = Jvm.exec) (hb : c.code = code) (hr : meth.sig.returnType = ret) (hlocks : meth.locks = false) (hml : c.maxLocals = 4) (hown : s.vm.findClass R_law = some m.cls) (hts : ∀ w ∈ lw_x :: wsL_law, w.before #[Value.ref b] s = true) (hX : va_X b 6 xs s s.heap) (hbl : b < s.heap.size) (hAe : A = fun q => s.heap.size ≤ q) (hK : mm_K G cy s) (hS : va_S A s.heap H locs) (hP : va_P G vwCl [(qx, .inr (11, [.ref (ux 0), .ref (ux 2), .ref (ux 14), .ref (ux 36), .ref (ux 70), .ref (ux 71), .ref (ux 80), .ref (ux 82), .ref (ux 84), .ref (ux 89), .ref (ux 92)])), ((ux 0), .inr (9, [.ref (ux 1), .int 0])), ((ux 2), .inr (7, [.ref (ux 0), .ref (ux 3), .int 0, .int (-1), .int 0, .int 0, .int 0, .int 0])), ((ux 3), .inr (0, [.int 0, .int 0, .int 0, .int 0, .int 0, .int 0, .int 0, .int 0, .ref (ux 4), .ref (ux 5), .ref (ux 6), .ref (ux 7), .ref (ux 8), .ref (ux 9), .ref (ux 10), .ref (ux 11), .ref (ux 12), .ref (ux 13)])), ((ux 4), .inl (cy 1, 9, .inl (fun _ => 0))), ((ux 5), .inl (cy 1, 9, .inl (fun _ => 0))), ((ux 6), .inl (cy 1, 3, .inl (fun _ => 0))), ((ux 7), .inl (cy 1, 210, .inl (fun _ => 0))), ((ux 8), .inl (cy 1, 6, .inl (fun _ => 0))), ((ux 9), .inl (cy 1, 48, .inl (fun _ => 0))), ((ux 10), .inl (cy 1, 30, .inl (fun _ => 0))), ((ux 11), .inl (cy 1, 30, .inl (fun _ => 0))), ((ux 12), .inl (cy 1, 30, .inl (fun _ => 0))), ((ux 13), .inl (cy 1, 30, .inl (fun _ => 0))), ((ux 14), .inr (10, [.ref (ux 15), .ref (ux 26)])), ((ux 15), .inr (0, [.int 0, .int 0, .int 0, .int 0, .int 0, .int 0, .int 0, .int 0, .ref (ux 16), .ref (ux 17), .ref (ux 18), .ref (ux 19), .ref (ux 20), .ref (ux 21), .ref (ux 22), .ref (ux 23), .ref (ux 24), .ref (ux 25)])), ((ux 16), .inl (cy 1, 9, .inl (fun _ => 0))), ((ux 17), .inl (cy 1, 9, .inl (fun _ => 0))), ((ux 18), .inl (cy 1, 3, .inl (fun _ => 0))), ((ux 19), .inl (cy 1, 210, .inl (fun _ => 0))), ((ux 20), .inl (cy 1, 6, .inl (fun _ => 0))), ((ux 21), .inl (cy 1, 48, .inl (fun _ => 0))), ((ux 22), .inl (cy 1, 30, .inl (fun _ => 0))), ((ux 23), .inl (cy 1, 30, .inl (fun _ => 0))), ((ux 24), .inl (cy 1, 30, .inl (fun _ => 0))), ((ux 25), .inl (cy 1, 30, .inl (fun _ => 0))), (qm, .inr (12, [.int 0, .ref (um 0), .ref (um 1), .ref (um 2), .ref (um 3), .ref (um 4), .int 0, .int 0, .int 0, .int 0, .int 0, .long 0, .int 0, .int 0, .int 0, .int (-1), .ref (um 5), .ref (um 6), .ref (um 7), .ref (um 8), .ref (um 9), .ref (um 10), .ref (um 11), .ref (um 12), .ref (um 13), .ref (um 14), .ref (um 15), .ref (um 16), .ref (um 17), .int 0, .int 0, .int 0, .int 0, .int 0, .int 0, .ref (um 18), .int 0, .ref (um 19)])), ((um 5), .inl (cy 1, 5, .inl (fun _ => 0))), ((um 6), .inl (cy 1, 30, .inl (fun _ => 0))), ((um 7), .inl (cy 1, 90, .inl (fun _ => 0))), ((um 8), .inl (cy 1, 15, .inl (fun _ => 0))), ((um 9), .inl (cy 1, 1050, .inl (fun _ => 0))), ((um 10), .inl (cy 1, 30, .inl (fun _ => 0))), ((um 11), .inl (cy 1, 240, .inl (fun _ => 0))), ((um 12), .inl (cy 1, 450, .inl (fun _ => 0)))] H) (hD : va_D A [(qx, .inr (11, [.ref (ux 0), .ref (ux 2), .ref (ux 14), .ref (ux 36), .ref (ux 70), .ref (ux 71), .ref (ux 80), .ref (ux 82), .ref (ux 84), .ref (ux 89), .ref (ux 92)])), ((ux 0), .inr (9, [.ref (ux 1), .int 0])), ((ux 2), .inr (7, [.ref (ux 0), .ref (ux 3), .int 0, .int (-1), .int 0, .int 0, .int 0, .int 0])), ((ux 3), .inr (0, [.int 0, .int 0, .int 0, .int 0, .int 0, .int 0, .int 0, .int 0, .ref (ux 4), .ref (ux 5), .ref (ux 6), .ref (ux 7), .ref (ux 8), .ref (ux 9), .ref (ux 10), .ref (ux 11), .ref (ux 12), .ref (ux 13)])), ((ux 4), .inl (cy 1, 9, .inl (fun _ => 0))), ((ux 5), .inl (cy 1, 9, .inl (fun _ => 0))), ((ux 6), .inl (cy 1, 3, .inl (fun _ => 0))), ((ux 7), .inl (cy 1, 210, .inl (fun _ => 0))), ((ux 8), .inl (cy 1, 6, .inl (fun _ => 0))), ((ux 9), .inl (cy 1, 48, .inl (fun _ => 0))), ((ux 10), .inl (cy 1, 30, .inl (fun _ => 0))), ((ux 11), .inl (cy 1, 30, .inl (fun _ => 0))), ((ux 12), .inl (cy 1, 30, .inl (fun _ => 0))), ((ux 13), .inl (cy 1, 30, .inl (fun _ => 0))), ((ux 14), .inr (10, [.ref (ux 15), .ref (ux 26)])), ((ux 15), .inr (0, [.int 0, .int 0, .int 0, .int 0, .int 0, .int 0, .int 0, .int 0, .ref (ux 16), .ref (ux 17), .ref (ux 18), .ref (ux 19), .ref (ux 20), .ref (ux 21), .ref (ux 22), .ref (ux 23), .ref (ux 24), .ref (ux 25)])), ((ux 16), .inl (cy 1, 9, .inl (fun _ => 0))), ((ux 17), .inl (cy 1, 9, .inl (fun _ => 0))), ((ux 18), .inl (cy 1, 3, .inl (fun _ => 0))), ((ux 19), .inl (cy 1, 210, .inl (fun _ => 0))), ((ux 20), .inl (cy 1, 6, .inl (fun _ => 0))), ((ux 21), .inl (cy 1, 48, .inl (fun _ => 0))), ((ux 22), .inl (cy 1, 30, .inl (fun _ => 0))), ((ux 23), .inl (cy 1, 30, .inl (fun _ => 0))), ((ux 24), .inl (cy 1, 30, .inl (fun _ => 0))), ((ux 25), .inl (cy 1, 30, .inl (fun _ => 0))), (qm, .inr (12, [.int 0, .ref (um 0), .ref (um 1), .ref (um 2), .ref (um 3), .ref (um 4), .int 0, .int 0, .int 0, .int 0, .int 0, .long 0, .int 0, .int 0, .int 0, .int (-1), .ref (um 5), .ref (um 6), .ref (um 7), .ref (um 8), .ref (um 9), .ref (um 10), .ref (um 11), .ref (um 12), .ref (um 13), .ref (um 14), .ref (um 15), .ref (um 16), .ref (um 17), .int 0, .int 0, .int 0, .int 0, .int 0, .int 0, .ref (um 18), .int 0, .ref (um 19)])), ((um 5), .inl (cy 1, 5, .inl (fun _ => 0))), ((um 6), .inl (cy 1, 30, .inl (fun _ => 0))), ((um 7), .inl (cy 1, 90, .inl (fun _ => 0))), ((um 8), .inl (cy 1, 15, .inl (fun _ => 0))), ((um 9), .inl (cy 1, 1050, .inl (fun _ => 0))), ((um 10), .inl (cy 1, 30, .inl (fun _ => 0))), ((um 11), .inl (cy 1, 240, .inl (fun _ => 0))), ((um 12), .inl (cy 1, 450, .inl (fun _ => 0)))]) (hl : lv_has ls 4 [(3, .int 0), (2, .ref qm), (1, .ref qx), (0, .ref b)]) : W p l e room_1 s m #[Value.ref b] below meth c H locs 116 20302 (lw_Z below #[Value.ref b] s) (F0 m 422 ls []) := by
  have hA : ∀ q, s.heap.size ≤ q → A q := by rw [hAe]; exact fun _ h => h
  have hbA : ¬ A b := by rw [hAe]; exact Nat.not_le.mpr hbl
  have hRf : room_1.frames = 2048 := rfl
  have hRl : room_1.locals = 84000 := rfl
  have hRc : room_1.cells = 600000 := rfl
  have hRs : room_1.slots = 7302250 := rfl
  obtain ⟨p1, ep1⟩ : ∃ z : Int32, z = xs 1 := ⟨_, rfl⟩
  obtain ⟨p2, ep2⟩ : ∃ z : Int32, z = xs 2 := ⟨_, rfl⟩
  obtain ⟨p3, ep3⟩ : ∃ z : Int32, z = xs 3 := ⟨_, rfl⟩
  obtain ⟨p4, ep4⟩ : ∃ z : Int32, z = xs 4 := ⟨_, rfl⟩
  obtain ⟨p5, ep5⟩ : ∃ z : Int32, z = xs 5 := ⟨_, rfl⟩
  refine lv_aload_n hx hb dL_law_422 rfl (lv_at hl 2 rfl) ?_
  refine mm_fini (va_runV (As := []) (rest := []) ⟨hx, hb, hml, hown, hts⟩ (K54_X11_book l G cy H.size qx (ux 0) (ux 2) (ux 14) (ux 36) (ux 70) (ux 71) (ux 80) (ux 82) (ux 84) (ux 89) (ux 92) (ux 1) (ux 3) (ux 4) (ux 5) (ux 6) (ux 7) (ux 8) (ux 9) (ux 10) (ux 11) (ux 12) (ux 13) (ux 15) (ux 26) (ux 16) (ux 17) (ux 18) (ux 19) (ux 20) (ux 21) (ux 22) (ux 23) (ux 24) (ux 25) ) (cwV 0 hts (mm_gV mm_w194 mm_w195 mm_w196 mm_w2 mm_w197) rfl rfl rfl hd_X11_book ⟨by rw [hRf]; exact Nat.le_of_ble_eq_true rfl, by rw [hRl]; exact Nat.le_of_ble_eq_true rfl⟩) (mm_preV hK hP hD [0, 1, 2, 3, 4, 5, 6, 7, 8, 9, 10, 11, 12, 13, 14, 15, 16, 17, 18, 19, 20, 21, 22, 23, 24, 25] rfl rfl 0 rfl rfl rfl) rfl rfl hl.1 rfl (lv_room (Nat.le_of_ble_eq_true rfl)) dL_law_423 ⟨by rw [hRc]; exact Nat.le_of_ble_eq_true rfl, by rw [hRs]; exact Nat.le_of_ble_eq_true rfl⟩) hP hD hS hA (fun u : (Nat → Int32) × (Nat → Int32) × (Nat → Int32) × (Nat → Int32) × (Nat → Int32) × (Nat → Int32) × (Nat → Int32) × (Nat → Int32) × (Nat → Int32) × (Nat → Int32) × (Nat → Int32) × (Nat → Int32) × (Nat → Int32) => [(qx, .inr (11, [.ref (ux 0), .ref (ux 2), .ref (ux 14), .ref (ux 36), .ref (ux 70), .ref (ux 71), .ref (ux 80), .ref (ux 82), .ref (ux 84), .ref (ux 89), .ref (ux 92)])), ((ux 0), .inr (9, [.ref (ux 1), .int 0])), ((ux 2), .inr (7, [.ref (ux 0), .ref (ux 3), .int 0, .int (-1), .int 0, .int 0, .int 0, .int 0])), ((ux 3), .inr (0, [.int 0, .int 0, .int 0, .int 0, .int 0, .int 0, .int 0, .int 0, .ref (ux 4), .ref (ux 5), .ref (ux 6), .ref (ux 7), .ref (ux 8), .ref (ux 9), .ref (ux 10), .ref (ux 11), .ref (ux 12), .ref (ux 13)])), ((ux 4), .inl (cy 1, 9, .inl (fun _ => 0))), ((ux 5), .inl (cy 1, 9, .inl (fun _ => 0))), ((ux 6), .inl (cy 1, 3, .inl u.1)), ((ux 7), .inl (cy 1, 210, .inl (fun _ => 0))), ((ux 8), .inl (cy 1, 6, .inl u.2.1)), ((ux 9), .inl (cy 1, 48, .inl (fun _ => 0))), ((ux 10), .inl (cy 1, 30, .inl u.2.2.1)), ((ux 11), .inl (cy 1, 30, .inl (fun _ => 0))), ((ux 12), .inl (cy 1, 30, .inl (fun _ => 0))), ((ux 13), .inl (cy 1, 30, .inl (fun _ => 0))), ((ux 14), .inr (10, [.ref (ux 15), .ref (ux 26)])), ((ux 15), .inr (0, [.int 0, .int 0, .int 0, .int 0, .int 0, .int 0, .int 0, .int 0, .ref (ux 16), .ref (ux 17), .ref (ux 18), .ref (ux 19), .ref (ux 20), .ref (ux 21), .ref (ux 22), .ref (ux 23), .ref (ux 24), .ref (ux 25)])), ((ux 16), .inl (cy 1, 9, .inl u.2.2.2.1)), ((ux 17), .inl (cy 1, 9, .inl u.2.2.2.2.1)), ((ux 18), .inl (cy 1, 3, .inl u.2.2.2.2.2.1)), ((ux 19), .inl (cy 1, 210, .inl u.2.2.2.2.2.2.1)), ((ux 20), .inl (cy 1, 6, .inl u.2.2.2.2.2.2.2.1)), ((ux 21), .inl (cy 1, 48, .inl u.2.2.2.2.2.2.2.2.1)), ((ux 22), .inl (cy 1, 30, .inl u.2.2.2.2.2.2.2.2.2.1)), ((ux 23), .inl (cy 1, 30, .inl u.2.2.2.2.2.2.2.2.2.2.1)), ((ux 24), .inl (cy 1, 30, .inl u.2.2.2.2.2.2.2.2.2.2.2.1)), ((ux 25), .inl (cy 1, 30, .inl u.2.2.2.2.2.2.2.2.2.2.2.2)), (qm, .inr (12, [.int 0, .ref (um 0), .ref (um 1), .ref (um 2), .ref (um 3), .ref (um 4), .int 0, .int 0, .int 0, .int 0, .int 0, .long 0, .int 0, .int 0, .int 0, .int (-1), .ref (um 5), .ref (um 6), .ref (um 7), .ref (um 8), .ref (um 9), .ref (um 10), .ref (um 11), .ref (um 12), .ref (um 13), .ref (um 14), .ref (um 15), .ref (um 16), .ref (um 17), .int 0, .int 0, .int 0, .int 0, .int 0, .int 0, .ref (um 18), .int 0, .ref (um 19)])), ((um 5), .inl (cy 1, 5, .inl (fun _ => 0))), ((um 6), .inl (cy 1, 30, .inl (fun _ => 0))), ((um 7), .inl (cy 1, 90, .inl (fun _ => 0))), ((um 8), .inl (cy 1, 15, .inl (fun _ => 0))), ((um 9), .inl (cy 1, 1050, .inl (fun _ => 0))), ((um 10), .inl (cy 1, 30, .inl (fun _ => 0))), ((um 11), .inl (cy 1, 240, .inl (fun _ => 0))), ((um 12), .inl (cy 1, 450, .inl (fun _ => 0)))]) [0, 1, 2, 3, 4, 5, 6, 7, 8, 9, 10, 11, 12, 13, 14, 15, 16, 17, 18, 19, 20, 21, 22, 23, 24, 25] [26, 27, 28, 29, 30, 31, 32, 33, 34] (n := 35) (fun _ => rfl) (by decide +kernel) (by decide +kernel) rfl (fun _ => rfl) (wr := [(qm, .inr (12, [.int 0, .ref (um 0), .ref (um 1), .ref (um 2), .ref (um 3), .ref (um 4), .int 0, .int 0, .int 0, .int 0, .int 0, .long 0, .int 0, .int 0, .int 0, .int (-1), .ref (um 5), .ref (um 6), .ref (um 7), .ref (um 8), .ref (um 9), .ref (um 10), .ref (um 11), .ref (um 12), .ref (um 13), .ref (um 14), .ref (um 15), .ref (um 16), .ref (um 17), .int 0, .int 0, .int 0, .int 0, .int 0, .int 0, .ref (um 18), .int 0, .ref (um 19)])), ((um 5), .inl (cy 1, 5, .inl (fun _ => 0))), ((um 6), .inl (cy 1, 30, .inl (fun _ => 0))), ((um 7), .inl (cy 1, 90, .inl (fun _ => 0))), ((um 8), .inl (cy 1, 15, .inl (fun _ => 0))), ((um 9), .inl (cy 1, 1050, .inl (fun _ => 0))), ((um 10), .inl (cy 1, 30, .inl (fun _ => 0))), ((um 11), .inl (cy 1, 240, .inl (fun _ => 0))), ((um 12), .inl (cy 1, 450, .inl (fun _ => 0)))]) rfl (fun _ => rfl) (fun _ => rfl) ?_
  clear hP hD hS
  clear H locs
  intro v14 u
  obtain ⟨n1, n2, n3, n4, n5, n6, n7, n8, n9, n10, n11, n12, n13⟩ := u
  intro H locs hw (hP : va_P G vwCl [(qx, .inr (11, [.ref (ux 0), .ref (ux 2), .ref (ux 14), .ref (ux 36), .ref (ux 70), .ref (ux 71), .ref (ux 80), .ref (ux 82), .ref (ux 84), .ref (ux 89), .ref (ux 92)])), ((ux 0), .inr (9, [.ref (ux 1), .int 0])), ((ux 2), .inr (7, [.ref (ux 0), .ref (ux 3), .int 0, .int (-1), .int 0, .int 0, .int 0, .int 0])), ((ux 3), .inr (0, [.int 0, .int 0, .int 0, .int 0, .int 0, .int 0, .int 0, .int 0, .ref (ux 4), .ref (ux 5), .ref (ux 6), .ref (ux 7), .ref (ux 8), .ref (ux 9), .ref (ux 10), .ref (ux 11), .ref (ux 12), .ref (ux 13)])), ((ux 4), .inl (cy 1, 9, .inl (fun _ => 0))), ((ux 5), .inl (cy 1, 9, .inl (fun _ => 0))), ((ux 6), .inl (cy 1, 3, .inl n1)), ((ux 7), .inl (cy 1, 210, .inl (fun _ => 0))), ((ux 8), .inl (cy 1, 6, .inl n2)), ((ux 9), .inl (cy 1, 48, .inl (fun _ => 0))), ((ux 10), .inl (cy 1, 30, .inl n3)), ((ux 11), .inl (cy 1, 30, .inl (fun _ => 0))), ((ux 12), .inl (cy 1, 30, .inl (fun _ => 0))), ((ux 13), .inl (cy 1, 30, .inl (fun _ => 0))), ((ux 14), .inr (10, [.ref (ux 15), .ref (ux 26)])), ((ux 15), .inr (0, [.int 0, .int 0, .int 0, .int 0, .int 0, .int 0, .int 0, .int 0, .ref (ux 16), .ref (ux 17), .ref (ux 18), .ref (ux 19), .ref (ux 20), .ref (ux 21), .ref (ux 22), .ref (ux 23), .ref (ux 24), .ref (ux 25)])), ((ux 16), .inl (cy 1, 9, .inl n4)), ((ux 17), .inl (cy 1, 9, .inl n5)), ((ux 18), .inl (cy 1, 3, .inl n6)), ((ux 19), .inl (cy 1, 210, .inl n7)), ((ux 20), .inl (cy 1, 6, .inl n8)), ((ux 21), .inl (cy 1, 48, .inl n9)), ((ux 22), .inl (cy 1, 30, .inl n10)), ((ux 23), .inl (cy 1, 30, .inl n11)), ((ux 24), .inl (cy 1, 30, .inl n12)), ((ux 25), .inl (cy 1, 30, .inl n13)), (qm, .inr (12, [.int 0, .ref (um 0), .ref (um 1), .ref (um 2), .ref (um 3), .ref (um 4), .int 0, .int 0, .int 0, .int 0, .int 0, .long 0, .int 0, .int 0, .int 0, .int (-1), .ref (um 5), .ref (um 6), .ref (um 7), .ref (um 8), .ref (um 9), .ref (um 10), .ref (um 11), .ref (um 12), .ref (um 13), .ref (um 14), .ref (um 15), .ref (um 16), .ref (um 17), .int 0, .int 0, .int 0, .int 0, .int 0, .int 0, .ref (um 18), .int 0, .ref (um 19)])), ((um 5), .inl (cy 1, 5, .inl (fun _ => 0))), ((um 6), .inl (cy 1, 30, .inl (fun _ => 0))), ((um 7), .inl (cy 1, 90, .inl (fun _ => 0))), ((um 8), .inl (cy 1, 15, .inl (fun _ => 0))), ((um 9), .inl (cy 1, 1050, .inl (fun _ => 0))), ((um 10), .inl (cy 1, 30, .inl (fun _ => 0))), ((um 11), .inl (cy 1, 240, .inl (fun _ => 0))), ((um 12), .inl (cy 1, 450, .inl (fun _ => 0)))] H) (hD : va_D A [(qx, .inr (11, [.ref (ux 0), .ref (ux 2), .ref (ux 14), .ref (ux 36), .ref (ux 70), .ref (ux 71), .ref (ux 80), .ref (ux 82), .ref (ux 84), .ref (ux 89), .ref (ux 92)])), ((ux 0), .inr (9, [.ref (ux 1), .int 0])), ((ux 2), .inr (7, [.ref (ux 0), .ref (ux 3), .int 0, .int (-1), .int 0, .int 0, .int 0, .int 0])), ((ux 3), .inr (0, [.int 0, .int 0, .int 0, .int 0, .int 0, .int 0, .int 0, .int 0, .ref (ux 4), .ref (ux 5), .ref (ux 6), .ref (ux 7), .ref (ux 8), .ref (ux 9), .ref (ux 10), .ref (ux 11), .ref (ux 12), .ref (ux 13)])), ((ux 4), .inl (cy 1, 9, .inl (fun _ => 0))), ((ux 5), .inl (cy 1, 9, .inl (fun _ => 0))), ((ux 6), .inl (cy 1, 3, .inl n1)), ((ux 7), .inl (cy 1, 210, .inl (fun _ => 0))), ((ux 8), .inl (cy 1, 6, .inl n2)), ((ux 9), .inl (cy 1, 48, .inl (fun _ => 0))), ((ux 10), .inl (cy 1, 30, .inl n3)), ((ux 11), .inl (cy 1, 30, .inl (fun _ => 0))), ((ux 12), .inl (cy 1, 30, .inl (fun _ => 0))), ((ux 13), .inl (cy 1, 30, .inl (fun _ => 0))), ((ux 14), .inr (10, [.ref (ux 15), .ref (ux 26)])), ((ux 15), .inr (0, [.int 0, .int 0, .int 0, .int 0, .int 0, .int 0, .int 0, .int 0, .ref (ux 16), .ref (ux 17), .ref (ux 18), .ref (ux 19), .ref (ux 20), .ref (ux 21), .ref (ux 22), .ref (ux 23), .ref (ux 24), .ref (ux 25)])), ((ux 16), .inl (cy 1, 9, .inl n4)), ((ux 17), .inl (cy 1, 9, .inl n5)), ((ux 18), .inl (cy 1, 3, .inl n6)), ((ux 19), .inl (cy 1, 210, .inl n7)), ((ux 20), .inl (cy 1, 6, .inl n8)), ((ux 21), .inl (cy 1, 48, .inl n9)), ((ux 22), .inl (cy 1, 30, .inl n10)), ((ux 23), .inl (cy 1, 30, .inl n11)), ((ux 24), .inl (cy 1, 30, .inl n12)), ((ux 25), .inl (cy 1, 30, .inl n13)), (qm, .inr (12, [.int 0, .ref (um 0), .ref (um 1), .ref (um 2), .ref (um 3), .ref (um 4), .int 0, .int 0, .int 0, .int 0, .int 0, .long 0, .int 0, .int 0, .int 0, .int (-1), .ref (um 5), .ref (um 6), .ref (um 7), .ref (um 8), .ref (um 9), .ref (um 10), .ref (um 11), .ref (um 12), .ref (um 13), .ref (um 14), .ref (um 15), .ref (um 16), .ref (um 17), .int 0, .int 0, .int 0, .int 0, .int 0, .int 0, .ref (um 18), .int 0, .ref (um 19)])), ((um 5), .inl (cy 1, 5, .inl (fun _ => 0))), ((um 6), .inl (cy 1, 30, .inl (fun _ => 0))), ((um 7), .inl (cy 1, 90, .inl (fun _ => 0))), ((um 8), .inl (cy 1, 15, .inl (fun _ => 0))), ((um 9), .inl (cy 1, 1050, .inl (fun _ => 0))), ((um 10), .inl (cy 1, 30, .inl (fun _ => 0))), ((um 11), .inl (cy 1, 240, .inl (fun _ => 0))), ((um 12), .inl (cy 1, 450, .inl (fun _ => 0)))]) hS
  obtain ⟨w15, w16, w17, w18, w19, w20, w21, w22, w23, w24, w25, w26, w27, hw⟩ := hw
  subst hw
  refine lv_aload_n hx hb dL_law_426 rfl (lv_at hl 1 rfl) ?_
  refine mm_fini (va_runV (As := []) (rest := [.int 0]) ⟨hx, hb, hml, hown, hts⟩ (K88_X12_book l G cy H.size qm (um 0) (um 1) (um 2) (um 3) (um 4) (um 5) (um 6) (um 7) (um 8) (um 9) (um 10) (um 11) (um 12) (um 13) (um 14) (um 15) (um 16) (um 17) 0 0 0 0 0 0 (um 18) 0 (um 19) ) (cwV 0 hts (mm_gV mm_w428 mm_w429 mm_w430 mm_w5 mm_w431) rfl rfl rfl hd_X12_book ⟨by rw [hRf]; exact Nat.le_of_ble_eq_true rfl, by rw [hRl]; exact Nat.le_of_ble_eq_true rfl⟩) (mm_preV hK hP hD [26, 27, 28, 29, 30, 31, 32, 33, 34] rfl rfl 26 rfl rfl rfl) rfl rfl hl.1 rfl (lv_room (Nat.le_of_ble_eq_true rfl)) dL_law_427 ⟨by rw [hRc]; exact Nat.le_of_ble_eq_true rfl, by rw [hRs]; exact Nat.le_of_ble_eq_true rfl⟩) hP hD hS hA (fun u : (Nat → Int32) × (Nat → Int32) × (Nat → Int32) × (Nat → Int32) × (Nat → Int32) × (Nat → Int32) × (Nat → Int32) × (Nat → Int32) => [(qx, .inr (11, [.ref (ux 0), .ref (ux 2), .ref (ux 14), .ref (ux 36), .ref (ux 70), .ref (ux 71), .ref (ux 80), .ref (ux 82), .ref (ux 84), .ref (ux 89), .ref (ux 92)])), ((ux 0), .inr (9, [.ref (ux 1), .int 0])), ((ux 2), .inr (7, [.ref (ux 0), .ref (ux 3), .int 0, .int (-1), .int 0, .int 0, .int 0, .int 0])), ((ux 3), .inr (0, [.int 0, .int 0, .int 0, .int 0, .int 0, .int 0, .int 0, .int 0, .ref (ux 4), .ref (ux 5), .ref (ux 6), .ref (ux 7), .ref (ux 8), .ref (ux 9), .ref (ux 10), .ref (ux 11), .ref (ux 12), .ref (ux 13)])), ((ux 4), .inl (cy 1, 9, .inl (fun _ => 0))), ((ux 5), .inl (cy 1, 9, .inl (fun _ => 0))), ((ux 6), .inl (cy 1, 3, .inl n1)), ((ux 7), .inl (cy 1, 210, .inl (fun _ => 0))), ((ux 8), .inl (cy 1, 6, .inl n2)), ((ux 9), .inl (cy 1, 48, .inl (fun _ => 0))), ((ux 10), .inl (cy 1, 30, .inl n3)), ((ux 11), .inl (cy 1, 30, .inl (fun _ => 0))), ((ux 12), .inl (cy 1, 30, .inl (fun _ => 0))), ((ux 13), .inl (cy 1, 30, .inl (fun _ => 0))), ((ux 14), .inr (10, [.ref (ux 15), .ref (ux 26)])), ((ux 15), .inr (0, [.int 0, .int 0, .int 0, .int 0, .int 0, .int 0, .int 0, .int 0, .ref (ux 16), .ref (ux 17), .ref (ux 18), .ref (ux 19), .ref (ux 20), .ref (ux 21), .ref (ux 22), .ref (ux 23), .ref (ux 24), .ref (ux 25)])), ((ux 16), .inl (cy 1, 9, .inl n4)), ((ux 17), .inl (cy 1, 9, .inl n5)), ((ux 18), .inl (cy 1, 3, .inl n6)), ((ux 19), .inl (cy 1, 210, .inl n7)), ((ux 20), .inl (cy 1, 6, .inl n8)), ((ux 21), .inl (cy 1, 48, .inl n9)), ((ux 22), .inl (cy 1, 30, .inl n10)), ((ux 23), .inl (cy 1, 30, .inl n11)), ((ux 24), .inl (cy 1, 30, .inl n12)), ((ux 25), .inl (cy 1, 30, .inl n13)), (qm, .inr (12, [.int 0, .ref (um 0), .ref (um 1), .ref (um 2), .ref (um 3), .ref (um 4), .int 0, .int 0, .int 0, .int 0, .int 0, .long 0, .int 0, .int (-1), .int 0, .int (-1), .ref (um 5), .ref (um 6), .ref (um 7), .ref (um 8), .ref (um 9), .ref (um 10), .ref (um 11), .ref (um 12), .ref (um 13), .ref (um 14), .ref (um 15), .ref (um 16), .ref (um 17), .int 0, .int 0, .int 0, .int 0, .int 0, .int 0, .ref (um 18), .int 0, .ref (um 19)])), ((um 5), .inl (cy 1, 5, .inl u.1)), ((um 6), .inl (cy 1, 30, .inl u.2.1)), ((um 7), .inl (cy 1, 90, .inl u.2.2.1)), ((um 8), .inl (cy 1, 15, .inl u.2.2.2.1)), ((um 9), .inl (cy 1, 1050, .inl u.2.2.2.2.1)), ((um 10), .inl (cy 1, 30, .inl u.2.2.2.2.2.1)), ((um 11), .inl (cy 1, 240, .inl u.2.2.2.2.2.2.1)), ((um 12), .inl (cy 1, 450, .inl u.2.2.2.2.2.2.2))]) [26, 27, 28, 29, 30, 31, 32, 33, 34] [0, 1, 2, 3, 4, 5, 6, 7, 8, 9, 10, 11, 12, 13, 14, 15, 16, 17, 18, 19, 20, 21, 22, 23, 24, 25] (n := 35) (fun _ => rfl) (by decide +kernel) (by decide +kernel) rfl (fun _ => rfl) (wr := [(qx, .inr (11, [.ref (ux 0), .ref (ux 2), .ref (ux 14), .ref (ux 36), .ref (ux 70), .ref (ux 71), .ref (ux 80), .ref (ux 82), .ref (ux 84), .ref (ux 89), .ref (ux 92)])), ((ux 0), .inr (9, [.ref (ux 1), .int 0])), ((ux 2), .inr (7, [.ref (ux 0), .ref (ux 3), .int 0, .int (-1), .int 0, .int 0, .int 0, .int 0])), ((ux 3), .inr (0, [.int 0, .int 0, .int 0, .int 0, .int 0, .int 0, .int 0, .int 0, .ref (ux 4), .ref (ux 5), .ref (ux 6), .ref (ux 7), .ref (ux 8), .ref (ux 9), .ref (ux 10), .ref (ux 11), .ref (ux 12), .ref (ux 13)])), ((ux 4), .inl (cy 1, 9, .inl (fun _ => 0))), ((ux 5), .inl (cy 1, 9, .inl (fun _ => 0))), ((ux 6), .inl (cy 1, 3, .inl n1)), ((ux 7), .inl (cy 1, 210, .inl (fun _ => 0))), ((ux 8), .inl (cy 1, 6, .inl n2)), ((ux 9), .inl (cy 1, 48, .inl (fun _ => 0))), ((ux 10), .inl (cy 1, 30, .inl n3)), ((ux 11), .inl (cy 1, 30, .inl (fun _ => 0))), ((ux 12), .inl (cy 1, 30, .inl (fun _ => 0))), ((ux 13), .inl (cy 1, 30, .inl (fun _ => 0))), ((ux 14), .inr (10, [.ref (ux 15), .ref (ux 26)])), ((ux 15), .inr (0, [.int 0, .int 0, .int 0, .int 0, .int 0, .int 0, .int 0, .int 0, .ref (ux 16), .ref (ux 17), .ref (ux 18), .ref (ux 19), .ref (ux 20), .ref (ux 21), .ref (ux 22), .ref (ux 23), .ref (ux 24), .ref (ux 25)])), ((ux 16), .inl (cy 1, 9, .inl n4)), ((ux 17), .inl (cy 1, 9, .inl n5)), ((ux 18), .inl (cy 1, 3, .inl n6)), ((ux 19), .inl (cy 1, 210, .inl n7)), ((ux 20), .inl (cy 1, 6, .inl n8)), ((ux 21), .inl (cy 1, 48, .inl n9)), ((ux 22), .inl (cy 1, 30, .inl n10)), ((ux 23), .inl (cy 1, 30, .inl n11)), ((ux 24), .inl (cy 1, 30, .inl n12)), ((ux 25), .inl (cy 1, 30, .inl n13))]) rfl (fun _ => rfl) (fun _ => rfl) ?_
  clear hP hD hS
  clear H locs
  intro v36 u
  obtain ⟨n28, n29, n30, n31, n32, n33, n34, n35⟩ := u
  intro H locs hw (hP : va_P G vwCl [(qx, .inr (11, [.ref (ux 0), .ref (ux 2), .ref (ux 14), .ref (ux 36), .ref (ux 70), .ref (ux 71), .ref (ux 80), .ref (ux 82), .ref (ux 84), .ref (ux 89), .ref (ux 92)])), ((ux 0), .inr (9, [.ref (ux 1), .int 0])), ((ux 2), .inr (7, [.ref (ux 0), .ref (ux 3), .int 0, .int (-1), .int 0, .int 0, .int 0, .int 0])), ((ux 3), .inr (0, [.int 0, .int 0, .int 0, .int 0, .int 0, .int 0, .int 0, .int 0, .ref (ux 4), .ref (ux 5), .ref (ux 6), .ref (ux 7), .ref (ux 8), .ref (ux 9), .ref (ux 10), .ref (ux 11), .ref (ux 12), .ref (ux 13)])), ((ux 4), .inl (cy 1, 9, .inl (fun _ => 0))), ((ux 5), .inl (cy 1, 9, .inl (fun _ => 0))), ((ux 6), .inl (cy 1, 3, .inl n1)), ((ux 7), .inl (cy 1, 210, .inl (fun _ => 0))), ((ux 8), .inl (cy 1, 6, .inl n2)), ((ux 9), .inl (cy 1, 48, .inl (fun _ => 0))), ((ux 10), .inl (cy 1, 30, .inl n3)), ((ux 11), .inl (cy 1, 30, .inl (fun _ => 0))), ((ux 12), .inl (cy 1, 30, .inl (fun _ => 0))), ((ux 13), .inl (cy 1, 30, .inl (fun _ => 0))), ((ux 14), .inr (10, [.ref (ux 15), .ref (ux 26)])), ((ux 15), .inr (0, [.int 0, .int 0, .int 0, .int 0, .int 0, .int 0, .int 0, .int 0, .ref (ux 16), .ref (ux 17), .ref (ux 18), .ref (ux 19), .ref (ux 20), .ref (ux 21), .ref (ux 22), .ref (ux 23), .ref (ux 24), .ref (ux 25)])), ((ux 16), .inl (cy 1, 9, .inl n4)), ((ux 17), .inl (cy 1, 9, .inl n5)), ((ux 18), .inl (cy 1, 3, .inl n6)), ((ux 19), .inl (cy 1, 210, .inl n7)), ((ux 20), .inl (cy 1, 6, .inl n8)), ((ux 21), .inl (cy 1, 48, .inl n9)), ((ux 22), .inl (cy 1, 30, .inl n10)), ((ux 23), .inl (cy 1, 30, .inl n11)), ((ux 24), .inl (cy 1, 30, .inl n12)), ((ux 25), .inl (cy 1, 30, .inl n13)), (qm, .inr (12, [.int 0, .ref (um 0), .ref (um 1), .ref (um 2), .ref (um 3), .ref (um 4), .int 0, .int 0, .int 0, .int 0, .int 0, .long 0, .int 0, .int (-1), .int 0, .int (-1), .ref (um 5), .ref (um 6), .ref (um 7), .ref (um 8), .ref (um 9), .ref (um 10), .ref (um 11), .ref (um 12), .ref (um 13), .ref (um 14), .ref (um 15), .ref (um 16), .ref (um 17), .int 0, .int 0, .int 0, .int 0, .int 0, .int 0, .ref (um 18), .int 0, .ref (um 19)])), ((um 5), .inl (cy 1, 5, .inl n28)), ((um 6), .inl (cy 1, 30, .inl n29)), ((um 7), .inl (cy 1, 90, .inl n30)), ((um 8), .inl (cy 1, 15, .inl n31)), ((um 9), .inl (cy 1, 1050, .inl n32)), ((um 10), .inl (cy 1, 30, .inl n33)), ((um 11), .inl (cy 1, 240, .inl n34)), ((um 12), .inl (cy 1, 450, .inl n35))] H) (hD : va_D A [(qx, .inr (11, [.ref (ux 0), .ref (ux 2), .ref (ux 14), .ref (ux 36), .ref (ux 70), .ref (ux 71), .ref (ux 80), .ref (ux 82), .ref (ux 84), .ref (ux 89), .ref (ux 92)])), ((ux 0), .inr (9, [.ref (ux 1), .int 0])), ((ux 2), .inr (7, [.ref (ux 0), .ref (ux 3), .int 0, .int (-1), .int 0, .int 0, .int 0, .int 0])), ((ux 3), .inr (0, [.int 0, .int 0, .int 0, .int 0, .int 0, .int 0, .int 0, .int 0, .ref (ux 4), .ref (ux 5), .ref (ux 6), .ref (ux 7), .ref (ux 8), .ref (ux 9), .ref (ux 10), .ref (ux 11), .ref (ux 12), .ref (ux 13)])), ((ux 4), .inl (cy 1, 9, .inl (fun _ => 0))), ((ux 5), .inl (cy 1, 9, .inl (fun _ => 0))), ((ux 6), .inl (cy 1, 3, .inl n1)), ((ux 7), .inl (cy 1, 210, .inl (fun _ => 0))), ((ux 8), .inl (cy 1, 6, .inl n2)), ((ux 9), .inl (cy 1, 48, .inl (fun _ => 0))), ((ux 10), .inl (cy 1, 30, .inl n3)), ((ux 11), .inl (cy 1, 30, .inl (fun _ => 0))), ((ux 12), .inl (cy 1, 30, .inl (fun _ => 0))), ((ux 13), .inl (cy 1, 30, .inl (fun _ => 0))), ((ux 14), .inr (10, [.ref (ux 15), .ref (ux 26)])), ((ux 15), .inr (0, [.int 0, .int 0, .int 0, .int 0, .int 0, .int 0, .int 0, .int 0, .ref (ux 16), .ref (ux 17), .ref (ux 18), .ref (ux 19), .ref (ux 20), .ref (ux 21), .ref (ux 22), .ref (ux 23), .ref (ux 24), .ref (ux 25)])), ((ux 16), .inl (cy 1, 9, .inl n4)), ((ux 17), .inl (cy 1, 9, .inl n5)), ((ux 18), .inl (cy 1, 3, .inl n6)), ((ux 19), .inl (cy 1, 210, .inl n7)), ((ux 20), .inl (cy 1, 6, .inl n8)), ((ux 21), .inl (cy 1, 48, .inl n9)), ((ux 22), .inl (cy 1, 30, .inl n10)), ((ux 23), .inl (cy 1, 30, .inl n11)), ((ux 24), .inl (cy 1, 30, .inl n12)), ((ux 25), .inl (cy 1, 30, .inl n13)), (qm, .inr (12, [.int 0, .ref (um 0), .ref (um 1), .ref (um 2), .ref (um 3), .ref (um 4), .int 0, .int 0, .int 0, .int 0, .int 0, .long 0, .int 0, .int (-1), .int 0, .int (-1), .ref (um 5), .ref (um 6), .ref (um 7), .ref (um 8), .ref (um 9), .ref (um 10), .ref (um 11), .ref (um 12), .ref (um 13), .ref (um 14), .ref (um 15), .ref (um 16), .ref (um 17), .int 0, .int 0, .int 0, .int 0, .int 0, .int 0, .ref (um 18), .int 0, .ref (um 19)])), ((um 5), .inl (cy 1, 5, .inl n28)), ((um 6), .inl (cy 1, 30, .inl n29)), ((um 7), .inl (cy 1, 90, .inl n30)), ((um 8), .inl (cy 1, 15, .inl n31)), ((um 9), .inl (cy 1, 1050, .inl n32)), ((um 10), .inl (cy 1, 30, .inl n33)), ((um 11), .inl (cy 1, 240, .inl n34)), ((um 12), .inl (cy 1, 450, .inl n35))]) hS
  obtain ⟨w37, w38, w39, w40, w41, w42, w43, w44, hw⟩ := hw
  subst hw
  refine lv_icmp_eq (tgt := 3153) hx hb dL_law_430 (by decide) (fun c45 => ?_) (fun c45 => ?_)
  · refine lv_iinc (v := 6) (lv' := [(3, .int 6), (2, .ref qm), (1, .ref qx), (0, .ref b)]) hx hb dL_law_3153 hl (k := 0) rfl (by decide) (by decide) rfl ?_
    clear hl
    clear ls
    intro ls hl
    refine lv_goto (tgt := 18) hx hb dL_law_3156 (by decide) ?_
    refine lv_iload_n hx hb dL_law_18 rfl (lv_at hl 0 rfl) ?_
    refine lv_aload_n hx hb dL_law_19 rfl (lv_at hl 3 rfl) ?_
    refine va_slen hx hb hX hbl hbA hS dL_law_20 ?_
    refine lv_topi (fun v46 ev46 => ?_)
    obtain rfl : v46 = 6 := ev46.trans (by decide)
    refine lv_bipush (v := 6) hx hb dL_law_21 (by decide) ?_
    refine lv_isub hx hb dL_law_23 ?_
    refine lv_topi (fun v47 ev47 => ?_)
    obtain rfl : v47 = 0 := ev47.trans (by decide)
    refine lv_icmp_gt (tgt := 3159) hx hb dL_law_24 (by decide) (fun c48 => ?_) (fun c48 => ?_)
    · refine lv_iconst (v := 1) hx hb dL_law_3159 (by decide) ?_
      refine va_forget (fun q hq => by have := hS.2.2 q hq; rw [hAe] at this; exact this) ?_
      refine W.widen (k := 600000) (n := 7302250) (Nat.le_of_ble_eq_true rfl) (Nat.le_of_ble_eq_true rfl) ?_
      exact lw_ret hx hb hr hlocks dL_law_3160
    · have q49 := mm_leL (mm_nlt c48) mm_k6 mm_k0
      exact mm_no q49 (by decide)
  · have q50 := mm_neL (lo := 1) (mm_ne c45) mm_k0 mm_k0 (by decide) (by decide)
    exact mm_no q50 (by decide)

set_option maxHeartbeats 4000000 in
set_option maxRecDepth 100000 in
theorem lc_3 {p : Program} {e : Env} {s : State} {m : MethodId} {below : List Frame} {meth : Method} {c : Code} {b : Nat} {xs : Nat → Int32} {G : va_G} {cy : Nat → ClassId} {qx qm : Nat} {ux um : Nat → Nat} {H : Heap} {locs : List Loc} {ls : Array Slot} {A : Nat → Prop} (l : Launch) (hx : p.tables.exec = Jvm.exec) (hb : c.code = code) (hr : meth.sig.returnType = ret) (hlocks : meth.locks = false) (hml : c.maxLocals = 4) (hown : s.vm.findClass R_law = some m.cls) (hts : ∀ w ∈ lw_x :: wsL_law, w.before #[Value.ref b] s = true) (hX : va_X b 6 xs s s.heap) (hbl : b < s.heap.size) (hAe : A = fun q => s.heap.size ≤ q) (hK : mm_K G cy s) (hS : va_S A s.heap H locs) (hP : va_P G vwCl [(qx, .inr (11, [.ref (ux 0), .ref (ux 2), .ref (ux 14), .ref (ux 36), .ref (ux 70), .ref (ux 71), .ref (ux 80), .ref (ux 82), .ref (ux 84), .ref (ux 89), .ref (ux 92)])), ((ux 2), .inr (7, [.ref (ux 0), .ref (ux 3), .int 0, .int (-1), .int 0, .int 0, .int 0, .int 0])), (qm, .inr (12, [.int 0, .ref (um 0), .ref (um 1), .ref (um 2), .ref (um 3), .ref (um 4), .int 0, .int 0, .int 0, .int 0, .int 0, .long 0, .int 0, .int 0, .int 0, .int (-1), .ref (um 5), .ref (um 6), .ref (um 7), .ref (um 8), .ref (um 9), .ref (um 10), .ref (um 11), .ref (um 12), .ref (um 13), .ref (um 14), .ref (um 15), .ref (um 16), .ref (um 17), .int 0, .int 0, .int 0, .int 0, .int 0, .int 0, .ref (um 18), .int 0, .ref (um 19)]))] H) (hD : va_D A [(qx, .inr (11, [.ref (ux 0), .ref (ux 2), .ref (ux 14), .ref (ux 36), .ref (ux 70), .ref (ux 71), .ref (ux 80), .ref (ux 82), .ref (ux 84), .ref (ux 89), .ref (ux 92)])), ((ux 2), .inr (7, [.ref (ux 0), .ref (ux 3), .int 0, .int (-1), .int 0, .int 0, .int 0, .int 0])), (qm, .inr (12, [.int 0, .ref (um 0), .ref (um 1), .ref (um 2), .ref (um 3), .ref (um 4), .int 0, .int 0, .int 0, .int 0, .int 0, .long 0, .int 0, .int 0, .int 0, .int (-1), .ref (um 5), .ref (um 6), .ref (um 7), .ref (um 8), .ref (um 9), .ref (um 10), .ref (um 11), .ref (um 12), .ref (um 13), .ref (um 14), .ref (um 15), .ref (um 16), .ref (um 17), .int 0, .int 0, .int 0, .int 0, .int 0, .int 0, .ref (um 18), .int 0, .ref (um 19)]))]) (hl : lv_has ls 4 [(3, .int 0), (2, .ref qm), (1, .ref qx), (0, .ref b)]) : W p l e room_1 s m #[Value.ref b] below meth c H locs 116 20302 (lw_Z below #[Value.ref b] s) (F0 m 435 ls []) := by
  have hA : ∀ q, s.heap.size ≤ q → A q := by rw [hAe]; exact fun _ h => h
  have hbA : ¬ A b := by rw [hAe]; exact Nat.not_le.mpr hbl
  have hRf : room_1.frames = 2048 := rfl
  have hRl : room_1.locals = 84000 := rfl
  have hRc : room_1.cells = 600000 := rfl
  have hRs : room_1.slots = 7302250 := rfl
  obtain ⟨p1, ep1⟩ : ∃ z : Int32, z = xs 1 := ⟨_, rfl⟩
  obtain ⟨p2, ep2⟩ : ∃ z : Int32, z = xs 2 := ⟨_, rfl⟩
  obtain ⟨p3, ep3⟩ : ∃ z : Int32, z = xs 3 := ⟨_, rfl⟩
  obtain ⟨p4, ep4⟩ : ∃ z : Int32, z = xs 4 := ⟨_, rfl⟩
  obtain ⟨p5, ep5⟩ : ∃ z : Int32, z = xs 5 := ⟨_, rfl⟩
  refine lv_aload_n hx hb dL_law_435 rfl (lv_at hl 2 rfl) ?_
  refine lv_aload_n hx hb dL_law_436 rfl (lv_at hl 3 rfl) ?_
  refine lv_iload_n hx hb dL_law_437 rfl (lv_at hl 0 rfl) ?_
  refine lv_iconst (v := 1) hx hb dL_law_438 (by decide) ?_
  refine lv_iadd hx hb dL_law_439 ?_
  refine lv_topi (fun v1 ev1 => ?_)
  obtain rfl : v1 = 1 := ev1.trans (by decide)
  refine va_sld hx hb hX hbl hbA hS (mm_in mm_k1 (by decide)) dL_law_440 ?_
  refine lv_topi (fun v2 ev2 => ?_)
  obtain rfl : p1 = v2 := ep1.trans ev2.symm
  refine mm_finir (va_runV (As := [.int p1]) (rest := []) ⟨hx, hb, hml, hown, hts⟩ (K103_X11_fault l G cy H.size qx p1 (ux 0) (ux 2) (ux 14) (ux 36) (ux 70) (ux 71) (ux 80) (ux 82) (ux 84) (ux 89) (ux 92) (ux 3) 0 0 0 0 ) (cwV 1 hts (mm_gV mm_w560 mm_w561 mm_w562 mm_w2 mm_w563) rfl rfl rfl hd_X11_fault ⟨by rw [hRf]; exact Nat.le_of_ble_eq_true rfl, by rw [hRl]; exact Nat.le_of_ble_eq_true rfl⟩) (mm_preV hK hP hD [0, 1] rfl rfl 0 rfl rfl rfl) rfl rfl hl.1 rfl (lv_room (Nat.le_of_ble_eq_true rfl)) dL_law_441 ⟨by rw [hRc]; exact Nat.le_of_ble_eq_true rfl, by rw [hRs]; exact Nat.le_of_ble_eq_true rfl⟩) hP hD hS hA [0, 1] rfl (fun _ => rfl) ?_
  clear hP hD hS
  clear H locs
  intro v3 _u H locs hw hP hD hS
  rcases hw with ⟨rfl, w4, w5⟩ | ⟨rfl, w6⟩ | ⟨rfl, w7⟩
  · refine lv_aload_n hx hb dL_law_444 rfl (lv_at hl 1 rfl) ?_
    refine lv_aload_n hx hb dL_law_445 rfl (lv_at hl 3 rfl) ?_
    refine lv_iload_n hx hb dL_law_446 rfl (lv_at hl 0 rfl) ?_
    refine lv_iconst (v := 1) hx hb dL_law_447 (by decide) ?_
    refine lv_iadd hx hb dL_law_448 ?_
    refine lv_topi (fun v8 ev8 => ?_)
    obtain rfl : v8 = 1 := ev8.trans (by decide)
    refine va_sld hx hb hX hbl hbA hS (mm_in mm_k1 (by decide)) dL_law_449 ?_
    refine lv_topi (fun v9 ev9 => ?_)
    obtain rfl : p1 = v9 := ep1.trans ev9.symm
    refine mm_finir (va_runV (As := [.int p1]) (rest := [.int (-1)]) ⟨hx, hb, hml, hown, hts⟩ (K104_X12_fault l G cy H.size qm p1 (um 0) (um 1) (um 2) (um 3) (um 4) 0 0 0 0 0 0 0 0 (um 5) (um 6) (um 7) (um 8) (um 9) (um 10) (um 11) (um 12) (um 13) (um 14) (um 15) (um 16) (um 17) 0 0 0 0 0 0 (um 18) 0 (um 19) ) (cwV 1 hts (mm_gV mm_w566 mm_w567 mm_w568 mm_w5 mm_w569) rfl rfl rfl hd_X12_fault ⟨by rw [hRf]; exact Nat.le_of_ble_eq_true rfl, by rw [hRl]; exact Nat.le_of_ble_eq_true rfl⟩) (mm_preV hK hP hD [2] rfl rfl 2 rfl rfl rfl) rfl rfl hl.1 rfl (lv_room (Nat.le_of_ble_eq_true rfl)) dL_law_450 ⟨by rw [hRc]; exact Nat.le_of_ble_eq_true rfl, by rw [hRs]; exact Nat.le_of_ble_eq_true rfl⟩) hP hD hS hA [2] rfl (fun _ => rfl) ?_
    clear hP hD hS
    clear H locs
    intro v10 _u H locs hw hP hD hS
    rcases hw with ⟨rfl, w11, w12⟩ | ⟨rfl, w13⟩ | ⟨rfl, w14⟩
    · refine lv_icmp_eq (tgt := 3153) hx hb dL_law_453 (by decide) (fun c15 => ?_) (fun c15 => ?_)
      · refine lv_iinc (v := 6) (lv' := [(3, .int 6), (2, .ref qm), (1, .ref qx), (0, .ref b)]) hx hb dL_law_3153 hl (k := 0) rfl (by decide) (by decide) rfl ?_
        clear hl
        clear ls
        intro ls hl
        refine lv_goto (tgt := 18) hx hb dL_law_3156 (by decide) ?_
        refine lv_iload_n hx hb dL_law_18 rfl (lv_at hl 0 rfl) ?_
        refine lv_aload_n hx hb dL_law_19 rfl (lv_at hl 3 rfl) ?_
        refine va_slen hx hb hX hbl hbA hS dL_law_20 ?_
        refine lv_topi (fun v16 ev16 => ?_)
        obtain rfl : v16 = 6 := ev16.trans (by decide)
        refine lv_bipush (v := 6) hx hb dL_law_21 (by decide) ?_
        refine lv_isub hx hb dL_law_23 ?_
        refine lv_topi (fun v17 ev17 => ?_)
        obtain rfl : v17 = 0 := ev17.trans (by decide)
        refine lv_icmp_gt (tgt := 3159) hx hb dL_law_24 (by decide) (fun c18 => ?_) (fun c18 => ?_)
        · refine lv_iconst (v := 1) hx hb dL_law_3159 (by decide) ?_
          refine va_forget (fun q hq => by have := hS.2.2 q hq; rw [hAe] at this; exact this) ?_
          refine W.widen (k := 600000) (n := 7302250) (Nat.le_of_ble_eq_true rfl) (Nat.le_of_ble_eq_true rfl) ?_
          exact lw_ret hx hb hr hlocks dL_law_3160
        · have q19 := mm_leL (mm_nlt c18) mm_k6 mm_k0
          exact mm_no q19 (by decide)
      · have q20 := mm_neL (lo := 0) (mm_ne c15) mm_km1 mm_km1 (by decide) (by decide)
        exact mm_no q20 (by decide)
    · have q21 := mm_neL (lo := 2) w5 w13 mm_k1 (by decide) (by decide)
      exact mm_no q21 (by decide)
    · have q22 := mm_neL (lo := 1) w4 w14 mm_k0 (by decide) (by decide)
      exact mm_no q22 (by decide)
  · refine lv_aload_n hx hb dL_law_444 rfl (lv_at hl 1 rfl) ?_
    refine lv_aload_n hx hb dL_law_445 rfl (lv_at hl 3 rfl) ?_
    refine lv_iload_n hx hb dL_law_446 rfl (lv_at hl 0 rfl) ?_
    refine lv_iconst (v := 1) hx hb dL_law_447 (by decide) ?_
    refine lv_iadd hx hb dL_law_448 ?_
    refine lv_topi (fun v23 ev23 => ?_)
    obtain rfl : v23 = 1 := ev23.trans (by decide)
    refine va_sld hx hb hX hbl hbA hS (mm_in mm_k1 (by decide)) dL_law_449 ?_
    refine lv_topi (fun v24 ev24 => ?_)
    obtain rfl : p1 = v24 := ep1.trans ev24.symm
    refine mm_finir (va_runV (As := [.int p1]) (rest := [.int (-1)]) ⟨hx, hb, hml, hown, hts⟩ (K104_X12_fault l G cy H.size qm p1 (um 0) (um 1) (um 2) (um 3) (um 4) 0 0 0 0 0 0 0 0 (um 5) (um 6) (um 7) (um 8) (um 9) (um 10) (um 11) (um 12) (um 13) (um 14) (um 15) (um 16) (um 17) 0 0 0 0 0 0 (um 18) 0 (um 19) ) (cwV 1 hts (mm_gV mm_w566 mm_w567 mm_w568 mm_w5 mm_w569) rfl rfl rfl hd_X12_fault ⟨by rw [hRf]; exact Nat.le_of_ble_eq_true rfl, by rw [hRl]; exact Nat.le_of_ble_eq_true rfl⟩) (mm_preV hK hP hD [2] rfl rfl 2 rfl rfl rfl) rfl rfl hl.1 rfl (lv_room (Nat.le_of_ble_eq_true rfl)) dL_law_450 ⟨by rw [hRc]; exact Nat.le_of_ble_eq_true rfl, by rw [hRs]; exact Nat.le_of_ble_eq_true rfl⟩) hP hD hS hA [2] rfl (fun _ => rfl) ?_
    clear hP hD hS
    clear H locs
    intro v25 _u H locs hw hP hD hS
    rcases hw with ⟨rfl, w26, w27⟩ | ⟨rfl, w28⟩ | ⟨rfl, w29⟩
    · have q30 := mm_neL (lo := 2) w27 w6 mm_k1 (by decide) (by decide)
      exact mm_no q30 (by decide)
    · refine lv_icmp_eq (tgt := 3153) hx hb dL_law_453 (by decide) (fun c31 => ?_) (fun c31 => ?_)
      · refine lv_iinc (v := 6) (lv' := [(3, .int 6), (2, .ref qm), (1, .ref qx), (0, .ref b)]) hx hb dL_law_3153 hl (k := 0) rfl (by decide) (by decide) rfl ?_
        clear hl
        clear ls
        intro ls hl
        refine lv_goto (tgt := 18) hx hb dL_law_3156 (by decide) ?_
        refine lv_iload_n hx hb dL_law_18 rfl (lv_at hl 0 rfl) ?_
        refine lv_aload_n hx hb dL_law_19 rfl (lv_at hl 3 rfl) ?_
        refine va_slen hx hb hX hbl hbA hS dL_law_20 ?_
        refine lv_topi (fun v32 ev32 => ?_)
        obtain rfl : v32 = 6 := ev32.trans (by decide)
        refine lv_bipush (v := 6) hx hb dL_law_21 (by decide) ?_
        refine lv_isub hx hb dL_law_23 ?_
        refine lv_topi (fun v33 ev33 => ?_)
        obtain rfl : v33 = 0 := ev33.trans (by decide)
        refine lv_icmp_gt (tgt := 3159) hx hb dL_law_24 (by decide) (fun c34 => ?_) (fun c34 => ?_)
        · refine lv_iconst (v := 1) hx hb dL_law_3159 (by decide) ?_
          refine va_forget (fun q hq => by have := hS.2.2 q hq; rw [hAe] at this; exact this) ?_
          refine W.widen (k := 600000) (n := 7302250) (Nat.le_of_ble_eq_true rfl) (Nat.le_of_ble_eq_true rfl) ?_
          exact lw_ret hx hb hr hlocks dL_law_3160
        · have q35 := mm_leL (mm_nlt c34) mm_k6 mm_k0
          exact mm_no q35 (by decide)
      · have q36 := mm_neL (lo := 0) (mm_ne c31) mm_km1 mm_km1 (by decide) (by decide)
        exact mm_no q36 (by decide)
    · exact mm_noX w29 w6 (by decide)
  · refine lv_aload_n hx hb dL_law_444 rfl (lv_at hl 1 rfl) ?_
    refine lv_aload_n hx hb dL_law_445 rfl (lv_at hl 3 rfl) ?_
    refine lv_iload_n hx hb dL_law_446 rfl (lv_at hl 0 rfl) ?_
    refine lv_iconst (v := 1) hx hb dL_law_447 (by decide) ?_
    refine lv_iadd hx hb dL_law_448 ?_
    refine lv_topi (fun v37 ev37 => ?_)
    obtain rfl : v37 = 1 := ev37.trans (by decide)
    refine va_sld hx hb hX hbl hbA hS (mm_in mm_k1 (by decide)) dL_law_449 ?_
    refine lv_topi (fun v38 ev38 => ?_)
    obtain rfl : p1 = v38 := ep1.trans ev38.symm
    refine mm_finir (va_runV (As := [.int p1]) (rest := [.int 0]) ⟨hx, hb, hml, hown, hts⟩ (K104_X12_fault l G cy H.size qm p1 (um 0) (um 1) (um 2) (um 3) (um 4) 0 0 0 0 0 0 0 0 (um 5) (um 6) (um 7) (um 8) (um 9) (um 10) (um 11) (um 12) (um 13) (um 14) (um 15) (um 16) (um 17) 0 0 0 0 0 0 (um 18) 0 (um 19) ) (cwV 1 hts (mm_gV mm_w566 mm_w567 mm_w568 mm_w5 mm_w569) rfl rfl rfl hd_X12_fault ⟨by rw [hRf]; exact Nat.le_of_ble_eq_true rfl, by rw [hRl]; exact Nat.le_of_ble_eq_true rfl⟩) (mm_preV hK hP hD [2] rfl rfl 2 rfl rfl rfl) rfl rfl hl.1 rfl (lv_room (Nat.le_of_ble_eq_true rfl)) dL_law_450 ⟨by rw [hRc]; exact Nat.le_of_ble_eq_true rfl, by rw [hRs]; exact Nat.le_of_ble_eq_true rfl⟩) hP hD hS hA [2] rfl (fun _ => rfl) ?_
    clear hP hD hS
    clear H locs
    intro v39 _u H locs hw hP hD hS
    rcases hw with ⟨rfl, w40, w41⟩ | ⟨rfl, w42⟩ | ⟨rfl, w43⟩
    · have q44 := mm_neL (lo := 1) w40 w7 mm_k0 (by decide) (by decide)
      exact mm_no q44 (by decide)
    · exact mm_noX w42 w7 (by decide)
    · refine lv_icmp_eq (tgt := 3153) hx hb dL_law_453 (by decide) (fun c45 => ?_) (fun c45 => ?_)
      · refine lv_iinc (v := 6) (lv' := [(3, .int 6), (2, .ref qm), (1, .ref qx), (0, .ref b)]) hx hb dL_law_3153 hl (k := 0) rfl (by decide) (by decide) rfl ?_
        clear hl
        clear ls
        intro ls hl
        refine lv_goto (tgt := 18) hx hb dL_law_3156 (by decide) ?_
        refine lv_iload_n hx hb dL_law_18 rfl (lv_at hl 0 rfl) ?_
        refine lv_aload_n hx hb dL_law_19 rfl (lv_at hl 3 rfl) ?_
        refine va_slen hx hb hX hbl hbA hS dL_law_20 ?_
        refine lv_topi (fun v46 ev46 => ?_)
        obtain rfl : v46 = 6 := ev46.trans (by decide)
        refine lv_bipush (v := 6) hx hb dL_law_21 (by decide) ?_
        refine lv_isub hx hb dL_law_23 ?_
        refine lv_topi (fun v47 ev47 => ?_)
        obtain rfl : v47 = 0 := ev47.trans (by decide)
        refine lv_icmp_gt (tgt := 3159) hx hb dL_law_24 (by decide) (fun c48 => ?_) (fun c48 => ?_)
        · refine lv_iconst (v := 1) hx hb dL_law_3159 (by decide) ?_
          refine va_forget (fun q hq => by have := hS.2.2 q hq; rw [hAe] at this; exact this) ?_
          refine W.widen (k := 600000) (n := 7302250) (Nat.le_of_ble_eq_true rfl) (Nat.le_of_ble_eq_true rfl) ?_
          exact lw_ret hx hb hr hlocks dL_law_3160
        · have q49 := mm_leL (mm_nlt c48) mm_k6 mm_k0
          exact mm_no q49 (by decide)
      · have q50 := mm_neL (lo := 1) (mm_ne c45) mm_k0 mm_k0 (by decide) (by decide)
        exact mm_no q50 (by decide)

set_option maxHeartbeats 4000000 in
set_option maxRecDepth 100000 in
theorem lc_4 {p : Program} {e : Env} {s : State} {m : MethodId} {below : List Frame} {meth : Method} {c : Code} {b : Nat} {xs : Nat → Int32} {G : va_G} {cy : Nat → ClassId} {qx qm : Nat} {ux um : Nat → Nat} {H : Heap} {locs : List Loc} {ls : Array Slot} {A : Nat → Prop} (l : Launch) (hx : p.tables.exec = Jvm.exec) (hb : c.code = code) (hr : meth.sig.returnType = ret) (hlocks : meth.locks = false) (hml : c.maxLocals = 4) (hown : s.vm.findClass R_law = some m.cls) (hts : ∀ w ∈ lw_x :: wsL_law, w.before #[Value.ref b] s = true) (hX : va_X b 6 xs s s.heap) (hbl : b < s.heap.size) (hAe : A = fun q => s.heap.size ≤ q) (hK : mm_K G cy s) (hS : va_S A s.heap H locs) (hP : va_P G vwCl [(qx, .inr (11, [.ref (ux 0), .ref (ux 2), .ref (ux 14), .ref (ux 36), .ref (ux 70), .ref (ux 71), .ref (ux 80), .ref (ux 82), .ref (ux 84), .ref (ux 89), .ref (ux 92)])), ((ux 14), .inr (10, [.ref (ux 15), .ref (ux 26)])), ((ux 15), .inr (0, [.int 0, .int 0, .int 0, .int 0, .int 0, .int 0, .int 0, .int 0, .ref (ux 16), .ref (ux 17), .ref (ux 18), .ref (ux 19), .ref (ux 20), .ref (ux 21), .ref (ux 22), .ref (ux 23), .ref (ux 24), .ref (ux 25)])), (qm, .inr (12, [.int 0, .ref (um 0), .ref (um 1), .ref (um 2), .ref (um 3), .ref (um 4), .int 0, .int 0, .int 0, .int 0, .int 0, .long 0, .int 0, .int 0, .int 0, .int (-1), .ref (um 5), .ref (um 6), .ref (um 7), .ref (um 8), .ref (um 9), .ref (um 10), .ref (um 11), .ref (um 12), .ref (um 13), .ref (um 14), .ref (um 15), .ref (um 16), .ref (um 17), .int 0, .int 0, .int 0, .int 0, .int 0, .int 0, .ref (um 18), .int 0, .ref (um 19)])), ((um 6), .inl (cy 1, 30, .inl (fun _ => 0)))] H) (hD : va_D A [(qx, .inr (11, [.ref (ux 0), .ref (ux 2), .ref (ux 14), .ref (ux 36), .ref (ux 70), .ref (ux 71), .ref (ux 80), .ref (ux 82), .ref (ux 84), .ref (ux 89), .ref (ux 92)])), ((ux 14), .inr (10, [.ref (ux 15), .ref (ux 26)])), ((ux 15), .inr (0, [.int 0, .int 0, .int 0, .int 0, .int 0, .int 0, .int 0, .int 0, .ref (ux 16), .ref (ux 17), .ref (ux 18), .ref (ux 19), .ref (ux 20), .ref (ux 21), .ref (ux 22), .ref (ux 23), .ref (ux 24), .ref (ux 25)])), (qm, .inr (12, [.int 0, .ref (um 0), .ref (um 1), .ref (um 2), .ref (um 3), .ref (um 4), .int 0, .int 0, .int 0, .int 0, .int 0, .long 0, .int 0, .int 0, .int 0, .int (-1), .ref (um 5), .ref (um 6), .ref (um 7), .ref (um 8), .ref (um 9), .ref (um 10), .ref (um 11), .ref (um 12), .ref (um 13), .ref (um 14), .ref (um 15), .ref (um 16), .ref (um 17), .int 0, .int 0, .int 0, .int 0, .int 0, .int 0, .ref (um 18), .int 0, .ref (um 19)])), ((um 6), .inl (cy 1, 30, .inl (fun _ => 0)))]) (hl : lv_has ls 4 [(3, .int 0), (2, .ref qm), (1, .ref qx), (0, .ref b)]) : W p l e room_1 s m #[Value.ref b] below meth c H locs 116 20302 (lw_Z below #[Value.ref b] s) (F0 m 458 ls []) := by
  have hA : ∀ q, s.heap.size ≤ q → A q := by rw [hAe]; exact fun _ h => h
  have hbA : ¬ A b := by rw [hAe]; exact Nat.not_le.mpr hbl
  have hRf : room_1.frames = 2048 := rfl
  have hRl : room_1.locals = 84000 := rfl
  have hRc : room_1.cells = 600000 := rfl
  have hRs : room_1.slots = 7302250 := rfl
  obtain ⟨p1, ep1⟩ : ∃ z : Int32, z = xs 1 := ⟨_, rfl⟩
  obtain ⟨p2, ep2⟩ : ∃ z : Int32, z = xs 2 := ⟨_, rfl⟩
  obtain ⟨p3, ep3⟩ : ∃ z : Int32, z = xs 3 := ⟨_, rfl⟩
  obtain ⟨p4, ep4⟩ : ∃ z : Int32, z = xs 4 := ⟨_, rfl⟩
  obtain ⟨p5, ep5⟩ : ∃ z : Int32, z = xs 5 := ⟨_, rfl⟩
  refine lv_aload_n hx hb dL_law_458 rfl (lv_at hl 2 rfl) ?_
  refine lv_aload_n hx hb dL_law_459 rfl (lv_at hl 3 rfl) ?_
  refine lv_iload_n hx hb dL_law_460 rfl (lv_at hl 0 rfl) ?_
  refine lv_iconst (v := 1) hx hb dL_law_461 (by decide) ?_
  refine lv_iadd hx hb dL_law_462 ?_
  refine lv_topi (fun v1 ev1 => ?_)
  obtain rfl : v1 = 1 := ev1.trans (by decide)
  refine va_sld hx hb hX hbl hbA hS (mm_in mm_k1 (by decide)) dL_law_463 ?_
  refine lv_topi (fun v2 ev2 => ?_)
  obtain rfl : p1 = v2 := ep1.trans ev2.symm
  refine lv_aload_n hx hb dL_law_464 rfl (lv_at hl 3 rfl) ?_
  refine lv_iload_n hx hb dL_law_465 rfl (lv_at hl 0 rfl) ?_
  refine lv_iconst (v := 2) hx hb dL_law_466 (by decide) ?_
  refine lv_iadd hx hb dL_law_467 ?_
  refine lv_topi (fun v3 ev3 => ?_)
  obtain rfl : v3 = 2 := ev3.trans (by decide)
  refine va_sld hx hb hX hbl hbA hS (mm_in mm_k2 (by decide)) dL_law_468 ?_
  refine lv_topi (fun v4 ev4 => ?_)
  obtain rfl : p2 = v4 := ep2.trans ev4.symm
  refine mm_finir (va_runV (As := [.int p1, .int p2]) (rest := []) ⟨hx, hb, hml, hown, hts⟩ (K106_X11_sense l G cy H.size qx p1 p2 (ux 0) (ux 2) (ux 14) (ux 36) (ux 70) (ux 71) (ux 80) (ux 82) (ux 84) (ux 89) (ux 92) (ux 15) (ux 26) 0 0 0 0 0 0 0 (ux 16) (ux 17) (ux 18) (ux 19) (ux 20) (ux 21) (ux 22) (ux 23) (ux 24) (ux 25) ) (cwV 2 hts (mm_gV mm_w570 mm_w571 mm_w572 mm_w2 mm_w573) rfl rfl rfl hd_X11_sense ⟨by rw [hRf]; exact Nat.le_of_ble_eq_true rfl, by rw [hRl]; exact Nat.le_of_ble_eq_true rfl⟩) (mm_preV hK hP hD [0, 1, 2] rfl rfl 0 rfl rfl rfl) rfl rfl hl.1 rfl (lv_room (Nat.le_of_ble_eq_true rfl)) dL_law_469 ⟨by rw [hRc]; exact Nat.le_of_ble_eq_true rfl, by rw [hRs]; exact Nat.le_of_ble_eq_true rfl⟩) hP hD hS hA [0, 1, 2] rfl (fun _ => rfl) ?_
  clear hP hD hS
  clear H locs
  intro v5 _u H locs hw hP hD hS
  subst hw
  refine lv_aload_n hx hb dL_law_472 rfl (lv_at hl 1 rfl) ?_
  refine lv_aload_n hx hb dL_law_473 rfl (lv_at hl 3 rfl) ?_
  refine lv_iload_n hx hb dL_law_474 rfl (lv_at hl 0 rfl) ?_
  refine lv_iconst (v := 1) hx hb dL_law_475 (by decide) ?_
  refine lv_iadd hx hb dL_law_476 ?_
  refine lv_topi (fun v6 ev6 => ?_)
  obtain rfl : v6 = 1 := ev6.trans (by decide)
  refine va_sld hx hb hX hbl hbA hS (mm_in mm_k1 (by decide)) dL_law_477 ?_
  refine lv_topi (fun v7 ev7 => ?_)
  obtain rfl : p1 = v7 := ep1.trans ev7.symm
  refine lv_aload_n hx hb dL_law_478 rfl (lv_at hl 3 rfl) ?_
  refine lv_iload_n hx hb dL_law_479 rfl (lv_at hl 0 rfl) ?_
  refine lv_iconst (v := 2) hx hb dL_law_480 (by decide) ?_
  refine lv_iadd hx hb dL_law_481 ?_
  refine lv_topi (fun v8 ev8 => ?_)
  obtain rfl : v8 = 2 := ev8.trans (by decide)
  refine va_sld hx hb hX hbl hbA hS (mm_in mm_k2 (by decide)) dL_law_482 ?_
  refine lv_topi (fun v9 ev9 => ?_)
  obtain rfl : p2 = v9 := ep2.trans ev9.symm
  refine mm_finir (va_runV (As := [.int p1, .int p2]) (rest := [.int (-2)]) ⟨hx, hb, hml, hown, hts⟩ (K110_X12_sense l G cy H.size qm p1 p2 (um 0) (um 1) (um 2) (um 3) (um 4) 0 0 0 0 0 0 0 0 0 (-1) (um 5) (um 6) (um 7) (um 8) (um 9) (um 10) (um 11) (um 12) (um 13) (um 14) (um 15) (um 16) (um 17) 0 0 0 0 0 0 (um 18) 0 (um 19) ) (cwV 2 hts (mm_gV mm_w584 mm_w585 mm_w586 mm_w5 mm_w587) rfl rfl rfl hd_X12_sense ⟨by rw [hRf]; exact Nat.le_of_ble_eq_true rfl, by rw [hRl]; exact Nat.le_of_ble_eq_true rfl⟩) (mm_preV hK hP hD [3, 4] rfl rfl 3 rfl rfl rfl) rfl rfl hl.1 rfl (lv_room (Nat.le_of_ble_eq_true rfl)) dL_law_483 ⟨by rw [hRc]; exact Nat.le_of_ble_eq_true rfl, by rw [hRs]; exact Nat.le_of_ble_eq_true rfl⟩) hP hD hS hA [3, 4] rfl (fun _ => rfl) ?_
  clear hP hD hS
  clear H locs
  intro v10 _u H locs hw hP hD hS
  subst hw
  refine lv_icmp_eq (tgt := 3153) hx hb dL_law_486 (by decide) (fun c11 => ?_) (fun c11 => ?_)
  · refine lv_iinc (v := 6) (lv' := [(3, .int 6), (2, .ref qm), (1, .ref qx), (0, .ref b)]) hx hb dL_law_3153 hl (k := 0) rfl (by decide) (by decide) rfl ?_
    clear hl
    clear ls
    intro ls hl
    refine lv_goto (tgt := 18) hx hb dL_law_3156 (by decide) ?_
    refine lv_iload_n hx hb dL_law_18 rfl (lv_at hl 0 rfl) ?_
    refine lv_aload_n hx hb dL_law_19 rfl (lv_at hl 3 rfl) ?_
    refine va_slen hx hb hX hbl hbA hS dL_law_20 ?_
    refine lv_topi (fun v12 ev12 => ?_)
    obtain rfl : v12 = 6 := ev12.trans (by decide)
    refine lv_bipush (v := 6) hx hb dL_law_21 (by decide) ?_
    refine lv_isub hx hb dL_law_23 ?_
    refine lv_topi (fun v13 ev13 => ?_)
    obtain rfl : v13 = 0 := ev13.trans (by decide)
    refine lv_icmp_gt (tgt := 3159) hx hb dL_law_24 (by decide) (fun c14 => ?_) (fun c14 => ?_)
    · refine lv_iconst (v := 1) hx hb dL_law_3159 (by decide) ?_
      refine va_forget (fun q hq => by have := hS.2.2 q hq; rw [hAe] at this; exact this) ?_
      refine W.widen (k := 600000) (n := 7302250) (Nat.le_of_ble_eq_true rfl) (Nat.le_of_ble_eq_true rfl) ?_
      exact lw_ret hx hb hr hlocks dL_law_3160
    · have q15 := mm_leL (mm_nlt c14) mm_k6 mm_k0
      exact mm_no q15 (by decide)
  · have q16 := mm_neL (lo := (-1)) (mm_ne c11) mm_km2 mm_km2 (by decide) (by decide)
    exact mm_no q16 (by decide)

set_option maxHeartbeats 4000000 in
set_option maxRecDepth 100000 in
theorem lc_5 {p : Program} {e : Env} {s : State} {m : MethodId} {below : List Frame} {meth : Method} {c : Code} {b : Nat} {xs : Nat → Int32} {G : va_G} {cy : Nat → ClassId} {qx qm : Nat} {ux um : Nat → Nat} {H : Heap} {locs : List Loc} {ls : Array Slot} {A : Nat → Prop} (l : Launch) (hx : p.tables.exec = Jvm.exec) (hb : c.code = code) (hr : meth.sig.returnType = ret) (hlocks : meth.locks = false) (hml : c.maxLocals = 4) (hown : s.vm.findClass R_law = some m.cls) (hts : ∀ w ∈ lw_x :: wsL_law, w.before #[Value.ref b] s = true) (hX : va_X b 6 xs s s.heap) (hbl : b < s.heap.size) (hAe : A = fun q => s.heap.size ≤ q) (hK : mm_K G cy s) (hS : va_S A s.heap H locs) (hP : va_P G vwCl [(qx, .inr (11, [.ref (ux 0), .ref (ux 2), .ref (ux 14), .ref (ux 36), .ref (ux 70), .ref (ux 71), .ref (ux 80), .ref (ux 82), .ref (ux 84), .ref (ux 89), .ref (ux 92)])), ((ux 14), .inr (10, [.ref (ux 15), .ref (ux 26)])), ((ux 15), .inr (0, [.int 0, .int 0, .int 0, .int 0, .int 0, .int 0, .int 0, .int 0, .ref (ux 16), .ref (ux 17), .ref (ux 18), .ref (ux 19), .ref (ux 20), .ref (ux 21), .ref (ux 22), .ref (ux 23), .ref (ux 24), .ref (ux 25)])), (qm, .inr (12, [.int 0, .ref (um 0), .ref (um 1), .ref (um 2), .ref (um 3), .ref (um 4), .int 0, .int 0, .int 0, .int 0, .int 0, .long 0, .int 0, .int 0, .int 0, .int (-1), .ref (um 5), .ref (um 6), .ref (um 7), .ref (um 8), .ref (um 9), .ref (um 10), .ref (um 11), .ref (um 12), .ref (um 13), .ref (um 14), .ref (um 15), .ref (um 16), .ref (um 17), .int 0, .int 0, .int 0, .int 0, .int 0, .int 0, .ref (um 18), .int 0, .ref (um 19)])), ((um 6), .inl (cy 1, 30, .inl (fun _ => 0)))] H) (hD : va_D A [(qx, .inr (11, [.ref (ux 0), .ref (ux 2), .ref (ux 14), .ref (ux 36), .ref (ux 70), .ref (ux 71), .ref (ux 80), .ref (ux 82), .ref (ux 84), .ref (ux 89), .ref (ux 92)])), ((ux 14), .inr (10, [.ref (ux 15), .ref (ux 26)])), ((ux 15), .inr (0, [.int 0, .int 0, .int 0, .int 0, .int 0, .int 0, .int 0, .int 0, .ref (ux 16), .ref (ux 17), .ref (ux 18), .ref (ux 19), .ref (ux 20), .ref (ux 21), .ref (ux 22), .ref (ux 23), .ref (ux 24), .ref (ux 25)])), (qm, .inr (12, [.int 0, .ref (um 0), .ref (um 1), .ref (um 2), .ref (um 3), .ref (um 4), .int 0, .int 0, .int 0, .int 0, .int 0, .long 0, .int 0, .int 0, .int 0, .int (-1), .ref (um 5), .ref (um 6), .ref (um 7), .ref (um 8), .ref (um 9), .ref (um 10), .ref (um 11), .ref (um 12), .ref (um 13), .ref (um 14), .ref (um 15), .ref (um 16), .ref (um 17), .int 0, .int 0, .int 0, .int 0, .int 0, .int 0, .ref (um 18), .int 0, .ref (um 19)])), ((um 6), .inl (cy 1, 30, .inl (fun _ => 0)))]) (hl : lv_has ls 4 [(3, .int 0), (2, .ref qm), (1, .ref qx), (0, .ref b)]) : W p l e room_1 s m #[Value.ref b] below meth c H locs 116 20302 (lw_Z below #[Value.ref b] s) (F0 m 491 ls []) := by
  have hA : ∀ q, s.heap.size ≤ q → A q := by rw [hAe]; exact fun _ h => h
  have hbA : ¬ A b := by rw [hAe]; exact Nat.not_le.mpr hbl
  have hRf : room_1.frames = 2048 := rfl
  have hRl : room_1.locals = 84000 := rfl
  have hRc : room_1.cells = 600000 := rfl
  have hRs : room_1.slots = 7302250 := rfl
  obtain ⟨p1, ep1⟩ : ∃ z : Int32, z = xs 1 := ⟨_, rfl⟩
  obtain ⟨p2, ep2⟩ : ∃ z : Int32, z = xs 2 := ⟨_, rfl⟩
  obtain ⟨p3, ep3⟩ : ∃ z : Int32, z = xs 3 := ⟨_, rfl⟩
  obtain ⟨p4, ep4⟩ : ∃ z : Int32, z = xs 4 := ⟨_, rfl⟩
  obtain ⟨p5, ep5⟩ : ∃ z : Int32, z = xs 5 := ⟨_, rfl⟩
  refine lv_aload_n hx hb dL_law_491 rfl (lv_at hl 2 rfl) ?_
  refine lv_aload_n hx hb dL_law_492 rfl (lv_at hl 3 rfl) ?_
  refine lv_iload_n hx hb dL_law_493 rfl (lv_at hl 0 rfl) ?_
  refine lv_iconst (v := 1) hx hb dL_law_494 (by decide) ?_
  refine lv_iadd hx hb dL_law_495 ?_
  refine lv_topi (fun v1 ev1 => ?_)
  obtain rfl : v1 = 1 := ev1.trans (by decide)
  refine va_sld hx hb hX hbl hbA hS (mm_in mm_k1 (by decide)) dL_law_496 ?_
  refine lv_topi (fun v2 ev2 => ?_)
  obtain rfl : p1 = v2 := ep1.trans ev2.symm
  refine lv_aload_n hx hb dL_law_497 rfl (lv_at hl 3 rfl) ?_
  refine lv_iload_n hx hb dL_law_498 rfl (lv_at hl 0 rfl) ?_
  refine lv_iconst (v := 2) hx hb dL_law_499 (by decide) ?_
  refine lv_iadd hx hb dL_law_500 ?_
  refine lv_topi (fun v3 ev3 => ?_)
  obtain rfl : v3 = 2 := ev3.trans (by decide)
  refine va_sld hx hb hX hbl hbA hS (mm_in mm_k2 (by decide)) dL_law_501 ?_
  refine lv_topi (fun v4 ev4 => ?_)
  obtain rfl : p2 = v4 := ep2.trans ev4.symm
  refine mm_finir (va_runV (As := [.int p1, .int p2]) (rest := []) ⟨hx, hb, hml, hown, hts⟩ (K113_X11_word l G cy H.size qx p1 p2 (ux 0) (ux 2) (ux 14) (ux 36) (ux 70) (ux 71) (ux 80) (ux 82) (ux 84) (ux 89) (ux 92) (ux 15) (ux 26) 0 0 0 0 0 0 0 (ux 16) (ux 17) (ux 18) (ux 19) (ux 20) (ux 21) (ux 22) (ux 23) (ux 24) (ux 25) ) (cwV 2 hts (mm_gV mm_w595 mm_w596 mm_w597 mm_w2 mm_w598) rfl rfl rfl hd_X11_word ⟨by rw [hRf]; exact Nat.le_of_ble_eq_true rfl, by rw [hRl]; exact Nat.le_of_ble_eq_true rfl⟩) (mm_preV hK hP hD [0, 1, 2] rfl rfl 0 rfl rfl rfl) rfl rfl hl.1 rfl (lv_room (Nat.le_of_ble_eq_true rfl)) dL_law_502 ⟨by rw [hRc]; exact Nat.le_of_ble_eq_true rfl, by rw [hRs]; exact Nat.le_of_ble_eq_true rfl⟩) hP hD hS hA [0, 1, 2] rfl (fun _ => rfl) ?_
  clear hP hD hS
  clear H locs
  intro v5 _u H locs hw hP hD hS
  subst hw
  refine lv_aload_n hx hb dL_law_505 rfl (lv_at hl 1 rfl) ?_
  refine lv_aload_n hx hb dL_law_506 rfl (lv_at hl 3 rfl) ?_
  refine lv_iload_n hx hb dL_law_507 rfl (lv_at hl 0 rfl) ?_
  refine lv_iconst (v := 1) hx hb dL_law_508 (by decide) ?_
  refine lv_iadd hx hb dL_law_509 ?_
  refine lv_topi (fun v6 ev6 => ?_)
  obtain rfl : v6 = 1 := ev6.trans (by decide)
  refine va_sld hx hb hX hbl hbA hS (mm_in mm_k1 (by decide)) dL_law_510 ?_
  refine lv_topi (fun v7 ev7 => ?_)
  obtain rfl : p1 = v7 := ep1.trans ev7.symm
  refine lv_aload_n hx hb dL_law_511 rfl (lv_at hl 3 rfl) ?_
  refine lv_iload_n hx hb dL_law_512 rfl (lv_at hl 0 rfl) ?_
  refine lv_iconst (v := 2) hx hb dL_law_513 (by decide) ?_
  refine lv_iadd hx hb dL_law_514 ?_
  refine lv_topi (fun v8 ev8 => ?_)
  obtain rfl : v8 = 2 := ev8.trans (by decide)
  refine va_sld hx hb hX hbl hbA hS (mm_in mm_k2 (by decide)) dL_law_515 ?_
  refine lv_topi (fun v9 ev9 => ?_)
  obtain rfl : p2 = v9 := ep2.trans ev9.symm
  refine mm_finir (va_runV (As := [.int p1, .int p2]) (rest := [.int (-2)]) ⟨hx, hb, hml, hown, hts⟩ (K118_X12_word l G cy H.size qm p1 p2 (um 0) (um 1) (um 2) (um 3) (um 4) 0 0 0 0 0 0 0 0 0 (-1) (um 5) (um 6) (um 7) (um 8) (um 9) (um 10) (um 11) (um 12) (um 13) (um 14) (um 15) (um 16) (um 17) 0 0 0 0 0 0 (um 18) 0 (um 19) ) (cwV 2 hts (mm_gV mm_w609 mm_w610 mm_w611 mm_w5 mm_w612) rfl rfl rfl hd_X12_word ⟨by rw [hRf]; exact Nat.le_of_ble_eq_true rfl, by rw [hRl]; exact Nat.le_of_ble_eq_true rfl⟩) (mm_preV hK hP hD [3, 4] rfl rfl 3 rfl rfl rfl) rfl rfl hl.1 rfl (lv_room (Nat.le_of_ble_eq_true rfl)) dL_law_516 ⟨by rw [hRc]; exact Nat.le_of_ble_eq_true rfl, by rw [hRs]; exact Nat.le_of_ble_eq_true rfl⟩) hP hD hS hA [3, 4] rfl (fun _ => rfl) ?_
  clear hP hD hS
  clear H locs
  intro v10 _u H locs hw hP hD hS
  subst hw
  refine lv_icmp_eq (tgt := 3153) hx hb dL_law_519 (by decide) (fun c11 => ?_) (fun c11 => ?_)
  · refine lv_iinc (v := 6) (lv' := [(3, .int 6), (2, .ref qm), (1, .ref qx), (0, .ref b)]) hx hb dL_law_3153 hl (k := 0) rfl (by decide) (by decide) rfl ?_
    clear hl
    clear ls
    intro ls hl
    refine lv_goto (tgt := 18) hx hb dL_law_3156 (by decide) ?_
    refine lv_iload_n hx hb dL_law_18 rfl (lv_at hl 0 rfl) ?_
    refine lv_aload_n hx hb dL_law_19 rfl (lv_at hl 3 rfl) ?_
    refine va_slen hx hb hX hbl hbA hS dL_law_20 ?_
    refine lv_topi (fun v12 ev12 => ?_)
    obtain rfl : v12 = 6 := ev12.trans (by decide)
    refine lv_bipush (v := 6) hx hb dL_law_21 (by decide) ?_
    refine lv_isub hx hb dL_law_23 ?_
    refine lv_topi (fun v13 ev13 => ?_)
    obtain rfl : v13 = 0 := ev13.trans (by decide)
    refine lv_icmp_gt (tgt := 3159) hx hb dL_law_24 (by decide) (fun c14 => ?_) (fun c14 => ?_)
    · refine lv_iconst (v := 1) hx hb dL_law_3159 (by decide) ?_
      refine va_forget (fun q hq => by have := hS.2.2 q hq; rw [hAe] at this; exact this) ?_
      refine W.widen (k := 600000) (n := 7302250) (Nat.le_of_ble_eq_true rfl) (Nat.le_of_ble_eq_true rfl) ?_
      exact lw_ret hx hb hr hlocks dL_law_3160
    · have q15 := mm_leL (mm_nlt c14) mm_k6 mm_k0
      exact mm_no q15 (by decide)
  · have q16 := mm_neL (lo := (-1)) (mm_ne c11) mm_km2 mm_km2 (by decide) (by decide)
    exact mm_no q16 (by decide)

set_option maxHeartbeats 4000000 in
set_option maxRecDepth 100000 in
theorem lc_6 {p : Program} {e : Env} {s : State} {m : MethodId} {below : List Frame} {meth : Method} {c : Code} {b : Nat} {xs : Nat → Int32} {G : va_G} {cy : Nat → ClassId} {qx qm : Nat} {ux um : Nat → Nat} {H : Heap} {locs : List Loc} {ls : Array Slot} {A : Nat → Prop} (l : Launch) (hx : p.tables.exec = Jvm.exec) (hb : c.code = code) (hr : meth.sig.returnType = ret) (hlocks : meth.locks = false) (hml : c.maxLocals = 4) (hown : s.vm.findClass R_law = some m.cls) (hts : ∀ w ∈ lw_x :: wsL_law, w.before #[Value.ref b] s = true) (hX : va_X b 6 xs s s.heap) (hbl : b < s.heap.size) (hAe : A = fun q => s.heap.size ≤ q) (hK : mm_K G cy s) (hS : va_S A s.heap H locs) (hP : va_P G vwCl [(qx, .inr (11, [.ref (ux 0), .ref (ux 2), .ref (ux 14), .ref (ux 36), .ref (ux 70), .ref (ux 71), .ref (ux 80), .ref (ux 82), .ref (ux 84), .ref (ux 89), .ref (ux 92)])), ((ux 14), .inr (10, [.ref (ux 15), .ref (ux 26)])), ((ux 15), .inr (0, [.int 0, .int 0, .int 0, .int 0, .int 0, .int 0, .int 0, .int 0, .ref (ux 16), .ref (ux 17), .ref (ux 18), .ref (ux 19), .ref (ux 20), .ref (ux 21), .ref (ux 22), .ref (ux 23), .ref (ux 24), .ref (ux 25)])), (qm, .inr (12, [.int 0, .ref (um 0), .ref (um 1), .ref (um 2), .ref (um 3), .ref (um 4), .int 0, .int 0, .int 0, .int 0, .int 0, .long 0, .int 0, .int 0, .int 0, .int (-1), .ref (um 5), .ref (um 6), .ref (um 7), .ref (um 8), .ref (um 9), .ref (um 10), .ref (um 11), .ref (um 12), .ref (um 13), .ref (um 14), .ref (um 15), .ref (um 16), .ref (um 17), .int 0, .int 0, .int 0, .int 0, .int 0, .int 0, .ref (um 18), .int 0, .ref (um 19)])), ((um 6), .inl (cy 1, 30, .inl (fun _ => 0)))] H) (hD : va_D A [(qx, .inr (11, [.ref (ux 0), .ref (ux 2), .ref (ux 14), .ref (ux 36), .ref (ux 70), .ref (ux 71), .ref (ux 80), .ref (ux 82), .ref (ux 84), .ref (ux 89), .ref (ux 92)])), ((ux 14), .inr (10, [.ref (ux 15), .ref (ux 26)])), ((ux 15), .inr (0, [.int 0, .int 0, .int 0, .int 0, .int 0, .int 0, .int 0, .int 0, .ref (ux 16), .ref (ux 17), .ref (ux 18), .ref (ux 19), .ref (ux 20), .ref (ux 21), .ref (ux 22), .ref (ux 23), .ref (ux 24), .ref (ux 25)])), (qm, .inr (12, [.int 0, .ref (um 0), .ref (um 1), .ref (um 2), .ref (um 3), .ref (um 4), .int 0, .int 0, .int 0, .int 0, .int 0, .long 0, .int 0, .int 0, .int 0, .int (-1), .ref (um 5), .ref (um 6), .ref (um 7), .ref (um 8), .ref (um 9), .ref (um 10), .ref (um 11), .ref (um 12), .ref (um 13), .ref (um 14), .ref (um 15), .ref (um 16), .ref (um 17), .int 0, .int 0, .int 0, .int 0, .int 0, .int 0, .ref (um 18), .int 0, .ref (um 19)])), ((um 6), .inl (cy 1, 30, .inl (fun _ => 0)))]) (hl : lv_has ls 4 [(3, .int 0), (2, .ref qm), (1, .ref qx), (0, .ref b)]) : W p l e room_1 s m #[Value.ref b] below meth c H locs 116 20302 (lw_Z below #[Value.ref b] s) (F0 m 524 ls []) := by
  have hA : ∀ q, s.heap.size ≤ q → A q := by rw [hAe]; exact fun _ h => h
  have hbA : ¬ A b := by rw [hAe]; exact Nat.not_le.mpr hbl
  have hRf : room_1.frames = 2048 := rfl
  have hRl : room_1.locals = 84000 := rfl
  have hRc : room_1.cells = 600000 := rfl
  have hRs : room_1.slots = 7302250 := rfl
  obtain ⟨p1, ep1⟩ : ∃ z : Int32, z = xs 1 := ⟨_, rfl⟩
  obtain ⟨p2, ep2⟩ : ∃ z : Int32, z = xs 2 := ⟨_, rfl⟩
  obtain ⟨p3, ep3⟩ : ∃ z : Int32, z = xs 3 := ⟨_, rfl⟩
  obtain ⟨p4, ep4⟩ : ∃ z : Int32, z = xs 4 := ⟨_, rfl⟩
  obtain ⟨p5, ep5⟩ : ∃ z : Int32, z = xs 5 := ⟨_, rfl⟩
  refine lv_aload_n hx hb dL_law_524 rfl (lv_at hl 2 rfl) ?_
  refine lv_aload_n hx hb dL_law_525 rfl (lv_at hl 3 rfl) ?_
  refine lv_iload_n hx hb dL_law_526 rfl (lv_at hl 0 rfl) ?_
  refine lv_iconst (v := 1) hx hb dL_law_527 (by decide) ?_
  refine lv_iadd hx hb dL_law_528 ?_
  refine lv_topi (fun v1 ev1 => ?_)
  obtain rfl : v1 = 1 := ev1.trans (by decide)
  refine va_sld hx hb hX hbl hbA hS (mm_in mm_k1 (by decide)) dL_law_529 ?_
  refine lv_topi (fun v2 ev2 => ?_)
  obtain rfl : p1 = v2 := ep1.trans ev2.symm
  refine lv_aload_n hx hb dL_law_530 rfl (lv_at hl 3 rfl) ?_
  refine lv_iload_n hx hb dL_law_531 rfl (lv_at hl 0 rfl) ?_
  refine lv_iconst (v := 2) hx hb dL_law_532 (by decide) ?_
  refine lv_iadd hx hb dL_law_533 ?_
  refine lv_topi (fun v3 ev3 => ?_)
  obtain rfl : v3 = 2 := ev3.trans (by decide)
  refine va_sld hx hb hX hbl hbA hS (mm_in mm_k2 (by decide)) dL_law_534 ?_
  refine lv_topi (fun v4 ev4 => ?_)
  obtain rfl : p2 = v4 := ep2.trans ev4.symm
  refine lv_aload_n hx hb dL_law_535 rfl (lv_at hl 3 rfl) ?_
  refine lv_iload_n hx hb dL_law_536 rfl (lv_at hl 0 rfl) ?_
  refine lv_iconst (v := 3) hx hb dL_law_537 (by decide) ?_
  refine lv_iadd hx hb dL_law_538 ?_
  refine lv_topi (fun v5 ev5 => ?_)
  obtain rfl : v5 = 3 := ev5.trans (by decide)
  refine va_sld hx hb hX hbl hbA hS (mm_in mm_k3 (by decide)) dL_law_539 ?_
  refine lv_topi (fun v6 ev6 => ?_)
  obtain rfl : p3 = v6 := ep3.trans ev6.symm
  refine mm_finir (va_runV (As := [.int p1, .int p2, .int p3]) (rest := []) ⟨hx, hb, hml, hown, hts⟩ (K122_X11_rule l G cy H.size qx p1 p2 p3 (ux 0) (ux 2) (ux 14) (ux 36) (ux 70) (ux 71) (ux 80) (ux 82) (ux 84) (ux 89) (ux 92) (ux 15) (ux 26) 0 0 0 0 0 0 0 (ux 16) (ux 17) (ux 18) (ux 19) (ux 20) (ux 21) (ux 22) (ux 23) (ux 24) (ux 25) ) (cwV 3 hts (mm_gV mm_w621 mm_w622 mm_w623 mm_w2 mm_w624) rfl rfl rfl hd_X11_rule ⟨by rw [hRf]; exact Nat.le_of_ble_eq_true rfl, by rw [hRl]; exact Nat.le_of_ble_eq_true rfl⟩) (mm_preV hK hP hD [0, 1, 2] rfl rfl 0 rfl rfl rfl) rfl rfl hl.1 rfl (lv_room (Nat.le_of_ble_eq_true rfl)) dL_law_540 ⟨by rw [hRc]; exact Nat.le_of_ble_eq_true rfl, by rw [hRs]; exact Nat.le_of_ble_eq_true rfl⟩) hP hD hS hA [0, 1, 2] rfl (fun _ => rfl) ?_
  clear hP hD hS
  clear H locs
  intro v7 _u H locs hw hP hD hS
  subst hw
  refine lv_aload_n hx hb dL_law_543 rfl (lv_at hl 1 rfl) ?_
  refine lv_aload_n hx hb dL_law_544 rfl (lv_at hl 3 rfl) ?_
  refine lv_iload_n hx hb dL_law_545 rfl (lv_at hl 0 rfl) ?_
  refine lv_iconst (v := 1) hx hb dL_law_546 (by decide) ?_
  refine lv_iadd hx hb dL_law_547 ?_
  refine lv_topi (fun v8 ev8 => ?_)
  obtain rfl : v8 = 1 := ev8.trans (by decide)
  refine va_sld hx hb hX hbl hbA hS (mm_in mm_k1 (by decide)) dL_law_548 ?_
  refine lv_topi (fun v9 ev9 => ?_)
  obtain rfl : p1 = v9 := ep1.trans ev9.symm
  refine lv_aload_n hx hb dL_law_549 rfl (lv_at hl 3 rfl) ?_
  refine lv_iload_n hx hb dL_law_550 rfl (lv_at hl 0 rfl) ?_
  refine lv_iconst (v := 2) hx hb dL_law_551 (by decide) ?_
  refine lv_iadd hx hb dL_law_552 ?_
  refine lv_topi (fun v10 ev10 => ?_)
  obtain rfl : v10 = 2 := ev10.trans (by decide)
  refine va_sld hx hb hX hbl hbA hS (mm_in mm_k2 (by decide)) dL_law_553 ?_
  refine lv_topi (fun v11 ev11 => ?_)
  obtain rfl : p2 = v11 := ep2.trans ev11.symm
  refine lv_aload_n hx hb dL_law_554 rfl (lv_at hl 3 rfl) ?_
  refine lv_iload_n hx hb dL_law_555 rfl (lv_at hl 0 rfl) ?_
  refine lv_iconst (v := 3) hx hb dL_law_556 (by decide) ?_
  refine lv_iadd hx hb dL_law_557 ?_
  refine lv_topi (fun v12 ev12 => ?_)
  obtain rfl : v12 = 3 := ev12.trans (by decide)
  refine va_sld hx hb hX hbl hbA hS (mm_in mm_k3 (by decide)) dL_law_558 ?_
  refine lv_topi (fun v13 ev13 => ?_)
  obtain rfl : p3 = v13 := ep3.trans ev13.symm
  refine mm_finir (va_runV (As := [.int p1, .int p2, .int p3]) (rest := [.int (-2)]) ⟨hx, hb, hml, hown, hts⟩ (K125_X12_rule l G cy H.size qm p1 p2 p3 (um 0) (um 1) (um 2) (um 3) (um 4) 0 0 0 0 0 0 0 0 0 (-1) (um 5) (um 6) (um 7) (um 8) (um 9) (um 10) (um 11) (um 12) (um 13) (um 14) (um 15) (um 16) (um 17) 0 0 0 0 0 0 (um 18) 0 (um 19) ) (cwV 3 hts (mm_gV mm_w637 mm_w638 mm_w639 mm_w5 mm_w640) rfl rfl rfl hd_X12_rule ⟨by rw [hRf]; exact Nat.le_of_ble_eq_true rfl, by rw [hRl]; exact Nat.le_of_ble_eq_true rfl⟩) (mm_preV hK hP hD [3, 4] rfl rfl 3 rfl rfl rfl) rfl rfl hl.1 rfl (lv_room (Nat.le_of_ble_eq_true rfl)) dL_law_559 ⟨by rw [hRc]; exact Nat.le_of_ble_eq_true rfl, by rw [hRs]; exact Nat.le_of_ble_eq_true rfl⟩) hP hD hS hA [3, 4] rfl (fun _ => rfl) ?_
  clear hP hD hS
  clear H locs
  intro v14 _u H locs hw hP hD hS
  subst hw
  refine lv_icmp_eq (tgt := 3153) hx hb dL_law_562 (by decide) (fun c15 => ?_) (fun c15 => ?_)
  · refine lv_iinc (v := 6) (lv' := [(3, .int 6), (2, .ref qm), (1, .ref qx), (0, .ref b)]) hx hb dL_law_3153 hl (k := 0) rfl (by decide) (by decide) rfl ?_
    clear hl
    clear ls
    intro ls hl
    refine lv_goto (tgt := 18) hx hb dL_law_3156 (by decide) ?_
    refine lv_iload_n hx hb dL_law_18 rfl (lv_at hl 0 rfl) ?_
    refine lv_aload_n hx hb dL_law_19 rfl (lv_at hl 3 rfl) ?_
    refine va_slen hx hb hX hbl hbA hS dL_law_20 ?_
    refine lv_topi (fun v16 ev16 => ?_)
    obtain rfl : v16 = 6 := ev16.trans (by decide)
    refine lv_bipush (v := 6) hx hb dL_law_21 (by decide) ?_
    refine lv_isub hx hb dL_law_23 ?_
    refine lv_topi (fun v17 ev17 => ?_)
    obtain rfl : v17 = 0 := ev17.trans (by decide)
    refine lv_icmp_gt (tgt := 3159) hx hb dL_law_24 (by decide) (fun c18 => ?_) (fun c18 => ?_)
    · refine lv_iconst (v := 1) hx hb dL_law_3159 (by decide) ?_
      refine va_forget (fun q hq => by have := hS.2.2 q hq; rw [hAe] at this; exact this) ?_
      refine W.widen (k := 600000) (n := 7302250) (Nat.le_of_ble_eq_true rfl) (Nat.le_of_ble_eq_true rfl) ?_
      exact lw_ret hx hb hr hlocks dL_law_3160
    · have q19 := mm_leL (mm_nlt c18) mm_k6 mm_k0
      exact mm_no q19 (by decide)
  · have q20 := mm_neL (lo := (-1)) (mm_ne c15) mm_km2 mm_km2 (by decide) (by decide)
    exact mm_no q20 (by decide)

set_option maxHeartbeats 4000000 in
set_option maxRecDepth 100000 in
theorem lc_7 {p : Program} {e : Env} {s : State} {m : MethodId} {below : List Frame} {meth : Method} {c : Code} {b : Nat} {xs : Nat → Int32} {G : va_G} {cy : Nat → ClassId} {qx qm : Nat} {ux um : Nat → Nat} {H : Heap} {locs : List Loc} {ls : Array Slot} {A : Nat → Prop} (l : Launch) (hx : p.tables.exec = Jvm.exec) (hb : c.code = code) (hr : meth.sig.returnType = ret) (hlocks : meth.locks = false) (hml : c.maxLocals = 4) (hown : s.vm.findClass R_law = some m.cls) (hts : ∀ w ∈ lw_x :: wsL_law, w.before #[Value.ref b] s = true) (hX : va_X b 6 xs s s.heap) (hbl : b < s.heap.size) (hAe : A = fun q => s.heap.size ≤ q) (hK : mm_K G cy s) (hS : va_S A s.heap H locs) (hP : va_P G vwCl [(qx, .inr (11, [.ref (ux 0), .ref (ux 2), .ref (ux 14), .ref (ux 36), .ref (ux 70), .ref (ux 71), .ref (ux 80), .ref (ux 82), .ref (ux 84), .ref (ux 89), .ref (ux 92)])), ((ux 14), .inr (10, [.ref (ux 15), .ref (ux 26)])), ((ux 15), .inr (0, [.int 0, .int 0, .int 0, .int 0, .int 0, .int 0, .int 0, .int 0, .ref (ux 16), .ref (ux 17), .ref (ux 18), .ref (ux 19), .ref (ux 20), .ref (ux 21), .ref (ux 22), .ref (ux 23), .ref (ux 24), .ref (ux 25)])), (qm, .inr (12, [.int 0, .ref (um 0), .ref (um 1), .ref (um 2), .ref (um 3), .ref (um 4), .int 0, .int 0, .int 0, .int 0, .int 0, .long 0, .int 0, .int 0, .int 0, .int (-1), .ref (um 5), .ref (um 6), .ref (um 7), .ref (um 8), .ref (um 9), .ref (um 10), .ref (um 11), .ref (um 12), .ref (um 13), .ref (um 14), .ref (um 15), .ref (um 16), .ref (um 17), .int 0, .int 0, .int 0, .int 0, .int 0, .int 0, .ref (um 18), .int 0, .ref (um 19)])), ((um 6), .inl (cy 1, 30, .inl (fun _ => 0)))] H) (hD : va_D A [(qx, .inr (11, [.ref (ux 0), .ref (ux 2), .ref (ux 14), .ref (ux 36), .ref (ux 70), .ref (ux 71), .ref (ux 80), .ref (ux 82), .ref (ux 84), .ref (ux 89), .ref (ux 92)])), ((ux 14), .inr (10, [.ref (ux 15), .ref (ux 26)])), ((ux 15), .inr (0, [.int 0, .int 0, .int 0, .int 0, .int 0, .int 0, .int 0, .int 0, .ref (ux 16), .ref (ux 17), .ref (ux 18), .ref (ux 19), .ref (ux 20), .ref (ux 21), .ref (ux 22), .ref (ux 23), .ref (ux 24), .ref (ux 25)])), (qm, .inr (12, [.int 0, .ref (um 0), .ref (um 1), .ref (um 2), .ref (um 3), .ref (um 4), .int 0, .int 0, .int 0, .int 0, .int 0, .long 0, .int 0, .int 0, .int 0, .int (-1), .ref (um 5), .ref (um 6), .ref (um 7), .ref (um 8), .ref (um 9), .ref (um 10), .ref (um 11), .ref (um 12), .ref (um 13), .ref (um 14), .ref (um 15), .ref (um 16), .ref (um 17), .int 0, .int 0, .int 0, .int 0, .int 0, .int 0, .ref (um 18), .int 0, .ref (um 19)])), ((um 6), .inl (cy 1, 30, .inl (fun _ => 0)))]) (hl : lv_has ls 4 [(3, .int 0), (2, .ref qm), (1, .ref qx), (0, .ref b)]) : W p l e room_1 s m #[Value.ref b] below meth c H locs 116 20302 (lw_Z below #[Value.ref b] s) (F0 m 567 ls []) := by
  have hA : ∀ q, s.heap.size ≤ q → A q := by rw [hAe]; exact fun _ h => h
  have hbA : ¬ A b := by rw [hAe]; exact Nat.not_le.mpr hbl
  have hRf : room_1.frames = 2048 := rfl
  have hRl : room_1.locals = 84000 := rfl
  have hRc : room_1.cells = 600000 := rfl
  have hRs : room_1.slots = 7302250 := rfl
  obtain ⟨p1, ep1⟩ : ∃ z : Int32, z = xs 1 := ⟨_, rfl⟩
  obtain ⟨p2, ep2⟩ : ∃ z : Int32, z = xs 2 := ⟨_, rfl⟩
  obtain ⟨p3, ep3⟩ : ∃ z : Int32, z = xs 3 := ⟨_, rfl⟩
  obtain ⟨p4, ep4⟩ : ∃ z : Int32, z = xs 4 := ⟨_, rfl⟩
  obtain ⟨p5, ep5⟩ : ∃ z : Int32, z = xs 5 := ⟨_, rfl⟩
  refine lv_aload_n hx hb dL_law_567 rfl (lv_at hl 2 rfl) ?_
  refine lv_aload_n hx hb dL_law_568 rfl (lv_at hl 3 rfl) ?_
  refine lv_iload_n hx hb dL_law_569 rfl (lv_at hl 0 rfl) ?_
  refine lv_iconst (v := 1) hx hb dL_law_570 (by decide) ?_
  refine lv_iadd hx hb dL_law_571 ?_
  refine lv_topi (fun v1 ev1 => ?_)
  obtain rfl : v1 = 1 := ev1.trans (by decide)
  refine va_sld hx hb hX hbl hbA hS (mm_in mm_k1 (by decide)) dL_law_572 ?_
  refine lv_topi (fun v2 ev2 => ?_)
  obtain rfl : p1 = v2 := ep1.trans ev2.symm
  refine lv_aload_n hx hb dL_law_573 rfl (lv_at hl 3 rfl) ?_
  refine lv_iload_n hx hb dL_law_574 rfl (lv_at hl 0 rfl) ?_
  refine lv_iconst (v := 2) hx hb dL_law_575 (by decide) ?_
  refine lv_iadd hx hb dL_law_576 ?_
  refine lv_topi (fun v3 ev3 => ?_)
  obtain rfl : v3 = 2 := ev3.trans (by decide)
  refine va_sld hx hb hX hbl hbA hS (mm_in mm_k2 (by decide)) dL_law_577 ?_
  refine lv_topi (fun v4 ev4 => ?_)
  obtain rfl : p2 = v4 := ep2.trans ev4.symm
  refine lv_aload_n hx hb dL_law_578 rfl (lv_at hl 3 rfl) ?_
  refine lv_iload_n hx hb dL_law_579 rfl (lv_at hl 0 rfl) ?_
  refine lv_iconst (v := 3) hx hb dL_law_580 (by decide) ?_
  refine lv_iadd hx hb dL_law_581 ?_
  refine lv_topi (fun v5 ev5 => ?_)
  obtain rfl : v5 = 3 := ev5.trans (by decide)
  refine va_sld hx hb hX hbl hbA hS (mm_in mm_k3 (by decide)) dL_law_582 ?_
  refine lv_topi (fun v6 ev6 => ?_)
  obtain rfl : p3 = v6 := ep3.trans ev6.symm
  refine mm_finir (va_runV (As := [.int p1, .int p2, .int p3]) (rest := []) ⟨hx, hb, hml, hown, hts⟩ (K127_X11_means l G cy H.size qx p1 p2 p3 (ux 0) (ux 2) (ux 14) (ux 36) (ux 70) (ux 71) (ux 80) (ux 82) (ux 84) (ux 89) (ux 92) (ux 15) (ux 26) 0 0 0 0 0 0 0 (ux 16) (ux 17) (ux 18) (ux 19) (ux 20) (ux 21) (ux 22) (ux 23) (ux 24) (ux 25) ) (cwV 3 hts (mm_gV mm_w657 mm_w658 mm_w659 mm_w2 mm_w660) rfl rfl rfl hd_X11_means ⟨by rw [hRf]; exact Nat.le_of_ble_eq_true rfl, by rw [hRl]; exact Nat.le_of_ble_eq_true rfl⟩) (mm_preV hK hP hD [0, 1, 2] rfl rfl 0 rfl rfl rfl) rfl rfl hl.1 rfl (lv_room (Nat.le_of_ble_eq_true rfl)) dL_law_583 ⟨by rw [hRc]; exact Nat.le_of_ble_eq_true rfl, by rw [hRs]; exact Nat.le_of_ble_eq_true rfl⟩) hP hD hS hA [0, 1, 2] rfl (fun _ => rfl) ?_
  clear hP hD hS
  clear H locs
  intro v7 _u H locs hw hP hD hS
  subst hw
  refine lv_aload_n hx hb dL_law_586 rfl (lv_at hl 1 rfl) ?_
  refine lv_aload_n hx hb dL_law_587 rfl (lv_at hl 3 rfl) ?_
  refine lv_iload_n hx hb dL_law_588 rfl (lv_at hl 0 rfl) ?_
  refine lv_iconst (v := 1) hx hb dL_law_589 (by decide) ?_
  refine lv_iadd hx hb dL_law_590 ?_
  refine lv_topi (fun v8 ev8 => ?_)
  obtain rfl : v8 = 1 := ev8.trans (by decide)
  refine va_sld hx hb hX hbl hbA hS (mm_in mm_k1 (by decide)) dL_law_591 ?_
  refine lv_topi (fun v9 ev9 => ?_)
  obtain rfl : p1 = v9 := ep1.trans ev9.symm
  refine lv_aload_n hx hb dL_law_592 rfl (lv_at hl 3 rfl) ?_
  refine lv_iload_n hx hb dL_law_593 rfl (lv_at hl 0 rfl) ?_
  refine lv_iconst (v := 2) hx hb dL_law_594 (by decide) ?_
  refine lv_iadd hx hb dL_law_595 ?_
  refine lv_topi (fun v10 ev10 => ?_)
  obtain rfl : v10 = 2 := ev10.trans (by decide)
  refine va_sld hx hb hX hbl hbA hS (mm_in mm_k2 (by decide)) dL_law_596 ?_
  refine lv_topi (fun v11 ev11 => ?_)
  obtain rfl : p2 = v11 := ep2.trans ev11.symm
  refine lv_aload_n hx hb dL_law_597 rfl (lv_at hl 3 rfl) ?_
  refine lv_iload_n hx hb dL_law_598 rfl (lv_at hl 0 rfl) ?_
  refine lv_iconst (v := 3) hx hb dL_law_599 (by decide) ?_
  refine lv_iadd hx hb dL_law_600 ?_
  refine lv_topi (fun v12 ev12 => ?_)
  obtain rfl : v12 = 3 := ev12.trans (by decide)
  refine va_sld hx hb hX hbl hbA hS (mm_in mm_k3 (by decide)) dL_law_601 ?_
  refine lv_topi (fun v13 ev13 => ?_)
  obtain rfl : p3 = v13 := ep3.trans ev13.symm
  refine mm_finir (va_runV (As := [.int p1, .int p2, .int p3]) (rest := [.int (-2)]) ⟨hx, hb, hml, hown, hts⟩ (K130_X12_means l G cy H.size qm p1 p2 p3 (um 0) (um 1) (um 2) (um 3) (um 4) 0 0 0 0 0 0 0 0 0 (-1) (um 5) (um 6) (um 7) (um 8) (um 9) (um 10) (um 11) (um 12) (um 13) (um 14) (um 15) (um 16) (um 17) 0 0 0 0 0 0 (um 18) 0 (um 19) ) (cwV 3 hts (mm_gV mm_w674 mm_w675 mm_w676 mm_w5 mm_w677) rfl rfl rfl hd_X12_means ⟨by rw [hRf]; exact Nat.le_of_ble_eq_true rfl, by rw [hRl]; exact Nat.le_of_ble_eq_true rfl⟩) (mm_preV hK hP hD [3, 4] rfl rfl 3 rfl rfl rfl) rfl rfl hl.1 rfl (lv_room (Nat.le_of_ble_eq_true rfl)) dL_law_602 ⟨by rw [hRc]; exact Nat.le_of_ble_eq_true rfl, by rw [hRs]; exact Nat.le_of_ble_eq_true rfl⟩) hP hD hS hA [3, 4] rfl (fun _ => rfl) ?_
  clear hP hD hS
  clear H locs
  intro v14 _u H locs hw hP hD hS
  subst hw
  refine lv_icmp_eq (tgt := 3153) hx hb dL_law_605 (by decide) (fun c15 => ?_) (fun c15 => ?_)
  · refine lv_iinc (v := 6) (lv' := [(3, .int 6), (2, .ref qm), (1, .ref qx), (0, .ref b)]) hx hb dL_law_3153 hl (k := 0) rfl (by decide) (by decide) rfl ?_
    clear hl
    clear ls
    intro ls hl
    refine lv_goto (tgt := 18) hx hb dL_law_3156 (by decide) ?_
    refine lv_iload_n hx hb dL_law_18 rfl (lv_at hl 0 rfl) ?_
    refine lv_aload_n hx hb dL_law_19 rfl (lv_at hl 3 rfl) ?_
    refine va_slen hx hb hX hbl hbA hS dL_law_20 ?_
    refine lv_topi (fun v16 ev16 => ?_)
    obtain rfl : v16 = 6 := ev16.trans (by decide)
    refine lv_bipush (v := 6) hx hb dL_law_21 (by decide) ?_
    refine lv_isub hx hb dL_law_23 ?_
    refine lv_topi (fun v17 ev17 => ?_)
    obtain rfl : v17 = 0 := ev17.trans (by decide)
    refine lv_icmp_gt (tgt := 3159) hx hb dL_law_24 (by decide) (fun c18 => ?_) (fun c18 => ?_)
    · refine lv_iconst (v := 1) hx hb dL_law_3159 (by decide) ?_
      refine va_forget (fun q hq => by have := hS.2.2 q hq; rw [hAe] at this; exact this) ?_
      refine W.widen (k := 600000) (n := 7302250) (Nat.le_of_ble_eq_true rfl) (Nat.le_of_ble_eq_true rfl) ?_
      exact lw_ret hx hb hr hlocks dL_law_3160
    · have q19 := mm_leL (mm_nlt c18) mm_k6 mm_k0
      exact mm_no q19 (by decide)
  · have q20 := mm_neL (lo := (-1)) (mm_ne c15) mm_km2 mm_km2 (by decide) (by decide)
    exact mm_no q20 (by decide)

set_option maxHeartbeats 4000000 in
set_option maxRecDepth 100000 in
theorem lc_8 {p : Program} {e : Env} {s : State} {m : MethodId} {below : List Frame} {meth : Method} {c : Code} {b : Nat} {xs : Nat → Int32} {G : va_G} {cy : Nat → ClassId} {qx qm : Nat} {ux um : Nat → Nat} {H : Heap} {locs : List Loc} {ls : Array Slot} {A : Nat → Prop} (l : Launch) (hx : p.tables.exec = Jvm.exec) (hb : c.code = code) (hr : meth.sig.returnType = ret) (hlocks : meth.locks = false) (hml : c.maxLocals = 4) (hown : s.vm.findClass R_law = some m.cls) (hts : ∀ w ∈ lw_x :: wsL_law, w.before #[Value.ref b] s = true) (hX : va_X b 6 xs s s.heap) (hbl : b < s.heap.size) (hAe : A = fun q => s.heap.size ≤ q) (hK : mm_K G cy s) (hS : va_S A s.heap H locs) (hP : va_P G vwCl [(qx, .inr (11, [.ref (ux 0), .ref (ux 2), .ref (ux 14), .ref (ux 36), .ref (ux 70), .ref (ux 71), .ref (ux 80), .ref (ux 82), .ref (ux 84), .ref (ux 89), .ref (ux 92)])), ((ux 14), .inr (10, [.ref (ux 15), .ref (ux 26)])), ((ux 15), .inr (0, [.int 0, .int 0, .int 0, .int 0, .int 0, .int 0, .int 0, .int 0, .ref (ux 16), .ref (ux 17), .ref (ux 18), .ref (ux 19), .ref (ux 20), .ref (ux 21), .ref (ux 22), .ref (ux 23), .ref (ux 24), .ref (ux 25)])), (qm, .inr (12, [.int 0, .ref (um 0), .ref (um 1), .ref (um 2), .ref (um 3), .ref (um 4), .int 0, .int 0, .int 0, .int 0, .int 0, .long 0, .int 0, .int 0, .int 0, .int (-1), .ref (um 5), .ref (um 6), .ref (um 7), .ref (um 8), .ref (um 9), .ref (um 10), .ref (um 11), .ref (um 12), .ref (um 13), .ref (um 14), .ref (um 15), .ref (um 16), .ref (um 17), .int 0, .int 0, .int 0, .int 0, .int 0, .int 0, .ref (um 18), .int 0, .ref (um 19)])), ((um 6), .inl (cy 1, 30, .inl (fun _ => 0)))] H) (hD : va_D A [(qx, .inr (11, [.ref (ux 0), .ref (ux 2), .ref (ux 14), .ref (ux 36), .ref (ux 70), .ref (ux 71), .ref (ux 80), .ref (ux 82), .ref (ux 84), .ref (ux 89), .ref (ux 92)])), ((ux 14), .inr (10, [.ref (ux 15), .ref (ux 26)])), ((ux 15), .inr (0, [.int 0, .int 0, .int 0, .int 0, .int 0, .int 0, .int 0, .int 0, .ref (ux 16), .ref (ux 17), .ref (ux 18), .ref (ux 19), .ref (ux 20), .ref (ux 21), .ref (ux 22), .ref (ux 23), .ref (ux 24), .ref (ux 25)])), (qm, .inr (12, [.int 0, .ref (um 0), .ref (um 1), .ref (um 2), .ref (um 3), .ref (um 4), .int 0, .int 0, .int 0, .int 0, .int 0, .long 0, .int 0, .int 0, .int 0, .int (-1), .ref (um 5), .ref (um 6), .ref (um 7), .ref (um 8), .ref (um 9), .ref (um 10), .ref (um 11), .ref (um 12), .ref (um 13), .ref (um 14), .ref (um 15), .ref (um 16), .ref (um 17), .int 0, .int 0, .int 0, .int 0, .int 0, .int 0, .ref (um 18), .int 0, .ref (um 19)])), ((um 6), .inl (cy 1, 30, .inl (fun _ => 0)))]) (hl : lv_has ls 4 [(3, .int 0), (2, .ref qm), (1, .ref qx), (0, .ref b)]) : W p l e room_1 s m #[Value.ref b] below meth c H locs 116 20302 (lw_Z below #[Value.ref b] s) (F0 m 610 ls []) := by
  have hA : ∀ q, s.heap.size ≤ q → A q := by rw [hAe]; exact fun _ h => h
  have hbA : ¬ A b := by rw [hAe]; exact Nat.not_le.mpr hbl
  have hRf : room_1.frames = 2048 := rfl
  have hRl : room_1.locals = 84000 := rfl
  have hRc : room_1.cells = 600000 := rfl
  have hRs : room_1.slots = 7302250 := rfl
  obtain ⟨p1, ep1⟩ : ∃ z : Int32, z = xs 1 := ⟨_, rfl⟩
  obtain ⟨p2, ep2⟩ : ∃ z : Int32, z = xs 2 := ⟨_, rfl⟩
  obtain ⟨p3, ep3⟩ : ∃ z : Int32, z = xs 3 := ⟨_, rfl⟩
  obtain ⟨p4, ep4⟩ : ∃ z : Int32, z = xs 4 := ⟨_, rfl⟩
  obtain ⟨p5, ep5⟩ : ∃ z : Int32, z = xs 5 := ⟨_, rfl⟩
  refine lv_aload_n hx hb dL_law_610 rfl (lv_at hl 2 rfl) ?_
  refine lv_aload_n hx hb dL_law_611 rfl (lv_at hl 3 rfl) ?_
  refine lv_iload_n hx hb dL_law_612 rfl (lv_at hl 0 rfl) ?_
  refine lv_iconst (v := 1) hx hb dL_law_613 (by decide) ?_
  refine lv_iadd hx hb dL_law_614 ?_
  refine lv_topi (fun v1 ev1 => ?_)
  obtain rfl : v1 = 1 := ev1.trans (by decide)
  refine va_sld hx hb hX hbl hbA hS (mm_in mm_k1 (by decide)) dL_law_615 ?_
  refine lv_topi (fun v2 ev2 => ?_)
  obtain rfl : p1 = v2 := ep1.trans ev2.symm
  refine lv_aload_n hx hb dL_law_616 rfl (lv_at hl 3 rfl) ?_
  refine lv_iload_n hx hb dL_law_617 rfl (lv_at hl 0 rfl) ?_
  refine lv_iconst (v := 2) hx hb dL_law_618 (by decide) ?_
  refine lv_iadd hx hb dL_law_619 ?_
  refine lv_topi (fun v3 ev3 => ?_)
  obtain rfl : v3 = 2 := ev3.trans (by decide)
  refine va_sld hx hb hX hbl hbA hS (mm_in mm_k2 (by decide)) dL_law_620 ?_
  refine lv_topi (fun v4 ev4 => ?_)
  obtain rfl : p2 = v4 := ep2.trans ev4.symm
  refine lv_aload_n hx hb dL_law_621 rfl (lv_at hl 3 rfl) ?_
  refine lv_iload_n hx hb dL_law_622 rfl (lv_at hl 0 rfl) ?_
  refine lv_iconst (v := 3) hx hb dL_law_623 (by decide) ?_
  refine lv_iadd hx hb dL_law_624 ?_
  refine lv_topi (fun v5 ev5 => ?_)
  obtain rfl : v5 = 3 := ev5.trans (by decide)
  refine va_sld hx hb hX hbl hbA hS (mm_in mm_k3 (by decide)) dL_law_625 ?_
  refine lv_topi (fun v6 ev6 => ?_)
  obtain rfl : p3 = v6 := ep3.trans ev6.symm
  refine mm_finir (va_runV (As := [.int p1, .int p2, .int p3]) (rest := []) ⟨hx, hb, hml, hown, hts⟩ (K132_X11_says l G cy H.size qx p1 p2 p3 (ux 0) (ux 2) (ux 14) (ux 36) (ux 70) (ux 71) (ux 80) (ux 82) (ux 84) (ux 89) (ux 92) (ux 15) (ux 26) 0 0 0 0 0 0 0 (ux 16) (ux 17) (ux 18) (ux 19) (ux 20) (ux 21) (ux 22) (ux 23) (ux 24) (ux 25) ) (cwV 3 hts (mm_gV mm_w717 mm_w718 mm_w719 mm_w2 mm_w720) rfl rfl rfl hd_X11_says ⟨by rw [hRf]; exact Nat.le_of_ble_eq_true rfl, by rw [hRl]; exact Nat.le_of_ble_eq_true rfl⟩) (mm_preV hK hP hD [0, 1, 2] rfl rfl 0 rfl rfl rfl) rfl rfl hl.1 rfl (lv_room (Nat.le_of_ble_eq_true rfl)) dL_law_626 ⟨by rw [hRc]; exact Nat.le_of_ble_eq_true rfl, by rw [hRs]; exact Nat.le_of_ble_eq_true rfl⟩) hP hD hS hA [0, 1, 2] rfl (fun _ => rfl) ?_
  clear hP hD hS
  clear H locs
  intro v7 _u H locs hw hP hD hS
  subst hw
  refine lv_aload_n hx hb dL_law_629 rfl (lv_at hl 1 rfl) ?_
  refine lv_aload_n hx hb dL_law_630 rfl (lv_at hl 3 rfl) ?_
  refine lv_iload_n hx hb dL_law_631 rfl (lv_at hl 0 rfl) ?_
  refine lv_iconst (v := 1) hx hb dL_law_632 (by decide) ?_
  refine lv_iadd hx hb dL_law_633 ?_
  refine lv_topi (fun v8 ev8 => ?_)
  obtain rfl : v8 = 1 := ev8.trans (by decide)
  refine va_sld hx hb hX hbl hbA hS (mm_in mm_k1 (by decide)) dL_law_634 ?_
  refine lv_topi (fun v9 ev9 => ?_)
  obtain rfl : p1 = v9 := ep1.trans ev9.symm
  refine lv_aload_n hx hb dL_law_635 rfl (lv_at hl 3 rfl) ?_
  refine lv_iload_n hx hb dL_law_636 rfl (lv_at hl 0 rfl) ?_
  refine lv_iconst (v := 2) hx hb dL_law_637 (by decide) ?_
  refine lv_iadd hx hb dL_law_638 ?_
  refine lv_topi (fun v10 ev10 => ?_)
  obtain rfl : v10 = 2 := ev10.trans (by decide)
  refine va_sld hx hb hX hbl hbA hS (mm_in mm_k2 (by decide)) dL_law_639 ?_
  refine lv_topi (fun v11 ev11 => ?_)
  obtain rfl : p2 = v11 := ep2.trans ev11.symm
  refine lv_aload_n hx hb dL_law_640 rfl (lv_at hl 3 rfl) ?_
  refine lv_iload_n hx hb dL_law_641 rfl (lv_at hl 0 rfl) ?_
  refine lv_iconst (v := 3) hx hb dL_law_642 (by decide) ?_
  refine lv_iadd hx hb dL_law_643 ?_
  refine lv_topi (fun v12 ev12 => ?_)
  obtain rfl : v12 = 3 := ev12.trans (by decide)
  refine va_sld hx hb hX hbl hbA hS (mm_in mm_k3 (by decide)) dL_law_644 ?_
  refine lv_topi (fun v13 ev13 => ?_)
  obtain rfl : p3 = v13 := ep3.trans ev13.symm
  refine mm_finir (va_runV (As := [.int p1, .int p2, .int p3]) (rest := [.int (-2)]) ⟨hx, hb, hml, hown, hts⟩ (K133_X12_says l G cy H.size qm p1 p2 p3 (um 0) (um 1) (um 2) (um 3) (um 4) 0 0 0 0 0 0 0 0 0 (-1) (um 5) (um 6) (um 7) (um 8) (um 9) (um 10) (um 11) (um 12) (um 13) (um 14) (um 15) (um 16) (um 17) 0 0 0 0 0 0 (um 18) 0 (um 19) ) (cwV 3 hts (mm_gV mm_w731 mm_w732 mm_w733 mm_w5 mm_w734) rfl rfl rfl hd_X12_says ⟨by rw [hRf]; exact Nat.le_of_ble_eq_true rfl, by rw [hRl]; exact Nat.le_of_ble_eq_true rfl⟩) (mm_preV hK hP hD [3, 4] rfl rfl 3 rfl rfl rfl) rfl rfl hl.1 rfl (lv_room (Nat.le_of_ble_eq_true rfl)) dL_law_645 ⟨by rw [hRc]; exact Nat.le_of_ble_eq_true rfl, by rw [hRs]; exact Nat.le_of_ble_eq_true rfl⟩) hP hD hS hA [3, 4] rfl (fun _ => rfl) ?_
  clear hP hD hS
  clear H locs
  intro v14 _u H locs hw hP hD hS
  subst hw
  refine lv_icmp_eq (tgt := 3153) hx hb dL_law_648 (by decide) (fun c15 => ?_) (fun c15 => ?_)
  · refine lv_iinc (v := 6) (lv' := [(3, .int 6), (2, .ref qm), (1, .ref qx), (0, .ref b)]) hx hb dL_law_3153 hl (k := 0) rfl (by decide) (by decide) rfl ?_
    clear hl
    clear ls
    intro ls hl
    refine lv_goto (tgt := 18) hx hb dL_law_3156 (by decide) ?_
    refine lv_iload_n hx hb dL_law_18 rfl (lv_at hl 0 rfl) ?_
    refine lv_aload_n hx hb dL_law_19 rfl (lv_at hl 3 rfl) ?_
    refine va_slen hx hb hX hbl hbA hS dL_law_20 ?_
    refine lv_topi (fun v16 ev16 => ?_)
    obtain rfl : v16 = 6 := ev16.trans (by decide)
    refine lv_bipush (v := 6) hx hb dL_law_21 (by decide) ?_
    refine lv_isub hx hb dL_law_23 ?_
    refine lv_topi (fun v17 ev17 => ?_)
    obtain rfl : v17 = 0 := ev17.trans (by decide)
    refine lv_icmp_gt (tgt := 3159) hx hb dL_law_24 (by decide) (fun c18 => ?_) (fun c18 => ?_)
    · refine lv_iconst (v := 1) hx hb dL_law_3159 (by decide) ?_
      refine va_forget (fun q hq => by have := hS.2.2 q hq; rw [hAe] at this; exact this) ?_
      refine W.widen (k := 600000) (n := 7302250) (Nat.le_of_ble_eq_true rfl) (Nat.le_of_ble_eq_true rfl) ?_
      exact lw_ret hx hb hr hlocks dL_law_3160
    · have q19 := mm_leL (mm_nlt c18) mm_k6 mm_k0
      exact mm_no q19 (by decide)
  · have q20 := mm_neL (lo := (-1)) (mm_ne c15) mm_km2 mm_km2 (by decide) (by decide)
    exact mm_no q20 (by decide)

set_option maxHeartbeats 4000000 in
set_option maxRecDepth 100000 in
theorem lc_9 {p : Program} {e : Env} {s : State} {m : MethodId} {below : List Frame} {meth : Method} {c : Code} {b : Nat} {xs : Nat → Int32} {G : va_G} {cy : Nat → ClassId} {qx qm : Nat} {ux um : Nat → Nat} {H : Heap} {locs : List Loc} {ls : Array Slot} {A : Nat → Prop} (l : Launch) (hx : p.tables.exec = Jvm.exec) (hb : c.code = code) (hr : meth.sig.returnType = ret) (hlocks : meth.locks = false) (hml : c.maxLocals = 4) (hown : s.vm.findClass R_law = some m.cls) (hts : ∀ w ∈ lw_x :: wsL_law, w.before #[Value.ref b] s = true) (hX : va_X b 6 xs s s.heap) (hbl : b < s.heap.size) (hAe : A = fun q => s.heap.size ≤ q) (hK : mm_K G cy s) (hS : va_S A s.heap H locs) (hP : va_P G vwCl [(qx, .inr (11, [.ref (ux 0), .ref (ux 2), .ref (ux 14), .ref (ux 36), .ref (ux 70), .ref (ux 71), .ref (ux 80), .ref (ux 82), .ref (ux 84), .ref (ux 89), .ref (ux 92)])), ((ux 14), .inr (10, [.ref (ux 15), .ref (ux 26)])), ((ux 15), .inr (0, [.int 0, .int 0, .int 0, .int 0, .int 0, .int 0, .int 0, .int 0, .ref (ux 16), .ref (ux 17), .ref (ux 18), .ref (ux 19), .ref (ux 20), .ref (ux 21), .ref (ux 22), .ref (ux 23), .ref (ux 24), .ref (ux 25)])), (qm, .inr (12, [.int 0, .ref (um 0), .ref (um 1), .ref (um 2), .ref (um 3), .ref (um 4), .int 0, .int 0, .int 0, .int 0, .int 0, .long 0, .int 0, .int 0, .int 0, .int (-1), .ref (um 5), .ref (um 6), .ref (um 7), .ref (um 8), .ref (um 9), .ref (um 10), .ref (um 11), .ref (um 12), .ref (um 13), .ref (um 14), .ref (um 15), .ref (um 16), .ref (um 17), .int 0, .int 0, .int 0, .int 0, .int 0, .int 0, .ref (um 18), .int 0, .ref (um 19)])), ((um 6), .inl (cy 1, 30, .inl (fun _ => 0)))] H) (hD : va_D A [(qx, .inr (11, [.ref (ux 0), .ref (ux 2), .ref (ux 14), .ref (ux 36), .ref (ux 70), .ref (ux 71), .ref (ux 80), .ref (ux 82), .ref (ux 84), .ref (ux 89), .ref (ux 92)])), ((ux 14), .inr (10, [.ref (ux 15), .ref (ux 26)])), ((ux 15), .inr (0, [.int 0, .int 0, .int 0, .int 0, .int 0, .int 0, .int 0, .int 0, .ref (ux 16), .ref (ux 17), .ref (ux 18), .ref (ux 19), .ref (ux 20), .ref (ux 21), .ref (ux 22), .ref (ux 23), .ref (ux 24), .ref (ux 25)])), (qm, .inr (12, [.int 0, .ref (um 0), .ref (um 1), .ref (um 2), .ref (um 3), .ref (um 4), .int 0, .int 0, .int 0, .int 0, .int 0, .long 0, .int 0, .int 0, .int 0, .int (-1), .ref (um 5), .ref (um 6), .ref (um 7), .ref (um 8), .ref (um 9), .ref (um 10), .ref (um 11), .ref (um 12), .ref (um 13), .ref (um 14), .ref (um 15), .ref (um 16), .ref (um 17), .int 0, .int 0, .int 0, .int 0, .int 0, .int 0, .ref (um 18), .int 0, .ref (um 19)])), ((um 6), .inl (cy 1, 30, .inl (fun _ => 0)))]) (hl : lv_has ls 4 [(3, .int 0), (2, .ref qm), (1, .ref qx), (0, .ref b)]) : W p l e room_1 s m #[Value.ref b] below meth c H locs 116 20302 (lw_Z below #[Value.ref b] s) (F0 m 653 ls []) := by
  have hA : ∀ q, s.heap.size ≤ q → A q := by rw [hAe]; exact fun _ h => h
  have hbA : ¬ A b := by rw [hAe]; exact Nat.not_le.mpr hbl
  have hRf : room_1.frames = 2048 := rfl
  have hRl : room_1.locals = 84000 := rfl
  have hRc : room_1.cells = 600000 := rfl
  have hRs : room_1.slots = 7302250 := rfl
  obtain ⟨p1, ep1⟩ : ∃ z : Int32, z = xs 1 := ⟨_, rfl⟩
  obtain ⟨p2, ep2⟩ : ∃ z : Int32, z = xs 2 := ⟨_, rfl⟩
  obtain ⟨p3, ep3⟩ : ∃ z : Int32, z = xs 3 := ⟨_, rfl⟩
  obtain ⟨p4, ep4⟩ : ∃ z : Int32, z = xs 4 := ⟨_, rfl⟩
  obtain ⟨p5, ep5⟩ : ∃ z : Int32, z = xs 5 := ⟨_, rfl⟩
  refine lv_aload_n hx hb dL_law_653 rfl (lv_at hl 2 rfl) ?_
  refine lv_aload_n hx hb dL_law_654 rfl (lv_at hl 3 rfl) ?_
  refine lv_iload_n hx hb dL_law_655 rfl (lv_at hl 0 rfl) ?_
  refine lv_iconst (v := 1) hx hb dL_law_656 (by decide) ?_
  refine lv_iadd hx hb dL_law_657 ?_
  refine lv_topi (fun v1 ev1 => ?_)
  obtain rfl : v1 = 1 := ev1.trans (by decide)
  refine va_sld hx hb hX hbl hbA hS (mm_in mm_k1 (by decide)) dL_law_658 ?_
  refine lv_topi (fun v2 ev2 => ?_)
  obtain rfl : p1 = v2 := ep1.trans ev2.symm
  refine mm_finir (va_runV (As := [.int p1]) (rest := []) ⟨hx, hb, hml, hown, hts⟩ (K134_X11_round l G cy H.size qx p1 (ux 0) (ux 2) (ux 14) (ux 36) (ux 70) (ux 71) (ux 80) (ux 82) (ux 84) (ux 89) (ux 92) (ux 15) (ux 26) 0 0 0 0 0 0 0 (ux 16) (ux 17) (ux 18) (ux 19) (ux 20) (ux 21) (ux 22) (ux 23) (ux 24) (ux 25) ) (cwV 1 hts (mm_gV mm_w739 mm_w740 mm_w741 mm_w2 mm_w742) rfl rfl rfl hd_X11_round ⟨by rw [hRf]; exact Nat.le_of_ble_eq_true rfl, by rw [hRl]; exact Nat.le_of_ble_eq_true rfl⟩) (mm_preV hK hP hD [0, 1, 2] rfl rfl 0 rfl rfl rfl) rfl rfl hl.1 rfl (lv_room (Nat.le_of_ble_eq_true rfl)) dL_law_659 ⟨by rw [hRc]; exact Nat.le_of_ble_eq_true rfl, by rw [hRs]; exact Nat.le_of_ble_eq_true rfl⟩) hP hD hS hA [0, 1, 2] rfl (fun _ => rfl) ?_
  clear hP hD hS
  clear H locs
  intro v3 _u H locs hw hP hD hS
  subst hw
  refine lv_aload_n hx hb dL_law_662 rfl (lv_at hl 1 rfl) ?_
  refine lv_aload_n hx hb dL_law_663 rfl (lv_at hl 3 rfl) ?_
  refine lv_iload_n hx hb dL_law_664 rfl (lv_at hl 0 rfl) ?_
  refine lv_iconst (v := 1) hx hb dL_law_665 (by decide) ?_
  refine lv_iadd hx hb dL_law_666 ?_
  refine lv_topi (fun v4 ev4 => ?_)
  obtain rfl : v4 = 1 := ev4.trans (by decide)
  refine va_sld hx hb hX hbl hbA hS (mm_in mm_k1 (by decide)) dL_law_667 ?_
  refine lv_topi (fun v5 ev5 => ?_)
  obtain rfl : p1 = v5 := ep1.trans ev5.symm
  refine mm_finir (va_runV (As := [.int p1]) (rest := [.int (-2)]) ⟨hx, hb, hml, hown, hts⟩ (K135_X12_round l G cy H.size qm p1 (um 0) (um 1) (um 2) (um 3) (um 4) 0 0 0 0 0 0 0 0 0 (-1) (um 5) (um 6) (um 7) (um 8) (um 9) (um 10) (um 11) (um 12) (um 13) (um 14) (um 15) (um 16) (um 17) 0 0 0 0 0 0 (um 18) 0 (um 19) ) (cwV 1 hts (mm_gV mm_w748 mm_w749 mm_w750 mm_w5 mm_w751) rfl rfl rfl hd_X12_round ⟨by rw [hRf]; exact Nat.le_of_ble_eq_true rfl, by rw [hRl]; exact Nat.le_of_ble_eq_true rfl⟩) (mm_preV hK hP hD [3, 4] rfl rfl 3 rfl rfl rfl) rfl rfl hl.1 rfl (lv_room (Nat.le_of_ble_eq_true rfl)) dL_law_668 ⟨by rw [hRc]; exact Nat.le_of_ble_eq_true rfl, by rw [hRs]; exact Nat.le_of_ble_eq_true rfl⟩) hP hD hS hA [3, 4] rfl (fun _ => rfl) ?_
  clear hP hD hS
  clear H locs
  intro v6 _u H locs hw hP hD hS
  subst hw
  refine lv_icmp_eq (tgt := 3153) hx hb dL_law_671 (by decide) (fun c7 => ?_) (fun c7 => ?_)
  · refine lv_iinc (v := 6) (lv' := [(3, .int 6), (2, .ref qm), (1, .ref qx), (0, .ref b)]) hx hb dL_law_3153 hl (k := 0) rfl (by decide) (by decide) rfl ?_
    clear hl
    clear ls
    intro ls hl
    refine lv_goto (tgt := 18) hx hb dL_law_3156 (by decide) ?_
    refine lv_iload_n hx hb dL_law_18 rfl (lv_at hl 0 rfl) ?_
    refine lv_aload_n hx hb dL_law_19 rfl (lv_at hl 3 rfl) ?_
    refine va_slen hx hb hX hbl hbA hS dL_law_20 ?_
    refine lv_topi (fun v8 ev8 => ?_)
    obtain rfl : v8 = 6 := ev8.trans (by decide)
    refine lv_bipush (v := 6) hx hb dL_law_21 (by decide) ?_
    refine lv_isub hx hb dL_law_23 ?_
    refine lv_topi (fun v9 ev9 => ?_)
    obtain rfl : v9 = 0 := ev9.trans (by decide)
    refine lv_icmp_gt (tgt := 3159) hx hb dL_law_24 (by decide) (fun c10 => ?_) (fun c10 => ?_)
    · refine lv_iconst (v := 1) hx hb dL_law_3159 (by decide) ?_
      refine va_forget (fun q hq => by have := hS.2.2 q hq; rw [hAe] at this; exact this) ?_
      refine W.widen (k := 600000) (n := 7302250) (Nat.le_of_ble_eq_true rfl) (Nat.le_of_ble_eq_true rfl) ?_
      exact lw_ret hx hb hr hlocks dL_law_3160
    · have q11 := mm_leL (mm_nlt c10) mm_k6 mm_k0
      exact mm_no q11 (by decide)
  · have q12 := mm_neL (lo := (-1)) (mm_ne c7) mm_km2 mm_km2 (by decide) (by decide)
    exact mm_no q12 (by decide)

set_option maxHeartbeats 4000000 in
set_option maxRecDepth 100000 in
theorem lc_10 {p : Program} {e : Env} {s : State} {m : MethodId} {below : List Frame} {meth : Method} {c : Code} {b : Nat} {xs : Nat → Int32} {G : va_G} {cy : Nat → ClassId} {qx qm : Nat} {ux um : Nat → Nat} {H : Heap} {locs : List Loc} {ls : Array Slot} {A : Nat → Prop} (l : Launch) (hx : p.tables.exec = Jvm.exec) (hb : c.code = code) (hr : meth.sig.returnType = ret) (hlocks : meth.locks = false) (hml : c.maxLocals = 4) (hown : s.vm.findClass R_law = some m.cls) (hts : ∀ w ∈ lw_x :: wsL_law, w.before #[Value.ref b] s = true) (hX : va_X b 6 xs s s.heap) (hbl : b < s.heap.size) (hAe : A = fun q => s.heap.size ≤ q) (hK : mm_K G cy s) (hS : va_S A s.heap H locs) (hP : va_P G vwCl [(qx, .inr (11, [.ref (ux 0), .ref (ux 2), .ref (ux 14), .ref (ux 36), .ref (ux 70), .ref (ux 71), .ref (ux 80), .ref (ux 82), .ref (ux 84), .ref (ux 89), .ref (ux 92)])), ((ux 14), .inr (10, [.ref (ux 15), .ref (ux 26)])), ((ux 15), .inr (0, [.int 0, .int 0, .int 0, .int 0, .int 0, .int 0, .int 0, .int 0, .ref (ux 16), .ref (ux 17), .ref (ux 18), .ref (ux 19), .ref (ux 20), .ref (ux 21), .ref (ux 22), .ref (ux 23), .ref (ux 24), .ref (ux 25)])), (qm, .inr (12, [.int 0, .ref (um 0), .ref (um 1), .ref (um 2), .ref (um 3), .ref (um 4), .int 0, .int 0, .int 0, .int 0, .int 0, .long 0, .int 0, .int 0, .int 0, .int (-1), .ref (um 5), .ref (um 6), .ref (um 7), .ref (um 8), .ref (um 9), .ref (um 10), .ref (um 11), .ref (um 12), .ref (um 13), .ref (um 14), .ref (um 15), .ref (um 16), .ref (um 17), .int 0, .int 0, .int 0, .int 0, .int 0, .int 0, .ref (um 18), .int 0, .ref (um 19)])), ((um 6), .inl (cy 1, 30, .inl (fun _ => 0)))] H) (hD : va_D A [(qx, .inr (11, [.ref (ux 0), .ref (ux 2), .ref (ux 14), .ref (ux 36), .ref (ux 70), .ref (ux 71), .ref (ux 80), .ref (ux 82), .ref (ux 84), .ref (ux 89), .ref (ux 92)])), ((ux 14), .inr (10, [.ref (ux 15), .ref (ux 26)])), ((ux 15), .inr (0, [.int 0, .int 0, .int 0, .int 0, .int 0, .int 0, .int 0, .int 0, .ref (ux 16), .ref (ux 17), .ref (ux 18), .ref (ux 19), .ref (ux 20), .ref (ux 21), .ref (ux 22), .ref (ux 23), .ref (ux 24), .ref (ux 25)])), (qm, .inr (12, [.int 0, .ref (um 0), .ref (um 1), .ref (um 2), .ref (um 3), .ref (um 4), .int 0, .int 0, .int 0, .int 0, .int 0, .long 0, .int 0, .int 0, .int 0, .int (-1), .ref (um 5), .ref (um 6), .ref (um 7), .ref (um 8), .ref (um 9), .ref (um 10), .ref (um 11), .ref (um 12), .ref (um 13), .ref (um 14), .ref (um 15), .ref (um 16), .ref (um 17), .int 0, .int 0, .int 0, .int 0, .int 0, .int 0, .ref (um 18), .int 0, .ref (um 19)])), ((um 6), .inl (cy 1, 30, .inl (fun _ => 0)))]) (hl : lv_has ls 4 [(3, .int 0), (2, .ref qm), (1, .ref qx), (0, .ref b)]) : W p l e room_1 s m #[Value.ref b] below meth c H locs 116 20302 (lw_Z below #[Value.ref b] s) (F0 m 676 ls []) := by
  have hA : ∀ q, s.heap.size ≤ q → A q := by rw [hAe]; exact fun _ h => h
  have hbA : ¬ A b := by rw [hAe]; exact Nat.not_le.mpr hbl
  have hRf : room_1.frames = 2048 := rfl
  have hRl : room_1.locals = 84000 := rfl
  have hRc : room_1.cells = 600000 := rfl
  have hRs : room_1.slots = 7302250 := rfl
  obtain ⟨p1, ep1⟩ : ∃ z : Int32, z = xs 1 := ⟨_, rfl⟩
  obtain ⟨p2, ep2⟩ : ∃ z : Int32, z = xs 2 := ⟨_, rfl⟩
  obtain ⟨p3, ep3⟩ : ∃ z : Int32, z = xs 3 := ⟨_, rfl⟩
  obtain ⟨p4, ep4⟩ : ∃ z : Int32, z = xs 4 := ⟨_, rfl⟩
  obtain ⟨p5, ep5⟩ : ∃ z : Int32, z = xs 5 := ⟨_, rfl⟩
  refine lv_aload_n hx hb dL_law_676 rfl (lv_at hl 2 rfl) ?_
  refine lv_aload_n hx hb dL_law_677 rfl (lv_at hl 3 rfl) ?_
  refine lv_iload_n hx hb dL_law_678 rfl (lv_at hl 0 rfl) ?_
  refine lv_iconst (v := 1) hx hb dL_law_679 (by decide) ?_
  refine lv_iadd hx hb dL_law_680 ?_
  refine lv_topi (fun v1 ev1 => ?_)
  obtain rfl : v1 = 1 := ev1.trans (by decide)
  refine va_sld hx hb hX hbl hbA hS (mm_in mm_k1 (by decide)) dL_law_681 ?_
  refine lv_topi (fun v2 ev2 => ?_)
  obtain rfl : p1 = v2 := ep1.trans ev2.symm
  refine lv_aload_n hx hb dL_law_682 rfl (lv_at hl 3 rfl) ?_
  refine lv_iload_n hx hb dL_law_683 rfl (lv_at hl 0 rfl) ?_
  refine lv_iconst (v := 2) hx hb dL_law_684 (by decide) ?_
  refine lv_iadd hx hb dL_law_685 ?_
  refine lv_topi (fun v3 ev3 => ?_)
  obtain rfl : v3 = 2 := ev3.trans (by decide)
  refine va_sld hx hb hX hbl hbA hS (mm_in mm_k2 (by decide)) dL_law_686 ?_
  refine lv_topi (fun v4 ev4 => ?_)
  obtain rfl : p2 = v4 := ep2.trans ev4.symm
  refine lv_aload_n hx hb dL_law_687 rfl (lv_at hl 3 rfl) ?_
  refine lv_iload_n hx hb dL_law_688 rfl (lv_at hl 0 rfl) ?_
  refine lv_iconst (v := 3) hx hb dL_law_689 (by decide) ?_
  refine lv_iadd hx hb dL_law_690 ?_
  refine lv_topi (fun v5 ev5 => ?_)
  obtain rfl : v5 = 3 := ev5.trans (by decide)
  refine va_sld hx hb hX hbl hbA hS (mm_in mm_k3 (by decide)) dL_law_691 ?_
  refine lv_topi (fun v6 ev6 => ?_)
  obtain rfl : p3 = v6 := ep3.trans ev6.symm
  refine lv_aload_n hx hb dL_law_692 rfl (lv_at hl 3 rfl) ?_
  refine lv_iload_n hx hb dL_law_693 rfl (lv_at hl 0 rfl) ?_
  refine lv_iconst (v := 4) hx hb dL_law_694 (by decide) ?_
  refine lv_iadd hx hb dL_law_695 ?_
  refine lv_topi (fun v7 ev7 => ?_)
  obtain rfl : v7 = 4 := ev7.trans (by decide)
  refine va_sld hx hb hX hbl hbA hS (mm_in mm_k4 (by decide)) dL_law_696 ?_
  refine lv_topi (fun v8 ev8 => ?_)
  obtain rfl : p4 = v8 := ep4.trans ev8.symm
  refine mm_finir (va_runV (As := [.int p1, .int p2, .int p3, .int p4]) (rest := []) ⟨hx, hb, hml, hown, hts⟩ (K136_X11_when l G cy H.size qx p1 p2 p3 p4 (ux 0) (ux 2) (ux 14) (ux 36) (ux 70) (ux 71) (ux 80) (ux 82) (ux 84) (ux 89) (ux 92) (ux 15) (ux 26) 0 0 0 0 0 0 0 (ux 16) (ux 17) (ux 18) (ux 19) (ux 20) (ux 21) (ux 22) (ux 23) (ux 24) (ux 25) ) (cwV 4 hts (mm_gV mm_w752 mm_w753 mm_w754 mm_w2 mm_w755) rfl rfl rfl hd_X11_when ⟨by rw [hRf]; exact Nat.le_of_ble_eq_true rfl, by rw [hRl]; exact Nat.le_of_ble_eq_true rfl⟩) (mm_preV hK hP hD [0, 1, 2] rfl rfl 0 rfl rfl rfl) rfl rfl hl.1 rfl (lv_room (Nat.le_of_ble_eq_true rfl)) dL_law_697 ⟨by rw [hRc]; exact Nat.le_of_ble_eq_true rfl, by rw [hRs]; exact Nat.le_of_ble_eq_true rfl⟩) hP hD hS hA [0, 1, 2] rfl (fun _ => rfl) ?_
  clear hP hD hS
  clear H locs
  intro v9 _u H locs hw hP hD hS
  subst hw
  refine lv_aload_n hx hb dL_law_700 rfl (lv_at hl 1 rfl) ?_
  refine lv_aload_n hx hb dL_law_701 rfl (lv_at hl 3 rfl) ?_
  refine lv_iload_n hx hb dL_law_702 rfl (lv_at hl 0 rfl) ?_
  refine lv_iconst (v := 1) hx hb dL_law_703 (by decide) ?_
  refine lv_iadd hx hb dL_law_704 ?_
  refine lv_topi (fun v10 ev10 => ?_)
  obtain rfl : v10 = 1 := ev10.trans (by decide)
  refine va_sld hx hb hX hbl hbA hS (mm_in mm_k1 (by decide)) dL_law_705 ?_
  refine lv_topi (fun v11 ev11 => ?_)
  obtain rfl : p1 = v11 := ep1.trans ev11.symm
  refine lv_aload_n hx hb dL_law_706 rfl (lv_at hl 3 rfl) ?_
  refine lv_iload_n hx hb dL_law_707 rfl (lv_at hl 0 rfl) ?_
  refine lv_iconst (v := 2) hx hb dL_law_708 (by decide) ?_
  refine lv_iadd hx hb dL_law_709 ?_
  refine lv_topi (fun v12 ev12 => ?_)
  obtain rfl : v12 = 2 := ev12.trans (by decide)
  refine va_sld hx hb hX hbl hbA hS (mm_in mm_k2 (by decide)) dL_law_710 ?_
  refine lv_topi (fun v13 ev13 => ?_)
  obtain rfl : p2 = v13 := ep2.trans ev13.symm
  refine lv_aload_n hx hb dL_law_711 rfl (lv_at hl 3 rfl) ?_
  refine lv_iload_n hx hb dL_law_712 rfl (lv_at hl 0 rfl) ?_
  refine lv_iconst (v := 3) hx hb dL_law_713 (by decide) ?_
  refine lv_iadd hx hb dL_law_714 ?_
  refine lv_topi (fun v14 ev14 => ?_)
  obtain rfl : v14 = 3 := ev14.trans (by decide)
  refine va_sld hx hb hX hbl hbA hS (mm_in mm_k3 (by decide)) dL_law_715 ?_
  refine lv_topi (fun v15 ev15 => ?_)
  obtain rfl : p3 = v15 := ep3.trans ev15.symm
  refine lv_aload_n hx hb dL_law_716 rfl (lv_at hl 3 rfl) ?_
  refine lv_iload_n hx hb dL_law_717 rfl (lv_at hl 0 rfl) ?_
  refine lv_iconst (v := 4) hx hb dL_law_718 (by decide) ?_
  refine lv_iadd hx hb dL_law_719 ?_
  refine lv_topi (fun v16 ev16 => ?_)
  obtain rfl : v16 = 4 := ev16.trans (by decide)
  refine va_sld hx hb hX hbl hbA hS (mm_in mm_k4 (by decide)) dL_law_720 ?_
  refine lv_topi (fun v17 ev17 => ?_)
  obtain rfl : p4 = v17 := ep4.trans ev17.symm
  refine mm_finir (va_runV (As := [.int p1, .int p2, .int p3, .int p4]) (rest := [.int (-2)]) ⟨hx, hb, hml, hown, hts⟩ (K137_X12_when l G cy H.size qm p1 p2 p3 p4 (um 0) (um 1) (um 2) (um 3) (um 4) 0 0 0 0 0 0 0 0 0 (-1) (um 5) (um 6) (um 7) (um 8) (um 9) (um 10) (um 11) (um 12) (um 13) (um 14) (um 15) (um 16) (um 17) 0 0 0 0 0 0 (um 18) 0 (um 19) ) (cwV 4 hts (mm_gV mm_w756 mm_w757 mm_w758 mm_w5 mm_w759) rfl rfl rfl hd_X12_when ⟨by rw [hRf]; exact Nat.le_of_ble_eq_true rfl, by rw [hRl]; exact Nat.le_of_ble_eq_true rfl⟩) (mm_preV hK hP hD [3, 4] rfl rfl 3 rfl rfl rfl) rfl rfl hl.1 rfl (lv_room (Nat.le_of_ble_eq_true rfl)) dL_law_721 ⟨by rw [hRc]; exact Nat.le_of_ble_eq_true rfl, by rw [hRs]; exact Nat.le_of_ble_eq_true rfl⟩) hP hD hS hA [3, 4] rfl (fun _ => rfl) ?_
  clear hP hD hS
  clear H locs
  intro v18 _u H locs hw hP hD hS
  subst hw
  refine lv_icmp_eq (tgt := 3153) hx hb dL_law_724 (by decide) (fun c19 => ?_) (fun c19 => ?_)
  · refine lv_iinc (v := 6) (lv' := [(3, .int 6), (2, .ref qm), (1, .ref qx), (0, .ref b)]) hx hb dL_law_3153 hl (k := 0) rfl (by decide) (by decide) rfl ?_
    clear hl
    clear ls
    intro ls hl
    refine lv_goto (tgt := 18) hx hb dL_law_3156 (by decide) ?_
    refine lv_iload_n hx hb dL_law_18 rfl (lv_at hl 0 rfl) ?_
    refine lv_aload_n hx hb dL_law_19 rfl (lv_at hl 3 rfl) ?_
    refine va_slen hx hb hX hbl hbA hS dL_law_20 ?_
    refine lv_topi (fun v20 ev20 => ?_)
    obtain rfl : v20 = 6 := ev20.trans (by decide)
    refine lv_bipush (v := 6) hx hb dL_law_21 (by decide) ?_
    refine lv_isub hx hb dL_law_23 ?_
    refine lv_topi (fun v21 ev21 => ?_)
    obtain rfl : v21 = 0 := ev21.trans (by decide)
    refine lv_icmp_gt (tgt := 3159) hx hb dL_law_24 (by decide) (fun c22 => ?_) (fun c22 => ?_)
    · refine lv_iconst (v := 1) hx hb dL_law_3159 (by decide) ?_
      refine va_forget (fun q hq => by have := hS.2.2 q hq; rw [hAe] at this; exact this) ?_
      refine W.widen (k := 600000) (n := 7302250) (Nat.le_of_ble_eq_true rfl) (Nat.le_of_ble_eq_true rfl) ?_
      exact lw_ret hx hb hr hlocks dL_law_3160
    · have q23 := mm_leL (mm_nlt c22) mm_k6 mm_k0
      exact mm_no q23 (by decide)
  · have q24 := mm_neL (lo := (-1)) (mm_ne c19) mm_km2 mm_km2 (by decide) (by decide)
    exact mm_no q24 (by decide)

set_option maxHeartbeats 4000000 in
set_option maxRecDepth 100000 in
theorem lc_11 {p : Program} {e : Env} {s : State} {m : MethodId} {below : List Frame} {meth : Method} {c : Code} {b : Nat} {xs : Nat → Int32} {G : va_G} {cy : Nat → ClassId} {qx qm : Nat} {ux um : Nat → Nat} {H : Heap} {locs : List Loc} {ls : Array Slot} {A : Nat → Prop} (l : Launch) (hx : p.tables.exec = Jvm.exec) (hb : c.code = code) (hr : meth.sig.returnType = ret) (hlocks : meth.locks = false) (hml : c.maxLocals = 4) (hown : s.vm.findClass R_law = some m.cls) (hts : ∀ w ∈ lw_x :: wsL_law, w.before #[Value.ref b] s = true) (hX : va_X b 6 xs s s.heap) (hbl : b < s.heap.size) (hAe : A = fun q => s.heap.size ≤ q) (hK : mm_K G cy s) (hS : va_S A s.heap H locs) (hP : va_P G vwCl [(qx, .inr (11, [.ref (ux 0), .ref (ux 2), .ref (ux 14), .ref (ux 36), .ref (ux 70), .ref (ux 71), .ref (ux 80), .ref (ux 82), .ref (ux 84), .ref (ux 89), .ref (ux 92)])), ((ux 14), .inr (10, [.ref (ux 15), .ref (ux 26)])), ((ux 15), .inr (0, [.int 0, .int 0, .int 0, .int 0, .int 0, .int 0, .int 0, .int 0, .ref (ux 16), .ref (ux 17), .ref (ux 18), .ref (ux 19), .ref (ux 20), .ref (ux 21), .ref (ux 22), .ref (ux 23), .ref (ux 24), .ref (ux 25)])), (qm, .inr (12, [.int 0, .ref (um 0), .ref (um 1), .ref (um 2), .ref (um 3), .ref (um 4), .int 0, .int 0, .int 0, .int 0, .int 0, .long 0, .int 0, .int 0, .int 0, .int (-1), .ref (um 5), .ref (um 6), .ref (um 7), .ref (um 8), .ref (um 9), .ref (um 10), .ref (um 11), .ref (um 12), .ref (um 13), .ref (um 14), .ref (um 15), .ref (um 16), .ref (um 17), .int 0, .int 0, .int 0, .int 0, .int 0, .int 0, .ref (um 18), .int 0, .ref (um 19)])), ((um 6), .inl (cy 1, 30, .inl (fun _ => 0)))] H) (hD : va_D A [(qx, .inr (11, [.ref (ux 0), .ref (ux 2), .ref (ux 14), .ref (ux 36), .ref (ux 70), .ref (ux 71), .ref (ux 80), .ref (ux 82), .ref (ux 84), .ref (ux 89), .ref (ux 92)])), ((ux 14), .inr (10, [.ref (ux 15), .ref (ux 26)])), ((ux 15), .inr (0, [.int 0, .int 0, .int 0, .int 0, .int 0, .int 0, .int 0, .int 0, .ref (ux 16), .ref (ux 17), .ref (ux 18), .ref (ux 19), .ref (ux 20), .ref (ux 21), .ref (ux 22), .ref (ux 23), .ref (ux 24), .ref (ux 25)])), (qm, .inr (12, [.int 0, .ref (um 0), .ref (um 1), .ref (um 2), .ref (um 3), .ref (um 4), .int 0, .int 0, .int 0, .int 0, .int 0, .long 0, .int 0, .int 0, .int 0, .int (-1), .ref (um 5), .ref (um 6), .ref (um 7), .ref (um 8), .ref (um 9), .ref (um 10), .ref (um 11), .ref (um 12), .ref (um 13), .ref (um 14), .ref (um 15), .ref (um 16), .ref (um 17), .int 0, .int 0, .int 0, .int 0, .int 0, .int 0, .ref (um 18), .int 0, .ref (um 19)])), ((um 6), .inl (cy 1, 30, .inl (fun _ => 0)))]) (hl : lv_has ls 4 [(3, .int 0), (2, .ref qm), (1, .ref qx), (0, .ref b)]) : W p l e room_1 s m #[Value.ref b] below meth c H locs 116 20302 (lw_Z below #[Value.ref b] s) (F0 m 729 ls []) := by
  have hA : ∀ q, s.heap.size ≤ q → A q := by rw [hAe]; exact fun _ h => h
  have hbA : ¬ A b := by rw [hAe]; exact Nat.not_le.mpr hbl
  have hRf : room_1.frames = 2048 := rfl
  have hRl : room_1.locals = 84000 := rfl
  have hRc : room_1.cells = 600000 := rfl
  have hRs : room_1.slots = 7302250 := rfl
  obtain ⟨p1, ep1⟩ : ∃ z : Int32, z = xs 1 := ⟨_, rfl⟩
  obtain ⟨p2, ep2⟩ : ∃ z : Int32, z = xs 2 := ⟨_, rfl⟩
  obtain ⟨p3, ep3⟩ : ∃ z : Int32, z = xs 3 := ⟨_, rfl⟩
  obtain ⟨p4, ep4⟩ : ∃ z : Int32, z = xs 4 := ⟨_, rfl⟩
  obtain ⟨p5, ep5⟩ : ∃ z : Int32, z = xs 5 := ⟨_, rfl⟩
  refine lv_aload_n hx hb dL_law_729 rfl (lv_at hl 2 rfl) ?_
  refine lv_aload_n hx hb dL_law_730 rfl (lv_at hl 3 rfl) ?_
  refine lv_iload_n hx hb dL_law_731 rfl (lv_at hl 0 rfl) ?_
  refine lv_iconst (v := 1) hx hb dL_law_732 (by decide) ?_
  refine lv_iadd hx hb dL_law_733 ?_
  refine lv_topi (fun v1 ev1 => ?_)
  obtain rfl : v1 = 1 := ev1.trans (by decide)
  refine va_sld hx hb hX hbl hbA hS (mm_in mm_k1 (by decide)) dL_law_734 ?_
  refine lv_topi (fun v2 ev2 => ?_)
  obtain rfl : p1 = v2 := ep1.trans ev2.symm
  refine lv_aload_n hx hb dL_law_735 rfl (lv_at hl 3 rfl) ?_
  refine lv_iload_n hx hb dL_law_736 rfl (lv_at hl 0 rfl) ?_
  refine lv_iconst (v := 2) hx hb dL_law_737 (by decide) ?_
  refine lv_iadd hx hb dL_law_738 ?_
  refine lv_topi (fun v3 ev3 => ?_)
  obtain rfl : v3 = 2 := ev3.trans (by decide)
  refine va_sld hx hb hX hbl hbA hS (mm_in mm_k2 (by decide)) dL_law_739 ?_
  refine lv_topi (fun v4 ev4 => ?_)
  obtain rfl : p2 = v4 := ep2.trans ev4.symm
  refine lv_aload_n hx hb dL_law_740 rfl (lv_at hl 3 rfl) ?_
  refine lv_iload_n hx hb dL_law_741 rfl (lv_at hl 0 rfl) ?_
  refine lv_iconst (v := 3) hx hb dL_law_742 (by decide) ?_
  refine lv_iadd hx hb dL_law_743 ?_
  refine lv_topi (fun v5 ev5 => ?_)
  obtain rfl : v5 = 3 := ev5.trans (by decide)
  refine va_sld hx hb hX hbl hbA hS (mm_in mm_k3 (by decide)) dL_law_744 ?_
  refine lv_topi (fun v6 ev6 => ?_)
  obtain rfl : p3 = v6 := ep3.trans ev6.symm
  refine mm_finir (va_runV (As := [.int p1, .int p2, .int p3]) (rest := []) ⟨hx, hb, hml, hown, hts⟩ (K138_X11_often l G cy H.size qx p1 p2 p3 (ux 0) (ux 2) (ux 14) (ux 36) (ux 70) (ux 71) (ux 80) (ux 82) (ux 84) (ux 89) (ux 92) (ux 15) (ux 26) 0 0 0 0 0 0 0 (ux 16) (ux 17) (ux 18) (ux 19) (ux 20) (ux 21) (ux 22) (ux 23) (ux 24) (ux 25) ) (cwV 3 hts (mm_gV mm_w760 mm_w761 mm_w762 mm_w2 mm_w763) rfl rfl rfl hd_X11_often ⟨by rw [hRf]; exact Nat.le_of_ble_eq_true rfl, by rw [hRl]; exact Nat.le_of_ble_eq_true rfl⟩) (mm_preV hK hP hD [0, 1, 2] rfl rfl 0 rfl rfl rfl) rfl rfl hl.1 rfl (lv_room (Nat.le_of_ble_eq_true rfl)) dL_law_745 ⟨by rw [hRc]; exact Nat.le_of_ble_eq_true rfl, by rw [hRs]; exact Nat.le_of_ble_eq_true rfl⟩) hP hD hS hA [0, 1, 2] rfl (fun _ => rfl) ?_
  clear hP hD hS
  clear H locs
  intro v7 _u H locs hw hP hD hS
  subst hw
  refine lv_aload_n hx hb dL_law_748 rfl (lv_at hl 1 rfl) ?_
  refine lv_aload_n hx hb dL_law_749 rfl (lv_at hl 3 rfl) ?_
  refine lv_iload_n hx hb dL_law_750 rfl (lv_at hl 0 rfl) ?_
  refine lv_iconst (v := 1) hx hb dL_law_751 (by decide) ?_
  refine lv_iadd hx hb dL_law_752 ?_
  refine lv_topi (fun v8 ev8 => ?_)
  obtain rfl : v8 = 1 := ev8.trans (by decide)
  refine va_sld hx hb hX hbl hbA hS (mm_in mm_k1 (by decide)) dL_law_753 ?_
  refine lv_topi (fun v9 ev9 => ?_)
  obtain rfl : p1 = v9 := ep1.trans ev9.symm
  refine lv_aload_n hx hb dL_law_754 rfl (lv_at hl 3 rfl) ?_
  refine lv_iload_n hx hb dL_law_755 rfl (lv_at hl 0 rfl) ?_
  refine lv_iconst (v := 2) hx hb dL_law_756 (by decide) ?_
  refine lv_iadd hx hb dL_law_757 ?_
  refine lv_topi (fun v10 ev10 => ?_)
  obtain rfl : v10 = 2 := ev10.trans (by decide)
  refine va_sld hx hb hX hbl hbA hS (mm_in mm_k2 (by decide)) dL_law_758 ?_
  refine lv_topi (fun v11 ev11 => ?_)
  obtain rfl : p2 = v11 := ep2.trans ev11.symm
  refine lv_aload_n hx hb dL_law_759 rfl (lv_at hl 3 rfl) ?_
  refine lv_iload_n hx hb dL_law_760 rfl (lv_at hl 0 rfl) ?_
  refine lv_iconst (v := 3) hx hb dL_law_761 (by decide) ?_
  refine lv_iadd hx hb dL_law_762 ?_
  refine lv_topi (fun v12 ev12 => ?_)
  obtain rfl : v12 = 3 := ev12.trans (by decide)
  refine va_sld hx hb hX hbl hbA hS (mm_in mm_k3 (by decide)) dL_law_763 ?_
  refine lv_topi (fun v13 ev13 => ?_)
  obtain rfl : p3 = v13 := ep3.trans ev13.symm
  refine mm_finir (va_runV (As := [.int p1, .int p2, .int p3]) (rest := [.int (-2)]) ⟨hx, hb, hml, hown, hts⟩ (K139_X12_often l G cy H.size qm p1 p2 p3 (um 0) (um 1) (um 2) (um 3) (um 4) 0 0 0 0 0 0 0 0 0 (-1) (um 5) (um 6) (um 7) (um 8) (um 9) (um 10) (um 11) (um 12) (um 13) (um 14) (um 15) (um 16) (um 17) 0 0 0 0 0 0 (um 18) 0 (um 19) ) (cwV 3 hts (mm_gV mm_w769 mm_w770 mm_w771 mm_w5 mm_w772) rfl rfl rfl hd_X12_often ⟨by rw [hRf]; exact Nat.le_of_ble_eq_true rfl, by rw [hRl]; exact Nat.le_of_ble_eq_true rfl⟩) (mm_preV hK hP hD [3, 4] rfl rfl 3 rfl rfl rfl) rfl rfl hl.1 rfl (lv_room (Nat.le_of_ble_eq_true rfl)) dL_law_764 ⟨by rw [hRc]; exact Nat.le_of_ble_eq_true rfl, by rw [hRs]; exact Nat.le_of_ble_eq_true rfl⟩) hP hD hS hA [3, 4] rfl (fun _ => rfl) ?_
  clear hP hD hS
  clear H locs
  intro v14 _u H locs hw hP hD hS
  subst hw
  refine lv_icmp_eq (tgt := 3153) hx hb dL_law_767 (by decide) (fun c15 => ?_) (fun c15 => ?_)
  · refine lv_iinc (v := 6) (lv' := [(3, .int 6), (2, .ref qm), (1, .ref qx), (0, .ref b)]) hx hb dL_law_3153 hl (k := 0) rfl (by decide) (by decide) rfl ?_
    clear hl
    clear ls
    intro ls hl
    refine lv_goto (tgt := 18) hx hb dL_law_3156 (by decide) ?_
    refine lv_iload_n hx hb dL_law_18 rfl (lv_at hl 0 rfl) ?_
    refine lv_aload_n hx hb dL_law_19 rfl (lv_at hl 3 rfl) ?_
    refine va_slen hx hb hX hbl hbA hS dL_law_20 ?_
    refine lv_topi (fun v16 ev16 => ?_)
    obtain rfl : v16 = 6 := ev16.trans (by decide)
    refine lv_bipush (v := 6) hx hb dL_law_21 (by decide) ?_
    refine lv_isub hx hb dL_law_23 ?_
    refine lv_topi (fun v17 ev17 => ?_)
    obtain rfl : v17 = 0 := ev17.trans (by decide)
    refine lv_icmp_gt (tgt := 3159) hx hb dL_law_24 (by decide) (fun c18 => ?_) (fun c18 => ?_)
    · refine lv_iconst (v := 1) hx hb dL_law_3159 (by decide) ?_
      refine va_forget (fun q hq => by have := hS.2.2 q hq; rw [hAe] at this; exact this) ?_
      refine W.widen (k := 600000) (n := 7302250) (Nat.le_of_ble_eq_true rfl) (Nat.le_of_ble_eq_true rfl) ?_
      exact lw_ret hx hb hr hlocks dL_law_3160
    · have q19 := mm_leL (mm_nlt c18) mm_k6 mm_k0
      exact mm_no q19 (by decide)
  · have q20 := mm_neL (lo := (-1)) (mm_ne c15) mm_km2 mm_km2 (by decide) (by decide)
    exact mm_no q20 (by decide)

set_option maxHeartbeats 4000000 in
set_option maxRecDepth 100000 in
theorem lc_12 {p : Program} {e : Env} {s : State} {m : MethodId} {below : List Frame} {meth : Method} {c : Code} {b : Nat} {xs : Nat → Int32} {G : va_G} {cy : Nat → ClassId} {qx qm : Nat} {ux um : Nat → Nat} {H : Heap} {locs : List Loc} {ls : Array Slot} {A : Nat → Prop} (l : Launch) (hx : p.tables.exec = Jvm.exec) (hb : c.code = code) (hr : meth.sig.returnType = ret) (hlocks : meth.locks = false) (hml : c.maxLocals = 4) (hown : s.vm.findClass R_law = some m.cls) (hts : ∀ w ∈ lw_x :: wsL_law, w.before #[Value.ref b] s = true) (hX : va_X b 6 xs s s.heap) (hbl : b < s.heap.size) (hAe : A = fun q => s.heap.size ≤ q) (hK : mm_K G cy s) (hS : va_S A s.heap H locs) (hP : va_P G vwCl [(qx, .inr (11, [.ref (ux 0), .ref (ux 2), .ref (ux 14), .ref (ux 36), .ref (ux 70), .ref (ux 71), .ref (ux 80), .ref (ux 82), .ref (ux 84), .ref (ux 89), .ref (ux 92)])), ((ux 14), .inr (10, [.ref (ux 15), .ref (ux 26)])), ((ux 15), .inr (0, [.int 0, .int 0, .int 0, .int 0, .int 0, .int 0, .int 0, .int 0, .ref (ux 16), .ref (ux 17), .ref (ux 18), .ref (ux 19), .ref (ux 20), .ref (ux 21), .ref (ux 22), .ref (ux 23), .ref (ux 24), .ref (ux 25)])), (qm, .inr (12, [.int 0, .ref (um 0), .ref (um 1), .ref (um 2), .ref (um 3), .ref (um 4), .int 0, .int 0, .int 0, .int 0, .int 0, .long 0, .int 0, .int 0, .int 0, .int (-1), .ref (um 5), .ref (um 6), .ref (um 7), .ref (um 8), .ref (um 9), .ref (um 10), .ref (um 11), .ref (um 12), .ref (um 13), .ref (um 14), .ref (um 15), .ref (um 16), .ref (um 17), .int 0, .int 0, .int 0, .int 0, .int 0, .int 0, .ref (um 18), .int 0, .ref (um 19)])), ((um 6), .inl (cy 1, 30, .inl (fun _ => 0)))] H) (hD : va_D A [(qx, .inr (11, [.ref (ux 0), .ref (ux 2), .ref (ux 14), .ref (ux 36), .ref (ux 70), .ref (ux 71), .ref (ux 80), .ref (ux 82), .ref (ux 84), .ref (ux 89), .ref (ux 92)])), ((ux 14), .inr (10, [.ref (ux 15), .ref (ux 26)])), ((ux 15), .inr (0, [.int 0, .int 0, .int 0, .int 0, .int 0, .int 0, .int 0, .int 0, .ref (ux 16), .ref (ux 17), .ref (ux 18), .ref (ux 19), .ref (ux 20), .ref (ux 21), .ref (ux 22), .ref (ux 23), .ref (ux 24), .ref (ux 25)])), (qm, .inr (12, [.int 0, .ref (um 0), .ref (um 1), .ref (um 2), .ref (um 3), .ref (um 4), .int 0, .int 0, .int 0, .int 0, .int 0, .long 0, .int 0, .int 0, .int 0, .int (-1), .ref (um 5), .ref (um 6), .ref (um 7), .ref (um 8), .ref (um 9), .ref (um 10), .ref (um 11), .ref (um 12), .ref (um 13), .ref (um 14), .ref (um 15), .ref (um 16), .ref (um 17), .int 0, .int 0, .int 0, .int 0, .int 0, .int 0, .ref (um 18), .int 0, .ref (um 19)])), ((um 6), .inl (cy 1, 30, .inl (fun _ => 0)))]) (hl : lv_has ls 4 [(3, .int 0), (2, .ref qm), (1, .ref qx), (0, .ref b)]) : W p l e room_1 s m #[Value.ref b] below meth c H locs 116 20302 (lw_Z below #[Value.ref b] s) (F0 m 772 ls []) := by
  have hA : ∀ q, s.heap.size ≤ q → A q := by rw [hAe]; exact fun _ h => h
  have hbA : ¬ A b := by rw [hAe]; exact Nat.not_le.mpr hbl
  have hRf : room_1.frames = 2048 := rfl
  have hRl : room_1.locals = 84000 := rfl
  have hRc : room_1.cells = 600000 := rfl
  have hRs : room_1.slots = 7302250 := rfl
  obtain ⟨p1, ep1⟩ : ∃ z : Int32, z = xs 1 := ⟨_, rfl⟩
  obtain ⟨p2, ep2⟩ : ∃ z : Int32, z = xs 2 := ⟨_, rfl⟩
  obtain ⟨p3, ep3⟩ : ∃ z : Int32, z = xs 3 := ⟨_, rfl⟩
  obtain ⟨p4, ep4⟩ : ∃ z : Int32, z = xs 4 := ⟨_, rfl⟩
  obtain ⟨p5, ep5⟩ : ∃ z : Int32, z = xs 5 := ⟨_, rfl⟩
  refine lv_aload_n hx hb dL_law_772 rfl (lv_at hl 2 rfl) ?_
  refine lv_aload_n hx hb dL_law_773 rfl (lv_at hl 3 rfl) ?_
  refine lv_iload_n hx hb dL_law_774 rfl (lv_at hl 0 rfl) ?_
  refine lv_iconst (v := 1) hx hb dL_law_775 (by decide) ?_
  refine lv_iadd hx hb dL_law_776 ?_
  refine lv_topi (fun v1 ev1 => ?_)
  obtain rfl : v1 = 1 := ev1.trans (by decide)
  refine va_sld hx hb hX hbl hbA hS (mm_in mm_k1 (by decide)) dL_law_777 ?_
  refine lv_topi (fun v2 ev2 => ?_)
  obtain rfl : p1 = v2 := ep1.trans ev2.symm
  refine lv_aload_n hx hb dL_law_778 rfl (lv_at hl 3 rfl) ?_
  refine lv_iload_n hx hb dL_law_779 rfl (lv_at hl 0 rfl) ?_
  refine lv_iconst (v := 2) hx hb dL_law_780 (by decide) ?_
  refine lv_iadd hx hb dL_law_781 ?_
  refine lv_topi (fun v3 ev3 => ?_)
  obtain rfl : v3 = 2 := ev3.trans (by decide)
  refine va_sld hx hb hX hbl hbA hS (mm_in mm_k2 (by decide)) dL_law_782 ?_
  refine lv_topi (fun v4 ev4 => ?_)
  obtain rfl : p2 = v4 := ep2.trans ev4.symm
  refine mm_finir (va_runV (As := [.int p1, .int p2]) (rest := []) ⟨hx, hb, hml, hown, hts⟩ (K140_X11_may l G cy H.size qx p1 p2 (ux 0) (ux 2) (ux 14) (ux 36) (ux 70) (ux 71) (ux 80) (ux 82) (ux 84) (ux 89) (ux 92) (ux 15) (ux 26) 0 0 0 0 0 0 0 (ux 16) (ux 17) (ux 18) (ux 19) (ux 20) (ux 21) (ux 22) (ux 23) (ux 24) (ux 25) ) (cwV 2 hts (mm_gV mm_w777 mm_w778 mm_w779 mm_w2 mm_w780) rfl rfl rfl hd_X11_may ⟨by rw [hRf]; exact Nat.le_of_ble_eq_true rfl, by rw [hRl]; exact Nat.le_of_ble_eq_true rfl⟩) (mm_preV hK hP hD [0, 1, 2] rfl rfl 0 rfl rfl rfl) rfl rfl hl.1 rfl (lv_room (Nat.le_of_ble_eq_true rfl)) dL_law_783 ⟨by rw [hRc]; exact Nat.le_of_ble_eq_true rfl, by rw [hRs]; exact Nat.le_of_ble_eq_true rfl⟩) hP hD hS hA [0, 1, 2] rfl (fun _ => rfl) ?_
  clear hP hD hS
  clear H locs
  intro v5 _u H locs hw hP hD hS
  subst hw
  refine lv_aload_n hx hb dL_law_786 rfl (lv_at hl 1 rfl) ?_
  refine lv_aload_n hx hb dL_law_787 rfl (lv_at hl 3 rfl) ?_
  refine lv_iload_n hx hb dL_law_788 rfl (lv_at hl 0 rfl) ?_
  refine lv_iconst (v := 1) hx hb dL_law_789 (by decide) ?_
  refine lv_iadd hx hb dL_law_790 ?_
  refine lv_topi (fun v6 ev6 => ?_)
  obtain rfl : v6 = 1 := ev6.trans (by decide)
  refine va_sld hx hb hX hbl hbA hS (mm_in mm_k1 (by decide)) dL_law_791 ?_
  refine lv_topi (fun v7 ev7 => ?_)
  obtain rfl : p1 = v7 := ep1.trans ev7.symm
  refine lv_aload_n hx hb dL_law_792 rfl (lv_at hl 3 rfl) ?_
  refine lv_iload_n hx hb dL_law_793 rfl (lv_at hl 0 rfl) ?_
  refine lv_iconst (v := 2) hx hb dL_law_794 (by decide) ?_
  refine lv_iadd hx hb dL_law_795 ?_
  refine lv_topi (fun v8 ev8 => ?_)
  obtain rfl : v8 = 2 := ev8.trans (by decide)
  refine va_sld hx hb hX hbl hbA hS (mm_in mm_k2 (by decide)) dL_law_796 ?_
  refine lv_topi (fun v9 ev9 => ?_)
  obtain rfl : p2 = v9 := ep2.trans ev9.symm
  refine mm_finir (va_runV (As := [.int p1, .int p2]) (rest := [.int (-2)]) ⟨hx, hb, hml, hown, hts⟩ (K141_X12_may l G cy H.size qm p1 p2 (um 0) (um 1) (um 2) (um 3) (um 4) 0 0 0 0 0 0 0 0 0 (-1) (um 5) (um 6) (um 7) (um 8) (um 9) (um 10) (um 11) (um 12) (um 13) (um 14) (um 15) (um 16) (um 17) 0 0 0 0 0 0 (um 18) 0 (um 19) ) (cwV 2 hts (mm_gV mm_w781 mm_w782 mm_w783 mm_w5 mm_w784) rfl rfl rfl hd_X12_may ⟨by rw [hRf]; exact Nat.le_of_ble_eq_true rfl, by rw [hRl]; exact Nat.le_of_ble_eq_true rfl⟩) (mm_preV hK hP hD [3, 4] rfl rfl 3 rfl rfl rfl) rfl rfl hl.1 rfl (lv_room (Nat.le_of_ble_eq_true rfl)) dL_law_797 ⟨by rw [hRc]; exact Nat.le_of_ble_eq_true rfl, by rw [hRs]; exact Nat.le_of_ble_eq_true rfl⟩) hP hD hS hA [3, 4] rfl (fun _ => rfl) ?_
  clear hP hD hS
  clear H locs
  intro v10 _u H locs hw hP hD hS
  subst hw
  refine lv_icmp_eq (tgt := 3153) hx hb dL_law_800 (by decide) (fun c11 => ?_) (fun c11 => ?_)
  · refine lv_iinc (v := 6) (lv' := [(3, .int 6), (2, .ref qm), (1, .ref qx), (0, .ref b)]) hx hb dL_law_3153 hl (k := 0) rfl (by decide) (by decide) rfl ?_
    clear hl
    clear ls
    intro ls hl
    refine lv_goto (tgt := 18) hx hb dL_law_3156 (by decide) ?_
    refine lv_iload_n hx hb dL_law_18 rfl (lv_at hl 0 rfl) ?_
    refine lv_aload_n hx hb dL_law_19 rfl (lv_at hl 3 rfl) ?_
    refine va_slen hx hb hX hbl hbA hS dL_law_20 ?_
    refine lv_topi (fun v12 ev12 => ?_)
    obtain rfl : v12 = 6 := ev12.trans (by decide)
    refine lv_bipush (v := 6) hx hb dL_law_21 (by decide) ?_
    refine lv_isub hx hb dL_law_23 ?_
    refine lv_topi (fun v13 ev13 => ?_)
    obtain rfl : v13 = 0 := ev13.trans (by decide)
    refine lv_icmp_gt (tgt := 3159) hx hb dL_law_24 (by decide) (fun c14 => ?_) (fun c14 => ?_)
    · refine lv_iconst (v := 1) hx hb dL_law_3159 (by decide) ?_
      refine va_forget (fun q hq => by have := hS.2.2 q hq; rw [hAe] at this; exact this) ?_
      refine W.widen (k := 600000) (n := 7302250) (Nat.le_of_ble_eq_true rfl) (Nat.le_of_ble_eq_true rfl) ?_
      exact lw_ret hx hb hr hlocks dL_law_3160
    · have q15 := mm_leL (mm_nlt c14) mm_k6 mm_k0
      exact mm_no q15 (by decide)
  · have q16 := mm_neL (lo := (-1)) (mm_ne c11) mm_km2 mm_km2 (by decide) (by decide)
    exact mm_no q16 (by decide)

set_option maxHeartbeats 4000000 in
set_option maxRecDepth 100000 in
theorem lc_13 {p : Program} {e : Env} {s : State} {m : MethodId} {below : List Frame} {meth : Method} {c : Code} {b : Nat} {xs : Nat → Int32} {G : va_G} {cy : Nat → ClassId} {qx qm : Nat} {ux um : Nat → Nat} {H : Heap} {locs : List Loc} {ls : Array Slot} {A : Nat → Prop} (l : Launch) (hx : p.tables.exec = Jvm.exec) (hb : c.code = code) (hr : meth.sig.returnType = ret) (hlocks : meth.locks = false) (hml : c.maxLocals = 4) (hown : s.vm.findClass R_law = some m.cls) (hts : ∀ w ∈ lw_x :: wsL_law, w.before #[Value.ref b] s = true) (hX : va_X b 6 xs s s.heap) (hbl : b < s.heap.size) (hAe : A = fun q => s.heap.size ≤ q) (hK : mm_K G cy s) (hS : va_S A s.heap H locs) (hP : va_P G vwCl [(qx, .inr (11, [.ref (ux 0), .ref (ux 2), .ref (ux 14), .ref (ux 36), .ref (ux 70), .ref (ux 71), .ref (ux 80), .ref (ux 82), .ref (ux 84), .ref (ux 89), .ref (ux 92)])), ((ux 14), .inr (10, [.ref (ux 15), .ref (ux 26)])), ((ux 15), .inr (0, [.int 0, .int 0, .int 0, .int 0, .int 0, .int 0, .int 0, .int 0, .ref (ux 16), .ref (ux 17), .ref (ux 18), .ref (ux 19), .ref (ux 20), .ref (ux 21), .ref (ux 22), .ref (ux 23), .ref (ux 24), .ref (ux 25)])), (qm, .inr (12, [.int 0, .ref (um 0), .ref (um 1), .ref (um 2), .ref (um 3), .ref (um 4), .int 0, .int 0, .int 0, .int 0, .int 0, .long 0, .int 0, .int 0, .int 0, .int (-1), .ref (um 5), .ref (um 6), .ref (um 7), .ref (um 8), .ref (um 9), .ref (um 10), .ref (um 11), .ref (um 12), .ref (um 13), .ref (um 14), .ref (um 15), .ref (um 16), .ref (um 17), .int 0, .int 0, .int 0, .int 0, .int 0, .int 0, .ref (um 18), .int 0, .ref (um 19)])), ((um 6), .inl (cy 1, 30, .inl (fun _ => 0)))] H) (hD : va_D A [(qx, .inr (11, [.ref (ux 0), .ref (ux 2), .ref (ux 14), .ref (ux 36), .ref (ux 70), .ref (ux 71), .ref (ux 80), .ref (ux 82), .ref (ux 84), .ref (ux 89), .ref (ux 92)])), ((ux 14), .inr (10, [.ref (ux 15), .ref (ux 26)])), ((ux 15), .inr (0, [.int 0, .int 0, .int 0, .int 0, .int 0, .int 0, .int 0, .int 0, .ref (ux 16), .ref (ux 17), .ref (ux 18), .ref (ux 19), .ref (ux 20), .ref (ux 21), .ref (ux 22), .ref (ux 23), .ref (ux 24), .ref (ux 25)])), (qm, .inr (12, [.int 0, .ref (um 0), .ref (um 1), .ref (um 2), .ref (um 3), .ref (um 4), .int 0, .int 0, .int 0, .int 0, .int 0, .long 0, .int 0, .int 0, .int 0, .int (-1), .ref (um 5), .ref (um 6), .ref (um 7), .ref (um 8), .ref (um 9), .ref (um 10), .ref (um 11), .ref (um 12), .ref (um 13), .ref (um 14), .ref (um 15), .ref (um 16), .ref (um 17), .int 0, .int 0, .int 0, .int 0, .int 0, .int 0, .ref (um 18), .int 0, .ref (um 19)])), ((um 6), .inl (cy 1, 30, .inl (fun _ => 0)))]) (hl : lv_has ls 4 [(3, .int 0), (2, .ref qm), (1, .ref qx), (0, .ref b)]) : W p l e room_1 s m #[Value.ref b] below meth c H locs 116 20302 (lw_Z below #[Value.ref b] s) (F0 m 805 ls []) := by
  have hA : ∀ q, s.heap.size ≤ q → A q := by rw [hAe]; exact fun _ h => h
  have hbA : ¬ A b := by rw [hAe]; exact Nat.not_le.mpr hbl
  have hRf : room_1.frames = 2048 := rfl
  have hRl : room_1.locals = 84000 := rfl
  have hRc : room_1.cells = 600000 := rfl
  have hRs : room_1.slots = 7302250 := rfl
  obtain ⟨p1, ep1⟩ : ∃ z : Int32, z = xs 1 := ⟨_, rfl⟩
  obtain ⟨p2, ep2⟩ : ∃ z : Int32, z = xs 2 := ⟨_, rfl⟩
  obtain ⟨p3, ep3⟩ : ∃ z : Int32, z = xs 3 := ⟨_, rfl⟩
  obtain ⟨p4, ep4⟩ : ∃ z : Int32, z = xs 4 := ⟨_, rfl⟩
  obtain ⟨p5, ep5⟩ : ∃ z : Int32, z = xs 5 := ⟨_, rfl⟩
  refine lv_aload_n hx hb dL_law_805 rfl (lv_at hl 2 rfl) ?_
  refine lv_aload_n hx hb dL_law_806 rfl (lv_at hl 3 rfl) ?_
  refine lv_iload_n hx hb dL_law_807 rfl (lv_at hl 0 rfl) ?_
  refine lv_iconst (v := 1) hx hb dL_law_808 (by decide) ?_
  refine lv_iadd hx hb dL_law_809 ?_
  refine lv_topi (fun v1 ev1 => ?_)
  obtain rfl : v1 = 1 := ev1.trans (by decide)
  refine va_sld hx hb hX hbl hbA hS (mm_in mm_k1 (by decide)) dL_law_810 ?_
  refine lv_topi (fun v2 ev2 => ?_)
  obtain rfl : p1 = v2 := ep1.trans ev2.symm
  refine mm_finir (va_runV (As := [.int p1]) (rest := []) ⟨hx, hb, hml, hown, hts⟩ (K142_X11_mute l G cy H.size qx p1 (ux 0) (ux 2) (ux 14) (ux 36) (ux 70) (ux 71) (ux 80) (ux 82) (ux 84) (ux 89) (ux 92) (ux 15) (ux 26) 0 0 0 0 0 0 0 (ux 16) (ux 17) (ux 18) (ux 19) (ux 20) (ux 21) (ux 22) (ux 23) (ux 24) (ux 25) ) (cwV 1 hts (mm_gV mm_w785 mm_w786 mm_w787 mm_w2 mm_w788) rfl rfl rfl hd_X11_mute ⟨by rw [hRf]; exact Nat.le_of_ble_eq_true rfl, by rw [hRl]; exact Nat.le_of_ble_eq_true rfl⟩) (mm_preV hK hP hD [0, 1, 2] rfl rfl 0 rfl rfl rfl) rfl rfl hl.1 rfl (lv_room (Nat.le_of_ble_eq_true rfl)) dL_law_811 ⟨by rw [hRc]; exact Nat.le_of_ble_eq_true rfl, by rw [hRs]; exact Nat.le_of_ble_eq_true rfl⟩) hP hD hS hA [0, 1, 2] rfl (fun _ => rfl) ?_
  clear hP hD hS
  clear H locs
  intro v3 _u H locs hw hP hD hS
  subst hw
  refine lv_aload_n hx hb dL_law_814 rfl (lv_at hl 1 rfl) ?_
  refine lv_aload_n hx hb dL_law_815 rfl (lv_at hl 3 rfl) ?_
  refine lv_iload_n hx hb dL_law_816 rfl (lv_at hl 0 rfl) ?_
  refine lv_iconst (v := 1) hx hb dL_law_817 (by decide) ?_
  refine lv_iadd hx hb dL_law_818 ?_
  refine lv_topi (fun v4 ev4 => ?_)
  obtain rfl : v4 = 1 := ev4.trans (by decide)
  refine va_sld hx hb hX hbl hbA hS (mm_in mm_k1 (by decide)) dL_law_819 ?_
  refine lv_topi (fun v5 ev5 => ?_)
  obtain rfl : p1 = v5 := ep1.trans ev5.symm
  refine mm_finir (va_runV (As := [.int p1]) (rest := [.int (-2)]) ⟨hx, hb, hml, hown, hts⟩ (K143_X12_mute l G cy H.size qm p1 (um 0) (um 1) (um 2) (um 3) (um 4) 0 0 0 0 0 0 0 0 0 (-1) (um 5) (um 6) (um 7) (um 8) (um 9) (um 10) (um 11) (um 12) (um 13) (um 14) (um 15) (um 16) (um 17) 0 0 0 0 0 0 (um 18) 0 (um 19) ) (cwV 1 hts (mm_gV mm_w793 mm_w794 mm_w795 mm_w5 mm_w796) rfl rfl rfl hd_X12_mute ⟨by rw [hRf]; exact Nat.le_of_ble_eq_true rfl, by rw [hRl]; exact Nat.le_of_ble_eq_true rfl⟩) (mm_preV hK hP hD [3, 4] rfl rfl 3 rfl rfl rfl) rfl rfl hl.1 rfl (lv_room (Nat.le_of_ble_eq_true rfl)) dL_law_820 ⟨by rw [hRc]; exact Nat.le_of_ble_eq_true rfl, by rw [hRs]; exact Nat.le_of_ble_eq_true rfl⟩) hP hD hS hA [3, 4] rfl (fun _ => rfl) ?_
  clear hP hD hS
  clear H locs
  intro v6 _u H locs hw hP hD hS
  subst hw
  refine lv_icmp_eq (tgt := 3153) hx hb dL_law_823 (by decide) (fun c7 => ?_) (fun c7 => ?_)
  · refine lv_iinc (v := 6) (lv' := [(3, .int 6), (2, .ref qm), (1, .ref qx), (0, .ref b)]) hx hb dL_law_3153 hl (k := 0) rfl (by decide) (by decide) rfl ?_
    clear hl
    clear ls
    intro ls hl
    refine lv_goto (tgt := 18) hx hb dL_law_3156 (by decide) ?_
    refine lv_iload_n hx hb dL_law_18 rfl (lv_at hl 0 rfl) ?_
    refine lv_aload_n hx hb dL_law_19 rfl (lv_at hl 3 rfl) ?_
    refine va_slen hx hb hX hbl hbA hS dL_law_20 ?_
    refine lv_topi (fun v8 ev8 => ?_)
    obtain rfl : v8 = 6 := ev8.trans (by decide)
    refine lv_bipush (v := 6) hx hb dL_law_21 (by decide) ?_
    refine lv_isub hx hb dL_law_23 ?_
    refine lv_topi (fun v9 ev9 => ?_)
    obtain rfl : v9 = 0 := ev9.trans (by decide)
    refine lv_icmp_gt (tgt := 3159) hx hb dL_law_24 (by decide) (fun c10 => ?_) (fun c10 => ?_)
    · refine lv_iconst (v := 1) hx hb dL_law_3159 (by decide) ?_
      refine va_forget (fun q hq => by have := hS.2.2 q hq; rw [hAe] at this; exact this) ?_
      refine W.widen (k := 600000) (n := 7302250) (Nat.le_of_ble_eq_true rfl) (Nat.le_of_ble_eq_true rfl) ?_
      exact lw_ret hx hb hr hlocks dL_law_3160
    · have q11 := mm_leL (mm_nlt c10) mm_k6 mm_k0
      exact mm_no q11 (by decide)
  · have q12 := mm_neL (lo := (-1)) (mm_ne c7) mm_km2 mm_km2 (by decide) (by decide)
    exact mm_no q12 (by decide)

set_option maxHeartbeats 4000000 in
set_option maxRecDepth 100000 in
theorem lc_14 {p : Program} {e : Env} {s : State} {m : MethodId} {below : List Frame} {meth : Method} {c : Code} {b : Nat} {xs : Nat → Int32} {G : va_G} {cy : Nat → ClassId} {qx qm : Nat} {ux um : Nat → Nat} {H : Heap} {locs : List Loc} {ls : Array Slot} {A : Nat → Prop} (l : Launch) (hx : p.tables.exec = Jvm.exec) (hb : c.code = code) (hr : meth.sig.returnType = ret) (hlocks : meth.locks = false) (hml : c.maxLocals = 4) (hown : s.vm.findClass R_law = some m.cls) (hts : ∀ w ∈ lw_x :: wsL_law, w.before #[Value.ref b] s = true) (hX : va_X b 6 xs s s.heap) (hbl : b < s.heap.size) (hAe : A = fun q => s.heap.size ≤ q) (hK : mm_K G cy s) (hS : va_S A s.heap H locs) (hP : va_P G vwCl [(qx, .inr (11, [.ref (ux 0), .ref (ux 2), .ref (ux 14), .ref (ux 36), .ref (ux 70), .ref (ux 71), .ref (ux 80), .ref (ux 82), .ref (ux 84), .ref (ux 89), .ref (ux 92)])), ((ux 14), .inr (10, [.ref (ux 15), .ref (ux 26)])), ((ux 15), .inr (0, [.int 0, .int 0, .int 0, .int 0, .int 0, .int 0, .int 0, .int 0, .ref (ux 16), .ref (ux 17), .ref (ux 18), .ref (ux 19), .ref (ux 20), .ref (ux 21), .ref (ux 22), .ref (ux 23), .ref (ux 24), .ref (ux 25)])), (qm, .inr (12, [.int 0, .ref (um 0), .ref (um 1), .ref (um 2), .ref (um 3), .ref (um 4), .int 0, .int 0, .int 0, .int 0, .int 0, .long 0, .int 0, .int 0, .int 0, .int (-1), .ref (um 5), .ref (um 6), .ref (um 7), .ref (um 8), .ref (um 9), .ref (um 10), .ref (um 11), .ref (um 12), .ref (um 13), .ref (um 14), .ref (um 15), .ref (um 16), .ref (um 17), .int 0, .int 0, .int 0, .int 0, .int 0, .int 0, .ref (um 18), .int 0, .ref (um 19)])), ((um 6), .inl (cy 1, 30, .inl (fun _ => 0)))] H) (hD : va_D A [(qx, .inr (11, [.ref (ux 0), .ref (ux 2), .ref (ux 14), .ref (ux 36), .ref (ux 70), .ref (ux 71), .ref (ux 80), .ref (ux 82), .ref (ux 84), .ref (ux 89), .ref (ux 92)])), ((ux 14), .inr (10, [.ref (ux 15), .ref (ux 26)])), ((ux 15), .inr (0, [.int 0, .int 0, .int 0, .int 0, .int 0, .int 0, .int 0, .int 0, .ref (ux 16), .ref (ux 17), .ref (ux 18), .ref (ux 19), .ref (ux 20), .ref (ux 21), .ref (ux 22), .ref (ux 23), .ref (ux 24), .ref (ux 25)])), (qm, .inr (12, [.int 0, .ref (um 0), .ref (um 1), .ref (um 2), .ref (um 3), .ref (um 4), .int 0, .int 0, .int 0, .int 0, .int 0, .long 0, .int 0, .int 0, .int 0, .int (-1), .ref (um 5), .ref (um 6), .ref (um 7), .ref (um 8), .ref (um 9), .ref (um 10), .ref (um 11), .ref (um 12), .ref (um 13), .ref (um 14), .ref (um 15), .ref (um 16), .ref (um 17), .int 0, .int 0, .int 0, .int 0, .int 0, .int 0, .ref (um 18), .int 0, .ref (um 19)])), ((um 6), .inl (cy 1, 30, .inl (fun _ => 0)))]) (hl : lv_has ls 4 [(3, .int 0), (2, .ref qm), (1, .ref qx), (0, .ref b)]) : W p l e room_1 s m #[Value.ref b] below meth c H locs 116 20302 (lw_Z below #[Value.ref b] s) (F0 m 828 ls []) := by
  have hA : ∀ q, s.heap.size ≤ q → A q := by rw [hAe]; exact fun _ h => h
  have hbA : ¬ A b := by rw [hAe]; exact Nat.not_le.mpr hbl
  have hRf : room_1.frames = 2048 := rfl
  have hRl : room_1.locals = 84000 := rfl
  have hRc : room_1.cells = 600000 := rfl
  have hRs : room_1.slots = 7302250 := rfl
  obtain ⟨p1, ep1⟩ : ∃ z : Int32, z = xs 1 := ⟨_, rfl⟩
  obtain ⟨p2, ep2⟩ : ∃ z : Int32, z = xs 2 := ⟨_, rfl⟩
  obtain ⟨p3, ep3⟩ : ∃ z : Int32, z = xs 3 := ⟨_, rfl⟩
  obtain ⟨p4, ep4⟩ : ∃ z : Int32, z = xs 4 := ⟨_, rfl⟩
  obtain ⟨p5, ep5⟩ : ∃ z : Int32, z = xs 5 := ⟨_, rfl⟩
  refine lv_aload_n hx hb dL_law_828 rfl (lv_at hl 2 rfl) ?_
  refine lv_aload_n hx hb dL_law_829 rfl (lv_at hl 3 rfl) ?_
  refine lv_iload_n hx hb dL_law_830 rfl (lv_at hl 0 rfl) ?_
  refine lv_iconst (v := 1) hx hb dL_law_831 (by decide) ?_
  refine lv_iadd hx hb dL_law_832 ?_
  refine lv_topi (fun v1 ev1 => ?_)
  obtain rfl : v1 = 1 := ev1.trans (by decide)
  refine va_sld hx hb hX hbl hbA hS (mm_in mm_k1 (by decide)) dL_law_833 ?_
  refine lv_topi (fun v2 ev2 => ?_)
  obtain rfl : p1 = v2 := ep1.trans ev2.symm
  refine mm_finir (va_runV (As := [.int p1]) (rest := []) ⟨hx, hb, hml, hown, hts⟩ (K144_X11_muted l G cy H.size qx p1 (ux 0) (ux 2) (ux 14) (ux 36) (ux 70) (ux 71) (ux 80) (ux 82) (ux 84) (ux 89) (ux 92) (ux 15) (ux 26) 0 0 0 0 0 0 0 (ux 16) (ux 17) (ux 18) (ux 19) (ux 20) (ux 21) (ux 22) (ux 23) (ux 24) (ux 25) ) (cwV 1 hts (mm_gV mm_w801 mm_w802 mm_w803 mm_w2 mm_w804) rfl rfl rfl hd_X11_muted ⟨by rw [hRf]; exact Nat.le_of_ble_eq_true rfl, by rw [hRl]; exact Nat.le_of_ble_eq_true rfl⟩) (mm_preV hK hP hD [0, 1, 2] rfl rfl 0 rfl rfl rfl) rfl rfl hl.1 rfl (lv_room (Nat.le_of_ble_eq_true rfl)) dL_law_834 ⟨by rw [hRc]; exact Nat.le_of_ble_eq_true rfl, by rw [hRs]; exact Nat.le_of_ble_eq_true rfl⟩) hP hD hS hA [0, 1, 2] rfl (fun _ => rfl) ?_
  clear hP hD hS
  clear H locs
  intro v3 _u H locs hw hP hD hS
  subst hw
  refine lv_aload_n hx hb dL_law_837 rfl (lv_at hl 1 rfl) ?_
  refine lv_aload_n hx hb dL_law_838 rfl (lv_at hl 3 rfl) ?_
  refine lv_iload_n hx hb dL_law_839 rfl (lv_at hl 0 rfl) ?_
  refine lv_iconst (v := 1) hx hb dL_law_840 (by decide) ?_
  refine lv_iadd hx hb dL_law_841 ?_
  refine lv_topi (fun v4 ev4 => ?_)
  obtain rfl : v4 = 1 := ev4.trans (by decide)
  refine va_sld hx hb hX hbl hbA hS (mm_in mm_k1 (by decide)) dL_law_842 ?_
  refine lv_topi (fun v5 ev5 => ?_)
  obtain rfl : p1 = v5 := ep1.trans ev5.symm
  refine mm_finir (va_runV (As := [.int p1]) (rest := [.int (-2)]) ⟨hx, hb, hml, hown, hts⟩ (K145_X12_muted l G cy H.size qm p1 (um 0) (um 1) (um 2) (um 3) (um 4) 0 0 0 0 0 0 0 0 0 (-1) (um 5) (um 6) (um 7) (um 8) (um 9) (um 10) (um 11) (um 12) (um 13) (um 14) (um 15) (um 16) (um 17) 0 0 0 0 0 0 (um 18) 0 (um 19) ) (cwV 1 hts (mm_gV mm_w805 mm_w806 mm_w807 mm_w5 mm_w808) rfl rfl rfl hd_X12_muted ⟨by rw [hRf]; exact Nat.le_of_ble_eq_true rfl, by rw [hRl]; exact Nat.le_of_ble_eq_true rfl⟩) (mm_preV hK hP hD [3, 4] rfl rfl 3 rfl rfl rfl) rfl rfl hl.1 rfl (lv_room (Nat.le_of_ble_eq_true rfl)) dL_law_843 ⟨by rw [hRc]; exact Nat.le_of_ble_eq_true rfl, by rw [hRs]; exact Nat.le_of_ble_eq_true rfl⟩) hP hD hS hA [3, 4] rfl (fun _ => rfl) ?_
  clear hP hD hS
  clear H locs
  intro v6 _u H locs hw hP hD hS
  subst hw
  refine lv_icmp_eq (tgt := 3153) hx hb dL_law_846 (by decide) (fun c7 => ?_) (fun c7 => ?_)
  · refine lv_iinc (v := 6) (lv' := [(3, .int 6), (2, .ref qm), (1, .ref qx), (0, .ref b)]) hx hb dL_law_3153 hl (k := 0) rfl (by decide) (by decide) rfl ?_
    clear hl
    clear ls
    intro ls hl
    refine lv_goto (tgt := 18) hx hb dL_law_3156 (by decide) ?_
    refine lv_iload_n hx hb dL_law_18 rfl (lv_at hl 0 rfl) ?_
    refine lv_aload_n hx hb dL_law_19 rfl (lv_at hl 3 rfl) ?_
    refine va_slen hx hb hX hbl hbA hS dL_law_20 ?_
    refine lv_topi (fun v8 ev8 => ?_)
    obtain rfl : v8 = 6 := ev8.trans (by decide)
    refine lv_bipush (v := 6) hx hb dL_law_21 (by decide) ?_
    refine lv_isub hx hb dL_law_23 ?_
    refine lv_topi (fun v9 ev9 => ?_)
    obtain rfl : v9 = 0 := ev9.trans (by decide)
    refine lv_icmp_gt (tgt := 3159) hx hb dL_law_24 (by decide) (fun c10 => ?_) (fun c10 => ?_)
    · refine lv_iconst (v := 1) hx hb dL_law_3159 (by decide) ?_
      refine va_forget (fun q hq => by have := hS.2.2 q hq; rw [hAe] at this; exact this) ?_
      refine W.widen (k := 600000) (n := 7302250) (Nat.le_of_ble_eq_true rfl) (Nat.le_of_ble_eq_true rfl) ?_
      exact lw_ret hx hb hr hlocks dL_law_3160
    · have q11 := mm_leL (mm_nlt c10) mm_k6 mm_k0
      exact mm_no q11 (by decide)
  · have q12 := mm_neL (lo := (-1)) (mm_ne c7) mm_km2 mm_km2 (by decide) (by decide)
    exact mm_no q12 (by decide)

set_option maxHeartbeats 4000000 in
set_option maxRecDepth 100000 in
theorem lc_15 {p : Program} {e : Env} {s : State} {m : MethodId} {below : List Frame} {meth : Method} {c : Code} {b : Nat} {xs : Nat → Int32} {G : va_G} {cy : Nat → ClassId} {qx qm : Nat} {ux um : Nat → Nat} {H : Heap} {locs : List Loc} {ls : Array Slot} {A : Nat → Prop} (l : Launch) (hx : p.tables.exec = Jvm.exec) (hb : c.code = code) (hr : meth.sig.returnType = ret) (hlocks : meth.locks = false) (hml : c.maxLocals = 4) (hown : s.vm.findClass R_law = some m.cls) (hts : ∀ w ∈ lw_x :: wsL_law, w.before #[Value.ref b] s = true) (hX : va_X b 6 xs s s.heap) (hbl : b < s.heap.size) (hAe : A = fun q => s.heap.size ≤ q) (hK : mm_K G cy s) (hS : va_S A s.heap H locs) (hP : va_P G vwCl [(qx, .inr (11, [.ref (ux 0), .ref (ux 2), .ref (ux 14), .ref (ux 36), .ref (ux 70), .ref (ux 71), .ref (ux 80), .ref (ux 82), .ref (ux 84), .ref (ux 89), .ref (ux 92)])), ((ux 14), .inr (10, [.ref (ux 15), .ref (ux 26)])), ((ux 15), .inr (0, [.int 0, .int 0, .int 0, .int 0, .int 0, .int 0, .int 0, .int 0, .ref (ux 16), .ref (ux 17), .ref (ux 18), .ref (ux 19), .ref (ux 20), .ref (ux 21), .ref (ux 22), .ref (ux 23), .ref (ux 24), .ref (ux 25)])), (qm, .inr (12, [.int 0, .ref (um 0), .ref (um 1), .ref (um 2), .ref (um 3), .ref (um 4), .int 0, .int 0, .int 0, .int 0, .int 0, .long 0, .int 0, .int 0, .int 0, .int (-1), .ref (um 5), .ref (um 6), .ref (um 7), .ref (um 8), .ref (um 9), .ref (um 10), .ref (um 11), .ref (um 12), .ref (um 13), .ref (um 14), .ref (um 15), .ref (um 16), .ref (um 17), .int 0, .int 0, .int 0, .int 0, .int 0, .int 0, .ref (um 18), .int 0, .ref (um 19)])), ((um 6), .inl (cy 1, 30, .inl (fun _ => 0)))] H) (hD : va_D A [(qx, .inr (11, [.ref (ux 0), .ref (ux 2), .ref (ux 14), .ref (ux 36), .ref (ux 70), .ref (ux 71), .ref (ux 80), .ref (ux 82), .ref (ux 84), .ref (ux 89), .ref (ux 92)])), ((ux 14), .inr (10, [.ref (ux 15), .ref (ux 26)])), ((ux 15), .inr (0, [.int 0, .int 0, .int 0, .int 0, .int 0, .int 0, .int 0, .int 0, .ref (ux 16), .ref (ux 17), .ref (ux 18), .ref (ux 19), .ref (ux 20), .ref (ux 21), .ref (ux 22), .ref (ux 23), .ref (ux 24), .ref (ux 25)])), (qm, .inr (12, [.int 0, .ref (um 0), .ref (um 1), .ref (um 2), .ref (um 3), .ref (um 4), .int 0, .int 0, .int 0, .int 0, .int 0, .long 0, .int 0, .int 0, .int 0, .int (-1), .ref (um 5), .ref (um 6), .ref (um 7), .ref (um 8), .ref (um 9), .ref (um 10), .ref (um 11), .ref (um 12), .ref (um 13), .ref (um 14), .ref (um 15), .ref (um 16), .ref (um 17), .int 0, .int 0, .int 0, .int 0, .int 0, .int 0, .ref (um 18), .int 0, .ref (um 19)])), ((um 6), .inl (cy 1, 30, .inl (fun _ => 0)))]) (hl : lv_has ls 4 [(3, .int 0), (2, .ref qm), (1, .ref qx), (0, .ref b)]) : W p l e room_1 s m #[Value.ref b] below meth c H locs 116 20302 (lw_Z below #[Value.ref b] s) (F0 m 851 ls []) := by
  have hA : ∀ q, s.heap.size ≤ q → A q := by rw [hAe]; exact fun _ h => h
  have hbA : ¬ A b := by rw [hAe]; exact Nat.not_le.mpr hbl
  have hRf : room_1.frames = 2048 := rfl
  have hRl : room_1.locals = 84000 := rfl
  have hRc : room_1.cells = 600000 := rfl
  have hRs : room_1.slots = 7302250 := rfl
  obtain ⟨p1, ep1⟩ : ∃ z : Int32, z = xs 1 := ⟨_, rfl⟩
  obtain ⟨p2, ep2⟩ : ∃ z : Int32, z = xs 2 := ⟨_, rfl⟩
  obtain ⟨p3, ep3⟩ : ∃ z : Int32, z = xs 3 := ⟨_, rfl⟩
  obtain ⟨p4, ep4⟩ : ∃ z : Int32, z = xs 4 := ⟨_, rfl⟩
  obtain ⟨p5, ep5⟩ : ∃ z : Int32, z = xs 5 := ⟨_, rfl⟩
  refine lv_aload_n hx hb dL_law_851 rfl (lv_at hl 2 rfl) ?_
  refine lv_aload_n hx hb dL_law_852 rfl (lv_at hl 3 rfl) ?_
  refine lv_iload_n hx hb dL_law_853 rfl (lv_at hl 0 rfl) ?_
  refine lv_iconst (v := 1) hx hb dL_law_854 (by decide) ?_
  refine lv_iadd hx hb dL_law_855 ?_
  refine lv_topi (fun v1 ev1 => ?_)
  obtain rfl : v1 = 1 := ev1.trans (by decide)
  refine va_sld hx hb hX hbl hbA hS (mm_in mm_k1 (by decide)) dL_law_856 ?_
  refine lv_topi (fun v2 ev2 => ?_)
  obtain rfl : p1 = v2 := ep1.trans ev2.symm
  refine lv_aload_n hx hb dL_law_857 rfl (lv_at hl 3 rfl) ?_
  refine lv_iload_n hx hb dL_law_858 rfl (lv_at hl 0 rfl) ?_
  refine lv_iconst (v := 2) hx hb dL_law_859 (by decide) ?_
  refine lv_iadd hx hb dL_law_860 ?_
  refine lv_topi (fun v3 ev3 => ?_)
  obtain rfl : v3 = 2 := ev3.trans (by decide)
  refine va_sld hx hb hX hbl hbA hS (mm_in mm_k2 (by decide)) dL_law_861 ?_
  refine lv_topi (fun v4 ev4 => ?_)
  obtain rfl : p2 = v4 := ep2.trans ev4.symm
  refine mm_finir (va_runV (As := [.int p1, .int p2]) (rest := []) ⟨hx, hb, hml, hown, hts⟩ (K146_X11_stays l G cy H.size qx p1 p2 (ux 0) (ux 2) (ux 14) (ux 36) (ux 70) (ux 71) (ux 80) (ux 82) (ux 84) (ux 89) (ux 92) (ux 15) (ux 26) 0 0 0 0 0 0 0 (ux 16) (ux 17) (ux 18) (ux 19) (ux 20) (ux 21) (ux 22) (ux 23) (ux 24) (ux 25) ) (cwV 2 hts (mm_gV mm_w809 mm_w810 mm_w811 mm_w2 mm_w812) rfl rfl rfl hd_X11_stays ⟨by rw [hRf]; exact Nat.le_of_ble_eq_true rfl, by rw [hRl]; exact Nat.le_of_ble_eq_true rfl⟩) (mm_preV hK hP hD [0, 1, 2] rfl rfl 0 rfl rfl rfl) rfl rfl hl.1 rfl (lv_room (Nat.le_of_ble_eq_true rfl)) dL_law_862 ⟨by rw [hRc]; exact Nat.le_of_ble_eq_true rfl, by rw [hRs]; exact Nat.le_of_ble_eq_true rfl⟩) hP hD hS hA [0, 1, 2] rfl (fun _ => rfl) ?_
  clear hP hD hS
  clear H locs
  intro v5 _u H locs hw hP hD hS
  subst hw
  refine lv_aload_n hx hb dL_law_865 rfl (lv_at hl 1 rfl) ?_
  refine lv_aload_n hx hb dL_law_866 rfl (lv_at hl 3 rfl) ?_
  refine lv_iload_n hx hb dL_law_867 rfl (lv_at hl 0 rfl) ?_
  refine lv_iconst (v := 1) hx hb dL_law_868 (by decide) ?_
  refine lv_iadd hx hb dL_law_869 ?_
  refine lv_topi (fun v6 ev6 => ?_)
  obtain rfl : v6 = 1 := ev6.trans (by decide)
  refine va_sld hx hb hX hbl hbA hS (mm_in mm_k1 (by decide)) dL_law_870 ?_
  refine lv_topi (fun v7 ev7 => ?_)
  obtain rfl : p1 = v7 := ep1.trans ev7.symm
  refine lv_aload_n hx hb dL_law_871 rfl (lv_at hl 3 rfl) ?_
  refine lv_iload_n hx hb dL_law_872 rfl (lv_at hl 0 rfl) ?_
  refine lv_iconst (v := 2) hx hb dL_law_873 (by decide) ?_
  refine lv_iadd hx hb dL_law_874 ?_
  refine lv_topi (fun v8 ev8 => ?_)
  obtain rfl : v8 = 2 := ev8.trans (by decide)
  refine va_sld hx hb hX hbl hbA hS (mm_in mm_k2 (by decide)) dL_law_875 ?_
  refine lv_topi (fun v9 ev9 => ?_)
  obtain rfl : p2 = v9 := ep2.trans ev9.symm
  refine mm_finir (va_runV (As := [.int p1, .int p2]) (rest := [.int (-2)]) ⟨hx, hb, hml, hown, hts⟩ (K147_X12_stays l G cy H.size qm p1 p2 (um 0) (um 1) (um 2) (um 3) (um 4) 0 0 0 0 0 0 0 0 0 (-1) (um 5) (um 6) (um 7) (um 8) (um 9) (um 10) (um 11) (um 12) (um 13) (um 14) (um 15) (um 16) (um 17) 0 0 0 0 0 0 (um 18) 0 (um 19) ) (cwV 2 hts (mm_gV mm_w817 mm_w818 mm_w819 mm_w5 mm_w820) rfl rfl rfl hd_X12_stays ⟨by rw [hRf]; exact Nat.le_of_ble_eq_true rfl, by rw [hRl]; exact Nat.le_of_ble_eq_true rfl⟩) (mm_preV hK hP hD [3, 4] rfl rfl 3 rfl rfl rfl) rfl rfl hl.1 rfl (lv_room (Nat.le_of_ble_eq_true rfl)) dL_law_876 ⟨by rw [hRc]; exact Nat.le_of_ble_eq_true rfl, by rw [hRs]; exact Nat.le_of_ble_eq_true rfl⟩) hP hD hS hA [3, 4] rfl (fun _ => rfl) ?_
  clear hP hD hS
  clear H locs
  intro v10 _u H locs hw hP hD hS
  subst hw
  refine lv_icmp_eq (tgt := 3153) hx hb dL_law_879 (by decide) (fun c11 => ?_) (fun c11 => ?_)
  · refine lv_iinc (v := 6) (lv' := [(3, .int 6), (2, .ref qm), (1, .ref qx), (0, .ref b)]) hx hb dL_law_3153 hl (k := 0) rfl (by decide) (by decide) rfl ?_
    clear hl
    clear ls
    intro ls hl
    refine lv_goto (tgt := 18) hx hb dL_law_3156 (by decide) ?_
    refine lv_iload_n hx hb dL_law_18 rfl (lv_at hl 0 rfl) ?_
    refine lv_aload_n hx hb dL_law_19 rfl (lv_at hl 3 rfl) ?_
    refine va_slen hx hb hX hbl hbA hS dL_law_20 ?_
    refine lv_topi (fun v12 ev12 => ?_)
    obtain rfl : v12 = 6 := ev12.trans (by decide)
    refine lv_bipush (v := 6) hx hb dL_law_21 (by decide) ?_
    refine lv_isub hx hb dL_law_23 ?_
    refine lv_topi (fun v13 ev13 => ?_)
    obtain rfl : v13 = 0 := ev13.trans (by decide)
    refine lv_icmp_gt (tgt := 3159) hx hb dL_law_24 (by decide) (fun c14 => ?_) (fun c14 => ?_)
    · refine lv_iconst (v := 1) hx hb dL_law_3159 (by decide) ?_
      refine va_forget (fun q hq => by have := hS.2.2 q hq; rw [hAe] at this; exact this) ?_
      refine W.widen (k := 600000) (n := 7302250) (Nat.le_of_ble_eq_true rfl) (Nat.le_of_ble_eq_true rfl) ?_
      exact lw_ret hx hb hr hlocks dL_law_3160
    · have q15 := mm_leL (mm_nlt c14) mm_k6 mm_k0
      exact mm_no q15 (by decide)
  · have q16 := mm_neL (lo := (-1)) (mm_ne c11) mm_km2 mm_km2 (by decide) (by decide)
    exact mm_no q16 (by decide)

set_option maxHeartbeats 4000000 in
set_option maxRecDepth 100000 in
theorem lc_16 {p : Program} {e : Env} {s : State} {m : MethodId} {below : List Frame} {meth : Method} {c : Code} {b : Nat} {xs : Nat → Int32} {G : va_G} {cy : Nat → ClassId} {qx qm : Nat} {ux um : Nat → Nat} {H : Heap} {locs : List Loc} {ls : Array Slot} {A : Nat → Prop} (l : Launch) (hx : p.tables.exec = Jvm.exec) (hb : c.code = code) (hr : meth.sig.returnType = ret) (hlocks : meth.locks = false) (hml : c.maxLocals = 4) (hown : s.vm.findClass R_law = some m.cls) (hts : ∀ w ∈ lw_x :: wsL_law, w.before #[Value.ref b] s = true) (hX : va_X b 6 xs s s.heap) (hbl : b < s.heap.size) (hAe : A = fun q => s.heap.size ≤ q) (hK : mm_K G cy s) (hS : va_S A s.heap H locs) (hP : va_P G vwCl [(qx, .inr (11, [.ref (ux 0), .ref (ux 2), .ref (ux 14), .ref (ux 36), .ref (ux 70), .ref (ux 71), .ref (ux 80), .ref (ux 82), .ref (ux 84), .ref (ux 89), .ref (ux 92)])), ((ux 14), .inr (10, [.ref (ux 15), .ref (ux 26)])), ((ux 15), .inr (0, [.int 0, .int 0, .int 0, .int 0, .int 0, .int 0, .int 0, .int 0, .ref (ux 16), .ref (ux 17), .ref (ux 18), .ref (ux 19), .ref (ux 20), .ref (ux 21), .ref (ux 22), .ref (ux 23), .ref (ux 24), .ref (ux 25)])), (qm, .inr (12, [.int 0, .ref (um 0), .ref (um 1), .ref (um 2), .ref (um 3), .ref (um 4), .int 0, .int 0, .int 0, .int 0, .int 0, .long 0, .int 0, .int 0, .int 0, .int (-1), .ref (um 5), .ref (um 6), .ref (um 7), .ref (um 8), .ref (um 9), .ref (um 10), .ref (um 11), .ref (um 12), .ref (um 13), .ref (um 14), .ref (um 15), .ref (um 16), .ref (um 17), .int 0, .int 0, .int 0, .int 0, .int 0, .int 0, .ref (um 18), .int 0, .ref (um 19)])), ((um 6), .inl (cy 1, 30, .inl (fun _ => 0)))] H) (hD : va_D A [(qx, .inr (11, [.ref (ux 0), .ref (ux 2), .ref (ux 14), .ref (ux 36), .ref (ux 70), .ref (ux 71), .ref (ux 80), .ref (ux 82), .ref (ux 84), .ref (ux 89), .ref (ux 92)])), ((ux 14), .inr (10, [.ref (ux 15), .ref (ux 26)])), ((ux 15), .inr (0, [.int 0, .int 0, .int 0, .int 0, .int 0, .int 0, .int 0, .int 0, .ref (ux 16), .ref (ux 17), .ref (ux 18), .ref (ux 19), .ref (ux 20), .ref (ux 21), .ref (ux 22), .ref (ux 23), .ref (ux 24), .ref (ux 25)])), (qm, .inr (12, [.int 0, .ref (um 0), .ref (um 1), .ref (um 2), .ref (um 3), .ref (um 4), .int 0, .int 0, .int 0, .int 0, .int 0, .long 0, .int 0, .int 0, .int 0, .int (-1), .ref (um 5), .ref (um 6), .ref (um 7), .ref (um 8), .ref (um 9), .ref (um 10), .ref (um 11), .ref (um 12), .ref (um 13), .ref (um 14), .ref (um 15), .ref (um 16), .ref (um 17), .int 0, .int 0, .int 0, .int 0, .int 0, .int 0, .ref (um 18), .int 0, .ref (um 19)])), ((um 6), .inl (cy 1, 30, .inl (fun _ => 0)))]) (hl : lv_has ls 4 [(3, .int 0), (2, .ref qm), (1, .ref qx), (0, .ref b)]) : W p l e room_1 s m #[Value.ref b] below meth c H locs 116 20302 (lw_Z below #[Value.ref b] s) (F0 m 884 ls []) := by
  have hA : ∀ q, s.heap.size ≤ q → A q := by rw [hAe]; exact fun _ h => h
  have hbA : ¬ A b := by rw [hAe]; exact Nat.not_le.mpr hbl
  have hRf : room_1.frames = 2048 := rfl
  have hRl : room_1.locals = 84000 := rfl
  have hRc : room_1.cells = 600000 := rfl
  have hRs : room_1.slots = 7302250 := rfl
  obtain ⟨p1, ep1⟩ : ∃ z : Int32, z = xs 1 := ⟨_, rfl⟩
  obtain ⟨p2, ep2⟩ : ∃ z : Int32, z = xs 2 := ⟨_, rfl⟩
  obtain ⟨p3, ep3⟩ : ∃ z : Int32, z = xs 3 := ⟨_, rfl⟩
  obtain ⟨p4, ep4⟩ : ∃ z : Int32, z = xs 4 := ⟨_, rfl⟩
  obtain ⟨p5, ep5⟩ : ∃ z : Int32, z = xs 5 := ⟨_, rfl⟩
  refine lv_aload_n hx hb dL_law_884 rfl (lv_at hl 2 rfl) ?_
  refine lv_aload_n hx hb dL_law_885 rfl (lv_at hl 3 rfl) ?_
  refine lv_iload_n hx hb dL_law_886 rfl (lv_at hl 0 rfl) ?_
  refine lv_iconst (v := 1) hx hb dL_law_887 (by decide) ?_
  refine lv_iadd hx hb dL_law_888 ?_
  refine lv_topi (fun v1 ev1 => ?_)
  obtain rfl : v1 = 1 := ev1.trans (by decide)
  refine va_sld hx hb hX hbl hbA hS (mm_in mm_k1 (by decide)) dL_law_889 ?_
  refine lv_topi (fun v2 ev2 => ?_)
  obtain rfl : p1 = v2 := ep1.trans ev2.symm
  refine lv_aload_n hx hb dL_law_890 rfl (lv_at hl 3 rfl) ?_
  refine lv_iload_n hx hb dL_law_891 rfl (lv_at hl 0 rfl) ?_
  refine lv_iconst (v := 2) hx hb dL_law_892 (by decide) ?_
  refine lv_iadd hx hb dL_law_893 ?_
  refine lv_topi (fun v3 ev3 => ?_)
  obtain rfl : v3 = 2 := ev3.trans (by decide)
  refine va_sld hx hb hX hbl hbA hS (mm_in mm_k2 (by decide)) dL_law_894 ?_
  refine lv_topi (fun v4 ev4 => ?_)
  obtain rfl : p2 = v4 := ep2.trans ev4.symm
  refine lv_aload_n hx hb dL_law_895 rfl (lv_at hl 3 rfl) ?_
  refine lv_iload_n hx hb dL_law_896 rfl (lv_at hl 0 rfl) ?_
  refine lv_iconst (v := 3) hx hb dL_law_897 (by decide) ?_
  refine lv_iadd hx hb dL_law_898 ?_
  refine lv_topi (fun v5 ev5 => ?_)
  obtain rfl : v5 = 3 := ev5.trans (by decide)
  refine va_sld hx hb hX hbl hbA hS (mm_in mm_k3 (by decide)) dL_law_899 ?_
  refine lv_topi (fun v6 ev6 => ?_)
  obtain rfl : p3 = v6 := ep3.trans ev6.symm
  refine mm_finir (va_runV (As := [.int p1, .int p2, .int p3]) (rest := []) ⟨hx, hb, hml, hown, hts⟩ (K149_X11_read l G cy H.size qx p1 p2 p3 (ux 0) (ux 2) (ux 14) (ux 36) (ux 70) (ux 71) (ux 80) (ux 82) (ux 84) (ux 89) (ux 92) (ux 15) (ux 26) 0 0 0 0 0 0 0 (ux 16) (ux 17) (ux 18) (ux 19) (ux 20) (ux 21) (ux 22) (ux 23) (ux 24) (ux 25) ) (cwV 3 hts (mm_gV mm_w821 mm_w822 mm_w823 mm_w2 mm_w824) rfl rfl rfl hd_X11_read ⟨by rw [hRf]; exact Nat.le_of_ble_eq_true rfl, by rw [hRl]; exact Nat.le_of_ble_eq_true rfl⟩) (mm_preV hK hP hD [0, 1, 2] rfl rfl 0 rfl rfl rfl) rfl rfl hl.1 rfl (lv_room (Nat.le_of_ble_eq_true rfl)) dL_law_900 ⟨by rw [hRc]; exact Nat.le_of_ble_eq_true rfl, by rw [hRs]; exact Nat.le_of_ble_eq_true rfl⟩) hP hD hS hA [0, 1, 2] rfl (fun _ => rfl) ?_
  clear hP hD hS
  clear H locs
  intro v7 _u H locs hw hP hD hS
  subst hw
  refine lv_aload_n hx hb dL_law_903 rfl (lv_at hl 1 rfl) ?_
  refine lv_aload_n hx hb dL_law_904 rfl (lv_at hl 3 rfl) ?_
  refine lv_iload_n hx hb dL_law_905 rfl (lv_at hl 0 rfl) ?_
  refine lv_iconst (v := 1) hx hb dL_law_906 (by decide) ?_
  refine lv_iadd hx hb dL_law_907 ?_
  refine lv_topi (fun v8 ev8 => ?_)
  obtain rfl : v8 = 1 := ev8.trans (by decide)
  refine va_sld hx hb hX hbl hbA hS (mm_in mm_k1 (by decide)) dL_law_908 ?_
  refine lv_topi (fun v9 ev9 => ?_)
  obtain rfl : p1 = v9 := ep1.trans ev9.symm
  refine lv_aload_n hx hb dL_law_909 rfl (lv_at hl 3 rfl) ?_
  refine lv_iload_n hx hb dL_law_910 rfl (lv_at hl 0 rfl) ?_
  refine lv_iconst (v := 2) hx hb dL_law_911 (by decide) ?_
  refine lv_iadd hx hb dL_law_912 ?_
  refine lv_topi (fun v10 ev10 => ?_)
  obtain rfl : v10 = 2 := ev10.trans (by decide)
  refine va_sld hx hb hX hbl hbA hS (mm_in mm_k2 (by decide)) dL_law_913 ?_
  refine lv_topi (fun v11 ev11 => ?_)
  obtain rfl : p2 = v11 := ep2.trans ev11.symm
  refine lv_aload_n hx hb dL_law_914 rfl (lv_at hl 3 rfl) ?_
  refine lv_iload_n hx hb dL_law_915 rfl (lv_at hl 0 rfl) ?_
  refine lv_iconst (v := 3) hx hb dL_law_916 (by decide) ?_
  refine lv_iadd hx hb dL_law_917 ?_
  refine lv_topi (fun v12 ev12 => ?_)
  obtain rfl : v12 = 3 := ev12.trans (by decide)
  refine va_sld hx hb hX hbl hbA hS (mm_in mm_k3 (by decide)) dL_law_918 ?_
  refine lv_topi (fun v13 ev13 => ?_)
  obtain rfl : p3 = v13 := ep3.trans ev13.symm
  refine mm_finir (va_runV (As := [.int p1, .int p2, .int p3]) (rest := [.int (-2)]) ⟨hx, hb, hml, hown, hts⟩ (K151_X12_read l G cy H.size qm p1 p2 p3 (um 0) (um 1) (um 2) (um 3) (um 4) 0 0 0 0 0 0 0 0 0 (-1) (um 5) (um 6) (um 7) (um 8) (um 9) (um 10) (um 11) (um 12) (um 13) (um 14) (um 15) (um 16) (um 17) 0 0 0 0 0 0 (um 18) 0 (um 19) ) (cwV 3 hts (mm_gV mm_w848 mm_w849 mm_w850 mm_w5 mm_w851) rfl rfl rfl hd_X12_read ⟨by rw [hRf]; exact Nat.le_of_ble_eq_true rfl, by rw [hRl]; exact Nat.le_of_ble_eq_true rfl⟩) (mm_preV hK hP hD [3, 4] rfl rfl 3 rfl rfl rfl) rfl rfl hl.1 rfl (lv_room (Nat.le_of_ble_eq_true rfl)) dL_law_919 ⟨by rw [hRc]; exact Nat.le_of_ble_eq_true rfl, by rw [hRs]; exact Nat.le_of_ble_eq_true rfl⟩) hP hD hS hA [3, 4] rfl (fun _ => rfl) ?_
  clear hP hD hS
  clear H locs
  intro v14 _u H locs hw hP hD hS
  subst hw
  refine lv_icmp_eq (tgt := 3153) hx hb dL_law_922 (by decide) (fun c15 => ?_) (fun c15 => ?_)
  · refine lv_iinc (v := 6) (lv' := [(3, .int 6), (2, .ref qm), (1, .ref qx), (0, .ref b)]) hx hb dL_law_3153 hl (k := 0) rfl (by decide) (by decide) rfl ?_
    clear hl
    clear ls
    intro ls hl
    refine lv_goto (tgt := 18) hx hb dL_law_3156 (by decide) ?_
    refine lv_iload_n hx hb dL_law_18 rfl (lv_at hl 0 rfl) ?_
    refine lv_aload_n hx hb dL_law_19 rfl (lv_at hl 3 rfl) ?_
    refine va_slen hx hb hX hbl hbA hS dL_law_20 ?_
    refine lv_topi (fun v16 ev16 => ?_)
    obtain rfl : v16 = 6 := ev16.trans (by decide)
    refine lv_bipush (v := 6) hx hb dL_law_21 (by decide) ?_
    refine lv_isub hx hb dL_law_23 ?_
    refine lv_topi (fun v17 ev17 => ?_)
    obtain rfl : v17 = 0 := ev17.trans (by decide)
    refine lv_icmp_gt (tgt := 3159) hx hb dL_law_24 (by decide) (fun c18 => ?_) (fun c18 => ?_)
    · refine lv_iconst (v := 1) hx hb dL_law_3159 (by decide) ?_
      refine va_forget (fun q hq => by have := hS.2.2 q hq; rw [hAe] at this; exact this) ?_
      refine W.widen (k := 600000) (n := 7302250) (Nat.le_of_ble_eq_true rfl) (Nat.le_of_ble_eq_true rfl) ?_
      exact lw_ret hx hb hr hlocks dL_law_3160
    · have q19 := mm_leL (mm_nlt c18) mm_k6 mm_k0
      exact mm_no q19 (by decide)
  · have q20 := mm_neL (lo := (-1)) (mm_ne c15) mm_km2 mm_km2 (by decide) (by decide)
    exact mm_no q20 (by decide)

set_option maxHeartbeats 4000000 in
set_option maxRecDepth 100000 in
theorem lc_17 {p : Program} {e : Env} {s : State} {m : MethodId} {below : List Frame} {meth : Method} {c : Code} {b : Nat} {xs : Nat → Int32} {G : va_G} {cy : Nat → ClassId} {qx qm : Nat} {ux um : Nat → Nat} {H : Heap} {locs : List Loc} {ls : Array Slot} {A : Nat → Prop} (l : Launch) (hx : p.tables.exec = Jvm.exec) (hb : c.code = code) (hr : meth.sig.returnType = ret) (hlocks : meth.locks = false) (hml : c.maxLocals = 4) (hown : s.vm.findClass R_law = some m.cls) (hts : ∀ w ∈ lw_x :: wsL_law, w.before #[Value.ref b] s = true) (hX : va_X b 6 xs s s.heap) (hbl : b < s.heap.size) (hAe : A = fun q => s.heap.size ≤ q) (hK : mm_K G cy s) (hS : va_S A s.heap H locs) (hP : va_P G vwCl [(qx, .inr (11, [.ref (ux 0), .ref (ux 2), .ref (ux 14), .ref (ux 36), .ref (ux 70), .ref (ux 71), .ref (ux 80), .ref (ux 82), .ref (ux 84), .ref (ux 89), .ref (ux 92)])), ((ux 14), .inr (10, [.ref (ux 15), .ref (ux 26)])), ((ux 15), .inr (0, [.int 0, .int 0, .int 0, .int 0, .int 0, .int 0, .int 0, .int 0, .ref (ux 16), .ref (ux 17), .ref (ux 18), .ref (ux 19), .ref (ux 20), .ref (ux 21), .ref (ux 22), .ref (ux 23), .ref (ux 24), .ref (ux 25)])), (qm, .inr (12, [.int 0, .ref (um 0), .ref (um 1), .ref (um 2), .ref (um 3), .ref (um 4), .int 0, .int 0, .int 0, .int 0, .int 0, .long 0, .int 0, .int 0, .int 0, .int (-1), .ref (um 5), .ref (um 6), .ref (um 7), .ref (um 8), .ref (um 9), .ref (um 10), .ref (um 11), .ref (um 12), .ref (um 13), .ref (um 14), .ref (um 15), .ref (um 16), .ref (um 17), .int 0, .int 0, .int 0, .int 0, .int 0, .int 0, .ref (um 18), .int 0, .ref (um 19)])), ((um 6), .inl (cy 1, 30, .inl (fun _ => 0)))] H) (hD : va_D A [(qx, .inr (11, [.ref (ux 0), .ref (ux 2), .ref (ux 14), .ref (ux 36), .ref (ux 70), .ref (ux 71), .ref (ux 80), .ref (ux 82), .ref (ux 84), .ref (ux 89), .ref (ux 92)])), ((ux 14), .inr (10, [.ref (ux 15), .ref (ux 26)])), ((ux 15), .inr (0, [.int 0, .int 0, .int 0, .int 0, .int 0, .int 0, .int 0, .int 0, .ref (ux 16), .ref (ux 17), .ref (ux 18), .ref (ux 19), .ref (ux 20), .ref (ux 21), .ref (ux 22), .ref (ux 23), .ref (ux 24), .ref (ux 25)])), (qm, .inr (12, [.int 0, .ref (um 0), .ref (um 1), .ref (um 2), .ref (um 3), .ref (um 4), .int 0, .int 0, .int 0, .int 0, .int 0, .long 0, .int 0, .int 0, .int 0, .int (-1), .ref (um 5), .ref (um 6), .ref (um 7), .ref (um 8), .ref (um 9), .ref (um 10), .ref (um 11), .ref (um 12), .ref (um 13), .ref (um 14), .ref (um 15), .ref (um 16), .ref (um 17), .int 0, .int 0, .int 0, .int 0, .int 0, .int 0, .ref (um 18), .int 0, .ref (um 19)])), ((um 6), .inl (cy 1, 30, .inl (fun _ => 0)))]) (hl : lv_has ls 4 [(3, .int 0), (2, .ref qm), (1, .ref qx), (0, .ref b)]) : W p l e room_1 s m #[Value.ref b] below meth c H locs 116 20302 (lw_Z below #[Value.ref b] s) (F0 m 927 ls []) := by
  have hA : ∀ q, s.heap.size ≤ q → A q := by rw [hAe]; exact fun _ h => h
  have hbA : ¬ A b := by rw [hAe]; exact Nat.not_le.mpr hbl
  have hRf : room_1.frames = 2048 := rfl
  have hRl : room_1.locals = 84000 := rfl
  have hRc : room_1.cells = 600000 := rfl
  have hRs : room_1.slots = 7302250 := rfl
  obtain ⟨p1, ep1⟩ : ∃ z : Int32, z = xs 1 := ⟨_, rfl⟩
  obtain ⟨p2, ep2⟩ : ∃ z : Int32, z = xs 2 := ⟨_, rfl⟩
  obtain ⟨p3, ep3⟩ : ∃ z : Int32, z = xs 3 := ⟨_, rfl⟩
  obtain ⟨p4, ep4⟩ : ∃ z : Int32, z = xs 4 := ⟨_, rfl⟩
  obtain ⟨p5, ep5⟩ : ∃ z : Int32, z = xs 5 := ⟨_, rfl⟩
  refine lv_aload_n hx hb dL_law_927 rfl (lv_at hl 2 rfl) ?_
  refine lv_aload_n hx hb dL_law_928 rfl (lv_at hl 3 rfl) ?_
  refine lv_iload_n hx hb dL_law_929 rfl (lv_at hl 0 rfl) ?_
  refine lv_iconst (v := 1) hx hb dL_law_930 (by decide) ?_
  refine lv_iadd hx hb dL_law_931 ?_
  refine lv_topi (fun v1 ev1 => ?_)
  obtain rfl : v1 = 1 := ev1.trans (by decide)
  refine va_sld hx hb hX hbl hbA hS (mm_in mm_k1 (by decide)) dL_law_932 ?_
  refine lv_topi (fun v2 ev2 => ?_)
  obtain rfl : p1 = v2 := ep1.trans ev2.symm
  refine lv_aload_n hx hb dL_law_933 rfl (lv_at hl 3 rfl) ?_
  refine lv_iload_n hx hb dL_law_934 rfl (lv_at hl 0 rfl) ?_
  refine lv_iconst (v := 2) hx hb dL_law_935 (by decide) ?_
  refine lv_iadd hx hb dL_law_936 ?_
  refine lv_topi (fun v3 ev3 => ?_)
  obtain rfl : v3 = 2 := ev3.trans (by decide)
  refine va_sld hx hb hX hbl hbA hS (mm_in mm_k2 (by decide)) dL_law_937 ?_
  refine lv_topi (fun v4 ev4 => ?_)
  obtain rfl : p2 = v4 := ep2.trans ev4.symm
  refine lv_aload_n hx hb dL_law_938 rfl (lv_at hl 3 rfl) ?_
  refine lv_iload_n hx hb dL_law_939 rfl (lv_at hl 0 rfl) ?_
  refine lv_iconst (v := 3) hx hb dL_law_940 (by decide) ?_
  refine lv_iadd hx hb dL_law_941 ?_
  refine lv_topi (fun v5 ev5 => ?_)
  obtain rfl : v5 = 3 := ev5.trans (by decide)
  refine va_sld hx hb hX hbl hbA hS (mm_in mm_k3 (by decide)) dL_law_942 ?_
  refine lv_topi (fun v6 ev6 => ?_)
  obtain rfl : p3 = v6 := ep3.trans ev6.symm
  refine mm_finir (va_runV (As := [.int p1, .int p2, .int p3]) (rest := []) ⟨hx, hb, hml, hown, hts⟩ (K152_X11_heard l G cy H.size qx p1 p2 p3 (ux 0) (ux 2) (ux 14) (ux 36) (ux 70) (ux 71) (ux 80) (ux 82) (ux 84) (ux 89) (ux 92) (ux 15) (ux 26) 0 0 0 0 0 0 0 (ux 16) (ux 17) (ux 18) (ux 19) (ux 20) (ux 21) (ux 22) (ux 23) (ux 24) (ux 25) ) (cwV 3 hts (mm_gV mm_w871 mm_w872 mm_w873 mm_w2 mm_w874) rfl rfl rfl hd_X11_heard ⟨by rw [hRf]; exact Nat.le_of_ble_eq_true rfl, by rw [hRl]; exact Nat.le_of_ble_eq_true rfl⟩) (mm_preV hK hP hD [0, 1, 2] rfl rfl 0 rfl rfl rfl) rfl rfl hl.1 rfl (lv_room (Nat.le_of_ble_eq_true rfl)) dL_law_943 ⟨by rw [hRc]; exact Nat.le_of_ble_eq_true rfl, by rw [hRs]; exact Nat.le_of_ble_eq_true rfl⟩) hP hD hS hA [0, 1, 2] rfl (fun _ => rfl) ?_
  clear hP hD hS
  clear H locs
  intro v7 _u H locs hw hP hD hS
  subst hw
  refine lv_aload_n hx hb dL_law_946 rfl (lv_at hl 1 rfl) ?_
  refine lv_aload_n hx hb dL_law_947 rfl (lv_at hl 3 rfl) ?_
  refine lv_iload_n hx hb dL_law_948 rfl (lv_at hl 0 rfl) ?_
  refine lv_iconst (v := 1) hx hb dL_law_949 (by decide) ?_
  refine lv_iadd hx hb dL_law_950 ?_
  refine lv_topi (fun v8 ev8 => ?_)
  obtain rfl : v8 = 1 := ev8.trans (by decide)
  refine va_sld hx hb hX hbl hbA hS (mm_in mm_k1 (by decide)) dL_law_951 ?_
  refine lv_topi (fun v9 ev9 => ?_)
  obtain rfl : p1 = v9 := ep1.trans ev9.symm
  refine lv_aload_n hx hb dL_law_952 rfl (lv_at hl 3 rfl) ?_
  refine lv_iload_n hx hb dL_law_953 rfl (lv_at hl 0 rfl) ?_
  refine lv_iconst (v := 2) hx hb dL_law_954 (by decide) ?_
  refine lv_iadd hx hb dL_law_955 ?_
  refine lv_topi (fun v10 ev10 => ?_)
  obtain rfl : v10 = 2 := ev10.trans (by decide)
  refine va_sld hx hb hX hbl hbA hS (mm_in mm_k2 (by decide)) dL_law_956 ?_
  refine lv_topi (fun v11 ev11 => ?_)
  obtain rfl : p2 = v11 := ep2.trans ev11.symm
  refine lv_aload_n hx hb dL_law_957 rfl (lv_at hl 3 rfl) ?_
  refine lv_iload_n hx hb dL_law_958 rfl (lv_at hl 0 rfl) ?_
  refine lv_iconst (v := 3) hx hb dL_law_959 (by decide) ?_
  refine lv_iadd hx hb dL_law_960 ?_
  refine lv_topi (fun v12 ev12 => ?_)
  obtain rfl : v12 = 3 := ev12.trans (by decide)
  refine va_sld hx hb hX hbl hbA hS (mm_in mm_k3 (by decide)) dL_law_961 ?_
  refine lv_topi (fun v13 ev13 => ?_)
  obtain rfl : p3 = v13 := ep3.trans ev13.symm
  refine mm_finir (va_runV (As := [.int p1, .int p2, .int p3]) (rest := [.int (-2)]) ⟨hx, hb, hml, hown, hts⟩ (K153_X12_heard l G cy H.size qm p1 p2 p3 (um 0) (um 1) (um 2) (um 3) (um 4) 0 0 0 0 0 0 0 0 0 (-1) (um 5) (um 6) (um 7) (um 8) (um 9) (um 10) (um 11) (um 12) (um 13) (um 14) (um 15) (um 16) (um 17) 0 0 0 0 0 0 (um 18) 0 (um 19) ) (cwV 3 hts (mm_gV mm_w886 mm_w887 mm_w888 mm_w5 mm_w889) rfl rfl rfl hd_X12_heard ⟨by rw [hRf]; exact Nat.le_of_ble_eq_true rfl, by rw [hRl]; exact Nat.le_of_ble_eq_true rfl⟩) (mm_preV hK hP hD [3, 4] rfl rfl 3 rfl rfl rfl) rfl rfl hl.1 rfl (lv_room (Nat.le_of_ble_eq_true rfl)) dL_law_962 ⟨by rw [hRc]; exact Nat.le_of_ble_eq_true rfl, by rw [hRs]; exact Nat.le_of_ble_eq_true rfl⟩) hP hD hS hA [3, 4] rfl (fun _ => rfl) ?_
  clear hP hD hS
  clear H locs
  intro v14 _u H locs hw hP hD hS
  subst hw
  refine lv_icmp_eq (tgt := 3153) hx hb dL_law_965 (by decide) (fun c15 => ?_) (fun c15 => ?_)
  · refine lv_iinc (v := 6) (lv' := [(3, .int 6), (2, .ref qm), (1, .ref qx), (0, .ref b)]) hx hb dL_law_3153 hl (k := 0) rfl (by decide) (by decide) rfl ?_
    clear hl
    clear ls
    intro ls hl
    refine lv_goto (tgt := 18) hx hb dL_law_3156 (by decide) ?_
    refine lv_iload_n hx hb dL_law_18 rfl (lv_at hl 0 rfl) ?_
    refine lv_aload_n hx hb dL_law_19 rfl (lv_at hl 3 rfl) ?_
    refine va_slen hx hb hX hbl hbA hS dL_law_20 ?_
    refine lv_topi (fun v16 ev16 => ?_)
    obtain rfl : v16 = 6 := ev16.trans (by decide)
    refine lv_bipush (v := 6) hx hb dL_law_21 (by decide) ?_
    refine lv_isub hx hb dL_law_23 ?_
    refine lv_topi (fun v17 ev17 => ?_)
    obtain rfl : v17 = 0 := ev17.trans (by decide)
    refine lv_icmp_gt (tgt := 3159) hx hb dL_law_24 (by decide) (fun c18 => ?_) (fun c18 => ?_)
    · refine lv_iconst (v := 1) hx hb dL_law_3159 (by decide) ?_
      refine va_forget (fun q hq => by have := hS.2.2 q hq; rw [hAe] at this; exact this) ?_
      refine W.widen (k := 600000) (n := 7302250) (Nat.le_of_ble_eq_true rfl) (Nat.le_of_ble_eq_true rfl) ?_
      exact lw_ret hx hb hr hlocks dL_law_3160
    · have q19 := mm_leL (mm_nlt c18) mm_k6 mm_k0
      exact mm_no q19 (by decide)
  · have q20 := mm_neL (lo := (-1)) (mm_ne c15) mm_km2 mm_km2 (by decide) (by decide)
    exact mm_no q20 (by decide)

set_option maxHeartbeats 4000000 in
set_option maxRecDepth 100000 in
theorem lc_18 {p : Program} {e : Env} {s : State} {m : MethodId} {below : List Frame} {meth : Method} {c : Code} {b : Nat} {xs : Nat → Int32} {G : va_G} {cy : Nat → ClassId} {qx qm : Nat} {ux um : Nat → Nat} {H : Heap} {locs : List Loc} {ls : Array Slot} {A : Nat → Prop} (l : Launch) (hx : p.tables.exec = Jvm.exec) (hb : c.code = code) (hr : meth.sig.returnType = ret) (hlocks : meth.locks = false) (hml : c.maxLocals = 4) (hown : s.vm.findClass R_law = some m.cls) (hts : ∀ w ∈ lw_x :: wsL_law, w.before #[Value.ref b] s = true) (hX : va_X b 6 xs s s.heap) (hbl : b < s.heap.size) (hAe : A = fun q => s.heap.size ≤ q) (hK : mm_K G cy s) (hS : va_S A s.heap H locs) (hP : va_P G vwCl [(qx, .inr (11, [.ref (ux 0), .ref (ux 2), .ref (ux 14), .ref (ux 36), .ref (ux 70), .ref (ux 71), .ref (ux 80), .ref (ux 82), .ref (ux 84), .ref (ux 89), .ref (ux 92)])), ((ux 14), .inr (10, [.ref (ux 15), .ref (ux 26)])), ((ux 15), .inr (0, [.int 0, .int 0, .int 0, .int 0, .int 0, .int 0, .int 0, .int 0, .ref (ux 16), .ref (ux 17), .ref (ux 18), .ref (ux 19), .ref (ux 20), .ref (ux 21), .ref (ux 22), .ref (ux 23), .ref (ux 24), .ref (ux 25)])), (qm, .inr (12, [.int 0, .ref (um 0), .ref (um 1), .ref (um 2), .ref (um 3), .ref (um 4), .int 0, .int 0, .int 0, .int 0, .int 0, .long 0, .int 0, .int 0, .int 0, .int (-1), .ref (um 5), .ref (um 6), .ref (um 7), .ref (um 8), .ref (um 9), .ref (um 10), .ref (um 11), .ref (um 12), .ref (um 13), .ref (um 14), .ref (um 15), .ref (um 16), .ref (um 17), .int 0, .int 0, .int 0, .int 0, .int 0, .int 0, .ref (um 18), .int 0, .ref (um 19)])), ((um 6), .inl (cy 1, 30, .inl (fun _ => 0)))] H) (hD : va_D A [(qx, .inr (11, [.ref (ux 0), .ref (ux 2), .ref (ux 14), .ref (ux 36), .ref (ux 70), .ref (ux 71), .ref (ux 80), .ref (ux 82), .ref (ux 84), .ref (ux 89), .ref (ux 92)])), ((ux 14), .inr (10, [.ref (ux 15), .ref (ux 26)])), ((ux 15), .inr (0, [.int 0, .int 0, .int 0, .int 0, .int 0, .int 0, .int 0, .int 0, .ref (ux 16), .ref (ux 17), .ref (ux 18), .ref (ux 19), .ref (ux 20), .ref (ux 21), .ref (ux 22), .ref (ux 23), .ref (ux 24), .ref (ux 25)])), (qm, .inr (12, [.int 0, .ref (um 0), .ref (um 1), .ref (um 2), .ref (um 3), .ref (um 4), .int 0, .int 0, .int 0, .int 0, .int 0, .long 0, .int 0, .int 0, .int 0, .int (-1), .ref (um 5), .ref (um 6), .ref (um 7), .ref (um 8), .ref (um 9), .ref (um 10), .ref (um 11), .ref (um 12), .ref (um 13), .ref (um 14), .ref (um 15), .ref (um 16), .ref (um 17), .int 0, .int 0, .int 0, .int 0, .int 0, .int 0, .ref (um 18), .int 0, .ref (um 19)])), ((um 6), .inl (cy 1, 30, .inl (fun _ => 0)))]) (hl : lv_has ls 4 [(3, .int 0), (2, .ref qm), (1, .ref qx), (0, .ref b)]) : W p l e room_1 s m #[Value.ref b] below meth c H locs 116 20302 (lw_Z below #[Value.ref b] s) (F0 m 970 ls []) := by
  have hA : ∀ q, s.heap.size ≤ q → A q := by rw [hAe]; exact fun _ h => h
  have hbA : ¬ A b := by rw [hAe]; exact Nat.not_le.mpr hbl
  have hRf : room_1.frames = 2048 := rfl
  have hRl : room_1.locals = 84000 := rfl
  have hRc : room_1.cells = 600000 := rfl
  have hRs : room_1.slots = 7302250 := rfl
  obtain ⟨p1, ep1⟩ : ∃ z : Int32, z = xs 1 := ⟨_, rfl⟩
  obtain ⟨p2, ep2⟩ : ∃ z : Int32, z = xs 2 := ⟨_, rfl⟩
  obtain ⟨p3, ep3⟩ : ∃ z : Int32, z = xs 3 := ⟨_, rfl⟩
  obtain ⟨p4, ep4⟩ : ∃ z : Int32, z = xs 4 := ⟨_, rfl⟩
  obtain ⟨p5, ep5⟩ : ∃ z : Int32, z = xs 5 := ⟨_, rfl⟩
  refine lv_aload_n hx hb dL_law_970 rfl (lv_at hl 2 rfl) ?_
  refine lv_aload_n hx hb dL_law_971 rfl (lv_at hl 3 rfl) ?_
  refine lv_iload_n hx hb dL_law_972 rfl (lv_at hl 0 rfl) ?_
  refine lv_iconst (v := 1) hx hb dL_law_973 (by decide) ?_
  refine lv_iadd hx hb dL_law_974 ?_
  refine lv_topi (fun v1 ev1 => ?_)
  obtain rfl : v1 = 1 := ev1.trans (by decide)
  refine va_sld hx hb hX hbl hbA hS (mm_in mm_k1 (by decide)) dL_law_975 ?_
  refine lv_topi (fun v2 ev2 => ?_)
  obtain rfl : p1 = v2 := ep1.trans ev2.symm
  refine lv_aload_n hx hb dL_law_976 rfl (lv_at hl 3 rfl) ?_
  refine lv_iload_n hx hb dL_law_977 rfl (lv_at hl 0 rfl) ?_
  refine lv_iconst (v := 2) hx hb dL_law_978 (by decide) ?_
  refine lv_iadd hx hb dL_law_979 ?_
  refine lv_topi (fun v3 ev3 => ?_)
  obtain rfl : v3 = 2 := ev3.trans (by decide)
  refine va_sld hx hb hX hbl hbA hS (mm_in mm_k2 (by decide)) dL_law_980 ?_
  refine lv_topi (fun v4 ev4 => ?_)
  obtain rfl : p2 = v4 := ep2.trans ev4.symm
  refine lv_aload_n hx hb dL_law_981 rfl (lv_at hl 3 rfl) ?_
  refine lv_iload_n hx hb dL_law_982 rfl (lv_at hl 0 rfl) ?_
  refine lv_iconst (v := 3) hx hb dL_law_983 (by decide) ?_
  refine lv_iadd hx hb dL_law_984 ?_
  refine lv_topi (fun v5 ev5 => ?_)
  obtain rfl : v5 = 3 := ev5.trans (by decide)
  refine va_sld hx hb hX hbl hbA hS (mm_in mm_k3 (by decide)) dL_law_985 ?_
  refine lv_topi (fun v6 ev6 => ?_)
  obtain rfl : p3 = v6 := ep3.trans ev6.symm
  refine mm_finir (va_runV (As := [.int p1, .int p2, .int p3]) (rest := []) ⟨hx, hb, hml, hown, hts⟩ (K154_X11_silent l G cy H.size qx p1 p2 p3 (ux 0) (ux 2) (ux 14) (ux 36) (ux 70) (ux 71) (ux 80) (ux 82) (ux 84) (ux 89) (ux 92) (ux 15) (ux 26) 0 0 0 0 0 0 0 (ux 16) (ux 17) (ux 18) (ux 19) (ux 20) (ux 21) (ux 22) (ux 23) (ux 24) (ux 25) ) (cwV 3 hts (mm_gV mm_w890 mm_w891 mm_w892 mm_w2 mm_w893) rfl rfl rfl hd_X11_silent ⟨by rw [hRf]; exact Nat.le_of_ble_eq_true rfl, by rw [hRl]; exact Nat.le_of_ble_eq_true rfl⟩) (mm_preV hK hP hD [0, 1, 2] rfl rfl 0 rfl rfl rfl) rfl rfl hl.1 rfl (lv_room (Nat.le_of_ble_eq_true rfl)) dL_law_986 ⟨by rw [hRc]; exact Nat.le_of_ble_eq_true rfl, by rw [hRs]; exact Nat.le_of_ble_eq_true rfl⟩) hP hD hS hA [0, 1, 2] rfl (fun _ => rfl) ?_
  clear hP hD hS
  clear H locs
  intro v7 _u H locs hw hP hD hS
  subst hw
  refine lv_aload_n hx hb dL_law_989 rfl (lv_at hl 1 rfl) ?_
  refine lv_aload_n hx hb dL_law_990 rfl (lv_at hl 3 rfl) ?_
  refine lv_iload_n hx hb dL_law_991 rfl (lv_at hl 0 rfl) ?_
  refine lv_iconst (v := 1) hx hb dL_law_992 (by decide) ?_
  refine lv_iadd hx hb dL_law_993 ?_
  refine lv_topi (fun v8 ev8 => ?_)
  obtain rfl : v8 = 1 := ev8.trans (by decide)
  refine va_sld hx hb hX hbl hbA hS (mm_in mm_k1 (by decide)) dL_law_994 ?_
  refine lv_topi (fun v9 ev9 => ?_)
  obtain rfl : p1 = v9 := ep1.trans ev9.symm
  refine lv_aload_n hx hb dL_law_995 rfl (lv_at hl 3 rfl) ?_
  refine lv_iload_n hx hb dL_law_996 rfl (lv_at hl 0 rfl) ?_
  refine lv_iconst (v := 2) hx hb dL_law_997 (by decide) ?_
  refine lv_iadd hx hb dL_law_998 ?_
  refine lv_topi (fun v10 ev10 => ?_)
  obtain rfl : v10 = 2 := ev10.trans (by decide)
  refine va_sld hx hb hX hbl hbA hS (mm_in mm_k2 (by decide)) dL_law_999 ?_
  refine lv_topi (fun v11 ev11 => ?_)
  obtain rfl : p2 = v11 := ep2.trans ev11.symm
  refine lv_aload_n hx hb dL_law_1000 rfl (lv_at hl 3 rfl) ?_
  refine lv_iload_n hx hb dL_law_1001 rfl (lv_at hl 0 rfl) ?_
  refine lv_iconst (v := 3) hx hb dL_law_1002 (by decide) ?_
  refine lv_iadd hx hb dL_law_1003 ?_
  refine lv_topi (fun v12 ev12 => ?_)
  obtain rfl : v12 = 3 := ev12.trans (by decide)
  refine va_sld hx hb hX hbl hbA hS (mm_in mm_k3 (by decide)) dL_law_1004 ?_
  refine lv_topi (fun v13 ev13 => ?_)
  obtain rfl : p3 = v13 := ep3.trans ev13.symm
  refine mm_finir (va_runV (As := [.int p1, .int p2, .int p3]) (rest := [.int (-2)]) ⟨hx, hb, hml, hown, hts⟩ (K155_X12_silent l G cy H.size qm p1 p2 p3 (um 0) (um 1) (um 2) (um 3) (um 4) 0 0 0 0 0 0 0 0 0 (-1) (um 5) (um 6) (um 7) (um 8) (um 9) (um 10) (um 11) (um 12) (um 13) (um 14) (um 15) (um 16) (um 17) 0 0 0 0 0 0 (um 18) 0 (um 19) ) (cwV 3 hts (mm_gV mm_w894 mm_w895 mm_w896 mm_w5 mm_w897) rfl rfl rfl hd_X12_silent ⟨by rw [hRf]; exact Nat.le_of_ble_eq_true rfl, by rw [hRl]; exact Nat.le_of_ble_eq_true rfl⟩) (mm_preV hK hP hD [3, 4] rfl rfl 3 rfl rfl rfl) rfl rfl hl.1 rfl (lv_room (Nat.le_of_ble_eq_true rfl)) dL_law_1005 ⟨by rw [hRc]; exact Nat.le_of_ble_eq_true rfl, by rw [hRs]; exact Nat.le_of_ble_eq_true rfl⟩) hP hD hS hA [3, 4] rfl (fun _ => rfl) ?_
  clear hP hD hS
  clear H locs
  intro v14 _u H locs hw hP hD hS
  subst hw
  refine lv_icmp_eq (tgt := 3153) hx hb dL_law_1008 (by decide) (fun c15 => ?_) (fun c15 => ?_)
  · refine lv_iinc (v := 6) (lv' := [(3, .int 6), (2, .ref qm), (1, .ref qx), (0, .ref b)]) hx hb dL_law_3153 hl (k := 0) rfl (by decide) (by decide) rfl ?_
    clear hl
    clear ls
    intro ls hl
    refine lv_goto (tgt := 18) hx hb dL_law_3156 (by decide) ?_
    refine lv_iload_n hx hb dL_law_18 rfl (lv_at hl 0 rfl) ?_
    refine lv_aload_n hx hb dL_law_19 rfl (lv_at hl 3 rfl) ?_
    refine va_slen hx hb hX hbl hbA hS dL_law_20 ?_
    refine lv_topi (fun v16 ev16 => ?_)
    obtain rfl : v16 = 6 := ev16.trans (by decide)
    refine lv_bipush (v := 6) hx hb dL_law_21 (by decide) ?_
    refine lv_isub hx hb dL_law_23 ?_
    refine lv_topi (fun v17 ev17 => ?_)
    obtain rfl : v17 = 0 := ev17.trans (by decide)
    refine lv_icmp_gt (tgt := 3159) hx hb dL_law_24 (by decide) (fun c18 => ?_) (fun c18 => ?_)
    · refine lv_iconst (v := 1) hx hb dL_law_3159 (by decide) ?_
      refine va_forget (fun q hq => by have := hS.2.2 q hq; rw [hAe] at this; exact this) ?_
      refine W.widen (k := 600000) (n := 7302250) (Nat.le_of_ble_eq_true rfl) (Nat.le_of_ble_eq_true rfl) ?_
      exact lw_ret hx hb hr hlocks dL_law_3160
    · have q19 := mm_leL (mm_nlt c18) mm_k6 mm_k0
      exact mm_no q19 (by decide)
  · have q20 := mm_neL (lo := (-1)) (mm_ne c15) mm_km2 mm_km2 (by decide) (by decide)
    exact mm_no q20 (by decide)

set_option maxHeartbeats 4000000 in
set_option maxRecDepth 100000 in
theorem lc_19 {p : Program} {e : Env} {s : State} {m : MethodId} {below : List Frame} {meth : Method} {c : Code} {b : Nat} {xs : Nat → Int32} {G : va_G} {cy : Nat → ClassId} {qx qm : Nat} {ux um : Nat → Nat} {H : Heap} {locs : List Loc} {ls : Array Slot} {A : Nat → Prop} (l : Launch) (hx : p.tables.exec = Jvm.exec) (hb : c.code = code) (hr : meth.sig.returnType = ret) (hlocks : meth.locks = false) (hml : c.maxLocals = 4) (hown : s.vm.findClass R_law = some m.cls) (hts : ∀ w ∈ lw_x :: wsL_law, w.before #[Value.ref b] s = true) (hX : va_X b 6 xs s s.heap) (hbl : b < s.heap.size) (hAe : A = fun q => s.heap.size ≤ q) (hK : mm_K G cy s) (hS : va_S A s.heap H locs) (hP : va_P G vwCl [(qx, .inr (11, [.ref (ux 0), .ref (ux 2), .ref (ux 14), .ref (ux 36), .ref (ux 70), .ref (ux 71), .ref (ux 80), .ref (ux 82), .ref (ux 84), .ref (ux 89), .ref (ux 92)])), ((ux 14), .inr (10, [.ref (ux 15), .ref (ux 26)])), ((ux 15), .inr (0, [.int 0, .int 0, .int 0, .int 0, .int 0, .int 0, .int 0, .int 0, .ref (ux 16), .ref (ux 17), .ref (ux 18), .ref (ux 19), .ref (ux 20), .ref (ux 21), .ref (ux 22), .ref (ux 23), .ref (ux 24), .ref (ux 25)])), (qm, .inr (12, [.int 0, .ref (um 0), .ref (um 1), .ref (um 2), .ref (um 3), .ref (um 4), .int 0, .int 0, .int 0, .int 0, .int 0, .long 0, .int 0, .int 0, .int 0, .int (-1), .ref (um 5), .ref (um 6), .ref (um 7), .ref (um 8), .ref (um 9), .ref (um 10), .ref (um 11), .ref (um 12), .ref (um 13), .ref (um 14), .ref (um 15), .ref (um 16), .ref (um 17), .int 0, .int 0, .int 0, .int 0, .int 0, .int 0, .ref (um 18), .int 0, .ref (um 19)])), ((um 6), .inl (cy 1, 30, .inl (fun _ => 0)))] H) (hD : va_D A [(qx, .inr (11, [.ref (ux 0), .ref (ux 2), .ref (ux 14), .ref (ux 36), .ref (ux 70), .ref (ux 71), .ref (ux 80), .ref (ux 82), .ref (ux 84), .ref (ux 89), .ref (ux 92)])), ((ux 14), .inr (10, [.ref (ux 15), .ref (ux 26)])), ((ux 15), .inr (0, [.int 0, .int 0, .int 0, .int 0, .int 0, .int 0, .int 0, .int 0, .ref (ux 16), .ref (ux 17), .ref (ux 18), .ref (ux 19), .ref (ux 20), .ref (ux 21), .ref (ux 22), .ref (ux 23), .ref (ux 24), .ref (ux 25)])), (qm, .inr (12, [.int 0, .ref (um 0), .ref (um 1), .ref (um 2), .ref (um 3), .ref (um 4), .int 0, .int 0, .int 0, .int 0, .int 0, .long 0, .int 0, .int 0, .int 0, .int (-1), .ref (um 5), .ref (um 6), .ref (um 7), .ref (um 8), .ref (um 9), .ref (um 10), .ref (um 11), .ref (um 12), .ref (um 13), .ref (um 14), .ref (um 15), .ref (um 16), .ref (um 17), .int 0, .int 0, .int 0, .int 0, .int 0, .int 0, .ref (um 18), .int 0, .ref (um 19)])), ((um 6), .inl (cy 1, 30, .inl (fun _ => 0)))]) (hl : lv_has ls 4 [(3, .int 0), (2, .ref qm), (1, .ref qx), (0, .ref b)]) : W p l e room_1 s m #[Value.ref b] below meth c H locs 116 20302 (lw_Z below #[Value.ref b] s) (F0 m 1013 ls []) := by
  have hA : ∀ q, s.heap.size ≤ q → A q := by rw [hAe]; exact fun _ h => h
  have hbA : ¬ A b := by rw [hAe]; exact Nat.not_le.mpr hbl
  have hRf : room_1.frames = 2048 := rfl
  have hRl : room_1.locals = 84000 := rfl
  have hRc : room_1.cells = 600000 := rfl
  have hRs : room_1.slots = 7302250 := rfl
  obtain ⟨p1, ep1⟩ : ∃ z : Int32, z = xs 1 := ⟨_, rfl⟩
  obtain ⟨p2, ep2⟩ : ∃ z : Int32, z = xs 2 := ⟨_, rfl⟩
  obtain ⟨p3, ep3⟩ : ∃ z : Int32, z = xs 3 := ⟨_, rfl⟩
  obtain ⟨p4, ep4⟩ : ∃ z : Int32, z = xs 4 := ⟨_, rfl⟩
  obtain ⟨p5, ep5⟩ : ∃ z : Int32, z = xs 5 := ⟨_, rfl⟩
  refine lv_aload_n hx hb dL_law_1013 rfl (lv_at hl 2 rfl) ?_
  refine lv_aload_n hx hb dL_law_1014 rfl (lv_at hl 3 rfl) ?_
  refine lv_iload_n hx hb dL_law_1015 rfl (lv_at hl 0 rfl) ?_
  refine lv_iconst (v := 1) hx hb dL_law_1016 (by decide) ?_
  refine lv_iadd hx hb dL_law_1017 ?_
  refine lv_topi (fun v1 ev1 => ?_)
  obtain rfl : v1 = 1 := ev1.trans (by decide)
  refine va_sld hx hb hX hbl hbA hS (mm_in mm_k1 (by decide)) dL_law_1018 ?_
  refine lv_topi (fun v2 ev2 => ?_)
  obtain rfl : p1 = v2 := ep1.trans ev2.symm
  refine lv_aload_n hx hb dL_law_1019 rfl (lv_at hl 3 rfl) ?_
  refine lv_iload_n hx hb dL_law_1020 rfl (lv_at hl 0 rfl) ?_
  refine lv_iconst (v := 2) hx hb dL_law_1021 (by decide) ?_
  refine lv_iadd hx hb dL_law_1022 ?_
  refine lv_topi (fun v3 ev3 => ?_)
  obtain rfl : v3 = 2 := ev3.trans (by decide)
  refine va_sld hx hb hX hbl hbA hS (mm_in mm_k2 (by decide)) dL_law_1023 ?_
  refine lv_topi (fun v4 ev4 => ?_)
  obtain rfl : p2 = v4 := ep2.trans ev4.symm
  refine lv_aload_n hx hb dL_law_1024 rfl (lv_at hl 3 rfl) ?_
  refine lv_iload_n hx hb dL_law_1025 rfl (lv_at hl 0 rfl) ?_
  refine lv_iconst (v := 3) hx hb dL_law_1026 (by decide) ?_
  refine lv_iadd hx hb dL_law_1027 ?_
  refine lv_topi (fun v5 ev5 => ?_)
  obtain rfl : v5 = 3 := ev5.trans (by decide)
  refine va_sld hx hb hX hbl hbA hS (mm_in mm_k3 (by decide)) dL_law_1028 ?_
  refine lv_topi (fun v6 ev6 => ?_)
  obtain rfl : p3 = v6 := ep3.trans ev6.symm
  refine mm_finir (va_runV (As := [.int p1, .int p2, .int p3]) (rest := []) ⟨hx, hb, hml, hown, hts⟩ (K156_X11_again l G cy H.size qx p1 p2 p3 (ux 0) (ux 2) (ux 14) (ux 36) (ux 70) (ux 71) (ux 80) (ux 82) (ux 84) (ux 89) (ux 92) (ux 15) (ux 26) 0 0 0 0 0 0 0 (ux 16) (ux 17) (ux 18) (ux 19) (ux 20) (ux 21) (ux 22) (ux 23) (ux 24) (ux 25) ) (cwV 3 hts (mm_gV mm_w898 mm_w899 mm_w900 mm_w2 mm_w901) rfl rfl rfl hd_X11_again ⟨by rw [hRf]; exact Nat.le_of_ble_eq_true rfl, by rw [hRl]; exact Nat.le_of_ble_eq_true rfl⟩) (mm_preV hK hP hD [0, 1, 2] rfl rfl 0 rfl rfl rfl) rfl rfl hl.1 rfl (lv_room (Nat.le_of_ble_eq_true rfl)) dL_law_1029 ⟨by rw [hRc]; exact Nat.le_of_ble_eq_true rfl, by rw [hRs]; exact Nat.le_of_ble_eq_true rfl⟩) hP hD hS hA [0, 1, 2] rfl (fun _ => rfl) ?_
  clear hP hD hS
  clear H locs
  intro v7 _u H locs hw hP hD hS
  subst hw
  refine lv_aload_n hx hb dL_law_1032 rfl (lv_at hl 1 rfl) ?_
  refine lv_aload_n hx hb dL_law_1033 rfl (lv_at hl 3 rfl) ?_
  refine lv_iload_n hx hb dL_law_1034 rfl (lv_at hl 0 rfl) ?_
  refine lv_iconst (v := 1) hx hb dL_law_1035 (by decide) ?_
  refine lv_iadd hx hb dL_law_1036 ?_
  refine lv_topi (fun v8 ev8 => ?_)
  obtain rfl : v8 = 1 := ev8.trans (by decide)
  refine va_sld hx hb hX hbl hbA hS (mm_in mm_k1 (by decide)) dL_law_1037 ?_
  refine lv_topi (fun v9 ev9 => ?_)
  obtain rfl : p1 = v9 := ep1.trans ev9.symm
  refine lv_aload_n hx hb dL_law_1038 rfl (lv_at hl 3 rfl) ?_
  refine lv_iload_n hx hb dL_law_1039 rfl (lv_at hl 0 rfl) ?_
  refine lv_iconst (v := 2) hx hb dL_law_1040 (by decide) ?_
  refine lv_iadd hx hb dL_law_1041 ?_
  refine lv_topi (fun v10 ev10 => ?_)
  obtain rfl : v10 = 2 := ev10.trans (by decide)
  refine va_sld hx hb hX hbl hbA hS (mm_in mm_k2 (by decide)) dL_law_1042 ?_
  refine lv_topi (fun v11 ev11 => ?_)
  obtain rfl : p2 = v11 := ep2.trans ev11.symm
  refine lv_aload_n hx hb dL_law_1043 rfl (lv_at hl 3 rfl) ?_
  refine lv_iload_n hx hb dL_law_1044 rfl (lv_at hl 0 rfl) ?_
  refine lv_iconst (v := 3) hx hb dL_law_1045 (by decide) ?_
  refine lv_iadd hx hb dL_law_1046 ?_
  refine lv_topi (fun v12 ev12 => ?_)
  obtain rfl : v12 = 3 := ev12.trans (by decide)
  refine va_sld hx hb hX hbl hbA hS (mm_in mm_k3 (by decide)) dL_law_1047 ?_
  refine lv_topi (fun v13 ev13 => ?_)
  obtain rfl : p3 = v13 := ep3.trans ev13.symm
  refine mm_finir (va_runV (As := [.int p1, .int p2, .int p3]) (rest := [.int (-2)]) ⟨hx, hb, hml, hown, hts⟩ (K157_X12_again l G cy H.size qm p1 p2 p3 (um 0) (um 1) (um 2) (um 3) (um 4) 0 0 0 0 0 0 0 0 0 (-1) (um 5) (um 6) (um 7) (um 8) (um 9) (um 10) (um 11) (um 12) (um 13) (um 14) (um 15) (um 16) (um 17) 0 0 0 0 0 0 (um 18) 0 (um 19) ) (cwV 3 hts (mm_gV mm_w907 mm_w908 mm_w909 mm_w5 mm_w910) rfl rfl rfl hd_X12_again ⟨by rw [hRf]; exact Nat.le_of_ble_eq_true rfl, by rw [hRl]; exact Nat.le_of_ble_eq_true rfl⟩) (mm_preV hK hP hD [3, 4] rfl rfl 3 rfl rfl rfl) rfl rfl hl.1 rfl (lv_room (Nat.le_of_ble_eq_true rfl)) dL_law_1048 ⟨by rw [hRc]; exact Nat.le_of_ble_eq_true rfl, by rw [hRs]; exact Nat.le_of_ble_eq_true rfl⟩) hP hD hS hA [3, 4] rfl (fun _ => rfl) ?_
  clear hP hD hS
  clear H locs
  intro v14 _u H locs hw hP hD hS
  subst hw
  refine lv_icmp_eq (tgt := 3153) hx hb dL_law_1051 (by decide) (fun c15 => ?_) (fun c15 => ?_)
  · refine lv_iinc (v := 6) (lv' := [(3, .int 6), (2, .ref qm), (1, .ref qx), (0, .ref b)]) hx hb dL_law_3153 hl (k := 0) rfl (by decide) (by decide) rfl ?_
    clear hl
    clear ls
    intro ls hl
    refine lv_goto (tgt := 18) hx hb dL_law_3156 (by decide) ?_
    refine lv_iload_n hx hb dL_law_18 rfl (lv_at hl 0 rfl) ?_
    refine lv_aload_n hx hb dL_law_19 rfl (lv_at hl 3 rfl) ?_
    refine va_slen hx hb hX hbl hbA hS dL_law_20 ?_
    refine lv_topi (fun v16 ev16 => ?_)
    obtain rfl : v16 = 6 := ev16.trans (by decide)
    refine lv_bipush (v := 6) hx hb dL_law_21 (by decide) ?_
    refine lv_isub hx hb dL_law_23 ?_
    refine lv_topi (fun v17 ev17 => ?_)
    obtain rfl : v17 = 0 := ev17.trans (by decide)
    refine lv_icmp_gt (tgt := 3159) hx hb dL_law_24 (by decide) (fun c18 => ?_) (fun c18 => ?_)
    · refine lv_iconst (v := 1) hx hb dL_law_3159 (by decide) ?_
      refine va_forget (fun q hq => by have := hS.2.2 q hq; rw [hAe] at this; exact this) ?_
      refine W.widen (k := 600000) (n := 7302250) (Nat.le_of_ble_eq_true rfl) (Nat.le_of_ble_eq_true rfl) ?_
      exact lw_ret hx hb hr hlocks dL_law_3160
    · have q19 := mm_leL (mm_nlt c18) mm_k6 mm_k0
      exact mm_no q19 (by decide)
  · have q20 := mm_neL (lo := (-1)) (mm_ne c15) mm_km2 mm_km2 (by decide) (by decide)
    exact mm_no q20 (by decide)

set_option maxHeartbeats 4000000 in
set_option maxRecDepth 100000 in
theorem lc_20 {p : Program} {e : Env} {s : State} {m : MethodId} {below : List Frame} {meth : Method} {c : Code} {b : Nat} {xs : Nat → Int32} {G : va_G} {cy : Nat → ClassId} {qx qm : Nat} {ux um : Nat → Nat} {H : Heap} {locs : List Loc} {ls : Array Slot} {A : Nat → Prop} (l : Launch) (hx : p.tables.exec = Jvm.exec) (hb : c.code = code) (hr : meth.sig.returnType = ret) (hlocks : meth.locks = false) (hml : c.maxLocals = 4) (hown : s.vm.findClass R_law = some m.cls) (hts : ∀ w ∈ lw_x :: wsL_law, w.before #[Value.ref b] s = true) (hX : va_X b 6 xs s s.heap) (hbl : b < s.heap.size) (hAe : A = fun q => s.heap.size ≤ q) (hK : mm_K G cy s) (hS : va_S A s.heap H locs) (hP : va_P G vwCl [(qx, .inr (11, [.ref (ux 0), .ref (ux 2), .ref (ux 14), .ref (ux 36), .ref (ux 70), .ref (ux 71), .ref (ux 80), .ref (ux 82), .ref (ux 84), .ref (ux 89), .ref (ux 92)])), ((ux 14), .inr (10, [.ref (ux 15), .ref (ux 26)])), ((ux 15), .inr (0, [.int 0, .int 0, .int 0, .int 0, .int 0, .int 0, .int 0, .int 0, .ref (ux 16), .ref (ux 17), .ref (ux 18), .ref (ux 19), .ref (ux 20), .ref (ux 21), .ref (ux 22), .ref (ux 23), .ref (ux 24), .ref (ux 25)])), (qm, .inr (12, [.int 0, .ref (um 0), .ref (um 1), .ref (um 2), .ref (um 3), .ref (um 4), .int 0, .int 0, .int 0, .int 0, .int 0, .long 0, .int 0, .int 0, .int 0, .int (-1), .ref (um 5), .ref (um 6), .ref (um 7), .ref (um 8), .ref (um 9), .ref (um 10), .ref (um 11), .ref (um 12), .ref (um 13), .ref (um 14), .ref (um 15), .ref (um 16), .ref (um 17), .int 0, .int 0, .int 0, .int 0, .int 0, .int 0, .ref (um 18), .int 0, .ref (um 19)])), ((um 6), .inl (cy 1, 30, .inl (fun _ => 0)))] H) (hD : va_D A [(qx, .inr (11, [.ref (ux 0), .ref (ux 2), .ref (ux 14), .ref (ux 36), .ref (ux 70), .ref (ux 71), .ref (ux 80), .ref (ux 82), .ref (ux 84), .ref (ux 89), .ref (ux 92)])), ((ux 14), .inr (10, [.ref (ux 15), .ref (ux 26)])), ((ux 15), .inr (0, [.int 0, .int 0, .int 0, .int 0, .int 0, .int 0, .int 0, .int 0, .ref (ux 16), .ref (ux 17), .ref (ux 18), .ref (ux 19), .ref (ux 20), .ref (ux 21), .ref (ux 22), .ref (ux 23), .ref (ux 24), .ref (ux 25)])), (qm, .inr (12, [.int 0, .ref (um 0), .ref (um 1), .ref (um 2), .ref (um 3), .ref (um 4), .int 0, .int 0, .int 0, .int 0, .int 0, .long 0, .int 0, .int 0, .int 0, .int (-1), .ref (um 5), .ref (um 6), .ref (um 7), .ref (um 8), .ref (um 9), .ref (um 10), .ref (um 11), .ref (um 12), .ref (um 13), .ref (um 14), .ref (um 15), .ref (um 16), .ref (um 17), .int 0, .int 0, .int 0, .int 0, .int 0, .int 0, .ref (um 18), .int 0, .ref (um 19)])), ((um 6), .inl (cy 1, 30, .inl (fun _ => 0)))]) (hl : lv_has ls 4 [(3, .int 0), (2, .ref qm), (1, .ref qx), (0, .ref b)]) : W p l e room_1 s m #[Value.ref b] below meth c H locs 116 20302 (lw_Z below #[Value.ref b] s) (F0 m 1056 ls []) := by
  have hA : ∀ q, s.heap.size ≤ q → A q := by rw [hAe]; exact fun _ h => h
  have hbA : ¬ A b := by rw [hAe]; exact Nat.not_le.mpr hbl
  have hRf : room_1.frames = 2048 := rfl
  have hRl : room_1.locals = 84000 := rfl
  have hRc : room_1.cells = 600000 := rfl
  have hRs : room_1.slots = 7302250 := rfl
  obtain ⟨p1, ep1⟩ : ∃ z : Int32, z = xs 1 := ⟨_, rfl⟩
  obtain ⟨p2, ep2⟩ : ∃ z : Int32, z = xs 2 := ⟨_, rfl⟩
  obtain ⟨p3, ep3⟩ : ∃ z : Int32, z = xs 3 := ⟨_, rfl⟩
  obtain ⟨p4, ep4⟩ : ∃ z : Int32, z = xs 4 := ⟨_, rfl⟩
  obtain ⟨p5, ep5⟩ : ∃ z : Int32, z = xs 5 := ⟨_, rfl⟩
  refine lv_aload_n hx hb dL_law_1056 rfl (lv_at hl 2 rfl) ?_
  refine lv_aload_n hx hb dL_law_1057 rfl (lv_at hl 3 rfl) ?_
  refine lv_iload_n hx hb dL_law_1058 rfl (lv_at hl 0 rfl) ?_
  refine lv_iconst (v := 1) hx hb dL_law_1059 (by decide) ?_
  refine lv_iadd hx hb dL_law_1060 ?_
  refine lv_topi (fun v1 ev1 => ?_)
  obtain rfl : v1 = 1 := ev1.trans (by decide)
  refine va_sld hx hb hX hbl hbA hS (mm_in mm_k1 (by decide)) dL_law_1061 ?_
  refine lv_topi (fun v2 ev2 => ?_)
  obtain rfl : p1 = v2 := ep1.trans ev2.symm
  refine lv_aload_n hx hb dL_law_1062 rfl (lv_at hl 3 rfl) ?_
  refine lv_iload_n hx hb dL_law_1063 rfl (lv_at hl 0 rfl) ?_
  refine lv_iconst (v := 2) hx hb dL_law_1064 (by decide) ?_
  refine lv_iadd hx hb dL_law_1065 ?_
  refine lv_topi (fun v3 ev3 => ?_)
  obtain rfl : v3 = 2 := ev3.trans (by decide)
  refine va_sld hx hb hX hbl hbA hS (mm_in mm_k2 (by decide)) dL_law_1066 ?_
  refine lv_topi (fun v4 ev4 => ?_)
  obtain rfl : p2 = v4 := ep2.trans ev4.symm
  refine lv_aload_n hx hb dL_law_1067 rfl (lv_at hl 3 rfl) ?_
  refine lv_iload_n hx hb dL_law_1068 rfl (lv_at hl 0 rfl) ?_
  refine lv_iconst (v := 3) hx hb dL_law_1069 (by decide) ?_
  refine lv_iadd hx hb dL_law_1070 ?_
  refine lv_topi (fun v5 ev5 => ?_)
  obtain rfl : v5 = 3 := ev5.trans (by decide)
  refine va_sld hx hb hX hbl hbA hS (mm_in mm_k3 (by decide)) dL_law_1071 ?_
  refine lv_topi (fun v6 ev6 => ?_)
  obtain rfl : p3 = v6 := ep3.trans ev6.symm
  refine lv_aload_n hx hb dL_law_1072 rfl (lv_at hl 3 rfl) ?_
  refine lv_iload_n hx hb dL_law_1073 rfl (lv_at hl 0 rfl) ?_
  refine lv_iconst (v := 4) hx hb dL_law_1074 (by decide) ?_
  refine lv_iadd hx hb dL_law_1075 ?_
  refine lv_topi (fun v7 ev7 => ?_)
  obtain rfl : v7 = 4 := ev7.trans (by decide)
  refine va_sld hx hb hX hbl hbA hS (mm_in mm_k4 (by decide)) dL_law_1076 ?_
  refine lv_topi (fun v8 ev8 => ?_)
  obtain rfl : p4 = v8 := ep4.trans ev8.symm
  refine mm_finir (va_runV (As := [.int p1, .int p2, .int p3, .int p4]) (rest := []) ⟨hx, hb, hml, hown, hts⟩ (K158_X11_first l G cy H.size qx p1 p2 p3 p4 (ux 0) (ux 2) (ux 14) (ux 36) (ux 70) (ux 71) (ux 80) (ux 82) (ux 84) (ux 89) (ux 92) (ux 15) (ux 26) 0 0 0 0 0 0 0 (ux 16) (ux 17) (ux 18) (ux 19) (ux 20) (ux 21) (ux 22) (ux 23) (ux 24) (ux 25) ) (cwV 4 hts (mm_gV mm_w911 mm_w912 mm_w913 mm_w2 mm_w914) rfl rfl rfl hd_X11_first ⟨by rw [hRf]; exact Nat.le_of_ble_eq_true rfl, by rw [hRl]; exact Nat.le_of_ble_eq_true rfl⟩) (mm_preV hK hP hD [0, 1, 2] rfl rfl 0 rfl rfl rfl) rfl rfl hl.1 rfl (lv_room (Nat.le_of_ble_eq_true rfl)) dL_law_1077 ⟨by rw [hRc]; exact Nat.le_of_ble_eq_true rfl, by rw [hRs]; exact Nat.le_of_ble_eq_true rfl⟩) hP hD hS hA [0, 1, 2] rfl (fun _ => rfl) ?_
  clear hP hD hS
  clear H locs
  intro v9 _u H locs hw hP hD hS
  subst hw
  refine lv_aload_n hx hb dL_law_1080 rfl (lv_at hl 1 rfl) ?_
  refine lv_aload_n hx hb dL_law_1081 rfl (lv_at hl 3 rfl) ?_
  refine lv_iload_n hx hb dL_law_1082 rfl (lv_at hl 0 rfl) ?_
  refine lv_iconst (v := 1) hx hb dL_law_1083 (by decide) ?_
  refine lv_iadd hx hb dL_law_1084 ?_
  refine lv_topi (fun v10 ev10 => ?_)
  obtain rfl : v10 = 1 := ev10.trans (by decide)
  refine va_sld hx hb hX hbl hbA hS (mm_in mm_k1 (by decide)) dL_law_1085 ?_
  refine lv_topi (fun v11 ev11 => ?_)
  obtain rfl : p1 = v11 := ep1.trans ev11.symm
  refine lv_aload_n hx hb dL_law_1086 rfl (lv_at hl 3 rfl) ?_
  refine lv_iload_n hx hb dL_law_1087 rfl (lv_at hl 0 rfl) ?_
  refine lv_iconst (v := 2) hx hb dL_law_1088 (by decide) ?_
  refine lv_iadd hx hb dL_law_1089 ?_
  refine lv_topi (fun v12 ev12 => ?_)
  obtain rfl : v12 = 2 := ev12.trans (by decide)
  refine va_sld hx hb hX hbl hbA hS (mm_in mm_k2 (by decide)) dL_law_1090 ?_
  refine lv_topi (fun v13 ev13 => ?_)
  obtain rfl : p2 = v13 := ep2.trans ev13.symm
  refine lv_aload_n hx hb dL_law_1091 rfl (lv_at hl 3 rfl) ?_
  refine lv_iload_n hx hb dL_law_1092 rfl (lv_at hl 0 rfl) ?_
  refine lv_iconst (v := 3) hx hb dL_law_1093 (by decide) ?_
  refine lv_iadd hx hb dL_law_1094 ?_
  refine lv_topi (fun v14 ev14 => ?_)
  obtain rfl : v14 = 3 := ev14.trans (by decide)
  refine va_sld hx hb hX hbl hbA hS (mm_in mm_k3 (by decide)) dL_law_1095 ?_
  refine lv_topi (fun v15 ev15 => ?_)
  obtain rfl : p3 = v15 := ep3.trans ev15.symm
  refine lv_aload_n hx hb dL_law_1096 rfl (lv_at hl 3 rfl) ?_
  refine lv_iload_n hx hb dL_law_1097 rfl (lv_at hl 0 rfl) ?_
  refine lv_iconst (v := 4) hx hb dL_law_1098 (by decide) ?_
  refine lv_iadd hx hb dL_law_1099 ?_
  refine lv_topi (fun v16 ev16 => ?_)
  obtain rfl : v16 = 4 := ev16.trans (by decide)
  refine va_sld hx hb hX hbl hbA hS (mm_in mm_k4 (by decide)) dL_law_1100 ?_
  refine lv_topi (fun v17 ev17 => ?_)
  obtain rfl : p4 = v17 := ep4.trans ev17.symm
  refine mm_finir (va_runV (As := [.int p1, .int p2, .int p3, .int p4]) (rest := [.int (-2)]) ⟨hx, hb, hml, hown, hts⟩ (K159_X12_first l G cy H.size qm p1 p2 p3 p4 (um 0) (um 1) (um 2) (um 3) (um 4) 0 0 0 0 0 0 0 0 0 (-1) (um 5) (um 6) (um 7) (um 8) (um 9) (um 10) (um 11) (um 12) (um 13) (um 14) (um 15) (um 16) (um 17) 0 0 0 0 0 0 (um 18) 0 (um 19) ) (cwV 4 hts (mm_gV mm_w918 mm_w919 mm_w920 mm_w5 mm_w921) rfl rfl rfl hd_X12_first ⟨by rw [hRf]; exact Nat.le_of_ble_eq_true rfl, by rw [hRl]; exact Nat.le_of_ble_eq_true rfl⟩) (mm_preV hK hP hD [3, 4] rfl rfl 3 rfl rfl rfl) rfl rfl hl.1 rfl (lv_room (Nat.le_of_ble_eq_true rfl)) dL_law_1101 ⟨by rw [hRc]; exact Nat.le_of_ble_eq_true rfl, by rw [hRs]; exact Nat.le_of_ble_eq_true rfl⟩) hP hD hS hA [3, 4] rfl (fun _ => rfl) ?_
  clear hP hD hS
  clear H locs
  intro v18 _u H locs hw hP hD hS
  subst hw
  refine lv_icmp_eq (tgt := 3153) hx hb dL_law_1104 (by decide) (fun c19 => ?_) (fun c19 => ?_)
  · refine lv_iinc (v := 6) (lv' := [(3, .int 6), (2, .ref qm), (1, .ref qx), (0, .ref b)]) hx hb dL_law_3153 hl (k := 0) rfl (by decide) (by decide) rfl ?_
    clear hl
    clear ls
    intro ls hl
    refine lv_goto (tgt := 18) hx hb dL_law_3156 (by decide) ?_
    refine lv_iload_n hx hb dL_law_18 rfl (lv_at hl 0 rfl) ?_
    refine lv_aload_n hx hb dL_law_19 rfl (lv_at hl 3 rfl) ?_
    refine va_slen hx hb hX hbl hbA hS dL_law_20 ?_
    refine lv_topi (fun v20 ev20 => ?_)
    obtain rfl : v20 = 6 := ev20.trans (by decide)
    refine lv_bipush (v := 6) hx hb dL_law_21 (by decide) ?_
    refine lv_isub hx hb dL_law_23 ?_
    refine lv_topi (fun v21 ev21 => ?_)
    obtain rfl : v21 = 0 := ev21.trans (by decide)
    refine lv_icmp_gt (tgt := 3159) hx hb dL_law_24 (by decide) (fun c22 => ?_) (fun c22 => ?_)
    · refine lv_iconst (v := 1) hx hb dL_law_3159 (by decide) ?_
      refine va_forget (fun q hq => by have := hS.2.2 q hq; rw [hAe] at this; exact this) ?_
      refine W.widen (k := 600000) (n := 7302250) (Nat.le_of_ble_eq_true rfl) (Nat.le_of_ble_eq_true rfl) ?_
      exact lw_ret hx hb hr hlocks dL_law_3160
    · have q23 := mm_leL (mm_nlt c22) mm_k6 mm_k0
      exact mm_no q23 (by decide)
  · have q24 := mm_neL (lo := (-1)) (mm_ne c19) mm_km2 mm_km2 (by decide) (by decide)
    exact mm_no q24 (by decide)

set_option maxHeartbeats 4000000 in
set_option maxRecDepth 100000 in
theorem lc_21 {p : Program} {e : Env} {s : State} {m : MethodId} {below : List Frame} {meth : Method} {c : Code} {b : Nat} {xs : Nat → Int32} {G : va_G} {cy : Nat → ClassId} {qx qm : Nat} {ux um : Nat → Nat} {H : Heap} {locs : List Loc} {ls : Array Slot} {A : Nat → Prop} (l : Launch) (hx : p.tables.exec = Jvm.exec) (hb : c.code = code) (hr : meth.sig.returnType = ret) (hlocks : meth.locks = false) (hml : c.maxLocals = 4) (hown : s.vm.findClass R_law = some m.cls) (hts : ∀ w ∈ lw_x :: wsL_law, w.before #[Value.ref b] s = true) (hX : va_X b 6 xs s s.heap) (hbl : b < s.heap.size) (hAe : A = fun q => s.heap.size ≤ q) (hK : mm_K G cy s) (hS : va_S A s.heap H locs) (hP : va_P G vwCl [(qx, .inr (11, [.ref (ux 0), .ref (ux 2), .ref (ux 14), .ref (ux 36), .ref (ux 70), .ref (ux 71), .ref (ux 80), .ref (ux 82), .ref (ux 84), .ref (ux 89), .ref (ux 92)])), ((ux 14), .inr (10, [.ref (ux 15), .ref (ux 26)])), ((ux 15), .inr (0, [.int 0, .int 0, .int 0, .int 0, .int 0, .int 0, .int 0, .int 0, .ref (ux 16), .ref (ux 17), .ref (ux 18), .ref (ux 19), .ref (ux 20), .ref (ux 21), .ref (ux 22), .ref (ux 23), .ref (ux 24), .ref (ux 25)])), (qm, .inr (12, [.int 0, .ref (um 0), .ref (um 1), .ref (um 2), .ref (um 3), .ref (um 4), .int 0, .int 0, .int 0, .int 0, .int 0, .long 0, .int 0, .int 0, .int 0, .int (-1), .ref (um 5), .ref (um 6), .ref (um 7), .ref (um 8), .ref (um 9), .ref (um 10), .ref (um 11), .ref (um 12), .ref (um 13), .ref (um 14), .ref (um 15), .ref (um 16), .ref (um 17), .int 0, .int 0, .int 0, .int 0, .int 0, .int 0, .ref (um 18), .int 0, .ref (um 19)])), ((um 6), .inl (cy 1, 30, .inl (fun _ => 0)))] H) (hD : va_D A [(qx, .inr (11, [.ref (ux 0), .ref (ux 2), .ref (ux 14), .ref (ux 36), .ref (ux 70), .ref (ux 71), .ref (ux 80), .ref (ux 82), .ref (ux 84), .ref (ux 89), .ref (ux 92)])), ((ux 14), .inr (10, [.ref (ux 15), .ref (ux 26)])), ((ux 15), .inr (0, [.int 0, .int 0, .int 0, .int 0, .int 0, .int 0, .int 0, .int 0, .ref (ux 16), .ref (ux 17), .ref (ux 18), .ref (ux 19), .ref (ux 20), .ref (ux 21), .ref (ux 22), .ref (ux 23), .ref (ux 24), .ref (ux 25)])), (qm, .inr (12, [.int 0, .ref (um 0), .ref (um 1), .ref (um 2), .ref (um 3), .ref (um 4), .int 0, .int 0, .int 0, .int 0, .int 0, .long 0, .int 0, .int 0, .int 0, .int (-1), .ref (um 5), .ref (um 6), .ref (um 7), .ref (um 8), .ref (um 9), .ref (um 10), .ref (um 11), .ref (um 12), .ref (um 13), .ref (um 14), .ref (um 15), .ref (um 16), .ref (um 17), .int 0, .int 0, .int 0, .int 0, .int 0, .int 0, .ref (um 18), .int 0, .ref (um 19)])), ((um 6), .inl (cy 1, 30, .inl (fun _ => 0)))]) (hl : lv_has ls 4 [(3, .int 0), (2, .ref qm), (1, .ref qx), (0, .ref b)]) : W p l e room_1 s m #[Value.ref b] below meth c H locs 116 20302 (lw_Z below #[Value.ref b] s) (F0 m 1109 ls []) := by
  have hA : ∀ q, s.heap.size ≤ q → A q := by rw [hAe]; exact fun _ h => h
  have hbA : ¬ A b := by rw [hAe]; exact Nat.not_le.mpr hbl
  have hRf : room_1.frames = 2048 := rfl
  have hRl : room_1.locals = 84000 := rfl
  have hRc : room_1.cells = 600000 := rfl
  have hRs : room_1.slots = 7302250 := rfl
  obtain ⟨p1, ep1⟩ : ∃ z : Int32, z = xs 1 := ⟨_, rfl⟩
  obtain ⟨p2, ep2⟩ : ∃ z : Int32, z = xs 2 := ⟨_, rfl⟩
  obtain ⟨p3, ep3⟩ : ∃ z : Int32, z = xs 3 := ⟨_, rfl⟩
  obtain ⟨p4, ep4⟩ : ∃ z : Int32, z = xs 4 := ⟨_, rfl⟩
  obtain ⟨p5, ep5⟩ : ∃ z : Int32, z = xs 5 := ⟨_, rfl⟩
  refine lv_aload_n hx hb dL_law_1109 rfl (lv_at hl 2 rfl) ?_
  refine lv_aload_n hx hb dL_law_1110 rfl (lv_at hl 3 rfl) ?_
  refine lv_iload_n hx hb dL_law_1111 rfl (lv_at hl 0 rfl) ?_
  refine lv_iconst (v := 1) hx hb dL_law_1112 (by decide) ?_
  refine lv_iadd hx hb dL_law_1113 ?_
  refine lv_topi (fun v1 ev1 => ?_)
  obtain rfl : v1 = 1 := ev1.trans (by decide)
  refine va_sld hx hb hX hbl hbA hS (mm_in mm_k1 (by decide)) dL_law_1114 ?_
  refine lv_topi (fun v2 ev2 => ?_)
  obtain rfl : p1 = v2 := ep1.trans ev2.symm
  refine lv_aload_n hx hb dL_law_1115 rfl (lv_at hl 3 rfl) ?_
  refine lv_iload_n hx hb dL_law_1116 rfl (lv_at hl 0 rfl) ?_
  refine lv_iconst (v := 2) hx hb dL_law_1117 (by decide) ?_
  refine lv_iadd hx hb dL_law_1118 ?_
  refine lv_topi (fun v3 ev3 => ?_)
  obtain rfl : v3 = 2 := ev3.trans (by decide)
  refine va_sld hx hb hX hbl hbA hS (mm_in mm_k2 (by decide)) dL_law_1119 ?_
  refine lv_topi (fun v4 ev4 => ?_)
  obtain rfl : p2 = v4 := ep2.trans ev4.symm
  refine lv_aload_n hx hb dL_law_1120 rfl (lv_at hl 3 rfl) ?_
  refine lv_iload_n hx hb dL_law_1121 rfl (lv_at hl 0 rfl) ?_
  refine lv_iconst (v := 3) hx hb dL_law_1122 (by decide) ?_
  refine lv_iadd hx hb dL_law_1123 ?_
  refine lv_topi (fun v5 ev5 => ?_)
  obtain rfl : v5 = 3 := ev5.trans (by decide)
  refine va_sld hx hb hX hbl hbA hS (mm_in mm_k3 (by decide)) dL_law_1124 ?_
  refine lv_topi (fun v6 ev6 => ?_)
  obtain rfl : p3 = v6 := ep3.trans ev6.symm
  refine lv_aload_n hx hb dL_law_1125 rfl (lv_at hl 3 rfl) ?_
  refine lv_iload_n hx hb dL_law_1126 rfl (lv_at hl 0 rfl) ?_
  refine lv_iconst (v := 4) hx hb dL_law_1127 (by decide) ?_
  refine lv_iadd hx hb dL_law_1128 ?_
  refine lv_topi (fun v7 ev7 => ?_)
  obtain rfl : v7 = 4 := ev7.trans (by decide)
  refine va_sld hx hb hX hbl hbA hS (mm_in mm_k4 (by decide)) dL_law_1129 ?_
  refine lv_topi (fun v8 ev8 => ?_)
  obtain rfl : p4 = v8 := ep4.trans ev8.symm
  refine mm_finir (va_runV (As := [.int p1, .int p2, .int p3, .int p4]) (rest := []) ⟨hx, hb, hml, hown, hts⟩ (K160_X11_best l G cy H.size qx p1 p2 p3 p4 (ux 0) (ux 2) (ux 14) (ux 36) (ux 70) (ux 71) (ux 80) (ux 82) (ux 84) (ux 89) (ux 92) (ux 15) (ux 26) 0 0 0 0 0 0 0 (ux 16) (ux 17) (ux 18) (ux 19) (ux 20) (ux 21) (ux 22) (ux 23) (ux 24) (ux 25) ) (cwV 4 hts (mm_gV mm_w926 mm_w927 mm_w928 mm_w2 mm_w929) rfl rfl rfl hd_X11_best ⟨by rw [hRf]; exact Nat.le_of_ble_eq_true rfl, by rw [hRl]; exact Nat.le_of_ble_eq_true rfl⟩) (mm_preV hK hP hD [0, 1, 2] rfl rfl 0 rfl rfl rfl) rfl rfl hl.1 rfl (lv_room (Nat.le_of_ble_eq_true rfl)) dL_law_1130 ⟨by rw [hRc]; exact Nat.le_of_ble_eq_true rfl, by rw [hRs]; exact Nat.le_of_ble_eq_true rfl⟩) hP hD hS hA [0, 1, 2] rfl (fun _ => rfl) ?_
  clear hP hD hS
  clear H locs
  intro v9 _u H locs hw hP hD hS
  subst hw
  refine lv_aload_n hx hb dL_law_1133 rfl (lv_at hl 1 rfl) ?_
  refine lv_aload_n hx hb dL_law_1134 rfl (lv_at hl 3 rfl) ?_
  refine lv_iload_n hx hb dL_law_1135 rfl (lv_at hl 0 rfl) ?_
  refine lv_iconst (v := 1) hx hb dL_law_1136 (by decide) ?_
  refine lv_iadd hx hb dL_law_1137 ?_
  refine lv_topi (fun v10 ev10 => ?_)
  obtain rfl : v10 = 1 := ev10.trans (by decide)
  refine va_sld hx hb hX hbl hbA hS (mm_in mm_k1 (by decide)) dL_law_1138 ?_
  refine lv_topi (fun v11 ev11 => ?_)
  obtain rfl : p1 = v11 := ep1.trans ev11.symm
  refine lv_aload_n hx hb dL_law_1139 rfl (lv_at hl 3 rfl) ?_
  refine lv_iload_n hx hb dL_law_1140 rfl (lv_at hl 0 rfl) ?_
  refine lv_iconst (v := 2) hx hb dL_law_1141 (by decide) ?_
  refine lv_iadd hx hb dL_law_1142 ?_
  refine lv_topi (fun v12 ev12 => ?_)
  obtain rfl : v12 = 2 := ev12.trans (by decide)
  refine va_sld hx hb hX hbl hbA hS (mm_in mm_k2 (by decide)) dL_law_1143 ?_
  refine lv_topi (fun v13 ev13 => ?_)
  obtain rfl : p2 = v13 := ep2.trans ev13.symm
  refine lv_aload_n hx hb dL_law_1144 rfl (lv_at hl 3 rfl) ?_
  refine lv_iload_n hx hb dL_law_1145 rfl (lv_at hl 0 rfl) ?_
  refine lv_iconst (v := 3) hx hb dL_law_1146 (by decide) ?_
  refine lv_iadd hx hb dL_law_1147 ?_
  refine lv_topi (fun v14 ev14 => ?_)
  obtain rfl : v14 = 3 := ev14.trans (by decide)
  refine va_sld hx hb hX hbl hbA hS (mm_in mm_k3 (by decide)) dL_law_1148 ?_
  refine lv_topi (fun v15 ev15 => ?_)
  obtain rfl : p3 = v15 := ep3.trans ev15.symm
  refine lv_aload_n hx hb dL_law_1149 rfl (lv_at hl 3 rfl) ?_
  refine lv_iload_n hx hb dL_law_1150 rfl (lv_at hl 0 rfl) ?_
  refine lv_iconst (v := 4) hx hb dL_law_1151 (by decide) ?_
  refine lv_iadd hx hb dL_law_1152 ?_
  refine lv_topi (fun v16 ev16 => ?_)
  obtain rfl : v16 = 4 := ev16.trans (by decide)
  refine va_sld hx hb hX hbl hbA hS (mm_in mm_k4 (by decide)) dL_law_1153 ?_
  refine lv_topi (fun v17 ev17 => ?_)
  obtain rfl : p4 = v17 := ep4.trans ev17.symm
  refine mm_finir (va_runV (As := [.int p1, .int p2, .int p3, .int p4]) (rest := [.int (-2)]) ⟨hx, hb, hml, hown, hts⟩ (K161_X12_best l G cy H.size qm p1 p2 p3 p4 (um 0) (um 1) (um 2) (um 3) (um 4) 0 0 0 0 0 0 0 0 0 (-1) (um 5) (um 6) (um 7) (um 8) (um 9) (um 10) (um 11) (um 12) (um 13) (um 14) (um 15) (um 16) (um 17) 0 0 0 0 0 0 (um 18) 0 (um 19) ) (cwV 4 hts (mm_gV mm_w934 mm_w935 mm_w936 mm_w5 mm_w937) rfl rfl rfl hd_X12_best ⟨by rw [hRf]; exact Nat.le_of_ble_eq_true rfl, by rw [hRl]; exact Nat.le_of_ble_eq_true rfl⟩) (mm_preV hK hP hD [3, 4] rfl rfl 3 rfl rfl rfl) rfl rfl hl.1 rfl (lv_room (Nat.le_of_ble_eq_true rfl)) dL_law_1154 ⟨by rw [hRc]; exact Nat.le_of_ble_eq_true rfl, by rw [hRs]; exact Nat.le_of_ble_eq_true rfl⟩) hP hD hS hA [3, 4] rfl (fun _ => rfl) ?_
  clear hP hD hS
  clear H locs
  intro v18 _u H locs hw hP hD hS
  subst hw
  refine lv_icmp_eq (tgt := 3153) hx hb dL_law_1157 (by decide) (fun c19 => ?_) (fun c19 => ?_)
  · refine lv_iinc (v := 6) (lv' := [(3, .int 6), (2, .ref qm), (1, .ref qx), (0, .ref b)]) hx hb dL_law_3153 hl (k := 0) rfl (by decide) (by decide) rfl ?_
    clear hl
    clear ls
    intro ls hl
    refine lv_goto (tgt := 18) hx hb dL_law_3156 (by decide) ?_
    refine lv_iload_n hx hb dL_law_18 rfl (lv_at hl 0 rfl) ?_
    refine lv_aload_n hx hb dL_law_19 rfl (lv_at hl 3 rfl) ?_
    refine va_slen hx hb hX hbl hbA hS dL_law_20 ?_
    refine lv_topi (fun v20 ev20 => ?_)
    obtain rfl : v20 = 6 := ev20.trans (by decide)
    refine lv_bipush (v := 6) hx hb dL_law_21 (by decide) ?_
    refine lv_isub hx hb dL_law_23 ?_
    refine lv_topi (fun v21 ev21 => ?_)
    obtain rfl : v21 = 0 := ev21.trans (by decide)
    refine lv_icmp_gt (tgt := 3159) hx hb dL_law_24 (by decide) (fun c22 => ?_) (fun c22 => ?_)
    · refine lv_iconst (v := 1) hx hb dL_law_3159 (by decide) ?_
      refine va_forget (fun q hq => by have := hS.2.2 q hq; rw [hAe] at this; exact this) ?_
      refine W.widen (k := 600000) (n := 7302250) (Nat.le_of_ble_eq_true rfl) (Nat.le_of_ble_eq_true rfl) ?_
      exact lw_ret hx hb hr hlocks dL_law_3160
    · have q23 := mm_leL (mm_nlt c22) mm_k6 mm_k0
      exact mm_no q23 (by decide)
  · have q24 := mm_neL (lo := (-1)) (mm_ne c19) mm_km2 mm_km2 (by decide) (by decide)
    exact mm_no q24 (by decide)

set_option maxHeartbeats 4000000 in
set_option maxRecDepth 100000 in
theorem lc_22 {p : Program} {e : Env} {s : State} {m : MethodId} {below : List Frame} {meth : Method} {c : Code} {b : Nat} {xs : Nat → Int32} {G : va_G} {cy : Nat → ClassId} {qx qm : Nat} {ux um : Nat → Nat} {H : Heap} {locs : List Loc} {ls : Array Slot} {A : Nat → Prop} (l : Launch) (hx : p.tables.exec = Jvm.exec) (hb : c.code = code) (hr : meth.sig.returnType = ret) (hlocks : meth.locks = false) (hml : c.maxLocals = 4) (hown : s.vm.findClass R_law = some m.cls) (hts : ∀ w ∈ lw_x :: wsL_law, w.before #[Value.ref b] s = true) (hX : va_X b 6 xs s s.heap) (hbl : b < s.heap.size) (hAe : A = fun q => s.heap.size ≤ q) (hK : mm_K G cy s) (hS : va_S A s.heap H locs) (hP : va_P G vwCl [(qx, .inr (11, [.ref (ux 0), .ref (ux 2), .ref (ux 14), .ref (ux 36), .ref (ux 70), .ref (ux 71), .ref (ux 80), .ref (ux 82), .ref (ux 84), .ref (ux 89), .ref (ux 92)])), ((ux 14), .inr (10, [.ref (ux 15), .ref (ux 26)])), ((ux 15), .inr (0, [.int 0, .int 0, .int 0, .int 0, .int 0, .int 0, .int 0, .int 0, .ref (ux 16), .ref (ux 17), .ref (ux 18), .ref (ux 19), .ref (ux 20), .ref (ux 21), .ref (ux 22), .ref (ux 23), .ref (ux 24), .ref (ux 25)])), (qm, .inr (12, [.int 0, .ref (um 0), .ref (um 1), .ref (um 2), .ref (um 3), .ref (um 4), .int 0, .int 0, .int 0, .int 0, .int 0, .long 0, .int 0, .int 0, .int 0, .int (-1), .ref (um 5), .ref (um 6), .ref (um 7), .ref (um 8), .ref (um 9), .ref (um 10), .ref (um 11), .ref (um 12), .ref (um 13), .ref (um 14), .ref (um 15), .ref (um 16), .ref (um 17), .int 0, .int 0, .int 0, .int 0, .int 0, .int 0, .ref (um 18), .int 0, .ref (um 19)])), ((um 6), .inl (cy 1, 30, .inl (fun _ => 0)))] H) (hD : va_D A [(qx, .inr (11, [.ref (ux 0), .ref (ux 2), .ref (ux 14), .ref (ux 36), .ref (ux 70), .ref (ux 71), .ref (ux 80), .ref (ux 82), .ref (ux 84), .ref (ux 89), .ref (ux 92)])), ((ux 14), .inr (10, [.ref (ux 15), .ref (ux 26)])), ((ux 15), .inr (0, [.int 0, .int 0, .int 0, .int 0, .int 0, .int 0, .int 0, .int 0, .ref (ux 16), .ref (ux 17), .ref (ux 18), .ref (ux 19), .ref (ux 20), .ref (ux 21), .ref (ux 22), .ref (ux 23), .ref (ux 24), .ref (ux 25)])), (qm, .inr (12, [.int 0, .ref (um 0), .ref (um 1), .ref (um 2), .ref (um 3), .ref (um 4), .int 0, .int 0, .int 0, .int 0, .int 0, .long 0, .int 0, .int 0, .int 0, .int (-1), .ref (um 5), .ref (um 6), .ref (um 7), .ref (um 8), .ref (um 9), .ref (um 10), .ref (um 11), .ref (um 12), .ref (um 13), .ref (um 14), .ref (um 15), .ref (um 16), .ref (um 17), .int 0, .int 0, .int 0, .int 0, .int 0, .int 0, .ref (um 18), .int 0, .ref (um 19)])), ((um 6), .inl (cy 1, 30, .inl (fun _ => 0)))]) (hl : lv_has ls 4 [(3, .int 0), (2, .ref qm), (1, .ref qx), (0, .ref b)]) : W p l e room_1 s m #[Value.ref b] below meth c H locs 116 20302 (lw_Z below #[Value.ref b] s) (F0 m 1162 ls []) := by
  have hA : ∀ q, s.heap.size ≤ q → A q := by rw [hAe]; exact fun _ h => h
  have hbA : ¬ A b := by rw [hAe]; exact Nat.not_le.mpr hbl
  have hRf : room_1.frames = 2048 := rfl
  have hRl : room_1.locals = 84000 := rfl
  have hRc : room_1.cells = 600000 := rfl
  have hRs : room_1.slots = 7302250 := rfl
  obtain ⟨p1, ep1⟩ : ∃ z : Int32, z = xs 1 := ⟨_, rfl⟩
  obtain ⟨p2, ep2⟩ : ∃ z : Int32, z = xs 2 := ⟨_, rfl⟩
  obtain ⟨p3, ep3⟩ : ∃ z : Int32, z = xs 3 := ⟨_, rfl⟩
  obtain ⟨p4, ep4⟩ : ∃ z : Int32, z = xs 4 := ⟨_, rfl⟩
  obtain ⟨p5, ep5⟩ : ∃ z : Int32, z = xs 5 := ⟨_, rfl⟩
  refine lv_aload_n hx hb dL_law_1162 rfl (lv_at hl 2 rfl) ?_
  refine lv_aload_n hx hb dL_law_1163 rfl (lv_at hl 3 rfl) ?_
  refine lv_iload_n hx hb dL_law_1164 rfl (lv_at hl 0 rfl) ?_
  refine lv_iconst (v := 1) hx hb dL_law_1165 (by decide) ?_
  refine lv_iadd hx hb dL_law_1166 ?_
  refine lv_topi (fun v1 ev1 => ?_)
  obtain rfl : v1 = 1 := ev1.trans (by decide)
  refine va_sld hx hb hX hbl hbA hS (mm_in mm_k1 (by decide)) dL_law_1167 ?_
  refine lv_topi (fun v2 ev2 => ?_)
  obtain rfl : p1 = v2 := ep1.trans ev2.symm
  refine lv_aload_n hx hb dL_law_1168 rfl (lv_at hl 3 rfl) ?_
  refine lv_iload_n hx hb dL_law_1169 rfl (lv_at hl 0 rfl) ?_
  refine lv_iconst (v := 2) hx hb dL_law_1170 (by decide) ?_
  refine lv_iadd hx hb dL_law_1171 ?_
  refine lv_topi (fun v3 ev3 => ?_)
  obtain rfl : v3 = 2 := ev3.trans (by decide)
  refine va_sld hx hb hX hbl hbA hS (mm_in mm_k2 (by decide)) dL_law_1172 ?_
  refine lv_topi (fun v4 ev4 => ?_)
  obtain rfl : p2 = v4 := ep2.trans ev4.symm
  refine lv_aload_n hx hb dL_law_1173 rfl (lv_at hl 3 rfl) ?_
  refine lv_iload_n hx hb dL_law_1174 rfl (lv_at hl 0 rfl) ?_
  refine lv_iconst (v := 3) hx hb dL_law_1175 (by decide) ?_
  refine lv_iadd hx hb dL_law_1176 ?_
  refine lv_topi (fun v5 ev5 => ?_)
  obtain rfl : v5 = 3 := ev5.trans (by decide)
  refine va_sld hx hb hX hbl hbA hS (mm_in mm_k3 (by decide)) dL_law_1177 ?_
  refine lv_topi (fun v6 ev6 => ?_)
  obtain rfl : p3 = v6 := ep3.trans ev6.symm
  refine lv_aload_n hx hb dL_law_1178 rfl (lv_at hl 3 rfl) ?_
  refine lv_iload_n hx hb dL_law_1179 rfl (lv_at hl 0 rfl) ?_
  refine lv_iconst (v := 4) hx hb dL_law_1180 (by decide) ?_
  refine lv_iadd hx hb dL_law_1181 ?_
  refine lv_topi (fun v7 ev7 => ?_)
  obtain rfl : v7 = 4 := ev7.trans (by decide)
  refine va_sld hx hb hX hbl hbA hS (mm_in mm_k4 (by decide)) dL_law_1182 ?_
  refine lv_topi (fun v8 ev8 => ?_)
  obtain rfl : p4 = v8 := ep4.trans ev8.symm
  refine mm_finir (va_runV (As := [.int p1, .int p2, .int p3, .int p4]) (rest := []) ⟨hx, hb, hml, hown, hts⟩ (K162_X11_worst l G cy H.size qx p1 p2 p3 p4 (ux 0) (ux 2) (ux 14) (ux 36) (ux 70) (ux 71) (ux 80) (ux 82) (ux 84) (ux 89) (ux 92) (ux 15) (ux 26) 0 0 0 0 0 0 0 (ux 16) (ux 17) (ux 18) (ux 19) (ux 20) (ux 21) (ux 22) (ux 23) (ux 24) (ux 25) ) (cwV 4 hts (mm_gV mm_w943 mm_w944 mm_w945 mm_w2 mm_w946) rfl rfl rfl hd_X11_worst ⟨by rw [hRf]; exact Nat.le_of_ble_eq_true rfl, by rw [hRl]; exact Nat.le_of_ble_eq_true rfl⟩) (mm_preV hK hP hD [0, 1, 2] rfl rfl 0 rfl rfl rfl) rfl rfl hl.1 rfl (lv_room (Nat.le_of_ble_eq_true rfl)) dL_law_1183 ⟨by rw [hRc]; exact Nat.le_of_ble_eq_true rfl, by rw [hRs]; exact Nat.le_of_ble_eq_true rfl⟩) hP hD hS hA [0, 1, 2] rfl (fun _ => rfl) ?_
  clear hP hD hS
  clear H locs
  intro v9 _u H locs hw hP hD hS
  subst hw
  refine lv_aload_n hx hb dL_law_1186 rfl (lv_at hl 1 rfl) ?_
  refine lv_aload_n hx hb dL_law_1187 rfl (lv_at hl 3 rfl) ?_
  refine lv_iload_n hx hb dL_law_1188 rfl (lv_at hl 0 rfl) ?_
  refine lv_iconst (v := 1) hx hb dL_law_1189 (by decide) ?_
  refine lv_iadd hx hb dL_law_1190 ?_
  refine lv_topi (fun v10 ev10 => ?_)
  obtain rfl : v10 = 1 := ev10.trans (by decide)
  refine va_sld hx hb hX hbl hbA hS (mm_in mm_k1 (by decide)) dL_law_1191 ?_
  refine lv_topi (fun v11 ev11 => ?_)
  obtain rfl : p1 = v11 := ep1.trans ev11.symm
  refine lv_aload_n hx hb dL_law_1192 rfl (lv_at hl 3 rfl) ?_
  refine lv_iload_n hx hb dL_law_1193 rfl (lv_at hl 0 rfl) ?_
  refine lv_iconst (v := 2) hx hb dL_law_1194 (by decide) ?_
  refine lv_iadd hx hb dL_law_1195 ?_
  refine lv_topi (fun v12 ev12 => ?_)
  obtain rfl : v12 = 2 := ev12.trans (by decide)
  refine va_sld hx hb hX hbl hbA hS (mm_in mm_k2 (by decide)) dL_law_1196 ?_
  refine lv_topi (fun v13 ev13 => ?_)
  obtain rfl : p2 = v13 := ep2.trans ev13.symm
  refine lv_aload_n hx hb dL_law_1197 rfl (lv_at hl 3 rfl) ?_
  refine lv_iload_n hx hb dL_law_1198 rfl (lv_at hl 0 rfl) ?_
  refine lv_iconst (v := 3) hx hb dL_law_1199 (by decide) ?_
  refine lv_iadd hx hb dL_law_1200 ?_
  refine lv_topi (fun v14 ev14 => ?_)
  obtain rfl : v14 = 3 := ev14.trans (by decide)
  refine va_sld hx hb hX hbl hbA hS (mm_in mm_k3 (by decide)) dL_law_1201 ?_
  refine lv_topi (fun v15 ev15 => ?_)
  obtain rfl : p3 = v15 := ep3.trans ev15.symm
  refine lv_aload_n hx hb dL_law_1202 rfl (lv_at hl 3 rfl) ?_
  refine lv_iload_n hx hb dL_law_1203 rfl (lv_at hl 0 rfl) ?_
  refine lv_iconst (v := 4) hx hb dL_law_1204 (by decide) ?_
  refine lv_iadd hx hb dL_law_1205 ?_
  refine lv_topi (fun v16 ev16 => ?_)
  obtain rfl : v16 = 4 := ev16.trans (by decide)
  refine va_sld hx hb hX hbl hbA hS (mm_in mm_k4 (by decide)) dL_law_1206 ?_
  refine lv_topi (fun v17 ev17 => ?_)
  obtain rfl : p4 = v17 := ep4.trans ev17.symm
  refine mm_finir (va_runV (As := [.int p1, .int p2, .int p3, .int p4]) (rest := [.int (-2)]) ⟨hx, hb, hml, hown, hts⟩ (K163_X12_worst l G cy H.size qm p1 p2 p3 p4 (um 0) (um 1) (um 2) (um 3) (um 4) 0 0 0 0 0 0 0 0 0 (-1) (um 5) (um 6) (um 7) (um 8) (um 9) (um 10) (um 11) (um 12) (um 13) (um 14) (um 15) (um 16) (um 17) 0 0 0 0 0 0 (um 18) 0 (um 19) ) (cwV 4 hts (mm_gV mm_w947 mm_w948 mm_w949 mm_w5 mm_w950) rfl rfl rfl hd_X12_worst ⟨by rw [hRf]; exact Nat.le_of_ble_eq_true rfl, by rw [hRl]; exact Nat.le_of_ble_eq_true rfl⟩) (mm_preV hK hP hD [3, 4] rfl rfl 3 rfl rfl rfl) rfl rfl hl.1 rfl (lv_room (Nat.le_of_ble_eq_true rfl)) dL_law_1207 ⟨by rw [hRc]; exact Nat.le_of_ble_eq_true rfl, by rw [hRs]; exact Nat.le_of_ble_eq_true rfl⟩) hP hD hS hA [3, 4] rfl (fun _ => rfl) ?_
  clear hP hD hS
  clear H locs
  intro v18 _u H locs hw hP hD hS
  subst hw
  refine lv_icmp_eq (tgt := 3153) hx hb dL_law_1210 (by decide) (fun c19 => ?_) (fun c19 => ?_)
  · refine lv_iinc (v := 6) (lv' := [(3, .int 6), (2, .ref qm), (1, .ref qx), (0, .ref b)]) hx hb dL_law_3153 hl (k := 0) rfl (by decide) (by decide) rfl ?_
    clear hl
    clear ls
    intro ls hl
    refine lv_goto (tgt := 18) hx hb dL_law_3156 (by decide) ?_
    refine lv_iload_n hx hb dL_law_18 rfl (lv_at hl 0 rfl) ?_
    refine lv_aload_n hx hb dL_law_19 rfl (lv_at hl 3 rfl) ?_
    refine va_slen hx hb hX hbl hbA hS dL_law_20 ?_
    refine lv_topi (fun v20 ev20 => ?_)
    obtain rfl : v20 = 6 := ev20.trans (by decide)
    refine lv_bipush (v := 6) hx hb dL_law_21 (by decide) ?_
    refine lv_isub hx hb dL_law_23 ?_
    refine lv_topi (fun v21 ev21 => ?_)
    obtain rfl : v21 = 0 := ev21.trans (by decide)
    refine lv_icmp_gt (tgt := 3159) hx hb dL_law_24 (by decide) (fun c22 => ?_) (fun c22 => ?_)
    · refine lv_iconst (v := 1) hx hb dL_law_3159 (by decide) ?_
      refine va_forget (fun q hq => by have := hS.2.2 q hq; rw [hAe] at this; exact this) ?_
      refine W.widen (k := 600000) (n := 7302250) (Nat.le_of_ble_eq_true rfl) (Nat.le_of_ble_eq_true rfl) ?_
      exact lw_ret hx hb hr hlocks dL_law_3160
    · have q23 := mm_leL (mm_nlt c22) mm_k6 mm_k0
      exact mm_no q23 (by decide)
  · have q24 := mm_neL (lo := (-1)) (mm_ne c19) mm_km2 mm_km2 (by decide) (by decide)
    exact mm_no q24 (by decide)

set_option maxHeartbeats 4000000 in
set_option maxRecDepth 100000 in
theorem lc_23 {p : Program} {e : Env} {s : State} {m : MethodId} {below : List Frame} {meth : Method} {c : Code} {b : Nat} {xs : Nat → Int32} {G : va_G} {cy : Nat → ClassId} {qx qm : Nat} {ux um : Nat → Nat} {H : Heap} {locs : List Loc} {ls : Array Slot} {A : Nat → Prop} (l : Launch) (hx : p.tables.exec = Jvm.exec) (hb : c.code = code) (hr : meth.sig.returnType = ret) (hlocks : meth.locks = false) (hml : c.maxLocals = 4) (hown : s.vm.findClass R_law = some m.cls) (hts : ∀ w ∈ lw_x :: wsL_law, w.before #[Value.ref b] s = true) (hX : va_X b 6 xs s s.heap) (hbl : b < s.heap.size) (hAe : A = fun q => s.heap.size ≤ q) (hK : mm_K G cy s) (hS : va_S A s.heap H locs) (hP : va_P G vwCl [(qx, .inr (11, [.ref (ux 0), .ref (ux 2), .ref (ux 14), .ref (ux 36), .ref (ux 70), .ref (ux 71), .ref (ux 80), .ref (ux 82), .ref (ux 84), .ref (ux 89), .ref (ux 92)])), ((ux 14), .inr (10, [.ref (ux 15), .ref (ux 26)])), ((ux 15), .inr (0, [.int 0, .int 0, .int 0, .int 0, .int 0, .int 0, .int 0, .int 0, .ref (ux 16), .ref (ux 17), .ref (ux 18), .ref (ux 19), .ref (ux 20), .ref (ux 21), .ref (ux 22), .ref (ux 23), .ref (ux 24), .ref (ux 25)])), (qm, .inr (12, [.int 0, .ref (um 0), .ref (um 1), .ref (um 2), .ref (um 3), .ref (um 4), .int 0, .int 0, .int 0, .int 0, .int 0, .long 0, .int 0, .int 0, .int 0, .int (-1), .ref (um 5), .ref (um 6), .ref (um 7), .ref (um 8), .ref (um 9), .ref (um 10), .ref (um 11), .ref (um 12), .ref (um 13), .ref (um 14), .ref (um 15), .ref (um 16), .ref (um 17), .int 0, .int 0, .int 0, .int 0, .int 0, .int 0, .ref (um 18), .int 0, .ref (um 19)])), ((um 6), .inl (cy 1, 30, .inl (fun _ => 0)))] H) (hD : va_D A [(qx, .inr (11, [.ref (ux 0), .ref (ux 2), .ref (ux 14), .ref (ux 36), .ref (ux 70), .ref (ux 71), .ref (ux 80), .ref (ux 82), .ref (ux 84), .ref (ux 89), .ref (ux 92)])), ((ux 14), .inr (10, [.ref (ux 15), .ref (ux 26)])), ((ux 15), .inr (0, [.int 0, .int 0, .int 0, .int 0, .int 0, .int 0, .int 0, .int 0, .ref (ux 16), .ref (ux 17), .ref (ux 18), .ref (ux 19), .ref (ux 20), .ref (ux 21), .ref (ux 22), .ref (ux 23), .ref (ux 24), .ref (ux 25)])), (qm, .inr (12, [.int 0, .ref (um 0), .ref (um 1), .ref (um 2), .ref (um 3), .ref (um 4), .int 0, .int 0, .int 0, .int 0, .int 0, .long 0, .int 0, .int 0, .int 0, .int (-1), .ref (um 5), .ref (um 6), .ref (um 7), .ref (um 8), .ref (um 9), .ref (um 10), .ref (um 11), .ref (um 12), .ref (um 13), .ref (um 14), .ref (um 15), .ref (um 16), .ref (um 17), .int 0, .int 0, .int 0, .int 0, .int 0, .int 0, .ref (um 18), .int 0, .ref (um 19)])), ((um 6), .inl (cy 1, 30, .inl (fun _ => 0)))]) (hl : lv_has ls 4 [(3, .int 0), (2, .ref qm), (1, .ref qx), (0, .ref b)]) : W p l e room_1 s m #[Value.ref b] below meth c H locs 116 20302 (lw_Z below #[Value.ref b] s) (F0 m 1215 ls []) := by
  have hA : ∀ q, s.heap.size ≤ q → A q := by rw [hAe]; exact fun _ h => h
  have hbA : ¬ A b := by rw [hAe]; exact Nat.not_le.mpr hbl
  have hRf : room_1.frames = 2048 := rfl
  have hRl : room_1.locals = 84000 := rfl
  have hRc : room_1.cells = 600000 := rfl
  have hRs : room_1.slots = 7302250 := rfl
  obtain ⟨p1, ep1⟩ : ∃ z : Int32, z = xs 1 := ⟨_, rfl⟩
  obtain ⟨p2, ep2⟩ : ∃ z : Int32, z = xs 2 := ⟨_, rfl⟩
  obtain ⟨p3, ep3⟩ : ∃ z : Int32, z = xs 3 := ⟨_, rfl⟩
  obtain ⟨p4, ep4⟩ : ∃ z : Int32, z = xs 4 := ⟨_, rfl⟩
  obtain ⟨p5, ep5⟩ : ∃ z : Int32, z = xs 5 := ⟨_, rfl⟩
  refine lv_aload_n hx hb dL_law_1215 rfl (lv_at hl 2 rfl) ?_
  refine lv_aload_n hx hb dL_law_1216 rfl (lv_at hl 3 rfl) ?_
  refine lv_iload_n hx hb dL_law_1217 rfl (lv_at hl 0 rfl) ?_
  refine lv_iconst (v := 1) hx hb dL_law_1218 (by decide) ?_
  refine lv_iadd hx hb dL_law_1219 ?_
  refine lv_topi (fun v1 ev1 => ?_)
  obtain rfl : v1 = 1 := ev1.trans (by decide)
  refine va_sld hx hb hX hbl hbA hS (mm_in mm_k1 (by decide)) dL_law_1220 ?_
  refine lv_topi (fun v2 ev2 => ?_)
  obtain rfl : p1 = v2 := ep1.trans ev2.symm
  refine lv_aload_n hx hb dL_law_1221 rfl (lv_at hl 3 rfl) ?_
  refine lv_iload_n hx hb dL_law_1222 rfl (lv_at hl 0 rfl) ?_
  refine lv_iconst (v := 2) hx hb dL_law_1223 (by decide) ?_
  refine lv_iadd hx hb dL_law_1224 ?_
  refine lv_topi (fun v3 ev3 => ?_)
  obtain rfl : v3 = 2 := ev3.trans (by decide)
  refine va_sld hx hb hX hbl hbA hS (mm_in mm_k2 (by decide)) dL_law_1225 ?_
  refine lv_topi (fun v4 ev4 => ?_)
  obtain rfl : p2 = v4 := ep2.trans ev4.symm
  refine mm_finir (va_runV (As := [.int p1, .int p2]) (rest := []) ⟨hx, hb, hml, hown, hts⟩ (K165_X11_sorts l G cy H.size qx p1 p2 (ux 0) (ux 2) (ux 14) (ux 36) (ux 70) (ux 71) (ux 80) (ux 82) (ux 84) (ux 89) (ux 92) (ux 15) (ux 26) 0 0 0 0 0 0 0 (ux 16) (ux 17) (ux 18) (ux 19) (ux 20) (ux 21) (ux 22) (ux 23) (ux 24) (ux 25) ) (cwV 2 hts (mm_gV mm_w951 mm_w952 mm_w953 mm_w2 mm_w954) rfl rfl rfl hd_X11_sorts ⟨by rw [hRf]; exact Nat.le_of_ble_eq_true rfl, by rw [hRl]; exact Nat.le_of_ble_eq_true rfl⟩) (mm_preV hK hP hD [0, 1, 2] rfl rfl 0 rfl rfl rfl) rfl rfl hl.1 rfl (lv_room (Nat.le_of_ble_eq_true rfl)) dL_law_1226 ⟨by rw [hRc]; exact Nat.le_of_ble_eq_true rfl, by rw [hRs]; exact Nat.le_of_ble_eq_true rfl⟩) hP hD hS hA [0, 1, 2] rfl (fun _ => rfl) ?_
  clear hP hD hS
  clear H locs
  intro v5 _u H locs hw hP hD hS
  subst hw
  refine lv_aload_n hx hb dL_law_1229 rfl (lv_at hl 1 rfl) ?_
  refine lv_aload_n hx hb dL_law_1230 rfl (lv_at hl 3 rfl) ?_
  refine lv_iload_n hx hb dL_law_1231 rfl (lv_at hl 0 rfl) ?_
  refine lv_iconst (v := 1) hx hb dL_law_1232 (by decide) ?_
  refine lv_iadd hx hb dL_law_1233 ?_
  refine lv_topi (fun v6 ev6 => ?_)
  obtain rfl : v6 = 1 := ev6.trans (by decide)
  refine va_sld hx hb hX hbl hbA hS (mm_in mm_k1 (by decide)) dL_law_1234 ?_
  refine lv_topi (fun v7 ev7 => ?_)
  obtain rfl : p1 = v7 := ep1.trans ev7.symm
  refine lv_aload_n hx hb dL_law_1235 rfl (lv_at hl 3 rfl) ?_
  refine lv_iload_n hx hb dL_law_1236 rfl (lv_at hl 0 rfl) ?_
  refine lv_iconst (v := 2) hx hb dL_law_1237 (by decide) ?_
  refine lv_iadd hx hb dL_law_1238 ?_
  refine lv_topi (fun v8 ev8 => ?_)
  obtain rfl : v8 = 2 := ev8.trans (by decide)
  refine va_sld hx hb hX hbl hbA hS (mm_in mm_k2 (by decide)) dL_law_1239 ?_
  refine lv_topi (fun v9 ev9 => ?_)
  obtain rfl : p2 = v9 := ep2.trans ev9.symm
  refine mm_finir (va_runV (As := [.int p1, .int p2]) (rest := [.int (-2)]) ⟨hx, hb, hml, hown, hts⟩ (K167_X12_sorts l G cy H.size qm p1 p2 (um 0) (um 1) (um 2) (um 3) (um 4) 0 0 0 0 0 0 0 0 0 (-1) (um 5) (um 6) (um 7) (um 8) (um 9) (um 10) (um 11) (um 12) (um 13) (um 14) (um 15) (um 16) (um 17) 0 0 0 0 0 0 (um 18) 0 (um 19) ) (cwV 2 hts (mm_gV mm_w976 mm_w977 mm_w978 mm_w5 mm_w979) rfl rfl rfl hd_X12_sorts ⟨by rw [hRf]; exact Nat.le_of_ble_eq_true rfl, by rw [hRl]; exact Nat.le_of_ble_eq_true rfl⟩) (mm_preV hK hP hD [3, 4] rfl rfl 3 rfl rfl rfl) rfl rfl hl.1 rfl (lv_room (Nat.le_of_ble_eq_true rfl)) dL_law_1240 ⟨by rw [hRc]; exact Nat.le_of_ble_eq_true rfl, by rw [hRs]; exact Nat.le_of_ble_eq_true rfl⟩) hP hD hS hA [3, 4] rfl (fun _ => rfl) ?_
  clear hP hD hS
  clear H locs
  intro v10 _u H locs hw hP hD hS
  subst hw
  refine lv_icmp_eq (tgt := 3153) hx hb dL_law_1243 (by decide) (fun c11 => ?_) (fun c11 => ?_)
  · refine lv_iinc (v := 6) (lv' := [(3, .int 6), (2, .ref qm), (1, .ref qx), (0, .ref b)]) hx hb dL_law_3153 hl (k := 0) rfl (by decide) (by decide) rfl ?_
    clear hl
    clear ls
    intro ls hl
    refine lv_goto (tgt := 18) hx hb dL_law_3156 (by decide) ?_
    refine lv_iload_n hx hb dL_law_18 rfl (lv_at hl 0 rfl) ?_
    refine lv_aload_n hx hb dL_law_19 rfl (lv_at hl 3 rfl) ?_
    refine va_slen hx hb hX hbl hbA hS dL_law_20 ?_
    refine lv_topi (fun v12 ev12 => ?_)
    obtain rfl : v12 = 6 := ev12.trans (by decide)
    refine lv_bipush (v := 6) hx hb dL_law_21 (by decide) ?_
    refine lv_isub hx hb dL_law_23 ?_
    refine lv_topi (fun v13 ev13 => ?_)
    obtain rfl : v13 = 0 := ev13.trans (by decide)
    refine lv_icmp_gt (tgt := 3159) hx hb dL_law_24 (by decide) (fun c14 => ?_) (fun c14 => ?_)
    · refine lv_iconst (v := 1) hx hb dL_law_3159 (by decide) ?_
      refine va_forget (fun q hq => by have := hS.2.2 q hq; rw [hAe] at this; exact this) ?_
      refine W.widen (k := 600000) (n := 7302250) (Nat.le_of_ble_eq_true rfl) (Nat.le_of_ble_eq_true rfl) ?_
      exact lw_ret hx hb hr hlocks dL_law_3160
    · have q15 := mm_leL (mm_nlt c14) mm_k6 mm_k0
      exact mm_no q15 (by decide)
  · have q16 := mm_neL (lo := (-1)) (mm_ne c11) mm_km2 mm_km2 (by decide) (by decide)
    exact mm_no q16 (by decide)

set_option maxHeartbeats 4000000 in
set_option maxRecDepth 100000 in
theorem lc_24 {p : Program} {e : Env} {s : State} {m : MethodId} {below : List Frame} {meth : Method} {c : Code} {b : Nat} {xs : Nat → Int32} {G : va_G} {cy : Nat → ClassId} {qx qm : Nat} {ux um : Nat → Nat} {H : Heap} {locs : List Loc} {ls : Array Slot} {A : Nat → Prop} (l : Launch) (hx : p.tables.exec = Jvm.exec) (hb : c.code = code) (hr : meth.sig.returnType = ret) (hlocks : meth.locks = false) (hml : c.maxLocals = 4) (hown : s.vm.findClass R_law = some m.cls) (hts : ∀ w ∈ lw_x :: wsL_law, w.before #[Value.ref b] s = true) (hX : va_X b 6 xs s s.heap) (hbl : b < s.heap.size) (hAe : A = fun q => s.heap.size ≤ q) (hK : mm_K G cy s) (hS : va_S A s.heap H locs) (hP : va_P G vwCl [(qx, .inr (11, [.ref (ux 0), .ref (ux 2), .ref (ux 14), .ref (ux 36), .ref (ux 70), .ref (ux 71), .ref (ux 80), .ref (ux 82), .ref (ux 84), .ref (ux 89), .ref (ux 92)])), ((ux 14), .inr (10, [.ref (ux 15), .ref (ux 26)])), ((ux 15), .inr (0, [.int 0, .int 0, .int 0, .int 0, .int 0, .int 0, .int 0, .int 0, .ref (ux 16), .ref (ux 17), .ref (ux 18), .ref (ux 19), .ref (ux 20), .ref (ux 21), .ref (ux 22), .ref (ux 23), .ref (ux 24), .ref (ux 25)])), (qm, .inr (12, [.int 0, .ref (um 0), .ref (um 1), .ref (um 2), .ref (um 3), .ref (um 4), .int 0, .int 0, .int 0, .int 0, .int 0, .long 0, .int 0, .int 0, .int 0, .int (-1), .ref (um 5), .ref (um 6), .ref (um 7), .ref (um 8), .ref (um 9), .ref (um 10), .ref (um 11), .ref (um 12), .ref (um 13), .ref (um 14), .ref (um 15), .ref (um 16), .ref (um 17), .int 0, .int 0, .int 0, .int 0, .int 0, .int 0, .ref (um 18), .int 0, .ref (um 19)])), ((um 6), .inl (cy 1, 30, .inl (fun _ => 0)))] H) (hD : va_D A [(qx, .inr (11, [.ref (ux 0), .ref (ux 2), .ref (ux 14), .ref (ux 36), .ref (ux 70), .ref (ux 71), .ref (ux 80), .ref (ux 82), .ref (ux 84), .ref (ux 89), .ref (ux 92)])), ((ux 14), .inr (10, [.ref (ux 15), .ref (ux 26)])), ((ux 15), .inr (0, [.int 0, .int 0, .int 0, .int 0, .int 0, .int 0, .int 0, .int 0, .ref (ux 16), .ref (ux 17), .ref (ux 18), .ref (ux 19), .ref (ux 20), .ref (ux 21), .ref (ux 22), .ref (ux 23), .ref (ux 24), .ref (ux 25)])), (qm, .inr (12, [.int 0, .ref (um 0), .ref (um 1), .ref (um 2), .ref (um 3), .ref (um 4), .int 0, .int 0, .int 0, .int 0, .int 0, .long 0, .int 0, .int 0, .int 0, .int (-1), .ref (um 5), .ref (um 6), .ref (um 7), .ref (um 8), .ref (um 9), .ref (um 10), .ref (um 11), .ref (um 12), .ref (um 13), .ref (um 14), .ref (um 15), .ref (um 16), .ref (um 17), .int 0, .int 0, .int 0, .int 0, .int 0, .int 0, .ref (um 18), .int 0, .ref (um 19)])), ((um 6), .inl (cy 1, 30, .inl (fun _ => 0)))]) (hl : lv_has ls 4 [(3, .int 0), (2, .ref qm), (1, .ref qx), (0, .ref b)]) : W p l e room_1 s m #[Value.ref b] below meth c H locs 116 20302 (lw_Z below #[Value.ref b] s) (F0 m 1248 ls []) := by
  have hA : ∀ q, s.heap.size ≤ q → A q := by rw [hAe]; exact fun _ h => h
  have hbA : ¬ A b := by rw [hAe]; exact Nat.not_le.mpr hbl
  have hRf : room_1.frames = 2048 := rfl
  have hRl : room_1.locals = 84000 := rfl
  have hRc : room_1.cells = 600000 := rfl
  have hRs : room_1.slots = 7302250 := rfl
  obtain ⟨p1, ep1⟩ : ∃ z : Int32, z = xs 1 := ⟨_, rfl⟩
  obtain ⟨p2, ep2⟩ : ∃ z : Int32, z = xs 2 := ⟨_, rfl⟩
  obtain ⟨p3, ep3⟩ : ∃ z : Int32, z = xs 3 := ⟨_, rfl⟩
  obtain ⟨p4, ep4⟩ : ∃ z : Int32, z = xs 4 := ⟨_, rfl⟩
  obtain ⟨p5, ep5⟩ : ∃ z : Int32, z = xs 5 := ⟨_, rfl⟩
  refine lv_aload_n hx hb dL_law_1248 rfl (lv_at hl 2 rfl) ?_
  refine lv_aload_n hx hb dL_law_1249 rfl (lv_at hl 3 rfl) ?_
  refine lv_iload_n hx hb dL_law_1250 rfl (lv_at hl 0 rfl) ?_
  refine lv_iconst (v := 1) hx hb dL_law_1251 (by decide) ?_
  refine lv_iadd hx hb dL_law_1252 ?_
  refine lv_topi (fun v1 ev1 => ?_)
  obtain rfl : v1 = 1 := ev1.trans (by decide)
  refine va_sld hx hb hX hbl hbA hS (mm_in mm_k1 (by decide)) dL_law_1253 ?_
  refine lv_topi (fun v2 ev2 => ?_)
  obtain rfl : p1 = v2 := ep1.trans ev2.symm
  refine lv_aload_n hx hb dL_law_1254 rfl (lv_at hl 3 rfl) ?_
  refine lv_iload_n hx hb dL_law_1255 rfl (lv_at hl 0 rfl) ?_
  refine lv_iconst (v := 2) hx hb dL_law_1256 (by decide) ?_
  refine lv_iadd hx hb dL_law_1257 ?_
  refine lv_topi (fun v3 ev3 => ?_)
  obtain rfl : v3 = 2 := ev3.trans (by decide)
  refine va_sld hx hb hX hbl hbA hS (mm_in mm_k2 (by decide)) dL_law_1258 ?_
  refine lv_topi (fun v4 ev4 => ?_)
  obtain rfl : p2 = v4 := ep2.trans ev4.symm
  refine mm_finir (va_runV (As := [.int p1, .int p2]) (rest := []) ⟨hx, hb, hml, hown, hts⟩ (K168_X11_clear l G cy H.size qx p1 p2 (ux 0) (ux 2) (ux 14) (ux 36) (ux 70) (ux 71) (ux 80) (ux 82) (ux 84) (ux 89) (ux 92) (ux 15) (ux 26) 0 0 0 0 0 0 0 (ux 16) (ux 17) (ux 18) (ux 19) (ux 20) (ux 21) (ux 22) (ux 23) (ux 24) (ux 25) ) (cwV 2 hts (mm_gV mm_w984 mm_w985 mm_w986 mm_w2 mm_w987) rfl rfl rfl hd_X11_clear ⟨by rw [hRf]; exact Nat.le_of_ble_eq_true rfl, by rw [hRl]; exact Nat.le_of_ble_eq_true rfl⟩) (mm_preV hK hP hD [0, 1, 2] rfl rfl 0 rfl rfl rfl) rfl rfl hl.1 rfl (lv_room (Nat.le_of_ble_eq_true rfl)) dL_law_1259 ⟨by rw [hRc]; exact Nat.le_of_ble_eq_true rfl, by rw [hRs]; exact Nat.le_of_ble_eq_true rfl⟩) hP hD hS hA [0, 1, 2] rfl (fun _ => rfl) ?_
  clear hP hD hS
  clear H locs
  intro v5 _u H locs hw hP hD hS
  subst hw
  refine lv_aload_n hx hb dL_law_1262 rfl (lv_at hl 1 rfl) ?_
  refine lv_aload_n hx hb dL_law_1263 rfl (lv_at hl 3 rfl) ?_
  refine lv_iload_n hx hb dL_law_1264 rfl (lv_at hl 0 rfl) ?_
  refine lv_iconst (v := 1) hx hb dL_law_1265 (by decide) ?_
  refine lv_iadd hx hb dL_law_1266 ?_
  refine lv_topi (fun v6 ev6 => ?_)
  obtain rfl : v6 = 1 := ev6.trans (by decide)
  refine va_sld hx hb hX hbl hbA hS (mm_in mm_k1 (by decide)) dL_law_1267 ?_
  refine lv_topi (fun v7 ev7 => ?_)
  obtain rfl : p1 = v7 := ep1.trans ev7.symm
  refine lv_aload_n hx hb dL_law_1268 rfl (lv_at hl 3 rfl) ?_
  refine lv_iload_n hx hb dL_law_1269 rfl (lv_at hl 0 rfl) ?_
  refine lv_iconst (v := 2) hx hb dL_law_1270 (by decide) ?_
  refine lv_iadd hx hb dL_law_1271 ?_
  refine lv_topi (fun v8 ev8 => ?_)
  obtain rfl : v8 = 2 := ev8.trans (by decide)
  refine va_sld hx hb hX hbl hbA hS (mm_in mm_k2 (by decide)) dL_law_1272 ?_
  refine lv_topi (fun v9 ev9 => ?_)
  obtain rfl : p2 = v9 := ep2.trans ev9.symm
  refine mm_finir (va_runV (As := [.int p1, .int p2]) (rest := [.int (-2)]) ⟨hx, hb, hml, hown, hts⟩ (K169_X12_clear l G cy H.size qm p1 p2 (um 0) (um 1) (um 2) (um 3) (um 4) 0 0 0 0 0 0 0 0 0 (-1) (um 5) (um 6) (um 7) (um 8) (um 9) (um 10) (um 11) (um 12) (um 13) (um 14) (um 15) (um 16) (um 17) 0 0 0 0 0 0 (um 18) 0 (um 19) ) (cwV 2 hts (mm_gV mm_w992 mm_w993 mm_w994 mm_w5 mm_w995) rfl rfl rfl hd_X12_clear ⟨by rw [hRf]; exact Nat.le_of_ble_eq_true rfl, by rw [hRl]; exact Nat.le_of_ble_eq_true rfl⟩) (mm_preV hK hP hD [3, 4] rfl rfl 3 rfl rfl rfl) rfl rfl hl.1 rfl (lv_room (Nat.le_of_ble_eq_true rfl)) dL_law_1273 ⟨by rw [hRc]; exact Nat.le_of_ble_eq_true rfl, by rw [hRs]; exact Nat.le_of_ble_eq_true rfl⟩) hP hD hS hA [3, 4] rfl (fun _ => rfl) ?_
  clear hP hD hS
  clear H locs
  intro v10 _u H locs hw hP hD hS
  subst hw
  refine lv_icmp_eq (tgt := 3153) hx hb dL_law_1276 (by decide) (fun c11 => ?_) (fun c11 => ?_)
  · refine lv_iinc (v := 6) (lv' := [(3, .int 6), (2, .ref qm), (1, .ref qx), (0, .ref b)]) hx hb dL_law_3153 hl (k := 0) rfl (by decide) (by decide) rfl ?_
    clear hl
    clear ls
    intro ls hl
    refine lv_goto (tgt := 18) hx hb dL_law_3156 (by decide) ?_
    refine lv_iload_n hx hb dL_law_18 rfl (lv_at hl 0 rfl) ?_
    refine lv_aload_n hx hb dL_law_19 rfl (lv_at hl 3 rfl) ?_
    refine va_slen hx hb hX hbl hbA hS dL_law_20 ?_
    refine lv_topi (fun v12 ev12 => ?_)
    obtain rfl : v12 = 6 := ev12.trans (by decide)
    refine lv_bipush (v := 6) hx hb dL_law_21 (by decide) ?_
    refine lv_isub hx hb dL_law_23 ?_
    refine lv_topi (fun v13 ev13 => ?_)
    obtain rfl : v13 = 0 := ev13.trans (by decide)
    refine lv_icmp_gt (tgt := 3159) hx hb dL_law_24 (by decide) (fun c14 => ?_) (fun c14 => ?_)
    · refine lv_iconst (v := 1) hx hb dL_law_3159 (by decide) ?_
      refine va_forget (fun q hq => by have := hS.2.2 q hq; rw [hAe] at this; exact this) ?_
      refine W.widen (k := 600000) (n := 7302250) (Nat.le_of_ble_eq_true rfl) (Nat.le_of_ble_eq_true rfl) ?_
      exact lw_ret hx hb hr hlocks dL_law_3160
    · have q15 := mm_leL (mm_nlt c14) mm_k6 mm_k0
      exact mm_no q15 (by decide)
  · have q16 := mm_neL (lo := (-1)) (mm_ne c11) mm_km2 mm_km2 (by decide) (by decide)
    exact mm_no q16 (by decide)

set_option maxHeartbeats 4000000 in
set_option maxRecDepth 100000 in
theorem lc_25 {p : Program} {e : Env} {s : State} {m : MethodId} {below : List Frame} {meth : Method} {c : Code} {b : Nat} {xs : Nat → Int32} {G : va_G} {cy : Nat → ClassId} {qx qm : Nat} {ux um : Nat → Nat} {H : Heap} {locs : List Loc} {ls : Array Slot} {A : Nat → Prop} (l : Launch) (hx : p.tables.exec = Jvm.exec) (hb : c.code = code) (hr : meth.sig.returnType = ret) (hlocks : meth.locks = false) (hml : c.maxLocals = 4) (hown : s.vm.findClass R_law = some m.cls) (hts : ∀ w ∈ lw_x :: wsL_law, w.before #[Value.ref b] s = true) (hX : va_X b 6 xs s s.heap) (hbl : b < s.heap.size) (hAe : A = fun q => s.heap.size ≤ q) (hK : mm_K G cy s) (hS : va_S A s.heap H locs) (hP : va_P G vwCl [(qx, .inr (11, [.ref (ux 0), .ref (ux 2), .ref (ux 14), .ref (ux 36), .ref (ux 70), .ref (ux 71), .ref (ux 80), .ref (ux 82), .ref (ux 84), .ref (ux 89), .ref (ux 92)])), ((ux 14), .inr (10, [.ref (ux 15), .ref (ux 26)])), ((ux 15), .inr (0, [.int 0, .int 0, .int 0, .int 0, .int 0, .int 0, .int 0, .int 0, .ref (ux 16), .ref (ux 17), .ref (ux 18), .ref (ux 19), .ref (ux 20), .ref (ux 21), .ref (ux 22), .ref (ux 23), .ref (ux 24), .ref (ux 25)])), (qm, .inr (12, [.int 0, .ref (um 0), .ref (um 1), .ref (um 2), .ref (um 3), .ref (um 4), .int 0, .int 0, .int 0, .int 0, .int 0, .long 0, .int 0, .int 0, .int 0, .int (-1), .ref (um 5), .ref (um 6), .ref (um 7), .ref (um 8), .ref (um 9), .ref (um 10), .ref (um 11), .ref (um 12), .ref (um 13), .ref (um 14), .ref (um 15), .ref (um 16), .ref (um 17), .int 0, .int 0, .int 0, .int 0, .int 0, .int 0, .ref (um 18), .int 0, .ref (um 19)])), ((um 6), .inl (cy 1, 30, .inl (fun _ => 0)))] H) (hD : va_D A [(qx, .inr (11, [.ref (ux 0), .ref (ux 2), .ref (ux 14), .ref (ux 36), .ref (ux 70), .ref (ux 71), .ref (ux 80), .ref (ux 82), .ref (ux 84), .ref (ux 89), .ref (ux 92)])), ((ux 14), .inr (10, [.ref (ux 15), .ref (ux 26)])), ((ux 15), .inr (0, [.int 0, .int 0, .int 0, .int 0, .int 0, .int 0, .int 0, .int 0, .ref (ux 16), .ref (ux 17), .ref (ux 18), .ref (ux 19), .ref (ux 20), .ref (ux 21), .ref (ux 22), .ref (ux 23), .ref (ux 24), .ref (ux 25)])), (qm, .inr (12, [.int 0, .ref (um 0), .ref (um 1), .ref (um 2), .ref (um 3), .ref (um 4), .int 0, .int 0, .int 0, .int 0, .int 0, .long 0, .int 0, .int 0, .int 0, .int (-1), .ref (um 5), .ref (um 6), .ref (um 7), .ref (um 8), .ref (um 9), .ref (um 10), .ref (um 11), .ref (um 12), .ref (um 13), .ref (um 14), .ref (um 15), .ref (um 16), .ref (um 17), .int 0, .int 0, .int 0, .int 0, .int 0, .int 0, .ref (um 18), .int 0, .ref (um 19)])), ((um 6), .inl (cy 1, 30, .inl (fun _ => 0)))]) (hl : lv_has ls 4 [(3, .int 0), (2, .ref qm), (1, .ref qx), (0, .ref b)]) : W p l e room_1 s m #[Value.ref b] below meth c H locs 116 20302 (lw_Z below #[Value.ref b] s) (F0 m 1281 ls []) := by
  have hA : ∀ q, s.heap.size ≤ q → A q := by rw [hAe]; exact fun _ h => h
  have hbA : ¬ A b := by rw [hAe]; exact Nat.not_le.mpr hbl
  have hRf : room_1.frames = 2048 := rfl
  have hRl : room_1.locals = 84000 := rfl
  have hRc : room_1.cells = 600000 := rfl
  have hRs : room_1.slots = 7302250 := rfl
  obtain ⟨p1, ep1⟩ : ∃ z : Int32, z = xs 1 := ⟨_, rfl⟩
  obtain ⟨p2, ep2⟩ : ∃ z : Int32, z = xs 2 := ⟨_, rfl⟩
  obtain ⟨p3, ep3⟩ : ∃ z : Int32, z = xs 3 := ⟨_, rfl⟩
  obtain ⟨p4, ep4⟩ : ∃ z : Int32, z = xs 4 := ⟨_, rfl⟩
  obtain ⟨p5, ep5⟩ : ∃ z : Int32, z = xs 5 := ⟨_, rfl⟩
  refine lv_aload_n hx hb dL_law_1281 rfl (lv_at hl 2 rfl) ?_
  refine lv_aload_n hx hb dL_law_1282 rfl (lv_at hl 3 rfl) ?_
  refine lv_iload_n hx hb dL_law_1283 rfl (lv_at hl 0 rfl) ?_
  refine lv_iconst (v := 1) hx hb dL_law_1284 (by decide) ?_
  refine lv_iadd hx hb dL_law_1285 ?_
  refine lv_topi (fun v1 ev1 => ?_)
  obtain rfl : v1 = 1 := ev1.trans (by decide)
  refine va_sld hx hb hX hbl hbA hS (mm_in mm_k1 (by decide)) dL_law_1286 ?_
  refine lv_topi (fun v2 ev2 => ?_)
  obtain rfl : p1 = v2 := ep1.trans ev2.symm
  refine lv_aload_n hx hb dL_law_1287 rfl (lv_at hl 3 rfl) ?_
  refine lv_iload_n hx hb dL_law_1288 rfl (lv_at hl 0 rfl) ?_
  refine lv_iconst (v := 2) hx hb dL_law_1289 (by decide) ?_
  refine lv_iadd hx hb dL_law_1290 ?_
  refine lv_topi (fun v3 ev3 => ?_)
  obtain rfl : v3 = 2 := ev3.trans (by decide)
  refine va_sld hx hb hX hbl hbA hS (mm_in mm_k2 (by decide)) dL_law_1291 ?_
  refine lv_topi (fun v4 ev4 => ?_)
  obtain rfl : p2 = v4 := ep2.trans ev4.symm
  refine lv_aload_n hx hb dL_law_1292 rfl (lv_at hl 3 rfl) ?_
  refine lv_iload_n hx hb dL_law_1293 rfl (lv_at hl 0 rfl) ?_
  refine lv_iconst (v := 3) hx hb dL_law_1294 (by decide) ?_
  refine lv_iadd hx hb dL_law_1295 ?_
  refine lv_topi (fun v5 ev5 => ?_)
  obtain rfl : v5 = 3 := ev5.trans (by decide)
  refine va_sld hx hb hX hbl hbA hS (mm_in mm_k3 (by decide)) dL_law_1296 ?_
  refine lv_topi (fun v6 ev6 => ?_)
  obtain rfl : p3 = v6 := ep3.trans ev6.symm
  refine mm_finir (va_runV (As := [.int p1, .int p2, .int p3]) (rest := []) ⟨hx, hb, hml, hown, hts⟩ (K170_X11_agree l G cy H.size qx p1 p2 p3 (ux 0) (ux 2) (ux 14) (ux 36) (ux 70) (ux 71) (ux 80) (ux 82) (ux 84) (ux 89) (ux 92) (ux 15) (ux 26) 0 0 0 0 0 0 0 (ux 16) (ux 17) (ux 18) (ux 19) (ux 20) (ux 21) (ux 22) (ux 23) (ux 24) (ux 25) ) (cwV 3 hts (mm_gV mm_w1000 mm_w1001 mm_w1002 mm_w2 mm_w1003) rfl rfl rfl hd_X11_agree ⟨by rw [hRf]; exact Nat.le_of_ble_eq_true rfl, by rw [hRl]; exact Nat.le_of_ble_eq_true rfl⟩) (mm_preV hK hP hD [0, 1, 2] rfl rfl 0 rfl rfl rfl) rfl rfl hl.1 rfl (lv_room (Nat.le_of_ble_eq_true rfl)) dL_law_1297 ⟨by rw [hRc]; exact Nat.le_of_ble_eq_true rfl, by rw [hRs]; exact Nat.le_of_ble_eq_true rfl⟩) hP hD hS hA [0, 1, 2] rfl (fun _ => rfl) ?_
  clear hP hD hS
  clear H locs
  intro v7 _u H locs hw hP hD hS
  subst hw
  refine lv_aload_n hx hb dL_law_1300 rfl (lv_at hl 1 rfl) ?_
  refine lv_aload_n hx hb dL_law_1301 rfl (lv_at hl 3 rfl) ?_
  refine lv_iload_n hx hb dL_law_1302 rfl (lv_at hl 0 rfl) ?_
  refine lv_iconst (v := 1) hx hb dL_law_1303 (by decide) ?_
  refine lv_iadd hx hb dL_law_1304 ?_
  refine lv_topi (fun v8 ev8 => ?_)
  obtain rfl : v8 = 1 := ev8.trans (by decide)
  refine va_sld hx hb hX hbl hbA hS (mm_in mm_k1 (by decide)) dL_law_1305 ?_
  refine lv_topi (fun v9 ev9 => ?_)
  obtain rfl : p1 = v9 := ep1.trans ev9.symm
  refine lv_aload_n hx hb dL_law_1306 rfl (lv_at hl 3 rfl) ?_
  refine lv_iload_n hx hb dL_law_1307 rfl (lv_at hl 0 rfl) ?_
  refine lv_iconst (v := 2) hx hb dL_law_1308 (by decide) ?_
  refine lv_iadd hx hb dL_law_1309 ?_
  refine lv_topi (fun v10 ev10 => ?_)
  obtain rfl : v10 = 2 := ev10.trans (by decide)
  refine va_sld hx hb hX hbl hbA hS (mm_in mm_k2 (by decide)) dL_law_1310 ?_
  refine lv_topi (fun v11 ev11 => ?_)
  obtain rfl : p2 = v11 := ep2.trans ev11.symm
  refine lv_aload_n hx hb dL_law_1311 rfl (lv_at hl 3 rfl) ?_
  refine lv_iload_n hx hb dL_law_1312 rfl (lv_at hl 0 rfl) ?_
  refine lv_iconst (v := 3) hx hb dL_law_1313 (by decide) ?_
  refine lv_iadd hx hb dL_law_1314 ?_
  refine lv_topi (fun v12 ev12 => ?_)
  obtain rfl : v12 = 3 := ev12.trans (by decide)
  refine va_sld hx hb hX hbl hbA hS (mm_in mm_k3 (by decide)) dL_law_1315 ?_
  refine lv_topi (fun v13 ev13 => ?_)
  obtain rfl : p3 = v13 := ep3.trans ev13.symm
  refine mm_finir (va_runV (As := [.int p1, .int p2, .int p3]) (rest := [.int (-2)]) ⟨hx, hb, hml, hown, hts⟩ (K171_X12_agree l G cy H.size qm p1 p2 p3 (um 0) (um 1) (um 2) (um 3) (um 4) 0 0 0 0 0 0 0 0 0 (-1) (um 5) (um 6) (um 7) (um 8) (um 9) (um 10) (um 11) (um 12) (um 13) (um 14) (um 15) (um 16) (um 17) 0 0 0 0 0 0 (um 18) 0 (um 19) ) (cwV 3 hts (mm_gV mm_w1004 mm_w1005 mm_w1006 mm_w5 mm_w1007) rfl rfl rfl hd_X12_agree ⟨by rw [hRf]; exact Nat.le_of_ble_eq_true rfl, by rw [hRl]; exact Nat.le_of_ble_eq_true rfl⟩) (mm_preV hK hP hD [3, 4] rfl rfl 3 rfl rfl rfl) rfl rfl hl.1 rfl (lv_room (Nat.le_of_ble_eq_true rfl)) dL_law_1316 ⟨by rw [hRc]; exact Nat.le_of_ble_eq_true rfl, by rw [hRs]; exact Nat.le_of_ble_eq_true rfl⟩) hP hD hS hA [3, 4] rfl (fun _ => rfl) ?_
  clear hP hD hS
  clear H locs
  intro v14 _u H locs hw hP hD hS
  subst hw
  refine lv_icmp_eq (tgt := 3153) hx hb dL_law_1319 (by decide) (fun c15 => ?_) (fun c15 => ?_)
  · refine lv_iinc (v := 6) (lv' := [(3, .int 6), (2, .ref qm), (1, .ref qx), (0, .ref b)]) hx hb dL_law_3153 hl (k := 0) rfl (by decide) (by decide) rfl ?_
    clear hl
    clear ls
    intro ls hl
    refine lv_goto (tgt := 18) hx hb dL_law_3156 (by decide) ?_
    refine lv_iload_n hx hb dL_law_18 rfl (lv_at hl 0 rfl) ?_
    refine lv_aload_n hx hb dL_law_19 rfl (lv_at hl 3 rfl) ?_
    refine va_slen hx hb hX hbl hbA hS dL_law_20 ?_
    refine lv_topi (fun v16 ev16 => ?_)
    obtain rfl : v16 = 6 := ev16.trans (by decide)
    refine lv_bipush (v := 6) hx hb dL_law_21 (by decide) ?_
    refine lv_isub hx hb dL_law_23 ?_
    refine lv_topi (fun v17 ev17 => ?_)
    obtain rfl : v17 = 0 := ev17.trans (by decide)
    refine lv_icmp_gt (tgt := 3159) hx hb dL_law_24 (by decide) (fun c18 => ?_) (fun c18 => ?_)
    · refine lv_iconst (v := 1) hx hb dL_law_3159 (by decide) ?_
      refine va_forget (fun q hq => by have := hS.2.2 q hq; rw [hAe] at this; exact this) ?_
      refine W.widen (k := 600000) (n := 7302250) (Nat.le_of_ble_eq_true rfl) (Nat.le_of_ble_eq_true rfl) ?_
      exact lw_ret hx hb hr hlocks dL_law_3160
    · have q19 := mm_leL (mm_nlt c18) mm_k6 mm_k0
      exact mm_no q19 (by decide)
  · have q20 := mm_neL (lo := (-1)) (mm_ne c15) mm_km2 mm_km2 (by decide) (by decide)
    exact mm_no q20 (by decide)

set_option maxHeartbeats 4000000 in
set_option maxRecDepth 100000 in
theorem lc_26 {p : Program} {e : Env} {s : State} {m : MethodId} {below : List Frame} {meth : Method} {c : Code} {b : Nat} {xs : Nat → Int32} {G : va_G} {cy : Nat → ClassId} {qx qm : Nat} {ux um : Nat → Nat} {H : Heap} {locs : List Loc} {ls : Array Slot} {A : Nat → Prop} (l : Launch) (hx : p.tables.exec = Jvm.exec) (hb : c.code = code) (hr : meth.sig.returnType = ret) (hlocks : meth.locks = false) (hml : c.maxLocals = 4) (hown : s.vm.findClass R_law = some m.cls) (hts : ∀ w ∈ lw_x :: wsL_law, w.before #[Value.ref b] s = true) (hX : va_X b 6 xs s s.heap) (hbl : b < s.heap.size) (hAe : A = fun q => s.heap.size ≤ q) (hK : mm_K G cy s) (hS : va_S A s.heap H locs) (hP : va_P G vwCl [(qx, .inr (11, [.ref (ux 0), .ref (ux 2), .ref (ux 14), .ref (ux 36), .ref (ux 70), .ref (ux 71), .ref (ux 80), .ref (ux 82), .ref (ux 84), .ref (ux 89), .ref (ux 92)])), ((ux 14), .inr (10, [.ref (ux 15), .ref (ux 26)])), ((ux 15), .inr (0, [.int 0, .int 0, .int 0, .int 0, .int 0, .int 0, .int 0, .int 0, .ref (ux 16), .ref (ux 17), .ref (ux 18), .ref (ux 19), .ref (ux 20), .ref (ux 21), .ref (ux 22), .ref (ux 23), .ref (ux 24), .ref (ux 25)])), (qm, .inr (12, [.int 0, .ref (um 0), .ref (um 1), .ref (um 2), .ref (um 3), .ref (um 4), .int 0, .int 0, .int 0, .int 0, .int 0, .long 0, .int 0, .int 0, .int 0, .int (-1), .ref (um 5), .ref (um 6), .ref (um 7), .ref (um 8), .ref (um 9), .ref (um 10), .ref (um 11), .ref (um 12), .ref (um 13), .ref (um 14), .ref (um 15), .ref (um 16), .ref (um 17), .int 0, .int 0, .int 0, .int 0, .int 0, .int 0, .ref (um 18), .int 0, .ref (um 19)])), ((um 6), .inl (cy 1, 30, .inl (fun _ => 0)))] H) (hD : va_D A [(qx, .inr (11, [.ref (ux 0), .ref (ux 2), .ref (ux 14), .ref (ux 36), .ref (ux 70), .ref (ux 71), .ref (ux 80), .ref (ux 82), .ref (ux 84), .ref (ux 89), .ref (ux 92)])), ((ux 14), .inr (10, [.ref (ux 15), .ref (ux 26)])), ((ux 15), .inr (0, [.int 0, .int 0, .int 0, .int 0, .int 0, .int 0, .int 0, .int 0, .ref (ux 16), .ref (ux 17), .ref (ux 18), .ref (ux 19), .ref (ux 20), .ref (ux 21), .ref (ux 22), .ref (ux 23), .ref (ux 24), .ref (ux 25)])), (qm, .inr (12, [.int 0, .ref (um 0), .ref (um 1), .ref (um 2), .ref (um 3), .ref (um 4), .int 0, .int 0, .int 0, .int 0, .int 0, .long 0, .int 0, .int 0, .int 0, .int (-1), .ref (um 5), .ref (um 6), .ref (um 7), .ref (um 8), .ref (um 9), .ref (um 10), .ref (um 11), .ref (um 12), .ref (um 13), .ref (um 14), .ref (um 15), .ref (um 16), .ref (um 17), .int 0, .int 0, .int 0, .int 0, .int 0, .int 0, .ref (um 18), .int 0, .ref (um 19)])), ((um 6), .inl (cy 1, 30, .inl (fun _ => 0)))]) (hl : lv_has ls 4 [(3, .int 0), (2, .ref qm), (1, .ref qx), (0, .ref b)]) : W p l e room_1 s m #[Value.ref b] below meth c H locs 116 20302 (lw_Z below #[Value.ref b] s) (F0 m 1324 ls []) := by
  have hA : ∀ q, s.heap.size ≤ q → A q := by rw [hAe]; exact fun _ h => h
  have hbA : ¬ A b := by rw [hAe]; exact Nat.not_le.mpr hbl
  have hRf : room_1.frames = 2048 := rfl
  have hRl : room_1.locals = 84000 := rfl
  have hRc : room_1.cells = 600000 := rfl
  have hRs : room_1.slots = 7302250 := rfl
  obtain ⟨p1, ep1⟩ : ∃ z : Int32, z = xs 1 := ⟨_, rfl⟩
  obtain ⟨p2, ep2⟩ : ∃ z : Int32, z = xs 2 := ⟨_, rfl⟩
  obtain ⟨p3, ep3⟩ : ∃ z : Int32, z = xs 3 := ⟨_, rfl⟩
  obtain ⟨p4, ep4⟩ : ∃ z : Int32, z = xs 4 := ⟨_, rfl⟩
  obtain ⟨p5, ep5⟩ : ∃ z : Int32, z = xs 5 := ⟨_, rfl⟩
  refine lv_aload_n hx hb dL_law_1324 rfl (lv_at hl 2 rfl) ?_
  refine lv_aload_n hx hb dL_law_1325 rfl (lv_at hl 3 rfl) ?_
  refine lv_iload_n hx hb dL_law_1326 rfl (lv_at hl 0 rfl) ?_
  refine lv_iconst (v := 1) hx hb dL_law_1327 (by decide) ?_
  refine lv_iadd hx hb dL_law_1328 ?_
  refine lv_topi (fun v1 ev1 => ?_)
  obtain rfl : v1 = 1 := ev1.trans (by decide)
  refine va_sld hx hb hX hbl hbA hS (mm_in mm_k1 (by decide)) dL_law_1329 ?_
  refine lv_topi (fun v2 ev2 => ?_)
  obtain rfl : p1 = v2 := ep1.trans ev2.symm
  refine lv_aload_n hx hb dL_law_1330 rfl (lv_at hl 3 rfl) ?_
  refine lv_iload_n hx hb dL_law_1331 rfl (lv_at hl 0 rfl) ?_
  refine lv_iconst (v := 2) hx hb dL_law_1332 (by decide) ?_
  refine lv_iadd hx hb dL_law_1333 ?_
  refine lv_topi (fun v3 ev3 => ?_)
  obtain rfl : v3 = 2 := ev3.trans (by decide)
  refine va_sld hx hb hX hbl hbA hS (mm_in mm_k2 (by decide)) dL_law_1334 ?_
  refine lv_topi (fun v4 ev4 => ?_)
  obtain rfl : p2 = v4 := ep2.trans ev4.symm
  refine lv_aload_n hx hb dL_law_1335 rfl (lv_at hl 3 rfl) ?_
  refine lv_iload_n hx hb dL_law_1336 rfl (lv_at hl 0 rfl) ?_
  refine lv_iconst (v := 3) hx hb dL_law_1337 (by decide) ?_
  refine lv_iadd hx hb dL_law_1338 ?_
  refine lv_topi (fun v5 ev5 => ?_)
  obtain rfl : v5 = 3 := ev5.trans (by decide)
  refine va_sld hx hb hX hbl hbA hS (mm_in mm_k3 (by decide)) dL_law_1339 ?_
  refine lv_topi (fun v6 ev6 => ?_)
  obtain rfl : p3 = v6 := ep3.trans ev6.symm
  refine mm_finir (va_runV (As := [.int p1, .int p2, .int p3]) (rest := []) ⟨hx, hb, hml, hown, hts⟩ (K172_X11_days l G cy H.size qx p1 p2 p3 (ux 0) (ux 2) (ux 14) (ux 36) (ux 70) (ux 71) (ux 80) (ux 82) (ux 84) (ux 89) (ux 92) (ux 15) (ux 26) 0 0 0 0 0 0 0 (ux 16) (ux 17) (ux 18) (ux 19) (ux 20) (ux 21) (ux 22) (ux 23) (ux 24) (ux 25) ) (cwV 3 hts (mm_gV mm_w1008 mm_w1009 mm_w1010 mm_w2 mm_w1011) rfl rfl rfl hd_X11_days ⟨by rw [hRf]; exact Nat.le_of_ble_eq_true rfl, by rw [hRl]; exact Nat.le_of_ble_eq_true rfl⟩) (mm_preV hK hP hD [0, 1, 2] rfl rfl 0 rfl rfl rfl) rfl rfl hl.1 rfl (lv_room (Nat.le_of_ble_eq_true rfl)) dL_law_1340 ⟨by rw [hRc]; exact Nat.le_of_ble_eq_true rfl, by rw [hRs]; exact Nat.le_of_ble_eq_true rfl⟩) hP hD hS hA [0, 1, 2] rfl (fun _ => rfl) ?_
  clear hP hD hS
  clear H locs
  intro v7 _u H locs hw hP hD hS
  subst hw
  refine lv_aload_n hx hb dL_law_1343 rfl (lv_at hl 1 rfl) ?_
  refine lv_aload_n hx hb dL_law_1344 rfl (lv_at hl 3 rfl) ?_
  refine lv_iload_n hx hb dL_law_1345 rfl (lv_at hl 0 rfl) ?_
  refine lv_iconst (v := 1) hx hb dL_law_1346 (by decide) ?_
  refine lv_iadd hx hb dL_law_1347 ?_
  refine lv_topi (fun v8 ev8 => ?_)
  obtain rfl : v8 = 1 := ev8.trans (by decide)
  refine va_sld hx hb hX hbl hbA hS (mm_in mm_k1 (by decide)) dL_law_1348 ?_
  refine lv_topi (fun v9 ev9 => ?_)
  obtain rfl : p1 = v9 := ep1.trans ev9.symm
  refine lv_aload_n hx hb dL_law_1349 rfl (lv_at hl 3 rfl) ?_
  refine lv_iload_n hx hb dL_law_1350 rfl (lv_at hl 0 rfl) ?_
  refine lv_iconst (v := 2) hx hb dL_law_1351 (by decide) ?_
  refine lv_iadd hx hb dL_law_1352 ?_
  refine lv_topi (fun v10 ev10 => ?_)
  obtain rfl : v10 = 2 := ev10.trans (by decide)
  refine va_sld hx hb hX hbl hbA hS (mm_in mm_k2 (by decide)) dL_law_1353 ?_
  refine lv_topi (fun v11 ev11 => ?_)
  obtain rfl : p2 = v11 := ep2.trans ev11.symm
  refine lv_aload_n hx hb dL_law_1354 rfl (lv_at hl 3 rfl) ?_
  refine lv_iload_n hx hb dL_law_1355 rfl (lv_at hl 0 rfl) ?_
  refine lv_iconst (v := 3) hx hb dL_law_1356 (by decide) ?_
  refine lv_iadd hx hb dL_law_1357 ?_
  refine lv_topi (fun v12 ev12 => ?_)
  obtain rfl : v12 = 3 := ev12.trans (by decide)
  refine va_sld hx hb hX hbl hbA hS (mm_in mm_k3 (by decide)) dL_law_1358 ?_
  refine lv_topi (fun v13 ev13 => ?_)
  obtain rfl : p3 = v13 := ep3.trans ev13.symm
  refine mm_finir (va_runV (As := [.int p1, .int p2, .int p3]) (rest := [.int (-2)]) ⟨hx, hb, hml, hown, hts⟩ (K173_X12_days l G cy H.size qm p1 p2 p3 (um 0) (um 1) (um 2) (um 3) (um 4) 0 0 0 0 0 0 0 0 0 (-1) (um 5) (um 6) (um 7) (um 8) (um 9) (um 10) (um 11) (um 12) (um 13) (um 14) (um 15) (um 16) (um 17) 0 0 0 0 0 0 (um 18) 0 (um 19) ) (cwV 3 hts (mm_gV mm_w1012 mm_w1013 mm_w1014 mm_w5 mm_w1015) rfl rfl rfl hd_X12_days ⟨by rw [hRf]; exact Nat.le_of_ble_eq_true rfl, by rw [hRl]; exact Nat.le_of_ble_eq_true rfl⟩) (mm_preV hK hP hD [3, 4] rfl rfl 3 rfl rfl rfl) rfl rfl hl.1 rfl (lv_room (Nat.le_of_ble_eq_true rfl)) dL_law_1359 ⟨by rw [hRc]; exact Nat.le_of_ble_eq_true rfl, by rw [hRs]; exact Nat.le_of_ble_eq_true rfl⟩) hP hD hS hA [3, 4] rfl (fun _ => rfl) ?_
  clear hP hD hS
  clear H locs
  intro v14 _u H locs hw hP hD hS
  subst hw
  refine lv_icmp_eq (tgt := 3153) hx hb dL_law_1362 (by decide) (fun c15 => ?_) (fun c15 => ?_)
  · refine lv_iinc (v := 6) (lv' := [(3, .int 6), (2, .ref qm), (1, .ref qx), (0, .ref b)]) hx hb dL_law_3153 hl (k := 0) rfl (by decide) (by decide) rfl ?_
    clear hl
    clear ls
    intro ls hl
    refine lv_goto (tgt := 18) hx hb dL_law_3156 (by decide) ?_
    refine lv_iload_n hx hb dL_law_18 rfl (lv_at hl 0 rfl) ?_
    refine lv_aload_n hx hb dL_law_19 rfl (lv_at hl 3 rfl) ?_
    refine va_slen hx hb hX hbl hbA hS dL_law_20 ?_
    refine lv_topi (fun v16 ev16 => ?_)
    obtain rfl : v16 = 6 := ev16.trans (by decide)
    refine lv_bipush (v := 6) hx hb dL_law_21 (by decide) ?_
    refine lv_isub hx hb dL_law_23 ?_
    refine lv_topi (fun v17 ev17 => ?_)
    obtain rfl : v17 = 0 := ev17.trans (by decide)
    refine lv_icmp_gt (tgt := 3159) hx hb dL_law_24 (by decide) (fun c18 => ?_) (fun c18 => ?_)
    · refine lv_iconst (v := 1) hx hb dL_law_3159 (by decide) ?_
      refine va_forget (fun q hq => by have := hS.2.2 q hq; rw [hAe] at this; exact this) ?_
      refine W.widen (k := 600000) (n := 7302250) (Nat.le_of_ble_eq_true rfl) (Nat.le_of_ble_eq_true rfl) ?_
      exact lw_ret hx hb hr hlocks dL_law_3160
    · have q19 := mm_leL (mm_nlt c18) mm_k6 mm_k0
      exact mm_no q19 (by decide)
  · have q20 := mm_neL (lo := (-1)) (mm_ne c15) mm_km2 mm_km2 (by decide) (by decide)
    exact mm_no q20 (by decide)

set_option maxHeartbeats 4000000 in
set_option maxRecDepth 100000 in
theorem lc_27 {p : Program} {e : Env} {s : State} {m : MethodId} {below : List Frame} {meth : Method} {c : Code} {b : Nat} {xs : Nat → Int32} {G : va_G} {cy : Nat → ClassId} {qx qm : Nat} {ux um : Nat → Nat} {H : Heap} {locs : List Loc} {ls : Array Slot} {A : Nat → Prop} (l : Launch) (hx : p.tables.exec = Jvm.exec) (hb : c.code = code) (hr : meth.sig.returnType = ret) (hlocks : meth.locks = false) (hml : c.maxLocals = 4) (hown : s.vm.findClass R_law = some m.cls) (hts : ∀ w ∈ lw_x :: wsL_law, w.before #[Value.ref b] s = true) (hX : va_X b 6 xs s s.heap) (hbl : b < s.heap.size) (hAe : A = fun q => s.heap.size ≤ q) (hK : mm_K G cy s) (hS : va_S A s.heap H locs) (hP : va_P G vwCl [(qx, .inr (11, [.ref (ux 0), .ref (ux 2), .ref (ux 14), .ref (ux 36), .ref (ux 70), .ref (ux 71), .ref (ux 80), .ref (ux 82), .ref (ux 84), .ref (ux 89), .ref (ux 92)])), ((ux 14), .inr (10, [.ref (ux 15), .ref (ux 26)])), ((ux 15), .inr (0, [.int 0, .int 0, .int 0, .int 0, .int 0, .int 0, .int 0, .int 0, .ref (ux 16), .ref (ux 17), .ref (ux 18), .ref (ux 19), .ref (ux 20), .ref (ux 21), .ref (ux 22), .ref (ux 23), .ref (ux 24), .ref (ux 25)])), (qm, .inr (12, [.int 0, .ref (um 0), .ref (um 1), .ref (um 2), .ref (um 3), .ref (um 4), .int 0, .int 0, .int 0, .int 0, .int 0, .long 0, .int 0, .int 0, .int 0, .int (-1), .ref (um 5), .ref (um 6), .ref (um 7), .ref (um 8), .ref (um 9), .ref (um 10), .ref (um 11), .ref (um 12), .ref (um 13), .ref (um 14), .ref (um 15), .ref (um 16), .ref (um 17), .int 0, .int 0, .int 0, .int 0, .int 0, .int 0, .ref (um 18), .int 0, .ref (um 19)])), ((um 6), .inl (cy 1, 30, .inl (fun _ => 0)))] H) (hD : va_D A [(qx, .inr (11, [.ref (ux 0), .ref (ux 2), .ref (ux 14), .ref (ux 36), .ref (ux 70), .ref (ux 71), .ref (ux 80), .ref (ux 82), .ref (ux 84), .ref (ux 89), .ref (ux 92)])), ((ux 14), .inr (10, [.ref (ux 15), .ref (ux 26)])), ((ux 15), .inr (0, [.int 0, .int 0, .int 0, .int 0, .int 0, .int 0, .int 0, .int 0, .ref (ux 16), .ref (ux 17), .ref (ux 18), .ref (ux 19), .ref (ux 20), .ref (ux 21), .ref (ux 22), .ref (ux 23), .ref (ux 24), .ref (ux 25)])), (qm, .inr (12, [.int 0, .ref (um 0), .ref (um 1), .ref (um 2), .ref (um 3), .ref (um 4), .int 0, .int 0, .int 0, .int 0, .int 0, .long 0, .int 0, .int 0, .int 0, .int (-1), .ref (um 5), .ref (um 6), .ref (um 7), .ref (um 8), .ref (um 9), .ref (um 10), .ref (um 11), .ref (um 12), .ref (um 13), .ref (um 14), .ref (um 15), .ref (um 16), .ref (um 17), .int 0, .int 0, .int 0, .int 0, .int 0, .int 0, .ref (um 18), .int 0, .ref (um 19)])), ((um 6), .inl (cy 1, 30, .inl (fun _ => 0)))]) (hl : lv_has ls 4 [(3, .int 0), (2, .ref qm), (1, .ref qx), (0, .ref b)]) : W p l e room_1 s m #[Value.ref b] below meth c H locs 116 20302 (lw_Z below #[Value.ref b] s) (F0 m 1367 ls []) := by
  have hA : ∀ q, s.heap.size ≤ q → A q := by rw [hAe]; exact fun _ h => h
  have hbA : ¬ A b := by rw [hAe]; exact Nat.not_le.mpr hbl
  have hRf : room_1.frames = 2048 := rfl
  have hRl : room_1.locals = 84000 := rfl
  have hRc : room_1.cells = 600000 := rfl
  have hRs : room_1.slots = 7302250 := rfl
  obtain ⟨p1, ep1⟩ : ∃ z : Int32, z = xs 1 := ⟨_, rfl⟩
  obtain ⟨p2, ep2⟩ : ∃ z : Int32, z = xs 2 := ⟨_, rfl⟩
  obtain ⟨p3, ep3⟩ : ∃ z : Int32, z = xs 3 := ⟨_, rfl⟩
  obtain ⟨p4, ep4⟩ : ∃ z : Int32, z = xs 4 := ⟨_, rfl⟩
  obtain ⟨p5, ep5⟩ : ∃ z : Int32, z = xs 5 := ⟨_, rfl⟩
  refine lv_aload_n hx hb dL_law_1367 rfl (lv_at hl 2 rfl) ?_
  refine lv_aload_n hx hb dL_law_1368 rfl (lv_at hl 3 rfl) ?_
  refine lv_iload_n hx hb dL_law_1369 rfl (lv_at hl 0 rfl) ?_
  refine lv_iconst (v := 1) hx hb dL_law_1370 (by decide) ?_
  refine lv_iadd hx hb dL_law_1371 ?_
  refine lv_topi (fun v1 ev1 => ?_)
  obtain rfl : v1 = 1 := ev1.trans (by decide)
  refine va_sld hx hb hX hbl hbA hS (mm_in mm_k1 (by decide)) dL_law_1372 ?_
  refine lv_topi (fun v2 ev2 => ?_)
  obtain rfl : p1 = v2 := ep1.trans ev2.symm
  refine lv_aload_n hx hb dL_law_1373 rfl (lv_at hl 3 rfl) ?_
  refine lv_iload_n hx hb dL_law_1374 rfl (lv_at hl 0 rfl) ?_
  refine lv_iconst (v := 2) hx hb dL_law_1375 (by decide) ?_
  refine lv_iadd hx hb dL_law_1376 ?_
  refine lv_topi (fun v3 ev3 => ?_)
  obtain rfl : v3 = 2 := ev3.trans (by decide)
  refine va_sld hx hb hX hbl hbA hS (mm_in mm_k2 (by decide)) dL_law_1377 ?_
  refine lv_topi (fun v4 ev4 => ?_)
  obtain rfl : p2 = v4 := ep2.trans ev4.symm
  refine mm_finir (va_runV (As := [.int p1, .int p2]) (rest := []) ⟨hx, hb, hml, hown, hts⟩ (K174_X11_run l G cy H.size qx p1 p2 (ux 0) (ux 2) (ux 14) (ux 36) (ux 70) (ux 71) (ux 80) (ux 82) (ux 84) (ux 89) (ux 92) (ux 15) (ux 26) 0 0 0 0 0 0 0 (ux 16) (ux 17) (ux 18) (ux 19) (ux 20) (ux 21) (ux 22) (ux 23) (ux 24) (ux 25) ) (cwV 2 hts (mm_gV mm_w1016 mm_w1017 mm_w1018 mm_w2 mm_w1019) rfl rfl rfl hd_X11_run ⟨by rw [hRf]; exact Nat.le_of_ble_eq_true rfl, by rw [hRl]; exact Nat.le_of_ble_eq_true rfl⟩) (mm_preV hK hP hD [0, 1, 2] rfl rfl 0 rfl rfl rfl) rfl rfl hl.1 rfl (lv_room (Nat.le_of_ble_eq_true rfl)) dL_law_1378 ⟨by rw [hRc]; exact Nat.le_of_ble_eq_true rfl, by rw [hRs]; exact Nat.le_of_ble_eq_true rfl⟩) hP hD hS hA [0, 1, 2] rfl (fun _ => rfl) ?_
  clear hP hD hS
  clear H locs
  intro v5 _u H locs hw hP hD hS
  subst hw
  refine lv_aload_n hx hb dL_law_1381 rfl (lv_at hl 1 rfl) ?_
  refine lv_aload_n hx hb dL_law_1382 rfl (lv_at hl 3 rfl) ?_
  refine lv_iload_n hx hb dL_law_1383 rfl (lv_at hl 0 rfl) ?_
  refine lv_iconst (v := 1) hx hb dL_law_1384 (by decide) ?_
  refine lv_iadd hx hb dL_law_1385 ?_
  refine lv_topi (fun v6 ev6 => ?_)
  obtain rfl : v6 = 1 := ev6.trans (by decide)
  refine va_sld hx hb hX hbl hbA hS (mm_in mm_k1 (by decide)) dL_law_1386 ?_
  refine lv_topi (fun v7 ev7 => ?_)
  obtain rfl : p1 = v7 := ep1.trans ev7.symm
  refine lv_aload_n hx hb dL_law_1387 rfl (lv_at hl 3 rfl) ?_
  refine lv_iload_n hx hb dL_law_1388 rfl (lv_at hl 0 rfl) ?_
  refine lv_iconst (v := 2) hx hb dL_law_1389 (by decide) ?_
  refine lv_iadd hx hb dL_law_1390 ?_
  refine lv_topi (fun v8 ev8 => ?_)
  obtain rfl : v8 = 2 := ev8.trans (by decide)
  refine va_sld hx hb hX hbl hbA hS (mm_in mm_k2 (by decide)) dL_law_1391 ?_
  refine lv_topi (fun v9 ev9 => ?_)
  obtain rfl : p2 = v9 := ep2.trans ev9.symm
  refine mm_finir (va_runV (As := [.int p1, .int p2]) (rest := [.int (-2)]) ⟨hx, hb, hml, hown, hts⟩ (K175_X12_run l G cy H.size qm p1 p2 (um 0) (um 1) (um 2) (um 3) (um 4) 0 0 0 0 0 0 0 0 0 (-1) (um 5) (um 6) (um 7) (um 8) (um 9) (um 10) (um 11) (um 12) (um 13) (um 14) (um 15) (um 16) (um 17) 0 0 0 0 0 0 (um 18) 0 (um 19) ) (cwV 2 hts (mm_gV mm_w1025 mm_w1026 mm_w1027 mm_w5 mm_w1028) rfl rfl rfl hd_X12_run ⟨by rw [hRf]; exact Nat.le_of_ble_eq_true rfl, by rw [hRl]; exact Nat.le_of_ble_eq_true rfl⟩) (mm_preV hK hP hD [3, 4] rfl rfl 3 rfl rfl rfl) rfl rfl hl.1 rfl (lv_room (Nat.le_of_ble_eq_true rfl)) dL_law_1392 ⟨by rw [hRc]; exact Nat.le_of_ble_eq_true rfl, by rw [hRs]; exact Nat.le_of_ble_eq_true rfl⟩) hP hD hS hA [3, 4] rfl (fun _ => rfl) ?_
  clear hP hD hS
  clear H locs
  intro v10 _u H locs hw hP hD hS
  subst hw
  refine lv_icmp_eq (tgt := 3153) hx hb dL_law_1395 (by decide) (fun c11 => ?_) (fun c11 => ?_)
  · refine lv_iinc (v := 6) (lv' := [(3, .int 6), (2, .ref qm), (1, .ref qx), (0, .ref b)]) hx hb dL_law_3153 hl (k := 0) rfl (by decide) (by decide) rfl ?_
    clear hl
    clear ls
    intro ls hl
    refine lv_goto (tgt := 18) hx hb dL_law_3156 (by decide) ?_
    refine lv_iload_n hx hb dL_law_18 rfl (lv_at hl 0 rfl) ?_
    refine lv_aload_n hx hb dL_law_19 rfl (lv_at hl 3 rfl) ?_
    refine va_slen hx hb hX hbl hbA hS dL_law_20 ?_
    refine lv_topi (fun v12 ev12 => ?_)
    obtain rfl : v12 = 6 := ev12.trans (by decide)
    refine lv_bipush (v := 6) hx hb dL_law_21 (by decide) ?_
    refine lv_isub hx hb dL_law_23 ?_
    refine lv_topi (fun v13 ev13 => ?_)
    obtain rfl : v13 = 0 := ev13.trans (by decide)
    refine lv_icmp_gt (tgt := 3159) hx hb dL_law_24 (by decide) (fun c14 => ?_) (fun c14 => ?_)
    · refine lv_iconst (v := 1) hx hb dL_law_3159 (by decide) ?_
      refine va_forget (fun q hq => by have := hS.2.2 q hq; rw [hAe] at this; exact this) ?_
      refine W.widen (k := 600000) (n := 7302250) (Nat.le_of_ble_eq_true rfl) (Nat.le_of_ble_eq_true rfl) ?_
      exact lw_ret hx hb hr hlocks dL_law_3160
    · have q15 := mm_leL (mm_nlt c14) mm_k6 mm_k0
      exact mm_no q15 (by decide)
  · have q16 := mm_neL (lo := (-1)) (mm_ne c11) mm_km2 mm_km2 (by decide) (by decide)
    exact mm_no q16 (by decide)

set_option maxHeartbeats 4000000 in
set_option maxRecDepth 100000 in
theorem lc_28 {p : Program} {e : Env} {s : State} {m : MethodId} {below : List Frame} {meth : Method} {c : Code} {b : Nat} {xs : Nat → Int32} {G : va_G} {cy : Nat → ClassId} {qx qm : Nat} {ux um : Nat → Nat} {H : Heap} {locs : List Loc} {ls : Array Slot} {A : Nat → Prop} (l : Launch) (hx : p.tables.exec = Jvm.exec) (hb : c.code = code) (hr : meth.sig.returnType = ret) (hlocks : meth.locks = false) (hml : c.maxLocals = 4) (hown : s.vm.findClass R_law = some m.cls) (hts : ∀ w ∈ lw_x :: wsL_law, w.before #[Value.ref b] s = true) (hX : va_X b 6 xs s s.heap) (hbl : b < s.heap.size) (hAe : A = fun q => s.heap.size ≤ q) (hK : mm_K G cy s) (hS : va_S A s.heap H locs) (hP : va_P G vwCl [(qx, .inr (11, [.ref (ux 0), .ref (ux 2), .ref (ux 14), .ref (ux 36), .ref (ux 70), .ref (ux 71), .ref (ux 80), .ref (ux 82), .ref (ux 84), .ref (ux 89), .ref (ux 92)])), ((ux 14), .inr (10, [.ref (ux 15), .ref (ux 26)])), ((ux 15), .inr (0, [.int 0, .int 0, .int 0, .int 0, .int 0, .int 0, .int 0, .int 0, .ref (ux 16), .ref (ux 17), .ref (ux 18), .ref (ux 19), .ref (ux 20), .ref (ux 21), .ref (ux 22), .ref (ux 23), .ref (ux 24), .ref (ux 25)])), (qm, .inr (12, [.int 0, .ref (um 0), .ref (um 1), .ref (um 2), .ref (um 3), .ref (um 4), .int 0, .int 0, .int 0, .int 0, .int 0, .long 0, .int 0, .int 0, .int 0, .int (-1), .ref (um 5), .ref (um 6), .ref (um 7), .ref (um 8), .ref (um 9), .ref (um 10), .ref (um 11), .ref (um 12), .ref (um 13), .ref (um 14), .ref (um 15), .ref (um 16), .ref (um 17), .int 0, .int 0, .int 0, .int 0, .int 0, .int 0, .ref (um 18), .int 0, .ref (um 19)])), ((um 6), .inl (cy 1, 30, .inl (fun _ => 0)))] H) (hD : va_D A [(qx, .inr (11, [.ref (ux 0), .ref (ux 2), .ref (ux 14), .ref (ux 36), .ref (ux 70), .ref (ux 71), .ref (ux 80), .ref (ux 82), .ref (ux 84), .ref (ux 89), .ref (ux 92)])), ((ux 14), .inr (10, [.ref (ux 15), .ref (ux 26)])), ((ux 15), .inr (0, [.int 0, .int 0, .int 0, .int 0, .int 0, .int 0, .int 0, .int 0, .ref (ux 16), .ref (ux 17), .ref (ux 18), .ref (ux 19), .ref (ux 20), .ref (ux 21), .ref (ux 22), .ref (ux 23), .ref (ux 24), .ref (ux 25)])), (qm, .inr (12, [.int 0, .ref (um 0), .ref (um 1), .ref (um 2), .ref (um 3), .ref (um 4), .int 0, .int 0, .int 0, .int 0, .int 0, .long 0, .int 0, .int 0, .int 0, .int (-1), .ref (um 5), .ref (um 6), .ref (um 7), .ref (um 8), .ref (um 9), .ref (um 10), .ref (um 11), .ref (um 12), .ref (um 13), .ref (um 14), .ref (um 15), .ref (um 16), .ref (um 17), .int 0, .int 0, .int 0, .int 0, .int 0, .int 0, .ref (um 18), .int 0, .ref (um 19)])), ((um 6), .inl (cy 1, 30, .inl (fun _ => 0)))]) (hl : lv_has ls 4 [(3, .int 0), (2, .ref qm), (1, .ref qx), (0, .ref b)]) : W p l e room_1 s m #[Value.ref b] below meth c H locs 116 20302 (lw_Z below #[Value.ref b] s) (F0 m 1400 ls []) := by
  have hA : ∀ q, s.heap.size ≤ q → A q := by rw [hAe]; exact fun _ h => h
  have hbA : ¬ A b := by rw [hAe]; exact Nat.not_le.mpr hbl
  have hRf : room_1.frames = 2048 := rfl
  have hRl : room_1.locals = 84000 := rfl
  have hRc : room_1.cells = 600000 := rfl
  have hRs : room_1.slots = 7302250 := rfl
  obtain ⟨p1, ep1⟩ : ∃ z : Int32, z = xs 1 := ⟨_, rfl⟩
  obtain ⟨p2, ep2⟩ : ∃ z : Int32, z = xs 2 := ⟨_, rfl⟩
  obtain ⟨p3, ep3⟩ : ∃ z : Int32, z = xs 3 := ⟨_, rfl⟩
  obtain ⟨p4, ep4⟩ : ∃ z : Int32, z = xs 4 := ⟨_, rfl⟩
  obtain ⟨p5, ep5⟩ : ∃ z : Int32, z = xs 5 := ⟨_, rfl⟩
  refine lv_aload_n hx hb dL_law_1400 rfl (lv_at hl 2 rfl) ?_
  refine lv_aload_n hx hb dL_law_1401 rfl (lv_at hl 3 rfl) ?_
  refine lv_iload_n hx hb dL_law_1402 rfl (lv_at hl 0 rfl) ?_
  refine lv_iconst (v := 1) hx hb dL_law_1403 (by decide) ?_
  refine lv_iadd hx hb dL_law_1404 ?_
  refine lv_topi (fun v1 ev1 => ?_)
  obtain rfl : v1 = 1 := ev1.trans (by decide)
  refine va_sld hx hb hX hbl hbA hS (mm_in mm_k1 (by decide)) dL_law_1405 ?_
  refine lv_topi (fun v2 ev2 => ?_)
  obtain rfl : p1 = v2 := ep1.trans ev2.symm
  refine lv_aload_n hx hb dL_law_1406 rfl (lv_at hl 3 rfl) ?_
  refine lv_iload_n hx hb dL_law_1407 rfl (lv_at hl 0 rfl) ?_
  refine lv_iconst (v := 2) hx hb dL_law_1408 (by decide) ?_
  refine lv_iadd hx hb dL_law_1409 ?_
  refine lv_topi (fun v3 ev3 => ?_)
  obtain rfl : v3 = 2 := ev3.trans (by decide)
  refine va_sld hx hb hX hbl hbA hS (mm_in mm_k2 (by decide)) dL_law_1410 ?_
  refine lv_topi (fun v4 ev4 => ?_)
  obtain rfl : p2 = v4 := ep2.trans ev4.symm
  refine lv_aload_n hx hb dL_law_1411 rfl (lv_at hl 3 rfl) ?_
  refine lv_iload_n hx hb dL_law_1412 rfl (lv_at hl 0 rfl) ?_
  refine lv_iconst (v := 3) hx hb dL_law_1413 (by decide) ?_
  refine lv_iadd hx hb dL_law_1414 ?_
  refine lv_topi (fun v5 ev5 => ?_)
  obtain rfl : v5 = 3 := ev5.trans (by decide)
  refine va_sld hx hb hX hbl hbA hS (mm_in mm_k3 (by decide)) dL_law_1415 ?_
  refine lv_topi (fun v6 ev6 => ?_)
  obtain rfl : p3 = v6 := ep3.trans ev6.symm
  refine mm_finir (va_runV (As := [.int p1, .int p2, .int p3]) (rest := []) ⟨hx, hb, hml, hown, hts⟩ (K176_X11_average l G cy H.size qx p1 p2 p3 (ux 0) (ux 2) (ux 14) (ux 36) (ux 70) (ux 71) (ux 80) (ux 82) (ux 84) (ux 89) (ux 92) (ux 15) (ux 26) 0 0 0 0 0 0 0 (ux 16) (ux 17) (ux 18) (ux 19) (ux 20) (ux 21) (ux 22) (ux 23) (ux 24) (ux 25) ) (cwV 3 hts (mm_gV mm_w1029 mm_w1030 mm_w1031 mm_w2 mm_w1032) rfl rfl rfl hd_X11_average ⟨by rw [hRf]; exact Nat.le_of_ble_eq_true rfl, by rw [hRl]; exact Nat.le_of_ble_eq_true rfl⟩) (mm_preV hK hP hD [0, 1, 2] rfl rfl 0 rfl rfl rfl) rfl rfl hl.1 rfl (lv_room (Nat.le_of_ble_eq_true rfl)) dL_law_1416 ⟨by rw [hRc]; exact Nat.le_of_ble_eq_true rfl, by rw [hRs]; exact Nat.le_of_ble_eq_true rfl⟩) hP hD hS hA [0, 1, 2] rfl (fun _ => rfl) ?_
  clear hP hD hS
  clear H locs
  intro v7 _u H locs hw hP hD hS
  subst hw
  refine lv_aload_n hx hb dL_law_1419 rfl (lv_at hl 1 rfl) ?_
  refine lv_aload_n hx hb dL_law_1420 rfl (lv_at hl 3 rfl) ?_
  refine lv_iload_n hx hb dL_law_1421 rfl (lv_at hl 0 rfl) ?_
  refine lv_iconst (v := 1) hx hb dL_law_1422 (by decide) ?_
  refine lv_iadd hx hb dL_law_1423 ?_
  refine lv_topi (fun v8 ev8 => ?_)
  obtain rfl : v8 = 1 := ev8.trans (by decide)
  refine va_sld hx hb hX hbl hbA hS (mm_in mm_k1 (by decide)) dL_law_1424 ?_
  refine lv_topi (fun v9 ev9 => ?_)
  obtain rfl : p1 = v9 := ep1.trans ev9.symm
  refine lv_aload_n hx hb dL_law_1425 rfl (lv_at hl 3 rfl) ?_
  refine lv_iload_n hx hb dL_law_1426 rfl (lv_at hl 0 rfl) ?_
  refine lv_iconst (v := 2) hx hb dL_law_1427 (by decide) ?_
  refine lv_iadd hx hb dL_law_1428 ?_
  refine lv_topi (fun v10 ev10 => ?_)
  obtain rfl : v10 = 2 := ev10.trans (by decide)
  refine va_sld hx hb hX hbl hbA hS (mm_in mm_k2 (by decide)) dL_law_1429 ?_
  refine lv_topi (fun v11 ev11 => ?_)
  obtain rfl : p2 = v11 := ep2.trans ev11.symm
  refine lv_aload_n hx hb dL_law_1430 rfl (lv_at hl 3 rfl) ?_
  refine lv_iload_n hx hb dL_law_1431 rfl (lv_at hl 0 rfl) ?_
  refine lv_iconst (v := 3) hx hb dL_law_1432 (by decide) ?_
  refine lv_iadd hx hb dL_law_1433 ?_
  refine lv_topi (fun v12 ev12 => ?_)
  obtain rfl : v12 = 3 := ev12.trans (by decide)
  refine va_sld hx hb hX hbl hbA hS (mm_in mm_k3 (by decide)) dL_law_1434 ?_
  refine lv_topi (fun v13 ev13 => ?_)
  obtain rfl : p3 = v13 := ep3.trans ev13.symm
  refine mm_finir (va_runV (As := [.int p1, .int p2, .int p3]) (rest := [.int (-2)]) ⟨hx, hb, hml, hown, hts⟩ (K177_X12_average l G cy H.size qm p1 p2 p3 (um 0) (um 1) (um 2) (um 3) (um 4) 0 0 0 0 0 0 0 0 0 (-1) (um 5) (um 6) (um 7) (um 8) (um 9) (um 10) (um 11) (um 12) (um 13) (um 14) (um 15) (um 16) (um 17) 0 0 0 0 0 0 (um 18) 0 (um 19) ) (cwV 3 hts (mm_gV mm_w1036 mm_w1037 mm_w1038 mm_w5 mm_w1039) rfl rfl rfl hd_X12_average ⟨by rw [hRf]; exact Nat.le_of_ble_eq_true rfl, by rw [hRl]; exact Nat.le_of_ble_eq_true rfl⟩) (mm_preV hK hP hD [3, 4] rfl rfl 3 rfl rfl rfl) rfl rfl hl.1 rfl (lv_room (Nat.le_of_ble_eq_true rfl)) dL_law_1435 ⟨by rw [hRc]; exact Nat.le_of_ble_eq_true rfl, by rw [hRs]; exact Nat.le_of_ble_eq_true rfl⟩) hP hD hS hA [3, 4] rfl (fun _ => rfl) ?_
  clear hP hD hS
  clear H locs
  intro v14 _u H locs hw hP hD hS
  subst hw
  refine lv_icmp_eq (tgt := 3153) hx hb dL_law_1438 (by decide) (fun c15 => ?_) (fun c15 => ?_)
  · refine lv_iinc (v := 6) (lv' := [(3, .int 6), (2, .ref qm), (1, .ref qx), (0, .ref b)]) hx hb dL_law_3153 hl (k := 0) rfl (by decide) (by decide) rfl ?_
    clear hl
    clear ls
    intro ls hl
    refine lv_goto (tgt := 18) hx hb dL_law_3156 (by decide) ?_
    refine lv_iload_n hx hb dL_law_18 rfl (lv_at hl 0 rfl) ?_
    refine lv_aload_n hx hb dL_law_19 rfl (lv_at hl 3 rfl) ?_
    refine va_slen hx hb hX hbl hbA hS dL_law_20 ?_
    refine lv_topi (fun v16 ev16 => ?_)
    obtain rfl : v16 = 6 := ev16.trans (by decide)
    refine lv_bipush (v := 6) hx hb dL_law_21 (by decide) ?_
    refine lv_isub hx hb dL_law_23 ?_
    refine lv_topi (fun v17 ev17 => ?_)
    obtain rfl : v17 = 0 := ev17.trans (by decide)
    refine lv_icmp_gt (tgt := 3159) hx hb dL_law_24 (by decide) (fun c18 => ?_) (fun c18 => ?_)
    · refine lv_iconst (v := 1) hx hb dL_law_3159 (by decide) ?_
      refine va_forget (fun q hq => by have := hS.2.2 q hq; rw [hAe] at this; exact this) ?_
      refine W.widen (k := 600000) (n := 7302250) (Nat.le_of_ble_eq_true rfl) (Nat.le_of_ble_eq_true rfl) ?_
      exact lw_ret hx hb hr hlocks dL_law_3160
    · have q19 := mm_leL (mm_nlt c18) mm_k6 mm_k0
      exact mm_no q19 (by decide)
  · have q20 := mm_neL (lo := (-1)) (mm_ne c15) mm_km2 mm_km2 (by decide) (by decide)
    exact mm_no q20 (by decide)

