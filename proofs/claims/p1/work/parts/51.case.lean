theorem mm_km100000 : mm_rg (-100000) (-100000) (-100000) := ⟨by decide, by decide⟩
theorem mm_klm2 : mm_rl (-2) (-2) (-2) := ⟨by decide, by decide⟩
theorem hd_X11_alike : yX11_alike.cls = RX11 ∧ yX11_alike.cls ≠ "java/lang/invoke/MethodHandle" ∧ yX11_alike.cls ≠ "java/lang/invoke/VarHandle" ∧ (parseMethodDescriptor yX11_alike.desc).map (fun d => d.parameters.length) = some 3 := by decide +kernel
theorem hd_X11_all : yX11_all.cls = RX11 ∧ yX11_all.cls ≠ "java/lang/invoke/MethodHandle" ∧ yX11_all.cls ≠ "java/lang/invoke/VarHandle" ∧ (parseMethodDescriptor yX11_all.desc).map (fun d => d.parameters.length) = some 2 := by decide +kernel
theorem hd_X11_ask : yX11_ask.cls = RX11 ∧ yX11_ask.cls ≠ "java/lang/invoke/MethodHandle" ∧ yX11_ask.cls ≠ "java/lang/invoke/VarHandle" ∧ (parseMethodDescriptor yX11_ask.desc).map (fun d => d.parameters.length) = some 2 := by decide +kernel
theorem hd_X11_better : yX11_better.cls = RX11 ∧ yX11_better.cls ≠ "java/lang/invoke/MethodHandle" ∧ yX11_better.cls ≠ "java/lang/invoke/VarHandle" ∧ (parseMethodDescriptor yX11_better.desc).map (fun d => d.parameters.length) = some 3 := by decide +kernel
theorem hd_X11_carried : yX11_carried.cls = RX11 ∧ yX11_carried.cls ≠ "java/lang/invoke/MethodHandle" ∧ yX11_carried.cls ≠ "java/lang/invoke/VarHandle" ∧ (parseMethodDescriptor yX11_carried.desc).map (fun d => d.parameters.length) = some 5 := by decide +kernel
theorem hd_X11_carry : yX11_carry.cls = RX11 ∧ yX11_carry.cls ≠ "java/lang/invoke/MethodHandle" ∧ yX11_carry.cls ≠ "java/lang/invoke/VarHandle" ∧ (parseMethodDescriptor yX11_carry.desc).map (fun d => d.parameters.length) = some 5 := by decide +kernel
theorem hd_X11_chance : yX11_chance.cls = RX11 ∧ yX11_chance.cls ≠ "java/lang/invoke/MethodHandle" ∧ yX11_chance.cls ≠ "java/lang/invoke/VarHandle" ∧ (parseMethodDescriptor yX11_chance.desc).map (fun d => d.parameters.length) = some 5 := by decide +kernel
theorem hd_X11_cycle : yX11_cycle.cls = RX11 ∧ yX11_cycle.cls ≠ "java/lang/invoke/MethodHandle" ∧ yX11_cycle.cls ≠ "java/lang/invoke/VarHandle" ∧ (parseMethodDescriptor yX11_cycle.desc).map (fun d => d.parameters.length) = some 2 := by decide +kernel
theorem hd_X11_date : yX11_date.cls = RX11 ∧ yX11_date.cls ≠ "java/lang/invoke/MethodHandle" ∧ yX11_date.cls ≠ "java/lang/invoke/VarHandle" ∧ (parseMethodDescriptor yX11_date.desc).map (fun d => d.parameters.length) = some 3 := by decide +kernel
theorem hd_X11_differ : yX11_differ.cls = RX11 ∧ yX11_differ.cls ≠ "java/lang/invoke/MethodHandle" ∧ yX11_differ.cls ≠ "java/lang/invoke/VarHandle" ∧ (parseMethodDescriptor yX11_differ.desc).map (fun d => d.parameters.length) = some 2 := by decide +kernel
theorem hd_X11_differs : yX11_differs.cls = RX11 ∧ yX11_differs.cls ≠ "java/lang/invoke/MethodHandle" ∧ yX11_differs.cls ≠ "java/lang/invoke/VarHandle" ∧ (parseMethodDescriptor yX11_differs.desc).map (fun d => d.parameters.length) = some 2 := by decide +kernel
theorem hd_X11_even : yX11_even.cls = RX11 ∧ yX11_even.cls ≠ "java/lang/invoke/MethodHandle" ∧ yX11_even.cls ≠ "java/lang/invoke/VarHandle" ∧ (parseMethodDescriptor yX11_even.desc).map (fun d => d.parameters.length) = some 2 := by decide +kernel
theorem hd_X11_fixed : yX11_fixed.cls = RX11 ∧ yX11_fixed.cls ≠ "java/lang/invoke/MethodHandle" ∧ yX11_fixed.cls ≠ "java/lang/invoke/VarHandle" ∧ (parseMethodDescriptor yX11_fixed.desc).map (fun d => d.parameters.length) = some 1 := by decide +kernel
theorem hd_X11_greedy : yX11_greedy.cls = RX11 ∧ yX11_greedy.cls ≠ "java/lang/invoke/MethodHandle" ∧ yX11_greedy.cls ≠ "java/lang/invoke/VarHandle" ∧ (parseMethodDescriptor yX11_greedy.desc).map (fun d => d.parameters.length) = some 2 := by decide +kernel
theorem hd_X11_heirs : yX11_heirs.cls = RX11 ∧ yX11_heirs.cls ≠ "java/lang/invoke/MethodHandle" ∧ yX11_heirs.cls ≠ "java/lang/invoke/VarHandle" ∧ (parseMethodDescriptor yX11_heirs.desc).map (fun d => d.parameters.length) = some 2 := by decide +kernel
theorem hd_X11_kinds : yX11_kinds.cls = RX11 ∧ yX11_kinds.cls ≠ "java/lang/invoke/MethodHandle" ∧ yX11_kinds.cls ≠ "java/lang/invoke/VarHandle" ∧ (parseMethodDescriptor yX11_kinds.desc).map (fun d => d.parameters.length) = some 3 := by decide +kernel
theorem hd_X11_lands : yX11_lands.cls = RX11 ∧ yX11_lands.cls ≠ "java/lang/invoke/MethodHandle" ∧ yX11_lands.cls ≠ "java/lang/invoke/VarHandle" ∧ (parseMethodDescriptor yX11_lands.desc).map (fun d => d.parameters.length) = some 2 := by decide +kernel
theorem hd_X11_leaves : yX11_leaves.cls = RX11 ∧ yX11_leaves.cls ≠ "java/lang/invoke/MethodHandle" ∧ yX11_leaves.cls ≠ "java/lang/invoke/VarHandle" ∧ (parseMethodDescriptor yX11_leaves.desc).map (fun d => d.parameters.length) = some 2 := by decide +kernel
theorem hd_X11_like : yX11_like.cls = RX11 ∧ yX11_like.cls ≠ "java/lang/invoke/MethodHandle" ∧ yX11_like.cls ≠ "java/lang/invoke/VarHandle" ∧ (parseMethodDescriptor yX11_like.desc).map (fun d => d.parameters.length) = some 3 := by decide +kernel
theorem hd_X11_lost : yX11_lost.cls = RX11 ∧ yX11_lost.cls ≠ "java/lang/invoke/MethodHandle" ∧ yX11_lost.cls ≠ "java/lang/invoke/VarHandle" ∧ (parseMethodDescriptor yX11_lost.desc).map (fun d => d.parameters.length) = some 3 := by decide +kernel
theorem hd_X11_mean : yX11_mean.cls = RX11 ∧ yX11_mean.cls ≠ "java/lang/invoke/MethodHandle" ∧ yX11_mean.cls ≠ "java/lang/invoke/VarHandle" ∧ (parseMethodDescriptor yX11_mean.desc).map (fun d => d.parameters.length) = some 5 := by decide +kernel
theorem hd_X11_order : yX11_order.cls = RX11 ∧ yX11_order.cls ≠ "java/lang/invoke/MethodHandle" ∧ yX11_order.cls ≠ "java/lang/invoke/VarHandle" ∧ (parseMethodDescriptor yX11_order.desc).map (fun d => d.parameters.length) = some 1 := by decide +kernel
theorem hd_X11_otherwise : yX11_otherwise.cls = RX11 ∧ yX11_otherwise.cls ≠ "java/lang/invoke/MethodHandle" ∧ yX11_otherwise.cls ≠ "java/lang/invoke/VarHandle" ∧ (parseMethodDescriptor yX11_otherwise.desc).map (fun d => d.parameters.length) = some 3 := by decide +kernel
theorem hd_X11_richest : yX11_richest.cls = RX11 ∧ yX11_richest.cls ≠ "java/lang/invoke/MethodHandle" ∧ yX11_richest.cls ≠ "java/lang/invoke/VarHandle" ∧ (parseMethodDescriptor yX11_richest.desc).map (fun d => d.parameters.length) = some 2 := by decide +kernel
theorem hd_X11_stock : yX11_stock.cls = RX11 ∧ yX11_stock.cls ≠ "java/lang/invoke/MethodHandle" ∧ yX11_stock.cls ≠ "java/lang/invoke/VarHandle" ∧ (parseMethodDescriptor yX11_stock.desc).map (fun d => d.parameters.length) = some 1 := by decide +kernel
theorem hd_X11_swaps : yX11_swaps.cls = RX11 ∧ yX11_swaps.cls ≠ "java/lang/invoke/MethodHandle" ∧ yX11_swaps.cls ≠ "java/lang/invoke/VarHandle" ∧ (parseMethodDescriptor yX11_swaps.desc).map (fun d => d.parameters.length) = some 3 := by decide +kernel
theorem hd_X11_takes : yX11_takes.cls = RX11 ∧ yX11_takes.cls ≠ "java/lang/invoke/MethodHandle" ∧ yX11_takes.cls ≠ "java/lang/invoke/VarHandle" ∧ (parseMethodDescriptor yX11_takes.desc).map (fun d => d.parameters.length) = some 2 := by decide +kernel
theorem hd_X11_torn : yX11_torn.cls = RX11 ∧ yX11_torn.cls ≠ "java/lang/invoke/MethodHandle" ∧ yX11_torn.cls ≠ "java/lang/invoke/VarHandle" ∧ (parseMethodDescriptor yX11_torn.desc).map (fun d => d.parameters.length) = some 2 := by decide +kernel
theorem hd_X11_turned : yX11_turned.cls = RX11 ∧ yX11_turned.cls ≠ "java/lang/invoke/MethodHandle" ∧ yX11_turned.cls ≠ "java/lang/invoke/VarHandle" ∧ (parseMethodDescriptor yX11_turned.desc).map (fun d => d.parameters.length) = some 3 := by decide +kernel
theorem hd_X11_undo : yX11_undo.cls = RX11 ∧ yX11_undo.cls ≠ "java/lang/invoke/MethodHandle" ∧ yX11_undo.cls ≠ "java/lang/invoke/VarHandle" ∧ (parseMethodDescriptor yX11_undo.desc).map (fun d => d.parameters.length) = some 0 := by decide +kernel
theorem hd_X11_worded : yX11_worded.cls = RX11 ∧ yX11_worded.cls ≠ "java/lang/invoke/MethodHandle" ∧ yX11_worded.cls ≠ "java/lang/invoke/VarHandle" ∧ (parseMethodDescriptor yX11_worded.desc).map (fun d => d.parameters.length) = some 5 := by decide +kernel
theorem hd_X11_wording : yX11_wording.cls = RX11 ∧ yX11_wording.cls ≠ "java/lang/invoke/MethodHandle" ∧ yX11_wording.cls ≠ "java/lang/invoke/VarHandle" ∧ (parseMethodDescriptor yX11_wording.desc).map (fun d => d.parameters.length) = some 4 := by decide +kernel
theorem hd_X11_wordings : yX11_wordings.cls = RX11 ∧ yX11_wordings.cls ≠ "java/lang/invoke/MethodHandle" ∧ yX11_wordings.cls ≠ "java/lang/invoke/VarHandle" ∧ (parseMethodDescriptor yX11_wordings.desc).map (fun d => d.parameters.length) = some 4 := by decide +kernel
theorem hd_X12_alike : yX12_alike.cls = RX12 ∧ yX12_alike.cls ≠ "java/lang/invoke/MethodHandle" ∧ yX12_alike.cls ≠ "java/lang/invoke/VarHandle" ∧ (parseMethodDescriptor yX12_alike.desc).map (fun d => d.parameters.length) = some 3 := by decide +kernel
theorem hd_X12_all : yX12_all.cls = RX12 ∧ yX12_all.cls ≠ "java/lang/invoke/MethodHandle" ∧ yX12_all.cls ≠ "java/lang/invoke/VarHandle" ∧ (parseMethodDescriptor yX12_all.desc).map (fun d => d.parameters.length) = some 2 := by decide +kernel
theorem hd_X12_ask : yX12_ask.cls = RX12 ∧ yX12_ask.cls ≠ "java/lang/invoke/MethodHandle" ∧ yX12_ask.cls ≠ "java/lang/invoke/VarHandle" ∧ (parseMethodDescriptor yX12_ask.desc).map (fun d => d.parameters.length) = some 2 := by decide +kernel
theorem hd_X12_better : yX12_better.cls = RX12 ∧ yX12_better.cls ≠ "java/lang/invoke/MethodHandle" ∧ yX12_better.cls ≠ "java/lang/invoke/VarHandle" ∧ (parseMethodDescriptor yX12_better.desc).map (fun d => d.parameters.length) = some 3 := by decide +kernel
theorem hd_X12_carried : yX12_carried.cls = RX12 ∧ yX12_carried.cls ≠ "java/lang/invoke/MethodHandle" ∧ yX12_carried.cls ≠ "java/lang/invoke/VarHandle" ∧ (parseMethodDescriptor yX12_carried.desc).map (fun d => d.parameters.length) = some 5 := by decide +kernel
theorem hd_X12_carry : yX12_carry.cls = RX12 ∧ yX12_carry.cls ≠ "java/lang/invoke/MethodHandle" ∧ yX12_carry.cls ≠ "java/lang/invoke/VarHandle" ∧ (parseMethodDescriptor yX12_carry.desc).map (fun d => d.parameters.length) = some 5 := by decide +kernel
theorem hd_X12_chance : yX12_chance.cls = RX12 ∧ yX12_chance.cls ≠ "java/lang/invoke/MethodHandle" ∧ yX12_chance.cls ≠ "java/lang/invoke/VarHandle" ∧ (parseMethodDescriptor yX12_chance.desc).map (fun d => d.parameters.length) = some 5 := by decide +kernel
theorem hd_X12_cycle : yX12_cycle.cls = RX12 ∧ yX12_cycle.cls ≠ "java/lang/invoke/MethodHandle" ∧ yX12_cycle.cls ≠ "java/lang/invoke/VarHandle" ∧ (parseMethodDescriptor yX12_cycle.desc).map (fun d => d.parameters.length) = some 2 := by decide +kernel
theorem hd_X12_date : yX12_date.cls = RX12 ∧ yX12_date.cls ≠ "java/lang/invoke/MethodHandle" ∧ yX12_date.cls ≠ "java/lang/invoke/VarHandle" ∧ (parseMethodDescriptor yX12_date.desc).map (fun d => d.parameters.length) = some 3 := by decide +kernel
theorem hd_X12_differ : yX12_differ.cls = RX12 ∧ yX12_differ.cls ≠ "java/lang/invoke/MethodHandle" ∧ yX12_differ.cls ≠ "java/lang/invoke/VarHandle" ∧ (parseMethodDescriptor yX12_differ.desc).map (fun d => d.parameters.length) = some 2 := by decide +kernel
theorem hd_X12_differs : yX12_differs.cls = RX12 ∧ yX12_differs.cls ≠ "java/lang/invoke/MethodHandle" ∧ yX12_differs.cls ≠ "java/lang/invoke/VarHandle" ∧ (parseMethodDescriptor yX12_differs.desc).map (fun d => d.parameters.length) = some 2 := by decide +kernel
theorem hd_X12_even : yX12_even.cls = RX12 ∧ yX12_even.cls ≠ "java/lang/invoke/MethodHandle" ∧ yX12_even.cls ≠ "java/lang/invoke/VarHandle" ∧ (parseMethodDescriptor yX12_even.desc).map (fun d => d.parameters.length) = some 2 := by decide +kernel
theorem hd_X12_fixed : yX12_fixed.cls = RX12 ∧ yX12_fixed.cls ≠ "java/lang/invoke/MethodHandle" ∧ yX12_fixed.cls ≠ "java/lang/invoke/VarHandle" ∧ (parseMethodDescriptor yX12_fixed.desc).map (fun d => d.parameters.length) = some 1 := by decide +kernel
theorem hd_X12_greedy : yX12_greedy.cls = RX12 ∧ yX12_greedy.cls ≠ "java/lang/invoke/MethodHandle" ∧ yX12_greedy.cls ≠ "java/lang/invoke/VarHandle" ∧ (parseMethodDescriptor yX12_greedy.desc).map (fun d => d.parameters.length) = some 2 := by decide +kernel
theorem hd_X12_heirs : yX12_heirs.cls = RX12 ∧ yX12_heirs.cls ≠ "java/lang/invoke/MethodHandle" ∧ yX12_heirs.cls ≠ "java/lang/invoke/VarHandle" ∧ (parseMethodDescriptor yX12_heirs.desc).map (fun d => d.parameters.length) = some 2 := by decide +kernel
theorem hd_X12_kinds : yX12_kinds.cls = RX12 ∧ yX12_kinds.cls ≠ "java/lang/invoke/MethodHandle" ∧ yX12_kinds.cls ≠ "java/lang/invoke/VarHandle" ∧ (parseMethodDescriptor yX12_kinds.desc).map (fun d => d.parameters.length) = some 3 := by decide +kernel
theorem hd_X12_lands : yX12_lands.cls = RX12 ∧ yX12_lands.cls ≠ "java/lang/invoke/MethodHandle" ∧ yX12_lands.cls ≠ "java/lang/invoke/VarHandle" ∧ (parseMethodDescriptor yX12_lands.desc).map (fun d => d.parameters.length) = some 2 := by decide +kernel
theorem hd_X12_leaves : yX12_leaves.cls = RX12 ∧ yX12_leaves.cls ≠ "java/lang/invoke/MethodHandle" ∧ yX12_leaves.cls ≠ "java/lang/invoke/VarHandle" ∧ (parseMethodDescriptor yX12_leaves.desc).map (fun d => d.parameters.length) = some 2 := by decide +kernel
theorem hd_X12_like : yX12_like.cls = RX12 ∧ yX12_like.cls ≠ "java/lang/invoke/MethodHandle" ∧ yX12_like.cls ≠ "java/lang/invoke/VarHandle" ∧ (parseMethodDescriptor yX12_like.desc).map (fun d => d.parameters.length) = some 3 := by decide +kernel
theorem hd_X12_lost : yX12_lost.cls = RX12 ∧ yX12_lost.cls ≠ "java/lang/invoke/MethodHandle" ∧ yX12_lost.cls ≠ "java/lang/invoke/VarHandle" ∧ (parseMethodDescriptor yX12_lost.desc).map (fun d => d.parameters.length) = some 3 := by decide +kernel
theorem hd_X12_mean : yX12_mean.cls = RX12 ∧ yX12_mean.cls ≠ "java/lang/invoke/MethodHandle" ∧ yX12_mean.cls ≠ "java/lang/invoke/VarHandle" ∧ (parseMethodDescriptor yX12_mean.desc).map (fun d => d.parameters.length) = some 5 := by decide +kernel
theorem hd_X12_order : yX12_order.cls = RX12 ∧ yX12_order.cls ≠ "java/lang/invoke/MethodHandle" ∧ yX12_order.cls ≠ "java/lang/invoke/VarHandle" ∧ (parseMethodDescriptor yX12_order.desc).map (fun d => d.parameters.length) = some 1 := by decide +kernel
theorem hd_X12_otherwise : yX12_otherwise.cls = RX12 ∧ yX12_otherwise.cls ≠ "java/lang/invoke/MethodHandle" ∧ yX12_otherwise.cls ≠ "java/lang/invoke/VarHandle" ∧ (parseMethodDescriptor yX12_otherwise.desc).map (fun d => d.parameters.length) = some 3 := by decide +kernel
theorem hd_X12_richest : yX12_richest.cls = RX12 ∧ yX12_richest.cls ≠ "java/lang/invoke/MethodHandle" ∧ yX12_richest.cls ≠ "java/lang/invoke/VarHandle" ∧ (parseMethodDescriptor yX12_richest.desc).map (fun d => d.parameters.length) = some 2 := by decide +kernel
theorem hd_X12_stock : yX12_stock.cls = RX12 ∧ yX12_stock.cls ≠ "java/lang/invoke/MethodHandle" ∧ yX12_stock.cls ≠ "java/lang/invoke/VarHandle" ∧ (parseMethodDescriptor yX12_stock.desc).map (fun d => d.parameters.length) = some 1 := by decide +kernel
theorem hd_X12_swaps : yX12_swaps.cls = RX12 ∧ yX12_swaps.cls ≠ "java/lang/invoke/MethodHandle" ∧ yX12_swaps.cls ≠ "java/lang/invoke/VarHandle" ∧ (parseMethodDescriptor yX12_swaps.desc).map (fun d => d.parameters.length) = some 3 := by decide +kernel
theorem hd_X12_takes_ : yX12_takes_.cls = RX12 ∧ yX12_takes_.cls ≠ "java/lang/invoke/MethodHandle" ∧ yX12_takes_.cls ≠ "java/lang/invoke/VarHandle" ∧ (parseMethodDescriptor yX12_takes_.desc).map (fun d => d.parameters.length) = some 2 := by decide +kernel
theorem hd_X12_torn : yX12_torn.cls = RX12 ∧ yX12_torn.cls ≠ "java/lang/invoke/MethodHandle" ∧ yX12_torn.cls ≠ "java/lang/invoke/VarHandle" ∧ (parseMethodDescriptor yX12_torn.desc).map (fun d => d.parameters.length) = some 2 := by decide +kernel
theorem hd_X12_turned : yX12_turned.cls = RX12 ∧ yX12_turned.cls ≠ "java/lang/invoke/MethodHandle" ∧ yX12_turned.cls ≠ "java/lang/invoke/VarHandle" ∧ (parseMethodDescriptor yX12_turned.desc).map (fun d => d.parameters.length) = some 3 := by decide +kernel
theorem hd_X12_undo : yX12_undo.cls = RX12 ∧ yX12_undo.cls ≠ "java/lang/invoke/MethodHandle" ∧ yX12_undo.cls ≠ "java/lang/invoke/VarHandle" ∧ (parseMethodDescriptor yX12_undo.desc).map (fun d => d.parameters.length) = some 0 := by decide +kernel
theorem hd_X12_worded : yX12_worded.cls = RX12 ∧ yX12_worded.cls ≠ "java/lang/invoke/MethodHandle" ∧ yX12_worded.cls ≠ "java/lang/invoke/VarHandle" ∧ (parseMethodDescriptor yX12_worded.desc).map (fun d => d.parameters.length) = some 5 := by decide +kernel
theorem hd_X12_wording : yX12_wording.cls = RX12 ∧ yX12_wording.cls ≠ "java/lang/invoke/MethodHandle" ∧ yX12_wording.cls ≠ "java/lang/invoke/VarHandle" ∧ (parseMethodDescriptor yX12_wording.desc).map (fun d => d.parameters.length) = some 4 := by decide +kernel
theorem hd_X12_wordings : yX12_wordings.cls = RX12 ∧ yX12_wordings.cls ≠ "java/lang/invoke/MethodHandle" ∧ yX12_wordings.cls ≠ "java/lang/invoke/VarHandle" ∧ (parseMethodDescriptor yX12_wordings.desc).map (fun d => d.parameters.length) = some 4 := by decide +kernel
set_option maxHeartbeats 4000000 in
set_option maxRecDepth 100000 in
theorem lc_29 {p : Program} {e : Env} {s : State} {m : MethodId} {below : List Frame} {meth : Method} {c : Code} {b : Nat} {xs : Nat → Int32} {G : va_G} {cy : Nat → ClassId} {qx qm : Nat} {ux um : Nat → Nat} {H : Heap} {locs : List Loc} {ls : Array Slot} {A : Nat → Prop} (l : Launch) (hx : p.tables.exec = Jvm.exec) (hb : c.code = code) (hr : meth.sig.returnType = ret) (hlocks : meth.locks = false) (hml : c.maxLocals = 4) (hown : s.vm.findClass R_law = some m.cls) (hts : ∀ w ∈ lw_x :: wsL_law, w.before #[Value.ref b] s = true) (hX : va_X b 6 xs s s.heap) (hbl : b < s.heap.size) (hAe : A = fun q => s.heap.size ≤ q) (hK : mm_K G cy s) (hS : va_S A s.heap H locs) (hP : va_P G vwCl [(qx, .inr (11, [.ref (ux 0), .ref (ux 2), .ref (ux 14), .ref (ux 36), .ref (ux 70), .ref (ux 71), .ref (ux 80), .ref (ux 82), .ref (ux 84), .ref (ux 89), .ref (ux 92)])), ((ux 14), .inr (10, [.ref (ux 15), .ref (ux 26)])), ((ux 15), .inr (0, [.int 0, .int 0, .int 0, .int 0, .int 0, .int 0, .int 0, .int 0, .ref (ux 16), .ref (ux 17), .ref (ux 18), .ref (ux 19), .ref (ux 20), .ref (ux 21), .ref (ux 22), .ref (ux 23), .ref (ux 24), .ref (ux 25)])), (qm, .inr (12, [.int 0, .ref (um 0), .ref (um 1), .ref (um 2), .ref (um 3), .ref (um 4), .int 0, .int 0, .int 0, .int 0, .int 0, .long 0, .int 0, .int 0, .int 0, .int (-1), .ref (um 5), .ref (um 6), .ref (um 7), .ref (um 8), .ref (um 9), .ref (um 10), .ref (um 11), .ref (um 12), .ref (um 13), .ref (um 14), .ref (um 15), .ref (um 16), .ref (um 17), .int 0, .int 0, .int 0, .int 0, .int 0, .int 0, .ref (um 18), .int 0, .ref (um 19)])), ((um 6), .inl (cy 1, 30, .inl (fun _ => 0)))] H) (hD : va_D A [(qx, .inr (11, [.ref (ux 0), .ref (ux 2), .ref (ux 14), .ref (ux 36), .ref (ux 70), .ref (ux 71), .ref (ux 80), .ref (ux 82), .ref (ux 84), .ref (ux 89), .ref (ux 92)])), ((ux 14), .inr (10, [.ref (ux 15), .ref (ux 26)])), ((ux 15), .inr (0, [.int 0, .int 0, .int 0, .int 0, .int 0, .int 0, .int 0, .int 0, .ref (ux 16), .ref (ux 17), .ref (ux 18), .ref (ux 19), .ref (ux 20), .ref (ux 21), .ref (ux 22), .ref (ux 23), .ref (ux 24), .ref (ux 25)])), (qm, .inr (12, [.int 0, .ref (um 0), .ref (um 1), .ref (um 2), .ref (um 3), .ref (um 4), .int 0, .int 0, .int 0, .int 0, .int 0, .long 0, .int 0, .int 0, .int 0, .int (-1), .ref (um 5), .ref (um 6), .ref (um 7), .ref (um 8), .ref (um 9), .ref (um 10), .ref (um 11), .ref (um 12), .ref (um 13), .ref (um 14), .ref (um 15), .ref (um 16), .ref (um 17), .int 0, .int 0, .int 0, .int 0, .int 0, .int 0, .ref (um 18), .int 0, .ref (um 19)])), ((um 6), .inl (cy 1, 30, .inl (fun _ => 0)))]) (hl : lv_has ls 4 [(3, .int 0), (2, .ref qm), (1, .ref qx), (0, .ref b)]) : W p l e room_1 s m #[Value.ref b] below meth c H locs 116 20302 (lw_Z below #[Value.ref b] s) (F0 m 1443 ls []) := by
  have hA : ∀ q, s.heap.size ≤ q → A q := by rw [hAe]; exact fun _ h => h
  have hbA : ¬ A b := by rw [hAe]; exact Nat.not_le.mpr hbl
  have hRf : room_1.frames = 2048 := rfl
  have hRl : room_1.locals = 84000 := rfl
  have hRc : room_1.cells = 600000 := rfl
  have hRs : room_1.slots = 7302250 := rfl
  obtain ⟨p1, ep1⟩ : ∃ z : Int32, z = xs 1 := ⟨_, rfl⟩
  obtain ⟨p2, ep2⟩ : ∃ z : Int32, z = xs 2 := ⟨_, rfl⟩
  obtain ⟨p3, ep3⟩ : ∃ z : Int32, z = xs 3 := ⟨_, rfl⟩
  obtain ⟨p4, ep4⟩ : ∃ z : Int32, z = xs 4 := ⟨_, rfl⟩
  obtain ⟨p5, ep5⟩ : ∃ z : Int32, z = xs 5 := ⟨_, rfl⟩
  refine lv_aload_n hx hb dL_law_1443 rfl (lv_at hl 2 rfl) ?_
  refine lv_aload_n hx hb dL_law_1444 rfl (lv_at hl 3 rfl) ?_
  refine lv_iload_n hx hb dL_law_1445 rfl (lv_at hl 0 rfl) ?_
  refine lv_iconst (v := 1) hx hb dL_law_1446 (by decide) ?_
  refine lv_iadd hx hb dL_law_1447 ?_
  refine lv_topi (fun v1 ev1 => ?_)
  obtain rfl : v1 = 1 := ev1.trans (by decide)
  refine va_sld hx hb hX hbl hbA hS (mm_in mm_k1 (by decide)) dL_law_1448 ?_
  refine lv_topi (fun v2 ev2 => ?_)
  obtain rfl : p1 = v2 := ep1.trans ev2.symm
  refine lv_aload_n hx hb dL_law_1449 rfl (lv_at hl 3 rfl) ?_
  refine lv_iload_n hx hb dL_law_1450 rfl (lv_at hl 0 rfl) ?_
  refine lv_iconst (v := 2) hx hb dL_law_1451 (by decide) ?_
  refine lv_iadd hx hb dL_law_1452 ?_
  refine lv_topi (fun v3 ev3 => ?_)
  obtain rfl : v3 = 2 := ev3.trans (by decide)
  refine va_sld hx hb hX hbl hbA hS (mm_in mm_k2 (by decide)) dL_law_1453 ?_
  refine lv_topi (fun v4 ev4 => ?_)
  obtain rfl : p2 = v4 := ep2.trans ev4.symm
  refine lv_aload_n hx hb dL_law_1454 rfl (lv_at hl 3 rfl) ?_
  refine lv_iload_n hx hb dL_law_1455 rfl (lv_at hl 0 rfl) ?_
  refine lv_iconst (v := 3) hx hb dL_law_1456 (by decide) ?_
  refine lv_iadd hx hb dL_law_1457 ?_
  refine lv_topi (fun v5 ev5 => ?_)
  obtain rfl : v5 = 3 := ev5.trans (by decide)
  refine va_sld hx hb hX hbl hbA hS (mm_in mm_k3 (by decide)) dL_law_1458 ?_
  refine lv_topi (fun v6 ev6 => ?_)
  obtain rfl : p3 = v6 := ep3.trans ev6.symm
  refine mm_finir (va_runV (As := [.int p1, .int p2, .int p3]) (rest := []) ⟨hx, hb, hml, hown, hts⟩ (K178_X11_lost l G cy H.size qx p1 p2 p3 (ux 0) (ux 2) (ux 14) (ux 36) (ux 70) (ux 71) (ux 80) (ux 82) (ux 84) (ux 89) (ux 92) (ux 15) (ux 26) 0 0 0 0 0 0 0 (ux 16) (ux 17) (ux 18) (ux 19) (ux 20) (ux 21) (ux 22) (ux 23) (ux 24) (ux 25) ) (cwV 3 hts (mm_gV mm_w1046 mm_w1047 mm_w1048 mm_w2 mm_w1049) rfl rfl rfl hd_X11_lost ⟨by rw [hRf]; exact Nat.le_of_ble_eq_true rfl, by rw [hRl]; exact Nat.le_of_ble_eq_true rfl⟩) (mm_preV hK hP hD [0, 1, 2] rfl rfl 0 rfl rfl rfl) rfl rfl hl.1 rfl (lv_room (Nat.le_of_ble_eq_true rfl)) dL_law_1459 ⟨by rw [hRc]; exact Nat.le_of_ble_eq_true rfl, by rw [hRs]; exact Nat.le_of_ble_eq_true rfl⟩) hP hD hS hA [0, 1, 2] rfl (fun _ => rfl) ?_
  clear hP hD hS
  clear H locs
  intro v7 _u H locs hw hP hD hS
  subst hw
  refine lv_aload_n hx hb dL_law_1462 rfl (lv_at hl 1 rfl) ?_
  refine lv_aload_n hx hb dL_law_1463 rfl (lv_at hl 3 rfl) ?_
  refine lv_iload_n hx hb dL_law_1464 rfl (lv_at hl 0 rfl) ?_
  refine lv_iconst (v := 1) hx hb dL_law_1465 (by decide) ?_
  refine lv_iadd hx hb dL_law_1466 ?_
  refine lv_topi (fun v8 ev8 => ?_)
  obtain rfl : v8 = 1 := ev8.trans (by decide)
  refine va_sld hx hb hX hbl hbA hS (mm_in mm_k1 (by decide)) dL_law_1467 ?_
  refine lv_topi (fun v9 ev9 => ?_)
  obtain rfl : p1 = v9 := ep1.trans ev9.symm
  refine lv_aload_n hx hb dL_law_1468 rfl (lv_at hl 3 rfl) ?_
  refine lv_iload_n hx hb dL_law_1469 rfl (lv_at hl 0 rfl) ?_
  refine lv_iconst (v := 2) hx hb dL_law_1470 (by decide) ?_
  refine lv_iadd hx hb dL_law_1471 ?_
  refine lv_topi (fun v10 ev10 => ?_)
  obtain rfl : v10 = 2 := ev10.trans (by decide)
  refine va_sld hx hb hX hbl hbA hS (mm_in mm_k2 (by decide)) dL_law_1472 ?_
  refine lv_topi (fun v11 ev11 => ?_)
  obtain rfl : p2 = v11 := ep2.trans ev11.symm
  refine lv_aload_n hx hb dL_law_1473 rfl (lv_at hl 3 rfl) ?_
  refine lv_iload_n hx hb dL_law_1474 rfl (lv_at hl 0 rfl) ?_
  refine lv_iconst (v := 3) hx hb dL_law_1475 (by decide) ?_
  refine lv_iadd hx hb dL_law_1476 ?_
  refine lv_topi (fun v12 ev12 => ?_)
  obtain rfl : v12 = 3 := ev12.trans (by decide)
  refine va_sld hx hb hX hbl hbA hS (mm_in mm_k3 (by decide)) dL_law_1477 ?_
  refine lv_topi (fun v13 ev13 => ?_)
  obtain rfl : p3 = v13 := ep3.trans ev13.symm
  refine mm_finir (va_runV (As := [.int p1, .int p2, .int p3]) (rest := [.int (-2)]) ⟨hx, hb, hml, hown, hts⟩ (K179_X12_lost l G cy H.size qm p1 p2 p3 (um 0) (um 1) (um 2) (um 3) (um 4) 0 0 0 0 0 0 0 0 0 (-1) (um 5) (um 6) (um 7) (um 8) (um 9) (um 10) (um 11) (um 12) (um 13) (um 14) (um 15) (um 16) (um 17) 0 0 0 0 0 0 (um 18) 0 (um 19) ) (cwV 3 hts (mm_gV mm_w1050 mm_w1051 mm_w1052 mm_w5 mm_w1053) rfl rfl rfl hd_X12_lost ⟨by rw [hRf]; exact Nat.le_of_ble_eq_true rfl, by rw [hRl]; exact Nat.le_of_ble_eq_true rfl⟩) (mm_preV hK hP hD [3, 4] rfl rfl 3 rfl rfl rfl) rfl rfl hl.1 rfl (lv_room (Nat.le_of_ble_eq_true rfl)) dL_law_1478 ⟨by rw [hRc]; exact Nat.le_of_ble_eq_true rfl, by rw [hRs]; exact Nat.le_of_ble_eq_true rfl⟩) hP hD hS hA [3, 4] rfl (fun _ => rfl) ?_
  clear hP hD hS
  clear H locs
  intro v14 _u H locs hw hP hD hS
  subst hw
  refine lv_icmp_eq (tgt := 3153) hx hb dL_law_1481 (by decide) (fun c15 => ?_) (fun c15 => ?_)
  · refine lv_iinc (v := 6) (lv' := [(3, .int 6), (2, .ref qm), (1, .ref qx), (0, .ref b)]) hx hb dL_law_3153 hl (k := 0) rfl (by decide) (by decide) rfl ?_
    clear hl
    clear ls
    intro ls hl
    refine lv_goto (tgt := 18) hx hb dL_law_3156 (by decide) ?_
    refine lv_iload_n hx hb dL_law_18 rfl (lv_at hl 0 rfl) ?_
    refine lv_aload_n hx hb dL_law_19 rfl (lv_at hl 3 rfl) ?_
    refine va_slen hx hb hX hbl hbA hS dL_law_20 ?_
    refine lv_topi (fun v16 ev16 => ?_)
    obtain rfl : v16 = 6 := ev16.trans (by decide)
    refine lv_bipush (v := 6) hx hb dL_law_21 (by decide) ?_
    refine lv_isub hx hb dL_law_23 ?_
    refine lv_topi (fun v17 ev17 => ?_)
    obtain rfl : v17 = 0 := ev17.trans (by decide)
    refine lv_icmp_gt (tgt := 3159) hx hb dL_law_24 (by decide) (fun c18 => ?_) (fun c18 => ?_)
    · refine lv_iconst (v := 1) hx hb dL_law_3159 (by decide) ?_
      refine va_forget (fun q hq => by have := hS.2.2 q hq; rw [hAe] at this; exact this) ?_
      refine W.widen (k := 600000) (n := 7302250) (Nat.le_of_ble_eq_true rfl) (Nat.le_of_ble_eq_true rfl) ?_
      exact lw_ret hx hb hr hlocks dL_law_3160
    · have q19 := mm_leL (mm_nlt c18) mm_k6 mm_k0
      exact mm_no q19 (by decide)
  · have q20 := mm_neL (lo := (-1)) (mm_ne c15) mm_km2 mm_km2 (by decide) (by decide)
    exact mm_no q20 (by decide)

set_option maxHeartbeats 4000000 in
set_option maxRecDepth 100000 in
theorem lc_30 {p : Program} {e : Env} {s : State} {m : MethodId} {below : List Frame} {meth : Method} {c : Code} {b : Nat} {xs : Nat → Int32} {G : va_G} {cy : Nat → ClassId} {qx qm : Nat} {ux um : Nat → Nat} {H : Heap} {locs : List Loc} {ls : Array Slot} {A : Nat → Prop} (l : Launch) (hx : p.tables.exec = Jvm.exec) (hb : c.code = code) (hr : meth.sig.returnType = ret) (hlocks : meth.locks = false) (hml : c.maxLocals = 4) (hown : s.vm.findClass R_law = some m.cls) (hts : ∀ w ∈ lw_x :: wsL_law, w.before #[Value.ref b] s = true) (hX : va_X b 6 xs s s.heap) (hbl : b < s.heap.size) (hAe : A = fun q => s.heap.size ≤ q) (hK : mm_K G cy s) (hS : va_S A s.heap H locs) (hP : va_P G vwCl [(qx, .inr (11, [.ref (ux 0), .ref (ux 2), .ref (ux 14), .ref (ux 36), .ref (ux 70), .ref (ux 71), .ref (ux 80), .ref (ux 82), .ref (ux 84), .ref (ux 89), .ref (ux 92)])), ((ux 14), .inr (10, [.ref (ux 15), .ref (ux 26)])), ((ux 15), .inr (0, [.int 0, .int 0, .int 0, .int 0, .int 0, .int 0, .int 0, .int 0, .ref (ux 16), .ref (ux 17), .ref (ux 18), .ref (ux 19), .ref (ux 20), .ref (ux 21), .ref (ux 22), .ref (ux 23), .ref (ux 24), .ref (ux 25)])), (qm, .inr (12, [.int 0, .ref (um 0), .ref (um 1), .ref (um 2), .ref (um 3), .ref (um 4), .int 0, .int 0, .int 0, .int 0, .int 0, .long 0, .int 0, .int 0, .int 0, .int (-1), .ref (um 5), .ref (um 6), .ref (um 7), .ref (um 8), .ref (um 9), .ref (um 10), .ref (um 11), .ref (um 12), .ref (um 13), .ref (um 14), .ref (um 15), .ref (um 16), .ref (um 17), .int 0, .int 0, .int 0, .int 0, .int 0, .int 0, .ref (um 18), .int 0, .ref (um 19)])), ((um 6), .inl (cy 1, 30, .inl (fun _ => 0)))] H) (hD : va_D A [(qx, .inr (11, [.ref (ux 0), .ref (ux 2), .ref (ux 14), .ref (ux 36), .ref (ux 70), .ref (ux 71), .ref (ux 80), .ref (ux 82), .ref (ux 84), .ref (ux 89), .ref (ux 92)])), ((ux 14), .inr (10, [.ref (ux 15), .ref (ux 26)])), ((ux 15), .inr (0, [.int 0, .int 0, .int 0, .int 0, .int 0, .int 0, .int 0, .int 0, .ref (ux 16), .ref (ux 17), .ref (ux 18), .ref (ux 19), .ref (ux 20), .ref (ux 21), .ref (ux 22), .ref (ux 23), .ref (ux 24), .ref (ux 25)])), (qm, .inr (12, [.int 0, .ref (um 0), .ref (um 1), .ref (um 2), .ref (um 3), .ref (um 4), .int 0, .int 0, .int 0, .int 0, .int 0, .long 0, .int 0, .int 0, .int 0, .int (-1), .ref (um 5), .ref (um 6), .ref (um 7), .ref (um 8), .ref (um 9), .ref (um 10), .ref (um 11), .ref (um 12), .ref (um 13), .ref (um 14), .ref (um 15), .ref (um 16), .ref (um 17), .int 0, .int 0, .int 0, .int 0, .int 0, .int 0, .ref (um 18), .int 0, .ref (um 19)])), ((um 6), .inl (cy 1, 30, .inl (fun _ => 0)))]) (hl : lv_has ls 4 [(3, .int 0), (2, .ref qm), (1, .ref qx), (0, .ref b)]) : W p l e room_1 s m #[Value.ref b] below meth c H locs 116 20302 (lw_Z below #[Value.ref b] s) (F0 m 1486 ls []) := by
  have hA : ∀ q, s.heap.size ≤ q → A q := by rw [hAe]; exact fun _ h => h
  have hbA : ¬ A b := by rw [hAe]; exact Nat.not_le.mpr hbl
  have hRf : room_1.frames = 2048 := rfl
  have hRl : room_1.locals = 84000 := rfl
  have hRc : room_1.cells = 600000 := rfl
  have hRs : room_1.slots = 7302250 := rfl
  obtain ⟨p1, ep1⟩ : ∃ z : Int32, z = xs 1 := ⟨_, rfl⟩
  obtain ⟨p2, ep2⟩ : ∃ z : Int32, z = xs 2 := ⟨_, rfl⟩
  obtain ⟨p3, ep3⟩ : ∃ z : Int32, z = xs 3 := ⟨_, rfl⟩
  obtain ⟨p4, ep4⟩ : ∃ z : Int32, z = xs 4 := ⟨_, rfl⟩
  obtain ⟨p5, ep5⟩ : ∃ z : Int32, z = xs 5 := ⟨_, rfl⟩
  refine lv_aload_n hx hb dL_law_1486 rfl (lv_at hl 2 rfl) ?_
  refine lv_aload_n hx hb dL_law_1487 rfl (lv_at hl 3 rfl) ?_
  refine lv_iload_n hx hb dL_law_1488 rfl (lv_at hl 0 rfl) ?_
  refine lv_iconst (v := 1) hx hb dL_law_1489 (by decide) ?_
  refine lv_iadd hx hb dL_law_1490 ?_
  refine lv_topi (fun v1 ev1 => ?_)
  obtain rfl : v1 = 1 := ev1.trans (by decide)
  refine va_sld hx hb hX hbl hbA hS (mm_in mm_k1 (by decide)) dL_law_1491 ?_
  refine lv_topi (fun v2 ev2 => ?_)
  obtain rfl : p1 = v2 := ep1.trans ev2.symm
  refine lv_aload_n hx hb dL_law_1492 rfl (lv_at hl 3 rfl) ?_
  refine lv_iload_n hx hb dL_law_1493 rfl (lv_at hl 0 rfl) ?_
  refine lv_iconst (v := 2) hx hb dL_law_1494 (by decide) ?_
  refine lv_iadd hx hb dL_law_1495 ?_
  refine lv_topi (fun v3 ev3 => ?_)
  obtain rfl : v3 = 2 := ev3.trans (by decide)
  refine va_sld hx hb hX hbl hbA hS (mm_in mm_k2 (by decide)) dL_law_1496 ?_
  refine lv_topi (fun v4 ev4 => ?_)
  obtain rfl : p2 = v4 := ep2.trans ev4.symm
  refine lv_aload_n hx hb dL_law_1497 rfl (lv_at hl 3 rfl) ?_
  refine lv_iload_n hx hb dL_law_1498 rfl (lv_at hl 0 rfl) ?_
  refine lv_iconst (v := 3) hx hb dL_law_1499 (by decide) ?_
  refine lv_iadd hx hb dL_law_1500 ?_
  refine lv_topi (fun v5 ev5 => ?_)
  obtain rfl : v5 = 3 := ev5.trans (by decide)
  refine va_sld hx hb hX hbl hbA hS (mm_in mm_k3 (by decide)) dL_law_1501 ?_
  refine lv_topi (fun v6 ev6 => ?_)
  obtain rfl : p3 = v6 := ep3.trans ev6.symm
  refine mm_finir (va_runV (As := [.int p1, .int p2, .int p3]) (rest := []) ⟨hx, hb, hml, hown, hts⟩ (K180_X11_kinds l G cy H.size qx p1 p2 p3 (ux 0) (ux 2) (ux 14) (ux 36) (ux 70) (ux 71) (ux 80) (ux 82) (ux 84) (ux 89) (ux 92) (ux 15) (ux 26) 0 0 0 0 0 0 0 (ux 16) (ux 17) (ux 18) (ux 19) (ux 20) (ux 21) (ux 22) (ux 23) (ux 24) (ux 25) ) (cwV 3 hts (mm_gV mm_w1054 mm_w1055 mm_w1056 mm_w2 mm_w1057) rfl rfl rfl hd_X11_kinds ⟨by rw [hRf]; exact Nat.le_of_ble_eq_true rfl, by rw [hRl]; exact Nat.le_of_ble_eq_true rfl⟩) (mm_preV hK hP hD [0, 1, 2] rfl rfl 0 rfl rfl rfl) rfl rfl hl.1 rfl (lv_room (Nat.le_of_ble_eq_true rfl)) dL_law_1502 ⟨by rw [hRc]; exact Nat.le_of_ble_eq_true rfl, by rw [hRs]; exact Nat.le_of_ble_eq_true rfl⟩) hP hD hS hA [0, 1, 2] rfl (fun _ => rfl) ?_
  clear hP hD hS
  clear H locs
  intro v7 _u H locs hw hP hD hS
  subst hw
  refine lv_aload_n hx hb dL_law_1505 rfl (lv_at hl 1 rfl) ?_
  refine lv_aload_n hx hb dL_law_1506 rfl (lv_at hl 3 rfl) ?_
  refine lv_iload_n hx hb dL_law_1507 rfl (lv_at hl 0 rfl) ?_
  refine lv_iconst (v := 1) hx hb dL_law_1508 (by decide) ?_
  refine lv_iadd hx hb dL_law_1509 ?_
  refine lv_topi (fun v8 ev8 => ?_)
  obtain rfl : v8 = 1 := ev8.trans (by decide)
  refine va_sld hx hb hX hbl hbA hS (mm_in mm_k1 (by decide)) dL_law_1510 ?_
  refine lv_topi (fun v9 ev9 => ?_)
  obtain rfl : p1 = v9 := ep1.trans ev9.symm
  refine lv_aload_n hx hb dL_law_1511 rfl (lv_at hl 3 rfl) ?_
  refine lv_iload_n hx hb dL_law_1512 rfl (lv_at hl 0 rfl) ?_
  refine lv_iconst (v := 2) hx hb dL_law_1513 (by decide) ?_
  refine lv_iadd hx hb dL_law_1514 ?_
  refine lv_topi (fun v10 ev10 => ?_)
  obtain rfl : v10 = 2 := ev10.trans (by decide)
  refine va_sld hx hb hX hbl hbA hS (mm_in mm_k2 (by decide)) dL_law_1515 ?_
  refine lv_topi (fun v11 ev11 => ?_)
  obtain rfl : p2 = v11 := ep2.trans ev11.symm
  refine lv_aload_n hx hb dL_law_1516 rfl (lv_at hl 3 rfl) ?_
  refine lv_iload_n hx hb dL_law_1517 rfl (lv_at hl 0 rfl) ?_
  refine lv_iconst (v := 3) hx hb dL_law_1518 (by decide) ?_
  refine lv_iadd hx hb dL_law_1519 ?_
  refine lv_topi (fun v12 ev12 => ?_)
  obtain rfl : v12 = 3 := ev12.trans (by decide)
  refine va_sld hx hb hX hbl hbA hS (mm_in mm_k3 (by decide)) dL_law_1520 ?_
  refine lv_topi (fun v13 ev13 => ?_)
  obtain rfl : p3 = v13 := ep3.trans ev13.symm
  refine mm_finir (va_runV (As := [.int p1, .int p2, .int p3]) (rest := [.int (-2)]) ⟨hx, hb, hml, hown, hts⟩ (K181_X12_kinds l G cy H.size qm p1 p2 p3 (um 0) (um 1) (um 2) (um 3) (um 4) 0 0 0 0 0 0 0 0 0 (-1) (um 5) (um 6) (um 7) (um 8) (um 9) (um 10) (um 11) (um 12) (um 13) (um 14) (um 15) (um 16) (um 17) 0 0 0 0 0 0 (um 18) 0 (um 19) ) (cwV 3 hts (mm_gV mm_w1058 mm_w1059 mm_w1060 mm_w5 mm_w1061) rfl rfl rfl hd_X12_kinds ⟨by rw [hRf]; exact Nat.le_of_ble_eq_true rfl, by rw [hRl]; exact Nat.le_of_ble_eq_true rfl⟩) (mm_preV hK hP hD [3, 4] rfl rfl 3 rfl rfl rfl) rfl rfl hl.1 rfl (lv_room (Nat.le_of_ble_eq_true rfl)) dL_law_1521 ⟨by rw [hRc]; exact Nat.le_of_ble_eq_true rfl, by rw [hRs]; exact Nat.le_of_ble_eq_true rfl⟩) hP hD hS hA [3, 4] rfl (fun _ => rfl) ?_
  clear hP hD hS
  clear H locs
  intro v14 _u H locs hw hP hD hS
  subst hw
  refine lv_icmp_eq (tgt := 3153) hx hb dL_law_1524 (by decide) (fun c15 => ?_) (fun c15 => ?_)
  · refine lv_iinc (v := 6) (lv' := [(3, .int 6), (2, .ref qm), (1, .ref qx), (0, .ref b)]) hx hb dL_law_3153 hl (k := 0) rfl (by decide) (by decide) rfl ?_
    clear hl
    clear ls
    intro ls hl
    refine lv_goto (tgt := 18) hx hb dL_law_3156 (by decide) ?_
    refine lv_iload_n hx hb dL_law_18 rfl (lv_at hl 0 rfl) ?_
    refine lv_aload_n hx hb dL_law_19 rfl (lv_at hl 3 rfl) ?_
    refine va_slen hx hb hX hbl hbA hS dL_law_20 ?_
    refine lv_topi (fun v16 ev16 => ?_)
    obtain rfl : v16 = 6 := ev16.trans (by decide)
    refine lv_bipush (v := 6) hx hb dL_law_21 (by decide) ?_
    refine lv_isub hx hb dL_law_23 ?_
    refine lv_topi (fun v17 ev17 => ?_)
    obtain rfl : v17 = 0 := ev17.trans (by decide)
    refine lv_icmp_gt (tgt := 3159) hx hb dL_law_24 (by decide) (fun c18 => ?_) (fun c18 => ?_)
    · refine lv_iconst (v := 1) hx hb dL_law_3159 (by decide) ?_
      refine va_forget (fun q hq => by have := hS.2.2 q hq; rw [hAe] at this; exact this) ?_
      refine W.widen (k := 600000) (n := 7302250) (Nat.le_of_ble_eq_true rfl) (Nat.le_of_ble_eq_true rfl) ?_
      exact lw_ret hx hb hr hlocks dL_law_3160
    · have q19 := mm_leL (mm_nlt c18) mm_k6 mm_k0
      exact mm_no q19 (by decide)
  · have q20 := mm_neL (lo := (-1)) (mm_ne c15) mm_km2 mm_km2 (by decide) (by decide)
    exact mm_no q20 (by decide)

set_option maxHeartbeats 4000000 in
set_option maxRecDepth 100000 in
theorem lc_31 {p : Program} {e : Env} {s : State} {m : MethodId} {below : List Frame} {meth : Method} {c : Code} {b : Nat} {xs : Nat → Int32} {G : va_G} {cy : Nat → ClassId} {qx qm : Nat} {ux um : Nat → Nat} {H : Heap} {locs : List Loc} {ls : Array Slot} {A : Nat → Prop} (l : Launch) (hx : p.tables.exec = Jvm.exec) (hb : c.code = code) (hr : meth.sig.returnType = ret) (hlocks : meth.locks = false) (hml : c.maxLocals = 4) (hown : s.vm.findClass R_law = some m.cls) (hts : ∀ w ∈ lw_x :: wsL_law, w.before #[Value.ref b] s = true) (hX : va_X b 6 xs s s.heap) (hbl : b < s.heap.size) (hAe : A = fun q => s.heap.size ≤ q) (hK : mm_K G cy s) (hS : va_S A s.heap H locs) (hP : va_P G vwCl [(qx, .inr (11, [.ref (ux 0), .ref (ux 2), .ref (ux 14), .ref (ux 36), .ref (ux 70), .ref (ux 71), .ref (ux 80), .ref (ux 82), .ref (ux 84), .ref (ux 89), .ref (ux 92)])), ((ux 14), .inr (10, [.ref (ux 15), .ref (ux 26)])), ((ux 15), .inr (0, [.int 0, .int 0, .int 0, .int 0, .int 0, .int 0, .int 0, .int 0, .ref (ux 16), .ref (ux 17), .ref (ux 18), .ref (ux 19), .ref (ux 20), .ref (ux 21), .ref (ux 22), .ref (ux 23), .ref (ux 24), .ref (ux 25)])), (qm, .inr (12, [.int 0, .ref (um 0), .ref (um 1), .ref (um 2), .ref (um 3), .ref (um 4), .int 0, .int 0, .int 0, .int 0, .int 0, .long 0, .int 0, .int 0, .int 0, .int (-1), .ref (um 5), .ref (um 6), .ref (um 7), .ref (um 8), .ref (um 9), .ref (um 10), .ref (um 11), .ref (um 12), .ref (um 13), .ref (um 14), .ref (um 15), .ref (um 16), .ref (um 17), .int 0, .int 0, .int 0, .int 0, .int 0, .int 0, .ref (um 18), .int 0, .ref (um 19)])), ((um 6), .inl (cy 1, 30, .inl (fun _ => 0)))] H) (hD : va_D A [(qx, .inr (11, [.ref (ux 0), .ref (ux 2), .ref (ux 14), .ref (ux 36), .ref (ux 70), .ref (ux 71), .ref (ux 80), .ref (ux 82), .ref (ux 84), .ref (ux 89), .ref (ux 92)])), ((ux 14), .inr (10, [.ref (ux 15), .ref (ux 26)])), ((ux 15), .inr (0, [.int 0, .int 0, .int 0, .int 0, .int 0, .int 0, .int 0, .int 0, .ref (ux 16), .ref (ux 17), .ref (ux 18), .ref (ux 19), .ref (ux 20), .ref (ux 21), .ref (ux 22), .ref (ux 23), .ref (ux 24), .ref (ux 25)])), (qm, .inr (12, [.int 0, .ref (um 0), .ref (um 1), .ref (um 2), .ref (um 3), .ref (um 4), .int 0, .int 0, .int 0, .int 0, .int 0, .long 0, .int 0, .int 0, .int 0, .int (-1), .ref (um 5), .ref (um 6), .ref (um 7), .ref (um 8), .ref (um 9), .ref (um 10), .ref (um 11), .ref (um 12), .ref (um 13), .ref (um 14), .ref (um 15), .ref (um 16), .ref (um 17), .int 0, .int 0, .int 0, .int 0, .int 0, .int 0, .ref (um 18), .int 0, .ref (um 19)])), ((um 6), .inl (cy 1, 30, .inl (fun _ => 0)))]) (hl : lv_has ls 4 [(3, .int 0), (2, .ref qm), (1, .ref qx), (0, .ref b)]) : W p l e room_1 s m #[Value.ref b] below meth c H locs 116 20302 (lw_Z below #[Value.ref b] s) (F0 m 1529 ls []) := by
  have hA : ∀ q, s.heap.size ≤ q → A q := by rw [hAe]; exact fun _ h => h
  have hbA : ¬ A b := by rw [hAe]; exact Nat.not_le.mpr hbl
  have hRf : room_1.frames = 2048 := rfl
  have hRl : room_1.locals = 84000 := rfl
  have hRc : room_1.cells = 600000 := rfl
  have hRs : room_1.slots = 7302250 := rfl
  obtain ⟨p1, ep1⟩ : ∃ z : Int32, z = xs 1 := ⟨_, rfl⟩
  obtain ⟨p2, ep2⟩ : ∃ z : Int32, z = xs 2 := ⟨_, rfl⟩
  obtain ⟨p3, ep3⟩ : ∃ z : Int32, z = xs 3 := ⟨_, rfl⟩
  obtain ⟨p4, ep4⟩ : ∃ z : Int32, z = xs 4 := ⟨_, rfl⟩
  obtain ⟨p5, ep5⟩ : ∃ z : Int32, z = xs 5 := ⟨_, rfl⟩
  refine lv_aload_n hx hb dL_law_1529 rfl (lv_at hl 2 rfl) ?_
  refine lv_aload_n hx hb dL_law_1530 rfl (lv_at hl 3 rfl) ?_
  refine lv_iload_n hx hb dL_law_1531 rfl (lv_at hl 0 rfl) ?_
  refine lv_iconst (v := 1) hx hb dL_law_1532 (by decide) ?_
  refine lv_iadd hx hb dL_law_1533 ?_
  refine lv_topi (fun v1 ev1 => ?_)
  obtain rfl : v1 = 1 := ev1.trans (by decide)
  refine va_sld hx hb hX hbl hbA hS (mm_in mm_k1 (by decide)) dL_law_1534 ?_
  refine lv_topi (fun v2 ev2 => ?_)
  obtain rfl : p1 = v2 := ep1.trans ev2.symm
  refine lv_aload_n hx hb dL_law_1535 rfl (lv_at hl 3 rfl) ?_
  refine lv_iload_n hx hb dL_law_1536 rfl (lv_at hl 0 rfl) ?_
  refine lv_iconst (v := 2) hx hb dL_law_1537 (by decide) ?_
  refine lv_iadd hx hb dL_law_1538 ?_
  refine lv_topi (fun v3 ev3 => ?_)
  obtain rfl : v3 = 2 := ev3.trans (by decide)
  refine va_sld hx hb hX hbl hbA hS (mm_in mm_k2 (by decide)) dL_law_1539 ?_
  refine lv_topi (fun v4 ev4 => ?_)
  obtain rfl : p2 = v4 := ep2.trans ev4.symm
  refine lv_aload_n hx hb dL_law_1540 rfl (lv_at hl 3 rfl) ?_
  refine lv_iload_n hx hb dL_law_1541 rfl (lv_at hl 0 rfl) ?_
  refine lv_iconst (v := 3) hx hb dL_law_1542 (by decide) ?_
  refine lv_iadd hx hb dL_law_1543 ?_
  refine lv_topi (fun v5 ev5 => ?_)
  obtain rfl : v5 = 3 := ev5.trans (by decide)
  refine va_sld hx hb hX hbl hbA hS (mm_in mm_k3 (by decide)) dL_law_1544 ?_
  refine lv_topi (fun v6 ev6 => ?_)
  obtain rfl : p3 = v6 := ep3.trans ev6.symm
  refine mm_finir (va_runV (As := [.int p1, .int p2, .int p3]) (rest := []) ⟨hx, hb, hml, hown, hts⟩ (K182_X11_better l G cy H.size qx p1 p2 p3 (ux 0) (ux 2) (ux 14) (ux 36) (ux 70) (ux 71) (ux 80) (ux 82) (ux 84) (ux 89) (ux 92) (ux 15) (ux 26) 0 0 0 0 0 0 0 (ux 16) (ux 17) (ux 18) (ux 19) (ux 20) (ux 21) (ux 22) (ux 23) (ux 24) (ux 25) ) (cwV 3 hts (mm_gV mm_w1062 mm_w1063 mm_w1064 mm_w2 mm_w1065) rfl rfl rfl hd_X11_better ⟨by rw [hRf]; exact Nat.le_of_ble_eq_true rfl, by rw [hRl]; exact Nat.le_of_ble_eq_true rfl⟩) (mm_preV hK hP hD [0, 1, 2] rfl rfl 0 rfl rfl rfl) rfl rfl hl.1 rfl (lv_room (Nat.le_of_ble_eq_true rfl)) dL_law_1545 ⟨by rw [hRc]; exact Nat.le_of_ble_eq_true rfl, by rw [hRs]; exact Nat.le_of_ble_eq_true rfl⟩) hP hD hS hA [0, 1, 2] rfl (fun _ => rfl) ?_
  clear hP hD hS
  clear H locs
  intro v7 _u H locs hw hP hD hS
  subst hw
  refine lv_aload_n hx hb dL_law_1548 rfl (lv_at hl 1 rfl) ?_
  refine lv_aload_n hx hb dL_law_1549 rfl (lv_at hl 3 rfl) ?_
  refine lv_iload_n hx hb dL_law_1550 rfl (lv_at hl 0 rfl) ?_
  refine lv_iconst (v := 1) hx hb dL_law_1551 (by decide) ?_
  refine lv_iadd hx hb dL_law_1552 ?_
  refine lv_topi (fun v8 ev8 => ?_)
  obtain rfl : v8 = 1 := ev8.trans (by decide)
  refine va_sld hx hb hX hbl hbA hS (mm_in mm_k1 (by decide)) dL_law_1553 ?_
  refine lv_topi (fun v9 ev9 => ?_)
  obtain rfl : p1 = v9 := ep1.trans ev9.symm
  refine lv_aload_n hx hb dL_law_1554 rfl (lv_at hl 3 rfl) ?_
  refine lv_iload_n hx hb dL_law_1555 rfl (lv_at hl 0 rfl) ?_
  refine lv_iconst (v := 2) hx hb dL_law_1556 (by decide) ?_
  refine lv_iadd hx hb dL_law_1557 ?_
  refine lv_topi (fun v10 ev10 => ?_)
  obtain rfl : v10 = 2 := ev10.trans (by decide)
  refine va_sld hx hb hX hbl hbA hS (mm_in mm_k2 (by decide)) dL_law_1558 ?_
  refine lv_topi (fun v11 ev11 => ?_)
  obtain rfl : p2 = v11 := ep2.trans ev11.symm
  refine lv_aload_n hx hb dL_law_1559 rfl (lv_at hl 3 rfl) ?_
  refine lv_iload_n hx hb dL_law_1560 rfl (lv_at hl 0 rfl) ?_
  refine lv_iconst (v := 3) hx hb dL_law_1561 (by decide) ?_
  refine lv_iadd hx hb dL_law_1562 ?_
  refine lv_topi (fun v12 ev12 => ?_)
  obtain rfl : v12 = 3 := ev12.trans (by decide)
  refine va_sld hx hb hX hbl hbA hS (mm_in mm_k3 (by decide)) dL_law_1563 ?_
  refine lv_topi (fun v13 ev13 => ?_)
  obtain rfl : p3 = v13 := ep3.trans ev13.symm
  refine mm_finir (va_runV (As := [.int p1, .int p2, .int p3]) (rest := [.int (-2)]) ⟨hx, hb, hml, hown, hts⟩ (K183_X12_better l G cy H.size qm p1 p2 p3 (um 0) (um 1) (um 2) (um 3) (um 4) 0 0 0 0 0 0 0 0 0 (-1) (um 5) (um 6) (um 7) (um 8) (um 9) (um 10) (um 11) (um 12) (um 13) (um 14) (um 15) (um 16) (um 17) 0 0 0 0 0 0 (um 18) 0 (um 19) ) (cwV 3 hts (mm_gV mm_w1070 mm_w1071 mm_w1072 mm_w5 mm_w1073) rfl rfl rfl hd_X12_better ⟨by rw [hRf]; exact Nat.le_of_ble_eq_true rfl, by rw [hRl]; exact Nat.le_of_ble_eq_true rfl⟩) (mm_preV hK hP hD [3, 4] rfl rfl 3 rfl rfl rfl) rfl rfl hl.1 rfl (lv_room (Nat.le_of_ble_eq_true rfl)) dL_law_1564 ⟨by rw [hRc]; exact Nat.le_of_ble_eq_true rfl, by rw [hRs]; exact Nat.le_of_ble_eq_true rfl⟩) hP hD hS hA [3, 4] rfl (fun _ => rfl) ?_
  clear hP hD hS
  clear H locs
  intro v14 _u H locs hw hP hD hS
  subst hw
  refine lv_icmp_eq (tgt := 3153) hx hb dL_law_1567 (by decide) (fun c15 => ?_) (fun c15 => ?_)
  · refine lv_iinc (v := 6) (lv' := [(3, .int 6), (2, .ref qm), (1, .ref qx), (0, .ref b)]) hx hb dL_law_3153 hl (k := 0) rfl (by decide) (by decide) rfl ?_
    clear hl
    clear ls
    intro ls hl
    refine lv_goto (tgt := 18) hx hb dL_law_3156 (by decide) ?_
    refine lv_iload_n hx hb dL_law_18 rfl (lv_at hl 0 rfl) ?_
    refine lv_aload_n hx hb dL_law_19 rfl (lv_at hl 3 rfl) ?_
    refine va_slen hx hb hX hbl hbA hS dL_law_20 ?_
    refine lv_topi (fun v16 ev16 => ?_)
    obtain rfl : v16 = 6 := ev16.trans (by decide)
    refine lv_bipush (v := 6) hx hb dL_law_21 (by decide) ?_
    refine lv_isub hx hb dL_law_23 ?_
    refine lv_topi (fun v17 ev17 => ?_)
    obtain rfl : v17 = 0 := ev17.trans (by decide)
    refine lv_icmp_gt (tgt := 3159) hx hb dL_law_24 (by decide) (fun c18 => ?_) (fun c18 => ?_)
    · refine lv_iconst (v := 1) hx hb dL_law_3159 (by decide) ?_
      refine va_forget (fun q hq => by have := hS.2.2 q hq; rw [hAe] at this; exact this) ?_
      refine W.widen (k := 600000) (n := 7302250) (Nat.le_of_ble_eq_true rfl) (Nat.le_of_ble_eq_true rfl) ?_
      exact lw_ret hx hb hr hlocks dL_law_3160
    · have q19 := mm_leL (mm_nlt c18) mm_k6 mm_k0
      exact mm_no q19 (by decide)
  · have q20 := mm_neL (lo := (-1)) (mm_ne c15) mm_km2 mm_km2 (by decide) (by decide)
    exact mm_no q20 (by decide)

set_option maxHeartbeats 4000000 in
set_option maxRecDepth 100000 in
theorem lc_32 {p : Program} {e : Env} {s : State} {m : MethodId} {below : List Frame} {meth : Method} {c : Code} {b : Nat} {xs : Nat → Int32} {G : va_G} {cy : Nat → ClassId} {qx qm : Nat} {ux um : Nat → Nat} {H : Heap} {locs : List Loc} {ls : Array Slot} {A : Nat → Prop} (l : Launch) (hx : p.tables.exec = Jvm.exec) (hb : c.code = code) (hr : meth.sig.returnType = ret) (hlocks : meth.locks = false) (hml : c.maxLocals = 4) (hown : s.vm.findClass R_law = some m.cls) (hts : ∀ w ∈ lw_x :: wsL_law, w.before #[Value.ref b] s = true) (hX : va_X b 6 xs s s.heap) (hbl : b < s.heap.size) (hAe : A = fun q => s.heap.size ≤ q) (hK : mm_K G cy s) (hS : va_S A s.heap H locs) (hP : va_P G vwCl [(qx, .inr (11, [.ref (ux 0), .ref (ux 2), .ref (ux 14), .ref (ux 36), .ref (ux 70), .ref (ux 71), .ref (ux 80), .ref (ux 82), .ref (ux 84), .ref (ux 89), .ref (ux 92)])), ((ux 14), .inr (10, [.ref (ux 15), .ref (ux 26)])), ((ux 15), .inr (0, [.int 0, .int 0, .int 0, .int 0, .int 0, .int 0, .int 0, .int 0, .ref (ux 16), .ref (ux 17), .ref (ux 18), .ref (ux 19), .ref (ux 20), .ref (ux 21), .ref (ux 22), .ref (ux 23), .ref (ux 24), .ref (ux 25)])), (qm, .inr (12, [.int 0, .ref (um 0), .ref (um 1), .ref (um 2), .ref (um 3), .ref (um 4), .int 0, .int 0, .int 0, .int 0, .int 0, .long 0, .int 0, .int 0, .int 0, .int (-1), .ref (um 5), .ref (um 6), .ref (um 7), .ref (um 8), .ref (um 9), .ref (um 10), .ref (um 11), .ref (um 12), .ref (um 13), .ref (um 14), .ref (um 15), .ref (um 16), .ref (um 17), .int 0, .int 0, .int 0, .int 0, .int 0, .int 0, .ref (um 18), .int 0, .ref (um 19)])), ((um 6), .inl (cy 1, 30, .inl (fun _ => 0)))] H) (hD : va_D A [(qx, .inr (11, [.ref (ux 0), .ref (ux 2), .ref (ux 14), .ref (ux 36), .ref (ux 70), .ref (ux 71), .ref (ux 80), .ref (ux 82), .ref (ux 84), .ref (ux 89), .ref (ux 92)])), ((ux 14), .inr (10, [.ref (ux 15), .ref (ux 26)])), ((ux 15), .inr (0, [.int 0, .int 0, .int 0, .int 0, .int 0, .int 0, .int 0, .int 0, .ref (ux 16), .ref (ux 17), .ref (ux 18), .ref (ux 19), .ref (ux 20), .ref (ux 21), .ref (ux 22), .ref (ux 23), .ref (ux 24), .ref (ux 25)])), (qm, .inr (12, [.int 0, .ref (um 0), .ref (um 1), .ref (um 2), .ref (um 3), .ref (um 4), .int 0, .int 0, .int 0, .int 0, .int 0, .long 0, .int 0, .int 0, .int 0, .int (-1), .ref (um 5), .ref (um 6), .ref (um 7), .ref (um 8), .ref (um 9), .ref (um 10), .ref (um 11), .ref (um 12), .ref (um 13), .ref (um 14), .ref (um 15), .ref (um 16), .ref (um 17), .int 0, .int 0, .int 0, .int 0, .int 0, .int 0, .ref (um 18), .int 0, .ref (um 19)])), ((um 6), .inl (cy 1, 30, .inl (fun _ => 0)))]) (hl : lv_has ls 4 [(3, .int 0), (2, .ref qm), (1, .ref qx), (0, .ref b)]) : W p l e room_1 s m #[Value.ref b] below meth c H locs 116 20302 (lw_Z below #[Value.ref b] s) (F0 m 1572 ls []) := by
  have hA : ∀ q, s.heap.size ≤ q → A q := by rw [hAe]; exact fun _ h => h
  have hbA : ¬ A b := by rw [hAe]; exact Nat.not_le.mpr hbl
  have hRf : room_1.frames = 2048 := rfl
  have hRl : room_1.locals = 84000 := rfl
  have hRc : room_1.cells = 600000 := rfl
  have hRs : room_1.slots = 7302250 := rfl
  obtain ⟨p1, ep1⟩ : ∃ z : Int32, z = xs 1 := ⟨_, rfl⟩
  obtain ⟨p2, ep2⟩ : ∃ z : Int32, z = xs 2 := ⟨_, rfl⟩
  obtain ⟨p3, ep3⟩ : ∃ z : Int32, z = xs 3 := ⟨_, rfl⟩
  obtain ⟨p4, ep4⟩ : ∃ z : Int32, z = xs 4 := ⟨_, rfl⟩
  obtain ⟨p5, ep5⟩ : ∃ z : Int32, z = xs 5 := ⟨_, rfl⟩
  refine lv_aload_n hx hb dL_law_1572 rfl (lv_at hl 2 rfl) ?_
  refine lv_aload_n hx hb dL_law_1573 rfl (lv_at hl 3 rfl) ?_
  refine lv_iload_n hx hb dL_law_1574 rfl (lv_at hl 0 rfl) ?_
  refine lv_iconst (v := 1) hx hb dL_law_1575 (by decide) ?_
  refine lv_iadd hx hb dL_law_1576 ?_
  refine lv_topi (fun v1 ev1 => ?_)
  obtain rfl : v1 = 1 := ev1.trans (by decide)
  refine va_sld hx hb hX hbl hbA hS (mm_in mm_k1 (by decide)) dL_law_1577 ?_
  refine lv_topi (fun v2 ev2 => ?_)
  obtain rfl : p1 = v2 := ep1.trans ev2.symm
  refine lv_aload_n hx hb dL_law_1578 rfl (lv_at hl 3 rfl) ?_
  refine lv_iload_n hx hb dL_law_1579 rfl (lv_at hl 0 rfl) ?_
  refine lv_iconst (v := 2) hx hb dL_law_1580 (by decide) ?_
  refine lv_iadd hx hb dL_law_1581 ?_
  refine lv_topi (fun v3 ev3 => ?_)
  obtain rfl : v3 = 2 := ev3.trans (by decide)
  refine va_sld hx hb hX hbl hbA hS (mm_in mm_k2 (by decide)) dL_law_1582 ?_
  refine lv_topi (fun v4 ev4 => ?_)
  obtain rfl : p2 = v4 := ep2.trans ev4.symm
  refine mm_finir (va_runV (As := [.int p1, .int p2]) (rest := []) ⟨hx, hb, hml, hown, hts⟩ (K184_X11_richest l G cy H.size qx p1 p2 (ux 0) (ux 2) (ux 14) (ux 36) (ux 70) (ux 71) (ux 80) (ux 82) (ux 84) (ux 89) (ux 92) (ux 15) (ux 26) 0 0 0 0 0 0 0 (ux 16) (ux 17) (ux 18) (ux 19) (ux 20) (ux 21) (ux 22) (ux 23) (ux 24) (ux 25) ) (cwV 2 hts (mm_gV mm_w1074 mm_w1075 mm_w1076 mm_w2 mm_w1077) rfl rfl rfl hd_X11_richest ⟨by rw [hRf]; exact Nat.le_of_ble_eq_true rfl, by rw [hRl]; exact Nat.le_of_ble_eq_true rfl⟩) (mm_preV hK hP hD [0, 1, 2] rfl rfl 0 rfl rfl rfl) rfl rfl hl.1 rfl (lv_room (Nat.le_of_ble_eq_true rfl)) dL_law_1583 ⟨by rw [hRc]; exact Nat.le_of_ble_eq_true rfl, by rw [hRs]; exact Nat.le_of_ble_eq_true rfl⟩) hP hD hS hA [0, 1, 2] rfl (fun _ => rfl) ?_
  clear hP hD hS
  clear H locs
  intro v5 _u H locs hw hP hD hS
  subst hw
  refine lv_aload_n hx hb dL_law_1586 rfl (lv_at hl 1 rfl) ?_
  refine lv_aload_n hx hb dL_law_1587 rfl (lv_at hl 3 rfl) ?_
  refine lv_iload_n hx hb dL_law_1588 rfl (lv_at hl 0 rfl) ?_
  refine lv_iconst (v := 1) hx hb dL_law_1589 (by decide) ?_
  refine lv_iadd hx hb dL_law_1590 ?_
  refine lv_topi (fun v6 ev6 => ?_)
  obtain rfl : v6 = 1 := ev6.trans (by decide)
  refine va_sld hx hb hX hbl hbA hS (mm_in mm_k1 (by decide)) dL_law_1591 ?_
  refine lv_topi (fun v7 ev7 => ?_)
  obtain rfl : p1 = v7 := ep1.trans ev7.symm
  refine lv_aload_n hx hb dL_law_1592 rfl (lv_at hl 3 rfl) ?_
  refine lv_iload_n hx hb dL_law_1593 rfl (lv_at hl 0 rfl) ?_
  refine lv_iconst (v := 2) hx hb dL_law_1594 (by decide) ?_
  refine lv_iadd hx hb dL_law_1595 ?_
  refine lv_topi (fun v8 ev8 => ?_)
  obtain rfl : v8 = 2 := ev8.trans (by decide)
  refine va_sld hx hb hX hbl hbA hS (mm_in mm_k2 (by decide)) dL_law_1596 ?_
  refine lv_topi (fun v9 ev9 => ?_)
  obtain rfl : p2 = v9 := ep2.trans ev9.symm
  refine mm_finir (va_runV (As := [.int p1, .int p2]) (rest := [.int (-2)]) ⟨hx, hb, hml, hown, hts⟩ (K185_X12_richest l G cy H.size qm p1 p2 (um 0) (um 1) (um 2) (um 3) (um 4) 0 0 0 0 0 0 0 0 0 (-1) (um 5) (um 6) (um 7) (um 8) (um 9) (um 10) (um 11) (um 12) (um 13) (um 14) (um 15) (um 16) (um 17) 0 0 0 0 0 0 (um 18) 0 (um 19) ) (cwV 2 hts (mm_gV mm_w1083 mm_w1084 mm_w1085 mm_w5 mm_w1086) rfl rfl rfl hd_X12_richest ⟨by rw [hRf]; exact Nat.le_of_ble_eq_true rfl, by rw [hRl]; exact Nat.le_of_ble_eq_true rfl⟩) (mm_preV hK hP hD [3, 4] rfl rfl 3 rfl rfl rfl) rfl rfl hl.1 rfl (lv_room (Nat.le_of_ble_eq_true rfl)) dL_law_1597 ⟨by rw [hRc]; exact Nat.le_of_ble_eq_true rfl, by rw [hRs]; exact Nat.le_of_ble_eq_true rfl⟩) hP hD hS hA [3, 4] rfl (fun _ => rfl) ?_
  clear hP hD hS
  clear H locs
  intro v10 _u H locs hw hP hD hS
  subst hw
  refine lv_icmp_eq (tgt := 3153) hx hb dL_law_1600 (by decide) (fun c11 => ?_) (fun c11 => ?_)
  · refine lv_iinc (v := 6) (lv' := [(3, .int 6), (2, .ref qm), (1, .ref qx), (0, .ref b)]) hx hb dL_law_3153 hl (k := 0) rfl (by decide) (by decide) rfl ?_
    clear hl
    clear ls
    intro ls hl
    refine lv_goto (tgt := 18) hx hb dL_law_3156 (by decide) ?_
    refine lv_iload_n hx hb dL_law_18 rfl (lv_at hl 0 rfl) ?_
    refine lv_aload_n hx hb dL_law_19 rfl (lv_at hl 3 rfl) ?_
    refine va_slen hx hb hX hbl hbA hS dL_law_20 ?_
    refine lv_topi (fun v12 ev12 => ?_)
    obtain rfl : v12 = 6 := ev12.trans (by decide)
    refine lv_bipush (v := 6) hx hb dL_law_21 (by decide) ?_
    refine lv_isub hx hb dL_law_23 ?_
    refine lv_topi (fun v13 ev13 => ?_)
    obtain rfl : v13 = 0 := ev13.trans (by decide)
    refine lv_icmp_gt (tgt := 3159) hx hb dL_law_24 (by decide) (fun c14 => ?_) (fun c14 => ?_)
    · refine lv_iconst (v := 1) hx hb dL_law_3159 (by decide) ?_
      refine va_forget (fun q hq => by have := hS.2.2 q hq; rw [hAe] at this; exact this) ?_
      refine W.widen (k := 600000) (n := 7302250) (Nat.le_of_ble_eq_true rfl) (Nat.le_of_ble_eq_true rfl) ?_
      exact lw_ret hx hb hr hlocks dL_law_3160
    · have q15 := mm_leL (mm_nlt c14) mm_k6 mm_k0
      exact mm_no q15 (by decide)
  · have q16 := mm_neL (lo := (-1)) (mm_ne c11) mm_km2 mm_km2 (by decide) (by decide)
    exact mm_no q16 (by decide)

set_option maxHeartbeats 4000000 in
set_option maxRecDepth 100000 in
theorem lc_33 {p : Program} {e : Env} {s : State} {m : MethodId} {below : List Frame} {meth : Method} {c : Code} {b : Nat} {xs : Nat → Int32} {G : va_G} {cy : Nat → ClassId} {qx qm : Nat} {ux um : Nat → Nat} {H : Heap} {locs : List Loc} {ls : Array Slot} {A : Nat → Prop} (l : Launch) (hx : p.tables.exec = Jvm.exec) (hb : c.code = code) (hr : meth.sig.returnType = ret) (hlocks : meth.locks = false) (hml : c.maxLocals = 4) (hown : s.vm.findClass R_law = some m.cls) (hts : ∀ w ∈ lw_x :: wsL_law, w.before #[Value.ref b] s = true) (hX : va_X b 6 xs s s.heap) (hbl : b < s.heap.size) (hAe : A = fun q => s.heap.size ≤ q) (hK : mm_K G cy s) (hS : va_S A s.heap H locs) (hP : va_P G vwCl [(qx, .inr (11, [.ref (ux 0), .ref (ux 2), .ref (ux 14), .ref (ux 36), .ref (ux 70), .ref (ux 71), .ref (ux 80), .ref (ux 82), .ref (ux 84), .ref (ux 89), .ref (ux 92)])), ((ux 14), .inr (10, [.ref (ux 15), .ref (ux 26)])), ((ux 15), .inr (0, [.int 0, .int 0, .int 0, .int 0, .int 0, .int 0, .int 0, .int 0, .ref (ux 16), .ref (ux 17), .ref (ux 18), .ref (ux 19), .ref (ux 20), .ref (ux 21), .ref (ux 22), .ref (ux 23), .ref (ux 24), .ref (ux 25)])), (qm, .inr (12, [.int 0, .ref (um 0), .ref (um 1), .ref (um 2), .ref (um 3), .ref (um 4), .int 0, .int 0, .int 0, .int 0, .int 0, .long 0, .int 0, .int 0, .int 0, .int (-1), .ref (um 5), .ref (um 6), .ref (um 7), .ref (um 8), .ref (um 9), .ref (um 10), .ref (um 11), .ref (um 12), .ref (um 13), .ref (um 14), .ref (um 15), .ref (um 16), .ref (um 17), .int 0, .int 0, .int 0, .int 0, .int 0, .int 0, .ref (um 18), .int 0, .ref (um 19)])), ((um 6), .inl (cy 1, 30, .inl (fun _ => 0)))] H) (hD : va_D A [(qx, .inr (11, [.ref (ux 0), .ref (ux 2), .ref (ux 14), .ref (ux 36), .ref (ux 70), .ref (ux 71), .ref (ux 80), .ref (ux 82), .ref (ux 84), .ref (ux 89), .ref (ux 92)])), ((ux 14), .inr (10, [.ref (ux 15), .ref (ux 26)])), ((ux 15), .inr (0, [.int 0, .int 0, .int 0, .int 0, .int 0, .int 0, .int 0, .int 0, .ref (ux 16), .ref (ux 17), .ref (ux 18), .ref (ux 19), .ref (ux 20), .ref (ux 21), .ref (ux 22), .ref (ux 23), .ref (ux 24), .ref (ux 25)])), (qm, .inr (12, [.int 0, .ref (um 0), .ref (um 1), .ref (um 2), .ref (um 3), .ref (um 4), .int 0, .int 0, .int 0, .int 0, .int 0, .long 0, .int 0, .int 0, .int 0, .int (-1), .ref (um 5), .ref (um 6), .ref (um 7), .ref (um 8), .ref (um 9), .ref (um 10), .ref (um 11), .ref (um 12), .ref (um 13), .ref (um 14), .ref (um 15), .ref (um 16), .ref (um 17), .int 0, .int 0, .int 0, .int 0, .int 0, .int 0, .ref (um 18), .int 0, .ref (um 19)])), ((um 6), .inl (cy 1, 30, .inl (fun _ => 0)))]) (hl : lv_has ls 4 [(3, .int 0), (2, .ref qm), (1, .ref qx), (0, .ref b)]) : W p l e room_1 s m #[Value.ref b] below meth c H locs 116 20302 (lw_Z below #[Value.ref b] s) (F0 m 1605 ls []) := by
  have hA : ∀ q, s.heap.size ≤ q → A q := by rw [hAe]; exact fun _ h => h
  have hbA : ¬ A b := by rw [hAe]; exact Nat.not_le.mpr hbl
  have hRf : room_1.frames = 2048 := rfl
  have hRl : room_1.locals = 84000 := rfl
  have hRc : room_1.cells = 600000 := rfl
  have hRs : room_1.slots = 7302250 := rfl
  obtain ⟨p1, ep1⟩ : ∃ z : Int32, z = xs 1 := ⟨_, rfl⟩
  obtain ⟨p2, ep2⟩ : ∃ z : Int32, z = xs 2 := ⟨_, rfl⟩
  obtain ⟨p3, ep3⟩ : ∃ z : Int32, z = xs 3 := ⟨_, rfl⟩
  obtain ⟨p4, ep4⟩ : ∃ z : Int32, z = xs 4 := ⟨_, rfl⟩
  obtain ⟨p5, ep5⟩ : ∃ z : Int32, z = xs 5 := ⟨_, rfl⟩
  refine lv_aload_n hx hb dL_law_1605 rfl (lv_at hl 2 rfl) ?_
  refine lv_aload_n hx hb dL_law_1606 rfl (lv_at hl 3 rfl) ?_
  refine lv_iload_n hx hb dL_law_1607 rfl (lv_at hl 0 rfl) ?_
  refine lv_iconst (v := 1) hx hb dL_law_1608 (by decide) ?_
  refine lv_iadd hx hb dL_law_1609 ?_
  refine lv_topi (fun v1 ev1 => ?_)
  obtain rfl : v1 = 1 := ev1.trans (by decide)
  refine va_sld hx hb hX hbl hbA hS (mm_in mm_k1 (by decide)) dL_law_1610 ?_
  refine lv_topi (fun v2 ev2 => ?_)
  obtain rfl : p1 = v2 := ep1.trans ev2.symm
  refine lv_aload_n hx hb dL_law_1611 rfl (lv_at hl 3 rfl) ?_
  refine lv_iload_n hx hb dL_law_1612 rfl (lv_at hl 0 rfl) ?_
  refine lv_iconst (v := 2) hx hb dL_law_1613 (by decide) ?_
  refine lv_iadd hx hb dL_law_1614 ?_
  refine lv_topi (fun v3 ev3 => ?_)
  obtain rfl : v3 = 2 := ev3.trans (by decide)
  refine va_sld hx hb hX hbl hbA hS (mm_in mm_k2 (by decide)) dL_law_1615 ?_
  refine lv_topi (fun v4 ev4 => ?_)
  obtain rfl : p2 = v4 := ep2.trans ev4.symm
  refine mm_finir (va_runV (As := [.int p1, .int p2]) (rest := []) ⟨hx, hb, hml, hown, hts⟩ (K186_X11_all l G cy H.size qx p1 p2 (ux 0) (ux 2) (ux 14) (ux 36) (ux 70) (ux 71) (ux 80) (ux 82) (ux 84) (ux 89) (ux 92) (ux 15) (ux 26) 0 0 0 0 0 0 0 (ux 16) (ux 17) (ux 18) (ux 19) (ux 20) (ux 21) (ux 22) (ux 23) (ux 24) (ux 25) ) (cwV 2 hts (mm_gV mm_w1091 mm_w1092 mm_w1093 mm_w2 mm_w1094) rfl rfl rfl hd_X11_all ⟨by rw [hRf]; exact Nat.le_of_ble_eq_true rfl, by rw [hRl]; exact Nat.le_of_ble_eq_true rfl⟩) (mm_preV hK hP hD [0, 1, 2] rfl rfl 0 rfl rfl rfl) rfl rfl hl.1 rfl (lv_room (Nat.le_of_ble_eq_true rfl)) dL_law_1616 ⟨by rw [hRc]; exact Nat.le_of_ble_eq_true rfl, by rw [hRs]; exact Nat.le_of_ble_eq_true rfl⟩) hP hD hS hA [0, 1, 2] rfl (fun _ => rfl) ?_
  clear hP hD hS
  clear H locs
  intro v5 _u H locs hw hP hD hS
  subst hw
  refine lv_aload_n hx hb dL_law_1619 rfl (lv_at hl 1 rfl) ?_
  refine lv_aload_n hx hb dL_law_1620 rfl (lv_at hl 3 rfl) ?_
  refine lv_iload_n hx hb dL_law_1621 rfl (lv_at hl 0 rfl) ?_
  refine lv_iconst (v := 1) hx hb dL_law_1622 (by decide) ?_
  refine lv_iadd hx hb dL_law_1623 ?_
  refine lv_topi (fun v6 ev6 => ?_)
  obtain rfl : v6 = 1 := ev6.trans (by decide)
  refine va_sld hx hb hX hbl hbA hS (mm_in mm_k1 (by decide)) dL_law_1624 ?_
  refine lv_topi (fun v7 ev7 => ?_)
  obtain rfl : p1 = v7 := ep1.trans ev7.symm
  refine lv_aload_n hx hb dL_law_1625 rfl (lv_at hl 3 rfl) ?_
  refine lv_iload_n hx hb dL_law_1626 rfl (lv_at hl 0 rfl) ?_
  refine lv_iconst (v := 2) hx hb dL_law_1627 (by decide) ?_
  refine lv_iadd hx hb dL_law_1628 ?_
  refine lv_topi (fun v8 ev8 => ?_)
  obtain rfl : v8 = 2 := ev8.trans (by decide)
  refine va_sld hx hb hX hbl hbA hS (mm_in mm_k2 (by decide)) dL_law_1629 ?_
  refine lv_topi (fun v9 ev9 => ?_)
  obtain rfl : p2 = v9 := ep2.trans ev9.symm
  refine mm_finir (va_runV (As := [.int p1, .int p2]) (rest := [.int (-2)]) ⟨hx, hb, hml, hown, hts⟩ (K187_X12_all l G cy H.size qm p1 p2 (um 0) (um 1) (um 2) (um 3) (um 4) 0 0 0 0 0 0 0 0 0 (-1) (um 5) (um 6) (um 7) (um 8) (um 9) (um 10) (um 11) (um 12) (um 13) (um 14) (um 15) (um 16) (um 17) 0 0 0 0 0 0 (um 18) 0 (um 19) ) (cwV 2 hts (mm_gV mm_w1097 mm_w1098 mm_w1099 mm_w5 mm_w1100) rfl rfl rfl hd_X12_all ⟨by rw [hRf]; exact Nat.le_of_ble_eq_true rfl, by rw [hRl]; exact Nat.le_of_ble_eq_true rfl⟩) (mm_preV hK hP hD [3, 4] rfl rfl 3 rfl rfl rfl) rfl rfl hl.1 rfl (lv_room (Nat.le_of_ble_eq_true rfl)) dL_law_1630 ⟨by rw [hRc]; exact Nat.le_of_ble_eq_true rfl, by rw [hRs]; exact Nat.le_of_ble_eq_true rfl⟩) hP hD hS hA [3, 4] rfl (fun _ => rfl) ?_
  clear hP hD hS
  clear H locs
  intro v10 _u H locs hw hP hD hS
  subst hw
  refine lv_icmp_eq (tgt := 3153) hx hb dL_law_1633 (by decide) (fun c11 => ?_) (fun c11 => ?_)
  · refine lv_iinc (v := 6) (lv' := [(3, .int 6), (2, .ref qm), (1, .ref qx), (0, .ref b)]) hx hb dL_law_3153 hl (k := 0) rfl (by decide) (by decide) rfl ?_
    clear hl
    clear ls
    intro ls hl
    refine lv_goto (tgt := 18) hx hb dL_law_3156 (by decide) ?_
    refine lv_iload_n hx hb dL_law_18 rfl (lv_at hl 0 rfl) ?_
    refine lv_aload_n hx hb dL_law_19 rfl (lv_at hl 3 rfl) ?_
    refine va_slen hx hb hX hbl hbA hS dL_law_20 ?_
    refine lv_topi (fun v12 ev12 => ?_)
    obtain rfl : v12 = 6 := ev12.trans (by decide)
    refine lv_bipush (v := 6) hx hb dL_law_21 (by decide) ?_
    refine lv_isub hx hb dL_law_23 ?_
    refine lv_topi (fun v13 ev13 => ?_)
    obtain rfl : v13 = 0 := ev13.trans (by decide)
    refine lv_icmp_gt (tgt := 3159) hx hb dL_law_24 (by decide) (fun c14 => ?_) (fun c14 => ?_)
    · refine lv_iconst (v := 1) hx hb dL_law_3159 (by decide) ?_
      refine va_forget (fun q hq => by have := hS.2.2 q hq; rw [hAe] at this; exact this) ?_
      refine W.widen (k := 600000) (n := 7302250) (Nat.le_of_ble_eq_true rfl) (Nat.le_of_ble_eq_true rfl) ?_
      exact lw_ret hx hb hr hlocks dL_law_3160
    · have q15 := mm_leL (mm_nlt c14) mm_k6 mm_k0
      exact mm_no q15 (by decide)
  · have q16 := mm_neL (lo := (-1)) (mm_ne c11) mm_km2 mm_km2 (by decide) (by decide)
    exact mm_no q16 (by decide)

set_option maxHeartbeats 4000000 in
set_option maxRecDepth 100000 in
theorem lc_34 {p : Program} {e : Env} {s : State} {m : MethodId} {below : List Frame} {meth : Method} {c : Code} {b : Nat} {xs : Nat → Int32} {G : va_G} {cy : Nat → ClassId} {qx qm : Nat} {ux um : Nat → Nat} {H : Heap} {locs : List Loc} {ls : Array Slot} {A : Nat → Prop} (l : Launch) (hx : p.tables.exec = Jvm.exec) (hb : c.code = code) (hr : meth.sig.returnType = ret) (hlocks : meth.locks = false) (hml : c.maxLocals = 4) (hown : s.vm.findClass R_law = some m.cls) (hts : ∀ w ∈ lw_x :: wsL_law, w.before #[Value.ref b] s = true) (hX : va_X b 6 xs s s.heap) (hbl : b < s.heap.size) (hAe : A = fun q => s.heap.size ≤ q) (hK : mm_K G cy s) (hS : va_S A s.heap H locs) (hP : va_P G vwCl [(qx, .inr (11, [.ref (ux 0), .ref (ux 2), .ref (ux 14), .ref (ux 36), .ref (ux 70), .ref (ux 71), .ref (ux 80), .ref (ux 82), .ref (ux 84), .ref (ux 89), .ref (ux 92)])), ((ux 14), .inr (10, [.ref (ux 15), .ref (ux 26)])), ((ux 15), .inr (0, [.int 0, .int 0, .int 0, .int 0, .int 0, .int 0, .int 0, .int 0, .ref (ux 16), .ref (ux 17), .ref (ux 18), .ref (ux 19), .ref (ux 20), .ref (ux 21), .ref (ux 22), .ref (ux 23), .ref (ux 24), .ref (ux 25)])), (qm, .inr (12, [.int 0, .ref (um 0), .ref (um 1), .ref (um 2), .ref (um 3), .ref (um 4), .int 0, .int 0, .int 0, .int 0, .int 0, .long 0, .int 0, .int 0, .int 0, .int (-1), .ref (um 5), .ref (um 6), .ref (um 7), .ref (um 8), .ref (um 9), .ref (um 10), .ref (um 11), .ref (um 12), .ref (um 13), .ref (um 14), .ref (um 15), .ref (um 16), .ref (um 17), .int 0, .int 0, .int 0, .int 0, .int 0, .int 0, .ref (um 18), .int 0, .ref (um 19)])), ((um 6), .inl (cy 1, 30, .inl (fun _ => 0)))] H) (hD : va_D A [(qx, .inr (11, [.ref (ux 0), .ref (ux 2), .ref (ux 14), .ref (ux 36), .ref (ux 70), .ref (ux 71), .ref (ux 80), .ref (ux 82), .ref (ux 84), .ref (ux 89), .ref (ux 92)])), ((ux 14), .inr (10, [.ref (ux 15), .ref (ux 26)])), ((ux 15), .inr (0, [.int 0, .int 0, .int 0, .int 0, .int 0, .int 0, .int 0, .int 0, .ref (ux 16), .ref (ux 17), .ref (ux 18), .ref (ux 19), .ref (ux 20), .ref (ux 21), .ref (ux 22), .ref (ux 23), .ref (ux 24), .ref (ux 25)])), (qm, .inr (12, [.int 0, .ref (um 0), .ref (um 1), .ref (um 2), .ref (um 3), .ref (um 4), .int 0, .int 0, .int 0, .int 0, .int 0, .long 0, .int 0, .int 0, .int 0, .int (-1), .ref (um 5), .ref (um 6), .ref (um 7), .ref (um 8), .ref (um 9), .ref (um 10), .ref (um 11), .ref (um 12), .ref (um 13), .ref (um 14), .ref (um 15), .ref (um 16), .ref (um 17), .int 0, .int 0, .int 0, .int 0, .int 0, .int 0, .ref (um 18), .int 0, .ref (um 19)])), ((um 6), .inl (cy 1, 30, .inl (fun _ => 0)))]) (hl : lv_has ls 4 [(3, .int 0), (2, .ref qm), (1, .ref qx), (0, .ref b)]) : W p l e room_1 s m #[Value.ref b] below meth c H locs 116 20302 (lw_Z below #[Value.ref b] s) (F0 m 1638 ls []) := by
  have hA : ∀ q, s.heap.size ≤ q → A q := by rw [hAe]; exact fun _ h => h
  have hbA : ¬ A b := by rw [hAe]; exact Nat.not_le.mpr hbl
  have hRf : room_1.frames = 2048 := rfl
  have hRl : room_1.locals = 84000 := rfl
  have hRc : room_1.cells = 600000 := rfl
  have hRs : room_1.slots = 7302250 := rfl
  obtain ⟨p1, ep1⟩ : ∃ z : Int32, z = xs 1 := ⟨_, rfl⟩
  obtain ⟨p2, ep2⟩ : ∃ z : Int32, z = xs 2 := ⟨_, rfl⟩
  obtain ⟨p3, ep3⟩ : ∃ z : Int32, z = xs 3 := ⟨_, rfl⟩
  obtain ⟨p4, ep4⟩ : ∃ z : Int32, z = xs 4 := ⟨_, rfl⟩
  obtain ⟨p5, ep5⟩ : ∃ z : Int32, z = xs 5 := ⟨_, rfl⟩
  refine lv_aload_n hx hb dL_law_1638 rfl (lv_at hl 2 rfl) ?_
  refine lv_aload_n hx hb dL_law_1639 rfl (lv_at hl 3 rfl) ?_
  refine lv_iload_n hx hb dL_law_1640 rfl (lv_at hl 0 rfl) ?_
  refine lv_iconst (v := 1) hx hb dL_law_1641 (by decide) ?_
  refine lv_iadd hx hb dL_law_1642 ?_
  refine lv_topi (fun v1 ev1 => ?_)
  obtain rfl : v1 = 1 := ev1.trans (by decide)
  refine va_sld hx hb hX hbl hbA hS (mm_in mm_k1 (by decide)) dL_law_1643 ?_
  refine lv_topi (fun v2 ev2 => ?_)
  obtain rfl : p1 = v2 := ep1.trans ev2.symm
  refine lv_aload_n hx hb dL_law_1644 rfl (lv_at hl 3 rfl) ?_
  refine lv_iload_n hx hb dL_law_1645 rfl (lv_at hl 0 rfl) ?_
  refine lv_iconst (v := 2) hx hb dL_law_1646 (by decide) ?_
  refine lv_iadd hx hb dL_law_1647 ?_
  refine lv_topi (fun v3 ev3 => ?_)
  obtain rfl : v3 = 2 := ev3.trans (by decide)
  refine va_sld hx hb hX hbl hbA hS (mm_in mm_k2 (by decide)) dL_law_1648 ?_
  refine lv_topi (fun v4 ev4 => ?_)
  obtain rfl : p2 = v4 := ep2.trans ev4.symm
  refine lv_aload_n hx hb dL_law_1649 rfl (lv_at hl 3 rfl) ?_
  refine lv_iload_n hx hb dL_law_1650 rfl (lv_at hl 0 rfl) ?_
  refine lv_iconst (v := 3) hx hb dL_law_1651 (by decide) ?_
  refine lv_iadd hx hb dL_law_1652 ?_
  refine lv_topi (fun v5 ev5 => ?_)
  obtain rfl : v5 = 3 := ev5.trans (by decide)
  refine va_sld hx hb hX hbl hbA hS (mm_in mm_k3 (by decide)) dL_law_1653 ?_
  refine lv_topi (fun v6 ev6 => ?_)
  obtain rfl : p3 = v6 := ep3.trans ev6.symm
  refine mm_finir (va_runV (As := [.int p1, .int p2, .int p3]) (rest := []) ⟨hx, hb, hml, hown, hts⟩ (K188_X11_turned l G cy H.size qx p1 p2 p3 (ux 0) (ux 2) (ux 14) (ux 36) (ux 70) (ux 71) (ux 80) (ux 82) (ux 84) (ux 89) (ux 92) (ux 15) (ux 26) 0 0 0 0 0 0 0 (ux 16) (ux 17) (ux 18) (ux 19) (ux 20) (ux 21) (ux 22) (ux 23) (ux 24) (ux 25) ) (cwV 3 hts (mm_gV mm_w1101 mm_w1102 mm_w1103 mm_w2 mm_w1104) rfl rfl rfl hd_X11_turned ⟨by rw [hRf]; exact Nat.le_of_ble_eq_true rfl, by rw [hRl]; exact Nat.le_of_ble_eq_true rfl⟩) (mm_preV hK hP hD [0, 1, 2] rfl rfl 0 rfl rfl rfl) rfl rfl hl.1 rfl (lv_room (Nat.le_of_ble_eq_true rfl)) dL_law_1654 ⟨by rw [hRc]; exact Nat.le_of_ble_eq_true rfl, by rw [hRs]; exact Nat.le_of_ble_eq_true rfl⟩) hP hD hS hA [0, 1, 2] rfl (fun _ => rfl) ?_
  clear hP hD hS
  clear H locs
  intro v7 _u H locs hw hP hD hS
  subst hw
  refine lv_aload_n hx hb dL_law_1657 rfl (lv_at hl 1 rfl) ?_
  refine lv_aload_n hx hb dL_law_1658 rfl (lv_at hl 3 rfl) ?_
  refine lv_iload_n hx hb dL_law_1659 rfl (lv_at hl 0 rfl) ?_
  refine lv_iconst (v := 1) hx hb dL_law_1660 (by decide) ?_
  refine lv_iadd hx hb dL_law_1661 ?_
  refine lv_topi (fun v8 ev8 => ?_)
  obtain rfl : v8 = 1 := ev8.trans (by decide)
  refine va_sld hx hb hX hbl hbA hS (mm_in mm_k1 (by decide)) dL_law_1662 ?_
  refine lv_topi (fun v9 ev9 => ?_)
  obtain rfl : p1 = v9 := ep1.trans ev9.symm
  refine lv_aload_n hx hb dL_law_1663 rfl (lv_at hl 3 rfl) ?_
  refine lv_iload_n hx hb dL_law_1664 rfl (lv_at hl 0 rfl) ?_
  refine lv_iconst (v := 2) hx hb dL_law_1665 (by decide) ?_
  refine lv_iadd hx hb dL_law_1666 ?_
  refine lv_topi (fun v10 ev10 => ?_)
  obtain rfl : v10 = 2 := ev10.trans (by decide)
  refine va_sld hx hb hX hbl hbA hS (mm_in mm_k2 (by decide)) dL_law_1667 ?_
  refine lv_topi (fun v11 ev11 => ?_)
  obtain rfl : p2 = v11 := ep2.trans ev11.symm
  refine lv_aload_n hx hb dL_law_1668 rfl (lv_at hl 3 rfl) ?_
  refine lv_iload_n hx hb dL_law_1669 rfl (lv_at hl 0 rfl) ?_
  refine lv_iconst (v := 3) hx hb dL_law_1670 (by decide) ?_
  refine lv_iadd hx hb dL_law_1671 ?_
  refine lv_topi (fun v12 ev12 => ?_)
  obtain rfl : v12 = 3 := ev12.trans (by decide)
  refine va_sld hx hb hX hbl hbA hS (mm_in mm_k3 (by decide)) dL_law_1672 ?_
  refine lv_topi (fun v13 ev13 => ?_)
  obtain rfl : p3 = v13 := ep3.trans ev13.symm
  refine mm_finir (va_runV (As := [.int p1, .int p2, .int p3]) (rest := [.int (-2)]) ⟨hx, hb, hml, hown, hts⟩ (K189_X12_turned l G cy H.size qm p1 p2 p3 (um 0) (um 1) (um 2) (um 3) (um 4) 0 0 0 0 0 0 0 0 0 (-1) (um 5) (um 6) (um 7) (um 8) (um 9) (um 10) (um 11) (um 12) (um 13) (um 14) (um 15) (um 16) (um 17) 0 0 0 0 0 0 (um 18) 0 (um 19) ) (cwV 3 hts (mm_gV mm_w1110 mm_w1111 mm_w1112 mm_w5 mm_w1113) rfl rfl rfl hd_X12_turned ⟨by rw [hRf]; exact Nat.le_of_ble_eq_true rfl, by rw [hRl]; exact Nat.le_of_ble_eq_true rfl⟩) (mm_preV hK hP hD [3, 4] rfl rfl 3 rfl rfl rfl) rfl rfl hl.1 rfl (lv_room (Nat.le_of_ble_eq_true rfl)) dL_law_1673 ⟨by rw [hRc]; exact Nat.le_of_ble_eq_true rfl, by rw [hRs]; exact Nat.le_of_ble_eq_true rfl⟩) hP hD hS hA [3, 4] rfl (fun _ => rfl) ?_
  clear hP hD hS
  clear H locs
  intro v14 _u H locs hw hP hD hS
  subst hw
  refine lv_icmp_eq (tgt := 3153) hx hb dL_law_1676 (by decide) (fun c15 => ?_) (fun c15 => ?_)
  · refine lv_iinc (v := 6) (lv' := [(3, .int 6), (2, .ref qm), (1, .ref qx), (0, .ref b)]) hx hb dL_law_3153 hl (k := 0) rfl (by decide) (by decide) rfl ?_
    clear hl
    clear ls
    intro ls hl
    refine lv_goto (tgt := 18) hx hb dL_law_3156 (by decide) ?_
    refine lv_iload_n hx hb dL_law_18 rfl (lv_at hl 0 rfl) ?_
    refine lv_aload_n hx hb dL_law_19 rfl (lv_at hl 3 rfl) ?_
    refine va_slen hx hb hX hbl hbA hS dL_law_20 ?_
    refine lv_topi (fun v16 ev16 => ?_)
    obtain rfl : v16 = 6 := ev16.trans (by decide)
    refine lv_bipush (v := 6) hx hb dL_law_21 (by decide) ?_
    refine lv_isub hx hb dL_law_23 ?_
    refine lv_topi (fun v17 ev17 => ?_)
    obtain rfl : v17 = 0 := ev17.trans (by decide)
    refine lv_icmp_gt (tgt := 3159) hx hb dL_law_24 (by decide) (fun c18 => ?_) (fun c18 => ?_)
    · refine lv_iconst (v := 1) hx hb dL_law_3159 (by decide) ?_
      refine va_forget (fun q hq => by have := hS.2.2 q hq; rw [hAe] at this; exact this) ?_
      refine W.widen (k := 600000) (n := 7302250) (Nat.le_of_ble_eq_true rfl) (Nat.le_of_ble_eq_true rfl) ?_
      exact lw_ret hx hb hr hlocks dL_law_3160
    · have q19 := mm_leL (mm_nlt c18) mm_k6 mm_k0
      exact mm_no q19 (by decide)
  · have q20 := mm_neL (lo := (-1)) (mm_ne c15) mm_km2 mm_km2 (by decide) (by decide)
    exact mm_no q20 (by decide)

set_option maxHeartbeats 4000000 in
set_option maxRecDepth 100000 in
theorem lc_35 {p : Program} {e : Env} {s : State} {m : MethodId} {below : List Frame} {meth : Method} {c : Code} {b : Nat} {xs : Nat → Int32} {G : va_G} {cy : Nat → ClassId} {qx qm : Nat} {ux um : Nat → Nat} {H : Heap} {locs : List Loc} {ls : Array Slot} {A : Nat → Prop} (l : Launch) (hx : p.tables.exec = Jvm.exec) (hb : c.code = code) (hr : meth.sig.returnType = ret) (hlocks : meth.locks = false) (hml : c.maxLocals = 4) (hown : s.vm.findClass R_law = some m.cls) (hts : ∀ w ∈ lw_x :: wsL_law, w.before #[Value.ref b] s = true) (hX : va_X b 6 xs s s.heap) (hbl : b < s.heap.size) (hAe : A = fun q => s.heap.size ≤ q) (hK : mm_K G cy s) (hS : va_S A s.heap H locs) (hP : va_P G vwCl [(qx, .inr (11, [.ref (ux 0), .ref (ux 2), .ref (ux 14), .ref (ux 36), .ref (ux 70), .ref (ux 71), .ref (ux 80), .ref (ux 82), .ref (ux 84), .ref (ux 89), .ref (ux 92)])), ((ux 14), .inr (10, [.ref (ux 15), .ref (ux 26)])), ((ux 15), .inr (0, [.int 0, .int 0, .int 0, .int 0, .int 0, .int 0, .int 0, .int 0, .ref (ux 16), .ref (ux 17), .ref (ux 18), .ref (ux 19), .ref (ux 20), .ref (ux 21), .ref (ux 22), .ref (ux 23), .ref (ux 24), .ref (ux 25)])), (qm, .inr (12, [.int 0, .ref (um 0), .ref (um 1), .ref (um 2), .ref (um 3), .ref (um 4), .int 0, .int 0, .int 0, .int 0, .int 0, .long 0, .int 0, .int 0, .int 0, .int (-1), .ref (um 5), .ref (um 6), .ref (um 7), .ref (um 8), .ref (um 9), .ref (um 10), .ref (um 11), .ref (um 12), .ref (um 13), .ref (um 14), .ref (um 15), .ref (um 16), .ref (um 17), .int 0, .int 0, .int 0, .int 0, .int 0, .int 0, .ref (um 18), .int 0, .ref (um 19)])), ((um 6), .inl (cy 1, 30, .inl (fun _ => 0)))] H) (hD : va_D A [(qx, .inr (11, [.ref (ux 0), .ref (ux 2), .ref (ux 14), .ref (ux 36), .ref (ux 70), .ref (ux 71), .ref (ux 80), .ref (ux 82), .ref (ux 84), .ref (ux 89), .ref (ux 92)])), ((ux 14), .inr (10, [.ref (ux 15), .ref (ux 26)])), ((ux 15), .inr (0, [.int 0, .int 0, .int 0, .int 0, .int 0, .int 0, .int 0, .int 0, .ref (ux 16), .ref (ux 17), .ref (ux 18), .ref (ux 19), .ref (ux 20), .ref (ux 21), .ref (ux 22), .ref (ux 23), .ref (ux 24), .ref (ux 25)])), (qm, .inr (12, [.int 0, .ref (um 0), .ref (um 1), .ref (um 2), .ref (um 3), .ref (um 4), .int 0, .int 0, .int 0, .int 0, .int 0, .long 0, .int 0, .int 0, .int 0, .int (-1), .ref (um 5), .ref (um 6), .ref (um 7), .ref (um 8), .ref (um 9), .ref (um 10), .ref (um 11), .ref (um 12), .ref (um 13), .ref (um 14), .ref (um 15), .ref (um 16), .ref (um 17), .int 0, .int 0, .int 0, .int 0, .int 0, .int 0, .ref (um 18), .int 0, .ref (um 19)])), ((um 6), .inl (cy 1, 30, .inl (fun _ => 0)))]) (hl : lv_has ls 4 [(3, .int 0), (2, .ref qm), (1, .ref qx), (0, .ref b)]) : W p l e room_1 s m #[Value.ref b] below meth c H locs 116 20302 (lw_Z below #[Value.ref b] s) (F0 m 1681 ls []) := by
  have hA : ∀ q, s.heap.size ≤ q → A q := by rw [hAe]; exact fun _ h => h
  have hbA : ¬ A b := by rw [hAe]; exact Nat.not_le.mpr hbl
  have hRf : room_1.frames = 2048 := rfl
  have hRl : room_1.locals = 84000 := rfl
  have hRc : room_1.cells = 600000 := rfl
  have hRs : room_1.slots = 7302250 := rfl
  obtain ⟨p1, ep1⟩ : ∃ z : Int32, z = xs 1 := ⟨_, rfl⟩
  obtain ⟨p2, ep2⟩ : ∃ z : Int32, z = xs 2 := ⟨_, rfl⟩
  obtain ⟨p3, ep3⟩ : ∃ z : Int32, z = xs 3 := ⟨_, rfl⟩
  obtain ⟨p4, ep4⟩ : ∃ z : Int32, z = xs 4 := ⟨_, rfl⟩
  obtain ⟨p5, ep5⟩ : ∃ z : Int32, z = xs 5 := ⟨_, rfl⟩
  refine lv_aload_n hx hb dL_law_1681 rfl (lv_at hl 2 rfl) ?_
  refine lv_aload_n hx hb dL_law_1682 rfl (lv_at hl 3 rfl) ?_
  refine lv_iload_n hx hb dL_law_1683 rfl (lv_at hl 0 rfl) ?_
  refine lv_iconst (v := 1) hx hb dL_law_1684 (by decide) ?_
  refine lv_iadd hx hb dL_law_1685 ?_
  refine lv_topi (fun v1 ev1 => ?_)
  obtain rfl : v1 = 1 := ev1.trans (by decide)
  refine va_sld hx hb hX hbl hbA hS (mm_in mm_k1 (by decide)) dL_law_1686 ?_
  refine lv_topi (fun v2 ev2 => ?_)
  obtain rfl : p1 = v2 := ep1.trans ev2.symm
  refine lv_aload_n hx hb dL_law_1687 rfl (lv_at hl 3 rfl) ?_
  refine lv_iload_n hx hb dL_law_1688 rfl (lv_at hl 0 rfl) ?_
  refine lv_iconst (v := 2) hx hb dL_law_1689 (by decide) ?_
  refine lv_iadd hx hb dL_law_1690 ?_
  refine lv_topi (fun v3 ev3 => ?_)
  obtain rfl : v3 = 2 := ev3.trans (by decide)
  refine va_sld hx hb hX hbl hbA hS (mm_in mm_k2 (by decide)) dL_law_1691 ?_
  refine lv_topi (fun v4 ev4 => ?_)
  obtain rfl : p2 = v4 := ep2.trans ev4.symm
  refine mm_finir (va_runV (As := [.int p1, .int p2]) (rest := []) ⟨hx, hb, hml, hown, hts⟩ (K190_X11_cycle l G cy H.size qx p1 p2 (ux 0) (ux 2) (ux 14) (ux 36) (ux 70) (ux 71) (ux 80) (ux 82) (ux 84) (ux 89) (ux 92) (ux 15) (ux 26) 0 0 0 0 0 0 0 (ux 16) (ux 17) (ux 18) (ux 19) (ux 20) (ux 21) (ux 22) (ux 23) (ux 24) (ux 25) ) (cwV 2 hts (mm_gV mm_w1114 mm_w1115 mm_w1116 mm_w2 mm_w1117) rfl rfl rfl hd_X11_cycle ⟨by rw [hRf]; exact Nat.le_of_ble_eq_true rfl, by rw [hRl]; exact Nat.le_of_ble_eq_true rfl⟩) (mm_preV hK hP hD [0, 1, 2] rfl rfl 0 rfl rfl rfl) rfl rfl hl.1 rfl (lv_room (Nat.le_of_ble_eq_true rfl)) dL_law_1692 ⟨by rw [hRc]; exact Nat.le_of_ble_eq_true rfl, by rw [hRs]; exact Nat.le_of_ble_eq_true rfl⟩) hP hD hS hA [0, 1, 2] rfl (fun _ => rfl) ?_
  clear hP hD hS
  clear H locs
  intro v5 _u H locs hw hP hD hS
  subst hw
  refine lv_aload_n hx hb dL_law_1695 rfl (lv_at hl 1 rfl) ?_
  refine lv_aload_n hx hb dL_law_1696 rfl (lv_at hl 3 rfl) ?_
  refine lv_iload_n hx hb dL_law_1697 rfl (lv_at hl 0 rfl) ?_
  refine lv_iconst (v := 1) hx hb dL_law_1698 (by decide) ?_
  refine lv_iadd hx hb dL_law_1699 ?_
  refine lv_topi (fun v6 ev6 => ?_)
  obtain rfl : v6 = 1 := ev6.trans (by decide)
  refine va_sld hx hb hX hbl hbA hS (mm_in mm_k1 (by decide)) dL_law_1700 ?_
  refine lv_topi (fun v7 ev7 => ?_)
  obtain rfl : p1 = v7 := ep1.trans ev7.symm
  refine lv_aload_n hx hb dL_law_1701 rfl (lv_at hl 3 rfl) ?_
  refine lv_iload_n hx hb dL_law_1702 rfl (lv_at hl 0 rfl) ?_
  refine lv_iconst (v := 2) hx hb dL_law_1703 (by decide) ?_
  refine lv_iadd hx hb dL_law_1704 ?_
  refine lv_topi (fun v8 ev8 => ?_)
  obtain rfl : v8 = 2 := ev8.trans (by decide)
  refine va_sld hx hb hX hbl hbA hS (mm_in mm_k2 (by decide)) dL_law_1705 ?_
  refine lv_topi (fun v9 ev9 => ?_)
  obtain rfl : p2 = v9 := ep2.trans ev9.symm
  refine mm_finir (va_runV (As := [.int p1, .int p2]) (rest := [.int (-2)]) ⟨hx, hb, hml, hown, hts⟩ (K191_X12_cycle l G cy H.size qm p1 p2 (um 0) (um 1) (um 2) (um 3) (um 4) 0 0 0 0 0 0 0 0 0 (-1) (um 5) (um 6) (um 7) (um 8) (um 9) (um 10) (um 11) (um 12) (um 13) (um 14) (um 15) (um 16) (um 17) 0 0 0 0 0 0 (um 18) 0 (um 19) ) (cwV 2 hts (mm_gV mm_w1119 mm_w1120 mm_w1121 mm_w5 mm_w1122) rfl rfl rfl hd_X12_cycle ⟨by rw [hRf]; exact Nat.le_of_ble_eq_true rfl, by rw [hRl]; exact Nat.le_of_ble_eq_true rfl⟩) (mm_preV hK hP hD [3, 4] rfl rfl 3 rfl rfl rfl) rfl rfl hl.1 rfl (lv_room (Nat.le_of_ble_eq_true rfl)) dL_law_1706 ⟨by rw [hRc]; exact Nat.le_of_ble_eq_true rfl, by rw [hRs]; exact Nat.le_of_ble_eq_true rfl⟩) hP hD hS hA [3, 4] rfl (fun _ => rfl) ?_
  clear hP hD hS
  clear H locs
  intro v10 _u H locs hw hP hD hS
  subst hw
  refine lv_icmp_eq (tgt := 3153) hx hb dL_law_1709 (by decide) (fun c11 => ?_) (fun c11 => ?_)
  · refine lv_iinc (v := 6) (lv' := [(3, .int 6), (2, .ref qm), (1, .ref qx), (0, .ref b)]) hx hb dL_law_3153 hl (k := 0) rfl (by decide) (by decide) rfl ?_
    clear hl
    clear ls
    intro ls hl
    refine lv_goto (tgt := 18) hx hb dL_law_3156 (by decide) ?_
    refine lv_iload_n hx hb dL_law_18 rfl (lv_at hl 0 rfl) ?_
    refine lv_aload_n hx hb dL_law_19 rfl (lv_at hl 3 rfl) ?_
    refine va_slen hx hb hX hbl hbA hS dL_law_20 ?_
    refine lv_topi (fun v12 ev12 => ?_)
    obtain rfl : v12 = 6 := ev12.trans (by decide)
    refine lv_bipush (v := 6) hx hb dL_law_21 (by decide) ?_
    refine lv_isub hx hb dL_law_23 ?_
    refine lv_topi (fun v13 ev13 => ?_)
    obtain rfl : v13 = 0 := ev13.trans (by decide)
    refine lv_icmp_gt (tgt := 3159) hx hb dL_law_24 (by decide) (fun c14 => ?_) (fun c14 => ?_)
    · refine lv_iconst (v := 1) hx hb dL_law_3159 (by decide) ?_
      refine va_forget (fun q hq => by have := hS.2.2 q hq; rw [hAe] at this; exact this) ?_
      refine W.widen (k := 600000) (n := 7302250) (Nat.le_of_ble_eq_true rfl) (Nat.le_of_ble_eq_true rfl) ?_
      exact lw_ret hx hb hr hlocks dL_law_3160
    · have q15 := mm_leL (mm_nlt c14) mm_k6 mm_k0
      exact mm_no q15 (by decide)
  · have q16 := mm_neL (lo := (-1)) (mm_ne c11) mm_km2 mm_km2 (by decide) (by decide)
    exact mm_no q16 (by decide)

set_option maxHeartbeats 4000000 in
set_option maxRecDepth 100000 in
theorem lc_36 {p : Program} {e : Env} {s : State} {m : MethodId} {below : List Frame} {meth : Method} {c : Code} {b : Nat} {xs : Nat → Int32} {G : va_G} {cy : Nat → ClassId} {qx qm : Nat} {ux um : Nat → Nat} {H : Heap} {locs : List Loc} {ls : Array Slot} {A : Nat → Prop} (l : Launch) (hx : p.tables.exec = Jvm.exec) (hb : c.code = code) (hr : meth.sig.returnType = ret) (hlocks : meth.locks = false) (hml : c.maxLocals = 4) (hown : s.vm.findClass R_law = some m.cls) (hts : ∀ w ∈ lw_x :: wsL_law, w.before #[Value.ref b] s = true) (hX : va_X b 6 xs s s.heap) (hbl : b < s.heap.size) (hAe : A = fun q => s.heap.size ≤ q) (hK : mm_K G cy s) (hS : va_S A s.heap H locs) (hP : va_P G vwCl [(qx, .inr (11, [.ref (ux 0), .ref (ux 2), .ref (ux 14), .ref (ux 36), .ref (ux 70), .ref (ux 71), .ref (ux 80), .ref (ux 82), .ref (ux 84), .ref (ux 89), .ref (ux 92)])), ((ux 14), .inr (10, [.ref (ux 15), .ref (ux 26)])), ((ux 15), .inr (0, [.int 0, .int 0, .int 0, .int 0, .int 0, .int 0, .int 0, .int 0, .ref (ux 16), .ref (ux 17), .ref (ux 18), .ref (ux 19), .ref (ux 20), .ref (ux 21), .ref (ux 22), .ref (ux 23), .ref (ux 24), .ref (ux 25)])), (qm, .inr (12, [.int 0, .ref (um 0), .ref (um 1), .ref (um 2), .ref (um 3), .ref (um 4), .int 0, .int 0, .int 0, .int 0, .int 0, .long 0, .int 0, .int 0, .int 0, .int (-1), .ref (um 5), .ref (um 6), .ref (um 7), .ref (um 8), .ref (um 9), .ref (um 10), .ref (um 11), .ref (um 12), .ref (um 13), .ref (um 14), .ref (um 15), .ref (um 16), .ref (um 17), .int 0, .int 0, .int 0, .int 0, .int 0, .int 0, .ref (um 18), .int 0, .ref (um 19)])), ((um 6), .inl (cy 1, 30, .inl (fun _ => 0)))] H) (hD : va_D A [(qx, .inr (11, [.ref (ux 0), .ref (ux 2), .ref (ux 14), .ref (ux 36), .ref (ux 70), .ref (ux 71), .ref (ux 80), .ref (ux 82), .ref (ux 84), .ref (ux 89), .ref (ux 92)])), ((ux 14), .inr (10, [.ref (ux 15), .ref (ux 26)])), ((ux 15), .inr (0, [.int 0, .int 0, .int 0, .int 0, .int 0, .int 0, .int 0, .int 0, .ref (ux 16), .ref (ux 17), .ref (ux 18), .ref (ux 19), .ref (ux 20), .ref (ux 21), .ref (ux 22), .ref (ux 23), .ref (ux 24), .ref (ux 25)])), (qm, .inr (12, [.int 0, .ref (um 0), .ref (um 1), .ref (um 2), .ref (um 3), .ref (um 4), .int 0, .int 0, .int 0, .int 0, .int 0, .long 0, .int 0, .int 0, .int 0, .int (-1), .ref (um 5), .ref (um 6), .ref (um 7), .ref (um 8), .ref (um 9), .ref (um 10), .ref (um 11), .ref (um 12), .ref (um 13), .ref (um 14), .ref (um 15), .ref (um 16), .ref (um 17), .int 0, .int 0, .int 0, .int 0, .int 0, .int 0, .ref (um 18), .int 0, .ref (um 19)])), ((um 6), .inl (cy 1, 30, .inl (fun _ => 0)))]) (hl : lv_has ls 4 [(3, .int 0), (2, .ref qm), (1, .ref qx), (0, .ref b)]) : W p l e room_1 s m #[Value.ref b] below meth c H locs 116 20302 (lw_Z below #[Value.ref b] s) (F0 m 1714 ls []) := by
  have hA : ∀ q, s.heap.size ≤ q → A q := by rw [hAe]; exact fun _ h => h
  have hbA : ¬ A b := by rw [hAe]; exact Nat.not_le.mpr hbl
  have hRf : room_1.frames = 2048 := rfl
  have hRl : room_1.locals = 84000 := rfl
  have hRc : room_1.cells = 600000 := rfl
  have hRs : room_1.slots = 7302250 := rfl
  obtain ⟨p1, ep1⟩ : ∃ z : Int32, z = xs 1 := ⟨_, rfl⟩
  obtain ⟨p2, ep2⟩ : ∃ z : Int32, z = xs 2 := ⟨_, rfl⟩
  obtain ⟨p3, ep3⟩ : ∃ z : Int32, z = xs 3 := ⟨_, rfl⟩
  obtain ⟨p4, ep4⟩ : ∃ z : Int32, z = xs 4 := ⟨_, rfl⟩
  obtain ⟨p5, ep5⟩ : ∃ z : Int32, z = xs 5 := ⟨_, rfl⟩
  refine lv_aload_n hx hb dL_law_1714 rfl (lv_at hl 2 rfl) ?_
  refine lv_aload_n hx hb dL_law_1715 rfl (lv_at hl 3 rfl) ?_
  refine lv_iload_n hx hb dL_law_1716 rfl (lv_at hl 0 rfl) ?_
  refine lv_iconst (v := 1) hx hb dL_law_1717 (by decide) ?_
  refine lv_iadd hx hb dL_law_1718 ?_
  refine lv_topi (fun v1 ev1 => ?_)
  obtain rfl : v1 = 1 := ev1.trans (by decide)
  refine va_sld hx hb hX hbl hbA hS (mm_in mm_k1 (by decide)) dL_law_1719 ?_
  refine lv_topi (fun v2 ev2 => ?_)
  obtain rfl : p1 = v2 := ep1.trans ev2.symm
  refine mm_finir (va_runV (As := [.int p1]) (rest := []) ⟨hx, hb, hml, hown, hts⟩ (K192_X11_fixed l G cy H.size qx p1 (ux 0) (ux 2) (ux 14) (ux 36) (ux 70) (ux 71) (ux 80) (ux 82) (ux 84) (ux 89) (ux 92) (ux 15) (ux 26) 0 0 0 0 0 0 0 (ux 16) (ux 17) (ux 18) (ux 19) (ux 20) (ux 21) (ux 22) (ux 23) (ux 24) (ux 25) ) (cwV 1 hts (mm_gV mm_w1123 mm_w1124 mm_w1125 mm_w2 mm_w1126) rfl rfl rfl hd_X11_fixed ⟨by rw [hRf]; exact Nat.le_of_ble_eq_true rfl, by rw [hRl]; exact Nat.le_of_ble_eq_true rfl⟩) (mm_preV hK hP hD [0, 1, 2] rfl rfl 0 rfl rfl rfl) rfl rfl hl.1 rfl (lv_room (Nat.le_of_ble_eq_true rfl)) dL_law_1720 ⟨by rw [hRc]; exact Nat.le_of_ble_eq_true rfl, by rw [hRs]; exact Nat.le_of_ble_eq_true rfl⟩) hP hD hS hA [0, 1, 2] rfl (fun _ => rfl) ?_
  clear hP hD hS
  clear H locs
  intro v3 _u H locs hw hP hD hS
  subst hw
  refine lv_aload_n hx hb dL_law_1723 rfl (lv_at hl 1 rfl) ?_
  refine lv_aload_n hx hb dL_law_1724 rfl (lv_at hl 3 rfl) ?_
  refine lv_iload_n hx hb dL_law_1725 rfl (lv_at hl 0 rfl) ?_
  refine lv_iconst (v := 1) hx hb dL_law_1726 (by decide) ?_
  refine lv_iadd hx hb dL_law_1727 ?_
  refine lv_topi (fun v4 ev4 => ?_)
  obtain rfl : v4 = 1 := ev4.trans (by decide)
  refine va_sld hx hb hX hbl hbA hS (mm_in mm_k1 (by decide)) dL_law_1728 ?_
  refine lv_topi (fun v5 ev5 => ?_)
  obtain rfl : p1 = v5 := ep1.trans ev5.symm
  refine mm_finir (va_runV (As := [.int p1]) (rest := [.int (-2)]) ⟨hx, hb, hml, hown, hts⟩ (K193_X12_fixed l G cy H.size qm p1 (um 0) (um 1) (um 2) (um 3) (um 4) 0 0 0 0 0 0 0 0 0 (-1) (um 5) (um 6) (um 7) (um 8) (um 9) (um 10) (um 11) (um 12) (um 13) (um 14) (um 15) (um 16) (um 17) 0 0 0 0 0 0 (um 18) 0 (um 19) ) (cwV 1 hts (mm_gV mm_w1128 mm_w1129 mm_w1130 mm_w5 mm_w1131) rfl rfl rfl hd_X12_fixed ⟨by rw [hRf]; exact Nat.le_of_ble_eq_true rfl, by rw [hRl]; exact Nat.le_of_ble_eq_true rfl⟩) (mm_preV hK hP hD [3, 4] rfl rfl 3 rfl rfl rfl) rfl rfl hl.1 rfl (lv_room (Nat.le_of_ble_eq_true rfl)) dL_law_1729 ⟨by rw [hRc]; exact Nat.le_of_ble_eq_true rfl, by rw [hRs]; exact Nat.le_of_ble_eq_true rfl⟩) hP hD hS hA [3, 4] rfl (fun _ => rfl) ?_
  clear hP hD hS
  clear H locs
  intro v6 _u H locs hw hP hD hS
  subst hw
  refine lv_icmp_eq (tgt := 3153) hx hb dL_law_1732 (by decide) (fun c7 => ?_) (fun c7 => ?_)
  · refine lv_iinc (v := 6) (lv' := [(3, .int 6), (2, .ref qm), (1, .ref qx), (0, .ref b)]) hx hb dL_law_3153 hl (k := 0) rfl (by decide) (by decide) rfl ?_
    clear hl
    clear ls
    intro ls hl
    refine lv_goto (tgt := 18) hx hb dL_law_3156 (by decide) ?_
    refine lv_iload_n hx hb dL_law_18 rfl (lv_at hl 0 rfl) ?_
    refine lv_aload_n hx hb dL_law_19 rfl (lv_at hl 3 rfl) ?_
    refine va_slen hx hb hX hbl hbA hS dL_law_20 ?_
    refine lv_topi (fun v8 ev8 => ?_)
    obtain rfl : v8 = 6 := ev8.trans (by decide)
    refine lv_bipush (v := 6) hx hb dL_law_21 (by decide) ?_
    refine lv_isub hx hb dL_law_23 ?_
    refine lv_topi (fun v9 ev9 => ?_)
    obtain rfl : v9 = 0 := ev9.trans (by decide)
    refine lv_icmp_gt (tgt := 3159) hx hb dL_law_24 (by decide) (fun c10 => ?_) (fun c10 => ?_)
    · refine lv_iconst (v := 1) hx hb dL_law_3159 (by decide) ?_
      refine va_forget (fun q hq => by have := hS.2.2 q hq; rw [hAe] at this; exact this) ?_
      refine W.widen (k := 600000) (n := 7302250) (Nat.le_of_ble_eq_true rfl) (Nat.le_of_ble_eq_true rfl) ?_
      exact lw_ret hx hb hr hlocks dL_law_3160
    · have q11 := mm_leL (mm_nlt c10) mm_k6 mm_k0
      exact mm_no q11 (by decide)
  · have q12 := mm_neL (lo := (-1)) (mm_ne c7) mm_km2 mm_km2 (by decide) (by decide)
    exact mm_no q12 (by decide)

set_option maxHeartbeats 4000000 in
set_option maxRecDepth 100000 in
theorem lc_37 {p : Program} {e : Env} {s : State} {m : MethodId} {below : List Frame} {meth : Method} {c : Code} {b : Nat} {xs : Nat → Int32} {G : va_G} {cy : Nat → ClassId} {qx qm : Nat} {ux um : Nat → Nat} {H : Heap} {locs : List Loc} {ls : Array Slot} {A : Nat → Prop} (l : Launch) (hx : p.tables.exec = Jvm.exec) (hb : c.code = code) (hr : meth.sig.returnType = ret) (hlocks : meth.locks = false) (hml : c.maxLocals = 4) (hown : s.vm.findClass R_law = some m.cls) (hts : ∀ w ∈ lw_x :: wsL_law, w.before #[Value.ref b] s = true) (hX : va_X b 6 xs s s.heap) (hbl : b < s.heap.size) (hAe : A = fun q => s.heap.size ≤ q) (hK : mm_K G cy s) (hS : va_S A s.heap H locs) (hP : va_P G vwCl [(qx, .inr (11, [.ref (ux 0), .ref (ux 2), .ref (ux 14), .ref (ux 36), .ref (ux 70), .ref (ux 71), .ref (ux 80), .ref (ux 82), .ref (ux 84), .ref (ux 89), .ref (ux 92)])), ((ux 14), .inr (10, [.ref (ux 15), .ref (ux 26)])), ((ux 15), .inr (0, [.int 0, .int 0, .int 0, .int 0, .int 0, .int 0, .int 0, .int 0, .ref (ux 16), .ref (ux 17), .ref (ux 18), .ref (ux 19), .ref (ux 20), .ref (ux 21), .ref (ux 22), .ref (ux 23), .ref (ux 24), .ref (ux 25)])), (qm, .inr (12, [.int 0, .ref (um 0), .ref (um 1), .ref (um 2), .ref (um 3), .ref (um 4), .int 0, .int 0, .int 0, .int 0, .int 0, .long 0, .int 0, .int 0, .int 0, .int (-1), .ref (um 5), .ref (um 6), .ref (um 7), .ref (um 8), .ref (um 9), .ref (um 10), .ref (um 11), .ref (um 12), .ref (um 13), .ref (um 14), .ref (um 15), .ref (um 16), .ref (um 17), .int 0, .int 0, .int 0, .int 0, .int 0, .int 0, .ref (um 18), .int 0, .ref (um 19)])), ((um 6), .inl (cy 1, 30, .inl (fun _ => 0)))] H) (hD : va_D A [(qx, .inr (11, [.ref (ux 0), .ref (ux 2), .ref (ux 14), .ref (ux 36), .ref (ux 70), .ref (ux 71), .ref (ux 80), .ref (ux 82), .ref (ux 84), .ref (ux 89), .ref (ux 92)])), ((ux 14), .inr (10, [.ref (ux 15), .ref (ux 26)])), ((ux 15), .inr (0, [.int 0, .int 0, .int 0, .int 0, .int 0, .int 0, .int 0, .int 0, .ref (ux 16), .ref (ux 17), .ref (ux 18), .ref (ux 19), .ref (ux 20), .ref (ux 21), .ref (ux 22), .ref (ux 23), .ref (ux 24), .ref (ux 25)])), (qm, .inr (12, [.int 0, .ref (um 0), .ref (um 1), .ref (um 2), .ref (um 3), .ref (um 4), .int 0, .int 0, .int 0, .int 0, .int 0, .long 0, .int 0, .int 0, .int 0, .int (-1), .ref (um 5), .ref (um 6), .ref (um 7), .ref (um 8), .ref (um 9), .ref (um 10), .ref (um 11), .ref (um 12), .ref (um 13), .ref (um 14), .ref (um 15), .ref (um 16), .ref (um 17), .int 0, .int 0, .int 0, .int 0, .int 0, .int 0, .ref (um 18), .int 0, .ref (um 19)])), ((um 6), .inl (cy 1, 30, .inl (fun _ => 0)))]) (hl : lv_has ls 4 [(3, .int 0), (2, .ref qm), (1, .ref qx), (0, .ref b)]) : W p l e room_1 s m #[Value.ref b] below meth c H locs 116 20302 (lw_Z below #[Value.ref b] s) (F0 m 1737 ls []) := by
  have hA : ∀ q, s.heap.size ≤ q → A q := by rw [hAe]; exact fun _ h => h
  have hbA : ¬ A b := by rw [hAe]; exact Nat.not_le.mpr hbl
  have hRf : room_1.frames = 2048 := rfl
  have hRl : room_1.locals = 84000 := rfl
  have hRc : room_1.cells = 600000 := rfl
  have hRs : room_1.slots = 7302250 := rfl
  obtain ⟨p1, ep1⟩ : ∃ z : Int32, z = xs 1 := ⟨_, rfl⟩
  obtain ⟨p2, ep2⟩ : ∃ z : Int32, z = xs 2 := ⟨_, rfl⟩
  obtain ⟨p3, ep3⟩ : ∃ z : Int32, z = xs 3 := ⟨_, rfl⟩
  obtain ⟨p4, ep4⟩ : ∃ z : Int32, z = xs 4 := ⟨_, rfl⟩
  obtain ⟨p5, ep5⟩ : ∃ z : Int32, z = xs 5 := ⟨_, rfl⟩
  refine lv_aload_n hx hb dL_law_1737 rfl (lv_at hl 2 rfl) ?_
  refine lv_aload_n hx hb dL_law_1738 rfl (lv_at hl 3 rfl) ?_
  refine lv_iload_n hx hb dL_law_1739 rfl (lv_at hl 0 rfl) ?_
  refine lv_iconst (v := 1) hx hb dL_law_1740 (by decide) ?_
  refine lv_iadd hx hb dL_law_1741 ?_
  refine lv_topi (fun v1 ev1 => ?_)
  obtain rfl : v1 = 1 := ev1.trans (by decide)
  refine va_sld hx hb hX hbl hbA hS (mm_in mm_k1 (by decide)) dL_law_1742 ?_
  refine lv_topi (fun v2 ev2 => ?_)
  obtain rfl : p1 = v2 := ep1.trans ev2.symm
  refine mm_finir (va_runV (As := [.int p1]) (rest := []) ⟨hx, hb, hml, hown, hts⟩ (K194_X11_order l G cy H.size qx p1 (ux 0) (ux 2) (ux 14) (ux 36) (ux 70) (ux 71) (ux 80) (ux 82) (ux 84) (ux 89) (ux 92) (ux 15) (ux 26) 0 0 0 0 0 0 0 (ux 16) (ux 17) (ux 18) (ux 19) (ux 20) (ux 21) (ux 22) (ux 23) (ux 24) (ux 25) ) (cwV 1 hts (mm_gV mm_w1132 mm_w1133 mm_w1134 mm_w2 mm_w1135) rfl rfl rfl hd_X11_order ⟨by rw [hRf]; exact Nat.le_of_ble_eq_true rfl, by rw [hRl]; exact Nat.le_of_ble_eq_true rfl⟩) (mm_preV hK hP hD [0, 1, 2] rfl rfl 0 rfl rfl rfl) rfl rfl hl.1 rfl (lv_room (Nat.le_of_ble_eq_true rfl)) dL_law_1743 ⟨by rw [hRc]; exact Nat.le_of_ble_eq_true rfl, by rw [hRs]; exact Nat.le_of_ble_eq_true rfl⟩) hP hD hS hA [0, 1, 2] rfl (fun _ => rfl) ?_
  clear hP hD hS
  clear H locs
  intro v3 _u H locs hw hP hD hS
  subst hw
  refine lv_aload_n hx hb dL_law_1746 rfl (lv_at hl 1 rfl) ?_
  refine lv_aload_n hx hb dL_law_1747 rfl (lv_at hl 3 rfl) ?_
  refine lv_iload_n hx hb dL_law_1748 rfl (lv_at hl 0 rfl) ?_
  refine lv_iconst (v := 1) hx hb dL_law_1749 (by decide) ?_
  refine lv_iadd hx hb dL_law_1750 ?_
  refine lv_topi (fun v4 ev4 => ?_)
  obtain rfl : v4 = 1 := ev4.trans (by decide)
  refine va_sld hx hb hX hbl hbA hS (mm_in mm_k1 (by decide)) dL_law_1751 ?_
  refine lv_topi (fun v5 ev5 => ?_)
  obtain rfl : p1 = v5 := ep1.trans ev5.symm
  refine mm_finir (va_runV (As := [.int p1]) (rest := [.int (-2)]) ⟨hx, hb, hml, hown, hts⟩ (K195_X12_order l G cy H.size qm p1 (um 0) (um 1) (um 2) (um 3) (um 4) 0 0 0 0 0 0 0 0 0 (-1) (um 5) (um 6) (um 7) (um 8) (um 9) (um 10) (um 11) (um 12) (um 13) (um 14) (um 15) (um 16) (um 17) 0 0 0 0 0 0 (um 18) 0 (um 19) ) (cwV 1 hts (mm_gV mm_w1137 mm_w1138 mm_w1139 mm_w5 mm_w1140) rfl rfl rfl hd_X12_order ⟨by rw [hRf]; exact Nat.le_of_ble_eq_true rfl, by rw [hRl]; exact Nat.le_of_ble_eq_true rfl⟩) (mm_preV hK hP hD [3, 4] rfl rfl 3 rfl rfl rfl) rfl rfl hl.1 rfl (lv_room (Nat.le_of_ble_eq_true rfl)) dL_law_1752 ⟨by rw [hRc]; exact Nat.le_of_ble_eq_true rfl, by rw [hRs]; exact Nat.le_of_ble_eq_true rfl⟩) hP hD hS hA [3, 4] rfl (fun _ => rfl) ?_
  clear hP hD hS
  clear H locs
  intro v6 _u H locs hw hP hD hS
  subst hw
  refine lv_icmp_eq (tgt := 3153) hx hb dL_law_1755 (by decide) (fun c7 => ?_) (fun c7 => ?_)
  · refine lv_iinc (v := 6) (lv' := [(3, .int 6), (2, .ref qm), (1, .ref qx), (0, .ref b)]) hx hb dL_law_3153 hl (k := 0) rfl (by decide) (by decide) rfl ?_
    clear hl
    clear ls
    intro ls hl
    refine lv_goto (tgt := 18) hx hb dL_law_3156 (by decide) ?_
    refine lv_iload_n hx hb dL_law_18 rfl (lv_at hl 0 rfl) ?_
    refine lv_aload_n hx hb dL_law_19 rfl (lv_at hl 3 rfl) ?_
    refine va_slen hx hb hX hbl hbA hS dL_law_20 ?_
    refine lv_topi (fun v8 ev8 => ?_)
    obtain rfl : v8 = 6 := ev8.trans (by decide)
    refine lv_bipush (v := 6) hx hb dL_law_21 (by decide) ?_
    refine lv_isub hx hb dL_law_23 ?_
    refine lv_topi (fun v9 ev9 => ?_)
    obtain rfl : v9 = 0 := ev9.trans (by decide)
    refine lv_icmp_gt (tgt := 3159) hx hb dL_law_24 (by decide) (fun c10 => ?_) (fun c10 => ?_)
    · refine lv_iconst (v := 1) hx hb dL_law_3159 (by decide) ?_
      refine va_forget (fun q hq => by have := hS.2.2 q hq; rw [hAe] at this; exact this) ?_
      refine W.widen (k := 600000) (n := 7302250) (Nat.le_of_ble_eq_true rfl) (Nat.le_of_ble_eq_true rfl) ?_
      exact lw_ret hx hb hr hlocks dL_law_3160
    · have q11 := mm_leL (mm_nlt c10) mm_k6 mm_k0
      exact mm_no q11 (by decide)
  · have q12 := mm_neL (lo := (-1)) (mm_ne c7) mm_km2 mm_km2 (by decide) (by decide)
    exact mm_no q12 (by decide)

set_option maxHeartbeats 4000000 in
set_option maxRecDepth 100000 in
theorem lc_38 {p : Program} {e : Env} {s : State} {m : MethodId} {below : List Frame} {meth : Method} {c : Code} {b : Nat} {xs : Nat → Int32} {G : va_G} {cy : Nat → ClassId} {qx qm : Nat} {ux um : Nat → Nat} {H : Heap} {locs : List Loc} {ls : Array Slot} {A : Nat → Prop} (l : Launch) (hx : p.tables.exec = Jvm.exec) (hb : c.code = code) (hr : meth.sig.returnType = ret) (hlocks : meth.locks = false) (hml : c.maxLocals = 4) (hown : s.vm.findClass R_law = some m.cls) (hts : ∀ w ∈ lw_x :: wsL_law, w.before #[Value.ref b] s = true) (hX : va_X b 6 xs s s.heap) (hbl : b < s.heap.size) (hAe : A = fun q => s.heap.size ≤ q) (hK : mm_K G cy s) (hS : va_S A s.heap H locs) (hP : va_P G vwCl [(qx, .inr (11, [.ref (ux 0), .ref (ux 2), .ref (ux 14), .ref (ux 36), .ref (ux 70), .ref (ux 71), .ref (ux 80), .ref (ux 82), .ref (ux 84), .ref (ux 89), .ref (ux 92)])), ((ux 14), .inr (10, [.ref (ux 15), .ref (ux 26)])), ((ux 15), .inr (0, [.int 0, .int 0, .int 0, .int 0, .int 0, .int 0, .int 0, .int 0, .ref (ux 16), .ref (ux 17), .ref (ux 18), .ref (ux 19), .ref (ux 20), .ref (ux 21), .ref (ux 22), .ref (ux 23), .ref (ux 24), .ref (ux 25)])), (qm, .inr (12, [.int 0, .ref (um 0), .ref (um 1), .ref (um 2), .ref (um 3), .ref (um 4), .int 0, .int 0, .int 0, .int 0, .int 0, .long 0, .int 0, .int 0, .int 0, .int (-1), .ref (um 5), .ref (um 6), .ref (um 7), .ref (um 8), .ref (um 9), .ref (um 10), .ref (um 11), .ref (um 12), .ref (um 13), .ref (um 14), .ref (um 15), .ref (um 16), .ref (um 17), .int 0, .int 0, .int 0, .int 0, .int 0, .int 0, .ref (um 18), .int 0, .ref (um 19)])), ((um 6), .inl (cy 1, 30, .inl (fun _ => 0)))] H) (hD : va_D A [(qx, .inr (11, [.ref (ux 0), .ref (ux 2), .ref (ux 14), .ref (ux 36), .ref (ux 70), .ref (ux 71), .ref (ux 80), .ref (ux 82), .ref (ux 84), .ref (ux 89), .ref (ux 92)])), ((ux 14), .inr (10, [.ref (ux 15), .ref (ux 26)])), ((ux 15), .inr (0, [.int 0, .int 0, .int 0, .int 0, .int 0, .int 0, .int 0, .int 0, .ref (ux 16), .ref (ux 17), .ref (ux 18), .ref (ux 19), .ref (ux 20), .ref (ux 21), .ref (ux 22), .ref (ux 23), .ref (ux 24), .ref (ux 25)])), (qm, .inr (12, [.int 0, .ref (um 0), .ref (um 1), .ref (um 2), .ref (um 3), .ref (um 4), .int 0, .int 0, .int 0, .int 0, .int 0, .long 0, .int 0, .int 0, .int 0, .int (-1), .ref (um 5), .ref (um 6), .ref (um 7), .ref (um 8), .ref (um 9), .ref (um 10), .ref (um 11), .ref (um 12), .ref (um 13), .ref (um 14), .ref (um 15), .ref (um 16), .ref (um 17), .int 0, .int 0, .int 0, .int 0, .int 0, .int 0, .ref (um 18), .int 0, .ref (um 19)])), ((um 6), .inl (cy 1, 30, .inl (fun _ => 0)))]) (hl : lv_has ls 4 [(3, .int 0), (2, .ref qm), (1, .ref qx), (0, .ref b)]) : W p l e room_1 s m #[Value.ref b] below meth c H locs 116 20302 (lw_Z below #[Value.ref b] s) (F0 m 1760 ls []) := by
  have hA : ∀ q, s.heap.size ≤ q → A q := by rw [hAe]; exact fun _ h => h
  have hbA : ¬ A b := by rw [hAe]; exact Nat.not_le.mpr hbl
  have hRf : room_1.frames = 2048 := rfl
  have hRl : room_1.locals = 84000 := rfl
  have hRc : room_1.cells = 600000 := rfl
  have hRs : room_1.slots = 7302250 := rfl
  obtain ⟨p1, ep1⟩ : ∃ z : Int32, z = xs 1 := ⟨_, rfl⟩
  obtain ⟨p2, ep2⟩ : ∃ z : Int32, z = xs 2 := ⟨_, rfl⟩
  obtain ⟨p3, ep3⟩ : ∃ z : Int32, z = xs 3 := ⟨_, rfl⟩
  obtain ⟨p4, ep4⟩ : ∃ z : Int32, z = xs 4 := ⟨_, rfl⟩
  obtain ⟨p5, ep5⟩ : ∃ z : Int32, z = xs 5 := ⟨_, rfl⟩
  refine lv_aload_n hx hb dL_law_1760 rfl (lv_at hl 2 rfl) ?_
  refine lv_aload_n hx hb dL_law_1761 rfl (lv_at hl 3 rfl) ?_
  refine lv_iload_n hx hb dL_law_1762 rfl (lv_at hl 0 rfl) ?_
  refine lv_iconst (v := 1) hx hb dL_law_1763 (by decide) ?_
  refine lv_iadd hx hb dL_law_1764 ?_
  refine lv_topi (fun v1 ev1 => ?_)
  obtain rfl : v1 = 1 := ev1.trans (by decide)
  refine va_sld hx hb hX hbl hbA hS (mm_in mm_k1 (by decide)) dL_law_1765 ?_
  refine lv_topi (fun v2 ev2 => ?_)
  obtain rfl : p1 = v2 := ep1.trans ev2.symm
  refine lv_aload_n hx hb dL_law_1766 rfl (lv_at hl 3 rfl) ?_
  refine lv_iload_n hx hb dL_law_1767 rfl (lv_at hl 0 rfl) ?_
  refine lv_iconst (v := 2) hx hb dL_law_1768 (by decide) ?_
  refine lv_iadd hx hb dL_law_1769 ?_
  refine lv_topi (fun v3 ev3 => ?_)
  obtain rfl : v3 = 2 := ev3.trans (by decide)
  refine va_sld hx hb hX hbl hbA hS (mm_in mm_k2 (by decide)) dL_law_1770 ?_
  refine lv_topi (fun v4 ev4 => ?_)
  obtain rfl : p2 = v4 := ep2.trans ev4.symm
  refine mm_finir (va_runV (As := [.int p1, .int p2]) (rest := []) ⟨hx, hb, hml, hown, hts⟩ (K196_X11_even l G cy H.size qx p1 p2 (ux 0) (ux 2) (ux 14) (ux 36) (ux 70) (ux 71) (ux 80) (ux 82) (ux 84) (ux 89) (ux 92) (ux 15) (ux 26) 0 0 0 0 0 0 0 (ux 16) (ux 17) (ux 18) (ux 19) (ux 20) (ux 21) (ux 22) (ux 23) (ux 24) (ux 25) ) (cwV 2 hts (mm_gV mm_w1141 mm_w1142 mm_w1143 mm_w2 mm_w1144) rfl rfl rfl hd_X11_even ⟨by rw [hRf]; exact Nat.le_of_ble_eq_true rfl, by rw [hRl]; exact Nat.le_of_ble_eq_true rfl⟩) (mm_preV hK hP hD [0, 1, 2] rfl rfl 0 rfl rfl rfl) rfl rfl hl.1 rfl (lv_room (Nat.le_of_ble_eq_true rfl)) dL_law_1771 ⟨by rw [hRc]; exact Nat.le_of_ble_eq_true rfl, by rw [hRs]; exact Nat.le_of_ble_eq_true rfl⟩) hP hD hS hA [0, 1, 2] rfl (fun _ => rfl) ?_
  clear hP hD hS
  clear H locs
  intro v5 _u H locs hw hP hD hS
  subst hw
  refine lv_aload_n hx hb dL_law_1774 rfl (lv_at hl 1 rfl) ?_
  refine lv_aload_n hx hb dL_law_1775 rfl (lv_at hl 3 rfl) ?_
  refine lv_iload_n hx hb dL_law_1776 rfl (lv_at hl 0 rfl) ?_
  refine lv_iconst (v := 1) hx hb dL_law_1777 (by decide) ?_
  refine lv_iadd hx hb dL_law_1778 ?_
  refine lv_topi (fun v6 ev6 => ?_)
  obtain rfl : v6 = 1 := ev6.trans (by decide)
  refine va_sld hx hb hX hbl hbA hS (mm_in mm_k1 (by decide)) dL_law_1779 ?_
  refine lv_topi (fun v7 ev7 => ?_)
  obtain rfl : p1 = v7 := ep1.trans ev7.symm
  refine lv_aload_n hx hb dL_law_1780 rfl (lv_at hl 3 rfl) ?_
  refine lv_iload_n hx hb dL_law_1781 rfl (lv_at hl 0 rfl) ?_
  refine lv_iconst (v := 2) hx hb dL_law_1782 (by decide) ?_
  refine lv_iadd hx hb dL_law_1783 ?_
  refine lv_topi (fun v8 ev8 => ?_)
  obtain rfl : v8 = 2 := ev8.trans (by decide)
  refine va_sld hx hb hX hbl hbA hS (mm_in mm_k2 (by decide)) dL_law_1784 ?_
  refine lv_topi (fun v9 ev9 => ?_)
  obtain rfl : p2 = v9 := ep2.trans ev9.symm
  refine mm_finir (va_runV (As := [.int p1, .int p2]) (rest := [.int (-2)]) ⟨hx, hb, hml, hown, hts⟩ (K197_X12_even l G cy H.size qm p1 p2 (um 0) (um 1) (um 2) (um 3) (um 4) 0 0 0 0 0 0 0 0 0 (-1) (um 5) (um 6) (um 7) (um 8) (um 9) (um 10) (um 11) (um 12) (um 13) (um 14) (um 15) (um 16) (um 17) 0 0 0 0 0 0 (um 18) 0 (um 19) ) (cwV 2 hts (mm_gV mm_w1145 mm_w1146 mm_w1147 mm_w5 mm_w1148) rfl rfl rfl hd_X12_even ⟨by rw [hRf]; exact Nat.le_of_ble_eq_true rfl, by rw [hRl]; exact Nat.le_of_ble_eq_true rfl⟩) (mm_preV hK hP hD [3, 4] rfl rfl 3 rfl rfl rfl) rfl rfl hl.1 rfl (lv_room (Nat.le_of_ble_eq_true rfl)) dL_law_1785 ⟨by rw [hRc]; exact Nat.le_of_ble_eq_true rfl, by rw [hRs]; exact Nat.le_of_ble_eq_true rfl⟩) hP hD hS hA [3, 4] rfl (fun _ => rfl) ?_
  clear hP hD hS
  clear H locs
  intro v10 _u H locs hw hP hD hS
  subst hw
  refine lv_icmp_eq (tgt := 3153) hx hb dL_law_1788 (by decide) (fun c11 => ?_) (fun c11 => ?_)
  · refine lv_iinc (v := 6) (lv' := [(3, .int 6), (2, .ref qm), (1, .ref qx), (0, .ref b)]) hx hb dL_law_3153 hl (k := 0) rfl (by decide) (by decide) rfl ?_
    clear hl
    clear ls
    intro ls hl
    refine lv_goto (tgt := 18) hx hb dL_law_3156 (by decide) ?_
    refine lv_iload_n hx hb dL_law_18 rfl (lv_at hl 0 rfl) ?_
    refine lv_aload_n hx hb dL_law_19 rfl (lv_at hl 3 rfl) ?_
    refine va_slen hx hb hX hbl hbA hS dL_law_20 ?_
    refine lv_topi (fun v12 ev12 => ?_)
    obtain rfl : v12 = 6 := ev12.trans (by decide)
    refine lv_bipush (v := 6) hx hb dL_law_21 (by decide) ?_
    refine lv_isub hx hb dL_law_23 ?_
    refine lv_topi (fun v13 ev13 => ?_)
    obtain rfl : v13 = 0 := ev13.trans (by decide)
    refine lv_icmp_gt (tgt := 3159) hx hb dL_law_24 (by decide) (fun c14 => ?_) (fun c14 => ?_)
    · refine lv_iconst (v := 1) hx hb dL_law_3159 (by decide) ?_
      refine va_forget (fun q hq => by have := hS.2.2 q hq; rw [hAe] at this; exact this) ?_
      refine W.widen (k := 600000) (n := 7302250) (Nat.le_of_ble_eq_true rfl) (Nat.le_of_ble_eq_true rfl) ?_
      exact lw_ret hx hb hr hlocks dL_law_3160
    · have q15 := mm_leL (mm_nlt c14) mm_k6 mm_k0
      exact mm_no q15 (by decide)
  · have q16 := mm_neL (lo := (-1)) (mm_ne c11) mm_km2 mm_km2 (by decide) (by decide)
    exact mm_no q16 (by decide)

set_option maxHeartbeats 4000000 in
set_option maxRecDepth 100000 in
theorem lc_39 {p : Program} {e : Env} {s : State} {m : MethodId} {below : List Frame} {meth : Method} {c : Code} {b : Nat} {xs : Nat → Int32} {G : va_G} {cy : Nat → ClassId} {qx qm : Nat} {ux um : Nat → Nat} {H : Heap} {locs : List Loc} {ls : Array Slot} {A : Nat → Prop} (l : Launch) (hx : p.tables.exec = Jvm.exec) (hb : c.code = code) (hr : meth.sig.returnType = ret) (hlocks : meth.locks = false) (hml : c.maxLocals = 4) (hown : s.vm.findClass R_law = some m.cls) (hts : ∀ w ∈ lw_x :: wsL_law, w.before #[Value.ref b] s = true) (hX : va_X b 6 xs s s.heap) (hbl : b < s.heap.size) (hAe : A = fun q => s.heap.size ≤ q) (hK : mm_K G cy s) (hS : va_S A s.heap H locs) (hP : va_P G vwCl [(qx, .inr (11, [.ref (ux 0), .ref (ux 2), .ref (ux 14), .ref (ux 36), .ref (ux 70), .ref (ux 71), .ref (ux 80), .ref (ux 82), .ref (ux 84), .ref (ux 89), .ref (ux 92)])), ((ux 14), .inr (10, [.ref (ux 15), .ref (ux 26)])), ((ux 15), .inr (0, [.int 0, .int 0, .int 0, .int 0, .int 0, .int 0, .int 0, .int 0, .ref (ux 16), .ref (ux 17), .ref (ux 18), .ref (ux 19), .ref (ux 20), .ref (ux 21), .ref (ux 22), .ref (ux 23), .ref (ux 24), .ref (ux 25)])), (qm, .inr (12, [.int 0, .ref (um 0), .ref (um 1), .ref (um 2), .ref (um 3), .ref (um 4), .int 0, .int 0, .int 0, .int 0, .int 0, .long 0, .int 0, .int 0, .int 0, .int (-1), .ref (um 5), .ref (um 6), .ref (um 7), .ref (um 8), .ref (um 9), .ref (um 10), .ref (um 11), .ref (um 12), .ref (um 13), .ref (um 14), .ref (um 15), .ref (um 16), .ref (um 17), .int 0, .int 0, .int 0, .int 0, .int 0, .int 0, .ref (um 18), .int 0, .ref (um 19)])), ((um 6), .inl (cy 1, 30, .inl (fun _ => 0)))] H) (hD : va_D A [(qx, .inr (11, [.ref (ux 0), .ref (ux 2), .ref (ux 14), .ref (ux 36), .ref (ux 70), .ref (ux 71), .ref (ux 80), .ref (ux 82), .ref (ux 84), .ref (ux 89), .ref (ux 92)])), ((ux 14), .inr (10, [.ref (ux 15), .ref (ux 26)])), ((ux 15), .inr (0, [.int 0, .int 0, .int 0, .int 0, .int 0, .int 0, .int 0, .int 0, .ref (ux 16), .ref (ux 17), .ref (ux 18), .ref (ux 19), .ref (ux 20), .ref (ux 21), .ref (ux 22), .ref (ux 23), .ref (ux 24), .ref (ux 25)])), (qm, .inr (12, [.int 0, .ref (um 0), .ref (um 1), .ref (um 2), .ref (um 3), .ref (um 4), .int 0, .int 0, .int 0, .int 0, .int 0, .long 0, .int 0, .int 0, .int 0, .int (-1), .ref (um 5), .ref (um 6), .ref (um 7), .ref (um 8), .ref (um 9), .ref (um 10), .ref (um 11), .ref (um 12), .ref (um 13), .ref (um 14), .ref (um 15), .ref (um 16), .ref (um 17), .int 0, .int 0, .int 0, .int 0, .int 0, .int 0, .ref (um 18), .int 0, .ref (um 19)])), ((um 6), .inl (cy 1, 30, .inl (fun _ => 0)))]) (hl : lv_has ls 4 [(3, .int 0), (2, .ref qm), (1, .ref qx), (0, .ref b)]) : W p l e room_1 s m #[Value.ref b] below meth c H locs 116 20302 (lw_Z below #[Value.ref b] s) (F0 m 1793 ls []) := by
  have hA : ∀ q, s.heap.size ≤ q → A q := by rw [hAe]; exact fun _ h => h
  have hbA : ¬ A b := by rw [hAe]; exact Nat.not_le.mpr hbl
  have hRf : room_1.frames = 2048 := rfl
  have hRl : room_1.locals = 84000 := rfl
  have hRc : room_1.cells = 600000 := rfl
  have hRs : room_1.slots = 7302250 := rfl
  obtain ⟨p1, ep1⟩ : ∃ z : Int32, z = xs 1 := ⟨_, rfl⟩
  obtain ⟨p2, ep2⟩ : ∃ z : Int32, z = xs 2 := ⟨_, rfl⟩
  obtain ⟨p3, ep3⟩ : ∃ z : Int32, z = xs 3 := ⟨_, rfl⟩
  obtain ⟨p4, ep4⟩ : ∃ z : Int32, z = xs 4 := ⟨_, rfl⟩
  obtain ⟨p5, ep5⟩ : ∃ z : Int32, z = xs 5 := ⟨_, rfl⟩
  refine lv_aload_n hx hb dL_law_1793 rfl (lv_at hl 2 rfl) ?_
  refine lv_aload_n hx hb dL_law_1794 rfl (lv_at hl 3 rfl) ?_
  refine lv_iload_n hx hb dL_law_1795 rfl (lv_at hl 0 rfl) ?_
  refine lv_iconst (v := 1) hx hb dL_law_1796 (by decide) ?_
  refine lv_iadd hx hb dL_law_1797 ?_
  refine lv_topi (fun v1 ev1 => ?_)
  obtain rfl : v1 = 1 := ev1.trans (by decide)
  refine va_sld hx hb hX hbl hbA hS (mm_in mm_k1 (by decide)) dL_law_1798 ?_
  refine lv_topi (fun v2 ev2 => ?_)
  obtain rfl : p1 = v2 := ep1.trans ev2.symm
  refine lv_aload_n hx hb dL_law_1799 rfl (lv_at hl 3 rfl) ?_
  refine lv_iload_n hx hb dL_law_1800 rfl (lv_at hl 0 rfl) ?_
  refine lv_iconst (v := 2) hx hb dL_law_1801 (by decide) ?_
  refine lv_iadd hx hb dL_law_1802 ?_
  refine lv_topi (fun v3 ev3 => ?_)
  obtain rfl : v3 = 2 := ev3.trans (by decide)
  refine va_sld hx hb hX hbl hbA hS (mm_in mm_k2 (by decide)) dL_law_1803 ?_
  refine lv_topi (fun v4 ev4 => ?_)
  obtain rfl : p2 = v4 := ep2.trans ev4.symm
  refine lv_aload_n hx hb dL_law_1804 rfl (lv_at hl 3 rfl) ?_
  refine lv_iload_n hx hb dL_law_1805 rfl (lv_at hl 0 rfl) ?_
  refine lv_iconst (v := 3) hx hb dL_law_1806 (by decide) ?_
  refine lv_iadd hx hb dL_law_1807 ?_
  refine lv_topi (fun v5 ev5 => ?_)
  obtain rfl : v5 = 3 := ev5.trans (by decide)
  refine va_sld hx hb hX hbl hbA hS (mm_in mm_k3 (by decide)) dL_law_1808 ?_
  refine lv_topi (fun v6 ev6 => ?_)
  obtain rfl : p3 = v6 := ep3.trans ev6.symm
  refine mm_finir (va_runV (As := [.int p1, .int p2, .int p3]) (rest := []) ⟨hx, hb, hml, hown, hts⟩ (K198_X11_otherwise l G cy H.size qx p1 p2 p3 (ux 0) (ux 2) (ux 14) (ux 36) (ux 70) (ux 71) (ux 80) (ux 82) (ux 84) (ux 89) (ux 92) (ux 15) (ux 26) 0 0 0 0 0 0 0 (ux 16) (ux 17) (ux 18) (ux 19) (ux 20) (ux 21) (ux 22) (ux 23) (ux 24) (ux 25) ) (cwV 3 hts (mm_gV mm_w1149 mm_w1150 mm_w1151 mm_w2 mm_w1152) rfl rfl rfl hd_X11_otherwise ⟨by rw [hRf]; exact Nat.le_of_ble_eq_true rfl, by rw [hRl]; exact Nat.le_of_ble_eq_true rfl⟩) (mm_preV hK hP hD [0, 1, 2] rfl rfl 0 rfl rfl rfl) rfl rfl hl.1 rfl (lv_room (Nat.le_of_ble_eq_true rfl)) dL_law_1809 ⟨by rw [hRc]; exact Nat.le_of_ble_eq_true rfl, by rw [hRs]; exact Nat.le_of_ble_eq_true rfl⟩) hP hD hS hA [0, 1, 2] rfl (fun _ => rfl) ?_
  clear hP hD hS
  clear H locs
  intro v7 _u H locs hw hP hD hS
  subst hw
  refine lv_aload_n hx hb dL_law_1812 rfl (lv_at hl 1 rfl) ?_
  refine lv_aload_n hx hb dL_law_1813 rfl (lv_at hl 3 rfl) ?_
  refine lv_iload_n hx hb dL_law_1814 rfl (lv_at hl 0 rfl) ?_
  refine lv_iconst (v := 1) hx hb dL_law_1815 (by decide) ?_
  refine lv_iadd hx hb dL_law_1816 ?_
  refine lv_topi (fun v8 ev8 => ?_)
  obtain rfl : v8 = 1 := ev8.trans (by decide)
  refine va_sld hx hb hX hbl hbA hS (mm_in mm_k1 (by decide)) dL_law_1817 ?_
  refine lv_topi (fun v9 ev9 => ?_)
  obtain rfl : p1 = v9 := ep1.trans ev9.symm
  refine lv_aload_n hx hb dL_law_1818 rfl (lv_at hl 3 rfl) ?_
  refine lv_iload_n hx hb dL_law_1819 rfl (lv_at hl 0 rfl) ?_
  refine lv_iconst (v := 2) hx hb dL_law_1820 (by decide) ?_
  refine lv_iadd hx hb dL_law_1821 ?_
  refine lv_topi (fun v10 ev10 => ?_)
  obtain rfl : v10 = 2 := ev10.trans (by decide)
  refine va_sld hx hb hX hbl hbA hS (mm_in mm_k2 (by decide)) dL_law_1822 ?_
  refine lv_topi (fun v11 ev11 => ?_)
  obtain rfl : p2 = v11 := ep2.trans ev11.symm
  refine lv_aload_n hx hb dL_law_1823 rfl (lv_at hl 3 rfl) ?_
  refine lv_iload_n hx hb dL_law_1824 rfl (lv_at hl 0 rfl) ?_
  refine lv_iconst (v := 3) hx hb dL_law_1825 (by decide) ?_
  refine lv_iadd hx hb dL_law_1826 ?_
  refine lv_topi (fun v12 ev12 => ?_)
  obtain rfl : v12 = 3 := ev12.trans (by decide)
  refine va_sld hx hb hX hbl hbA hS (mm_in mm_k3 (by decide)) dL_law_1827 ?_
  refine lv_topi (fun v13 ev13 => ?_)
  obtain rfl : p3 = v13 := ep3.trans ev13.symm
  refine mm_finir (va_runV (As := [.int p1, .int p2, .int p3]) (rest := [.int (-2)]) ⟨hx, hb, hml, hown, hts⟩ (K199_X12_otherwise l G cy H.size qm p1 p2 p3 (um 0) (um 1) (um 2) (um 3) (um 4) 0 0 0 0 0 0 0 0 0 (-1) (um 5) (um 6) (um 7) (um 8) (um 9) (um 10) (um 11) (um 12) (um 13) (um 14) (um 15) (um 16) (um 17) 0 0 0 0 0 0 (um 18) 0 (um 19) ) (cwV 3 hts (mm_gV mm_w1153 mm_w1154 mm_w1155 mm_w5 mm_w1156) rfl rfl rfl hd_X12_otherwise ⟨by rw [hRf]; exact Nat.le_of_ble_eq_true rfl, by rw [hRl]; exact Nat.le_of_ble_eq_true rfl⟩) (mm_preV hK hP hD [3, 4] rfl rfl 3 rfl rfl rfl) rfl rfl hl.1 rfl (lv_room (Nat.le_of_ble_eq_true rfl)) dL_law_1828 ⟨by rw [hRc]; exact Nat.le_of_ble_eq_true rfl, by rw [hRs]; exact Nat.le_of_ble_eq_true rfl⟩) hP hD hS hA [3, 4] rfl (fun _ => rfl) ?_
  clear hP hD hS
  clear H locs
  intro v14 _u H locs hw hP hD hS
  subst hw
  refine lv_icmp_eq (tgt := 3153) hx hb dL_law_1831 (by decide) (fun c15 => ?_) (fun c15 => ?_)
  · refine lv_iinc (v := 6) (lv' := [(3, .int 6), (2, .ref qm), (1, .ref qx), (0, .ref b)]) hx hb dL_law_3153 hl (k := 0) rfl (by decide) (by decide) rfl ?_
    clear hl
    clear ls
    intro ls hl
    refine lv_goto (tgt := 18) hx hb dL_law_3156 (by decide) ?_
    refine lv_iload_n hx hb dL_law_18 rfl (lv_at hl 0 rfl) ?_
    refine lv_aload_n hx hb dL_law_19 rfl (lv_at hl 3 rfl) ?_
    refine va_slen hx hb hX hbl hbA hS dL_law_20 ?_
    refine lv_topi (fun v16 ev16 => ?_)
    obtain rfl : v16 = 6 := ev16.trans (by decide)
    refine lv_bipush (v := 6) hx hb dL_law_21 (by decide) ?_
    refine lv_isub hx hb dL_law_23 ?_
    refine lv_topi (fun v17 ev17 => ?_)
    obtain rfl : v17 = 0 := ev17.trans (by decide)
    refine lv_icmp_gt (tgt := 3159) hx hb dL_law_24 (by decide) (fun c18 => ?_) (fun c18 => ?_)
    · refine lv_iconst (v := 1) hx hb dL_law_3159 (by decide) ?_
      refine va_forget (fun q hq => by have := hS.2.2 q hq; rw [hAe] at this; exact this) ?_
      refine W.widen (k := 600000) (n := 7302250) (Nat.le_of_ble_eq_true rfl) (Nat.le_of_ble_eq_true rfl) ?_
      exact lw_ret hx hb hr hlocks dL_law_3160
    · have q19 := mm_leL (mm_nlt c18) mm_k6 mm_k0
      exact mm_no q19 (by decide)
  · have q20 := mm_neL (lo := (-1)) (mm_ne c15) mm_km2 mm_km2 (by decide) (by decide)
    exact mm_no q20 (by decide)

set_option maxHeartbeats 4000000 in
set_option maxRecDepth 100000 in
theorem lc_40 {p : Program} {e : Env} {s : State} {m : MethodId} {below : List Frame} {meth : Method} {c : Code} {b : Nat} {xs : Nat → Int32} {G : va_G} {cy : Nat → ClassId} {qx qm : Nat} {ux um : Nat → Nat} {H : Heap} {locs : List Loc} {ls : Array Slot} {A : Nat → Prop} (l : Launch) (hx : p.tables.exec = Jvm.exec) (hb : c.code = code) (hr : meth.sig.returnType = ret) (hlocks : meth.locks = false) (hml : c.maxLocals = 4) (hown : s.vm.findClass R_law = some m.cls) (hts : ∀ w ∈ lw_x :: wsL_law, w.before #[Value.ref b] s = true) (hX : va_X b 6 xs s s.heap) (hbl : b < s.heap.size) (hAe : A = fun q => s.heap.size ≤ q) (hK : mm_K G cy s) (hS : va_S A s.heap H locs) (hP : va_P G vwCl [(qx, .inr (11, [.ref (ux 0), .ref (ux 2), .ref (ux 14), .ref (ux 36), .ref (ux 70), .ref (ux 71), .ref (ux 80), .ref (ux 82), .ref (ux 84), .ref (ux 89), .ref (ux 92)])), ((ux 14), .inr (10, [.ref (ux 15), .ref (ux 26)])), ((ux 15), .inr (0, [.int 0, .int 0, .int 0, .int 0, .int 0, .int 0, .int 0, .int 0, .ref (ux 16), .ref (ux 17), .ref (ux 18), .ref (ux 19), .ref (ux 20), .ref (ux 21), .ref (ux 22), .ref (ux 23), .ref (ux 24), .ref (ux 25)])), (qm, .inr (12, [.int 0, .ref (um 0), .ref (um 1), .ref (um 2), .ref (um 3), .ref (um 4), .int 0, .int 0, .int 0, .int 0, .int 0, .long 0, .int 0, .int 0, .int 0, .int (-1), .ref (um 5), .ref (um 6), .ref (um 7), .ref (um 8), .ref (um 9), .ref (um 10), .ref (um 11), .ref (um 12), .ref (um 13), .ref (um 14), .ref (um 15), .ref (um 16), .ref (um 17), .int 0, .int 0, .int 0, .int 0, .int 0, .int 0, .ref (um 18), .int 0, .ref (um 19)])), ((um 6), .inl (cy 1, 30, .inl (fun _ => 0)))] H) (hD : va_D A [(qx, .inr (11, [.ref (ux 0), .ref (ux 2), .ref (ux 14), .ref (ux 36), .ref (ux 70), .ref (ux 71), .ref (ux 80), .ref (ux 82), .ref (ux 84), .ref (ux 89), .ref (ux 92)])), ((ux 14), .inr (10, [.ref (ux 15), .ref (ux 26)])), ((ux 15), .inr (0, [.int 0, .int 0, .int 0, .int 0, .int 0, .int 0, .int 0, .int 0, .ref (ux 16), .ref (ux 17), .ref (ux 18), .ref (ux 19), .ref (ux 20), .ref (ux 21), .ref (ux 22), .ref (ux 23), .ref (ux 24), .ref (ux 25)])), (qm, .inr (12, [.int 0, .ref (um 0), .ref (um 1), .ref (um 2), .ref (um 3), .ref (um 4), .int 0, .int 0, .int 0, .int 0, .int 0, .long 0, .int 0, .int 0, .int 0, .int (-1), .ref (um 5), .ref (um 6), .ref (um 7), .ref (um 8), .ref (um 9), .ref (um 10), .ref (um 11), .ref (um 12), .ref (um 13), .ref (um 14), .ref (um 15), .ref (um 16), .ref (um 17), .int 0, .int 0, .int 0, .int 0, .int 0, .int 0, .ref (um 18), .int 0, .ref (um 19)])), ((um 6), .inl (cy 1, 30, .inl (fun _ => 0)))]) (hl : lv_has ls 4 [(3, .int 0), (2, .ref qm), (1, .ref qx), (0, .ref b)]) : W p l e room_1 s m #[Value.ref b] below meth c H locs 116 20302 (lw_Z below #[Value.ref b] s) (F0 m 1836 ls []) := by
  have hA : ∀ q, s.heap.size ≤ q → A q := by rw [hAe]; exact fun _ h => h
  have hbA : ¬ A b := by rw [hAe]; exact Nat.not_le.mpr hbl
  have hRf : room_1.frames = 2048 := rfl
  have hRl : room_1.locals = 84000 := rfl
  have hRc : room_1.cells = 600000 := rfl
  have hRs : room_1.slots = 7302250 := rfl
  obtain ⟨p1, ep1⟩ : ∃ z : Int32, z = xs 1 := ⟨_, rfl⟩
  obtain ⟨p2, ep2⟩ : ∃ z : Int32, z = xs 2 := ⟨_, rfl⟩
  obtain ⟨p3, ep3⟩ : ∃ z : Int32, z = xs 3 := ⟨_, rfl⟩
  obtain ⟨p4, ep4⟩ : ∃ z : Int32, z = xs 4 := ⟨_, rfl⟩
  obtain ⟨p5, ep5⟩ : ∃ z : Int32, z = xs 5 := ⟨_, rfl⟩
  refine lv_aload_n hx hb dL_law_1836 rfl (lv_at hl 2 rfl) ?_
  refine lv_aload_n hx hb dL_law_1837 rfl (lv_at hl 3 rfl) ?_
  refine lv_iload_n hx hb dL_law_1838 rfl (lv_at hl 0 rfl) ?_
  refine lv_iconst (v := 1) hx hb dL_law_1839 (by decide) ?_
  refine lv_iadd hx hb dL_law_1840 ?_
  refine lv_topi (fun v1 ev1 => ?_)
  obtain rfl : v1 = 1 := ev1.trans (by decide)
  refine va_sld hx hb hX hbl hbA hS (mm_in mm_k1 (by decide)) dL_law_1841 ?_
  refine lv_topi (fun v2 ev2 => ?_)
  obtain rfl : p1 = v2 := ep1.trans ev2.symm
  refine lv_aload_n hx hb dL_law_1842 rfl (lv_at hl 3 rfl) ?_
  refine lv_iload_n hx hb dL_law_1843 rfl (lv_at hl 0 rfl) ?_
  refine lv_iconst (v := 2) hx hb dL_law_1844 (by decide) ?_
  refine lv_iadd hx hb dL_law_1845 ?_
  refine lv_topi (fun v3 ev3 => ?_)
  obtain rfl : v3 = 2 := ev3.trans (by decide)
  refine va_sld hx hb hX hbl hbA hS (mm_in mm_k2 (by decide)) dL_law_1846 ?_
  refine lv_topi (fun v4 ev4 => ?_)
  obtain rfl : p2 = v4 := ep2.trans ev4.symm
  refine lv_aload_n hx hb dL_law_1847 rfl (lv_at hl 3 rfl) ?_
  refine lv_iload_n hx hb dL_law_1848 rfl (lv_at hl 0 rfl) ?_
  refine lv_iconst (v := 3) hx hb dL_law_1849 (by decide) ?_
  refine lv_iadd hx hb dL_law_1850 ?_
  refine lv_topi (fun v5 ev5 => ?_)
  obtain rfl : v5 = 3 := ev5.trans (by decide)
  refine va_sld hx hb hX hbl hbA hS (mm_in mm_k3 (by decide)) dL_law_1851 ?_
  refine lv_topi (fun v6 ev6 => ?_)
  obtain rfl : p3 = v6 := ep3.trans ev6.symm
  refine mm_finir (va_runV (As := [.int p1, .int p2, .int p3]) (rest := []) ⟨hx, hb, hml, hown, hts⟩ (K200_X11_like l G cy H.size qx p1 p2 p3 (ux 0) (ux 2) (ux 14) (ux 36) (ux 70) (ux 71) (ux 80) (ux 82) (ux 84) (ux 89) (ux 92) (ux 15) (ux 26) 0 0 0 0 0 0 0 (ux 16) (ux 17) (ux 18) (ux 19) (ux 20) (ux 21) (ux 22) (ux 23) (ux 24) (ux 25) ) (cwV 3 hts (mm_gV mm_w1157 mm_w1158 mm_w1159 mm_w2 mm_w1160) rfl rfl rfl hd_X11_like ⟨by rw [hRf]; exact Nat.le_of_ble_eq_true rfl, by rw [hRl]; exact Nat.le_of_ble_eq_true rfl⟩) (mm_preV hK hP hD [0, 1, 2] rfl rfl 0 rfl rfl rfl) rfl rfl hl.1 rfl (lv_room (Nat.le_of_ble_eq_true rfl)) dL_law_1852 ⟨by rw [hRc]; exact Nat.le_of_ble_eq_true rfl, by rw [hRs]; exact Nat.le_of_ble_eq_true rfl⟩) hP hD hS hA [0, 1, 2] rfl (fun _ => rfl) ?_
  clear hP hD hS
  clear H locs
  intro v7 _u H locs hw hP hD hS
  subst hw
  refine lv_aload_n hx hb dL_law_1855 rfl (lv_at hl 1 rfl) ?_
  refine lv_aload_n hx hb dL_law_1856 rfl (lv_at hl 3 rfl) ?_
  refine lv_iload_n hx hb dL_law_1857 rfl (lv_at hl 0 rfl) ?_
  refine lv_iconst (v := 1) hx hb dL_law_1858 (by decide) ?_
  refine lv_iadd hx hb dL_law_1859 ?_
  refine lv_topi (fun v8 ev8 => ?_)
  obtain rfl : v8 = 1 := ev8.trans (by decide)
  refine va_sld hx hb hX hbl hbA hS (mm_in mm_k1 (by decide)) dL_law_1860 ?_
  refine lv_topi (fun v9 ev9 => ?_)
  obtain rfl : p1 = v9 := ep1.trans ev9.symm
  refine lv_aload_n hx hb dL_law_1861 rfl (lv_at hl 3 rfl) ?_
  refine lv_iload_n hx hb dL_law_1862 rfl (lv_at hl 0 rfl) ?_
  refine lv_iconst (v := 2) hx hb dL_law_1863 (by decide) ?_
  refine lv_iadd hx hb dL_law_1864 ?_
  refine lv_topi (fun v10 ev10 => ?_)
  obtain rfl : v10 = 2 := ev10.trans (by decide)
  refine va_sld hx hb hX hbl hbA hS (mm_in mm_k2 (by decide)) dL_law_1865 ?_
  refine lv_topi (fun v11 ev11 => ?_)
  obtain rfl : p2 = v11 := ep2.trans ev11.symm
  refine lv_aload_n hx hb dL_law_1866 rfl (lv_at hl 3 rfl) ?_
  refine lv_iload_n hx hb dL_law_1867 rfl (lv_at hl 0 rfl) ?_
  refine lv_iconst (v := 3) hx hb dL_law_1868 (by decide) ?_
  refine lv_iadd hx hb dL_law_1869 ?_
  refine lv_topi (fun v12 ev12 => ?_)
  obtain rfl : v12 = 3 := ev12.trans (by decide)
  refine va_sld hx hb hX hbl hbA hS (mm_in mm_k3 (by decide)) dL_law_1870 ?_
  refine lv_topi (fun v13 ev13 => ?_)
  obtain rfl : p3 = v13 := ep3.trans ev13.symm
  refine mm_finir (va_runV (As := [.int p1, .int p2, .int p3]) (rest := [.int (-2)]) ⟨hx, hb, hml, hown, hts⟩ (K201_X12_like l G cy H.size qm p1 p2 p3 (um 0) (um 1) (um 2) (um 3) (um 4) 0 0 0 0 0 0 0 0 0 (-1) (um 5) (um 6) (um 7) (um 8) (um 9) (um 10) (um 11) (um 12) (um 13) (um 14) (um 15) (um 16) (um 17) 0 0 0 0 0 0 (um 18) 0 (um 19) ) (cwV 3 hts (mm_gV mm_w1165 mm_w1166 mm_w1167 mm_w5 mm_w1168) rfl rfl rfl hd_X12_like ⟨by rw [hRf]; exact Nat.le_of_ble_eq_true rfl, by rw [hRl]; exact Nat.le_of_ble_eq_true rfl⟩) (mm_preV hK hP hD [3, 4] rfl rfl 3 rfl rfl rfl) rfl rfl hl.1 rfl (lv_room (Nat.le_of_ble_eq_true rfl)) dL_law_1871 ⟨by rw [hRc]; exact Nat.le_of_ble_eq_true rfl, by rw [hRs]; exact Nat.le_of_ble_eq_true rfl⟩) hP hD hS hA [3, 4] rfl (fun _ => rfl) ?_
  clear hP hD hS
  clear H locs
  intro v14 _u H locs hw hP hD hS
  subst hw
  refine lv_icmp_eq (tgt := 3153) hx hb dL_law_1874 (by decide) (fun c15 => ?_) (fun c15 => ?_)
  · refine lv_iinc (v := 6) (lv' := [(3, .int 6), (2, .ref qm), (1, .ref qx), (0, .ref b)]) hx hb dL_law_3153 hl (k := 0) rfl (by decide) (by decide) rfl ?_
    clear hl
    clear ls
    intro ls hl
    refine lv_goto (tgt := 18) hx hb dL_law_3156 (by decide) ?_
    refine lv_iload_n hx hb dL_law_18 rfl (lv_at hl 0 rfl) ?_
    refine lv_aload_n hx hb dL_law_19 rfl (lv_at hl 3 rfl) ?_
    refine va_slen hx hb hX hbl hbA hS dL_law_20 ?_
    refine lv_topi (fun v16 ev16 => ?_)
    obtain rfl : v16 = 6 := ev16.trans (by decide)
    refine lv_bipush (v := 6) hx hb dL_law_21 (by decide) ?_
    refine lv_isub hx hb dL_law_23 ?_
    refine lv_topi (fun v17 ev17 => ?_)
    obtain rfl : v17 = 0 := ev17.trans (by decide)
    refine lv_icmp_gt (tgt := 3159) hx hb dL_law_24 (by decide) (fun c18 => ?_) (fun c18 => ?_)
    · refine lv_iconst (v := 1) hx hb dL_law_3159 (by decide) ?_
      refine va_forget (fun q hq => by have := hS.2.2 q hq; rw [hAe] at this; exact this) ?_
      refine W.widen (k := 600000) (n := 7302250) (Nat.le_of_ble_eq_true rfl) (Nat.le_of_ble_eq_true rfl) ?_
      exact lw_ret hx hb hr hlocks dL_law_3160
    · have q19 := mm_leL (mm_nlt c18) mm_k6 mm_k0
      exact mm_no q19 (by decide)
  · have q20 := mm_neL (lo := (-1)) (mm_ne c15) mm_km2 mm_km2 (by decide) (by decide)
    exact mm_no q20 (by decide)

set_option maxHeartbeats 4000000 in
set_option maxRecDepth 100000 in
theorem lc_41 {p : Program} {e : Env} {s : State} {m : MethodId} {below : List Frame} {meth : Method} {c : Code} {b : Nat} {xs : Nat → Int32} {G : va_G} {cy : Nat → ClassId} {qx qm : Nat} {ux um : Nat → Nat} {H : Heap} {locs : List Loc} {ls : Array Slot} {A : Nat → Prop} (l : Launch) (hx : p.tables.exec = Jvm.exec) (hb : c.code = code) (hr : meth.sig.returnType = ret) (hlocks : meth.locks = false) (hml : c.maxLocals = 4) (hown : s.vm.findClass R_law = some m.cls) (hts : ∀ w ∈ lw_x :: wsL_law, w.before #[Value.ref b] s = true) (hX : va_X b 6 xs s s.heap) (hbl : b < s.heap.size) (hAe : A = fun q => s.heap.size ≤ q) (hK : mm_K G cy s) (hS : va_S A s.heap H locs) (hP : va_P G vwCl [(qx, .inr (11, [.ref (ux 0), .ref (ux 2), .ref (ux 14), .ref (ux 36), .ref (ux 70), .ref (ux 71), .ref (ux 80), .ref (ux 82), .ref (ux 84), .ref (ux 89), .ref (ux 92)])), ((ux 14), .inr (10, [.ref (ux 15), .ref (ux 26)])), ((ux 15), .inr (0, [.int 0, .int 0, .int 0, .int 0, .int 0, .int 0, .int 0, .int 0, .ref (ux 16), .ref (ux 17), .ref (ux 18), .ref (ux 19), .ref (ux 20), .ref (ux 21), .ref (ux 22), .ref (ux 23), .ref (ux 24), .ref (ux 25)])), (qm, .inr (12, [.int 0, .ref (um 0), .ref (um 1), .ref (um 2), .ref (um 3), .ref (um 4), .int 0, .int 0, .int 0, .int 0, .int 0, .long 0, .int 0, .int 0, .int 0, .int (-1), .ref (um 5), .ref (um 6), .ref (um 7), .ref (um 8), .ref (um 9), .ref (um 10), .ref (um 11), .ref (um 12), .ref (um 13), .ref (um 14), .ref (um 15), .ref (um 16), .ref (um 17), .int 0, .int 0, .int 0, .int 0, .int 0, .int 0, .ref (um 18), .int 0, .ref (um 19)])), ((um 6), .inl (cy 1, 30, .inl (fun _ => 0)))] H) (hD : va_D A [(qx, .inr (11, [.ref (ux 0), .ref (ux 2), .ref (ux 14), .ref (ux 36), .ref (ux 70), .ref (ux 71), .ref (ux 80), .ref (ux 82), .ref (ux 84), .ref (ux 89), .ref (ux 92)])), ((ux 14), .inr (10, [.ref (ux 15), .ref (ux 26)])), ((ux 15), .inr (0, [.int 0, .int 0, .int 0, .int 0, .int 0, .int 0, .int 0, .int 0, .ref (ux 16), .ref (ux 17), .ref (ux 18), .ref (ux 19), .ref (ux 20), .ref (ux 21), .ref (ux 22), .ref (ux 23), .ref (ux 24), .ref (ux 25)])), (qm, .inr (12, [.int 0, .ref (um 0), .ref (um 1), .ref (um 2), .ref (um 3), .ref (um 4), .int 0, .int 0, .int 0, .int 0, .int 0, .long 0, .int 0, .int 0, .int 0, .int (-1), .ref (um 5), .ref (um 6), .ref (um 7), .ref (um 8), .ref (um 9), .ref (um 10), .ref (um 11), .ref (um 12), .ref (um 13), .ref (um 14), .ref (um 15), .ref (um 16), .ref (um 17), .int 0, .int 0, .int 0, .int 0, .int 0, .int 0, .ref (um 18), .int 0, .ref (um 19)])), ((um 6), .inl (cy 1, 30, .inl (fun _ => 0)))]) (hl : lv_has ls 4 [(3, .int 0), (2, .ref qm), (1, .ref qx), (0, .ref b)]) : W p l e room_1 s m #[Value.ref b] below meth c H locs 116 20302 (lw_Z below #[Value.ref b] s) (F0 m 1879 ls []) := by
  have hA : ∀ q, s.heap.size ≤ q → A q := by rw [hAe]; exact fun _ h => h
  have hbA : ¬ A b := by rw [hAe]; exact Nat.not_le.mpr hbl
  have hRf : room_1.frames = 2048 := rfl
  have hRl : room_1.locals = 84000 := rfl
  have hRc : room_1.cells = 600000 := rfl
  have hRs : room_1.slots = 7302250 := rfl
  obtain ⟨p1, ep1⟩ : ∃ z : Int32, z = xs 1 := ⟨_, rfl⟩
  obtain ⟨p2, ep2⟩ : ∃ z : Int32, z = xs 2 := ⟨_, rfl⟩
  obtain ⟨p3, ep3⟩ : ∃ z : Int32, z = xs 3 := ⟨_, rfl⟩
  obtain ⟨p4, ep4⟩ : ∃ z : Int32, z = xs 4 := ⟨_, rfl⟩
  obtain ⟨p5, ep5⟩ : ∃ z : Int32, z = xs 5 := ⟨_, rfl⟩
  refine lv_aload_n hx hb dL_law_1879 rfl (lv_at hl 2 rfl) ?_
  refine lv_aload_n hx hb dL_law_1880 rfl (lv_at hl 3 rfl) ?_
  refine lv_iload_n hx hb dL_law_1881 rfl (lv_at hl 0 rfl) ?_
  refine lv_iconst (v := 1) hx hb dL_law_1882 (by decide) ?_
  refine lv_iadd hx hb dL_law_1883 ?_
  refine lv_topi (fun v1 ev1 => ?_)
  obtain rfl : v1 = 1 := ev1.trans (by decide)
  refine va_sld hx hb hX hbl hbA hS (mm_in mm_k1 (by decide)) dL_law_1884 ?_
  refine lv_topi (fun v2 ev2 => ?_)
  obtain rfl : p1 = v2 := ep1.trans ev2.symm
  refine lv_aload_n hx hb dL_law_1885 rfl (lv_at hl 3 rfl) ?_
  refine lv_iload_n hx hb dL_law_1886 rfl (lv_at hl 0 rfl) ?_
  refine lv_iconst (v := 2) hx hb dL_law_1887 (by decide) ?_
  refine lv_iadd hx hb dL_law_1888 ?_
  refine lv_topi (fun v3 ev3 => ?_)
  obtain rfl : v3 = 2 := ev3.trans (by decide)
  refine va_sld hx hb hX hbl hbA hS (mm_in mm_k2 (by decide)) dL_law_1889 ?_
  refine lv_topi (fun v4 ev4 => ?_)
  obtain rfl : p2 = v4 := ep2.trans ev4.symm
  refine lv_aload_n hx hb dL_law_1890 rfl (lv_at hl 3 rfl) ?_
  refine lv_iload_n hx hb dL_law_1891 rfl (lv_at hl 0 rfl) ?_
  refine lv_iconst (v := 3) hx hb dL_law_1892 (by decide) ?_
  refine lv_iadd hx hb dL_law_1893 ?_
  refine lv_topi (fun v5 ev5 => ?_)
  obtain rfl : v5 = 3 := ev5.trans (by decide)
  refine va_sld hx hb hX hbl hbA hS (mm_in mm_k3 (by decide)) dL_law_1894 ?_
  refine lv_topi (fun v6 ev6 => ?_)
  obtain rfl : p3 = v6 := ep3.trans ev6.symm
  refine lv_aload_n hx hb dL_law_1895 rfl (lv_at hl 3 rfl) ?_
  refine lv_iload_n hx hb dL_law_1896 rfl (lv_at hl 0 rfl) ?_
  refine lv_iconst (v := 4) hx hb dL_law_1897 (by decide) ?_
  refine lv_iadd hx hb dL_law_1898 ?_
  refine lv_topi (fun v7 ev7 => ?_)
  obtain rfl : v7 = 4 := ev7.trans (by decide)
  refine va_sld hx hb hX hbl hbA hS (mm_in mm_k4 (by decide)) dL_law_1899 ?_
  refine lv_topi (fun v8 ev8 => ?_)
  obtain rfl : p4 = v8 := ep4.trans ev8.symm
  refine lv_aload_n hx hb dL_law_1900 rfl (lv_at hl 3 rfl) ?_
  refine lv_iload_n hx hb dL_law_1901 rfl (lv_at hl 0 rfl) ?_
  refine lv_iconst (v := 5) hx hb dL_law_1902 (by decide) ?_
  refine lv_iadd hx hb dL_law_1903 ?_
  refine lv_topi (fun v9 ev9 => ?_)
  obtain rfl : v9 = 5 := ev9.trans (by decide)
  refine va_sld hx hb hX hbl hbA hS (mm_in mm_k5 (by decide)) dL_law_1904 ?_
  refine lv_topi (fun v10 ev10 => ?_)
  obtain rfl : p5 = v10 := ep5.trans ev10.symm
  refine mm_finir (va_runV (As := [.int p1, .int p2, .int p3, .int p4, .int p5]) (rest := []) ⟨hx, hb, hml, hown, hts⟩ (K202_X11_carry l G cy H.size qx p1 p2 p3 p4 p5 (ux 0) (ux 2) (ux 14) (ux 36) (ux 70) (ux 71) (ux 80) (ux 82) (ux 84) (ux 89) (ux 92) (ux 15) (ux 26) 0 0 0 0 0 0 0 (ux 16) (ux 17) (ux 18) (ux 19) (ux 20) (ux 21) (ux 22) (ux 23) (ux 24) (ux 25) ) (cwV 5 hts (mm_gV mm_w1173 mm_w1174 mm_w1175 mm_w2 mm_w1176) rfl rfl rfl hd_X11_carry ⟨by rw [hRf]; exact Nat.le_of_ble_eq_true rfl, by rw [hRl]; exact Nat.le_of_ble_eq_true rfl⟩) (mm_preV hK hP hD [0, 1, 2] rfl rfl 0 rfl rfl rfl) rfl rfl hl.1 rfl (lv_room (Nat.le_of_ble_eq_true rfl)) dL_law_1905 ⟨by rw [hRc]; exact Nat.le_of_ble_eq_true rfl, by rw [hRs]; exact Nat.le_of_ble_eq_true rfl⟩) hP hD hS hA [0, 1, 2] rfl (fun _ => rfl) ?_
  clear hP hD hS
  clear H locs
  intro v11 _u H locs hw hP hD hS
  subst hw
  refine lv_aload_n hx hb dL_law_1908 rfl (lv_at hl 1 rfl) ?_
  refine lv_aload_n hx hb dL_law_1909 rfl (lv_at hl 3 rfl) ?_
  refine lv_iload_n hx hb dL_law_1910 rfl (lv_at hl 0 rfl) ?_
  refine lv_iconst (v := 1) hx hb dL_law_1911 (by decide) ?_
  refine lv_iadd hx hb dL_law_1912 ?_
  refine lv_topi (fun v12 ev12 => ?_)
  obtain rfl : v12 = 1 := ev12.trans (by decide)
  refine va_sld hx hb hX hbl hbA hS (mm_in mm_k1 (by decide)) dL_law_1913 ?_
  refine lv_topi (fun v13 ev13 => ?_)
  obtain rfl : p1 = v13 := ep1.trans ev13.symm
  refine lv_aload_n hx hb dL_law_1914 rfl (lv_at hl 3 rfl) ?_
  refine lv_iload_n hx hb dL_law_1915 rfl (lv_at hl 0 rfl) ?_
  refine lv_iconst (v := 2) hx hb dL_law_1916 (by decide) ?_
  refine lv_iadd hx hb dL_law_1917 ?_
  refine lv_topi (fun v14 ev14 => ?_)
  obtain rfl : v14 = 2 := ev14.trans (by decide)
  refine va_sld hx hb hX hbl hbA hS (mm_in mm_k2 (by decide)) dL_law_1918 ?_
  refine lv_topi (fun v15 ev15 => ?_)
  obtain rfl : p2 = v15 := ep2.trans ev15.symm
  refine lv_aload_n hx hb dL_law_1919 rfl (lv_at hl 3 rfl) ?_
  refine lv_iload_n hx hb dL_law_1920 rfl (lv_at hl 0 rfl) ?_
  refine lv_iconst (v := 3) hx hb dL_law_1921 (by decide) ?_
  refine lv_iadd hx hb dL_law_1922 ?_
  refine lv_topi (fun v16 ev16 => ?_)
  obtain rfl : v16 = 3 := ev16.trans (by decide)
  refine va_sld hx hb hX hbl hbA hS (mm_in mm_k3 (by decide)) dL_law_1923 ?_
  refine lv_topi (fun v17 ev17 => ?_)
  obtain rfl : p3 = v17 := ep3.trans ev17.symm
  refine lv_aload_n hx hb dL_law_1924 rfl (lv_at hl 3 rfl) ?_
  refine lv_iload_n hx hb dL_law_1925 rfl (lv_at hl 0 rfl) ?_
  refine lv_iconst (v := 4) hx hb dL_law_1926 (by decide) ?_
  refine lv_iadd hx hb dL_law_1927 ?_
  refine lv_topi (fun v18 ev18 => ?_)
  obtain rfl : v18 = 4 := ev18.trans (by decide)
  refine va_sld hx hb hX hbl hbA hS (mm_in mm_k4 (by decide)) dL_law_1928 ?_
  refine lv_topi (fun v19 ev19 => ?_)
  obtain rfl : p4 = v19 := ep4.trans ev19.symm
  refine lv_aload_n hx hb dL_law_1929 rfl (lv_at hl 3 rfl) ?_
  refine lv_iload_n hx hb dL_law_1930 rfl (lv_at hl 0 rfl) ?_
  refine lv_iconst (v := 5) hx hb dL_law_1931 (by decide) ?_
  refine lv_iadd hx hb dL_law_1932 ?_
  refine lv_topi (fun v20 ev20 => ?_)
  obtain rfl : v20 = 5 := ev20.trans (by decide)
  refine va_sld hx hb hX hbl hbA hS (mm_in mm_k5 (by decide)) dL_law_1933 ?_
  refine lv_topi (fun v21 ev21 => ?_)
  obtain rfl : p5 = v21 := ep5.trans ev21.symm
  refine mm_finir (va_runV (As := [.int p1, .int p2, .int p3, .int p4, .int p5]) (rest := [.int (-2)]) ⟨hx, hb, hml, hown, hts⟩ (K203_X12_carry l G cy H.size qm p1 p2 p3 p4 p5 (um 0) (um 1) (um 2) (um 3) (um 4) 0 0 0 0 0 0 0 0 0 (-1) (um 5) (um 6) (um 7) (um 8) (um 9) (um 10) (um 11) (um 12) (um 13) (um 14) (um 15) (um 16) (um 17) 0 0 0 0 0 0 (um 18) 0 (um 19) ) (cwV 5 hts (mm_gV mm_w1177 mm_w1178 mm_w1179 mm_w5 mm_w1180) rfl rfl rfl hd_X12_carry ⟨by rw [hRf]; exact Nat.le_of_ble_eq_true rfl, by rw [hRl]; exact Nat.le_of_ble_eq_true rfl⟩) (mm_preV hK hP hD [3, 4] rfl rfl 3 rfl rfl rfl) rfl rfl hl.1 rfl (lv_room (Nat.le_of_ble_eq_true rfl)) dL_law_1934 ⟨by rw [hRc]; exact Nat.le_of_ble_eq_true rfl, by rw [hRs]; exact Nat.le_of_ble_eq_true rfl⟩) hP hD hS hA [3, 4] rfl (fun _ => rfl) ?_
  clear hP hD hS
  clear H locs
  intro v22 _u H locs hw hP hD hS
  subst hw
  refine lv_icmp_eq (tgt := 3153) hx hb dL_law_1937 (by decide) (fun c23 => ?_) (fun c23 => ?_)
  · refine lv_iinc (v := 6) (lv' := [(3, .int 6), (2, .ref qm), (1, .ref qx), (0, .ref b)]) hx hb dL_law_3153 hl (k := 0) rfl (by decide) (by decide) rfl ?_
    clear hl
    clear ls
    intro ls hl
    refine lv_goto (tgt := 18) hx hb dL_law_3156 (by decide) ?_
    refine lv_iload_n hx hb dL_law_18 rfl (lv_at hl 0 rfl) ?_
    refine lv_aload_n hx hb dL_law_19 rfl (lv_at hl 3 rfl) ?_
    refine va_slen hx hb hX hbl hbA hS dL_law_20 ?_
    refine lv_topi (fun v24 ev24 => ?_)
    obtain rfl : v24 = 6 := ev24.trans (by decide)
    refine lv_bipush (v := 6) hx hb dL_law_21 (by decide) ?_
    refine lv_isub hx hb dL_law_23 ?_
    refine lv_topi (fun v25 ev25 => ?_)
    obtain rfl : v25 = 0 := ev25.trans (by decide)
    refine lv_icmp_gt (tgt := 3159) hx hb dL_law_24 (by decide) (fun c26 => ?_) (fun c26 => ?_)
    · refine lv_iconst (v := 1) hx hb dL_law_3159 (by decide) ?_
      refine va_forget (fun q hq => by have := hS.2.2 q hq; rw [hAe] at this; exact this) ?_
      refine W.widen (k := 600000) (n := 7302250) (Nat.le_of_ble_eq_true rfl) (Nat.le_of_ble_eq_true rfl) ?_
      exact lw_ret hx hb hr hlocks dL_law_3160
    · have q27 := mm_leL (mm_nlt c26) mm_k6 mm_k0
      exact mm_no q27 (by decide)
  · have q28 := mm_neL (lo := (-1)) (mm_ne c23) mm_km2 mm_km2 (by decide) (by decide)
    exact mm_no q28 (by decide)

set_option maxHeartbeats 4000000 in
set_option maxRecDepth 100000 in
theorem lc_42 {p : Program} {e : Env} {s : State} {m : MethodId} {below : List Frame} {meth : Method} {c : Code} {b : Nat} {xs : Nat → Int32} {G : va_G} {cy : Nat → ClassId} {qx qm : Nat} {ux um : Nat → Nat} {H : Heap} {locs : List Loc} {ls : Array Slot} {A : Nat → Prop} (l : Launch) (hx : p.tables.exec = Jvm.exec) (hb : c.code = code) (hr : meth.sig.returnType = ret) (hlocks : meth.locks = false) (hml : c.maxLocals = 4) (hown : s.vm.findClass R_law = some m.cls) (hts : ∀ w ∈ lw_x :: wsL_law, w.before #[Value.ref b] s = true) (hX : va_X b 6 xs s s.heap) (hbl : b < s.heap.size) (hAe : A = fun q => s.heap.size ≤ q) (hK : mm_K G cy s) (hS : va_S A s.heap H locs) (hP : va_P G vwCl [(qx, .inr (11, [.ref (ux 0), .ref (ux 2), .ref (ux 14), .ref (ux 36), .ref (ux 70), .ref (ux 71), .ref (ux 80), .ref (ux 82), .ref (ux 84), .ref (ux 89), .ref (ux 92)])), ((ux 14), .inr (10, [.ref (ux 15), .ref (ux 26)])), ((ux 15), .inr (0, [.int 0, .int 0, .int 0, .int 0, .int 0, .int 0, .int 0, .int 0, .ref (ux 16), .ref (ux 17), .ref (ux 18), .ref (ux 19), .ref (ux 20), .ref (ux 21), .ref (ux 22), .ref (ux 23), .ref (ux 24), .ref (ux 25)])), (qm, .inr (12, [.int 0, .ref (um 0), .ref (um 1), .ref (um 2), .ref (um 3), .ref (um 4), .int 0, .int 0, .int 0, .int 0, .int 0, .long 0, .int 0, .int 0, .int 0, .int (-1), .ref (um 5), .ref (um 6), .ref (um 7), .ref (um 8), .ref (um 9), .ref (um 10), .ref (um 11), .ref (um 12), .ref (um 13), .ref (um 14), .ref (um 15), .ref (um 16), .ref (um 17), .int 0, .int 0, .int 0, .int 0, .int 0, .int 0, .ref (um 18), .int 0, .ref (um 19)])), ((um 6), .inl (cy 1, 30, .inl (fun _ => 0)))] H) (hD : va_D A [(qx, .inr (11, [.ref (ux 0), .ref (ux 2), .ref (ux 14), .ref (ux 36), .ref (ux 70), .ref (ux 71), .ref (ux 80), .ref (ux 82), .ref (ux 84), .ref (ux 89), .ref (ux 92)])), ((ux 14), .inr (10, [.ref (ux 15), .ref (ux 26)])), ((ux 15), .inr (0, [.int 0, .int 0, .int 0, .int 0, .int 0, .int 0, .int 0, .int 0, .ref (ux 16), .ref (ux 17), .ref (ux 18), .ref (ux 19), .ref (ux 20), .ref (ux 21), .ref (ux 22), .ref (ux 23), .ref (ux 24), .ref (ux 25)])), (qm, .inr (12, [.int 0, .ref (um 0), .ref (um 1), .ref (um 2), .ref (um 3), .ref (um 4), .int 0, .int 0, .int 0, .int 0, .int 0, .long 0, .int 0, .int 0, .int 0, .int (-1), .ref (um 5), .ref (um 6), .ref (um 7), .ref (um 8), .ref (um 9), .ref (um 10), .ref (um 11), .ref (um 12), .ref (um 13), .ref (um 14), .ref (um 15), .ref (um 16), .ref (um 17), .int 0, .int 0, .int 0, .int 0, .int 0, .int 0, .ref (um 18), .int 0, .ref (um 19)])), ((um 6), .inl (cy 1, 30, .inl (fun _ => 0)))]) (hl : lv_has ls 4 [(3, .int 0), (2, .ref qm), (1, .ref qx), (0, .ref b)]) : W p l e room_1 s m #[Value.ref b] below meth c H locs 116 20302 (lw_Z below #[Value.ref b] s) (F0 m 1942 ls []) := by
  have hA : ∀ q, s.heap.size ≤ q → A q := by rw [hAe]; exact fun _ h => h
  have hbA : ¬ A b := by rw [hAe]; exact Nat.not_le.mpr hbl
  have hRf : room_1.frames = 2048 := rfl
  have hRl : room_1.locals = 84000 := rfl
  have hRc : room_1.cells = 600000 := rfl
  have hRs : room_1.slots = 7302250 := rfl
  obtain ⟨p1, ep1⟩ : ∃ z : Int32, z = xs 1 := ⟨_, rfl⟩
  obtain ⟨p2, ep2⟩ : ∃ z : Int32, z = xs 2 := ⟨_, rfl⟩
  obtain ⟨p3, ep3⟩ : ∃ z : Int32, z = xs 3 := ⟨_, rfl⟩
  obtain ⟨p4, ep4⟩ : ∃ z : Int32, z = xs 4 := ⟨_, rfl⟩
  obtain ⟨p5, ep5⟩ : ∃ z : Int32, z = xs 5 := ⟨_, rfl⟩
  refine lv_aload_n hx hb dL_law_1942 rfl (lv_at hl 2 rfl) ?_
  refine lv_aload_n hx hb dL_law_1943 rfl (lv_at hl 3 rfl) ?_
  refine lv_iload_n hx hb dL_law_1944 rfl (lv_at hl 0 rfl) ?_
  refine lv_iconst (v := 1) hx hb dL_law_1945 (by decide) ?_
  refine lv_iadd hx hb dL_law_1946 ?_
  refine lv_topi (fun v1 ev1 => ?_)
  obtain rfl : v1 = 1 := ev1.trans (by decide)
  refine va_sld hx hb hX hbl hbA hS (mm_in mm_k1 (by decide)) dL_law_1947 ?_
  refine lv_topi (fun v2 ev2 => ?_)
  obtain rfl : p1 = v2 := ep1.trans ev2.symm
  refine lv_aload_n hx hb dL_law_1948 rfl (lv_at hl 3 rfl) ?_
  refine lv_iload_n hx hb dL_law_1949 rfl (lv_at hl 0 rfl) ?_
  refine lv_iconst (v := 2) hx hb dL_law_1950 (by decide) ?_
  refine lv_iadd hx hb dL_law_1951 ?_
  refine lv_topi (fun v3 ev3 => ?_)
  obtain rfl : v3 = 2 := ev3.trans (by decide)
  refine va_sld hx hb hX hbl hbA hS (mm_in mm_k2 (by decide)) dL_law_1952 ?_
  refine lv_topi (fun v4 ev4 => ?_)
  obtain rfl : p2 = v4 := ep2.trans ev4.symm
  refine lv_aload_n hx hb dL_law_1953 rfl (lv_at hl 3 rfl) ?_
  refine lv_iload_n hx hb dL_law_1954 rfl (lv_at hl 0 rfl) ?_
  refine lv_iconst (v := 3) hx hb dL_law_1955 (by decide) ?_
  refine lv_iadd hx hb dL_law_1956 ?_
  refine lv_topi (fun v5 ev5 => ?_)
  obtain rfl : v5 = 3 := ev5.trans (by decide)
  refine va_sld hx hb hX hbl hbA hS (mm_in mm_k3 (by decide)) dL_law_1957 ?_
  refine lv_topi (fun v6 ev6 => ?_)
  obtain rfl : p3 = v6 := ep3.trans ev6.symm
  refine lv_aload_n hx hb dL_law_1958 rfl (lv_at hl 3 rfl) ?_
  refine lv_iload_n hx hb dL_law_1959 rfl (lv_at hl 0 rfl) ?_
  refine lv_iconst (v := 4) hx hb dL_law_1960 (by decide) ?_
  refine lv_iadd hx hb dL_law_1961 ?_
  refine lv_topi (fun v7 ev7 => ?_)
  obtain rfl : v7 = 4 := ev7.trans (by decide)
  refine va_sld hx hb hX hbl hbA hS (mm_in mm_k4 (by decide)) dL_law_1962 ?_
  refine lv_topi (fun v8 ev8 => ?_)
  obtain rfl : p4 = v8 := ep4.trans ev8.symm
  refine lv_aload_n hx hb dL_law_1963 rfl (lv_at hl 3 rfl) ?_
  refine lv_iload_n hx hb dL_law_1964 rfl (lv_at hl 0 rfl) ?_
  refine lv_iconst (v := 5) hx hb dL_law_1965 (by decide) ?_
  refine lv_iadd hx hb dL_law_1966 ?_
  refine lv_topi (fun v9 ev9 => ?_)
  obtain rfl : v9 = 5 := ev9.trans (by decide)
  refine va_sld hx hb hX hbl hbA hS (mm_in mm_k5 (by decide)) dL_law_1967 ?_
  refine lv_topi (fun v10 ev10 => ?_)
  obtain rfl : p5 = v10 := ep5.trans ev10.symm
  refine mm_finir (va_runV (As := [.int p1, .int p2, .int p3, .int p4, .int p5]) (rest := []) ⟨hx, hb, hml, hown, hts⟩ (K204_X11_carried l G cy H.size qx p1 p2 p3 p4 p5 (ux 0) (ux 2) (ux 14) (ux 36) (ux 70) (ux 71) (ux 80) (ux 82) (ux 84) (ux 89) (ux 92) (ux 15) (ux 26) 0 0 0 0 0 0 0 (ux 16) (ux 17) (ux 18) (ux 19) (ux 20) (ux 21) (ux 22) (ux 23) (ux 24) (ux 25) ) (cwV 5 hts (mm_gV mm_w1181 mm_w1182 mm_w1183 mm_w2 mm_w1184) rfl rfl rfl hd_X11_carried ⟨by rw [hRf]; exact Nat.le_of_ble_eq_true rfl, by rw [hRl]; exact Nat.le_of_ble_eq_true rfl⟩) (mm_preV hK hP hD [0, 1, 2] rfl rfl 0 rfl rfl rfl) rfl rfl hl.1 rfl (lv_room (Nat.le_of_ble_eq_true rfl)) dL_law_1968 ⟨by rw [hRc]; exact Nat.le_of_ble_eq_true rfl, by rw [hRs]; exact Nat.le_of_ble_eq_true rfl⟩) hP hD hS hA [0, 1, 2] rfl (fun _ => rfl) ?_
  clear hP hD hS
  clear H locs
  intro v11 _u H locs hw hP hD hS
  subst hw
  refine lv_aload_n hx hb dL_law_1971 rfl (lv_at hl 1 rfl) ?_
  refine lv_aload_n hx hb dL_law_1972 rfl (lv_at hl 3 rfl) ?_
  refine lv_iload_n hx hb dL_law_1973 rfl (lv_at hl 0 rfl) ?_
  refine lv_iconst (v := 1) hx hb dL_law_1974 (by decide) ?_
  refine lv_iadd hx hb dL_law_1975 ?_
  refine lv_topi (fun v12 ev12 => ?_)
  obtain rfl : v12 = 1 := ev12.trans (by decide)
  refine va_sld hx hb hX hbl hbA hS (mm_in mm_k1 (by decide)) dL_law_1976 ?_
  refine lv_topi (fun v13 ev13 => ?_)
  obtain rfl : p1 = v13 := ep1.trans ev13.symm
  refine lv_aload_n hx hb dL_law_1977 rfl (lv_at hl 3 rfl) ?_
  refine lv_iload_n hx hb dL_law_1978 rfl (lv_at hl 0 rfl) ?_
  refine lv_iconst (v := 2) hx hb dL_law_1979 (by decide) ?_
  refine lv_iadd hx hb dL_law_1980 ?_
  refine lv_topi (fun v14 ev14 => ?_)
  obtain rfl : v14 = 2 := ev14.trans (by decide)
  refine va_sld hx hb hX hbl hbA hS (mm_in mm_k2 (by decide)) dL_law_1981 ?_
  refine lv_topi (fun v15 ev15 => ?_)
  obtain rfl : p2 = v15 := ep2.trans ev15.symm
  refine lv_aload_n hx hb dL_law_1982 rfl (lv_at hl 3 rfl) ?_
  refine lv_iload_n hx hb dL_law_1983 rfl (lv_at hl 0 rfl) ?_
  refine lv_iconst (v := 3) hx hb dL_law_1984 (by decide) ?_
  refine lv_iadd hx hb dL_law_1985 ?_
  refine lv_topi (fun v16 ev16 => ?_)
  obtain rfl : v16 = 3 := ev16.trans (by decide)
  refine va_sld hx hb hX hbl hbA hS (mm_in mm_k3 (by decide)) dL_law_1986 ?_
  refine lv_topi (fun v17 ev17 => ?_)
  obtain rfl : p3 = v17 := ep3.trans ev17.symm
  refine lv_aload_n hx hb dL_law_1987 rfl (lv_at hl 3 rfl) ?_
  refine lv_iload_n hx hb dL_law_1988 rfl (lv_at hl 0 rfl) ?_
  refine lv_iconst (v := 4) hx hb dL_law_1989 (by decide) ?_
  refine lv_iadd hx hb dL_law_1990 ?_
  refine lv_topi (fun v18 ev18 => ?_)
  obtain rfl : v18 = 4 := ev18.trans (by decide)
  refine va_sld hx hb hX hbl hbA hS (mm_in mm_k4 (by decide)) dL_law_1991 ?_
  refine lv_topi (fun v19 ev19 => ?_)
  obtain rfl : p4 = v19 := ep4.trans ev19.symm
  refine lv_aload_n hx hb dL_law_1992 rfl (lv_at hl 3 rfl) ?_
  refine lv_iload_n hx hb dL_law_1993 rfl (lv_at hl 0 rfl) ?_
  refine lv_iconst (v := 5) hx hb dL_law_1994 (by decide) ?_
  refine lv_iadd hx hb dL_law_1995 ?_
  refine lv_topi (fun v20 ev20 => ?_)
  obtain rfl : v20 = 5 := ev20.trans (by decide)
  refine va_sld hx hb hX hbl hbA hS (mm_in mm_k5 (by decide)) dL_law_1996 ?_
  refine lv_topi (fun v21 ev21 => ?_)
  obtain rfl : p5 = v21 := ep5.trans ev21.symm
  refine mm_finir (va_runV (As := [.int p1, .int p2, .int p3, .int p4, .int p5]) (rest := [.int (-2)]) ⟨hx, hb, hml, hown, hts⟩ (K205_X12_carried l G cy H.size qm p1 p2 p3 p4 p5 (um 0) (um 1) (um 2) (um 3) (um 4) 0 0 0 0 0 0 0 0 0 (-1) (um 5) (um 6) (um 7) (um 8) (um 9) (um 10) (um 11) (um 12) (um 13) (um 14) (um 15) (um 16) (um 17) 0 0 0 0 0 0 (um 18) 0 (um 19) ) (cwV 5 hts (mm_gV mm_w1185 mm_w1186 mm_w1187 mm_w5 mm_w1188) rfl rfl rfl hd_X12_carried ⟨by rw [hRf]; exact Nat.le_of_ble_eq_true rfl, by rw [hRl]; exact Nat.le_of_ble_eq_true rfl⟩) (mm_preV hK hP hD [3, 4] rfl rfl 3 rfl rfl rfl) rfl rfl hl.1 rfl (lv_room (Nat.le_of_ble_eq_true rfl)) dL_law_1997 ⟨by rw [hRc]; exact Nat.le_of_ble_eq_true rfl, by rw [hRs]; exact Nat.le_of_ble_eq_true rfl⟩) hP hD hS hA [3, 4] rfl (fun _ => rfl) ?_
  clear hP hD hS
  clear H locs
  intro v22 _u H locs hw hP hD hS
  subst hw
  refine lv_icmp_eq (tgt := 3153) hx hb dL_law_2000 (by decide) (fun c23 => ?_) (fun c23 => ?_)
  · refine lv_iinc (v := 6) (lv' := [(3, .int 6), (2, .ref qm), (1, .ref qx), (0, .ref b)]) hx hb dL_law_3153 hl (k := 0) rfl (by decide) (by decide) rfl ?_
    clear hl
    clear ls
    intro ls hl
    refine lv_goto (tgt := 18) hx hb dL_law_3156 (by decide) ?_
    refine lv_iload_n hx hb dL_law_18 rfl (lv_at hl 0 rfl) ?_
    refine lv_aload_n hx hb dL_law_19 rfl (lv_at hl 3 rfl) ?_
    refine va_slen hx hb hX hbl hbA hS dL_law_20 ?_
    refine lv_topi (fun v24 ev24 => ?_)
    obtain rfl : v24 = 6 := ev24.trans (by decide)
    refine lv_bipush (v := 6) hx hb dL_law_21 (by decide) ?_
    refine lv_isub hx hb dL_law_23 ?_
    refine lv_topi (fun v25 ev25 => ?_)
    obtain rfl : v25 = 0 := ev25.trans (by decide)
    refine lv_icmp_gt (tgt := 3159) hx hb dL_law_24 (by decide) (fun c26 => ?_) (fun c26 => ?_)
    · refine lv_iconst (v := 1) hx hb dL_law_3159 (by decide) ?_
      refine va_forget (fun q hq => by have := hS.2.2 q hq; rw [hAe] at this; exact this) ?_
      refine W.widen (k := 600000) (n := 7302250) (Nat.le_of_ble_eq_true rfl) (Nat.le_of_ble_eq_true rfl) ?_
      exact lw_ret hx hb hr hlocks dL_law_3160
    · have q27 := mm_leL (mm_nlt c26) mm_k6 mm_k0
      exact mm_no q27 (by decide)
  · have q28 := mm_neL (lo := (-1)) (mm_ne c23) mm_km2 mm_km2 (by decide) (by decide)
    exact mm_no q28 (by decide)

set_option maxHeartbeats 4000000 in
set_option maxRecDepth 100000 in
theorem lc_43 {p : Program} {e : Env} {s : State} {m : MethodId} {below : List Frame} {meth : Method} {c : Code} {b : Nat} {xs : Nat → Int32} {G : va_G} {cy : Nat → ClassId} {qx qm : Nat} {ux um : Nat → Nat} {H : Heap} {locs : List Loc} {ls : Array Slot} {A : Nat → Prop} (l : Launch) (hx : p.tables.exec = Jvm.exec) (hb : c.code = code) (hr : meth.sig.returnType = ret) (hlocks : meth.locks = false) (hml : c.maxLocals = 4) (hown : s.vm.findClass R_law = some m.cls) (hts : ∀ w ∈ lw_x :: wsL_law, w.before #[Value.ref b] s = true) (hX : va_X b 6 xs s s.heap) (hbl : b < s.heap.size) (hAe : A = fun q => s.heap.size ≤ q) (hK : mm_K G cy s) (hS : va_S A s.heap H locs) (hP : va_P G vwCl [(qx, .inr (11, [.ref (ux 0), .ref (ux 2), .ref (ux 14), .ref (ux 36), .ref (ux 70), .ref (ux 71), .ref (ux 80), .ref (ux 82), .ref (ux 84), .ref (ux 89), .ref (ux 92)])), ((ux 14), .inr (10, [.ref (ux 15), .ref (ux 26)])), ((ux 15), .inr (0, [.int 0, .int 0, .int 0, .int 0, .int 0, .int 0, .int 0, .int 0, .ref (ux 16), .ref (ux 17), .ref (ux 18), .ref (ux 19), .ref (ux 20), .ref (ux 21), .ref (ux 22), .ref (ux 23), .ref (ux 24), .ref (ux 25)])), (qm, .inr (12, [.int 0, .ref (um 0), .ref (um 1), .ref (um 2), .ref (um 3), .ref (um 4), .int 0, .int 0, .int 0, .int 0, .int 0, .long 0, .int 0, .int 0, .int 0, .int (-1), .ref (um 5), .ref (um 6), .ref (um 7), .ref (um 8), .ref (um 9), .ref (um 10), .ref (um 11), .ref (um 12), .ref (um 13), .ref (um 14), .ref (um 15), .ref (um 16), .ref (um 17), .int 0, .int 0, .int 0, .int 0, .int 0, .int 0, .ref (um 18), .int 0, .ref (um 19)])), ((um 6), .inl (cy 1, 30, .inl (fun _ => 0)))] H) (hD : va_D A [(qx, .inr (11, [.ref (ux 0), .ref (ux 2), .ref (ux 14), .ref (ux 36), .ref (ux 70), .ref (ux 71), .ref (ux 80), .ref (ux 82), .ref (ux 84), .ref (ux 89), .ref (ux 92)])), ((ux 14), .inr (10, [.ref (ux 15), .ref (ux 26)])), ((ux 15), .inr (0, [.int 0, .int 0, .int 0, .int 0, .int 0, .int 0, .int 0, .int 0, .ref (ux 16), .ref (ux 17), .ref (ux 18), .ref (ux 19), .ref (ux 20), .ref (ux 21), .ref (ux 22), .ref (ux 23), .ref (ux 24), .ref (ux 25)])), (qm, .inr (12, [.int 0, .ref (um 0), .ref (um 1), .ref (um 2), .ref (um 3), .ref (um 4), .int 0, .int 0, .int 0, .int 0, .int 0, .long 0, .int 0, .int 0, .int 0, .int (-1), .ref (um 5), .ref (um 6), .ref (um 7), .ref (um 8), .ref (um 9), .ref (um 10), .ref (um 11), .ref (um 12), .ref (um 13), .ref (um 14), .ref (um 15), .ref (um 16), .ref (um 17), .int 0, .int 0, .int 0, .int 0, .int 0, .int 0, .ref (um 18), .int 0, .ref (um 19)])), ((um 6), .inl (cy 1, 30, .inl (fun _ => 0)))]) (hl : lv_has ls 4 [(3, .int 0), (2, .ref qm), (1, .ref qx), (0, .ref b)]) : W p l e room_1 s m #[Value.ref b] below meth c H locs 116 20302 (lw_Z below #[Value.ref b] s) (F0 m 2005 ls []) := by
  have hA : ∀ q, s.heap.size ≤ q → A q := by rw [hAe]; exact fun _ h => h
  have hbA : ¬ A b := by rw [hAe]; exact Nat.not_le.mpr hbl
  have hRf : room_1.frames = 2048 := rfl
  have hRl : room_1.locals = 84000 := rfl
  have hRc : room_1.cells = 600000 := rfl
  have hRs : room_1.slots = 7302250 := rfl
  obtain ⟨p1, ep1⟩ : ∃ z : Int32, z = xs 1 := ⟨_, rfl⟩
  obtain ⟨p2, ep2⟩ : ∃ z : Int32, z = xs 2 := ⟨_, rfl⟩
  obtain ⟨p3, ep3⟩ : ∃ z : Int32, z = xs 3 := ⟨_, rfl⟩
  obtain ⟨p4, ep4⟩ : ∃ z : Int32, z = xs 4 := ⟨_, rfl⟩
  obtain ⟨p5, ep5⟩ : ∃ z : Int32, z = xs 5 := ⟨_, rfl⟩
  refine lv_aload_n hx hb dL_law_2005 rfl (lv_at hl 2 rfl) ?_
  refine lv_aload_n hx hb dL_law_2006 rfl (lv_at hl 3 rfl) ?_
  refine lv_iload_n hx hb dL_law_2007 rfl (lv_at hl 0 rfl) ?_
  refine lv_iconst (v := 1) hx hb dL_law_2008 (by decide) ?_
  refine lv_iadd hx hb dL_law_2009 ?_
  refine lv_topi (fun v1 ev1 => ?_)
  obtain rfl : v1 = 1 := ev1.trans (by decide)
  refine va_sld hx hb hX hbl hbA hS (mm_in mm_k1 (by decide)) dL_law_2010 ?_
  refine lv_topi (fun v2 ev2 => ?_)
  obtain rfl : p1 = v2 := ep1.trans ev2.symm
  refine lv_aload_n hx hb dL_law_2011 rfl (lv_at hl 3 rfl) ?_
  refine lv_iload_n hx hb dL_law_2012 rfl (lv_at hl 0 rfl) ?_
  refine lv_iconst (v := 2) hx hb dL_law_2013 (by decide) ?_
  refine lv_iadd hx hb dL_law_2014 ?_
  refine lv_topi (fun v3 ev3 => ?_)
  obtain rfl : v3 = 2 := ev3.trans (by decide)
  refine va_sld hx hb hX hbl hbA hS (mm_in mm_k2 (by decide)) dL_law_2015 ?_
  refine lv_topi (fun v4 ev4 => ?_)
  obtain rfl : p2 = v4 := ep2.trans ev4.symm
  refine mm_finir (va_runV (As := [.int p1, .int p2]) (rest := []) ⟨hx, hb, hml, hown, hts⟩ (K206_X11_differ l G cy H.size qx p1 p2 (ux 0) (ux 2) (ux 14) (ux 36) (ux 70) (ux 71) (ux 80) (ux 82) (ux 84) (ux 89) (ux 92) (ux 15) (ux 26) 0 0 0 0 0 0 0 (ux 16) (ux 17) (ux 18) (ux 19) (ux 20) (ux 21) (ux 22) (ux 23) (ux 24) (ux 25) ) (cwV 2 hts (mm_gV mm_w1189 mm_w1190 mm_w1191 mm_w2 mm_w1192) rfl rfl rfl hd_X11_differ ⟨by rw [hRf]; exact Nat.le_of_ble_eq_true rfl, by rw [hRl]; exact Nat.le_of_ble_eq_true rfl⟩) (mm_preV hK hP hD [0, 1, 2] rfl rfl 0 rfl rfl rfl) rfl rfl hl.1 rfl (lv_room (Nat.le_of_ble_eq_true rfl)) dL_law_2016 ⟨by rw [hRc]; exact Nat.le_of_ble_eq_true rfl, by rw [hRs]; exact Nat.le_of_ble_eq_true rfl⟩) hP hD hS hA [0, 1, 2] rfl (fun _ => rfl) ?_
  clear hP hD hS
  clear H locs
  intro v5 _u H locs hw hP hD hS
  subst hw
  refine lv_aload_n hx hb dL_law_2019 rfl (lv_at hl 1 rfl) ?_
  refine lv_aload_n hx hb dL_law_2020 rfl (lv_at hl 3 rfl) ?_
  refine lv_iload_n hx hb dL_law_2021 rfl (lv_at hl 0 rfl) ?_
  refine lv_iconst (v := 1) hx hb dL_law_2022 (by decide) ?_
  refine lv_iadd hx hb dL_law_2023 ?_
  refine lv_topi (fun v6 ev6 => ?_)
  obtain rfl : v6 = 1 := ev6.trans (by decide)
  refine va_sld hx hb hX hbl hbA hS (mm_in mm_k1 (by decide)) dL_law_2024 ?_
  refine lv_topi (fun v7 ev7 => ?_)
  obtain rfl : p1 = v7 := ep1.trans ev7.symm
  refine lv_aload_n hx hb dL_law_2025 rfl (lv_at hl 3 rfl) ?_
  refine lv_iload_n hx hb dL_law_2026 rfl (lv_at hl 0 rfl) ?_
  refine lv_iconst (v := 2) hx hb dL_law_2027 (by decide) ?_
  refine lv_iadd hx hb dL_law_2028 ?_
  refine lv_topi (fun v8 ev8 => ?_)
  obtain rfl : v8 = 2 := ev8.trans (by decide)
  refine va_sld hx hb hX hbl hbA hS (mm_in mm_k2 (by decide)) dL_law_2029 ?_
  refine lv_topi (fun v9 ev9 => ?_)
  obtain rfl : p2 = v9 := ep2.trans ev9.symm
  refine mm_finir (va_runV (As := [.int p1, .int p2]) (rest := [.int (-2)]) ⟨hx, hb, hml, hown, hts⟩ (K207_X12_differ l G cy H.size qm p1 p2 (um 0) (um 1) (um 2) (um 3) (um 4) 0 0 0 0 0 0 0 0 0 (-1) (um 5) (um 6) (um 7) (um 8) (um 9) (um 10) (um 11) (um 12) (um 13) (um 14) (um 15) (um 16) (um 17) 0 0 0 0 0 0 (um 18) 0 (um 19) ) (cwV 2 hts (mm_gV mm_w1198 mm_w1199 mm_w1200 mm_w5 mm_w1201) rfl rfl rfl hd_X12_differ ⟨by rw [hRf]; exact Nat.le_of_ble_eq_true rfl, by rw [hRl]; exact Nat.le_of_ble_eq_true rfl⟩) (mm_preV hK hP hD [3, 4] rfl rfl 3 rfl rfl rfl) rfl rfl hl.1 rfl (lv_room (Nat.le_of_ble_eq_true rfl)) dL_law_2030 ⟨by rw [hRc]; exact Nat.le_of_ble_eq_true rfl, by rw [hRs]; exact Nat.le_of_ble_eq_true rfl⟩) hP hD hS hA [3, 4] rfl (fun _ => rfl) ?_
  clear hP hD hS
  clear H locs
  intro v10 _u H locs hw hP hD hS
  subst hw
  refine lv_icmp_eq (tgt := 3153) hx hb dL_law_2033 (by decide) (fun c11 => ?_) (fun c11 => ?_)
  · refine lv_iinc (v := 6) (lv' := [(3, .int 6), (2, .ref qm), (1, .ref qx), (0, .ref b)]) hx hb dL_law_3153 hl (k := 0) rfl (by decide) (by decide) rfl ?_
    clear hl
    clear ls
    intro ls hl
    refine lv_goto (tgt := 18) hx hb dL_law_3156 (by decide) ?_
    refine lv_iload_n hx hb dL_law_18 rfl (lv_at hl 0 rfl) ?_
    refine lv_aload_n hx hb dL_law_19 rfl (lv_at hl 3 rfl) ?_
    refine va_slen hx hb hX hbl hbA hS dL_law_20 ?_
    refine lv_topi (fun v12 ev12 => ?_)
    obtain rfl : v12 = 6 := ev12.trans (by decide)
    refine lv_bipush (v := 6) hx hb dL_law_21 (by decide) ?_
    refine lv_isub hx hb dL_law_23 ?_
    refine lv_topi (fun v13 ev13 => ?_)
    obtain rfl : v13 = 0 := ev13.trans (by decide)
    refine lv_icmp_gt (tgt := 3159) hx hb dL_law_24 (by decide) (fun c14 => ?_) (fun c14 => ?_)
    · refine lv_iconst (v := 1) hx hb dL_law_3159 (by decide) ?_
      refine va_forget (fun q hq => by have := hS.2.2 q hq; rw [hAe] at this; exact this) ?_
      refine W.widen (k := 600000) (n := 7302250) (Nat.le_of_ble_eq_true rfl) (Nat.le_of_ble_eq_true rfl) ?_
      exact lw_ret hx hb hr hlocks dL_law_3160
    · have q15 := mm_leL (mm_nlt c14) mm_k6 mm_k0
      exact mm_no q15 (by decide)
  · have q16 := mm_neL (lo := (-1)) (mm_ne c11) mm_km2 mm_km2 (by decide) (by decide)
    exact mm_no q16 (by decide)

set_option maxHeartbeats 4000000 in
set_option maxRecDepth 100000 in
theorem lc_44 {p : Program} {e : Env} {s : State} {m : MethodId} {below : List Frame} {meth : Method} {c : Code} {b : Nat} {xs : Nat → Int32} {G : va_G} {cy : Nat → ClassId} {qx qm : Nat} {ux um : Nat → Nat} {H : Heap} {locs : List Loc} {ls : Array Slot} {A : Nat → Prop} (l : Launch) (hx : p.tables.exec = Jvm.exec) (hb : c.code = code) (hr : meth.sig.returnType = ret) (hlocks : meth.locks = false) (hml : c.maxLocals = 4) (hown : s.vm.findClass R_law = some m.cls) (hts : ∀ w ∈ lw_x :: wsL_law, w.before #[Value.ref b] s = true) (hX : va_X b 6 xs s s.heap) (hbl : b < s.heap.size) (hAe : A = fun q => s.heap.size ≤ q) (hK : mm_K G cy s) (hS : va_S A s.heap H locs) (hP : va_P G vwCl [(qx, .inr (11, [.ref (ux 0), .ref (ux 2), .ref (ux 14), .ref (ux 36), .ref (ux 70), .ref (ux 71), .ref (ux 80), .ref (ux 82), .ref (ux 84), .ref (ux 89), .ref (ux 92)])), ((ux 14), .inr (10, [.ref (ux 15), .ref (ux 26)])), ((ux 15), .inr (0, [.int 0, .int 0, .int 0, .int 0, .int 0, .int 0, .int 0, .int 0, .ref (ux 16), .ref (ux 17), .ref (ux 18), .ref (ux 19), .ref (ux 20), .ref (ux 21), .ref (ux 22), .ref (ux 23), .ref (ux 24), .ref (ux 25)])), (qm, .inr (12, [.int 0, .ref (um 0), .ref (um 1), .ref (um 2), .ref (um 3), .ref (um 4), .int 0, .int 0, .int 0, .int 0, .int 0, .long 0, .int 0, .int 0, .int 0, .int (-1), .ref (um 5), .ref (um 6), .ref (um 7), .ref (um 8), .ref (um 9), .ref (um 10), .ref (um 11), .ref (um 12), .ref (um 13), .ref (um 14), .ref (um 15), .ref (um 16), .ref (um 17), .int 0, .int 0, .int 0, .int 0, .int 0, .int 0, .ref (um 18), .int 0, .ref (um 19)])), ((um 6), .inl (cy 1, 30, .inl (fun _ => 0)))] H) (hD : va_D A [(qx, .inr (11, [.ref (ux 0), .ref (ux 2), .ref (ux 14), .ref (ux 36), .ref (ux 70), .ref (ux 71), .ref (ux 80), .ref (ux 82), .ref (ux 84), .ref (ux 89), .ref (ux 92)])), ((ux 14), .inr (10, [.ref (ux 15), .ref (ux 26)])), ((ux 15), .inr (0, [.int 0, .int 0, .int 0, .int 0, .int 0, .int 0, .int 0, .int 0, .ref (ux 16), .ref (ux 17), .ref (ux 18), .ref (ux 19), .ref (ux 20), .ref (ux 21), .ref (ux 22), .ref (ux 23), .ref (ux 24), .ref (ux 25)])), (qm, .inr (12, [.int 0, .ref (um 0), .ref (um 1), .ref (um 2), .ref (um 3), .ref (um 4), .int 0, .int 0, .int 0, .int 0, .int 0, .long 0, .int 0, .int 0, .int 0, .int (-1), .ref (um 5), .ref (um 6), .ref (um 7), .ref (um 8), .ref (um 9), .ref (um 10), .ref (um 11), .ref (um 12), .ref (um 13), .ref (um 14), .ref (um 15), .ref (um 16), .ref (um 17), .int 0, .int 0, .int 0, .int 0, .int 0, .int 0, .ref (um 18), .int 0, .ref (um 19)])), ((um 6), .inl (cy 1, 30, .inl (fun _ => 0)))]) (hl : lv_has ls 4 [(3, .int 0), (2, .ref qm), (1, .ref qx), (0, .ref b)]) : W p l e room_1 s m #[Value.ref b] below meth c H locs 116 20302 (lw_Z below #[Value.ref b] s) (F0 m 2038 ls []) := by
  have hA : ∀ q, s.heap.size ≤ q → A q := by rw [hAe]; exact fun _ h => h
  have hbA : ¬ A b := by rw [hAe]; exact Nat.not_le.mpr hbl
  have hRf : room_1.frames = 2048 := rfl
  have hRl : room_1.locals = 84000 := rfl
  have hRc : room_1.cells = 600000 := rfl
  have hRs : room_1.slots = 7302250 := rfl
  obtain ⟨p1, ep1⟩ : ∃ z : Int32, z = xs 1 := ⟨_, rfl⟩
  obtain ⟨p2, ep2⟩ : ∃ z : Int32, z = xs 2 := ⟨_, rfl⟩
  obtain ⟨p3, ep3⟩ : ∃ z : Int32, z = xs 3 := ⟨_, rfl⟩
  obtain ⟨p4, ep4⟩ : ∃ z : Int32, z = xs 4 := ⟨_, rfl⟩
  obtain ⟨p5, ep5⟩ : ∃ z : Int32, z = xs 5 := ⟨_, rfl⟩
  refine lv_aload_n hx hb dL_law_2038 rfl (lv_at hl 2 rfl) ?_
  refine lv_aload_n hx hb dL_law_2039 rfl (lv_at hl 3 rfl) ?_
  refine lv_iload_n hx hb dL_law_2040 rfl (lv_at hl 0 rfl) ?_
  refine lv_iconst (v := 1) hx hb dL_law_2041 (by decide) ?_
  refine lv_iadd hx hb dL_law_2042 ?_
  refine lv_topi (fun v1 ev1 => ?_)
  obtain rfl : v1 = 1 := ev1.trans (by decide)
  refine va_sld hx hb hX hbl hbA hS (mm_in mm_k1 (by decide)) dL_law_2043 ?_
  refine lv_topi (fun v2 ev2 => ?_)
  obtain rfl : p1 = v2 := ep1.trans ev2.symm
  refine lv_aload_n hx hb dL_law_2044 rfl (lv_at hl 3 rfl) ?_
  refine lv_iload_n hx hb dL_law_2045 rfl (lv_at hl 0 rfl) ?_
  refine lv_iconst (v := 2) hx hb dL_law_2046 (by decide) ?_
  refine lv_iadd hx hb dL_law_2047 ?_
  refine lv_topi (fun v3 ev3 => ?_)
  obtain rfl : v3 = 2 := ev3.trans (by decide)
  refine va_sld hx hb hX hbl hbA hS (mm_in mm_k2 (by decide)) dL_law_2048 ?_
  refine lv_topi (fun v4 ev4 => ?_)
  obtain rfl : p2 = v4 := ep2.trans ev4.symm
  refine mm_finir (va_runV (As := [.int p1, .int p2]) (rest := []) ⟨hx, hb, hml, hown, hts⟩ (K208_X11_differs l G cy H.size qx p1 p2 (ux 0) (ux 2) (ux 14) (ux 36) (ux 70) (ux 71) (ux 80) (ux 82) (ux 84) (ux 89) (ux 92) (ux 15) (ux 26) 0 0 0 0 0 0 0 (ux 16) (ux 17) (ux 18) (ux 19) (ux 20) (ux 21) (ux 22) (ux 23) (ux 24) (ux 25) ) (cwV 2 hts (mm_gV mm_w1206 mm_w1207 mm_w1208 mm_w2 mm_w1209) rfl rfl rfl hd_X11_differs ⟨by rw [hRf]; exact Nat.le_of_ble_eq_true rfl, by rw [hRl]; exact Nat.le_of_ble_eq_true rfl⟩) (mm_preV hK hP hD [0, 1, 2] rfl rfl 0 rfl rfl rfl) rfl rfl hl.1 rfl (lv_room (Nat.le_of_ble_eq_true rfl)) dL_law_2049 ⟨by rw [hRc]; exact Nat.le_of_ble_eq_true rfl, by rw [hRs]; exact Nat.le_of_ble_eq_true rfl⟩) hP hD hS hA [0, 1, 2] rfl (fun _ => rfl) ?_
  clear hP hD hS
  clear H locs
  intro v5 _u H locs hw hP hD hS
  subst hw
  refine lv_aload_n hx hb dL_law_2052 rfl (lv_at hl 1 rfl) ?_
  refine lv_aload_n hx hb dL_law_2053 rfl (lv_at hl 3 rfl) ?_
  refine lv_iload_n hx hb dL_law_2054 rfl (lv_at hl 0 rfl) ?_
  refine lv_iconst (v := 1) hx hb dL_law_2055 (by decide) ?_
  refine lv_iadd hx hb dL_law_2056 ?_
  refine lv_topi (fun v6 ev6 => ?_)
  obtain rfl : v6 = 1 := ev6.trans (by decide)
  refine va_sld hx hb hX hbl hbA hS (mm_in mm_k1 (by decide)) dL_law_2057 ?_
  refine lv_topi (fun v7 ev7 => ?_)
  obtain rfl : p1 = v7 := ep1.trans ev7.symm
  refine lv_aload_n hx hb dL_law_2058 rfl (lv_at hl 3 rfl) ?_
  refine lv_iload_n hx hb dL_law_2059 rfl (lv_at hl 0 rfl) ?_
  refine lv_iconst (v := 2) hx hb dL_law_2060 (by decide) ?_
  refine lv_iadd hx hb dL_law_2061 ?_
  refine lv_topi (fun v8 ev8 => ?_)
  obtain rfl : v8 = 2 := ev8.trans (by decide)
  refine va_sld hx hb hX hbl hbA hS (mm_in mm_k2 (by decide)) dL_law_2062 ?_
  refine lv_topi (fun v9 ev9 => ?_)
  obtain rfl : p2 = v9 := ep2.trans ev9.symm
  refine mm_finir (va_runV (As := [.int p1, .int p2]) (rest := [.int (-2)]) ⟨hx, hb, hml, hown, hts⟩ (K209_X12_differs l G cy H.size qm p1 p2 (um 0) (um 1) (um 2) (um 3) (um 4) 0 0 0 0 0 0 0 0 0 (-1) (um 5) (um 6) (um 7) (um 8) (um 9) (um 10) (um 11) (um 12) (um 13) (um 14) (um 15) (um 16) (um 17) 0 0 0 0 0 0 (um 18) 0 (um 19) ) (cwV 2 hts (mm_gV mm_w1210 mm_w1211 mm_w1212 mm_w5 mm_w1213) rfl rfl rfl hd_X12_differs ⟨by rw [hRf]; exact Nat.le_of_ble_eq_true rfl, by rw [hRl]; exact Nat.le_of_ble_eq_true rfl⟩) (mm_preV hK hP hD [3, 4] rfl rfl 3 rfl rfl rfl) rfl rfl hl.1 rfl (lv_room (Nat.le_of_ble_eq_true rfl)) dL_law_2063 ⟨by rw [hRc]; exact Nat.le_of_ble_eq_true rfl, by rw [hRs]; exact Nat.le_of_ble_eq_true rfl⟩) hP hD hS hA [3, 4] rfl (fun _ => rfl) ?_
  clear hP hD hS
  clear H locs
  intro v10 _u H locs hw hP hD hS
  subst hw
  refine lv_icmp_eq (tgt := 3153) hx hb dL_law_2066 (by decide) (fun c11 => ?_) (fun c11 => ?_)
  · refine lv_iinc (v := 6) (lv' := [(3, .int 6), (2, .ref qm), (1, .ref qx), (0, .ref b)]) hx hb dL_law_3153 hl (k := 0) rfl (by decide) (by decide) rfl ?_
    clear hl
    clear ls
    intro ls hl
    refine lv_goto (tgt := 18) hx hb dL_law_3156 (by decide) ?_
    refine lv_iload_n hx hb dL_law_18 rfl (lv_at hl 0 rfl) ?_
    refine lv_aload_n hx hb dL_law_19 rfl (lv_at hl 3 rfl) ?_
    refine va_slen hx hb hX hbl hbA hS dL_law_20 ?_
    refine lv_topi (fun v12 ev12 => ?_)
    obtain rfl : v12 = 6 := ev12.trans (by decide)
    refine lv_bipush (v := 6) hx hb dL_law_21 (by decide) ?_
    refine lv_isub hx hb dL_law_23 ?_
    refine lv_topi (fun v13 ev13 => ?_)
    obtain rfl : v13 = 0 := ev13.trans (by decide)
    refine lv_icmp_gt (tgt := 3159) hx hb dL_law_24 (by decide) (fun c14 => ?_) (fun c14 => ?_)
    · refine lv_iconst (v := 1) hx hb dL_law_3159 (by decide) ?_
      refine va_forget (fun q hq => by have := hS.2.2 q hq; rw [hAe] at this; exact this) ?_
      refine W.widen (k := 600000) (n := 7302250) (Nat.le_of_ble_eq_true rfl) (Nat.le_of_ble_eq_true rfl) ?_
      exact lw_ret hx hb hr hlocks dL_law_3160
    · have q15 := mm_leL (mm_nlt c14) mm_k6 mm_k0
      exact mm_no q15 (by decide)
  · have q16 := mm_neL (lo := (-1)) (mm_ne c11) mm_km2 mm_km2 (by decide) (by decide)
    exact mm_no q16 (by decide)

set_option maxHeartbeats 4000000 in
set_option maxRecDepth 100000 in
theorem lc_45 {p : Program} {e : Env} {s : State} {m : MethodId} {below : List Frame} {meth : Method} {c : Code} {b : Nat} {xs : Nat → Int32} {G : va_G} {cy : Nat → ClassId} {qx qm : Nat} {ux um : Nat → Nat} {H : Heap} {locs : List Loc} {ls : Array Slot} {A : Nat → Prop} (l : Launch) (hx : p.tables.exec = Jvm.exec) (hb : c.code = code) (hr : meth.sig.returnType = ret) (hlocks : meth.locks = false) (hml : c.maxLocals = 4) (hown : s.vm.findClass R_law = some m.cls) (hts : ∀ w ∈ lw_x :: wsL_law, w.before #[Value.ref b] s = true) (hX : va_X b 6 xs s s.heap) (hbl : b < s.heap.size) (hAe : A = fun q => s.heap.size ≤ q) (hK : mm_K G cy s) (hS : va_S A s.heap H locs) (hP : va_P G vwCl [(qx, .inr (11, [.ref (ux 0), .ref (ux 2), .ref (ux 14), .ref (ux 36), .ref (ux 70), .ref (ux 71), .ref (ux 80), .ref (ux 82), .ref (ux 84), .ref (ux 89), .ref (ux 92)])), ((ux 14), .inr (10, [.ref (ux 15), .ref (ux 26)])), ((ux 15), .inr (0, [.int 0, .int 0, .int 0, .int 0, .int 0, .int 0, .int 0, .int 0, .ref (ux 16), .ref (ux 17), .ref (ux 18), .ref (ux 19), .ref (ux 20), .ref (ux 21), .ref (ux 22), .ref (ux 23), .ref (ux 24), .ref (ux 25)])), (qm, .inr (12, [.int 0, .ref (um 0), .ref (um 1), .ref (um 2), .ref (um 3), .ref (um 4), .int 0, .int 0, .int 0, .int 0, .int 0, .long 0, .int 0, .int 0, .int 0, .int (-1), .ref (um 5), .ref (um 6), .ref (um 7), .ref (um 8), .ref (um 9), .ref (um 10), .ref (um 11), .ref (um 12), .ref (um 13), .ref (um 14), .ref (um 15), .ref (um 16), .ref (um 17), .int 0, .int 0, .int 0, .int 0, .int 0, .int 0, .ref (um 18), .int 0, .ref (um 19)])), ((um 6), .inl (cy 1, 30, .inl (fun _ => 0)))] H) (hD : va_D A [(qx, .inr (11, [.ref (ux 0), .ref (ux 2), .ref (ux 14), .ref (ux 36), .ref (ux 70), .ref (ux 71), .ref (ux 80), .ref (ux 82), .ref (ux 84), .ref (ux 89), .ref (ux 92)])), ((ux 14), .inr (10, [.ref (ux 15), .ref (ux 26)])), ((ux 15), .inr (0, [.int 0, .int 0, .int 0, .int 0, .int 0, .int 0, .int 0, .int 0, .ref (ux 16), .ref (ux 17), .ref (ux 18), .ref (ux 19), .ref (ux 20), .ref (ux 21), .ref (ux 22), .ref (ux 23), .ref (ux 24), .ref (ux 25)])), (qm, .inr (12, [.int 0, .ref (um 0), .ref (um 1), .ref (um 2), .ref (um 3), .ref (um 4), .int 0, .int 0, .int 0, .int 0, .int 0, .long 0, .int 0, .int 0, .int 0, .int (-1), .ref (um 5), .ref (um 6), .ref (um 7), .ref (um 8), .ref (um 9), .ref (um 10), .ref (um 11), .ref (um 12), .ref (um 13), .ref (um 14), .ref (um 15), .ref (um 16), .ref (um 17), .int 0, .int 0, .int 0, .int 0, .int 0, .int 0, .ref (um 18), .int 0, .ref (um 19)])), ((um 6), .inl (cy 1, 30, .inl (fun _ => 0)))]) (hl : lv_has ls 4 [(3, .int 0), (2, .ref qm), (1, .ref qx), (0, .ref b)]) : W p l e room_1 s m #[Value.ref b] below meth c H locs 116 20302 (lw_Z below #[Value.ref b] s) (F0 m 2071 ls []) := by
  have hA : ∀ q, s.heap.size ≤ q → A q := by rw [hAe]; exact fun _ h => h
  have hbA : ¬ A b := by rw [hAe]; exact Nat.not_le.mpr hbl
  have hRf : room_1.frames = 2048 := rfl
  have hRl : room_1.locals = 84000 := rfl
  have hRc : room_1.cells = 600000 := rfl
  have hRs : room_1.slots = 7302250 := rfl
  obtain ⟨p1, ep1⟩ : ∃ z : Int32, z = xs 1 := ⟨_, rfl⟩
  obtain ⟨p2, ep2⟩ : ∃ z : Int32, z = xs 2 := ⟨_, rfl⟩
  obtain ⟨p3, ep3⟩ : ∃ z : Int32, z = xs 3 := ⟨_, rfl⟩
  obtain ⟨p4, ep4⟩ : ∃ z : Int32, z = xs 4 := ⟨_, rfl⟩
  obtain ⟨p5, ep5⟩ : ∃ z : Int32, z = xs 5 := ⟨_, rfl⟩
  refine lv_aload_n hx hb dL_law_2071 rfl (lv_at hl 2 rfl) ?_
  refine lv_aload_n hx hb dL_law_2072 rfl (lv_at hl 3 rfl) ?_
  refine lv_iload_n hx hb dL_law_2073 rfl (lv_at hl 0 rfl) ?_
  refine lv_iconst (v := 1) hx hb dL_law_2074 (by decide) ?_
  refine lv_iadd hx hb dL_law_2075 ?_
  refine lv_topi (fun v1 ev1 => ?_)
  obtain rfl : v1 = 1 := ev1.trans (by decide)
  refine va_sld hx hb hX hbl hbA hS (mm_in mm_k1 (by decide)) dL_law_2076 ?_
  refine lv_topi (fun v2 ev2 => ?_)
  obtain rfl : p1 = v2 := ep1.trans ev2.symm
  refine lv_aload_n hx hb dL_law_2077 rfl (lv_at hl 3 rfl) ?_
  refine lv_iload_n hx hb dL_law_2078 rfl (lv_at hl 0 rfl) ?_
  refine lv_iconst (v := 2) hx hb dL_law_2079 (by decide) ?_
  refine lv_iadd hx hb dL_law_2080 ?_
  refine lv_topi (fun v3 ev3 => ?_)
  obtain rfl : v3 = 2 := ev3.trans (by decide)
  refine va_sld hx hb hX hbl hbA hS (mm_in mm_k2 (by decide)) dL_law_2081 ?_
  refine lv_topi (fun v4 ev4 => ?_)
  obtain rfl : p2 = v4 := ep2.trans ev4.symm
  refine lv_aload_n hx hb dL_law_2082 rfl (lv_at hl 3 rfl) ?_
  refine lv_iload_n hx hb dL_law_2083 rfl (lv_at hl 0 rfl) ?_
  refine lv_iconst (v := 3) hx hb dL_law_2084 (by decide) ?_
  refine lv_iadd hx hb dL_law_2085 ?_
  refine lv_topi (fun v5 ev5 => ?_)
  obtain rfl : v5 = 3 := ev5.trans (by decide)
  refine va_sld hx hb hX hbl hbA hS (mm_in mm_k3 (by decide)) dL_law_2086 ?_
  refine lv_topi (fun v6 ev6 => ?_)
  obtain rfl : p3 = v6 := ep3.trans ev6.symm
  refine mm_finir (va_runV (As := [.int p1, .int p2, .int p3]) (rest := []) ⟨hx, hb, hml, hown, hts⟩ (K210_X11_alike l G cy H.size qx p1 p2 p3 (ux 0) (ux 2) (ux 14) (ux 36) (ux 70) (ux 71) (ux 80) (ux 82) (ux 84) (ux 89) (ux 92) (ux 15) (ux 26) 0 0 0 0 0 0 0 (ux 16) (ux 17) (ux 18) (ux 19) (ux 20) (ux 21) (ux 22) (ux 23) (ux 24) (ux 25) ) (cwV 3 hts (mm_gV mm_w1214 mm_w1215 mm_w1216 mm_w2 mm_w1217) rfl rfl rfl hd_X11_alike ⟨by rw [hRf]; exact Nat.le_of_ble_eq_true rfl, by rw [hRl]; exact Nat.le_of_ble_eq_true rfl⟩) (mm_preV hK hP hD [0, 1, 2] rfl rfl 0 rfl rfl rfl) rfl rfl hl.1 rfl (lv_room (Nat.le_of_ble_eq_true rfl)) dL_law_2087 ⟨by rw [hRc]; exact Nat.le_of_ble_eq_true rfl, by rw [hRs]; exact Nat.le_of_ble_eq_true rfl⟩) hP hD hS hA [0, 1, 2] rfl (fun _ => rfl) ?_
  clear hP hD hS
  clear H locs
  intro v7 _u H locs hw hP hD hS
  subst hw
  refine lv_aload_n hx hb dL_law_2090 rfl (lv_at hl 1 rfl) ?_
  refine lv_aload_n hx hb dL_law_2091 rfl (lv_at hl 3 rfl) ?_
  refine lv_iload_n hx hb dL_law_2092 rfl (lv_at hl 0 rfl) ?_
  refine lv_iconst (v := 1) hx hb dL_law_2093 (by decide) ?_
  refine lv_iadd hx hb dL_law_2094 ?_
  refine lv_topi (fun v8 ev8 => ?_)
  obtain rfl : v8 = 1 := ev8.trans (by decide)
  refine va_sld hx hb hX hbl hbA hS (mm_in mm_k1 (by decide)) dL_law_2095 ?_
  refine lv_topi (fun v9 ev9 => ?_)
  obtain rfl : p1 = v9 := ep1.trans ev9.symm
  refine lv_aload_n hx hb dL_law_2096 rfl (lv_at hl 3 rfl) ?_
  refine lv_iload_n hx hb dL_law_2097 rfl (lv_at hl 0 rfl) ?_
  refine lv_iconst (v := 2) hx hb dL_law_2098 (by decide) ?_
  refine lv_iadd hx hb dL_law_2099 ?_
  refine lv_topi (fun v10 ev10 => ?_)
  obtain rfl : v10 = 2 := ev10.trans (by decide)
  refine va_sld hx hb hX hbl hbA hS (mm_in mm_k2 (by decide)) dL_law_2100 ?_
  refine lv_topi (fun v11 ev11 => ?_)
  obtain rfl : p2 = v11 := ep2.trans ev11.symm
  refine lv_aload_n hx hb dL_law_2101 rfl (lv_at hl 3 rfl) ?_
  refine lv_iload_n hx hb dL_law_2102 rfl (lv_at hl 0 rfl) ?_
  refine lv_iconst (v := 3) hx hb dL_law_2103 (by decide) ?_
  refine lv_iadd hx hb dL_law_2104 ?_
  refine lv_topi (fun v12 ev12 => ?_)
  obtain rfl : v12 = 3 := ev12.trans (by decide)
  refine va_sld hx hb hX hbl hbA hS (mm_in mm_k3 (by decide)) dL_law_2105 ?_
  refine lv_topi (fun v13 ev13 => ?_)
  obtain rfl : p3 = v13 := ep3.trans ev13.symm
  refine mm_finir (va_runV (As := [.int p1, .int p2, .int p3]) (rest := [.int (-2)]) ⟨hx, hb, hml, hown, hts⟩ (K211_X12_alike l G cy H.size qm p1 p2 p3 (um 0) (um 1) (um 2) (um 3) (um 4) 0 0 0 0 0 0 0 0 0 (-1) (um 5) (um 6) (um 7) (um 8) (um 9) (um 10) (um 11) (um 12) (um 13) (um 14) (um 15) (um 16) (um 17) 0 0 0 0 0 0 (um 18) 0 (um 19) ) (cwV 3 hts (mm_gV mm_w1219 mm_w1220 mm_w1221 mm_w5 mm_w1222) rfl rfl rfl hd_X12_alike ⟨by rw [hRf]; exact Nat.le_of_ble_eq_true rfl, by rw [hRl]; exact Nat.le_of_ble_eq_true rfl⟩) (mm_preV hK hP hD [3, 4] rfl rfl 3 rfl rfl rfl) rfl rfl hl.1 rfl (lv_room (Nat.le_of_ble_eq_true rfl)) dL_law_2106 ⟨by rw [hRc]; exact Nat.le_of_ble_eq_true rfl, by rw [hRs]; exact Nat.le_of_ble_eq_true rfl⟩) hP hD hS hA [3, 4] rfl (fun _ => rfl) ?_
  clear hP hD hS
  clear H locs
  intro v14 _u H locs hw hP hD hS
  subst hw
  refine lv_icmp_eq (tgt := 3153) hx hb dL_law_2109 (by decide) (fun c15 => ?_) (fun c15 => ?_)
  · refine lv_iinc (v := 6) (lv' := [(3, .int 6), (2, .ref qm), (1, .ref qx), (0, .ref b)]) hx hb dL_law_3153 hl (k := 0) rfl (by decide) (by decide) rfl ?_
    clear hl
    clear ls
    intro ls hl
    refine lv_goto (tgt := 18) hx hb dL_law_3156 (by decide) ?_
    refine lv_iload_n hx hb dL_law_18 rfl (lv_at hl 0 rfl) ?_
    refine lv_aload_n hx hb dL_law_19 rfl (lv_at hl 3 rfl) ?_
    refine va_slen hx hb hX hbl hbA hS dL_law_20 ?_
    refine lv_topi (fun v16 ev16 => ?_)
    obtain rfl : v16 = 6 := ev16.trans (by decide)
    refine lv_bipush (v := 6) hx hb dL_law_21 (by decide) ?_
    refine lv_isub hx hb dL_law_23 ?_
    refine lv_topi (fun v17 ev17 => ?_)
    obtain rfl : v17 = 0 := ev17.trans (by decide)
    refine lv_icmp_gt (tgt := 3159) hx hb dL_law_24 (by decide) (fun c18 => ?_) (fun c18 => ?_)
    · refine lv_iconst (v := 1) hx hb dL_law_3159 (by decide) ?_
      refine va_forget (fun q hq => by have := hS.2.2 q hq; rw [hAe] at this; exact this) ?_
      refine W.widen (k := 600000) (n := 7302250) (Nat.le_of_ble_eq_true rfl) (Nat.le_of_ble_eq_true rfl) ?_
      exact lw_ret hx hb hr hlocks dL_law_3160
    · have q19 := mm_leL (mm_nlt c18) mm_k6 mm_k0
      exact mm_no q19 (by decide)
  · have q20 := mm_neL (lo := (-1)) (mm_ne c15) mm_km2 mm_km2 (by decide) (by decide)
    exact mm_no q20 (by decide)

set_option maxHeartbeats 4000000 in
set_option maxRecDepth 100000 in
theorem lc_46 {p : Program} {e : Env} {s : State} {m : MethodId} {below : List Frame} {meth : Method} {c : Code} {b : Nat} {xs : Nat → Int32} {G : va_G} {cy : Nat → ClassId} {qx qm : Nat} {ux um : Nat → Nat} {H : Heap} {locs : List Loc} {ls : Array Slot} {A : Nat → Prop} (l : Launch) (hx : p.tables.exec = Jvm.exec) (hb : c.code = code) (hr : meth.sig.returnType = ret) (hlocks : meth.locks = false) (hml : c.maxLocals = 4) (hown : s.vm.findClass R_law = some m.cls) (hts : ∀ w ∈ lw_x :: wsL_law, w.before #[Value.ref b] s = true) (hX : va_X b 6 xs s s.heap) (hbl : b < s.heap.size) (hAe : A = fun q => s.heap.size ≤ q) (hK : mm_K G cy s) (hS : va_S A s.heap H locs) (hP : va_P G vwCl [(qx, .inr (11, [.ref (ux 0), .ref (ux 2), .ref (ux 14), .ref (ux 36), .ref (ux 70), .ref (ux 71), .ref (ux 80), .ref (ux 82), .ref (ux 84), .ref (ux 89), .ref (ux 92)])), ((ux 14), .inr (10, [.ref (ux 15), .ref (ux 26)])), ((ux 15), .inr (0, [.int 0, .int 0, .int 0, .int 0, .int 0, .int 0, .int 0, .int 0, .ref (ux 16), .ref (ux 17), .ref (ux 18), .ref (ux 19), .ref (ux 20), .ref (ux 21), .ref (ux 22), .ref (ux 23), .ref (ux 24), .ref (ux 25)])), (qm, .inr (12, [.int 0, .ref (um 0), .ref (um 1), .ref (um 2), .ref (um 3), .ref (um 4), .int 0, .int 0, .int 0, .int 0, .int 0, .long 0, .int 0, .int 0, .int 0, .int (-1), .ref (um 5), .ref (um 6), .ref (um 7), .ref (um 8), .ref (um 9), .ref (um 10), .ref (um 11), .ref (um 12), .ref (um 13), .ref (um 14), .ref (um 15), .ref (um 16), .ref (um 17), .int 0, .int 0, .int 0, .int 0, .int 0, .int 0, .ref (um 18), .int 0, .ref (um 19)])), ((um 6), .inl (cy 1, 30, .inl (fun _ => 0)))] H) (hD : va_D A [(qx, .inr (11, [.ref (ux 0), .ref (ux 2), .ref (ux 14), .ref (ux 36), .ref (ux 70), .ref (ux 71), .ref (ux 80), .ref (ux 82), .ref (ux 84), .ref (ux 89), .ref (ux 92)])), ((ux 14), .inr (10, [.ref (ux 15), .ref (ux 26)])), ((ux 15), .inr (0, [.int 0, .int 0, .int 0, .int 0, .int 0, .int 0, .int 0, .int 0, .ref (ux 16), .ref (ux 17), .ref (ux 18), .ref (ux 19), .ref (ux 20), .ref (ux 21), .ref (ux 22), .ref (ux 23), .ref (ux 24), .ref (ux 25)])), (qm, .inr (12, [.int 0, .ref (um 0), .ref (um 1), .ref (um 2), .ref (um 3), .ref (um 4), .int 0, .int 0, .int 0, .int 0, .int 0, .long 0, .int 0, .int 0, .int 0, .int (-1), .ref (um 5), .ref (um 6), .ref (um 7), .ref (um 8), .ref (um 9), .ref (um 10), .ref (um 11), .ref (um 12), .ref (um 13), .ref (um 14), .ref (um 15), .ref (um 16), .ref (um 17), .int 0, .int 0, .int 0, .int 0, .int 0, .int 0, .ref (um 18), .int 0, .ref (um 19)])), ((um 6), .inl (cy 1, 30, .inl (fun _ => 0)))]) (hl : lv_has ls 4 [(3, .int 0), (2, .ref qm), (1, .ref qx), (0, .ref b)]) : W p l e room_1 s m #[Value.ref b] below meth c H locs 116 20302 (lw_Z below #[Value.ref b] s) (F0 m 2114 ls []) := by
  have hA : ∀ q, s.heap.size ≤ q → A q := by rw [hAe]; exact fun _ h => h
  have hbA : ¬ A b := by rw [hAe]; exact Nat.not_le.mpr hbl
  have hRf : room_1.frames = 2048 := rfl
  have hRl : room_1.locals = 84000 := rfl
  have hRc : room_1.cells = 600000 := rfl
  have hRs : room_1.slots = 7302250 := rfl
  obtain ⟨p1, ep1⟩ : ∃ z : Int32, z = xs 1 := ⟨_, rfl⟩
  obtain ⟨p2, ep2⟩ : ∃ z : Int32, z = xs 2 := ⟨_, rfl⟩
  obtain ⟨p3, ep3⟩ : ∃ z : Int32, z = xs 3 := ⟨_, rfl⟩
  obtain ⟨p4, ep4⟩ : ∃ z : Int32, z = xs 4 := ⟨_, rfl⟩
  obtain ⟨p5, ep5⟩ : ∃ z : Int32, z = xs 5 := ⟨_, rfl⟩
  refine lv_aload_n hx hb dL_law_2114 rfl (lv_at hl 2 rfl) ?_
  refine lv_aload_n hx hb dL_law_2115 rfl (lv_at hl 3 rfl) ?_
  refine lv_iload_n hx hb dL_law_2116 rfl (lv_at hl 0 rfl) ?_
  refine lv_iconst (v := 1) hx hb dL_law_2117 (by decide) ?_
  refine lv_iadd hx hb dL_law_2118 ?_
  refine lv_topi (fun v1 ev1 => ?_)
  obtain rfl : v1 = 1 := ev1.trans (by decide)
  refine va_sld hx hb hX hbl hbA hS (mm_in mm_k1 (by decide)) dL_law_2119 ?_
  refine lv_topi (fun v2 ev2 => ?_)
  obtain rfl : p1 = v2 := ep1.trans ev2.symm
  refine lv_aload_n hx hb dL_law_2120 rfl (lv_at hl 3 rfl) ?_
  refine lv_iload_n hx hb dL_law_2121 rfl (lv_at hl 0 rfl) ?_
  refine lv_iconst (v := 2) hx hb dL_law_2122 (by decide) ?_
  refine lv_iadd hx hb dL_law_2123 ?_
  refine lv_topi (fun v3 ev3 => ?_)
  obtain rfl : v3 = 2 := ev3.trans (by decide)
  refine va_sld hx hb hX hbl hbA hS (mm_in mm_k2 (by decide)) dL_law_2124 ?_
  refine lv_topi (fun v4 ev4 => ?_)
  obtain rfl : p2 = v4 := ep2.trans ev4.symm
  refine mm_finir (va_runV (As := [.int p1, .int p2]) (rest := []) ⟨hx, hb, hml, hown, hts⟩ (K214_X11_torn l G cy H.size qx p1 p2 (ux 0) (ux 2) (ux 14) (ux 36) (ux 70) (ux 71) (ux 80) (ux 82) (ux 84) (ux 89) (ux 92) (ux 15) (ux 26) 0 0 0 0 0 0 0 (ux 16) (ux 17) (ux 18) (ux 19) (ux 20) (ux 21) (ux 22) (ux 23) (ux 24) (ux 25) ) (cwV 2 hts (mm_gV mm_w1224 mm_w1225 mm_w1226 mm_w2 mm_w1227) rfl rfl rfl hd_X11_torn ⟨by rw [hRf]; exact Nat.le_of_ble_eq_true rfl, by rw [hRl]; exact Nat.le_of_ble_eq_true rfl⟩) (mm_preV hK hP hD [0, 1, 2] rfl rfl 0 rfl rfl rfl) rfl rfl hl.1 rfl (lv_room (Nat.le_of_ble_eq_true rfl)) dL_law_2125 ⟨by rw [hRc]; exact Nat.le_of_ble_eq_true rfl, by rw [hRs]; exact Nat.le_of_ble_eq_true rfl⟩) hP hD hS hA [0, 1, 2] rfl (fun _ => rfl) ?_
  clear hP hD hS
  clear H locs
  intro v5 _u H locs hw hP hD hS
  subst hw
  refine lv_aload_n hx hb dL_law_2128 rfl (lv_at hl 1 rfl) ?_
  refine lv_aload_n hx hb dL_law_2129 rfl (lv_at hl 3 rfl) ?_
  refine lv_iload_n hx hb dL_law_2130 rfl (lv_at hl 0 rfl) ?_
  refine lv_iconst (v := 1) hx hb dL_law_2131 (by decide) ?_
  refine lv_iadd hx hb dL_law_2132 ?_
  refine lv_topi (fun v6 ev6 => ?_)
  obtain rfl : v6 = 1 := ev6.trans (by decide)
  refine va_sld hx hb hX hbl hbA hS (mm_in mm_k1 (by decide)) dL_law_2133 ?_
  refine lv_topi (fun v7 ev7 => ?_)
  obtain rfl : p1 = v7 := ep1.trans ev7.symm
  refine lv_aload_n hx hb dL_law_2134 rfl (lv_at hl 3 rfl) ?_
  refine lv_iload_n hx hb dL_law_2135 rfl (lv_at hl 0 rfl) ?_
  refine lv_iconst (v := 2) hx hb dL_law_2136 (by decide) ?_
  refine lv_iadd hx hb dL_law_2137 ?_
  refine lv_topi (fun v8 ev8 => ?_)
  obtain rfl : v8 = 2 := ev8.trans (by decide)
  refine va_sld hx hb hX hbl hbA hS (mm_in mm_k2 (by decide)) dL_law_2138 ?_
  refine lv_topi (fun v9 ev9 => ?_)
  obtain rfl : p2 = v9 := ep2.trans ev9.symm
  refine mm_finir (va_runV (As := [.int p1, .int p2]) (rest := [.int (-2)]) ⟨hx, hb, hml, hown, hts⟩ (K219_X12_torn l G cy H.size qm p1 p2 (um 0) (um 1) (um 2) (um 3) (um 4) 0 0 0 0 0 0 0 0 0 (-1) (um 5) (um 6) (um 7) (um 8) (um 9) (um 10) (um 11) (um 12) (um 13) (um 14) (um 15) (um 16) (um 17) 0 0 0 0 0 0 (um 18) 0 (um 19) ) (cwV 2 hts (mm_gV mm_w1260 mm_w1261 mm_w1262 mm_w5 mm_w1263) rfl rfl rfl hd_X12_torn ⟨by rw [hRf]; exact Nat.le_of_ble_eq_true rfl, by rw [hRl]; exact Nat.le_of_ble_eq_true rfl⟩) (mm_preV hK hP hD [3, 4] rfl rfl 3 rfl rfl rfl) rfl rfl hl.1 rfl (lv_room (Nat.le_of_ble_eq_true rfl)) dL_law_2139 ⟨by rw [hRc]; exact Nat.le_of_ble_eq_true rfl, by rw [hRs]; exact Nat.le_of_ble_eq_true rfl⟩) hP hD hS hA [3, 4] rfl (fun _ => rfl) ?_
  clear hP hD hS
  clear H locs
  intro v10 _u H locs hw hP hD hS
  subst hw
  refine lv_icmp_eq (tgt := 3153) hx hb dL_law_2142 (by decide) (fun c11 => ?_) (fun c11 => ?_)
  · refine lv_iinc (v := 6) (lv' := [(3, .int 6), (2, .ref qm), (1, .ref qx), (0, .ref b)]) hx hb dL_law_3153 hl (k := 0) rfl (by decide) (by decide) rfl ?_
    clear hl
    clear ls
    intro ls hl
    refine lv_goto (tgt := 18) hx hb dL_law_3156 (by decide) ?_
    refine lv_iload_n hx hb dL_law_18 rfl (lv_at hl 0 rfl) ?_
    refine lv_aload_n hx hb dL_law_19 rfl (lv_at hl 3 rfl) ?_
    refine va_slen hx hb hX hbl hbA hS dL_law_20 ?_
    refine lv_topi (fun v12 ev12 => ?_)
    obtain rfl : v12 = 6 := ev12.trans (by decide)
    refine lv_bipush (v := 6) hx hb dL_law_21 (by decide) ?_
    refine lv_isub hx hb dL_law_23 ?_
    refine lv_topi (fun v13 ev13 => ?_)
    obtain rfl : v13 = 0 := ev13.trans (by decide)
    refine lv_icmp_gt (tgt := 3159) hx hb dL_law_24 (by decide) (fun c14 => ?_) (fun c14 => ?_)
    · refine lv_iconst (v := 1) hx hb dL_law_3159 (by decide) ?_
      refine va_forget (fun q hq => by have := hS.2.2 q hq; rw [hAe] at this; exact this) ?_
      refine W.widen (k := 600000) (n := 7302250) (Nat.le_of_ble_eq_true rfl) (Nat.le_of_ble_eq_true rfl) ?_
      exact lw_ret hx hb hr hlocks dL_law_3160
    · have q15 := mm_leL (mm_nlt c14) mm_k6 mm_k0
      exact mm_no q15 (by decide)
  · have q16 := mm_neL (lo := (-1)) (mm_ne c11) mm_km2 mm_km2 (by decide) (by decide)
    exact mm_no q16 (by decide)

set_option maxHeartbeats 4000000 in
set_option maxRecDepth 100000 in
theorem lc_47 {p : Program} {e : Env} {s : State} {m : MethodId} {below : List Frame} {meth : Method} {c : Code} {b : Nat} {xs : Nat → Int32} {G : va_G} {cy : Nat → ClassId} {qx qm : Nat} {ux um : Nat → Nat} {H : Heap} {locs : List Loc} {ls : Array Slot} {A : Nat → Prop} (l : Launch) (hx : p.tables.exec = Jvm.exec) (hb : c.code = code) (hr : meth.sig.returnType = ret) (hlocks : meth.locks = false) (hml : c.maxLocals = 4) (hown : s.vm.findClass R_law = some m.cls) (hts : ∀ w ∈ lw_x :: wsL_law, w.before #[Value.ref b] s = true) (hX : va_X b 6 xs s s.heap) (hbl : b < s.heap.size) (hAe : A = fun q => s.heap.size ≤ q) (hK : mm_K G cy s) (hS : va_S A s.heap H locs) (hP : va_P G vwCl [(qx, .inr (11, [.ref (ux 0), .ref (ux 2), .ref (ux 14), .ref (ux 36), .ref (ux 70), .ref (ux 71), .ref (ux 80), .ref (ux 82), .ref (ux 84), .ref (ux 89), .ref (ux 92)])), ((ux 14), .inr (10, [.ref (ux 15), .ref (ux 26)])), ((ux 15), .inr (0, [.int 0, .int 0, .int 0, .int 0, .int 0, .int 0, .int 0, .int 0, .ref (ux 16), .ref (ux 17), .ref (ux 18), .ref (ux 19), .ref (ux 20), .ref (ux 21), .ref (ux 22), .ref (ux 23), .ref (ux 24), .ref (ux 25)])), (qm, .inr (12, [.int 0, .ref (um 0), .ref (um 1), .ref (um 2), .ref (um 3), .ref (um 4), .int 0, .int 0, .int 0, .int 0, .int 0, .long 0, .int 0, .int 0, .int 0, .int (-1), .ref (um 5), .ref (um 6), .ref (um 7), .ref (um 8), .ref (um 9), .ref (um 10), .ref (um 11), .ref (um 12), .ref (um 13), .ref (um 14), .ref (um 15), .ref (um 16), .ref (um 17), .int 0, .int 0, .int 0, .int 0, .int 0, .int 0, .ref (um 18), .int 0, .ref (um 19)])), ((um 6), .inl (cy 1, 30, .inl (fun _ => 0)))] H) (hD : va_D A [(qx, .inr (11, [.ref (ux 0), .ref (ux 2), .ref (ux 14), .ref (ux 36), .ref (ux 70), .ref (ux 71), .ref (ux 80), .ref (ux 82), .ref (ux 84), .ref (ux 89), .ref (ux 92)])), ((ux 14), .inr (10, [.ref (ux 15), .ref (ux 26)])), ((ux 15), .inr (0, [.int 0, .int 0, .int 0, .int 0, .int 0, .int 0, .int 0, .int 0, .ref (ux 16), .ref (ux 17), .ref (ux 18), .ref (ux 19), .ref (ux 20), .ref (ux 21), .ref (ux 22), .ref (ux 23), .ref (ux 24), .ref (ux 25)])), (qm, .inr (12, [.int 0, .ref (um 0), .ref (um 1), .ref (um 2), .ref (um 3), .ref (um 4), .int 0, .int 0, .int 0, .int 0, .int 0, .long 0, .int 0, .int 0, .int 0, .int (-1), .ref (um 5), .ref (um 6), .ref (um 7), .ref (um 8), .ref (um 9), .ref (um 10), .ref (um 11), .ref (um 12), .ref (um 13), .ref (um 14), .ref (um 15), .ref (um 16), .ref (um 17), .int 0, .int 0, .int 0, .int 0, .int 0, .int 0, .ref (um 18), .int 0, .ref (um 19)])), ((um 6), .inl (cy 1, 30, .inl (fun _ => 0)))]) (hl : lv_has ls 4 [(3, .int 0), (2, .ref qm), (1, .ref qx), (0, .ref b)]) : W p l e room_1 s m #[Value.ref b] below meth c H locs 116 20302 (lw_Z below #[Value.ref b] s) (F0 m 2147 ls []) := by
  have hA : ∀ q, s.heap.size ≤ q → A q := by rw [hAe]; exact fun _ h => h
  have hbA : ¬ A b := by rw [hAe]; exact Nat.not_le.mpr hbl
  have hRf : room_1.frames = 2048 := rfl
  have hRl : room_1.locals = 84000 := rfl
  have hRc : room_1.cells = 600000 := rfl
  have hRs : room_1.slots = 7302250 := rfl
  obtain ⟨p1, ep1⟩ : ∃ z : Int32, z = xs 1 := ⟨_, rfl⟩
  obtain ⟨p2, ep2⟩ : ∃ z : Int32, z = xs 2 := ⟨_, rfl⟩
  obtain ⟨p3, ep3⟩ : ∃ z : Int32, z = xs 3 := ⟨_, rfl⟩
  obtain ⟨p4, ep4⟩ : ∃ z : Int32, z = xs 4 := ⟨_, rfl⟩
  obtain ⟨p5, ep5⟩ : ∃ z : Int32, z = xs 5 := ⟨_, rfl⟩
  refine lv_aload_n hx hb dL_law_2147 rfl (lv_at hl 2 rfl) ?_
  refine lv_aload_n hx hb dL_law_2148 rfl (lv_at hl 3 rfl) ?_
  refine lv_iload_n hx hb dL_law_2149 rfl (lv_at hl 0 rfl) ?_
  refine lv_iconst (v := 1) hx hb dL_law_2150 (by decide) ?_
  refine lv_iadd hx hb dL_law_2151 ?_
  refine lv_topi (fun v1 ev1 => ?_)
  obtain rfl : v1 = 1 := ev1.trans (by decide)
  refine va_sld hx hb hX hbl hbA hS (mm_in mm_k1 (by decide)) dL_law_2152 ?_
  refine lv_topi (fun v2 ev2 => ?_)
  obtain rfl : p1 = v2 := ep1.trans ev2.symm
  refine lv_aload_n hx hb dL_law_2153 rfl (lv_at hl 3 rfl) ?_
  refine lv_iload_n hx hb dL_law_2154 rfl (lv_at hl 0 rfl) ?_
  refine lv_iconst (v := 2) hx hb dL_law_2155 (by decide) ?_
  refine lv_iadd hx hb dL_law_2156 ?_
  refine lv_topi (fun v3 ev3 => ?_)
  obtain rfl : v3 = 2 := ev3.trans (by decide)
  refine va_sld hx hb hX hbl hbA hS (mm_in mm_k2 (by decide)) dL_law_2157 ?_
  refine lv_topi (fun v4 ev4 => ?_)
  obtain rfl : p2 = v4 := ep2.trans ev4.symm
  refine lv_aload_n hx hb dL_law_2158 rfl (lv_at hl 3 rfl) ?_
  refine lv_iload_n hx hb dL_law_2159 rfl (lv_at hl 0 rfl) ?_
  refine lv_iconst (v := 3) hx hb dL_law_2160 (by decide) ?_
  refine lv_iadd hx hb dL_law_2161 ?_
  refine lv_topi (fun v5 ev5 => ?_)
  obtain rfl : v5 = 3 := ev5.trans (by decide)
  refine va_sld hx hb hX hbl hbA hS (mm_in mm_k3 (by decide)) dL_law_2162 ?_
  refine lv_topi (fun v6 ev6 => ?_)
  obtain rfl : p3 = v6 := ep3.trans ev6.symm
  refine mm_finir (va_runV (As := [.int p1, .int p2, .int p3]) (rest := []) ⟨hx, hb, hml, hown, hts⟩ (K221_X11_date l G cy H.size qx p1 p2 p3 (ux 0) (ux 2) (ux 14) (ux 36) (ux 70) (ux 71) (ux 80) (ux 82) (ux 84) (ux 89) (ux 92) (ux 15) (ux 26) 0 0 0 0 0 0 0 (ux 16) (ux 17) (ux 18) (ux 19) (ux 20) (ux 21) (ux 22) (ux 23) (ux 24) (ux 25) ) (cwV 3 hts (mm_gV mm_w1281 mm_w1282 mm_w1283 mm_w2 mm_w1284) rfl rfl rfl hd_X11_date ⟨by rw [hRf]; exact Nat.le_of_ble_eq_true rfl, by rw [hRl]; exact Nat.le_of_ble_eq_true rfl⟩) (mm_preV hK hP hD [0, 1, 2] rfl rfl 0 rfl rfl rfl) rfl rfl hl.1 rfl (lv_room (Nat.le_of_ble_eq_true rfl)) dL_law_2163 ⟨by rw [hRc]; exact Nat.le_of_ble_eq_true rfl, by rw [hRs]; exact Nat.le_of_ble_eq_true rfl⟩) hP hD hS hA [0, 1, 2] rfl (fun _ => rfl) ?_
  clear hP hD hS
  clear H locs
  intro v7 _u H locs hw hP hD hS
  subst hw
  refine lv_aload_n hx hb dL_law_2166 rfl (lv_at hl 1 rfl) ?_
  refine lv_aload_n hx hb dL_law_2167 rfl (lv_at hl 3 rfl) ?_
  refine lv_iload_n hx hb dL_law_2168 rfl (lv_at hl 0 rfl) ?_
  refine lv_iconst (v := 1) hx hb dL_law_2169 (by decide) ?_
  refine lv_iadd hx hb dL_law_2170 ?_
  refine lv_topi (fun v8 ev8 => ?_)
  obtain rfl : v8 = 1 := ev8.trans (by decide)
  refine va_sld hx hb hX hbl hbA hS (mm_in mm_k1 (by decide)) dL_law_2171 ?_
  refine lv_topi (fun v9 ev9 => ?_)
  obtain rfl : p1 = v9 := ep1.trans ev9.symm
  refine lv_aload_n hx hb dL_law_2172 rfl (lv_at hl 3 rfl) ?_
  refine lv_iload_n hx hb dL_law_2173 rfl (lv_at hl 0 rfl) ?_
  refine lv_iconst (v := 2) hx hb dL_law_2174 (by decide) ?_
  refine lv_iadd hx hb dL_law_2175 ?_
  refine lv_topi (fun v10 ev10 => ?_)
  obtain rfl : v10 = 2 := ev10.trans (by decide)
  refine va_sld hx hb hX hbl hbA hS (mm_in mm_k2 (by decide)) dL_law_2176 ?_
  refine lv_topi (fun v11 ev11 => ?_)
  obtain rfl : p2 = v11 := ep2.trans ev11.symm
  refine lv_aload_n hx hb dL_law_2177 rfl (lv_at hl 3 rfl) ?_
  refine lv_iload_n hx hb dL_law_2178 rfl (lv_at hl 0 rfl) ?_
  refine lv_iconst (v := 3) hx hb dL_law_2179 (by decide) ?_
  refine lv_iadd hx hb dL_law_2180 ?_
  refine lv_topi (fun v12 ev12 => ?_)
  obtain rfl : v12 = 3 := ev12.trans (by decide)
  refine va_sld hx hb hX hbl hbA hS (mm_in mm_k3 (by decide)) dL_law_2181 ?_
  refine lv_topi (fun v13 ev13 => ?_)
  obtain rfl : p3 = v13 := ep3.trans ev13.symm
  refine mm_finir (va_runV (As := [.int p1, .int p2, .int p3]) (rest := [.int (-2)]) ⟨hx, hb, hml, hown, hts⟩ (K223_X12_date l G cy H.size qm p1 p2 p3 (um 0) (um 1) (um 2) (um 3) (um 4) 0 0 0 0 0 0 0 0 0 (-1) (um 5) (um 6) (um 7) (um 8) (um 9) (um 10) (um 11) (um 12) (um 13) (um 14) (um 15) (um 16) (um 17) 0 0 0 0 0 0 (um 18) 0 (um 19) ) (cwV 3 hts (mm_gV mm_w1289 mm_w1290 mm_w1291 mm_w5 mm_w1292) rfl rfl rfl hd_X12_date ⟨by rw [hRf]; exact Nat.le_of_ble_eq_true rfl, by rw [hRl]; exact Nat.le_of_ble_eq_true rfl⟩) (mm_preV hK hP hD [3, 4] rfl rfl 3 rfl rfl rfl) rfl rfl hl.1 rfl (lv_room (Nat.le_of_ble_eq_true rfl)) dL_law_2182 ⟨by rw [hRc]; exact Nat.le_of_ble_eq_true rfl, by rw [hRs]; exact Nat.le_of_ble_eq_true rfl⟩) hP hD hS hA [3, 4] rfl (fun _ => rfl) ?_
  clear hP hD hS
  clear H locs
  intro v14 _u H locs hw hP hD hS
  subst hw
  refine lv_icmp_eq (tgt := 3153) hx hb dL_law_2185 (by decide) (fun c15 => ?_) (fun c15 => ?_)
  · refine lv_iinc (v := 6) (lv' := [(3, .int 6), (2, .ref qm), (1, .ref qx), (0, .ref b)]) hx hb dL_law_3153 hl (k := 0) rfl (by decide) (by decide) rfl ?_
    clear hl
    clear ls
    intro ls hl
    refine lv_goto (tgt := 18) hx hb dL_law_3156 (by decide) ?_
    refine lv_iload_n hx hb dL_law_18 rfl (lv_at hl 0 rfl) ?_
    refine lv_aload_n hx hb dL_law_19 rfl (lv_at hl 3 rfl) ?_
    refine va_slen hx hb hX hbl hbA hS dL_law_20 ?_
    refine lv_topi (fun v16 ev16 => ?_)
    obtain rfl : v16 = 6 := ev16.trans (by decide)
    refine lv_bipush (v := 6) hx hb dL_law_21 (by decide) ?_
    refine lv_isub hx hb dL_law_23 ?_
    refine lv_topi (fun v17 ev17 => ?_)
    obtain rfl : v17 = 0 := ev17.trans (by decide)
    refine lv_icmp_gt (tgt := 3159) hx hb dL_law_24 (by decide) (fun c18 => ?_) (fun c18 => ?_)
    · refine lv_iconst (v := 1) hx hb dL_law_3159 (by decide) ?_
      refine va_forget (fun q hq => by have := hS.2.2 q hq; rw [hAe] at this; exact this) ?_
      refine W.widen (k := 600000) (n := 7302250) (Nat.le_of_ble_eq_true rfl) (Nat.le_of_ble_eq_true rfl) ?_
      exact lw_ret hx hb hr hlocks dL_law_3160
    · have q19 := mm_leL (mm_nlt c18) mm_k6 mm_k0
      exact mm_no q19 (by decide)
  · have q20 := mm_neL (lo := (-1)) (mm_ne c15) mm_km2 mm_km2 (by decide) (by decide)
    exact mm_no q20 (by decide)

set_option maxHeartbeats 4000000 in
set_option maxRecDepth 100000 in
theorem lc_48 {p : Program} {e : Env} {s : State} {m : MethodId} {below : List Frame} {meth : Method} {c : Code} {b : Nat} {xs : Nat → Int32} {G : va_G} {cy : Nat → ClassId} {qx qm : Nat} {ux um : Nat → Nat} {H : Heap} {locs : List Loc} {ls : Array Slot} {A : Nat → Prop} (l : Launch) (hx : p.tables.exec = Jvm.exec) (hb : c.code = code) (hr : meth.sig.returnType = ret) (hlocks : meth.locks = false) (hml : c.maxLocals = 4) (hown : s.vm.findClass R_law = some m.cls) (hts : ∀ w ∈ lw_x :: wsL_law, w.before #[Value.ref b] s = true) (hX : va_X b 6 xs s s.heap) (hbl : b < s.heap.size) (hAe : A = fun q => s.heap.size ≤ q) (hK : mm_K G cy s) (hS : va_S A s.heap H locs) (hP : va_P G vwCl [(qx, .inr (11, [.ref (ux 0), .ref (ux 2), .ref (ux 14), .ref (ux 36), .ref (ux 70), .ref (ux 71), .ref (ux 80), .ref (ux 82), .ref (ux 84), .ref (ux 89), .ref (ux 92)])), ((ux 14), .inr (10, [.ref (ux 15), .ref (ux 26)])), ((ux 15), .inr (0, [.int 0, .int 0, .int 0, .int 0, .int 0, .int 0, .int 0, .int 0, .ref (ux 16), .ref (ux 17), .ref (ux 18), .ref (ux 19), .ref (ux 20), .ref (ux 21), .ref (ux 22), .ref (ux 23), .ref (ux 24), .ref (ux 25)])), (qm, .inr (12, [.int 0, .ref (um 0), .ref (um 1), .ref (um 2), .ref (um 3), .ref (um 4), .int 0, .int 0, .int 0, .int 0, .int 0, .long 0, .int 0, .int 0, .int 0, .int (-1), .ref (um 5), .ref (um 6), .ref (um 7), .ref (um 8), .ref (um 9), .ref (um 10), .ref (um 11), .ref (um 12), .ref (um 13), .ref (um 14), .ref (um 15), .ref (um 16), .ref (um 17), .int 0, .int 0, .int 0, .int 0, .int 0, .int 0, .ref (um 18), .int 0, .ref (um 19)])), ((um 6), .inl (cy 1, 30, .inl (fun _ => 0)))] H) (hD : va_D A [(qx, .inr (11, [.ref (ux 0), .ref (ux 2), .ref (ux 14), .ref (ux 36), .ref (ux 70), .ref (ux 71), .ref (ux 80), .ref (ux 82), .ref (ux 84), .ref (ux 89), .ref (ux 92)])), ((ux 14), .inr (10, [.ref (ux 15), .ref (ux 26)])), ((ux 15), .inr (0, [.int 0, .int 0, .int 0, .int 0, .int 0, .int 0, .int 0, .int 0, .ref (ux 16), .ref (ux 17), .ref (ux 18), .ref (ux 19), .ref (ux 20), .ref (ux 21), .ref (ux 22), .ref (ux 23), .ref (ux 24), .ref (ux 25)])), (qm, .inr (12, [.int 0, .ref (um 0), .ref (um 1), .ref (um 2), .ref (um 3), .ref (um 4), .int 0, .int 0, .int 0, .int 0, .int 0, .long 0, .int 0, .int 0, .int 0, .int (-1), .ref (um 5), .ref (um 6), .ref (um 7), .ref (um 8), .ref (um 9), .ref (um 10), .ref (um 11), .ref (um 12), .ref (um 13), .ref (um 14), .ref (um 15), .ref (um 16), .ref (um 17), .int 0, .int 0, .int 0, .int 0, .int 0, .int 0, .ref (um 18), .int 0, .ref (um 19)])), ((um 6), .inl (cy 1, 30, .inl (fun _ => 0)))]) (hl : lv_has ls 4 [(3, .int 0), (2, .ref qm), (1, .ref qx), (0, .ref b)]) : W p l e room_1 s m #[Value.ref b] below meth c H locs 116 20302 (lw_Z below #[Value.ref b] s) (F0 m 2190 ls []) := by
  have hA : ∀ q, s.heap.size ≤ q → A q := by rw [hAe]; exact fun _ h => h
  have hbA : ¬ A b := by rw [hAe]; exact Nat.not_le.mpr hbl
  have hRf : room_1.frames = 2048 := rfl
  have hRl : room_1.locals = 84000 := rfl
  have hRc : room_1.cells = 600000 := rfl
  have hRs : room_1.slots = 7302250 := rfl
  obtain ⟨p1, ep1⟩ : ∃ z : Int32, z = xs 1 := ⟨_, rfl⟩
  obtain ⟨p2, ep2⟩ : ∃ z : Int32, z = xs 2 := ⟨_, rfl⟩
  obtain ⟨p3, ep3⟩ : ∃ z : Int32, z = xs 3 := ⟨_, rfl⟩
  obtain ⟨p4, ep4⟩ : ∃ z : Int32, z = xs 4 := ⟨_, rfl⟩
  obtain ⟨p5, ep5⟩ : ∃ z : Int32, z = xs 5 := ⟨_, rfl⟩
  refine lv_aload_n hx hb dL_law_2190 rfl (lv_at hl 2 rfl) ?_
  refine lv_aload_n hx hb dL_law_2191 rfl (lv_at hl 3 rfl) ?_
  refine lv_iload_n hx hb dL_law_2192 rfl (lv_at hl 0 rfl) ?_
  refine lv_iconst (v := 1) hx hb dL_law_2193 (by decide) ?_
  refine lv_iadd hx hb dL_law_2194 ?_
  refine lv_topi (fun v1 ev1 => ?_)
  obtain rfl : v1 = 1 := ev1.trans (by decide)
  refine va_sld hx hb hX hbl hbA hS (mm_in mm_k1 (by decide)) dL_law_2195 ?_
  refine lv_topi (fun v2 ev2 => ?_)
  obtain rfl : p1 = v2 := ep1.trans ev2.symm
  refine lv_aload_n hx hb dL_law_2196 rfl (lv_at hl 3 rfl) ?_
  refine lv_iload_n hx hb dL_law_2197 rfl (lv_at hl 0 rfl) ?_
  refine lv_iconst (v := 2) hx hb dL_law_2198 (by decide) ?_
  refine lv_iadd hx hb dL_law_2199 ?_
  refine lv_topi (fun v3 ev3 => ?_)
  obtain rfl : v3 = 2 := ev3.trans (by decide)
  refine va_sld hx hb hX hbl hbA hS (mm_in mm_k2 (by decide)) dL_law_2200 ?_
  refine lv_topi (fun v4 ev4 => ?_)
  obtain rfl : p2 = v4 := ep2.trans ev4.symm
  refine mm_finir (va_runV (As := [.int p1, .int p2]) (rest := []) ⟨hx, hb, hml, hown, hts⟩ (K224_X11_ask l G cy H.size qx p1 p2 (ux 0) (ux 2) (ux 14) (ux 36) (ux 70) (ux 71) (ux 80) (ux 82) (ux 84) (ux 89) (ux 92) (ux 15) (ux 26) 0 0 0 0 0 0 0 (ux 16) (ux 17) (ux 18) (ux 19) (ux 20) (ux 21) (ux 22) (ux 23) (ux 24) (ux 25) ) (cwV 2 hts (mm_gV mm_w1293 mm_w1294 mm_w1295 mm_w2 mm_w1296) rfl rfl rfl hd_X11_ask ⟨by rw [hRf]; exact Nat.le_of_ble_eq_true rfl, by rw [hRl]; exact Nat.le_of_ble_eq_true rfl⟩) (mm_preV hK hP hD [0, 1, 2] rfl rfl 0 rfl rfl rfl) rfl rfl hl.1 rfl (lv_room (Nat.le_of_ble_eq_true rfl)) dL_law_2201 ⟨by rw [hRc]; exact Nat.le_of_ble_eq_true rfl, by rw [hRs]; exact Nat.le_of_ble_eq_true rfl⟩) hP hD hS hA [0, 1, 2] rfl (fun _ => rfl) ?_
  clear hP hD hS
  clear H locs
  intro v5 _u H locs hw hP hD hS
  subst hw
  refine lv_aload_n hx hb dL_law_2204 rfl (lv_at hl 1 rfl) ?_
  refine lv_aload_n hx hb dL_law_2205 rfl (lv_at hl 3 rfl) ?_
  refine lv_iload_n hx hb dL_law_2206 rfl (lv_at hl 0 rfl) ?_
  refine lv_iconst (v := 1) hx hb dL_law_2207 (by decide) ?_
  refine lv_iadd hx hb dL_law_2208 ?_
  refine lv_topi (fun v6 ev6 => ?_)
  obtain rfl : v6 = 1 := ev6.trans (by decide)
  refine va_sld hx hb hX hbl hbA hS (mm_in mm_k1 (by decide)) dL_law_2209 ?_
  refine lv_topi (fun v7 ev7 => ?_)
  obtain rfl : p1 = v7 := ep1.trans ev7.symm
  refine lv_aload_n hx hb dL_law_2210 rfl (lv_at hl 3 rfl) ?_
  refine lv_iload_n hx hb dL_law_2211 rfl (lv_at hl 0 rfl) ?_
  refine lv_iconst (v := 2) hx hb dL_law_2212 (by decide) ?_
  refine lv_iadd hx hb dL_law_2213 ?_
  refine lv_topi (fun v8 ev8 => ?_)
  obtain rfl : v8 = 2 := ev8.trans (by decide)
  refine va_sld hx hb hX hbl hbA hS (mm_in mm_k2 (by decide)) dL_law_2214 ?_
  refine lv_topi (fun v9 ev9 => ?_)
  obtain rfl : p2 = v9 := ep2.trans ev9.symm
  refine mm_finir (va_runV (As := [.int p1, .int p2]) (rest := [.int (-2)]) ⟨hx, hb, hml, hown, hts⟩ (K225_X12_ask l G cy H.size qm p1 p2 (um 0) (um 1) (um 2) (um 3) (um 4) 0 0 0 0 0 0 0 0 0 (-1) (um 5) (um 6) (um 7) (um 8) (um 9) (um 10) (um 11) (um 12) (um 13) (um 14) (um 15) (um 16) (um 17) 0 0 0 0 0 0 (um 18) 0 (um 19) ) (cwV 2 hts (mm_gV mm_w1312 mm_w1313 mm_w1314 mm_w5 mm_w1315) rfl rfl rfl hd_X12_ask ⟨by rw [hRf]; exact Nat.le_of_ble_eq_true rfl, by rw [hRl]; exact Nat.le_of_ble_eq_true rfl⟩) (mm_preV hK hP hD [3, 4] rfl rfl 3 rfl rfl rfl) rfl rfl hl.1 rfl (lv_room (Nat.le_of_ble_eq_true rfl)) dL_law_2215 ⟨by rw [hRc]; exact Nat.le_of_ble_eq_true rfl, by rw [hRs]; exact Nat.le_of_ble_eq_true rfl⟩) hP hD hS hA [3, 4] rfl (fun _ => rfl) ?_
  clear hP hD hS
  clear H locs
  intro v10 _u H locs hw hP hD hS
  subst hw
  refine lv_icmp_eq (tgt := 3153) hx hb dL_law_2218 (by decide) (fun c11 => ?_) (fun c11 => ?_)
  · refine lv_iinc (v := 6) (lv' := [(3, .int 6), (2, .ref qm), (1, .ref qx), (0, .ref b)]) hx hb dL_law_3153 hl (k := 0) rfl (by decide) (by decide) rfl ?_
    clear hl
    clear ls
    intro ls hl
    refine lv_goto (tgt := 18) hx hb dL_law_3156 (by decide) ?_
    refine lv_iload_n hx hb dL_law_18 rfl (lv_at hl 0 rfl) ?_
    refine lv_aload_n hx hb dL_law_19 rfl (lv_at hl 3 rfl) ?_
    refine va_slen hx hb hX hbl hbA hS dL_law_20 ?_
    refine lv_topi (fun v12 ev12 => ?_)
    obtain rfl : v12 = 6 := ev12.trans (by decide)
    refine lv_bipush (v := 6) hx hb dL_law_21 (by decide) ?_
    refine lv_isub hx hb dL_law_23 ?_
    refine lv_topi (fun v13 ev13 => ?_)
    obtain rfl : v13 = 0 := ev13.trans (by decide)
    refine lv_icmp_gt (tgt := 3159) hx hb dL_law_24 (by decide) (fun c14 => ?_) (fun c14 => ?_)
    · refine lv_iconst (v := 1) hx hb dL_law_3159 (by decide) ?_
      refine va_forget (fun q hq => by have := hS.2.2 q hq; rw [hAe] at this; exact this) ?_
      refine W.widen (k := 600000) (n := 7302250) (Nat.le_of_ble_eq_true rfl) (Nat.le_of_ble_eq_true rfl) ?_
      exact lw_ret hx hb hr hlocks dL_law_3160
    · have q15 := mm_leL (mm_nlt c14) mm_k6 mm_k0
      exact mm_no q15 (by decide)
  · have q16 := mm_neL (lo := (-1)) (mm_ne c11) mm_km2 mm_km2 (by decide) (by decide)
    exact mm_no q16 (by decide)

set_option maxHeartbeats 4000000 in
set_option maxRecDepth 100000 in
theorem lc_49 {p : Program} {e : Env} {s : State} {m : MethodId} {below : List Frame} {meth : Method} {c : Code} {b : Nat} {xs : Nat → Int32} {G : va_G} {cy : Nat → ClassId} {qx qm : Nat} {ux um : Nat → Nat} {H : Heap} {locs : List Loc} {ls : Array Slot} {A : Nat → Prop} (l : Launch) (hx : p.tables.exec = Jvm.exec) (hb : c.code = code) (hr : meth.sig.returnType = ret) (hlocks : meth.locks = false) (hml : c.maxLocals = 4) (hown : s.vm.findClass R_law = some m.cls) (hts : ∀ w ∈ lw_x :: wsL_law, w.before #[Value.ref b] s = true) (hX : va_X b 6 xs s s.heap) (hbl : b < s.heap.size) (hAe : A = fun q => s.heap.size ≤ q) (hK : mm_K G cy s) (hS : va_S A s.heap H locs) (hP : va_P G vwCl [(qx, .inr (11, [.ref (ux 0), .ref (ux 2), .ref (ux 14), .ref (ux 36), .ref (ux 70), .ref (ux 71), .ref (ux 80), .ref (ux 82), .ref (ux 84), .ref (ux 89), .ref (ux 92)])), ((ux 14), .inr (10, [.ref (ux 15), .ref (ux 26)])), ((ux 15), .inr (0, [.int 0, .int 0, .int 0, .int 0, .int 0, .int 0, .int 0, .int 0, .ref (ux 16), .ref (ux 17), .ref (ux 18), .ref (ux 19), .ref (ux 20), .ref (ux 21), .ref (ux 22), .ref (ux 23), .ref (ux 24), .ref (ux 25)])), (qm, .inr (12, [.int 0, .ref (um 0), .ref (um 1), .ref (um 2), .ref (um 3), .ref (um 4), .int 0, .int 0, .int 0, .int 0, .int 0, .long 0, .int 0, .int 0, .int 0, .int (-1), .ref (um 5), .ref (um 6), .ref (um 7), .ref (um 8), .ref (um 9), .ref (um 10), .ref (um 11), .ref (um 12), .ref (um 13), .ref (um 14), .ref (um 15), .ref (um 16), .ref (um 17), .int 0, .int 0, .int 0, .int 0, .int 0, .int 0, .ref (um 18), .int 0, .ref (um 19)])), ((um 6), .inl (cy 1, 30, .inl (fun _ => 0)))] H) (hD : va_D A [(qx, .inr (11, [.ref (ux 0), .ref (ux 2), .ref (ux 14), .ref (ux 36), .ref (ux 70), .ref (ux 71), .ref (ux 80), .ref (ux 82), .ref (ux 84), .ref (ux 89), .ref (ux 92)])), ((ux 14), .inr (10, [.ref (ux 15), .ref (ux 26)])), ((ux 15), .inr (0, [.int 0, .int 0, .int 0, .int 0, .int 0, .int 0, .int 0, .int 0, .ref (ux 16), .ref (ux 17), .ref (ux 18), .ref (ux 19), .ref (ux 20), .ref (ux 21), .ref (ux 22), .ref (ux 23), .ref (ux 24), .ref (ux 25)])), (qm, .inr (12, [.int 0, .ref (um 0), .ref (um 1), .ref (um 2), .ref (um 3), .ref (um 4), .int 0, .int 0, .int 0, .int 0, .int 0, .long 0, .int 0, .int 0, .int 0, .int (-1), .ref (um 5), .ref (um 6), .ref (um 7), .ref (um 8), .ref (um 9), .ref (um 10), .ref (um 11), .ref (um 12), .ref (um 13), .ref (um 14), .ref (um 15), .ref (um 16), .ref (um 17), .int 0, .int 0, .int 0, .int 0, .int 0, .int 0, .ref (um 18), .int 0, .ref (um 19)])), ((um 6), .inl (cy 1, 30, .inl (fun _ => 0)))]) (hl : lv_has ls 4 [(3, .int 0), (2, .ref qm), (1, .ref qx), (0, .ref b)]) : W p l e room_1 s m #[Value.ref b] below meth c H locs 116 20302 (lw_Z below #[Value.ref b] s) (F0 m 2223 ls []) := by
  have hA : ∀ q, s.heap.size ≤ q → A q := by rw [hAe]; exact fun _ h => h
  have hbA : ¬ A b := by rw [hAe]; exact Nat.not_le.mpr hbl
  have hRf : room_1.frames = 2048 := rfl
  have hRl : room_1.locals = 84000 := rfl
  have hRc : room_1.cells = 600000 := rfl
  have hRs : room_1.slots = 7302250 := rfl
  obtain ⟨p1, ep1⟩ : ∃ z : Int32, z = xs 1 := ⟨_, rfl⟩
  obtain ⟨p2, ep2⟩ : ∃ z : Int32, z = xs 2 := ⟨_, rfl⟩
  obtain ⟨p3, ep3⟩ : ∃ z : Int32, z = xs 3 := ⟨_, rfl⟩
  obtain ⟨p4, ep4⟩ : ∃ z : Int32, z = xs 4 := ⟨_, rfl⟩
  obtain ⟨p5, ep5⟩ : ∃ z : Int32, z = xs 5 := ⟨_, rfl⟩
  refine lv_aload_n hx hb dL_law_2223 rfl (lv_at hl 2 rfl) ?_
  refine lv_aload_n hx hb dL_law_2224 rfl (lv_at hl 3 rfl) ?_
  refine lv_iload_n hx hb dL_law_2225 rfl (lv_at hl 0 rfl) ?_
  refine lv_iconst (v := 1) hx hb dL_law_2226 (by decide) ?_
  refine lv_iadd hx hb dL_law_2227 ?_
  refine lv_topi (fun v1 ev1 => ?_)
  obtain rfl : v1 = 1 := ev1.trans (by decide)
  refine va_sld hx hb hX hbl hbA hS (mm_in mm_k1 (by decide)) dL_law_2228 ?_
  refine lv_topi (fun v2 ev2 => ?_)
  obtain rfl : p1 = v2 := ep1.trans ev2.symm
  refine lv_aload_n hx hb dL_law_2229 rfl (lv_at hl 3 rfl) ?_
  refine lv_iload_n hx hb dL_law_2230 rfl (lv_at hl 0 rfl) ?_
  refine lv_iconst (v := 2) hx hb dL_law_2231 (by decide) ?_
  refine lv_iadd hx hb dL_law_2232 ?_
  refine lv_topi (fun v3 ev3 => ?_)
  obtain rfl : v3 = 2 := ev3.trans (by decide)
  refine va_sld hx hb hX hbl hbA hS (mm_in mm_k2 (by decide)) dL_law_2233 ?_
  refine lv_topi (fun v4 ev4 => ?_)
  obtain rfl : p2 = v4 := ep2.trans ev4.symm
  refine mm_finir (va_runV (As := [.int p1, .int p2]) (rest := []) ⟨hx, hb, hml, hown, hts⟩ (K226_X11_leaves l G cy H.size qx p1 p2 (ux 0) (ux 2) (ux 14) (ux 36) (ux 70) (ux 71) (ux 80) (ux 82) (ux 84) (ux 89) (ux 92) (ux 15) (ux 26) 0 0 0 0 0 0 0 (ux 16) (ux 17) (ux 18) (ux 19) (ux 20) (ux 21) (ux 22) (ux 23) (ux 24) (ux 25) ) (cwV 2 hts (mm_gV mm_w1326 mm_w1327 mm_w1328 mm_w2 mm_w1329) rfl rfl rfl hd_X11_leaves ⟨by rw [hRf]; exact Nat.le_of_ble_eq_true rfl, by rw [hRl]; exact Nat.le_of_ble_eq_true rfl⟩) (mm_preV hK hP hD [0, 1, 2] rfl rfl 0 rfl rfl rfl) rfl rfl hl.1 rfl (lv_room (Nat.le_of_ble_eq_true rfl)) dL_law_2234 ⟨by rw [hRc]; exact Nat.le_of_ble_eq_true rfl, by rw [hRs]; exact Nat.le_of_ble_eq_true rfl⟩) hP hD hS hA [0, 1, 2] rfl (fun _ => rfl) ?_
  clear hP hD hS
  clear H locs
  intro v5 _u H locs hw hP hD hS
  subst hw
  refine lv_aload_n hx hb dL_law_2237 rfl (lv_at hl 1 rfl) ?_
  refine lv_aload_n hx hb dL_law_2238 rfl (lv_at hl 3 rfl) ?_
  refine lv_iload_n hx hb dL_law_2239 rfl (lv_at hl 0 rfl) ?_
  refine lv_iconst (v := 1) hx hb dL_law_2240 (by decide) ?_
  refine lv_iadd hx hb dL_law_2241 ?_
  refine lv_topi (fun v6 ev6 => ?_)
  obtain rfl : v6 = 1 := ev6.trans (by decide)
  refine va_sld hx hb hX hbl hbA hS (mm_in mm_k1 (by decide)) dL_law_2242 ?_
  refine lv_topi (fun v7 ev7 => ?_)
  obtain rfl : p1 = v7 := ep1.trans ev7.symm
  refine lv_aload_n hx hb dL_law_2243 rfl (lv_at hl 3 rfl) ?_
  refine lv_iload_n hx hb dL_law_2244 rfl (lv_at hl 0 rfl) ?_
  refine lv_iconst (v := 2) hx hb dL_law_2245 (by decide) ?_
  refine lv_iadd hx hb dL_law_2246 ?_
  refine lv_topi (fun v8 ev8 => ?_)
  obtain rfl : v8 = 2 := ev8.trans (by decide)
  refine va_sld hx hb hX hbl hbA hS (mm_in mm_k2 (by decide)) dL_law_2247 ?_
  refine lv_topi (fun v9 ev9 => ?_)
  obtain rfl : p2 = v9 := ep2.trans ev9.symm
  refine mm_finir (va_runV (As := [.int p1, .int p2]) (rest := [.int (-2)]) ⟨hx, hb, hml, hown, hts⟩ (K227_X12_leaves l G cy H.size qm p1 p2 (um 0) (um 1) (um 2) (um 3) (um 4) 0 0 0 0 0 0 0 0 0 (-1) (um 5) (um 6) (um 7) (um 8) (um 9) (um 10) (um 11) (um 12) (um 13) (um 14) (um 15) (um 16) (um 17) 0 0 0 0 0 0 (um 18) 0 (um 19) ) (cwV 2 hts (mm_gV mm_w1331 mm_w1332 mm_w1333 mm_w5 mm_w1334) rfl rfl rfl hd_X12_leaves ⟨by rw [hRf]; exact Nat.le_of_ble_eq_true rfl, by rw [hRl]; exact Nat.le_of_ble_eq_true rfl⟩) (mm_preV hK hP hD [3, 4] rfl rfl 3 rfl rfl rfl) rfl rfl hl.1 rfl (lv_room (Nat.le_of_ble_eq_true rfl)) dL_law_2248 ⟨by rw [hRc]; exact Nat.le_of_ble_eq_true rfl, by rw [hRs]; exact Nat.le_of_ble_eq_true rfl⟩) hP hD hS hA [3, 4] rfl (fun _ => rfl) ?_
  clear hP hD hS
  clear H locs
  intro v10 _u H locs hw hP hD hS
  subst hw
  refine lv_icmp_eq (tgt := 3153) hx hb dL_law_2251 (by decide) (fun c11 => ?_) (fun c11 => ?_)
  · refine lv_iinc (v := 6) (lv' := [(3, .int 6), (2, .ref qm), (1, .ref qx), (0, .ref b)]) hx hb dL_law_3153 hl (k := 0) rfl (by decide) (by decide) rfl ?_
    clear hl
    clear ls
    intro ls hl
    refine lv_goto (tgt := 18) hx hb dL_law_3156 (by decide) ?_
    refine lv_iload_n hx hb dL_law_18 rfl (lv_at hl 0 rfl) ?_
    refine lv_aload_n hx hb dL_law_19 rfl (lv_at hl 3 rfl) ?_
    refine va_slen hx hb hX hbl hbA hS dL_law_20 ?_
    refine lv_topi (fun v12 ev12 => ?_)
    obtain rfl : v12 = 6 := ev12.trans (by decide)
    refine lv_bipush (v := 6) hx hb dL_law_21 (by decide) ?_
    refine lv_isub hx hb dL_law_23 ?_
    refine lv_topi (fun v13 ev13 => ?_)
    obtain rfl : v13 = 0 := ev13.trans (by decide)
    refine lv_icmp_gt (tgt := 3159) hx hb dL_law_24 (by decide) (fun c14 => ?_) (fun c14 => ?_)
    · refine lv_iconst (v := 1) hx hb dL_law_3159 (by decide) ?_
      refine va_forget (fun q hq => by have := hS.2.2 q hq; rw [hAe] at this; exact this) ?_
      refine W.widen (k := 600000) (n := 7302250) (Nat.le_of_ble_eq_true rfl) (Nat.le_of_ble_eq_true rfl) ?_
      exact lw_ret hx hb hr hlocks dL_law_3160
    · have q15 := mm_leL (mm_nlt c14) mm_k6 mm_k0
      exact mm_no q15 (by decide)
  · have q16 := mm_neL (lo := (-1)) (mm_ne c11) mm_km2 mm_km2 (by decide) (by decide)
    exact mm_no q16 (by decide)

set_option maxHeartbeats 4000000 in
set_option maxRecDepth 100000 in
theorem lc_50 {p : Program} {e : Env} {s : State} {m : MethodId} {below : List Frame} {meth : Method} {c : Code} {b : Nat} {xs : Nat → Int32} {G : va_G} {cy : Nat → ClassId} {qx qm : Nat} {ux um : Nat → Nat} {H : Heap} {locs : List Loc} {ls : Array Slot} {A : Nat → Prop} (l : Launch) (hx : p.tables.exec = Jvm.exec) (hb : c.code = code) (hr : meth.sig.returnType = ret) (hlocks : meth.locks = false) (hml : c.maxLocals = 4) (hown : s.vm.findClass R_law = some m.cls) (hts : ∀ w ∈ lw_x :: wsL_law, w.before #[Value.ref b] s = true) (hX : va_X b 6 xs s s.heap) (hbl : b < s.heap.size) (hAe : A = fun q => s.heap.size ≤ q) (hK : mm_K G cy s) (hS : va_S A s.heap H locs) (hP : va_P G vwCl [(qx, .inr (11, [.ref (ux 0), .ref (ux 2), .ref (ux 14), .ref (ux 36), .ref (ux 70), .ref (ux 71), .ref (ux 80), .ref (ux 82), .ref (ux 84), .ref (ux 89), .ref (ux 92)])), ((ux 14), .inr (10, [.ref (ux 15), .ref (ux 26)])), ((ux 15), .inr (0, [.int 0, .int 0, .int 0, .int 0, .int 0, .int 0, .int 0, .int 0, .ref (ux 16), .ref (ux 17), .ref (ux 18), .ref (ux 19), .ref (ux 20), .ref (ux 21), .ref (ux 22), .ref (ux 23), .ref (ux 24), .ref (ux 25)])), (qm, .inr (12, [.int 0, .ref (um 0), .ref (um 1), .ref (um 2), .ref (um 3), .ref (um 4), .int 0, .int 0, .int 0, .int 0, .int 0, .long 0, .int 0, .int 0, .int 0, .int (-1), .ref (um 5), .ref (um 6), .ref (um 7), .ref (um 8), .ref (um 9), .ref (um 10), .ref (um 11), .ref (um 12), .ref (um 13), .ref (um 14), .ref (um 15), .ref (um 16), .ref (um 17), .int 0, .int 0, .int 0, .int 0, .int 0, .int 0, .ref (um 18), .int 0, .ref (um 19)])), ((um 5), .inl (cy 1, 5, .inl (fun _ => 0)))] H) (hD : va_D A [(qx, .inr (11, [.ref (ux 0), .ref (ux 2), .ref (ux 14), .ref (ux 36), .ref (ux 70), .ref (ux 71), .ref (ux 80), .ref (ux 82), .ref (ux 84), .ref (ux 89), .ref (ux 92)])), ((ux 14), .inr (10, [.ref (ux 15), .ref (ux 26)])), ((ux 15), .inr (0, [.int 0, .int 0, .int 0, .int 0, .int 0, .int 0, .int 0, .int 0, .ref (ux 16), .ref (ux 17), .ref (ux 18), .ref (ux 19), .ref (ux 20), .ref (ux 21), .ref (ux 22), .ref (ux 23), .ref (ux 24), .ref (ux 25)])), (qm, .inr (12, [.int 0, .ref (um 0), .ref (um 1), .ref (um 2), .ref (um 3), .ref (um 4), .int 0, .int 0, .int 0, .int 0, .int 0, .long 0, .int 0, .int 0, .int 0, .int (-1), .ref (um 5), .ref (um 6), .ref (um 7), .ref (um 8), .ref (um 9), .ref (um 10), .ref (um 11), .ref (um 12), .ref (um 13), .ref (um 14), .ref (um 15), .ref (um 16), .ref (um 17), .int 0, .int 0, .int 0, .int 0, .int 0, .int 0, .ref (um 18), .int 0, .ref (um 19)])), ((um 5), .inl (cy 1, 5, .inl (fun _ => 0)))]) (hl : lv_has ls 4 [(3, .int 0), (2, .ref qm), (1, .ref qx), (0, .ref b)]) : W p l e room_1 s m #[Value.ref b] below meth c H locs 116 20302 (lw_Z below #[Value.ref b] s) (F0 m 2256 ls []) := by
  have hA : ∀ q, s.heap.size ≤ q → A q := by rw [hAe]; exact fun _ h => h
  have hbA : ¬ A b := by rw [hAe]; exact Nat.not_le.mpr hbl
  have hRf : room_1.frames = 2048 := rfl
  have hRl : room_1.locals = 84000 := rfl
  have hRc : room_1.cells = 600000 := rfl
  have hRs : room_1.slots = 7302250 := rfl
  obtain ⟨p1, ep1⟩ : ∃ z : Int32, z = xs 1 := ⟨_, rfl⟩
  obtain ⟨p2, ep2⟩ : ∃ z : Int32, z = xs 2 := ⟨_, rfl⟩
  obtain ⟨p3, ep3⟩ : ∃ z : Int32, z = xs 3 := ⟨_, rfl⟩
  obtain ⟨p4, ep4⟩ : ∃ z : Int32, z = xs 4 := ⟨_, rfl⟩
  obtain ⟨p5, ep5⟩ : ∃ z : Int32, z = xs 5 := ⟨_, rfl⟩
  refine lv_aload_n hx hb dL_law_2256 rfl (lv_at hl 2 rfl) ?_
  refine lv_aload_n hx hb dL_law_2257 rfl (lv_at hl 3 rfl) ?_
  refine lv_iload_n hx hb dL_law_2258 rfl (lv_at hl 0 rfl) ?_
  refine lv_iconst (v := 1) hx hb dL_law_2259 (by decide) ?_
  refine lv_iadd hx hb dL_law_2260 ?_
  refine lv_topi (fun v1 ev1 => ?_)
  obtain rfl : v1 = 1 := ev1.trans (by decide)
  refine va_sld hx hb hX hbl hbA hS (mm_in mm_k1 (by decide)) dL_law_2261 ?_
  refine lv_topi (fun v2 ev2 => ?_)
  obtain rfl : p1 = v2 := ep1.trans ev2.symm
  refine lv_aload_n hx hb dL_law_2262 rfl (lv_at hl 3 rfl) ?_
  refine lv_iload_n hx hb dL_law_2263 rfl (lv_at hl 0 rfl) ?_
  refine lv_iconst (v := 2) hx hb dL_law_2264 (by decide) ?_
  refine lv_iadd hx hb dL_law_2265 ?_
  refine lv_topi (fun v3 ev3 => ?_)
  obtain rfl : v3 = 2 := ev3.trans (by decide)
  refine va_sld hx hb hX hbl hbA hS (mm_in mm_k2 (by decide)) dL_law_2266 ?_
  refine lv_topi (fun v4 ev4 => ?_)
  obtain rfl : p2 = v4 := ep2.trans ev4.symm
  refine mm_finir (va_runV (As := [.int p1, .int p2]) (rest := []) ⟨hx, hb, hml, hown, hts⟩ (K229_X11_lands l G cy H.size qx p1 p2 (ux 0) (ux 2) (ux 14) (ux 36) (ux 70) (ux 71) (ux 80) (ux 82) (ux 84) (ux 89) (ux 92) (ux 15) (ux 26) 0 0 0 0 0 0 0 (ux 16) (ux 17) (ux 18) (ux 19) (ux 20) (ux 21) (ux 22) (ux 23) (ux 24) (ux 25) ) (cwV 2 hts (mm_gV mm_w1335 mm_w1336 mm_w1337 mm_w2 mm_w1338) rfl rfl rfl hd_X11_lands ⟨by rw [hRf]; exact Nat.le_of_ble_eq_true rfl, by rw [hRl]; exact Nat.le_of_ble_eq_true rfl⟩) (mm_preV hK hP hD [0, 1, 2] rfl rfl 0 rfl rfl rfl) rfl rfl hl.1 rfl (lv_room (Nat.le_of_ble_eq_true rfl)) dL_law_2267 ⟨by rw [hRc]; exact Nat.le_of_ble_eq_true rfl, by rw [hRs]; exact Nat.le_of_ble_eq_true rfl⟩) hP hD hS hA [0, 1, 2] rfl (fun _ => rfl) ?_
  clear hP hD hS
  clear H locs
  intro v5 _u H locs hw hP hD hS
  subst hw
  refine lv_aload_n hx hb dL_law_2270 rfl (lv_at hl 1 rfl) ?_
  refine lv_aload_n hx hb dL_law_2271 rfl (lv_at hl 3 rfl) ?_
  refine lv_iload_n hx hb dL_law_2272 rfl (lv_at hl 0 rfl) ?_
  refine lv_iconst (v := 1) hx hb dL_law_2273 (by decide) ?_
  refine lv_iadd hx hb dL_law_2274 ?_
  refine lv_topi (fun v6 ev6 => ?_)
  obtain rfl : v6 = 1 := ev6.trans (by decide)
  refine va_sld hx hb hX hbl hbA hS (mm_in mm_k1 (by decide)) dL_law_2275 ?_
  refine lv_topi (fun v7 ev7 => ?_)
  obtain rfl : p1 = v7 := ep1.trans ev7.symm
  refine lv_aload_n hx hb dL_law_2276 rfl (lv_at hl 3 rfl) ?_
  refine lv_iload_n hx hb dL_law_2277 rfl (lv_at hl 0 rfl) ?_
  refine lv_iconst (v := 2) hx hb dL_law_2278 (by decide) ?_
  refine lv_iadd hx hb dL_law_2279 ?_
  refine lv_topi (fun v8 ev8 => ?_)
  obtain rfl : v8 = 2 := ev8.trans (by decide)
  refine va_sld hx hb hX hbl hbA hS (mm_in mm_k2 (by decide)) dL_law_2280 ?_
  refine lv_topi (fun v9 ev9 => ?_)
  obtain rfl : p2 = v9 := ep2.trans ev9.symm
  refine mm_finir (va_runV (As := [.int p1, .int p2]) (rest := [.int (-2)]) ⟨hx, hb, hml, hown, hts⟩ (K231_X12_lands l G cy H.size qm p1 p2 (um 0) (um 1) (um 2) (um 3) (um 4) 0 0 0 0 0 0 0 0 0 (-1) (um 5) (um 6) (um 7) (um 8) (um 9) (um 10) (um 11) (um 12) (um 13) (um 14) (um 15) (um 16) (um 17) 0 0 0 0 0 0 (um 18) 0 (um 19) ) (cwV 2 hts (mm_gV mm_w1340 mm_w1341 mm_w1342 mm_w5 mm_w1343) rfl rfl rfl hd_X12_lands ⟨by rw [hRf]; exact Nat.le_of_ble_eq_true rfl, by rw [hRl]; exact Nat.le_of_ble_eq_true rfl⟩) (mm_preV hK hP hD [3, 4] rfl rfl 3 rfl rfl rfl) rfl rfl hl.1 rfl (lv_room (Nat.le_of_ble_eq_true rfl)) dL_law_2281 ⟨by rw [hRc]; exact Nat.le_of_ble_eq_true rfl, by rw [hRs]; exact Nat.le_of_ble_eq_true rfl⟩) hP hD hS hA [3, 4] rfl (fun _ => rfl) ?_
  clear hP hD hS
  clear H locs
  intro v10 _u H locs hw hP hD hS
  subst hw
  refine lv_icmp_eq (tgt := 3153) hx hb dL_law_2284 (by decide) (fun c11 => ?_) (fun c11 => ?_)
  · refine lv_iinc (v := 6) (lv' := [(3, .int 6), (2, .ref qm), (1, .ref qx), (0, .ref b)]) hx hb dL_law_3153 hl (k := 0) rfl (by decide) (by decide) rfl ?_
    clear hl
    clear ls
    intro ls hl
    refine lv_goto (tgt := 18) hx hb dL_law_3156 (by decide) ?_
    refine lv_iload_n hx hb dL_law_18 rfl (lv_at hl 0 rfl) ?_
    refine lv_aload_n hx hb dL_law_19 rfl (lv_at hl 3 rfl) ?_
    refine va_slen hx hb hX hbl hbA hS dL_law_20 ?_
    refine lv_topi (fun v12 ev12 => ?_)
    obtain rfl : v12 = 6 := ev12.trans (by decide)
    refine lv_bipush (v := 6) hx hb dL_law_21 (by decide) ?_
    refine lv_isub hx hb dL_law_23 ?_
    refine lv_topi (fun v13 ev13 => ?_)
    obtain rfl : v13 = 0 := ev13.trans (by decide)
    refine lv_icmp_gt (tgt := 3159) hx hb dL_law_24 (by decide) (fun c14 => ?_) (fun c14 => ?_)
    · refine lv_iconst (v := 1) hx hb dL_law_3159 (by decide) ?_
      refine va_forget (fun q hq => by have := hS.2.2 q hq; rw [hAe] at this; exact this) ?_
      refine W.widen (k := 600000) (n := 7302250) (Nat.le_of_ble_eq_true rfl) (Nat.le_of_ble_eq_true rfl) ?_
      exact lw_ret hx hb hr hlocks dL_law_3160
    · have q15 := mm_leL (mm_nlt c14) mm_k6 mm_k0
      exact mm_no q15 (by decide)
  · have q16 := mm_neL (lo := (-1)) (mm_ne c11) mm_km2 mm_km2 (by decide) (by decide)
    exact mm_no q16 (by decide)

set_option maxHeartbeats 4000000 in
set_option maxRecDepth 100000 in
theorem lc_51 {p : Program} {e : Env} {s : State} {m : MethodId} {below : List Frame} {meth : Method} {c : Code} {b : Nat} {xs : Nat → Int32} {G : va_G} {cy : Nat → ClassId} {qx qm : Nat} {ux um : Nat → Nat} {H : Heap} {locs : List Loc} {ls : Array Slot} {A : Nat → Prop} (l : Launch) (hx : p.tables.exec = Jvm.exec) (hb : c.code = code) (hr : meth.sig.returnType = ret) (hlocks : meth.locks = false) (hml : c.maxLocals = 4) (hown : s.vm.findClass R_law = some m.cls) (hts : ∀ w ∈ lw_x :: wsL_law, w.before #[Value.ref b] s = true) (hX : va_X b 6 xs s s.heap) (hbl : b < s.heap.size) (hAe : A = fun q => s.heap.size ≤ q) (hK : mm_K G cy s) (hS : va_S A s.heap H locs) (hP : va_P G vwCl [(qx, .inr (11, [.ref (ux 0), .ref (ux 2), .ref (ux 14), .ref (ux 36), .ref (ux 70), .ref (ux 71), .ref (ux 80), .ref (ux 82), .ref (ux 84), .ref (ux 89), .ref (ux 92)])), ((ux 14), .inr (10, [.ref (ux 15), .ref (ux 26)])), ((ux 15), .inr (0, [.int 0, .int 0, .int 0, .int 0, .int 0, .int 0, .int 0, .int 0, .ref (ux 16), .ref (ux 17), .ref (ux 18), .ref (ux 19), .ref (ux 20), .ref (ux 21), .ref (ux 22), .ref (ux 23), .ref (ux 24), .ref (ux 25)])), (qm, .inr (12, [.int 0, .ref (um 0), .ref (um 1), .ref (um 2), .ref (um 3), .ref (um 4), .int 0, .int 0, .int 0, .int 0, .int 0, .long 0, .int 0, .int 0, .int 0, .int (-1), .ref (um 5), .ref (um 6), .ref (um 7), .ref (um 8), .ref (um 9), .ref (um 10), .ref (um 11), .ref (um 12), .ref (um 13), .ref (um 14), .ref (um 15), .ref (um 16), .ref (um 17), .int 0, .int 0, .int 0, .int 0, .int 0, .int 0, .ref (um 18), .int 0, .ref (um 19)])), ((um 6), .inl (cy 1, 30, .inl (fun _ => 0)))] H) (hD : va_D A [(qx, .inr (11, [.ref (ux 0), .ref (ux 2), .ref (ux 14), .ref (ux 36), .ref (ux 70), .ref (ux 71), .ref (ux 80), .ref (ux 82), .ref (ux 84), .ref (ux 89), .ref (ux 92)])), ((ux 14), .inr (10, [.ref (ux 15), .ref (ux 26)])), ((ux 15), .inr (0, [.int 0, .int 0, .int 0, .int 0, .int 0, .int 0, .int 0, .int 0, .ref (ux 16), .ref (ux 17), .ref (ux 18), .ref (ux 19), .ref (ux 20), .ref (ux 21), .ref (ux 22), .ref (ux 23), .ref (ux 24), .ref (ux 25)])), (qm, .inr (12, [.int 0, .ref (um 0), .ref (um 1), .ref (um 2), .ref (um 3), .ref (um 4), .int 0, .int 0, .int 0, .int 0, .int 0, .long 0, .int 0, .int 0, .int 0, .int (-1), .ref (um 5), .ref (um 6), .ref (um 7), .ref (um 8), .ref (um 9), .ref (um 10), .ref (um 11), .ref (um 12), .ref (um 13), .ref (um 14), .ref (um 15), .ref (um 16), .ref (um 17), .int 0, .int 0, .int 0, .int 0, .int 0, .int 0, .ref (um 18), .int 0, .ref (um 19)])), ((um 6), .inl (cy 1, 30, .inl (fun _ => 0)))]) (hl : lv_has ls 4 [(3, .int 0), (2, .ref qm), (1, .ref qx), (0, .ref b)]) : W p l e room_1 s m #[Value.ref b] below meth c H locs 116 20302 (lw_Z below #[Value.ref b] s) (F0 m 2289 ls []) := by
  have hA : ∀ q, s.heap.size ≤ q → A q := by rw [hAe]; exact fun _ h => h
  have hbA : ¬ A b := by rw [hAe]; exact Nat.not_le.mpr hbl
  have hRf : room_1.frames = 2048 := rfl
  have hRl : room_1.locals = 84000 := rfl
  have hRc : room_1.cells = 600000 := rfl
  have hRs : room_1.slots = 7302250 := rfl
  obtain ⟨p1, ep1⟩ : ∃ z : Int32, z = xs 1 := ⟨_, rfl⟩
  obtain ⟨p2, ep2⟩ : ∃ z : Int32, z = xs 2 := ⟨_, rfl⟩
  obtain ⟨p3, ep3⟩ : ∃ z : Int32, z = xs 3 := ⟨_, rfl⟩
  obtain ⟨p4, ep4⟩ : ∃ z : Int32, z = xs 4 := ⟨_, rfl⟩
  obtain ⟨p5, ep5⟩ : ∃ z : Int32, z = xs 5 := ⟨_, rfl⟩
  refine lv_aload_n hx hb dL_law_2289 rfl (lv_at hl 2 rfl) ?_
  refine lv_aload_n hx hb dL_law_2290 rfl (lv_at hl 3 rfl) ?_
  refine lv_iload_n hx hb dL_law_2291 rfl (lv_at hl 0 rfl) ?_
  refine lv_iconst (v := 1) hx hb dL_law_2292 (by decide) ?_
  refine lv_iadd hx hb dL_law_2293 ?_
  refine lv_topi (fun v1 ev1 => ?_)
  obtain rfl : v1 = 1 := ev1.trans (by decide)
  refine va_sld hx hb hX hbl hbA hS (mm_in mm_k1 (by decide)) dL_law_2294 ?_
  refine lv_topi (fun v2 ev2 => ?_)
  obtain rfl : p1 = v2 := ep1.trans ev2.symm
  refine lv_aload_n hx hb dL_law_2295 rfl (lv_at hl 3 rfl) ?_
  refine lv_iload_n hx hb dL_law_2296 rfl (lv_at hl 0 rfl) ?_
  refine lv_iconst (v := 2) hx hb dL_law_2297 (by decide) ?_
  refine lv_iadd hx hb dL_law_2298 ?_
  refine lv_topi (fun v3 ev3 => ?_)
  obtain rfl : v3 = 2 := ev3.trans (by decide)
  refine va_sld hx hb hX hbl hbA hS (mm_in mm_k2 (by decide)) dL_law_2299 ?_
  refine lv_topi (fun v4 ev4 => ?_)
  obtain rfl : p2 = v4 := ep2.trans ev4.symm
  refine lv_aload_n hx hb dL_law_2300 rfl (lv_at hl 3 rfl) ?_
  refine lv_iload_n hx hb dL_law_2301 rfl (lv_at hl 0 rfl) ?_
  refine lv_iconst (v := 3) hx hb dL_law_2302 (by decide) ?_
  refine lv_iadd hx hb dL_law_2303 ?_
  refine lv_topi (fun v5 ev5 => ?_)
  obtain rfl : v5 = 3 := ev5.trans (by decide)
  refine va_sld hx hb hX hbl hbA hS (mm_in mm_k3 (by decide)) dL_law_2304 ?_
  refine lv_topi (fun v6 ev6 => ?_)
  obtain rfl : p3 = v6 := ep3.trans ev6.symm
  refine lv_aload_n hx hb dL_law_2305 rfl (lv_at hl 3 rfl) ?_
  refine lv_iload_n hx hb dL_law_2306 rfl (lv_at hl 0 rfl) ?_
  refine lv_iconst (v := 4) hx hb dL_law_2307 (by decide) ?_
  refine lv_iadd hx hb dL_law_2308 ?_
  refine lv_topi (fun v7 ev7 => ?_)
  obtain rfl : v7 = 4 := ev7.trans (by decide)
  refine va_sld hx hb hX hbl hbA hS (mm_in mm_k4 (by decide)) dL_law_2309 ?_
  refine lv_topi (fun v8 ev8 => ?_)
  obtain rfl : p4 = v8 := ep4.trans ev8.symm
  refine mm_finir (va_runV (As := [.int p1, .int p2, .int p3, .int p4]) (rest := []) ⟨hx, hb, hml, hown, hts⟩ (K234_X11_wording l G cy H.size qx p1 p2 p3 p4 (ux 0) (ux 2) (ux 14) (ux 36) (ux 70) (ux 71) (ux 80) (ux 82) (ux 84) (ux 89) (ux 92) (ux 15) (ux 26) 0 0 0 0 0 0 0 (ux 16) (ux 17) (ux 18) (ux 19) (ux 20) (ux 21) (ux 22) (ux 23) (ux 24) (ux 25) ) (cwV 4 hts (mm_gV mm_w1344 mm_w1345 mm_w1346 mm_w2 mm_w1347) rfl rfl rfl hd_X11_wording ⟨by rw [hRf]; exact Nat.le_of_ble_eq_true rfl, by rw [hRl]; exact Nat.le_of_ble_eq_true rfl⟩) (mm_preV hK hP hD [0, 1, 2] rfl rfl 0 rfl rfl rfl) rfl rfl hl.1 rfl (lv_room (Nat.le_of_ble_eq_true rfl)) dL_law_2310 ⟨by rw [hRc]; exact Nat.le_of_ble_eq_true rfl, by rw [hRs]; exact Nat.le_of_ble_eq_true rfl⟩) hP hD hS hA [0, 1, 2] rfl (fun _ => rfl) ?_
  clear hP hD hS
  clear H locs
  intro v9 _u H locs hw hP hD hS
  subst hw
  refine lv_aload_n hx hb dL_law_2313 rfl (lv_at hl 1 rfl) ?_
  refine lv_aload_n hx hb dL_law_2314 rfl (lv_at hl 3 rfl) ?_
  refine lv_iload_n hx hb dL_law_2315 rfl (lv_at hl 0 rfl) ?_
  refine lv_iconst (v := 1) hx hb dL_law_2316 (by decide) ?_
  refine lv_iadd hx hb dL_law_2317 ?_
  refine lv_topi (fun v10 ev10 => ?_)
  obtain rfl : v10 = 1 := ev10.trans (by decide)
  refine va_sld hx hb hX hbl hbA hS (mm_in mm_k1 (by decide)) dL_law_2318 ?_
  refine lv_topi (fun v11 ev11 => ?_)
  obtain rfl : p1 = v11 := ep1.trans ev11.symm
  refine lv_aload_n hx hb dL_law_2319 rfl (lv_at hl 3 rfl) ?_
  refine lv_iload_n hx hb dL_law_2320 rfl (lv_at hl 0 rfl) ?_
  refine lv_iconst (v := 2) hx hb dL_law_2321 (by decide) ?_
  refine lv_iadd hx hb dL_law_2322 ?_
  refine lv_topi (fun v12 ev12 => ?_)
  obtain rfl : v12 = 2 := ev12.trans (by decide)
  refine va_sld hx hb hX hbl hbA hS (mm_in mm_k2 (by decide)) dL_law_2323 ?_
  refine lv_topi (fun v13 ev13 => ?_)
  obtain rfl : p2 = v13 := ep2.trans ev13.symm
  refine lv_aload_n hx hb dL_law_2324 rfl (lv_at hl 3 rfl) ?_
  refine lv_iload_n hx hb dL_law_2325 rfl (lv_at hl 0 rfl) ?_
  refine lv_iconst (v := 3) hx hb dL_law_2326 (by decide) ?_
  refine lv_iadd hx hb dL_law_2327 ?_
  refine lv_topi (fun v14 ev14 => ?_)
  obtain rfl : v14 = 3 := ev14.trans (by decide)
  refine va_sld hx hb hX hbl hbA hS (mm_in mm_k3 (by decide)) dL_law_2328 ?_
  refine lv_topi (fun v15 ev15 => ?_)
  obtain rfl : p3 = v15 := ep3.trans ev15.symm
  refine lv_aload_n hx hb dL_law_2329 rfl (lv_at hl 3 rfl) ?_
  refine lv_iload_n hx hb dL_law_2330 rfl (lv_at hl 0 rfl) ?_
  refine lv_iconst (v := 4) hx hb dL_law_2331 (by decide) ?_
  refine lv_iadd hx hb dL_law_2332 ?_
  refine lv_topi (fun v16 ev16 => ?_)
  obtain rfl : v16 = 4 := ev16.trans (by decide)
  refine va_sld hx hb hX hbl hbA hS (mm_in mm_k4 (by decide)) dL_law_2333 ?_
  refine lv_topi (fun v17 ev17 => ?_)
  obtain rfl : p4 = v17 := ep4.trans ev17.symm
  refine mm_finir (va_runV (As := [.int p1, .int p2, .int p3, .int p4]) (rest := [.int (-2)]) ⟨hx, hb, hml, hown, hts⟩ (K238_X12_wording l G cy H.size qm p1 p2 p3 p4 (um 0) (um 1) (um 2) (um 3) (um 4) 0 0 0 0 0 0 0 0 0 (-1) (um 5) (um 6) (um 7) (um 8) (um 9) (um 10) (um 11) (um 12) (um 13) (um 14) (um 15) (um 16) (um 17) 0 0 0 0 0 0 (um 18) 0 (um 19) ) (cwV 4 hts (mm_gV mm_w1391 mm_w1392 mm_w1393 mm_w5 mm_w1394) rfl rfl rfl hd_X12_wording ⟨by rw [hRf]; exact Nat.le_of_ble_eq_true rfl, by rw [hRl]; exact Nat.le_of_ble_eq_true rfl⟩) (mm_preV hK hP hD [3, 4] rfl rfl 3 rfl rfl rfl) rfl rfl hl.1 rfl (lv_room (Nat.le_of_ble_eq_true rfl)) dL_law_2334 ⟨by rw [hRc]; exact Nat.le_of_ble_eq_true rfl, by rw [hRs]; exact Nat.le_of_ble_eq_true rfl⟩) hP hD hS hA [3, 4] rfl (fun _ => rfl) ?_
  clear hP hD hS
  clear H locs
  intro v18 _u H locs hw hP hD hS
  subst hw
  refine lv_icmp_eq (tgt := 3153) hx hb dL_law_2337 (by decide) (fun c19 => ?_) (fun c19 => ?_)
  · refine lv_iinc (v := 6) (lv' := [(3, .int 6), (2, .ref qm), (1, .ref qx), (0, .ref b)]) hx hb dL_law_3153 hl (k := 0) rfl (by decide) (by decide) rfl ?_
    clear hl
    clear ls
    intro ls hl
    refine lv_goto (tgt := 18) hx hb dL_law_3156 (by decide) ?_
    refine lv_iload_n hx hb dL_law_18 rfl (lv_at hl 0 rfl) ?_
    refine lv_aload_n hx hb dL_law_19 rfl (lv_at hl 3 rfl) ?_
    refine va_slen hx hb hX hbl hbA hS dL_law_20 ?_
    refine lv_topi (fun v20 ev20 => ?_)
    obtain rfl : v20 = 6 := ev20.trans (by decide)
    refine lv_bipush (v := 6) hx hb dL_law_21 (by decide) ?_
    refine lv_isub hx hb dL_law_23 ?_
    refine lv_topi (fun v21 ev21 => ?_)
    obtain rfl : v21 = 0 := ev21.trans (by decide)
    refine lv_icmp_gt (tgt := 3159) hx hb dL_law_24 (by decide) (fun c22 => ?_) (fun c22 => ?_)
    · refine lv_iconst (v := 1) hx hb dL_law_3159 (by decide) ?_
      refine va_forget (fun q hq => by have := hS.2.2 q hq; rw [hAe] at this; exact this) ?_
      refine W.widen (k := 600000) (n := 7302250) (Nat.le_of_ble_eq_true rfl) (Nat.le_of_ble_eq_true rfl) ?_
      exact lw_ret hx hb hr hlocks dL_law_3160
    · have q23 := mm_leL (mm_nlt c22) mm_k6 mm_k0
      exact mm_no q23 (by decide)
  · have q24 := mm_neL (lo := (-1)) (mm_ne c19) mm_km2 mm_km2 (by decide) (by decide)
    exact mm_no q24 (by decide)

set_option maxHeartbeats 4000000 in
set_option maxRecDepth 100000 in
theorem lc_52 {p : Program} {e : Env} {s : State} {m : MethodId} {below : List Frame} {meth : Method} {c : Code} {b : Nat} {xs : Nat → Int32} {G : va_G} {cy : Nat → ClassId} {qx qm : Nat} {ux um : Nat → Nat} {H : Heap} {locs : List Loc} {ls : Array Slot} {A : Nat → Prop} (l : Launch) (hx : p.tables.exec = Jvm.exec) (hb : c.code = code) (hr : meth.sig.returnType = ret) (hlocks : meth.locks = false) (hml : c.maxLocals = 4) (hown : s.vm.findClass R_law = some m.cls) (hts : ∀ w ∈ lw_x :: wsL_law, w.before #[Value.ref b] s = true) (hX : va_X b 6 xs s s.heap) (hbl : b < s.heap.size) (hAe : A = fun q => s.heap.size ≤ q) (hK : mm_K G cy s) (hS : va_S A s.heap H locs) (hP : va_P G vwCl [(qx, .inr (11, [.ref (ux 0), .ref (ux 2), .ref (ux 14), .ref (ux 36), .ref (ux 70), .ref (ux 71), .ref (ux 80), .ref (ux 82), .ref (ux 84), .ref (ux 89), .ref (ux 92)])), ((ux 14), .inr (10, [.ref (ux 15), .ref (ux 26)])), ((ux 15), .inr (0, [.int 0, .int 0, .int 0, .int 0, .int 0, .int 0, .int 0, .int 0, .ref (ux 16), .ref (ux 17), .ref (ux 18), .ref (ux 19), .ref (ux 20), .ref (ux 21), .ref (ux 22), .ref (ux 23), .ref (ux 24), .ref (ux 25)])), (qm, .inr (12, [.int 0, .ref (um 0), .ref (um 1), .ref (um 2), .ref (um 3), .ref (um 4), .int 0, .int 0, .int 0, .int 0, .int 0, .long 0, .int 0, .int 0, .int 0, .int (-1), .ref (um 5), .ref (um 6), .ref (um 7), .ref (um 8), .ref (um 9), .ref (um 10), .ref (um 11), .ref (um 12), .ref (um 13), .ref (um 14), .ref (um 15), .ref (um 16), .ref (um 17), .int 0, .int 0, .int 0, .int 0, .int 0, .int 0, .ref (um 18), .int 0, .ref (um 19)])), ((um 6), .inl (cy 1, 30, .inl (fun _ => 0)))] H) (hD : va_D A [(qx, .inr (11, [.ref (ux 0), .ref (ux 2), .ref (ux 14), .ref (ux 36), .ref (ux 70), .ref (ux 71), .ref (ux 80), .ref (ux 82), .ref (ux 84), .ref (ux 89), .ref (ux 92)])), ((ux 14), .inr (10, [.ref (ux 15), .ref (ux 26)])), ((ux 15), .inr (0, [.int 0, .int 0, .int 0, .int 0, .int 0, .int 0, .int 0, .int 0, .ref (ux 16), .ref (ux 17), .ref (ux 18), .ref (ux 19), .ref (ux 20), .ref (ux 21), .ref (ux 22), .ref (ux 23), .ref (ux 24), .ref (ux 25)])), (qm, .inr (12, [.int 0, .ref (um 0), .ref (um 1), .ref (um 2), .ref (um 3), .ref (um 4), .int 0, .int 0, .int 0, .int 0, .int 0, .long 0, .int 0, .int 0, .int 0, .int (-1), .ref (um 5), .ref (um 6), .ref (um 7), .ref (um 8), .ref (um 9), .ref (um 10), .ref (um 11), .ref (um 12), .ref (um 13), .ref (um 14), .ref (um 15), .ref (um 16), .ref (um 17), .int 0, .int 0, .int 0, .int 0, .int 0, .int 0, .ref (um 18), .int 0, .ref (um 19)])), ((um 6), .inl (cy 1, 30, .inl (fun _ => 0)))]) (hl : lv_has ls 4 [(3, .int 0), (2, .ref qm), (1, .ref qx), (0, .ref b)]) : W p l e room_1 s m #[Value.ref b] below meth c H locs 116 20302 (lw_Z below #[Value.ref b] s) (F0 m 2342 ls []) := by
  have hA : ∀ q, s.heap.size ≤ q → A q := by rw [hAe]; exact fun _ h => h
  have hbA : ¬ A b := by rw [hAe]; exact Nat.not_le.mpr hbl
  have hRf : room_1.frames = 2048 := rfl
  have hRl : room_1.locals = 84000 := rfl
  have hRc : room_1.cells = 600000 := rfl
  have hRs : room_1.slots = 7302250 := rfl
  obtain ⟨p1, ep1⟩ : ∃ z : Int32, z = xs 1 := ⟨_, rfl⟩
  obtain ⟨p2, ep2⟩ : ∃ z : Int32, z = xs 2 := ⟨_, rfl⟩
  obtain ⟨p3, ep3⟩ : ∃ z : Int32, z = xs 3 := ⟨_, rfl⟩
  obtain ⟨p4, ep4⟩ : ∃ z : Int32, z = xs 4 := ⟨_, rfl⟩
  obtain ⟨p5, ep5⟩ : ∃ z : Int32, z = xs 5 := ⟨_, rfl⟩
  refine lv_aload_n hx hb dL_law_2342 rfl (lv_at hl 2 rfl) ?_
  refine lv_aload_n hx hb dL_law_2343 rfl (lv_at hl 3 rfl) ?_
  refine lv_iload_n hx hb dL_law_2344 rfl (lv_at hl 0 rfl) ?_
  refine lv_iconst (v := 1) hx hb dL_law_2345 (by decide) ?_
  refine lv_iadd hx hb dL_law_2346 ?_
  refine lv_topi (fun v1 ev1 => ?_)
  obtain rfl : v1 = 1 := ev1.trans (by decide)
  refine va_sld hx hb hX hbl hbA hS (mm_in mm_k1 (by decide)) dL_law_2347 ?_
  refine lv_topi (fun v2 ev2 => ?_)
  obtain rfl : p1 = v2 := ep1.trans ev2.symm
  refine lv_aload_n hx hb dL_law_2348 rfl (lv_at hl 3 rfl) ?_
  refine lv_iload_n hx hb dL_law_2349 rfl (lv_at hl 0 rfl) ?_
  refine lv_iconst (v := 2) hx hb dL_law_2350 (by decide) ?_
  refine lv_iadd hx hb dL_law_2351 ?_
  refine lv_topi (fun v3 ev3 => ?_)
  obtain rfl : v3 = 2 := ev3.trans (by decide)
  refine va_sld hx hb hX hbl hbA hS (mm_in mm_k2 (by decide)) dL_law_2352 ?_
  refine lv_topi (fun v4 ev4 => ?_)
  obtain rfl : p2 = v4 := ep2.trans ev4.symm
  refine lv_aload_n hx hb dL_law_2353 rfl (lv_at hl 3 rfl) ?_
  refine lv_iload_n hx hb dL_law_2354 rfl (lv_at hl 0 rfl) ?_
  refine lv_iconst (v := 3) hx hb dL_law_2355 (by decide) ?_
  refine lv_iadd hx hb dL_law_2356 ?_
  refine lv_topi (fun v5 ev5 => ?_)
  obtain rfl : v5 = 3 := ev5.trans (by decide)
  refine va_sld hx hb hX hbl hbA hS (mm_in mm_k3 (by decide)) dL_law_2357 ?_
  refine lv_topi (fun v6 ev6 => ?_)
  obtain rfl : p3 = v6 := ep3.trans ev6.symm
  refine lv_aload_n hx hb dL_law_2358 rfl (lv_at hl 3 rfl) ?_
  refine lv_iload_n hx hb dL_law_2359 rfl (lv_at hl 0 rfl) ?_
  refine lv_iconst (v := 4) hx hb dL_law_2360 (by decide) ?_
  refine lv_iadd hx hb dL_law_2361 ?_
  refine lv_topi (fun v7 ev7 => ?_)
  obtain rfl : v7 = 4 := ev7.trans (by decide)
  refine va_sld hx hb hX hbl hbA hS (mm_in mm_k4 (by decide)) dL_law_2362 ?_
  refine lv_topi (fun v8 ev8 => ?_)
  obtain rfl : p4 = v8 := ep4.trans ev8.symm
  refine lv_aload_n hx hb dL_law_2363 rfl (lv_at hl 3 rfl) ?_
  refine lv_iload_n hx hb dL_law_2364 rfl (lv_at hl 0 rfl) ?_
  refine lv_iconst (v := 5) hx hb dL_law_2365 (by decide) ?_
  refine lv_iadd hx hb dL_law_2366 ?_
  refine lv_topi (fun v9 ev9 => ?_)
  obtain rfl : v9 = 5 := ev9.trans (by decide)
  refine va_sld hx hb hX hbl hbA hS (mm_in mm_k5 (by decide)) dL_law_2367 ?_
  refine lv_topi (fun v10 ev10 => ?_)
  obtain rfl : p5 = v10 := ep5.trans ev10.symm
  refine mm_finir (va_runV (As := [.int p1, .int p2, .int p3, .int p4, .int p5]) (rest := []) ⟨hx, hb, hml, hown, hts⟩ (K240_X11_worded l G cy H.size qx p1 p2 p3 p4 p5 (ux 0) (ux 2) (ux 14) (ux 36) (ux 70) (ux 71) (ux 80) (ux 82) (ux 84) (ux 89) (ux 92) (ux 15) (ux 26) 0 0 0 0 0 0 0 (ux 16) (ux 17) (ux 18) (ux 19) (ux 20) (ux 21) (ux 22) (ux 23) (ux 24) (ux 25) ) (cwV 5 hts (mm_gV mm_w1413 mm_w1414 mm_w1415 mm_w2 mm_w1416) rfl rfl rfl hd_X11_worded ⟨by rw [hRf]; exact Nat.le_of_ble_eq_true rfl, by rw [hRl]; exact Nat.le_of_ble_eq_true rfl⟩) (mm_preV hK hP hD [0, 1, 2] rfl rfl 0 rfl rfl rfl) rfl rfl hl.1 rfl (lv_room (Nat.le_of_ble_eq_true rfl)) dL_law_2368 ⟨by rw [hRc]; exact Nat.le_of_ble_eq_true rfl, by rw [hRs]; exact Nat.le_of_ble_eq_true rfl⟩) hP hD hS hA [0, 1, 2] rfl (fun _ => rfl) ?_
  clear hP hD hS
  clear H locs
  intro v11 _u H locs hw hP hD hS
  subst hw
  refine lv_aload_n hx hb dL_law_2371 rfl (lv_at hl 1 rfl) ?_
  refine lv_aload_n hx hb dL_law_2372 rfl (lv_at hl 3 rfl) ?_
  refine lv_iload_n hx hb dL_law_2373 rfl (lv_at hl 0 rfl) ?_
  refine lv_iconst (v := 1) hx hb dL_law_2374 (by decide) ?_
  refine lv_iadd hx hb dL_law_2375 ?_
  refine lv_topi (fun v12 ev12 => ?_)
  obtain rfl : v12 = 1 := ev12.trans (by decide)
  refine va_sld hx hb hX hbl hbA hS (mm_in mm_k1 (by decide)) dL_law_2376 ?_
  refine lv_topi (fun v13 ev13 => ?_)
  obtain rfl : p1 = v13 := ep1.trans ev13.symm
  refine lv_aload_n hx hb dL_law_2377 rfl (lv_at hl 3 rfl) ?_
  refine lv_iload_n hx hb dL_law_2378 rfl (lv_at hl 0 rfl) ?_
  refine lv_iconst (v := 2) hx hb dL_law_2379 (by decide) ?_
  refine lv_iadd hx hb dL_law_2380 ?_
  refine lv_topi (fun v14 ev14 => ?_)
  obtain rfl : v14 = 2 := ev14.trans (by decide)
  refine va_sld hx hb hX hbl hbA hS (mm_in mm_k2 (by decide)) dL_law_2381 ?_
  refine lv_topi (fun v15 ev15 => ?_)
  obtain rfl : p2 = v15 := ep2.trans ev15.symm
  refine lv_aload_n hx hb dL_law_2382 rfl (lv_at hl 3 rfl) ?_
  refine lv_iload_n hx hb dL_law_2383 rfl (lv_at hl 0 rfl) ?_
  refine lv_iconst (v := 3) hx hb dL_law_2384 (by decide) ?_
  refine lv_iadd hx hb dL_law_2385 ?_
  refine lv_topi (fun v16 ev16 => ?_)
  obtain rfl : v16 = 3 := ev16.trans (by decide)
  refine va_sld hx hb hX hbl hbA hS (mm_in mm_k3 (by decide)) dL_law_2386 ?_
  refine lv_topi (fun v17 ev17 => ?_)
  obtain rfl : p3 = v17 := ep3.trans ev17.symm
  refine lv_aload_n hx hb dL_law_2387 rfl (lv_at hl 3 rfl) ?_
  refine lv_iload_n hx hb dL_law_2388 rfl (lv_at hl 0 rfl) ?_
  refine lv_iconst (v := 4) hx hb dL_law_2389 (by decide) ?_
  refine lv_iadd hx hb dL_law_2390 ?_
  refine lv_topi (fun v18 ev18 => ?_)
  obtain rfl : v18 = 4 := ev18.trans (by decide)
  refine va_sld hx hb hX hbl hbA hS (mm_in mm_k4 (by decide)) dL_law_2391 ?_
  refine lv_topi (fun v19 ev19 => ?_)
  obtain rfl : p4 = v19 := ep4.trans ev19.symm
  refine lv_aload_n hx hb dL_law_2392 rfl (lv_at hl 3 rfl) ?_
  refine lv_iload_n hx hb dL_law_2393 rfl (lv_at hl 0 rfl) ?_
  refine lv_iconst (v := 5) hx hb dL_law_2394 (by decide) ?_
  refine lv_iadd hx hb dL_law_2395 ?_
  refine lv_topi (fun v20 ev20 => ?_)
  obtain rfl : v20 = 5 := ev20.trans (by decide)
  refine va_sld hx hb hX hbl hbA hS (mm_in mm_k5 (by decide)) dL_law_2396 ?_
  refine lv_topi (fun v21 ev21 => ?_)
  obtain rfl : p5 = v21 := ep5.trans ev21.symm
  refine mm_finir (va_runV (As := [.int p1, .int p2, .int p3, .int p4, .int p5]) (rest := [.int (-2)]) ⟨hx, hb, hml, hown, hts⟩ (K241_X12_worded l G cy H.size qm p1 p2 p3 p4 p5 (um 0) (um 1) (um 2) (um 3) (um 4) 0 0 0 0 0 0 0 0 0 (-1) (um 5) (um 6) (um 7) (um 8) (um 9) (um 10) (um 11) (um 12) (um 13) (um 14) (um 15) (um 16) (um 17) 0 0 0 0 0 0 (um 18) 0 (um 19) ) (cwV 5 hts (mm_gV mm_w1418 mm_w1419 mm_w1420 mm_w5 mm_w1421) rfl rfl rfl hd_X12_worded ⟨by rw [hRf]; exact Nat.le_of_ble_eq_true rfl, by rw [hRl]; exact Nat.le_of_ble_eq_true rfl⟩) (mm_preV hK hP hD [3, 4] rfl rfl 3 rfl rfl rfl) rfl rfl hl.1 rfl (lv_room (Nat.le_of_ble_eq_true rfl)) dL_law_2397 ⟨by rw [hRc]; exact Nat.le_of_ble_eq_true rfl, by rw [hRs]; exact Nat.le_of_ble_eq_true rfl⟩) hP hD hS hA [3, 4] rfl (fun _ => rfl) ?_
  clear hP hD hS
  clear H locs
  intro v22 _u H locs hw hP hD hS
  subst hw
  refine lv_icmp_eq (tgt := 3153) hx hb dL_law_2400 (by decide) (fun c23 => ?_) (fun c23 => ?_)
  · refine lv_iinc (v := 6) (lv' := [(3, .int 6), (2, .ref qm), (1, .ref qx), (0, .ref b)]) hx hb dL_law_3153 hl (k := 0) rfl (by decide) (by decide) rfl ?_
    clear hl
    clear ls
    intro ls hl
    refine lv_goto (tgt := 18) hx hb dL_law_3156 (by decide) ?_
    refine lv_iload_n hx hb dL_law_18 rfl (lv_at hl 0 rfl) ?_
    refine lv_aload_n hx hb dL_law_19 rfl (lv_at hl 3 rfl) ?_
    refine va_slen hx hb hX hbl hbA hS dL_law_20 ?_
    refine lv_topi (fun v24 ev24 => ?_)
    obtain rfl : v24 = 6 := ev24.trans (by decide)
    refine lv_bipush (v := 6) hx hb dL_law_21 (by decide) ?_
    refine lv_isub hx hb dL_law_23 ?_
    refine lv_topi (fun v25 ev25 => ?_)
    obtain rfl : v25 = 0 := ev25.trans (by decide)
    refine lv_icmp_gt (tgt := 3159) hx hb dL_law_24 (by decide) (fun c26 => ?_) (fun c26 => ?_)
    · refine lv_iconst (v := 1) hx hb dL_law_3159 (by decide) ?_
      refine va_forget (fun q hq => by have := hS.2.2 q hq; rw [hAe] at this; exact this) ?_
      refine W.widen (k := 600000) (n := 7302250) (Nat.le_of_ble_eq_true rfl) (Nat.le_of_ble_eq_true rfl) ?_
      exact lw_ret hx hb hr hlocks dL_law_3160
    · have q27 := mm_leL (mm_nlt c26) mm_k6 mm_k0
      exact mm_no q27 (by decide)
  · have q28 := mm_neL (lo := (-1)) (mm_ne c23) mm_km2 mm_km2 (by decide) (by decide)
    exact mm_no q28 (by decide)

set_option maxHeartbeats 4000000 in
set_option maxRecDepth 100000 in
theorem lc_53 {p : Program} {e : Env} {s : State} {m : MethodId} {below : List Frame} {meth : Method} {c : Code} {b : Nat} {xs : Nat → Int32} {G : va_G} {cy : Nat → ClassId} {qx qm : Nat} {ux um : Nat → Nat} {H : Heap} {locs : List Loc} {ls : Array Slot} {A : Nat → Prop} (l : Launch) (hx : p.tables.exec = Jvm.exec) (hb : c.code = code) (hr : meth.sig.returnType = ret) (hlocks : meth.locks = false) (hml : c.maxLocals = 4) (hown : s.vm.findClass R_law = some m.cls) (hts : ∀ w ∈ lw_x :: wsL_law, w.before #[Value.ref b] s = true) (hX : va_X b 6 xs s s.heap) (hbl : b < s.heap.size) (hAe : A = fun q => s.heap.size ≤ q) (hK : mm_K G cy s) (hS : va_S A s.heap H locs) (hP : va_P G vwCl [(qx, .inr (11, [.ref (ux 0), .ref (ux 2), .ref (ux 14), .ref (ux 36), .ref (ux 70), .ref (ux 71), .ref (ux 80), .ref (ux 82), .ref (ux 84), .ref (ux 89), .ref (ux 92)])), ((ux 14), .inr (10, [.ref (ux 15), .ref (ux 26)])), ((ux 15), .inr (0, [.int 0, .int 0, .int 0, .int 0, .int 0, .int 0, .int 0, .int 0, .ref (ux 16), .ref (ux 17), .ref (ux 18), .ref (ux 19), .ref (ux 20), .ref (ux 21), .ref (ux 22), .ref (ux 23), .ref (ux 24), .ref (ux 25)])), (qm, .inr (12, [.int 0, .ref (um 0), .ref (um 1), .ref (um 2), .ref (um 3), .ref (um 4), .int 0, .int 0, .int 0, .int 0, .int 0, .long 0, .int 0, .int 0, .int 0, .int (-1), .ref (um 5), .ref (um 6), .ref (um 7), .ref (um 8), .ref (um 9), .ref (um 10), .ref (um 11), .ref (um 12), .ref (um 13), .ref (um 14), .ref (um 15), .ref (um 16), .ref (um 17), .int 0, .int 0, .int 0, .int 0, .int 0, .int 0, .ref (um 18), .int 0, .ref (um 19)])), ((um 6), .inl (cy 1, 30, .inl (fun _ => 0)))] H) (hD : va_D A [(qx, .inr (11, [.ref (ux 0), .ref (ux 2), .ref (ux 14), .ref (ux 36), .ref (ux 70), .ref (ux 71), .ref (ux 80), .ref (ux 82), .ref (ux 84), .ref (ux 89), .ref (ux 92)])), ((ux 14), .inr (10, [.ref (ux 15), .ref (ux 26)])), ((ux 15), .inr (0, [.int 0, .int 0, .int 0, .int 0, .int 0, .int 0, .int 0, .int 0, .ref (ux 16), .ref (ux 17), .ref (ux 18), .ref (ux 19), .ref (ux 20), .ref (ux 21), .ref (ux 22), .ref (ux 23), .ref (ux 24), .ref (ux 25)])), (qm, .inr (12, [.int 0, .ref (um 0), .ref (um 1), .ref (um 2), .ref (um 3), .ref (um 4), .int 0, .int 0, .int 0, .int 0, .int 0, .long 0, .int 0, .int 0, .int 0, .int (-1), .ref (um 5), .ref (um 6), .ref (um 7), .ref (um 8), .ref (um 9), .ref (um 10), .ref (um 11), .ref (um 12), .ref (um 13), .ref (um 14), .ref (um 15), .ref (um 16), .ref (um 17), .int 0, .int 0, .int 0, .int 0, .int 0, .int 0, .ref (um 18), .int 0, .ref (um 19)])), ((um 6), .inl (cy 1, 30, .inl (fun _ => 0)))]) (hl : lv_has ls 4 [(3, .int 0), (2, .ref qm), (1, .ref qx), (0, .ref b)]) : W p l e room_1 s m #[Value.ref b] below meth c H locs 116 20302 (lw_Z below #[Value.ref b] s) (F0 m 2405 ls []) := by
  have hA : ∀ q, s.heap.size ≤ q → A q := by rw [hAe]; exact fun _ h => h
  have hbA : ¬ A b := by rw [hAe]; exact Nat.not_le.mpr hbl
  have hRf : room_1.frames = 2048 := rfl
  have hRl : room_1.locals = 84000 := rfl
  have hRc : room_1.cells = 600000 := rfl
  have hRs : room_1.slots = 7302250 := rfl
  obtain ⟨p1, ep1⟩ : ∃ z : Int32, z = xs 1 := ⟨_, rfl⟩
  obtain ⟨p2, ep2⟩ : ∃ z : Int32, z = xs 2 := ⟨_, rfl⟩
  obtain ⟨p3, ep3⟩ : ∃ z : Int32, z = xs 3 := ⟨_, rfl⟩
  obtain ⟨p4, ep4⟩ : ∃ z : Int32, z = xs 4 := ⟨_, rfl⟩
  obtain ⟨p5, ep5⟩ : ∃ z : Int32, z = xs 5 := ⟨_, rfl⟩
  refine lv_aload_n hx hb dL_law_2405 rfl (lv_at hl 2 rfl) ?_
  refine lv_aload_n hx hb dL_law_2406 rfl (lv_at hl 3 rfl) ?_
  refine lv_iload_n hx hb dL_law_2407 rfl (lv_at hl 0 rfl) ?_
  refine lv_iconst (v := 1) hx hb dL_law_2408 (by decide) ?_
  refine lv_iadd hx hb dL_law_2409 ?_
  refine lv_topi (fun v1 ev1 => ?_)
  obtain rfl : v1 = 1 := ev1.trans (by decide)
  refine va_sld hx hb hX hbl hbA hS (mm_in mm_k1 (by decide)) dL_law_2410 ?_
  refine lv_topi (fun v2 ev2 => ?_)
  obtain rfl : p1 = v2 := ep1.trans ev2.symm
  refine lv_aload_n hx hb dL_law_2411 rfl (lv_at hl 3 rfl) ?_
  refine lv_iload_n hx hb dL_law_2412 rfl (lv_at hl 0 rfl) ?_
  refine lv_iconst (v := 2) hx hb dL_law_2413 (by decide) ?_
  refine lv_iadd hx hb dL_law_2414 ?_
  refine lv_topi (fun v3 ev3 => ?_)
  obtain rfl : v3 = 2 := ev3.trans (by decide)
  refine va_sld hx hb hX hbl hbA hS (mm_in mm_k2 (by decide)) dL_law_2415 ?_
  refine lv_topi (fun v4 ev4 => ?_)
  obtain rfl : p2 = v4 := ep2.trans ev4.symm
  refine lv_aload_n hx hb dL_law_2416 rfl (lv_at hl 3 rfl) ?_
  refine lv_iload_n hx hb dL_law_2417 rfl (lv_at hl 0 rfl) ?_
  refine lv_iconst (v := 3) hx hb dL_law_2418 (by decide) ?_
  refine lv_iadd hx hb dL_law_2419 ?_
  refine lv_topi (fun v5 ev5 => ?_)
  obtain rfl : v5 = 3 := ev5.trans (by decide)
  refine va_sld hx hb hX hbl hbA hS (mm_in mm_k3 (by decide)) dL_law_2420 ?_
  refine lv_topi (fun v6 ev6 => ?_)
  obtain rfl : p3 = v6 := ep3.trans ev6.symm
  refine lv_aload_n hx hb dL_law_2421 rfl (lv_at hl 3 rfl) ?_
  refine lv_iload_n hx hb dL_law_2422 rfl (lv_at hl 0 rfl) ?_
  refine lv_iconst (v := 4) hx hb dL_law_2423 (by decide) ?_
  refine lv_iadd hx hb dL_law_2424 ?_
  refine lv_topi (fun v7 ev7 => ?_)
  obtain rfl : v7 = 4 := ev7.trans (by decide)
  refine va_sld hx hb hX hbl hbA hS (mm_in mm_k4 (by decide)) dL_law_2425 ?_
  refine lv_topi (fun v8 ev8 => ?_)
  obtain rfl : p4 = v8 := ep4.trans ev8.symm
  refine mm_finir (va_runV (As := [.int p1, .int p2, .int p3, .int p4]) (rest := []) ⟨hx, hb, hml, hown, hts⟩ (K242_X11_wordings l G cy H.size qx p1 p2 p3 p4 (ux 0) (ux 2) (ux 14) (ux 36) (ux 70) (ux 71) (ux 80) (ux 82) (ux 84) (ux 89) (ux 92) (ux 15) (ux 26) 0 0 0 0 0 0 0 (ux 16) (ux 17) (ux 18) (ux 19) (ux 20) (ux 21) (ux 22) (ux 23) (ux 24) (ux 25) ) (cwV 4 hts (mm_gV mm_w1422 mm_w1423 mm_w1424 mm_w2 mm_w1425) rfl rfl rfl hd_X11_wordings ⟨by rw [hRf]; exact Nat.le_of_ble_eq_true rfl, by rw [hRl]; exact Nat.le_of_ble_eq_true rfl⟩) (mm_preV hK hP hD [0, 1, 2] rfl rfl 0 rfl rfl rfl) rfl rfl hl.1 rfl (lv_room (Nat.le_of_ble_eq_true rfl)) dL_law_2426 ⟨by rw [hRc]; exact Nat.le_of_ble_eq_true rfl, by rw [hRs]; exact Nat.le_of_ble_eq_true rfl⟩) hP hD hS hA [0, 1, 2] rfl (fun _ => rfl) ?_
  clear hP hD hS
  clear H locs
  intro v9 _u H locs hw hP hD hS
  subst hw
  refine lv_aload_n hx hb dL_law_2429 rfl (lv_at hl 1 rfl) ?_
  refine lv_aload_n hx hb dL_law_2430 rfl (lv_at hl 3 rfl) ?_
  refine lv_iload_n hx hb dL_law_2431 rfl (lv_at hl 0 rfl) ?_
  refine lv_iconst (v := 1) hx hb dL_law_2432 (by decide) ?_
  refine lv_iadd hx hb dL_law_2433 ?_
  refine lv_topi (fun v10 ev10 => ?_)
  obtain rfl : v10 = 1 := ev10.trans (by decide)
  refine va_sld hx hb hX hbl hbA hS (mm_in mm_k1 (by decide)) dL_law_2434 ?_
  refine lv_topi (fun v11 ev11 => ?_)
  obtain rfl : p1 = v11 := ep1.trans ev11.symm
  refine lv_aload_n hx hb dL_law_2435 rfl (lv_at hl 3 rfl) ?_
  refine lv_iload_n hx hb dL_law_2436 rfl (lv_at hl 0 rfl) ?_
  refine lv_iconst (v := 2) hx hb dL_law_2437 (by decide) ?_
  refine lv_iadd hx hb dL_law_2438 ?_
  refine lv_topi (fun v12 ev12 => ?_)
  obtain rfl : v12 = 2 := ev12.trans (by decide)
  refine va_sld hx hb hX hbl hbA hS (mm_in mm_k2 (by decide)) dL_law_2439 ?_
  refine lv_topi (fun v13 ev13 => ?_)
  obtain rfl : p2 = v13 := ep2.trans ev13.symm
  refine lv_aload_n hx hb dL_law_2440 rfl (lv_at hl 3 rfl) ?_
  refine lv_iload_n hx hb dL_law_2441 rfl (lv_at hl 0 rfl) ?_
  refine lv_iconst (v := 3) hx hb dL_law_2442 (by decide) ?_
  refine lv_iadd hx hb dL_law_2443 ?_
  refine lv_topi (fun v14 ev14 => ?_)
  obtain rfl : v14 = 3 := ev14.trans (by decide)
  refine va_sld hx hb hX hbl hbA hS (mm_in mm_k3 (by decide)) dL_law_2444 ?_
  refine lv_topi (fun v15 ev15 => ?_)
  obtain rfl : p3 = v15 := ep3.trans ev15.symm
  refine lv_aload_n hx hb dL_law_2445 rfl (lv_at hl 3 rfl) ?_
  refine lv_iload_n hx hb dL_law_2446 rfl (lv_at hl 0 rfl) ?_
  refine lv_iconst (v := 4) hx hb dL_law_2447 (by decide) ?_
  refine lv_iadd hx hb dL_law_2448 ?_
  refine lv_topi (fun v16 ev16 => ?_)
  obtain rfl : v16 = 4 := ev16.trans (by decide)
  refine va_sld hx hb hX hbl hbA hS (mm_in mm_k4 (by decide)) dL_law_2449 ?_
  refine lv_topi (fun v17 ev17 => ?_)
  obtain rfl : p4 = v17 := ep4.trans ev17.symm
  refine mm_finir (va_runV (As := [.int p1, .int p2, .int p3, .int p4]) (rest := [.int (-2)]) ⟨hx, hb, hml, hown, hts⟩ (K243_X12_wordings l G cy H.size qm p1 p2 p3 p4 (um 0) (um 1) (um 2) (um 3) (um 4) 0 0 0 0 0 0 0 0 0 (-1) (um 5) (um 6) (um 7) (um 8) (um 9) (um 10) (um 11) (um 12) (um 13) (um 14) (um 15) (um 16) (um 17) 0 0 0 0 0 0 (um 18) 0 (um 19) ) (cwV 4 hts (mm_gV mm_w1426 mm_w1427 mm_w1428 mm_w5 mm_w1429) rfl rfl rfl hd_X12_wordings ⟨by rw [hRf]; exact Nat.le_of_ble_eq_true rfl, by rw [hRl]; exact Nat.le_of_ble_eq_true rfl⟩) (mm_preV hK hP hD [3, 4] rfl rfl 3 rfl rfl rfl) rfl rfl hl.1 rfl (lv_room (Nat.le_of_ble_eq_true rfl)) dL_law_2450 ⟨by rw [hRc]; exact Nat.le_of_ble_eq_true rfl, by rw [hRs]; exact Nat.le_of_ble_eq_true rfl⟩) hP hD hS hA [3, 4] rfl (fun _ => rfl) ?_
  clear hP hD hS
  clear H locs
  intro v18 _u H locs hw hP hD hS
  subst hw
  refine lv_icmp_eq (tgt := 3153) hx hb dL_law_2453 (by decide) (fun c19 => ?_) (fun c19 => ?_)
  · refine lv_iinc (v := 6) (lv' := [(3, .int 6), (2, .ref qm), (1, .ref qx), (0, .ref b)]) hx hb dL_law_3153 hl (k := 0) rfl (by decide) (by decide) rfl ?_
    clear hl
    clear ls
    intro ls hl
    refine lv_goto (tgt := 18) hx hb dL_law_3156 (by decide) ?_
    refine lv_iload_n hx hb dL_law_18 rfl (lv_at hl 0 rfl) ?_
    refine lv_aload_n hx hb dL_law_19 rfl (lv_at hl 3 rfl) ?_
    refine va_slen hx hb hX hbl hbA hS dL_law_20 ?_
    refine lv_topi (fun v20 ev20 => ?_)
    obtain rfl : v20 = 6 := ev20.trans (by decide)
    refine lv_bipush (v := 6) hx hb dL_law_21 (by decide) ?_
    refine lv_isub hx hb dL_law_23 ?_
    refine lv_topi (fun v21 ev21 => ?_)
    obtain rfl : v21 = 0 := ev21.trans (by decide)
    refine lv_icmp_gt (tgt := 3159) hx hb dL_law_24 (by decide) (fun c22 => ?_) (fun c22 => ?_)
    · refine lv_iconst (v := 1) hx hb dL_law_3159 (by decide) ?_
      refine va_forget (fun q hq => by have := hS.2.2 q hq; rw [hAe] at this; exact this) ?_
      refine W.widen (k := 600000) (n := 7302250) (Nat.le_of_ble_eq_true rfl) (Nat.le_of_ble_eq_true rfl) ?_
      exact lw_ret hx hb hr hlocks dL_law_3160
    · have q23 := mm_leL (mm_nlt c22) mm_k6 mm_k0
      exact mm_no q23 (by decide)
  · have q24 := mm_neL (lo := (-1)) (mm_ne c19) mm_km2 mm_km2 (by decide) (by decide)
    exact mm_no q24 (by decide)

set_option maxHeartbeats 4000000 in
set_option maxRecDepth 100000 in
theorem lc_54 {p : Program} {e : Env} {s : State} {m : MethodId} {below : List Frame} {meth : Method} {c : Code} {b : Nat} {xs : Nat → Int32} {G : va_G} {cy : Nat → ClassId} {qx qm : Nat} {ux um : Nat → Nat} {H : Heap} {locs : List Loc} {ls : Array Slot} {A : Nat → Prop} (l : Launch) (hx : p.tables.exec = Jvm.exec) (hb : c.code = code) (hr : meth.sig.returnType = ret) (hlocks : meth.locks = false) (hml : c.maxLocals = 4) (hown : s.vm.findClass R_law = some m.cls) (hts : ∀ w ∈ lw_x :: wsL_law, w.before #[Value.ref b] s = true) (hX : va_X b 6 xs s s.heap) (hbl : b < s.heap.size) (hAe : A = fun q => s.heap.size ≤ q) (hK : mm_K G cy s) (hS : va_S A s.heap H locs) (hP : va_P G vwCl [(qx, .inr (11, [.ref (ux 0), .ref (ux 2), .ref (ux 14), .ref (ux 36), .ref (ux 70), .ref (ux 71), .ref (ux 80), .ref (ux 82), .ref (ux 84), .ref (ux 89), .ref (ux 92)])), ((ux 14), .inr (10, [.ref (ux 15), .ref (ux 26)])), ((ux 15), .inr (0, [.int 0, .int 0, .int 0, .int 0, .int 0, .int 0, .int 0, .int 0, .ref (ux 16), .ref (ux 17), .ref (ux 18), .ref (ux 19), .ref (ux 20), .ref (ux 21), .ref (ux 22), .ref (ux 23), .ref (ux 24), .ref (ux 25)])), (qm, .inr (12, [.int 0, .ref (um 0), .ref (um 1), .ref (um 2), .ref (um 3), .ref (um 4), .int 0, .int 0, .int 0, .int 0, .int 0, .long 0, .int 0, .int 0, .int 0, .int (-1), .ref (um 5), .ref (um 6), .ref (um 7), .ref (um 8), .ref (um 9), .ref (um 10), .ref (um 11), .ref (um 12), .ref (um 13), .ref (um 14), .ref (um 15), .ref (um 16), .ref (um 17), .int 0, .int 0, .int 0, .int 0, .int 0, .int 0, .ref (um 18), .int 0, .ref (um 19)])), ((um 6), .inl (cy 1, 30, .inl (fun _ => 0)))] H) (hD : va_D A [(qx, .inr (11, [.ref (ux 0), .ref (ux 2), .ref (ux 14), .ref (ux 36), .ref (ux 70), .ref (ux 71), .ref (ux 80), .ref (ux 82), .ref (ux 84), .ref (ux 89), .ref (ux 92)])), ((ux 14), .inr (10, [.ref (ux 15), .ref (ux 26)])), ((ux 15), .inr (0, [.int 0, .int 0, .int 0, .int 0, .int 0, .int 0, .int 0, .int 0, .ref (ux 16), .ref (ux 17), .ref (ux 18), .ref (ux 19), .ref (ux 20), .ref (ux 21), .ref (ux 22), .ref (ux 23), .ref (ux 24), .ref (ux 25)])), (qm, .inr (12, [.int 0, .ref (um 0), .ref (um 1), .ref (um 2), .ref (um 3), .ref (um 4), .int 0, .int 0, .int 0, .int 0, .int 0, .long 0, .int 0, .int 0, .int 0, .int (-1), .ref (um 5), .ref (um 6), .ref (um 7), .ref (um 8), .ref (um 9), .ref (um 10), .ref (um 11), .ref (um 12), .ref (um 13), .ref (um 14), .ref (um 15), .ref (um 16), .ref (um 17), .int 0, .int 0, .int 0, .int 0, .int 0, .int 0, .ref (um 18), .int 0, .ref (um 19)])), ((um 6), .inl (cy 1, 30, .inl (fun _ => 0)))]) (hl : lv_has ls 4 [(3, .int 0), (2, .ref qm), (1, .ref qx), (0, .ref b)]) : W p l e room_1 s m #[Value.ref b] below meth c H locs 116 20302 (lw_Z below #[Value.ref b] s) (F0 m 2458 ls []) := by
  have hA : ∀ q, s.heap.size ≤ q → A q := by rw [hAe]; exact fun _ h => h
  have hbA : ¬ A b := by rw [hAe]; exact Nat.not_le.mpr hbl
  have hRf : room_1.frames = 2048 := rfl
  have hRl : room_1.locals = 84000 := rfl
  have hRc : room_1.cells = 600000 := rfl
  have hRs : room_1.slots = 7302250 := rfl
  obtain ⟨p1, ep1⟩ : ∃ z : Int32, z = xs 1 := ⟨_, rfl⟩
  obtain ⟨p2, ep2⟩ : ∃ z : Int32, z = xs 2 := ⟨_, rfl⟩
  obtain ⟨p3, ep3⟩ : ∃ z : Int32, z = xs 3 := ⟨_, rfl⟩
  obtain ⟨p4, ep4⟩ : ∃ z : Int32, z = xs 4 := ⟨_, rfl⟩
  obtain ⟨p5, ep5⟩ : ∃ z : Int32, z = xs 5 := ⟨_, rfl⟩
  refine lv_aload_n hx hb dL_law_2458 rfl (lv_at hl 2 rfl) ?_
  refine lv_aload_n hx hb dL_law_2459 rfl (lv_at hl 3 rfl) ?_
  refine lv_iload_n hx hb dL_law_2460 rfl (lv_at hl 0 rfl) ?_
  refine lv_iconst (v := 1) hx hb dL_law_2461 (by decide) ?_
  refine lv_iadd hx hb dL_law_2462 ?_
  refine lv_topi (fun v1 ev1 => ?_)
  obtain rfl : v1 = 1 := ev1.trans (by decide)
  refine va_sld hx hb hX hbl hbA hS (mm_in mm_k1 (by decide)) dL_law_2463 ?_
  refine lv_topi (fun v2 ev2 => ?_)
  obtain rfl : p1 = v2 := ep1.trans ev2.symm
  refine lv_aload_n hx hb dL_law_2464 rfl (lv_at hl 3 rfl) ?_
  refine lv_iload_n hx hb dL_law_2465 rfl (lv_at hl 0 rfl) ?_
  refine lv_iconst (v := 2) hx hb dL_law_2466 (by decide) ?_
  refine lv_iadd hx hb dL_law_2467 ?_
  refine lv_topi (fun v3 ev3 => ?_)
  obtain rfl : v3 = 2 := ev3.trans (by decide)
  refine va_sld hx hb hX hbl hbA hS (mm_in mm_k2 (by decide)) dL_law_2468 ?_
  refine lv_topi (fun v4 ev4 => ?_)
  obtain rfl : p2 = v4 := ep2.trans ev4.symm
  refine mm_finir (va_runV (As := [.int p1, .int p2]) (rest := []) ⟨hx, hb, hml, hown, hts⟩ (K244_X11_heirs l G cy H.size qx p1 p2 (ux 0) (ux 2) (ux 14) (ux 36) (ux 70) (ux 71) (ux 80) (ux 82) (ux 84) (ux 89) (ux 92) (ux 15) (ux 26) 0 0 0 0 0 0 0 (ux 16) (ux 17) (ux 18) (ux 19) (ux 20) (ux 21) (ux 22) (ux 23) (ux 24) (ux 25) ) (cwV 2 hts (mm_gV mm_w1430 mm_w1431 mm_w1432 mm_w2 mm_w1433) rfl rfl rfl hd_X11_heirs ⟨by rw [hRf]; exact Nat.le_of_ble_eq_true rfl, by rw [hRl]; exact Nat.le_of_ble_eq_true rfl⟩) (mm_preV hK hP hD [0, 1, 2] rfl rfl 0 rfl rfl rfl) rfl rfl hl.1 rfl (lv_room (Nat.le_of_ble_eq_true rfl)) dL_law_2469 ⟨by rw [hRc]; exact Nat.le_of_ble_eq_true rfl, by rw [hRs]; exact Nat.le_of_ble_eq_true rfl⟩) hP hD hS hA [0, 1, 2] rfl (fun _ => rfl) ?_
  clear hP hD hS
  clear H locs
  intro v5 _u H locs hw hP hD hS
  subst hw
  refine lv_aload_n hx hb dL_law_2472 rfl (lv_at hl 1 rfl) ?_
  refine lv_aload_n hx hb dL_law_2473 rfl (lv_at hl 3 rfl) ?_
  refine lv_iload_n hx hb dL_law_2474 rfl (lv_at hl 0 rfl) ?_
  refine lv_iconst (v := 1) hx hb dL_law_2475 (by decide) ?_
  refine lv_iadd hx hb dL_law_2476 ?_
  refine lv_topi (fun v6 ev6 => ?_)
  obtain rfl : v6 = 1 := ev6.trans (by decide)
  refine va_sld hx hb hX hbl hbA hS (mm_in mm_k1 (by decide)) dL_law_2477 ?_
  refine lv_topi (fun v7 ev7 => ?_)
  obtain rfl : p1 = v7 := ep1.trans ev7.symm
  refine lv_aload_n hx hb dL_law_2478 rfl (lv_at hl 3 rfl) ?_
  refine lv_iload_n hx hb dL_law_2479 rfl (lv_at hl 0 rfl) ?_
  refine lv_iconst (v := 2) hx hb dL_law_2480 (by decide) ?_
  refine lv_iadd hx hb dL_law_2481 ?_
  refine lv_topi (fun v8 ev8 => ?_)
  obtain rfl : v8 = 2 := ev8.trans (by decide)
  refine va_sld hx hb hX hbl hbA hS (mm_in mm_k2 (by decide)) dL_law_2482 ?_
  refine lv_topi (fun v9 ev9 => ?_)
  obtain rfl : p2 = v9 := ep2.trans ev9.symm
  refine mm_finir (va_runV (As := [.int p1, .int p2]) (rest := [.int (-100000)]) ⟨hx, hb, hml, hown, hts⟩ (K245_X12_heirs l G cy H.size qm p1 p2 (um 0) (um 1) (um 2) (um 3) (um 4) 0 0 0 0 0 0 0 0 0 (-1) (um 5) (um 6) (um 7) (um 8) (um 9) (um 10) (um 11) (um 12) (um 13) (um 14) (um 15) (um 16) (um 17) 0 0 0 0 0 0 (um 18) 0 (um 19) ) (cwV 2 hts (mm_gV mm_w1451 mm_w1452 mm_w1453 mm_w5 mm_w1454) rfl rfl rfl hd_X12_heirs ⟨by rw [hRf]; exact Nat.le_of_ble_eq_true rfl, by rw [hRl]; exact Nat.le_of_ble_eq_true rfl⟩) (mm_preV hK hP hD [3, 4] rfl rfl 3 rfl rfl rfl) rfl rfl hl.1 rfl (lv_room (Nat.le_of_ble_eq_true rfl)) dL_law_2483 ⟨by rw [hRc]; exact Nat.le_of_ble_eq_true rfl, by rw [hRs]; exact Nat.le_of_ble_eq_true rfl⟩) hP hD hS hA [3, 4] rfl (fun _ => rfl) ?_
  clear hP hD hS
  clear H locs
  intro v10 _u H locs hw hP hD hS
  subst hw
  refine lv_icmp_eq (tgt := 3153) hx hb dL_law_2486 (by decide) (fun c11 => ?_) (fun c11 => ?_)
  · refine lv_iinc (v := 6) (lv' := [(3, .int 6), (2, .ref qm), (1, .ref qx), (0, .ref b)]) hx hb dL_law_3153 hl (k := 0) rfl (by decide) (by decide) rfl ?_
    clear hl
    clear ls
    intro ls hl
    refine lv_goto (tgt := 18) hx hb dL_law_3156 (by decide) ?_
    refine lv_iload_n hx hb dL_law_18 rfl (lv_at hl 0 rfl) ?_
    refine lv_aload_n hx hb dL_law_19 rfl (lv_at hl 3 rfl) ?_
    refine va_slen hx hb hX hbl hbA hS dL_law_20 ?_
    refine lv_topi (fun v12 ev12 => ?_)
    obtain rfl : v12 = 6 := ev12.trans (by decide)
    refine lv_bipush (v := 6) hx hb dL_law_21 (by decide) ?_
    refine lv_isub hx hb dL_law_23 ?_
    refine lv_topi (fun v13 ev13 => ?_)
    obtain rfl : v13 = 0 := ev13.trans (by decide)
    refine lv_icmp_gt (tgt := 3159) hx hb dL_law_24 (by decide) (fun c14 => ?_) (fun c14 => ?_)
    · refine lv_iconst (v := 1) hx hb dL_law_3159 (by decide) ?_
      refine va_forget (fun q hq => by have := hS.2.2 q hq; rw [hAe] at this; exact this) ?_
      refine W.widen (k := 600000) (n := 7302250) (Nat.le_of_ble_eq_true rfl) (Nat.le_of_ble_eq_true rfl) ?_
      exact lw_ret hx hb hr hlocks dL_law_3160
    · have q15 := mm_leL (mm_nlt c14) mm_k6 mm_k0
      exact mm_no q15 (by decide)
  · have q16 := mm_neL (lo := (-99999)) (mm_ne c11) mm_km100000 mm_km100000 (by decide) (by decide)
    exact mm_no q16 (by decide)

set_option maxHeartbeats 4000000 in
set_option maxRecDepth 100000 in
theorem lc_55 {p : Program} {e : Env} {s : State} {m : MethodId} {below : List Frame} {meth : Method} {c : Code} {b : Nat} {xs : Nat → Int32} {G : va_G} {cy : Nat → ClassId} {qx qm : Nat} {ux um : Nat → Nat} {H : Heap} {locs : List Loc} {ls : Array Slot} {A : Nat → Prop} (l : Launch) (hx : p.tables.exec = Jvm.exec) (hb : c.code = code) (hr : meth.sig.returnType = ret) (hlocks : meth.locks = false) (hml : c.maxLocals = 4) (hown : s.vm.findClass R_law = some m.cls) (hts : ∀ w ∈ lw_x :: wsL_law, w.before #[Value.ref b] s = true) (hX : va_X b 6 xs s s.heap) (hbl : b < s.heap.size) (hAe : A = fun q => s.heap.size ≤ q) (hK : mm_K G cy s) (hS : va_S A s.heap H locs) (hP : va_P G vwCl [(qx, .inr (11, [.ref (ux 0), .ref (ux 2), .ref (ux 14), .ref (ux 36), .ref (ux 70), .ref (ux 71), .ref (ux 80), .ref (ux 82), .ref (ux 84), .ref (ux 89), .ref (ux 92)])), ((ux 14), .inr (10, [.ref (ux 15), .ref (ux 26)])), ((ux 15), .inr (0, [.int 0, .int 0, .int 0, .int 0, .int 0, .int 0, .int 0, .int 0, .ref (ux 16), .ref (ux 17), .ref (ux 18), .ref (ux 19), .ref (ux 20), .ref (ux 21), .ref (ux 22), .ref (ux 23), .ref (ux 24), .ref (ux 25)])), (qm, .inr (12, [.int 0, .ref (um 0), .ref (um 1), .ref (um 2), .ref (um 3), .ref (um 4), .int 0, .int 0, .int 0, .int 0, .int 0, .long 0, .int 0, .int 0, .int 0, .int (-1), .ref (um 5), .ref (um 6), .ref (um 7), .ref (um 8), .ref (um 9), .ref (um 10), .ref (um 11), .ref (um 12), .ref (um 13), .ref (um 14), .ref (um 15), .ref (um 16), .ref (um 17), .int 0, .int 0, .int 0, .int 0, .int 0, .int 0, .ref (um 18), .int 0, .ref (um 19)])), ((um 6), .inl (cy 1, 30, .inl (fun _ => 0)))] H) (hD : va_D A [(qx, .inr (11, [.ref (ux 0), .ref (ux 2), .ref (ux 14), .ref (ux 36), .ref (ux 70), .ref (ux 71), .ref (ux 80), .ref (ux 82), .ref (ux 84), .ref (ux 89), .ref (ux 92)])), ((ux 14), .inr (10, [.ref (ux 15), .ref (ux 26)])), ((ux 15), .inr (0, [.int 0, .int 0, .int 0, .int 0, .int 0, .int 0, .int 0, .int 0, .ref (ux 16), .ref (ux 17), .ref (ux 18), .ref (ux 19), .ref (ux 20), .ref (ux 21), .ref (ux 22), .ref (ux 23), .ref (ux 24), .ref (ux 25)])), (qm, .inr (12, [.int 0, .ref (um 0), .ref (um 1), .ref (um 2), .ref (um 3), .ref (um 4), .int 0, .int 0, .int 0, .int 0, .int 0, .long 0, .int 0, .int 0, .int 0, .int (-1), .ref (um 5), .ref (um 6), .ref (um 7), .ref (um 8), .ref (um 9), .ref (um 10), .ref (um 11), .ref (um 12), .ref (um 13), .ref (um 14), .ref (um 15), .ref (um 16), .ref (um 17), .int 0, .int 0, .int 0, .int 0, .int 0, .int 0, .ref (um 18), .int 0, .ref (um 19)])), ((um 6), .inl (cy 1, 30, .inl (fun _ => 0)))]) (hl : lv_has ls 4 [(3, .int 0), (2, .ref qm), (1, .ref qx), (0, .ref b)]) : W p l e room_1 s m #[Value.ref b] below meth c H locs 116 20302 (lw_Z below #[Value.ref b] s) (F0 m 2491 ls []) := by
  have hA : ∀ q, s.heap.size ≤ q → A q := by rw [hAe]; exact fun _ h => h
  have hbA : ¬ A b := by rw [hAe]; exact Nat.not_le.mpr hbl
  have hRf : room_1.frames = 2048 := rfl
  have hRl : room_1.locals = 84000 := rfl
  have hRc : room_1.cells = 600000 := rfl
  have hRs : room_1.slots = 7302250 := rfl
  obtain ⟨p1, ep1⟩ : ∃ z : Int32, z = xs 1 := ⟨_, rfl⟩
  obtain ⟨p2, ep2⟩ : ∃ z : Int32, z = xs 2 := ⟨_, rfl⟩
  obtain ⟨p3, ep3⟩ : ∃ z : Int32, z = xs 3 := ⟨_, rfl⟩
  obtain ⟨p4, ep4⟩ : ∃ z : Int32, z = xs 4 := ⟨_, rfl⟩
  obtain ⟨p5, ep5⟩ : ∃ z : Int32, z = xs 5 := ⟨_, rfl⟩
  refine lv_aload_n hx hb dL_law_2491 rfl (lv_at hl 2 rfl) ?_
  refine lv_aload_n hx hb dL_law_2492 rfl (lv_at hl 3 rfl) ?_
  refine lv_iload_n hx hb dL_law_2493 rfl (lv_at hl 0 rfl) ?_
  refine lv_iconst (v := 1) hx hb dL_law_2494 (by decide) ?_
  refine lv_iadd hx hb dL_law_2495 ?_
  refine lv_topi (fun v1 ev1 => ?_)
  obtain rfl : v1 = 1 := ev1.trans (by decide)
  refine va_sld hx hb hX hbl hbA hS (mm_in mm_k1 (by decide)) dL_law_2496 ?_
  refine lv_topi (fun v2 ev2 => ?_)
  obtain rfl : p1 = v2 := ep1.trans ev2.symm
  refine lv_aload_n hx hb dL_law_2497 rfl (lv_at hl 3 rfl) ?_
  refine lv_iload_n hx hb dL_law_2498 rfl (lv_at hl 0 rfl) ?_
  refine lv_iconst (v := 2) hx hb dL_law_2499 (by decide) ?_
  refine lv_iadd hx hb dL_law_2500 ?_
  refine lv_topi (fun v3 ev3 => ?_)
  obtain rfl : v3 = 2 := ev3.trans (by decide)
  refine va_sld hx hb hX hbl hbA hS (mm_in mm_k2 (by decide)) dL_law_2501 ?_
  refine lv_topi (fun v4 ev4 => ?_)
  obtain rfl : p2 = v4 := ep2.trans ev4.symm
  refine mm_finir (va_runV (As := [.int p1, .int p2]) (rest := []) ⟨hx, hb, hml, hown, hts⟩ (K246_X11_takes l G cy H.size qx p1 p2 (ux 0) (ux 2) (ux 14) (ux 36) (ux 70) (ux 71) (ux 80) (ux 82) (ux 84) (ux 89) (ux 92) (ux 15) (ux 26) 0 0 0 0 0 0 0 (ux 16) (ux 17) (ux 18) (ux 19) (ux 20) (ux 21) (ux 22) (ux 23) (ux 24) (ux 25) ) (cwV 2 hts (mm_gV mm_w1464 mm_w1465 mm_w1466 mm_w2 mm_w1467) rfl rfl rfl hd_X11_takes ⟨by rw [hRf]; exact Nat.le_of_ble_eq_true rfl, by rw [hRl]; exact Nat.le_of_ble_eq_true rfl⟩) (mm_preV hK hP hD [0, 1, 2] rfl rfl 0 rfl rfl rfl) rfl rfl hl.1 rfl (lv_room (Nat.le_of_ble_eq_true rfl)) dL_law_2502 ⟨by rw [hRc]; exact Nat.le_of_ble_eq_true rfl, by rw [hRs]; exact Nat.le_of_ble_eq_true rfl⟩) hP hD hS hA [0, 1, 2] rfl (fun _ => rfl) ?_
  clear hP hD hS
  clear H locs
  intro v5 _u H locs hw hP hD hS
  subst hw
  refine lv_aload_n hx hb dL_law_2505 rfl (lv_at hl 1 rfl) ?_
  refine lv_aload_n hx hb dL_law_2506 rfl (lv_at hl 3 rfl) ?_
  refine lv_iload_n hx hb dL_law_2507 rfl (lv_at hl 0 rfl) ?_
  refine lv_iconst (v := 1) hx hb dL_law_2508 (by decide) ?_
  refine lv_iadd hx hb dL_law_2509 ?_
  refine lv_topi (fun v6 ev6 => ?_)
  obtain rfl : v6 = 1 := ev6.trans (by decide)
  refine va_sld hx hb hX hbl hbA hS (mm_in mm_k1 (by decide)) dL_law_2510 ?_
  refine lv_topi (fun v7 ev7 => ?_)
  obtain rfl : p1 = v7 := ep1.trans ev7.symm
  refine lv_aload_n hx hb dL_law_2511 rfl (lv_at hl 3 rfl) ?_
  refine lv_iload_n hx hb dL_law_2512 rfl (lv_at hl 0 rfl) ?_
  refine lv_iconst (v := 2) hx hb dL_law_2513 (by decide) ?_
  refine lv_iadd hx hb dL_law_2514 ?_
  refine lv_topi (fun v8 ev8 => ?_)
  obtain rfl : v8 = 2 := ev8.trans (by decide)
  refine va_sld hx hb hX hbl hbA hS (mm_in mm_k2 (by decide)) dL_law_2515 ?_
  refine lv_topi (fun v9 ev9 => ?_)
  obtain rfl : p2 = v9 := ep2.trans ev9.symm
  refine mm_finir (va_runV (As := [.int p1, .int p2]) (rest := [.int (-2)]) ⟨hx, hb, hml, hown, hts⟩ (K247_X12_takes_ l G cy H.size qm p1 p2 (um 0) (um 1) (um 2) (um 3) (um 4) 0 0 0 0 0 0 0 0 0 (-1) (um 5) (um 6) (um 7) (um 8) (um 9) (um 10) (um 11) (um 12) (um 13) (um 14) (um 15) (um 16) (um 17) 0 0 0 0 0 0 (um 18) 0 (um 19) ) (cwV 2 hts (mm_gV mm_w1472 mm_w1473 mm_w1474 mm_w5 mm_w1475) rfl rfl rfl hd_X12_takes_ ⟨by rw [hRf]; exact Nat.le_of_ble_eq_true rfl, by rw [hRl]; exact Nat.le_of_ble_eq_true rfl⟩) (mm_preV hK hP hD [3, 4] rfl rfl 3 rfl rfl rfl) rfl rfl hl.1 rfl (lv_room (Nat.le_of_ble_eq_true rfl)) dL_law_2516 ⟨by rw [hRc]; exact Nat.le_of_ble_eq_true rfl, by rw [hRs]; exact Nat.le_of_ble_eq_true rfl⟩) hP hD hS hA [3, 4] rfl (fun _ => rfl) ?_
  clear hP hD hS
  clear H locs
  intro v10 _u H locs hw hP hD hS
  subst hw
  refine lv_icmp_eq (tgt := 3153) hx hb dL_law_2519 (by decide) (fun c11 => ?_) (fun c11 => ?_)
  · refine lv_iinc (v := 6) (lv' := [(3, .int 6), (2, .ref qm), (1, .ref qx), (0, .ref b)]) hx hb dL_law_3153 hl (k := 0) rfl (by decide) (by decide) rfl ?_
    clear hl
    clear ls
    intro ls hl
    refine lv_goto (tgt := 18) hx hb dL_law_3156 (by decide) ?_
    refine lv_iload_n hx hb dL_law_18 rfl (lv_at hl 0 rfl) ?_
    refine lv_aload_n hx hb dL_law_19 rfl (lv_at hl 3 rfl) ?_
    refine va_slen hx hb hX hbl hbA hS dL_law_20 ?_
    refine lv_topi (fun v12 ev12 => ?_)
    obtain rfl : v12 = 6 := ev12.trans (by decide)
    refine lv_bipush (v := 6) hx hb dL_law_21 (by decide) ?_
    refine lv_isub hx hb dL_law_23 ?_
    refine lv_topi (fun v13 ev13 => ?_)
    obtain rfl : v13 = 0 := ev13.trans (by decide)
    refine lv_icmp_gt (tgt := 3159) hx hb dL_law_24 (by decide) (fun c14 => ?_) (fun c14 => ?_)
    · refine lv_iconst (v := 1) hx hb dL_law_3159 (by decide) ?_
      refine va_forget (fun q hq => by have := hS.2.2 q hq; rw [hAe] at this; exact this) ?_
      refine W.widen (k := 600000) (n := 7302250) (Nat.le_of_ble_eq_true rfl) (Nat.le_of_ble_eq_true rfl) ?_
      exact lw_ret hx hb hr hlocks dL_law_3160
    · have q15 := mm_leL (mm_nlt c14) mm_k6 mm_k0
      exact mm_no q15 (by decide)
  · have q16 := mm_neL (lo := (-1)) (mm_ne c11) mm_km2 mm_km2 (by decide) (by decide)
    exact mm_no q16 (by decide)

set_option maxHeartbeats 4000000 in
set_option maxRecDepth 100000 in
theorem lc_56 {p : Program} {e : Env} {s : State} {m : MethodId} {below : List Frame} {meth : Method} {c : Code} {b : Nat} {xs : Nat → Int32} {G : va_G} {cy : Nat → ClassId} {qx qm : Nat} {ux um : Nat → Nat} {H : Heap} {locs : List Loc} {ls : Array Slot} {A : Nat → Prop} (l : Launch) (hx : p.tables.exec = Jvm.exec) (hb : c.code = code) (hr : meth.sig.returnType = ret) (hlocks : meth.locks = false) (hml : c.maxLocals = 4) (hown : s.vm.findClass R_law = some m.cls) (hts : ∀ w ∈ lw_x :: wsL_law, w.before #[Value.ref b] s = true) (hX : va_X b 6 xs s s.heap) (hbl : b < s.heap.size) (hAe : A = fun q => s.heap.size ≤ q) (hK : mm_K G cy s) (hS : va_S A s.heap H locs) (hP : va_P G vwCl [(qx, .inr (11, [.ref (ux 0), .ref (ux 2), .ref (ux 14), .ref (ux 36), .ref (ux 70), .ref (ux 71), .ref (ux 80), .ref (ux 82), .ref (ux 84), .ref (ux 89), .ref (ux 92)])), ((ux 14), .inr (10, [.ref (ux 15), .ref (ux 26)])), ((ux 15), .inr (0, [.int 0, .int 0, .int 0, .int 0, .int 0, .int 0, .int 0, .int 0, .ref (ux 16), .ref (ux 17), .ref (ux 18), .ref (ux 19), .ref (ux 20), .ref (ux 21), .ref (ux 22), .ref (ux 23), .ref (ux 24), .ref (ux 25)])), (qm, .inr (12, [.int 0, .ref (um 0), .ref (um 1), .ref (um 2), .ref (um 3), .ref (um 4), .int 0, .int 0, .int 0, .int 0, .int 0, .long 0, .int 0, .int 0, .int 0, .int (-1), .ref (um 5), .ref (um 6), .ref (um 7), .ref (um 8), .ref (um 9), .ref (um 10), .ref (um 11), .ref (um 12), .ref (um 13), .ref (um 14), .ref (um 15), .ref (um 16), .ref (um 17), .int 0, .int 0, .int 0, .int 0, .int 0, .int 0, .ref (um 18), .int 0, .ref (um 19)])), ((um 6), .inl (cy 1, 30, .inl (fun _ => 0)))] H) (hD : va_D A [(qx, .inr (11, [.ref (ux 0), .ref (ux 2), .ref (ux 14), .ref (ux 36), .ref (ux 70), .ref (ux 71), .ref (ux 80), .ref (ux 82), .ref (ux 84), .ref (ux 89), .ref (ux 92)])), ((ux 14), .inr (10, [.ref (ux 15), .ref (ux 26)])), ((ux 15), .inr (0, [.int 0, .int 0, .int 0, .int 0, .int 0, .int 0, .int 0, .int 0, .ref (ux 16), .ref (ux 17), .ref (ux 18), .ref (ux 19), .ref (ux 20), .ref (ux 21), .ref (ux 22), .ref (ux 23), .ref (ux 24), .ref (ux 25)])), (qm, .inr (12, [.int 0, .ref (um 0), .ref (um 1), .ref (um 2), .ref (um 3), .ref (um 4), .int 0, .int 0, .int 0, .int 0, .int 0, .long 0, .int 0, .int 0, .int 0, .int (-1), .ref (um 5), .ref (um 6), .ref (um 7), .ref (um 8), .ref (um 9), .ref (um 10), .ref (um 11), .ref (um 12), .ref (um 13), .ref (um 14), .ref (um 15), .ref (um 16), .ref (um 17), .int 0, .int 0, .int 0, .int 0, .int 0, .int 0, .ref (um 18), .int 0, .ref (um 19)])), ((um 6), .inl (cy 1, 30, .inl (fun _ => 0)))]) (hl : lv_has ls 4 [(3, .int 0), (2, .ref qm), (1, .ref qx), (0, .ref b)]) : W p l e room_1 s m #[Value.ref b] below meth c H locs 116 20302 (lw_Z below #[Value.ref b] s) (F0 m 2524 ls []) := by
  have hA : ∀ q, s.heap.size ≤ q → A q := by rw [hAe]; exact fun _ h => h
  have hbA : ¬ A b := by rw [hAe]; exact Nat.not_le.mpr hbl
  have hRf : room_1.frames = 2048 := rfl
  have hRl : room_1.locals = 84000 := rfl
  have hRc : room_1.cells = 600000 := rfl
  have hRs : room_1.slots = 7302250 := rfl
  obtain ⟨p1, ep1⟩ : ∃ z : Int32, z = xs 1 := ⟨_, rfl⟩
  obtain ⟨p2, ep2⟩ : ∃ z : Int32, z = xs 2 := ⟨_, rfl⟩
  obtain ⟨p3, ep3⟩ : ∃ z : Int32, z = xs 3 := ⟨_, rfl⟩
  obtain ⟨p4, ep4⟩ : ∃ z : Int32, z = xs 4 := ⟨_, rfl⟩
  obtain ⟨p5, ep5⟩ : ∃ z : Int32, z = xs 5 := ⟨_, rfl⟩
  refine lv_aload_n hx hb dL_law_2524 rfl (lv_at hl 2 rfl) ?_
  refine lv_aload_n hx hb dL_law_2525 rfl (lv_at hl 3 rfl) ?_
  refine lv_iload_n hx hb dL_law_2526 rfl (lv_at hl 0 rfl) ?_
  refine lv_iconst (v := 1) hx hb dL_law_2527 (by decide) ?_
  refine lv_iadd hx hb dL_law_2528 ?_
  refine lv_topi (fun v1 ev1 => ?_)
  obtain rfl : v1 = 1 := ev1.trans (by decide)
  refine va_sld hx hb hX hbl hbA hS (mm_in mm_k1 (by decide)) dL_law_2529 ?_
  refine lv_topi (fun v2 ev2 => ?_)
  obtain rfl : p1 = v2 := ep1.trans ev2.symm
  refine lv_aload_n hx hb dL_law_2530 rfl (lv_at hl 3 rfl) ?_
  refine lv_iload_n hx hb dL_law_2531 rfl (lv_at hl 0 rfl) ?_
  refine lv_iconst (v := 2) hx hb dL_law_2532 (by decide) ?_
  refine lv_iadd hx hb dL_law_2533 ?_
  refine lv_topi (fun v3 ev3 => ?_)
  obtain rfl : v3 = 2 := ev3.trans (by decide)
  refine va_sld hx hb hX hbl hbA hS (mm_in mm_k2 (by decide)) dL_law_2534 ?_
  refine lv_topi (fun v4 ev4 => ?_)
  obtain rfl : p2 = v4 := ep2.trans ev4.symm
  refine mm_finir (va_runV (As := [.int p1, .int p2]) (rest := []) ⟨hx, hb, hml, hown, hts⟩ (K248_X11_greedy l G cy H.size qx p1 p2 (ux 0) (ux 2) (ux 14) (ux 36) (ux 70) (ux 71) (ux 80) (ux 82) (ux 84) (ux 89) (ux 92) (ux 15) (ux 26) 0 0 0 0 0 0 0 (ux 16) (ux 17) (ux 18) (ux 19) (ux 20) (ux 21) (ux 22) (ux 23) (ux 24) (ux 25) ) (cwV 2 hts (mm_gV mm_w1476 mm_w1477 mm_w1478 mm_w2 mm_w1479) rfl rfl rfl hd_X11_greedy ⟨by rw [hRf]; exact Nat.le_of_ble_eq_true rfl, by rw [hRl]; exact Nat.le_of_ble_eq_true rfl⟩) (mm_preV hK hP hD [0, 1, 2] rfl rfl 0 rfl rfl rfl) rfl rfl hl.1 rfl (lv_room (Nat.le_of_ble_eq_true rfl)) dL_law_2535 ⟨by rw [hRc]; exact Nat.le_of_ble_eq_true rfl, by rw [hRs]; exact Nat.le_of_ble_eq_true rfl⟩) hP hD hS hA [0, 1, 2] rfl (fun _ => rfl) ?_
  clear hP hD hS
  clear H locs
  intro v5 _u H locs hw hP hD hS
  subst hw
  refine lv_aload_n hx hb dL_law_2538 rfl (lv_at hl 1 rfl) ?_
  refine lv_aload_n hx hb dL_law_2539 rfl (lv_at hl 3 rfl) ?_
  refine lv_iload_n hx hb dL_law_2540 rfl (lv_at hl 0 rfl) ?_
  refine lv_iconst (v := 1) hx hb dL_law_2541 (by decide) ?_
  refine lv_iadd hx hb dL_law_2542 ?_
  refine lv_topi (fun v6 ev6 => ?_)
  obtain rfl : v6 = 1 := ev6.trans (by decide)
  refine va_sld hx hb hX hbl hbA hS (mm_in mm_k1 (by decide)) dL_law_2543 ?_
  refine lv_topi (fun v7 ev7 => ?_)
  obtain rfl : p1 = v7 := ep1.trans ev7.symm
  refine lv_aload_n hx hb dL_law_2544 rfl (lv_at hl 3 rfl) ?_
  refine lv_iload_n hx hb dL_law_2545 rfl (lv_at hl 0 rfl) ?_
  refine lv_iconst (v := 2) hx hb dL_law_2546 (by decide) ?_
  refine lv_iadd hx hb dL_law_2547 ?_
  refine lv_topi (fun v8 ev8 => ?_)
  obtain rfl : v8 = 2 := ev8.trans (by decide)
  refine va_sld hx hb hX hbl hbA hS (mm_in mm_k2 (by decide)) dL_law_2548 ?_
  refine lv_topi (fun v9 ev9 => ?_)
  obtain rfl : p2 = v9 := ep2.trans ev9.symm
  refine mm_finir (va_runV (As := [.int p1, .int p2]) (rest := [.int (-100000)]) ⟨hx, hb, hml, hown, hts⟩ (K249_X12_greedy l G cy H.size qm p1 p2 (um 0) (um 1) (um 2) (um 3) (um 4) 0 0 0 0 0 0 0 0 0 (-1) (um 5) (um 6) (um 7) (um 8) (um 9) (um 10) (um 11) (um 12) (um 13) (um 14) (um 15) (um 16) (um 17) 0 0 0 0 0 0 (um 18) 0 (um 19) ) (cwV 2 hts (mm_gV mm_w1485 mm_w1486 mm_w1487 mm_w5 mm_w1488) rfl rfl rfl hd_X12_greedy ⟨by rw [hRf]; exact Nat.le_of_ble_eq_true rfl, by rw [hRl]; exact Nat.le_of_ble_eq_true rfl⟩) (mm_preV hK hP hD [3, 4] rfl rfl 3 rfl rfl rfl) rfl rfl hl.1 rfl (lv_room (Nat.le_of_ble_eq_true rfl)) dL_law_2549 ⟨by rw [hRc]; exact Nat.le_of_ble_eq_true rfl, by rw [hRs]; exact Nat.le_of_ble_eq_true rfl⟩) hP hD hS hA [3, 4] rfl (fun _ => rfl) ?_
  clear hP hD hS
  clear H locs
  intro v10 _u H locs hw hP hD hS
  subst hw
  refine lv_icmp_eq (tgt := 3153) hx hb dL_law_2552 (by decide) (fun c11 => ?_) (fun c11 => ?_)
  · refine lv_iinc (v := 6) (lv' := [(3, .int 6), (2, .ref qm), (1, .ref qx), (0, .ref b)]) hx hb dL_law_3153 hl (k := 0) rfl (by decide) (by decide) rfl ?_
    clear hl
    clear ls
    intro ls hl
    refine lv_goto (tgt := 18) hx hb dL_law_3156 (by decide) ?_
    refine lv_iload_n hx hb dL_law_18 rfl (lv_at hl 0 rfl) ?_
    refine lv_aload_n hx hb dL_law_19 rfl (lv_at hl 3 rfl) ?_
    refine va_slen hx hb hX hbl hbA hS dL_law_20 ?_
    refine lv_topi (fun v12 ev12 => ?_)
    obtain rfl : v12 = 6 := ev12.trans (by decide)
    refine lv_bipush (v := 6) hx hb dL_law_21 (by decide) ?_
    refine lv_isub hx hb dL_law_23 ?_
    refine lv_topi (fun v13 ev13 => ?_)
    obtain rfl : v13 = 0 := ev13.trans (by decide)
    refine lv_icmp_gt (tgt := 3159) hx hb dL_law_24 (by decide) (fun c14 => ?_) (fun c14 => ?_)
    · refine lv_iconst (v := 1) hx hb dL_law_3159 (by decide) ?_
      refine va_forget (fun q hq => by have := hS.2.2 q hq; rw [hAe] at this; exact this) ?_
      refine W.widen (k := 600000) (n := 7302250) (Nat.le_of_ble_eq_true rfl) (Nat.le_of_ble_eq_true rfl) ?_
      exact lw_ret hx hb hr hlocks dL_law_3160
    · have q15 := mm_leL (mm_nlt c14) mm_k6 mm_k0
      exact mm_no q15 (by decide)
  · have q16 := mm_neL (lo := (-99999)) (mm_ne c11) mm_km100000 mm_km100000 (by decide) (by decide)
    exact mm_no q16 (by decide)

set_option maxHeartbeats 4000000 in
set_option maxRecDepth 100000 in
theorem lc_57 {p : Program} {e : Env} {s : State} {m : MethodId} {below : List Frame} {meth : Method} {c : Code} {b : Nat} {xs : Nat → Int32} {G : va_G} {cy : Nat → ClassId} {qx qm : Nat} {ux um : Nat → Nat} {H : Heap} {locs : List Loc} {ls : Array Slot} {A : Nat → Prop} (l : Launch) (hx : p.tables.exec = Jvm.exec) (hb : c.code = code) (hr : meth.sig.returnType = ret) (hlocks : meth.locks = false) (hml : c.maxLocals = 4) (hown : s.vm.findClass R_law = some m.cls) (hts : ∀ w ∈ lw_x :: wsL_law, w.before #[Value.ref b] s = true) (hX : va_X b 6 xs s s.heap) (hbl : b < s.heap.size) (hAe : A = fun q => s.heap.size ≤ q) (hK : mm_K G cy s) (hS : va_S A s.heap H locs) (hP : va_P G vwCl [(qx, .inr (11, [.ref (ux 0), .ref (ux 2), .ref (ux 14), .ref (ux 36), .ref (ux 70), .ref (ux 71), .ref (ux 80), .ref (ux 82), .ref (ux 84), .ref (ux 89), .ref (ux 92)])), ((ux 14), .inr (10, [.ref (ux 15), .ref (ux 26)])), ((ux 15), .inr (0, [.int 0, .int 0, .int 0, .int 0, .int 0, .int 0, .int 0, .int 0, .ref (ux 16), .ref (ux 17), .ref (ux 18), .ref (ux 19), .ref (ux 20), .ref (ux 21), .ref (ux 22), .ref (ux 23), .ref (ux 24), .ref (ux 25)])), (qm, .inr (12, [.int 0, .ref (um 0), .ref (um 1), .ref (um 2), .ref (um 3), .ref (um 4), .int 0, .int 0, .int 0, .int 0, .int 0, .long 0, .int 0, .int 0, .int 0, .int (-1), .ref (um 5), .ref (um 6), .ref (um 7), .ref (um 8), .ref (um 9), .ref (um 10), .ref (um 11), .ref (um 12), .ref (um 13), .ref (um 14), .ref (um 15), .ref (um 16), .ref (um 17), .int 0, .int 0, .int 0, .int 0, .int 0, .int 0, .ref (um 18), .int 0, .ref (um 19)])), ((um 6), .inl (cy 1, 30, .inl (fun _ => 0)))] H) (hD : va_D A [(qx, .inr (11, [.ref (ux 0), .ref (ux 2), .ref (ux 14), .ref (ux 36), .ref (ux 70), .ref (ux 71), .ref (ux 80), .ref (ux 82), .ref (ux 84), .ref (ux 89), .ref (ux 92)])), ((ux 14), .inr (10, [.ref (ux 15), .ref (ux 26)])), ((ux 15), .inr (0, [.int 0, .int 0, .int 0, .int 0, .int 0, .int 0, .int 0, .int 0, .ref (ux 16), .ref (ux 17), .ref (ux 18), .ref (ux 19), .ref (ux 20), .ref (ux 21), .ref (ux 22), .ref (ux 23), .ref (ux 24), .ref (ux 25)])), (qm, .inr (12, [.int 0, .ref (um 0), .ref (um 1), .ref (um 2), .ref (um 3), .ref (um 4), .int 0, .int 0, .int 0, .int 0, .int 0, .long 0, .int 0, .int 0, .int 0, .int (-1), .ref (um 5), .ref (um 6), .ref (um 7), .ref (um 8), .ref (um 9), .ref (um 10), .ref (um 11), .ref (um 12), .ref (um 13), .ref (um 14), .ref (um 15), .ref (um 16), .ref (um 17), .int 0, .int 0, .int 0, .int 0, .int 0, .int 0, .ref (um 18), .int 0, .ref (um 19)])), ((um 6), .inl (cy 1, 30, .inl (fun _ => 0)))]) (hl : lv_has ls 4 [(3, .int 0), (2, .ref qm), (1, .ref qx), (0, .ref b)]) : W p l e room_1 s m #[Value.ref b] below meth c H locs 116 20302 (lw_Z below #[Value.ref b] s) (F0 m 2557 ls []) := by
  have hA : ∀ q, s.heap.size ≤ q → A q := by rw [hAe]; exact fun _ h => h
  have hbA : ¬ A b := by rw [hAe]; exact Nat.not_le.mpr hbl
  have hRf : room_1.frames = 2048 := rfl
  have hRl : room_1.locals = 84000 := rfl
  have hRc : room_1.cells = 600000 := rfl
  have hRs : room_1.slots = 7302250 := rfl
  obtain ⟨p1, ep1⟩ : ∃ z : Int32, z = xs 1 := ⟨_, rfl⟩
  obtain ⟨p2, ep2⟩ : ∃ z : Int32, z = xs 2 := ⟨_, rfl⟩
  obtain ⟨p3, ep3⟩ : ∃ z : Int32, z = xs 3 := ⟨_, rfl⟩
  obtain ⟨p4, ep4⟩ : ∃ z : Int32, z = xs 4 := ⟨_, rfl⟩
  obtain ⟨p5, ep5⟩ : ∃ z : Int32, z = xs 5 := ⟨_, rfl⟩
  refine lv_aload_n hx hb dL_law_2557 rfl (lv_at hl 2 rfl) ?_
  refine lv_aload_n hx hb dL_law_2558 rfl (lv_at hl 3 rfl) ?_
  refine lv_iload_n hx hb dL_law_2559 rfl (lv_at hl 0 rfl) ?_
  refine lv_iconst (v := 1) hx hb dL_law_2560 (by decide) ?_
  refine lv_iadd hx hb dL_law_2561 ?_
  refine lv_topi (fun v1 ev1 => ?_)
  obtain rfl : v1 = 1 := ev1.trans (by decide)
  refine va_sld hx hb hX hbl hbA hS (mm_in mm_k1 (by decide)) dL_law_2562 ?_
  refine lv_topi (fun v2 ev2 => ?_)
  obtain rfl : p1 = v2 := ep1.trans ev2.symm
  refine lv_aload_n hx hb dL_law_2563 rfl (lv_at hl 3 rfl) ?_
  refine lv_iload_n hx hb dL_law_2564 rfl (lv_at hl 0 rfl) ?_
  refine lv_iconst (v := 2) hx hb dL_law_2565 (by decide) ?_
  refine lv_iadd hx hb dL_law_2566 ?_
  refine lv_topi (fun v3 ev3 => ?_)
  obtain rfl : v3 = 2 := ev3.trans (by decide)
  refine va_sld hx hb hX hbl hbA hS (mm_in mm_k2 (by decide)) dL_law_2567 ?_
  refine lv_topi (fun v4 ev4 => ?_)
  obtain rfl : p2 = v4 := ep2.trans ev4.symm
  refine lv_aload_n hx hb dL_law_2568 rfl (lv_at hl 3 rfl) ?_
  refine lv_iload_n hx hb dL_law_2569 rfl (lv_at hl 0 rfl) ?_
  refine lv_iconst (v := 3) hx hb dL_law_2570 (by decide) ?_
  refine lv_iadd hx hb dL_law_2571 ?_
  refine lv_topi (fun v5 ev5 => ?_)
  obtain rfl : v5 = 3 := ev5.trans (by decide)
  refine va_sld hx hb hX hbl hbA hS (mm_in mm_k3 (by decide)) dL_law_2572 ?_
  refine lv_topi (fun v6 ev6 => ?_)
  obtain rfl : p3 = v6 := ep3.trans ev6.symm
  refine lv_aload_n hx hb dL_law_2573 rfl (lv_at hl 3 rfl) ?_
  refine lv_iload_n hx hb dL_law_2574 rfl (lv_at hl 0 rfl) ?_
  refine lv_iconst (v := 4) hx hb dL_law_2575 (by decide) ?_
  refine lv_iadd hx hb dL_law_2576 ?_
  refine lv_topi (fun v7 ev7 => ?_)
  obtain rfl : v7 = 4 := ev7.trans (by decide)
  refine va_sld hx hb hX hbl hbA hS (mm_in mm_k4 (by decide)) dL_law_2577 ?_
  refine lv_topi (fun v8 ev8 => ?_)
  obtain rfl : p4 = v8 := ep4.trans ev8.symm
  refine lv_aload_n hx hb dL_law_2578 rfl (lv_at hl 3 rfl) ?_
  refine lv_iload_n hx hb dL_law_2579 rfl (lv_at hl 0 rfl) ?_
  refine lv_iconst (v := 5) hx hb dL_law_2580 (by decide) ?_
  refine lv_iadd hx hb dL_law_2581 ?_
  refine lv_topi (fun v9 ev9 => ?_)
  obtain rfl : v9 = 5 := ev9.trans (by decide)
  refine va_sld hx hb hX hbl hbA hS (mm_in mm_k5 (by decide)) dL_law_2582 ?_
  refine lv_topi (fun v10 ev10 => ?_)
  obtain rfl : p5 = v10 := ep5.trans ev10.symm
  refine mm_finir (va_runV (As := [.int p1, .int p2, .int p3, .int p4, .int p5]) (rest := []) ⟨hx, hb, hml, hown, hts⟩ (K250_X11_chance l G cy H.size qx p1 p2 p3 p4 p5 (ux 0) (ux 2) (ux 14) (ux 36) (ux 70) (ux 71) (ux 80) (ux 82) (ux 84) (ux 89) (ux 92) (ux 15) (ux 26) 0 0 0 0 0 0 0 (ux 16) (ux 17) (ux 18) (ux 19) (ux 20) (ux 21) (ux 22) (ux 23) (ux 24) (ux 25) ) (cwV 5 hts (mm_gV mm_w1489 mm_w1490 mm_w1491 mm_w2 mm_w1492) rfl rfl rfl hd_X11_chance ⟨by rw [hRf]; exact Nat.le_of_ble_eq_true rfl, by rw [hRl]; exact Nat.le_of_ble_eq_true rfl⟩) (mm_preV hK hP hD [0, 1, 2] rfl rfl 0 rfl rfl rfl) rfl rfl hl.1 rfl (lv_room (Nat.le_of_ble_eq_true rfl)) dL_law_2583 ⟨by rw [hRc]; exact Nat.le_of_ble_eq_true rfl, by rw [hRs]; exact Nat.le_of_ble_eq_true rfl⟩) hP hD hS hA [0, 1, 2] rfl (fun _ => rfl) ?_
  clear hP hD hS
  clear H locs
  intro v11 _u H locs hw hP hD hS
  subst hw
  refine lv_aload_n hx hb dL_law_2586 rfl (lv_at hl 1 rfl) ?_
  refine lv_aload_n hx hb dL_law_2587 rfl (lv_at hl 3 rfl) ?_
  refine lv_iload_n hx hb dL_law_2588 rfl (lv_at hl 0 rfl) ?_
  refine lv_iconst (v := 1) hx hb dL_law_2589 (by decide) ?_
  refine lv_iadd hx hb dL_law_2590 ?_
  refine lv_topi (fun v12 ev12 => ?_)
  obtain rfl : v12 = 1 := ev12.trans (by decide)
  refine va_sld hx hb hX hbl hbA hS (mm_in mm_k1 (by decide)) dL_law_2591 ?_
  refine lv_topi (fun v13 ev13 => ?_)
  obtain rfl : p1 = v13 := ep1.trans ev13.symm
  refine lv_aload_n hx hb dL_law_2592 rfl (lv_at hl 3 rfl) ?_
  refine lv_iload_n hx hb dL_law_2593 rfl (lv_at hl 0 rfl) ?_
  refine lv_iconst (v := 2) hx hb dL_law_2594 (by decide) ?_
  refine lv_iadd hx hb dL_law_2595 ?_
  refine lv_topi (fun v14 ev14 => ?_)
  obtain rfl : v14 = 2 := ev14.trans (by decide)
  refine va_sld hx hb hX hbl hbA hS (mm_in mm_k2 (by decide)) dL_law_2596 ?_
  refine lv_topi (fun v15 ev15 => ?_)
  obtain rfl : p2 = v15 := ep2.trans ev15.symm
  refine lv_aload_n hx hb dL_law_2597 rfl (lv_at hl 3 rfl) ?_
  refine lv_iload_n hx hb dL_law_2598 rfl (lv_at hl 0 rfl) ?_
  refine lv_iconst (v := 3) hx hb dL_law_2599 (by decide) ?_
  refine lv_iadd hx hb dL_law_2600 ?_
  refine lv_topi (fun v16 ev16 => ?_)
  obtain rfl : v16 = 3 := ev16.trans (by decide)
  refine va_sld hx hb hX hbl hbA hS (mm_in mm_k3 (by decide)) dL_law_2601 ?_
  refine lv_topi (fun v17 ev17 => ?_)
  obtain rfl : p3 = v17 := ep3.trans ev17.symm
  refine lv_aload_n hx hb dL_law_2602 rfl (lv_at hl 3 rfl) ?_
  refine lv_iload_n hx hb dL_law_2603 rfl (lv_at hl 0 rfl) ?_
  refine lv_iconst (v := 4) hx hb dL_law_2604 (by decide) ?_
  refine lv_iadd hx hb dL_law_2605 ?_
  refine lv_topi (fun v18 ev18 => ?_)
  obtain rfl : v18 = 4 := ev18.trans (by decide)
  refine va_sld hx hb hX hbl hbA hS (mm_in mm_k4 (by decide)) dL_law_2606 ?_
  refine lv_topi (fun v19 ev19 => ?_)
  obtain rfl : p4 = v19 := ep4.trans ev19.symm
  refine lv_aload_n hx hb dL_law_2607 rfl (lv_at hl 3 rfl) ?_
  refine lv_iload_n hx hb dL_law_2608 rfl (lv_at hl 0 rfl) ?_
  refine lv_iconst (v := 5) hx hb dL_law_2609 (by decide) ?_
  refine lv_iadd hx hb dL_law_2610 ?_
  refine lv_topi (fun v20 ev20 => ?_)
  obtain rfl : v20 = 5 := ev20.trans (by decide)
  refine va_sld hx hb hX hbl hbA hS (mm_in mm_k5 (by decide)) dL_law_2611 ?_
  refine lv_topi (fun v21 ev21 => ?_)
  obtain rfl : p5 = v21 := ep5.trans ev21.symm
  refine mm_finir (va_runV (As := [.int p1, .int p2, .int p3, .int p4, .int p5]) (rest := [.int (-2)]) ⟨hx, hb, hml, hown, hts⟩ (K252_X12_chance l G cy H.size qm p1 p2 p3 p4 p5 (um 0) (um 1) (um 2) (um 3) (um 4) 0 0 0 0 0 0 0 0 0 (-1) (um 5) (um 6) (um 7) (um 8) (um 9) (um 10) (um 11) (um 12) (um 13) (um 14) (um 15) (um 16) (um 17) 0 0 0 0 0 0 (um 18) 0 (um 19) ) (cwV 5 hts (mm_gV mm_w1507 mm_w1508 mm_w1509 mm_w5 mm_w1510) rfl rfl rfl hd_X12_chance ⟨by rw [hRf]; exact Nat.le_of_ble_eq_true rfl, by rw [hRl]; exact Nat.le_of_ble_eq_true rfl⟩) (mm_preV hK hP hD [3, 4] rfl rfl 3 rfl rfl rfl) rfl rfl hl.1 rfl (lv_room (Nat.le_of_ble_eq_true rfl)) dL_law_2612 ⟨by rw [hRc]; exact Nat.le_of_ble_eq_true rfl, by rw [hRs]; exact Nat.le_of_ble_eq_true rfl⟩) hP hD hS hA [3, 4] rfl (fun _ => rfl) ?_
  clear hP hD hS
  clear H locs
  intro v22 _u H locs hw hP hD hS
  subst hw
  refine lv_icmp_eq (tgt := 3153) hx hb dL_law_2615 (by decide) (fun c23 => ?_) (fun c23 => ?_)
  · refine lv_iinc (v := 6) (lv' := [(3, .int 6), (2, .ref qm), (1, .ref qx), (0, .ref b)]) hx hb dL_law_3153 hl (k := 0) rfl (by decide) (by decide) rfl ?_
    clear hl
    clear ls
    intro ls hl
    refine lv_goto (tgt := 18) hx hb dL_law_3156 (by decide) ?_
    refine lv_iload_n hx hb dL_law_18 rfl (lv_at hl 0 rfl) ?_
    refine lv_aload_n hx hb dL_law_19 rfl (lv_at hl 3 rfl) ?_
    refine va_slen hx hb hX hbl hbA hS dL_law_20 ?_
    refine lv_topi (fun v24 ev24 => ?_)
    obtain rfl : v24 = 6 := ev24.trans (by decide)
    refine lv_bipush (v := 6) hx hb dL_law_21 (by decide) ?_
    refine lv_isub hx hb dL_law_23 ?_
    refine lv_topi (fun v25 ev25 => ?_)
    obtain rfl : v25 = 0 := ev25.trans (by decide)
    refine lv_icmp_gt (tgt := 3159) hx hb dL_law_24 (by decide) (fun c26 => ?_) (fun c26 => ?_)
    · refine lv_iconst (v := 1) hx hb dL_law_3159 (by decide) ?_
      refine va_forget (fun q hq => by have := hS.2.2 q hq; rw [hAe] at this; exact this) ?_
      refine W.widen (k := 600000) (n := 7302250) (Nat.le_of_ble_eq_true rfl) (Nat.le_of_ble_eq_true rfl) ?_
      exact lw_ret hx hb hr hlocks dL_law_3160
    · have q27 := mm_leL (mm_nlt c26) mm_k6 mm_k0
      exact mm_no q27 (by decide)
  · have q28 := mm_neL (lo := (-1)) (mm_ne c23) mm_km2 mm_km2 (by decide) (by decide)
    exact mm_no q28 (by decide)

set_option maxHeartbeats 4000000 in
set_option maxRecDepth 100000 in
theorem lc_58 {p : Program} {e : Env} {s : State} {m : MethodId} {below : List Frame} {meth : Method} {c : Code} {b : Nat} {xs : Nat → Int32} {G : va_G} {cy : Nat → ClassId} {qx qm : Nat} {ux um : Nat → Nat} {H : Heap} {locs : List Loc} {ls : Array Slot} {A : Nat → Prop} (l : Launch) (hx : p.tables.exec = Jvm.exec) (hb : c.code = code) (hr : meth.sig.returnType = ret) (hlocks : meth.locks = false) (hml : c.maxLocals = 4) (hown : s.vm.findClass R_law = some m.cls) (hts : ∀ w ∈ lw_x :: wsL_law, w.before #[Value.ref b] s = true) (hX : va_X b 6 xs s s.heap) (hbl : b < s.heap.size) (hAe : A = fun q => s.heap.size ≤ q) (hK : mm_K G cy s) (hS : va_S A s.heap H locs) (hP : va_P G vwCl [(qx, .inr (11, [.ref (ux 0), .ref (ux 2), .ref (ux 14), .ref (ux 36), .ref (ux 70), .ref (ux 71), .ref (ux 80), .ref (ux 82), .ref (ux 84), .ref (ux 89), .ref (ux 92)])), ((ux 14), .inr (10, [.ref (ux 15), .ref (ux 26)])), ((ux 15), .inr (0, [.int 0, .int 0, .int 0, .int 0, .int 0, .int 0, .int 0, .int 0, .ref (ux 16), .ref (ux 17), .ref (ux 18), .ref (ux 19), .ref (ux 20), .ref (ux 21), .ref (ux 22), .ref (ux 23), .ref (ux 24), .ref (ux 25)])), (qm, .inr (12, [.int 0, .ref (um 0), .ref (um 1), .ref (um 2), .ref (um 3), .ref (um 4), .int 0, .int 0, .int 0, .int 0, .int 0, .long 0, .int 0, .int 0, .int 0, .int (-1), .ref (um 5), .ref (um 6), .ref (um 7), .ref (um 8), .ref (um 9), .ref (um 10), .ref (um 11), .ref (um 12), .ref (um 13), .ref (um 14), .ref (um 15), .ref (um 16), .ref (um 17), .int 0, .int 0, .int 0, .int 0, .int 0, .int 0, .ref (um 18), .int 0, .ref (um 19)])), ((um 6), .inl (cy 1, 30, .inl (fun _ => 0)))] H) (hD : va_D A [(qx, .inr (11, [.ref (ux 0), .ref (ux 2), .ref (ux 14), .ref (ux 36), .ref (ux 70), .ref (ux 71), .ref (ux 80), .ref (ux 82), .ref (ux 84), .ref (ux 89), .ref (ux 92)])), ((ux 14), .inr (10, [.ref (ux 15), .ref (ux 26)])), ((ux 15), .inr (0, [.int 0, .int 0, .int 0, .int 0, .int 0, .int 0, .int 0, .int 0, .ref (ux 16), .ref (ux 17), .ref (ux 18), .ref (ux 19), .ref (ux 20), .ref (ux 21), .ref (ux 22), .ref (ux 23), .ref (ux 24), .ref (ux 25)])), (qm, .inr (12, [.int 0, .ref (um 0), .ref (um 1), .ref (um 2), .ref (um 3), .ref (um 4), .int 0, .int 0, .int 0, .int 0, .int 0, .long 0, .int 0, .int 0, .int 0, .int (-1), .ref (um 5), .ref (um 6), .ref (um 7), .ref (um 8), .ref (um 9), .ref (um 10), .ref (um 11), .ref (um 12), .ref (um 13), .ref (um 14), .ref (um 15), .ref (um 16), .ref (um 17), .int 0, .int 0, .int 0, .int 0, .int 0, .int 0, .ref (um 18), .int 0, .ref (um 19)])), ((um 6), .inl (cy 1, 30, .inl (fun _ => 0)))]) (hl : lv_has ls 4 [(3, .int 0), (2, .ref qm), (1, .ref qx), (0, .ref b)]) : W p l e room_1 s m #[Value.ref b] below meth c H locs 116 20302 (lw_Z below #[Value.ref b] s) (F0 m 2620 ls []) := by
  have hA : ∀ q, s.heap.size ≤ q → A q := by rw [hAe]; exact fun _ h => h
  have hbA : ¬ A b := by rw [hAe]; exact Nat.not_le.mpr hbl
  have hRf : room_1.frames = 2048 := rfl
  have hRl : room_1.locals = 84000 := rfl
  have hRc : room_1.cells = 600000 := rfl
  have hRs : room_1.slots = 7302250 := rfl
  obtain ⟨p1, ep1⟩ : ∃ z : Int32, z = xs 1 := ⟨_, rfl⟩
  obtain ⟨p2, ep2⟩ : ∃ z : Int32, z = xs 2 := ⟨_, rfl⟩
  obtain ⟨p3, ep3⟩ : ∃ z : Int32, z = xs 3 := ⟨_, rfl⟩
  obtain ⟨p4, ep4⟩ : ∃ z : Int32, z = xs 4 := ⟨_, rfl⟩
  obtain ⟨p5, ep5⟩ : ∃ z : Int32, z = xs 5 := ⟨_, rfl⟩
  refine lv_aload_n hx hb dL_law_2620 rfl (lv_at hl 2 rfl) ?_
  refine lv_aload_n hx hb dL_law_2621 rfl (lv_at hl 3 rfl) ?_
  refine lv_iload_n hx hb dL_law_2622 rfl (lv_at hl 0 rfl) ?_
  refine lv_iconst (v := 1) hx hb dL_law_2623 (by decide) ?_
  refine lv_iadd hx hb dL_law_2624 ?_
  refine lv_topi (fun v1 ev1 => ?_)
  obtain rfl : v1 = 1 := ev1.trans (by decide)
  refine va_sld hx hb hX hbl hbA hS (mm_in mm_k1 (by decide)) dL_law_2625 ?_
  refine lv_topi (fun v2 ev2 => ?_)
  obtain rfl : p1 = v2 := ep1.trans ev2.symm
  refine lv_aload_n hx hb dL_law_2626 rfl (lv_at hl 3 rfl) ?_
  refine lv_iload_n hx hb dL_law_2627 rfl (lv_at hl 0 rfl) ?_
  refine lv_iconst (v := 2) hx hb dL_law_2628 (by decide) ?_
  refine lv_iadd hx hb dL_law_2629 ?_
  refine lv_topi (fun v3 ev3 => ?_)
  obtain rfl : v3 = 2 := ev3.trans (by decide)
  refine va_sld hx hb hX hbl hbA hS (mm_in mm_k2 (by decide)) dL_law_2630 ?_
  refine lv_topi (fun v4 ev4 => ?_)
  obtain rfl : p2 = v4 := ep2.trans ev4.symm
  refine lv_aload_n hx hb dL_law_2631 rfl (lv_at hl 3 rfl) ?_
  refine lv_iload_n hx hb dL_law_2632 rfl (lv_at hl 0 rfl) ?_
  refine lv_iconst (v := 3) hx hb dL_law_2633 (by decide) ?_
  refine lv_iadd hx hb dL_law_2634 ?_
  refine lv_topi (fun v5 ev5 => ?_)
  obtain rfl : v5 = 3 := ev5.trans (by decide)
  refine va_sld hx hb hX hbl hbA hS (mm_in mm_k3 (by decide)) dL_law_2635 ?_
  refine lv_topi (fun v6 ev6 => ?_)
  obtain rfl : p3 = v6 := ep3.trans ev6.symm
  refine lv_aload_n hx hb dL_law_2636 rfl (lv_at hl 3 rfl) ?_
  refine lv_iload_n hx hb dL_law_2637 rfl (lv_at hl 0 rfl) ?_
  refine lv_iconst (v := 4) hx hb dL_law_2638 (by decide) ?_
  refine lv_iadd hx hb dL_law_2639 ?_
  refine lv_topi (fun v7 ev7 => ?_)
  obtain rfl : v7 = 4 := ev7.trans (by decide)
  refine va_sld hx hb hX hbl hbA hS (mm_in mm_k4 (by decide)) dL_law_2640 ?_
  refine lv_topi (fun v8 ev8 => ?_)
  obtain rfl : p4 = v8 := ep4.trans ev8.symm
  refine lv_aload_n hx hb dL_law_2641 rfl (lv_at hl 3 rfl) ?_
  refine lv_iload_n hx hb dL_law_2642 rfl (lv_at hl 0 rfl) ?_
  refine lv_iconst (v := 5) hx hb dL_law_2643 (by decide) ?_
  refine lv_iadd hx hb dL_law_2644 ?_
  refine lv_topi (fun v9 ev9 => ?_)
  obtain rfl : v9 = 5 := ev9.trans (by decide)
  refine va_sld hx hb hX hbl hbA hS (mm_in mm_k5 (by decide)) dL_law_2645 ?_
  refine lv_topi (fun v10 ev10 => ?_)
  obtain rfl : p5 = v10 := ep5.trans ev10.symm
  refine mm_finlr (va_runV (As := [.int p1, .int p2, .int p3, .int p4, .int p5]) (rest := []) ⟨hx, hb, hml, hown, hts⟩ (K254_X11_mean l G cy H.size qx p1 p2 p3 p4 p5 (ux 0) (ux 2) (ux 14) (ux 36) (ux 70) (ux 71) (ux 80) (ux 82) (ux 84) (ux 89) (ux 92) (ux 15) (ux 26) 0 0 0 0 0 0 0 (ux 16) (ux 17) (ux 18) (ux 19) (ux 20) (ux 21) (ux 22) (ux 23) (ux 24) (ux 25) ) (cwV 5 hts (mm_gV mm_w1526 mm_w1527 mm_w1528 mm_w2 mm_w1529) rfl rfl rfl hd_X11_mean ⟨by rw [hRf]; exact Nat.le_of_ble_eq_true rfl, by rw [hRl]; exact Nat.le_of_ble_eq_true rfl⟩) (mm_preV hK hP hD [0, 1, 2] rfl rfl 0 rfl rfl rfl) rfl rfl hl.1 rfl (lv_room (Nat.le_of_ble_eq_true rfl)) dL_law_2646 ⟨by rw [hRc]; exact Nat.le_of_ble_eq_true rfl, by rw [hRs]; exact Nat.le_of_ble_eq_true rfl⟩) hP hD hS hA [0, 1, 2] rfl (fun _ => rfl) ?_
  clear hP hD hS
  clear H locs
  intro v11 _u H locs hw hP hD hS
  subst hw
  refine lv_aload_n hx hb dL_law_2649 rfl (lv_at hl 1 rfl) ?_
  refine lv_aload_n hx hb dL_law_2650 rfl (lv_at hl 3 rfl) ?_
  refine lv_iload_n hx hb dL_law_2651 rfl (lv_at hl 0 rfl) ?_
  refine lv_iconst (v := 1) hx hb dL_law_2652 (by decide) ?_
  refine lv_iadd hx hb dL_law_2653 ?_
  refine lv_topi (fun v12 ev12 => ?_)
  obtain rfl : v12 = 1 := ev12.trans (by decide)
  refine va_sld hx hb hX hbl hbA hS (mm_in mm_k1 (by decide)) dL_law_2654 ?_
  refine lv_topi (fun v13 ev13 => ?_)
  obtain rfl : p1 = v13 := ep1.trans ev13.symm
  refine lv_aload_n hx hb dL_law_2655 rfl (lv_at hl 3 rfl) ?_
  refine lv_iload_n hx hb dL_law_2656 rfl (lv_at hl 0 rfl) ?_
  refine lv_iconst (v := 2) hx hb dL_law_2657 (by decide) ?_
  refine lv_iadd hx hb dL_law_2658 ?_
  refine lv_topi (fun v14 ev14 => ?_)
  obtain rfl : v14 = 2 := ev14.trans (by decide)
  refine va_sld hx hb hX hbl hbA hS (mm_in mm_k2 (by decide)) dL_law_2659 ?_
  refine lv_topi (fun v15 ev15 => ?_)
  obtain rfl : p2 = v15 := ep2.trans ev15.symm
  refine lv_aload_n hx hb dL_law_2660 rfl (lv_at hl 3 rfl) ?_
  refine lv_iload_n hx hb dL_law_2661 rfl (lv_at hl 0 rfl) ?_
  refine lv_iconst (v := 3) hx hb dL_law_2662 (by decide) ?_
  refine lv_iadd hx hb dL_law_2663 ?_
  refine lv_topi (fun v16 ev16 => ?_)
  obtain rfl : v16 = 3 := ev16.trans (by decide)
  refine va_sld hx hb hX hbl hbA hS (mm_in mm_k3 (by decide)) dL_law_2664 ?_
  refine lv_topi (fun v17 ev17 => ?_)
  obtain rfl : p3 = v17 := ep3.trans ev17.symm
  refine lv_aload_n hx hb dL_law_2665 rfl (lv_at hl 3 rfl) ?_
  refine lv_iload_n hx hb dL_law_2666 rfl (lv_at hl 0 rfl) ?_
  refine lv_iconst (v := 4) hx hb dL_law_2667 (by decide) ?_
  refine lv_iadd hx hb dL_law_2668 ?_
  refine lv_topi (fun v18 ev18 => ?_)
  obtain rfl : v18 = 4 := ev18.trans (by decide)
  refine va_sld hx hb hX hbl hbA hS (mm_in mm_k4 (by decide)) dL_law_2669 ?_
  refine lv_topi (fun v19 ev19 => ?_)
  obtain rfl : p4 = v19 := ep4.trans ev19.symm
  refine lv_aload_n hx hb dL_law_2670 rfl (lv_at hl 3 rfl) ?_
  refine lv_iload_n hx hb dL_law_2671 rfl (lv_at hl 0 rfl) ?_
  refine lv_iconst (v := 5) hx hb dL_law_2672 (by decide) ?_
  refine lv_iadd hx hb dL_law_2673 ?_
  refine lv_topi (fun v20 ev20 => ?_)
  obtain rfl : v20 = 5 := ev20.trans (by decide)
  refine va_sld hx hb hX hbl hbA hS (mm_in mm_k5 (by decide)) dL_law_2674 ?_
  refine lv_topi (fun v21 ev21 => ?_)
  obtain rfl : p5 = v21 := ep5.trans ev21.symm
  refine mm_finlr (va_runV (As := [.int p1, .int p2, .int p3, .int p4, .int p5]) (rest := [.long (-2)]) ⟨hx, hb, hml, hown, hts⟩ (K255_X12_mean l G cy H.size qm p1 p2 p3 p4 p5 (um 0) (um 1) (um 2) (um 3) (um 4) 0 0 0 0 0 0 0 0 0 (-1) (um 5) (um 6) (um 7) (um 8) (um 9) (um 10) (um 11) (um 12) (um 13) (um 14) (um 15) (um 16) (um 17) 0 0 0 0 0 0 (um 18) 0 (um 19) ) (cwV 5 hts (mm_gV mm_w1531 mm_w1532 mm_w1533 mm_w5 mm_w1534) rfl rfl rfl hd_X12_mean ⟨by rw [hRf]; exact Nat.le_of_ble_eq_true rfl, by rw [hRl]; exact Nat.le_of_ble_eq_true rfl⟩) (mm_preV hK hP hD [3, 4] rfl rfl 3 rfl rfl rfl) rfl rfl hl.1 rfl (lv_room (Nat.le_of_ble_eq_true rfl)) dL_law_2675 ⟨by rw [hRc]; exact Nat.le_of_ble_eq_true rfl, by rw [hRs]; exact Nat.le_of_ble_eq_true rfl⟩) hP hD hS hA [3, 4] rfl (fun _ => rfl) ?_
  clear hP hD hS
  clear H locs
  intro v22 _u H locs hw hP hD hS
  subst hw
  refine W.lcmp hx hb dL_law_2678 ?_
  refine lv_topi (fun v23 ev23 => ?_)
  refine lv_if_eq (tgt := 3153) hx hb dL_law_2679 (by decide) (fun c24 => ?_) (fun c24 => ?_)
  · refine lv_iinc (v := 6) (lv' := [(3, .int 6), (2, .ref qm), (1, .ref qx), (0, .ref b)]) hx hb dL_law_3153 hl (k := 0) rfl (by decide) (by decide) rfl ?_
    clear hl
    clear ls
    intro ls hl
    refine lv_goto (tgt := 18) hx hb dL_law_3156 (by decide) ?_
    refine lv_iload_n hx hb dL_law_18 rfl (lv_at hl 0 rfl) ?_
    refine lv_aload_n hx hb dL_law_19 rfl (lv_at hl 3 rfl) ?_
    refine va_slen hx hb hX hbl hbA hS dL_law_20 ?_
    refine lv_topi (fun v25 ev25 => ?_)
    obtain rfl : v25 = 6 := ev25.trans (by decide)
    refine lv_bipush (v := 6) hx hb dL_law_21 (by decide) ?_
    refine lv_isub hx hb dL_law_23 ?_
    refine lv_topi (fun v26 ev26 => ?_)
    obtain rfl : v26 = 0 := ev26.trans (by decide)
    refine lv_icmp_gt (tgt := 3159) hx hb dL_law_24 (by decide) (fun c27 => ?_) (fun c27 => ?_)
    · refine lv_iconst (v := 1) hx hb dL_law_3159 (by decide) ?_
      refine va_forget (fun q hq => by have := hS.2.2 q hq; rw [hAe] at this; exact this) ?_
      refine W.widen (k := 600000) (n := 7302250) (Nat.le_of_ble_eq_true rfl) (Nat.le_of_ble_eq_true rfl) ?_
      exact lw_ret hx hb hr hlocks dL_law_3160
    · have q28 := mm_leL (mm_nlt c27) mm_k6 mm_k0
      exact mm_no q28 (by decide)
  · have q29 := mm_neLl (lo := (-1)) (mm_cmp_ne ev23 c24) mm_klm2 mm_klm2 (by decide) (by decide)
    exact mm_nol q29 (by decide)

set_option maxHeartbeats 4000000 in
set_option maxRecDepth 100000 in
theorem lc_59 {p : Program} {e : Env} {s : State} {m : MethodId} {below : List Frame} {meth : Method} {c : Code} {b : Nat} {xs : Nat → Int32} {G : va_G} {cy : Nat → ClassId} {qx qm : Nat} {ux um : Nat → Nat} {H : Heap} {locs : List Loc} {ls : Array Slot} {A : Nat → Prop} (l : Launch) (hx : p.tables.exec = Jvm.exec) (hb : c.code = code) (hr : meth.sig.returnType = ret) (hlocks : meth.locks = false) (hml : c.maxLocals = 4) (hown : s.vm.findClass R_law = some m.cls) (hts : ∀ w ∈ lw_x :: wsL_law, w.before #[Value.ref b] s = true) (hX : va_X b 6 xs s s.heap) (hbl : b < s.heap.size) (hAe : A = fun q => s.heap.size ≤ q) (hK : mm_K G cy s) (hS : va_S A s.heap H locs) (hP : va_P G vwCl [(qx, .inr (11, [.ref (ux 0), .ref (ux 2), .ref (ux 14), .ref (ux 36), .ref (ux 70), .ref (ux 71), .ref (ux 80), .ref (ux 82), .ref (ux 84), .ref (ux 89), .ref (ux 92)])), ((ux 14), .inr (10, [.ref (ux 15), .ref (ux 26)])), ((ux 15), .inr (0, [.int 0, .int 0, .int 0, .int 0, .int 0, .int 0, .int 0, .int 0, .ref (ux 16), .ref (ux 17), .ref (ux 18), .ref (ux 19), .ref (ux 20), .ref (ux 21), .ref (ux 22), .ref (ux 23), .ref (ux 24), .ref (ux 25)])), (qm, .inr (12, [.int 0, .ref (um 0), .ref (um 1), .ref (um 2), .ref (um 3), .ref (um 4), .int 0, .int 0, .int 0, .int 0, .int 0, .long 0, .int 0, .int 0, .int 0, .int (-1), .ref (um 5), .ref (um 6), .ref (um 7), .ref (um 8), .ref (um 9), .ref (um 10), .ref (um 11), .ref (um 12), .ref (um 13), .ref (um 14), .ref (um 15), .ref (um 16), .ref (um 17), .int 0, .int 0, .int 0, .int 0, .int 0, .int 0, .ref (um 18), .int 0, .ref (um 19)])), ((um 6), .inl (cy 1, 30, .inl (fun _ => 0)))] H) (hD : va_D A [(qx, .inr (11, [.ref (ux 0), .ref (ux 2), .ref (ux 14), .ref (ux 36), .ref (ux 70), .ref (ux 71), .ref (ux 80), .ref (ux 82), .ref (ux 84), .ref (ux 89), .ref (ux 92)])), ((ux 14), .inr (10, [.ref (ux 15), .ref (ux 26)])), ((ux 15), .inr (0, [.int 0, .int 0, .int 0, .int 0, .int 0, .int 0, .int 0, .int 0, .ref (ux 16), .ref (ux 17), .ref (ux 18), .ref (ux 19), .ref (ux 20), .ref (ux 21), .ref (ux 22), .ref (ux 23), .ref (ux 24), .ref (ux 25)])), (qm, .inr (12, [.int 0, .ref (um 0), .ref (um 1), .ref (um 2), .ref (um 3), .ref (um 4), .int 0, .int 0, .int 0, .int 0, .int 0, .long 0, .int 0, .int 0, .int 0, .int (-1), .ref (um 5), .ref (um 6), .ref (um 7), .ref (um 8), .ref (um 9), .ref (um 10), .ref (um 11), .ref (um 12), .ref (um 13), .ref (um 14), .ref (um 15), .ref (um 16), .ref (um 17), .int 0, .int 0, .int 0, .int 0, .int 0, .int 0, .ref (um 18), .int 0, .ref (um 19)])), ((um 6), .inl (cy 1, 30, .inl (fun _ => 0)))]) (hl : lv_has ls 4 [(3, .int 0), (2, .ref qm), (1, .ref qx), (0, .ref b)]) : W p l e room_1 s m #[Value.ref b] below meth c H locs 116 20302 (lw_Z below #[Value.ref b] s) (F0 m 2684 ls []) := by
  have hA : ∀ q, s.heap.size ≤ q → A q := by rw [hAe]; exact fun _ h => h
  have hbA : ¬ A b := by rw [hAe]; exact Nat.not_le.mpr hbl
  have hRf : room_1.frames = 2048 := rfl
  have hRl : room_1.locals = 84000 := rfl
  have hRc : room_1.cells = 600000 := rfl
  have hRs : room_1.slots = 7302250 := rfl
  obtain ⟨p1, ep1⟩ : ∃ z : Int32, z = xs 1 := ⟨_, rfl⟩
  obtain ⟨p2, ep2⟩ : ∃ z : Int32, z = xs 2 := ⟨_, rfl⟩
  obtain ⟨p3, ep3⟩ : ∃ z : Int32, z = xs 3 := ⟨_, rfl⟩
  obtain ⟨p4, ep4⟩ : ∃ z : Int32, z = xs 4 := ⟨_, rfl⟩
  obtain ⟨p5, ep5⟩ : ∃ z : Int32, z = xs 5 := ⟨_, rfl⟩
  refine lv_aload_n hx hb dL_law_2684 rfl (lv_at hl 2 rfl) ?_
  refine lv_aload_n hx hb dL_law_2685 rfl (lv_at hl 3 rfl) ?_
  refine lv_iload_n hx hb dL_law_2686 rfl (lv_at hl 0 rfl) ?_
  refine lv_iconst (v := 1) hx hb dL_law_2687 (by decide) ?_
  refine lv_iadd hx hb dL_law_2688 ?_
  refine lv_topi (fun v1 ev1 => ?_)
  obtain rfl : v1 = 1 := ev1.trans (by decide)
  refine va_sld hx hb hX hbl hbA hS (mm_in mm_k1 (by decide)) dL_law_2689 ?_
  refine lv_topi (fun v2 ev2 => ?_)
  obtain rfl : p1 = v2 := ep1.trans ev2.symm
  refine lv_aload_n hx hb dL_law_2690 rfl (lv_at hl 3 rfl) ?_
  refine lv_iload_n hx hb dL_law_2691 rfl (lv_at hl 0 rfl) ?_
  refine lv_iconst (v := 2) hx hb dL_law_2692 (by decide) ?_
  refine lv_iadd hx hb dL_law_2693 ?_
  refine lv_topi (fun v3 ev3 => ?_)
  obtain rfl : v3 = 2 := ev3.trans (by decide)
  refine va_sld hx hb hX hbl hbA hS (mm_in mm_k2 (by decide)) dL_law_2694 ?_
  refine lv_topi (fun v4 ev4 => ?_)
  obtain rfl : p2 = v4 := ep2.trans ev4.symm
  refine lv_aload_n hx hb dL_law_2695 rfl (lv_at hl 3 rfl) ?_
  refine lv_iload_n hx hb dL_law_2696 rfl (lv_at hl 0 rfl) ?_
  refine lv_iconst (v := 3) hx hb dL_law_2697 (by decide) ?_
  refine lv_iadd hx hb dL_law_2698 ?_
  refine lv_topi (fun v5 ev5 => ?_)
  obtain rfl : v5 = 3 := ev5.trans (by decide)
  refine va_sld hx hb hX hbl hbA hS (mm_in mm_k3 (by decide)) dL_law_2699 ?_
  refine lv_topi (fun v6 ev6 => ?_)
  obtain rfl : p3 = v6 := ep3.trans ev6.symm
  refine mm_finir (va_runV (As := [.int p1, .int p2, .int p3]) (rest := []) ⟨hx, hb, hml, hown, hts⟩ (K256_X11_swaps l G cy H.size qx p1 p2 p3 (ux 0) (ux 2) (ux 14) (ux 36) (ux 70) (ux 71) (ux 80) (ux 82) (ux 84) (ux 89) (ux 92) (ux 15) (ux 26) 0 0 0 0 0 0 0 (ux 16) (ux 17) (ux 18) (ux 19) (ux 20) (ux 21) (ux 22) (ux 23) (ux 24) (ux 25) ) (cwV 3 hts (mm_gV mm_w1536 mm_w1537 mm_w1538 mm_w2 mm_w1539) rfl rfl rfl hd_X11_swaps ⟨by rw [hRf]; exact Nat.le_of_ble_eq_true rfl, by rw [hRl]; exact Nat.le_of_ble_eq_true rfl⟩) (mm_preV hK hP hD [0, 1, 2] rfl rfl 0 rfl rfl rfl) rfl rfl hl.1 rfl (lv_room (Nat.le_of_ble_eq_true rfl)) dL_law_2700 ⟨by rw [hRc]; exact Nat.le_of_ble_eq_true rfl, by rw [hRs]; exact Nat.le_of_ble_eq_true rfl⟩) hP hD hS hA [0, 1, 2] rfl (fun _ => rfl) ?_
  clear hP hD hS
  clear H locs
  intro v7 _u H locs hw hP hD hS
  subst hw
  refine lv_aload_n hx hb dL_law_2703 rfl (lv_at hl 1 rfl) ?_
  refine lv_aload_n hx hb dL_law_2704 rfl (lv_at hl 3 rfl) ?_
  refine lv_iload_n hx hb dL_law_2705 rfl (lv_at hl 0 rfl) ?_
  refine lv_iconst (v := 1) hx hb dL_law_2706 (by decide) ?_
  refine lv_iadd hx hb dL_law_2707 ?_
  refine lv_topi (fun v8 ev8 => ?_)
  obtain rfl : v8 = 1 := ev8.trans (by decide)
  refine va_sld hx hb hX hbl hbA hS (mm_in mm_k1 (by decide)) dL_law_2708 ?_
  refine lv_topi (fun v9 ev9 => ?_)
  obtain rfl : p1 = v9 := ep1.trans ev9.symm
  refine lv_aload_n hx hb dL_law_2709 rfl (lv_at hl 3 rfl) ?_
  refine lv_iload_n hx hb dL_law_2710 rfl (lv_at hl 0 rfl) ?_
  refine lv_iconst (v := 2) hx hb dL_law_2711 (by decide) ?_
  refine lv_iadd hx hb dL_law_2712 ?_
  refine lv_topi (fun v10 ev10 => ?_)
  obtain rfl : v10 = 2 := ev10.trans (by decide)
  refine va_sld hx hb hX hbl hbA hS (mm_in mm_k2 (by decide)) dL_law_2713 ?_
  refine lv_topi (fun v11 ev11 => ?_)
  obtain rfl : p2 = v11 := ep2.trans ev11.symm
  refine lv_aload_n hx hb dL_law_2714 rfl (lv_at hl 3 rfl) ?_
  refine lv_iload_n hx hb dL_law_2715 rfl (lv_at hl 0 rfl) ?_
  refine lv_iconst (v := 3) hx hb dL_law_2716 (by decide) ?_
  refine lv_iadd hx hb dL_law_2717 ?_
  refine lv_topi (fun v12 ev12 => ?_)
  obtain rfl : v12 = 3 := ev12.trans (by decide)
  refine va_sld hx hb hX hbl hbA hS (mm_in mm_k3 (by decide)) dL_law_2718 ?_
  refine lv_topi (fun v13 ev13 => ?_)
  obtain rfl : p3 = v13 := ep3.trans ev13.symm
  refine mm_finir (va_runV (As := [.int p1, .int p2, .int p3]) (rest := [.int (-2)]) ⟨hx, hb, hml, hown, hts⟩ (K257_X12_swaps l G cy H.size qm p1 p2 p3 (um 0) (um 1) (um 2) (um 3) (um 4) 0 0 0 0 0 0 0 0 0 (-1) (um 5) (um 6) (um 7) (um 8) (um 9) (um 10) (um 11) (um 12) (um 13) (um 14) (um 15) (um 16) (um 17) 0 0 0 0 0 0 (um 18) 0 (um 19) ) (cwV 3 hts (mm_gV mm_w1550 mm_w1551 mm_w1552 mm_w5 mm_w1553) rfl rfl rfl hd_X12_swaps ⟨by rw [hRf]; exact Nat.le_of_ble_eq_true rfl, by rw [hRl]; exact Nat.le_of_ble_eq_true rfl⟩) (mm_preV hK hP hD [3, 4] rfl rfl 3 rfl rfl rfl) rfl rfl hl.1 rfl (lv_room (Nat.le_of_ble_eq_true rfl)) dL_law_2719 ⟨by rw [hRc]; exact Nat.le_of_ble_eq_true rfl, by rw [hRs]; exact Nat.le_of_ble_eq_true rfl⟩) hP hD hS hA [3, 4] rfl (fun _ => rfl) ?_
  clear hP hD hS
  clear H locs
  intro v14 _u H locs hw hP hD hS
  subst hw
  refine lv_icmp_eq (tgt := 3153) hx hb dL_law_2722 (by decide) (fun c15 => ?_) (fun c15 => ?_)
  · refine lv_iinc (v := 6) (lv' := [(3, .int 6), (2, .ref qm), (1, .ref qx), (0, .ref b)]) hx hb dL_law_3153 hl (k := 0) rfl (by decide) (by decide) rfl ?_
    clear hl
    clear ls
    intro ls hl
    refine lv_goto (tgt := 18) hx hb dL_law_3156 (by decide) ?_
    refine lv_iload_n hx hb dL_law_18 rfl (lv_at hl 0 rfl) ?_
    refine lv_aload_n hx hb dL_law_19 rfl (lv_at hl 3 rfl) ?_
    refine va_slen hx hb hX hbl hbA hS dL_law_20 ?_
    refine lv_topi (fun v16 ev16 => ?_)
    obtain rfl : v16 = 6 := ev16.trans (by decide)
    refine lv_bipush (v := 6) hx hb dL_law_21 (by decide) ?_
    refine lv_isub hx hb dL_law_23 ?_
    refine lv_topi (fun v17 ev17 => ?_)
    obtain rfl : v17 = 0 := ev17.trans (by decide)
    refine lv_icmp_gt (tgt := 3159) hx hb dL_law_24 (by decide) (fun c18 => ?_) (fun c18 => ?_)
    · refine lv_iconst (v := 1) hx hb dL_law_3159 (by decide) ?_
      refine va_forget (fun q hq => by have := hS.2.2 q hq; rw [hAe] at this; exact this) ?_
      refine W.widen (k := 600000) (n := 7302250) (Nat.le_of_ble_eq_true rfl) (Nat.le_of_ble_eq_true rfl) ?_
      exact lw_ret hx hb hr hlocks dL_law_3160
    · have q19 := mm_leL (mm_nlt c18) mm_k6 mm_k0
      exact mm_no q19 (by decide)
  · have q20 := mm_neL (lo := (-1)) (mm_ne c15) mm_km2 mm_km2 (by decide) (by decide)
    exact mm_no q20 (by decide)

set_option maxHeartbeats 4000000 in
set_option maxRecDepth 100000 in
theorem lc_60 {p : Program} {e : Env} {s : State} {m : MethodId} {below : List Frame} {meth : Method} {c : Code} {b : Nat} {xs : Nat → Int32} {G : va_G} {cy : Nat → ClassId} {qx qm : Nat} {ux um : Nat → Nat} {H : Heap} {locs : List Loc} {ls : Array Slot} {A : Nat → Prop} (l : Launch) (hx : p.tables.exec = Jvm.exec) (hb : c.code = code) (hr : meth.sig.returnType = ret) (hlocks : meth.locks = false) (hml : c.maxLocals = 4) (hown : s.vm.findClass R_law = some m.cls) (hts : ∀ w ∈ lw_x :: wsL_law, w.before #[Value.ref b] s = true) (hX : va_X b 6 xs s s.heap) (hbl : b < s.heap.size) (hAe : A = fun q => s.heap.size ≤ q) (hK : mm_K G cy s) (hS : va_S A s.heap H locs) (hP : va_P G vwCl [(qx, .inr (11, [.ref (ux 0), .ref (ux 2), .ref (ux 14), .ref (ux 36), .ref (ux 70), .ref (ux 71), .ref (ux 80), .ref (ux 82), .ref (ux 84), .ref (ux 89), .ref (ux 92)])), ((ux 14), .inr (10, [.ref (ux 15), .ref (ux 26)])), ((ux 15), .inr (0, [.int 0, .int 0, .int 0, .int 0, .int 0, .int 0, .int 0, .int 0, .ref (ux 16), .ref (ux 17), .ref (ux 18), .ref (ux 19), .ref (ux 20), .ref (ux 21), .ref (ux 22), .ref (ux 23), .ref (ux 24), .ref (ux 25)])), (qm, .inr (12, [.int 0, .ref (um 0), .ref (um 1), .ref (um 2), .ref (um 3), .ref (um 4), .int 0, .int 0, .int 0, .int 0, .int 0, .long 0, .int 0, .int 0, .int 0, .int (-1), .ref (um 5), .ref (um 6), .ref (um 7), .ref (um 8), .ref (um 9), .ref (um 10), .ref (um 11), .ref (um 12), .ref (um 13), .ref (um 14), .ref (um 15), .ref (um 16), .ref (um 17), .int 0, .int 0, .int 0, .int 0, .int 0, .int 0, .ref (um 18), .int 0, .ref (um 19)])), ((um 5), .inl (cy 1, 5, .inl (fun _ => 0)))] H) (hD : va_D A [(qx, .inr (11, [.ref (ux 0), .ref (ux 2), .ref (ux 14), .ref (ux 36), .ref (ux 70), .ref (ux 71), .ref (ux 80), .ref (ux 82), .ref (ux 84), .ref (ux 89), .ref (ux 92)])), ((ux 14), .inr (10, [.ref (ux 15), .ref (ux 26)])), ((ux 15), .inr (0, [.int 0, .int 0, .int 0, .int 0, .int 0, .int 0, .int 0, .int 0, .ref (ux 16), .ref (ux 17), .ref (ux 18), .ref (ux 19), .ref (ux 20), .ref (ux 21), .ref (ux 22), .ref (ux 23), .ref (ux 24), .ref (ux 25)])), (qm, .inr (12, [.int 0, .ref (um 0), .ref (um 1), .ref (um 2), .ref (um 3), .ref (um 4), .int 0, .int 0, .int 0, .int 0, .int 0, .long 0, .int 0, .int 0, .int 0, .int (-1), .ref (um 5), .ref (um 6), .ref (um 7), .ref (um 8), .ref (um 9), .ref (um 10), .ref (um 11), .ref (um 12), .ref (um 13), .ref (um 14), .ref (um 15), .ref (um 16), .ref (um 17), .int 0, .int 0, .int 0, .int 0, .int 0, .int 0, .ref (um 18), .int 0, .ref (um 19)])), ((um 5), .inl (cy 1, 5, .inl (fun _ => 0)))]) (hl : lv_has ls 4 [(3, .int 0), (2, .ref qm), (1, .ref qx), (0, .ref b)]) : W p l e room_1 s m #[Value.ref b] below meth c H locs 116 20302 (lw_Z below #[Value.ref b] s) (F0 m 2727 ls []) := by
  have hA : ∀ q, s.heap.size ≤ q → A q := by rw [hAe]; exact fun _ h => h
  have hbA : ¬ A b := by rw [hAe]; exact Nat.not_le.mpr hbl
  have hRf : room_1.frames = 2048 := rfl
  have hRl : room_1.locals = 84000 := rfl
  have hRc : room_1.cells = 600000 := rfl
  have hRs : room_1.slots = 7302250 := rfl
  obtain ⟨p1, ep1⟩ : ∃ z : Int32, z = xs 1 := ⟨_, rfl⟩
  obtain ⟨p2, ep2⟩ : ∃ z : Int32, z = xs 2 := ⟨_, rfl⟩
  obtain ⟨p3, ep3⟩ : ∃ z : Int32, z = xs 3 := ⟨_, rfl⟩
  obtain ⟨p4, ep4⟩ : ∃ z : Int32, z = xs 4 := ⟨_, rfl⟩
  obtain ⟨p5, ep5⟩ : ∃ z : Int32, z = xs 5 := ⟨_, rfl⟩
  refine lv_aload_n hx hb dL_law_2727 rfl (lv_at hl 2 rfl) ?_
  refine lv_aload_n hx hb dL_law_2728 rfl (lv_at hl 3 rfl) ?_
  refine lv_iload_n hx hb dL_law_2729 rfl (lv_at hl 0 rfl) ?_
  refine lv_iconst (v := 1) hx hb dL_law_2730 (by decide) ?_
  refine lv_iadd hx hb dL_law_2731 ?_
  refine lv_topi (fun v1 ev1 => ?_)
  obtain rfl : v1 = 1 := ev1.trans (by decide)
  refine va_sld hx hb hX hbl hbA hS (mm_in mm_k1 (by decide)) dL_law_2732 ?_
  refine lv_topi (fun v2 ev2 => ?_)
  obtain rfl : p1 = v2 := ep1.trans ev2.symm
  refine mm_finir (va_runV (As := [.int p1]) (rest := []) ⟨hx, hb, hml, hown, hts⟩ (K258_X11_stock l G cy H.size qx p1 (ux 0) (ux 2) (ux 14) (ux 36) (ux 70) (ux 71) (ux 80) (ux 82) (ux 84) (ux 89) (ux 92) (ux 15) (ux 26) 0 0 0 0 0 0 0 (ux 16) (ux 17) (ux 18) (ux 19) (ux 20) (ux 21) (ux 22) (ux 23) (ux 24) (ux 25) ) (cwV 1 hts (mm_gV mm_w1558 mm_w1559 mm_w1560 mm_w2 mm_w1561) rfl rfl rfl hd_X11_stock ⟨by rw [hRf]; exact Nat.le_of_ble_eq_true rfl, by rw [hRl]; exact Nat.le_of_ble_eq_true rfl⟩) (mm_preV hK hP hD [0, 1, 2] rfl rfl 0 rfl rfl rfl) rfl rfl hl.1 rfl (lv_room (Nat.le_of_ble_eq_true rfl)) dL_law_2733 ⟨by rw [hRc]; exact Nat.le_of_ble_eq_true rfl, by rw [hRs]; exact Nat.le_of_ble_eq_true rfl⟩) hP hD hS hA [0, 1, 2] rfl (fun _ => rfl) ?_
  clear hP hD hS
  clear H locs
  intro v3 _u H locs hw hP hD hS
  subst hw
  refine lv_aload_n hx hb dL_law_2736 rfl (lv_at hl 1 rfl) ?_
  refine lv_aload_n hx hb dL_law_2737 rfl (lv_at hl 3 rfl) ?_
  refine lv_iload_n hx hb dL_law_2738 rfl (lv_at hl 0 rfl) ?_
  refine lv_iconst (v := 1) hx hb dL_law_2739 (by decide) ?_
  refine lv_iadd hx hb dL_law_2740 ?_
  refine lv_topi (fun v4 ev4 => ?_)
  obtain rfl : v4 = 1 := ev4.trans (by decide)
  refine va_sld hx hb hX hbl hbA hS (mm_in mm_k1 (by decide)) dL_law_2741 ?_
  refine lv_topi (fun v5 ev5 => ?_)
  obtain rfl : p1 = v5 := ep1.trans ev5.symm
  refine mm_finir (va_runV (As := [.int p1]) (rest := [.int (-2)]) ⟨hx, hb, hml, hown, hts⟩ (K259_X12_stock l G cy H.size qm p1 (um 0) (um 1) (um 2) (um 3) (um 4) 0 0 0 0 0 0 0 0 0 (-1) (um 5) (um 6) (um 7) (um 8) (um 9) (um 10) (um 11) (um 12) (um 13) (um 14) (um 15) (um 16) (um 17) 0 0 0 0 0 0 (um 18) 0 (um 19) ) (cwV 1 hts (mm_gV mm_w1562 mm_w1563 mm_w1564 mm_w5 mm_w1565) rfl rfl rfl hd_X12_stock ⟨by rw [hRf]; exact Nat.le_of_ble_eq_true rfl, by rw [hRl]; exact Nat.le_of_ble_eq_true rfl⟩) (mm_preV hK hP hD [3, 4] rfl rfl 3 rfl rfl rfl) rfl rfl hl.1 rfl (lv_room (Nat.le_of_ble_eq_true rfl)) dL_law_2742 ⟨by rw [hRc]; exact Nat.le_of_ble_eq_true rfl, by rw [hRs]; exact Nat.le_of_ble_eq_true rfl⟩) hP hD hS hA [3, 4] rfl (fun _ => rfl) ?_
  clear hP hD hS
  clear H locs
  intro v6 _u H locs hw hP hD hS
  subst hw
  refine lv_icmp_eq (tgt := 3153) hx hb dL_law_2745 (by decide) (fun c7 => ?_) (fun c7 => ?_)
  · refine lv_iinc (v := 6) (lv' := [(3, .int 6), (2, .ref qm), (1, .ref qx), (0, .ref b)]) hx hb dL_law_3153 hl (k := 0) rfl (by decide) (by decide) rfl ?_
    clear hl
    clear ls
    intro ls hl
    refine lv_goto (tgt := 18) hx hb dL_law_3156 (by decide) ?_
    refine lv_iload_n hx hb dL_law_18 rfl (lv_at hl 0 rfl) ?_
    refine lv_aload_n hx hb dL_law_19 rfl (lv_at hl 3 rfl) ?_
    refine va_slen hx hb hX hbl hbA hS dL_law_20 ?_
    refine lv_topi (fun v8 ev8 => ?_)
    obtain rfl : v8 = 6 := ev8.trans (by decide)
    refine lv_bipush (v := 6) hx hb dL_law_21 (by decide) ?_
    refine lv_isub hx hb dL_law_23 ?_
    refine lv_topi (fun v9 ev9 => ?_)
    obtain rfl : v9 = 0 := ev9.trans (by decide)
    refine lv_icmp_gt (tgt := 3159) hx hb dL_law_24 (by decide) (fun c10 => ?_) (fun c10 => ?_)
    · refine lv_iconst (v := 1) hx hb dL_law_3159 (by decide) ?_
      refine va_forget (fun q hq => by have := hS.2.2 q hq; rw [hAe] at this; exact this) ?_
      refine W.widen (k := 600000) (n := 7302250) (Nat.le_of_ble_eq_true rfl) (Nat.le_of_ble_eq_true rfl) ?_
      exact lw_ret hx hb hr hlocks dL_law_3160
    · have q11 := mm_leL (mm_nlt c10) mm_k6 mm_k0
      exact mm_no q11 (by decide)
  · have q12 := mm_neL (lo := (-1)) (mm_ne c7) mm_km2 mm_km2 (by decide) (by decide)
    exact mm_no q12 (by decide)

set_option maxHeartbeats 4000000 in
set_option maxRecDepth 100000 in
theorem lc_61 {p : Program} {e : Env} {s : State} {m : MethodId} {below : List Frame} {meth : Method} {c : Code} {b : Nat} {xs : Nat → Int32} {G : va_G} {cy : Nat → ClassId} {qx qm : Nat} {ux um : Nat → Nat} {H : Heap} {locs : List Loc} {ls : Array Slot} {A : Nat → Prop} (l : Launch) (hx : p.tables.exec = Jvm.exec) (hb : c.code = code) (hr : meth.sig.returnType = ret) (hlocks : meth.locks = false) (hml : c.maxLocals = 4) (hown : s.vm.findClass R_law = some m.cls) (hts : ∀ w ∈ lw_x :: wsL_law, w.before #[Value.ref b] s = true) (hX : va_X b 6 xs s s.heap) (hbl : b < s.heap.size) (hAe : A = fun q => s.heap.size ≤ q) (hK : mm_K G cy s) (hS : va_S A s.heap H locs) (hP : va_P G vwCl [(qx, .inr (11, [.ref (ux 0), .ref (ux 2), .ref (ux 14), .ref (ux 36), .ref (ux 70), .ref (ux 71), .ref (ux 80), .ref (ux 82), .ref (ux 84), .ref (ux 89), .ref (ux 92)])), ((ux 14), .inr (10, [.ref (ux 15), .ref (ux 26)])), ((ux 15), .inr (0, [.int 0, .int 0, .int 0, .int 0, .int 0, .int 0, .int 0, .int 0, .ref (ux 16), .ref (ux 17), .ref (ux 18), .ref (ux 19), .ref (ux 20), .ref (ux 21), .ref (ux 22), .ref (ux 23), .ref (ux 24), .ref (ux 25)])), (qm, .inr (12, [.int 0, .ref (um 0), .ref (um 1), .ref (um 2), .ref (um 3), .ref (um 4), .int 0, .int 0, .int 0, .int 0, .int 0, .long 0, .int 0, .int 0, .int 0, .int (-1), .ref (um 5), .ref (um 6), .ref (um 7), .ref (um 8), .ref (um 9), .ref (um 10), .ref (um 11), .ref (um 12), .ref (um 13), .ref (um 14), .ref (um 15), .ref (um 16), .ref (um 17), .int 0, .int 0, .int 0, .int 0, .int 0, .int 0, .ref (um 18), .int 0, .ref (um 19)])), ((um 5), .inl (cy 1, 5, .inl (fun _ => 0)))] H) (hD : va_D A [(qx, .inr (11, [.ref (ux 0), .ref (ux 2), .ref (ux 14), .ref (ux 36), .ref (ux 70), .ref (ux 71), .ref (ux 80), .ref (ux 82), .ref (ux 84), .ref (ux 89), .ref (ux 92)])), ((ux 14), .inr (10, [.ref (ux 15), .ref (ux 26)])), ((ux 15), .inr (0, [.int 0, .int 0, .int 0, .int 0, .int 0, .int 0, .int 0, .int 0, .ref (ux 16), .ref (ux 17), .ref (ux 18), .ref (ux 19), .ref (ux 20), .ref (ux 21), .ref (ux 22), .ref (ux 23), .ref (ux 24), .ref (ux 25)])), (qm, .inr (12, [.int 0, .ref (um 0), .ref (um 1), .ref (um 2), .ref (um 3), .ref (um 4), .int 0, .int 0, .int 0, .int 0, .int 0, .long 0, .int 0, .int 0, .int 0, .int (-1), .ref (um 5), .ref (um 6), .ref (um 7), .ref (um 8), .ref (um 9), .ref (um 10), .ref (um 11), .ref (um 12), .ref (um 13), .ref (um 14), .ref (um 15), .ref (um 16), .ref (um 17), .int 0, .int 0, .int 0, .int 0, .int 0, .int 0, .ref (um 18), .int 0, .ref (um 19)])), ((um 5), .inl (cy 1, 5, .inl (fun _ => 0)))]) (hl : lv_has ls 4 [(3, .int 0), (2, .ref qm), (1, .ref qx), (0, .ref b)]) : W p l e room_1 s m #[Value.ref b] below meth c H locs 116 20302 (lw_Z below #[Value.ref b] s) (F0 m 2750 ls []) := by
  have hA : ∀ q, s.heap.size ≤ q → A q := by rw [hAe]; exact fun _ h => h
  have hbA : ¬ A b := by rw [hAe]; exact Nat.not_le.mpr hbl
  have hRf : room_1.frames = 2048 := rfl
  have hRl : room_1.locals = 84000 := rfl
  have hRc : room_1.cells = 600000 := rfl
  have hRs : room_1.slots = 7302250 := rfl
  obtain ⟨p1, ep1⟩ : ∃ z : Int32, z = xs 1 := ⟨_, rfl⟩
  obtain ⟨p2, ep2⟩ : ∃ z : Int32, z = xs 2 := ⟨_, rfl⟩
  obtain ⟨p3, ep3⟩ : ∃ z : Int32, z = xs 3 := ⟨_, rfl⟩
  obtain ⟨p4, ep4⟩ : ∃ z : Int32, z = xs 4 := ⟨_, rfl⟩
  obtain ⟨p5, ep5⟩ : ∃ z : Int32, z = xs 5 := ⟨_, rfl⟩
  refine lv_aload_n hx hb dL_law_2750 rfl (lv_at hl 2 rfl) ?_
  refine mm_finir (va_runV (As := []) (rest := []) ⟨hx, hb, hml, hown, hts⟩ (K260_X11_undo l G cy H.size qx (ux 0) (ux 2) (ux 14) (ux 36) (ux 70) (ux 71) (ux 80) (ux 82) (ux 84) (ux 89) (ux 92) (ux 15) (ux 26) 0 0 0 0 0 0 0 (ux 16) (ux 17) (ux 18) (ux 19) (ux 20) (ux 21) (ux 22) (ux 23) (ux 24) (ux 25) ) (cwV 0 hts (mm_gV mm_w1567 mm_w1568 mm_w1569 mm_w2 mm_w1570) rfl rfl rfl hd_X11_undo ⟨by rw [hRf]; exact Nat.le_of_ble_eq_true rfl, by rw [hRl]; exact Nat.le_of_ble_eq_true rfl⟩) (mm_preV hK hP hD [0, 1, 2] rfl rfl 0 rfl rfl rfl) rfl rfl hl.1 rfl (lv_room (Nat.le_of_ble_eq_true rfl)) dL_law_2751 ⟨by rw [hRc]; exact Nat.le_of_ble_eq_true rfl, by rw [hRs]; exact Nat.le_of_ble_eq_true rfl⟩) hP hD hS hA [0, 1, 2] rfl (fun _ => rfl) ?_
  clear hP hD hS
  clear H locs
  intro v1 _u H locs hw hP hD hS
  subst hw
  refine lv_aload_n hx hb dL_law_2754 rfl (lv_at hl 1 rfl) ?_
  refine mm_finir (va_runV (As := []) (rest := [.int (-2)]) ⟨hx, hb, hml, hown, hts⟩ (K261_X12_undo l G cy H.size qm (um 0) (um 1) (um 2) (um 3) (um 4) 0 0 0 0 0 0 0 0 0 (-1) (um 5) (um 6) (um 7) (um 8) (um 9) (um 10) (um 11) (um 12) (um 13) (um 14) (um 15) (um 16) (um 17) 0 0 0 0 0 0 (um 18) 0 (um 19) ) (cwV 0 hts (mm_gV mm_w1576 mm_w1577 mm_w1578 mm_w5 mm_w1579) rfl rfl rfl hd_X12_undo ⟨by rw [hRf]; exact Nat.le_of_ble_eq_true rfl, by rw [hRl]; exact Nat.le_of_ble_eq_true rfl⟩) (mm_preV hK hP hD [3, 4] rfl rfl 3 rfl rfl rfl) rfl rfl hl.1 rfl (lv_room (Nat.le_of_ble_eq_true rfl)) dL_law_2755 ⟨by rw [hRc]; exact Nat.le_of_ble_eq_true rfl, by rw [hRs]; exact Nat.le_of_ble_eq_true rfl⟩) hP hD hS hA [3, 4] rfl (fun _ => rfl) ?_
  clear hP hD hS
  clear H locs
  intro v2 _u H locs hw hP hD hS
  subst hw
  refine lv_icmp_eq (tgt := 3153) hx hb dL_law_2758 (by decide) (fun c3 => ?_) (fun c3 => ?_)
  · refine lv_iinc (v := 6) (lv' := [(3, .int 6), (2, .ref qm), (1, .ref qx), (0, .ref b)]) hx hb dL_law_3153 hl (k := 0) rfl (by decide) (by decide) rfl ?_
    clear hl
    clear ls
    intro ls hl
    refine lv_goto (tgt := 18) hx hb dL_law_3156 (by decide) ?_
    refine lv_iload_n hx hb dL_law_18 rfl (lv_at hl 0 rfl) ?_
    refine lv_aload_n hx hb dL_law_19 rfl (lv_at hl 3 rfl) ?_
    refine va_slen hx hb hX hbl hbA hS dL_law_20 ?_
    refine lv_topi (fun v4 ev4 => ?_)
    obtain rfl : v4 = 6 := ev4.trans (by decide)
    refine lv_bipush (v := 6) hx hb dL_law_21 (by decide) ?_
    refine lv_isub hx hb dL_law_23 ?_
    refine lv_topi (fun v5 ev5 => ?_)
    obtain rfl : v5 = 0 := ev5.trans (by decide)
    refine lv_icmp_gt (tgt := 3159) hx hb dL_law_24 (by decide) (fun c6 => ?_) (fun c6 => ?_)
    · refine lv_iconst (v := 1) hx hb dL_law_3159 (by decide) ?_
      refine va_forget (fun q hq => by have := hS.2.2 q hq; rw [hAe] at this; exact this) ?_
      refine W.widen (k := 600000) (n := 7302250) (Nat.le_of_ble_eq_true rfl) (Nat.le_of_ble_eq_true rfl) ?_
      exact lw_ret hx hb hr hlocks dL_law_3160
    · have q7 := mm_leL (mm_nlt c6) mm_k6 mm_k0
      exact mm_no q7 (by decide)
  · have q8 := mm_neL (lo := (-1)) (mm_ne c3) mm_km2 mm_km2 (by decide) (by decide)
    exact mm_no q8 (by decide)

