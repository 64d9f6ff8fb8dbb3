/-! ===== worlds in place ===== -/
def mm_plug : va_W → List Nat → va_W → va_W
  | ws, i :: is, c :: cs => mm_plug (ws.set i c) is cs
  | ws, _, _ => ws
theorem mm_plug_get : ∀ (is : List Nat) (cs ws : va_W) (k : Nat) (q : Nat × va_E), is.length = cs.length → (mm_plug ws is cs)[k]? = some q → (∃ j : Nat, is[j]? = some k ∧ cs[j]? = some q) ∨ (k ∉ is ∧ ws[k]? = some q) := by
  intro is
  induction is with
  | nil =>
    intro cs ws k q hl h
    cases cs with
    | nil => exact Or.inr ⟨List.not_mem_nil, h⟩
    | cons c cs => simp at hl
  | cons i is ih =>
    intro cs ws k q hl h
    cases cs with
    | nil => simp at hl
    | cons c cs =>
      have hl' : is.length = cs.length := by simpa using hl
      rcases ih cs (ws.set i c) k q hl' h with ⟨j, h1, h2⟩ | ⟨h1, h2⟩
      · exact Or.inl ⟨j + 1, by simpa using h1, by simpa using h2⟩
      · by_cases e : i = k
        · subst e
          rw [List.getElem?_set] at h2
          split at h2
          · split at h2
            · refine Or.inl ⟨0, rfl, ?_⟩
              simpa using h2
            · cases h2
          · rename_i hne; exact absurd rfl hne
        · rw [List.getElem?_set_ne e] at h2
          refine Or.inr ⟨?_, h2⟩
          intro hm
          rcases List.mem_cons.mp hm with r | r
          · exact e r.symm
          · exact h1 r
theorem mm_map_at {wc ws : va_W} {isC : List Nat} (hC : isC.map (fun i => ws[i]?) = wc.map some) {j k : Nat} (h : isC[j]? = some k) : ∃ q, wc[j]? = some q ∧ ws[k]? = some q := by
  have h1 : (isC.map (fun i => ws[i]?))[j]? = some ws[k]? := by rw [List.getElem?_map, h]; rfl
  rw [hC, List.getElem?_map] at h1
  cases hw : wc[j]? with
  | none => rw [hw] at h1; cases h1
  | some q => rw [hw] at h1; exact ⟨q, rfl, by simpa using h1.symm⟩
theorem mm_map_back {wc ws : va_W} {isC : List Nat} (hC : isC.map (fun i => ws[i]?) = wc.map some) {j : Nat} {q : Nat × va_E} (h : wc[j]? = some q) : ∃ k, isC[j]? = some k ∧ ws[k]? = some q := by
  have h1 : (wc.map some)[j]? = some (some q) := by rw [List.getElem?_map, h]; rfl
  rw [← hC, List.getElem?_map] at h1
  cases hw : isC[j]? with
  | none => rw [hw] at h1; cases h1
  | some k => rw [hw] at h1; exact ⟨k, rfl, by simpa using h1⟩
theorem mm_fst_at {a b : va_W} (h : a.map Prod.fst = b.map Prod.fst) {j : Nat} {q : Nat × va_E} (hq : a[j]? = some q) : ∃ q', b[j]? = some q' ∧ q'.1 = q.1 := by
  have h1 : (a.map Prod.fst)[j]? = some q.1 := by rw [List.getElem?_map, hq]; rfl
  rw [h, List.getElem?_map] at h1
  cases hw : b[j]? with
  | none => rw [hw] at h1; cases h1
  | some q' => rw [hw] at h1; exact ⟨q', rfl, by simpa using h1⟩
theorem mm_len_of {wc ws w1 : va_W} {isC : List Nat} (hC : isC.map (fun i => ws[i]?) = wc.map some) (hw : w1.map Prod.fst = wc.map Prod.fst) : isC.length = w1.length := by
  have h1 := congrArg List.length hC
  have h2 := congrArg List.length hw
  simp only [List.length_map] at h1 h2
  omega
theorem mm_plugged {A : Nat → Prop} {G : va_G} {cl : List vw_C} {ws wc w1 : va_W} {H H1 : Heap} (hP : va_P G cl ws H) (hD : va_D A ws) (isC : List Nat) (hC : isC.map (fun i => ws[i]?) = wc.map some) (hk : ∀ q : Nat, q < H.size → ¬ va_A wc H.size q → H1[q]? = H[q]?) (hP1 : va_P G cl w1 H1) (hw : w1.map Prod.fst = wc.map Prod.fst) : va_P G cl (mm_plug ws isC w1) H1 ∧ va_D A (mm_plug ws isC w1) := by
  have hl := mm_len_of hC hw
  have back : ∀ (k : Nat) (q : Nat × va_E), (mm_plug ws isC w1)[k]? = some q → ∃ q', ws[k]? = some q' ∧ q'.1 = q.1 := by
    intro k q h
    rcases mm_plug_get isC w1 ws k q hl h with ⟨j, h1, h2⟩ | ⟨-, h2⟩
    · obtain ⟨q', e1, e2⟩ := mm_fst_at hw h2
      obtain ⟨q2, e3, e4⟩ := mm_map_at hC h1
      rw [e1] at e3
      cases e3
      exact ⟨q', e4, e2⟩
    · exact ⟨q, h2, rfl⟩
  refine ⟨?_, ?_, ?_⟩
  · intro k q h
    rcases mm_plug_get isC w1 ws k q hl h with ⟨j, -, h2⟩ | ⟨h1, h2⟩
    · exact hP1 j q h2
    · have hat := hP k q h2
      refine hat.kept (hk q.1 hat.lt ?_)
      rintro (⟨j, e, hj⟩ | hge)
      · obtain ⟨i, h3, h4⟩ := mm_map_back hC hj
        have : i = k := hD.1 i k _ _ h4 h2 rfl
        subst this
        exact h1 (List.mem_of_getElem? h3)
      · exact absurd hat.lt (Nat.not_lt.mpr hge)
  · intro i j p q hi hj e
    obtain ⟨p', a1, a2⟩ := back i p hi
    obtain ⟨q', b1, b2⟩ := back j q hj
    exact hD.1 i j p' q' a1 b1 (by rw [a2, b2, e])
  · intro k q h
    obtain ⟨q', a1, a2⟩ := back k q h
    have := hD.2 k q' a1
    rw [a2] at this
    exact this
theorem mm_plugged2 {A : Nat → Prop} {G : va_G} {cl : List vw_C} {ws wc w1 ws2 : va_W} {H H1 : Heap} (hP : va_P G cl ws H) (hD : va_D A ws) (isC isR : List Nat) {n : Nat} (hn : ws2.length = n) (hcov : ∀ k, k < n → k ∈ isC ∨ k ∈ isR) (hdis : ∀ k ∈ isR, k ∉ isC) (hC : isC.map (fun i => ws[i]?) = wc.map some) (hC2 : isC.map (fun i => ws2[i]?) = w1.map some) (hR : isR.map (fun i => ws2[i]?) = isR.map (fun i => ws[i]?)) (hk : ∀ q : Nat, q < H.size → ¬ va_A wc H.size q → H1[q]? = H[q]?) (hP1 : va_P G cl w1 H1) (hw : w1.map Prod.fst = wc.map Prod.fst) : va_P G cl ws2 H1 ∧ va_D A ws2 := by
  have hlt : ∀ (k : Nat) (q : Nat × va_E), ws2[k]? = some q → k < n := fun k q h => by rw [← hn]; exact (List.getElem?_eq_some_iff.mp h).1
  have inC : ∀ (k : Nat) (q : Nat × va_E), k ∈ isC → ws2[k]? = some q → ∃ j : Nat, w1[j]? = some q ∧ ∃ q', ws[k]? = some q' ∧ q'.1 = q.1 := by
    intro k q hm h
    obtain ⟨j, hj⟩ := List.getElem?_of_mem hm
    obtain ⟨q1, e1, e2⟩ := mm_map_at hC2 hj
    rw [h] at e2
    cases e2
    obtain ⟨q2, e3, e4⟩ := mm_fst_at hw e1
    obtain ⟨q3, e5, e6⟩ := mm_map_at hC hj
    rw [e3] at e5
    cases e5
    exact ⟨j, e1, q2, e6, e4⟩
  have inR : ∀ (k : Nat) (q : Nat × va_E), k ∈ isR → ws2[k]? = some q → ws[k]? = some q := by
    intro k q hm h
    rw [← List.map_inj_left.mp hR k hm]
    exact h
  have back : ∀ (k : Nat) (q : Nat × va_E), ws2[k]? = some q → ∃ q', ws[k]? = some q' ∧ q'.1 = q.1 := by
    intro k q h
    rcases hcov k (hlt k q h) with hm | hm
    · obtain ⟨_, _, q', h1, h2⟩ := inC k q hm h
      exact ⟨q', h1, h2⟩
    · exact ⟨q, inR k q hm h, rfl⟩
  refine ⟨?_, ?_, ?_⟩
  · intro k q h
    rcases hcov k (hlt k q h) with hm | hm
    · obtain ⟨j, h1, _⟩ := inC k q hm h
      exact hP1 j q h1
    · have h2 := inR k q hm h
      have hat := hP k q h2
      refine hat.kept (hk q.1 hat.lt ?_)
      rintro (⟨j, e, hj⟩ | hge)
      · obtain ⟨i, h3, h4⟩ := mm_map_back hC hj
        have : i = k := hD.1 i k _ _ h4 h2 rfl
        subst this
        exact hdis i hm (List.mem_of_getElem? h3)
      · exact absurd hat.lt (Nat.not_lt.mpr hge)
  · intro i j p q hi hj e
    obtain ⟨p', a1, a2⟩ := back i p hi
    obtain ⟨q', b1, b2⟩ := back j q hj
    exact hD.1 i j p' q' a1 b1 (by rw [a2, b2, e])
  · intro k q h
    obtain ⟨q', a1, a2⟩ := back k q h
    have := hD.2 k q' a1
    rw [a2] at this
    exact this
/-! ===== contracts in one form ===== -/
abbrev mm_pre (G : va_G) (cy : Nat → ClassId) (sz : Nat) (ws : va_W) (U : State) : Prop := U.heap.size = sz ∧ va_P G vwCl ws U.heap ∧ mm_K G cy U ∧ va_D (fun _ => True) ws ∧ mm_Z cy (va_A ws sz) U U.heap
abbrev mm_po (G : va_G) (cy : Nat → ClassId) (A : Nat → Prop) (ws : va_W) (t : State) : Prop := va_P G vwCl ws t.heap ∧ mm_K G cy t ∧ va_D A ws
abbrev mm_ws (y : MethodName) (c : ByteArray) (n : Nat) (r : Option FieldType) : List Cond := Cond.code y c n r :: wsL_law
abbrev mm_CI (l : Launch) (y : MethodName) (wsy : List Cond) (rm : Room) (G : va_G) (cy : Nat → ClassId) (sz : Nat) (ws : va_W) (As : List Value) {S : Type} (w1 : S → va_W) (post : Int32 → S → Prop) (mc ms : Nat) : Prop := Met l y wsy rm (va_Pc As (mm_pre G cy sz ws)) (va_Qi post (fun u t => mm_po G cy (va_A ws sz) (w1 u) t) (va_A ws sz)) mc ms (va_A ws sz)
abbrev mm_CL (l : Launch) (y : MethodName) (wsy : List Cond) (rm : Room) (G : va_G) (cy : Nat → ClassId) (sz : Nat) (ws : va_W) (As : List Value) {S : Type} (w1 : S → va_W) (post : Int64 → S → Prop) (mc ms : Nat) : Prop := Met l y wsy rm (va_Pc As (mm_pre G cy sz ws)) (va_Ql post (fun u t => mm_po G cy (va_A ws sz) (w1 u) t) (va_A ws sz)) mc ms (va_A ws sz)
abbrev mm_CV (l : Launch) (y : MethodName) (wsy : List Cond) (rm : Room) (G : va_G) (cy : Nat → ClassId) (sz : Nat) (ws : va_W) (As : List Value) {S : Type} (w1 : S → va_W) (post : S → Prop) (mc ms : Nat) : Prop := Met l y wsy rm (va_Pc As (mm_pre G cy sz ws)) (va_Qv post (fun u t => mm_po G cy (va_A ws sz) (w1 u) t) (va_A ws sz)) mc ms (va_A ws sz)
theorem mm_begin {l : Launch} {y : MethodName} {cc : ByteArray} {nL : Nat} {r : Option FieldType} {rm : Room} {G : va_G} {cy : Nat → ClassId} {sz : Nat} {ws : va_W} {As : List Value} {Qc : Array Value → State → Outcome → State → Prop} {mc ms : Nat} {lv : List (Nat × Value)} (hy : plainName y.cls = true) (hl : (lg_sl As).length ≤ nL) (hlv : lv_args 0 As = lv)
    (body : ∀ (p : Program) (e : Env) (s : State) (m : MethodId) (below : List Frame) (meth : Method) (c : Code) (A : Nat → Prop) (ls : Array Slot) (R : Room) (args : Array Value) (Q : State → Prop) (H : Heap) (locs : List Loc), R = rm → Q = MQ below Qc args s mc ms (va_A ws sz) → A = va_A ws sz → p.tables.exec = Jvm.exec → c.code = cc → meth.sig.returnType = r → meth.locks = false → c.maxLocals = nL → s.vm.findClass y.cls = some m.cls → meth.name = y.name → (∀ w ∈ mm_ws y cc nL r, w.before args s = true) → s.heap.size = sz → (∀ q, s.heap.size ≤ q → A q) → va_S A s.heap H locs → va_P G vwCl ws H → mm_K G cy s → va_D A ws → mm_Z cy A s s.heap → lv_has ls nL lv → W p l e R s m args below meth c H locs 0 0 Q (F0 m 0 ls [])) :
    Met l y (mm_ws y cc nL r) rm (va_Pc As (mm_pre G cy sz ws)) Qc mc ms (va_A ws sz) := by
  refine Met.ofW (cc := cc) (maxL := nL) (ret := r) hy rfl ?_
  intro p e s m args below meth c s₁ B hml hv
  obtain ⟨rfl, hsz, hP, hK, hD0, hZ⟩ := hv
  subst hsz
  have hD := hD0.self (sz := s.heap.size)
  have hle := lv_entry As (n := nL) hl
  rw [lg_entry_eq]
  rw [hlv] at hle
  exact body p e s m below meth c _ _ _ _ _ _ _ rfl rfl rfl B.exec B.bytes B.returns B.notSynchronized hml (findClass_of_methodNamed B.named) (name_of_methodNamed B.named B.method).1 (atoms_spec (ws := mm_ws y cc nL r) B.pre) rfl (fun q h => Or.inr h) va_S.rf hP hK hD hZ hle
section
variable {p : Program} {l : Launch} {e : Env} {R : Room} {s : State} {m : MethodId} {args : Array Value} {below : List Frame} {meth : Method} {c : Code} {H H0 : Heap} {locs : List Loc} {cells slots : Nat} {Q : State → Prop} {G : va_G} {cy : Nat → ClassId} {A : Nat → Prop} {ws wc : va_W}
theorem mm_blind {av : List Value} {sz : Nat} : FrameBlind (va_Pc av (mm_pre G cy sz wc)) := by
  intro a U g mk q
  obtain ⟨q0, q1, qP, qK, qD, qZ⟩ := q
  exact ⟨q0, q1, qP, qK.same rfl, qD, qZ.same rfl⟩
theorem mm_cut (hP : va_P G vwCl ws H) (hD : va_D A ws) (isC : List Nat) (hC : isC.map (fun i => ws[i]?) = wc.map some) (hn : va_nd isC = true) : va_P G vwCl wc H ∧ va_D (fun _ => True) wc := by
  refine ⟨?_, (hD.sub isC hn hC).weaken (fun _ _ _ _ => trivial)⟩
  intro k q h
  obtain ⟨i, -, h2⟩ := mm_map_back hC h
  exact hP i q h2
theorem mm_zz (hZ : mm_Z cy A s s.heap) (hS : va_S A s.heap H locs) (hA : ∀ q, s.heap.size ≤ q → A q) (hD : va_D A ws) (isC : List Nat) (hC : isC.map (fun i => ws[i]?) = wc.map some) {U : State} (hU : U.heap = H) (hW : s.WarmedH U.vm) : mm_Z cy (va_A wc H.size) U U.heap := by
  rw [hU]
  exact ((hZ.kept hS.2.1).narrow (va_free (wc := wc) hD hS hA isC hC)).moved hW.alike
theorem mm_preS {av : List Value} (hK : mm_K G cy s) (hZ : mm_Z cy A s s.heap) (hS : va_S A s.heap H locs) (hA : ∀ q, s.heap.size ≤ q → A q) (hP : va_P G vwCl ws H) (hD : va_D A ws) (isC : List Nat) (hC : isC.map (fun i => ws[i]?) = wc.map some) (hn : va_nd isC = true) : PreS s H (va_Pc av (mm_pre G cy H.size wc)) av :=
  ⟨mm_blind, fun U hU hW => ⟨rfl, by rw [hU], by rw [hU]; exact (mm_cut hP hD isC hC hn).1, hK.warm hW, (mm_cut hP hD isC hC hn).2, mm_zz hZ hS hA hD isC hC hU hW⟩⟩
theorem mm_preV {b : Nat} {As : List Value} {C : String} (hK : mm_K G cy s) (hZ : mm_Z cy A s s.heap) (hS : va_S A s.heap H locs) (hA : ∀ q, s.heap.size ≤ q → A q) (hP : va_P G vwCl ws H) (hD : va_D A ws) (isC : List Nat) (hC : isC.map (fun i => ws[i]?) = wc.map some) (hn : va_nd isC = true) (q0 : Nat) {ci : Nat} {fs : List Value} {r : vw_C} (he : ws[q0]? = some (b, .inr (ci, fs))) (hc : vwCl[ci]? = some r) (hr : r.1 = C) : PreV s H C b (va_Pc (.ref b :: As) (mm_pre G cy H.size wc)) As :=
  ⟨mm_blind, by rw [← hr]; exact va_recv hK.1 hP hc he, fun U hU hW => ⟨rfl, by rw [hU], by rw [hU]; exact (mm_cut hP hD isC hC hn).1, hK.warm hW, (mm_cut hP hD isC hC hn).2, mm_zz hZ hS hA hD isC hC hU hW⟩⟩
theorem mm_preVS {As : List Value} (hK : mm_K G cy s) (hZ : mm_Z cy A s s.heap) (hS : va_S A s.heap H locs) (hA : ∀ q, s.heap.size ≤ q → A q) (hP : va_P G vwCl ws H) (hD : va_D A ws) (isC : List Nat) (hC : isC.map (fun i => ws[i]?) = wc.map some) (hn : va_nd isC = true) (i : Nat) (hi : i < 16) : PreV s H "java/lang/String" (cy (100 + 2 * i)) (va_Pc (.ref (cy (100 + 2 * i)) :: As) (mm_pre G cy H.size wc)) As :=
  ⟨mm_blind, vk_recv (adK := fun i => cy (100 + 2 * i)) (i := i) hZ.1 hi hS, fun U hU hW => ⟨rfl, by rw [hU], by rw [hU]; exact (mm_cut hP hD isC hC hn).1, hK.warm hW, (mm_cut hP hD isC hC hn).2, mm_zz hZ hS hA hD isC hC hU hW⟩⟩
theorem mm_back (hP : va_P G vwCl ws H) (hD : va_D A ws) (isC : List Nat) (hC : isC.map (fun i => ws[i]?) = wc.map some) {H1 : Heap} (hk : ∀ q : Nat, q < H.size → ¬ va_A wc H.size q → H1[q]? = H[q]?) (hP1 : va_P G vwCl wc H1) : va_P G vwCl ws H1 := by
  intro k q h
  have hat := hP k q h
  by_cases hm : va_A wc H.size q.1
  · rcases hm with ⟨j, e, hj⟩ | hge
    · obtain ⟨i, h3, h4⟩ := mm_map_back hC hj
      have : i = k := hD.1 i k _ _ h4 h rfl
      subst this
      rw [h] at h4
      have h5 : q = (q.1, e) := Option.some.inj h4
      have h6 : va_at G vwCl (q.1, e) H1 := hP1 j _ hj
      rw [← h5] at h6
      exact h6
    · exact absurd hat.lt (Nat.not_lt.mpr hge)
  · exact hat.kept (hk q.1 hat.lt hm)
theorem mm_fini {S : Type} {post : Int32 → S → Prop} {w1 : S → va_W} {mc ms pc : Nat} {ls : Array Slot} {st0 rest : List Value} {a : Array Value}
    (hr : va_Run p l e R s m args below meth c H locs cells slots mc ms (F0 m pc ls st0) rest (va_Qi post (fun u t => mm_po G cy (va_A wc H.size) (w1 u) t) (va_A wc H.size) a) (va_A wc H.size)) (hP : va_P G vwCl ws H) (hD : va_D A ws) (hS : va_S A H0 H locs) (hA : ∀ q, H0.size ≤ q → A q) (ws2 : S → va_W) (isC isR : List Nat) {n : Nat} (hn : ∀ u, (ws2 u).length = n) (hcov : ∀ k, k < n → k ∈ isC ∨ k ∈ isR) (hdis : ∀ k ∈ isR, k ∉ isC) (hC : isC.map (fun i => ws[i]?) = wc.map some) (hC2 : ∀ u, isC.map (fun i => (ws2 u)[i]?) = (w1 u).map some) {wr : va_W} (hR1 : isR.map (fun i => ws[i]?) = wr.map some) (hR2 : ∀ u, isR.map (fun i => (ws2 u)[i]?) = wr.map some) (hw : ∀ u, (w1 u).map Prod.fst = wc.map Prod.fst)
    (kk : ∀ (r : Int32) (u : S) (H1 : Heap) (locs1 : List Loc), post r u → va_P G vwCl (ws2 u) H1 → va_D A (ws2 u) → va_S A H0 H1 locs1 → W p l e R s m args below meth c H1 locs1 (cells + mc) (slots + ms) Q (F0 m (pc + 3) ls (.int r :: rest))) :
    W p l e R s m args below meth c H locs cells slots Q (F0 m pc ls st0) := by
  have hF := va_free (wc := wc) hD hS hA isC hC
  refine va_calli hr hS (fun q _ h => hF q h) hF (fun r u t H1 locs1 ht hvm hpost hB hz hk hS1 => ?_)
  obtain ⟨hP1, -, hD1⟩ := hB
  rw [ht] at hP1
  obtain ⟨p1, p2⟩ := mm_plugged2 hP hD isC isR (hn u) hcov hdis hC (hC2 u) ((hR2 u).trans hR1.symm) hk hP1 (hw u)
  exact kk r u H1 locs1 hpost p1 p2 hS1
theorem mm_finl {S : Type} {post : Int64 → S → Prop} {w1 : S → va_W} {mc ms pc : Nat} {ls : Array Slot} {st0 rest : List Value} {a : Array Value}
    (hr : va_Run p l e R s m args below meth c H locs cells slots mc ms (F0 m pc ls st0) rest (va_Ql post (fun u t => mm_po G cy (va_A wc H.size) (w1 u) t) (va_A wc H.size) a) (va_A wc H.size)) (hP : va_P G vwCl ws H) (hD : va_D A ws) (hS : va_S A H0 H locs) (hA : ∀ q, H0.size ≤ q → A q) (ws2 : S → va_W) (isC isR : List Nat) {n : Nat} (hn : ∀ u, (ws2 u).length = n) (hcov : ∀ k, k < n → k ∈ isC ∨ k ∈ isR) (hdis : ∀ k ∈ isR, k ∉ isC) (hC : isC.map (fun i => ws[i]?) = wc.map some) (hC2 : ∀ u, isC.map (fun i => (ws2 u)[i]?) = (w1 u).map some) {wr : va_W} (hR1 : isR.map (fun i => ws[i]?) = wr.map some) (hR2 : ∀ u, isR.map (fun i => (ws2 u)[i]?) = wr.map some) (hw : ∀ u, (w1 u).map Prod.fst = wc.map Prod.fst)
    (kk : ∀ (r : Int64) (u : S) (H1 : Heap) (locs1 : List Loc), post r u → va_P G vwCl (ws2 u) H1 → va_D A (ws2 u) → va_S A H0 H1 locs1 → W p l e R s m args below meth c H1 locs1 (cells + mc) (slots + ms) Q (F0 m (pc + 3) ls (.long r :: rest))) :
    W p l e R s m args below meth c H locs cells slots Q (F0 m pc ls st0) := by
  have hF := va_free (wc := wc) hD hS hA isC hC
  refine va_calll hr hS (fun q _ h => hF q h) hF (fun r u t H1 locs1 ht hvm hpost hB hz hk hS1 => ?_)
  obtain ⟨hP1, -, hD1⟩ := hB
  rw [ht] at hP1
  obtain ⟨p1, p2⟩ := mm_plugged2 hP hD isC isR (hn u) hcov hdis hC (hC2 u) ((hR2 u).trans hR1.symm) hk hP1 (hw u)
  exact kk r u H1 locs1 hpost p1 p2 hS1
theorem mm_finv {S : Type} {post : S → Prop} {w1 : S → va_W} {mc ms pc : Nat} {ls : Array Slot} {st0 rest : List Value} {a : Array Value}
    (hr : va_Run p l e R s m args below meth c H locs cells slots mc ms (F0 m pc ls st0) rest (va_Qv post (fun u t => mm_po G cy (va_A wc H.size) (w1 u) t) (va_A wc H.size) a) (va_A wc H.size)) (hP : va_P G vwCl ws H) (hD : va_D A ws) (hS : va_S A H0 H locs) (hA : ∀ q, H0.size ≤ q → A q) (ws2 : S → va_W) (isC isR : List Nat) {n : Nat} (hn : ∀ u, (ws2 u).length = n) (hcov : ∀ k, k < n → k ∈ isC ∨ k ∈ isR) (hdis : ∀ k ∈ isR, k ∉ isC) (hC : isC.map (fun i => ws[i]?) = wc.map some) (hC2 : ∀ u, isC.map (fun i => (ws2 u)[i]?) = (w1 u).map some) {wr : va_W} (hR1 : isR.map (fun i => ws[i]?) = wr.map some) (hR2 : ∀ u, isR.map (fun i => (ws2 u)[i]?) = wr.map some) (hw : ∀ u, (w1 u).map Prod.fst = wc.map Prod.fst)
    (kk : ∀ (u : S) (H1 : Heap) (locs1 : List Loc), post u → va_P G vwCl (ws2 u) H1 → va_D A (ws2 u) → va_S A H0 H1 locs1 → W p l e R s m args below meth c H1 locs1 (cells + mc) (slots + ms) Q (F0 m (pc + 3) ls rest)) :
    W p l e R s m args below meth c H locs cells slots Q (F0 m pc ls st0) := by
  have hF := va_free (wc := wc) hD hS hA isC hC
  refine va_callv hr hS (fun q _ h => hF q h) hF (fun u t H1 locs1 ht hvm hpost hB hz hk hS1 => ?_)
  obtain ⟨hP1, -, hD1⟩ := hB
  rw [ht] at hP1
  obtain ⟨p1, p2⟩ := mm_plugged2 hP hD isC isR (hn u) hcov hdis hC (hC2 u) ((hR2 u).trans hR1.symm) hk hP1 (hw u)
  exact kk u H1 locs1 hpost p1 p2 hS1
theorem mm_finir {S : Type} {post : Int32 → S → Prop} {w1 : S → va_W} {mc ms pc : Nat} {ls : Array Slot} {st0 rest : List Value} {a : Array Value}
    (hr : va_Run p l e R s m args below meth c H locs cells slots mc ms (F0 m pc ls st0) rest (va_Qi post (fun u t => mm_po G cy (va_A wc H.size) (w1 u) t) (va_A wc H.size) a) (va_A wc H.size)) (hP : va_P G vwCl ws H) (hD : va_D A ws) (hS : va_S A H0 H locs) (hA : ∀ q, H0.size ≤ q → A q) (isC : List Nat) (hC : isC.map (fun i => ws[i]?) = wc.map some) (hw : ∀ u, w1 u = wc)
    (kk : ∀ (r : Int32) (u : S) (H1 : Heap) (locs1 : List Loc), post r u → va_P G vwCl ws H1 → va_D A ws → va_S A H0 H1 locs1 → W p l e R s m args below meth c H1 locs1 (cells + mc) (slots + ms) Q (F0 m (pc + 3) ls (.int r :: rest))) :
    W p l e R s m args below meth c H locs cells slots Q (F0 m pc ls st0) := by
  have hF := va_free (wc := wc) hD hS hA isC hC
  refine va_calli hr hS (fun q _ h => hF q h) hF (fun r u t H1 locs1 ht hvm hpost hB hz hk hS1 => ?_)
  obtain ⟨hP1, -, hD1⟩ := hB
  rw [ht, hw u] at hP1
  exact kk r u H1 locs1 hpost (mm_back hP hD isC hC hk hP1) hD hS1
theorem mm_finlr {S : Type} {post : Int64 → S → Prop} {w1 : S → va_W} {mc ms pc : Nat} {ls : Array Slot} {st0 rest : List Value} {a : Array Value}
    (hr : va_Run p l e R s m args below meth c H locs cells slots mc ms (F0 m pc ls st0) rest (va_Ql post (fun u t => mm_po G cy (va_A wc H.size) (w1 u) t) (va_A wc H.size) a) (va_A wc H.size)) (hP : va_P G vwCl ws H) (hD : va_D A ws) (hS : va_S A H0 H locs) (hA : ∀ q, H0.size ≤ q → A q) (isC : List Nat) (hC : isC.map (fun i => ws[i]?) = wc.map some) (hw : ∀ u, w1 u = wc)
    (kk : ∀ (r : Int64) (u : S) (H1 : Heap) (locs1 : List Loc), post r u → va_P G vwCl ws H1 → va_D A ws → va_S A H0 H1 locs1 → W p l e R s m args below meth c H1 locs1 (cells + mc) (slots + ms) Q (F0 m (pc + 3) ls (.long r :: rest))) :
    W p l e R s m args below meth c H locs cells slots Q (F0 m pc ls st0) := by
  have hF := va_free (wc := wc) hD hS hA isC hC
  refine va_calll hr hS (fun q _ h => hF q h) hF (fun r u t H1 locs1 ht hvm hpost hB hz hk hS1 => ?_)
  obtain ⟨hP1, -, hD1⟩ := hB
  rw [ht, hw u] at hP1
  exact kk r u H1 locs1 hpost (mm_back hP hD isC hC hk hP1) hD hS1
theorem mm_finvr {S : Type} {post : S → Prop} {w1 : S → va_W} {mc ms pc : Nat} {ls : Array Slot} {st0 rest : List Value} {a : Array Value}
    (hr : va_Run p l e R s m args below meth c H locs cells slots mc ms (F0 m pc ls st0) rest (va_Qv post (fun u t => mm_po G cy (va_A wc H.size) (w1 u) t) (va_A wc H.size) a) (va_A wc H.size)) (hP : va_P G vwCl ws H) (hD : va_D A ws) (hS : va_S A H0 H locs) (hA : ∀ q, H0.size ≤ q → A q) (isC : List Nat) (hC : isC.map (fun i => ws[i]?) = wc.map some) (hw : ∀ u, w1 u = wc)
    (kk : ∀ (u : S) (H1 : Heap) (locs1 : List Loc), post u → va_P G vwCl ws H1 → va_D A ws → va_S A H0 H1 locs1 → W p l e R s m args below meth c H1 locs1 (cells + mc) (slots + ms) Q (F0 m (pc + 3) ls rest)) :
    W p l e R s m args below meth c H locs cells slots Q (F0 m pc ls st0) := by
  have hF := va_free (wc := wc) hD hS hA isC hC
  refine va_callv hr hS (fun q _ h => hF q h) hF (fun u t H1 locs1 ht hvm hpost hB hz hk hS1 => ?_)
  obtain ⟨hP1, -, hD1⟩ := hB
  rw [ht, hw u] at hP1
  exact kk u H1 locs1 hpost (mm_back hP hD isC hC hk hP1) hD hS1
/-- a call that makes cells: what it had comes back behind the rest, with what is new -/
theorem mm_finJ {S : Type} {post : S → Prop} {w1 : S → va_W} {mc ms pc : Nat} {ls : Array Slot} {st0 rest : List Value} {a : Array Value} {wr : va_W}
    (hr : va_Run p l e R s m args below meth c H locs cells slots mc ms (F0 m pc ls st0) rest (va_Qv post (fun u t => mm_po G cy (va_A wc H.size) (w1 u) t) (va_A wc H.size) a) (va_A wc H.size)) (hP : va_P G vwCl ws H) (hD : va_D A ws) (hS : va_S A H0 H locs) (hA : ∀ q, H0.size ≤ q → A q) (isC isR : List Nat) (hC : isC.map (fun i => ws[i]?) = wc.map some) (hR : isR.map (fun i => ws[i]?) = wr.map some) (hn : va_nd isR = true) (hdis : ∀ i ∈ isR, i ∉ isC)
    (kk : ∀ (u : S) (H1 : Heap) (locs1 : List Loc), post u → va_P G vwCl (wr ++ w1 u) H1 → va_D A (wr ++ w1 u) → va_S A H0 H1 locs1 → W p l e R s m args below meth c H1 locs1 (cells + mc) (slots + ms) Q (F0 m (pc + 3) ls rest)) :
    W p l e R s m args below meth c H locs cells slots Q (F0 m pc ls st0) := by
  have hF := va_free (wc := wc) hD hS hA isC hC
  refine va_callv hr hS (fun q _ h => hF q h) hF (fun u t H1 locs1 ht hvm hpost hB hz hk hS1 => ?_)
  obtain ⟨hP1, -, hD1⟩ := hB
  rw [ht] at hP1
  obtain ⟨p1, p2⟩ := va_join (wr := wr) (w1 := w1 u) hP hD isC isR hC hR hn hdis hk hF hP1 hD1
  exact kk u H1 locs1 hpost p1 p2 hS1
theorem mm_newa {cc : ByteArray} {pc : Nat} {ls : Array Slot} {rest : List Value} (hexec : p.tables.exec = Jvm.exec) (hb : c.code = cc) {atype : ArrayType} (harr : (Cond.arrayClass (newarray.typeOf atype)).before args s = true) {ty : FieldType} (hty : newarray.typeOf atype = ty) (hK : mm_K G cy s) (t0 : Nat) {cA : ClassId} (ht : (mm_TY cy)[t0]? = some (cA, ty)) (hra : ∀ z : ClassId, va_RA s z ty → s.vm.findClass ("[" ++ ty.toString) = some z) (hP : va_P G vwCl ws H) (hD : va_D A ws) (hS : va_S A H0 H locs) (hA : ∀ q, H0.size ≤ q → A q) {n : Int32} {N' : Nat} {a0 : vp_A} (ha : ∀ cA : ClassId, vp_cell cA a0 = arrV cA N' (fun _ => defaultValue ty)) (hn : ¬ n < 0) (hN : n.toNatClampNeg = N') (hbytes : N' * componentBytes ty ≤ 536870912) (hcells : cells + 1 ≤ R.cells) (hslots : slots + N' ≤ R.slots) (hdg : decode cc pc = .ok (.newarray atype, 2))
    (kk : ∀ (q : Nat) (H1 : Heap), va_P G vwCl (ws ++ [(q, .inl (cA, a0))]) H1 → va_D A (ws ++ [(q, .inl (cA, a0))]) → va_S A H0 H1 locs → W p l e R s m args below meth c H1 locs (cells + 1) (slots + N') Q (F0 m (pc + 2) ls (.ref q :: rest))) :
    W p l e R s m args below meth c H locs cells slots Q (F0 m pc ls (.int n :: rest)) := by
  refine va_newa hexec hb harr hty hK.1 hP hD hS hA ha hn hN hbytes hcells hslots hdg (fun q cB H1 hK1 hP1 hD1 hS1 => ?_)
  have e1 := hra _ (hK.1.2 t0 _ ht).2
  have e2 := hra _ (hK1.2 (mm_TY cy).length (cB, ty) (by simp)).2
  have : cB = cA := by rw [e1] at e2; exact (Option.some.inj e2).symm
  subst this
  exact kk q H1 hP1 hD1 hS1
theorem mm_newq {cc : ByteArray} {pc : Nat} {ls : Array Slot} {rest : List Value} (hexec : p.tables.exec = Jvm.exec) (hb : c.code = cc) {own C : String} {index : Nat} (hown : s.vm.findClass own = some m.cls) (hclink : (Cond.classLink own index C).before args s = true) (hover : va_AO C s) (hK : mm_K G cy s) (t0 : Nat) {cA : ClassId} (ht : (mm_TY cy)[t0]? = some (cA, .object C)) (hP : va_P G vwCl ws H) (hD : va_D A ws) (hS : va_S A H0 H locs) (hA : ∀ q, H0.size ≤ q → A q) {n : Int32} {N' : Nat} (hn : ¬ n < 0) (hN : n.toNatClampNeg = N') (hbytes : N' * 4 ≤ 536870912) (hcells : cells + 1 ≤ R.cells) (hslots : slots + N' ≤ R.slots) (hdg : decode cc pc = .ok (.anewarray index, 3))
    (kk : ∀ (q : Nat) (H1 : Heap), va_P G vwCl (ws ++ [(q, .inl (cA, N', .inr (.inr (.inr (.inr (fun _ => none))))))]) H1 → va_D A (ws ++ [(q, .inl (cA, N', .inr (.inr (.inr (.inr (fun _ => none))))))]) → va_S A H0 H1 locs → W p l e R s m args below meth c H1 locs (cells + 1) (slots + N') Q (F0 m (pc + 3) ls (.ref q :: rest))) :
    W p l e R s m args below meth c H locs cells slots Q (F0 m pc ls (.int n :: rest)) := by
  refine va_newq hexec hb hown hclink hover hK.1 hP hD hS hA hn hN hbytes hcells hslots hdg (fun q cB H1 hK1 hP1 hD1 hS1 => ?_)
  obtain ⟨_, _, _, _, _, e1⟩ := (hK.1.2 t0 _ ht).2
  obtain ⟨_, _, _, _, _, e2⟩ := (hK1.2 (mm_TY cy).length (cB, .object C) (by simp)).2
  have : cB = cA := by rw [e1] at e2; exact (Option.some.inj e2).symm
  subst this
  exact kk q H1 hP1 hD1 hS1
end
theorem mm_ok {w : Cond} (h : w ∈ wsL_law) : (w.onTables && w.keeps) = true ∨ ∃ ty, w = .arrayClass ty := good_of_word (List.all_eq_true.mp mm_goods w h)
theorem mm_gC {x w : Cond} (h : w ∈ wsL_law) : w ∈ x :: wsL_law ∧ ((w.onTables && w.keeps) = true ∨ ∃ ty, w = .arrayClass ty) := ⟨List.mem_cons_of_mem _ h, mm_ok h⟩
theorem mm_gA {x : Cond} {y : MethodName} {c : ByteArray} {n : Nat} {r : Option FieldType} (m5 : Cond.code y c n r ∈ wsL_law) : GoodIn (x :: wsL_law) (mm_ws y c n r) := by
  intro w hw
  rcases List.mem_cons.mp hw with rfl | h
  · exact mm_gC m5
  · exact mm_gC h
theorem mm_gV {x : Cond} {own C : String} {i : Nat} {y : MethodName} {c : ByteArray} {n : Nat} {r : Option FieldType} (m1 : Cond.methodLink own i y ∈ wsL_law) (m2 : Cond.instanceMethod y ∈ wsL_law) (m3 : Cond.selects C y y ∈ wsL_law) (m4 : Cond.initialized C ∈ wsL_law) (m5 : Cond.code y c n r ∈ wsL_law) : GoodIn (x :: wsL_law) (wsV own i C y (mm_ws y c n r)) := by
  intro w hw
  rcases List.mem_append.mp hw with h | h
  · simp only [List.mem_cons, List.not_mem_nil, or_false] at h
    rcases h with rfl | rfl | rfl | rfl
    · exact mm_gC m1
    · exact mm_gC m2
    · exact mm_gC m3
    · exact mm_gC m4
  · exact mm_gA m5 w h
theorem mm_gS {x : Cond} {own : String} {i : Nat} {y : MethodName} {c : ByteArray} {n : Nat} {r : Option FieldType} (m1 : Cond.methodLink own i y ∈ wsL_law) (m2 : Cond.static y ∈ wsL_law) (m4 : Cond.initialized y.cls ∈ wsL_law) (m5 : Cond.code y c n r ∈ wsL_law) : GoodIn (x :: wsL_law) (va_wsS own i y (mm_ws y c n r)) := by
  intro w hw
  rcases List.mem_append.mp hw with h | h
  · simp only [List.mem_cons, List.not_mem_nil, or_false] at h
    rcases h with rfl | rfl | rfl
    · exact mm_gC m1
    · exact mm_gC m2
    · exact mm_gC m4
  · exact mm_gA m5 w h
theorem mm_h {x w : Cond} {args : Array Value} {s : State} (hts : ∀ w ∈ x :: wsL_law, w.before args s = true) (h : w ∈ wsL_law) : w.before args s = true := hts w (List.mem_cons_of_mem _ h)
theorem mm_i {x : Cond} {ws : List Cond} (h : ∀ w ∈ ws, w ∈ wsL_law) : ∀ w ∈ ws, w ∈ x :: wsL_law := fun w q => List.mem_cons_of_mem _ (h w q)
