theorem mm_nests_in : ∀ w ∈ mm_nests, w ∈ lw_tbl := List.forall_mem_cons.mpr ⟨mm_at mm_Ta0 32 rfl, List.forall_mem_cons.mpr ⟨mm_at mm_Ta0 229 rfl, List.forall_mem_cons.mpr ⟨mm_at mm_Ta0 233 rfl, List.forall_mem_cons.mpr ⟨mm_at mm_Ta1 20 rfl, List.forall_mem_cons.mpr ⟨mm_at mm_Ta0 187 rfl, List.forall_mem_cons.mpr ⟨mm_at mm_Ta0 191 rfl, List.forall_mem_cons.mpr ⟨mm_at mm_Ta0 55 rfl, List.forall_mem_cons.mpr ⟨mm_at mm_Ta2 120 rfl, fun _ h => absurd h List.not_mem_nil⟩⟩⟩⟩⟩⟩⟩⟩
theorem mm_nests_ot : ∀ w ∈ mm_nests, w.onTables = true := by
  intro w hw
  simp only [mm_nests, List.mem_cons, List.not_mem_nil, or_false] at hw
  rcases hw with rfl | rfl | rfl | rfl | rfl | rfl | rfl | rfl <;> rfl
theorem mm_arrK {args : Array Value} {s : State} {ty : FieldType} (h : (Cond.arrayClass ty).before args s = true) : ∃ cA : ClassId, ArrOfT s cA ty ∧ s.vm.findClass ("[" ++ ty.toString) = some cA := by
  obtain ⟨cA, kA, comp, h1, h2, h3⟩ := Cond.arrayClass_spec h
  exact ⟨cA, fun n z => ⟨(fun k h => by cases h), kA, h2, comp, h3⟩, h1⟩
theorem mm_arrO {args : Array Value} {s : State} {C : String} (h : (Cond.arrayOver (.object C)).before args s = true) : ∃ cA : ClassId, ArrOfT s cA (.object C) ∧ va_RA s cA (.object C) := by
  obtain ⟨comp, cA, kA, h1, _, h2, h3, h4⟩ := Cond.arrayOver_spec h
  exact ⟨cA, fun n z => ⟨(fun k h => by cases h), kA, h2, comp, h3⟩, kA, comp, h2, h3, h1, h4⟩
theorem mm_start {args : Array Value} {s : State} (hts : ∀ w ∈ lw_tbl, w.before args s = true) : ∃ (G : va_G) (cy : Nat → ClassId), mm_K G cy s := by
  have htw : ∀ w ∈ wsL_law, w.before args s = true := fun w h => hts w (wsL_law_in w h)
  obtain ⟨c0, i0, hk0⟩ := u_known (C := RX0) (T := TX0) (N := 18) (n := 18) htw inlX0 (htw _ mm_w27)
  obtain ⟨c1, i1, hk1⟩ := u_known (C := RX1) (T := TX1) (N := 5) (n := 5) htw inlX1 (htw _ mm_w90)
  obtain ⟨c2, i2, hk2⟩ := u_known (C := RX2) (T := TX2) (N := 3) (n := 3) htw inlX2 (htw _ mm_w48)
  obtain ⟨c3, i3, hk3⟩ := u_known (C := RX3) (T := TX3) (N := 4) (n := 4) htw inlX3 (htw _ mm_w40)
  obtain ⟨c4, i4, hk4⟩ := u_known (C := RX4) (T := TX4) (N := 9) (n := 9) htw inlX4 (htw _ mm_w44)
  obtain ⟨c5, i5, hk5⟩ := u_known (C := RX5) (T := TX5) (N := 2) (n := 2) htw inlX5 (htw _ mm_w52)
  obtain ⟨c6, i6, hk6⟩ := u_known (C := RX6) (T := TX6) (N := 4) (n := 4) htw inlX6 (htw _ mm_w33)
  obtain ⟨c7, i7, hk7⟩ := u_known (C := RX7) (T := TX7) (N := 8) (n := 8) htw inlX7 (htw _ mm_w18)
  obtain ⟨c8, i8, hk8⟩ := u_known (C := RX8) (T := TX8) (N := 2) (n := 2) htw inlX8 (htw _ mm_w36)
  obtain ⟨c9, i9, hk9⟩ := u_known (C := RX9) (T := TX9) (N := 2) (n := 2) htw inlX9 (htw _ mm_w14)
  obtain ⟨c10, i10, hk10⟩ := u_known (C := RX10) (T := TX10) (N := 2) (n := 2) htw inlX10 (htw _ mm_w22)
  obtain ⟨c11, i11, hk11⟩ := u_known (C := RX11) (T := TX11) (N := 11) (n := 11) htw inlX11 (htw _ mm_w1)
  obtain ⟨c12, i12, hk12⟩ := u_known (C := RX12) (T := TX12) (N := 38) (n := 38) htw inlX12 (htw _ mm_w4)
  obtain ⟨yB, aB, bB⟩ := mm_arrK (hts (.arrayClass .byte) (mm_at mm_Ta0 46 rfl))
  obtain ⟨yI, aI, bI⟩ := mm_arrK (hts (.arrayClass .int) (mm_at mm_Ta0 151 rfl))
  obtain ⟨yJ, aJ, bJ⟩ := mm_arrK (hts (.arrayClass .long) (mm_at mm_Ta1 17 rfl))
  obtain ⟨yZ, aZ, bZ⟩ := mm_arrK (hts (.arrayClass .boolean) (mm_at mm_Ta1 16 rfl))
  obtain ⟨yK, aK, bK⟩ := mm_arrO (hts (.arrayOver (.object "MissingMeaning$Book")) mm_ao0)
  obtain ⟨yC, aC, bC⟩ := mm_arrO (hts (.arrayOver (.object "MissingMeaning$Calendar")) mm_ao1)
  obtain ⟨yR, aR, bR⟩ := mm_arrO (hts (.arrayOver (.object "MissingMeaning$Row")) mm_ao6)
  refine ⟨(fun k => ([c0, c1, c2, c3, c4, c5, c6, c7, c8, c9, c10, c11, c12] : List ClassId).getD k c0, fun k => ([i0, i1, i2, i3, i4, i5, i6, i7, i8, i9, i10, i11, i12] : List (Nat → Nat)).getD k i0), fun k => ([yB, yI, yJ, yZ, yK, yC, yR] : List ClassId).getD k yB, ⟨?_, ?_⟩, ⟨va_AO.of (hts _ mm_ao0), va_AO.of (hts _ mm_ao1), va_AO.of (hts _ mm_ao6)⟩, ?_⟩
  · intro k q hq
    match k, hq with
    | 0, hq => cases hq; exact hk0
    | 1, hq => cases hq; exact hk1
    | 2, hq => cases hq; exact hk2
    | 3, hq => cases hq; exact hk3
    | 4, hq => cases hq; exact hk4
    | 5, hq => cases hq; exact hk5
    | 6, hq => cases hq; exact hk6
    | 7, hq => cases hq; exact hk7
    | 8, hq => cases hq; exact hk8
    | 9, hq => cases hq; exact hk9
    | 10, hq => cases hq; exact hk10
    | 11, hq => cases hq; exact hk11
    | 12, hq => cases hq; exact hk12
    | k + 13, hq => simp [vwCl] at hq
  · intro k q hq
    match k, hq with
    | 0, hq => cases hq; exact ⟨aB, bB⟩
    | 1, hq => cases hq; exact ⟨aI, bI⟩
    | 2, hq => cases hq; exact ⟨aJ, bJ⟩
    | 3, hq => cases hq; exact ⟨aZ, bZ⟩
    | 4, hq => cases hq; exact ⟨aK, bK⟩
    | 5, hq => cases hq; exact ⟨aC, bC⟩
    | 6, hq => cases hq; exact ⟨aR, bR⟩
    | k + 7, hq => simp [mm_TY] at hq
  · intro w hw
    exact va_Nw.of (mm_nests_ot w hw) (hts w (mm_nests_in w hw))
