theorem mm_arr_ext {cA : ClassId} {n : Nat} {f g : Nat → Int32} (h : ∀ j, j < n → f j = g j) : vp_cell cA (n, .inl f) = vp_cell cA (n, .inl g) := by
  show arrV cA n (fun j => .int (f j)) = arrV cA n (fun j => .int (g j))
  unfold arrV
  congr 1
  apply Array.ext
  · simp
  · intro i h1 h2
    have hi : i < n := by simpa using h1
    simp [h i hi]
theorem mm_recont {A : Nat → Prop} {G : va_G} {cl : List vw_C} {ws : va_W} {H : Heap} (hP : va_P G cl ws H) (hD : va_D A ws) (q0 : Nat) {a n : Nat} {cA : ClassId} {f g : Nat → Int32} (he : ws[q0]? = some (a, .inl (cA, n, .inl f))) (h : ∀ j, j < n → f j = g j) : va_P G cl (ws.set q0 (a, .inl (cA, n, .inl g))) H ∧ va_D A (ws.set q0 (a, .inl (cA, n, .inl g))) := by
  refine ⟨?_, hD.set he⟩
  intro k q hq
  rw [List.getElem?_set] at hq
  split at hq
  · split at hq
    · cases hq
      have := hP q0 _ he
      show H[a]? = some (vp_cell cA (n, .inl g))
      rw [← mm_arr_ext h]
      exact this
    · cases hq
  · exact hP k q hq
theorem mm_out (x : Int32) (lo hi : Int) : x.toInt < lo ∨ hi < x.toInt ∨ mm_rg x lo hi := by
  by_cases h1 : x.toInt < lo
  · exact Or.inl h1
  · by_cases h2 : hi < x.toInt
    · exact Or.inr (Or.inl h2)
    · exact Or.inr (Or.inr ⟨by omega, by omega⟩)
theorem mm_nn {v : Int32} {lo hi : Int} (h : mm_rg v lo hi) (c : 0 ≤ lo) : ¬ v < 0 := fun q => by
  have := mm_lt q
  have z0 : (0 : Int32).toInt = 0 := by decide
  have := h.1
  omega
theorem mm_clI {v : Int32} {lo hi : Int} (h : mm_rg v lo hi) (c : 0 ≤ lo) : (v.toNatClampNeg : Int) = v.toInt := by
  have : v.toNatClampNeg = v.toInt.toNat := rfl
  have := h.1
  omega
theorem mm_cp {p q : Int32} {l1 h1 l2 h2 : Int} {n : Nat} (hp : mm_rg p l1 h1) (hq : mm_rg q l2 h2) (c : 0 ≤ l1 ∧ 0 ≤ l2 ∧ h1 + h2 ≤ (n : Int)) : p.toNatClampNeg + q.toNatClampNeg ≤ n := by
  have e1 := mm_clI hp c.1
  have e2 := mm_clI hq c.2.1
  have := hp.2; have := hq.2
  omega
theorem mm_lit {v : Int32} {lo hi : Int} {P : Prop} (h : mm_rg v lo hi) (c : v.toInt < lo ∨ hi < v.toInt) : P := by
  have := h.1; have := h.2
  omega
theorem mm_litl {v : Int64} {lo hi : Int} {P : Prop} (h : mm_rl v lo hi) (c : v.toInt < lo ∨ hi < v.toInt) : P := by
  have := h.1; have := h.2
  omega
theorem mm_nz1 (x : Int32) : mm_rg (vp_nar .boolean x) 0 1 := by
  have e : vp_nar .boolean x = x &&& 1 := rfl
  exact mm_andR e (show mm_rg 1 1 1 from ⟨by decide, by decide⟩) (by decide)
theorem mm_l2x {v : Int64} {x : Int32} {lo hi : Int} (e : v = x.toInt64) (h : mm_rl v lo hi) : mm_rg x lo hi := by
  have h3 : v.toInt = x.toInt := mm_i2lE e
  exact ⟨by rw [← h3]; exact h.1, by rw [← h3]; exact h.2⟩
theorem mm_neC {a b : Int32} {l1 h1 l2 h2 : Int} (ha : mm_rg a l1 h1) (hb : mm_rg b l2 h2) (c : h1 < l2 ∨ h2 < l1) : a.toInt ≠ b.toInt := by
  have := ha.1; have := ha.2; have := hb.1; have := hb.2
  omega
