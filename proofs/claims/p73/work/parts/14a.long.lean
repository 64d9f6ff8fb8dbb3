theorem mm_mull {v a b : Int64} {l1 h1 l2 h2 lo hi : Int} (e : v = a * b) (ha : mm_rl a l1 h1) (hb : mm_rl b l2 h2) (c : 0 ≤ l1 ∧ 0 ≤ l2 ∧ h1 * h2 ≤ 9223372036854775807) (d : lo ≤ l1 * l2 ∧ h1 * h2 ≤ hi) : mm_rl v lo hi := by
  have a0 : 0 ≤ a.toInt := Int.le_trans c.1 ha.1
  have b0 : 0 ≤ b.toInt := Int.le_trans c.2.1 hb.1
  have h0 : 0 ≤ h1 := Int.le_trans a0 ha.2
  have k1 : a.toInt * b.toInt ≤ h1 * h2 := Int.mul_le_mul ha.2 hb.2 b0 h0
  have k2 : l1 * l2 ≤ a.toInt * b.toInt := Int.mul_le_mul ha.1 hb.1 c.2.1 a0
  have k3 : 0 ≤ a.toInt * b.toInt := Int.mul_nonneg a0 b0
  have q : v.toInt = a.toInt * b.toInt := by
    rw [e, Int64.toInt_mul]
    exact mm_b64 (by omega) (Int.le_trans k1 c.2.2)
  exact ⟨by rw [q]; exact Int.le_trans d.1 k2, by rw [q]; exact Int.le_trans k1 d.2⟩
theorem mm_nzl {v : Int64} {lo hi : Int} (h : mm_rl v lo hi) (c : 1 ≤ lo) : ¬ v = 0 := fun e => by
  have := h.1
  rw [e] at this
  have z : (0 : Int64).toInt = 0 := by decide
  omega
theorem mm_divlE {v a b : Int64} {h1 h2 l2 : Int} (e : v = a / b) (ha : mm_rl a 0 h1) (hb : mm_rl b l2 h2) (c : 1 ≤ l2) : v.toInt = a.toInt / b.toInt := by
  rw [e, Int64.toInt_div, Int.tdiv_eq_ediv_of_nonneg ha.1]
  have hb0 : 1 ≤ b.toInt := Int.le_trans c hb.1
  have h1 : 0 ≤ a.toInt / b.toInt := Int.ediv_nonneg ha.1 (by omega)
  have h2 : a.toInt / b.toInt ≤ a.toInt := Int.ediv_le_self _ ha.1
  have h3 := (mm_topl a).2
  exact mm_b64 (by omega) (by omega)
theorem mm_divl {v a b : Int64} {l1 h1 h2 l2 lo hi : Int} (e : v = a / b) (ha : mm_rl a l1 h1) (hb : mm_rl b l2 h2) (c : 0 ≤ l1 ∧ 1 ≤ l2) (d : lo ≤ 0 ∧ h1 ≤ hi) : mm_rl v lo hi := by
  have q := mm_divlE e (mm_wkl ha ⟨c.1, Int.le_refl _⟩) hb c.2
  have a0 : 0 ≤ a.toInt := Int.le_trans c.1 ha.1
  have hb0 : 1 ≤ b.toInt := Int.le_trans c.2 hb.1
  have h1 : 0 ≤ a.toInt / b.toInt := Int.ediv_nonneg a0 (by omega)
  have h2 : a.toInt / b.toInt ≤ a.toInt := Int.ediv_le_self _ a0
  have := ha.2
  exact ⟨by omega, by omega⟩
theorem mm_remlE {v a b : Int64} {h1 h2 l2 : Int} (e : v = a - a / b * b) (ha : mm_rl a 0 h1) (hb : mm_rl b l2 h2) (c : 1 ≤ l2) : v.toInt = a.toInt % b.toInt := by
  have q := mm_divlE rfl ha hb c
  have hb0 : 1 ≤ b.toInt := Int.le_trans c hb.1
  have k1 : 0 ≤ a.toInt / b.toInt := Int.ediv_nonneg ha.1 (by omega)
  have k2 : a.toInt / b.toInt * b.toInt ≤ a.toInt := Int.ediv_mul_le _ (by omega)
  have k3 : 0 ≤ a.toInt / b.toInt * b.toInt := Int.mul_nonneg k1 (by omega)
  have ht := (mm_topl a).2
  have hm : (a / b * b).toInt = a.toInt / b.toInt * b.toInt := by
    rw [Int64.toInt_mul, q]
    exact mm_b64 (by omega) (by omega)
  have a0 := ha.1
  rw [e, Int64.toInt_sub, hm, mm_b64 (by omega) (by omega)]
  have := Int.emod_add_mul_ediv a.toInt b.toInt
  rw [Int.mul_comm] at this
  omega
theorem mm_reml {v a b : Int64} {l1 h1 h2 l2 lo hi : Int} (e : v = a - a / b * b) (ha : mm_rl a l1 h1) (hb : mm_rl b l2 h2) (c : 0 ≤ l1 ∧ 1 ≤ l2) (d : lo ≤ 0 ∧ h2 - 1 ≤ hi) : mm_rl v lo hi := by
  have q := mm_remlE e (mm_wkl ha ⟨c.1, Int.le_refl _⟩) hb c.2
  have hb0 : 1 ≤ b.toInt := Int.le_trans c.2 hb.1
  have k1 := Int.emod_nonneg a.toInt (b := b.toInt) (by omega)
  have k2 := Int.emod_lt_of_pos a.toInt (b := b.toInt) (by omega)
  have := hb.2
  exact ⟨by omega, by omega⟩
theorem mm_sublEc {v a b : Int64} {l1 h1 l2 h2 : Int} (e : v = a - b) (ha : mm_rl a l1 h1) (hb : mm_rl b l2 h2) (c : -9223372036854775808 ≤ l1 - h2 ∧ h1 - l2 ≤ 9223372036854775807) {k : Int} (hk : b.toInt = k) : v.toInt = a.toInt - k := by
  rw [e, Int64.toInt_sub, hk]
  have := ha.1; have := hb.1; have := ha.2; have := hb.2
  exact mm_b64 (by omega) (by omega)
theorem mm_addlE {v a b : Int64} {l1 h1 l2 h2 : Int} (e : v = a + b) (ha : mm_rl a l1 h1) (hb : mm_rl b l2 h2) (c : -9223372036854775808 ≤ l1 + l2 ∧ h1 + h2 ≤ 9223372036854775807) : v.toInt = a.toInt + b.toInt := by
  rw [e, Int64.toInt_add]
  have := ha.1; have := hb.1; have := ha.2; have := hb.2
  exact mm_b64 (by omega) (by omega)
theorem mm_addlEc {v a b : Int64} {l1 h1 l2 h2 : Int} (e : v = a + b) (ha : mm_rl a l1 h1) (hb : mm_rl b l2 h2) (c : -9223372036854775808 ≤ l1 + l2 ∧ h1 + h2 ≤ 9223372036854775807) {k : Int} (hk : b.toInt = k) : v.toInt = a.toInt + k := by
  rw [mm_addlE e ha hb c, hk]
