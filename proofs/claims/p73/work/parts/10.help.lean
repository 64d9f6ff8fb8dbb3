/-! ===== numbers in ranges ===== -/
def mm_rg (v : Int32) (lo hi : Int) : Prop := lo ≤ v.toInt ∧ v.toInt ≤ hi
def mm_ar (f : Nat → Int32) (lo hi : Int) : Prop := ∀ k, mm_rg (f k) lo hi
theorem mm_b32 {x : Int} (h1 : -2147483648 ≤ x) (h2 : x ≤ 2147483647) : Int.bmod x (2 ^ 32) = x := Int.bmod_eq_of_le (by omega) (by omega)
theorem mm_top (v : Int32) : mm_rg v (-2147483648) 2147483647 := ⟨by have := Int32.le_toInt v; omega, by have := Int32.toInt_lt v; omega⟩
theorem mm_wk {v : Int32} {lo hi l2 h2 : Int} (h : mm_rg v lo hi) (c : l2 ≤ lo ∧ hi ≤ h2) : mm_rg v l2 h2 := ⟨Int.le_trans c.1 h.1, Int.le_trans h.2 c.2⟩
theorem mm_eqv {v w : Int32} {lo hi : Int} (e : v = w) (h : mm_rg w lo hi) : mm_rg v lo hi := by rw [e]; exact h
theorem mm_addE {v a b : Int32} {l1 h1 l2 h2 : Int} (e : v = a + b) (ha : mm_rg a l1 h1) (hb : mm_rg b l2 h2) (c : -2147483648 ≤ l1 + l2 ∧ h1 + h2 ≤ 2147483647) : v.toInt = a.toInt + b.toInt := by
  rw [e, Int32.toInt_add]
  exact mm_b32 (by have := ha.1; have := hb.1; omega) (by have := ha.2; have := hb.2; omega)
theorem mm_add {v a b : Int32} {l1 h1 l2 h2 : Int} (e : v = a + b) (ha : mm_rg a l1 h1) (hb : mm_rg b l2 h2) (c : -2147483648 ≤ l1 + l2 ∧ h1 + h2 ≤ 2147483647) {lo hi : Int} (d : lo ≤ l1 + l2 ∧ h1 + h2 ≤ hi) : mm_rg v lo hi := by
  have q := mm_addE e ha hb c
  have := ha.1; have := hb.1; have := ha.2; have := hb.2
  exact ⟨by omega, by omega⟩
theorem mm_subE {v a b : Int32} {l1 h1 l2 h2 : Int} (e : v = a - b) (ha : mm_rg a l1 h1) (hb : mm_rg b l2 h2) (c : -2147483648 ≤ l1 - h2 ∧ h1 - l2 ≤ 2147483647) : v.toInt = a.toInt - b.toInt := by
  rw [e, Int32.toInt_sub]
  exact mm_b32 (by have := ha.1; have := hb.2; omega) (by have := ha.2; have := hb.1; omega)
theorem mm_sub {v a b : Int32} {l1 h1 l2 h2 : Int} (e : v = a - b) (ha : mm_rg a l1 h1) (hb : mm_rg b l2 h2) (c : -2147483648 ≤ l1 - h2 ∧ h1 - l2 ≤ 2147483647) {lo hi : Int} (d : lo ≤ l1 - h2 ∧ h1 - l2 ≤ hi) : mm_rg v lo hi := by
  have q := mm_subE e ha hb c
  have := ha.1; have := hb.1; have := ha.2; have := hb.2
  exact ⟨by omega, by omega⟩
theorem mm_mulE {v a b : Int32} {h1 h2 : Int} (e : v = a * b) (ha : mm_rg a 0 h1) (hb : mm_rg b 0 h2) (c : h1 * h2 ≤ 2147483647) : v.toInt = a.toInt * b.toInt := by
  rw [e, Int32.toInt_mul]
  have h0 : 0 ≤ h1 := Int.le_trans ha.1 ha.2
  exact mm_b32 (by have := Int.mul_nonneg ha.1 hb.1; omega) (Int.le_trans (Int.mul_le_mul ha.2 hb.2 hb.1 h0) c)
theorem mm_mul {v a b : Int32} {l1 h1 l2 h2 : Int} (e : v = a * b) (ha : mm_rg a l1 h1) (hb : mm_rg b l2 h2) (c : 0 ≤ l1 ∧ 0 ≤ l2 ∧ h1 * h2 ≤ 2147483647) {lo hi : Int} (d : lo ≤ l1 * l2 ∧ h1 * h2 ≤ hi) : mm_rg v lo hi := by
  have q := mm_mulE e (mm_wk ha ⟨c.1, Int.le_refl _⟩) (mm_wk hb ⟨c.2.1, Int.le_refl _⟩) c.2.2
  have h0 : 0 ≤ h1 := Int.le_trans (Int.le_trans c.1 ha.1) ha.2
  have b0 : 0 ≤ b.toInt := Int.le_trans c.2.1 hb.1
  have a0 : 0 ≤ a.toInt := Int.le_trans c.1 ha.1
  refine ⟨?_, ?_⟩
  · rw [q]; exact Int.le_trans d.1 (Int.mul_le_mul ha.1 hb.1 c.2.1 a0)
  · rw [q]; exact Int.le_trans (Int.mul_le_mul ha.2 hb.2 b0 h0) d.2
theorem mm_divE {v a b : Int32} {h1 h2 l2 : Int} (e : v = a / b) (ha : mm_rg a 0 h1) (hb : mm_rg b l2 h2) (c : 1 ≤ l2) : v.toInt = a.toInt / b.toInt := by
  rw [e, Int32.toInt_div, Int.tdiv_eq_ediv_of_nonneg ha.1]
  have hb0 : 1 ≤ b.toInt := Int.le_trans c hb.1
  have h1 : 0 ≤ a.toInt / b.toInt := Int.ediv_nonneg ha.1 (by omega)
  have h2 : a.toInt / b.toInt ≤ a.toInt := Int.ediv_le_self _ ha.1
  have h3 := (mm_top a).2
  exact mm_b32 (by omega) (by omega)
theorem mm_div {v a b : Int32} {l1 h1 h2 l2 : Int} (e : v = a / b) (ha : mm_rg a l1 h1) (hb : mm_rg b l2 h2) (c : 0 ≤ l1 ∧ 1 ≤ l2) {lo hi : Int} (d : lo ≤ 0 ∧ h1 ≤ hi) : mm_rg v lo hi := by
  have q := mm_divE e (mm_wk ha ⟨c.1, Int.le_refl _⟩) hb c.2
  have a0 : 0 ≤ a.toInt := Int.le_trans c.1 ha.1
  have hb0 : 1 ≤ b.toInt := Int.le_trans c.2 hb.1
  have h1 : 0 ≤ a.toInt / b.toInt := Int.ediv_nonneg a0 (by omega)
  have h2 : a.toInt / b.toInt ≤ a.toInt := Int.ediv_le_self _ a0
  have := ha.2
  exact ⟨by omega, by omega⟩
theorem mm_remE {v a b : Int32} {h1 h2 l2 : Int} (e : v = a - a / b * b) (ha : mm_rg a 0 h1) (hb : mm_rg b l2 h2) (c : 1 ≤ l2) : v.toInt = a.toInt % b.toInt := by
  have q := mm_divE rfl ha hb c
  have hb0 : 1 ≤ b.toInt := Int.le_trans c hb.1
  have k1 : 0 ≤ a.toInt / b.toInt := Int.ediv_nonneg ha.1 (by omega)
  have k2 : a.toInt / b.toInt * b.toInt ≤ a.toInt := Int.ediv_mul_le _ (by omega)
  have k3 : 0 ≤ a.toInt / b.toInt * b.toInt := Int.mul_nonneg k1 (by omega)
  have ht := (mm_top a).2
  have hm : (a / b * b).toInt = a.toInt / b.toInt * b.toInt := by
    rw [Int32.toInt_mul, q]
    exact mm_b32 (by omega) (by omega)
  have a0 := ha.1
  rw [e, Int32.toInt_sub, hm, mm_b32 (by omega) (by omega)]
  have := Int.emod_add_mul_ediv a.toInt b.toInt
  rw [Int.mul_comm] at this
  omega
theorem mm_rem {v a b : Int32} {l1 h1 h2 l2 : Int} (e : v = a - a / b * b) (ha : mm_rg a l1 h1) (hb : mm_rg b l2 h2) (c : 0 ≤ l1 ∧ 1 ≤ l2) {lo hi : Int} (d : lo ≤ 0 ∧ h2 - 1 ≤ hi) : mm_rg v lo hi := by
  have q := mm_remE e (mm_wk ha ⟨c.1, Int.le_refl _⟩) hb c.2
  have hb0 : 1 ≤ b.toInt := Int.le_trans c.2 hb.1
  have k1 := Int.emod_nonneg a.toInt (b := b.toInt) (by omega)
  have k2 := Int.emod_lt_of_pos a.toInt (b := b.toInt) (by omega)
  have := hb.2
  exact ⟨by omega, by omega⟩
theorem mm_lt {a b : Int32} (h : a < b) : a.toInt < b.toInt := Int32.lt_iff_toInt_lt.mp h
theorem mm_le {a b : Int32} (h : a ≤ b) : a.toInt ≤ b.toInt := Int32.le_iff_toInt_le.mp h
theorem mm_nlt {a b : Int32} (h : ¬ a < b) : b.toInt ≤ a.toInt := Int.not_lt.mp (fun q => h (Int32.lt_iff_toInt_lt.mpr q))
theorem mm_nle {a b : Int32} (h : ¬ a ≤ b) : b.toInt < a.toInt := Int.not_le.mp (fun q => h (Int32.le_iff_toInt_le.mpr q))
theorem mm_eq {a b : Int32} (h : a.toInt = b.toInt) : a = b := Int32.toInt_inj.mp h
theorem mm_ne {a b : Int32} (h : ¬ a = b) : a.toInt ≠ b.toInt := fun q => h (Int32.toInt_inj.mp q)
/-- of two in ranges, the lesser and the greater one: what each is then -/
theorem mm_leL {a b : Int32} {l1 h1 l2 h2 : Int} (k : a.toInt ≤ b.toInt) (ha : mm_rg a l1 h1) (hb : mm_rg b l2 h2) : mm_rg a l1 h2 := ⟨ha.1, Int.le_trans k hb.2⟩
theorem mm_leR {a b : Int32} {l1 h1 l2 h2 : Int} (k : a.toInt ≤ b.toInt) (ha : mm_rg a l1 h1) (hb : mm_rg b l2 h2) : mm_rg b l1 h2 := ⟨Int.le_trans ha.1 k, hb.2⟩
theorem mm_ltL {a b : Int32} {l1 h1 l2 h2 : Int} (k : a.toInt < b.toInt) (ha : mm_rg a l1 h1) (hb : mm_rg b l2 h2) {h : Int} (e : h2 - 1 ≤ h) : mm_rg a l1 h := ⟨ha.1, by have := hb.2; omega⟩
theorem mm_ltR {a b : Int32} {l1 h1 l2 h2 : Int} (k : a.toInt < b.toInt) (ha : mm_rg a l1 h1) (hb : mm_rg b l2 h2) {lo : Int} (e : lo ≤ l1 + 1) : mm_rg b lo h2 := ⟨by have := ha.1; omega, hb.2⟩
theorem mm_neL {a b : Int32} {l1 h1 l2 h2 : Int} (k : a.toInt ≠ b.toInt) (ha : mm_rg a l1 h1) (hb : mm_rg b l2 h2) (e : l1 = l2 ∧ l2 = h2) {lo : Int} (d : lo ≤ l1 + 1) : mm_rg a lo h1 := ⟨by have := ha.1; have := hb.1; have := hb.2; omega, ha.2⟩
theorem mm_neH {a b : Int32} {l1 h1 l2 h2 : Int} (k : a.toInt ≠ b.toInt) (ha : mm_rg a l1 h1) (hb : mm_rg b l2 h2) (e : h1 = l2 ∧ l2 = h2) {hi : Int} (d : h1 - 1 ≤ hi) : mm_rg a l1 hi := ⟨ha.1, by have := ha.2; have := hb.1; have := hb.2; omega⟩
theorem mm_no {a : Int32} {lo hi : Int} {P : Prop} (h : mm_rg a lo hi) (e : hi < lo) : P := absurd (Int.le_trans h.1 h.2) (Int.not_le.mpr e)
theorem mm_noT {a : Int32} {lo hi : Int} {P : Prop} (h : mm_rg a lo hi) (e : hi < lo) : P := mm_no h e
theorem mm_in {v : Int32} {lo hi : Int} {n : Nat} (h : mm_rg v lo hi) (c : 0 ≤ lo ∧ hi < (n : Int)) : vp_in v n := vp_in_iff.mpr ⟨Int.le_trans c.1 h.1, by have := h.2; omega⟩
theorem mm_nz {v : Int32} {lo hi : Int} (h : mm_rg v lo hi) (c : 1 ≤ lo) : ¬ v = 0 := fun e => by
  have := h.1
  rw [e] at this
  have z : (0 : Int32).toInt = 0 := by decide
  omega
theorem mm_ar_upd {f : Nat → Int32} {lo hi : Int} (h : mm_ar f lo hi) {x : Int32} (hx : mm_rg x lo hi) (k : Nat) : mm_ar (upd f k x) lo hi := by
  intro j
  by_cases e : j = k
  · rw [e, pk_us]; exact hx
  · rw [pk_un e]; exact h j
theorem mm_ar_wk {f : Nat → Int32} {lo hi l2 h2 : Int} (h : mm_ar f lo hi) (c : l2 ≤ lo ∧ hi ≤ h2) : mm_ar f l2 h2 := fun k => mm_wk (h k) c
theorem mm_ar_cpy {f g : Nat → Int32} {lo hi : Int} (hf : mm_ar f lo hi) (hg : mm_ar g lo hi) (a b n : Nat) : mm_ar (va_cpy f g a b n) lo hi := by
  intro j
  unfold va_cpy
  split
  · exact hf _
  · exact hg _
theorem mm_ar_c {v : Int32} {lo hi : Int} (h : mm_rg v lo hi) : mm_ar (fun _ => v) lo hi := fun _ => h
theorem mm_leC {a b : Int32} {l1 h1 l2 h2 : Int} (ha : mm_rg a l1 h1) (hb : mm_rg b l2 h2) (c : h1 ≤ l2) : a.toInt ≤ b.toInt := Int.le_trans ha.2 (Int.le_trans c hb.1)
theorem mm_ltC {a b : Int32} {l1 h1 l2 h2 : Int} (ha : mm_rg a l1 h1) (hb : mm_rg b l2 h2) (c : h1 < l2) : a.toInt < b.toInt := by have := ha.2; have := hb.1; omega
theorem mm_eqC {a b : Int32} {l1 h1 l2 h2 : Int} (ha : mm_rg a l1 h1) (hb : mm_rg b l2 h2) (c : l1 = h1 ∧ h1 = l2 ∧ l2 = h2) : a = b := mm_eq (by have := ha.1; have := ha.2; have := hb.1; have := hb.2; omega)
theorem mm_eqI {a b : Int32} {l1 h1 l2 h2 lo hi : Int} (e : a = b) (ha : mm_rg a l1 h1) (hb : mm_rg b l2 h2) (c : (lo ≤ l1 ∨ lo ≤ l2) ∧ (h1 ≤ hi ∨ h2 ≤ hi)) : mm_rg a lo hi := by
  rw [← e] at hb
  have := ha.1; have := ha.2; have := hb.1; have := hb.2
  exact ⟨by omega, by omega⟩
theorem mm_eqN {a b : Int32} {l1 h1 l2 h2 : Int} {P : Prop} (e : a = b) (ha : mm_rg a l1 h1) (hb : mm_rg b l2 h2) (c : h1 < l2) : P := by
  rw [← e] at hb
  have := ha.2; have := hb.1
  omega
theorem mm_noX {a : Int32} {l1 h1 l2 h2 : Int} {P : Prop} (ha : mm_rg a l1 h1) (hb : mm_rg a l2 h2) (c : h1 < l2 ∨ h2 < l1) : P := by
  have := ha.1; have := ha.2; have := hb.1; have := hb.2
  omega
theorem mm_meet {a : Int32} {l1 h1 l2 h2 lo hi : Int} (ha : mm_rg a l1 h1) (hb : mm_rg a l2 h2) (c : (lo ≤ l1 ∨ lo ≤ l2) ∧ (h1 ≤ hi ∨ h2 ≤ hi)) : mm_rg a lo hi := mm_eqI rfl ha hb c
theorem mm_mu {n : Nat} {M c : Int} {v w : Int32} (hm : (M - v.toInt).toNat < n + 1) (e : w.toInt = v.toInt + c) (h1 : 1 ≤ c) {h2 : Int} (h : w.toInt ≤ h2) (hM : h2 ≤ M) : (M - w.toInt).toNat < n := by omega
theorem mm_md {n : Nat} {M c : Int} {v w : Int32} (hm : (v.toInt - M).toNat < n + 1) (e : w.toInt = v.toInt + c) (h1 : c ≤ -1) {h2 : Int} (h : h2 ≤ w.toInt) (hM : M ≤ h2) : (w.toInt - M).toNat < n := by omega
theorem mm_is {v : Int32} {lo hi : Int} (h : mm_rg v lo hi) (k : Int32) (c : lo = k.toInt ∧ hi = k.toInt) : v = k := mm_eq (by have := h.1; have := h.2; omega)
theorem mm_cases2 {v : Int32} (h : mm_rg v 0 1) : v = 0 ∨ v = 1 := by
  have z0 : (0 : Int32).toInt = 0 := by decide
  have z1 : (1 : Int32).toInt = 1 := by decide
  by_cases q : v.toInt < 1
  · exact Or.inl (mm_eq (by have := h.1; omega))
  · exact Or.inr (mm_eq (by have := h.2; omega))
theorem mm_01 {v : Int32} (h : mm_rg v 0 1) : v = 0 ∨ v = 1 := mm_cases2 h
theorem mm_cases3 {v : Int32} (h : mm_rg v 0 2) : v = 0 ∨ v = 1 ∨ v = 2 := by
  have z2 : (2 : Int32).toInt = 2 := by decide
  by_cases q : v.toInt < 2
  · rcases mm_cases2 ⟨h.1, by omega⟩ with r | r
    · exact Or.inl r
    · exact Or.inr (Or.inl r)
  · exact Or.inr (Or.inr (mm_eq (by have := h.2; omega)))
theorem mm_cases4 {v : Int32} (h : mm_rg v 0 3) : v = 0 ∨ v = 1 ∨ v = 2 ∨ v = 3 := by
  have z3 : (3 : Int32).toInt = 3 := by decide
  by_cases q : v.toInt < 3
  · rcases mm_cases3 ⟨h.1, by omega⟩ with r | r | r
    · exact Or.inl r
    · exact Or.inr (Or.inl r)
    · exact Or.inr (Or.inr (Or.inl r))
  · exact Or.inr (Or.inr (Or.inr (mm_eq (by have := h.2; omega))))
theorem mm_i2b {v x : Int32} (e : v = x.toInt8.toInt32) : mm_rg v (-128) 127 := by
  rw [e]
  have h1 := Int8.le_toInt x.toInt8
  have h2 := Int8.toInt_lt x.toInt8
  have h3 : (x.toInt8.toInt32).toInt = x.toInt8.toInt := Int8.toInt_toInt32 _
  exact ⟨by rw [h3]; omega, by rw [h3]; omega⟩
theorem mm_nb (x : Int32) : mm_rg (vp_nar .byte x) (-128) 127 := mm_i2b (vp_nar_byte x)
theorem mm_andR {v a b : Int32} {l2 h2 : Int} (e : v = a &&& b) (hb : mm_rg b l2 h2) (c : 0 ≤ l2) : mm_rg v 0 h2 := by
  obtain ⟨j, hj, rfl⟩ : ∃ j : Nat, j < 2 ^ 31 ∧ b = nI j := nI_of (fun h => by
    have h1 := mm_lt h
    have z0 : (0 : Int32).toInt = 0 := by decide
    have := hb.1
    omega)
  have hq : v.toBitVec.toNat ≤ j := by
    rw [e]
    have : (a &&& nI j).toBitVec = a.toBitVec &&& (nI j).toBitVec := rfl
    rw [this, BitVec.toNat_and, pk_tn (by omega)]
    exact Nat.and_le_right
  have hv : v.toInt = (v.toBitVec.toNat : Int) := by
    have : v.toInt = v.toBitVec.toInt := rfl
    rw [this, BitVec.toInt_eq_toNat_of_lt (by omega)]
  have hb2 := hb.2
  rw [nI_toInt hj] at hb2
  exact ⟨by omega, by omega⟩
theorem mm_min {v x y : Int32} {l1 h1 l2 h2 lo hi : Int} (e : v = if y < x then y else x) (ha : mm_rg x l1 h1) (hb : mm_rg y l2 h2) (c : lo ≤ l1 ∧ lo ≤ l2 ∧ (h1 ≤ hi ∨ h2 ≤ hi)) : mm_rg v lo hi := by
  have := ha.1; have := ha.2; have := hb.1; have := hb.2
  rw [e]
  split
  · rename_i q; have := mm_lt q; exact ⟨by omega, by omega⟩
  · rename_i q; have := mm_nlt q; exact ⟨by omega, by omega⟩
theorem mm_max {v x y : Int32} {l1 h1 l2 h2 lo hi : Int} (e : v = if x < y then y else x) (ha : mm_rg x l1 h1) (hb : mm_rg y l2 h2) (c : (lo ≤ l1 ∨ lo ≤ l2) ∧ h1 ≤ hi ∧ h2 ≤ hi) : mm_rg v lo hi := by
  have := ha.1; have := ha.2; have := hb.1; have := hb.2
  rw [e]
  split
  · rename_i q; have := mm_lt q; exact ⟨by omega, by omega⟩
  · rename_i q; have := mm_nlt q; exact ⟨by omega, by omega⟩
/-! ===== long numbers ===== -/
def mm_rl (v : Int64) (lo hi : Int) : Prop := lo ≤ v.toInt ∧ v.toInt ≤ hi
def mm_al (f : Nat → Int64) (lo hi : Int) : Prop := ∀ k, mm_rl (f k) lo hi
theorem mm_b64 {x : Int} (h1 : -9223372036854775808 ≤ x) (h2 : x ≤ 9223372036854775807) : Int.bmod x (2 ^ 64) = x := Int.bmod_eq_of_le (by omega) (by omega)
theorem mm_topl (v : Int64) : mm_rl v (-9223372036854775808) 9223372036854775807 := ⟨by have := Int64.le_toInt v; omega, by have := Int64.toInt_lt v; omega⟩
theorem mm_wkl {v : Int64} {lo hi l2 h2 : Int} (h : mm_rl v lo hi) (c : l2 ≤ lo ∧ hi ≤ h2) : mm_rl v l2 h2 := ⟨Int.le_trans c.1 h.1, Int.le_trans h.2 c.2⟩
theorem mm_eqvl {v w : Int64} {lo hi : Int} (e : v = w) (h : mm_rl w lo hi) : mm_rl v lo hi := by rw [e]; exact h
theorem mm_leLl {a b : Int64} {l1 h1 l2 h2 : Int} (k : a.toInt ≤ b.toInt) (ha : mm_rl a l1 h1) (hb : mm_rl b l2 h2) : mm_rl a l1 h2 := ⟨ha.1, Int.le_trans k hb.2⟩
theorem mm_leRl {a b : Int64} {l1 h1 l2 h2 : Int} (k : a.toInt ≤ b.toInt) (ha : mm_rl a l1 h1) (hb : mm_rl b l2 h2) : mm_rl b l1 h2 := ⟨Int.le_trans ha.1 k, hb.2⟩
theorem mm_ltLl {a b : Int64} {l1 h1 l2 h2 : Int} (k : a.toInt < b.toInt) (ha : mm_rl a l1 h1) (hb : mm_rl b l2 h2) {h : Int} (e : h2 - 1 ≤ h) : mm_rl a l1 h := ⟨ha.1, by have := hb.2; omega⟩
theorem mm_ltRl {a b : Int64} {l1 h1 l2 h2 : Int} (k : a.toInt < b.toInt) (ha : mm_rl a l1 h1) (hb : mm_rl b l2 h2) {lo : Int} (e : lo ≤ l1 + 1) : mm_rl b lo h2 := ⟨by have := ha.1; omega, hb.2⟩
theorem mm_neLl {a b : Int64} {l1 h1 l2 h2 : Int} (k : a.toInt ≠ b.toInt) (ha : mm_rl a l1 h1) (hb : mm_rl b l2 h2) (e : l1 = l2 ∧ l2 = h2) {lo : Int} (d : lo ≤ l1 + 1) : mm_rl a lo h1 := ⟨by have := ha.1; have := hb.1; have := hb.2; omega, ha.2⟩
theorem mm_neHl {a b : Int64} {l1 h1 l2 h2 : Int} (k : a.toInt ≠ b.toInt) (ha : mm_rl a l1 h1) (hb : mm_rl b l2 h2) (e : h1 = l2 ∧ l2 = h2) {hi : Int} (d : h1 - 1 ≤ hi) : mm_rl a l1 hi := ⟨ha.1, by have := ha.2; have := hb.1; have := hb.2; omega⟩
theorem mm_nol {a : Int64} {lo hi : Int} {P : Prop} (h : mm_rl a lo hi) (e : hi < lo) : P := absurd (Int.le_trans h.1 h.2) (Int.not_le.mpr e)
theorem mm_leCl {a b : Int64} {l1 h1 l2 h2 : Int} (ha : mm_rl a l1 h1) (hb : mm_rl b l2 h2) (c : h1 ≤ l2) : a.toInt ≤ b.toInt := Int.le_trans ha.2 (Int.le_trans c hb.1)
theorem mm_ltCl {a b : Int64} {l1 h1 l2 h2 : Int} (ha : mm_rl a l1 h1) (hb : mm_rl b l2 h2) (c : h1 < l2) : a.toInt < b.toInt := by have := ha.2; have := hb.1; omega
theorem mm_eqIl {a b : Int64} {l1 h1 l2 h2 lo hi : Int} (e : a = b) (ha : mm_rl a l1 h1) (hb : mm_rl b l2 h2) (c : (lo ≤ l1 ∨ lo ≤ l2) ∧ (h1 ≤ hi ∨ h2 ≤ hi)) : mm_rl a lo hi := by
  rw [← e] at hb
  have := ha.1; have := ha.2; have := hb.1; have := hb.2
  exact ⟨by omega, by omega⟩
theorem mm_eqNl {a b : Int64} {l1 h1 l2 h2 : Int} {P : Prop} (e : a = b) (ha : mm_rl a l1 h1) (hb : mm_rl b l2 h2) (c : h1 < l2) : P := by
  rw [← e] at hb
  have := ha.2; have := hb.1
  omega
theorem mm_noXl {a : Int64} {l1 h1 l2 h2 : Int} {P : Prop} (ha : mm_rl a l1 h1) (hb : mm_rl a l2 h2) (c : h1 < l2 ∨ h2 < l1) : P := by
  have := ha.1; have := ha.2; have := hb.1; have := hb.2
  omega
theorem mm_meetl {a : Int64} {l1 h1 l2 h2 lo hi : Int} (ha : mm_rl a l1 h1) (hb : mm_rl a l2 h2) (c : (lo ≤ l1 ∨ lo ≤ l2) ∧ (h1 ≤ hi ∨ h2 ≤ hi)) : mm_rl a lo hi := mm_eqIl rfl ha hb c
theorem mm_i2l {v : Int64} {x : Int32} {lo hi : Int} (e : v = x.toInt64) (h : mm_rg x lo hi) : mm_rl v lo hi := by
  rw [e]
  have h3 : (x.toInt64).toInt = x.toInt := Int32.toInt_toInt64 _
  exact ⟨by rw [h3]; exact h.1, by rw [h3]; exact h.2⟩
theorem mm_i2lE {v : Int64} {x : Int32} (e : v = x.toInt64) : v.toInt = x.toInt := by rw [e]; exact Int32.toInt_toInt64 _
theorem mm_l2i {v : Int32} {x : Int64} {lo hi : Int} (e : v = x.toInt32) (h : mm_rl x lo hi) (c : -2147483648 ≤ lo ∧ hi ≤ 2147483647) : mm_rg v lo hi := by
  have h3 : (x.toInt32).toInt = x.toInt := by
    rw [Int64.toInt_toInt32]
    exact mm_b32 (by have := h.1; omega) (by have := h.2; omega)
  rw [e]
  exact ⟨by rw [h3]; exact h.1, by rw [h3]; exact h.2⟩
theorem mm_subl {v a b : Int64} {l1 h1 l2 h2 : Int} (e : v = a - b) (ha : mm_rl a l1 h1) (hb : mm_rl b l2 h2) (c : -9223372036854775808 ≤ l1 - h2 ∧ h1 - l2 ≤ 9223372036854775807) {lo hi : Int} (d : lo ≤ l1 - h2 ∧ h1 - l2 ≤ hi) : mm_rl v lo hi := by
  have q : v.toInt = a.toInt - b.toInt := by
    rw [e, Int64.toInt_sub]
    exact mm_b64 (by have := ha.1; have := hb.2; omega) (by have := ha.2; have := hb.1; omega)
  have := ha.1; have := hb.1; have := ha.2; have := hb.2
  exact ⟨by omega, by omega⟩
theorem mm_addl {v a b : Int64} {l1 h1 l2 h2 : Int} (e : v = a + b) (ha : mm_rl a l1 h1) (hb : mm_rl b l2 h2) (c : -9223372036854775808 ≤ l1 + l2 ∧ h1 + h2 ≤ 9223372036854775807) {lo hi : Int} (d : lo ≤ l1 + l2 ∧ h1 + h2 ≤ hi) : mm_rl v lo hi := by
  have q : v.toInt = a.toInt + b.toInt := by
    rw [e, Int64.toInt_add]
    exact mm_b64 (by have := ha.1; have := hb.1; omega) (by have := ha.2; have := hb.2; omega)
  have := ha.1; have := hb.1; have := ha.2; have := hb.2
  exact ⟨by omega, by omega⟩
theorem mm_cmp_x (x y : Int64) : (lg_cmp x y = 1 ∧ y.toInt < x.toInt) ∨ (lg_cmp x y = 0 ∧ x = y) ∨ (lg_cmp x y = -1 ∧ x.toInt < y.toInt) := by
  unfold lg_cmp
  by_cases h : x > y
  · rw [if_pos h]; exact Or.inl ⟨rfl, Int64.lt_iff_toInt_lt.mp h⟩
  · rw [if_neg h]
    by_cases h2 : x = y
    · rw [if_pos h2]; exact Or.inr (Or.inl ⟨rfl, h2⟩)
    · rw [if_neg h2]
      refine Or.inr (Or.inr ⟨rfl, ?_⟩)
      have h3 : ¬ y.toInt < x.toInt := fun q => h (Int64.lt_iff_toInt_lt.mpr q)
      have h4 : x.toInt ≠ y.toInt := fun q => h2 (Int64.toInt_inj.mp q)
      omega
theorem mm_cmp_lt {w : Int32} {x y : Int64} (e : w = lg_cmp x y) (c : w < 0) : x.toInt < y.toInt := by
  rcases mm_cmp_x x y with ⟨q, r⟩ | ⟨q, r⟩ | ⟨q, r⟩
  · rw [e, q] at c; exact absurd c (by decide)
  · rw [e, q] at c; exact absurd c (by decide)
  · exact r
theorem mm_cmp_le {w : Int32} {x y : Int64} (e : w = lg_cmp x y) (c : w ≤ 0) : x.toInt ≤ y.toInt := by
  rcases mm_cmp_x x y with ⟨q, r⟩ | ⟨q, r⟩ | ⟨q, r⟩
  · rw [e, q] at c; exact absurd c (by decide)
  · rw [r]; exact Int.le_refl _
  · exact Int.le_of_lt r
theorem mm_cmp_ge {w : Int32} {x y : Int64} (e : w = lg_cmp x y) (c : 0 ≤ w) : y.toInt ≤ x.toInt := by
  rcases mm_cmp_x x y with ⟨q, r⟩ | ⟨q, r⟩ | ⟨q, r⟩
  · exact Int.le_of_lt r
  · rw [r]; exact Int.le_refl _
  · rw [e, q] at c; exact absurd c (by decide)
theorem mm_cmp_gt {w : Int32} {x y : Int64} (e : w = lg_cmp x y) (c : 0 < w) : y.toInt < x.toInt := by
  rcases mm_cmp_x x y with ⟨q, r⟩ | ⟨q, r⟩ | ⟨q, r⟩
  · exact r
  · rw [e, q] at c; exact absurd c (by decide)
  · rw [e, q] at c; exact absurd c (by decide)
theorem mm_cmp_eq {w : Int32} {x y : Int64} (e : w = lg_cmp x y) (c : w = 0) : x = y := by
  rcases mm_cmp_x x y with ⟨q, r⟩ | ⟨q, r⟩ | ⟨q, r⟩
  · rw [e, q] at c; exact absurd c (by decide)
  · exact r
  · rw [e, q] at c; exact absurd c (by decide)
theorem mm_cmp_ne {w : Int32} {x y : Int64} (e : w = lg_cmp x y) (c : ¬ w = 0) : x.toInt ≠ y.toInt := by
  rcases mm_cmp_x x y with ⟨q, r⟩ | ⟨q, r⟩ | ⟨q, r⟩
  · omega
  · exact absurd (by rw [e, q]) c
  · omega
theorem mm_n_lt {w : Int32} (c : ¬ w < 0) : (0 : Int32) ≤ w := Int32.not_lt.mp c
theorem mm_n_le {w : Int32} (c : ¬ w ≤ 0) : (0 : Int32) < w := Int32.not_le.mp c
theorem mm_n_ge {w : Int32} (c : ¬ (0 : Int32) ≤ w) : w < 0 := Int32.not_le.mp c
theorem mm_n_gt {w : Int32} (c : ¬ (0 : Int32) < w) : w ≤ 0 := Int32.not_lt.mp c
/-! ===== what the tables say, in one word ===== -/
abbrev mm_TY (cy : Nat → ClassId) : List (ClassId × FieldType) := [(cy 0, .byte), (cy 1, .int), (cy 2, .long), (cy 3, .boolean), (cy 4, .object "MissingMeaning$Book"), (cy 5, .object "MissingMeaning$Calendar"), (cy 6, .object "MissingMeaning$Row")]
def mm_nests : List Cond := [.methodLinkNest RX11 9 yX9_init "MissingMeaning", .methodLinkNest RX11 38 yX0_init "MissingMeaning", .methodLinkNest RX11 49 yX6_init "MissingMeaning", .methodLinkNest RX11 52 yX8_init "MissingMeaning", .methodLinkNest RX10 11 yX0_init "MissingMeaning", .methodLinkNest RX10 24 yX1_init "MissingMeaning", .methodLinkNest RX7 11 yX0_init "MissingMeaning", .methodLinkNest RX1 64 yX11_commonMultiple "MissingMeaning"]
abbrev mm_strC : String := "MissingMeaning$Scribe"
def mm_strT : List (String × Nat × String) := [("MissingMeaning$Scribe", 95, "book"), ("MissingMeaning$Scribe", 97, "odds"), ("MissingMeaning$Scribe", 105, "stock"), ("MissingMeaning$Scribe", 60, "sense"), ("MissingMeaning$Scribe", 124, "give"), ("MissingMeaning$Scribe", 126, "take"), ("MissingMeaning$Scribe", 128, "double"), ("MissingMeaning$Scribe", 130, "stop"), ("MissingMeaning$Scribe", 132, "skip"), ("MissingMeaning$Scribe", 69, "land"), ("MissingMeaning$Scribe", 74, "rule"), ("MissingMeaning$Scribe", 141, "shift"), ("MissingMeaning$Scribe", 143, "swap"), ("MissingMeaning$Scribe", 152, "turn"), ("MissingMeaning$Scribe", 154, "rest"), ("MissingMeaning$Scribe", 87, "text")]
def mm_slen : List Nat := [4, 4, 5, 5, 4, 4, 6, 4, 4, 4, 4, 5, 4, 4, 4, 4]
def mm_sbyt : List (List Int32) := [[98, 111, 111, 107], [111, 100, 100, 115], [115, 116, 111, 99, 107], [115, 101, 110, 115, 101], [103, 105, 118, 101], [116, 97, 107, 101], [100, 111, 117, 98, 108, 101], [115, 116, 111, 112], [115, 107, 105, 112], [108, 97, 110, 100], [114, 117, 108, 101], [115, 104, 105, 102, 116], [115, 119, 97, 112], [116, 117, 114, 110], [114, 101, 115, 116], [116, 101, 120, 116]]
def mm_K (G : va_G) (cy : Nat → ClassId) (U : State) : Prop := va_K G vwCl (mm_TY cy) U ∧ (va_AO RX0 U ∧ va_AO RX1 U ∧ va_AO RX6 U) ∧ (∀ w ∈ mm_nests, va_Nw w U) ∧ ∀ (i : Nat) (own : String) (k : Nat) (tx : String), mm_strT[i]? = some (own, k, tx) → vk_R own k tx (cy (100 + 2 * i)) U
theorem mm_K.warm {G : va_G} {cy : Nat → ClassId} {s U : State} (h : mm_K G cy s) (hW : s.WarmedH U.vm) : mm_K G cy U := by
  refine ⟨va_K.moved hW.alike h.1, ⟨h.2.1.1.moved hW.alike, h.2.1.2.1.moved hW.alike, h.2.1.2.2.moved hW.alike⟩, ?_, fun i own k tx e => vk_R.warm hW (h.2.2.2 i own k tx e)⟩
  intro w hw
  have q := h.2.2.1 w hw
  simp only [mm_nests, List.mem_cons, List.not_mem_nil, or_false] at hw
  rcases hw with rfl | rfl | rfl | rfl | rfl | rfl | rfl | rfl <;> exact va_Nw.warmM hW q
theorem mm_K.same {G : va_G} {cy : Nat → ClassId} {s U : State} (h : mm_K G cy s) (hW : s.vm = U.vm) : mm_K G cy U := by
  have ha : s.vm.Alike U.vm := by rw [hW]; exact Vm.Alike.refl _
  refine ⟨va_K.moved ha h.1, ⟨h.2.1.1.moved ha, h.2.1.2.1.moved ha, h.2.1.2.2.moved ha⟩, ?_, fun i own k tx e => vk_R.same hW.symm (h.2.2.2 i own k tx e)⟩
  intro w hw
  have q := h.2.2.1 w hw
  have ho : w.onTables = true := by
    simp only [mm_nests, List.mem_cons, List.not_mem_nil, or_false] at hw
    rcases hw with rfl | rfl | rfl | rfl | rfl | rfl | rfl | rfl <;> rfl
  exact va_Nw.same ho hW q
/-! ===== strings and statics: old cells that nobody writes ===== -/
def mm_Z (cy : Nat → ClassId) (A : Nat → Prop) (U : State) (H : Heap) : Prop := vk_S 16 mm_slen mm_sbyt (fun i => cy (100 + 2 * i)) (fun i => cy (101 + 2 * i)) A U H ∧ va_Z "java/lang/String" "COMPACT_STRINGS" "Z" (.int 1) A U H ∧ va_Zq "jdk/internal/util/Preconditions" "SIOOBE_FORMATTER" "Ljava/util/function/BiFunction;" A U H
theorem mm_Z.moved {cy : Nat → ClassId} {A : Nat → Prop} {u U : State} {H : Heap} (hvm : u.vm.Alike U.vm) (h : mm_Z cy A u H) : mm_Z cy A U H :=
  ⟨vk_S.moved hvm h.1, va_Z.moved hvm h.2.1, h.2.2.elim (fun q => Or.inl (va_Z.moved hvm q)) (fun ⟨t, q⟩ => Or.inr ⟨t, va_Z.moved hvm q⟩)⟩
theorem mm_Z.kept {cy : Nat → ClassId} {A : Nat → Prop} {U : State} {H H1 : Heap} (h : mm_Z cy A U H) (hq : ∀ a : Nat, a < H.size → ¬ A a → H1[a]? = H[a]?) : mm_Z cy A U H1 :=
  ⟨vk_S.kept h.1 hq, va_Z.kept h.2.1 hq, h.2.2.elim (fun q => Or.inl (va_Z.kept q hq)) (fun ⟨t, q⟩ => Or.inr ⟨t, va_Z.kept q hq⟩)⟩
theorem mm_Z.narrow {cy : Nat → ClassId} {A B : Nat → Prop} {U : State} {H : Heap} (h : mm_Z cy A U H) (hAB : ∀ q, B q → A q) : mm_Z cy B U H :=
  ⟨vk_S.narrow h.1 hAB, va_Z.narrow h.2.1 hAB, h.2.2.elim (fun q => Or.inl (va_Z.narrow q hAB)) (fun ⟨t, q⟩ => Or.inr ⟨t, va_Z.narrow q hAB⟩)⟩
theorem mm_Z.same {cy : Nat → ClassId} {A : Nat → Prop} {u U : State} {H : Heap} (h : mm_Z cy A u H) (hv : u.vm = U.vm) : mm_Z cy A U H := h.moved (by rw [hv]; exact Vm.Alike.refl _)
