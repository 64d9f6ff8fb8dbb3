/-! ===== sums, remainders ===== -/
def mm_sm (i n m : Int32) : Prop := i.toInt + n.toInt ≤ m.toInt
theorem mm_sm_of {i n m : Int32} {a b x y : Int64} (e1 : a.toInt = i.toInt) (e2 : b.toInt = n.toInt) (e3 : y.toInt = m.toInt) (t : x.toInt = a.toInt + b.toInt) (p : x.toInt ≤ y.toInt) : mm_sm i n m := by
  unfold mm_sm
  omega
theorem mm_sm_1 {i n m : Int32} {l1 h1 l2 h2 l3 h3 lo hi : Int} (p : mm_sm i n m) (ri : mm_rg i l1 h1) (rn : mm_rg n l2 h2) (rm : mm_rg m l3 h3) (c : lo ≤ l1 ∧ h3 - l2 ≤ hi) : mm_rg i lo hi := by
  unfold mm_sm at p
  have := ri.1; have := rn.1; have := rm.2
  exact ⟨by omega, by omega⟩
theorem mm_sm_2 {i n m : Int32} {l1 h1 l2 h2 l3 h3 lo hi : Int} (p : mm_sm i n m) (rn : mm_rg n l1 h1) (ri : mm_rg i l2 h2) (rm : mm_rg m l3 h3) (c : lo ≤ l1 ∧ h3 - l2 ≤ hi) : mm_rg n lo hi := by
  unfold mm_sm at p
  have := rn.1; have := ri.1; have := rm.2
  exact ⟨by omega, by omega⟩
theorem mm_sm_in {i n m ix sl x : Int32} {l1 h1 l2 h2 l3 h3 l4 h4 : Int} (p : mm_sm i n m) (lt : x.toInt < n.toInt) (e : ix.toInt = 60 * sl.toInt + i.toInt + x.toInt) (rs : mm_rg sl l1 h1) (ri : mm_rg i l2 h2) (rx : mm_rg x l3 h3) (rm : mm_rg m l4 h4) (c : 0 ≤ l1 ∧ h1 ≤ 3 ∧ 0 ≤ l2 ∧ 0 ≤ l3 ∧ h4 ≤ 60) : mm_rg ix 0 239 := by
  unfold mm_sm at p
  have := rs.1; have := rs.2; have := ri.1; have := rx.1; have := rm.2
  exact ⟨by omega, by omega⟩
theorem mm_remlLt {v a b : Int64} {l1 h1 l2 h2 : Int} (e : v = a - a / b * b) (ha : mm_rl a l1 h1) (hb : mm_rl b l2 h2) (c : 0 ≤ l1 ∧ 1 ≤ l2) : v.toInt < b.toInt := by
  have q := mm_remlE e (mm_wkl ha ⟨c.1, Int.le_refl _⟩) hb c.2
  have := hb.1
  have k2 := Int.emod_lt_of_pos a.toInt (b := b.toInt) (by omega)
  omega
theorem mm_half {a b : Nat} (h : 1 ≤ b) (h2 : b ≤ a) : 2 * (a % b) < a := by
  have q := Nat.mod_lt a (show b > 0 from by omega)
  by_cases z : 2 * b ≤ a
  · omega
  · have : a % b = a - b := by
      rw [Nat.mod_eq_sub_mod h2, Nat.mod_eq_of_lt (by omega)]
    omega
theorem mm_remlHalf {v a b : Int64} {l1 h1 l2 h2 hi : Int} (e : v = a - a / b * b) (le : b.toInt ≤ a.toInt) (ha : mm_rl a l1 h1) (hb : mm_rl b l2 h2) (c : 0 ≤ l1 ∧ 1 ≤ l2 ∧ h1 ≤ 2 * hi + 2) : mm_rl v 0 hi := by
  have q := mm_remlE e (mm_wkl ha ⟨c.1, Int.le_refl _⟩) hb c.2.1
  have := hb.1; have := ha.1; have := ha.2
  obtain ⟨A, hA⟩ : ∃ A : Nat, a.toInt = (A : Int) := ⟨a.toInt.toNat, by omega⟩
  obtain ⟨B, hB⟩ : ∃ B : Nat, b.toInt = (B : Int) := ⟨b.toInt.toNat, by omega⟩
  have k := mm_half (a := A) (b := B) (by omega) (by omega)
  have z : v.toInt = ((A % B : Nat) : Int) := by rw [q, hA, hB]; rfl
  exact ⟨by omega, by omega⟩
def mm_sv (c : Int) (d : Int32) (s : Int64) : Prop := 0 ≤ s.toInt ∧ s.toInt ≤ c * d.toInt
theorem mm_sv_0 (c : Int) : mm_sv c 0 0 := by
  have t1 : (0 : Int32).toInt = 0 := by decide
  have t2 : (0 : Int64).toInt = 0 := by decide
  refine ⟨by omega, ?_⟩
  rw [t1, t2, Int.mul_zero]
  exact Int.le_refl _
theorem mm_sv_s {c : Int} {d d2 : Int32} {s s2 x : Int64} {lo hi : Int} (p : mm_sv c d s) (td : d2.toInt = d.toInt + 1) (ts : s2.toInt = s.toInt + x.toInt) (r : mm_rl x lo hi) (k : 0 ≤ lo ∧ hi ≤ c) : mm_sv c d2 s2 := by
  have := p.1; have := p.2; have := r.1; have := r.2
  refine ⟨by omega, ?_⟩
  rw [td, Int.mul_add, Int.mul_one]
  omega
theorem mm_sv_rl {c : Int} {d : Int32} {s : Int64} {l1 h1 hi : Int} (p : mm_sv c d s) (r : mm_rg d l1 h1) (k : 0 ≤ c ∧ c * h1 ≤ hi) : mm_rl s 0 hi :=
  ⟨p.1, Int.le_trans p.2 (Int.le_trans (Int.mul_le_mul_of_nonneg_left r.2 k.1) k.2)⟩
/-! ===== bits ===== -/
theorem mm_andL {v a b : Int32} {l1 h1 : Int} (e : v = a &&& b) (ha : mm_rg a l1 h1) (c : 0 ≤ l1) : mm_rg v 0 h1 := mm_andR (e.trans (Int32.and_comm a b)) ha c
def mm_pop (n : Nat) : Nat := n % 2 + n / 2 % 2 + n / 4 % 2 + n / 8 % 2 + n / 16 % 2 + n / 32 % 2 + n / 64 % 2
theorem mm_andT : ∀ j : Nat, j < 128 → 1 ≤ j → 0 ≤ (nI j &&& (nI j - 1)).toInt ∧ (nI j &&& (nI j - 1)).toInt.toNat < j ∧ mm_pop (nI j &&& (nI j - 1)).toInt.toNat + 1 = mm_pop j := by decide +kernel
theorem mm_andE {v v0 y : Int32} {l h : Int} (e : v = v0 &&& y) (ey : y = v0 - 1) (r : mm_rg v0 l h) (c : 1 ≤ l ∧ h ≤ 127) : 0 ≤ v.toInt ∧ v.toInt.toNat < v0.toInt.toNat ∧ mm_pop v.toInt.toNat + 1 = mm_pop v0.toInt.toNat := by
  obtain ⟨j, hj, ej, et⟩ := mm_nI_of r (Int.le_trans (by decide) c.1)
  have := r.1; have := r.2
  have q := mm_andT j (by omega) (by omega)
  rw [show v0.toInt.toNat = j from by omega, e, ey, ej]
  exact q
theorem mm_szM {n : Nat} {v v0 y : Int32} {l h : Int} (hm : v0.toInt.toNat < n + 1) (e : v = v0 &&& y) (ey : y = v0 - 1) (r : mm_rg v0 l h) (c : 1 ≤ l ∧ h ≤ 127) : v.toInt.toNat < n := by
  have q := mm_andE e ey r c
  omega
def mm_pcs (s n v : Int32) : Prop := (mm_pop v.toInt.toNat : Int) + n.toInt = (mm_pop s.toInt.toNat : Int)
theorem mm_pcs_0 (s : Int32) : mm_pcs s 0 s := by
  have t : (0 : Int32).toInt = 0 := by decide
  unfold mm_pcs
  omega
theorem mm_pcs_s {s n n2 v v2 y : Int32} {l h : Int} (p : mm_pcs s n v) (t : n2.toInt = n.toInt + 1) (e : v2 = v &&& y) (ey : y = v - 1) (r : mm_rg v l h) (c : 1 ≤ l ∧ h ≤ 127) : mm_pcs s n2 v2 := by
  have q := mm_andE e ey r c
  unfold mm_pcs at *
  omega
theorem mm_pop7 (n : Nat) : mm_pop n ≤ 7 := by unfold mm_pop; omega
theorem mm_pcs_rg {s n v : Int32} {l h lo : Int} (p : mm_pcs s n v) (r : mm_rg n l h) (c : lo ≤ l) : mm_rg n lo 7 := by
  have q := mm_pop7 s.toInt.toNat
  have := r.1
  unfold mm_pcs at p
  exact ⟨by omega, by omega⟩
theorem mm_pcs_an {v v0 y : Int32} {l h : Int} (e : v = v0 &&& y) (r : mm_rg v0 l h) (c : 0 ≤ l ∧ h ≤ 127) : mm_rg v 0 127 := mm_wk (mm_andL e r c.1) ⟨Int.le_refl _, c.2⟩
def mm_pcn (s r : Int32) : Prop := r.toInt = (mm_pop s.toInt.toNat : Int)
theorem mm_pcn_of {s n v : Int32} {l h : Int} (p : mm_pcs s n v) (r : mm_rg v l h) (c : l = 0 ∧ h = 0) : mm_pcn s n := by
  have := r.1; have := r.2
  unfold mm_pcs at p
  unfold mm_pcn
  rw [show v.toInt.toNat = 0 from by omega, show mm_pop 0 = 0 from rfl] at p
  omega
theorem mm_popT : ∀ k : Nat, k < 8 → ∀ x : Nat, x < 128 → x < 2 ^ k → mm_pop x ≤ k := by decide +kernel
theorem mm_pcn_le {x n v k : Int32} {l1 h1 l2 h2 : Int} (p : mm_pcn x n) (lt : x.toInt < v.toInt) (e : v = 1 <<< (k &&& 31)) (rk : mm_rg k l1 h1) (rx : mm_rg x l2 h2) (c : 0 ≤ l1 ∧ h1 ≤ 7 ∧ 0 ≤ l2) : n.toInt ≤ k.toInt := by
  obtain ⟨j, hj, ej, et⟩ := mm_nI_of rk c.1
  have := rk.2; have := rx.1
  have q := mm_shl1T j (by omega)
  have ev : v.toInt = ((2 ^ j : Nat) : Int) := by rw [e, ej]; exact q
  have b : 2 ^ j ≤ 2 ^ 7 := Nat.pow_le_pow_right (by decide) (by omega)
  have z := mm_popT j (by omega) x.toInt.toNat (by omega) (by omega)
  unfold mm_pcn at p
  omega
theorem mm_pow10 : ∀ k : Nat, 1 ≤ 10 ^ k := by
  intro k
  induction k with
  | zero => decide
  | succ k ih => rw [Nat.pow_succ]; omega
def mm_pw (n : Int32) (r : Int64) : Prop := 0 ≤ r.toInt ∧ r.toInt ≤ ((10 ^ n.toInt.toNat : Nat) : Int)
theorem mm_pw_0 (n : Int32) : mm_pw n 1 := by
  have t : (1 : Int64).toInt = 1 := by decide
  have := mm_pow10 n.toInt.toNat
  exact ⟨by omega, by omega⟩
theorem mm_pw_s {n n0 : Int32} {r r0 a : Int64} {l1 h1 l2 h2 l3 h3 : Int} (p : mm_pw n0 r0) (t : n0.toInt = n.toInt + -1) (e : r = a * r0) (ra : mm_rl a l1 h1) (_ : mm_rl r0 l2 h2) (rn : mm_rg n0 l3 h3) (c : 0 ≤ l1 ∧ h1 ≤ 10 ∧ 0 ≤ l3 ∧ h3 ≤ 6) : mm_pw n r := by
  have := ra.1; have := ra.2; have := rn.1; have := rn.2; have p1 := p.1; have p2 := p.2
  obtain ⟨A, hA⟩ : ∃ A : Nat, a.toInt = (A : Int) := ⟨a.toInt.toNat, by omega⟩
  obtain ⟨B, hB⟩ : ∃ B : Nat, r0.toInt = (B : Int) := ⟨r0.toInt.toNat, by omega⟩
  have hb : B ≤ 10 ^ n0.toInt.toNat := by omega
  have k : A * B ≤ 10 * 10 ^ n0.toInt.toNat := Nat.mul_le_mul (by omega) hb
  have m : 10 ^ n0.toInt.toNat ≤ 10 ^ 6 := Nat.pow_le_pow_right (by decide) (by omega)
  have q : r.toInt = ((A * B : Nat) : Int) := by
    rw [e, Int64.toInt_mul, hA, hB]
    rw [show (A : Int) * (B : Int) = ((A * B : Nat) : Int) from rfl]
    exact mm_b64 (by omega) (by omega)
  refine ⟨by omega, ?_⟩
  rw [show n.toInt.toNat = n0.toInt.toNat + 1 from by omega, Nat.pow_succ]
  omega
theorem mm_pw_mul {n n1 n2 : Int32} {x y v : Int64} {l1 h1 l2 h2 l3 h3 : Int} (p1 : mm_pw n1 x) (p2 : mm_pw n2 y) (t : n2.toInt = n.toInt - n1.toInt) (e : v = x * y) (rn : mm_rg n l1 h1) (r1 : mm_rg n1 l2 h2) (r2 : mm_rg n2 l3 h3) (c : h1 ≤ 7 ∧ 0 ≤ l2 ∧ 0 ≤ l3) : mm_rl v 0 10000000 := by
  have := rn.2; have := r1.1; have := r2.1; have a1 := p1.1; have a2 := p1.2; have b1 := p2.1; have b2 := p2.2
  obtain ⟨A, hA⟩ : ∃ A : Nat, x.toInt = (A : Int) := ⟨x.toInt.toNat, by omega⟩
  obtain ⟨B, hB⟩ : ∃ B : Nat, y.toInt = (B : Int) := ⟨y.toInt.toNat, by omega⟩
  have k : A * B ≤ 10 ^ n1.toInt.toNat * 10 ^ n2.toInt.toNat := Nat.mul_le_mul (by omega) (by omega)
  rw [← Nat.pow_add] at k
  have m : 10 ^ (n1.toInt.toNat + n2.toInt.toNat) ≤ 10 ^ 7 := Nat.pow_le_pow_right (by decide) (by omega)
  have q : v.toInt = ((A * B : Nat) : Int) := by
    rw [e, Int64.toInt_mul, hA, hB]
    rw [show (A : Int) * (B : Int) = ((A * B : Nat) : Int) from rfl]
    exact mm_b64 (by omega) (by omega)
  exact ⟨by omega, by omega⟩
def mm_bit (b k : Int32) : Prop := b.toInt.toNat / 2 ^ k.toInt.toNat % 2 = 1
def mm_nbit (b k : Int32) : Prop := b.toInt.toNat / 2 ^ k.toInt.toNat % 2 = 0
theorem mm_bitT : ∀ b : Nat, b < 64 → ∀ k : Nat, k < 6 → ((nI b >>> (nI k &&& 31)) &&& 1).toInt = ((b / 2 ^ k % 2 : Nat) : Int) := by decide +kernel
theorem mm_bitE {b k v1 v2 : Int32} {l1 h1 l2 h2 : Int} (e1 : v1 = b >>> (k &&& 31)) (e2 : v2 = v1 &&& 1) (rb : mm_rg b l1 h1) (rk : mm_rg k l2 h2) (c : 0 ≤ l1 ∧ h1 ≤ 63 ∧ 0 ≤ l2 ∧ h2 ≤ 5) : v2.toInt = ((b.toInt.toNat / 2 ^ k.toInt.toNat % 2 : Nat) : Int) := by
  obtain ⟨B, hB, eB, tB⟩ := mm_nI_of rb c.1
  obtain ⟨K, hK, eK, tK⟩ := mm_nI_of rk c.2.2.1
  have := rb.2; have := rk.2
  rw [show b.toInt.toNat = B from by omega, show k.toInt.toNat = K from by omega, e2, e1, eB, eK]
  exact mm_bitT B (by omega) K (by omega)
theorem mm_bit_of {b k v1 v2 : Int32} {l1 h1 l2 h2 : Int} (e1 : v1 = b >>> (k &&& 31)) (e2 : v2 = v1 &&& 1) (q : v2 = 1) (rb : mm_rg b l1 h1) (rk : mm_rg k l2 h2) (c : 0 ≤ l1 ∧ h1 ≤ 63 ∧ 0 ≤ l2 ∧ h2 ≤ 5) : mm_bit b k := by
  have z := mm_bitE e1 e2 rb rk c
  have t : (1 : Int32).toInt = 1 := by decide
  rw [q, t] at z
  unfold mm_bit
  omega
theorem mm_nbit_of {b k v1 v2 : Int32} {l1 h1 l2 h2 : Int} (e1 : v1 = b >>> (k &&& 31)) (e2 : v2 = v1 &&& 1) (q : v2.toInt ≠ (1 : Int32).toInt) (rb : mm_rg b l1 h1) (rk : mm_rg k l2 h2) (c : 0 ≤ l1 ∧ h1 ≤ 63 ∧ 0 ≤ l2 ∧ h2 ≤ 5) : mm_nbit b k := by
  have z := mm_bitE e1 e2 rb rk c
  have t : (1 : Int32).toInt = 1 := by decide
  unfold mm_nbit
  omega
theorem mm_bit_no {C : Prop} {b k : Int32} {l h : Int} (p : mm_bit b k) (r : mm_rg b l h) (c : l = 0 ∧ h = 0) : C := by
  exfalso
  have := r.1; have := r.2
  unfold mm_bit at p
  rw [show b.toInt.toNat = 0 from by omega, Nat.zero_div] at p
  omega
theorem mm_cutT : ∀ b : Nat, b < 64 → ∀ k : Nat, k < 6 → b / 2 ^ k % 2 = 1 → 0 ≤ (nI b &&& ((1 <<< (nI k &&& 31)) ^^^ (-1))).toInt ∧ (nI b &&& ((1 <<< (nI k &&& 31)) ^^^ (-1))).toInt.toNat < b ∧ mm_pop (nI b &&& ((1 <<< (nI k &&& 31)) ^^^ (-1))).toInt.toNat + 1 = mm_pop b := by decide +kernel
theorem mm_cutE {b k v1 v2 v : Int32} {l1 h1 l2 h2 : Int} (p : mm_bit b k) (e1 : v1 = 1 <<< (k &&& 31)) (e2 : v2 = v1 ^^^ (-1)) (e3 : v = b &&& v2) (rb : mm_rg b l1 h1) (rk : mm_rg k l2 h2) (c : 0 ≤ l1 ∧ h1 ≤ 63 ∧ 0 ≤ l2 ∧ h2 ≤ 5) : 0 ≤ v.toInt ∧ v.toInt.toNat < b.toInt.toNat ∧ mm_pop v.toInt.toNat + 1 = mm_pop b.toInt.toNat := by
  obtain ⟨B, hB, eB, tB⟩ := mm_nI_of rb c.1
  obtain ⟨K, hK, eK, tK⟩ := mm_nI_of rk c.2.2.1
  have := rb.2; have := rk.2
  unfold mm_bit at p
  rw [show b.toInt.toNat = B from by omega, show k.toInt.toNat = K from by omega] at p
  rw [show b.toInt.toNat = B from by omega, e3, e2, e1, eB, eK]
  exact mm_cutT B (by omega) K (by omega) p
def mm_pc (k : Nat) (v : Int32) : Prop := mm_pop v.toInt.toNat ≤ k
theorem mm_pc_cut {n : Nat} {b k v1 v2 v : Int32} {l1 h1 l2 h2 : Int} (q : mm_pc (n + 1) b) (p : mm_bit b k) (e1 : v1 = 1 <<< (k &&& 31)) (e2 : v2 = v1 ^^^ (-1)) (e3 : v = b &&& v2) (rb : mm_rg b l1 h1) (rk : mm_rg k l2 h2) (c : 0 ≤ l1 ∧ h1 ≤ 63 ∧ 0 ≤ l2 ∧ h2 ≤ 5) : mm_pc n v := by
  have z := mm_cutE p e1 e2 e3 rb rk c
  unfold mm_pc at *
  omega
theorem mm_pc_le {j k : Nat} {v : Int32} (p : mm_pc j v) (c : j ≤ k) : mm_pc k v := Nat.le_trans p c
theorem mm_pop6 {n : Nat} (h : n < 64) : mm_pop n ≤ 6 := by unfold mm_pop; omega
theorem mm_pc_rg {k : Nat} {v : Int32} {l h : Int} (r : mm_rg v l h) (c : 0 ≤ l ∧ h ≤ 63) (d : 6 ≤ k) : mm_pc k v := by
  have := r.1; have := r.2
  have q := mm_pop6 (n := v.toInt.toNat) (by omega)
  exact Nat.le_trans q d
theorem mm_popP : ∀ n : Nat, n < 64 → 1 ≤ n → 1 ≤ mm_pop n := by decide +kernel
theorem mm_pc_0 {v : Int32} {l h : Int} (p : mm_pc 0 v) (r : mm_rg v l h) (c : 0 ≤ l ∧ h ≤ 63) : mm_rg v 0 0 := by
  have := r.1; have := r.2
  unfold mm_pc at p
  by_cases q : v.toInt = 0
  · exact ⟨by omega, by omega⟩
  · have := mm_popP v.toInt.toNat (by omega) (by omega)
    omega
def mm_pck (k v : Int32) : Prop := (mm_pop v.toInt.toNat : Int) + k.toInt ≤ 6
theorem mm_pck_0 {v : Int32} {l h : Int} (r : mm_rg v l h) (c : 0 ≤ l ∧ h ≤ 63) : mm_pck 0 v := by
  have := r.1; have := r.2
  have t : (0 : Int32).toInt = 0 := by decide
  have q := mm_pop6 (n := v.toInt.toNat) (by omega)
  unfold mm_pck
  omega
theorem mm_pck_s {n n2 b k v1 v2 v : Int32} {l1 h1 l2 h2 : Int} (q : mm_pck n b) (t : n2.toInt = n.toInt + 1) (p : mm_bit b k) (e1 : v1 = 1 <<< (k &&& 31)) (e2 : v2 = v1 ^^^ (-1)) (e3 : v = b &&& v2) (rb : mm_rg b l1 h1) (rk : mm_rg k l2 h2) (c : 0 ≤ l1 ∧ h1 ≤ 63 ∧ 0 ≤ l2 ∧ h2 ≤ 5) : mm_pck n2 v := by
  have z := mm_cutE p e1 e2 e3 rb rk c
  unfold mm_pck at *
  omega
theorem mm_pck_k {k v : Int32} {l h l2 h2 lo : Int} (p : mm_pck k v) (rk : mm_rg k l h) (rv : mm_rg v l2 h2) (c : 1 ≤ l2 ∧ h2 ≤ 63 ∧ lo ≤ l) : mm_rg k lo 5 := by
  have := rk.1; have := rv.1; have := rv.2
  have q := mm_popP v.toInt.toNat (by omega) (by omega)
  unfold mm_pck at p
  exact ⟨by omega, by omega⟩
theorem mm_grM {n : Nat} {b k v1 v2 v : Int32} {l1 h1 l2 h2 : Int} (hm : b.toInt.toNat < n + 1) (p : mm_bit b k) (e1 : v1 = 1 <<< (k &&& 31)) (e2 : v2 = v1 ^^^ (-1)) (e3 : v = b &&& v2) (rb : mm_rg b l1 h1) (rk : mm_rg k l2 h2) (c : 0 ≤ l1 ∧ h1 ≤ 63 ∧ 0 ≤ l2 ∧ h2 ≤ 5) : v.toInt.toNat < n := by
  have z := mm_cutE p e1 e2 e3 rb rk c
  omega
def mm_stx (v h : Int32) : Prop := v.toInt < ((2 ^ h.toInt.toNat : Nat) : Int)
theorem mm_stx_0 {v x h : Int32} {l u : Int} (e : x = 1 <<< (h &&& 31)) (t : v.toInt = x.toInt + -1) (r : mm_rg h l u) (c : 0 ≤ l ∧ u ≤ 30) : mm_stx v h := by
  obtain ⟨j, hj, ej, et⟩ := mm_nI_of r c.1
  have := r.2
  have q := mm_shl1T j (by omega)
  have ev : x.toInt = ((2 ^ j : Nat) : Int) := by rw [e, ej]; exact q
  unfold mm_stx
  rw [show h.toInt.toNat = j from by omega]
  omega
theorem mm_stx_s {v b x h : Int32} {l u : Int} (p : mm_stx b h) (e : v = b &&& x) (r : mm_rg b l u) (c : 0 ≤ l) : mm_stx v h := by
  have := r.1
  have q := mm_andL e (show mm_rg b b.toInt b.toInt from ⟨Int.le_refl _, Int.le_refl _⟩) (by omega)
  have := q.2
  unfold mm_stx at *
  omega
def mm_gb (v h t b : Int32) : Prop := (b.toInt = -1 ∧ ∀ j : Nat, (j : Int) < t.toInt → v.toInt.toNat / 2 ^ j % 2 = 0) ∨ (0 ≤ b.toInt ∧ b.toInt < h.toInt ∧ mm_bit v b)
theorem mm_gb_0 (v h : Int32) : mm_gb v h 0 (-1) := by
  have t : (0 : Int32).toInt = 0 := by decide
  exact Or.inl ⟨by decide, fun j hj => by omega⟩
theorem mm_gb_y {v h t t2 : Int32} {l u : Int} (p : mm_bit v t) (lt : t.toInt < h.toInt) (r : mm_rg t l u) (c : 0 ≤ l) : mm_gb v h t2 t := Or.inr ⟨Int.le_trans c r.1, lt, p⟩
theorem mm_gb_n {v h t t2 b : Int32} {l u : Int} (p : mm_gb v h t b) (nb : mm_nbit v t) (e : t2.toInt = t.toInt + 1) (r : mm_rg t l u) (c : 0 ≤ l) : mm_gb v h t2 b := by
  have := r.1
  rcases p with ⟨p1, p2⟩ | p
  · refine Or.inl ⟨p1, fun j hj => ?_⟩
    by_cases q : (j : Int) < t.toInt
    · exact p2 j q
    · rw [show j = t.toInt.toNat from by omega]
      exact nb
  · exact Or.inr p
theorem mm_gb_k {v h t t2 b : Int32} {l u : Int} (p : mm_gb v h t b) (r : mm_rg b l u) (c : 0 ≤ l) : mm_gb v h t2 b := by
  have := r.1
  rcases p with ⟨p1, p2⟩ | p
  · omega
  · exact Or.inr p
theorem mm_gbT : ∀ h : Nat, h < 7 → ∀ n : Nat, n < 64 → n < 2 ^ h → (∀ j : Nat, j < h → n / 2 ^ j % 2 = 0) → n = 0 := by decide +kernel
theorem mm_gb_ex {v h t b : Int32} {l1 u1 l2 u2 l3 u3 : Int} (p : mm_gb v h t b) (sx : mm_stx v h) (le : h.toInt ≤ t.toInt) (rv : mm_rg v l1 u1) (rh : mm_rg h l2 u2) (rb : mm_rg b l3 u3) (c : 1 ≤ l1 ∧ u1 ≤ 63 ∧ 0 ≤ l2 ∧ u2 ≤ 6) : mm_rg b 0 u3 := by
  have := rv.1; have := rv.2; have := rh.1; have := rh.2; have := rb.2
  rcases p with ⟨p1, p2⟩ | p
  · unfold mm_stx at sx
    have z := mm_gbT h.toInt.toNat (by omega) v.toInt.toNat (by omega) (by omega) (fun j hj => p2 j (by omega))
    omega
  · exact ⟨p.1, rb.2⟩
theorem mm_gb_bit {v h t b : Int32} {l u : Int} (p : mm_gb v h t b) (r : mm_rg b l u) (c : 0 ≤ l) : mm_bit v b := by
  have := r.1
  rcases p with ⟨p1, p2⟩ | p
  · omega
  · exact p.2.2
