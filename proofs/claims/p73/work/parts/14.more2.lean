/-! ===== more of ranges ===== -/
theorem mm_addEc {v a b : Int32} {l1 h1 l2 h2 : Int} (e : v = a + b) (ha : mm_rg a l1 h1) (hb : mm_rg b l2 h2) (c : -2147483648 ≤ l1 + l2 ∧ h1 + h2 ≤ 2147483647) {k : Int} (hk : b.toInt = k) : v.toInt = a.toInt + k := by
  rw [mm_addE e ha hb c, hk]
theorem mm_addEd {v a b : Int32} {l1 h1 l2 h2 : Int} (e : v = a + b) (ha : mm_rg a l1 h1) (hb : mm_rg b l2 h2) (c : -2147483648 ≤ l1 + l2 ∧ h1 + h2 ≤ 2147483647) {k : Int} (hk : a.toInt = k) : v.toInt = b.toInt + k := by
  rw [mm_addE e ha hb c, hk, Int.add_comm]
theorem mm_subEc {v a b : Int32} {l1 h1 l2 h2 : Int} (e : v = a - b) (ha : mm_rg a l1 h1) (hb : mm_rg b l2 h2) (c : -2147483648 ≤ l1 - h2 ∧ h1 - l2 ≤ 2147483647) {k : Int} (hk : b.toInt = -k) : v.toInt = a.toInt + k := by
  rw [mm_subE e ha hb c, hk]; omega
theorem mm_unadd {v x : Int32} {c l1 h1 l2 h2 lo hi : Int} (t : v.toInt = x.toInt + c) (rv : mm_rg v l1 h1) (rx : mm_rg x l2 h2) (e1 : lo ≤ l1 - c ∨ lo ≤ l2) (e2 : h1 - c ≤ hi ∨ h2 ≤ hi) : mm_rg x lo hi := by
  have := rv.1; have := rv.2; have := rx.1; have := rx.2
  exact ⟨by omega, by omega⟩
theorem mm_unsubY {v x y : Int32} {l1 h1 l2 h2 l3 h3 lo hi : Int} (t : v.toInt = x.toInt - y.toInt) (rv : mm_rg v l1 h1) (rx : mm_rg x l2 h2) (ry : mm_rg y l3 h3) (c : (lo ≤ l2 - h1 ∨ lo ≤ l3) ∧ (h2 - l1 ≤ hi ∨ h3 ≤ hi)) : mm_rg y lo hi := by
  have := rv.1; have := rv.2; have := rx.1; have := rx.2; have := ry.1; have := ry.2
  exact ⟨by omega, by omega⟩
theorem mm_unsubX {v x y : Int32} {l1 h1 l2 h2 l3 h3 lo hi : Int} (t : v.toInt = x.toInt - y.toInt) (rv : mm_rg v l1 h1) (ry : mm_rg y l2 h2) (rx : mm_rg x l3 h3) (c : (lo ≤ l2 + l1 ∨ lo ≤ l3) ∧ (h2 + h1 ≤ hi ∨ h3 ≤ hi)) : mm_rg x lo hi := by
  have := rv.1; have := rv.2; have := rx.1; have := rx.2; have := ry.1; have := ry.2
  exact ⟨by omega, by omega⟩
theorem mm_sub0 {v a b : Int32} {l1 h1 l2 h2 hi : Int} (e : v = a - b) (k : b.toInt ≤ a.toInt) (ha : mm_rg a l1 h1) (hb : mm_rg b l2 h2) (c : 0 ≤ l1 ∧ 0 ≤ l2 ∧ h1 - l2 ≤ hi) : mm_rg v 0 hi := by
  have h1' := (mm_top a).2; have h2' := (mm_top b).2
  have := ha.1; have := ha.2; have := hb.1; have := hb.2
  have q : v.toInt = a.toInt - b.toInt := by
    rw [e, Int32.toInt_sub]
    exact mm_b32 (by omega) (by omega)
  exact ⟨by omega, by omega⟩
theorem mm_muL {n : Nat} {M : Int} {v w : Int32} (hm : (M - v.toInt).toNat < n + 1) (h : v.toInt < w.toInt ∧ w.toInt ≤ M) : (M - w.toInt).toNat < n := by omega
theorem mm_mdL {n : Nat} {M : Int} {v w : Int32} (hm : (v.toInt - M).toNat < n + 1) (h : w.toInt < v.toInt ∧ M ≤ w.toInt) : (w.toInt - M).toNat < n := by omega
theorem mm_nI_of {v : Int32} {lo hi : Int} (h : mm_rg v lo hi) (c : 0 ≤ lo) : ∃ j : Nat, j < 2 ^ 31 ∧ v = nI j ∧ (j : Int) = v.toInt := by
  obtain ⟨j, hj, e⟩ := nI_of (fun q => mm_nn h c q)
  exact ⟨j, hj, e, by rw [e, nI_toInt hj]⟩
theorem mm_shl1T : ∀ j : Nat, j < 31 → ((1 : Int32) <<< (nI j &&& 31)).toInt = ((2 ^ j : Nat) : Int) := by decide +kernel
theorem mm_shl1 {v y : Int32} {l h lo hi : Int} (e : v = 1 <<< (y &&& 31)) (r : mm_rg y l h) (c : 0 ≤ l ∧ h ≤ 30 ∧ lo ≤ ((2 ^ l.toNat : Nat) : Int) ∧ ((2 ^ h.toNat : Nat) : Int) ≤ hi) : mm_rg v lo hi := by
  obtain ⟨j, hj, ej, et⟩ := mm_nI_of r c.1
  have h1 := r.1; have h2 := r.2
  have q := mm_shl1T j (by omega)
  rw [e, ej]
  refine ⟨?_, ?_⟩
  · rw [q]
    have : 2 ^ l.toNat ≤ 2 ^ j := Nat.pow_le_pow_right (by decide) (by omega)
    have := c.2.2.1
    omega
  · rw [q]
    have : 2 ^ j ≤ 2 ^ h.toNat := Nat.pow_le_pow_right (by decide) (by omega)
    have := c.2.2.2
    omega
theorem mm_or {v x y : Int32} {l1 h1 l2 h2 hi : Int} (e : v = x ||| y) (n : Nat) (rx : mm_rg x l1 h1) (ry : mm_rg y l2 h2) (c : 0 ≤ l1 ∧ 0 ≤ l2 ∧ h1 < ((2 ^ n : Nat) : Int) ∧ h2 < ((2 ^ n : Nat) : Int) ∧ n ≤ 31 ∧ ((2 ^ n : Nat) : Int) - 1 ≤ hi) : mm_rg v 0 hi := by
  obtain ⟨a, ha, ea, ta⟩ := mm_nI_of rx c.1
  obtain ⟨b, hb, eb, tb⟩ := mm_nI_of ry c.2.1
  have h1 := rx.2; have h2 := ry.2
  have hq : v.toBitVec.toNat < 2 ^ n := by
    rw [e, ea, eb]
    have : (nI a ||| nI b).toBitVec = (nI a).toBitVec ||| (nI b).toBitVec := rfl
    rw [this, BitVec.toNat_or, pk_tn (by omega), pk_tn (by omega)]
    exact Nat.or_lt_two_pow (by omega) (by omega)
  have hn : 2 ^ n ≤ 2 ^ 31 := Nat.pow_le_pow_right (by decide) c.2.2.2.2.1
  have hv : v.toInt = (v.toBitVec.toNat : Int) := by
    have : v.toInt = v.toBitVec.toInt := rfl
    rw [this, BitVec.toInt_eq_toNat_of_lt (by omega)]
  have := c.2.2.2.2.2
  exact ⟨by omega, by omega⟩
theorem mm_cpyF {α : Type} {f g : Nat → α} {a b k : Int32} {n : Nat} (h : a.toNatClampNeg = 0 ∧ b.toNatClampNeg = 0 ∧ k.toNatClampNeg = n) : ∀ j, j < n → va_cpy f g a.toNatClampNeg b.toNatClampNeg k.toNatClampNeg j = f j := by
  intro j hj
  unfold va_cpy
  rw [h.1, h.2.1, h.2.2, if_pos ⟨Nat.zero_le _, by omega⟩]
  congr 1
  omega
/-! ===== acts ===== -/
def mm_act (f g : Nat → Int32) : Prop := ∀ k, (f k).toInt ≠ -1 → (g k).toInt ≤ 9
theorem mm_act_0 : mm_act (fun _ => 0) (fun _ => 0) := fun _ _ => by show (0 : Int32).toInt ≤ 9; decide
theorem mm_act_ld {f g : Nat → Int32} {k : Nat} {x v : Int32} {l1 h1 lo hi : Int} (h : mm_act f g) (e1 : x = f k) (e2 : v = g k) (r1 : mm_rg x l1 h1) (r2 : mm_rg v lo hi) (c : 0 ≤ l1) : mm_rg v lo 9 := by
  refine ⟨r2.1, ?_⟩
  rw [e2]
  exact h k (by rw [← e1]; have := r1.1; omega)
theorem mm_act_u2 {f g : Nat → Int32} {k : Nat} {x v : Int32} {hi : Int} (h : mm_act f g) (r : v.toInt ≤ hi) (c : hi ≤ 9) : mm_act (upd f k x) (upd g k v) := by
  intro j
  by_cases e : j = k
  · rw [e, pk_us, pk_us]; intro _; omega
  · rw [pk_un e, pk_un e]; exact h j
theorem mm_act_u1 {f g : Nat → Int32} {k : Nat} {x v : Int32} {lo hi : Int} (h : mm_act f g) (r : mm_rg x lo hi) (c : lo = -1 ∧ hi = -1) : mm_act (upd f k x) (upd g k v) := by
  intro j
  by_cases e : j = k
  · rw [e, pk_us, pk_us]; intro q; have := r.1; have := r.2; omega
  · rw [pk_un e, pk_un e]; exact h j
/-! ===== letters ===== -/
def mm_evn (i : Int32) : Prop := ∃ k : Nat, i.toInt = ((2 * k : Nat) : Int)
theorem mm_evn_0 : mm_evn 0 := ⟨0, by decide⟩
theorem mm_evn_s {i j : Int32} (h : mm_evn i) (t : j.toInt = i.toInt + 2) : mm_evn j := by
  obtain ⟨k, e⟩ := h
  exact ⟨k + 1, by omega⟩
def mm_told (f : Nat → Int64) (n t : Int32) : Prop := ∀ j : Nat, ((2 * j + 1 : Nat) : Int) < n.toInt → 0 ≤ (f (2 * j)).toInt ∧ (f (2 * j)).toInt < t.toInt
def mm_tolds (f : Nat → Int64) (i t : Int32) : Prop := mm_evn i ∧ ∀ j : Nat, ((2 * j : Nat) : Int) < i.toInt → 0 ≤ (f (2 * j)).toInt ∧ (f (2 * j)).toInt < t.toInt
theorem mm_tolds_0 (f : Nat → Int64) (t : Int32) : mm_tolds f 0 t := ⟨mm_evn_0, fun j h => by
  have z : (0 : Int32).toInt = 0 := by decide
  omega⟩
theorem mm_tolds_s {f : Nat → Int64} {i j t : Int32} {v u : Int64} {lo hi : Int} (h : mm_tolds f i t) (e : j.toInt = i.toInt + 2) (r : mm_rg i lo hi) (ev : v = f i.toNatClampNeg) (h0 : (0 : Int64).toInt ≤ v.toInt) (eu : u.toInt = t.toInt) (h1 : v.toInt < u.toInt) : mm_tolds f j t := by
  obtain ⟨⟨k, ek⟩, hh⟩ := h
  refine ⟨mm_evn_s ⟨k, ek⟩ e, fun q hq => ?_⟩
  by_cases c : ((2 * q : Nat) : Int) < i.toInt
  · exact hh q c
  · have e2 : i.toNatClampNeg = 2 * q := by
      have : i.toNatClampNeg = i.toInt.toNat := rfl
      omega
    have z : (0 : Int64).toInt = 0 := by decide
    rw [← e2, ← ev]
    exact ⟨by omega, by omega⟩
theorem mm_told_of {f : Nat → Int64} {i n t v : Int32} (h : mm_tolds f i t) (p : n.toInt ≤ v.toInt) (e : v.toInt = i.toInt + 1) : mm_told f n t := fun j hj => h.2 j (by omega)
theorem mm_told_ld {f : Nat → Int64} {n t ix y : Int32} {v : Int64} {l1 h1 l2 h2 hi : Int} (h : mm_told f n t) (ev : mm_evn ix) (e : v = f ix.toNatClampNeg) (ty : y.toInt = ix.toInt + 1) (p : y.toInt < n.toInt) (r : mm_rg ix l1 h1) (rt : mm_rg t l2 h2) (c : h2 - 1 ≤ hi) : mm_rl v 0 hi := by
  obtain ⟨k, ek⟩ := ev
  have e2 : ix.toNatClampNeg = 2 * k := by
    have : ix.toNatClampNeg = ix.toInt.toNat := rfl
    omega
  have q := h k (by omega)
  rw [e, e2]
  have := rt.2
  exact ⟨q.1, by omega⟩
/-! ===== rows ===== -/
def mm_rch (f n L : Int32) : Prop := f.toInt + n.toInt ≤ L.toInt
theorem mm_rch_of {f n L v : Int32} (p : f.toInt ≤ v.toInt) (t : v.toInt = L.toInt - n.toInt) : mm_rch f n L := by
  unfold mm_rch; omega
theorem mm_cpR {p q L : Int32} {l1 h1 l2 h2 l3 h3 : Int} {n : Nat} (h : mm_rch p q L) (rp : mm_rg p l1 h1) (rq : mm_rg q l2 h2) (rL : mm_rg L l3 h3) (c : 0 ≤ l1 ∧ 0 ≤ l2 ∧ h3 ≤ (n : Int)) : p.toNatClampNeg + q.toNatClampNeg ≤ n := by
  have e1 := mm_clI rp c.1
  have e2 := mm_clI rq c.2.1
  have := rL.2
  unfold mm_rch at h
  omega
def mm_rcl (f : Nat → Int32) (l : Int32) : Prop := (f l.toNatClampNeg).toInt ≤ 6
def mm_rc7 (f : Nat → Int32) (lc : Int32) : Prop := (f (lc - 1).toNatClampNeg).toInt ≤ 6
theorem mm_rcl_of {f : Nat → Int32} {l lc : Int32} (h : mm_rc7 f lc) (e : l = lc - 1) : mm_rcl f l := by rw [e]; exact h
theorem mm_rc7_of {f : Nat → Int32} {v lc x : Int32} {lo : Int} (e : v = lc - 1) (ex : x = f v.toNatClampNeg) (r : mm_rg x lo 6) : mm_rc7 f lc := by
  unfold mm_rc7
  rw [← e, ← ex]
  exact r.2
theorem mm_rcl_ld {f : Nat → Int32} {l v : Int32} {lo hi : Int} (h : mm_rcl f l) (e : v = f l.toNatClampNeg) (r : mm_rg v lo hi) (_ : True) : mm_rg v lo 6 := ⟨r.1, by rw [e]; exact h⟩
/-! ===== chars, bits ===== -/
theorem mm_i2c {v x : Int32} (e : v = (x.toUInt32 % 65536).toInt32) : mm_rg v 0 65535 := by
  have h : (x.toUInt32 % 65536).toNat < 65536 := by
    have : (x.toUInt32 % 65536).toNat = x.toUInt32.toNat % 65536 := rfl
    rw [this]; exact Nat.mod_lt _ (by decide)
  have hv : v.toInt = ((x.toUInt32 % 65536).toNat : Int) := by
    rw [e]
    have e2 : (x.toUInt32 % 65536).toInt32.toInt = (x.toUInt32 % 65536).toBitVec.toInt := rfl
    rw [e2, BitVec.toInt_eq_toNat_of_lt]
    · rfl
    · have : (x.toUInt32 % 65536).toBitVec.toNat = (x.toUInt32 % 65536).toNat := rfl
      omega
  exact ⟨by omega, by omega⟩
theorem mm_nch {v : Int32} (h : mm_rg v 0 65535) : narrow .char (.int v) = .int v := by
  obtain ⟨j, hj, ej, et⟩ := mm_nI_of h (by decide)
  have h2 := h.2
  have e : (v.toUInt32 % 65536).toInt32 = v := by
    have q : v.toUInt32.toNat = j := by
      rw [ej]
      have : (nI j).toUInt32.toNat = (nI j).toBitVec.toNat := rfl
      rw [this, pk_tn (by omega)]
    have q2 : v.toUInt32 % 65536 = v.toUInt32 := by
      apply UInt32.toNat_inj.mp
      have : (v.toUInt32 % 65536).toNat = v.toUInt32.toNat % 65536 := rfl
      rw [this, q]
      exact Nat.mod_eq_of_lt (by omega)
    rw [q2]
    rfl
  show Value.int (v.toUInt32 % 65536).toInt32 = .int v
  rw [e]
def mm_us (x y : Int32) : Int32 := (x.toUInt32 >>> (y.toUInt32 &&& Int32.toUInt32 31)).toInt32
def mm_bc1 (i : Int32) : Int32 := i - (mm_us i 1 &&& 1431655765)
def mm_bc2 (a : Int32) : Int32 := (a &&& 858993459) + (mm_us a 2 &&& 858993459)
def mm_bc3 (b : Int32) : Int32 := (b + mm_us b 4) &&& 252645135
def mm_bc4 (c : Int32) : Int32 := c + mm_us c 8
def mm_bc5 (d : Int32) : Int32 := d + mm_us d 16
def mm_bc (i : Int32) : Int32 := mm_bc5 (mm_bc4 (mm_bc3 (mm_bc2 (mm_bc1 i)))) &&& 63
theorem mm_bcT : ∀ j : Nat, j < 63 → 0 ≤ (mm_bc (nI j)).toInt ∧ (mm_bc (nI j)).toInt ≤ 5 := by decide +kernel
theorem mm_bc62 {i r : Int32} {lo hi : Int} (h : mm_rg i lo hi) (e : r = mm_bc i) (c : 0 ≤ lo ∧ hi ≤ 62) : mm_rg r 0 5 := by
  obtain ⟨j, hj, ej, et⟩ := mm_nI_of h c.1
  have := h.2
  rw [e, ej]
  exact mm_bcT j (by omega)
