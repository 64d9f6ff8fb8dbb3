theorem mm_pm_congr {f g : Nat → Int32} {k n : Nat} (h : mm_pm f k n) (e : ∀ i, i < n → g (k + i) = f (k + i)) : mm_pm g k n :=
  ⟨fun i hi => by rw [e i hi]; exact h.1 i hi, fun v hv => by
    obtain ⟨i, hi, q⟩ := h.2 v hv
    exact ⟨i, hi, by rw [e i hi]; exact q⟩⟩
theorem mm_pm_move {f g : Nat → Int32} {k k2 n : Nat} (h : mm_pm f k n) (e : ∀ i, i < n → g (k2 + i) = f (k + i)) : mm_pm g k2 n :=
  ⟨fun i hi => by rw [e i hi]; exact h.1 i hi, fun v hv => by
    obtain ⟨i, hi, q⟩ := h.2 v hv
    exact ⟨i, hi, by rw [e i hi]; exact q⟩⟩
/-! ===== copies ===== -/
def mm_crk (f g : Nat → Int32) (m a b : Nat) (k : Int32) : Prop := ∀ j : Nat, g j = if m * b ≤ j ∧ (j : Int) < ((m * b : Nat) : Int) + k.toInt then f (j - m * b + m * a) else f j
theorem mm_crk_0 (f : Nat → Int32) (m a b : Nat) : mm_crk f f m a b 0 := fun j => by
  have : (0 : Int32).toInt = 0 := by decide
  rw [if_neg (by omega)]
theorem mm_crk_s {f g0 g : Nat → Int32} {m a b : Nat} {k0 k ix i2 v : Int32} {lo hi : Int} (p : mm_crk f g0 m a b k0) (t : k.toInt = k0.toInt + 1) (r : mm_rg k0 lo hi) (eg : g = upd g0 ix.toNatClampNeg v) (ev : v = g0 i2.toNatClampNeg) (t1 : ix.toInt = k0.toInt + ((m * b : Nat) : Int)) (t2 : i2.toInt = k0.toInt + ((m * a : Nat) : Int)) (c : 0 ≤ lo ∧ hi < (m : Int) ∧ a ≠ b) : mm_crk f g m a b k := by
  intro j
  have r1 := r.1; have r2 := r.2
  have z1 : ix.toNatClampNeg = ix.toInt.toNat := rfl
  have z2 : i2.toNatClampNeg = i2.toInt.toNat := rfl
  have hx : v = f (k0.toInt.toNat + m * a) := by
    rw [ev, p i2.toNatClampNeg, show i2.toNatClampNeg = k0.toInt.toNat + m * a from by omega]
    rw [if_neg]
    rintro ⟨q1, q2⟩
    rcases Nat.lt_or_gt_of_ne c.2.2 with h | h
    · have := Nat.mul_le_mul_left m (show a + 1 ≤ b from h)
      rw [Nat.mul_add, Nat.mul_one] at this
      omega
    · have := Nat.mul_le_mul_left m (show b + 1 ≤ a from h)
      rw [Nat.mul_add, Nat.mul_one] at this
      omega
  rw [eg]
  by_cases q : j = ix.toNatClampNeg
  · rw [q, pk_us, hx, if_pos (by omega)]
    congr 1
    omega
  · rw [pk_un q, p j]
    by_cases q2 : m * b ≤ j ∧ (j : Int) < ((m * b : Nat) : Int) + k0.toInt
    · rw [if_pos q2, if_pos (by omega)]
    · rw [if_neg q2, if_neg (by omega)]
def mm_crw (f g : Nat → Int32) (m a b : Nat) : Prop := ∀ j : Nat, g j = if m * b ≤ j ∧ j < m * b + m then f (j - m * b + m * a) else f j
theorem mm_crw_of {f g : Nat → Int32} {m a b : Nat} {k : Int32} {lo hi : Int} (h : mm_crk f g m a b k) (r : mm_rg k lo hi) (c : lo = (m : Int) ∧ hi = (m : Int)) : mm_crw f g m a b := by
  intro j
  have := r.1; have := r.2
  rw [h j]
  by_cases q : m * b ≤ j ∧ j < m * b + m
  · rw [if_pos q, if_pos (by omega)]
  · rw [if_neg q, if_neg (by omega)]
theorem mm_crw_in {f g : Nat → Int32} {m a b i : Nat} (h : mm_crw f g m a b) (hi : i < m) : g (m * b + i) = f (m * a + i) := by
  rw [h, if_pos (by omega)]
  congr 1
  omega
theorem mm_crw_out {f g : Nat → Int32} {m a b d i : Nat} (h : mm_crw f g m a b) (hd : d ≠ b) (hi : i < m) : g (m * d + i) = f (m * d + i) := by
  rw [h, if_neg]
  rintro ⟨q1, q2⟩
  rcases Nat.lt_or_gt_of_ne hd with z | z
  · have := Nat.mul_le_mul_left m (show d + 1 ≤ b from z)
    rw [Nat.mul_add, Nat.mul_one] at this
    omega
  · have := Nat.mul_le_mul_left m (show b + 1 ≤ d from z)
    rw [Nat.mul_add, Nat.mul_one] at this
    omega
/-! ===== a book's rules ===== -/
def mm_rls (rm tk : Nat → Int32) (b : Nat) (h2 h3 : Int32) : Prop := ∀ l r : Nat, (l : Int) < h3.toInt → l < 3 → (r : Int) < (rm (3 * b + l)).toInt → r < 7 → h2.toInt ≤ 9 → mm_pm tk (210 * b + 70 * l + 10 * r) (h2.toInt.toNat + 1)
theorem mm_rls_z {rm tk : Nat → Int32} {b : Nat} {h2 h3 : Int32} {lo hi : Int} (q : mm_rg h3 lo hi) (c : hi ≤ 0) : mm_rls rm tk b h2 h3 := fun l r h _ _ _ _ => by have := q.2; omega
theorem mm_rls_le {rm tk : Nat → Int32} {b : Nat} {h2 h3 h3' : Int32} (h : mm_rls rm tk b h2 h3) (q : h3'.toInt ≤ h3.toInt) : mm_rls rm tk b h2 h3' := fun l r a1 a2 a3 a4 => h l r (by omega) a2 a3 a4
theorem mm_rls_cp {rm tk rm' tk' : Nat → Int32} {a b : Nat} {h2 h3 : Int32} (p : mm_rls rm tk a h2 h3) (c1 : mm_crw rm rm' 3 a b) (c2 : mm_crw tk tk' 210 a b) : mm_rls rm' tk' b h2 h3 := by
  intro l r a1 a2 a3 a4 a5
  rw [mm_crw_in c1 a2] at a3
  refine mm_pm_move (p l r a1 a2 a3 a4 a5) (fun i hi => ?_)
  have := mm_crw_in c2 (i := 70 * l + 10 * r + i) (by omega)
  rw [show 210 * b + 70 * l + 10 * r + i = 210 * b + (70 * l + 10 * r + i) from by omega, this]
  congr 1
  omega
theorem mm_rls_ck {rm tk rm' tk' : Nat → Int32} {a d b : Nat} {h2 h3 : Int32} (p : mm_rls rm tk b h2 h3) (c1 : mm_crw rm rm' 3 a d) (c2 : mm_crw tk tk' 210 a d) (c : b ≠ d) : mm_rls rm' tk' b h2 h3 := by
  intro l r a1 a2 a3 a4 a5
  rw [mm_crw_out c1 c a2] at a3
  refine mm_pm_congr (p l r a1 a2 a3 a4 a5) (fun i hi => ?_)
  have := mm_crw_out c2 c (i := 70 * l + 10 * r + i) (by omega)
  rw [show 210 * b + 70 * l + 10 * r + i = 210 * b + (70 * l + 10 * r + i) from by omega, this]
theorem mm_rls_fr {rm tk rm' tk' : Nat → Int32} {b : Nat} {h2 h3 : Int32} (p : mm_rls rm tk b h2 h3) (f1 : mm_fr rm rm' 12) (f2 : mm_fr tk tk' 840) (c : b ≤ 3) : mm_rls rm' tk' b h2 h3 := by
  intro l r a1 a2 a3 a4 a5
  rw [f1 _ (by omega)] at a3
  exact mm_pm_congr (p l r a1 a2 a3 a4 a5) (fun i hi => f2 _ (by omega))
theorem mm_rls_land {rm0 rm tk : Nat → Int32} {h2 l0 h3 ix : Int32} {lo hi : Int} (p : mm_rls rm0 tk 4 h2 l0) (e : rm = upd rm0 ix.toNatClampNeg 0) (t : ix.toInt = l0.toInt + 12) (t3 : h3.toInt = l0.toInt + 1) (r0 : mm_rg l0 lo hi) (c : 0 ≤ lo) : mm_rls rm tk 4 h2 h3 := by
  intro l r a1 a2 a3 a4 a5
  have z : ix.toNatClampNeg = ix.toInt.toNat := rfl
  have z0 : (0 : Int32).toInt = 0 := by decide
  have := r0.1
  by_cases q : (l : Int) = l0.toInt
  · rw [e, show 3 * 4 + l = ix.toNatClampNeg from by omega, pk_us] at a3
    omega
  · rw [e, pk_un (by omega)] at a3
    exact p l r (by omega) a2 a3 a4 a5
theorem mm_rls_rule {rm0 rm tk0 tk : Nat → Int32} {h2 h3 ix x v k : Int32} {l1 h1 l2 h2' : Int} (p : mm_rls rm0 tk0 4 h2 h3) (e : rm = upd rm0 ix.toNatClampNeg v) (t : ix.toInt = h3.toInt + 11) (ex : x = rm0 ix.toNatClampNeg) (ev : v.toInt = x.toInt + 1) (ek : k.toInt = 10 * (7 * ix.toInt + x.toInt)) (pa : mm_ag tk0 tk k) (pp : mm_pmr tk k h2) (r3 : mm_rg h3 l1 h1) (rx : mm_rg x l2 h2') (c : 1 ≤ l1 ∧ 0 ≤ l2) : mm_rls rm tk 4 h2 h3 := by
  intro l r a1 a2 a3 a4 a5
  have z : ix.toNatClampNeg = ix.toInt.toNat := rfl
  have zk : k.toNatClampNeg = k.toInt.toNat := rfl
  have := r3.1; have := rx.1
  by_cases q : (l : Int) = h3.toInt - 1
  · rw [e, show 3 * 4 + l = ix.toNatClampNeg from by omega, pk_us] at a3
    by_cases q2 : (r : Int) = x.toInt
    · have : 210 * 4 + 70 * l + 10 * r = k.toNatClampNeg := by omega
      rw [this]
      exact pp
    · have a3' : (r : Int) < (rm0 (3 * 4 + l)).toInt := by
        rw [show 3 * 4 + l = ix.toNatClampNeg from by omega, ← ex]
        omega
      exact mm_pm_congr (p l r a1 a2 a3' a4 a5) (fun i hi => pa _ (by omega))
  · rw [e, pk_un (by omega)] at a3
    exact mm_pm_congr (p l r a1 a2 a3 a4 a5) (fun i hi => pa _ (by omega))
theorem mm_rls_beg {rm tk0 tk : Nat → Int32} {h2 h3 ix x k : Int32} {l1 h1 l2 h2' : Int} (p : mm_rls rm tk0 4 h2 h3) (t : ix.toInt = h3.toInt + 11) (ex : x = rm ix.toNatClampNeg) (ek : k.toInt = 10 * (7 * ix.toInt + x.toInt)) (pa : mm_ag tk0 tk k) (r3 : mm_rg h3 l1 h1) (rx : mm_rg x l2 h2') (c : 1 ≤ l1 ∧ 0 ≤ l2) : mm_rls rm tk 4 h2 h3 := by
  intro l r a1 a2 a3 a4 a5
  have z : ix.toNatClampNeg = ix.toInt.toNat := rfl
  have := r3.1; have := rx.1
  refine mm_pm_congr (p l r a1 a2 a3 a4 a5) (fun i hi => pa _ ?_)
  by_cases q : (l : Int) = h3.toInt - 1
  · rw [show 3 * 4 + l = ix.toNatClampNeg from by omega, ← ex] at a3
    omega
  · omega
/-! ===== a book's texts ===== -/
def mm_txs (tm ta : Nat → Int32) (b : Nat) (h2 h4 : Int32) : Prop := ∀ t i : Nat, (t : Int) < h4.toInt → t < 6 → (i : Int) < (tm (6 * b + t)).toInt → i < 8 → 0 ≤ (ta (48 * b + 8 * t + i)).toInt ∧ (ta (48 * b + 8 * t + i)).toInt ≤ h2.toInt
theorem mm_txs_z {tm ta : Nat → Int32} {b : Nat} {h2 h4 : Int32} {lo hi : Int} (q : mm_rg h4 lo hi) (c : hi ≤ 0) : mm_txs tm ta b h2 h4 := fun t i h _ _ _ => by have := q.2; omega
theorem mm_txs_le {tm ta : Nat → Int32} {b : Nat} {h2 h4 h4' : Int32} (h : mm_txs tm ta b h2 h4) (q : h4'.toInt ≤ h4.toInt) : mm_txs tm ta b h2 h4' := fun t i a1 a2 a3 a4 => h t i (by omega) a2 a3 a4
theorem mm_txs_cp {tm ta tm' ta' : Nat → Int32} {a b : Nat} {h2 h4 : Int32} (p : mm_txs tm ta a h2 h4) (c1 : mm_crw tm tm' 6 a b) (c2 : mm_crw ta ta' 48 a b) : mm_txs tm' ta' b h2 h4 := by
  intro t i a1 a2 a3 a4
  rw [mm_crw_in c1 a2] at a3
  have := mm_crw_in c2 (i := 8 * t + i) (by omega)
  rw [show 48 * b + 8 * t + i = 48 * b + (8 * t + i) from by omega, this, show 48 * a + (8 * t + i) = 48 * a + 8 * t + i from by omega]
  exact p t i a1 a2 a3 a4
theorem mm_txs_ck {tm ta tm' ta' : Nat → Int32} {a d b : Nat} {h2 h4 : Int32} (p : mm_txs tm ta b h2 h4) (c1 : mm_crw tm tm' 6 a d) (c2 : mm_crw ta ta' 48 a d) (c : b ≠ d) : mm_txs tm' ta' b h2 h4 := by
  intro t i a1 a2 a3 a4
  rw [mm_crw_out c1 c a2] at a3
  have := mm_crw_out c2 c (i := 8 * t + i) (by omega)
  rw [show 48 * b + 8 * t + i = 48 * b + (8 * t + i) from by omega, this, show 48 * b + (8 * t + i) = 48 * b + 8 * t + i from by omega]
  exact p t i a1 a2 a3 a4
theorem mm_txs_fr {tm ta tm' ta' : Nat → Int32} {b : Nat} {h2 h4 : Int32} (p : mm_txs tm ta b h2 h4) (f1 : mm_fr tm tm' 24) (f2 : mm_fr ta ta' 192) (c : b ≤ 3) : mm_txs tm' ta' b h2 h4 := by
  intro t i a1 a2 a3 a4
  rw [f1 _ (by omega)] at a3
  rw [f2 _ (by omega)]
  exact p t i a1 a2 a3 a4
def mm_txl (tm0 ta0 tm ta : Nat → Int32) (t h : Int32) : Prop := (∀ j : Nat, j ≠ t.toNatClampNeg → tm j = tm0 j) ∧ (∀ j : Nat, (j < 8 * t.toNatClampNeg ∨ 8 * t.toNatClampNeg + 8 ≤ j) → ta j = ta0 j) ∧ ∀ i : Nat, (i : Int) < (tm t.toNatClampNeg).toInt → i < 8 → 0 ≤ (ta (8 * t.toNatClampNeg + i)).toInt ∧ (ta (8 * t.toNatClampNeg + i)).toInt ≤ h.toInt
theorem mm_txl_0 {tm0 tm ta : Nat → Int32} {t h : Int32} (e : tm = upd tm0 t.toNatClampNeg 0) : mm_txl tm0 ta tm ta t h := by
  refine ⟨fun j q => by rw [e, pk_un q], fun _ _ => rfl, fun i q _ => ?_⟩
  rw [e, pk_us] at q
  have : (0 : Int32).toInt = 0 := by decide
  omega
theorem mm_txl_s {tm0 ta0 tm1 ta1 tm ta : Nat → Int32} {t h v w x i : Int32} {l1 h1 l2 h2 l3 h3 : Int} (p : mm_txl tm0 ta0 tm1 ta1 t h) (e1 : tm = upd tm1 t.toNatClampNeg v) (e2 : ta = upd ta1 i.toNatClampNeg w) (ex : x = tm1 t.toNatClampNeg) (ev : v.toInt = x.toInt + 1) (ei : i.toInt = 8 * t.toInt + x.toInt) (le : w.toInt ≤ h.toInt) (rw_ : mm_rg w l1 h1) (rx : mm_rg x l2 h2) (rt : mm_rg t l3 h3) (c : 0 ≤ l1 ∧ 0 ≤ l2 ∧ h2 ≤ 7 ∧ 0 ≤ l3) : mm_txl tm0 ta0 tm ta t h := by
  have zi : i.toNatClampNeg = i.toInt.toNat := rfl
  have zt : t.toNatClampNeg = t.toInt.toNat := rfl
  have := rw_.1; have := rx.1; have := rx.2; have := rt.1
  refine ⟨fun j q => by rw [e1, pk_un q]; exact p.1 j q, fun j q => by rw [e2, pk_un (by omega)]; exact p.2.1 j q, fun j q hj => ?_⟩
  rw [e1, pk_us] at q
  by_cases c2 : (j : Int) = x.toInt
  · rw [e2, show 8 * t.toNatClampNeg + j = i.toNatClampNeg from by omega, pk_us]
    exact ⟨by omega, le⟩
  · rw [e2, pk_un (by omega)]
    exact p.2.2 j (by rw [← ex]; omega) hj
theorem mm_txs_t {tm0 ta0 tm ta : Nat → Int32} {h2 l0 h4 t : Int32} {lo hi : Int} (p : mm_txs tm0 ta0 4 h2 l0) (q : mm_txl tm0 ta0 tm ta t h2) (et : t.toInt = l0.toInt + 24) (e4 : h4.toInt = l0.toInt + 1) (r0 : mm_rg l0 lo hi) (c : 0 ≤ lo) : mm_txs tm ta 4 h2 h4 := by
  intro s i a1 a2 a3 a4
  have zt : t.toNatClampNeg = t.toInt.toNat := rfl
  have := r0.1
  by_cases z : (s : Int) = l0.toInt
  · rw [show 6 * 4 + s = t.toNatClampNeg from by omega] at a3
    have := q.2.2 i a3 a4
    rw [show 48 * 4 + 8 * s + i = 8 * t.toNatClampNeg + i from by omega]
    exact this
  · rw [q.1 _ (by omega)] at a3
    rw [q.2.1 _ (by omega)]
    exact p s i (by omega) a2 a3 a4
/-! ===== a book's acts ===== -/
def mm_acs (ac : Nat → Int32) (b : Nat) (h2 h3 h5 : Int32) : Prop := ∀ k : Nat, (k : Int) < h5.toInt → k < 30 → 0 ≤ (ac (90 * b + (3 * k + 2))).toInt ∧ ((ac (90 * b + 3 * k)).toInt < 0 ∨ ((ac (90 * b + 3 * k)).toInt < h3.toInt ∧ 0 ≤ (ac (90 * b + (3 * k + 1))).toInt ∧ (ac (90 * b + (3 * k + 1))).toInt ≤ h2.toInt ∧ (ac (90 * b + (3 * k + 2))).toInt ≤ h2.toInt))
theorem mm_acs_z {ac : Nat → Int32} {b : Nat} {h2 h3 h5 : Int32} {lo hi : Int} (q : mm_rg h5 lo hi) (c : hi ≤ 0) : mm_acs ac b h2 h3 h5 := fun k h _ => by have := q.2; omega
theorem mm_acs_le {ac : Nat → Int32} {b : Nat} {h2 h3 h5 h5' : Int32} (h : mm_acs ac b h2 h3 h5) (q : h5'.toInt ≤ h5.toInt) : mm_acs ac b h2 h3 h5' := fun k a1 a2 => h k (by omega) a2
theorem mm_acs_cp {ac ac' : Nat → Int32} {a b : Nat} {h2 h3 h5 : Int32} (p : mm_acs ac a h2 h3 h5) (c1 : mm_crw ac ac' 90 a b) : mm_acs ac' b h2 h3 h5 := by
  intro k a1 a2
  rw [mm_crw_in c1 (i := 3 * k) (by omega), mm_crw_in c1 (i := 3 * k + 1) (by omega), mm_crw_in c1 (i := 3 * k + 2) (by omega)]
  exact p k a1 a2
theorem mm_acs_ck {ac ac' : Nat → Int32} {a d b : Nat} {h2 h3 h5 : Int32} (p : mm_acs ac b h2 h3 h5) (c1 : mm_crw ac ac' 90 a d) (c : b ≠ d) : mm_acs ac' b h2 h3 h5 := by
  intro k a1 a2
  rw [mm_crw_out c1 c (i := 3 * k) (by omega), mm_crw_out c1 c (i := 3 * k + 1) (by omega), mm_crw_out c1 c (i := 3 * k + 2) (by omega)]
  exact p k a1 a2
theorem mm_acs_fr {ac ac' : Nat → Int32} {b : Nat} {h2 h3 h5 : Int32} (p : mm_acs ac b h2 h3 h5) (f1 : mm_fr ac ac' 360) (c : b ≤ 3) : mm_acs ac' b h2 h3 h5 := by
  intro k a1 a2
  rw [f1 _ (by omega), f1 _ (by omega), f1 _ (by omega)]
  exact p k a1 a2
def mm_tl (ln h3 h4 : Int32) : Prop := (1 ≤ h3.toInt ∨ 1 ≤ h4.toInt) → 1 ≤ ln.toInt
theorem mm_tl_1 {ln h3 h4 : Int32} {lo hi : Int} (r : mm_rg ln lo hi) (c : 1 ≤ lo) : mm_tl ln h3 h4 := fun _ => Int.le_trans c r.1
theorem mm_tl_0 {ln h3 h4 : Int32} {l1 h1 l2 h2 : Int} (r : mm_rg h3 l1 h1) (q : mm_rg h4 l2 h2) (c : h1 ≤ 0) (d : h2 ≤ 0) : mm_tl ln h3 h4 := fun z => by have := r.2; have := q.2; omega
theorem mm_tl_3 {ln h3 h4 : Int32} {l1 h1 l2 h2 : Int} (h : mm_tl ln h3 h4) (r : mm_rg h3 l1 h1) (q : mm_rg ln l2 h2) (c : 1 ≤ l1) : mm_rg ln 1 h2 := ⟨h (Or.inl (Int.le_trans c r.1)), q.2⟩
theorem mm_tl_4 {ln h3 h4 : Int32} {l1 h1 l2 h2 : Int} (h : mm_tl ln h3 h4) (r : mm_rg h4 l1 h1) (q : mm_rg ln l2 h2) (c : 1 ≤ l1) : mm_rg ln 1 h2 := ⟨h (Or.inr (Int.le_trans c r.1)), q.2⟩
