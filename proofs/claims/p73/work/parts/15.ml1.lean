/-! ===== rows told place by place ===== -/
noncomputable def mm_g (L : List Int32) : Nat → Int32 := Classical.choose (⟨fun i => L.getD i 0, rfl⟩ : ∃ f : Nat → Int32, f = fun i => L.getD i 0)
theorem mm_g_eq (L : List Int32) : mm_g L = fun i => L.getD i 0 := Classical.choose_spec (⟨fun i => L.getD i 0, rfl⟩ : ∃ f : Nat → Int32, f = fun i => L.getD i 0)
theorem mm_gs {L L2 : List Int32} {k : Nat} {v : Int32} (hk : k < L.length) (h : L.set k v = L2) : upd (mm_g L) k v = mm_g L2 := by
  funext j
  rw [← h, mm_g_eq, mm_g_eq]
  by_cases e : j = k
  · rw [e, pk_us]
    simp [hk]
  · rw [pk_un e]
    simp [List.getD, List.getElem?_set_ne (Ne.symm e)]
theorem mm_gs2 {L L2 : List Int32} {i v : Int32} (k n : Nat) (hi : i.toNatClampNeg = k) (hn : L.length = n) (hk : Nat.ble (k + 1) n = true) (h : L.set k v = L2) : upd (mm_g L) i.toNatClampNeg v = mm_g L2 := by
  rw [hi]
  exact mm_gs (by rw [hn]; exact Nat.le_of_ble_eq_true hk) h
theorem mm_ge {L : List Int32} {i v : Int32} (k : Nat) (hi : i.toNatClampNeg = k) (h : L[k]? = some v) : mm_g L i.toNatClampNeg = v := by
  rw [mm_g_eq, hi]
  show L.getD k 0 = v
  rw [List.getD, h]
  rfl
theorem mm_ltne {a b : Int} (h : a ≤ b) (n : a ≠ b) : a < b := by omega
theorem mm_mulEc {v a b : Int32} {l1 h1 l2 h2 : Int} (e : v = a * b) (ha : mm_rg a l1 h1) (hb : mm_rg b l2 h2) (c : 0 ≤ l1 ∧ 0 ≤ l2 ∧ h1 * h2 ≤ 2147483647) {k : Int} (hk : a.toInt = k) : v.toInt = k * b.toInt := by
  rw [mm_mulE e (mm_wk ha ⟨c.1, Int.le_refl _⟩) (mm_wk hb ⟨c.2.1, Int.le_refl _⟩) c.2.2, hk]
theorem mm_mulEd {v a b : Int32} {l1 h1 l2 h2 : Int} (e : v = a * b) (ha : mm_rg a l1 h1) (hb : mm_rg b l2 h2) (c : 0 ≤ l1 ∧ 0 ≤ l2 ∧ h1 * h2 ≤ 2147483647) {k : Int} (hk : b.toInt = k) : v.toInt = k * a.toInt := by
  rw [mm_mulE e (mm_wk ha ⟨c.1, Int.le_refl _⟩) (mm_wk hb ⟨c.2.1, Int.le_refl _⟩) c.2.2, hk, Int.mul_comm]
theorem mm_cl {v : Int32} {lo hi : Int} (h : mm_rg v lo hi) (c : 0 ≤ lo) : (v.toNatClampNeg : Int) = v.toInt := mm_clI h c
/-! ===== tokens ===== -/
def mm_tk (tk pl sp : Int32) : Prop := tk.toInt ≤ 2 ∨ pl.toInt < sp.toInt
theorem mm_tk1 {tk pl sp : Int32} {lo hi : Int} (r : mm_rg tk lo hi) (c : hi ≤ 2) : mm_tk tk pl sp := Or.inl (Int.le_trans r.2 c)
theorem mm_tk3 {tk pl sp : Int32} {lo hi : Int} (h : mm_tk tk pl sp) (r : mm_rg tk lo hi) (c : 3 ≤ lo) : pl.toInt < sp.toInt := by
  rcases h with h | h
  · have := r.1; omega
  · exact h
def mm_go (b p q : Int32) : Prop := b.toInt = 0 → p.toInt < q.toInt
theorem mm_go_n {b p q : Int32} {lo hi : Int} (r : mm_rg b lo hi) (c : 1 ≤ lo) : mm_go b p q := fun h => by have := r.1; omega
theorem mm_go_t {b p m q : Int32} (h : mm_go b m q) (l : p.toInt ≤ m.toInt) : mm_go b p q := fun z => by have := h z; omega
def mm_lp (b L p : Int32) : Prop := b.toInt = 0 → L.toInt ≤ p.toInt
theorem mm_lp0 {b L p : Int32} {lo hi : Int} (h : mm_lp b L p) (r : mm_rg b lo hi) (c : lo = 0 ∧ hi = 0) : L.toInt ≤ p.toInt := h (by have := r.1; have := r.2; omega)
theorem mm_lp_n {b L p : Int32} {lo hi : Int} (r : mm_rg b lo hi) (c : 1 ≤ lo) : mm_lp b L p := fun h => by have := r.1; omega
theorem mm_lp_l {b L p : Int32} {lo hi k : Int} (r : mm_rg p lo hi) (e : L.toInt = k) (c : k ≤ lo) : mm_lp b L p := fun _ => by have := r.1; omega
theorem mm_lp_s {b L L2 p q : Int32} (h : mm_go b p q) (l : L.toInt ≤ p.toInt) (e : L2.toInt = L.toInt + 1) : mm_lp b L2 q := fun z => by have := h z; omega
theorem mm_bm {n : Nat} {b0 p0 b1 p1 : Int32} {l1 h1 l2 h2 : Int} (hm : (if (b0 : Int32).toInt = 0 then (601 - (p0 : Int32).toInt).toNat + 1 else 0) < n + 1) (r0 : mm_rg b0 l1 h1) (g : mm_go b1 p0 p1) (r1 : mm_rg p1 l2 h2) (c : l1 = 0 ∧ h1 = 0 ∧ h2 ≤ 600 := by decide) : (if (b1 : Int32).toInt = 0 then (601 - (p1 : Int32).toInt).toNat + 1 else 0) < n := by
  have z : b0.toInt = 0 := by have := r0.1; have := r0.2; omega
  rw [if_pos z] at hm
  split
  · rename_i q; have := g q; have := r1.2; omega
  · omega
def mm_b7 (f : Nat → Int32) (t b : Int32) : Prop := b.toInt = 0 → (f t.toNatClampNeg).toInt ≤ 7
theorem mm_b7_ld {f : Nat → Int32} {t b v : Int32} {l1 h1 lo hi : Int} (h : mm_b7 f t b) (r : mm_rg b l1 h1) (e : v = f t.toNatClampNeg) (rv : mm_rg v lo hi) (c : l1 = 0 ∧ h1 = 0) : mm_rg v lo 7 := ⟨rv.1, by rw [e]; exact h (by have := r.1; have := r.2; omega)⟩
theorem mm_b7_n {f : Nat → Int32} {t b : Int32} {lo hi : Int} (r : mm_rg b lo hi) (c : 1 ≤ lo) : mm_b7 f t b := fun h => by have := r.1; omega
theorem mm_b7_u {f g : Nat → Int32} {t b v : Int32} {lo hi : Int} (e : g = upd f t.toNatClampNeg v) (r : mm_rg v lo hi) (c : hi ≤ 7) : mm_b7 g t b := fun _ => by rw [e, pk_us]; exact Int.le_trans r.2 c
theorem mm_b7_x {f : Nat → Int32} {t b v : Int32} {lo hi : Int} (e : v = f t.toNatClampNeg) (r : mm_rg v lo hi) (c : hi ≤ 7) : mm_b7 f t b := fun _ => by rw [← e]; exact Int.le_trans r.2 c
theorem mm_tmM {n : Nat} {b0 b1 t x v : Int32} {f g : Nat → Int32} {l1 h1 l2 h2 : Int} (hm : (if (b0 : Int32).toInt = 0 then (8 - (f (t : Int32).toNatClampNeg).toInt).toNat + 1 else 0) < n + 1) (r0 : mm_rg b0 l1 h1) (ex : x = f t.toNatClampNeg) (eg : g = upd f t.toNatClampNeg v) (ev : v.toInt = x.toInt + 1) (rx : mm_rg x l2 h2) (c : l1 = 0 ∧ h1 = 0 ∧ h2 ≤ 7) : (if (b1 : Int32).toInt = 0 then (8 - (g (t : Int32).toNatClampNeg).toInt).toNat + 1 else 0) < n := by
  have z : b0.toInt = 0 := by have := r0.1; have := r0.2; omega
  rw [if_pos z, ← ex] at hm
  rw [eg, pk_us]
  have := rx.2
  split <;> omega
/-! ===== rules of a land ===== -/
def mm_rr (f : Nat → Int32) (h r : Int32) : Prop := 1 ≤ h.toInt → r = f (h.toInt.toNat + 11)
theorem mm_rr_0 {f : Nat → Int32} {h r : Int32} {lo hi : Int} (q : mm_rg h lo hi) (c : hi ≤ 0) : mm_rr f h r := fun z => by have := q.2; omega
theorem mm_rr_l {f : Nat → Int32} {h r i : Int32} {lo hi : Int} (e : r = f i.toNatClampNeg) (q : mm_rg h lo hi) (t : i.toInt = h.toInt + 11) (c : 0 ≤ lo) : mm_rr f h r := fun z => by
  have : i.toNatClampNeg = h.toInt.toNat + 11 := by
    have : i.toNatClampNeg = i.toInt.toNat := rfl
    omega
  rw [e, this]
def mm_rq (f : Nat → Int32) (h : Int32) : Prop := (f (h.toInt.toNat + 11)).toInt ≤ 6
theorem mm_rq_of {f : Nat → Int32} {h r : Int32} {l1 h1 l2 h2 : Int} (q : mm_rr f h r) (rh : mm_rg h l1 h1) (rr : mm_rg r l2 h2) (c : 1 ≤ l1 ∧ h2 ≤ 6) : mm_rq f h := by
  have e := q (Int.le_trans c.1 rh.1)
  unfold mm_rq
  rw [← e]
  exact Int.le_trans rr.2 c.2
theorem mm_rq_ld {f : Nat → Int32} {h i v : Int32} {lo hi l1 h1 : Int} (q : mm_rq f h) (e : v = f i.toNatClampNeg) (rv : mm_rg v lo hi) (rh : mm_rg h l1 h1) (t : i.toInt = h.toInt + 11) (c : 0 ≤ l1) : mm_rg v lo 6 := by
  have : i.toNatClampNeg = h.toInt.toNat + 11 := by
    have : i.toNatClampNeg = i.toInt.toNat := rfl
    have := rh.1
    omega
  rw [this] at e
  exact ⟨rv.1, by rw [e]; exact q⟩
/-! ===== numbers told ===== -/
def mm_nv (b r tk v : Int32) : Prop := b.toInt = 0 → tk.toInt = 2 ∧ r = v
theorem mm_nv_n {b r tk v : Int32} {lo hi : Int} (q : mm_rg b lo hi) (c : 1 ≤ lo) : mm_nv b r tk v := fun z => by have := q.1; omega
theorem mm_nv_y {b tk v : Int32} {lo hi : Int} (q : mm_rg tk lo hi) (c : lo = 2 ∧ hi = 2) : mm_nv b v tk v := fun _ => ⟨by have := q.1; have := q.2; omega, rfl⟩
def mm_nq (b r a : Int32) : Prop := b.toInt = 0 → r.toInt ≠ a.toInt
theorem mm_nq_n {b r a : Int32} {lo hi : Int} (q : mm_rg b lo hi) (c : 1 ≤ lo) : mm_nq b r a := fun z => by have := q.1; omega
theorem mm_nq_v {b r tk v a : Int32} (h : mm_nv b r tk v) (n : v.toInt ≠ a.toInt) : mm_nq b r a := fun z => by rw [(h z).2]; exact n
theorem mm_nq_t {b r tk v a : Int32} (h : mm_nv b r tk v) (n : tk.toInt ≠ (2 : Int32).toInt) : mm_nq b r a := fun z => absurd (h z).1 (by
  have : (2 : Int32).toInt = 2 := by decide
  omega)
theorem mm_nq_r {b r tk v a : Int32} {lo hi : Int} (h : mm_nv b r tk v) (q : mm_rg tk lo hi) (c : hi < 2 ∨ 2 < lo) : mm_nq b r a := fun z => absurd (h z).1 (by have := q.1; have := q.2; omega)
theorem mm_nq_ne {b r a : Int32} {lo hi : Int} (h : mm_nq b r a) (q : mm_rg b lo hi) (c : lo = 0 ∧ hi = 0) : r.toInt ≠ a.toInt := h (by have := q.1; have := q.2; omega)
def mm_b0 (b c : Int32) : Prop := c.toInt = 0 → b.toInt = 0
theorem mm_b0_n {b c : Int32} {lo hi : Int} (q : mm_rg c lo hi) (k : 1 ≤ lo) : mm_b0 b c := fun z => by have := q.1; omega
theorem mm_b0_z {b c : Int32} {lo hi : Int} (q : mm_rg b lo hi) (k : lo = 0 ∧ hi = 0) : mm_b0 b c := fun _ => by have := q.1; have := q.2; omega
theorem mm_b0_d {b c : Int32} {lo hi : Int} (h : mm_b0 b c) (q : mm_rg c lo hi) (k : lo = 0 ∧ hi = 0) : mm_rg b 0 0 := by
  have := h (by have := q.1; have := q.2; omega)
  exact ⟨by omega, by omega⟩
/-! ===== rows alike ===== -/
def mm_fr (f g : Nat → Int32) (n : Nat) : Prop := ∀ j, j < n → g j = f j
theorem mm_fr_r (f : Nat → Int32) (n : Nat) : mm_fr f f n := fun _ _ => rfl
theorem mm_fr_t {f g h : Nat → Int32} {n : Nat} (a : mm_fr f g n) (b : mm_fr g h n) : mm_fr f h n := fun j q => (b j q).trans (a j q)
theorem mm_fr_u {f g h : Nat → Int32} {n : Nat} {i v : Int32} {lo hi : Int} (a : mm_fr f g n) (e : h = upd g i.toNatClampNeg v) (r : mm_rg i lo hi) (c : (n : Int) ≤ lo) : mm_fr f h n := fun j q => by
  have z : i.toNatClampNeg = i.toInt.toNat := rfl
  have := r.1
  rw [e, pk_un (by omega)]
  exact a j q
def mm_ag (f g : Nat → Int32) (k : Int32) : Prop := ∀ j : Nat, ((j : Int) < k.toInt ∨ k.toInt + 10 ≤ (j : Int)) → g j = f j
theorem mm_ag_r (f : Nat → Int32) (k : Int32) : mm_ag f f k := fun _ _ => rfl
theorem mm_ag_u {f g h : Nat → Int32} {k i w v : Int32} {l1 h1 l2 h2 : Int} (a : mm_ag f g k) (e : h = upd g i.toNatClampNeg v) (t : i.toInt = k.toInt + w.toInt) (rw_ : mm_rg w l1 h1) (rk : mm_rg k l2 h2) (c : 0 ≤ l1 ∧ h1 ≤ 9 ∧ 0 ≤ l2) : mm_ag f h k := fun j q => by
  have z : i.toNatClampNeg = i.toInt.toNat := rfl
  have := rw_.1; have := rw_.2; have := rk.1
  rw [e, pk_un (by omega)]
  exact a j q
/-! ===== permutations in rows ===== -/
def mm_pm (f : Nat → Int32) (k n : Nat) : Prop := (∀ i, i < n → 0 ≤ (f (k + i)).toInt ∧ (f (k + i)).toInt < (n : Int)) ∧ ∀ v : Nat, v < n → ∃ i, i < n ∧ (f (k + i)).toInt = (v : Int)
def mm_pmr (f : Nat → Int32) (k h : Int32) : Prop := mm_pm f k.toNatClampNeg (h.toInt.toNat + 1)
def mm_idk (f : Nat → Int32) (k w : Int32) : Prop := ∀ i : Nat, (i : Int) < w.toInt → (f (k.toNatClampNeg + i)).toInt = (i : Int)
theorem mm_idk_0 (f : Nat → Int32) (k : Int32) : mm_idk f k 0 := fun i h => by
  have : (0 : Int32).toInt = 0 := by decide
  omega
theorem mm_idk_s {f g : Nat → Int32} {k i j x : Int32} {l1 h1 l2 h2 : Int} (a : mm_idk f k i) (t : j.toInt = i.toInt + 1) (e : g = upd f x.toNatClampNeg i) (ex : x.toInt = k.toInt + i.toInt) (ri : mm_rg i l1 h1) (rk : mm_rg k l2 h2) (c : 0 ≤ l1 ∧ 0 ≤ l2) : mm_idk g k j := by
  intro q hq
  have zx : x.toNatClampNeg = x.toInt.toNat := rfl
  have zk : k.toNatClampNeg = k.toInt.toNat := rfl
  have := ri.1; have := rk.1
  rw [e]
  by_cases c : (q : Int) = i.toInt
  · have : k.toNatClampNeg + q = x.toNatClampNeg := by omega
    rw [this, pk_us]; omega
  · rw [pk_un (by omega)]
    exact a q (by omega)
theorem mm_idk_w {f : Nat → Int32} {k w w2 : Int32} {lo hi : Int} (a : mm_idk f k w) (r : mm_rg w lo hi) (c : w2.toInt ≤ lo) : mm_idk f k w2 := fun i h => a i (by have := r.1; omega)
def mm_shk (f : Nat → Int32) (k n wd w : Int32) : Prop := ∀ i : Nat, (i : Int) < w.toInt → (f (k.toNatClampNeg + i)).toInt = ((i : Int) + n.toInt) % wd.toInt
theorem mm_shk_0 (f : Nat → Int32) (k n wd : Int32) : mm_shk f k n wd 0 := fun i h => by
  have : (0 : Int32).toInt = 0 := by decide
  omega
theorem mm_shk_s {f g : Nat → Int32} {k n wd i j x v s : Int32} {l1 h1 l2 h2 l3 h3 l4 h4 l5 h5 : Int} (a : mm_shk f k n wd i) (t : j.toInt = i.toInt + 1) (e : g = upd f x.toNatClampNeg v) (ex : x.toInt = k.toInt + i.toInt) (ri : mm_rg i l1 h1) (rk : mm_rg k l2 h2) (ev : v = s - s / wd * wd) (es : s.toInt = i.toInt + n.toInt) (rs : mm_rg s l3 h3) (rw_ : mm_rg wd l4 h4) (_ : mm_rg n l5 h5) (c : 0 ≤ l1 ∧ 0 ≤ l2 ∧ 0 ≤ l3 ∧ 1 ≤ l4) : mm_shk g k n wd j := by
  intro q hq
  have zx : x.toNatClampNeg = x.toInt.toNat := rfl
  have zk : k.toNatClampNeg = k.toInt.toNat := rfl
  have := ri.1; have := rk.1
  rw [e]
  by_cases cc : (q : Int) = i.toInt
  · have : k.toNatClampNeg + q = x.toNatClampNeg := by omega
    rw [this, pk_us, mm_remE ev (mm_wk rs ⟨c.2.2.1, Int.le_refl _⟩) rw_ c.2.2.2, es, cc]
  · rw [pk_un (by omega)]
    exact a q (by omega)
theorem mm_pmr_id {f : Nat → Int32} {k h : Int32} {l1 h1 l2 h2 : Int} (a : mm_idk f k 10) (rh : mm_rg h l1 h1) (_ : mm_rg k l2 h2) (c : 0 ≤ l1 ∧ h1 ≤ 9) : mm_pmr f k h := by
  have t : (10 : Int32).toInt = 10 := by decide
  have := rh.1; have := rh.2
  refine ⟨fun i hi => ?_, fun v hv => ⟨v, hv, a v (by omega)⟩⟩
  rw [a i (by omega)]
  exact ⟨by omega, by omega⟩
theorem mm_pmr_sh {f : Nat → Int32} {k n wd w h : Int32} {l1 h1 l2 h2 l3 h3 : Int} (a : mm_shk f k n wd w) (ew : wd.toInt = h.toInt + 1) (lw : wd.toInt ≤ w.toInt) (rh : mm_rg h l1 h1) (rn : mm_rg n l2 h2) (_ : mm_rg k l3 h3) (c : 0 ≤ l1 ∧ 0 ≤ l2 := by decide) : mm_pmr f k h := by
  have h0 := rh.1; have n0 := rn.1
  have wp : 0 < wd.toInt := by omega
  have wn : ((h.toInt.toNat + 1 : Nat) : Int) = wd.toInt := by omega
  refine ⟨fun i hi => ?_, fun v hv => ?_⟩
  · rw [a i (by omega), wn]
    exact ⟨Int.emod_nonneg _ (by omega), Int.emod_lt_of_pos _ wp⟩
  · refine ⟨(((v : Int) - n.toInt) % wd.toInt).toNat, ?_, ?_⟩
    · have := Int.emod_nonneg ((v : Int) - n.toInt) (b := wd.toInt) (by omega)
      have := Int.emod_lt_of_pos ((v : Int) - n.toInt) wp
      omega
    · have q1 := Int.emod_nonneg ((v : Int) - n.toInt) (b := wd.toInt) (by omega)
      have q2 := Int.emod_lt_of_pos ((v : Int) - n.toInt) wp
      rw [a _ (by omega), Int.toNat_of_nonneg q1, Int.emod_add_emod]
      rw [show (v : Int) - n.toInt + n.toInt = v from by omega]
      exact Int.emod_eq_of_lt (by omega) (by omega)
theorem mm_pmr_sw {f f1 f2 : Nat → Int32} {k h a b i1 i2 : Int32} {l1 h1 l2 h2 l3 h3 l4 h4 : Int} (p : mm_idk f k 10) (e1 : f1 = upd f i1.toNatClampNeg b) (t1 : i1.toInt = k.toInt + a.toInt) (e2 : f2 = upd f1 i2.toNatClampNeg a) (t2 : i2.toInt = k.toInt + b.toInt) (la : a.toInt ≤ h.toInt) (lb : b.toInt ≤ h.toInt) (_ : b.toInt ≠ a.toInt) (rh : mm_rg h l1 h1) (rk : mm_rg k l2 h2) (ra : mm_rg a l3 h3) (rb : mm_rg b l4 h4) (c : 0 ≤ l1 ∧ h1 ≤ 9 ∧ 0 ≤ l2 ∧ 0 ≤ l3 ∧ 0 ≤ l4) : mm_pmr f2 k h := by
  have t : (10 : Int32).toInt = 10 := by decide
  have := rh.1; have := rh.2; have := rk.1; have := ra.1; have := rb.1
  have z1 : i1.toNatClampNeg = i1.toInt.toNat := rfl
  have z2 : i2.toNatClampNeg = i2.toInt.toNat := rfl
  have zk : k.toNatClampNeg = k.toInt.toNat := rfl
  have v : ∀ i : Nat, (i : Int) ≤ h.toInt → (f2 (k.toNatClampNeg + i)).toInt = if (i : Int) = b.toInt then a.toInt else if (i : Int) = a.toInt then b.toInt else (i : Int) := by
    intro i hi
    rw [e2]
    split
    · rename_i q
      rw [show k.toNatClampNeg + i = i2.toNatClampNeg from by omega, pk_us]
    · rename_i q
      rw [pk_un (by omega), e1]
      split
      · rename_i q2
        rw [show k.toNatClampNeg + i = i1.toNatClampNeg from by omega, pk_us]
      · rename_i q2
        rw [pk_un (by omega)]
        exact p i (by omega)
  refine ⟨fun i hi => ?_, fun w hw => ?_⟩
  · rw [v i (by omega)]
    split
    · exact ⟨by omega, by omega⟩
    · split
      · exact ⟨by omega, by omega⟩
      · exact ⟨by omega, by omega⟩
  · by_cases q1 : (w : Int) = a.toInt
    · refine ⟨b.toInt.toNat, by omega, ?_⟩
      rw [v _ (by omega), if_pos (by omega), q1]
    · by_cases q2 : (w : Int) = b.toInt
      · refine ⟨a.toInt.toNat, by omega, ?_⟩
        rw [v _ (by omega), if_neg (by omega), if_pos (by omega), q2]
      · refine ⟨w, hw, ?_⟩
        rw [v w (by omega), if_neg q2, if_neg q1]
theorem mm_pmr_tn {f f1 f2 f3 : Nat → Int32} {k h a b d i1 i2 i3 : Int32} {l1 h1 l2 h2 l3 h3 l4 h4 l5 h5 : Int} (p : mm_idk f k 10) (e1 : f1 = upd f i1.toNatClampNeg b) (t1 : i1.toInt = k.toInt + a.toInt) (e2 : f2 = upd f1 i2.toNatClampNeg d) (t2 : i2.toInt = k.toInt + b.toInt) (e3 : f3 = upd f2 i3.toNatClampNeg a) (t3 : i3.toInt = k.toInt + d.toInt) (la : a.toInt ≤ h.toInt) (lb : b.toInt ≤ h.toInt) (ld : d.toInt ≤ h.toInt) (n1 : b.toInt ≠ a.toInt) (n2 : d.toInt ≠ a.toInt) (n3 : d.toInt ≠ b.toInt) (rh : mm_rg h l1 h1) (rk : mm_rg k l2 h2) (ra : mm_rg a l3 h3) (rb : mm_rg b l4 h4) (rd : mm_rg d l5 h5) (c : 0 ≤ l1 ∧ h1 ≤ 9 ∧ 0 ≤ l2 ∧ 0 ≤ l3 ∧ 0 ≤ l4 ∧ 0 ≤ l5) : mm_pmr f3 k h := by
  have t : (10 : Int32).toInt = 10 := by decide
  have := rh.1; have := rh.2; have := rk.1; have := ra.1; have := rb.1; have := rd.1
  have z1 : i1.toNatClampNeg = i1.toInt.toNat := rfl
  have z2 : i2.toNatClampNeg = i2.toInt.toNat := rfl
  have z3 : i3.toNatClampNeg = i3.toInt.toNat := rfl
  have zk : k.toNatClampNeg = k.toInt.toNat := rfl
  have v : ∀ i : Nat, (i : Int) ≤ h.toInt → (f3 (k.toNatClampNeg + i)).toInt = if (i : Int) = d.toInt then a.toInt else if (i : Int) = b.toInt then d.toInt else if (i : Int) = a.toInt then b.toInt else (i : Int) := by
    intro i hi
    rw [e3]
    split
    · rw [show k.toNatClampNeg + i = i3.toNatClampNeg from by omega, pk_us]
    · rw [pk_un (by omega), e2]
      split
      · rw [show k.toNatClampNeg + i = i2.toNatClampNeg from by omega, pk_us]
      · rw [pk_un (by omega), e1]
        split
        · rw [show k.toNatClampNeg + i = i1.toNatClampNeg from by omega, pk_us]
        · rw [pk_un (by omega)]
          exact p i (by omega)
  refine ⟨fun i hi => ?_, fun w hw => ?_⟩
  · rw [v i (by omega)]
    split
    · exact ⟨by omega, by omega⟩
    · split
      · exact ⟨by omega, by omega⟩
      · split
        · exact ⟨by omega, by omega⟩
        · exact ⟨by omega, by omega⟩
  · by_cases q1 : (w : Int) = a.toInt
    · refine ⟨d.toInt.toNat, by omega, ?_⟩
      rw [v _ (by omega), if_pos (by omega), q1]
    · by_cases q2 : (w : Int) = b.toInt
      · refine ⟨a.toInt.toNat, by omega, ?_⟩
        rw [v _ (by omega), if_neg (by omega), if_neg (by omega), if_pos (by omega), q2]
      · by_cases q3 : (w : Int) = d.toInt
        · refine ⟨b.toInt.toNat, by omega, ?_⟩
          rw [v _ (by omega), if_neg (by omega), if_pos (by omega), q3]
        · refine ⟨w, hw, ?_⟩
          rw [v w (by omega), if_neg q3, if_neg q2, if_neg q1]
