def mm_pls1 (h r : Int32) : Prop := r.toInt = h.toInt + 1
/-! ===== turns ===== -/
def mm_tn (tk : Nat → Int32) (l : Nat) : Nat → Int32 → Int32
  | 0, v => v
  | r + 1, v => mm_tn tk l r (tk (10 * (7 * l + r) + v.toNatClampNeg))
def mm_T (rm tk : Nat → Int32) (l w : Int32) : Int32 := mm_tn tk l.toNatClampNeg (rm l.toNatClampNeg).toNatClampNeg w
def mm_tr (rm tk : Nat → Int32) (l w r : Int32) : Prop := r = mm_T rm tk l w
def mm_tri (rm tk : Nat → Int32) (l w r v : Int32) : Prop := mm_tn tk l.toNatClampNeg (r.toInt + 1).toNat v = mm_T rm tk l w
theorem mm_tri_0 {rm tk : Nat → Int32} {l w r x : Int32} {l1 h1 l2 h2 : Int} (ex : x = rm l.toNatClampNeg) (t : r.toInt = x.toInt + -1) (rx : mm_rg x l1 h1) (_ : mm_rg l l2 h2) (c : 0 ≤ l1) : mm_tri rm tk l w r w := by
  unfold mm_tri mm_T
  have z : x.toNatClampNeg = x.toInt.toNat := rfl
  have := rx.1
  rw [← ex, show (r.toInt + 1).toNat = x.toNatClampNeg from by omega]
theorem mm_tri_s {rm tk : Nat → Int32} {l w r0 r v0 v ix : Int32} {l1 h1 l2 h2 l3 h3 : Int} (p : mm_tri rm tk l w r0 v0) (t : r.toInt = r0.toInt + -1) (ev : v = tk ix.toNatClampNeg) (ei : ix.toInt = 10 * (7 * l.toInt + r0.toInt) + v0.toInt) (r1 : mm_rg r0 l1 h1) (r2 : mm_rg v0 l2 h2) (r3 : mm_rg l l3 h3) (_ : True) (c : 0 ≤ l1 ∧ 0 ≤ l2 ∧ 0 ≤ l3) : mm_tri rm tk l w r v := by
  unfold mm_tri at *
  have zi : ix.toNatClampNeg = ix.toInt.toNat := rfl
  have zl : l.toNatClampNeg = l.toInt.toNat := rfl
  have zv : v0.toNatClampNeg = v0.toInt.toNat := rfl
  have := r1.1; have := r2.1; have := r3.1
  rw [← p, show (r0.toInt + 1).toNat = (r.toInt + 1).toNat + 1 from by omega]
  show _ = mm_tn tk l.toNatClampNeg (r.toInt + 1).toNat (tk (10 * (7 * l.toNatClampNeg + (r.toInt + 1).toNat) + v0.toNatClampNeg))
  rw [ev]
  congr 2
  omega
theorem mm_tr_of {rm tk : Nat → Int32} {l w r v : Int32} {lo hi : Int} (p : mm_tri rm tk l w r v) (q : mm_rg r lo hi) (c : hi ≤ -1) : mm_tr rm tk l w v := by
  unfold mm_tri at p
  have := q.2
  rw [show (r.toInt + 1).toNat = 0 from by omega] at p
  exact p
def mm_it (f : Int32 → Int32) : Nat → Int32 → Int32
  | 0, v => v
  | n + 1, v => f (mm_it f n v)
def mm_cy (rm tk : Nat → Int32) (l w n v : Int32) : Prop := v = mm_it (mm_T rm tk l) n.toInt.toNat w ∧ ∀ j : Nat, 1 ≤ j → (j : Int) < n.toInt → mm_it (mm_T rm tk l) j w ≠ w
theorem mm_cy_1 {rm tk : Nat → Int32} {l w v : Int32} (p : mm_tr rm tk l w v) : mm_cy rm tk l w 1 v := by
  have t : (1 : Int32).toInt = 1 := by decide
  refine ⟨?_, fun j h1 h2 => by omega⟩
  rw [t]
  exact p
theorem mm_cy_s {rm tk : Nat → Int32} {l w n n2 v v2 : Int32} {lo hi : Int} (p : mm_cy rm tk l w n v) (q : mm_tr rm tk l v v2) (ne : v.toInt ≠ w.toInt) (t : n2.toInt = n.toInt + 1) (r : mm_rg n lo hi) (c : 0 ≤ lo) : mm_cy rm tk l w n2 v2 := by
  have := r.1
  refine ⟨?_, fun j h1 h2 => ?_⟩
  · rw [show n2.toInt.toNat = n.toInt.toNat + 1 from by omega]
    show v2 = mm_T rm tk l (mm_it (mm_T rm tk l) n.toInt.toNat w)
    rw [← p.1]
    exact q
  · by_cases z : (j : Int) < n.toInt
    · exact p.2 j h1 z
    · rw [show j = n.toInt.toNat from by omega, ← p.1]
      exact fun e => ne (by rw [e])
def mm_per (rm tk : Nat → Int32) (l w r : Int32) : Prop := 1 ≤ r.toInt ∧ mm_it (mm_T rm tk l) r.toInt.toNat w = w ∧ ∀ j : Nat, 1 ≤ j → (j : Int) < r.toInt → mm_it (mm_T rm tk l) j w ≠ w
def mm_rw (rm tk : Nat → Int32) (l w : Int32) : Prop := ∃ n : Nat, n ≤ 10 ∧ 0 ≤ w.toInt ∧ w.toInt < (n : Int) ∧ ∀ r : Nat, (r : Int) < (rm l.toNatClampNeg).toInt → mm_pm tk (10 * (7 * l.toNatClampNeg + r)) n
theorem mm_rw_of {rm tk : Nat → Int32} {l w h2 h3 : Int32} {l1 h1 l2 h2' l3 h3' : Int} (p : mm_rls rm tk 0 h2 h3) (lt : l.toInt < h3.toInt) (le : w.toInt ≤ h2.toInt) (rl : mm_rg l l1 h1) (rw_ : mm_rg w l2 h2') (rh : mm_rg h2 l3 h3') (hr : (rm l.toNatClampNeg).toInt ≤ 7) (c : 0 ≤ l1 ∧ h1 ≤ 2 ∧ 0 ≤ l2 ∧ h3' ≤ 9) : mm_rw rm tk l w := by
  have zl : l.toNatClampNeg = l.toInt.toNat := rfl
  have := rl.1; have := rl.2; have := rw_.1; have := rh.2
  refine ⟨h2.toInt.toNat + 1, by omega, by omega, by omega, fun r hr2 => ?_⟩
  have q := p l.toNatClampNeg r (by omega) (by omega) (by rw [show 3 * 0 + l.toNatClampNeg = l.toNatClampNeg from by omega]; exact hr2) (by omega) (by omega)
  rw [show 10 * (7 * l.toNatClampNeg + r) = 210 * 0 + 70 * l.toNatClampNeg + 10 * r from by omega]
  exact q
theorem mm_of2 {v h : Int32} {lo hi : Int} (w : 0 ≤ v.toInt ∧ v.toInt ≤ h.toInt) (r : mm_rg h lo hi) : mm_rg v 0 hi := ⟨w.1, Int.le_trans w.2 r.2⟩
/-! ===== a land's table ===== -/
def mm_to (tb z : Nat → Int32) (l : Int32) : Prop := ∀ j : Nat, (j < 2400 * l.toNatClampNeg ∨ 2400 * l.toNatClampNeg + 2400 ≤ j) → z j = tb j
def mm_t0 (tb z : Nat → Int32) (l w : Int32) : Prop := mm_to tb z l ∧ ∀ i : Nat, (i : Int) < w.toInt → (z (2400 * l.toNatClampNeg + i)).toInt = (i : Int)
theorem mm_t0_0 (tb : Nat → Int32) (l : Int32) : mm_t0 tb tb l 0 := ⟨fun _ _ => rfl, fun i h => by
  have : (0 : Int32).toInt = 0 := by decide
  omega⟩
theorem mm_t0_s {tb z0 z : Nat → Int32} {l w w2 ix : Int32} {l1 h1 l2 h2 : Int} (p : mm_t0 tb z0 l w) (t : w2.toInt = w.toInt + 1) (e : z = upd z0 ix.toNatClampNeg w) (ei : ix.toInt = 2400 * l.toInt + w.toInt) (rw_ : mm_rg w l1 h1) (rl : mm_rg l l2 h2) (c : 0 ≤ l1 ∧ h1 ≤ 2399 ∧ 0 ≤ l2) : mm_t0 tb z l w2 := by
  have zi : ix.toNatClampNeg = ix.toInt.toNat := rfl
  have zl : l.toNatClampNeg = l.toInt.toNat := rfl
  have := rw_.1; have := rw_.2; have := rl.1
  refine ⟨fun j q => by rw [e, pk_un (by omega)]; exact p.1 j q, fun i q => ?_⟩
  by_cases z2 : (i : Int) = w.toInt
  · rw [e, show 2400 * l.toNatClampNeg + i = ix.toNatClampNeg from by omega, pk_us]; omega
  · rw [e, pk_un (by omega)]
    exact p.2 i (by omega)
def mm_tp (tb z : Nat → Int32) (l h : Int32) : Prop := mm_to tb z l ∧ mm_pm z (2400 * l.toNatClampNeg) (h.toInt.toNat + 1)
theorem mm_tp_0 {tb z : Nat → Int32} {l w h x : Int32} {l1 h1 l2 h2 : Int} (p : mm_t0 tb z l w) (t : x.toInt = h.toInt + 1) (le : x.toInt ≤ w.toInt) (rh : mm_rg h l1 h1) (_ : mm_rg l l2 h2) (c : 0 ≤ l1) : mm_tp tb z l h := by
  have := rh.1
  refine ⟨p.1, fun i hi => ?_, fun v hv => ⟨v, hv, p.2 v (by omega)⟩⟩
  rw [p.2 i (by omega)]
  exact ⟨by omega, by omega⟩
def mm_td (tb z : Nat → Int32) (l d h : Int32) : Prop := mm_to tb z l ∧ ∀ e : Nat, (e : Int) ≤ d.toInt → mm_pm z (2400 * l.toNatClampNeg + 10 * e) (h.toInt.toNat + 1)
theorem mm_td_0 {tb z : Nat → Int32} {l h : Int32} (p : mm_tp tb z l h) : mm_td tb z l 0 h := ⟨p.1, fun e he => by
  have : (0 : Int32).toInt = 0 := by decide
  rw [show 2400 * l.toNatClampNeg + 10 * e = 2400 * l.toNatClampNeg from by omega]
  exact p.2⟩
def mm_te (tb z tk : Nat → Int32) (l d k w h : Int32) : Prop := mm_td tb z l d h ∧ ∀ i : Nat, (i : Int) < w.toInt → z (2400 * l.toNatClampNeg + 10 * d.toNatClampNeg + 10 + i) = z (2400 * l.toNatClampNeg + 10 * d.toNatClampNeg + (tk (k.toNatClampNeg + i)).toNatClampNeg)
theorem mm_te_0 {tb z tk : Nat → Int32} {l d k h : Int32} (p : mm_td tb z l d h) : mm_te tb z tk l d k 0 h := ⟨p, fun i hi => by
  have : (0 : Int32).toInt = 0 := by decide
  omega⟩
def mm_xl (f g : Nat → Int32) (l : Int32) : Prop := ∀ j : Nat, j ≠ l.toNatClampNeg → g j = f j
theorem mm_xl_r (f : Nat → Int32) (l : Int32) : mm_xl f f l := fun _ _ => rfl
theorem mm_xl_u {f g h : Nat → Int32} {l v : Int32} (p : mm_xl f g l) (e : h = upd g l.toNatClampNeg v) : mm_xl f h l := fun j q => by rw [e, pk_un q]; exact p j q
def mm_f1 (fu : Nat → Int32) (l : Int32) : Prop := 1 ≤ (fu l.toNatClampNeg).toInt
theorem mm_f1_u {f g : Nat → Int32} {l v : Int32} {lo hi : Int} (e : g = upd f l.toNatClampNeg v) (r : mm_rg v lo hi) (c : 1 ≤ lo) : mm_f1 g l := by
  unfold mm_f1; rw [e, pk_us]; exact Int.le_trans c r.1
theorem mm_f1_ld {fu : Nat → Int32} {l v : Int32} {lo hi : Int} (h : mm_f1 fu l) (e : v = fu l.toNatClampNeg) (r : mm_rg v lo hi) : mm_rg v 1 hi := ⟨by rw [e]; exact h, r.2⟩
def mm_laid (fu le : Nat → Int32) (x : Int32) : Prop := ∀ j : Nat, (j : Int) < x.toInt → 1 ≤ (fu j).toInt ∧ 1 ≤ (le j).toInt ∧ (le j).toInt ≤ (fu j).toInt
theorem mm_laid_0 {fu le : Nat → Int32} {x : Int32} {lo hi : Int} (r : mm_rg x lo hi) (c : hi ≤ 0) : mm_laid fu le x := fun j h => by have := r.2; omega
theorem mm_laid_le {fu le : Nat → Int32} {x y : Int32} (h : mm_laid fu le y) (q : x.toInt ≤ y.toInt) : mm_laid fu le x := fun j z => h j (by omega)
theorem mm_f1_l {fu le : Nat → Int32} {x l : Int32} {lo hi : Int} (h : mm_laid fu le x) (lt : l.toInt < x.toInt) (r : mm_rg l lo hi) (c : 0 ≤ lo) : mm_f1 fu l := by
  have := r.1
  have z : l.toNatClampNeg = l.toInt.toNat := rfl
  exact (h l.toNatClampNeg (by omega)).1
theorem mm_laid_ld0 {fu le : Nat → Int32} {x i v : Int32} {l1 h1 lo hi : Int} (h : mm_laid fu le x) (lt : i.toInt < x.toInt) (e : v = fu i.toNatClampNeg) (ri : mm_rg i l1 h1) (r : mm_rg v lo hi) (c : 0 ≤ l1) : mm_rg v 1 hi := ⟨by rw [e]; exact mm_f1_l h lt ri c, r.2⟩
theorem mm_laid_ld1 {fu le : Nat → Int32} {x i v : Int32} {l1 h1 lo hi : Int} (h : mm_laid fu le x) (lt : i.toInt < x.toInt) (e : v = le i.toNatClampNeg) (ri : mm_rg i l1 h1) (r : mm_rg v lo hi) (c : 0 ≤ l1) : mm_rg v 1 hi := by
  have := ri.1
  have z : i.toNatClampNeg = i.toInt.toNat := rfl
  exact ⟨by rw [e]; exact (h i.toNatClampNeg (by omega)).2.1, r.2⟩
def mm_nr (fu : Nat → Int32) (l n : Int32) : Prop := n ≠ fu l.toNatClampNeg
def mm_lf (le fu : Nat → Int32) (l : Int32) : Prop := 1 ≤ (le l.toNatClampNeg).toInt ∧ (le l.toNatClampNeg).toInt ≤ (fu l.toNatClampNeg).toInt
theorem mm_lf_0 {le0 le fu : Nat → Int32} {l : Int32} (e : le = upd le0 l.toNatClampNeg 1) (p : mm_f1 fu l) : mm_lf le fu l := by
  have t : (1 : Int32).toInt = 1 := by decide
  unfold mm_lf
  rw [e, pk_us, t]
  exact ⟨by omega, p⟩
theorem mm_lf_s {le0 le fu : Nat → Int32} {l x v : Int32} (p : mm_lf le0 fu l) (n : mm_nr fu l x) (ex : x = le0 l.toNatClampNeg) (e : le = upd le0 l.toNatClampNeg v) (t : v.toInt = x.toInt + 1) : mm_lf le fu l := by
  unfold mm_lf at *
  unfold mm_nr at n
  rw [← ex] at p
  have : x.toInt ≠ (fu l.toNatClampNeg).toInt := fun q => n (mm_eq q)
  rw [e, pk_us]
  exact ⟨by omega, by omega⟩
theorem mm_lf_ld {le fu : Nat → Int32} {l v : Int32} {lo hi : Int} (h : mm_lf le fu l) (e : v = le l.toNatClampNeg) (r : mm_rg v lo hi) : mm_rg v 1 hi := ⟨by rw [e]; exact h.1, r.2⟩
theorem mm_nr_d {le fu : Nat → Int32} {l x : Int32} {l1 h1 lo hi hh : Int} (n : mm_nr fu l x) (p : mm_lf le fu l) (ex : x = le l.toNatClampNeg) (rf : mm_ar fu l1 h1) (r : mm_rg x lo hi) (c : h1 - 1 ≤ hh) : mm_rg x lo hh := by
  have : x.toInt ≠ (fu l.toNatClampNeg).toInt := fun q => n (mm_eq q)
  have a := p.2
  rw [← ex] at a
  have := (rf l.toNatClampNeg).2
  exact ⟨r.1, by omega⟩
theorem mm_lfM {n : Nat} {le0 le fu : Nat → Int32} {l x v : Int32} (hm : ((fu (l : Int32).toNatClampNeg).toInt - (le0 (l : Int32).toNatClampNeg).toInt).toNat < n + 1) (p : mm_lf le0 fu l) (nr : mm_nr fu l x) (ex : x = le0 l.toNatClampNeg) (e : le = upd le0 l.toNatClampNeg v) (t : v.toInt = x.toInt + 1) : ((fu (l : Int32).toNatClampNeg).toInt - (le (l : Int32).toNatClampNeg).toInt).toNat < n := by
  have : x.toInt ≠ (fu l.toNatClampNeg).toInt := fun q => nr (mm_eq q)
  have a := p.2
  rw [← ex] at a hm
  rw [e, pk_us]
  omega
theorem mm_evn_d {i : Int32} {lo hi hh : Int} (h : mm_evn i) (r : mm_rg i lo hi) (c : hi % 2 = 1 ∧ hi - 1 ≤ hh) : mm_rg i lo hh := by
  obtain ⟨k, e⟩ := h
  have := r.2
  exact ⟨r.1, by omega⟩
theorem mm_neg {v : Int32} {lo hi : Int} (r : mm_rg v lo hi) (c : hi < 0) : v.toInt < 0 := by have := r.2; omega
theorem mm_pos {v : Int32} {lo hi : Int} (r : mm_rg v lo hi) (c : 0 ≤ lo) : 0 ≤ v.toInt := by have := r.1; omega
theorem mm_acs_hi {ac a1 a2 a3 : Nat → Int32} {b : Nat} {h2 h3 h5 i1 i2 i3 v1 v2 v3 : Int32} {l1 u1 l2 u2 l3 u3 : Int} (p : mm_acs ac b h2 h3 h5) (e1 : a1 = upd ac i1.toNatClampNeg v1) (e2 : a2 = upd a1 i2.toNatClampNeg v2) (e3 : a3 = upd a2 i3.toNatClampNeg v3) (r1 : mm_rg i1 l1 u1) (r2 : mm_rg i2 l2 u2) (r3 : mm_rg i3 l3 u3) (c : 0 ≤ l1 ∧ u1 ≤ 89 ∧ 0 ≤ l2 ∧ u2 ≤ 89 ∧ 0 ≤ l3 ∧ u3 ≤ 89 ∧ 1 ≤ b) : mm_acs a3 b h2 h3 h5 := by
  have z1 : i1.toNatClampNeg = i1.toInt.toNat := rfl
  have z2 : i2.toNatClampNeg = i2.toInt.toNat := rfl
  have z3 : i3.toNatClampNeg = i3.toInt.toNat := rfl
  have := r1.2; have := r2.2; have := r3.2
  have q : ∀ j : Nat, 90 ≤ j → a3 j = ac j := by
    intro j hj
    rw [e3, pk_un (by omega), e2, pk_un (by omega), e1, pk_un (by omega)]
  intro k a b2
  rw [q _ (by omega), q _ (by omega), q _ (by omega)]
  exact p k a b2
theorem mm_acs_put {ac a1 a2 a3 : Nat → Int32} {h2 h3 h5 h6 i1 i2 i3 v1 v2 v3 : Int32} {l1 u1 l2 u2 : Int} (p : mm_acs ac 0 h2 h3 h5) (e1 : a1 = upd ac i1.toNatClampNeg v1) (e2 : a2 = upd a1 i2.toNatClampNeg v2) (e3 : a3 = upd a2 i3.toNatClampNeg v3) (t1 : i1.toInt = 3 * h5.toInt) (t2 : i2.toInt = 3 * h5.toInt + 1) (t3 : i3.toInt = 3 * h5.toInt + 2) (t5 : h6.toInt = h5.toInt + 1) (r5 : mm_rg h5 l1 u1) (r3 : mm_rg v3 l2 u2) (q : v1.toInt < 0 ∨ (v1.toInt < h3.toInt ∧ 0 ≤ v2.toInt ∧ v2.toInt ≤ h2.toInt ∧ v3.toInt ≤ h2.toInt)) (c : 0 ≤ l1 ∧ 0 ≤ l2) : mm_acs a3 0 h2 h3 h6 := by
  have z1 : i1.toNatClampNeg = i1.toInt.toNat := rfl
  have z2 : i2.toNatClampNeg = i2.toInt.toNat := rfl
  have z3 : i3.toNatClampNeg = i3.toInt.toNat := rfl
  have := r5.1; have := r3.1
  intro k a b
  by_cases z : (k : Int) = h5.toInt
  · have k1 : 90 * 0 + 3 * k = i1.toNatClampNeg := by omega
    have k2 : 90 * 0 + (3 * k + 1) = i2.toNatClampNeg := by omega
    have k3 : 90 * 0 + (3 * k + 2) = i3.toNatClampNeg := by omega
    have x3 : a3 i3.toNatClampNeg = v3 := by rw [e3, pk_us]
    have x2 : a3 i2.toNatClampNeg = v2 := by rw [e3, pk_un (by omega), e2, pk_us]
    have x1 : a3 i1.toNatClampNeg = v1 := by rw [e3, pk_un (by omega), e2, pk_un (by omega), e1, pk_us]
    rw [k1, k2, k3, x1, x2, x3]
    exact ⟨by omega, q⟩
  · have y : ∀ j : Nat, j < 3 * k + 3 → 3 * k ≤ j → a3 j = ac j := by
      intro j h1 h2
      rw [e3, pk_un (by omega), e2, pk_un (by omega), e1, pk_un (by omega)]
    rw [y _ (by omega) (by omega), y _ (by omega) (by omega), y _ (by omega) (by omega)]
    exact p k (by omega) b
def mm_tx (t : Int64) (h : Int32) : Prop := 0 ≤ t.toInt ∧ t.toInt < h.toInt
theorem mm_tx_of {t : Int64} {h : Int32} (a : (0 : Int64).toInt ≤ t.toInt) (b : t.toInt < h.toInt) : mm_tx t h := ⟨by
  have z : (0 : Int64).toInt = 0 := by decide
  omega, b⟩
def mm_wns (cl : Nat → Int64) (sl i h : Int32) : Prop := mm_evn i ∧ ∀ j : Nat, ((2 * j : Nat) : Int) < i.toInt → mm_tx (cl (60 * sl.toNatClampNeg + 2 * j)) h
theorem mm_wns_0 (cl : Nat → Int64) (sl h : Int32) : mm_wns cl sl 0 h := ⟨mm_evn_0, fun j q => by
  have z : (0 : Int32).toInt = 0 := by decide
  omega⟩
theorem mm_wns_s {cl : Nat → Int64} {sl i i2 h ix : Int32} {v : Int64} {l1 h1 l2 h2 : Int} (p : mm_wns cl sl i h) (t : i2.toInt = i.toInt + 2) (ev : v = cl ix.toNatClampNeg) (q : mm_tx v h) (ei : ix.toInt = 60 * sl.toInt + i.toInt) (ri : mm_rg i l1 h1) (rs : mm_rg sl l2 h2) (c : 0 ≤ l1 ∧ 0 ≤ l2) : mm_wns cl sl i2 h := by
  obtain ⟨⟨k, ek⟩, hh⟩ := p
  have zx : ix.toNatClampNeg = ix.toInt.toNat := rfl
  have zs : sl.toNatClampNeg = sl.toInt.toNat := rfl
  have := rs.1
  refine ⟨mm_evn_s ⟨k, ek⟩ t, fun j hj => ?_⟩
  by_cases z : ((2 * j : Nat) : Int) < i.toInt
  · exact hh j z
  · rw [show 60 * sl.toNatClampNeg + 2 * j = ix.toNatClampNeg from by omega, ← ev]
    exact q
def mm_wn (cl : Nat → Int64) (mn : Nat → Int32) (sl h : Int32) : Prop := ∀ j : Nat, ((2 * j : Nat) : Int) < (mn sl.toNatClampNeg).toInt → mm_tx (cl (60 * sl.toNatClampNeg + 2 * j)) h
theorem mm_wn_of {cl : Nat → Int64} {mn : Nat → Int32} {sl i h x : Int32} (p : mm_wns cl sl i h) (ex : x = mn sl.toNatClampNeg) (le : x.toInt ≤ i.toInt) : mm_wn cl mn sl h := fun j hj => p.2 j (by rw [← ex] at hj; omega)
theorem mm_wn_ld {cl : Nat → Int64} {mn : Nat → Int32} {sl i h x ix : Int32} {v : Int64} {l1 h1 l2 h2 l3 h3 hi : Int} (p : mm_wn cl mn sl h) (ev : mm_evn i) (e : v = cl ix.toNatClampNeg) (ei : ix.toInt = 60 * sl.toInt + i.toInt) (ex : x = mn sl.toNatClampNeg) (lt : i.toInt < x.toInt) (ri : mm_rg i l1 h1) (rs : mm_rg sl l2 h2) (rh : mm_rg h l3 h3) (c : 0 ≤ l2 ∧ h3 - 1 ≤ hi) : mm_rl v 0 hi := by
  obtain ⟨k, ek⟩ := ev
  have zx : ix.toNatClampNeg = ix.toInt.toNat := rfl
  have zs : sl.toNatClampNeg = sl.toInt.toNat := rfl
  have := rs.1; have := rh.2
  have q := p k (by rw [← ex]; omega)
  rw [show 60 * sl.toNatClampNeg + 2 * k = ix.toNatClampNeg from by omega, ← e] at q
  exact ⟨q.1, by have := q.2; omega⟩
theorem mm_per_of {rm tk : Nat → Int32} {l w n v : Int32} (p : mm_cy rm tk l w n v) (e : v = w) (r : 1 ≤ n.toInt) : mm_per rm tk l w n := ⟨r, by rw [← p.1, e], p.2⟩
def mm_m0 (tb fu : Nat → Int32) (l d w r : Int32) : Prop := r = tb (2400 * l.toNatClampNeg + 10 * (d.toInt % (fu l.toNatClampNeg).toInt).toNat + w.toNatClampNeg)
theorem mm_m0_of {tb fu : Nat → Int32} {l d w r q x ix : Int32} {l1 h1 l2 h2 l3 h3 l4 h4 : Int} (er : r = tb ix.toNatClampNeg) (eq_ : q = d - d / x * x) (ex : x = fu l.toNatClampNeg) (ei : ix.toInt = 2400 * l.toInt + 10 * q.toInt + w.toInt) (rl : mm_rg l l1 h1) (rd : mm_rg d l2 h2) (rw_ : mm_rg w l3 h3) (rx : mm_rg x l4 h4) (c : 0 ≤ l1 ∧ 0 ≤ l2 ∧ 0 ≤ l3 ∧ 1 ≤ l4) : mm_m0 tb fu l d w r := by
  unfold mm_m0
  have zi : ix.toNatClampNeg = ix.toInt.toNat := rfl
  have zl : l.toNatClampNeg = l.toInt.toNat := rfl
  have zw : w.toNatClampNeg = w.toInt.toNat := rfl
  have t := mm_remE eq_ (mm_wk rd ⟨c.2.1, Int.le_refl _⟩) rx c.2.2.2
  have := rl.1; have := rw_.1; have := rx.1
  have q0 := Int.emod_nonneg d.toInt (b := x.toInt) (by omega)
  rw [er, ← ex, ← t]
  congr 1
  omega
theorem mm_nr_of {tb fu : Nat → Int32} {l d n d2 w r1 r2 : Int32} {l1 h1 l2 h2 : Int} (p1 : mm_m0 tb fu l d w r1) (p2 : mm_m0 tb fu l d2 w r2) (ne : r1.toInt ≠ r2.toInt) (t : d2.toInt = d.toInt + n.toInt) (_ : mm_rg d l1 h1) (_ : mm_rg n l2 h2) (_ : True) : mm_nr fu l n := by
  intro e
  apply ne
  rw [p1, p2, t, e, Int.add_emod_right]
def mm_ll (tb fu le tb2 fu2 le2 : Nat → Int32) (l h : Int32) : Prop := mm_xl fu fu2 l ∧ mm_xl le le2 l ∧ mm_to tb tb2 l ∧ mm_lf le2 fu2 l ∧ ∀ d : Nat, (d : Int) < (fu2 l.toNatClampNeg).toInt → mm_pm tb2 (2400 * l.toNatClampNeg + 10 * d) (h.toInt.toNat + 1)
theorem mm_ll_one {tb fu le tb2 fu2 le2 fu1 : Nat → Int32} {l h : Int32} (p1 : mm_xl fu fu2 l) (p2 : mm_xl le le2 l) (p3 : mm_lf le2 fu2 l) (p4 : mm_td tb tb2 l 0 h) (e : fu2 = upd fu1 l.toNatClampNeg 1) : mm_ll tb fu le tb2 fu2 le2 l h := by
  refine ⟨p1, p2, p4.1, p3, fun d hd => p4.2 d ?_⟩
  have t0 : (0 : Int32).toInt = 0 := by decide
  have t1 : (1 : Int32).toInt = 1 := by decide
  rw [e, pk_us] at hd
  omega
theorem mm_ll_of {tb fu le tb2 fu2 le2 fu1 : Nat → Int32} {l h v d x : Int32} {l1 h1 l2 h2 : Int} (p1 : mm_xl fu fu2 l) (p2 : mm_xl le le2 l) (p3 : mm_lf le2 fu2 l) (p4 : mm_td tb tb2 l d h) (e : fu2 = upd fu1 l.toNatClampNeg v) (le_ : v.toInt ≤ x.toInt) (t : x.toInt = d.toInt + 1) (_ : mm_rg v l1 h1) (_ : mm_rg d l2 h2) (_ : True) : mm_ll tb fu le tb2 fu2 le2 l h := by
  refine ⟨p1, p2, p4.1, p3, fun j hj => p4.2 j ?_⟩
  rw [e, pk_us] at hj
  omega
theorem mm_laid_s {tb fu le tb2 fu2 le2 : Nat → Int32} {l x h : Int32} {lo hi : Int} (p : mm_laid fu le l) (q : mm_ll tb fu le tb2 fu2 le2 l h) (t : x.toInt = l.toInt + 1) (r : mm_rg l lo hi) (c : 0 ≤ lo) : mm_laid fu2 le2 x := by
  intro j hj
  have z : l.toNatClampNeg = l.toInt.toNat := rfl
  have := r.1
  by_cases e : j = l.toNatClampNeg
  · rw [e]
    have a := q.2.2.2.1
    unfold mm_lf at a
    exact ⟨by omega, a.1, a.2⟩
  · rw [q.1 j e, q.2.1 j e]
    exact p j (by omega)
def mm_tab (tb fu : Nat → Int32) (h x : Int32) : Prop := ∀ l d : Nat, (l : Int) < x.toInt → (d : Int) < (fu l).toInt → d < 240 → mm_pm tb (2400 * l + 10 * d) (h.toInt.toNat + 1)
theorem mm_tab_0 {tb fu : Nat → Int32} {h x : Int32} {lo hi : Int} (r : mm_rg x lo hi) (c : hi ≤ 0) : mm_tab tb fu h x := fun l d q _ _ => by have := r.2; omega
theorem mm_tab_le {tb fu : Nat → Int32} {h x y : Int32} (p : mm_tab tb fu h y) (q : x.toInt ≤ y.toInt) : mm_tab tb fu h x := fun l d a b e => p l d (by omega) b e
theorem mm_tab_s {tb fu le tb2 fu2 le2 : Nat → Int32} {l x h : Int32} {l1 h1 l2 h2 : Int} (p : mm_tab tb fu h l) (_ : mm_laid fu le l) (q : mm_ll tb fu le tb2 fu2 le2 l h) (t : x.toInt = l.toInt + 1) (r : mm_rg l l1 h1) (rh : mm_rg h l2 h2) (c : 0 ≤ l1 ∧ h2 ≤ 9) : mm_tab tb2 fu2 h x := by
  intro j d a b e
  have z : l.toNatClampNeg = l.toInt.toNat := rfl
  have := r.1; have := rh.2
  by_cases k : j = l.toNatClampNeg
  · rw [k] at b ⊢
    exact q.2.2.2.2 d b
  · rw [q.1 j k] at b
    exact mm_pm_congr (p j d (by omega) b e) (fun i hi => q.2.2.1 _ (by omega))
theorem mm_acs_2 {ac : Nat → Int32} {h2 h3 h5 k v ix : Int32} {l1 u1 lo hi : Int} (p : mm_acs ac 0 h2 h3 h5) (lt : k.toInt < h5.toInt) (e : v = ac ix.toNatClampNeg) (ei : ix.toInt = 3 * k.toInt + 2) (rk : mm_rg k l1 u1) (r : mm_rg v lo hi) (c : 0 ≤ l1 ∧ u1 ≤ 29) : mm_rg v 0 hi := by
  have z : ix.toNatClampNeg = ix.toInt.toNat := rfl
  have := rk.1; have := rk.2
  have q := (p k.toInt.toNat (by omega) (by omega)).1
  rw [show 90 * 0 + (3 * k.toInt.toNat + 2) = ix.toNatClampNeg from by omega, ← e] at q
  exact ⟨q, r.2⟩
theorem mm_acs_w1 {ac : Nat → Int32} {h2 h3 h5 k x v i1 ix : Int32} {l1 u1 l2 u2 : Int} (p : mm_acs ac 0 h2 h3 h5) (lt : k.toInt < h5.toInt) (ex : x = ac i1.toNatClampNeg) (e1 : i1.toInt = 3 * k.toInt) (rx : mm_rg x l1 u1) (e : v = ac ix.toNatClampNeg) (ei : ix.toInt = 3 * k.toInt + 1) (rk : mm_rg k l2 u2) (c : 0 ≤ l1 ∧ 0 ≤ l2 ∧ u2 ≤ 29) : 0 ≤ v.toInt ∧ v.toInt ≤ h2.toInt := by
  have z : ix.toNatClampNeg = ix.toInt.toNat := rfl
  have z1 : i1.toNatClampNeg = i1.toInt.toNat := rfl
  have := rk.1; have := rk.2; have := rx.1
  have q := (p k.toInt.toNat (by omega) (by omega)).2
  rw [show 90 * 0 + (3 * k.toInt.toNat + 1) = ix.toNatClampNeg from by omega, show 90 * 0 + 3 * k.toInt.toNat = i1.toNatClampNeg from by omega, ← e, ← ex] at q
  rcases q with q | q
  · omega
  · exact ⟨q.2.1, q.2.2.1⟩
theorem mm_acs_w2 {ac : Nat → Int32} {h2 h3 h5 k x v i1 ix : Int32} {l1 u1 l2 u2 : Int} (p : mm_acs ac 0 h2 h3 h5) (lt : k.toInt < h5.toInt) (ex : x = ac i1.toNatClampNeg) (e1 : i1.toInt = 3 * k.toInt) (rx : mm_rg x l1 u1) (e : v = ac ix.toNatClampNeg) (ei : ix.toInt = 3 * k.toInt + 2) (rk : mm_rg k l2 u2) (c : 0 ≤ l1 ∧ 0 ≤ l2 ∧ u2 ≤ 29) : 0 ≤ v.toInt ∧ v.toInt ≤ h2.toInt := by
  have z : ix.toNatClampNeg = ix.toInt.toNat := rfl
  have z1 : i1.toNatClampNeg = i1.toInt.toNat := rfl
  have := rk.1; have := rk.2; have := rx.1
  have q := p k.toInt.toNat (by omega) (by omega)
  rw [show 90 * 0 + (3 * k.toInt.toNat + 2) = ix.toNatClampNeg from by omega, show 90 * 0 + 3 * k.toInt.toNat = i1.toNatClampNeg from by omega, ← e, ← ex] at q
  rcases q.2 with z2 | z2
  · omega
  · exact ⟨q.1, z2.2.2.2⟩
