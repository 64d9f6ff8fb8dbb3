def mm_pls1 (h r : Int32) : Prop := r.toInt = h.toInt + 1
/-! ===== turns ===== -/
def mm_tn (tk : Nat → Int32) (l : Nat) : Nat → Int32 → Int32
  | 0, v => v
  | r + 1, v => mm_tn tk l r (tk (10 * (7 * l + r) + v.toNatClampNeg))
def mm_T (rm tk : Nat → Int32) (l w : Int32) : Int32 := mm_tn tk l.toNatClampNeg (rm l.toNatClampNeg).toNatClampNeg w
def mm_tr (rm tk : Nat → Int32) (l w r : Int32) : Prop := r = mm_T rm tk l w
def mm_tri (rm tk : Nat → Int32) (l w r v : Int32) : Prop := mm_tn tk l.toNatClampNeg (r.toInt + 1).toNat v = mm_T rm tk l w
theorem mm_tri_0 {rm tk : Nat → Int32} {l w r x : Int32} {l1 h1 l2 h2 : Int} (ex : x = rm l.toNatClampNeg) (t : r.toInt = x.toInt + -1) (rx : mm_rg x l1 h1) (_ : mm_rg l l2 h2) (c : 0 ≤ l1) : mm_tri rm tk l w r w := by
  unfold mm_tri mm_T
  have z : x.toNatClampNeg = x.toInt.toNat := rfl
  have := rx.1
  rw [← ex, show (r.toInt + 1).toNat = x.toNatClampNeg from by omega]
theorem mm_tri_s {rm tk : Nat → Int32} {l w r0 r v0 v ix : Int32} {l1 h1 l2 h2 l3 h3 : Int} (p : mm_tri rm tk l w r0 v0) (t : r.toInt = r0.toInt + -1) (ev : v = tk ix.toNatClampNeg) (ei : ix.toInt = 10 * (7 * l.toInt + r0.toInt) + v0.toInt) (r1 : mm_rg r0 l1 h1) (r2 : mm_rg v0 l2 h2) (r3 : mm_rg l l3 h3) (_ : True) (c : 0 ≤ l1 ∧ 0 ≤ l2 ∧ 0 ≤ l3) : mm_tri rm tk l w r v := by
  unfold mm_tri at *
  have zi : ix.toNatClampNeg = ix.toInt.toNat := rfl
  have zl : l.toNatClampNeg = l.toInt.toNat := rfl
  have zv : v0.toNatClampNeg = v0.toInt.toNat := rfl
  have := r1.1; have := r2.1; have := r3.1
  rw [← p, show (r0.toInt + 1).toNat = (r.toInt + 1).toNat + 1 from by omega]
  show _ = mm_tn tk l.toNatClampNeg (r.toInt + 1).toNat (tk (10 * (7 * l.toNatClampNeg + (r.toInt + 1).toNat) + v0.toNatClampNeg))
  rw [ev]
  congr 2
  omega
theorem mm_tr_of {rm tk : Nat → Int32} {l w r v : Int32} {lo hi : Int} (p : mm_tri rm tk l w r v) (q : mm_rg r lo hi) (c : hi ≤ -1) : mm_tr rm tk l w v := by
  unfold mm_tri at p
  have := q.2
  rw [show (r.toInt + 1).toNat = 0 from by omega] at p
  exact p
def mm_it (f : Int32 → Int32) : Nat → Int32 → Int32
  | 0, v => v
  | n + 1, v => f (mm_it f n v)
def mm_cy (rm tk : Nat → Int32) (l w n v : Int32) : Prop := v = mm_it (mm_T rm tk l) n.toInt.toNat w ∧ ∀ j : Nat, 1 ≤ j → (j : Int) < n.toInt → mm_it (mm_T rm tk l) j w ≠ w
theorem mm_cy_1 {rm tk : Nat → Int32} {l w v : Int32} (p : mm_tr rm tk l w v) : mm_cy rm tk l w 1 v := by
  have t : (1 : Int32).toInt = 1 := by decide
  refine ⟨?_, fun j h1 h2 => by omega⟩
  rw [t]
  exact p
theorem mm_cy_s {rm tk : Nat → Int32} {l w n n2 v v2 : Int32} {lo hi : Int} (p : mm_cy rm tk l w n v) (q : mm_tr rm tk l v v2) (ne : v.toInt ≠ w.toInt) (t : n2.toInt = n.toInt + 1) (r : mm_rg n lo hi) (c : 0 ≤ lo) : mm_cy rm tk l w n2 v2 := by
  have := r.1
  refine ⟨?_, fun j h1 h2 => ?_⟩
  · rw [show n2.toInt.toNat = n.toInt.toNat + 1 from by omega]
    show v2 = mm_T rm tk l (mm_it (mm_T rm tk l) n.toInt.toNat w)
    rw [← p.1]
    exact q
  · by_cases z : (j : Int) < n.toInt
    · exact p.2 j h1 z
    · rw [show j = n.toInt.toNat from by omega, ← p.1]
      exact fun e => ne (by rw [e])
def mm_per (rm tk : Nat → Int32) (l w r : Int32) : Prop := 1 ≤ r.toInt ∧ mm_it (mm_T rm tk l) r.toInt.toNat w = w ∧ ∀ j : Nat, 1 ≤ j → (j : Int) < r.toInt → mm_it (mm_T rm tk l) j w ≠ w
def mm_rw (rm tk : Nat → Int32) (l w : Int32) : Prop := ∃ n : Nat, n ≤ 10 ∧ 0 ≤ w.toInt ∧ w.toInt < (n : Int) ∧ ∀ r : Nat, (r : Int) < (rm l.toNatClampNeg).toInt → mm_pm tk (10 * (7 * l.toNatClampNeg + r)) n
theorem mm_rw_of {rm tk : Nat → Int32} {l w h2 h3 : Int32} {l1 h1 l2 h2' l3 h3' : Int} (p : mm_rls rm tk 0 h2 h3) (lt : l.toInt < h3.toInt) (le : w.toInt ≤ h2.toInt) (rl : mm_rg l l1 h1) (rw_ : mm_rg w l2 h2') (rh : mm_rg h2 l3 h3') (hr : (rm l.toNatClampNeg).toInt ≤ 7) (c : 0 ≤ l1 ∧ h1 ≤ 2 ∧ 0 ≤ l2 ∧ h3' ≤ 9) : mm_rw rm tk l w := by
  have zl : l.toNatClampNeg = l.toInt.toNat := rfl
  have := rl.1; have := rl.2; have := rw_.1; have := rh.2
  refine ⟨h2.toInt.toNat + 1, by omega, by omega, by omega, fun r hr2 => ?_⟩
  have q := p l.toNatClampNeg r (by omega) (by omega) (by rw [show 3 * 0 + l.toNatClampNeg = l.toNatClampNeg from by omega]; exact hr2) (by omega) (by omega)
  rw [show 10 * (7 * l.toNatClampNeg + r) = 210 * 0 + 70 * l.toNatClampNeg + 10 * r from by omega]
  exact q
theorem mm_of2 {v h : Int32} {lo hi : Int} (w : 0 ≤ v.toInt ∧ v.toInt ≤ h.toInt) (r : mm_rg h lo hi) : mm_rg v 0 hi := ⟨w.1, Int.le_trans w.2 r.2⟩
/-! ===== a land's table ===== -/
def mm_to (tb z : Nat → Int32) (l : Int32) : Prop := ∀ j : Nat, (j < 2400 * l.toNatClampNeg ∨ 2400 * l.toNatClampNeg + 2400 ≤ j) → z j = tb j
def mm_t0 (tb z : Nat → Int32) (l w : Int32) : Prop := mm_to tb z l ∧ ∀ i : Nat, (i : Int) < w.toInt → (z (2400 * l.toNatClampNeg + i)).toInt = (i : Int)
theorem mm_t0_0 (tb : Nat → Int32) (l : Int32) : mm_t0 tb tb l 0 := ⟨fun _ _ => rfl, fun i h => by
  have : (0 : Int32).toInt = 0 := by decide
  omega⟩
theorem mm_t0_s {tb z0 z : Nat → Int32} {l w w2 ix : Int32} {l1 h1 l2 h2 : Int} (p : mm_t0 tb z0 l w) (t : w2.toInt = w.toInt + 1) (e : z = upd z0 ix.toNatClampNeg w) (ei : ix.toInt = 2400 * l.toInt + w.toInt) (rw_ : mm_rg w l1 h1) (rl : mm_rg l l2 h2) (c : 0 ≤ l1 ∧ h1 ≤ 2399 ∧ 0 ≤ l2) : mm_t0 tb z l w2 := by
  have zi : ix.toNatClampNeg = ix.toInt.toNat := rfl
  have zl : l.toNatClampNeg = l.toInt.toNat := rfl
  have := rw_.1; have := rw_.2; have := rl.1
  refine ⟨fun j q => by rw [e, pk_un (by omega)]; exact p.1 j q, fun i q => ?_⟩
  by_cases z2 : (i : Int) = w.toInt
  · rw [e, show 2400 * l.toNatClampNeg + i = ix.toNatClampNeg from by omega, pk_us]; omega
  · rw [e, pk_un (by omega)]
    exact p.2 i (by omega)
def mm_tp (tb z : Nat → Int32) (l h : Int32) : Prop := mm_to tb z l ∧ mm_pm z (2400 * l.toNatClampNeg) (h.toInt.toNat + 1)
theorem mm_tp_0 {tb z : Nat → Int32} {l w h x : Int32} {l1 h1 l2 h2 : Int} (p : mm_t0 tb z l w) (t : x.toInt = h.toInt + 1) (le : x.toInt ≤ w.toInt) (rh : mm_rg h l1 h1) (_ : mm_rg l l2 h2) (c : 0 ≤ l1) : mm_tp tb z l h := by
  have := rh.1
  refine ⟨p.1, fun i hi => ?_, fun v hv => ⟨v, hv, p.2 v (by omega)⟩⟩
  rw [p.2 i (by omega)]
  exact ⟨by omega, by omega⟩
def mm_td (tb z : Nat → Int32) (l d h : Int32) : Prop := mm_to tb z l ∧ ∀ e : Nat, (e : Int) ≤ d.toInt → mm_pm z (2400 * l.toNatClampNeg + 10 * e) (h.toInt.toNat + 1)
theorem mm_td_0 {tb z : Nat → Int32} {l h : Int32} (p : mm_tp tb z l h) : mm_td tb z l 0 h := ⟨p.1, fun e he => by
  have : (0 : Int32).toInt = 0 := by decide
  rw [show 2400 * l.toNatClampNeg + 10 * e = 2400 * l.toNatClampNeg from by omega]
  exact p.2⟩
def mm_te (tb z tk : Nat → Int32) (l d k w h : Int32) : Prop := mm_td tb z l d h ∧ ∀ i : Nat, (i : Int) < w.toInt → z (2400 * l.toNatClampNeg + 10 * d.toNatClampNeg + 10 + i) = z (2400 * l.toNatClampNeg + 10 * d.toNatClampNeg + (tk (k.toNatClampNeg + i)).toNatClampNeg)
theorem mm_te_0 {tb z tk : Nat → Int32} {l d k h : Int32} (p : mm_td tb z l d h) : mm_te tb z tk l d k 0 h := ⟨p, fun i hi => by
  have : (0 : Int32).toInt = 0 := by decide
  omega⟩
def mm_xl (f g : Nat → Int32) (l : Int32) : Prop := ∀ j : Nat, j ≠ l.toNatClampNeg → g j = f j
theorem mm_xl_r (f : Nat → Int32) (l : Int32) : mm_xl f f l := fun _ _ => rfl
theorem mm_xl_u {f g h : Nat → Int32} {l v : Int32} (p : mm_xl f g l) (e : h = upd g l.toNatClampNeg v) : mm_xl f h l := fun j q => by rw [e, pk_un q]; exact p j q
def mm_f1 (fu : Nat → Int32) (l : Int32) : Prop := 1 ≤ (fu l.toNatClampNeg).toInt
theorem mm_f1_u {f g : Nat → Int32} {l v : Int32} {lo hi : Int} (e : g = upd f l.toNatClampNeg v) (r : mm_rg v lo hi) (c : 1 ≤ lo) : mm_f1 g l := by
  unfold mm_f1; rw [e, pk_us]; exact Int.le_trans c r.1
theorem mm_f1_ld {fu : Nat → Int32} {l v : Int32} {lo hi : Int} (h : mm_f1 fu l) (e : v = fu l.toNatClampNeg) (r : mm_rg v lo hi) : mm_rg v 1 hi := ⟨by rw [e]; exact h, r.2⟩
def mm_laid (fu le : Nat → Int32) (x : Int32) : Prop := ∀ j : Nat, (j : Int) < x.toInt → 1 ≤ (fu j).toInt ∧ 1 ≤ (le j).toInt ∧ (le j).toInt ≤ (fu j).toInt
theorem mm_laid_0 {fu le : Nat → Int32} {x : Int32} {lo hi : Int} (r : mm_rg x lo hi) (c : hi ≤ 0) : mm_laid fu le x := fun j h => by have := r.2; omega
theorem mm_laid_le {fu le : Nat → Int32} {x y : Int32} (h : mm_laid fu le y) (q : x.toInt ≤ y.toInt) : mm_laid fu le x := fun j z => h j (by omega)
theorem mm_f1_l {fu le : Nat → Int32} {x l : Int32} {lo hi : Int} (h : mm_laid fu le x) (lt : l.toInt < x.toInt) (r : mm_rg l lo hi) (c : 0 ≤ lo) : mm_f1 fu l := by
  have := r.1
  have z : l.toNatClampNeg = l.toInt.toNat := rfl
  exact (h l.toNatClampNeg (by omega)).1
theorem mm_laid_ld0 {fu le : Nat → Int32} {x i v : Int32} {l1 h1 lo hi : Int} (h : mm_laid fu le x) (lt : i.toInt < x.toInt) (e : v = fu i.toNatClampNeg) (ri : mm_rg i l1 h1) (r : mm_rg v lo hi) (c : 0 ≤ l1) : mm_rg v 1 hi := ⟨by rw [e]; exact mm_f1_l h lt ri c, r.2⟩
theorem mm_laid_ld1 {fu le : Nat → Int32} {x i v : Int32} {l1 h1 lo hi : Int} (h : mm_laid fu le x) (lt : i.toInt < x.toInt) (e : v = le i.toNatClampNeg) (ri : mm_rg i l1 h1) (r : mm_rg v lo hi) (c : 0 ≤ l1) : mm_rg v 1 hi := by
  have := ri.1
  have z : i.toNatClampNeg = i.toInt.toNat := rfl
  exact ⟨by rw [e]; exact (h i.toNatClampNeg (by omega)).2.1, r.2⟩
def mm_nr (fu : Nat → Int32) (l n : Int32) : Prop := n ≠ fu l.toNatClampNeg
def mm_lf (le fu : Nat → Int32) (l : Int32) : Prop := 1 ≤ (le l.toNatClampNeg).toInt ∧ (le l.toNatClampNeg).toInt ≤ (fu l.toNatClampNeg).toInt
theorem mm_lf_0 {le0 le fu : Nat → Int32} {l : Int32} (e : le = upd le0 l.toNatClampNeg 1) (p : mm_f1 fu l) : mm_lf le fu l := by
  have t : (1 : Int32).toInt = 1 := by decide
  unfold mm_lf
  rw [e, pk_us, t]
  exact ⟨by omega, p⟩
theorem mm_lf_s {le0 le fu : Nat → Int32} {l x v : Int32} (p : mm_lf le0 fu l) (n : mm_nr fu l x) (ex : x = le0 l.toNatClampNeg) (e : le = upd le0 l.toNatClampNeg v) (t : v.toInt = x.toInt + 1) : mm_lf le fu l := by
  unfold mm_lf at *
  unfold mm_nr at n
  rw [← ex] at p
  have : x.toInt ≠ (fu l.toNatClampNeg).toInt := fun q => n (mm_eq q)
  rw [e, pk_us]
  exact ⟨by omega, by omega⟩
theorem mm_lf_ld {le fu : Nat → Int32} {l v : Int32} {lo hi : Int} (h : mm_lf le fu l) (e : v = le l.toNatClampNeg) (r : mm_rg v lo hi) : mm_rg v 1 hi := ⟨by rw [e]; exact h.1, r.2⟩
theorem mm_nr_d {le fu : Nat → Int32} {l x : Int32} {l1 h1 lo hi hh : Int} (n : mm_nr fu l x) (p : mm_lf le fu l) (ex : x = le l.toNatClampNeg) (rf : mm_ar fu l1 h1) (r : mm_rg x lo hi) (c : h1 - 1 ≤ hh) : mm_rg x lo hh := by
  have : x.toInt ≠ (fu l.toNatClampNeg).toInt := fun q => n (mm_eq q)
  have a := p.2
  rw [← ex] at a
  have := (rf l.toNatClampNeg).2
  exact ⟨r.1, by omega⟩
theorem mm_lfM {n : Nat} {le0 le fu : Nat → Int32} {l x v : Int32} (hm : ((fu (l : Int32).toNatClampNeg).toInt - (le0 (l : Int32).toNatClampNeg).toInt).toNat < n + 1) (p : mm_lf le0 fu l) (nr : mm_nr fu l x) (ex : x = le0 l.toNatClampNeg) (e : le = upd le0 l.toNatClampNeg v) (t : v.toInt = x.toInt + 1) : ((fu (l : Int32).toNatClampNeg).toInt - (le (l : Int32).toNatClampNeg).toInt).toNat < n := by
  have : x.toInt ≠ (fu l.toNatClampNeg).toInt := fun q => nr (mm_eq q)
  have a := p.2
  rw [← ex] at a hm
  rw [e, pk_us]
  omega
