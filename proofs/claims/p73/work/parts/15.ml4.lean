def mm_gcd (a b r : Int32) : Prop := 0 ≤ r.toInt ∧ r.toInt.toNat = Nat.gcd a.toInt.toNat b.toInt.toNat
theorem mm_gcd_0 {a b : Int32} {l1 h1 l2 h2 : Int} (ra : mm_rg a l1 h1) (rb : mm_rg b l2 h2) (c : 0 ≤ l1 ∧ l2 = 0 ∧ h2 = 0) : mm_gcd a b a := by
  have := ra.1; have := rb.1; have := rb.2
  refine ⟨by omega, ?_⟩
  rw [show b.toInt.toNat = 0 from by omega, Nat.gcd_zero_right]
theorem mm_gcd_s {a b m r : Int32} {l1 h1 l2 h2 : Int} (p : mm_gcd b m r) (e : m = a - a / b * b) (ra : mm_rg a l1 h1) (rb : mm_rg b l2 h2) (c : 0 ≤ l1 ∧ 1 ≤ l2) : mm_gcd a b r := by
  have t := mm_remE e (mm_wk ra ⟨c.1, Int.le_refl _⟩) rb c.2
  have := ra.1; have := rb.1
  refine ⟨p.1, ?_⟩
  rw [p.2, t]
  have z : (a.toInt % b.toInt).toNat = a.toInt.toNat % b.toInt.toNat := by
    have h1 : a.toInt = (a.toInt.toNat : Int) := by omega
    have h2 : b.toInt = (b.toInt.toNat : Int) := by omega
    rw [h1, h2]
    simp
    omega
  rw [z, Nat.gcd_comm a.toInt.toNat b.toInt.toNat, Nat.gcd_rec b.toInt.toNat a.toInt.toNat, Nat.gcd_comm (a.toInt.toNat % b.toInt.toNat) b.toInt.toNat]
theorem mm_pm_comp {z tk : Nat → Int32} {b b2 k n : Nat} (p : mm_pm z b n) (r : mm_pm tk k n) (e : ∀ i, i < n → z (b2 + i) = z (b + (tk (k + i)).toNatClampNeg)) : mm_pm z b2 n := by
  have t : ∀ i, i < n → (tk (k + i)).toNatClampNeg < n := fun i hi => by
    have q := r.1 i hi
    have : (tk (k + i)).toNatClampNeg = (tk (k + i)).toInt.toNat := rfl
    omega
  refine ⟨fun i hi => by rw [e i hi]; exact p.1 _ (t i hi), fun v hv => ?_⟩
  obtain ⟨j, hj, ej⟩ := p.2 v hv
  obtain ⟨i, hi, ei⟩ := r.2 j hj
  refine ⟨i, hi, ?_⟩
  rw [e i hi, show (tk (k + i)).toNatClampNeg = j from by
    have : (tk (k + i)).toNatClampNeg = (tk (k + i)).toInt.toNat := rfl
    omega]
  exact ej
theorem mm_te_s {tb z0 z tk : Nat → Int32} {l d k w w2 h ix i2 i3 v x : Int32} {l1 h1 l2 h2 l3 h3 l4 h4 l5 h5 l6 h6 : Int} (p : mm_te tb z0 tk l d k w h) (t : w2.toInt = w.toInt + 1) (e : z = upd z0 ix.toNatClampNeg v) (ev : v = z0 i2.toNatClampNeg) (ex : x = tk i3.toNatClampNeg) (ei : ix.toInt = 2400 * l.toInt + 10 * d.toInt + 10 + w.toInt) (e2 : i2.toInt = 2400 * l.toInt + 10 * d.toInt + x.toInt) (e3 : i3.toInt = k.toInt + w.toInt) (rl : mm_rg l l1 h1) (rd : mm_rg d l2 h2) (rw_ : mm_rg w l3 h3) (rx : mm_rg x l4 h4) (rk : mm_rg k l5 h5) (rh : mm_rg h l6 h6) (c : 0 ≤ l1 ∧ 0 ≤ l2 ∧ h2 ≤ 208 ∧ 0 ≤ l3 ∧ h3 ≤ 9 ∧ 0 ≤ l4 ∧ h4 ≤ 9 ∧ 0 ≤ l5 ∧ h6 ≤ 9) (ha : ∀ i : Nat, 0 ≤ (tk i).toInt ∧ (tk i).toInt ≤ 9) : mm_te tb z tk l d k w2 h := by
  have zi : ix.toNatClampNeg = ix.toInt.toNat := rfl
  have z2 : i2.toNatClampNeg = i2.toInt.toNat := rfl
  have z3 : i3.toNatClampNeg = i3.toInt.toNat := rfl
  have zl : l.toNatClampNeg = l.toInt.toNat := rfl
  have zd : d.toNatClampNeg = d.toInt.toNat := rfl
  have zk : k.toNatClampNeg = k.toInt.toNat := rfl
  have zx : x.toNatClampNeg = x.toInt.toNat := rfl
  have := rl.1; have := rd.1; have := rd.2; have := rw_.1; have := rw_.2; have := rx.1; have := rx.2; have := rk.1; have := rh.2
  refine ⟨⟨fun j q => by rw [e, pk_un (by omega)]; exact p.1.1 j q, fun q hq => mm_pm_congr (p.1.2 q hq) (fun i hi => by rw [e, pk_un (by omega)])⟩, fun i hi => ?_⟩
  have a := ha (k.toNatClampNeg + i)
  have zt : (tk (k.toNatClampNeg + i)).toNatClampNeg = (tk (k.toNatClampNeg + i)).toInt.toNat := rfl
  rw [e, pk_un (k := ix.toNatClampNeg) (j := 2400 * l.toNatClampNeg + 10 * d.toNatClampNeg + (tk (k.toNatClampNeg + i)).toNatClampNeg) (by omega)]
  by_cases q : (i : Int) = w.toInt
  · rw [show 2400 * l.toNatClampNeg + 10 * d.toNatClampNeg + 10 + i = ix.toNatClampNeg from by omega, pk_us, ev]
    rw [show k.toNatClampNeg + i = i3.toNatClampNeg from by omega, ← ex]
    congr 1
    omega
  · rw [pk_un (by omega)]
    exact p.2 i (by omega)
theorem mm_td_s {tb z rm tk : Nat → Int32} {l d d2 h h3 k w wd x q : Int32} {l1 h1 l2 h2 l3 u3 l4 h4 : Int} (p : mm_te tb z tk l d k w h) (t : d2.toInt = d.toInt + 1) (tw : wd.toInt = h.toInt + 1) (le : wd.toInt ≤ w.toInt) (rls : mm_rls rm tk 0 h h3) (lt : l.toInt < h3.toInt) (ex : x = rm l.toNatClampNeg) (eq_ : q = d - d / x * x) (ek : k.toInt = 10 * (7 * l.toInt + q.toInt)) (rl : mm_rg l l1 h1) (rd : mm_rg d l2 h2) (rx : mm_rg x l3 u3) (rh : mm_rg h l4 h4) (c : 0 ≤ l1 ∧ h1 ≤ 2 ∧ 0 ≤ l2 ∧ 1 ≤ l3 ∧ u3 ≤ 7 ∧ 0 ≤ l4 ∧ h4 ≤ 9) : mm_td tb z l d2 h := by
  have zl : l.toNatClampNeg = l.toInt.toNat := rfl
  have zd : d.toNatClampNeg = d.toInt.toNat := rfl
  have zk : k.toNatClampNeg = k.toInt.toNat := rfl
  have tq := mm_remE eq_ (mm_wk rd ⟨c.2.2.1, Int.le_refl _⟩) rx c.2.2.2.1
  have := rl.1; have := rl.2; have := rd.1; have := rx.1; have := rx.2; have := rh.1; have := rh.2
  have q0 := Int.emod_nonneg d.toInt (b := x.toInt) (by omega)
  have q1 := Int.emod_lt_of_pos d.toInt (b := x.toInt) (by omega)
  refine ⟨p.1.1, fun e he => ?_⟩
  by_cases z2 : (e : Int) ≤ d.toInt
  · exact p.1.2 e z2
  · have row := rls l.toNatClampNeg q.toInt.toNat (by omega) (by omega) (by rw [show 3 * 0 + l.toNatClampNeg = l.toNatClampNeg from by omega, ← ex]; omega) (by omega) (by omega)
    have row0 := p.1.2 d.toNatClampNeg (by omega)
    rw [show 2400 * l.toNatClampNeg + 10 * e = 2400 * l.toNatClampNeg + 10 * d.toNatClampNeg + 10 from by omega]
    refine mm_pm_comp row0 row (fun i hi => ?_)
    rw [p.2 i (by omega)]
    rw [show k.toNatClampNeg + i = 210 * 0 + 70 * l.toNatClampNeg + 10 * q.toInt.toNat + i from by omega]
theorem mm_pm_swap {z0 z1 z : Nat → Int32} {b n a c : Nat} (p : mm_pm z0 b n) (ha : a < n) (hc : c < n) (e1 : z1 = upd z0 (b + a) (z0 (b + c))) (e2 : z = upd z1 (b + c) (z0 (b + a))) : mm_pm z b n := by
  have v : ∀ i, i < n → z (b + i) = if i = c then z0 (b + a) else if i = a then z0 (b + c) else z0 (b + i) := by
    intro i hi
    rw [e2]
    split
    · rename_i q; rw [q, pk_us]
    · rename_i q
      rw [pk_un (by omega), e1]
      split
      · rename_i q2; rw [q2, pk_us]
      · rename_i q2; rw [pk_un (by omega)]
  refine ⟨fun i hi => ?_, fun w hw => ?_⟩
  · rw [v i hi]
    split
    · exact p.1 a ha
    · split
      · exact p.1 c hc
      · exact p.1 i hi
  · obtain ⟨j, hj, ej⟩ := p.2 w hw
    by_cases q1 : j = a
    · refine ⟨c, hc, ?_⟩
      rw [v c hc, if_pos rfl, ← q1]; exact ej
    · by_cases q2 : j = c
      · refine ⟨a, ha, ?_⟩
        rw [v a ha]
        split
        · rename_i q3; exact absurd (q2.trans q3.symm) q1
        · rw [if_pos rfl, ← q2]; exact ej
      · refine ⟨j, hj, ?_⟩
        rw [v j hj, if_neg q2, if_neg q1]; exact ej
theorem mm_tp_s {tb z0 z1 z : Nat → Int32} {l h ia ib was vb xa xb : Int32} {l1 h1 l2 h2 l3 h3 l4 h4 : Int} (p : mm_tp tb z0 l h) (e1 : z1 = upd z0 ia.toNatClampNeg vb) (e2 : z = upd z1 ib.toNatClampNeg was) (ew : was = z0 ia.toNatClampNeg) (ev : vb = z0 ib.toNatClampNeg) (ta : ia.toInt = 2400 * l.toInt + xa.toInt) (tc : ib.toInt = 2400 * l.toInt + xb.toInt) (la : xa.toInt ≤ h.toInt) (lb : xb.toInt ≤ h.toInt) (ra : mm_rg xa l1 h1) (rb : mm_rg xb l2 h2) (rh : mm_rg h l3 h3) (rl : mm_rg l l4 h4) (c : 0 ≤ l1 ∧ 0 ≤ l2 ∧ h3 ≤ 9 ∧ 0 ≤ l4) : mm_tp tb z l h := by
  have za : ia.toNatClampNeg = ia.toInt.toNat := rfl
  have zb : ib.toNatClampNeg = ib.toInt.toNat := rfl
  have zl : l.toNatClampNeg = l.toInt.toNat := rfl
  have := ra.1; have := rb.1; have := rh.2; have := rl.1
  refine ⟨fun j q => by rw [e2, pk_un (by omega), e1, pk_un (by omega)]; exact p.1 j q, ?_⟩
  have ka : ia.toNatClampNeg = 2400 * l.toNatClampNeg + xa.toInt.toNat := by omega
  have kb : ib.toNatClampNeg = 2400 * l.toNatClampNeg + xb.toInt.toNat := by omega
  exact mm_pm_swap (z1 := z1) (a := xa.toInt.toNat) (c := xb.toInt.toNat) p.2 (by omega) (by omega) (by rw [e1, ev, ka, kb]) (by rw [e2, ew, ka, kb])
