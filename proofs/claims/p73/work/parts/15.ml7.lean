/-! ===== texts, stocks, reading ===== -/
theorem mm_tx_lt {v : Int64} {h t : Int32} (p : mm_tx v h) (e : v.toInt = t.toInt) : t.toInt < h.toInt := by have := p.2; omega
def mm_ltk (ta row : Nat → Int32) (t i : Int32) : Prop := ∀ j : Nat, (j : Int) < i.toInt → row j = ta (8 * t.toNatClampNeg + j)
theorem mm_ltk_0 (ta row : Nat → Int32) (t : Int32) : mm_ltk ta row t 0 := by
  have t0 : (0 : Int32).toInt = 0 := by decide
  exact fun j hj => by omega
theorem mm_ltk_s {ta row0 row : Nat → Int32} {t i0 i v ix : Int32} {l1 h1 l2 h2 : Int} (p : mm_ltk ta row0 t i0) (ti : i.toInt = i0.toInt + 1) (e : row = upd row0 i0.toNatClampNeg v) (ev : v = ta ix.toNatClampNeg) (ei : ix.toInt = 8 * t.toInt + i0.toInt) (ri : mm_rg i0 l1 h1) (rt : mm_rg t l2 h2) (c : 0 ≤ l1 ∧ 0 ≤ l2) : mm_ltk ta row t i := by
  intro j hj
  have zi : i0.toNatClampNeg = i0.toInt.toNat := rfl
  have zx : ix.toNatClampNeg = ix.toInt.toNat := rfl
  have zt : t.toNatClampNeg = t.toInt.toNat := rfl
  have := ri.1; have := rt.1
  by_cases q : (j : Int) < i0.toInt
  · rw [e, pk_un (by omega)]
    exact p j q
  · rw [show j = i0.toNatClampNeg from by omega, e, pk_us, ev]
    congr 1
    omega
def mm_ltx (ta tm : Nat → Int32) (t : Int32) (row : Nat → Int32) (rm : Int32) : Prop := rm = tm t.toNatClampNeg ∧ ∀ j : Nat, (j : Int) < rm.toInt → row j = ta (8 * t.toNatClampNeg + j)
theorem mm_ltx_of {ta tm row : Nat → Int32} {t i rm : Int32} (p : mm_ltk ta row t i) (e : rm = tm t.toNatClampNeg) (le : rm.toInt ≤ i.toInt) : mm_ltx ta tm t row rm := ⟨e, fun j hj => p j (by omega)⟩
def mm_stk (ac : Nat → Int32) (n0 : Int32) : Nat → Int32
  | 0 => n0
  | k + 1 => if (ac (3 * k)).toInt = -1 then ac (3 * k + 2) else mm_stk ac n0 k
def mm_snk (ac : Nat → Int32) (h1 n k : Int32) : Prop := n = mm_stk ac h1 k.toInt.toNat
theorem mm_snk_0 (ac : Nat → Int32) (h1 : Int32) : mm_snk ac h1 h1 0 := by
  have t0 : (0 : Int32).toInt = 0 := by decide
  unfold mm_snk
  rw [t0]
  rfl
theorem mm_snk_n {ac : Nat → Int32} {h1 n k0 k x ix : Int32} {l u : Int} (p : mm_snk ac h1 n k0) (t : k.toInt = k0.toInt + 1) (ex : x = ac ix.toNatClampNeg) (ne : x.toInt ≠ (-1 : Int32).toInt) (ei : ix.toInt = 3 * k0.toInt) (r : mm_rg k0 l u) (c : 0 ≤ l) : mm_snk ac h1 n k := by
  have zx : ix.toNatClampNeg = ix.toInt.toNat := rfl
  have t1 : (-1 : Int32).toInt = -1 := by decide
  have := r.1
  unfold mm_snk at *
  rw [show k.toInt.toNat = k0.toInt.toNat + 1 from by omega]
  show n = if (ac (3 * k0.toInt.toNat)).toInt = -1 then ac (3 * k0.toInt.toNat + 2) else mm_stk ac h1 k0.toInt.toNat
  rw [show 3 * k0.toInt.toNat = ix.toNatClampNeg from by omega, ← ex, if_neg (by omega)]
  exact p
theorem mm_snk_y {ac : Nat → Int32} {h1 n k0 k x ix iy : Int32} {l u : Int} (t : k.toInt = k0.toInt + 1) (ex : x = ac ix.toNatClampNeg) (e1 : x = (-1)) (ei : ix.toInt = 3 * k0.toInt) (en : n = ac iy.toNatClampNeg) (ej : iy.toInt = 3 * k0.toInt + 2) (r : mm_rg k0 l u) (c : 0 ≤ l) : mm_snk ac h1 n k := by
  have zx : ix.toNatClampNeg = ix.toInt.toNat := rfl
  have zy : iy.toNatClampNeg = iy.toInt.toNat := rfl
  have t1 : (-1 : Int32).toInt = -1 := by decide
  have := r.1
  unfold mm_snk
  rw [show k.toInt.toNat = k0.toInt.toNat + 1 from by omega]
  show n = if (ac (3 * k0.toInt.toNat)).toInt = -1 then ac (3 * k0.toInt.toNat + 2) else mm_stk ac h1 k0.toInt.toNat
  rw [show 3 * k0.toInt.toNat = ix.toNatClampNeg from by omega, ← ex, e1, if_pos t1, en]
  congr 1
  omega
def mm_sn (ac : Nat → Int32) (h1 h5 r : Int32) : Prop := r = mm_stk ac h1 h5.toInt.toNat
theorem mm_sn_of {ac : Nat → Int32} {h1 h5 r k : Int32} (p : mm_snk ac h1 r k) (a : h5.toInt ≤ k.toInt) (b : k.toInt ≤ h5.toInt) : mm_sn ac h1 h5 r := by
  unfold mm_snk at p
  unfold mm_sn
  rw [show h5.toInt = k.toInt from by omega]
  exact p
def mm_nx (k v n : Int) : Int := if 9999 < (if k = 0 then n + v else if k = 1 then (if v < n then n - v else 0) else if k = 2 then 2 * n else n) then 9999 else (if k = 0 then n + v else if k = 1 then (if v < n then n - v else 0) else if k = 2 then 2 * n else n)
def mm_rfn (tb sn row : Nat → Int32) (b : Nat) (h2 rm : Int) : Nat → Int → Int → Int
  | 0, _, n => n
  | f + 1, i, n => if rm ≤ i then n else if (tb (b + (row i.toNat).toNatClampNeg)).toInt = h2 then mm_rfn tb sn row b h2 rm f (i + 1) n else if (sn (2 * (tb (b + (row i.toNat).toNatClampNeg)).toInt).toNat).toInt = 3 then mm_nx 3 0 n else mm_rfn tb sn row b h2 rm f (i + (if (sn (2 * (tb (b + (row i.toNat).toNatClampNeg)).toInt).toNat).toInt = 4 then 2 else 1)) (mm_nx (sn (2 * (tb (b + (row i.toNat).toNatClampNeg)).toInt).toNat).toInt (sn (2 * (tb (b + (row i.toNat).toNatClampNeg)).toInt + 1).toNat).toInt n)
def mm_bs (fu : Nat → Int32) (l d : Int32) : Nat := 2400 * l.toNatClampNeg + 10 * (d.toInt % (fu l.toNatClampNeg).toInt).toNat
def mm_rfi (tb fu sn row : Nat → Int32) (l d h2 rm st i n : Int32) : Prop := ∃ f : Nat, rm.toInt ≤ i.toInt + (f : Int) ∧ mm_rfn tb sn row (mm_bs fu l d) h2.toInt rm.toInt f i.toInt n.toInt = mm_rfn tb sn row (mm_bs fu l d) h2.toInt rm.toInt 9 0 st.toInt
theorem mm_rfi_0 (tb fu sn row : Nat → Int32) (l d h2 rm st : Int32) {lo hi : Int} (r : mm_rg rm lo hi) (c : hi ≤ 9) : mm_rfi tb fu sn row l d h2 rm st 0 st := by
  have t0 : (0 : Int32).toInt = 0 := by decide
  have := r.2
  refine ⟨9, by omega, ?_⟩
  rw [t0]
theorem mm_rfn_e {tb sn row : Nat → Int32} {b : Nat} {h2 rm i n : Int} (h : rm ≤ i) : ∀ f : Nat, mm_rfn tb sn row b h2 rm f i n = n := by
  intro f
  cases f with
  | zero => rfl
  | succ f => unfold mm_rfn; rw [if_pos h]
theorem mm_rfi_n {tb fu sn row : Nat → Int32} {l d h2 rm st i0 i n w x : Int32} {lo hi : Int} (p : mm_rfi tb fu sn row l d h2 rm st i0 n) (lt : i0.toInt < rm.toInt) (ew : w = row i0.toNatClampNeg) (m0 : mm_m0 tb fu l d w x) (e : x = h2) (ti : i.toInt = i0.toInt + 1) (r : mm_rg i0 lo hi) (c : 0 ≤ lo) : mm_rfi tb fu sn row l d h2 rm st i n := by
  obtain ⟨f, f1, f2⟩ := p
  have := r.1
  have zi : i0.toNatClampNeg = i0.toInt.toNat := rfl
  cases f with
  | zero => omega
  | succ f =>
    refine ⟨f, by omega, ?_⟩
    rw [← f2]
    conv => rhs; unfold mm_rfn
    have ex : tb (mm_bs fu l d + (row i0.toInt.toNat).toNatClampNeg) = x := by rw [← zi, ← ew]; exact m0.symm
    rw [if_neg (by omega), ex, if_pos (by rw [e]), ti]
theorem mm_rfi_g {tb fu sn row : Nat → Int32} {l d h2 rm st i0 n0 i n w x kk : Int32} {vv : Int} (p : mm_rfi tb fu sn row l d h2 rm st i0 n0) (lt : i0.toInt < rm.toInt) (i00 : 0 ≤ i0.toInt) (ew : w = row i0.toNatClampNeg) (m0 : mm_m0 tb fu l d w x) (ne : x.toInt ≠ h2.toInt) (ek : kk = sn (2 * x.toInt).toNat) (k3 : kk.toInt ≠ 3) (ev : vv = (sn (2 * x.toInt + 1).toNat).toInt) (hn : n.toInt = mm_nx kk.toInt vv n0.toInt) (ti : i.toInt = i0.toInt + (if kk.toInt = 4 then 2 else 1)) : mm_rfi tb fu sn row l d h2 rm st i n := by
  obtain ⟨f, f1, f2⟩ := p
  have zi : i0.toNatClampNeg = i0.toInt.toNat := rfl
  cases f with
  | zero => omega
  | succ f =>
    refine ⟨f, ?_, ?_⟩
    · split at ti <;> omega
    · rw [← f2]
      conv => rhs; unfold mm_rfn
      have ex : tb (mm_bs fu l d + (row i0.toInt.toNat).toNatClampNeg) = x := by rw [← zi, ← ew]; exact m0.symm
      rw [if_neg (by omega), ex, if_neg ne, ← ek, if_neg k3, ← ev, ← hn, ← ti]
theorem mm_rfi_v {tb fu sn row : Nat → Int32} {l d h2 rm st i0 n0 i n w x kk vv ik iv : Int32} {l1 u1 l2 u2 : Int} (p : mm_rfi tb fu sn row l d h2 rm st i0 n0) (lt : i0.toInt < rm.toInt) (ew : w = row i0.toNatClampNeg) (m0 : mm_m0 tb fu l d w x) (ne : x.toInt ≠ h2.toInt) (ek : kk = sn ik.toNatClampNeg) (eik : ik.toInt = 2 * x.toInt) (k3 : kk.toInt ≠ 3) (ev : vv = sn iv.toNatClampNeg) (eiv : iv.toInt = 2 * x.toInt + 1) (hn : n.toInt = mm_nx kk.toInt vv.toInt n0.toInt) (ti : i.toInt = i0.toInt + (if kk.toInt = 4 then 2 else 1)) (ri : mm_rg i0 l1 u1) (_ : mm_rg x l2 u2) (c : 0 ≤ l1 ∧ 0 ≤ l2) : mm_rfi tb fu sn row l d h2 rm st i n := by
  have z1 : ik.toNatClampNeg = ik.toInt.toNat := rfl
  have z2 : iv.toNatClampNeg = iv.toInt.toNat := rfl
  have := ri.1
  exact mm_rfi_g p lt (by omega) ew m0 ne (by rw [ek, z1, eik]) k3 (by rw [ev, z2, eiv]) hn ti
theorem mm_rfi_o {tb fu sn row : Nat → Int32} {l d h2 rm st i0 n0 i n w x kk ik : Int32} {l1 u1 l2 u2 : Int} (p : mm_rfi tb fu sn row l d h2 rm st i0 n0) (lt : i0.toInt < rm.toInt) (ew : w = row i0.toNatClampNeg) (m0 : mm_m0 tb fu l d w x) (ne : x.toInt ≠ h2.toInt) (ek : kk = sn ik.toNatClampNeg) (eik : ik.toInt = 2 * x.toInt) (k3 : kk.toInt ≠ 3) (hn : ∀ v : Int, n.toInt = mm_nx kk.toInt v n0.toInt) (ti : i.toInt = i0.toInt + (if kk.toInt = 4 then 2 else 1)) (ri : mm_rg i0 l1 u1) (_ : mm_rg x l2 u2) (c : 0 ≤ l1 ∧ 0 ≤ l2) : mm_rfi tb fu sn row l d h2 rm st i n := by
  have z1 : ik.toNatClampNeg = ik.toInt.toNat := rfl
  have := ri.1
  exact mm_rfi_g p lt (by omega) ew m0 ne (by rw [ek, z1, eik]) k3 rfl (hn _) ti
def mm_rf (tb fu sn row : Nat → Int32) (l d h2 rm st r : Int32) : Prop := r.toInt = mm_rfn tb sn row (mm_bs fu l d) h2.toInt rm.toInt 9 0 st.toInt
theorem mm_rf_e {tb fu sn row : Nat → Int32} {l d h2 rm st i r : Int32} (p : mm_rfi tb fu sn row l d h2 rm st i r) (le : rm.toInt ≤ i.toInt) : mm_rf tb fu sn row l d h2 rm st r := by
  obtain ⟨f, f1, f2⟩ := p
  unfold mm_rf
  rw [← f2, mm_rfn_e le]
theorem mm_rf_3 {tb fu sn row : Nat → Int32} {l d h2 rm st i0 n0 w x kk ik : Int32} {l1 u1 l2 u2 l3 u3 l4 u4 : Int} (p : mm_rfi tb fu sn row l d h2 rm st i0 n0) (lt : i0.toInt < rm.toInt) (ew : w = row i0.toNatClampNeg) (m0 : mm_m0 tb fu l d w x) (ne : x.toInt ≠ h2.toInt) (ek : kk = sn ik.toNatClampNeg) (eik : ik.toInt = 2 * x.toInt) (rk : mm_rg kk l1 u1) (rn : mm_rg n0 l2 u2) (ri : mm_rg i0 l3 u3) (_ : mm_rg x l4 u4) (c : l1 = 3 ∧ u1 = 3 ∧ u2 ≤ 9999 ∧ 0 ≤ l3 ∧ 0 ≤ l4) : mm_rf tb fu sn row l d h2 rm st n0 := by
  obtain ⟨f, f1, f2⟩ := p
  have zi : i0.toNatClampNeg = i0.toInt.toNat := rfl
  have z1 : ik.toNatClampNeg = ik.toInt.toNat := rfl
  have := rk.1; have := rk.2; have := rn.2; have := ri.1
  unfold mm_rf
  rw [← f2]
  cases f with
  | zero => omega
  | succ f =>
    unfold mm_rfn
    have ex : tb (mm_bs fu l d + (row i0.toInt.toNat).toNatClampNeg) = x := by rw [← zi, ← ew]; exact m0.symm
    rw [if_neg (by omega), ex, if_neg ne, ← eik, ← z1, ← ek, if_pos (by omega)]
    unfold mm_nx
    (repeat' split) <;> omega
theorem mm_rfn_c {tb sn row row2 : Nat → Int32} {b : Nat} {h2 rm : Int} (h : ∀ j : Nat, (j : Int) < rm → row j = row2 j) : ∀ (f : Nat) (i n : Int), 0 ≤ i → mm_rfn tb sn row b h2 rm f i n = mm_rfn tb sn row2 b h2 rm f i n := by
  intro f
  induction f with
  | zero => intro i n _; rfl
  | succ f ih =>
    intro i n hi
    unfold mm_rfn
    by_cases q : rm ≤ i
    · rw [if_pos q, if_pos q]
    · rw [if_neg q, if_neg q, h i.toNat (by omega), ih (i + 1) n (by omega), ih _ _ (show 0 ≤ i + (if (sn (2 * (tb (b + (row2 i.toNat).toNatClampNeg)).toInt).toNat).toInt = 4 then 2 else 1) from by split <;> omega)]
def mm_rd (tb fu sn tm ta ac : Nat → Int32) (l d t h1 h2 h5 r : Int32) : Prop := r.toInt = mm_rfn tb sn (fun j => ta (8 * t.toNatClampNeg + j)) (mm_bs fu l d) h2.toInt (tm t.toNatClampNeg).toInt 9 0 (mm_stk ac h1 h5.toInt.toNat).toInt
theorem mm_rd_of {tb fu sn tm ta ac row : Nat → Int32} {l d t h1 h2 h5 rm st r : Int32} (p : mm_rf tb fu sn row l d h2 rm st r) (q : mm_ltx ta tm t row rm) (s : mm_sn ac h1 h5 st) : mm_rd tb fu sn tm ta ac l d t h1 h2 h5 r := by
  unfold mm_rf at p
  unfold mm_sn at s
  unfold mm_rd
  rw [p, ← s, ← q.1]
  exact mm_rfn_c (fun j hj => q.2 j hj) 9 0 _ (Int.le_refl _)
def mm_ng (fu : Nat → Int32) (l n : Int32) : Prop := 1 ≤ n.toInt ∧ n.toInt ≤ (fu l.toNatClampNeg).toInt
theorem mm_ng_1 {fu : Nat → Int32} {l : Int32} (p : mm_f1 fu l) : mm_ng fu l 1 := by
  have t1 : (1 : Int32).toInt = 1 := by decide
  unfold mm_f1 at p
  exact ⟨by omega, by omega⟩
theorem mm_ng_s {tb fu sn tm ta ac : Nat → Int32} {l d d2 t h1 h2 h5 n0 n was r : Int32} (p : mm_ng fu l n0) (p1 : mm_rd tb fu sn tm ta ac l d t h1 h2 h5 was) (p2 : mm_rd tb fu sn tm ta ac l d2 t h1 h2 h5 r) (ne : r.toInt ≠ was.toInt) (td : d2.toInt = d.toInt + n0.toInt) (tn : n.toInt = n0.toInt + 1) : mm_ng fu l n := by
  have a := p.1; have b := p.2
  by_cases q : n0.toInt = (fu l.toNatClampNeg).toInt
  · exfalso
    apply ne
    unfold mm_rd at p1 p2
    rw [p1, p2]
    have : mm_bs fu l d2 = mm_bs fu l d := by
      unfold mm_bs
      rw [td, q, Int.add_emod_right]
    rw [this]
  · exact ⟨by omega, by omega⟩
theorem mm_ng_rg {fu : Nat → Int32} {l n : Int32} {lo hi : Int} (p : mm_ng fu l n) (r : mm_ar fu lo hi) : mm_rg n 1 hi := ⟨p.1, Int.le_trans p.2 (r _).2⟩
/-! ===== who means it ===== -/
def mm_sy (tb fu : Nat → Int32) (l d x w : Int32) : Prop := ∀ j : Nat, (j : Int) < w.toInt → (tb (mm_bs fu l d + j)).toInt ≠ x.toInt
theorem mm_sy_0 (tb fu : Nat → Int32) (l d x : Int32) : mm_sy tb fu l d x 0 := by
  have t0 : (0 : Int32).toInt = 0 := by decide
  exact fun j hj => by omega
theorem mm_sy_s {tb fu : Nat → Int32} {l d x w0 w v : Int32} {lo hi : Int} (p : mm_sy tb fu l d x w0) (m0 : mm_m0 tb fu l d w0 v) (ne : v.toInt ≠ x.toInt) (t : w.toInt = w0.toInt + 1) (r : mm_rg w0 lo hi) (c : 0 ≤ lo) : mm_sy tb fu l d x w := by
  intro j hj
  have := r.1
  have z : w0.toNatClampNeg = w0.toInt.toNat := rfl
  by_cases q : (j : Int) < w0.toInt
  · exact p j q
  · rw [show j = w0.toNatClampNeg from by omega]
    have e : v = tb (mm_bs fu l d + w0.toNatClampNeg) := m0
    rw [← e]
    exact ne
def mm_sr (tb fu : Nat → Int32) (l d x h2 r : Int32) : Prop := r.toInt ≤ h2.toInt ∧ (r.toInt < 0 → ∀ j : Nat, (j : Int) ≤ h2.toInt → (tb (mm_bs fu l d + j)).toInt ≠ x.toInt)
theorem mm_sr_n {tb fu : Nat → Int32} {l d x h2 w wd : Int32} {lo hi : Int} (p : mm_sy tb fu l d x w) (t : wd.toInt = h2.toInt + 1) (le : wd.toInt ≤ w.toInt) (r : mm_rg h2 lo hi) (c : 0 ≤ lo) : mm_sr tb fu l d x h2 (-1) := by
  have t1 : (-1 : Int32).toInt = -1 := by decide
  have := r.1
  exact ⟨by omega, fun _ j hj => p j (by omega)⟩
theorem mm_sr_y {tb fu : Nat → Int32} {l d x h2 r : Int32} {lo hi : Int} (le : r.toInt ≤ h2.toInt) (rr : mm_rg r lo hi) (c : 0 ≤ lo) : mm_sr tb fu l d x h2 r := ⟨le, fun q => by have := rr.1; omega⟩
theorem mm_tab_pm {tb fu : Nat → Int32} {l d h2 h3 : Int32} {l1 u1 l2 u2 l4 u4 : Int} (pt : mm_tab tb fu h2 h3) (f1 : mm_f1 fu l) (lt : l.toInt < h3.toInt) (rl : mm_rg l l1 u1) (rd : mm_rg d l2 u2) (rf : mm_rg (fu l.toNatClampNeg) l4 u4) (c : 0 ≤ l1 ∧ 0 ≤ l2 ∧ u4 ≤ 240) : mm_pm tb (mm_bs fu l d) (h2.toInt.toNat + 1) := by
  have zl : l.toNatClampNeg = l.toInt.toNat := rfl
  have := rl.1; have := rd.1; have := rf.2
  unfold mm_f1 at f1
  have q0 := Int.emod_nonneg d.toInt (b := (fu l.toNatClampNeg).toInt) (by omega)
  have q1 := Int.emod_lt_of_pos d.toInt (b := (fu l.toNatClampNeg).toInt) (by omega)
  exact pt l.toNatClampNeg (d.toInt % (fu l.toNatClampNeg).toInt).toNat (by omega) (by omega) (by omega)
theorem mm_m0_le {tb fu : Nat → Int32} {l d w r h2 h3 : Int32} {l1 u1 l2 u2 l3 u3 l4 u4 l5 u5 : Int} (p : mm_m0 tb fu l d w r) (pt : mm_tab tb fu h2 h3) (f1 : mm_f1 fu l) (lt : l.toInt < h3.toInt) (le : w.toInt ≤ h2.toInt) (rl : mm_rg l l1 u1) (rd : mm_rg d l2 u2) (rw_ : mm_rg w l3 u3) (rf : mm_rg (fu l.toNatClampNeg) l4 u4) (rh : mm_rg h2 l5 u5) (c : 0 ≤ l1 ∧ 0 ≤ l2 ∧ u4 ≤ 240 ∧ 0 ≤ l3 ∧ 0 ≤ l5) : r.toInt ≤ h2.toInt := by
  have pm := mm_tab_pm pt f1 lt rl rd rf ⟨c.1, c.2.1, c.2.2.1⟩
  have zw : w.toNatClampNeg = w.toInt.toNat := rfl
  have := rw_.1; have := rh.1
  have q := pm.1 w.toNatClampNeg (by omega)
  have e : r = tb (mm_bs fu l d + w.toNatClampNeg) := p
  rw [← e] at q
  omega
theorem mm_sr_p {tb fu : Nat → Int32} {l d x r h2 h3 : Int32} {l1 u1 l2 u2 l3 u3 l4 u4 l5 u5 : Int} (p : mm_sr tb fu l d x h2 r) (pt : mm_tab tb fu h2 h3) (f1 : mm_f1 fu l) (lt : l.toInt < h3.toInt) (le : x.toInt ≤ h2.toInt) (rx : mm_rg x l3 u3) (rl : mm_rg l l1 u1) (rd : mm_rg d l2 u2) (rf : mm_rg (fu l.toNatClampNeg) l4 u4) (rr : mm_rg r l5 u5) (c : 0 ≤ l1 ∧ 0 ≤ l2 ∧ u4 ≤ 240 ∧ 0 ≤ l3) : mm_rg r 0 u5 := by
  have pm := mm_tab_pm pt f1 lt rl rd rf ⟨c.1, c.2.1, c.2.2.1⟩
  have := rx.1
  by_cases q : r.toInt < 0
  · exfalso
    obtain ⟨i, hi, ei⟩ := pm.2 x.toInt.toNat (by omega)
    exact p.2 q i (by omega) (by omega)
  · exact ⟨by omega, rr.2⟩
theorem mm_sr_l {tb fu : Nat → Int32} {l d x h2 r : Int32} (p : mm_sr tb fu l d x h2 r) : r.toInt ≤ h2.toInt := p.1
def mm_rwh (row : Nat → Int32) (rm h2 : Int32) : Prop := ∀ j : Nat, (j : Int) < rm.toInt → 0 ≤ (row j).toInt ∧ (row j).toInt ≤ h2.toInt
theorem mm_rwh_0 {ta tm row : Nat → Int32} {t rm h2 h4 : Int32} {l1 u1 l2 u2 : Int} (p : mm_ltx ta tm t row rm) (q : mm_txs tm ta 0 h2 h4) (lt : t.toInt < h4.toInt) (rt : mm_rg t l1 u1) (rr : mm_rg rm l2 u2) (c : 0 ≤ l1 ∧ u1 ≤ 5 ∧ u2 ≤ 8) : mm_rwh row rm h2 := by
  intro j hj
  have zt : t.toNatClampNeg = t.toInt.toNat := rfl
  have := rt.1; have := rt.2; have := rr.2
  have z := q t.toNatClampNeg j (by omega) (by omega) (by rw [show 6 * 0 + t.toNatClampNeg = t.toNatClampNeg from by omega, ← p.1]; exact hj) (by omega)
  rw [p.2 j hj, show 8 * t.toNatClampNeg + j = 48 * 0 + 8 * t.toNatClampNeg + j from by omega]
  exact z
theorem mm_rwh_u {row0 row : Nat → Int32} {rm h2 v : Int32} {k : Nat} {lo hi : Int} (p : mm_rwh row0 rm h2) (e : row = upd row0 k v) (le : v.toInt ≤ h2.toInt) (r : mm_rg v lo hi) (c : 0 ≤ lo) : mm_rwh row rm h2 := by
  intro j hj
  by_cases q : j = k
  · rw [q, e, pk_us]
    exact ⟨Int.le_trans c r.1, le⟩
  · rw [e, pk_un q]
    exact p j hj
theorem mm_rwh_ld {row : Nat → Int32} {rm h2 ix v : Int32} {lo hi : Int} (p : mm_rwh row rm h2) (lt : ix.toInt < rm.toInt) (e : v = row ix.toNatClampNeg) (r : mm_rg ix lo hi) (c : 0 ≤ lo) : v.toInt ≤ h2.toInt := by
  have z : ix.toNatClampNeg = ix.toInt.toNat := rfl
  have := r.1
  rw [e]
  exact (p ix.toNatClampNeg (by omega)).2
