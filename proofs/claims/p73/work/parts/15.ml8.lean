/-! ===== flags of images ===== -/
def mm_ku (f g : Nat → Int32) (k : Int32) : Prop := ∀ j : Nat, j < 3 → g j = if (j : Int) = k.toInt then 1 else f j
theorem mm_ku_n {f : Nat → Int32} {k : Int32} {lo hi : Int} (r : mm_rg k lo hi) (c : hi < 0 ∨ 2 < lo) : mm_ku f f k := by
  intro j hj
  have := r.1; have := r.2
  rw [if_neg (by omega)]
theorem mm_ku_s {f g : Nat → Int32} {k : Int32} {lo hi : Int} (e : g = upd f k.toNatClampNeg (vp_nar .boolean 1)) (r : mm_rg k lo hi) (c : 0 ≤ lo ∧ hi ≤ 2) : mm_ku f g k := by
  intro j hj
  have z : k.toNatClampNeg = k.toInt.toNat := rfl
  have := r.1; have := r.2
  by_cases q : (j : Int) = k.toInt
  · rw [if_pos q, e, show j = k.toNatClampNeg from by omega, pk_us]
    decide
  · rw [if_neg q, e, pk_un (by omega)]
def mm_kq (f g : Nat → Int32) : Prop := ∀ j : Nat, j < 3 → f j = g j
theorem mm_kq_r (f : Nat → Int32) : mm_kq f f := fun _ _ => rfl
theorem mm_kq_u {f0 g0 f g : Nat → Int32} {k : Int32} (p : mm_kq f0 g0) (a : mm_ku f0 f k) (b : mm_ku g0 g k) : mm_kq f g := by
  intro j hj
  rw [a j hj, b j hj, p j hj]
def mm_k0f (f : Nat → Int32) (k : Int32) : Prop := (f k.toNatClampNeg).toInt = 0
def mm_k1f (f : Nat → Int32) (k : Int32) : Prop := (f k.toNatClampNeg).toInt ≠ 0
theorem mm_k0f_of {f : Nat → Int32} {k v : Int32} (e : v = f k.toNatClampNeg) (q : v = 0) : mm_k0f f k := by
  unfold mm_k0f
  rw [← e, q]
  decide
theorem mm_k1f_of {f : Nat → Int32} {k v : Int32} (e : v = f k.toNatClampNeg) (q : v.toInt ≠ (0 : Int32).toInt) : mm_k1f f k := by
  have t : (0 : Int32).toInt = 0 := by decide
  unfold mm_k1f
  rw [← e]
  omega
theorem mm_k_no {C : Prop} {f g : Nat → Int32} {k : Int32} {lo hi : Int} (a : mm_k0f f k) (b : mm_k1f g k) (q : mm_kq f g) (r : mm_rg k lo hi) (c : 0 ≤ lo ∧ hi ≤ 2) : C := by
  exfalso
  have z : k.toNatClampNeg = k.toInt.toNat := rfl
  have := r.1; have := r.2
  unfold mm_k0f at a
  unfold mm_k1f at b
  rw [q k.toNatClampNeg (by omega)] at a
  exact b a
theorem mm_k_noR {C : Prop} {f g : Nat → Int32} {k : Int32} {lo hi : Int} (a : mm_k0f f k) (b : mm_k1f g k) (q : mm_kq g f) (r : mm_rg k lo hi) (c : 0 ≤ lo ∧ hi ≤ 2) : C := mm_k_no a b (fun j hj => (q j hj).symm) r c
/-! ===== rows ===== -/
def mm_mn (n l : Int32) : Prop := n.toInt ≤ 60 → l = n
theorem mm_mn_of {n v : Int32} (e : v = if (60 : Int32) < n then 60 else n) : mm_mn n v := by
  intro h
  rw [e, if_neg]
  intro q
  have t : (60 : Int32).toInt = 60 := by decide
  have := mm_lt q
  omega
def mm_xr (j : Nat) (p w l p2 w2 l2 s wd n : Int32) : Prop := if s.toInt = (j : Int) ∧ 0 ≤ wd.toInt ∧ wd.toInt ≤ 3 ∧ 0 ≤ n.toInt ∧ n.toInt ≤ 60 then p2.toInt = 1 ∧ w2 = wd ∧ l2 = n else p2 = p ∧ w2 = w ∧ l2 = l
theorem mm_xr_n {j : Nat} {p w l s wd n : Int32} {l1 u1 l2 u2 l3 u3 : Int} (rs : mm_rg s l1 u1) (rw_ : mm_rg wd l2 u2) (rn : mm_rg n l3 u3) (c : u1 < (j : Int) ∨ (j : Int) < l1 ∨ u2 < 0 ∨ 3 < l2 ∨ u3 < 0 ∨ 60 < l3) : mm_xr j p w l p w l s wd n := by
  have := rs.1; have := rs.2; have := rw_.1; have := rw_.2; have := rn.1; have := rn.2
  unfold mm_xr
  rw [if_neg (by omega)]
  exact ⟨rfl, rfl, rfl⟩
theorem mm_xr_y {j : Nat} {p w l l2' s wd n : Int32} {l1 u1 l2 u2 l3 u3 : Int} (mn : mm_mn n l2') (rs : mm_rg s l1 u1) (rw_ : mm_rg wd l2 u2) (rn : mm_rg n l3 u3) (c : l1 = (j : Int) ∧ u1 = (j : Int) ∧ 0 ≤ l2 ∧ u2 ≤ 3 ∧ 0 ≤ l3 ∧ u3 ≤ 60) : mm_xr j p w l 1 wd l2' s wd n := by
  have := rs.1; have := rs.2; have := rw_.1; have := rw_.2; have := rn.1; have := rn.2
  unfold mm_xr
  rw [if_pos (by omega)]
  exact ⟨by decide, rfl, mn (by omega)⟩
def mm_mr (W N W2 N2 : Nat → Int32) (s wd n : Int32) : Prop := ∀ j : Nat, j < 4 → if s.toInt = (j : Int) ∧ 0 ≤ wd.toInt ∧ wd.toInt ≤ 3 ∧ 0 ≤ n.toInt ∧ n.toInt ≤ 60 then W2 j = wd ∧ N2 j = n else W2 j = W j ∧ N2 j = N j
theorem mm_mr_n {W N : Nat → Int32} {s wd n : Int32} {l1 u1 l2 u2 l3 u3 : Int} (rs : mm_rg s l1 u1) (rw_ : mm_rg wd l2 u2) (rn : mm_rg n l3 u3) (c : u1 < 0 ∨ 3 < l1 ∨ u2 < 0 ∨ 3 < l2 ∨ u3 < 0 ∨ 60 < l3) : mm_mr W N W N s wd n := by
  intro j hj
  have := rs.1; have := rs.2; have := rw_.1; have := rw_.2; have := rn.1; have := rn.2
  rw [if_neg (by omega)]
  exact ⟨rfl, rfl⟩
theorem mm_mr_y {W N W2 N2 : Nat → Int32} {s wd n : Int32} {l1 u1 l2 u2 l3 u3 : Int} (e1 : W2 = upd W s.toNatClampNeg wd) (e2 : N2 = upd N s.toNatClampNeg n) (rs : mm_rg s l1 u1) (rw_ : mm_rg wd l2 u2) (rn : mm_rg n l3 u3) (c : 0 ≤ l1 ∧ u1 ≤ 3 ∧ 0 ≤ l2 ∧ u2 ≤ 3 ∧ 0 ≤ l3 ∧ u3 ≤ 60) : mm_mr W N W2 N2 s wd n := by
  intro j hj
  have z : s.toNatClampNeg = s.toInt.toNat := rfl
  have := rs.1; have := rs.2; have := rw_.1; have := rw_.2; have := rn.1; have := rn.2
  by_cases q : s.toInt = (j : Int)
  · rw [if_pos (by omega), e1, e2, show j = s.toNatClampNeg from by omega, pk_us, pk_us]
    exact ⟨rfl, rfl⟩
  · rw [if_neg (by omega), e1, e2, pk_un (by omega), pk_un (by omega)]
    exact ⟨rfl, rfl⟩
def mm_rj (p w l : Int32) (W N : Nat → Int32) (j : Nat) : Prop := ((p.toInt = 0 ∧ (W j).toInt = -1) ∨ (p.toInt = 1 ∧ (W j).toInt ≠ -1 ∧ W j = w)) ∧ N j = l
theorem mm_rj_0 (w : Int32) (j : Nat) : mm_rj 0 w 0 (fun _ => (-1)) (fun _ => 0) j := ⟨Or.inl ⟨by decide, by show (-1 : Int32).toInt = -1; decide⟩, rfl⟩
theorem mm_rj_e {p w l p2 w2 l2 : Int32} {W N : Nat → Int32} {j : Nat} (h : mm_rj p w l W N j) (e1 : p2 = p) (e2 : w2 = w) (e3 : l2 = l) : mm_rj p2 w2 l2 W N j := by rw [e1, e2, e3]; exact h
theorem mm_rj_u {p w l p2 w2 l2 s wd n : Int32} {W N W2 N2 : Nat → Int32} {j : Nat} (h : mm_rj p w l W N j) (a : mm_xr j p w l p2 w2 l2 s wd n) (b : mm_mr W N W2 N2 s wd n) (c : j < 4) : mm_rj p2 w2 l2 W2 N2 j := by
  have b' := b j c
  unfold mm_xr at a
  by_cases q : s.toInt = (j : Int) ∧ 0 ≤ wd.toInt ∧ wd.toInt ≤ 3 ∧ 0 ≤ n.toInt ∧ n.toInt ≤ 60
  · rw [if_pos q] at a b'
    refine ⟨Or.inr ⟨a.1, ?_, ?_⟩, ?_⟩
    · rw [b'.1]; omega
    · rw [b'.1, a.2.1]
    · rw [b'.2, a.2.2]
  · rw [if_neg q] at a b'
    unfold mm_rj
    rw [a.1, a.2.1, a.2.2, b'.1, b'.2]
    exact h
def mm_z0 (W : Nat → Int32) (k : Int32) : Prop := (W k.toNatClampNeg).toInt = -1
def mm_z1 (W : Nat → Int32) (k : Int32) : Prop := (W k.toNatClampNeg).toInt ≠ -1
theorem mm_z0_of {W : Nat → Int32} {k v : Int32} (e : v = W k.toNatClampNeg) (q : v = (-1)) : mm_z0 W k := by
  unfold mm_z0
  rw [← e, q]
  decide
theorem mm_z1_of {W : Nat → Int32} {k v : Int32} (e : v = W k.toNatClampNeg) (q : v.toInt ≠ (-1 : Int32).toInt) : mm_z1 W k := by
  have t : (-1 : Int32).toInt = -1 := by decide
  unfold mm_z1
  rw [← e]
  omega
def mm_wl (N : Nat → Int32) (k i : Int32) : Prop := i.toInt < (N k.toNatClampNeg).toInt
def mm_wg (N : Nat → Int32) (k i : Int32) : Prop := (N k.toNatClampNeg).toInt ≤ i.toInt
theorem mm_wl_of {N : Nat → Int32} {k i v : Int32} (e : v = N k.toNatClampNeg) (q : i.toInt < v.toInt) : mm_wl N k i := by unfold mm_wl; rw [← e]; exact q
theorem mm_wg_of {N : Nat → Int32} {k i v : Int32} (e : v = N k.toNatClampNeg) (q : v.toInt ≤ i.toInt) : mm_wg N k i := by unfold mm_wg; rw [← e]; exact q
theorem mm_at_j {k : Int32} {j : Nat} {lo hi : Int} (r : mm_rg k lo hi) (c : lo = (j : Int) ∧ hi = (j : Int)) : k.toNatClampNeg = j := by
  have z : k.toNatClampNeg = k.toInt.toNat := rfl
  have := r.1; have := r.2
  omega
theorem mm_rj_no1 {C : Prop} {p w l k : Int32} {W N : Nat → Int32} {j : Nat} {l1 u1 l2 u2 : Int} (h : mm_rj p w l W N j) (z : mm_z0 W k) (rp : mm_rg p l1 u1) (rk : mm_rg k l2 u2) (c : 1 ≤ l1 ∧ l2 = (j : Int) ∧ u2 = (j : Int)) : C := by
  exfalso
  have := rp.1
  unfold mm_z0 at z
  rw [mm_at_j rk ⟨c.2.1, c.2.2⟩] at z
  rcases h.1 with q | q
  · omega
  · exact q.2.1 z
theorem mm_rj_no0 {C : Prop} {p w l k : Int32} {W N : Nat → Int32} {j : Nat} {l1 u1 l2 u2 : Int} (h : mm_rj p w l W N j) (z : mm_z1 W k) (rp : mm_rg p l1 u1) (rk : mm_rg k l2 u2) (c : u1 ≤ 0 ∧ l2 = (j : Int) ∧ u2 = (j : Int)) : C := by
  exfalso
  have := rp.2
  unfold mm_z1 at z
  rw [mm_at_j rk ⟨c.2.1, c.2.2⟩] at z
  rcases h.1 with q | q
  · exact z q.2
  · omega
theorem mm_rj_no2 {C : Prop} {p w l k i : Int32} {W N : Nat → Int32} {j : Nat} {l2 u2 : Int} (h : mm_rj p w l W N j) (z : mm_wl N k i) (le : l.toInt ≤ i.toInt) (rk : mm_rg k l2 u2) (c : l2 = (j : Int) ∧ u2 = (j : Int)) : C := by
  exfalso
  unfold mm_wl at z
  rw [mm_at_j rk c, h.2] at z
  omega
theorem mm_rj_no3 {C : Prop} {p w l k i : Int32} {W N : Nat → Int32} {j : Nat} {l2 u2 : Int} (h : mm_rj p w l W N j) (z : mm_wg N k i) (lt : i.toInt < l.toInt) (rk : mm_rg k l2 u2) (c : l2 = (j : Int) ∧ u2 = (j : Int)) : C := by
  exfalso
  unfold mm_wg at z
  rw [mm_at_j rk c, h.2] at z
  omega
/-! ===== pasting ===== -/
def mm_nrc (f n l : Int32) : Prop := ¬ (0 ≤ f.toInt ∧ 0 ≤ n.toInt ∧ f.toInt + n.toInt ≤ l.toInt)
theorem mm_nrc_1 {f n l : Int32} {lo hi : Int} (r : mm_rg f lo hi) (c : hi < 0) : mm_nrc f n l := fun h => by have := r.2; omega
theorem mm_nrc_2 {f n l : Int32} {lo hi : Int} (r : mm_rg n lo hi) (c : hi < 0) : mm_nrc f n l := fun h => by have := r.2; omega
theorem mm_nrc_3 {f n l : Int32} (p : l.toInt < n.toInt) : mm_nrc f n l := fun h => by omega
theorem mm_nrc_4 {f n l v : Int32} (p : v.toInt < f.toInt) (t : v.toInt = l.toInt - n.toInt) : mm_nrc f n l := fun h => by omega
def mm_xb (i k n a b : Int32) : Prop := ¬ (0 ≤ i.toInt ∧ 0 ≤ k.toInt ∧ 0 ≤ n.toInt ∧ i.toInt + n.toInt ≤ a.toInt ∧ k.toInt + n.toInt ≤ b.toInt)
def mm_xg (i k n a b : Int32) : Prop := 0 ≤ i.toInt ∧ 0 ≤ k.toInt ∧ 0 ≤ n.toInt ∧ i.toInt + n.toInt ≤ a.toInt ∧ k.toInt + n.toInt ≤ b.toInt
theorem mm_xb_1 {i k n a b : Int32} (p : mm_nrc i n a) : mm_xb i k n a b := fun h => p ⟨h.1, h.2.2.1, h.2.2.2.1⟩
theorem mm_xb_2 {i k n a b : Int32} (p : mm_nrc k n b) : mm_xb i k n a b := fun h => p ⟨h.2.1, h.2.2.1, h.2.2.2.2⟩
theorem mm_xg_of {i k n a b : Int32} {l1 u1 l2 u2 l3 u3 : Int} (p : mm_rch i n a) (q : mm_rch k n b) (ri : mm_rg i l1 u1) (rk : mm_rg k l2 u2) (rn : mm_rg n l3 u3) (c : 0 ≤ l1 ∧ 0 ≤ l2 ∧ 0 ≤ l3) : mm_xg i k n a b := ⟨Int.le_trans c.1 ri.1, Int.le_trans c.2.1 rk.1, Int.le_trans c.2.2 rn.1, p, q⟩
def mm_mg (N : Nat → Int32) (s t i k n : Int32) : Prop := mm_xg i k n (N s.toNatClampNeg) (N t.toNatClampNeg)
def mm_mb (N : Nat → Int32) (s t i k n : Int32) : Prop := mm_xb i k n (N s.toNatClampNeg) (N t.toNatClampNeg)
theorem mm_mg_of {N : Nat → Int32} {s t i k n a b : Int32} {l1 u1 l2 u2 l3 u3 : Int} (p : mm_sm i n a) (q : mm_sm k n b) (ea : a = N s.toNatClampNeg) (eb : b = N t.toNatClampNeg) (ri : mm_rg i l1 u1) (rk : mm_rg k l2 u2) (rn : mm_rg n l3 u3) (c : 0 ≤ l1 ∧ 0 ≤ l2 ∧ 0 ≤ l3) : mm_mg N s t i k n := by
  unfold mm_mg
  rw [← ea, ← eb]
  exact ⟨Int.le_trans c.1 ri.1, Int.le_trans c.2.1 rk.1, Int.le_trans c.2.2 rn.1, p, q⟩
theorem mm_mb_1 {N : Nat → Int32} {s t i k n : Int32} {lo hi : Int} (r : mm_rg i lo hi) (c : hi < 0) : mm_mb N s t i k n := fun h => by have := r.2; have := h.1; omega
theorem mm_mb_2 {N : Nat → Int32} {s t i k n : Int32} {lo hi : Int} (r : mm_rg k lo hi) (c : hi < 0) : mm_mb N s t i k n := fun h => by have := r.2; have := h.2.1; omega
theorem mm_mb_3 {N : Nat → Int32} {s t i k n : Int32} {lo hi : Int} (r : mm_rg n lo hi) (c : hi < 0) : mm_mb N s t i k n := fun h => by have := r.2; have := h.2.2.1; omega
theorem mm_mb_4 {N : Nat → Int32} {s t i k n v : Int32} {a b x y : Int64} (e1 : a.toInt = i.toInt) (e2 : b.toInt = n.toInt) (e3 : y.toInt = v.toInt) (u : x.toInt = a.toInt + b.toInt) (p : y.toInt < x.toInt) (ev : v = N s.toNatClampNeg) : mm_mb N s t i k n := fun h => by
  have z := h.2.2.2.1
  rw [← ev] at z
  omega
theorem mm_mb_5 {N : Nat → Int32} {s t i k n v : Int32} {a b x y : Int64} (e1 : a.toInt = k.toInt) (e2 : b.toInt = n.toInt) (e3 : y.toInt = v.toInt) (u : x.toInt = a.toInt + b.toInt) (p : y.toInt < x.toInt) (ev : v = N t.toNatClampNeg) : mm_mb N s t i k n := fun h => by
  have z := h.2.2.2.2
  rw [← ev] at z
  omega
def mm_weq (W : Nat → Int32) (s t : Int32) : Prop := W s.toNatClampNeg = W t.toNatClampNeg
def mm_wne (W : Nat → Int32) (s t : Int32) : Prop := (W s.toNatClampNeg).toInt ≠ (W t.toNatClampNeg).toInt
theorem mm_weq_of {W : Nat → Int32} {s t a b : Int32} (ea : a = W s.toNatClampNeg) (eb : b = W t.toNatClampNeg) (e : a = b) : mm_weq W s t := by unfold mm_weq; rw [← ea, ← eb, e]
theorem mm_wne_of {W : Nat → Int32} {s t a b : Int32} (ea : a = W s.toNatClampNeg) (eb : b = W t.toNatClampNeg) (e : a.toInt ≠ b.toInt) : mm_wne W s t := by unfold mm_wne; rw [← ea, ← eb]; exact e
theorem mm_rj_w {p w l : Int32} {W N : Nat → Int32} {j : Nat} {lo hi : Int} (h : mm_rj p w l W N j) (r : mm_rg p lo hi) (c : 1 ≤ lo) : W j = w := by
  have := r.1
  rcases h.1 with q | q
  · omega
  · exact q.2.2
theorem mm_weq_no {C : Prop} {p w l p' w' l' s t : Int32} {W N : Nat → Int32} {j k : Nat} {l1 u1 l2 u2 l3 u3 l4 u4 : Int} (h : mm_rj p w l W N j) (g : mm_rj p' w' l' W N k) (z : mm_weq W s t) (ne : w.toInt ≠ w'.toInt) (rp : mm_rg p l1 u1) (rq : mm_rg p' l2 u2) (rs : mm_rg s l3 u3) (rt : mm_rg t l4 u4) (c : 1 ≤ l1 ∧ 1 ≤ l2 ∧ (l3 = (j : Int) ∧ u3 = (j : Int)) ∧ l4 = (k : Int) ∧ u4 = (k : Int)) : C := by
  exfalso
  unfold mm_weq at z
  rw [mm_at_j rs c.2.2.1, mm_at_j rt c.2.2.2, mm_rj_w h rp c.1, mm_rj_w g rq c.2.1] at z
  exact ne (by rw [z])
theorem mm_wne_no {C : Prop} {p w l p' w' l' s t : Int32} {W N : Nat → Int32} {j k : Nat} {l1 u1 l2 u2 l3 u3 l4 u4 : Int} (h : mm_rj p w l W N j) (g : mm_rj p' w' l' W N k) (z : mm_wne W s t) (e : w = w') (rp : mm_rg p l1 u1) (rq : mm_rg p' l2 u2) (rs : mm_rg s l3 u3) (rt : mm_rg t l4 u4) (c : 1 ≤ l1 ∧ 1 ≤ l2 ∧ (l3 = (j : Int) ∧ u3 = (j : Int)) ∧ l4 = (k : Int) ∧ u4 = (k : Int)) : C := by
  exfalso
  unfold mm_wne at z
  rw [mm_at_j rs c.2.2.1, mm_at_j rt c.2.2.2, mm_rj_w h rp c.1, mm_rj_w g rq c.2.1] at z
  exact z (by rw [e])
theorem mm_mb_no {C : Prop} {p w l p' w' l' s t i k' n : Int32} {W N : Nat → Int32} {j k : Nat} {l3 u3 l4 u4 : Int} (h : mm_rj p w l W N j) (g : mm_rj p' w' l' W N k) (z : mm_mb N s t i k' n) (x : mm_xg i k' n l l') (rs : mm_rg s l3 u3) (rt : mm_rg t l4 u4) (c : (l3 = (j : Int) ∧ u3 = (j : Int)) ∧ l4 = (k : Int) ∧ u4 = (k : Int)) : C := by
  exfalso
  unfold mm_mb at z
  rw [mm_at_j rs c.1, mm_at_j rt c.2, h.2, g.2] at z
  exact z x
theorem mm_mg_no {C : Prop} {p w l p' w' l' s t i k' n : Int32} {W N : Nat → Int32} {j k : Nat} {l3 u3 l4 u4 : Int} (h : mm_rj p w l W N j) (g : mm_rj p' w' l' W N k) (z : mm_mg N s t i k' n) (x : mm_xb i k' n l l') (rs : mm_rg s l3 u3) (rt : mm_rg t l4 u4) (c : (l3 = (j : Int) ∧ u3 = (j : Int)) ∧ l4 = (k : Int) ∧ u4 = (k : Int)) : C := by
  exfalso
  unfold mm_mg at z
  rw [mm_at_j rs c.1, mm_at_j rt c.2, h.2, g.2] at z
  exact x z
