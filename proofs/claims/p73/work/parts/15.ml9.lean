/-! ===== four values and a slot ===== -/
def mm_4 (a b c d : Int32) (j : Nat) : Int32 := if j = 0 then a else if j = 1 then b else if j = 2 then c else d
theorem mm_4_0 (a b c d : Int32) : mm_4 a b c d (0 : Int32).toNatClampNeg = a := by
  rw [show (0 : Int32).toNatClampNeg = 0 from by decide]; rfl
theorem mm_4_1 (a b c d : Int32) : mm_4 a b c d (1 : Int32).toNatClampNeg = b := by
  rw [show (1 : Int32).toNatClampNeg = 1 from by decide]; rfl
theorem mm_4_2 (a b c d : Int32) : mm_4 a b c d (2 : Int32).toNatClampNeg = c := by
  rw [show (2 : Int32).toNatClampNeg = 2 from by decide]; rfl
theorem mm_4_3 (a b c d : Int32) : mm_4 a b c d (3 : Int32).toNatClampNeg = d := by
  rw [show (3 : Int32).toNatClampNeg = 3 from by decide]; rfl
def mm_y0 (a b c d s : Int32) : Prop := (mm_4 a b c d s.toNatClampNeg).toInt = 0
def mm_y1 (a b c d s : Int32) : Prop := (mm_4 a b c d s.toNatClampNeg).toInt ≠ 0
theorem mm_y0_of {a b c d s v : Int32} {lo hi : Int} (e : mm_4 a b c d s.toNatClampNeg = v) (r : mm_rg v lo hi) (q : 0 ≤ lo ∧ hi ≤ 0) : mm_y0 a b c d s := by
  have := r.1; have := r.2
  unfold mm_y0
  rw [e]
  omega
theorem mm_y1_of {a b c d s v : Int32} {lo hi : Int} (e : mm_4 a b c d s.toNatClampNeg = v) (r : mm_rg v lo hi) (q : 1 ≤ lo) : mm_y1 a b c d s := by
  have := r.1
  unfold mm_y1
  rw [e]
  omega
def mm_ye (a b c d s t : Int32) : Prop := mm_4 a b c d s.toNatClampNeg = mm_4 a b c d t.toNatClampNeg
def mm_yn (a b c d s t : Int32) : Prop := (mm_4 a b c d s.toNatClampNeg).toInt ≠ (mm_4 a b c d t.toNatClampNeg).toInt
theorem mm_ye_of {a b c d s t u v : Int32} (e : mm_4 a b c d s.toNatClampNeg = u) (f : mm_4 a b c d t.toNatClampNeg = v) (h : u = v) : mm_ye a b c d s t := by
  unfold mm_ye
  rw [e, f]
  exact h
theorem mm_yn_of {a b c d s t u v : Int32} (e : mm_4 a b c d s.toNatClampNeg = u) (f : mm_4 a b c d t.toNatClampNeg = v) (h : u.toInt ≠ v.toInt) : mm_yn a b c d s t := by
  unfold mm_yn
  rw [e, f]
  exact h
def mm_yg (a b c d s t i k n : Int32) : Prop := mm_xg i k n (mm_4 a b c d s.toNatClampNeg) (mm_4 a b c d t.toNatClampNeg)
def mm_yb (a b c d s t i k n : Int32) : Prop := mm_xb i k n (mm_4 a b c d s.toNatClampNeg) (mm_4 a b c d t.toNatClampNeg)
theorem mm_yg_of {a b c d s t i k n u v : Int32} (e : mm_4 a b c d s.toNatClampNeg = u) (f : mm_4 a b c d t.toNatClampNeg = v) (h : mm_xg i k n u v) : mm_yg a b c d s t i k n := by
  unfold mm_yg
  rw [e, f]
  exact h
theorem mm_yb_of {a b c d s t i k n u v : Int32} (e : mm_4 a b c d s.toNatClampNeg = u) (f : mm_4 a b c d t.toNatClampNeg = v) (h : mm_xb i k n u v) : mm_yb a b c d s t i k n := by
  unfold mm_yb
  rw [e, f]
  exact h
theorem mm_r4 {p0 p1 p2 p3 w0 w1 w2 w3 l0 l1 l2 l3 s : Int32} {W N : Nat → Int32} {lo hi : Int} (h0 : mm_rj p0 w0 l0 W N 0) (h1 : mm_rj p1 w1 l1 W N 1) (h2 : mm_rj p2 w2 l2 W N 2) (h3 : mm_rj p3 w3 l3 W N 3) (r : mm_rg s lo hi) (c : 0 ≤ lo ∧ hi ≤ 3) : mm_rj (mm_4 p0 p1 p2 p3 s.toNatClampNeg) (mm_4 w0 w1 w2 w3 s.toNatClampNeg) (mm_4 l0 l1 l2 l3 s.toNatClampNeg) W N s.toNatClampNeg := by
  have z : s.toNatClampNeg = s.toInt.toNat := rfl
  have := r.1; have := r.2
  have q : s.toNatClampNeg = 0 ∨ s.toNatClampNeg = 1 ∨ s.toNatClampNeg = 2 ∨ s.toNatClampNeg = 3 := by omega
  rcases q with q | q | q | q
  · rw [q]; exact h0
  · rw [q]; exact h1
  · rw [q]; exact h2
  · rw [q]; exact h3
theorem mm_y0_no {C : Prop} {a b c d s w l : Int32} {W N : Nat → Int32} (h : mm_rj (mm_4 a b c d s.toNatClampNeg) w l W N s.toNatClampNeg) (y : mm_y0 a b c d s) (z : mm_z1 W s) : C := by
  exfalso
  unfold mm_y0 at y
  rcases h.1 with q | q
  · exact z q.2
  · have := q.1; omega
theorem mm_y1_no {C : Prop} {a b c d s w l : Int32} {W N : Nat → Int32} (h : mm_rj (mm_4 a b c d s.toNatClampNeg) w l W N s.toNatClampNeg) (y : mm_y1 a b c d s) (z : mm_z0 W s) : C := by
  exfalso
  rcases h.1 with q | q
  · exact y q.1
  · exact q.2.1 z
theorem mm_yw4 {a b c d s w l : Int32} {W N : Nat → Int32} (h : mm_rj (mm_4 a b c d s.toNatClampNeg) w l W N s.toNatClampNeg) (y : mm_y1 a b c d s) : W s.toNatClampNeg = w := by
  rcases h.1 with q | q
  · exact absurd q.1 y
  · exact q.2.2
theorem mm_ye_no {C : Prop} {a b c d w0 w1 w2 w3 s t l l' : Int32} {W N : Nat → Int32} (h : mm_rj (mm_4 a b c d s.toNatClampNeg) (mm_4 w0 w1 w2 w3 s.toNatClampNeg) l W N s.toNatClampNeg) (g : mm_rj (mm_4 a b c d t.toNatClampNeg) (mm_4 w0 w1 w2 w3 t.toNatClampNeg) l' W N t.toNatClampNeg) (y1 : mm_y1 a b c d s) (y2 : mm_y1 a b c d t) (e : mm_ye w0 w1 w2 w3 s t) (z : mm_wne W s t) : C := by
  exfalso
  unfold mm_ye at e
  exact z (congrArg Int32.toInt ((mm_yw4 h y1).trans (e.trans (mm_yw4 g y2).symm)))
theorem mm_yn_no {C : Prop} {a b c d w0 w1 w2 w3 s t l l' : Int32} {W N : Nat → Int32} (h : mm_rj (mm_4 a b c d s.toNatClampNeg) (mm_4 w0 w1 w2 w3 s.toNatClampNeg) l W N s.toNatClampNeg) (g : mm_rj (mm_4 a b c d t.toNatClampNeg) (mm_4 w0 w1 w2 w3 t.toNatClampNeg) l' W N t.toNatClampNeg) (y1 : mm_y1 a b c d s) (y2 : mm_y1 a b c d t) (e : mm_yn w0 w1 w2 w3 s t) (z : mm_weq W s t) : C := by
  exfalso
  unfold mm_weq at z
  exact e (congrArg Int32.toInt ((mm_yw4 h y1).symm.trans (z.trans (mm_yw4 g y2))))
theorem mm_yg_no {C : Prop} {a b c d w w' p p' s t i k n : Int32} {W N : Nat → Int32} (h : mm_rj p w (mm_4 a b c d s.toNatClampNeg) W N s.toNatClampNeg) (g : mm_rj p' w' (mm_4 a b c d t.toNatClampNeg) W N t.toNatClampNeg) (y : mm_yg a b c d s t i k n) (z : mm_mb N s t i k n) : C := by
  exfalso
  unfold mm_mb at z
  rw [h.2, g.2] at z
  exact z y
theorem mm_yb_no {C : Prop} {a b c d w w' p p' s t i k n : Int32} {W N : Nat → Int32} (h : mm_rj p w (mm_4 a b c d s.toNatClampNeg) W N s.toNatClampNeg) (g : mm_rj p' w' (mm_4 a b c d t.toNatClampNeg) W N t.toNatClampNeg) (y : mm_yb a b c d s t i k n) (z : mm_mg N s t i k n) : C := by
  exfalso
  unfold mm_mg at z
  rw [h.2, g.2] at z
  exact y z
