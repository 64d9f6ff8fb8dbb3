/-! ===== orders ===== -/
theorem mm_pig : ∀ (n : Nat) (f : Nat → Nat), (∀ i, i ≤ n → f i < n) → ∃ i j, i < j ∧ j ≤ n ∧ f i = f j := by
  intro n
  induction n with
  | zero => intro f h; exact absurd (h 0 (Nat.le_refl _)) (Nat.not_lt_zero _)
  | succ n ih =>
    intro f h
    by_cases q : ∃ i, i ≤ n ∧ f i = f (n + 1)
    · obtain ⟨i, h1, h2⟩ := q
      exact ⟨i, n + 1, by omega, Nat.le_refl _, h2⟩
    · have q2 : ∀ i, i ≤ n → f i ≠ f (n + 1) := fun i hi e => q ⟨i, hi, e⟩
      obtain ⟨i, j, h1, h2, h3⟩ := ih (fun i => if f i = n then f (n + 1) else f i) (fun i hi => by
        have a := h i (by omega); have b := h (n + 1) (Nat.le_refl _); have c := q2 i hi
        show (if f i = n then f (n + 1) else f i) < n
        split <;> omega)
      refine ⟨i, j, h1, by omega, ?_⟩
      have c1 := q2 i (by omega); have c2 := q2 j h2
      have h3' : (if f i = n then f (n + 1) else f i) = (if f j = n then f (n + 1) else f j) := h3
      split at h3' <;> split at h3' <;> omega
theorem mm_onto_inj {f : Nat → Nat} {m : Nat} (h : ∀ v, v < m → ∃ i, i < m ∧ f i = v) {a b : Nat} (ha : a < b) (hb : b < m) : f a ≠ f b := by
  intro e
  have k : ∀ v, ∃ i, v < m → (i < m ∧ i ≠ b ∧ f i = v) := by
    intro v
    by_cases hv : v < m
    · obtain ⟨i, hi, ei⟩ := h v hv
      by_cases z : i = b
      · exact ⟨a, fun _ => ⟨by omega, by omega, by rw [e, ← z]; exact ei⟩⟩
      · exact ⟨i, fun _ => ⟨hi, z, ei⟩⟩
    · exact ⟨0, fun q => absurd q hv⟩
  obtain ⟨g, hg⟩ : ∃ g : Nat → Nat, ∀ v, v < m → (g v < m ∧ g v ≠ b ∧ f (g v) = v) := ⟨fun v => Classical.choose (k v), fun v hv => Classical.choose_spec (k v) hv⟩
  obtain ⟨i, j, h1, h2, h3⟩ := mm_pig (m - 1) (fun v => if b < g v then g v - 1 else g v) (fun i hi => by
    have := hg i (by omega)
    show (if b < g i then g i - 1 else g i) < m - 1
    split <;> omega)
  have a1 := hg i (by omega); have a2 := hg j (by omega)
  have h3' : (if b < g i then g i - 1 else g i) = (if b < g j then g j - 1 else g j) := h3
  have z : g i = g j := by split at h3' <;> split at h3' <;> omega
  have e2 := a1.2.2
  rw [z, a2.2.2] at e2
  omega
def mm_PF (f : Int32 → Int32) (m : Nat) : Prop := (∀ w : Int32, 0 ≤ w.toInt → w.toInt < (m : Int) → 0 ≤ (f w).toInt ∧ (f w).toInt < (m : Int)) ∧ ∀ v w : Int32, 0 ≤ v.toInt → v.toInt < (m : Int) → 0 ≤ w.toInt → w.toInt < (m : Int) → f v = f w → v = w
theorem mm_pm_pf {tk : Nat → Int32} {k m : Nat} (p : mm_pm tk k m) : mm_PF (fun v => tk (k + v.toNatClampNeg)) m := by
  have on : ∀ v, v < m → ∃ i, i < m ∧ (fun i => (tk (k + i)).toInt.toNat) i = v := fun v hv => by
    obtain ⟨i, hi, ei⟩ := p.2 v hv
    exact ⟨i, hi, by show (tk (k + i)).toInt.toNat = v; omega⟩
  refine ⟨fun w h0 h1 => ?_, fun v w v0 v1 w0 w1 e => ?_⟩
  · have z : w.toNatClampNeg = w.toInt.toNat := rfl
    exact p.1 w.toNatClampNeg (by omega)
  · have zw : w.toNatClampNeg = w.toInt.toNat := rfl
    have zv : v.toNatClampNeg = v.toInt.toNat := rfl
    have e' : tk (k + v.toNatClampNeg) = tk (k + w.toNatClampNeg) := e
    apply mm_eq
    by_cases q : v.toInt = w.toInt
    · exact q
    · exfalso
      by_cases q1 : v.toNatClampNeg < w.toNatClampNeg
      · exact mm_onto_inj on q1 (by omega) (by show (tk (k + v.toNatClampNeg)).toInt.toNat = (tk (k + w.toNatClampNeg)).toInt.toNat; rw [e'])
      · exact mm_onto_inj on (a := w.toNatClampNeg) (b := v.toNatClampNeg) (by omega) (by omega) (by show (tk (k + w.toNatClampNeg)).toInt.toNat = (tk (k + v.toNatClampNeg)).toInt.toNat; rw [e'])
theorem mm_tn_pf {tk : Nat → Int32} {l m : Nat} : ∀ k : Nat, (∀ r, r < k → mm_pm tk (10 * (7 * l + r)) m) → mm_PF (mm_tn tk l k) m := by
  intro k
  induction k with
  | zero => intro _; exact ⟨fun w h0 h1 => ⟨h0, h1⟩, fun v w _ _ _ _ e => e⟩
  | succ k ih =>
    intro h
    have a := ih (fun r hr => h r (by omega))
    have b := mm_pm_pf (h k (by omega))
    refine ⟨fun w h0 h1 => ?_, fun v w v0 v1 w0 w1 e => ?_⟩
    · have q := b.1 w h0 h1
      exact a.1 _ q.1 q.2
    · have q1 := b.1 v v0 v1
      have q2 := b.1 w w0 w1
      exact b.2 v w v0 v1 w0 w1 (a.2 _ _ q1.1 q1.2 q2.1 q2.2 e)
theorem mm_T_pf {rm tk : Nat → Int32} {l : Int32} {m : Nat} (h : ∀ r : Nat, (r : Int) < (rm l.toNatClampNeg).toInt → mm_pm tk (10 * (7 * l.toNatClampNeg + r)) m) : mm_PF (mm_T rm tk l) m := by
  have z : (rm l.toNatClampNeg).toNatClampNeg = (rm l.toNatClampNeg).toInt.toNat := rfl
  have q := mm_tn_pf (tk := tk) (l := l.toNatClampNeg) (m := m) (rm l.toNatClampNeg).toNatClampNeg (fun r hr => h r (by omega))
  exact q
theorem mm_it_rg {f : Int32 → Int32} {m : Nat} (p : mm_PF f m) {w : Int32} (h0 : 0 ≤ w.toInt) (h1 : w.toInt < (m : Int)) : ∀ n : Nat, 0 ≤ (mm_it f n w).toInt ∧ (mm_it f n w).toInt < (m : Int) := by
  intro n
  induction n with
  | zero => exact ⟨h0, h1⟩
  | succ n ih => exact p.1 _ ih.1 ih.2
theorem mm_it_add (f : Int32 → Int32) (w : Int32) (b : Nat) : ∀ a : Nat, mm_it f (a + b) w = mm_it f a (mm_it f b w) := by
  intro a
  induction a with
  | zero => rw [Nat.zero_add]; rfl
  | succ a ih =>
    rw [show a + 1 + b = (a + b) + 1 from by omega]
    show f (mm_it f (a + b) w) = f (mm_it f a (mm_it f b w))
    rw [ih]
theorem mm_it_inj {f : Int32 → Int32} {m : Nat} (p : mm_PF f m) {v w : Int32} (v0 : 0 ≤ v.toInt) (v1 : v.toInt < (m : Int)) (w0 : 0 ≤ w.toInt) (w1 : w.toInt < (m : Int)) : ∀ n : Nat, mm_it f n v = mm_it f n w → v = w := by
  intro n
  induction n with
  | zero => exact fun e => e
  | succ n ih =>
    intro e
    have a := mm_it_rg p v0 v1 n
    have b := mm_it_rg p w0 w1 n
    exact ih (p.2 _ _ a.1 a.2 b.1 b.2 e)
theorem mm_it_back {f : Int32 → Int32} {m : Nat} (p : mm_PF f m) {w : Int32} (h0 : 0 ≤ w.toInt) (h1 : w.toInt < (m : Int)) {i j : Nat} (h : i < j) (e : mm_it f i w = mm_it f j w) : mm_it f (j - i) w = w := by
  have q := mm_it_add f w (j - i) i
  rw [show i + (j - i) = j from by omega] at q
  have a := mm_it_rg p h0 h1 (j - i)
  exact mm_it_inj p a.1 a.2 h0 h1 i (by rw [← q, e])
theorem mm_rounds {f : Int32 → Int32} {m : Nat} (p : mm_PF f m) (hm : m ≤ 10) {w : Int32} (h0 : 0 ≤ w.toInt) (h1 : w.toInt < (m : Int)) : ∃ c : Nat, 1 ≤ c ∧ c ≤ 10 ∧ mm_it f c w = w := by
  obtain ⟨i, j, a, b, e⟩ := mm_pig 10 (fun i => (mm_it f i w).toInt.toNat) (fun i _ => by
    have q := mm_it_rg p h0 h1 i
    show (mm_it f i w).toInt.toNat < 10
    omega)
  have q1 := mm_it_rg p h0 h1 i
  have q2 := mm_it_rg p h0 h1 j
  have e' : (mm_it f i w).toInt.toNat = (mm_it f j w).toInt.toNat := e
  exact ⟨j - i, by omega, by omega, mm_it_back p h0 h1 a (mm_eq (by omega))⟩
theorem mm_cy_lt {rm tk : Nat → Int32} {l w n v : Int32} {lo hi : Int} (h : mm_cy rm tk l w n v) (p : mm_rw rm tk l w) (ne : v.toInt ≠ w.toInt) (r : mm_rg n lo hi) (c : hi ≤ 10) : mm_rg n lo 9 := by
  obtain ⟨m, hm, h0, h1, hr⟩ := p
  obtain ⟨k, k1, k2, k3⟩ := mm_rounds (mm_T_pf hr) hm h0 h1
  have := r.2
  refine ⟨r.1, ?_⟩
  by_cases q : n.toInt ≤ 9
  · exact q
  · exfalso
    by_cases z : k = 10
    · apply ne
      rw [h.1, show n.toInt.toNat = k from by omega, k3]
    · exact h.2 k k1 (by omega) k3
theorem mm_least {P : Nat → Prop} : ∀ c : Nat, 1 ≤ c → P c → ∃ d : Nat, 1 ≤ d ∧ d ≤ c ∧ P d ∧ ∀ j : Nat, 1 ≤ j → j < d → ¬ P j := by
  intro c
  induction c using Nat.strongRecOn with
  | ind c ih =>
    intro h1 hp
    by_cases q : ∃ j, 1 ≤ j ∧ j < c ∧ P j
    · obtain ⟨j, a, b, e⟩ := q
      obtain ⟨d, d1, d2, d3, d4⟩ := ih j b a e
      exact ⟨d, d1, by omega, d3, d4⟩
    · exact ⟨c, h1, Nat.le_refl _, hp, fun j a b e => q ⟨j, a, b, e⟩⟩
def mm_cn (f : Nat → Nat) (k : Nat) : Nat → Nat
  | 0 => 0
  | m + 1 => mm_cn f k m + (if f m = k then 1 else 0)
theorem mm_cn_inj (f : Nat → Nat) (k : Nat) : ∀ (m c : Nat) (g : Nat → Nat), (∀ j, j < c → g j < m ∧ f (g j) = k) → (∀ i j, i < j → j < c → g i ≠ g j) → c ≤ mm_cn f k m := by
  intro m
  induction m with
  | zero =>
    intro c g h _
    cases c with
    | zero => exact Nat.le_refl _
    | succ c => exact absurd (h 0 (by omega)).1 (Nat.not_lt_zero _)
  | succ m ih =>
    intro c g h hi
    show c ≤ mm_cn f k m + (if f m = k then 1 else 0)
    by_cases q : ∃ j, j < c ∧ g j = m
    · obtain ⟨j0, h1, h2⟩ := q
      have fm : f m = k := by rw [← h2]; exact (h j0 h1).2
      rw [if_pos fm]
      have z := ih (c - 1) (fun j => if j < j0 then g j else g (j + 1)) (fun j hj => by
        show (if j < j0 then g j else g (j + 1)) < m ∧ f (if j < j0 then g j else g (j + 1)) = k
        by_cases y : j < j0
        · rw [if_pos y]
          have a := h j (by omega); have b := hi j j0 y h1
          exact ⟨by omega, a.2⟩
        · rw [if_neg y]
          have a := h (j + 1) (by omega); have b := hi j0 (j + 1) (by omega) (by omega)
          exact ⟨by omega, a.2⟩) (fun i j h3 h4 => by
        show (if i < j0 then g i else g (i + 1)) ≠ (if j < j0 then g j else g (j + 1))
        by_cases y1 : i < j0
        · rw [if_pos y1]
          by_cases y2 : j < j0
          · rw [if_pos y2]; exact hi i j h3 (by omega)
          · rw [if_neg y2]; exact hi i (j + 1) (by omega) (by omega)
        · rw [if_neg y1, if_neg (by omega)]; exact hi (i + 1) (j + 1) (by omega) (by omega))
      omega
    · have z := ih c g (fun j hj => by
        have a := h j hj
        have b : g j ≠ m := fun e => q ⟨j, hj, e⟩
        exact ⟨by omega, a.2⟩) hi
      omega
theorem mm_cn_pos (f : Nat → Nat) (k : Nat) : ∀ m : Nat, 1 ≤ mm_cn f k m → ∃ a, a < m ∧ f a = k := by
  intro m
  induction m with
  | zero => intro h; exact absurd h (by show ¬ 1 ≤ 0; omega)
  | succ m ih =>
    intro h
    by_cases e : f m = k
    · exact ⟨m, by omega, e⟩
    · have h' : 1 ≤ mm_cn f k m + (if f m = k then 1 else 0) := h
      rw [if_neg e] at h'
      obtain ⟨a, a1, a2⟩ := ih (by omega)
      exact ⟨a, by omega, a2⟩
theorem mm_ind : ∀ x : Nat, x < 11 → 1 ≤ x → (if x = 1 then 1 else 0) + (if x = 2 then 1 else 0) + (if x = 3 then 1 else 0) + (if x = 4 then 1 else 0) + (if x = 5 then 1 else 0) + (if x = 6 then 1 else 0) + (if x = 7 then 1 else 0) + (if x = 8 then 1 else 0) + (if x = 9 then 1 else 0) + (if x = 10 then 1 else 0) = 1 := by decide +kernel
theorem mm_cn_sum (f : Nat → Nat) : ∀ m : Nat, (∀ w, w < m → 1 ≤ f w ∧ f w ≤ 10) → mm_cn f 1 m + mm_cn f 2 m + mm_cn f 3 m + mm_cn f 4 m + mm_cn f 5 m + mm_cn f 6 m + mm_cn f 7 m + mm_cn f 8 m + mm_cn f 9 m + mm_cn f 10 m = m := by
  intro m
  induction m with
  | zero => intro _; rfl
  | succ m ih =>
    intro h
    have q := ih (fun w hw => h w (by omega))
    have a := h m (by omega)
    have i := mm_ind (f m) (by omega) a.1
    show (mm_cn f 1 m + (if f m = 1 then 1 else 0)) + (mm_cn f 2 m + (if f m = 2 then 1 else 0)) + (mm_cn f 3 m + (if f m = 3 then 1 else 0)) + (mm_cn f 4 m + (if f m = 4 then 1 else 0)) + (mm_cn f 5 m + (if f m = 5 then 1 else 0)) + (mm_cn f 6 m + (if f m = 6 then 1 else 0)) + (mm_cn f 7 m + (if f m = 7 then 1 else 0)) + (mm_cn f 8 m + (if f m = 8 then 1 else 0)) + (mm_cn f 9 m + (if f m = 9 then 1 else 0)) + (mm_cn f 10 m + (if f m = 10 then 1 else 0)) = m + 1
    omega
def mm_L10 (b1 b2 b3 b4 b5 b6 b7 b8 b9 b10 : Bool) : Nat := Nat.lcm (cond b1 1 1) (Nat.lcm (cond b2 2 1) (Nat.lcm (cond b3 3 1) (Nat.lcm (cond b4 4 1) (Nat.lcm (cond b5 5 1) (Nat.lcm (cond b6 6 1) (Nat.lcm (cond b7 7 1) (Nat.lcm (cond b8 8 1) (Nat.lcm (cond b9 9 1) (cond b10 10 1)))))))))
def mm_S10 (b1 b2 b3 b4 b5 b6 b7 b8 b9 b10 : Bool) : Nat := cond b1 1 0 + cond b2 2 0 + cond b3 3 0 + cond b4 4 0 + cond b5 5 0 + cond b6 6 0 + cond b7 7 0 + cond b8 8 0 + cond b9 9 0 + cond b10 10 0
theorem mm_L10T : ∀ b1 b2 b3 b4 b5 b6 b7 b8 b9 b10 : Bool, mm_S10 b1 b2 b3 b4 b5 b6 b7 b8 b9 b10 ≤ 10 → mm_L10 b1 b2 b3 b4 b5 b6 b7 b8 b9 b10 ≤ 30 ∧ 1 ≤ mm_L10 b1 b2 b3 b4 b5 b6 b7 b8 b9 b10 := by decide +kernel
theorem mm_L10_1 (b1 b2 b3 b4 b5 b6 b7 b8 b9 b10 : Bool) : cond b1 1 1 ∣ mm_L10 b1 b2 b3 b4 b5 b6 b7 b8 b9 b10 := Nat.dvd_lcm_left _ _
theorem mm_L10_2 (b1 b2 b3 b4 b5 b6 b7 b8 b9 b10 : Bool) : cond b2 2 1 ∣ mm_L10 b1 b2 b3 b4 b5 b6 b7 b8 b9 b10 := Nat.dvd_trans (Nat.dvd_lcm_left _ _) (Nat.dvd_lcm_right _ _)
theorem mm_L10_3 (b1 b2 b3 b4 b5 b6 b7 b8 b9 b10 : Bool) : cond b3 3 1 ∣ mm_L10 b1 b2 b3 b4 b5 b6 b7 b8 b9 b10 := Nat.dvd_trans (Nat.dvd_trans (Nat.dvd_lcm_left _ _) (Nat.dvd_lcm_right _ _)) (Nat.dvd_lcm_right _ _)
theorem mm_L10_4 (b1 b2 b3 b4 b5 b6 b7 b8 b9 b10 : Bool) : cond b4 4 1 ∣ mm_L10 b1 b2 b3 b4 b5 b6 b7 b8 b9 b10 := Nat.dvd_trans (Nat.dvd_trans (Nat.dvd_trans (Nat.dvd_lcm_left _ _) (Nat.dvd_lcm_right _ _)) (Nat.dvd_lcm_right _ _)) (Nat.dvd_lcm_right _ _)
theorem mm_L10_5 (b1 b2 b3 b4 b5 b6 b7 b8 b9 b10 : Bool) : cond b5 5 1 ∣ mm_L10 b1 b2 b3 b4 b5 b6 b7 b8 b9 b10 := Nat.dvd_trans (Nat.dvd_trans (Nat.dvd_trans (Nat.dvd_trans (Nat.dvd_lcm_left _ _) (Nat.dvd_lcm_right _ _)) (Nat.dvd_lcm_right _ _)) (Nat.dvd_lcm_right _ _)) (Nat.dvd_lcm_right _ _)
theorem mm_L10_6 (b1 b2 b3 b4 b5 b6 b7 b8 b9 b10 : Bool) : cond b6 6 1 ∣ mm_L10 b1 b2 b3 b4 b5 b6 b7 b8 b9 b10 := Nat.dvd_trans (Nat.dvd_trans (Nat.dvd_trans (Nat.dvd_trans (Nat.dvd_trans (Nat.dvd_lcm_left _ _) (Nat.dvd_lcm_right _ _)) (Nat.dvd_lcm_right _ _)) (Nat.dvd_lcm_right _ _)) (Nat.dvd_lcm_right _ _)) (Nat.dvd_lcm_right _ _)
theorem mm_L10_7 (b1 b2 b3 b4 b5 b6 b7 b8 b9 b10 : Bool) : cond b7 7 1 ∣ mm_L10 b1 b2 b3 b4 b5 b6 b7 b8 b9 b10 := Nat.dvd_trans (Nat.dvd_trans (Nat.dvd_trans (Nat.dvd_trans (Nat.dvd_trans (Nat.dvd_trans (Nat.dvd_lcm_left _ _) (Nat.dvd_lcm_right _ _)) (Nat.dvd_lcm_right _ _)) (Nat.dvd_lcm_right _ _)) (Nat.dvd_lcm_right _ _)) (Nat.dvd_lcm_right _ _)) (Nat.dvd_lcm_right _ _)
theorem mm_L10_8 (b1 b2 b3 b4 b5 b6 b7 b8 b9 b10 : Bool) : cond b8 8 1 ∣ mm_L10 b1 b2 b3 b4 b5 b6 b7 b8 b9 b10 := Nat.dvd_trans (Nat.dvd_trans (Nat.dvd_trans (Nat.dvd_trans (Nat.dvd_trans (Nat.dvd_trans (Nat.dvd_trans (Nat.dvd_lcm_left _ _) (Nat.dvd_lcm_right _ _)) (Nat.dvd_lcm_right _ _)) (Nat.dvd_lcm_right _ _)) (Nat.dvd_lcm_right _ _)) (Nat.dvd_lcm_right _ _)) (Nat.dvd_lcm_right _ _)) (Nat.dvd_lcm_right _ _)
theorem mm_L10_9 (b1 b2 b3 b4 b5 b6 b7 b8 b9 b10 : Bool) : cond b9 9 1 ∣ mm_L10 b1 b2 b3 b4 b5 b6 b7 b8 b9 b10 := Nat.dvd_trans (Nat.dvd_trans (Nat.dvd_trans (Nat.dvd_trans (Nat.dvd_trans (Nat.dvd_trans (Nat.dvd_trans (Nat.dvd_trans (Nat.dvd_lcm_left _ _) (Nat.dvd_lcm_right _ _)) (Nat.dvd_lcm_right _ _)) (Nat.dvd_lcm_right _ _)) (Nat.dvd_lcm_right _ _)) (Nat.dvd_lcm_right _ _)) (Nat.dvd_lcm_right _ _)) (Nat.dvd_lcm_right _ _)) (Nat.dvd_lcm_right _ _)
theorem mm_L10_10 (b1 b2 b3 b4 b5 b6 b7 b8 b9 b10 : Bool) : cond b10 10 1 ∣ mm_L10 b1 b2 b3 b4 b5 b6 b7 b8 b9 b10 := Nat.dvd_trans (Nat.dvd_trans (Nat.dvd_trans (Nat.dvd_trans (Nat.dvd_trans (Nat.dvd_trans (Nat.dvd_trans (Nat.dvd_trans (Nat.dvd_trans (Nat.dvd_refl _) (Nat.dvd_lcm_right _ _)) (Nat.dvd_lcm_right _ _)) (Nat.dvd_lcm_right _ _)) (Nat.dvd_lcm_right _ _)) (Nat.dvd_lcm_right _ _)) (Nat.dvd_lcm_right _ _)) (Nat.dvd_lcm_right _ _)) (Nat.dvd_lcm_right _ _)) (Nat.dvd_lcm_right _ _)
def mm_od (rm tk : Nat → Int32) (l n w : Int32) : Prop := 1 ≤ n.toInt ∧ ∀ L : Nat, (∀ j c : Int32, 0 ≤ j.toInt → j.toInt < w.toInt → mm_per rm tk l j c → c.toInt.toNat ∣ L) → n.toInt.toNat ∣ L
theorem mm_od_0 (rm tk : Nat → Int32) (l : Int32) : mm_od rm tk l 1 0 := by
  have t : (1 : Int32).toInt = 1 := by decide
  refine ⟨by omega, fun L _ => ?_⟩
  rw [t]
  exact Nat.one_dvd _
theorem mm_per_u {rm tk : Nat → Int32} {l w a b : Int32} (p : mm_per rm tk l w a) (q : mm_per rm tk l w b) : a.toInt = b.toInt := by
  have := p.1; have := q.1
  by_cases h1 : a.toInt < b.toInt
  · exact absurd p.2.1 (q.2.2 a.toInt.toNat (by omega) (by omega))
  · by_cases h2 : b.toInt < a.toInt
    · exact absurd q.2.1 (p.2.2 b.toInt.toNat (by omega) (by omega))
    · omega
theorem mm_od_s {rm tk : Nat → Int32} {l n0 n w0 w c1 c2 q g : Int32} {l1 h1 l2 h2 l3 h3 : Int} (p : mm_od rm tk l n0 w0) (a1 : mm_per rm tk l w0 c1) (a2 : mm_per rm tk l w0 c2) (eq_ : q = n0 / g) (tn : n.toInt = q.toInt * c2.toInt) (pg : mm_gcd n0 c1 g) (tw : w.toInt = w0.toInt + 1) (rn : mm_rg n0 l1 h1) (rg_ : mm_rg g l2 h2) (rw_ : mm_rg w0 l3 h3) (c : 1 ≤ l1 ∧ 1 ≤ l2 ∧ 0 ≤ l3) : mm_od rm tk l n w := by
  have tq := mm_divE eq_ (mm_wk rn ⟨Int.le_trans (by decide) c.1, Int.le_refl _⟩) rg_ c.2.1
  have u := mm_per_u a1 a2
  have := rn.1; have := rg_.1; have := rw_.1
  have hc := a2.1
  obtain ⟨N, hN⟩ : ∃ N : Nat, n0.toInt = (N : Int) := ⟨n0.toInt.toNat, by omega⟩
  obtain ⟨G, hG⟩ : ∃ G : Nat, g.toInt = (G : Int) := ⟨g.toInt.toNat, by omega⟩
  obtain ⟨C, hC⟩ : ∃ C : Nat, c2.toInt = (C : Int) := ⟨c2.toInt.toNat, by omega⟩
  have gg : G = Nat.gcd N C := by
    have z := pg.2
    rw [hN, hG, u, hC] at z
    exact z
  have gd : G ∣ N := by rw [gg]; exact Nat.gcd_dvd_left _ _
  obtain ⟨k, hk⟩ := gd
  have G0 : 0 < G := by omega
  have N0 : 0 < N := by omega
  have qk : q.toInt = (k : Int) := by
    rw [tq, hN, hG, hk]
    rw [show ((G * k : Nat) : Int) / (G : Int) = ((G * k / G : Nat) : Int) from rfl, Nat.mul_div_cancel_left k G0]
  have nk : n.toInt = ((k * C : Nat) : Int) := by
    rw [tn, qk, hC]
    rfl
  have k0 : 0 < k := by
    cases k with
    | zero => rw [Nat.mul_zero] at hk; omega
    | succ k => omega
  have lc : Nat.lcm N C = k * C := by
    have z := Nat.gcd_mul_lcm N C
    rw [← gg, hk, Nat.mul_assoc] at z
    rw [hk]
    exact Nat.eq_of_mul_eq_mul_left G0 z
  refine ⟨?_, fun L hL => ?_⟩
  · have : 0 < k * C := Nat.mul_pos k0 (by omega)
    omega
  · have d1 : N ∣ L := by
      have z := p.2 L (fun j c h0 h1 h2 => hL j c h0 (by omega) h2)
      rw [hN] at z
      exact z
    have d2 : C ∣ L := by
      have z := hL w0 c2 (by omega) (by omega) a2
      rw [hC] at z
      exact z
    have z := Nat.lcm_dvd d1 d2
    rw [lc] at z
    rw [nk]
    exact z
theorem mm_od_rg {rm tk : Nat → Int32} {l n w h2 h3 b : Int32} {l1 u1 l2 u2 l3 u3 : Int} (p : mm_od rm tk l n w) (h : mm_rls rm tk 0 h2 h3) (lt : l.toInt < h3.toInt) (le : w.toInt ≤ h2.toInt + 1) (rl : mm_rg l l1 u1) (rh : mm_rg h2 l2 u2) (_ : mm_rg b l3 u3) (hr : (rm l.toNatClampNeg).toInt ≤ 7) (c : 0 ≤ l1 ∧ u1 ≤ 2 ∧ 0 ≤ l2 ∧ u2 ≤ 9) : mm_rg n 1 30 := by
  have zl : l.toNatClampNeg = l.toInt.toNat := rfl
  have := rl.1; have := rl.2; have := rh.1; have := rh.2
  obtain ⟨m, hm⟩ : ∃ m : Nat, m = h2.toInt.toNat + 1 := ⟨_, rfl⟩
  have pf : mm_PF (mm_T rm tk l) m := mm_T_pf (fun r h1 => by
    have z := h l.toNatClampNeg r (by omega) (by omega) (by rw [show 3 * 0 + l.toNatClampNeg = l.toNatClampNeg from by omega]; exact h1) (by omega) (by omega)
    rw [show 10 * (7 * l.toNatClampNeg + r) = 210 * 0 + 70 * l.toNatClampNeg + 10 * r from by omega, hm]
    exact z)
  have ex : ∀ a : Nat, ∃ c : Nat, a < m → (1 ≤ c ∧ c ≤ 10 ∧ mm_it (mm_T rm tk l) c (nI a) = nI a ∧ ∀ j : Nat, 1 ≤ j → j < c → mm_it (mm_T rm tk l) j (nI a) ≠ nI a) := by
    intro a
    by_cases ha : a < m
    · have ta := nI_toInt (n := a) (by omega)
      obtain ⟨c, c1, c2, c3⟩ := mm_rounds pf (by omega) (w := nI a) (by omega) (by omega)
      obtain ⟨d, d1, d2, d3, d4⟩ := mm_least (P := fun c => mm_it (mm_T rm tk l) c (nI a) = nI a) c c1 c3
      exact ⟨d, fun _ => ⟨d1, by omega, d3, d4⟩⟩
    · exact ⟨0, fun q => absurd q ha⟩
  obtain ⟨f, hf⟩ : ∃ f : Nat → Nat, ∀ a : Nat, a < m → (1 ≤ f a ∧ f a ≤ 10 ∧ mm_it (mm_T rm tk l) (f a) (nI a) = nI a ∧ ∀ j : Nat, 1 ≤ j → j < f a → mm_it (mm_T rm tk l) j (nI a) ≠ nI a) := ⟨fun a => Classical.choose (ex a), fun a ha => Classical.choose_spec (ex a) ha⟩
  have big : ∀ k : Nat, 1 ≤ mm_cn f k m → k ≤ mm_cn f k m := by
    intro k hk
    obtain ⟨a, a1, a2⟩ := mm_cn_pos f k m hk
    have ta := nI_toInt (n := a) (by omega)
    have fa := hf a a1
    rw [a2] at fa
    have rg_ := mm_it_rg pf (w := nI a) (by omega) (by omega)
    refine mm_cn_inj f k m k (fun j => (mm_it (mm_T rm tk l) j (nI a)).toInt.toNat) (fun j hj => ?_) (fun i j h1 h2 e => ?_)
    · show (mm_it (mm_T rm tk l) j (nI a)).toInt.toNat < m ∧ f (mm_it (mm_T rm tk l) j (nI a)).toInt.toNat = k
      obtain ⟨x, hx⟩ : ∃ x : Nat, x = (mm_it (mm_T rm tk l) j (nI a)).toInt.toNat := ⟨_, rfl⟩
      have r1 := rg_ j
      have xm : x < m := by omega
      have tx := nI_toInt (n := x) (by omega)
      have ex : nI x = mm_it (mm_T rm tk l) j (nI a) := mm_eq (by omega)
      rw [← hx]
      refine ⟨xm, ?_⟩
      have fx := hf x xm
      rw [ex] at fx
      have back : mm_it (mm_T rm tk l) k (mm_it (mm_T rm tk l) j (nI a)) = mm_it (mm_T rm tk l) j (nI a) := by
        rw [← mm_it_add, Nat.add_comm, mm_it_add, fa.2.2.1]
      by_cases q1 : k < f x
      · exact absurd back (fx.2.2.2 k fa.1 q1)
      · by_cases q2 : f x < k
        · exfalso
          have y := fx.2.2.1
          rw [← mm_it_add, Nat.add_comm, mm_it_add] at y
          have r2 := rg_ (f x)
          exact fa.2.2.2 (f x) fx.1 q2 (mm_it_inj pf r2.1 r2.2 (by omega) (by omega) j y)
        · omega
    · have r1 := rg_ i
      have r2 := rg_ j
      have e' : (mm_it (mm_T rm tk l) i (nI a)).toInt.toNat = (mm_it (mm_T rm tk l) j (nI a)).toInt.toNat := e
      have y := mm_it_back pf (w := nI a) (by omega) (by omega) h1 (mm_eq (by omega))
      exact fa.2.2.2 (j - i) (by omega) (by omega) y
  have sum := mm_cn_sum f m (fun w hw => ⟨(hf w hw).1, (hf w hw).2.1⟩)
  have one : ∀ a, a < m → 1 ≤ mm_cn f (f a) m := fun a ha => mm_cn_inj f (f a) m 1 (fun _ => a) (fun j _ => ⟨ha, rfl⟩) (fun i j h1 h2 => by omega)
  have S : mm_S10 (decide (1 ≤ mm_cn f 1 m)) (decide (1 ≤ mm_cn f 2 m)) (decide (1 ≤ mm_cn f 3 m)) (decide (1 ≤ mm_cn f 4 m)) (decide (1 ≤ mm_cn f 5 m)) (decide (1 ≤ mm_cn f 6 m)) (decide (1 ≤ mm_cn f 7 m)) (decide (1 ≤ mm_cn f 8 m)) (decide (1 ≤ mm_cn f 9 m)) (decide (1 ≤ mm_cn f 10 m)) ≤ 10 := by
    unfold mm_S10
    have g1 : cond (decide (1 ≤ mm_cn f 1 m)) 1 0 ≤ mm_cn f 1 m := by
      by_cases q : 1 ≤ mm_cn f 1 m
      · rw [decide_eq_true q]; exact big 1 q
      · rw [decide_eq_false q]; exact Nat.zero_le _
    have g2 : cond (decide (1 ≤ mm_cn f 2 m)) 2 0 ≤ mm_cn f 2 m := by
      by_cases q : 1 ≤ mm_cn f 2 m
      · rw [decide_eq_true q]; exact big 2 q
      · rw [decide_eq_false q]; exact Nat.zero_le _
    have g3 : cond (decide (1 ≤ mm_cn f 3 m)) 3 0 ≤ mm_cn f 3 m := by
      by_cases q : 1 ≤ mm_cn f 3 m
      · rw [decide_eq_true q]; exact big 3 q
      · rw [decide_eq_false q]; exact Nat.zero_le _
    have g4 : cond (decide (1 ≤ mm_cn f 4 m)) 4 0 ≤ mm_cn f 4 m := by
      by_cases q : 1 ≤ mm_cn f 4 m
      · rw [decide_eq_true q]; exact big 4 q
      · rw [decide_eq_false q]; exact Nat.zero_le _
    have g5 : cond (decide (1 ≤ mm_cn f 5 m)) 5 0 ≤ mm_cn f 5 m := by
      by_cases q : 1 ≤ mm_cn f 5 m
      · rw [decide_eq_true q]; exact big 5 q
      · rw [decide_eq_false q]; exact Nat.zero_le _
    have g6 : cond (decide (1 ≤ mm_cn f 6 m)) 6 0 ≤ mm_cn f 6 m := by
      by_cases q : 1 ≤ mm_cn f 6 m
      · rw [decide_eq_true q]; exact big 6 q
      · rw [decide_eq_false q]; exact Nat.zero_le _
    have g7 : cond (decide (1 ≤ mm_cn f 7 m)) 7 0 ≤ mm_cn f 7 m := by
      by_cases q : 1 ≤ mm_cn f 7 m
      · rw [decide_eq_true q]; exact big 7 q
      · rw [decide_eq_false q]; exact Nat.zero_le _
    have g8 : cond (decide (1 ≤ mm_cn f 8 m)) 8 0 ≤ mm_cn f 8 m := by
      by_cases q : 1 ≤ mm_cn f 8 m
      · rw [decide_eq_true q]; exact big 8 q
      · rw [decide_eq_false q]; exact Nat.zero_le _
    have g9 : cond (decide (1 ≤ mm_cn f 9 m)) 9 0 ≤ mm_cn f 9 m := by
      by_cases q : 1 ≤ mm_cn f 9 m
      · rw [decide_eq_true q]; exact big 9 q
      · rw [decide_eq_false q]; exact Nat.zero_le _
    have g10 : cond (decide (1 ≤ mm_cn f 10 m)) 10 0 ≤ mm_cn f 10 m := by
      by_cases q : 1 ≤ mm_cn f 10 m
      · rw [decide_eq_true q]; exact big 10 q
      · rw [decide_eq_false q]; exact Nat.zero_le _
    omega
  have T := mm_L10T _ _ _ _ _ _ _ _ _ _ S
  have dv : n.toInt.toNat ∣ mm_L10 (decide (1 ≤ mm_cn f 1 m)) (decide (1 ≤ mm_cn f 2 m)) (decide (1 ≤ mm_cn f 3 m)) (decide (1 ≤ mm_cn f 4 m)) (decide (1 ≤ mm_cn f 5 m)) (decide (1 ≤ mm_cn f 6 m)) (decide (1 ≤ mm_cn f 7 m)) (decide (1 ≤ mm_cn f 8 m)) (decide (1 ≤ mm_cn f 9 m)) (decide (1 ≤ mm_cn f 10 m)) := by
    refine p.2 _ (fun j k j0 j1 pj => ?_)
    have ta := nI_toInt (n := j.toInt.toNat) (by omega)
    have ej : nI j.toInt.toNat = j := mm_eq (by omega)
    have fj := hf j.toInt.toNat (by omega)
    rw [ej] at fj
    have o := one j.toInt.toNat (by omega)
    have k1 := pj.1
    have ek : k.toInt.toNat = f j.toInt.toNat := by
      by_cases q1 : k.toInt.toNat < f j.toInt.toNat
      · exact absurd pj.2.1 (fj.2.2.2 k.toInt.toNat (by omega) q1)
      · by_cases q2 : f j.toInt.toNat < k.toInt.toNat
        · exact absurd fj.2.2.1 (pj.2.2 (f j.toInt.toNat) fj.1 (by omega))
        · omega
    rw [ek]
    have cs : f j.toInt.toNat = 1 ∨ f j.toInt.toNat = 2 ∨ f j.toInt.toNat = 3 ∨ f j.toInt.toNat = 4 ∨ f j.toInt.toNat = 5 ∨ f j.toInt.toNat = 6 ∨ f j.toInt.toNat = 7 ∨ f j.toInt.toNat = 8 ∨ f j.toInt.toNat = 9 ∨ f j.toInt.toNat = 10 := by have := fj.1; have := fj.2.1; omega
    rcases cs with e | e | e | e | e | e | e | e | e | e
    · rw [e] at o ⊢
      have z := mm_L10_1 (decide (1 ≤ mm_cn f 1 m)) (decide (1 ≤ mm_cn f 2 m)) (decide (1 ≤ mm_cn f 3 m)) (decide (1 ≤ mm_cn f 4 m)) (decide (1 ≤ mm_cn f 5 m)) (decide (1 ≤ mm_cn f 6 m)) (decide (1 ≤ mm_cn f 7 m)) (decide (1 ≤ mm_cn f 8 m)) (decide (1 ≤ mm_cn f 9 m)) (decide (1 ≤ mm_cn f 10 m))
      rw [decide_eq_true o] at z ⊢
      exact z
    · rw [e] at o ⊢
      have z := mm_L10_2 (decide (1 ≤ mm_cn f 1 m)) (decide (1 ≤ mm_cn f 2 m)) (decide (1 ≤ mm_cn f 3 m)) (decide (1 ≤ mm_cn f 4 m)) (decide (1 ≤ mm_cn f 5 m)) (decide (1 ≤ mm_cn f 6 m)) (decide (1 ≤ mm_cn f 7 m)) (decide (1 ≤ mm_cn f 8 m)) (decide (1 ≤ mm_cn f 9 m)) (decide (1 ≤ mm_cn f 10 m))
      rw [decide_eq_true o] at z ⊢
      exact z
    · rw [e] at o ⊢
      have z := mm_L10_3 (decide (1 ≤ mm_cn f 1 m)) (decide (1 ≤ mm_cn f 2 m)) (decide (1 ≤ mm_cn f 3 m)) (decide (1 ≤ mm_cn f 4 m)) (decide (1 ≤ mm_cn f 5 m)) (decide (1 ≤ mm_cn f 6 m)) (decide (1 ≤ mm_cn f 7 m)) (decide (1 ≤ mm_cn f 8 m)) (decide (1 ≤ mm_cn f 9 m)) (decide (1 ≤ mm_cn f 10 m))
      rw [decide_eq_true o] at z ⊢
      exact z
    · rw [e] at o ⊢
      have z := mm_L10_4 (decide (1 ≤ mm_cn f 1 m)) (decide (1 ≤ mm_cn f 2 m)) (decide (1 ≤ mm_cn f 3 m)) (decide (1 ≤ mm_cn f 4 m)) (decide (1 ≤ mm_cn f 5 m)) (decide (1 ≤ mm_cn f 6 m)) (decide (1 ≤ mm_cn f 7 m)) (decide (1 ≤ mm_cn f 8 m)) (decide (1 ≤ mm_cn f 9 m)) (decide (1 ≤ mm_cn f 10 m))
      rw [decide_eq_true o] at z ⊢
      exact z
    · rw [e] at o ⊢
      have z := mm_L10_5 (decide (1 ≤ mm_cn f 1 m)) (decide (1 ≤ mm_cn f 2 m)) (decide (1 ≤ mm_cn f 3 m)) (decide (1 ≤ mm_cn f 4 m)) (decide (1 ≤ mm_cn f 5 m)) (decide (1 ≤ mm_cn f 6 m)) (decide (1 ≤ mm_cn f 7 m)) (decide (1 ≤ mm_cn f 8 m)) (decide (1 ≤ mm_cn f 9 m)) (decide (1 ≤ mm_cn f 10 m))
      rw [decide_eq_true o] at z ⊢
      exact z
    · rw [e] at o ⊢
      have z := mm_L10_6 (decide (1 ≤ mm_cn f 1 m)) (decide (1 ≤ mm_cn f 2 m)) (decide (1 ≤ mm_cn f 3 m)) (decide (1 ≤ mm_cn f 4 m)) (decide (1 ≤ mm_cn f 5 m)) (decide (1 ≤ mm_cn f 6 m)) (decide (1 ≤ mm_cn f 7 m)) (decide (1 ≤ mm_cn f 8 m)) (decide (1 ≤ mm_cn f 9 m)) (decide (1 ≤ mm_cn f 10 m))
      rw [decide_eq_true o] at z ⊢
      exact z
    · rw [e] at o ⊢
      have z := mm_L10_7 (decide (1 ≤ mm_cn f 1 m)) (decide (1 ≤ mm_cn f 2 m)) (decide (1 ≤ mm_cn f 3 m)) (decide (1 ≤ mm_cn f 4 m)) (decide (1 ≤ mm_cn f 5 m)) (decide (1 ≤ mm_cn f 6 m)) (decide (1 ≤ mm_cn f 7 m)) (decide (1 ≤ mm_cn f 8 m)) (decide (1 ≤ mm_cn f 9 m)) (decide (1 ≤ mm_cn f 10 m))
      rw [decide_eq_true o] at z ⊢
      exact z
    · rw [e] at o ⊢
      have z := mm_L10_8 (decide (1 ≤ mm_cn f 1 m)) (decide (1 ≤ mm_cn f 2 m)) (decide (1 ≤ mm_cn f 3 m)) (decide (1 ≤ mm_cn f 4 m)) (decide (1 ≤ mm_cn f 5 m)) (decide (1 ≤ mm_cn f 6 m)) (decide (1 ≤ mm_cn f 7 m)) (decide (1 ≤ mm_cn f 8 m)) (decide (1 ≤ mm_cn f 9 m)) (decide (1 ≤ mm_cn f 10 m))
      rw [decide_eq_true o] at z ⊢
      exact z
    · rw [e] at o ⊢
      have z := mm_L10_9 (decide (1 ≤ mm_cn f 1 m)) (decide (1 ≤ mm_cn f 2 m)) (decide (1 ≤ mm_cn f 3 m)) (decide (1 ≤ mm_cn f 4 m)) (decide (1 ≤ mm_cn f 5 m)) (decide (1 ≤ mm_cn f 6 m)) (decide (1 ≤ mm_cn f 7 m)) (decide (1 ≤ mm_cn f 8 m)) (decide (1 ≤ mm_cn f 9 m)) (decide (1 ≤ mm_cn f 10 m))
      rw [decide_eq_true o] at z ⊢
      exact z
    · rw [e] at o ⊢
      have z := mm_L10_10 (decide (1 ≤ mm_cn f 1 m)) (decide (1 ≤ mm_cn f 2 m)) (decide (1 ≤ mm_cn f 3 m)) (decide (1 ≤ mm_cn f 4 m)) (decide (1 ≤ mm_cn f 5 m)) (decide (1 ≤ mm_cn f 6 m)) (decide (1 ≤ mm_cn f 7 m)) (decide (1 ≤ mm_cn f 8 m)) (decide (1 ≤ mm_cn f 9 m)) (decide (1 ≤ mm_cn f 10 m))
      rw [decide_eq_true o] at z ⊢
      exact z
  have le2 := Nat.le_of_dvd (by omega) dv
  have := p.1
  exact ⟨by omega, by omega⟩
