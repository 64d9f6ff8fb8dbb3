/-! ===== numbers in ranges ===== -/
def mm_rg (v : Int32) (lo hi : Int) : Prop := lo ≤ v.toInt ∧ v.toInt ≤ hi
def mm_ar (f : Nat → Int32) (lo hi : Int) : Prop := ∀ k, mm_rg (f k) lo hi
theorem mm_b32 {x : Int} (h1 : -2147483648 ≤ x) (h2 : x ≤ 2147483647) : Int.bmod x (2 ^ 32) = x := Int.bmod_eq_of_le (by omega) (by omega)
theorem mm_top (v : Int32) : mm_rg v (-2147483648) 2147483647 := ⟨by have := Int32.le_toInt v; omega, by have := Int32.toInt_lt v; omega⟩
theorem mm_wk {v : Int32} {lo hi l2 h2 : Int} (h : mm_rg v lo hi) (c : l2 ≤ lo ∧ hi ≤ h2) : mm_rg v l2 h2 := ⟨Int.le_trans c.1 h.1, Int.le_trans h.2 c.2⟩
theorem mm_eqv {v w : Int32} {lo hi : Int} (e : v = w) (h : mm_rg w lo hi) : mm_rg v lo hi := by rw [e]; exact h
theorem mm_addE {v a b : Int32} {l1 h1 l2 h2 : Int} (e : v = a + b) (ha : mm_rg a l1 h1) (hb : mm_rg b l2 h2) (c : -2147483648 ≤ l1 + l2 ∧ h1 + h2 ≤ 2147483647) : v.toInt = a.toInt + b.toInt := by
  rw [e, Int32.toInt_add]
  exact mm_b32 (by have := ha.1; have := hb.1; omega) (by have := ha.2; have := hb.2; omega)
theorem mm_add {v a b : Int32} {l1 h1 l2 h2 : Int} (e : v = a + b) (ha : mm_rg a l1 h1) (hb : mm_rg b l2 h2) (c : -2147483648 ≤ l1 + l2 ∧ h1 + h2 ≤ 2147483647) {lo hi : Int} (d : lo ≤ l1 + l2 ∧ h1 + h2 ≤ hi) : mm_rg v lo hi := by
  have q := mm_addE e ha hb c
  have := ha.1; have := hb.1; have := ha.2; have := hb.2
  exact ⟨by omega, by omega⟩
theorem mm_subE {v a b : Int32} {l1 h1 l2 h2 : Int} (e : v = a - b) (ha : mm_rg a l1 h1) (hb : mm_rg b l2 h2) (c : -2147483648 ≤ l1 - h2 ∧ h1 - l2 ≤ 2147483647) : v.toInt = a.toInt - b.toInt := by
  rw [e, Int32.toInt_sub]
  exact mm_b32 (by have := ha.1; have := hb.2; omega) (by have := ha.2; have := hb.1; omega)
theorem mm_sub {v a b : Int32} {l1 h1 l2 h2 : Int} (e : v = a - b) (ha : mm_rg a l1 h1) (hb : mm_rg b l2 h2) (c : -2147483648 ≤ l1 - h2 ∧ h1 - l2 ≤ 2147483647) {lo hi : Int} (d : lo ≤ l1 - h2 ∧ h1 - l2 ≤ hi) : mm_rg v lo hi := by
  have q := mm_subE e ha hb c
  have := ha.1; have := hb.1; have := ha.2; have := hb.2
  exact ⟨by omega, by omega⟩
theorem mm_mulE {v a b : Int32} {h1 h2 : Int} (e : v = a * b) (ha : mm_rg a 0 h1) (hb : mm_rg b 0 h2) (c : h1 * h2 ≤ 2147483647) : v.toInt = a.toInt * b.toInt := by
  rw [e, Int32.toInt_mul]
  have h0 : 0 ≤ h1 := Int.le_trans ha.1 ha.2
  exact mm_b32 (by have := Int.mul_nonneg ha.1 hb.1; omega) (Int.le_trans (Int.mul_le_mul ha.2 hb.2 hb.1 h0) c)
theorem mm_mul {v a b : Int32} {l1 h1 l2 h2 : Int} (e : v = a * b) (ha : mm_rg a l1 h1) (hb : mm_rg b l2 h2) (c : 0 ≤ l1 ∧ 0 ≤ l2 ∧ h1 * h2 ≤ 2147483647) {lo hi : Int} (d : lo ≤ l1 * l2 ∧ h1 * h2 ≤ hi) : mm_rg v lo hi := by
  have q := mm_mulE e (mm_wk ha ⟨c.1, Int.le_refl _⟩) (mm_wk hb ⟨c.2.1, Int.le_refl _⟩) c.2.2
  have h0 : 0 ≤ h1 := Int.le_trans (Int.le_trans c.1 ha.1) ha.2
  have b0 : 0 ≤ b.toInt := Int.le_trans c.2.1 hb.1
  have a0 : 0 ≤ a.toInt := Int.le_trans c.1 ha.1
  refine ⟨?_, ?_⟩
  · rw [q]; exact Int.le_trans d.1 (Int.mul_le_mul ha.1 hb.1 c.2.1 a0)
  · rw [q]; exact Int.le_trans (Int.mul_le_mul ha.2 hb.2 b0 h0) d.2
theorem mm_divE {v a b : Int32} {h1 h2 l2 : Int} (e : v = a / b) (ha : mm_rg a 0 h1) (hb : mm_rg b l2 h2) (c : 1 ≤ l2) : v.toInt = a.toInt / b.toInt := by
  rw [e, Int32.toInt_div, Int.tdiv_eq_ediv_of_nonneg ha.1]
  have hb0 : 1 ≤ b.toInt := Int.le_trans c hb.1
  have h1 : 0 ≤ a.toInt / b.toInt := Int.ediv_nonneg ha.1 (by omega)
  have h2 : a.toInt / b.toInt ≤ a.toInt := Int.ediv_le_self _ ha.1
  have h3 := (mm_top a).2
  exact mm_b32 (by omega) (by omega)
theorem mm_div {v a b : Int32} {l1 h1 h2 l2 : Int} (e : v = a / b) (ha : mm_rg a l1 h1) (hb : mm_rg b l2 h2) (c : 0 ≤ l1 ∧ 1 ≤ l2) {lo hi : Int} (d : lo ≤ 0 ∧ h1 ≤ hi) : mm_rg v lo hi := by
  have q := mm_divE e (mm_wk ha ⟨c.1, Int.le_refl _⟩) hb c.2
  have a0 : 0 ≤ a.toInt := Int.le_trans c.1 ha.1
  have hb0 : 1 ≤ b.toInt := Int.le_trans c.2 hb.1
  have h1 : 0 ≤ a.toInt / b.toInt := Int.ediv_nonneg a0 (by omega)
  have h2 : a.toInt / b.toInt ≤ a.toInt := Int.ediv_le_self _ a0
  have := ha.2
  exact ⟨by omega, by omega⟩
theorem mm_remE {v a b : Int32} {h1 h2 l2 : Int} (e : v = a - a / b * b) (ha : mm_rg a 0 h1) (hb : mm_rg b l2 h2) (c : 1 ≤ l2) : v.toInt = a.toInt % b.toInt := by
  have q := mm_divE rfl ha hb c
  have hb0 : 1 ≤ b.toInt := Int.le_trans c hb.1
  have k1 : 0 ≤ a.toInt / b.toInt := Int.ediv_nonneg ha.1 (by omega)
  have k2 : a.toInt / b.toInt * b.toInt ≤ a.toInt := Int.ediv_mul_le _ (by omega)
  have k3 : 0 ≤ a.toInt / b.toInt * b.toInt := Int.mul_nonneg k1 (by omega)
  have ht := (mm_top a).2
  have hm : (a / b * b).toInt = a.toInt / b.toInt * b.toInt := by
    rw [Int32.toInt_mul, q]
    exact mm_b32 (by omega) (by omega)
  have a0 := ha.1
  rw [e, Int32.toInt_sub, hm, mm_b32 (by omega) (by omega)]
  have := Int.emod_add_mul_ediv a.toInt b.toInt
  rw [Int.mul_comm] at this
  omega
theorem mm_rem {v a b : Int32} {l1 h1 h2 l2 : Int} (e : v = a - a / b * b) (ha : mm_rg a l1 h1) (hb : mm_rg b l2 h2) (c : 0 ≤ l1 ∧ 1 ≤ l2) {lo hi : Int} (d : lo ≤ 0 ∧ h2 - 1 ≤ hi) : mm_rg v lo hi := by
  have q := mm_remE e (mm_wk ha ⟨c.1, Int.le_refl _⟩) hb c.2
  have hb0 : 1 ≤ b.toInt := Int.le_trans c.2 hb.1
  have k1 := Int.emod_nonneg a.toInt (b := b.toInt) (by omega)
  have k2 := Int.emod_lt_of_pos a.toInt (b := b.toInt) (by omega)
  have := hb.2
  exact ⟨by omega, by omega⟩
theorem mm_lt {a b : Int32} (h : a < b) : a.toInt < b.toInt := Int32.lt_iff_toInt_lt.mp h
theorem mm_le {a b : Int32} (h : a ≤ b) : a.toInt ≤ b.toInt := Int32.le_iff_toInt_le.mp h
theorem mm_nlt {a b : Int32} (h : ¬ a < b) : b.toInt ≤ a.toInt := Int.not_lt.mp (fun q => h (Int32.lt_iff_toInt_lt.mpr q))
theorem mm_nle {a b : Int32} (h : ¬ a ≤ b) : b.toInt < a.toInt := Int.not_le.mp (fun q => h (Int32.le_iff_toInt_le.mpr q))
theorem mm_eq {a b : Int32} (h : a.toInt = b.toInt) : a = b := Int32.toInt_inj.mp h
theorem mm_ne {a b : Int32} (h : ¬ a = b) : a.toInt ≠ b.toInt := fun q => h (Int32.toInt_inj.mp q)
/-- of two in ranges, the lesser and the greater one: what each is then -/
theorem mm_leL {a b : Int32} {l1 h1 l2 h2 : Int} (k : a.toInt ≤ b.toInt) (ha : mm_rg a l1 h1) (hb : mm_rg b l2 h2) : mm_rg a l1 h2 := ⟨ha.1, Int.le_trans k hb.2⟩
theorem mm_leR {a b : Int32} {l1 h1 l2 h2 : Int} (k : a.toInt ≤ b.toInt) (ha : mm_rg a l1 h1) (hb : mm_rg b l2 h2) : mm_rg b l1 h2 := ⟨Int.le_trans ha.1 k, hb.2⟩
theorem mm_ltL {a b : Int32} {l1 h1 l2 h2 : Int} (k : a.toInt < b.toInt) (ha : mm_rg a l1 h1) (hb : mm_rg b l2 h2) {h : Int} (e : h2 - 1 ≤ h) : mm_rg a l1 h := ⟨ha.1, by have := hb.2; omega⟩
theorem mm_ltR {a b : Int32} {l1 h1 l2 h2 : Int} (k : a.toInt < b.toInt) (ha : mm_rg a l1 h1) (hb : mm_rg b l2 h2) {lo : Int} (e : lo ≤ l1 + 1) : mm_rg b lo h2 := ⟨by have := ha.1; omega, hb.2⟩
theorem mm_neL {a b : Int32} {l1 h1 l2 h2 : Int} (k : a.toInt ≠ b.toInt) (ha : mm_rg a l1 h1) (hb : mm_rg b l2 h2) (e : l1 = l2 ∧ l2 = h2) {lo : Int} (d : lo ≤ l1 + 1) : mm_rg a lo h1 := ⟨by have := ha.1; have := hb.1; have := hb.2; omega, ha.2⟩
theorem mm_neH {a b : Int32} {l1 h1 l2 h2 : Int} (k : a.toInt ≠ b.toInt) (ha : mm_rg a l1 h1) (hb : mm_rg b l2 h2) (e : h1 = l2 ∧ l2 = h2) {hi : Int} (d : h1 - 1 ≤ hi) : mm_rg a l1 hi := ⟨ha.1, by have := ha.2; have := hb.1; have := hb.2; omega⟩
theorem mm_no {a : Int32} {lo hi : Int} {P : Prop} (h : mm_rg a lo hi) (e : hi < lo) : P := absurd (Int.le_trans h.1 h.2) (Int.not_le.mpr e)
theorem mm_noT {a : Int32} {lo hi : Int} {P : Prop} (h : mm_rg a lo hi) (e : hi < lo) : P := mm_no h e
theorem mm_in {v : Int32} {lo hi : Int} {n : Nat} (h : mm_rg v lo hi) (c : 0 ≤ lo ∧ hi < (n : Int)) : vp_in v n := vp_in_iff.mpr ⟨Int.le_trans c.1 h.1, by have := h.2; omega⟩
theorem mm_nz {v : Int32} {lo hi : Int} (h : mm_rg v lo hi) (c : 1 ≤ lo) : ¬ v = 0 := fun e => by
  have := h.1
  rw [e] at this
  have z : (0 : Int32).toInt = 0 := by decide
  omega
theorem mm_ar_upd {f : Nat → Int32} {lo hi : Int} (h : mm_ar f lo hi) {x : Int32} (hx : mm_rg x lo hi) (k : Nat) : mm_ar (upd f k x) lo hi := by
  intro j
  by_cases e : j = k
  · rw [e, pk_us]; exact hx
  · rw [pk_un e]; exact h j
theorem mm_ar_wk {f : Nat → Int32} {lo hi l2 h2 : Int} (h : mm_ar f lo hi) (c : l2 ≤ lo ∧ hi ≤ h2) : mm_ar f l2 h2 := fun k => mm_wk (h k) c
theorem mm_ar_cpy {f g : Nat → Int32} {lo hi : Int} (hf : mm_ar f lo hi) (hg : mm_ar g lo hi) (a b n : Nat) : mm_ar (va_cpy f g a b n) lo hi := by
  intro j
  unfold va_cpy
  split
  · exact hf _
  · exact hg _
theorem mm_ar_c {v : Int32} {lo hi : Int} (h : mm_rg v lo hi) : mm_ar (fun _ => v) lo hi := fun _ => h
/-! ===== what the tables say, in one word ===== -/
abbrev mm_TY (cy : Nat → ClassId) : List (ClassId × FieldType) := [(cy 0, .byte), (cy 1, .int), (cy 2, .long), (cy 3, .boolean), (cy 4, .object "MissingMeaning$Book"), (cy 5, .object "MissingMeaning$Calendar"), (cy 6, .object "MissingMeaning$Row")]
def mm_nests : List Cond := [.methodLinkNest RX11 9 yX9_init "MissingMeaning", .methodLinkNest RX11 38 yX0_init "MissingMeaning", .methodLinkNest RX11 49 yX6_init "MissingMeaning", .methodLinkNest RX11 52 yX8_init "MissingMeaning", .methodLinkNest RX10 11 yX0_init "MissingMeaning", .methodLinkNest RX10 24 yX1_init "MissingMeaning", .methodLinkNest RX7 11 yX0_init "MissingMeaning", .methodLinkNest RX1 64 yX11_commonMultiple "MissingMeaning"]
def mm_K (G : va_G) (cy : Nat → ClassId) (U : State) : Prop := va_K G vwCl (mm_TY cy) U ∧ (va_AO RX0 U ∧ va_AO RX1 U ∧ va_AO RX6 U) ∧ ∀ w ∈ mm_nests, va_Nw w U
theorem mm_K.warm {G : va_G} {cy : Nat → ClassId} {s U : State} (h : mm_K G cy s) (hW : s.WarmedH U.vm) : mm_K G cy U := by
  refine ⟨va_K.moved hW.alike h.1, ⟨h.2.1.1.moved hW.alike, h.2.1.2.1.moved hW.alike, h.2.1.2.2.moved hW.alike⟩, ?_⟩
  intro w hw
  have q := h.2.2 w hw
  simp only [mm_nests, List.mem_cons, List.not_mem_nil, or_false] at hw
  rcases hw with rfl | rfl | rfl | rfl | rfl | rfl | rfl | rfl <;> exact va_Nw.warmM hW q
theorem mm_K.same {G : va_G} {cy : Nat → ClassId} {s U : State} (h : mm_K G cy s) (hW : s.vm = U.vm) : mm_K G cy U := by
  have ha : s.vm.Alike U.vm := by rw [hW]; exact Vm.Alike.refl _
  refine ⟨va_K.moved ha h.1, ⟨h.2.1.1.moved ha, h.2.1.2.1.moved ha, h.2.1.2.2.moved ha⟩, ?_⟩
  intro w hw
  have q := h.2.2 w hw
  have ho : w.onTables = true := by
    simp only [mm_nests, List.mem_cons, List.not_mem_nil, or_false] at hw
    rcases hw with rfl | rfl | rfl | rfl | rfl | rfl | rfl | rfl <;> rfl
  exact va_Nw.same ho hW q
