def mm_bt (c : ByteArray) (p : Nat) : Nat := if h : p < c.size then c[p].toNat else 256
def mm_ls (c : ByteArray) : List Nat := c.data.toList.map UInt8.toNat
theorem mm_lsA {c : ByteArray} {p b : Nat} (h : (mm_ls c)[p]? = some b) : mm_bt c p = b := by
  unfold mm_ls at h
  rw [List.getElem?_map] at h
  have q : p < c.size := by
    rcases Nat.lt_or_ge p c.data.toList.length with q | q
    · exact q
    · rw [List.getElem?_eq_none q] at h
      exact absurd h (by simp)
  unfold mm_bt
  rw [dif_pos q]
  have z : c.data.toList[p]? = some c[p] := List.getElem?_eq_getElem q
  rw [z] at h
  exact Option.some.inj h
theorem mm_sgN {c : ByteArray} {o n m : Nat} {A R : List Nat} (h : (mm_ls c).drop o = A ++ R) (l : A.length = n) (e : o + n = m) : (mm_ls c).drop m = R := by
  rw [← e, ← List.drop_drop, h, ← l, List.drop_left]
theorem mm_sgA {c : ByteArray} {o : Nat} {A R : List Nat} (h : (mm_ls c).drop o = A ++ R) (k : Nat) {p b : Nat} (e : o + k = p) (g : A[k]? = some b) : mm_bt c p = b := by
  apply mm_lsA
  rw [← e, ← List.getElem?_drop, h, List.getElem?_append_left]
  · exact g
  · rcases Nat.lt_or_ge k A.length with q | q
    · exact q
    · rw [List.getElem?_eq_none q] at g
      exact absurd g (by simp)
theorem dq_u1 {c : ByteArray} {p b : Nat} (h : mm_bt c p = b) (hb : b < 256) : (Reader.u1 : Decoder Nat) c p = .ok (b, p + 1) := by
  unfold mm_bt at h
  by_cases q : p < c.size
  · rw [dif_pos q] at h
    subst h
    show (if h : p < c.size then _ else _ : Decoder Nat) c p = _
    rw [dif_pos q]
    rfl
  · rw [dif_neg q] at h
    omega
theorem dq_u2 {c : ByteArray} {p a b : Nat} (h : mm_bt c p = a) (g : mm_bt c (p + 1) = b) (ha : a < 256) (hb : b < 256) : (Reader.u2 : Decoder Nat) c p = .ok (a * 256 + b, p + 2) := by
  show Except.bind ((Reader.u1 : Decoder Nat) c p) _ = _
  rw [dq_u1 h ha]
  show Except.bind ((Reader.u1 : Decoder Nat) c (p + 1)) _ = _
  rw [dq_u1 g hb]
  rfl
theorem dq_s1 {c : ByteArray} {p a : Nat} (h : mm_bt c p = a) (ha : a < 256) : (Reader.s1 : Decoder Int) c p = .ok (Reader.signed 8 a, p + 1) := by
  show Except.bind ((Reader.u1 : Decoder Nat) c p) _ = _
  rw [dq_u1 h ha]
  rfl
theorem dq_s2 {c : ByteArray} {p a b : Nat} (h : mm_bt c p = a) (g : mm_bt c (p + 1) = b) (ha : a < 256) (hb : b < 256) : (Reader.s2 : Decoder Int) c p = .ok (Reader.signed 16 (a * 256 + b), p + 2) := by
  show Except.bind ((Reader.u2 : Decoder Nat) c p) _ = _
  rw [dq_u2 h g ha hb]
  rfl
theorem dq_3 {c : ByteArray} {pc : Nat} (h : mm_bt c pc = 3) : decode c pc = .ok (.iconst 0, 1) := by
  show Except.bind (Except.bind ((Reader.u1 : Decoder Nat) c pc) _) _ = _
  rw [dq_u1 h (by decide)]
  show Except.ok (Instr.iconst 0, pc + 1 - pc) = _
  rw [Nat.add_sub_cancel_left]
theorem dq_4 {c : ByteArray} {pc : Nat} (h : mm_bt c pc = 4) : decode c pc = .ok (.iconst 1, 1) := by
  show Except.bind (Except.bind ((Reader.u1 : Decoder Nat) c pc) _) _ = _
  rw [dq_u1 h (by decide)]
  show Except.ok (Instr.iconst 1, pc + 1 - pc) = _
  rw [Nat.add_sub_cancel_left]
theorem dq_5 {c : ByteArray} {pc : Nat} (h : mm_bt c pc = 5) : decode c pc = .ok (.iconst 2, 1) := by
  show Except.bind (Except.bind ((Reader.u1 : Decoder Nat) c pc) _) _ = _
  rw [dq_u1 h (by decide)]
  show Except.ok (Instr.iconst 2, pc + 1 - pc) = _
  rw [Nat.add_sub_cancel_left]
theorem dq_6 {c : ByteArray} {pc : Nat} (h : mm_bt c pc = 6) : decode c pc = .ok (.iconst 3, 1) := by
  show Except.bind (Except.bind ((Reader.u1 : Decoder Nat) c pc) _) _ = _
  rw [dq_u1 h (by decide)]
  show Except.ok (Instr.iconst 3, pc + 1 - pc) = _
  rw [Nat.add_sub_cancel_left]
theorem dq_7 {c : ByteArray} {pc : Nat} (h : mm_bt c pc = 7) : decode c pc = .ok (.iconst 4, 1) := by
  show Except.bind (Except.bind ((Reader.u1 : Decoder Nat) c pc) _) _ = _
  rw [dq_u1 h (by decide)]
  show Except.ok (Instr.iconst 4, pc + 1 - pc) = _
  rw [Nat.add_sub_cancel_left]
theorem dq_8 {c : ByteArray} {pc : Nat} (h : mm_bt c pc = 8) : decode c pc = .ok (.iconst 5, 1) := by
  show Except.bind (Except.bind ((Reader.u1 : Decoder Nat) c pc) _) _ = _
  rw [dq_u1 h (by decide)]
  show Except.ok (Instr.iconst 5, pc + 1 - pc) = _
  rw [Nat.add_sub_cancel_left]
theorem dq_16 {c : ByteArray} {pc a : Nat} {n : Int} (h : mm_bt c pc = 16) (g : mm_bt c (pc + 1) = a) (ha : a < 256) (e : Reader.signed 8 a = n) : decode c pc = .ok (.bipush n, 2) := by
  show Except.bind (Except.bind ((Reader.u1 : Decoder Nat) c pc) _) _ = _
  rw [dq_u1 h (by decide)]
  show Except.bind (Except.bind ((Reader.s1 : Decoder Int) c (pc + 1)) _) _ = _
  rw [dq_s1 g ha, e]
  show Except.ok (Instr.bipush n, pc + 2 - pc) = _
  rw [Nat.add_sub_cancel_left]
theorem dq_20 {c : ByteArray} {pc a b n : Nat} (h : mm_bt c pc = 20) (g : mm_bt c (pc + 1) = a) (k : mm_bt c (pc + 2) = b) (hab : a < 256 ∧ b < 256 ∧ a * 256 + b = n) : decode c pc = .ok (.ldc2_w n, 3) := by
  show Except.bind (Except.bind ((Reader.u1 : Decoder Nat) c pc) _) _ = _
  rw [dq_u1 h (by decide)]
  show Except.bind (Except.bind ((Reader.u2 : Decoder Nat) c (pc + 1)) _) _ = _
  rw [dq_u2 g k hab.1 hab.2.1, hab.2.2]
  show Except.ok (Instr.ldc2_w n, pc + 3 - pc) = _
  rw [Nat.add_sub_cancel_left]
theorem dq_29 {c : ByteArray} {pc : Nat} (h : mm_bt c pc = 29) : decode c pc = .ok (.iload_n 3, 1) := by
  show Except.bind (Except.bind ((Reader.u1 : Decoder Nat) c pc) _) _ = _
  rw [dq_u1 h (by decide)]
  show Except.ok (Instr.iload_n 3, pc + 1 - pc) = _
  rw [Nat.add_sub_cancel_left]
theorem dq_42 {c : ByteArray} {pc : Nat} (h : mm_bt c pc = 42) : decode c pc = .ok (.aload_n 0, 1) := by
  show Except.bind (Except.bind ((Reader.u1 : Decoder Nat) c pc) _) _ = _
  rw [dq_u1 h (by decide)]
  show Except.ok (Instr.aload_n 0, pc + 1 - pc) = _
  rw [Nat.add_sub_cancel_left]
theorem dq_43 {c : ByteArray} {pc : Nat} (h : mm_bt c pc = 43) : decode c pc = .ok (.aload_n 1, 1) := by
  show Except.bind (Except.bind ((Reader.u1 : Decoder Nat) c pc) _) _ = _
  rw [dq_u1 h (by decide)]
  show Except.ok (Instr.aload_n 1, pc + 1 - pc) = _
  rw [Nat.add_sub_cancel_left]
theorem dq_44 {c : ByteArray} {pc : Nat} (h : mm_bt c pc = 44) : decode c pc = .ok (.aload_n 2, 1) := by
  show Except.bind (Except.bind ((Reader.u1 : Decoder Nat) c pc) _) _ = _
  rw [dq_u1 h (by decide)]
  show Except.ok (Instr.aload_n 2, pc + 1 - pc) = _
  rw [Nat.add_sub_cancel_left]
theorem dq_46 {c : ByteArray} {pc : Nat} (h : mm_bt c pc = 46) : decode c pc = .ok (.iaload, 1) := by
  show Except.bind (Except.bind ((Reader.u1 : Decoder Nat) c pc) _) _ = _
  rw [dq_u1 h (by decide)]
  show Except.ok (Instr.iaload, pc + 1 - pc) = _
  rw [Nat.add_sub_cancel_left]
theorem dq_62 {c : ByteArray} {pc : Nat} (h : mm_bt c pc = 62) : decode c pc = .ok (.istore_n 3, 1) := by
  show Except.bind (Except.bind ((Reader.u1 : Decoder Nat) c pc) _) _ = _
  rw [dq_u1 h (by decide)]
  show Except.ok (Instr.istore_n 3, pc + 1 - pc) = _
  rw [Nat.add_sub_cancel_left]
theorem dq_76 {c : ByteArray} {pc : Nat} (h : mm_bt c pc = 76) : decode c pc = .ok (.astore_n 1, 1) := by
  show Except.bind (Except.bind ((Reader.u1 : Decoder Nat) c pc) _) _ = _
  rw [dq_u1 h (by decide)]
  show Except.ok (Instr.astore_n 1, pc + 1 - pc) = _
  rw [Nat.add_sub_cancel_left]
theorem dq_77 {c : ByteArray} {pc : Nat} (h : mm_bt c pc = 77) : decode c pc = .ok (.astore_n 2, 1) := by
  show Except.bind (Except.bind ((Reader.u1 : Decoder Nat) c pc) _) _ = _
  rw [dq_u1 h (by decide)]
  show Except.ok (Instr.astore_n 2, pc + 1 - pc) = _
  rw [Nat.add_sub_cancel_left]
theorem dq_87 {c : ByteArray} {pc : Nat} (h : mm_bt c pc = 87) : decode c pc = .ok (.pop, 1) := by
  show Except.bind (Except.bind ((Reader.u1 : Decoder Nat) c pc) _) _ = _
  rw [dq_u1 h (by decide)]
  show Except.ok (Instr.pop, pc + 1 - pc) = _
  rw [Nat.add_sub_cancel_left]
theorem dq_88 {c : ByteArray} {pc : Nat} (h : mm_bt c pc = 88) : decode c pc = .ok (.pop2, 1) := by
  show Except.bind (Except.bind ((Reader.u1 : Decoder Nat) c pc) _) _ = _
  rw [dq_u1 h (by decide)]
  show Except.ok (Instr.pop2, pc + 1 - pc) = _
  rw [Nat.add_sub_cancel_left]
theorem dq_89 {c : ByteArray} {pc : Nat} (h : mm_bt c pc = 89) : decode c pc = .ok (.dup, 1) := by
  show Except.bind (Except.bind ((Reader.u1 : Decoder Nat) c pc) _) _ = _
  rw [dq_u1 h (by decide)]
  show Except.ok (Instr.dup, pc + 1 - pc) = _
  rw [Nat.add_sub_cancel_left]
theorem dq_96 {c : ByteArray} {pc : Nat} (h : mm_bt c pc = 96) : decode c pc = .ok (.iadd, 1) := by
  show Except.bind (Except.bind ((Reader.u1 : Decoder Nat) c pc) _) _ = _
  rw [dq_u1 h (by decide)]
  show Except.ok (Instr.iadd, pc + 1 - pc) = _
  rw [Nat.add_sub_cancel_left]
theorem dq_100 {c : ByteArray} {pc : Nat} (h : mm_bt c pc = 100) : decode c pc = .ok (.isub, 1) := by
  show Except.bind (Except.bind ((Reader.u1 : Decoder Nat) c pc) _) _ = _
  rw [dq_u1 h (by decide)]
  show Except.ok (Instr.isub, pc + 1 - pc) = _
  rw [Nat.add_sub_cancel_left]
theorem dq_121 {c : ByteArray} {pc : Nat} (h : mm_bt c pc = 121) : decode c pc = .ok (.lshl, 1) := by
  show Except.bind (Except.bind ((Reader.u1 : Decoder Nat) c pc) _) _ = _
  rw [dq_u1 h (by decide)]
  show Except.ok (Instr.lshl, pc + 1 - pc) = _
  rw [Nat.add_sub_cancel_left]
theorem dq_126 {c : ByteArray} {pc : Nat} (h : mm_bt c pc = 126) : decode c pc = .ok (.iand, 1) := by
  show Except.bind (Except.bind ((Reader.u1 : Decoder Nat) c pc) _) _ = _
  rw [dq_u1 h (by decide)]
  show Except.ok (Instr.iand, pc + 1 - pc) = _
  rw [Nat.add_sub_cancel_left]
theorem dq_127 {c : ByteArray} {pc : Nat} (h : mm_bt c pc = 127) : decode c pc = .ok (.land, 1) := by
  show Except.bind (Except.bind ((Reader.u1 : Decoder Nat) c pc) _) _ = _
  rw [dq_u1 h (by decide)]
  show Except.ok (Instr.land, pc + 1 - pc) = _
  rw [Nat.add_sub_cancel_left]
theorem dq_129 {c : ByteArray} {pc : Nat} (h : mm_bt c pc = 129) : decode c pc = .ok (.lor, 1) := by
  show Except.bind (Except.bind ((Reader.u1 : Decoder Nat) c pc) _) _ = _
  rw [dq_u1 h (by decide)]
  show Except.ok (Instr.lor, pc + 1 - pc) = _
  rw [Nat.add_sub_cancel_left]
theorem dq_132 {c : ByteArray} {pc a b : Nat} {n : Int} (h : mm_bt c pc = 132) (g : mm_bt c (pc + 1) = a) (k : mm_bt c (pc + 2) = b) (hab : a < 256 ∧ b < 256 ∧ Reader.signed 8 b = n) : decode c pc = .ok (.iinc a n, 3) := by
  show Except.bind (Except.bind ((Reader.u1 : Decoder Nat) c pc) _) _ = _
  rw [dq_u1 h (by decide)]
  show Except.bind (Except.bind ((Reader.u1 : Decoder Nat) c (pc + 1)) _) _ = _
  rw [dq_u1 g hab.1]
  show Except.bind (Except.bind ((Reader.s1 : Decoder Int) c (pc + 2)) _) _ = _
  rw [dq_s1 k hab.2.1, hab.2.2]
  show Except.ok (Instr.iinc a n, pc + 3 - pc) = _
  rw [Nat.add_sub_cancel_left]
theorem dq_133 {c : ByteArray} {pc : Nat} (h : mm_bt c pc = 133) : decode c pc = .ok (.i2l, 1) := by
  show Except.bind (Except.bind ((Reader.u1 : Decoder Nat) c pc) _) _ = _
  rw [dq_u1 h (by decide)]
  show Except.ok (Instr.i2l, pc + 1 - pc) = _
  rw [Nat.add_sub_cancel_left]
theorem dq_159 {c : ByteArray} {pc a b : Nat} {n : Int} (h : mm_bt c pc = 159) (g : mm_bt c (pc + 1) = a) (k : mm_bt c (pc + 2) = b) (hab : a < 256 ∧ b < 256 ∧ Reader.signed 16 (a * 256 + b) = n) : decode c pc = .ok (.if_icmp .eq n, 3) := by
  show Except.bind (Except.bind ((Reader.u1 : Decoder Nat) c pc) _) _ = _
  rw [dq_u1 h (by decide)]
  show Except.bind (Except.bind ((Reader.s2 : Decoder Int) c (pc + 1)) _) _ = _
  rw [dq_s2 g k hab.1 hab.2.1, hab.2.2]
  show Except.ok (Instr.if_icmp .eq n, pc + 3 - pc) = _
  rw [Nat.add_sub_cancel_left]
theorem dq_163 {c : ByteArray} {pc a b : Nat} {n : Int} (h : mm_bt c pc = 163) (g : mm_bt c (pc + 1) = a) (k : mm_bt c (pc + 2) = b) (hab : a < 256 ∧ b < 256 ∧ Reader.signed 16 (a * 256 + b) = n) : decode c pc = .ok (.if_icmp .gt n, 3) := by
  show Except.bind (Except.bind ((Reader.u1 : Decoder Nat) c pc) _) _ = _
  rw [dq_u1 h (by decide)]
  show Except.bind (Except.bind ((Reader.s2 : Decoder Int) c (pc + 1)) _) _ = _
  rw [dq_s2 g k hab.1 hab.2.1, hab.2.2]
  show Except.ok (Instr.if_icmp .gt n, pc + 3 - pc) = _
  rw [Nat.add_sub_cancel_left]
theorem dq_167 {c : ByteArray} {pc a b : Nat} {n : Int} (h : mm_bt c pc = 167) (g : mm_bt c (pc + 1) = a) (k : mm_bt c (pc + 2) = b) (hab : a < 256 ∧ b < 256 ∧ Reader.signed 16 (a * 256 + b) = n) : decode c pc = .ok (.goto n, 3) := by
  show Except.bind (Except.bind ((Reader.u1 : Decoder Nat) c pc) _) _ = _
  rw [dq_u1 h (by decide)]
  show Except.bind (Except.bind ((Reader.s2 : Decoder Int) c (pc + 1)) _) _ = _
  rw [dq_s2 g k hab.1 hab.2.1, hab.2.2]
  show Except.ok (Instr.goto n, pc + 3 - pc) = _
  rw [Nat.add_sub_cancel_left]
theorem dq_172 {c : ByteArray} {pc : Nat} (h : mm_bt c pc = 172) : decode c pc = .ok (.ireturn, 1) := by
  show Except.bind (Except.bind ((Reader.u1 : Decoder Nat) c pc) _) _ = _
  rw [dq_u1 h (by decide)]
  show Except.ok (Instr.ireturn, pc + 1 - pc) = _
  rw [Nat.add_sub_cancel_left]
theorem dq_182 {c : ByteArray} {pc a b n : Nat} (h : mm_bt c pc = 182) (g : mm_bt c (pc + 1) = a) (k : mm_bt c (pc + 2) = b) (hab : a < 256 ∧ b < 256 ∧ a * 256 + b = n) : decode c pc = .ok (.invokevirtual n, 3) := by
  show Except.bind (Except.bind ((Reader.u1 : Decoder Nat) c pc) _) _ = _
  rw [dq_u1 h (by decide)]
  show Except.bind (Except.bind ((Reader.u2 : Decoder Nat) c (pc + 1)) _) _ = _
  rw [dq_u2 g k hab.1 hab.2.1, hab.2.2]
  show Except.ok (Instr.invokevirtual n, pc + 3 - pc) = _
  rw [Nat.add_sub_cancel_left]
theorem dq_183 {c : ByteArray} {pc a b n : Nat} (h : mm_bt c pc = 183) (g : mm_bt c (pc + 1) = a) (k : mm_bt c (pc + 2) = b) (hab : a < 256 ∧ b < 256 ∧ a * 256 + b = n) : decode c pc = .ok (.invokespecial n, 3) := by
  show Except.bind (Except.bind ((Reader.u1 : Decoder Nat) c pc) _) _ = _
  rw [dq_u1 h (by decide)]
  show Except.bind (Except.bind ((Reader.u2 : Decoder Nat) c (pc + 1)) _) _ = _
  rw [dq_u2 g k hab.1 hab.2.1, hab.2.2]
  show Except.ok (Instr.invokespecial n, pc + 3 - pc) = _
  rw [Nat.add_sub_cancel_left]
theorem dq_187 {c : ByteArray} {pc a b n : Nat} (h : mm_bt c pc = 187) (g : mm_bt c (pc + 1) = a) (k : mm_bt c (pc + 2) = b) (hab : a < 256 ∧ b < 256 ∧ a * 256 + b = n) : decode c pc = .ok (.new n, 3) := by
  show Except.bind (Except.bind ((Reader.u1 : Decoder Nat) c pc) _) _ = _
  rw [dq_u1 h (by decide)]
  show Except.bind (Except.bind ((Reader.u2 : Decoder Nat) c (pc + 1)) _) _ = _
  rw [dq_u2 g k hab.1 hab.2.1, hab.2.2]
  show Except.ok (Instr.new n, pc + 3 - pc) = _
  rw [Nat.add_sub_cancel_left]
theorem dq_190 {c : ByteArray} {pc : Nat} (h : mm_bt c pc = 190) : decode c pc = .ok (.arraylength, 1) := by
  show Except.bind (Except.bind ((Reader.u1 : Decoder Nat) c pc) _) _ = _
  rw [dq_u1 h (by decide)]
  show Except.ok (Instr.arraylength, pc + 1 - pc) = _
  rw [Nat.add_sub_cancel_left]
def lq_A98 : List Nat := [7, 96, 46, 42, 29, 8, 96, 46, 182, 1, 54, 159, 0, 5, 3, 172, 132, 3, 6, 167, 243, 191, 4, 172]
def lq_R98 : List Nat := lq_A98 ++ []
def lq_A97 : List Nat := [46, 42, 29, 7, 96, 46, 42, 29, 8, 96, 46, 182, 1, 51, 44, 42, 29, 4, 96, 46, 42, 29, 5, 96, 46, 42, 29, 6, 96, 46, 42, 29]
def lq_R97 : List Nat := lq_A97 ++ lq_R98
def lq_A96 : List Nat := [29, 7, 96, 46, 133, 20, 1, 44, 127, 129, 182, 1, 50, 87, 167, 0, 66, 43, 42, 29, 4, 96, 46, 42, 29, 5, 96, 46, 42, 29, 6, 96]
def lq_R96 : List Nat := lq_A96 ++ lq_R97
def lq_A95 : List Nat := [46, 133, 20, 1, 44, 127, 129, 182, 1, 46, 87, 44, 42, 29, 4, 96, 46, 42, 29, 5, 96, 46, 42, 29, 6, 96, 46, 133, 16, 32, 121, 42]
def lq_R95 : List Nat := lq_A95 ++ lq_R96
def lq_A94 : List Nat := [46, 182, 1, 43, 87, 167, 0, 139, 43, 42, 29, 4, 96, 46, 42, 29, 5, 96, 46, 42, 29, 6, 96, 46, 133, 16, 32, 121, 42, 29, 7, 96]
def lq_R94 : List Nat := lq_A94 ++ lq_R95
def lq_A93 : List Nat := [4, 96, 46, 42, 29, 5, 96, 46, 42, 29, 6, 96, 46, 182, 1, 40, 87, 44, 42, 29, 4, 96, 46, 42, 29, 5, 96, 46, 42, 29, 6, 96]
def lq_R93 : List Nat := lq_A93 ++ lq_R94
def lq_A92 : List Nat := [1, 35, 87, 167, 0, 205, 43, 42, 29, 4, 96, 46, 182, 1, 36, 87, 44, 42, 29, 4, 96, 46, 182, 1, 39, 87, 167, 0, 182, 43, 42, 29]
def lq_R92 : List Nat := lq_A92 ++ lq_R93
def lq_A91 : List Nat := [28, 87, 44, 42, 29, 4, 96, 46, 182, 1, 31, 87, 167, 0, 228, 43, 42, 29, 4, 96, 46, 182, 1, 32, 87, 44, 42, 29, 4, 96, 46, 182]
def lq_R91 : List Nat := lq_A91 ++ lq_R92
def lq_A90 : List Nat := [96, 46, 182, 1, 24, 87, 44, 42, 29, 4, 96, 46, 42, 29, 5, 96, 46, 182, 1, 27, 87, 167, 0, 251, 43, 42, 29, 4, 96, 46, 182, 1]
def lq_R90 : List Nat := lq_A90 ++ lq_R91
def lq_A89 : List Nat := [46, 42, 29, 6, 96, 46, 42, 29, 7, 96, 46, 42, 29, 8, 96, 46, 182, 1, 23, 87, 167, 1, 28, 43, 42, 29, 4, 96, 46, 42, 29, 5]
def lq_R89 : List Nat := lq_A89 ++ lq_R90
def lq_A88 : List Nat := [5, 96, 46, 42, 29, 6, 96, 46, 42, 29, 7, 96, 46, 42, 29, 8, 96, 46, 182, 1, 20, 87, 44, 42, 29, 4, 96, 46, 42, 29, 5, 96]
def lq_R88 : List Nat := lq_A88 ++ lq_R89
def lq_A87 : List Nat := [96, 46, 182, 1, 16, 87, 44, 42, 29, 4, 96, 46, 42, 29, 5, 96, 46, 182, 1, 19, 87, 167, 1, 91, 43, 42, 29, 4, 96, 46, 42, 29]
def lq_R87 : List Nat := lq_A87 ++ lq_R88
def lq_A86 : List Nat := [8, 87, 44, 182, 1, 11, 87, 167, 1, 137, 43, 182, 1, 12, 87, 44, 182, 1, 15, 87, 167, 1, 124, 43, 42, 29, 4, 96, 46, 42, 29, 5]
def lq_R86 : List Nat := lq_A86 ++ lq_R87
def lq_A85 : List Nat := [1, 3, 87, 167, 1, 173, 43, 42, 29, 4, 96, 46, 182, 1, 4, 87, 44, 42, 29, 4, 96, 46, 182, 1, 7, 87, 167, 1, 150, 43, 182, 1]
def lq_R85 : List Nat := lq_A85 ++ lq_R86
def lq_A84 : List Nat := [46, 42, 29, 5, 96, 46, 42, 29, 6, 96, 46, 182, 1, 0, 87, 44, 42, 29, 4, 96, 46, 42, 29, 5, 96, 46, 42, 29, 6, 96, 46, 182]
def lq_R84 : List Nat := lq_A84 ++ lq_R85
def lq_A83 : List Nat := [42, 29, 5, 96, 46, 42, 29, 6, 96, 46, 42, 29, 7, 96, 46, 42, 29, 8, 96, 46, 182, 0, 255, 88, 167, 1, 216, 43, 42, 29, 4, 96]
def lq_R83 : List Nat := lq_A83 ++ lq_R84
def lq_A82 : List Nat := [96, 46, 42, 29, 5, 96, 46, 42, 29, 6, 96, 46, 42, 29, 7, 96, 46, 42, 29, 8, 96, 46, 182, 0, 251, 88, 44, 42, 29, 4, 96, 46]
def lq_R82 : List Nat := lq_A82 ++ lq_R83
def lq_A81 : List Nat := [46, 42, 29, 5, 96, 46, 42, 29, 6, 96, 46, 42, 29, 7, 96, 46, 42, 29, 8, 96, 46, 182, 0, 250, 87, 167, 2, 23, 43, 42, 29, 4]
def lq_R81 : List Nat := lq_A81 ++ lq_R82
def lq_A80 : List Nat := [4, 96, 46, 42, 29, 5, 96, 46, 42, 29, 6, 96, 46, 42, 29, 7, 96, 46, 42, 29, 8, 96, 46, 182, 0, 247, 87, 44, 42, 29, 4, 96]
def lq_R80 : List Nat := lq_A80 ++ lq_R81
def lq_A79 : List Nat := [96, 46, 42, 29, 5, 96, 46, 182, 0, 243, 87, 44, 42, 29, 4, 96, 46, 42, 29, 5, 96, 46, 182, 0, 246, 87, 167, 2, 86, 43, 42, 29]
def lq_R79 : List Nat := lq_A79 ++ lq_R80
def lq_A78 : List Nat := [46, 42, 29, 5, 96, 46, 182, 0, 239, 87, 44, 42, 29, 4, 96, 46, 42, 29, 5, 96, 46, 182, 0, 242, 87, 167, 2, 119, 43, 42, 29, 4]
def lq_R78 : List Nat := lq_A78 ++ lq_R79
def lq_A77 : List Nat := [42, 29, 5, 96, 46, 182, 0, 235, 87, 44, 42, 29, 4, 96, 46, 42, 29, 5, 96, 46, 182, 0, 238, 87, 167, 2, 152, 43, 42, 29, 4, 96]
def lq_R77 : List Nat := lq_A77 ++ lq_R78
def lq_A76 : List Nat := [29, 4, 96, 46, 42, 29, 5, 96, 46, 42, 29, 6, 96, 46, 42, 29, 7, 96, 46, 182, 0, 234, 87, 167, 2, 185, 43, 42, 29, 4, 96, 46]
def lq_R76 : List Nat := lq_A76 ++ lq_R77
def lq_A75 : List Nat := [230, 87, 167, 2, 238, 43, 42, 29, 4, 96, 46, 42, 29, 5, 96, 46, 42, 29, 6, 96, 46, 42, 29, 7, 96, 46, 182, 0, 231, 87, 44, 42]
def lq_R75 : List Nat := lq_A75 ++ lq_R76
def lq_A74 : List Nat := [182, 0, 227, 87, 44, 42, 29, 4, 96, 46, 42, 29, 5, 96, 46, 42, 29, 6, 96, 46, 42, 29, 7, 96, 46, 42, 29, 8, 96, 46, 182, 0]
def lq_R74 : List Nat := lq_A74 ++ lq_R75
def lq_A73 : List Nat := [0, 226, 87, 167, 3, 45, 43, 42, 29, 4, 96, 46, 42, 29, 5, 96, 46, 42, 29, 6, 96, 46, 42, 29, 7, 96, 46, 42, 29, 8, 96, 46]
def lq_R73 : List Nat := lq_A73 ++ lq_R74
def lq_A72 : List Nat := [46, 42, 29, 7, 96, 46, 182, 0, 223, 87, 44, 42, 29, 4, 96, 46, 42, 29, 5, 96, 46, 42, 29, 6, 96, 46, 42, 29, 7, 96, 46, 182]
def lq_R72 : List Nat := lq_A72 ++ lq_R73
def lq_A71 : List Nat := [42, 29, 4, 96, 46, 42, 29, 5, 96, 46, 182, 0, 222, 87, 167, 3, 98, 43, 42, 29, 4, 96, 46, 42, 29, 5, 96, 46, 42, 29, 6, 96]
def lq_R71 : List Nat := lq_A71 ++ lq_R72
def lq_A70 : List Nat := [29, 4, 96, 46, 42, 29, 5, 96, 46, 182, 0, 218, 87, 167, 3, 131, 43, 42, 29, 4, 96, 46, 42, 29, 5, 96, 46, 182, 0, 219, 87, 44]
def lq_R70 : List Nat := lq_A70 ++ lq_R71
def lq_A69 : List Nat := [4, 96, 46, 42, 29, 5, 96, 46, 182, 0, 214, 87, 167, 3, 164, 43, 42, 29, 4, 96, 46, 42, 29, 5, 96, 46, 182, 0, 215, 87, 44, 42]
def lq_R69 : List Nat := lq_A69 ++ lq_R70
def lq_A68 : List Nat := [96, 46, 42, 29, 6, 96, 46, 182, 0, 210, 87, 167, 3, 197, 43, 42, 29, 4, 96, 46, 42, 29, 5, 96, 46, 182, 0, 211, 87, 44, 42, 29]
def lq_R68 : List Nat := lq_A68 ++ lq_R69
def lq_A67 : List Nat := [167, 3, 240, 43, 42, 29, 4, 96, 46, 42, 29, 5, 96, 46, 42, 29, 6, 96, 46, 182, 0, 207, 87, 44, 42, 29, 4, 96, 46, 42, 29, 5]
def lq_R67 : List Nat := lq_A67 ++ lq_R68
def lq_A66 : List Nat := [4, 17, 43, 42, 29, 4, 96, 46, 42, 29, 5, 96, 46, 182, 0, 203, 87, 44, 42, 29, 4, 96, 46, 42, 29, 5, 96, 46, 182, 0, 206, 87]
def lq_R66 : List Nat := lq_A66 ++ lq_R67
def lq_A65 : List Nat := [96, 46, 42, 29, 6, 96, 46, 182, 0, 199, 87, 44, 42, 29, 4, 96, 46, 42, 29, 5, 96, 46, 42, 29, 6, 96, 46, 182, 0, 202, 87, 167]
def lq_R65 : List Nat := lq_A65 ++ lq_R66
def lq_A64 : List Nat := [46, 182, 0, 195, 87, 44, 42, 29, 4, 96, 46, 42, 29, 5, 96, 46, 182, 0, 198, 87, 167, 4, 60, 43, 42, 29, 4, 96, 46, 42, 29, 5]
def lq_R64 : List Nat := lq_A64 ++ lq_R65
def lq_A63 : List Nat := [182, 0, 191, 87, 44, 42, 29, 4, 96, 46, 42, 29, 5, 96, 46, 182, 0, 194, 87, 167, 4, 93, 43, 42, 29, 4, 96, 46, 42, 29, 5, 96]
def lq_R63 : List Nat := lq_A63 ++ lq_R64
def lq_A62 : List Nat := [29, 6, 96, 46, 42, 29, 7, 96, 46, 42, 29, 8, 96, 46, 182, 0, 190, 87, 167, 4, 126, 43, 42, 29, 4, 96, 46, 42, 29, 5, 96, 46]
def lq_R62 : List Nat := lq_A62 ++ lq_R63
def lq_A61 : List Nat := [46, 42, 29, 6, 96, 46, 42, 29, 7, 96, 46, 42, 29, 8, 96, 46, 182, 0, 187, 87, 44, 42, 29, 4, 96, 46, 42, 29, 5, 96, 46, 42]
def lq_R61 : List Nat := lq_A61 ++ lq_R62
def lq_A60 : List Nat := [42, 29, 6, 96, 46, 42, 29, 7, 96, 46, 42, 29, 8, 96, 46, 182, 0, 186, 87, 167, 4, 189, 43, 42, 29, 4, 96, 46, 42, 29, 5, 96]
def lq_R60 : List Nat := lq_A60 ++ lq_R61
def lq_A59 : List Nat := [96, 46, 42, 29, 6, 96, 46, 42, 29, 7, 96, 46, 42, 29, 8, 96, 46, 182, 0, 183, 87, 44, 42, 29, 4, 96, 46, 42, 29, 5, 96, 46]
def lq_R59 : List Nat := lq_A59 ++ lq_R60
def lq_A58 : List Nat := [44, 42, 29, 4, 96, 46, 42, 29, 5, 96, 46, 42, 29, 6, 96, 46, 182, 0, 182, 87, 167, 4, 252, 43, 42, 29, 4, 96, 46, 42, 29, 5]
def lq_R58 : List Nat := lq_A58 ++ lq_R59
def lq_A57 : List Nat := [42, 29, 6, 96, 46, 182, 0, 178, 87, 167, 5, 39, 43, 42, 29, 4, 96, 46, 42, 29, 5, 96, 46, 42, 29, 6, 96, 46, 182, 0, 179, 87]
def lq_R57 : List Nat := lq_A57 ++ lq_R58
def lq_A56 : List Nat := [82, 43, 42, 29, 4, 96, 46, 42, 29, 5, 96, 46, 42, 29, 6, 96, 46, 182, 0, 175, 87, 44, 42, 29, 4, 96, 46, 42, 29, 5, 96, 46]
def lq_R56 : List Nat := lq_A56 ++ lq_R57
def lq_A55 : List Nat := [43, 42, 29, 4, 96, 46, 42, 29, 5, 96, 46, 182, 0, 171, 87, 44, 42, 29, 4, 96, 46, 42, 29, 5, 96, 46, 182, 0, 174, 87, 167, 5]
def lq_R55 : List Nat := lq_A55 ++ lq_R56
def lq_A54 : List Nat := [96, 46, 182, 0, 166, 87, 167, 5, 138, 43, 42, 29, 4, 96, 46, 182, 0, 167, 87, 44, 42, 29, 4, 96, 46, 182, 0, 170, 87, 167, 5, 115]
def lq_R54 : List Nat := lq_A54 ++ lq_R55
def lq_A53 : List Nat := [44, 42, 29, 4, 96, 46, 42, 29, 5, 96, 46, 182, 0, 162, 87, 167, 5, 161, 43, 42, 29, 4, 96, 46, 182, 0, 163, 87, 44, 42, 29, 4]
def lq_R53 : List Nat := lq_A53 ++ lq_R54
def lq_A52 : List Nat := [42, 29, 5, 96, 46, 42, 29, 6, 96, 46, 182, 0, 158, 87, 167, 5, 194, 43, 42, 29, 4, 96, 46, 42, 29, 5, 96, 46, 182, 0, 159, 87]
def lq_R52 : List Nat := lq_A52 ++ lq_R53
def lq_A51 : List Nat := [0, 154, 87, 167, 5, 237, 43, 42, 29, 4, 96, 46, 42, 29, 5, 96, 46, 42, 29, 6, 96, 46, 182, 0, 155, 87, 44, 42, 29, 4, 96, 46]
def lq_R51 : List Nat := lq_A51 ++ lq_R52
def lq_A50 : List Nat := [150, 87, 167, 6, 14, 43, 42, 29, 4, 96, 46, 42, 29, 5, 96, 46, 182, 0, 151, 87, 44, 42, 29, 4, 96, 46, 42, 29, 5, 96, 46, 182]
def lq_R50 : List Nat := lq_A50 ++ lq_R51
def lq_A49 : List Nat := [87, 167, 6, 47, 43, 42, 29, 4, 96, 46, 42, 29, 5, 96, 46, 182, 0, 147, 87, 44, 42, 29, 4, 96, 46, 42, 29, 5, 96, 46, 182, 0]
def lq_R49 : List Nat := lq_A49 ++ lq_R50
def lq_A48 : List Nat := [29, 5, 96, 46, 42, 29, 6, 96, 46, 182, 0, 143, 87, 44, 42, 29, 4, 96, 46, 42, 29, 5, 96, 46, 42, 29, 6, 96, 46, 182, 0, 146]
def lq_R48 : List Nat := lq_A48 ++ lq_R49
def lq_A47 : List Nat := [139, 87, 44, 42, 29, 4, 96, 46, 42, 29, 5, 96, 46, 42, 29, 6, 96, 46, 182, 0, 142, 87, 167, 6, 90, 43, 42, 29, 4, 96, 46, 42]
def lq_R47 : List Nat := lq_A47 ++ lq_R48
def lq_A46 : List Nat := [96, 46, 42, 29, 6, 96, 46, 182, 0, 138, 87, 167, 6, 133, 43, 42, 29, 4, 96, 46, 42, 29, 5, 96, 46, 42, 29, 6, 96, 46, 182, 0]
def lq_R46 : List Nat := lq_A46 ++ lq_R47
def lq_A45 : List Nat := [167, 6, 176, 43, 42, 29, 4, 96, 46, 42, 29, 5, 96, 46, 42, 29, 6, 96, 46, 182, 0, 135, 87, 44, 42, 29, 4, 96, 46, 42, 29, 5]
def lq_R45 : List Nat := lq_A45 ++ lq_R46
def lq_A44 : List Nat := [5, 96, 46, 42, 29, 6, 96, 46, 182, 0, 131, 87, 44, 42, 29, 4, 96, 46, 42, 29, 5, 96, 46, 42, 29, 6, 96, 46, 182, 0, 134, 87]
def lq_R44 : List Nat := lq_A44 ++ lq_R45
def lq_A43 : List Nat := [96, 46, 182, 0, 127, 87, 44, 42, 29, 4, 96, 46, 42, 29, 5, 96, 46, 182, 0, 130, 87, 167, 6, 219, 43, 42, 29, 4, 96, 46, 42, 29]
def lq_R43 : List Nat := lq_A43 ++ lq_R44
def lq_A42 : List Nat := [44, 42, 29, 4, 96, 46, 42, 29, 5, 96, 46, 42, 29, 6, 96, 46, 182, 0, 126, 87, 167, 6, 252, 43, 42, 29, 4, 96, 46, 42, 29, 5]
def lq_R42 : List Nat := lq_A42 ++ lq_R43
def lq_A41 : List Nat := [42, 29, 6, 96, 46, 182, 0, 122, 87, 167, 7, 39, 43, 42, 29, 4, 96, 46, 42, 29, 5, 96, 46, 42, 29, 6, 96, 46, 182, 0, 123, 87]
def lq_R41 : List Nat := lq_A41 ++ lq_R42
def lq_A40 : List Nat := [82, 43, 42, 29, 4, 96, 46, 42, 29, 5, 96, 46, 42, 29, 6, 96, 46, 182, 0, 119, 87, 44, 42, 29, 4, 96, 46, 42, 29, 5, 96, 46]
def lq_R40 : List Nat := lq_A40 ++ lq_R41
def lq_A39 : List Nat := [43, 42, 29, 4, 96, 46, 42, 29, 5, 96, 46, 182, 0, 115, 87, 44, 42, 29, 4, 96, 46, 42, 29, 5, 96, 46, 182, 0, 118, 87, 167, 7]
def lq_R39 : List Nat := lq_A39 ++ lq_R40
def lq_A38 : List Nat := [42, 29, 4, 96, 46, 42, 29, 5, 96, 46, 182, 0, 111, 87, 44, 42, 29, 4, 96, 46, 42, 29, 5, 96, 46, 182, 0, 114, 87, 167, 7, 115]
def lq_R38 : List Nat := lq_A38 ++ lq_R39
def lq_A37 : List Nat := [0, 107, 87, 44, 42, 29, 4, 96, 46, 42, 29, 5, 96, 46, 42, 29, 6, 96, 46, 42, 29, 7, 96, 46, 182, 0, 110, 87, 167, 7, 148, 43]
def lq_R37 : List Nat := lq_A37 ++ lq_R38
def lq_A36 : List Nat := [7, 96, 46, 182, 0, 106, 87, 167, 7, 201, 43, 42, 29, 4, 96, 46, 42, 29, 5, 96, 46, 42, 29, 6, 96, 46, 42, 29, 7, 96, 46, 182]
def lq_R36 : List Nat := lq_A36 ++ lq_R37
def lq_A35 : List Nat := [42, 29, 6, 96, 46, 42, 29, 7, 96, 46, 182, 0, 103, 87, 44, 42, 29, 4, 96, 46, 42, 29, 5, 96, 46, 42, 29, 6, 96, 46, 42, 29]
def lq_R35 : List Nat := lq_A35 ++ lq_R36
def lq_A34 : List Nat := [29, 5, 96, 46, 42, 29, 6, 96, 46, 42, 29, 7, 96, 46, 182, 0, 102, 87, 167, 7, 254, 43, 42, 29, 4, 96, 46, 42, 29, 5, 96, 46]
def lq_R34 : List Nat := lq_A34 ++ lq_R35
def lq_A33 : List Nat := [43, 42, 29, 4, 96, 46, 42, 29, 5, 96, 46, 42, 29, 6, 96, 46, 42, 29, 7, 96, 46, 182, 0, 99, 87, 44, 42, 29, 4, 96, 46, 42]
def lq_R33 : List Nat := lq_A33 ++ lq_R34
def lq_A32 : List Nat := [42, 29, 6, 96, 46, 182, 0, 95, 87, 44, 42, 29, 4, 96, 46, 42, 29, 5, 96, 46, 42, 29, 6, 96, 46, 182, 0, 98, 87, 167, 8, 51]
def lq_R32 : List Nat := lq_A32 ++ lq_R33
def lq_A31 : List Nat := [29, 4, 96, 46, 42, 29, 5, 96, 46, 42, 29, 6, 96, 46, 182, 0, 94, 87, 167, 8, 94, 43, 42, 29, 4, 96, 46, 42, 29, 5, 96, 46]
def lq_R31 : List Nat := lq_A31 ++ lq_R32
def lq_A30 : List Nat := [6, 96, 46, 182, 0, 90, 87, 167, 8, 137, 43, 42, 29, 4, 96, 46, 42, 29, 5, 96, 46, 42, 29, 6, 96, 46, 182, 0, 91, 87, 44, 42]
def lq_R30 : List Nat := lq_A30 ++ lq_R31
def lq_A29 : List Nat := [42, 29, 4, 96, 46, 42, 29, 5, 96, 46, 42, 29, 6, 96, 46, 182, 0, 87, 87, 44, 42, 29, 4, 96, 46, 42, 29, 5, 96, 46, 42, 29]
def lq_R29 : List Nat := lq_A29 ++ lq_R30
def lq_A28 : List Nat := [29, 6, 96, 46, 182, 0, 83, 87, 44, 42, 29, 4, 96, 46, 42, 29, 5, 96, 46, 42, 29, 6, 96, 46, 182, 0, 86, 87, 167, 8, 180, 43]
def lq_R28 : List Nat := lq_A28 ++ lq_R29
def lq_A27 : List Nat := [79, 87, 44, 42, 29, 4, 96, 46, 42, 29, 5, 96, 46, 182, 0, 82, 87, 167, 8, 223, 43, 42, 29, 4, 96, 46, 42, 29, 5, 96, 46, 42]
def lq_R27 : List Nat := lq_A27 ++ lq_R28
def lq_A26 : List Nat := [96, 46, 182, 0, 75, 87, 44, 42, 29, 4, 96, 46, 182, 0, 78, 87, 167, 9, 0, 43, 42, 29, 4, 96, 46, 42, 29, 5, 96, 46, 182, 0]
def lq_R26 : List Nat := lq_A26 ++ lq_R27
def lq_A25 : List Nat := [70, 87, 167, 9, 46, 43, 42, 29, 4, 96, 46, 182, 0, 71, 87, 44, 42, 29, 4, 96, 46, 182, 0, 74, 87, 167, 9, 23, 43, 42, 29, 4]
def lq_R25 : List Nat := lq_A25 ++ lq_R26
def lq_A24 : List Nat := [87, 167, 9, 79, 43, 42, 29, 4, 96, 46, 42, 29, 5, 96, 46, 182, 0, 67, 87, 44, 42, 29, 4, 96, 46, 42, 29, 5, 96, 46, 182, 0]
def lq_R24 : List Nat := lq_A24 ++ lq_R25
def lq_A23 : List Nat := [29, 5, 96, 46, 42, 29, 6, 96, 46, 182, 0, 63, 87, 44, 42, 29, 4, 96, 46, 42, 29, 5, 96, 46, 42, 29, 6, 96, 46, 182, 0, 66]
def lq_R23 : List Nat := lq_A23 ++ lq_R24
def lq_A22 : List Nat := [4, 96, 46, 42, 29, 5, 96, 46, 42, 29, 6, 96, 46, 42, 29, 7, 96, 46, 182, 0, 62, 87, 167, 9, 122, 43, 42, 29, 4, 96, 46, 42]
def lq_R22 : List Nat := lq_A22 ++ lq_R23
def lq_A21 : List Nat := [87, 167, 9, 175, 43, 42, 29, 4, 96, 46, 42, 29, 5, 96, 46, 42, 29, 6, 96, 46, 42, 29, 7, 96, 46, 182, 0, 58, 87, 44, 42, 29]
def lq_R21 : List Nat := lq_A21 ++ lq_R22
def lq_A20 : List Nat := [46, 42, 29, 6, 96, 46, 182, 0, 53, 87, 167, 9, 198, 43, 42, 29, 4, 96, 46, 182, 0, 54, 87, 44, 42, 29, 4, 96, 46, 182, 0, 57]
def lq_R20 : List Nat := lq_A20 ++ lq_R21
def lq_A19 : List Nat := [9, 241, 43, 42, 29, 4, 96, 46, 42, 29, 5, 96, 46, 42, 29, 6, 96, 46, 182, 0, 50, 87, 44, 42, 29, 4, 96, 46, 42, 29, 5, 96]
def lq_R19 : List Nat := lq_A19 ++ lq_R20
def lq_A18 : List Nat := [96, 46, 42, 29, 6, 96, 46, 182, 0, 46, 87, 44, 42, 29, 4, 96, 46, 42, 29, 5, 96, 46, 42, 29, 6, 96, 46, 182, 0, 49, 87, 167]
def lq_R18 : List Nat := lq_A18 ++ lq_R19
def lq_A17 : List Nat := [44, 42, 29, 4, 96, 46, 42, 29, 5, 96, 46, 42, 29, 6, 96, 46, 182, 0, 45, 87, 167, 10, 28, 43, 42, 29, 4, 96, 46, 42, 29, 5]
def lq_R17 : List Nat := lq_A17 ++ lq_R18
def lq_A16 : List Nat := [42, 29, 5, 96, 46, 182, 0, 40, 87, 167, 10, 71, 43, 42, 29, 4, 96, 46, 42, 29, 5, 96, 46, 42, 29, 6, 96, 46, 182, 0, 41, 87]
def lq_R16 : List Nat := lq_A16 ++ lq_R17
def lq_A15 : List Nat := [29, 5, 96, 46, 182, 0, 36, 87, 167, 10, 104, 43, 42, 29, 4, 96, 46, 42, 29, 5, 96, 46, 182, 0, 37, 87, 44, 42, 29, 4, 96, 46]
def lq_R15 : List Nat := lq_A15 ++ lq_R16
def lq_A14 : List Nat := [4, 96, 46, 182, 0, 31, 87, 167, 10, 137, 43, 42, 29, 4, 96, 46, 42, 29, 5, 96, 46, 182, 0, 32, 87, 44, 42, 29, 4, 96, 46, 42]
def lq_R14 : List Nat := lq_A14 ++ lq_R15
def lq_A13 : List Nat := [0, 22, 87, 167, 10, 173, 43, 182, 0, 23, 87, 44, 182, 0, 27, 87, 167, 10, 160, 43, 42, 29, 4, 96, 46, 182, 0, 28, 87, 44, 42, 29]
def lq_R13 : List Nat := lq_A13 ++ lq_R14
def lq_A12 : List Nat := [7, 96, 46, 42, 29, 8, 96, 46, 182, 0, 17, 87, 167, 10, 196, 43, 42, 29, 4, 96, 46, 182, 0, 18, 87, 44, 42, 29, 4, 96, 46, 182]
def lq_R12 : List Nat := lq_A12 ++ lq_R13
def lq_A11 : List Nat := [42, 29, 7, 96, 46, 42, 29, 8, 96, 46, 182, 0, 13, 87, 44, 42, 29, 4, 96, 46, 42, 29, 5, 96, 46, 42, 29, 6, 96, 46, 42, 29]
def lq_R11 : List Nat := lq_A11 ++ lq_R12
def lq_A10 : List Nat := [0, 0, 11, 101, 0, 0, 11, 124, 0, 0, 11, 167, 0, 0, 11, 240, 43, 42, 29, 4, 96, 46, 42, 29, 5, 96, 46, 42, 29, 6, 96, 46]
def lq_R10 : List Nat := lq_A10 ++ lq_R11
def lq_A9 : List Nat := [0, 0, 10, 133, 0, 0, 10, 156, 0, 0, 10, 169, 0, 0, 10, 182, 0, 0, 10, 215, 0, 0, 11, 22, 0, 0, 11, 55, 0, 0, 11, 78]
def lq_R9 : List Nat := lq_A9 ++ lq_R10
def lq_A8 : List Nat := [0, 0, 9, 5, 0, 0, 9, 68, 0, 0, 9, 121, 0, 0, 9, 154, 0, 0, 9, 187, 0, 0, 9, 220, 0, 0, 10, 27, 0, 0, 10, 90]
def lq_R8 : List Nat := lq_A8 ++ lq_R9
def lq_A7 : List Nat := [0, 0, 7, 213, 0, 0, 7, 246, 0, 0, 8, 33, 0, 0, 8, 66, 0, 0, 8, 109, 0, 0, 8, 142, 0, 0, 8, 175, 0, 0, 8, 208]
def lq_R7 : List Nat := lq_A7 ++ lq_R8
def lq_A6 : List Nat := [0, 0, 6, 145, 0, 0, 6, 168, 0, 0, 6, 191, 0, 0, 6, 224, 0, 0, 7, 11, 0, 0, 7, 54, 0, 0, 7, 117, 0, 0, 7, 180]
def lq_R6 : List Nat := lq_A6 ++ lq_R7
def lq_A5 : List Nat := [0, 0, 5, 87, 0, 0, 5, 130, 0, 0, 5, 173, 0, 0, 5, 216, 0, 0, 6, 3, 0, 0, 6, 36, 0, 0, 6, 69, 0, 0, 6, 112]
def lq_R5 : List Nat := lq_A5 ++ lq_R6
def lq_A4 : List Nat := [0, 0, 3, 255, 0, 0, 4, 52, 0, 0, 4, 105, 0, 0, 4, 158, 0, 0, 4, 191, 0, 0, 4, 224, 0, 0, 5, 11, 0, 0, 5, 54]
def lq_R4 : List Nat := lq_A4 ++ lq_R5
def lq_A3 : List Nat := [0, 0, 2, 227, 0, 0, 3, 4, 0, 0, 3, 27, 0, 0, 3, 50, 0, 0, 3, 83, 0, 0, 3, 126, 0, 0, 3, 169, 0, 0, 3, 212]
def lq_R3 : List Nat := lq_A3 ++ lq_R4
def lq_A2 : List Nat := [0, 0, 1, 169, 0, 0, 1, 202, 0, 0, 1, 235, 0, 0, 2, 22, 0, 0, 2, 65, 0, 0, 2, 108, 0, 0, 2, 131, 0, 0, 2, 184]
def lq_R2 : List Nat := lq_A2 ++ lq_R3
def lq_A1 : List Nat := [126, 170, 0, 0, 0, 0, 12, 47, 0, 0, 0, 0, 0, 0, 0, 71, 0, 0, 1, 47, 0, 0, 1, 110, 0, 0, 1, 133, 0, 0, 1, 146]
def lq_R1 : List Nat := lq_A1 ++ lq_R2
def lq_A0 : List Nat := [187, 0, 7, 89, 183, 0, 9, 76, 187, 0, 10, 89, 183, 0, 12, 77, 3, 62, 29, 42, 190, 16, 6, 100, 163, 12, 62, 42, 29, 46, 16, 127]
def lq_R0 : List Nat := lq_A0 ++ lq_R1
theorem lq_all : mm_ls cL_law = lq_R0 := by decide +kernel
theorem lq_s0 : (mm_ls cL_law).drop 0 = lq_R0 := lq_all
theorem lq_s1 : (mm_ls cL_law).drop 32 = lq_R1 := mm_sgN (A := lq_A0) (R := lq_R1) lq_s0 rfl rfl
theorem lq_s2 : (mm_ls cL_law).drop 64 = lq_R2 := mm_sgN (A := lq_A1) (R := lq_R2) lq_s1 rfl rfl
theorem lq_s3 : (mm_ls cL_law).drop 96 = lq_R3 := mm_sgN (A := lq_A2) (R := lq_R3) lq_s2 rfl rfl
theorem lq_s4 : (mm_ls cL_law).drop 128 = lq_R4 := mm_sgN (A := lq_A3) (R := lq_R4) lq_s3 rfl rfl
theorem lq_s5 : (mm_ls cL_law).drop 160 = lq_R5 := mm_sgN (A := lq_A4) (R := lq_R5) lq_s4 rfl rfl
theorem lq_s6 : (mm_ls cL_law).drop 192 = lq_R6 := mm_sgN (A := lq_A5) (R := lq_R6) lq_s5 rfl rfl
theorem lq_s7 : (mm_ls cL_law).drop 224 = lq_R7 := mm_sgN (A := lq_A6) (R := lq_R7) lq_s6 rfl rfl
theorem lq_s8 : (mm_ls cL_law).drop 256 = lq_R8 := mm_sgN (A := lq_A7) (R := lq_R8) lq_s7 rfl rfl
theorem lq_s9 : (mm_ls cL_law).drop 288 = lq_R9 := mm_sgN (A := lq_A8) (R := lq_R9) lq_s8 rfl rfl
theorem lq_s10 : (mm_ls cL_law).drop 320 = lq_R10 := mm_sgN (A := lq_A9) (R := lq_R10) lq_s9 rfl rfl
theorem lq_s11 : (mm_ls cL_law).drop 352 = lq_R11 := mm_sgN (A := lq_A10) (R := lq_R11) lq_s10 rfl rfl
theorem lq_s12 : (mm_ls cL_law).drop 384 = lq_R12 := mm_sgN (A := lq_A11) (R := lq_R12) lq_s11 rfl rfl
theorem lq_s13 : (mm_ls cL_law).drop 416 = lq_R13 := mm_sgN (A := lq_A12) (R := lq_R13) lq_s12 rfl rfl
theorem lq_s14 : (mm_ls cL_law).drop 448 = lq_R14 := mm_sgN (A := lq_A13) (R := lq_R14) lq_s13 rfl rfl
theorem lq_s15 : (mm_ls cL_law).drop 480 = lq_R15 := mm_sgN (A := lq_A14) (R := lq_R15) lq_s14 rfl rfl
theorem lq_s16 : (mm_ls cL_law).drop 512 = lq_R16 := mm_sgN (A := lq_A15) (R := lq_R16) lq_s15 rfl rfl
theorem lq_s17 : (mm_ls cL_law).drop 544 = lq_R17 := mm_sgN (A := lq_A16) (R := lq_R17) lq_s16 rfl rfl
theorem lq_s18 : (mm_ls cL_law).drop 576 = lq_R18 := mm_sgN (A := lq_A17) (R := lq_R18) lq_s17 rfl rfl
theorem lq_s19 : (mm_ls cL_law).drop 608 = lq_R19 := mm_sgN (A := lq_A18) (R := lq_R19) lq_s18 rfl rfl
theorem lq_s20 : (mm_ls cL_law).drop 640 = lq_R20 := mm_sgN (A := lq_A19) (R := lq_R20) lq_s19 rfl rfl
theorem lq_s21 : (mm_ls cL_law).drop 672 = lq_R21 := mm_sgN (A := lq_A20) (R := lq_R21) lq_s20 rfl rfl
theorem lq_s22 : (mm_ls cL_law).drop 704 = lq_R22 := mm_sgN (A := lq_A21) (R := lq_R22) lq_s21 rfl rfl
theorem lq_s23 : (mm_ls cL_law).drop 736 = lq_R23 := mm_sgN (A := lq_A22) (R := lq_R23) lq_s22 rfl rfl
theorem lq_s24 : (mm_ls cL_law).drop 768 = lq_R24 := mm_sgN (A := lq_A23) (R := lq_R24) lq_s23 rfl rfl
theorem lq_s25 : (mm_ls cL_law).drop 800 = lq_R25 := mm_sgN (A := lq_A24) (R := lq_R25) lq_s24 rfl rfl
theorem lq_s26 : (mm_ls cL_law).drop 832 = lq_R26 := mm_sgN (A := lq_A25) (R := lq_R26) lq_s25 rfl rfl
theorem lq_s27 : (mm_ls cL_law).drop 864 = lq_R27 := mm_sgN (A := lq_A26) (R := lq_R27) lq_s26 rfl rfl
theorem lq_s28 : (mm_ls cL_law).drop 896 = lq_R28 := mm_sgN (A := lq_A27) (R := lq_R28) lq_s27 rfl rfl
theorem lq_s29 : (mm_ls cL_law).drop 928 = lq_R29 := mm_sgN (A := lq_A28) (R := lq_R29) lq_s28 rfl rfl
theorem lq_s30 : (mm_ls cL_law).drop 960 = lq_R30 := mm_sgN (A := lq_A29) (R := lq_R30) lq_s29 rfl rfl
theorem lq_s31 : (mm_ls cL_law).drop 992 = lq_R31 := mm_sgN (A := lq_A30) (R := lq_R31) lq_s30 rfl rfl
theorem lq_s32 : (mm_ls cL_law).drop 1024 = lq_R32 := mm_sgN (A := lq_A31) (R := lq_R32) lq_s31 rfl rfl
theorem lq_s33 : (mm_ls cL_law).drop 1056 = lq_R33 := mm_sgN (A := lq_A32) (R := lq_R33) lq_s32 rfl rfl
theorem lq_s34 : (mm_ls cL_law).drop 1088 = lq_R34 := mm_sgN (A := lq_A33) (R := lq_R34) lq_s33 rfl rfl
theorem lq_s35 : (mm_ls cL_law).drop 1120 = lq_R35 := mm_sgN (A := lq_A34) (R := lq_R35) lq_s34 rfl rfl
theorem lq_s36 : (mm_ls cL_law).drop 1152 = lq_R36 := mm_sgN (A := lq_A35) (R := lq_R36) lq_s35 rfl rfl
theorem lq_s37 : (mm_ls cL_law).drop 1184 = lq_R37 := mm_sgN (A := lq_A36) (R := lq_R37) lq_s36 rfl rfl
theorem lq_s38 : (mm_ls cL_law).drop 1216 = lq_R38 := mm_sgN (A := lq_A37) (R := lq_R38) lq_s37 rfl rfl
theorem lq_s39 : (mm_ls cL_law).drop 1248 = lq_R39 := mm_sgN (A := lq_A38) (R := lq_R39) lq_s38 rfl rfl
theorem lq_s40 : (mm_ls cL_law).drop 1280 = lq_R40 := mm_sgN (A := lq_A39) (R := lq_R40) lq_s39 rfl rfl
theorem lq_s41 : (mm_ls cL_law).drop 1312 = lq_R41 := mm_sgN (A := lq_A40) (R := lq_R41) lq_s40 rfl rfl
theorem lq_s42 : (mm_ls cL_law).drop 1344 = lq_R42 := mm_sgN (A := lq_A41) (R := lq_R42) lq_s41 rfl rfl
theorem lq_s43 : (mm_ls cL_law).drop 1376 = lq_R43 := mm_sgN (A := lq_A42) (R := lq_R43) lq_s42 rfl rfl
theorem lq_s44 : (mm_ls cL_law).drop 1408 = lq_R44 := mm_sgN (A := lq_A43) (R := lq_R44) lq_s43 rfl rfl
theorem lq_s45 : (mm_ls cL_law).drop 1440 = lq_R45 := mm_sgN (A := lq_A44) (R := lq_R45) lq_s44 rfl rfl
theorem lq_s46 : (mm_ls cL_law).drop 1472 = lq_R46 := mm_sgN (A := lq_A45) (R := lq_R46) lq_s45 rfl rfl
theorem lq_s47 : (mm_ls cL_law).drop 1504 = lq_R47 := mm_sgN (A := lq_A46) (R := lq_R47) lq_s46 rfl rfl
theorem lq_s48 : (mm_ls cL_law).drop 1536 = lq_R48 := mm_sgN (A := lq_A47) (R := lq_R48) lq_s47 rfl rfl
theorem lq_s49 : (mm_ls cL_law).drop 1568 = lq_R49 := mm_sgN (A := lq_A48) (R := lq_R49) lq_s48 rfl rfl
theorem lq_s50 : (mm_ls cL_law).drop 1600 = lq_R50 := mm_sgN (A := lq_A49) (R := lq_R50) lq_s49 rfl rfl
theorem lq_s51 : (mm_ls cL_law).drop 1632 = lq_R51 := mm_sgN (A := lq_A50) (R := lq_R51) lq_s50 rfl rfl
theorem lq_s52 : (mm_ls cL_law).drop 1664 = lq_R52 := mm_sgN (A := lq_A51) (R := lq_R52) lq_s51 rfl rfl
theorem lq_s53 : (mm_ls cL_law).drop 1696 = lq_R53 := mm_sgN (A := lq_A52) (R := lq_R53) lq_s52 rfl rfl
theorem lq_s54 : (mm_ls cL_law).drop 1728 = lq_R54 := mm_sgN (A := lq_A53) (R := lq_R54) lq_s53 rfl rfl
theorem lq_s55 : (mm_ls cL_law).drop 1760 = lq_R55 := mm_sgN (A := lq_A54) (R := lq_R55) lq_s54 rfl rfl
theorem lq_s56 : (mm_ls cL_law).drop 1792 = lq_R56 := mm_sgN (A := lq_A55) (R := lq_R56) lq_s55 rfl rfl
theorem lq_s57 : (mm_ls cL_law).drop 1824 = lq_R57 := mm_sgN (A := lq_A56) (R := lq_R57) lq_s56 rfl rfl
theorem lq_s58 : (mm_ls cL_law).drop 1856 = lq_R58 := mm_sgN (A := lq_A57) (R := lq_R58) lq_s57 rfl rfl
theorem lq_s59 : (mm_ls cL_law).drop 1888 = lq_R59 := mm_sgN (A := lq_A58) (R := lq_R59) lq_s58 rfl rfl
theorem lq_s60 : (mm_ls cL_law).drop 1920 = lq_R60 := mm_sgN (A := lq_A59) (R := lq_R60) lq_s59 rfl rfl
theorem lq_s61 : (mm_ls cL_law).drop 1952 = lq_R61 := mm_sgN (A := lq_A60) (R := lq_R61) lq_s60 rfl rfl
theorem lq_s62 : (mm_ls cL_law).drop 1984 = lq_R62 := mm_sgN (A := lq_A61) (R := lq_R62) lq_s61 rfl rfl
theorem lq_s63 : (mm_ls cL_law).drop 2016 = lq_R63 := mm_sgN (A := lq_A62) (R := lq_R63) lq_s62 rfl rfl
theorem lq_s64 : (mm_ls cL_law).drop 2048 = lq_R64 := mm_sgN (A := lq_A63) (R := lq_R64) lq_s63 rfl rfl
theorem lq_s65 : (mm_ls cL_law).drop 2080 = lq_R65 := mm_sgN (A := lq_A64) (R := lq_R65) lq_s64 rfl rfl
theorem lq_s66 : (mm_ls cL_law).drop 2112 = lq_R66 := mm_sgN (A := lq_A65) (R := lq_R66) lq_s65 rfl rfl
theorem lq_s67 : (mm_ls cL_law).drop 2144 = lq_R67 := mm_sgN (A := lq_A66) (R := lq_R67) lq_s66 rfl rfl
theorem lq_s68 : (mm_ls cL_law).drop 2176 = lq_R68 := mm_sgN (A := lq_A67) (R := lq_R68) lq_s67 rfl rfl
theorem lq_s69 : (mm_ls cL_law).drop 2208 = lq_R69 := mm_sgN (A := lq_A68) (R := lq_R69) lq_s68 rfl rfl
theorem lq_s70 : (mm_ls cL_law).drop 2240 = lq_R70 := mm_sgN (A := lq_A69) (R := lq_R70) lq_s69 rfl rfl
theorem lq_s71 : (mm_ls cL_law).drop 2272 = lq_R71 := mm_sgN (A := lq_A70) (R := lq_R71) lq_s70 rfl rfl
theorem lq_s72 : (mm_ls cL_law).drop 2304 = lq_R72 := mm_sgN (A := lq_A71) (R := lq_R72) lq_s71 rfl rfl
theorem lq_s73 : (mm_ls cL_law).drop 2336 = lq_R73 := mm_sgN (A := lq_A72) (R := lq_R73) lq_s72 rfl rfl
theorem lq_s74 : (mm_ls cL_law).drop 2368 = lq_R74 := mm_sgN (A := lq_A73) (R := lq_R74) lq_s73 rfl rfl
theorem lq_s75 : (mm_ls cL_law).drop 2400 = lq_R75 := mm_sgN (A := lq_A74) (R := lq_R75) lq_s74 rfl rfl
theorem lq_s76 : (mm_ls cL_law).drop 2432 = lq_R76 := mm_sgN (A := lq_A75) (R := lq_R76) lq_s75 rfl rfl
theorem lq_s77 : (mm_ls cL_law).drop 2464 = lq_R77 := mm_sgN (A := lq_A76) (R := lq_R77) lq_s76 rfl rfl
theorem lq_s78 : (mm_ls cL_law).drop 2496 = lq_R78 := mm_sgN (A := lq_A77) (R := lq_R78) lq_s77 rfl rfl
theorem lq_s79 : (mm_ls cL_law).drop 2528 = lq_R79 := mm_sgN (A := lq_A78) (R := lq_R79) lq_s78 rfl rfl
theorem lq_s80 : (mm_ls cL_law).drop 2560 = lq_R80 := mm_sgN (A := lq_A79) (R := lq_R80) lq_s79 rfl rfl
theorem lq_s81 : (mm_ls cL_law).drop 2592 = lq_R81 := mm_sgN (A := lq_A80) (R := lq_R81) lq_s80 rfl rfl
theorem lq_s82 : (mm_ls cL_law).drop 2624 = lq_R82 := mm_sgN (A := lq_A81) (R := lq_R82) lq_s81 rfl rfl
theorem lq_s83 : (mm_ls cL_law).drop 2656 = lq_R83 := mm_sgN (A := lq_A82) (R := lq_R83) lq_s82 rfl rfl
theorem lq_s84 : (mm_ls cL_law).drop 2688 = lq_R84 := mm_sgN (A := lq_A83) (R := lq_R84) lq_s83 rfl rfl
theorem lq_s85 : (mm_ls cL_law).drop 2720 = lq_R85 := mm_sgN (A := lq_A84) (R := lq_R85) lq_s84 rfl rfl
theorem lq_s86 : (mm_ls cL_law).drop 2752 = lq_R86 := mm_sgN (A := lq_A85) (R := lq_R86) lq_s85 rfl rfl
theorem lq_s87 : (mm_ls cL_law).drop 2784 = lq_R87 := mm_sgN (A := lq_A86) (R := lq_R87) lq_s86 rfl rfl
theorem lq_s88 : (mm_ls cL_law).drop 2816 = lq_R88 := mm_sgN (A := lq_A87) (R := lq_R88) lq_s87 rfl rfl
theorem lq_s89 : (mm_ls cL_law).drop 2848 = lq_R89 := mm_sgN (A := lq_A88) (R := lq_R89) lq_s88 rfl rfl
theorem lq_s90 : (mm_ls cL_law).drop 2880 = lq_R90 := mm_sgN (A := lq_A89) (R := lq_R90) lq_s89 rfl rfl
theorem lq_s91 : (mm_ls cL_law).drop 2912 = lq_R91 := mm_sgN (A := lq_A90) (R := lq_R91) lq_s90 rfl rfl
theorem lq_s92 : (mm_ls cL_law).drop 2944 = lq_R92 := mm_sgN (A := lq_A91) (R := lq_R92) lq_s91 rfl rfl
theorem lq_s93 : (mm_ls cL_law).drop 2976 = lq_R93 := mm_sgN (A := lq_A92) (R := lq_R93) lq_s92 rfl rfl
theorem lq_s94 : (mm_ls cL_law).drop 3008 = lq_R94 := mm_sgN (A := lq_A93) (R := lq_R94) lq_s93 rfl rfl
theorem lq_s95 : (mm_ls cL_law).drop 3040 = lq_R95 := mm_sgN (A := lq_A94) (R := lq_R95) lq_s94 rfl rfl
theorem lq_s96 : (mm_ls cL_law).drop 3072 = lq_R96 := mm_sgN (A := lq_A95) (R := lq_R96) lq_s95 rfl rfl
theorem lq_s97 : (mm_ls cL_law).drop 3104 = lq_R97 := mm_sgN (A := lq_A96) (R := lq_R97) lq_s96 rfl rfl
theorem lq_s98 : (mm_ls cL_law).drop 3136 = lq_R98 := mm_sgN (A := lq_A97) (R := lq_R98) lq_s97 rfl rfl
