/-! small rows -/
theorem nI_dec1 {n : Nat} (h : 0 < n) : nI n + Int32.ofInt (-1) = nI (n - 1) := sb_m1 h
theorem g_pick {g : Gp} {M : MI} {Q : Rs → Mm → Prop} {pc : Nat} {L L1 : List (Nat × Value)} {st : List Value} {u : Nat × Nat} {m : Mm} (ks : List Nat) (h : lv_pick L ks = L1) (k : G g M Q pc L1 st u m) : G g M Q pc L st u m :=
  fun p l e s mm args below meth c H locs ls C hW hB hS hl => k p l e s mm args below meth c H locs ls C hW hB hS (lv_sub hl ks h)
theorem pn_X0 : plainName RX0 = true := by decide +kernel
theorem pn_X1 : plainName RX1 = true := by decide +kernel
theorem pn_X2 : plainName RX2 = true := by decide +kernel
theorem pn_X3 : plainName RX3 = true := by decide +kernel
theorem pn_X4 : plainName RX4 = true := by decide +kernel
theorem pn_X5 : plainName RX5 = true := by decide +kernel
theorem pn_X6 : plainName RX6 = true := by decide +kernel
theorem pn_X7 : plainName RX7 = true := by decide +kernel
theorem pn_X8 : plainName RX8 = true := by decide +kernel
theorem pn_X9 : plainName RX9 = true := by decide +kernel
theorem pn_X10 : plainName RX10 = true := by decide +kernel
/-- a number within 0 .. n - 1 -/
def inb (x : Int32) (n : Nat) : Prop := 0 ≤ x.toInt ∧ x.toInt < (n : Int)
theorem inb_of {x : Int32} {n : Nat} (h : inb x n) (hn : n ≤ 2147483648) : ∃ j, j < n ∧ x = nI j := by
  obtain ⟨h1, h2⟩ := h
  obtain ⟨j, hj⟩ := Int.eq_ofNat_of_zero_le h1
  refine ⟨j, by omega, ?_⟩
  apply Int32.toInt_inj.mp
  rw [hj, nI_toInt (by omega)]
theorem inb_nI {j n : Nat} (hj : j < 2147483648) : inb (nI j) n ↔ j < n := by
  unfold inb
  rw [nI_toInt hj]
  omega
theorem le_tI {a b : Int32} : a ≤ b ↔ a.toInt ≤ b.toInt := Int32.le_iff_toInt_le
theorem lt_tI {a b : Int32} : a < b ↔ a.toInt < b.toInt := Int32.lt_iff_toInt_lt
/-- 1 or 0 -/
noncomputable def b01 (p : Prop) : Nat := @ite Nat p (Classical.propDecidable p) 1 0
theorem b01_t {p : Prop} (h : p) : b01 p = 1 := by unfold b01; exact if_pos h
theorem b01_f {p : Prop} (h : ¬ p) : b01 p = 0 := by unfold b01; exact if_neg h
theorem b01_le (p : Prop) : b01 p ≤ 1 := by
  by_cases h : p
  · rw [b01_t h]; exact Nat.le_refl 1
  · rw [b01_f h]; exact Nat.zero_le 1
theorem b01_lt (p : Prop) : b01 p < 2147483648 := Nat.lt_of_le_of_lt (b01_le p) (by decide)
theorem b01_z {p : Prop} : b01 p = 0 ↔ ¬ p := by
  by_cases h : p
  · rw [b01_t h]; simp [h]
  · rw [b01_f h]; simp [h]
theorem b01_n {p : Prop} : ¬ b01 p = 0 ↔ p := by rw [b01_z, Classical.not_not]
theorem b01_c {p q : Prop} (h : p ↔ q) : b01 p = b01 q := by rw [propext h]
theorem nar_b01 (p : Prop) : narrow .boolean (.int (nI (b01 p))) = .int (nI (b01 p)) := by
  by_cases h : p
  · rw [b01_t h]; rfl
  · rw [b01_f h]; rfl
theorem nI_tI' {n : Nat} (h : n < 2147483648) : (nI n).toInt = (n : Int) := nI_toInt h
theorem in_inb {x : Int32} {n : Nat} (hn : n < 2147483648) : (nI 0 ≤ x ∧ x ≤ nI n) ↔ inb x (n + 1) := by
  unfold inb
  rw [le_tI, le_tI, nI_tI' hn, nI_tI' (show 0 < 2147483648 by decide)]
  omega
/-! ===== the model: its cells; what is kept ===== -/
/-- the model at a: the object and its eight rows behind it -/
def MdOk (m : Mm) (a : Nat) : Prop := (tg m a = (10, 0) ∧ tg m (a + 1) = (11, 689) ∧ tg m (a + 2) = (11, 4134) ∧ tg m (a + 3) = (11, 689) ∧ tg m (a + 4) = (11, 60) ∧ tg m (a + 5) = (11, 12) ∧ tg m (a + 6) = (11, 12) ∧ tg m (a + 7) = (11, 169) ∧ tg m (a + 8) = (11, 31)) ∧
  (rf m a 0 = some (a + 1) ∧ rf m a 1 = some (a + 2) ∧ rf m a 2 = some (a + 3) ∧ rf m a 4 = some (a + 4) ∧ rf m a 7 = some (a + 5) ∧ rf m a 8 = some (a + 6) ∧ rf m a 11 = some (a + 7) ∧ rf m a 14 = some (a + 8))
theorem MdOk.t {m : Mm} {a : Nat} (h : MdOk m a) : tg m a = (10, 0) := h.1.1
theorem MdOk.t1 {m : Mm} {a : Nat} (h : MdOk m a) : tg m (a + 1) = (11, 689) := h.1.2.1
theorem MdOk.t2 {m : Mm} {a : Nat} (h : MdOk m a) : tg m (a + 2) = (11, 4134) := h.1.2.2.1
theorem MdOk.t3 {m : Mm} {a : Nat} (h : MdOk m a) : tg m (a + 3) = (11, 689) := h.1.2.2.2.1
theorem MdOk.t4 {m : Mm} {a : Nat} (h : MdOk m a) : tg m (a + 4) = (11, 60) := h.1.2.2.2.2.1
theorem MdOk.t5 {m : Mm} {a : Nat} (h : MdOk m a) : tg m (a + 5) = (11, 12) := h.1.2.2.2.2.2.1
theorem MdOk.t6 {m : Mm} {a : Nat} (h : MdOk m a) : tg m (a + 6) = (11, 12) := h.1.2.2.2.2.2.2.1
theorem MdOk.t7 {m : Mm} {a : Nat} (h : MdOk m a) : tg m (a + 7) = (11, 169) := h.1.2.2.2.2.2.2.2.1
theorem MdOk.t8 {m : Mm} {a : Nat} (h : MdOk m a) : tg m (a + 8) = (11, 31) := h.1.2.2.2.2.2.2.2.2
theorem MdOk.r0 {m : Mm} {a : Nat} (h : MdOk m a) : rf m a 0 = some (a + 1) := h.2.1
theorem MdOk.r1 {m : Mm} {a : Nat} (h : MdOk m a) : rf m a 1 = some (a + 2) := h.2.2.1
theorem MdOk.r2 {m : Mm} {a : Nat} (h : MdOk m a) : rf m a 2 = some (a + 3) := h.2.2.2.1
theorem MdOk.r4 {m : Mm} {a : Nat} (h : MdOk m a) : rf m a 4 = some (a + 4) := h.2.2.2.2.1
theorem MdOk.r7 {m : Mm} {a : Nat} (h : MdOk m a) : rf m a 7 = some (a + 5) := h.2.2.2.2.2.1
theorem MdOk.r8 {m : Mm} {a : Nat} (h : MdOk m a) : rf m a 8 = some (a + 6) := h.2.2.2.2.2.2.1
theorem MdOk.r11 {m : Mm} {a : Nat} (h : MdOk m a) : rf m a 11 = some (a + 7) := h.2.2.2.2.2.2.2.1
theorem MdOk.r14 {m : Mm} {a : Nat} (h : MdOk m a) : rf m a 14 = some (a + 8) := h.2.2.2.2.2.2.2.2
/-- the ints (and the longs) set anew, all else as it was -/
def wI (m : Mm) (I : Nat → Nat → Int32) : Mm := (fz m, tg m, I, rf m, jm m)
theorem wI_s (m : Mm) (I : Nat → Nat → Int32) (a k : Nat) (v : Int32) : sI (wI m I) a k v = wI m (u2 I a k v) := rfl
theorem wI_0 (m : Mm) : wI m (im m) = m := rfl
theorem im_wI (m : Mm) (I : Nat → Nat → Int32) : im (wI m I) = I := rfl
theorem tg_wI (m : Mm) (I : Nat → Nat → Int32) : tg (wI m I) = tg m := rfl
theorem rf_wI (m : Mm) (I : Nat → Nat → Int32) : rf (wI m I) = rf m := rfl
theorem MdOk.w {m : Mm} {a : Nat} (h : MdOk m a) (I : Nat → Nat → Int32) : MdOk (wI m I) a := h
/-- two roads that meet with a number on the stack -/
theorem g_join {g : Gp} {M : MI} {Q : Rs → Mm → Prop} {pc : Nat} {L : List (Nat × Value)} {st : List Value} {u : Nat × Nat} {m : Mm} (pc2 n : Nat) (k : G g M Q pc2 L (.int (nI n) :: st) u m) (h : G g M Q pc2 L (.int (nI n) :: st) u m → G g M Q pc L st u m) : G g M Q pc L st u m := h k
theorem g_joinI {g : Gp} {M : MI} {Q : Rs → Mm → Prop} {pc : Nat} {L : List (Nat × Value)} {st : List Value} {u : Nat × Nat} {m : Mm} (pc2 : Nat) (x : Int32) (k : G g M Q pc2 L (.int x :: st) u m) (h : G g M Q pc2 L (.int x :: st) u m → G g M Q pc L st u m) : G g M Q pc L st u m := h k
