/-! a stretch of places set anew -/
def cpI (I : Nat → Nat → Int32) (b d n : Nat) (f : Nat → Int32) : Nat → Nat → Int32 := fun x y => if x = b ∧ d ≤ y ∧ y < d + n then f (y - d) else I x y
theorem cpI_0 (I : Nat → Nat → Int32) (b d : Nat) (f : Nat → Int32) : cpI I b d 0 f = I := by
  funext x y
  unfold cpI
  rw [if_neg (by omega)]
theorem cpI_s (I : Nat → Nat → Int32) (b d n y : Nat) (f : Nat → Int32) (v : Int32) (hy : y = d + n) (hv : v = f n) : u2 (cpI I b d n f) b y v = cpI I b d (n + 1) f := by
  subst hy; subst hv
  funext x y
  show (if x = b ∧ y = d + n then f n else if x = b ∧ d ≤ y ∧ y < d + n then f (y - d) else I x y) = if x = b ∧ d ≤ y ∧ y < d + (n + 1) then f (y - d) else I x y
  by_cases h : x = b ∧ y = d + n
  · obtain ⟨rfl, rfl⟩ := h
    rw [if_pos ⟨rfl, rfl⟩, if_pos ⟨rfl, by omega, by omega⟩]
    congr 1; omega
  · rw [if_neg h]
    by_cases h2 : x = b ∧ d ≤ y ∧ y < d + n
    · rw [if_pos h2, if_pos (by omega)]
    · rw [if_neg h2, if_neg (by omega)]
theorem cpI_ne (I : Nat → Nat → Int32) (b d n : Nat) (f : Nat → Int32) {x : Nat} (h : x ≠ b) : cpI I b d n f x = I x := by
  funext y
  unfold cpI
  rw [if_neg (fun z => h z.1)]
theorem cpI_in (I : Nat → Nat → Int32) (b d n : Nat) (f : Nat → Int32) {y : Nat} (h : d ≤ y) (h2 : y < d + n) : cpI I b d n f b y = f (y - d) := by
  unfold cpI
  rw [if_pos ⟨rfl, h, h2⟩]
theorem cpI_out (I : Nat → Nat → Int32) (b d n : Nat) (f : Nat → Int32) {y : Nat} (h : y < d ∨ d + n ≤ y) : cpI I b d n f b y = I b y := by
  unfold cpI
  rw [if_neg (by omega)]
/-- the number that an int holds, if it is one -/
def nv (x : Int32) : Nat := x.toInt.toNat
theorem nv_nI {n : Nat} (h : n < 2147483648) : nv (nI n) = n := by
  unfold nv; rw [nI_tI' h]; rfl
/-- x is a number up to b -/
def NB (x : Int32) (b : Nat) : Prop := x = nI (nv x) ∧ nv x ≤ b
theorem NB_nI {n b : Nat} (h : n ≤ b) (hb : b < 2147483648) : NB (nI n) b := by
  unfold NB; rw [nv_nI (by omega)]; exact ⟨rfl, h⟩
theorem NB.up {x : Int32} {b c : Nat} (h : NB x b) (hc : b ≤ c) : NB x c := ⟨h.1, Nat.le_trans h.2 hc⟩
theorem seg_in {x : Int32} {N : Nat} (hN : N < 2147483648) : (nI 0 ≤ x ∧ x ≤ nI N - nI 1) ↔ inb x N := by
  unfold inb
  have h1 : (nI N - nI 1).toInt = (N : Int) - 1 := by
    rcases Nat.eq_zero_or_pos N with z | z
    · subst z; decide
    · rw [pk_sub (show 1 ≤ N from z), nI_tI' (by omega)]; omega
  rw [le_tI, le_tI, h1, nI_tI' (show 0 < 2147483648 by decide)]
  omega
theorem wI_cp (m : Mm) (I : Nat → Nat → Int32) (b d n y : Nat) (f : Nat → Int32) (v : Int32) (hy : y = d + n) (hv : v = f n) : sI (wI m (cpI I b d n f)) b y v = wI m (cpI I b d (n + 1) f) := congrArg (wI m) (cpI_s I b d n y f v hy hv)
