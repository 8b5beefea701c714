/-! a text of rows: f the characters, k how many -/
/-- a letter at p -/
def isl (f : Nat → Int32) (k p : Nat) : Prop := p < k ∧ inb (f p - nI 97) 8
/-- how many letters from p on, at most c -/
noncomputable def rl (f : Nat → Int32) (k : Nat) : Nat → Nat → Nat
  | 0, _ => 0
  | c + 1, p => @ite Nat (isl f k p) (Classical.propDecidable _) (rl f k c (p + 1) + 1) 0
theorem rl_t {f : Nat → Int32} {k c p : Nat} (h : isl f k p) : rl f k (c + 1) p = rl f k c (p + 1) + 1 := if_pos h
theorem rl_f {f : Nat → Int32} {k c p : Nat} (h : ¬ isl f k p) : rl f k (c + 1) p = 0 := if_neg h
theorem rl_le (f : Nat → Int32) (k : Nat) : ∀ c p, rl f k c p ≤ c := by
  intro c
  induction c with
  | zero => intro p; exact Nat.le_refl 0
  | succ c ih =>
    intro p
    by_cases h : isl f k p
    · rw [rl_t h]; have := ih (p + 1); omega
    · rw [rl_f h]; exact Nat.zero_le _
theorem rl_k (f : Nat → Int32) (k : Nat) : ∀ c p, p ≤ k → p + rl f k c p ≤ k := by
  intro c
  induction c with
  | zero => intro p h; exact h
  | succ c ih =>
    intro p h
    by_cases q : isl f k p
    · rw [rl_t q]; have := ih (p + 1) q.1; omega
    · rw [rl_f q]; exact h
/-- where the row i begins, how long it is -/
noncomputable def ps (f : Nat → Int32) (k : Nat) : Nat → Nat
  | 0 => 0
  | i + 1 => ps f k i + rl f k 12 (ps f k i) + 1
noncomputable abbrev ln (f : Nat → Int32) (k i : Nat) : Nat := rl f k 12 (ps f k i)
/-- another row behind the row i -/
def cont (f : Nat → Int32) (k i : Nat) : Prop := 0 < ln f k i ∧ ps f k i + ln f k i < k ∧ f (ps f k i + ln f k i) = nI 59
/-- the last row, from the row i on -/
noncomputable def prT (f : Nat → Int32) (k : Nat) : Nat → Nat → Nat
  | 0, i => i
  | n + 1, i => @ite Nat (cont f k i) (Classical.propDecidable _) (prT f k n (i + 1)) i
theorem prT_t {f : Nat → Int32} {k n i : Nat} (h : cont f k i) : prT f k (n + 1) i = prT f k n (i + 1) := if_pos h
theorem prT_f {f : Nat → Int32} {k n i : Nat} (h : ¬ cont f k i) : prT f k (n + 1) i = i := if_neg h
noncomputable abbrev lastT (f : Nat → Int32) (k : Nat) : Nat := prT f k 31 0
/-- the place where the reading ends -/
noncomputable def plc (f : Nat → Int32) (k : Nat) : Nat := ps f k (lastT f k) + ln f k (lastT f k)
/-- a complete text -/
def okT (f : Nat → Int32) (k : Nat) : Prop := 0 < ln f k (lastT f k) ∧ plc f k = k
/-- the letter read at p, as a word -/
noncomputable def ltr (f : Nat → Int32) (k p : Nat) : Int32 := @ite Int32 (isl f k p) (Classical.propDecidable _) (f p - nI 97) (-1)
theorem ltr_ne {f : Nat → Int32} {k p : Nat} : ltr f k p = -1 ↔ ¬ isl f k p := by
  unfold ltr
  by_cases h : isl f k p
  · rw [if_pos h]
    refine ⟨fun q => ?_, fun q => absurd h q⟩
    have h2 := h.2
    rw [q] at h2
    have : (-1 : Int32).toInt = -1 := by decide
    unfold inb at h2
    omega
  · rw [if_neg h]; exact ⟨fun _ => h, fun _ => rfl⟩
theorem ltr_t {f : Nat → Int32} {k p : Nat} (h : p < k) (h2 : inb (f p - nI 97) 8) : f p - nI 97 = ltr f k p := (if_pos ⟨h, h2⟩).symm
theorem ltr_f {f : Nat → Int32} {k p : Nat} (h : ¬ isl f k p) : (-1 : Int32) = ltr f k p := (if_neg h).symm
