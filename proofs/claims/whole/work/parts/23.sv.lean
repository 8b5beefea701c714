/-! what a saving leaves as it was -/
theorem u2_uu {α : Type} (f : Nat → Nat → α) (a k : Nat) (v w : α) : u2 (u2 f a k v) a k w = u2 f a k w := by
  funext x y
  show (if x = a ∧ y = k then w else if x = a ∧ y = k then v else f x y) = if x = a ∧ y = k then w else f x y
  by_cases h : x = a ∧ y = k
  · rw [if_pos h, if_pos h]
  · rw [if_neg h, if_neg h, if_neg h]
theorem svB_ne (I : Nat → Nat → Int32) (a k : Nat) {x : Nat} (h : x ≠ a + 2) (h2 : x ≠ a) : svB I a k x = I x := by
  unfold svB; rw [u2_o _ _ _ _ h2, cpI_ne _ _ _ _ _ h]
theorem svA_ne (I : Nat → Nat → Int32) (a : Nat) {x : Nat} (h : x ≠ a + 2) (h2 : x ≠ a) : svA I a x = I x := by
  unfold svA; rw [u2_o _ _ _ _ h2, cpI_ne _ _ _ _ _ h]
theorem svI_ne (I : Nat → Nat → Int32) (a n : Nat) {x : Nat} (h : x ≠ a + 2) (h2 : x ≠ a) : svI I a n x = I x := by
  unfold svI
  split
  · rw [svB_ne _ _ _ h h2, svA_ne _ _ h h2]
  · rw [svB_ne _ _ _ h h2]
theorem svI_a (I : Nat → Nat → Int32) (a n : Nat) {y : Nat} (h : y ≠ 3) : svI I a n a y = I a y := by
  unfold svI svB svA
  split
  · rw [u2_n _ _ _ _ (fun z => h z.2), cpI_ne _ _ _ _ _ (by omega), u2_n _ _ _ _ (fun z => h z.2), cpI_ne _ _ _ _ _ (by omega)]
  · rw [u2_n _ _ _ _ (fun z => h z.2), cpI_ne _ _ _ _ _ (by omega)]
theorem svI_3 (I : Nat → Nat → Int32) (a n : Nat) : svI I a n a 3 = nI (if n = 6 then 6 else n + 1) := by
  unfold svI svB
  split <;> rw [u2_s]
/-- the ints with the throw's number set -/
abbrev th (m : Mm) (a k : Nat) : Nat → Nat → Int32 := u2 (im m) a 6 (nI k)
theorem th_z (m : Mm) (a k y : Nat) : th m a k (a + 1) y = im m (a + 1) y := u2_n _ _ _ _ (by omega)
theorem th_a (m : Mm) (a k y : Nat) (h : y ≠ 6) : th m a k a y = im m a y := u2_n _ _ _ _ (fun z => h z.2)
theorem sv_z (m : Mm) (a k n y : Nat) : svI (th m a k) a n (a + 1) y = im m (a + 1) y := by rw [svI_ne _ _ _ (by omega) (by omega)]; exact th_z m a k y
theorem th_th (m : Mm) (a k j : Nat) : u2 (th m a k) a 6 (nI j) = th m a j := u2_uu _ _ _ _ _
theorem vI {x y : Int32} (h : x = y) : (Sum.inl (some (Value.int x)) : Rs) = Sum.inl (some (Value.int y)) := by rw [h]
