/-! what stands in the state behind a remembering -/
def lastR (z : Nat → Int32) : Nat := if nv (z 1) = 30 then 29 else nv (z 1)
def dropR (z : Nat → Int32) : Nat := if nv (z 1) = 30 then 1 else 0
theorem rmZ_1 (z : Nat → Int32) (s : Nat) : rmZ z s 1 = nI (lastR z + 1) := by
  show u1 _ 1 (nI ((if nv (z 1) = 30 then 29 else nv (z 1)) + 1)) 1 = _
  rw [u1_s]; rfl
theorem rmZ_z1 (z : Nat → Int32) {y : Nat} (h : y < 299) (h1 : y ≠ 1) : (if nv (z 1) = 30 then u1 (cpz z 299 377 (fun j => z (299 + j + 13))) 1 (nI 29) else z) y = z y := by
  split
  · rw [u1_n _ _ _ h1]
    unfold cpz
    rw [if_neg (by omega)]
  · rfl
theorem rmZ_lo (z : Nat → Int32) (s : Nat) {y : Nat} (h : y < 299) (h1 : y ≠ 1) : rmZ z s y = z y := by
  unfold rmZ
  rw [u1_n _ _ _ h1]
  unfold cpz
  rw [if_neg (by omega), u1_n _ _ _ (by omega)]
  exact rmZ_z1 z h h1
theorem rmZ_new (z : Nat → Int32) {s : Nat} (hs : s < 10) : rmZ z s (299 + 13 * lastR z) = z (79 + 22 * s) ∧ ∀ e, e < 12 → rmZ z s (299 + 13 * lastR z + 1 + e) = z (79 + 22 * s + 10 + e) := by
  unfold rmZ lastR
  generalize (if nv (z 1) = 30 then 29 else nv (z 1)) = r
  refine ⟨?_, fun e he => ?_⟩
  · rw [u1_n _ _ _ (by omega)]
    unfold cpz
    rw [if_neg (by omega), u1_s]
    exact rmZ_z1 z (by omega) (by omega)
  · rw [u1_n _ _ _ (by omega)]
    unfold cpz
    rw [if_pos (by omega), show 299 + 13 * r + 1 + e - (299 + 13 * r + 1) = e by omega]
    refine (u1_n _ _ _ (by omega)).trans ?_
    exact rmZ_z1 z (by omega) (by omega)
theorem rmZ_old (z : Nat → Int32) {s r e : Nat} (hz : nv (z 1) ≤ 30) (hr : r < lastR z) (he : e < 13) : rmZ z s (299 + 13 * r + e) = z (299 + 13 * (r + dropR z) + e) := by
  unfold rmZ
  unfold lastR at hr
  unfold dropR
  rw [u1_n _ _ _ (by omega)]
  unfold cpz
  by_cases h : nv (z 1) = 30
  · simp only [if_pos h] at hr ⊢
    rw [if_neg (by omega), u1_n _ _ _ (by omega), u1_n _ _ _ (by omega), if_pos (by omega)]
    show z (299 + (299 + 13 * r + e - 299) + 13) = _
    rw [show 299 + (299 + 13 * r + e - 299) + 13 = 299 + 13 * (r + 1) + e by omega]
  · simp only [if_neg h] at hr ⊢
    rw [if_neg (by omega), u1_n _ _ _ (by omega)]
    congr 1
theorem lastR_le (z : Nat → Int32) (h : nv (z 1) ≤ 30) : lastR z ≤ 29 := by unfold lastR; split <;> omega
theorem rmZ_nv1 (z : Nat → Int32) (s : Nat) (h : nv (z 1) ≤ 30) : nv (rmZ z s 1) = lastR z + 1 := by
  rw [rmZ_1, nv_nI (by have := lastR_le z h; omega)]
theorem rmZ_rows (z : Nat → Int32) {s : Nat} (hs : s < 10) (h : NR (z 1) 0 30) (hl : NR (z (79 + 22 * s)) 1 12) (hrow : ∀ r, r < nv (z 1) → NR (z (299 + 13 * r)) 1 12) : NR (rmZ z s 1) 0 30 ∧ ∀ r, r < nv (rmZ z s 1) → NR (rmZ z s (299 + 13 * r)) 1 12 := by
  have h9 := lastR_le z h.hi
  refine ⟨by rw [rmZ_1]; exact NR_nI (by omega) (by omega) (by omega), fun r hr => ?_⟩
  rw [rmZ_nv1 z s h.hi] at hr
  by_cases e : r = lastR z
  · subst e; rw [(rmZ_new z hs).1]; exact hl
  · rw [show 299 + 13 * r = 299 + 13 * r + 0 by omega, rmZ_old z h.hi (by omega) (by omega)]
    refine hrow _ ?_
    unfold lastR at hr e
    unfold dropR
    split at hr <;> rename_i q <;> simp only [q, if_true, if_false] at e ⊢ <;> omega
/-- what f and then s would cost -/
def csV (z : Nat → Int32) (f s : Nat) : Int32 := z (79 + 22 * f) * z (64 + 3 * bandOf (mtc z (79 + 22 * f))) + rmZ z f (79 + 22 * s) * rmZ z f (64 + 3 * bandOf (mtc (rmZ z f) (79 + 22 * s)))
/-- J is I but for the model's notes and the row aside -/
def scB (a : Nat) (I J : Nat → Nat → Int32) : Prop := ∀ x y, ¬ scr a x y → x ≠ a + 3 → J x y = I x y
theorem sc.B {a : Nat} {I J : Nat → Nat → Int32} (h : sc a I J) : scB a I J := fun x y n _ => h x y n
theorem scB.tr {a : Nat} {I J K : Nat → Nat → Int32} (h : scB a I J) (k : scB a J K) : scB a I K := fun x y n n2 => (k x y n n2).trans (h x y n n2)
theorem scB.z {a : Nat} {I J : Nat → Nat → Int32} (h : scB a I J) : J (a + 1) = I (a + 1) := by
  funext y; exact h _ _ (by unfold scr; omega) (by omega)
theorem sc.as {a : Nat} {I J : Nat → Nat → Int32} (h : sc a I J) : J (a + 3) = I (a + 3) := by
  funext y; exact h _ _ (by unfold scr; omega)
/-- put aside, remembered, put back: as it was -/
theorem co_X10 {a : Nat} {I I1 I2 : Nat → Nat → Int32} {z' : Nat → Int32} (h1 : sc a (cpI I (a + 3) 0 689 (fun j => I (a + 1) j)) I1) (h2 : sc a (rz I1 (a + 1) z') I2) (hz : ∀ y, 689 ≤ y → z' y = I (a + 1) y) : scB a I (cpI I2 (a + 1) 0 689 (fun j => I2 (a + 3) j)) := by
  intro x y n n2
  by_cases e : x = a + 1
  · subst e
    by_cases hy : y < 689
    · rw [cpI_in _ _ _ _ _ (by omega) (by omega)]
      rw [h2.as, rz_n _ _ _ (by omega), h1.as, cpI_in _ _ _ _ _ (by omega) (by omega)]
      rfl
    · rw [cpI_out _ _ _ _ _ (by omega), h2.zz, rz_b, hz y (by omega)]
  · rw [cpI_ne _ _ _ _ _ e, h2 x y n, rz_n _ _ _ e, h1 x y n, cpI_ne _ _ _ _ _ n2]
theorem rmZ_hi (z : Nat → Int32) (s : Nat) (h : nv (z 1) ≤ 30) {y : Nat} (hy : 689 ≤ y) : rmZ z s y = z y := by
  unfold rmZ
  rw [u1_n _ _ _ (by omega)]
  unfold cpz
  have h9 := lastR_le z h
  unfold lastR at h9
  rw [if_neg (by omega), u1_n _ _ _ (by omega)]
  split
  · rw [u1_n _ _ _ (by omega), if_neg (by omega)]
  · rfl
