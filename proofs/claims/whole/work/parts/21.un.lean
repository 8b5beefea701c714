/-! unlike proposals, disputes -/
def ulS (b : Int32) (v : Int32) : Int32 := b ||| (if v = -1 then (0 : Int32) else (1 : Int32) <<< (v &&& 31))
/-- bits and count behind k proposals -/
noncomputable def ulF (f : Nat → Int32) : Nat → Int32 × Nat
  | 0 => (nI 0, 0)
  | k + 1 => (ulS (ulF f k).1 (f k), (ulF f k).2 + b01 (¬ f k = -1 ∧ ((ulF f k).1 >>> (f k &&& 31)) &&& 1 = 0))
theorem ulF_le (f : Nat → Int32) : ∀ k, (ulF f k).2 ≤ k := by
  intro k
  induction k with
  | zero => exact Nat.le_refl 0
  | succ k ih =>
    show (ulF f k).2 + b01 _ ≤ k + 1
    have := b01_le (¬ f k = -1 ∧ ((ulF f k).1 >>> (f k &&& 31)) &&& 1 = 0)
    omega
/-- how many unlike proposals the word w has in the state z -/
noncomputable def unl (z : Nat → Int32) (w : Nat) : Nat := (ulF (fun t => z (24 + 4 * w + t)) 4).2
theorem unl_le (z : Nat → Int32) (w : Nat) : unl z w ≤ 4 := ulF_le _ 4
/-- the word is disputed -/
def dsp (z : Nat → Int32) (w : Nat) : Prop := z (56 + w) = -1 ∧ 1 < unl z w
/-- a word of the segment at p is -/
def hdp (z : Nat → Int32) (p : Nat) : Prop := ∃ e, e < nv (z p) ∧ dsp z (nv (z (p + 10 + e)))
theorem hdp_s {D : Nat → Prop} {k : Nat} : (∃ e, e < k + 1 ∧ D e) ↔ (∃ e, e < k ∧ D e) ∨ D k := by
  constructor
  · rintro ⟨e, h1, h2⟩
    by_cases h : e = k
    · subst h; exact Or.inr h2
    · exact Or.inl ⟨e, by omega, h2⟩
  · rintro (⟨e, h1, h2⟩ | h)
    · exact ⟨e, by omega, h2⟩
    · exact ⟨k, by omega, h⟩
/-- how many of the four have the proposal p -/
noncomputable def hv (z : Nat → Int32) (w : Nat) (p : Int32) : Nat → Nat
  | 0 => 0
  | k + 1 => hv z w p k + b01 (z (24 + 4 * w + k) = p)
theorem hv_le (z : Nat → Int32) (w : Nat) (p : Int32) : ∀ k, hv z w p k ≤ k := by
  intro k
  induction k with
  | zero => exact Nat.le_refl 0
  | succ k ih =>
    show hv z w p k + b01 _ ≤ k + 1
    have := b01_le (z (24 + 4 * w + k) = p)
    omega
theorem g_eI {g : Gp} {M : MI} {Q : Rs → Mm → Prop} {pc : Nat} {L : List (Nat × Value)} {st : List Value} {u : Nat × Nat} {m : Mm} {x : Int32} (y : Int32) (h : x = y) (k : G g M Q pc L (.int y :: st) u m) : G g M Q pc L (.int x :: st) u m := by subst h; exact k
