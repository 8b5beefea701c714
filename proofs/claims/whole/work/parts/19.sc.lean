/-! what the model writes for itself; contracts up to that; numbers within bounds; what is asked of a state -/
def scr (a x y : Nat) : Prop := (x = a ∧ (y = 9 ∨ y = 10 ∨ y = 12 ∨ y = 13)) ∨ x = a + 5 ∨ x = a + 6 ∨ x = a + 7 ∨ x = a + 8
/-- J is I but for the model's own notes -/
def sc (a : Nat) (I J : Nat → Nat → Int32) : Prop := ∀ x y, ¬ scr a x y → J x y = I x y
theorem sc.rf {a : Nat} {I : Nat → Nat → Int32} : sc a I I := fun _ _ _ => rfl
theorem sc.tr {a : Nat} {I J K : Nat → Nat → Int32} (h : sc a I J) (k : sc a J K) : sc a I K := fun x y n => (k x y n).trans (h x y n)
theorem sc.u2 {a : Nat} {I J : Nat → Nat → Int32} (h : sc a I J) {x y : Nat} (v : Int32) (hs : scr a x y) : sc a I (u2 J x y v) := fun p q n => by
  rw [u2_n _ _ _ _ (fun z => n (by rw [z.1, z.2]; exact hs))]; exact h p q n
theorem sc.cp {a : Nat} {I J : Nat → Nat → Int32} (h : sc a I J) {b d n : Nat} (f : Nat → Int32) (hb : b = a + 5 ∨ b = a + 6 ∨ b = a + 7 ∨ b = a + 8) : sc a I (cpI J b d n f) := fun p q hn => by
  have hp : p ≠ b := fun z => hn (Or.inr (by rw [z]; exact hb))
  rw [cpI_ne _ _ _ _ _ hp]; exact h p q hn
theorem sc.z {a : Nat} {I J : Nat → Nat → Int32} (h : sc a I J) : J (a + 1) = I (a + 1) := by
  funext y; exact h _ _ (by unfold scr; omega)
theorem sc.zz {a : Nat} {I J : Nat → Nat → Int32} (h : sc a I J) (y : Nat) : J (a + 1) y = I (a + 1) y := congrFun h.z y
/-- answers v, the memory as it was but for the model's own notes -/
def En (g : Gp) (M : MI) (av : List Value) (m : Mm) (v : Option Value) (P : (Nat → Nat → Int32) → Prop) : Prop := Cn g M av m (fun r m1 => r = .inl v ∧ ∃ J, m1 = wI m J ∧ P J)
abbrev eQ (m : Mm) (v : Option Value) (P : (Nat → Nat → Int32) → Prop) : Rs → Mm → Prop := fun r m1 => r = .inl v ∧ ∃ J, m1 = wI m J ∧ P J
section GE
variable {g : Gp} {M : MI} {Q : Rs → Mm → Prop} {pc : Nat} {L : List (Nat × Value)} {st : List Value} {u : Nat × Nat} {m : Mm}
theorem ge_callV {i n q : Nat} {My : MI} {r : vw_C} {P : (Nat → Nat → Int32) → Prop} (v : Option Value) (av rest : List Value) (hC : En g My (.ref q :: av) m v P) (hz : fm_z My) (hM : fm_M My n) (hlk : Cond.methodLink (mY M).cls i (mY My) ∈ wA) (hin : Cond.instanceMethod (mY My) ∈ wA) (hse : Cond.selects (mY My).cls (mY My) (mY My) ∈ wA) (κ ln : Nat) (ht : tg m q = (κ, ln)) (hr : vwCl[κ]? = some r) (hre : r.1 = (mY My).cls) (hn : av.length = n) (hfit : fm_fit M My) (hrest : (rest.map fun v => v.category).sum ≤ 8) (hu : u.1 ≤ (mR M).cells ∧ u.2 ≤ (mR M).slots) (hdg : decode (mC M) pc = .ok (.invokevirtual i, 3)) (hstk : st = av.reverse ++ .ref q :: rest) (k : ∀ J, P J → G g M Q (pc + 3) L (v.toList ++ rest) u (wI m J)) : G g M Q pc L st u m :=
  g_callV av rest hC hM hlk hin hse (by rw [ht]; exact hr) hre hn hfit hrest (g_b0 hz hu) hdg hstk (fun v' m' h => by obtain ⟨h1, J, h2, h3⟩ := h; cases h1; cases h2; exact g_u0 hz (k J h3)) (fun E m' h => by cases h.1)
end GE
/-- x is a number from l to b -/
def NR (x : Int32) (l b : Nat) : Prop := x = nI (nv x) ∧ l ≤ nv x ∧ nv x ≤ b
theorem NR.e {x : Int32} {l b : Nat} (h : NR x l b) : x = nI (nv x) := h.1
theorem NR.lo {x : Int32} {l b : Nat} (h : NR x l b) : l ≤ nv x := h.2.1
theorem NR.hi {x : Int32} {l b : Nat} (h : NR x l b) : nv x ≤ b := h.2.2
theorem NR_nI {n l b : Nat} (h : l ≤ n) (h2 : n ≤ b) (hb : b < 2147483648) : NR (nI n) l b := by
  unfold NR; rw [nv_nI (by omega)]; exact ⟨rfl, h, h2⟩
theorem NR.up {x : Int32} {l b c : Nat} (h : NR x l b) (hc : b ≤ c) : NR x l c := ⟨h.1, h.2.1, Nat.le_trans h.2.2 hc⟩
/-! ===== the answers, of a state z (the model's row of 689 numbers) ===== -/
/-- the match of the row of nv (z p) words behind p + 10 with the row r of the memory -/
def mf (z : Nat → Int32) (p r : Nat) : Nat := 200 * tt (fun e => z (p + 10 + e)) (fun e => z (299 + 13 * r + 1 + e)) (nv (z p)) (nv (z (299 + 13 * r))) 0 0 / (nv (z p) + nv (z (299 + 13 * r)))
/-- the greatest of f 0 .. f (n - 1), 0 without; the last place where it stands, -1 without -/
def gm (f : Nat → Nat) : Nat → Nat
  | 0 => 0
  | n + 1 => max (gm f n) (f n)
def lm (f : Nat → Nat) : Nat → Int32
  | 0 => -1
  | n + 1 => if gm f n ≤ f n then nI n else lm f n
theorem gm_ge (f : Nat → Nat) : ∀ n i, i < n → f i ≤ gm f n := by
  intro n
  induction n with
  | zero => intro i h; omega
  | succ n ih =>
    intro i h
    show f i ≤ max (gm f n) (f n)
    by_cases e : i = n
    · subst e; omega
    · have := ih i (by omega); omega
theorem lm_spec (f : Nat → Nat) : ∀ n, 0 < n → ∃ b, b < n ∧ lm f n = nI b ∧ f b = gm f n := by
  intro n
  induction n with
  | zero => intro h; omega
  | succ n ih =>
    intro _
    show ∃ b, b < n + 1 ∧ (if gm f n ≤ f n then nI n else lm f n) = nI b ∧ f b = max (gm f n) (f n)
    by_cases h : gm f n ≤ f n
    · exact ⟨n, by omega, by rw [if_pos h], by omega⟩
    · have hn : 0 < n := by
        rcases Nat.eq_zero_or_pos n with z | z
        · subst z; exact absurd (Nat.zero_le _) h
        · exact z
      obtain ⟨b, h1, h2, h3⟩ := ih hn
      exact ⟨b, by omega, by rw [if_neg h]; exact h2, by omega⟩
def bandOf (t : Nat) : Nat := if t = 100 then 0 else if 85 ≤ t then 1 else if 70 ≤ t then 2 else if 50 ≤ t then 3 else 4
theorem bandOf_le (t : Nat) : bandOf t ≤ 4 := by
  unfold bandOf; split <;> (try split) <;> (try split) <;> (try split) <;> omega
/-- the match, the band, the percentage of the segment at p -/
abbrev mtc (z : Nat → Int32) (p : Nat) : Nat := gm (mf z p) (nv (z 1))
theorem mf_le (z : Nat → Int32) (p r : Nat) (h : 0 < nv (z p)) : mf z p r ≤ 100 := by
  unfold mf
  have h1 := lc_le (fun e => z (p + 10 + e)) (fun e => z (299 + 13 * r + 1 + e)) (nv (z p)) (nv (z (299 + 13 * r))) (nv (z p)) (nv (z (299 + 13 * r)))
  have h2 := lc_le2 (fun e => z (p + 10 + e)) (fun e => z (299 + 13 * r + 1 + e)) (nv (z p)) (nv (z (299 + 13 * r))) (nv (z p)) (nv (z (299 + 13 * r)))
  unfold tt
  rw [Nat.sub_zero, Nat.sub_zero]
  generalize lc _ _ _ _ _ _ = t at h1 h2 ⊢
  refine Nat.div_le_of_le_mul ?_
  omega
theorem gm_le (f : Nat → Nat) (b : Nat) : ∀ n, (∀ i, i < n → f i ≤ b) → gm f n ≤ b := by
  intro n
  induction n with
  | zero => intro _; exact Nat.zero_le b
  | succ n ih =>
    intro h
    show max (gm f n) (f n) ≤ b
    have h1 := ih (fun i hi => h i (by omega))
    have h2 := h n (by omega)
    omega
/-- a row of words at p: its length, its words behind p + o -/
def RwOk (z : Nat → Int32) (p o : Nat) : Prop := NR (z p) 1 12 ∧ ∀ e, e < nv (z p) → NR (z (p + o + e)) 0 7
/-- what is asked of a state behind c calls -/
def ZOk (c : Nat) (z : Nat → Int32) : Prop :=
  (NR (z 0) 0 10 ∧ NR (z 1) 0 30 ∧ NR (z 2) 0 100 ∧ NR (z 3) 0 200) ∧
  (∀ p, p < 4 → NR (z (4 + 5 * p)) 1 99 ∧ NR (z (4 + 5 * p + 1)) 0 (1188 * c) ∧ NR (z (4 + 5 * p + 2)) 0 (12 * c) ∧ NR (z (4 + 5 * p + 3)) 0 (12 * c) ∧ NR (z (4 + 5 * p + 4)) 0 (12 * c)) ∧
  (∀ b, b < 5 → NR (z (64 + 3 * b)) 0 100 ∧ NR (z (64 + 3 * b + 1)) 0 (12 * c) ∧ NR (z (64 + 3 * b + 2)) 0 (1188 * c)) ∧
  (∀ k, k < 40 → -1 ≤ (z (24 + k)).toInt ∧ (z (24 + k)).toInt ≤ 9) ∧
  (∀ s, s < nv (z 0) → RwOk z (79 + 22 * s) 10 ∧ NR (z (79 + 22 * s + 1)) 0 3 ∧ NR (z (79 + 22 * s + 2)) 0 3 ∧ NR (z (79 + 22 * s + 3)) 0 4 ∧ NR (z (79 + 22 * s + 4)) 0 100 ∧ NR (z (79 + 22 * s + 5)) 0 1188 ∧ NR (z (79 + 22 * s + 6)) 0 (1188 * c) ∧ (-1 ≤ (z (79 + 22 * s + 7)).toInt ∧ (z (79 + 22 * s + 7)).toInt ≤ 3) ∧ NR (z (79 + 22 * s + 8)) 0 12 ∧ NR (z (79 + 22 * s + 9)) 0 99) ∧
  (∀ r, r < nv (z 1) → RwOk z (299 + 13 * r) 1)
theorem nI_m1 {b : Nat} (h : b < 2147483648) : ¬ nI b = -1 := fun q => by
  have h1 := congrArg Int32.toInt q
  rw [nI_tI' h] at h1
  have : (-1 : Int32).toInt = -1 := by decide
  omega
