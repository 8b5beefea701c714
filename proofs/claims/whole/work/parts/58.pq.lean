/-! texts of rows, once more: as one reads them letter by letter -/
theorem inb_sub {x : Int32} : inb (x - nI 97) 8 ↔ nI 97 ≤ x ∧ x < nI 105 := by
  constructor
  · intro h
    obtain ⟨j, hj, e⟩ := inb_of (n := 8) h (by decide)
    have e2 : x = nI (j + 97) := by
      have : x = (x - nI 97) + nI 97 := by rw [Int32.sub_add_cancel]
      rw [this, e, nI_add]
    rw [e2]
    exact ⟨(nI_le' (by decide) (by omega)).mpr (by omega), (nI_lt' (by omega) (by decide)).mpr (by omega)⟩
  · rintro ⟨h1, h2⟩
    rw [le_tI, nI_tI' (by decide)] at h1
    rw [lt_tI, nI_tI' (by decide)] at h2
    obtain ⟨j, hj, e⟩ := inb_of (x := x) (n := 105) ⟨by omega, by omega⟩ (by decide)
    subst e
    rw [nI_tI' (by omega)] at h1
    rw [pk_sub (by omega)]
    exact (inb_nI (by omega)).mpr (by omega)
theorem isl_59 {f : Nat → Int32} {k p : Nat} (h : isl f k p) : ¬ f p = nI 59 := fun q => by
  have h1 := (inb_sub.mp h.2).1
  rw [q, nI_le' (by decide) (by decide)] at h1
  omega
theorem rl_isl (f : Nat → Int32) (k : Nat) : ∀ c p e, e < rl f k c p → isl f k (p + e) := by
  intro c
  induction c with
  | zero => intro p e h; exact absurd h (Nat.not_lt_zero e)
  | succ c ih =>
    intro p e h
    by_cases q : isl f k p
    · rw [rl_t q] at h
      cases e with
      | zero => exact q
      | succ e =>
        have := ih (p + 1) e (by omega)
        rwa [show p + 1 + e = p + (e + 1) by omega] at this
    · rw [rl_f q] at h; exact absurd h (Nat.not_lt_zero e)
theorem prT_e (f : Nat → Int32) (k : Nat) : ∀ n i, prT f k n i < i + n → ¬ cont f k (prT f k n i) := by
  intro n
  induction n with
  | zero => intro i h; exact absurd h (by show ¬ i < i + 0; omega)
  | succ n ih =>
    intro i h
    by_cases q : cont f k i
    · rw [prT_t q] at h ⊢; exact ih (i + 1) (by omega)
    · rw [prT_f q]; exact q
theorem last_e {f : Nat → Int32} {k : Nat} (h : k ≤ 60) : ¬ cont f k (lastT f k) := prT_e f k 31 0 (by have := last_30 (f := f) h; show lastT f k < 0 + 31; omega)
/-- what stands while one reads: w letters of the row i are read, the next is p -/
def rdI (f : Nat → Int32) (k i w p : Nat) : Prop := p = ps f k i + w ∧ w + rl f k (12 - w) p = ln f k i ∧ w ≤ 12 ∧ 2 * i ≤ ps f k i ∧ i ≤ 30 ∧ prT f k (31 - i) i = lastT f k
theorem rd_0 (f : Nat → Int32) (k : Nat) : rdI f k 0 0 0 := ⟨rfl, by rw [Nat.zero_add]; rfl, Nat.zero_le _, Nat.zero_le _, Nat.zero_le _, rfl⟩
theorem rd_l {f : Nat → Int32} {k i w p : Nat} (h : rdI f k i w p) (hw : w < 12) (hl : isl f k p) : rdI f k i (w + 1) (p + 1) := by
  obtain ⟨h1, h2, h3, h4, h5, h6⟩ := h
  refine ⟨by omega, ?_, by omega, h4, h5, h6⟩
  rw [show 12 - w = (12 - (w + 1)) + 1 by omega, rl_t hl] at h2
  omega
theorem rd_z {f : Nat → Int32} {k i w p : Nat} (h : rdI f k i w p) (hn : ¬ (isl f k p ∧ w < 12)) : ln f k i = w := by
  obtain ⟨h1, h2, h3, h4, h5, h6⟩ := h
  by_cases q : w < 12
  · rw [show 12 - w = (12 - (w + 1)) + 1 by omega, rl_f (fun z => hn ⟨z, q⟩)] at h2
    omega
  · rw [show 12 - w = 0 by omega] at h2
    have : rl f k 0 p = 0 := rfl
    omega
theorem rd_s {f : Nat → Int32} {k i w p : Nat} (hk : k ≤ 60) (h : rdI f k i w p) (hn : ¬ (isl f k p ∧ w < 12)) (hp : p < k) (hs : f p = nI 59) (hw : 0 < w) : rdI f k (i + 1) 0 (p + 1) := by
  have hz := rd_z h hn
  obtain ⟨h1, h2, h3, h4, h5, h6⟩ := h
  have hc : cont f k i := ⟨by omega, by omega, by rw [hz, ← h1]; exact hs⟩
  have e : ps f k (i + 1) = p + 1 := by rw [ps_s]; omega
  have hi : i < 30 := by omega
  rw [show 31 - i = (31 - (i + 1)) + 1 by omega, prT_t hc] at h6
  exact ⟨by omega, by rw [Nat.zero_add, ← e], by omega, by omega, by omega, h6⟩
theorem rd_e {f : Nat → Int32} {k i w p : Nat} (h : rdI f k i w p) (hn : ¬ (isl f k p ∧ w < 12)) (hc : ¬ (p < k ∧ f p = nI 59 ∧ 0 < w)) : plc f k = p := by
  have hz := rd_z h hn
  obtain ⟨h1, h2, h3, h4, h5, h6⟩ := h
  have hnc : ¬ cont f k i := fun q => hc ⟨by have := q.2.1; omega, by have := q.2.2; rw [hz, ← h1] at this; exact this, by have := q.1; omega⟩
  rw [show 31 - i = (30 - i) + 1 by omega, prT_f hnc] at h6
  unfold plc
  rw [← h6, hz]; omega
theorem ok_iff {f : Nat → Int32} {k : Nat} (hk : k ≤ 60) : okT f k ↔ (0 < k ∧ plc f k = k ∧ ¬ f (k - 1) = nI 59) := by
  constructor
  · intro h
    have h1 := ok_end h
    have h0 := h.1
    refine ⟨by omega, h.2, ?_⟩
    have := rl_isl f k 12 (ps f k (lastT f k)) (ln f k (lastT f k) - 1) (by show _ < ln f k (lastT f k); omega)
    rw [show ps f k (lastT f k) + (ln f k (lastT f k) - 1) = k - 1 by omega] at this
    exact isl_59 this
  · rintro ⟨h1, h2, h3⟩
    refine ⟨?_, h2⟩
    rcases Nat.eq_zero_or_pos (ln f k (lastT f k)) with z | z
    · exfalso
      unfold plc at h2
      rw [z] at h2
      cases hT : lastT f k with
      | zero =>
        rw [hT] at h2
        have : ps f k 0 = 0 := rfl
        omega
      | succ j =>
        have hc := last_c (f := f) (k := k) (j := j) (by omega)
        rw [hT, ps_s] at h2
        apply h3
        rw [show k - 1 = ps f k j + ln f k j by omega]
        exact hc.2.2
    · exact z
/-- the ends of rows among the first characters -/
noncomputable abbrev sem (f : Nat → Int32) : Nat → Nat := sm (fun e => b01 (f e = nI 59))
theorem sem_l {f : Nat → Int32} {k : Nat} {p : Nat} : ∀ n, (∀ e, e < n → isl f k (p + e)) → sem f (p + n) = sem f p := by
  intro n
  induction n with
  | zero => intro _; rfl
  | succ n ih =>
    intro h
    show sem f (p + n) + b01 (f (p + n) = nI 59) = _
    rw [ih (fun e he => h e (by omega)), b01_f (isl_59 (h n (by omega)))]; rfl
theorem sem_i {f : Nat → Int32} {k : Nat} : ∀ i, i ≤ lastT f k → sem f (ps f k i) = i := by
  intro i
  induction i with
  | zero => intro _; rfl
  | succ i ih =>
    intro h
    have hc := last_c (f := f) (k := k) (j := i) (by omega)
    have e1 := ih (by omega)
    have e2 := sem_l (f := f) (k := k) (p := ps f k i) (ln f k i) (fun e he => rl_isl f k 12 (ps f k i) e he)
    show sem f (ps f k i + ln f k i) + b01 (f (ps f k i + ln f k i) = nI 59) = i + 1
    rw [e2, e1, b01_t hc.2.2]
theorem sem_k {f : Nat → Int32} {k : Nat} (h : okT f k) : sem f k = lastT f k := by
  have e1 := sem_i (f := f) (k := k) (lastT f k) (Nat.le_refl _)
  have e2 := sem_l (f := f) (k := k) (p := ps f k (lastT f k)) (ln f k (lastT f k)) (fun e he => rl_isl f k 12 _ e he)
  rw [← ok_end h, e1] at e2
  exact e2
/-- behind the letters of the row t: its end, or the text's -/
theorem row_e {f : Nat → Int32} {k t : Nat} (h : okT f k) (ht : t ≤ lastT f k) : (∀ e, e < ln f k t → ¬ f (ps f k t + e) = nI 59) ∧ (ps f k t + ln f k t = k ∨ (ps f k t + ln f k t < k ∧ f (ps f k t + ln f k t) = nI 59)) := by
  refine ⟨fun e he => isl_59 (rl_isl f k 12 (ps f k t) e he), ?_⟩
  by_cases q : t = lastT f k
  · subst q; exact Or.inl (ok_end h).symm
  · have hc := last_c (f := f) (k := k) (j := t) (by omega)
    exact Or.inr ⟨hc.2.1, hc.2.2⟩
