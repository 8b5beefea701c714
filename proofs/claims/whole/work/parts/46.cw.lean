/-! THE FIRST COMMON ROW: monotony of the lengths, first places, the least word -/
theorem lc_m (u v : Nat → Int32) (n k : Nat) : ∀ s i j, i + j ≤ s → lc u v n k i j ≤ lc u v n k (i + 1) j ∧ lc u v n k (i + 1) j ≤ lc u v n k i j + 1 ∧ lc u v n k i j ≤ lc u v n k i (j + 1) ∧ lc u v n k i (j + 1) ≤ lc u v n k i j + 1 := by
  intro s
  induction s with
  | zero =>
    intro i j h
    obtain rfl : i = 0 := by omega
    obtain rfl : j = 0 := by omega
    simp only [lc_z, lc_0]; omega
  | succ s ih =>
    intro i j h
    have h1 : lc u v n k i j ≤ lc u v n k (i + 1) j ∧ lc u v n k (i + 1) j ≤ lc u v n k i j + 1 := by
      cases j with
      | zero => rw [lc_z, lc_z]; omega
      | succ j =>
        obtain ⟨a1, a2, a3, a4⟩ := ih i j (by omega)
        rw [lc_s u v n k i j]
        split <;> omega
    have h2 : lc u v n k i j ≤ lc u v n k i (j + 1) ∧ lc u v n k i (j + 1) ≤ lc u v n k i j + 1 := by
      cases i with
      | zero => rw [lc_0, lc_0]; omega
      | succ i =>
        obtain ⟨a1, a2, a3, a4⟩ := ih i j (by omega)
        rw [lc_s u v n k i j]
        split <;> omega
    exact ⟨h1.1, h1.2, h2.1, h2.2⟩
theorem lc_mi (u v : Nat → Int32) (n k i j : Nat) : ∀ d, lc u v n k i j ≤ lc u v n k (i + d) j := by
  intro d
  induction d with
  | zero => exact Nat.le_refl _
  | succ d ih => exact Nat.le_trans ih (lc_m u v n k _ (i + d) j (Nat.le_refl _)).1
theorem lc_mj (u v : Nat → Int32) (n k i j : Nat) : ∀ d, lc u v n k i j ≤ lc u v n k i (j + d) := by
  intro d
  induction d with
  | zero => exact Nat.le_refl _
  | succ d ih => exact Nat.le_trans ih (lc_m u v n k _ i (j + d) (Nat.le_refl _)).2.2.1
theorem tt_mono (u v : Nat → Int32) (n k : Nat) {i j i' j' : Nat} (hi : i ≤ i') (hj : j ≤ j') : tt u v n k i' j' ≤ tt u v n k i j := by
  unfold tt
  have h1 := lc_mi u v n k (n - i') (k - j') ((n - i) - (n - i'))
  have h2 := lc_mj u v n k (n - i) (k - j') ((k - j) - (k - j'))
  rw [show n - i' + ((n - i) - (n - i')) = n - i by omega] at h1
  rw [show k - j' + ((k - j) - (k - j')) = k - j by omega] at h2
  exact Nat.le_trans h1 h2
theorem tt_pick (u v : Nat → Int32) (n k : Nat) : ∀ s i j, (n - i) + (k - j) ≤ s → 0 < tt u v n k i j → ∃ a b, i ≤ a ∧ a < n ∧ j ≤ b ∧ b < k ∧ u a = v b ∧ tt u v n k (a + 1) (b + 1) + 1 = tt u v n k i j := by
  intro s
  induction s with
  | zero =>
    intro i j h h0
    rw [tt_n u v (by omega)] at h0
    omega
  | succ s ih =>
    intro i j h h0
    by_cases hi : i < n
    · by_cases hj : j < k
      · by_cases e : u i = v j
        · exact ⟨i, j, Nat.le_refl _, hi, Nat.le_refl _, hj, e, tt_eq hi hj e⟩
        · have h1 := tt_ne hi hj e
          by_cases q : tt u v n k i (j + 1) ≤ tt u v n k (i + 1) j
          · obtain ⟨a, b, b1, b2, b3, b4, b5, b6⟩ := ih (i + 1) j (by omega) (by omega)
            exact ⟨a, b, by omega, b2, b3, b4, b5, by omega⟩
          · obtain ⟨a, b, b1, b2, b3, b4, b5, b6⟩ := ih i (j + 1) (by omega) (by omega)
            exact ⟨a, b, b1, b2, by omega, b4, b5, by omega⟩
      · rw [tt_k u v (by omega)] at h0; omega
    · rw [tt_n u v (by omega)] at h0; omega
/-- the first place of w, of d places from i on; i + d if there is none -/
def fs (u : Nat → Int32) (w : Int32) : Nat → Nat → Nat
  | 0, i => i
  | d + 1, i => if u i = w then i else fs u w d (i + 1)
theorem fs_t {u : Nat → Int32} {w : Int32} {d i : Nat} (h : u i = w) : fs u w (d + 1) i = i := if_pos h
theorem fs_f {u : Nat → Int32} {w : Int32} {d i : Nat} (h : ¬ u i = w) : fs u w (d + 1) i = fs u w d (i + 1) := if_neg h
theorem fs_b (u : Nat → Int32) (w : Int32) : ∀ d i, i ≤ fs u w d i ∧ fs u w d i ≤ i + d := by
  intro d
  induction d with
  | zero => intro i; exact ⟨Nat.le_refl _, Nat.le_refl _⟩
  | succ d ih =>
    intro i
    by_cases h : u i = w
    · rw [fs_t h]; omega
    · rw [fs_f h]; have := ih (i + 1); omega
theorem fs_hit (u : Nat → Int32) (w : Int32) : ∀ d i, fs u w d i < i + d → u (fs u w d i) = w := by
  intro d
  induction d with
  | zero => intro i h; exact absurd h (by show ¬ i < i + 0; omega)
  | succ d ih =>
    intro i h
    by_cases e : u i = w
    · rw [fs_t e]; exact e
    · rw [fs_f e] at h ⊢; exact ih (i + 1) (by omega)
theorem fs_min (u : Nat → Int32) (w : Int32) : ∀ d i x, i ≤ x → x < i + d → u x = w → fs u w d i ≤ x := by
  intro d
  induction d with
  | zero => intro i x h1 h2; omega
  | succ d ih =>
    intro i x h1 h2 h3
    by_cases e : u i = w
    · rw [fs_t e]; exact h1
    · rw [fs_f e]
      refine ih (i + 1) x ?_ (by omega) h3
      rcases Nat.lt_or_ge i x with q | q
      · omega
      · obtain rfl : x = i := by omega
        exact absurd h3 e
theorem fs_congr {u u' : Nat → Int32} (w : Int32) {n : Nat} (h : ∀ e, e < n → u e = u' e) : ∀ d i, i + d ≤ n → fs u w d i = fs u' w d i := by
  intro d
  induction d with
  | zero => intro i _; rfl
  | succ d ih =>
    intro i hi
    show (if u i = w then i else fs u w d (i + 1)) = (if u' i = w then i else fs u' w d (i + 1))
    rw [h i (by omega), ih (i + 1) (by omega)]
/-- the first place of w in the row u of n, from i on; n if there is none -/
def fi (u : Nat → Int32) (n : Nat) (w : Int32) (i : Nat) : Nat := fs u w (n - i) i
theorem fi_le (u : Nat → Int32) {n : Nat} (w : Int32) {i : Nat} (h : i ≤ n) : i ≤ fi u n w i ∧ fi u n w i ≤ n := by
  unfold fi; have := fs_b u w (n - i) i; omega
theorem fi_hit {u : Nat → Int32} {n : Nat} {w : Int32} {i : Nat} (h : i ≤ n) (h2 : fi u n w i < n) : u (fi u n w i) = w := by
  unfold fi at *; exact fs_hit u w (n - i) i (by omega)
theorem fi_min {u : Nat → Int32} {n : Nat} {w : Int32} {i x : Nat} (h : i ≤ x) (h2 : x < n) (h3 : u x = w) : fi u n w i ≤ x := by
  unfold fi; exact fs_min u w (n - i) i x h (by omega) h3
theorem fi_congr {u u' : Nat → Int32} {n : Nat} (w : Int32) (h : ∀ e, e < n → u e = u' e) {i : Nat} (hi : i ≤ n) : fi u n w i = fi u' n w i := by
  unfold fi; exact fs_congr w h _ _ (by omega)
/-- the least number from w on, of d, that has P; w + d if there is none -/
noncomputable def lw (P : Nat → Prop) : Nat → Nat → Nat
  | 0, w => w
  | d + 1, w => @ite Nat (P w) (Classical.propDecidable _) w (lw P d (w + 1))
theorem lw_t {P : Nat → Prop} {d w : Nat} (h : P w) : lw P (d + 1) w = w := if_pos h
theorem lw_f {P : Nat → Prop} {d w : Nat} (h : ¬ P w) : lw P (d + 1) w = lw P d (w + 1) := if_neg h
theorem lw_lt {P : Nat → Prop} : ∀ d w x, w ≤ x → x < w + d → P x → lw P d w < w + d ∧ P (lw P d w) := by
  intro d
  induction d with
  | zero => intro w x h1 h2; omega
  | succ d ih =>
    intro w x h1 h2 h3
    by_cases e : P w
    · rw [lw_t e]; exact ⟨by omega, e⟩
    · rw [lw_f e]
      rcases Nat.lt_or_ge w x with q | q
      · have := ih (w + 1) x (by omega) (by omega) h3
        exact ⟨by omega, this.2⟩
      · obtain rfl : x = w := by omega
        exact absurd h3 e
/-- with the word w a longest common row of what is left begins -/
def cwP (u v : Nat → Int32) (n k i j w : Nat) : Prop := fi u n (nI w) i < n ∧ fi v k (nI w) j < k ∧ tt u v n k (fi u n (nI w) i + 1) (fi v k (nI w) j + 1) + 1 = tt u v n k i j
noncomputable def cw (u v : Nat → Int32) (n k i j : Nat) : Nat := lw (cwP u v n k i j) 8 0
theorem cw_ex {u v : Nat → Int32} {n k i j : Nat} (hi : i ≤ n) (hj : j ≤ k) (hu : ∀ e, e < n → NR (u e) 0 7) (h0 : 0 < tt u v n k i j) : ∃ w, w < 8 ∧ cwP u v n k i j w := by
  obtain ⟨a, b, b1, b2, b3, b4, b5, b6⟩ := tt_pick u v n k _ i j (Nat.le_refl _) h0
  have hw := hu a b2
  have h7 := hw.hi
  refine ⟨nv (u a), by omega, ?_⟩
  unfold cwP
  rw [← hw.e]
  have f1 := fi_min (w := u a) b1 b2 rfl
  have f2 := fi_min (w := u a) b3 b4 b5.symm
  have g1 := fi_le u (u a) hi
  have g2 := fi_le v (u a) hj
  refine ⟨by omega, by omega, ?_⟩
  have e1 := fi_hit hi (show fi u n (u a) i < n by omega)
  have e2 := fi_hit hj (show fi v k (u a) j < k by omega)
  have e3 := tt_eq (u := u) (v := v) (show fi u n (u a) i < n by omega) (show fi v k (u a) j < k by omega) (e1.trans e2.symm)
  have m1 := tt_mono u v n k (show fi u n (u a) i + 1 ≤ a + 1 by omega) (show fi v k (u a) j + 1 ≤ b + 1 by omega)
  have m2 := tt_mono u v n k g1.1 g2.1
  omega
theorem cw_ok {u v : Nat → Int32} {n k i j : Nat} (hi : i ≤ n) (hj : j ≤ k) (hu : ∀ e, e < n → NR (u e) 0 7) (h0 : 0 < tt u v n k i j) : cw u v n k i j < 8 ∧ cwP u v n k i j (cw u v n k i j) := by
  obtain ⟨w, h1, h2⟩ := cw_ex hi hj hu h0
  have := lw_lt (P := cwP u v n k i j) 8 0 w (Nat.zero_le _) (by omega) h2
  unfold cw
  exact ⟨by omega, this.2⟩
/-- where both rows stand behind t words of the first common row -/
noncomputable def cws (u v : Nat → Int32) (n k : Nat) : Nat → Nat × Nat
  | 0 => (0, 0)
  | t + 1 => (fi u n (nI (cw u v n k (cws u v n k t).1 (cws u v n k t).2)) (cws u v n k t).1 + 1, fi v k (nI (cw u v n k (cws u v n k t).1 (cws u v n k t).2)) (cws u v n k t).2 + 1)
noncomputable abbrev cwt (u v : Nat → Int32) (n k t : Nat) : Nat := cw u v n k (cws u v n k t).1 (cws u v n k t).2
theorem cws_ok {u v : Nat → Int32} {n k : Nat} (hu : ∀ e, e < n → NR (u e) 0 7) : ∀ t, t ≤ tt u v n k 0 0 → (cws u v n k t).1 ≤ n ∧ (cws u v n k t).2 ≤ k ∧ tt u v n k (cws u v n k t).1 (cws u v n k t).2 + t = tt u v n k 0 0 := by
  intro t
  induction t with
  | zero => intro _; exact ⟨Nat.zero_le _, Nat.zero_le _, rfl⟩
  | succ t ih =>
    intro ht
    obtain ⟨h1, h2, h3⟩ := ih (by omega)
    obtain ⟨h4, h5, h6, h7⟩ := cw_ok (v := v) h1 h2 hu (by omega)
    exact ⟨h5, h6, by show tt u v n k (fi u n _ _ + 1) (fi v k _ _ + 1) + (t + 1) = _; omega⟩
/-- the word at the place t of the first common row of the segments at p and q -/
noncomputable def comV (z : Nat → Int32) (p q t : Nat) : Int32 := if t < tt (fun e => z (p + 10 + e)) (fun e => z (q + 10 + e)) (nv (z p)) (nv (z q)) 0 0 then nI (cwt (fun e => z (p + 10 + e)) (fun e => z (q + 10 + e)) (nv (z p)) (nv (z q)) t) else -1
