/-! the longest common row, by what is left of both rows -/
/-- i and j words are left of the rows u (of n) and v (of k) -/
def lc (u v : Nat → Int32) (n k : Nat) : Nat → Nat → Nat
  | 0 => fun _ => 0
  | i + 1 => fun j => Nat.rec 0 (fun j r => if u (n - (i + 1)) = v (k - (j + 1)) then lc u v n k i j + 1 else max (lc u v n k i (j + 1)) r) j
theorem lc_0 (u v : Nat → Int32) (n k j : Nat) : lc u v n k 0 j = 0 := rfl
theorem lc_z (u v : Nat → Int32) (n k i : Nat) : lc u v n k i 0 = 0 := by cases i <;> rfl
theorem lc_s (u v : Nat → Int32) (n k i j : Nat) : lc u v n k (i + 1) (j + 1) = if u (n - (i + 1)) = v (k - (j + 1)) then lc u v n k i j + 1 else max (lc u v n k i (j + 1)) (lc u v n k (i + 1) j) := rfl
theorem lc_le (u v : Nat → Int32) (n k : Nat) : ∀ i j, lc u v n k i j ≤ i := by
  intro i
  induction i with
  | zero => intro j; exact Nat.le_refl 0
  | succ i ih =>
    intro j
    induction j with
    | zero => rw [lc_z]; exact Nat.zero_le _
    | succ j jh =>
      rw [lc_s]
      split
      · have := ih j; omega
      · have := ih (j + 1); omega
theorem lc_le2 (u v : Nat → Int32) (n k : Nat) : ∀ i j, lc u v n k i j ≤ j := by
  intro i
  induction i with
  | zero => intro j; exact Nat.zero_le j
  | succ i ih =>
    intro j
    induction j with
    | zero => rw [lc_z]; exact Nat.le_refl 0
    | succ j jh =>
      rw [lc_s]
      split
      · have := ih j; omega
      · have := ih (j + 1); omega
theorem lc_congr {u v u' v' : Nat → Int32} {n k : Nat} (hu : ∀ e, e < n → u e = u' e) (hv : ∀ e, e < k → v e = v' e) : ∀ i j, i ≤ n → j ≤ k → lc u v n k i j = lc u' v' n k i j := by
  intro i
  induction i with
  | zero => intro j _ _; rfl
  | succ i ih =>
    intro j hi
    induction j with
    | zero => intro _; rw [lc_z, lc_z]
    | succ j jh =>
      intro hj
      rw [lc_s, lc_s, hu _ (by omega), hv _ (by omega), ih j (by omega) (by omega), ih (j + 1) (by omega) hj, jh (by omega)]
/-- .. from the places i and j on -/
def tt (u v : Nat → Int32) (n k i j : Nat) : Nat := lc u v n k (n - i) (k - j)
theorem tt_n (u v : Nat → Int32) {n k i j : Nat} (h : n ≤ i) : tt u v n k i j = 0 := by
  unfold tt; rw [Nat.sub_eq_zero_of_le h]; exact lc_0 _ _ _ _ _
theorem tt_k (u v : Nat → Int32) {n k i j : Nat} (h : k ≤ j) : tt u v n k i j = 0 := by
  unfold tt; rw [Nat.sub_eq_zero_of_le h]; exact lc_z _ _ _ _ _
theorem tt_s (u v : Nat → Int32) {n k i j : Nat} (hi : i < n) (hj : j < k) : tt u v n k i j = if u i = v j then tt u v n k (i + 1) (j + 1) + 1 else max (tt u v n k (i + 1) j) (tt u v n k i (j + 1)) := by
  unfold tt
  obtain ⟨p, hp⟩ : ∃ p, n - i = p + 1 := ⟨n - i - 1, by omega⟩
  obtain ⟨q, hq⟩ : ∃ q, k - j = q + 1 := ⟨k - j - 1, by omega⟩
  rw [hp, hq, lc_s, show n - (p + 1) = i by omega, show k - (q + 1) = j by omega, show n - (i + 1) = p by omega, show k - (j + 1) = q by omega]
theorem tt_eq {u v : Nat → Int32} {n k i j : Nat} (hi : i < n) (hj : j < k) (h : u i = v j) : tt u v n k (i + 1) (j + 1) + 1 = tt u v n k i j := by rw [tt_s u v hi hj, if_pos h]
theorem tt_ne {u v : Nat → Int32} {n k i j : Nat} (hi : i < n) (hj : j < k) (h : ¬ u i = v j) : max (tt u v n k (i + 1) j) (tt u v n k i (j + 1)) = tt u v n k i j := by rw [tt_s u v hi hj, if_neg h]
theorem tt_le (u v : Nat → Int32) (n k i j : Nat) : tt u v n k i j ≤ n := Nat.le_trans (lc_le _ _ _ _ _ _) (Nat.sub_le _ _)
/-- the table where the rows behind i are done, and of i the places from j on -/
def tb (u v : Nat → Int32) (n k i j : Nat) : Nat → Int32 := fun p => if i < p / 13 ∨ (p / 13 = i ∧ j ≤ p % 13) then nI (tt u v n k (p / 13) (p % 13)) else nI 0
theorem tb_in (u v : Nat → Int32) (n k i j : Nat) {x y : Nat} (hy : y < 13) (h : i < x ∨ (x = i ∧ j ≤ y)) : tb u v n k i j (13 * x + y) = nI (tt u v n k x y) := by
  unfold tb
  rw [show (13 * x + y) / 13 = x by omega, show (13 * x + y) % 13 = y by omega, if_pos h]
theorem tb_0 (u v : Nat → Int32) (n k : Nat) : tb u v n k n 0 = fun _ => nI 0 := by
  funext p
  unfold tb
  split
  · rw [tt_n]; omega
  · rfl
theorem tb_row (u v : Nat → Int32) (n k i : Nat) : tb u v n k (i + 1) 0 = tb u v n k i k := by
  funext p
  unfold tb
  by_cases h1 : i + 1 < p / 13 ∨ (p / 13 = i + 1 ∧ 0 ≤ p % 13)
  · rw [if_pos h1, if_pos (by omega)]
  · rw [if_neg h1]
    by_cases h2 : i < p / 13 ∨ (p / 13 = i ∧ k ≤ p % 13)
    · rw [if_pos h2, tt_k]; omega
    · rw [if_neg h2]
theorem tb_step (u v : Nat → Int32) (n k i j : Nat) (hj : j < 13) : (fun p => if p = 13 * i + j then nI (tt u v n k i j) else tb u v n k i (j + 1) p) = tb u v n k i j := by
  funext p
  by_cases h : p = 13 * i + j
  · rw [if_pos h, h, tb_in _ _ _ _ _ _ hj (Or.inr ⟨rfl, Nat.le_refl _⟩)]
  · rw [if_neg h]
    unfold tb
    by_cases h1 : i < p / 13 ∨ (p / 13 = i ∧ j + 1 ≤ p % 13)
    · rw [if_pos h1, if_pos (by omega)]
    · rw [if_neg h1, if_neg (by omega)]
theorem cpI_u (I : Nat → Nat → Int32) (b n y : Nat) (f : Nat → Int32) (v : Int32) (hy : y < n) : u2 (cpI I b 0 n f) b y v = cpI I b 0 n (fun p => if p = y then v else f p) := by
  funext x q
  show (if x = b ∧ q = y then v else if x = b ∧ 0 ≤ q ∧ q < 0 + n then f (q - 0) else I x q) = if x = b ∧ 0 ≤ q ∧ q < 0 + n then (if q - 0 = y then v else f (q - 0)) else I x q
  rw [Nat.sub_zero]
  by_cases h : x = b ∧ q = y
  · rw [if_pos h, if_pos (by omega), if_pos h.2]
  · rw [if_neg h]
    by_cases h2 : x = b ∧ 0 ≤ q ∧ q < 0 + n
    · rw [if_pos h2, if_pos h2, if_neg (fun z => h ⟨h2.1, z⟩)]
    · rw [if_neg h2, if_neg h2]
theorem wI_tb (m : Mm) (b : Nat) (u v : Nat → Int32) (n k i j : Nat) (hi : i < 13) (hj : j < 13) (hp : 13 * i + j < 169) : sI (wI m (cpI (im m) b 0 169 (tb u v n k i (j + 1)))) b (13 * i + j) (nI (tt u v n k i j)) = wI m (cpI (im m) b 0 169 (tb u v n k i j)) := by
  rw [wI_s, cpI_u _ _ _ _ _ _ hp, tb_step u v n k i j hj]
theorem im_tb (m : Mm) (b : Nat) (u v : Nat → Int32) (n k i j : Nat) {x y : Nat} (hy : y < 13) (h : i < x ∨ (x = i ∧ j ≤ y)) (hp : 13 * x + y < 169) : im (wI m (cpI (im m) b 0 169 (tb u v n k i j))) b (13 * x + y) = nI (tt u v n k x y) := by
  rw [im_wI, cpI_in _ _ _ _ _ (by omega) (by omega), Nat.sub_zero, tb_in u v n k i j hy h]
theorem im_tbo (m : Mm) (b : Nat) (u v : Nat → Int32) (n k i j : Nat) {x : Nat} (h : x ≠ b) : im (wI m (cpI (im m) b 0 169 (tb u v n k i j))) x = im m x := by
  rw [im_wI, cpI_ne _ _ _ _ _ h]
