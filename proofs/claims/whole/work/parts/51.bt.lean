/-! ===== Int32 by its bits: bt x i ===== -/
def bt (x : Int32) (i : Nat) : Bool := x.toBitVec.getLsbD i
theorem b_ext {x y : Int32} (h : ∀ i, i < 32 → bt x i = bt y i) : x = y := Int32.toBitVec_inj.mp (BitVec.eq_of_getLsbD_eq (fun i hi => h i hi))
theorem b_or (x y : Int32) (i : Nat) : bt (x ||| y) i = (bt x i || bt y i) := by unfold bt; rw [Int32.toBitVec_or, BitVec.getLsbD_or]
theorem b_and (x y : Int32) (i : Nat) : bt (x &&& y) i = (bt x i && bt y i) := by unfold bt; rw [Int32.toBitVec_and, BitVec.getLsbD_and]
theorem b_xor (x y : Int32) (i : Nat) : bt (x ^^^ y) i = (bt x i ^^ bt y i) := by unfold bt; rw [Int32.toBitVec_xor, BitVec.getLsbD_xor]
theorem b_big {x : Int32} {i : Nat} (h : 32 ≤ i) : bt x i = false := BitVec.getLsbD_of_ge _ _ h
theorem b_255 (i : Nat) : bt 255 i = decide (i < 8) := by
  rcases Nat.lt_or_ge i 32 with h | h
  · exact (by decide +kernel : ∀ i, i < 32 → bt 255 i = decide (i < 8)) i h
  · rw [b_big h, decide_eq_false (by omega)]
theorem b_65535 (i : Nat) : bt 65535 i = decide (i < 16) := by
  rcases Nat.lt_or_ge i 32 with h | h
  · exact (by decide +kernel : ∀ i, i < 32 → bt 65535 i = decide (i < 16)) i h
  · rw [b_big h, decide_eq_false (by omega)]
theorem b_m1 : ∀ i, i < 32 → bt (-1) i = true := by decide +kernel
theorem b_0 (i : Nat) : bt 0 i = false := BitVec.getLsbD_zero
theorem s_l : ∀ n, n < 32 → ((nI n &&& 31).toBitVec.smod 32).toNat = n := by decide +kernel
theorem s_u : ∀ n, n < 32 → (((nI n).toUInt32 &&& Int32.toUInt32 31).toBitVec % 32).toNat = n := by decide +kernel
theorem b_shl (n : Nat) (hn : n < 32) (x : Int32) {i : Nat} (hi : i < 32) : bt (x <<< (nI n &&& 31)) i = (decide (n ≤ i) && bt x (i - n)) := by
  unfold bt
  rw [Int32.toBitVec_shiftLeft]
  show (x.toBitVec <<< ((nI n &&& 31).toBitVec.smod 32).toNat).getLsbD i = _
  rw [s_l n hn, BitVec.getLsbD_shiftLeft]
  rcases Nat.lt_or_ge i n with h | h
  · simp [h, Nat.not_le.mpr h]
  · simp [hi, h, Nat.not_lt.mpr h]
theorem b_ushr (n : Nat) (hn : n < 32) (x : Int32) (i : Nat) : bt ((x.toUInt32 >>> ((nI n).toUInt32 &&& Int32.toUInt32 31)).toInt32) i = bt x (n + i) := by
  show (x.toUInt32 >>> ((nI n).toUInt32 &&& Int32.toUInt32 31)).toBitVec.getLsbD i = x.toUInt32.toBitVec.getLsbD (n + i)
  rw [UInt32.toBitVec_shiftRight]
  show (x.toUInt32.toBitVec >>> (((nI n).toUInt32 &&& Int32.toUInt32 31).toBitVec % 32).toNat).getLsbD i = _
  rw [s_u n hn, BitVec.getLsbD_ushiftRight]
theorem b_sshr (n : Nat) (hn : n < 32) (x : Int32) {i : Nat} (hi : i < 32) : bt (x >>> (nI n &&& 31)) i = if n + i < 32 then bt x (n + i) else bt x 31 := by
  unfold bt
  rw [Int32.toBitVec_shiftRight]
  show (x.toBitVec.sshiftRight ((nI n &&& 31).toBitVec.smod 32).toNat).getLsbD i = _
  rw [s_l n hn, BitVec.getLsbD_sshiftRight, BitVec.msb_eq_getLsbD_last]
  simp [hi]
/-! ===== the longest common row, from the front ===== -/
/-- of the first i words of u and the first j of v -/
def pl (u v : Nat → Int32) : Nat → Nat → Nat
  | 0 => fun _ => 0
  | i + 1 => fun j => Nat.rec 0 (fun j r => if u i = v j then pl u v i j + 1 else max (pl u v i (j + 1)) r) j
theorem pl_0 (u v : Nat → Int32) (j : Nat) : pl u v 0 j = 0 := rfl
theorem pl_z (u v : Nat → Int32) (i : Nat) : pl u v i 0 = 0 := by cases i <;> rfl
theorem pl_s (u v : Nat → Int32) (i j : Nat) : pl u v (i + 1) (j + 1) = if u i = v j then pl u v i j + 1 else max (pl u v i (j + 1)) (pl u v (i + 1) j) := rfl
theorem pl_m (u v : Nat → Int32) : ∀ s i j, i + j ≤ s → pl u v i j ≤ pl u v (i + 1) j ∧ pl u v (i + 1) j ≤ pl u v i j + 1 ∧ pl u v i j ≤ pl u v i (j + 1) ∧ pl u v i (j + 1) ≤ pl u v i j + 1 := by
  intro s
  induction s with
  | zero =>
    intro i j h
    obtain rfl : i = 0 := by omega
    obtain rfl : j = 0 := by omega
    simp only [pl_z, pl_0]; omega
  | succ s ih =>
    intro i j h
    have h1 : pl u v i j ≤ pl u v (i + 1) j ∧ pl u v (i + 1) j ≤ pl u v i j + 1 := by
      cases j with
      | zero => rw [pl_z, pl_z]; omega
      | succ j =>
        obtain ⟨a1, a2, a3, a4⟩ := ih i j (by omega)
        rw [pl_s u v i j]
        split <;> omega
    have h2 : pl u v i j ≤ pl u v i (j + 1) ∧ pl u v i (j + 1) ≤ pl u v i j + 1 := by
      cases i with
      | zero => rw [pl_0, pl_0]; omega
      | succ i =>
        obtain ⟨a1, a2, a3, a4⟩ := ih i j (by omega)
        rw [pl_s u v i j]
        split <;> omega
    exact ⟨h1.1, h1.2, h2.1, h2.2⟩
/-! both lengths are the greatest length of a row that both have -/
def isL (a b : List Int32) (t : Nat) : Prop := (∃ l : List Int32, l.Sublist a ∧ l.Sublist b ∧ l.length = t) ∧ ∀ l : List Int32, l.Sublist a → l.Sublist b → l.length ≤ t
theorem isL_u {a b : List Int32} {s t : Nat} (h : isL a b s) (k : isL a b t) : s = t := by
  obtain ⟨⟨l, l1, l2, l3⟩, h2⟩ := h
  obtain ⟨⟨q, q1, q2, q3⟩, k2⟩ := k
  have := h2 q q1 q2
  have := k2 l l1 l2
  omega
theorem isL_r {a b : List Int32} {t : Nat} (h : isL a b t) : isL a.reverse b.reverse t := by
  obtain ⟨⟨l, l1, l2, l3⟩, h2⟩ := h
  refine ⟨⟨l.reverse, l1.reverse, l2.reverse, by rw [List.length_reverse]; exact l3⟩, fun q q1 q2 => ?_⟩
  have e1 := q1.reverse
  have e2 := q2.reverse
  rw [List.reverse_reverse] at e1 e2
  have := h2 _ e1 e2
  rwa [List.length_reverse] at this
theorem isL_n1 (b : List Int32) : isL [] b 0 := ⟨⟨[], List.nil_sublist _, List.nil_sublist _, rfl⟩, fun l h _ => by rw [List.sublist_nil.mp h]; exact Nat.le_refl _⟩
theorem isL_n2 (a : List Int32) : isL a [] 0 := ⟨⟨[], List.nil_sublist _, List.nil_sublist _, rfl⟩, fun l _ h => by rw [List.sublist_nil.mp h]; exact Nat.le_refl _⟩
theorem isL_e {a b : List Int32} {t : Nat} (x : Int32) (h : isL a b t) : isL (x :: a) (x :: b) (t + 1) := by
  obtain ⟨⟨l, l1, l2, l3⟩, h2⟩ := h
  refine ⟨⟨x :: l, l1.cons_cons x, l2.cons_cons x, by rw [List.length_cons, l3]⟩, fun q q1 q2 => ?_⟩
  cases q1 with
  | cons _ q1 =>
    cases q2 with
    | cons _ q2 => have := h2 q q1 q2; omega
    | cons_cons _ q2 =>
      have := h2 _ ((List.sublist_cons_self _ _).trans q1) q2
      rw [List.length_cons]; omega
  | cons_cons _ q1 =>
    cases q2 with
    | cons _ q2 =>
      have := h2 _ q1 ((List.sublist_cons_self _ _).trans q2)
      rw [List.length_cons]; omega
    | cons_cons _ q2 =>
      have := h2 _ q1 q2
      rw [List.length_cons]; omega
theorem isL_d {a b : List Int32} {s t : Nat} {x y : Int32} (hxy : ¬ x = y) (h : isL a (y :: b) s) (k : isL (x :: a) b t) : isL (x :: a) (y :: b) (max s t) := by
  obtain ⟨⟨l, l1, l2, l3⟩, h2⟩ := h
  obtain ⟨⟨q, q1, q2, q3⟩, k2⟩ := k
  refine ⟨?_, fun r r1 r2 => ?_⟩
  · by_cases e : t ≤ s
    · exact ⟨l, l1.cons x, l2, by omega⟩
    · exact ⟨q, q1, q2.cons y, by omega⟩
  · cases r1 with
    | cons _ r1 => have := h2 r r1 r2; omega
    | cons_cons _ r1 =>
      cases r2 with
      | cons _ r2 => have := k2 _ (r1.cons_cons x) r2; omega
      | cons_cons _ r2 => exact absurd rfl hxy
def prL (u : Nat → Int32) : Nat → List Int32
  | 0 => []
  | i + 1 => u i :: prL u i
def sfL (u : Nat → Int32) (n : Nat) : Nat → List Int32
  | 0 => []
  | i + 1 => u (n - (i + 1)) :: sfL u n i
theorem pl_L (u v : Nat → Int32) : ∀ i j, isL (prL u i) (prL v j) (pl u v i j) := by
  intro i
  induction i with
  | zero => intro j; exact isL_n1 _
  | succ i ih =>
    intro j
    induction j with
    | zero => rw [pl_z]; exact isL_n2 _
    | succ j jh =>
      rw [pl_s]
      by_cases e : u i = v j
      · rw [if_pos e]
        show isL (u i :: prL u i) (v j :: prL v j) _
        rw [← e]; exact isL_e _ (ih j)
      · rw [if_neg e]; exact isL_d e (ih (j + 1)) jh
theorem lc_L (u v : Nat → Int32) (n k : Nat) : ∀ i j, isL (sfL u n i) (sfL v k j) (lc u v n k i j) := by
  intro i
  induction i with
  | zero => intro j; exact isL_n1 _
  | succ i ih =>
    intro j
    induction j with
    | zero => rw [lc_z]; exact isL_n2 _
    | succ j jh =>
      rw [lc_s]
      by_cases e : u (n - (i + 1)) = v (k - (j + 1))
      · rw [if_pos e]
        show isL (u (n - (i + 1)) :: sfL u n i) (v (k - (j + 1)) :: sfL v k j) _
        rw [← e]; exact isL_e _ (ih j)
      · rw [if_neg e]; exact isL_d e (ih (j + 1)) jh
theorem prL_a (u : Nat → Int32) : ∀ i, prL u (i + 1) = prL (fun x => u (1 + x)) i ++ [u 0] := by
  intro i
  induction i with
  | zero => rfl
  | succ i ih =>
    show u (i + 1) :: prL u (i + 1) = (fun x => u (1 + x)) i :: prL (fun x => u (1 + x)) i ++ [u 0]
    rw [ih, List.cons_append]
    show u (i + 1) :: _ = u (1 + i) :: _
    rw [Nat.add_comm 1 i]
theorem sfL_r (u : Nat → Int32) (n : Nat) : ∀ i, i ≤ n → (sfL u n i).reverse = prL (fun x => u (n - i + x)) i := by
  intro i
  induction i with
  | zero => intro _; rfl
  | succ i ih =>
    intro h
    show (u (n - (i + 1)) :: sfL u n i).reverse = _
    rw [List.reverse_cons, ih (by omega), prL_a]
    congr 1
    · congr 1
      funext x
      congr 1
      omega
/-- from the front, of what is left of both rows -/
theorem pl_tt (u v : Nat → Int32) {n k i j : Nat} (hi : i ≤ n) (hj : j ≤ k) : pl (fun x => u (i + x)) (fun x => v (j + x)) (n - i) (k - j) = tt u v n k i j := by
  have h := isL_r (lc_L u v n k (n - i) (k - j))
  rw [sfL_r u n (n - i) (Nat.sub_le _ _), sfL_r v k (k - j) (Nat.sub_le _ _), show n - (n - i) = i by omega, show k - (k - j) = j by omega] at h
  exact isL_u (pl_L _ _ _ _) h
/-! ===== a line of the table as bits ===== -/
def fb (u v : Nat → Int32) (N q : Nat) (x : Int32) : Prop := (∀ p, p < N → bt x p = decide (pl u v (p + 1) q = pl u v p q)) ∧ ∀ p, N ≤ p → bt x p = false
theorem b_all : ∀ N, N < 13 → ∀ p, p < 32 → bt (nI 1 <<< (nI N &&& 31) - nI 1) p = decide (p < N) := by decide +kernel
theorem b_al (N : Nat) (hN : N ≤ 12) (p : Nat) : bt (nI 1 <<< (nI N &&& 31) - nI 1) p = decide (p < N) := by
  by_cases h : p < 32
  · exact b_all N (by omega) p h
  · rw [b_big (by omega)]
    exact (decide_eq_false (by omega)).symm
theorem fb_0 (u v : Nat → Int32) {N : Nat} (hN : N ≤ 12) : fb u v N 0 (nI 1 <<< (nI N &&& 31) - nI 1) := by
  refine ⟨fun p hp => ?_, fun p hp => ?_⟩
  · rw [b_al N hN, pl_z, pl_z, decide_eq_true hp]; rfl
  · rw [b_al N hN, decide_eq_false (by omega)]
theorem b_add (x y : Int32) {p : Nat} (hp : p < 32) : bt (x + y) p = (bt x p ^^ (bt y p ^^ BitVec.carry p x.toBitVec y.toBitVec false)) := by
  unfold bt; rw [Int32.toBitVec_add, BitVec.getLsbD_add hp]
theorem fb_c {u v : Nat → Int32} {N q : Nat} {x M : Int32} (h : fb u v N q x) (hM : ∀ p, p < N → bt M p = decide (u p = v q)) : ∀ p, p ≤ N → BitVec.carry p x.toBitVec (x &&& M).toBitVec false = decide (pl u v p (q + 1) = pl u v p q + 1) := by
  intro p
  induction p with
  | zero =>
    intro _
    rw [BitVec.carry_zero, pl_0, pl_0]; rfl
  | succ p ih =>
    intro hp
    rw [BitVec.carry_succ, ih (by omega)]
    show Bool.atLeastTwo (bt x p) (bt (x &&& M) p) _ = _
    rw [b_and, h.1 p (by omega), hM p (by omega), pl_s u v p q]
    obtain ⟨a1, a2, a3, a4⟩ := pl_m u v _ p q (Nat.le_refl _)
    by_cases e1 : u p = v q
    · rw [if_pos e1, decide_eq_true e1]
      by_cases e2 : pl u v (p + 1) q = pl u v p q
      · rw [decide_eq_true e2, decide_eq_true (show pl u v p q + 1 = pl u v (p + 1) q + 1 by omega)]
        simp [Bool.atLeastTwo]
      · rw [decide_eq_false e2, decide_eq_false (show ¬ pl u v p q + 1 = pl u v (p + 1) q + 1 by omega)]
        simp [Bool.atLeastTwo]
    · rw [if_neg e1, decide_eq_false e1]
      by_cases e2 : pl u v (p + 1) q = pl u v p q
      · rw [decide_eq_true e2]
        by_cases e3 : pl u v p (q + 1) = pl u v p q + 1
        · rw [decide_eq_true e3, decide_eq_true (show max (pl u v p (q + 1)) (pl u v (p + 1) q) = pl u v (p + 1) q + 1 by omega)]
          simp [Bool.atLeastTwo]
        · rw [decide_eq_false e3, decide_eq_false (show ¬ max (pl u v p (q + 1)) (pl u v (p + 1) q) = pl u v (p + 1) q + 1 by omega)]
          simp [Bool.atLeastTwo]
      · rw [decide_eq_false e2, decide_eq_false (show ¬ max (pl u v p (q + 1)) (pl u v (p + 1) q) = pl u v (p + 1) q + 1 by omega)]
        simp [Bool.atLeastTwo]
theorem fb_s {u v : Nat → Int32} {N q : Nat} {x M : Int32} (hN : N ≤ 12) (h : fb u v N q x) (hM : ∀ p, p < N → bt M p = decide (u p = v q)) :
    fb u v N (q + 1) (((x + (x &&& M)) ||| (x &&& (M ^^^ -1))) &&& (nI 1 <<< (nI N &&& 31) - nI 1)) := by
  refine ⟨fun p hp => ?_, fun p hp => ?_⟩
  · rw [b_and, b_al N hN, decide_eq_true hp, b_or, b_and, b_xor, b_m1 p (by omega), b_add _ _ (by omega), fb_c h hM p (by omega), b_and, h.1 p hp, hM p hp, pl_s u v p q]
    obtain ⟨a1, a2, a3, a4⟩ := pl_m u v _ p q (Nat.le_refl _)
    by_cases e1 : u p = v q
    · rw [if_pos e1, decide_eq_true e1]
      by_cases e2 : pl u v (p + 1) q = pl u v p q
      · rw [decide_eq_true e2]
        by_cases e3 : pl u v p (q + 1) = pl u v p q + 1
        · rw [decide_eq_true e3, decide_eq_true (show pl u v p q + 1 = pl u v p (q + 1) by omega)]; rfl
        · rw [decide_eq_false e3, decide_eq_false (show ¬ pl u v p q + 1 = pl u v p (q + 1) by omega)]; rfl
      · rw [decide_eq_false e2]
        by_cases e3 : pl u v p (q + 1) = pl u v p q + 1
        · rw [decide_eq_true e3, decide_eq_true (show pl u v p q + 1 = pl u v p (q + 1) by omega)]; rfl
        · rw [decide_eq_false e3, decide_eq_false (show ¬ pl u v p q + 1 = pl u v p (q + 1) by omega)]; rfl
    · rw [if_neg e1, decide_eq_false e1]
      by_cases e2 : pl u v (p + 1) q = pl u v p q
      · rw [decide_eq_true e2]
        by_cases e3 : pl u v p (q + 1) = pl u v p q + 1
        · rw [decide_eq_true e3, decide_eq_true (show max (pl u v p (q + 1)) (pl u v (p + 1) q) = pl u v p (q + 1) by omega)]; rfl
        · rw [decide_eq_false e3, decide_eq_true (show max (pl u v p (q + 1)) (pl u v (p + 1) q) = pl u v p (q + 1) by omega)]; rfl
      · rw [decide_eq_false e2]
        by_cases e3 : pl u v p (q + 1) = pl u v p q + 1
        · rw [decide_eq_true e3, decide_eq_true (show max (pl u v p (q + 1)) (pl u v (p + 1) q) = pl u v p (q + 1) by omega)]; rfl
        · rw [decide_eq_false e3, decide_eq_false (show ¬ max (pl u v p (q + 1)) (pl u v (p + 1) q) = pl u v p (q + 1) by omega)]; rfl
  · rw [b_and, b_al N hN, decide_eq_false (by omega), Bool.and_false]
/-! ===== counting bits ===== -/
def cb (x : Int32) : Nat → Nat
  | 0 => 0
  | k + 1 => cb x k + (if bt x k = true then 1 else 0)
theorem cb_le (x : Int32) : ∀ k, cb x k ≤ k := by
  intro k
  induction k with
  | zero => exact Nat.le_refl 0
  | succ k ih =>
    show cb x k + (if bt x k = true then 1 else 0) ≤ k + 1
    split <;> omega
theorem fb_n {u v : Nat → Int32} {N q : Nat} {x : Int32} (h : fb u v N q x) : ∀ k, k ≤ N → cb x k + pl u v k q = k := by
  intro k
  induction k with
  | zero => intro _; rw [pl_0]; rfl
  | succ k ih =>
    intro hk
    have e := ih (by omega)
    obtain ⟨a1, a2, a3, a4⟩ := pl_m u v _ k q (Nat.le_refl _)
    show cb x k + (if bt x k = true then 1 else 0) + pl u v (k + 1) q = k + 1
    rw [h.1 k (by omega)]
    by_cases e2 : pl u v (k + 1) q = pl u v k q
    · rw [if_pos (decide_eq_true e2)]; omega
    · rw [if_neg (by rw [decide_eq_false e2]; decide)]; omega
theorem cb_up {x : Int32} {N : Nat} (h : ∀ p, N ≤ p → bt x p = false) : ∀ d, cb x (N + d) = cb x N := by
  intro d
  induction d with
  | zero => rfl
  | succ d ih =>
    show cb x (N + d) + (if bt x (N + d) = true then 1 else 0) = _
    rw [h _ (by omega), ih]; rfl
theorem b_small {x : Int32} (h : ∀ p, 12 ≤ p → bt x p = false) : ∃ n, n < 4096 ∧ x = nI n := by
  refine ⟨x.toBitVec.toNat, ?_, ?_⟩
  · have := Nat.lt_pow_two_of_testBit (n := 12) x.toBitVec.toNat (fun i hi => h i hi)
    exact this
  · refine b_ext fun i hi => ?_
    show x.toBitVec.getLsbD i = (Int32.ofNat x.toBitVec.toNat).toBitVec.getLsbD i
    rw [show (Int32.ofNat x.toBitVec.toNat).toBitVec = BitVec.ofNat 32 x.toBitVec.toNat from rfl, BitVec.ofNat_toNat, BitVec.setWidth_eq]
