/-! WHAT EVERY STATE KEEPS: segments -/
theorem NR.z {x : Int32} {l b : Nat} (h : NR x l b) : NR x 0 b := ⟨h.1, Nat.zero_le _, h.2.2⟩
theorem NR.add {x y : Int32} {a b : Nat} (hx : NR x 0 a) (hy : NR y 0 b) (h : a + b < 2147483648) : NR (x + y) 0 (a + b) := by
  have h1 := hx.hi
  have h2 := hy.hi
  rw [hx.e, hy.e, nI_add]; exact nr_nI (Nat.zero_le _) (by omega) h
theorem NR.nv_add {x y : Int32} {a b : Nat} (hx : NR x 0 a) (hy : NR y 0 b) (h : a + b < 2147483648) : nv (x + y) = nv x + nv y := by
  have h1 := hx.hi
  have h2 := hy.hi
  have e : x + y = nI (nv x + nv y) := by rw [← nI_add, ← hx.e, ← hy.e]
  rw [e, nv_nI (by omega)]
theorem NR.sub_e {x y : Int32} {a b : Nat} (hx : NR x 0 a) (hy : NR y 0 b) (h : nv y ≤ nv x) : x - y = nI (nv x - nv y) := by
  rw [← pk_sub h, ← hx.e, ← hy.e]
theorem NR.sub {x y : Int32} {a b : Nat} (hx : NR x 0 a) (hy : NR y 0 b) (h : nv y ≤ nv x) (ha : a < 2147483648) : NR (x - y) 0 a := by
  have h1 := hx.hi
  rw [hx.sub_e hy h]; exact nr_nI (Nat.zero_le _) (by omega) ha
theorem NR.nv_sub {x y : Int32} {a b : Nat} (hx : NR x 0 a) (hy : NR y 0 b) (h : nv y ≤ nv x) (ha : a < 2147483648) : nv (x - y) = nv x - nv y := by
  have h1 := hx.hi
  rw [hx.sub_e hy h, nv_nI (by omega)]
theorem NR.mul3 {x y w : Int32} {a b d : Nat} (hx : NR x 0 a) (hy : NR y 0 b) (hw : NR w 0 d) (h : a * b * d < 2147483648) : NR (x * y * w / nI 100) 0 (a * b * d / 100) := by
  have h1 : nv x * nv y * nv w ≤ a * b * d := Nat.mul_le_mul (Nat.mul_le_mul hx.hi hy.hi) hw.hi
  rw [hx.e, hy.e, hw.e, pk_mul, pk_mul, pk_div (by omega) (by decide) (by decide)]
  exact nr_nI (Nat.zero_le _) (Nat.div_le_div_right h1) (by omega)
theorem sm_ge1 (f : Nat → Nat) {s : Nat} : ∀ n, s < n → f s ≤ sm f n := by
  intro n
  induction n with
  | zero => intro h; exact absurd h (Nat.not_lt_zero _)
  | succ n ih =>
    intro h
    show f s ≤ sm f n + f n
    by_cases q : s = n
    · subst q; omega
    · have := ih (by omega); omega
section ZS
variable {c : Nat} {z z' : Nat → Int32}
theorem ZX.seg (h : ZX z) {s : Nat} (hs : s < nv (z 0)) (h0 : z' 0 = z 0) (h1 : z' 1 = z 1) (e : ∀ q, q < nv (z 0) → q ≠ s → ∀ j, 79 + 22 * q + 1 ≤ j → j < 79 + 22 * q + 9 → z' j = z j) (hsx : SX z' s) (hp : ∀ p, p < 4 → nv (z (4 + 5 * p + 1)) + pdF z' p s ≤ nv (z' (4 + 5 * p + 1)) + pdF z p s) : ZX z' := by
  obtain ⟨a, b, d⟩ := h
  refine ⟨by rw [h0, h1]; exact a, fun q hq => ?_, fun p hp4 => ?_⟩
  · rw [h0] at hq
    by_cases k : q = s
    · subst k; exact hsx
    · exact (b q hq).cg (e q hq k)
  · rw [h0]
    have k1 := sm_one (f := pdF z p) (f' := pdF z' p) (s := s) (nv (z 0)) hs (fun i hi hne => pdF_cg (fun j a1 a2 => e i hi hne j a1 (by omega)))
    have k2 := d p hp4
    have k3 := hp p hp4
    omega
theorem pdF_0 {p s : Nat} (h : ¬ z (79 + 22 * s + 1) = nI 2) : pdF z p s = 0 := if_neg (fun q => h q.1)
/-- one segment is changed -/
theorem ZI.seg (h : ZI c z) {s : Nat} (hs : s < nv (z 0)) (e : ∀ j, (j < 79 + 22 * s ∨ 79 + 22 * s + 22 ≤ j) → z' j = z j) (hS : SOk c z' s) (hsx : SX z' s) (hp : ∀ p, p < 4 → pdF z' p s ≤ pdF z p s) : ZI c z' := by
  have hz0 := h.1.n0.hi
  refine ⟨h.1.ch (e _ (by omega)) (e _ (by omega)) (by rw [e _ (by omega)]; exact h.1.n2) (by rw [e _ (by omega)]; exact h.1.n3) (fun p hp => (h.1.t hp).cg (fun y a b => e y (by omega))) (fun p hp => (h.1.b hp).cg (fun y a b => e y (by omega))) (fun k hk => by rw [e _ (by omega)]; exact h.1.P hk) (fun q hq => ?_) (fun y hy => e y (by omega)), h.2.seg hs (e _ (by omega)) (e _ (by omega)) (fun q hq hne j a b => e j (by omega)) hsx (fun p hp4 => ?_)⟩
  · by_cases k : q = s
    · subst k; exact hS
    · exact (h.1.sg hq).cg (fun y a b => e y (by omega))
  · rw [e _ (by omega)]
    have := hp p hp4
    omega
theorem zi_fx (h : ZI c z) {s : Nat} (hs : s < nv (z 0)) : ZI c (fxZ z s) := by
  have hz0 := h.1.n0.hi
  have hb4 := bandOf_le (mtc z (79 + 22 * s))
  have e : ∀ j, j ≠ 79 + 22 * s + 3 → j ≠ 79 + 22 * s + 4 → fxZ z s j = z j := fun j h1 h2 => by unfold fxZ; rw [u1_n _ _ _ h2, u1_n _ _ _ h1]
  obtain ⟨s0, s1, s2, s3, s4, s5⟩ := h.1.sg hs
  refine h.seg hs (fun j hj => e j (by omega) (by omega)) ⟨s0.cg (e _ (by omega) (by omega)) (fun j a b => e j (by omega) (by omega)), ?_, ?_, ?_, ?_, ?_⟩ (fun q => by rw [e _ (by omega) (by omega)] at q; rw [e _ (by omega) (by omega), e _ (by omega) (by omega), e _ (by omega) (by omega)]; exact h.2.2.1 s hs q) (fun p hp => Nat.le_of_eq ?_)
  · rw [e _ (by omega) (by omega)]; exact s1
  · rw [e _ (by omega) (by omega)]; exact s2
  · unfold fxZ; rw [u1_n _ _ _ (by omega), u1_s]; exact nr_nI (Nat.zero_le _) hb4 (by decide)
  · unfold fxZ; rw [u1_s]; exact h.1.B0 (by omega)
  · rw [e _ (by omega) (by omega), e _ (by omega) (by omega), e _ (by omega) (by omega), e _ (by omega) (by omega), e _ (by omega) (by omega)]; exact s5
  · unfold pdF; rw [e _ (by omega) (by omega), e _ (by omega) (by omega), e _ (by omega) (by omega)]
theorem zi_a1 (h : ZI c z) {s t : Nat} (hs : s < nv (z 0)) (ht : t < 4) (h0 : z (79 + 22 * s + 1) = 0) : ZI c (u1 (u1 z (79 + 22 * s + 1) (nI 1)) (79 + 22 * s + 2) (nI t)) := by
  have hz0 := h.1.n0.hi
  have e : ∀ j, j ≠ 79 + 22 * s + 1 → j ≠ 79 + 22 * s + 2 → u1 (u1 z (79 + 22 * s + 1) (nI 1)) (79 + 22 * s + 2) (nI t) j = z j := fun j h1 h2 => by rw [u1_n _ _ _ h2, u1_n _ _ _ h1]
  have e1 : u1 (u1 z (79 + 22 * s + 1) (nI 1)) (79 + 22 * s + 2) (nI t) (79 + 22 * s + 1) = nI 1 := by rw [u1_n _ _ _ (by omega), u1_s]
  obtain ⟨s0, s1, s2, s3, s4, s5⟩ := h.1.sg hs
  have hx := h.2.2.1 s hs (by rw [h0]; decide)
  refine h.seg hs (fun j hj => e j (by omega) (by omega)) ⟨s0.cg (e _ (by omega) (by omega)) (fun j a b => e j (by omega) (by omega)), ?_, ?_, ?_⟩ ?_ (fun p hp => ?_)
  · rw [e1]; exact nr_nI (by omega) (by omega) (by decide)
  · rw [u1_s]; exact nr_nI (by omega) (by omega) (by decide)
  · rw [e _ (by omega) (by omega), e _ (by omega) (by omega), e _ (by omega) (by omega), e _ (by omega) (by omega), e _ (by omega) (by omega), e _ (by omega) (by omega), e _ (by omega) (by omega)]; exact ⟨s3, s4, s5⟩
  · intro _
    rw [e _ (by omega) (by omega), e _ (by omega) (by omega), e _ (by omega) (by omega)]
    exact hx
  · rw [pdF_0 (by rw [e1]; decide)]; exact Nat.zero_le _
theorem zi_as (h : ZI c z) {s t : Nat} (hs : s < nv (z 0)) (ht : t < 4) (h0 : z (79 + 22 * s + 1) = 0) : ZI c (asZ z s t) :=
  zi_fx (zi_a1 h hs ht h0) (by rw [u1_n _ _ _ (by omega), u1_n _ _ _ (by omega)]; exact hs)
theorem zi_rs (h : ZI c z) (hc : 1188 * (c + 1) < 2147483648) {s : Nat} (hs : s < nv (z 0)) : ZI (c + 1) (rsZ z s) := by
  have hz0 := h.1.n0.hi
  have e1 := rsZ_1 z s
  obtain ⟨s0, s1, s2, s3, s4, s5, s6, s7, s8, s9⟩ := h.1.sg hs
  refine h.up.seg hs (fun j hj => rsZ_lo z s (by omega)) ⟨s0.cg (rsZ_lo z s (by omega)) (fun j a b => rsZ_lo z s (by omega)), ?_, ?_, ?_, ?_, ?_, ?_, ?_, ?_, ?_⟩ (fun _ => ⟨?_, ?_, ?_⟩) (fun p hp => by rw [pdF_0 (by rw [e1]; decide)]; exact Nat.zero_le _)
  · rw [e1]; exact nr_nI (by omega) (by omega) (by decide)
  · simp (disch := omega) only [rsZ, u1_n, u1_s]; exact s2
  · simp (disch := omega) only [rsZ, u1_n, u1_s]; exact s3
  · simp (disch := omega) only [rsZ, u1_n, u1_s]; exact s4
  · simp (disch := omega) only [rsZ, u1_n, u1_s]; exact nr_nI (by omega) (by omega) (by decide)
  · simp (disch := omega) only [rsZ, u1_n, u1_s]; rw [Nat.mul_add]; exact s6.add s5 (by omega)
  · simp (disch := omega) only [rsZ, u1_n, u1_s]; decide
  · simp (disch := omega) only [rsZ, u1_n, u1_s]; exact nr_nI (by omega) (by omega) (by decide)
  · rw [rsZ_lo z s (by omega)]; exact s9
  · simp (disch := omega) only [rsZ, u1_n, u1_s]
  · simp (disch := omega) only [rsZ, u1_n, u1_s]
  · simp (disch := omega) only [rsZ, u1_n, u1_s]
end ZS
