/-! WHAT EVERY STATE KEEPS, from call to call -/
theorem nr_nI {l b n : Nat} (h1 : l ≤ n) (h2 : n ≤ b) (hb : b < 2147483648) : NR (nI n) l b := ⟨by rw [nv_nI (by omega)], by rw [nv_nI (by omega)]; exact h1, by rw [nv_nI (by omega)]; exact h2⟩
def TOk (c : Nat) (z : Nat → Int32) (p : Nat) : Prop := NR (z (4 + 5 * p)) 1 99 ∧ NR (z (4 + 5 * p + 1)) 0 (1188 * c) ∧ NR (z (4 + 5 * p + 2)) 0 (12 * c) ∧ NR (z (4 + 5 * p + 3)) 0 (12 * c) ∧ NR (z (4 + 5 * p + 4)) 0 (12 * c)
def BOk (c : Nat) (z : Nat → Int32) (b : Nat) : Prop := NR (z (64 + 3 * b)) 0 100 ∧ NR (z (64 + 3 * b + 1)) 0 (12 * c) ∧ NR (z (64 + 3 * b + 2)) 0 (1188 * c)
def SOk (c : Nat) (z : Nat → Int32) (s : Nat) : Prop := RwOk z (79 + 22 * s) 10 ∧ NR (z (79 + 22 * s + 1)) 0 3 ∧ NR (z (79 + 22 * s + 2)) 0 3 ∧ NR (z (79 + 22 * s + 3)) 0 4 ∧ NR (z (79 + 22 * s + 4)) 0 100 ∧ NR (z (79 + 22 * s + 5)) 0 1188 ∧ NR (z (79 + 22 * s + 6)) 0 (1188 * c) ∧ (-1 ≤ (z (79 + 22 * s + 7)).toInt ∧ (z (79 + 22 * s + 7)).toInt ≤ 3) ∧ NR (z (79 + 22 * s + 8)) 0 12 ∧ NR (z (79 + 22 * s + 9)) 0 99
section ZP
variable {c : Nat} {z z' : Nat → Int32}
theorem ZOk.t (h : ZOk c z) {p : Nat} (hp : p < 4) : TOk c z p := h.2.1 p hp
theorem ZOk.b (h : ZOk c z) {p : Nat} (hp : p < 5) : BOk c z p := h.2.2.1 p hp
theorem ZOk.sg (h : ZOk c z) {s : Nat} (hs : s < nv (z 0)) : SOk c z s := h.2.2.2.2.1 s hs
theorem TOk.up {p : Nat} (h : TOk c z p) : TOk (c + 1) z p := ⟨h.1, h.2.1.up (by omega), h.2.2.1.up (by omega), h.2.2.2.1.up (by omega), h.2.2.2.2.up (by omega)⟩
theorem BOk.up {p : Nat} (h : BOk c z p) : BOk (c + 1) z p := ⟨h.1, h.2.1.up (by omega), h.2.2.up (by omega)⟩
theorem SOk.up {s : Nat} (h : SOk c z s) : SOk (c + 1) z s := by
  obtain ⟨h0, h1, h2, h3, h4, h5, h6, h7⟩ := h
  exact ⟨h0, h1, h2, h3, h4, h5, h6.up (by omega), h7⟩
theorem ZOk.up (h : ZOk c z) : ZOk (c + 1) z := ⟨h.1, fun _ hp => (h.t hp).up, fun _ hp => (h.b hp).up, h.2.2.2.1, fun _ hs => (h.sg hs).up, h.2.2.2.2.2⟩
theorem TOk.cg {p : Nat} (h : TOk c z p) (e : ∀ j, 4 + 5 * p ≤ j → j < 4 + 5 * p + 5 → z' j = z j) : TOk c z' p := by
  unfold TOk at h ⊢
  rw [e _ (by omega) (by omega), e _ (by omega) (by omega), e _ (by omega) (by omega), e _ (by omega) (by omega), e _ (by omega) (by omega)]
  exact h
theorem BOk.cg {p : Nat} (h : BOk c z p) (e : ∀ j, 64 + 3 * p ≤ j → j < 64 + 3 * p + 3 → z' j = z j) : BOk c z' p := by
  unfold BOk at h ⊢
  rw [e _ (by omega) (by omega), e _ (by omega) (by omega), e _ (by omega) (by omega)]
  exact h
theorem RwOk.cg {p o : Nat} (h : RwOk z p o) (e0 : z' p = z p) (e : ∀ j, p + o ≤ j → j < p + o + 12 → z' j = z j) : RwOk z' p o := by
  refine ⟨by rw [e0]; exact h.1, fun i hi => ?_⟩
  rw [e0] at hi
  have := h.1.hi
  rw [e _ (by omega) (by omega)]
  exact h.2 i hi
theorem SOk.cg {s : Nat} (h : SOk c z s) (e : ∀ j, 79 + 22 * s ≤ j → j < 79 + 22 * s + 22 → z' j = z j) : SOk c z' s := by
  obtain ⟨h0, h1⟩ := h
  refine ⟨h0.cg (e _ (by omega) (by omega)) (fun j a b => e j (by omega) (by omega)), ?_⟩
  rw [e _ (by omega) (by omega), e _ (by omega) (by omega), e _ (by omega) (by omega), e _ (by omega) (by omega), e _ (by omega) (by omega), e _ (by omega) (by omega), e _ (by omega) (by omega), e _ (by omega) (by omega), e _ (by omega) (by omega)]
  exact h1
theorem ZOk.ch (h : ZOk c z) (h0 : z' 0 = z 0) (h1 : z' 1 = z 1) (h2 : NR (z' 2) 0 100) (h3 : NR (z' 3) 0 200) (hT : ∀ p, p < 4 → TOk c z' p) (hB : ∀ p, p < 5 → BOk c z' p) (hP : ∀ k, k < 40 → -1 ≤ (z' (24 + k)).toInt ∧ (z' (24 + k)).toInt ≤ 9) (hS : ∀ s, s < nv (z 0) → SOk c z' s) (hM : ∀ j, 299 ≤ j → z' j = z j) : ZOk c z' := by
  refine ⟨⟨by rw [h0]; exact h.n0, by rw [h1]; exact h.n1, h2, h3⟩, hT, hB, hP, fun s hs => ?_, fun r hr => ?_⟩
  · rw [h0] at hs; exact hS s hs
  · rw [h1] at hr
    exact (h.mem hr).cg (hM _ (by omega)) (fun j a _ => hM j (by omega))
/-- what the segment s weighs for the translator p -/
def pdF (z : Nat → Int32) (p s : Nat) : Nat := if z (79 + 22 * s + 1) = nI 2 ∧ z (79 + 22 * s + 2) = nI p then nv (z (79 + 22 * s + 5)) else 0
def SX (z : Nat → Int32) (s : Nat) : Prop := nv (z (79 + 22 * s + 1)) ≤ 1 → z (79 + 22 * s + 5) = nI 0 ∧ z (79 + 22 * s + 7) = -1 ∧ z (79 + 22 * s + 8) = nI 0
def ZX (z : Nat → Int32) : Prop := (0 < nv (z 1) → 0 < nv (z 0)) ∧ (∀ s, s < nv (z 0) → SX z s) ∧ ∀ p, p < 4 → sm (pdF z p) (nv (z 0)) ≤ nv (z (4 + 5 * p + 1))
def ZI (c : Nat) (z : Nat → Int32) : Prop := ZOk c z ∧ ZX z
theorem ZI.up (h : ZI c z) : ZI (c + 1) z := ⟨h.1.up, h.2⟩
theorem pdF_cg {p s : Nat} (e : ∀ j, 79 + 22 * s + 1 ≤ j → j < 79 + 22 * s + 6 → z' j = z j) : pdF z' p s = pdF z p s := by
  unfold pdF
  rw [e _ (by omega) (by omega), e _ (by omega) (by omega), e _ (by omega) (by omega)]
theorem SX.cg {s : Nat} (h : SX z s) (e : ∀ j, 79 + 22 * s + 1 ≤ j → j < 79 + 22 * s + 9 → z' j = z j) : SX z' s := by
  unfold SX at h ⊢
  rw [e _ (by omega) (by omega), e _ (by omega) (by omega), e _ (by omega) (by omega), e _ (by omega) (by omega)]
  exact h
theorem sm_one {f f' : Nat → Nat} {s : Nat} : ∀ n, s < n → (∀ i, i < n → i ≠ s → f' i = f i) → sm f' n + f s = sm f n + f' s := by
  intro n
  induction n with
  | zero => intro h; exact absurd h (Nat.not_lt_zero _)
  | succ n ih =>
    intro h e
    show sm f' n + f' n + f s = sm f n + f n + f' s
    by_cases q : s = n
    · subst q
      rw [sm_c (f := f') (f' := f) s (fun i hi => e i (by omega) (by omega))]
      omega
    · have h1 := ih (by omega) (fun i hi => e i (by omega))
      have h2 := e n (by omega) (fun q2 => q q2.symm)
      omega
/-- nothing that ZX speaks of is changed -/
theorem ZX.cg (h : ZX z) (h0 : z' 0 = z 0) (h1 : z' 1 = z 1) (hT : ∀ p, p < 4 → z' (4 + 5 * p + 1) = z (4 + 5 * p + 1)) (e : ∀ s, s < nv (z 0) → ∀ j, 79 + 22 * s + 1 ≤ j → j < 79 + 22 * s + 9 → z' j = z j) : ZX z' := by
  obtain ⟨a, b, d⟩ := h
  refine ⟨by rw [h0, h1]; exact a, fun s hs => ?_, fun p hp => ?_⟩
  · rw [h0] at hs; exact (b s hs).cg (e s hs)
  · rw [h0, hT p hp, sm_c (f := pdF z' p) (f' := pdF z p) _ (fun s hs => pdF_cg (fun j a1 a2 => e s hs j a1 (by omega)))]
    exact d p hp
end ZP
/-- a number between two naturals -/
theorem NR.of {x : Int32} {l b : Nat} (h1 : nI l ≤ x) (h2 : x ≤ nI b) (hb : b < 2147483648) (hl : l < 2147483648) : NR x l b := by
  rw [Int32.le_iff_toInt_le, nI_tI' hl] at h1
  rw [Int32.le_iff_toInt_le, nI_tI' hb] at h2
  have h3 : inb x (b + 1) := ⟨by omega, by omega⟩
  obtain ⟨j, hj, rfl⟩ := inb_of h3 (by omega)
  rw [nI_tI' (by omega)] at h1 h2
  exact nr_nI (by omega) (by omega) hb
section ZQ
variable {c : Nat} {z : Nat → Int32}
theorem zi_rate (h : ZI c z) {j : Nat} (hj : j < 4) {x : Int32} (hx : nI 1 ≤ x ∧ x ≤ nI 99) : ZI (c + 1) (u1 z (4 + 5 * j) x) := by
  have e : ∀ y, y ≠ 4 + 5 * j → u1 z (4 + 5 * j) x y = z y := fun y hy => u1_n _ _ _ hy
  refine ⟨h.1.up.ch (e _ (by omega)) (e _ (by omega)) (by rw [e _ (by omega)]; exact h.1.n2) (by rw [e _ (by omega)]; exact h.1.n3) (fun p hp => ?_) (fun p hp => (h.1.b hp).up.cg (fun y a b => e y (by omega))) (fun k hk => by rw [e _ (by omega)]; exact h.1.P hk) (fun s hs => (h.1.sg hs).up.cg (fun y a b => e y (by omega))) (fun y hy => e y (by omega)), h.2.cg (e _ (by omega)) (e _ (by omega)) (fun p hp => e _ (by omega)) (fun s hs y a b => e y (by omega))⟩
  by_cases q : p = j
  · subst q
    obtain ⟨_, t1⟩ := (h.1.t hp).up
    refine ⟨by rw [u1_s]; exact NR.of hx.1 hx.2 (by decide) (by decide), ?_⟩
    rw [e _ (by omega), e _ (by omega), e _ (by omega), e _ (by omega)]
    exact t1
  · exact (h.1.t hp).up.cg (fun y a b => e y (by omega))
theorem zi_pays (h : ZI c z) {j : Nat} (hj : j < 5) {x : Int32} (hx : nI 0 ≤ x ∧ x ≤ nI 100) : ZI (c + 1) (u1 z (64 + 3 * j) x) := by
  have e : ∀ y, y ≠ 64 + 3 * j → u1 z (64 + 3 * j) x y = z y := fun y hy => u1_n _ _ _ hy
  refine ⟨h.1.up.ch (e _ (by omega)) (e _ (by omega)) (by rw [e _ (by omega)]; exact h.1.n2) (by rw [e _ (by omega)]; exact h.1.n3) (fun p hp => (h.1.t hp).up.cg (fun y a b => e y (by omega))) (fun p hp => ?_) (fun k hk => by rw [e _ (by omega)]; exact h.1.P hk) (fun s hs => (h.1.sg hs).up.cg (fun y a b => e y (by omega))) (fun y hy => e y (by omega)), h.2.cg (e _ (by omega)) (e _ (by omega)) (fun p hp => e _ (by omega)) (fun s hs y a b => e y (by omega))⟩
  by_cases q : p = j
  · subst q
    obtain ⟨_, t1⟩ := (h.1.b hp).up
    refine ⟨by rw [u1_s]; exact NR.of hx.1 hx.2 (by decide) (by decide), ?_⟩
    rw [e _ (by omega), e _ (by omega)]
    exact t1
  · exact (h.1.b hp).up.cg (fun y a b => e y (by omega))
theorem zi_set0 (h : ZI c z) {x : Int32} (hx : nI 0 ≤ x ∧ x ≤ nI 100) : ZI (c + 1) (u1 z 2 x) := by
  have e : ∀ y, y ≠ 2 → u1 z 2 x y = z y := fun y hy => u1_n _ _ _ hy
  exact ⟨h.1.up.ch (e _ (by omega)) (e _ (by omega)) (by rw [u1_s]; exact NR.of hx.1 hx.2 (by decide) (by decide)) (by rw [e _ (by omega)]; exact h.1.n3) (fun p hp => (h.1.t hp).up.cg (fun y a b => e y (by omega))) (fun p hp => (h.1.b hp).up.cg (fun y a b => e y (by omega))) (fun k hk => by rw [e _ (by omega)]; exact h.1.P hk) (fun s hs => (h.1.sg hs).up.cg (fun y a b => e y (by omega))) (fun y hy => e y (by omega)), h.2.cg (e _ (by omega)) (e _ (by omega)) (fun p hp => e _ (by omega)) (fun s hs y a b => e y (by omega))⟩
theorem zi_set1 (h : ZI c z) {x : Int32} (hx : nI 0 ≤ x ∧ x ≤ nI 200) : ZI (c + 1) (u1 z 3 x) := by
  have e : ∀ y, y ≠ 3 → u1 z 3 x y = z y := fun y hy => u1_n _ _ _ hy
  exact ⟨h.1.up.ch (e _ (by omega)) (e _ (by omega)) (by rw [e _ (by omega)]; exact h.1.n2) (by rw [u1_s]; exact NR.of hx.1 hx.2 (by decide) (by decide)) (fun p hp => (h.1.t hp).up.cg (fun y a b => e y (by omega))) (fun p hp => (h.1.b hp).up.cg (fun y a b => e y (by omega))) (fun k hk => by rw [e _ (by omega)]; exact h.1.P hk) (fun s hs => (h.1.sg hs).up.cg (fun y a b => e y (by omega))) (fun y hy => e y (by omega)), h.2.cg (e _ (by omega)) (e _ (by omega)) (fun p hp => e _ (by omega)) (fun s hs y a b => e y (by omega))⟩
/-- a term's number, or its ruling -/
theorem zi_term (h : ZI c z) {j : Nat} (hj : j < 40) {x : Int32} (hx : (-1 : Int32) ≤ x ∧ x ≤ nI 9) : ZI (c + 1) (u1 z (24 + j) x) := by
  have e : ∀ y, y ≠ 24 + j → u1 z (24 + j) x y = z y := fun y hy => u1_n _ _ _ hy
  refine ⟨h.1.up.ch (e _ (by omega)) (e _ (by omega)) (by rw [e _ (by omega)]; exact h.1.n2) (by rw [e _ (by omega)]; exact h.1.n3) (fun p hp => (h.1.t hp).up.cg (fun y a b => e y (by omega))) (fun p hp => (h.1.b hp).up.cg (fun y a b => e y (by omega))) (fun k hk => ?_) (fun s hs => (h.1.sg hs).up.cg (fun y a b => e y (by omega))) (fun y hy => e y (by omega)), h.2.cg (e _ (by omega)) (e _ (by omega)) (fun p hp => e _ (by omega)) (fun s hs y a b => e y (by omega))⟩
  by_cases q : k = j
  · subst q
    rw [u1_s]
    have h1 := hx.1
    have h2 := hx.2
    rw [Int32.le_iff_toInt_le] at h1 h2
    rw [nI_tI' (by decide)] at h2
    exact ⟨h1, h2⟩
  · rw [e _ (by omega)]; exact h.1.P hk
end ZQ
