/-! THE LAW'S INVARIANT -/
theorem ZOk.cgx {c : Nat} {z z' : Nat → Int32} (h : ZOk c z) (e : ∀ j, j < 689 → z' j = z j) : ZOk c z' := by
  have hz0 := h.n0.hi
  have hz1 := h.n1.hi
  refine ⟨⟨by rw [e _ (by omega)]; exact h.n0, by rw [e _ (by omega)]; exact h.n1, by rw [e _ (by omega)]; exact h.n2, by rw [e _ (by omega)]; exact h.n3⟩, fun p hp => TOk.cg (h.t hp) (fun j a b => e j (by omega)), fun p hp => BOk.cg (h.b hp) (fun j a b => e j (by omega)), fun k hk => by rw [e _ (by omega)]; exact h.P hk, fun s hs => ?_, fun r hr => ?_⟩
  · rw [e _ (by omega)] at hs; exact SOk.cg (h.sg hs) (fun j a b => e j (by omega))
  · rw [e _ (by omega)] at hr; exact (h.mem hr).cg (e _ (by omega)) (fun j a b => e j (by omega))
theorem ZX.cgx {z z' : Nat → Int32} (h0 : nv (z 0) ≤ 10) (h : ZX z) (e : ∀ j, j < 689 → z' j = z j) : ZX z' :=
  h.cg (e _ (by omega)) (e _ (by omega)) (fun p hp => e _ (by omega)) (fun s hs j a b => e j (by omega))
theorem HsV.cg {m : Mm} {B H c fst k : Nat} {rows rows' : Nat → Nat → Int32} (h : HsV m B H c fst k rows) (e : ∀ i, i < k → ∀ j, j < 689 → rows' i j = rows i j) : HsV m B H c fst k rows' := by
  obtain ⟨h1, h2⟩ := h
  refine ⟨h1, fun i hi => ?_⟩
  obtain ⟨a, b⟩ := h2 i hi
  exact ⟨a.cg b.n0.hi b.n1.hi (fun s hs => (b.row hs).1.hi) (fun r hr => (b.mem hr).1.hi) (e i hi), b.cgx (e i hi)⟩
theorem DkV.cg {m : Mm} {d B c k kb : Nat} {z : Nat → Int32} {rows rows' : Nat → Nat → Int32} {f f' : Nat → Int32} (h : DkV m d B c k kb z rows f) (e : ∀ i, i < k → ∀ j, j < 689 → rows' i j = rows i j) (ef : ∀ i, i < kb → f' i = f i) : DkV m d B c k kb z rows' f' := by
  obtain ⟨h1, h2, ⟨fst, h3⟩, h4, h5, h6⟩ := h
  exact ⟨h1, h2, ⟨fst, h3.cg e⟩, h4, h5, fun i hi => (h6 i hi).trans (ef i hi).symm⟩
theorem DkV.up {m : Mm} {d B c k kb : Nat} {z : Nat → Int32} {rows : Nat → Nat → Int32} {f : Nat → Int32} (h : DkV m d B c k kb z rows f) : DkV m d B (c + 1) k kb z rows f := by
  obtain ⟨h1, h2, ⟨fst, h3, h9⟩, h4⟩ := h
  exact ⟨h1, h2, ⟨fst, h3, fun i hi => ⟨(h9 i hi).1, (h9 i hi).2.up⟩⟩, h4⟩
/-- the rows behind a saving -/
theorem sv_rows (I : Nat → Nat → Int32) (a n : Nat) (hn : n ≤ 6) {i j : Nat} (hi : i < (if n = 6 then 6 else n + 1)) (hj : j < 689) : svI I a n (a + 2) (689 * i + j) = svR n (I (a + 1)) (fun i j => I (a + 2) (689 * i + j)) i j := by
  unfold svI svR
  by_cases h : n = 6
  · rw [if_pos h] at hi
    rw [if_pos h, if_pos h]
    unfold svB
    rw [u2_o _ _ _ _ (by omega)]
    by_cases q : i = 5
    · subst q
      rw [if_pos rfl, show 689 * 5 + j = 3445 + j by omega]
      unfold cpI
      rw [if_pos (by omega), show 3445 + j - 689 * 5 = j by omega]
      show svA I a (a + 1) j = _
      rw [svA_ne _ _ (by omega) (by omega)]
    · rw [if_neg q]
      unfold cpI
      rw [if_neg (by omega)]
      unfold svA
      rw [u2_o _ _ _ _ (by omega)]
      unfold cpI
      rw [if_pos (by omega)]
      show I (a + 2) (689 * i + j - 0 + 689) = I (a + 2) (689 * (i + 1) + j)
      rw [show 689 * i + j - 0 + 689 = 689 * (i + 1) + j by omega]
  · rw [if_neg h] at hi
    rw [if_neg h, if_neg h]
    unfold svB
    rw [u2_o _ _ _ _ (by omega)]
    by_cases q : i = n
    · subst q
      rw [if_pos rfl]
      unfold cpI
      rw [if_pos (by omega), show 689 * i + j - 689 * i = j by omega]
    · rw [if_neg q]
      unfold cpI
      rw [if_neg (by omega)]
/-- the law's invariant at the call c: desk, model and buffers are alike -/
def LI (g : Gp) (m : Mm) (d b Ls : Nat) (X : Nat → Int32) (c : Nat) : Prop :=
  ∃ k kb : Nat, (tg m b = (19, Ls) ∧ im m b = X ∧ b < d) ∧ tg m (d + 343) = (18, 1) ∧ MdOk m (d + 334) ∧ KdT g m d ∧ d + 344 ≤ fz m ∧
    DkV m d (d + 344) c k kb (im m (d + 334 + 1)) (fun i j => im m (d + 334 + 2) (689 * i + j)) (im m (d + 334 + 4)) ∧ im m (d + 334) 3 = nI k ∧ im m (d + 334) 5 = nI kb ∧ ZI c (im m (d + 334 + 1)) ∧ k ≤ 6 ∧ ∀ i, i < k → ZX (fun j => im m (d + 334 + 2) (689 * i + j))
theorem scB_at {a : Nat} {I J : Nat → Nat → Int32} (h : scB a I J) {x : Nat} (h1 : x < a ∨ a + 8 < x ∨ x = a + 1 ∨ x = a + 2 ∨ x = a + 4) : J x = I x := by
  funext y
  exact h x y (by unfold scr; omega) (by omega)
/-- from call to call -/
theorem LI.of {g : Gp} {m m1 m2 : Mm} {d b Ls : Nat} {X : Nat → Int32} {c : Nat} (h : LI g m d b Ls X c) (hz1 : fz m ≤ fz m1) (hF : ∀ x, x < fz m → tg m1 x = tg m x ∧ ((x < d ∨ d + 334 ≤ x) → im m1 x = im m x ∧ rf m1 x = rf m x))
    {J : Nat → Nat → Int32} (hJ : ∀ x, (x < d + 334 ∨ d + 343 ≤ x) → J x = im m1 x) (e1 : fz m2 = fz m1) (e2 : tg m2 = tg m1) (e3 : rf m2 = rf m1) (hs : scB (d + 334) J (im m2))
    {k kb : Nat} {z : Nat → Int32} {rows : Nat → Nat → Int32} {f : Nat → Int32} (hK : DkV m1 d (d + 344) c k kb z rows f) (hz : ZI (c + 1) z) (hx : ∀ i, i < k → ZX (rows i)) (hr0 : ∀ i, i < k → nv (rows i 0) ≤ 10) (hk : k ≤ 6)
    (ez : J (d + 334 + 1) = z) (er : ∀ i, i < k → ∀ j, j < 689 → J (d + 334 + 2) (689 * i + j) = rows i j) (ef : ∀ e, e < kb → J (d + 334 + 4) e = f e) (ek : J (d + 334) 3 = nI k) (eb : J (d + 334) 5 = nI kb) : LI g m2 d b Ls X (c + 1) := by
  obtain ⟨k0, kb0, ⟨a1, a2, a3⟩, a4, a5, ⟨hC, hg, hd⟩, a7, a8, a9, a10, a11⟩ := h
  have hb := hF b (by omega)
  have him : ∀ x, (x < d + 334 ∨ d + 343 ≤ x) → im m2 x = im m1 x := fun x hx2 => (scB_at hs (by omega)).trans (hJ x hx2)
  have hlow : ∀ x, x < d → tg m2 x = tg m x ∧ im m2 x = im m x := fun x hx2 => ⟨by rw [e2]; exact (hF x (by omega)).1, (him x (by omega)).trans ((hF x (by omega)).2 (by omega)).1⟩
  refine ⟨k, kb, ⟨(hlow b a3).1.trans a1, (hlow b a3).2.trans a2, a3⟩, by rw [e2]; exact (hF _ (by omega)).1.trans a4, ?_, ⟨hC.fr hg hlow, hg, by rw [e1]; omega⟩, by rw [e1]; omega, ?_, ?_, ?_, ?_, hk, fun i hi => ?_⟩
  · obtain ⟨t, r⟩ := a5
    have ta := (hF (d + 334) (by omega))
    refine ⟨?_, ?_⟩
    · rw [e2, (hF (d + 334) (by omega)).1, (hF (d + 334 + 1) (by omega)).1, (hF (d + 334 + 2) (by omega)).1, (hF (d + 334 + 3) (by omega)).1, (hF (d + 334 + 4) (by omega)).1, (hF (d + 334 + 5) (by omega)).1, (hF (d + 334 + 6) (by omega)).1, (hF (d + 334 + 7) (by omega)).1, (hF (d + 334 + 8) (by omega)).1]
      exact t
    · rw [e3, (ta.2 (by omega)).2]; exact r
  · have hK2 := DkV.fr (m1 := m2) hK hz.1.n0.hi (by rw [e1]; exact Nat.le_refl _) (fun x h1 h2 => ⟨by rw [e2], him x (by omega), by rw [e3]⟩) (fun x h1 h2 => ⟨by rw [e2], him x (by omega), by rw [e3]⟩)
    rw [show im m2 (d + 334 + 1) = z from (scB_at hs (by omega)).trans ez]
    exact (hK2.cg (fun i hi j hj => by rw [scB_at hs (x := d + 334 + 2) (by omega)]; exact er i hi j hj) (fun e he => by rw [scB_at hs (x := d + 334 + 4) (by omega)]; exact ef e he)).up
  · exact (hs _ _ (by unfold scr; omega) (by omega)).trans ek
  · exact (hs _ _ (by unfold scr; omega) (by omega)).trans eb
  · rw [show im m2 (d + 334 + 1) = z from (scB_at hs (by omega)).trans ez]; exact hz
  · exact (hx i hi).cgx (hr0 i hi) (fun j hj => by rw [scB_at hs (x := d + 334 + 2) (by omega)]; exact er i hi j hj)
