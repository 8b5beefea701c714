/-! THE LAW: every call keeps the invariant -/
theorem LI.r10 {g : Gp} {m : Mm} {d b Ls : Nat} {X : Nat → Int32} {c : Nat} {k kb : Nat} {z f : Nat → Int32} {rows : Nat → Nat → Int32} (hK : DkV m d (d + 344) c k kb z rows f) : ∀ i, i < k → nv (rows i 0) ≤ 10 := by
  obtain ⟨_, _, ⟨fst, _, h9⟩, _⟩ := hK
  exact fun i hi => (h9 i hi).2.n0.hi
/-- the desk is as it was, the model has but noted what was thrown -/
theorem LI.same {g : Gp} {m m1 m2 : Mm} {d b Ls : Nat} {X : Nat → Int32} {c w : Nat} (h : LI g m d b Ls X c) (hz : fz m ≤ fz m1) (ht : tg m1 = tg m) (hi : im m1 = im m) (hr : rf m1 = rf m) (e1 : fz m2 = fz m1) (e2 : tg m2 = tg m1) (e3 : rf m2 = rf m1) (hs : scB (d + 334) (th m1 (d + 334) w) (im m2)) : LI g m2 d b Ls X (c + 1) := by
  obtain ⟨k, kb, ⟨a1, a2, a3⟩, a4, a5, a6, a7, a8, a9, a10, a11, a12, a13⟩ := id h
  have hK := DkV.fr (m1 := m1) a8 a11.1.n0.hi hz (fun x _ _ => ⟨by rw [ht], by rw [hi], by rw [hr]⟩) (fun x _ _ => ⟨by rw [ht], by rw [hi], by rw [hr]⟩)
  have hj : ∀ x, x ≠ d + 334 → th m1 (d + 334) w x = im m x := fun x hx => by rw [← hi]; exact u2_o _ _ _ _ hx
  refine h.of hz (fun x _ => ⟨by rw [ht], fun _ => ⟨by rw [hi], by rw [hr]⟩⟩) (J := th m1 (d + 334) w) (fun x hx => u2_o _ _ _ _ (by omega)) e1 e2 e3 hs hK a11.up a13 (LI.r10 (g := g) (X := X) (b := b) (Ls := Ls) a8) a12 (hj _ (by omega)) (fun i _ j _ => by rw [hj _ (by omega)]) (fun e _ => by rw [hj _ (by omega)]) ?_ ?_
  · exact (u2_n _ _ _ _ (by omega)).trans (by rw [hi]; exact a9)
  · exact (u2_n _ _ _ _ (by omega)).trans (by rw [hi]; exact a10)
/-- a call that saves: the desk's new state is the model's -/
theorem LI.mut {g : Gp} {m m0 m2 : Mm} {d b Ls : Nat} {X : Nat → Int32} {c k kb' : Nat} {z' f' : Nat → Int32} (h : LI g m d b Ls X c) (hk9 : im m (d + 334) 3 = nI k) (hk6 : k ≤ 6) (hH : Hd m m0 d) (hK : DkV m0 d (d + 344) c (sk k) kb' z' (svR k (im m (d + 334 + 1)) (fun i j => im m (d + 334 + 2) (689 * i + j))) f') (hz : ZI (c + 1) z')
    {J : Nat → Nat → Int32} (e1 : fz m2 = fz m0) (e2 : tg m2 = tg m0) (e3 : rf m2 = rf m0) (hs : scB (d + 334) J (im m2))
    (hJ : ∀ x, (x < d + 334 ∨ d + 343 ≤ x) → J x = im m0 x) (ez : J (d + 334 + 1) = z') (er : ∀ x, x = d + 334 + 2 → J x = svI (th m (d + 334) 0) (d + 334) k x) (ef : ∀ e, e < kb' → J (d + 334 + 4) e = f' e) (ek : J (d + 334) 3 = nI (sk k)) (eb : J (d + 334) 5 = nI kb') : LI g m2 d b Ls X (c + 1) := by
  obtain ⟨k0, kb0, ⟨a1, a2, a3⟩, a4, a5, a6, a7, a8, a9, a10, a11, a12, a13⟩ := id h
  have hkk : k0 = k := (nI_eq' (by omega) (by omega)).mp (a9.symm.trans hk9)
  subst hkk
  refine h.of hH.1 (fun x hx => ⟨(hH.2 x hx).1.1, (hH.2 x hx).2⟩) (J := J) hJ e1 e2 e3 hs hK hz (fun i hi => ?_) (LI.r10 (g := g) (X := X) (b := b) (Ls := Ls) hK) (by unfold sk; split <;> omega) ez (fun i hi j hj => ?_) ef ek eb
  · unfold svR
    unfold sk at hi
    split
    · rename_i q
      rw [if_pos q] at hi
      split
      · exact a11.2
      · exact a13 _ (by omega)
    · rename_i q
      rw [if_neg q] at hi
      split
      · exact a11.2
      · exact a13 _ (by omega)
  · rw [er _ rfl, sv_rows _ _ _ a12 hi hj]
    rw [show th m (d + 334) 0 (d + 334 + 1) = im m (d + 334 + 1) from u2_o _ _ _ _ (by omega), show th m (d + 334) 0 (d + 334 + 2) = im m (d + 334 + 2) from u2_o _ _ _ _ (by omega)]
