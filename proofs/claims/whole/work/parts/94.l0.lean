/-! THE LAW: its start -/
theorem z0_zi {z : Nat → Int32} (h : Z0 z) : ZI 0 z := by
  obtain ⟨⟨z0, z1, z2, z3⟩, zT, zP, ⟨q0, q1, q2, q3, q4⟩, zB⟩ := h
  have n0 : ∀ b, b < 2147483648 → NR (nI 0) 0 b := fun b hb => nr_nI (Nat.le_refl _) (Nat.zero_le _) hb
  have e0 : nv (z 0) = 0 := by rw [z0, nv_nI (by decide)]
  have e1 : nv (z 1) = 0 := by rw [z1, nv_nI (by decide)]
  refine ⟨⟨⟨by rw [z0]; exact n0 _ (by decide), by rw [z1]; exact n0 _ (by decide), by rw [z2]; exact nr_nI (by decide) (by decide) (by decide), by rw [z3]; exact nr_nI (by decide) (by decide) (by decide)⟩, fun p hp => ?_, fun p hp => ?_, fun k hk => by rw [zP k hk]; decide, fun s hs => ?_, fun r hr => ?_⟩, fun q => ?_, fun s hs => ?_, fun p hp => ?_⟩
  · obtain ⟨a0, a1, a2, a3, a4⟩ := zT p hp
    rw [a0, a1, a2, a3, a4]
    exact ⟨nr_nI (by decide) (by decide) (by decide), n0 _ (by decide), n0 _ (by decide), n0 _ (by decide), n0 _ (by decide)⟩
  · obtain ⟨a1, a2⟩ := zB p hp
    rw [a1, a2]
    refine ⟨?_, n0 _ (by decide), n0 _ (by decide)⟩
    rcases (show p = 0 ∨ p = 1 ∨ p = 2 ∨ p = 3 ∨ p = 4 by omega) with rfl | rfl | rfl | rfl | rfl
    · exact q0 ▸ nr_nI (by decide) (by decide) (by decide)
    · exact q1 ▸ nr_nI (by decide) (by decide) (by decide)
    · exact q2 ▸ nr_nI (by decide) (by decide) (by decide)
    · exact q3 ▸ nr_nI (by decide) (by decide) (by decide)
    · exact q4 ▸ nr_nI (by decide) (by decide) (by decide)
  · rw [e0] at hs; exact absurd hs (Nat.not_lt_zero _)
  · rw [e1] at hr; exact absurd hr (Nat.not_lt_zero _)
  · rw [e1] at q; exact absurd q (Nat.not_lt_zero _)
  · rw [e0] at hs; exact absurd hs (Nat.not_lt_zero _)
  · rw [e0]; exact Nat.zero_le _
/-- the invariant holds at the start -/
theorem li_0 {g : Gp} {m m1 m2 : Mm} {d b Ls : Nat} {X : Nat → Int32} (hd : fz m = d) (hb : tg m b = (19, Ls)) (hX : im m b = X) (hbd : b < d) (hC : CsT g m) (hg : g.2.1 < d ∧ g.2.2.1 < d ∧ g.2.2.2 < d) (h1 : fz m1 = d + 334) (hb1 : Bfr m m1 d) (hK : ∀ B c z rows f, d + 344 ≤ B → Z0 z → DkV m1 d B c 0 0 z rows f)
    (h2 : fz m2 = d + 343) (hb2 : Bfr m1 m2 (d + 334)) (hM : MdOk m2 (d + 334)) (hi : ∀ k, im m2 (d + 334) k = nI 0) (hz : Z0 (im m2 (d + 334 + 1))) : LI g (nwA m2 (d + 343) (18, 1)) d b Ls X 0 := by
  have ht : ∀ x, x ≠ d + 343 → tg (nwA m2 (d + 343) (18, 1)) x = tg m2 x ∧ im (nwA m2 (d + 343) (18, 1)) x = im m2 x ∧ rf (nwA m2 (d + 343) (18, 1)) x = rf m2 x := fun x hx => ⟨u1_n _ _ _ hx, u1_n _ _ _ hx, u1_n _ _ _ hx⟩
  have lo : ∀ x, x < d → tg (nwA m2 (d + 343) (18, 1)) x = tg m x ∧ im (nwA m2 (d + 343) (18, 1)) x = im m x := fun x hx => ⟨(ht x (by omega)).1.trans ((hb2 x (by omega)).1.trans (hb1 x hx).1), (ht x (by omega)).2.1.trans ((hb2 x (by omega)).2.1.trans (hb1 x hx).2.1)⟩
  have ei : ∀ x, x ≠ d + 343 → im (nwA m2 (d + 343) (18, 1)) x = im m2 x := fun x hx => (ht x hx).2.1
  refine ⟨0, 0, ⟨(lo b hbd).1.trans hb, (lo b hbd).2.trans hX, hbd⟩, u1_s _ _ _, ?_, ⟨hC.fr hg lo, hg, by show d ≤ d + 343 + 1; omega⟩, by show d + 344 ≤ d + 343 + 1; omega, ?_, by rw [ei _ (by omega)]; exact hi 3, by rw [ei _ (by omega)]; exact hi 5, by rw [ei _ (by omega)]; exact z0_zi hz, by omega, fun i hi2 => absurd hi2 (Nat.not_lt_zero _)⟩
  · obtain ⟨t, r⟩ := hM
    refine ⟨?_, ?_⟩
    · rw [(ht (d + 334) (by omega)).1, (ht (d + 334 + 1) (by omega)).1, (ht (d + 334 + 2) (by omega)).1, (ht (d + 334 + 3) (by omega)).1, (ht (d + 334 + 4) (by omega)).1, (ht (d + 334 + 5) (by omega)).1, (ht (d + 334 + 6) (by omega)).1, (ht (d + 334 + 7) (by omega)).1, (ht (d + 334 + 8) (by omega)).1]
      exact t
    · rw [(ht (d + 334) (by omega)).2.2]; exact r
  · rw [ei (d + 334 + 1) (by omega)]
    refine DkV.fr (m := m1) (hK (d + 344) 0 _ _ _ (Nat.le_refl _) hz) (by rw [hz.1.1]; decide) (by rw [h1]; show d + 334 ≤ d + 343 + 1; omega) (fun x a1 a2 => ⟨(ht x (by omega)).1.trans (hb2 x (by omega)).1, (ht x (by omega)).2.1.trans (hb2 x (by omega)).2.1, (ht x (by omega)).2.2.trans (hb2 x (by omega)).2.2.1⟩) (fun x a1 a2 => by omega)
