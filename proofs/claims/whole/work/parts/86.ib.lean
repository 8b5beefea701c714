/-! THE LAW: looks -/
theorem it_translator (g : Gp) {m : Mm} {d b Ls c i : Nat} {X : Nat → Int32} {u : Nat × Nat} {Q : Rs → Mm → Prop} (h : LI g m d b Ls X c) (hc : c < 512) (hi : i + 4 ≤ Ls) (hLs : Ls ≤ 2048) (hu : u.1 + 30 ≤ lw_rc ∧ u.2 + 230 ≤ lw_rs)
    (K : ∀ m2, LI g m2 d b Ls X (c + 1) → ∀ x5 x6 : Int32, G g ML_law Q 1834 [(6, .int x6), (5, .int x5), (4, .int (nI i)), (3, .ref (d + 343)), (2, .ref (d + 334)), (1, .ref d), (0, .ref b)] [] (u.1 + 30, u.2 + 230) m2) : G g ML_law Q 1154 [(4, .int (nI i)), (3, .ref (d + 343)), (2, .ref (d + 334)), (1, .ref d), (0, .ref b)] [] u m := by
  obtain ⟨k, kb, ⟨hb, hX, hbd⟩, hto, hMd, hKd, hfz, hDk, hk3, hk5, hzi, hk6, hzx⟩ := id h
  obtain ⟨hD, hR, hV, hl, hkb, hf⟩ := id hDk
  have hz := hzi.1
  have hn09 := hz.n0.hi
  have hn19 := hz.n1.hi
  by_cases h1 : inb (X (i + 1)) 4
  · obtain ⟨j, hj, ej⟩ := inb_of h1 (by omega)
    by_cases h2 : inb (X (i + 2)) 7
    · obtain ⟨w, hw, ew⟩ := inb_of h2 (by decide)
      skip
      refine op_translator g (c := 0) (v := perV (im m (d + 334 + 1)) j w) (cs := (0, 0)) (P := fun m1 => ∃ m0, m0 = m ∧ m1 = sJ m0 (d + 343) 0 (perV (im m (d + 334 + 1)) j w).toInt64) (P2 := fun m1 m2 => ∃ J, m2 = wI m1 J ∧ sc (d + 334) (th m1 (d + 334) 0) J) hi hLs hb hX (by rw [ej, ew]; exact hL_translator_0 g (0, 0) hD.t (cn_X9_translator g (0, 0) hD hR hz hj (w := w) (by omega)) (fun r m1 q => q) (fun m1 q => by rw [q]; exact hto)) ⟨by decide, by decide⟩ (by decide) (fun m1 h1 => ?_) (fun m1 h1 m2 h2 => ?_) hu (fun m1 h1 m2 h2 x5 x6 => K m2 ?_ x5 x6)
      · have e1 : m1 = sJ m (d + 343) 0 (perV (im m (d + 334 + 1)) j w).toInt64 := by obtain ⟨m0, e0, e⟩ := h1; rw [e, e0]
        subst e1
        have q := cn_X10_translator_0 g (0, 0) (m := sJ m (d + 343) 0 (perV (im m (d + 334 + 1)) j w).toInt64) hMd hz.n0 (fun s hs => (hz.row hs).1) hj (w := w) (by omega)
        skip
        exact ⟨hb, hX, hMd.t, by rw [ej, ew]; exact q⟩
      · have e1 : m1 = sJ m (d + 343) 0 (perV (im m (d + 334 + 1)) j w).toInt64 := by obtain ⟨m0, e0, e⟩ := h1; rw [e, e0]
        subst e1
        obtain ⟨J, rfl, hJ⟩ := h2
        exact ⟨hMd, hto, (hJ _ _ (by unfold scr; omega)).trans (u2_s _ _ _ _), fun _ => u2_s _ _ _ _⟩
      · have e1 : m1 = sJ m (d + 343) 0 (perV (im m (d + 334 + 1)) j w).toInt64 := by obtain ⟨m0, e0, e⟩ := h1; rw [e, e0]
        subst e1
        obtain ⟨J, rfl, hJ⟩ := h2
        exact h.same (m1 := sJ m (d + 343) 0 (perV (im m (d + 334 + 1)) j w).toInt64) (Nat.le_refl _) rfl rfl rfl rfl rfl rfl hJ.B
    · skip
      refine op_translator g (c := 2) (v := nI 0) (cs := (1, 6)) (P := fun m1 => ∃ n, fz m ≤ n ∧ m1 = gr m n) (P2 := fun m1 m2 => ∃ J, m2 = wI m1 J ∧ sc (d + 334) (th m1 (d + 334) 2) J) hi hLs hb hX (by rw [ej]; exact hL_translator_x2 g hD.t (cx_X9_translator_2 g (0, 0) hD hR hz hj h2)) ⟨by decide, by decide⟩ (by decide) (fun m1 h1 => ?_) (fun m1 h1 m2 h2 => ?_) hu (fun m1 h1 m2 h2 x5 x6 => K m2 ?_ x5 x6)
      · obtain ⟨n, hn, rfl⟩ := h1
        exact ⟨hb, hX, hMd.t, by rw [ej]; exact cn_X10_translator_2 g (0, 0) (m := gr m n) hMd  hj h2⟩
      · obtain ⟨n, hn, rfl⟩ := h1
        obtain ⟨J, rfl, hJ⟩ := h2
        exact ⟨hMd, hto, (hJ _ _ (by unfold scr; omega)).trans (u2_s _ _ _ _), fun q => absurd q (by decide)⟩
      · obtain ⟨n, hn, rfl⟩ := h1
        obtain ⟨J, rfl, hJ⟩ := h2
        exact h.same (m1 := gr m n) hn rfl rfl rfl rfl rfl rfl hJ.B
  · skip
    refine op_translator g (c := 1) (v := nI 0) (cs := (1, 6)) (P := fun m1 => ∃ n, fz m ≤ n ∧ m1 = gr m n) (P2 := fun m1 m2 => ∃ J, m2 = wI m1 J ∧ sc (d + 334) (th m1 (d + 334) 1) J) hi hLs hb hX (hL_translator_x1 g hD.t (cx_X9_translator_1 g (0, 0) hD hR hz h1)) ⟨by decide, by decide⟩ (by decide) (fun m1 h1 => ?_) (fun m1 h1 m2 h2 => ?_) hu (fun m1 h1 m2 h2 x5 x6 => K m2 ?_ x5 x6)
    · obtain ⟨n, hn, rfl⟩ := h1
      exact ⟨hb, hX, hMd.t, cn_X10_translator_1 g (0, 0) (m := gr m n) hMd  h1⟩
    · obtain ⟨n, hn, rfl⟩ := h1
      obtain ⟨J, rfl, hJ⟩ := h2
      exact ⟨hMd, hto, (hJ _ _ (by unfold scr; omega)).trans (u2_s _ _ _ _), fun q => absurd q (by decide)⟩
    · obtain ⟨n, hn, rfl⟩ := h1
      obtain ⟨J, rfl, hJ⟩ := h2
      exact h.same (m1 := gr m n) hn rfl rfl rfl rfl rfl rfl hJ.B
theorem it_term (g : Gp) {m : Mm} {d b Ls c i : Nat} {X : Nat → Int32} {u : Nat × Nat} {Q : Rs → Mm → Prop} (h : LI g m d b Ls X c) (hc : c < 512) (hi : i + 4 ≤ Ls) (hLs : Ls ≤ 2048) (hu : u.1 + 30 ≤ lw_rc ∧ u.2 + 230 ≤ lw_rs)
    (K : ∀ m2, LI g m2 d b Ls X (c + 1) → ∀ x5 x6 : Int32, G g ML_law Q 1834 [(6, .int x6), (5, .int x5), (4, .int (nI i)), (3, .ref (d + 343)), (2, .ref (d + 334)), (1, .ref d), (0, .ref b)] [] (u.1 + 30, u.2 + 230) m2) : G g ML_law Q 1222 [(4, .int (nI i)), (3, .ref (d + 343)), (2, .ref (d + 334)), (1, .ref d), (0, .ref b)] [] u m := by
  obtain ⟨k, kb, ⟨hb, hX, hbd⟩, hto, hMd, hKd, hfz, hDk, hk3, hk5, hzi, hk6, hzx⟩ := id h
  obtain ⟨hD, hR, hV, hl, hkb, hf⟩ := id hDk
  have hz := hzi.1
  have hn09 := hz.n0.hi
  have hn19 := hz.n1.hi
  by_cases h1 : inb (X (i + 1)) 8
  · obtain ⟨j, hj, ej⟩ := inb_of h1 (by omega)
    by_cases h2 : inb (X (i + 2)) 8
    · obtain ⟨w, hw, ew⟩ := inb_of h2 (by decide)
      skip
      refine op_term g (c := 0) (v := terV (im m (d + 334 + 1)) j w) (cs := (0, 0)) (P := fun m1 => ∃ m0, m0 = m ∧ m1 = sJ m0 (d + 343) 0 (terV (im m (d + 334 + 1)) j w).toInt64) (P2 := fun m1 m2 => ∃ J, m2 = wI m1 J ∧ sc (d + 334) (th m1 (d + 334) 0) J) hi hLs hb hX (by rw [ej, ew]; exact hL_term_0 g (0, 0) hD.t (cn_X9_term g (0, 0) hD hR hz hj (w := w) (by omega)) (fun r m1 q => q) (fun m1 q => by rw [q]; exact hto)) ⟨by decide, by decide⟩ (by decide) (fun m1 h1 => ?_) (fun m1 h1 m2 h2 => ?_) hu (fun m1 h1 m2 h2 x5 x6 => K m2 ?_ x5 x6)
      · have e1 : m1 = sJ m (d + 343) 0 (terV (im m (d + 334 + 1)) j w).toInt64 := by obtain ⟨m0, e0, e⟩ := h1; rw [e, e0]
        subst e1
        have q := cn_X10_term_0 g (0, 0) (m := sJ m (d + 343) 0 (terV (im m (d + 334 + 1)) j w).toInt64) hMd hz.n0 (fun s hs => (hz.row hs).1) hj (w := w) (by omega)
        skip
        exact ⟨hb, hX, hMd.t, by rw [ej, ew]; exact q⟩
      · have e1 : m1 = sJ m (d + 343) 0 (terV (im m (d + 334 + 1)) j w).toInt64 := by obtain ⟨m0, e0, e⟩ := h1; rw [e, e0]
        subst e1
        obtain ⟨J, rfl, hJ⟩ := h2
        exact ⟨hMd, hto, (hJ _ _ (by unfold scr; omega)).trans (u2_s _ _ _ _), fun _ => u2_s _ _ _ _⟩
      · have e1 : m1 = sJ m (d + 343) 0 (terV (im m (d + 334 + 1)) j w).toInt64 := by obtain ⟨m0, e0, e⟩ := h1; rw [e, e0]
        subst e1
        obtain ⟨J, rfl, hJ⟩ := h2
        exact h.same (m1 := sJ m (d + 343) 0 (terV (im m (d + 334 + 1)) j w).toInt64) (Nat.le_refl _) rfl rfl rfl rfl rfl rfl hJ.B
    · skip
      refine op_term g (c := 2) (v := nI 0) (cs := (1, 6)) (P := fun m1 => ∃ n, fz m ≤ n ∧ m1 = gr m n) (P2 := fun m1 m2 => ∃ J, m2 = wI m1 J ∧ sc (d + 334) (th m1 (d + 334) 2) J) hi hLs hb hX (by rw [ej]; exact hL_term_x2 g hD.t (cx_X9_term_2 g (0, 0) hD hR hz hj h2)) ⟨by decide, by decide⟩ (by decide) (fun m1 h1 => ?_) (fun m1 h1 m2 h2 => ?_) hu (fun m1 h1 m2 h2 x5 x6 => K m2 ?_ x5 x6)
      · obtain ⟨n, hn, rfl⟩ := h1
        exact ⟨hb, hX, hMd.t, by rw [ej]; exact cn_X10_term_2 g (0, 0) (m := gr m n) hMd  hj h2⟩
      · obtain ⟨n, hn, rfl⟩ := h1
        obtain ⟨J, rfl, hJ⟩ := h2
        exact ⟨hMd, hto, (hJ _ _ (by unfold scr; omega)).trans (u2_s _ _ _ _), fun q => absurd q (by decide)⟩
      · obtain ⟨n, hn, rfl⟩ := h1
        obtain ⟨J, rfl, hJ⟩ := h2
        exact h.same (m1 := gr m n) hn rfl rfl rfl rfl rfl rfl hJ.B
  · skip
    refine op_term g (c := 1) (v := nI 0) (cs := (1, 6)) (P := fun m1 => ∃ n, fz m ≤ n ∧ m1 = gr m n) (P2 := fun m1 m2 => ∃ J, m2 = wI m1 J ∧ sc (d + 334) (th m1 (d + 334) 1) J) hi hLs hb hX (hL_term_x1 g hD.t (cx_X9_term_1 g (0, 0) hD hR hz h1)) ⟨by decide, by decide⟩ (by decide) (fun m1 h1 => ?_) (fun m1 h1 m2 h2 => ?_) hu (fun m1 h1 m2 h2 x5 x6 => K m2 ?_ x5 x6)
    · obtain ⟨n, hn, rfl⟩ := h1
      exact ⟨hb, hX, hMd.t, cn_X10_term_1 g (0, 0) (m := gr m n) hMd  h1⟩
    · obtain ⟨n, hn, rfl⟩ := h1
      obtain ⟨J, rfl, hJ⟩ := h2
      exact ⟨hMd, hto, (hJ _ _ (by unfold scr; omega)).trans (u2_s _ _ _ _), fun q => absurd q (by decide)⟩
    · obtain ⟨n, hn, rfl⟩ := h1
      obtain ⟨J, rfl, hJ⟩ := h2
      exact h.same (m1 := gr m n) hn rfl rfl rfl rfl rfl rfl hJ.B
theorem it_band (g : Gp) {m : Mm} {d b Ls c i : Nat} {X : Nat → Int32} {u : Nat × Nat} {Q : Rs → Mm → Prop} (h : LI g m d b Ls X c) (hc : c < 512) (hi : i + 4 ≤ Ls) (hLs : Ls ≤ 2048) (hu : u.1 + 30 ≤ lw_rc ∧ u.2 + 230 ≤ lw_rs)
    (K : ∀ m2, LI g m2 d b Ls X (c + 1) → ∀ x5 x6 : Int32, G g ML_law Q 1834 [(6, .int x6), (5, .int x5), (4, .int (nI i)), (3, .ref (d + 343)), (2, .ref (d + 334)), (1, .ref d), (0, .ref b)] [] (u.1 + 30, u.2 + 230) m2) : G g ML_law Q 1290 [(4, .int (nI i)), (3, .ref (d + 343)), (2, .ref (d + 334)), (1, .ref d), (0, .ref b)] [] u m := by
  obtain ⟨k, kb, ⟨hb, hX, hbd⟩, hto, hMd, hKd, hfz, hDk, hk3, hk5, hzi, hk6, hzx⟩ := id h
  obtain ⟨hD, hR, hV, hl, hkb, hf⟩ := id hDk
  have hz := hzi.1
  have hn09 := hz.n0.hi
  have hn19 := hz.n1.hi
  by_cases h1 : inb (X (i + 1)) 5
  · obtain ⟨j, hj, ej⟩ := inb_of h1 (by omega)
    by_cases h2 : inb (X (i + 2)) 3
    · obtain ⟨w, hw, ew⟩ := inb_of h2 (by decide)
      skip
      refine op_band g (c := 0) (v := (im m (d + 334 + 1)) (64 + 3 * j + w)) (cs := (0, 0)) (P := fun m1 => ∃ m0, m0 = m ∧ m1 = sJ m0 (d + 343) 0 ((im m (d + 334 + 1)) (64 + 3 * j + w)).toInt64) (P2 := fun m1 m2 => ∃ J, m2 = wI m1 J ∧ sc (d + 334) (th m1 (d + 334) 0) J) hi hLs hb hX (by rw [ej, ew]; exact hL_band_0 g (0, 0) hD.t (cn_X9_band g (0, 0) hD hR hz hj (w := w) (by omega)) (fun r m1 q => q) (fun m1 q => by rw [q]; exact hto)) ⟨by decide, by decide⟩ (by decide) (fun m1 h1 => ?_) (fun m1 h1 m2 h2 => ?_) hu (fun m1 h1 m2 h2 x5 x6 => K m2 ?_ x5 x6)
      · have e1 : m1 = sJ m (d + 343) 0 ((im m (d + 334 + 1)) (64 + 3 * j + w)).toInt64 := by obtain ⟨m0, e0, e⟩ := h1; rw [e, e0]
        subst e1
        have q := cn_X10_band_0 g (0, 0) (m := sJ m (d + 343) 0 ((im m (d + 334 + 1)) (64 + 3 * j + w)).toInt64) hMd hj (w := w) (by omega)
        skip
        exact ⟨hb, hX, hMd.t, by rw [ej, ew]; exact q⟩
      · have e1 : m1 = sJ m (d + 343) 0 ((im m (d + 334 + 1)) (64 + 3 * j + w)).toInt64 := by obtain ⟨m0, e0, e⟩ := h1; rw [e, e0]
        subst e1
        obtain ⟨J, rfl, hJ⟩ := h2
        exact ⟨hMd, hto, (hJ _ _ (by unfold scr; omega)).trans (u2_s _ _ _ _), fun _ => u2_s _ _ _ _⟩
      · have e1 : m1 = sJ m (d + 343) 0 ((im m (d + 334 + 1)) (64 + 3 * j + w)).toInt64 := by obtain ⟨m0, e0, e⟩ := h1; rw [e, e0]
        subst e1
        obtain ⟨J, rfl, hJ⟩ := h2
        exact h.same (m1 := sJ m (d + 343) 0 ((im m (d + 334 + 1)) (64 + 3 * j + w)).toInt64) (Nat.le_refl _) rfl rfl rfl rfl rfl rfl hJ.B
    · skip
      refine op_band g (c := 2) (v := nI 0) (cs := (1, 6)) (P := fun m1 => ∃ n, fz m ≤ n ∧ m1 = gr m n) (P2 := fun m1 m2 => ∃ J, m2 = wI m1 J ∧ sc (d + 334) (th m1 (d + 334) 2) J) hi hLs hb hX (by rw [ej]; exact hL_band_x2 g hD.t (cx_X9_band_2 g (0, 0) hD hR hz hj h2)) ⟨by decide, by decide⟩ (by decide) (fun m1 h1 => ?_) (fun m1 h1 m2 h2 => ?_) hu (fun m1 h1 m2 h2 x5 x6 => K m2 ?_ x5 x6)
      · obtain ⟨n, hn, rfl⟩ := h1
        exact ⟨hb, hX, hMd.t, by rw [ej]; exact cn_X10_band_2 g (0, 0) (m := gr m n) hMd  hj h2⟩
      · obtain ⟨n, hn, rfl⟩ := h1
        obtain ⟨J, rfl, hJ⟩ := h2
        exact ⟨hMd, hto, (hJ _ _ (by unfold scr; omega)).trans (u2_s _ _ _ _), fun q => absurd q (by decide)⟩
      · obtain ⟨n, hn, rfl⟩ := h1
        obtain ⟨J, rfl, hJ⟩ := h2
        exact h.same (m1 := gr m n) hn rfl rfl rfl rfl rfl rfl hJ.B
  · skip
    refine op_band g (c := 1) (v := nI 0) (cs := (1, 6)) (P := fun m1 => ∃ n, fz m ≤ n ∧ m1 = gr m n) (P2 := fun m1 m2 => ∃ J, m2 = wI m1 J ∧ sc (d + 334) (th m1 (d + 334) 1) J) hi hLs hb hX (hL_band_x1 g hD.t (cx_X9_band_1 g (0, 0) hD hR hz h1)) ⟨by decide, by decide⟩ (by decide) (fun m1 h1 => ?_) (fun m1 h1 m2 h2 => ?_) hu (fun m1 h1 m2 h2 x5 x6 => K m2 ?_ x5 x6)
    · obtain ⟨n, hn, rfl⟩ := h1
      exact ⟨hb, hX, hMd.t, cn_X10_band_1 g (0, 0) (m := gr m n) hMd  h1⟩
    · obtain ⟨n, hn, rfl⟩ := h1
      obtain ⟨J, rfl, hJ⟩ := h2
      exact ⟨hMd, hto, (hJ _ _ (by unfold scr; omega)).trans (u2_s _ _ _ _), fun q => absurd q (by decide)⟩
    · obtain ⟨n, hn, rfl⟩ := h1
      obtain ⟨J, rfl, hJ⟩ := h2
      exact h.same (m1 := gr m n) hn rfl rfl rfl rfl rfl rfl hJ.B
theorem it_segment (g : Gp) {m : Mm} {d b Ls c i : Nat} {X : Nat → Int32} {u : Nat × Nat} {Q : Rs → Mm → Prop} (h : LI g m d b Ls X c) (hc : c < 512) (hi : i + 4 ≤ Ls) (hLs : Ls ≤ 2048) (hu : u.1 + 30 ≤ lw_rc ∧ u.2 + 230 ≤ lw_rs)
    (K : ∀ m2, LI g m2 d b Ls X (c + 1) → ∀ x5 x6 : Int32, G g ML_law Q 1834 [(6, .int x6), (5, .int x5), (4, .int (nI i)), (3, .ref (d + 343)), (2, .ref (d + 334)), (1, .ref d), (0, .ref b)] [] (u.1 + 30, u.2 + 230) m2) : G g ML_law Q 950 [(4, .int (nI i)), (3, .ref (d + 343)), (2, .ref (d + 334)), (1, .ref d), (0, .ref b)] [] u m := by
  obtain ⟨k, kb, ⟨hb, hX, hbd⟩, hto, hMd, hKd, hfz, hDk, hk3, hk5, hzi, hk6, hzx⟩ := id h
  obtain ⟨hD, hR, hV, hl, hkb, hf⟩ := id hDk
  have hz := hzi.1
  have hn09 := hz.n0.hi
  have hn19 := hz.n1.hi
  by_cases h1 : inb (X (i + 1)) (nv ((im m (d + 334 + 1)) 0))
  · obtain ⟨j, hj, ej⟩ := inb_of h1 (by omega)
    by_cases h2 : inb (X (i + 2)) 12
    · obtain ⟨w, hw, ew⟩ := inb_of h2 (by decide)
      skip
      refine op_segment g (c := 0) (v := segV (im m (d + 334 + 1)) j w) (cs := (0, 0)) (P := fun m1 => ∃ m0, m0 = m ∧ m1 = sJ m0 (d + 343) 0 (segV (im m (d + 334 + 1)) j w).toInt64) (P2 := fun m1 m2 => ∃ J, m2 = wI m1 J ∧ sc (d + 334) (th m1 (d + 334) 0) J) hi hLs hb hX (by rw [ej, ew]; exact hL_segment_0 g (0, 0) hD.t (cn_X9_segment g (0, 0) hD hR hz hj (w := w) (by omega)) (fun r m1 q => q) (fun m1 q => by rw [q]; exact hto)) ⟨by decide, by decide⟩ (by decide) (fun m1 h1 => ?_) (fun m1 h1 m2 h2 => ?_) hu (fun m1 h1 m2 h2 x5 x6 => K m2 ?_ x5 x6)
      · have e1 : m1 = sJ m (d + 343) 0 (segV (im m (d + 334 + 1)) j w).toInt64 := by obtain ⟨m0, e0, e⟩ := h1; rw [e, e0]
        subst e1
        have q := cn_X10_segment_0 g (0, 0) (m := sJ m (d + 343) 0 (segV (im m (d + 334 + 1)) j w).toInt64) hMd (N := nv ((im m (d + 334 + 1)) 0)) hz.n0.e hz.n0.hi hj (hz.row hj) hz.n1 (fun r hr => (hz.mem hr).1) (w := w) (by omega)
        skip
        exact ⟨hb, hX, hMd.t, by rw [ej, ew]; exact q⟩
      · have e1 : m1 = sJ m (d + 343) 0 (segV (im m (d + 334 + 1)) j w).toInt64 := by obtain ⟨m0, e0, e⟩ := h1; rw [e, e0]
        subst e1
        obtain ⟨J, rfl, hJ⟩ := h2
        exact ⟨hMd, hto, (hJ _ _ (by unfold scr; omega)).trans (u2_s _ _ _ _), fun _ => u2_s _ _ _ _⟩
      · have e1 : m1 = sJ m (d + 343) 0 (segV (im m (d + 334 + 1)) j w).toInt64 := by obtain ⟨m0, e0, e⟩ := h1; rw [e, e0]
        subst e1
        obtain ⟨J, rfl, hJ⟩ := h2
        exact h.same (m1 := sJ m (d + 343) 0 (segV (im m (d + 334 + 1)) j w).toInt64) (Nat.le_refl _) rfl rfl rfl rfl rfl rfl hJ.B
    · skip
      refine op_segment g (c := 2) (v := nI 0) (cs := (1, 6)) (P := fun m1 => ∃ n, fz m ≤ n ∧ m1 = gr m n) (P2 := fun m1 m2 => ∃ J, m2 = wI m1 J ∧ sc (d + 334) (th m1 (d + 334) 2) J) hi hLs hb hX (by rw [ej]; exact hL_segment_x2 g hD.t (cx_X9_segment_2 g (0, 0) hD hR hz hj h2)) ⟨by decide, by decide⟩ (by decide) (fun m1 h1 => ?_) (fun m1 h1 m2 h2 => ?_) hu (fun m1 h1 m2 h2 x5 x6 => K m2 ?_ x5 x6)
      · obtain ⟨n, hn, rfl⟩ := h1
        exact ⟨hb, hX, hMd.t, by rw [ej]; exact cn_X10_segment_2 g (0, 0) (m := gr m n) hMd (N := nv ((im m (d + 334 + 1)) 0)) hz.n0.e hz.n0.hi hj h2⟩
      · obtain ⟨n, hn, rfl⟩ := h1
        obtain ⟨J, rfl, hJ⟩ := h2
        exact ⟨hMd, hto, (hJ _ _ (by unfold scr; omega)).trans (u2_s _ _ _ _), fun q => absurd q (by decide)⟩
      · obtain ⟨n, hn, rfl⟩ := h1
        obtain ⟨J, rfl, hJ⟩ := h2
        exact h.same (m1 := gr m n) hn rfl rfl rfl rfl rfl rfl hJ.B
  · skip
    refine op_segment g (c := 1) (v := nI 0) (cs := (1, 6)) (P := fun m1 => ∃ n, fz m ≤ n ∧ m1 = gr m n) (P2 := fun m1 m2 => ∃ J, m2 = wI m1 J ∧ sc (d + 334) (th m1 (d + 334) 1) J) hi hLs hb hX (hL_segment_x1 g hD.t (cx_X9_segment_1 g (0, 0) hD hR hz h1)) ⟨by decide, by decide⟩ (by decide) (fun m1 h1 => ?_) (fun m1 h1 m2 h2 => ?_) hu (fun m1 h1 m2 h2 x5 x6 => K m2 ?_ x5 x6)
    · obtain ⟨n, hn, rfl⟩ := h1
      exact ⟨hb, hX, hMd.t, cn_X10_segment_1 g (0, 0) (m := gr m n) hMd (N := nv ((im m (d + 334 + 1)) 0)) hz.n0.e hz.n0.hi h1⟩
    · obtain ⟨n, hn, rfl⟩ := h1
      obtain ⟨J, rfl, hJ⟩ := h2
      exact ⟨hMd, hto, (hJ _ _ (by unfold scr; omega)).trans (u2_s _ _ _ _), fun q => absurd q (by decide)⟩
    · obtain ⟨n, hn, rfl⟩ := h1
      obtain ⟨J, rfl, hJ⟩ := h2
      exact h.same (m1 := gr m n) hn rfl rfl rfl rfl rfl rfl hJ.B
theorem it_word (g : Gp) {m : Mm} {d b Ls c i : Nat} {X : Nat → Int32} {u : Nat × Nat} {Q : Rs → Mm → Prop} (h : LI g m d b Ls X c) (hc : c < 512) (hi : i + 4 ≤ Ls) (hLs : Ls ≤ 2048) (hu : u.1 + 30 ≤ lw_rc ∧ u.2 + 230 ≤ lw_rs)
    (K : ∀ m2, LI g m2 d b Ls X (c + 1) → ∀ x5 x6 : Int32, G g ML_law Q 1834 [(6, .int x6), (5, .int x5), (4, .int (nI i)), (3, .ref (d + 343)), (2, .ref (d + 334)), (1, .ref d), (0, .ref b)] [] (u.1 + 30, u.2 + 230) m2) : G g ML_law Q 1018 [(4, .int (nI i)), (3, .ref (d + 343)), (2, .ref (d + 334)), (1, .ref d), (0, .ref b)] [] u m := by
  obtain ⟨k, kb, ⟨hb, hX, hbd⟩, hto, hMd, hKd, hfz, hDk, hk3, hk5, hzi, hk6, hzx⟩ := id h
  obtain ⟨hD, hR, hV, hl, hkb, hf⟩ := id hDk
  have hz := hzi.1
  have hn09 := hz.n0.hi
  have hn19 := hz.n1.hi
  by_cases h1 : inb (X (i + 1)) (nv ((im m (d + 334 + 1)) 0))
  · obtain ⟨j, hj, ej⟩ := inb_of h1 (by omega)
    by_cases h2 : inb (X (i + 2)) 12
    · obtain ⟨w, hw, ew⟩ := inb_of h2 (by decide)
      skip
      refine op_word g (c := 0) (v := wrdV (im m (d + 334 + 1)) (79 + 22 * j) w) (cs := (0, 0)) (P := fun m1 => ∃ m0, m0 = m ∧ m1 = sJ m0 (d + 343) 0 (wrdV (im m (d + 334 + 1)) (79 + 22 * j) w).toInt64) (P2 := fun m1 m2 => ∃ J, m2 = wI m1 J ∧ sc (d + 334) (th m1 (d + 334) 0) J) hi hLs hb hX (by rw [ej, ew]; exact hL_word_0 g (0, 0) hD.t (cn_X9_word g (0, 0) hD hR hz hj (w := w) (by omega)) (fun r m1 q => q) (fun m1 q => by rw [q]; exact hto)) ⟨by decide, by decide⟩ (by decide) (fun m1 h1 => ?_) (fun m1 h1 m2 h2 => ?_) hu (fun m1 h1 m2 h2 x5 x6 => K m2 ?_ x5 x6)
      · have e1 : m1 = sJ m (d + 343) 0 (wrdV (im m (d + 334 + 1)) (79 + 22 * j) w).toInt64 := by obtain ⟨m0, e0, e⟩ := h1; rw [e, e0]
        subst e1
        have q := cn_X10_word_0 g (0, 0) (m := sJ m (d + 343) 0 (wrdV (im m (d + 334 + 1)) (79 + 22 * j) w).toInt64) hMd (N := nv ((im m (d + 334 + 1)) 0)) hz.n0.e hz.n0.hi hj (hz.row hj).1 (w := w) (by omega)
        skip
        exact ⟨hb, hX, hMd.t, by rw [ej, ew]; exact q⟩
      · have e1 : m1 = sJ m (d + 343) 0 (wrdV (im m (d + 334 + 1)) (79 + 22 * j) w).toInt64 := by obtain ⟨m0, e0, e⟩ := h1; rw [e, e0]
        subst e1
        obtain ⟨J, rfl, hJ⟩ := h2
        exact ⟨hMd, hto, (hJ _ _ (by unfold scr; omega)).trans (u2_s _ _ _ _), fun _ => u2_s _ _ _ _⟩
      · have e1 : m1 = sJ m (d + 343) 0 (wrdV (im m (d + 334 + 1)) (79 + 22 * j) w).toInt64 := by obtain ⟨m0, e0, e⟩ := h1; rw [e, e0]
        subst e1
        obtain ⟨J, rfl, hJ⟩ := h2
        exact h.same (m1 := sJ m (d + 343) 0 (wrdV (im m (d + 334 + 1)) (79 + 22 * j) w).toInt64) (Nat.le_refl _) rfl rfl rfl rfl rfl rfl hJ.B
    · skip
      refine op_word g (c := 2) (v := nI 0) (cs := (1, 6)) (P := fun m1 => ∃ n, fz m ≤ n ∧ m1 = gr m n) (P2 := fun m1 m2 => ∃ J, m2 = wI m1 J ∧ sc (d + 334) (th m1 (d + 334) 2) J) hi hLs hb hX (by rw [ej]; exact hL_word_x2 g hD.t (cx_X9_word_2 g (0, 0) hD hR hz hj h2)) ⟨by decide, by decide⟩ (by decide) (fun m1 h1 => ?_) (fun m1 h1 m2 h2 => ?_) hu (fun m1 h1 m2 h2 x5 x6 => K m2 ?_ x5 x6)
      · obtain ⟨n, hn, rfl⟩ := h1
        exact ⟨hb, hX, hMd.t, by rw [ej]; exact cn_X10_word_2 g (0, 0) (m := gr m n) hMd (N := nv ((im m (d + 334 + 1)) 0)) hz.n0.e hz.n0.hi hj h2⟩
      · obtain ⟨n, hn, rfl⟩ := h1
        obtain ⟨J, rfl, hJ⟩ := h2
        exact ⟨hMd, hto, (hJ _ _ (by unfold scr; omega)).trans (u2_s _ _ _ _), fun q => absurd q (by decide)⟩
      · obtain ⟨n, hn, rfl⟩ := h1
        obtain ⟨J, rfl, hJ⟩ := h2
        exact h.same (m1 := gr m n) hn rfl rfl rfl rfl rfl rfl hJ.B
  · skip
    refine op_word g (c := 1) (v := nI 0) (cs := (1, 6)) (P := fun m1 => ∃ n, fz m ≤ n ∧ m1 = gr m n) (P2 := fun m1 m2 => ∃ J, m2 = wI m1 J ∧ sc (d + 334) (th m1 (d + 334) 1) J) hi hLs hb hX (hL_word_x1 g hD.t (cx_X9_word_1 g (0, 0) hD hR hz h1)) ⟨by decide, by decide⟩ (by decide) (fun m1 h1 => ?_) (fun m1 h1 m2 h2 => ?_) hu (fun m1 h1 m2 h2 x5 x6 => K m2 ?_ x5 x6)
    · obtain ⟨n, hn, rfl⟩ := h1
      exact ⟨hb, hX, hMd.t, cn_X10_word_1 g (0, 0) (m := gr m n) hMd (N := nv ((im m (d + 334 + 1)) 0)) hz.n0.e hz.n0.hi h1⟩
    · obtain ⟨n, hn, rfl⟩ := h1
      obtain ⟨J, rfl, hJ⟩ := h2
      exact ⟨hMd, hto, (hJ _ _ (by unfold scr; omega)).trans (u2_s _ _ _ _), fun q => absurd q (by decide)⟩
    · obtain ⟨n, hn, rfl⟩ := h1
      obtain ⟨J, rfl, hJ⟩ := h2
      exact h.same (m1 := gr m n) hn rfl rfl rfl rfl rfl rfl hJ.B
theorem it_remembered (g : Gp) {m : Mm} {d b Ls c i : Nat} {X : Nat → Int32} {u : Nat × Nat} {Q : Rs → Mm → Prop} (h : LI g m d b Ls X c) (hc : c < 512) (hi : i + 4 ≤ Ls) (hLs : Ls ≤ 2048) (hu : u.1 + 30 ≤ lw_rc ∧ u.2 + 230 ≤ lw_rs)
    (K : ∀ m2, LI g m2 d b Ls X (c + 1) → ∀ x5 x6 : Int32, G g ML_law Q 1834 [(6, .int x6), (5, .int x5), (4, .int (nI i)), (3, .ref (d + 343)), (2, .ref (d + 334)), (1, .ref d), (0, .ref b)] [] (u.1 + 30, u.2 + 230) m2) : G g ML_law Q 1086 [(4, .int (nI i)), (3, .ref (d + 343)), (2, .ref (d + 334)), (1, .ref d), (0, .ref b)] [] u m := by
  obtain ⟨k, kb, ⟨hb, hX, hbd⟩, hto, hMd, hKd, hfz, hDk, hk3, hk5, hzi, hk6, hzx⟩ := id h
  obtain ⟨hD, hR, hV, hl, hkb, hf⟩ := id hDk
  have hz := hzi.1
  have hn09 := hz.n0.hi
  have hn19 := hz.n1.hi
  by_cases h1 : inb (X (i + 1)) (nv ((im m (d + 334 + 1)) 1))
  · obtain ⟨j, hj, ej⟩ := inb_of h1 (by omega)
    by_cases h2 : inb (X (i + 2)) 12
    · obtain ⟨w, hw, ew⟩ := inb_of h2 (by decide)
      skip
      refine op_remembered g (c := 0) (v := remV (im m (d + 334 + 1)) j w) (cs := (0, 0)) (P := fun m1 => ∃ m0, m0 = m ∧ m1 = sJ m0 (d + 343) 0 (remV (im m (d + 334 + 1)) j w).toInt64) (P2 := fun m1 m2 => ∃ J, m2 = wI m1 J ∧ sc (d + 334) (th m1 (d + 334) 0) J) hi hLs hb hX (by rw [ej, ew]; exact hL_remembered_0 g (0, 0) hD.t (cn_X9_remembered g (0, 0) hD hR hz hj (w := w) (by omega)) (fun r m1 q => q) (fun m1 q => by rw [q]; exact hto)) ⟨by decide, by decide⟩ (by decide) (fun m1 h1 => ?_) (fun m1 h1 m2 h2 => ?_) hu (fun m1 h1 m2 h2 x5 x6 => K m2 ?_ x5 x6)
      · have e1 : m1 = sJ m (d + 343) 0 (remV (im m (d + 334 + 1)) j w).toInt64 := by obtain ⟨m0, e0, e⟩ := h1; rw [e, e0]
        subst e1
        have q := cn_X10_remembered_0 g (0, 0) (m := sJ m (d + 343) 0 (remV (im m (d + 334 + 1)) j w).toInt64) hMd (R := nv ((im m (d + 334 + 1)) 1)) hz.n1.e hz.n1.hi hj (hz.mem hj).1 (w := w) (by omega)
        skip
        exact ⟨hb, hX, hMd.t, by rw [ej, ew]; exact q⟩
      · have e1 : m1 = sJ m (d + 343) 0 (remV (im m (d + 334 + 1)) j w).toInt64 := by obtain ⟨m0, e0, e⟩ := h1; rw [e, e0]
        subst e1
        obtain ⟨J, rfl, hJ⟩ := h2
        exact ⟨hMd, hto, (hJ _ _ (by unfold scr; omega)).trans (u2_s _ _ _ _), fun _ => u2_s _ _ _ _⟩
      · have e1 : m1 = sJ m (d + 343) 0 (remV (im m (d + 334 + 1)) j w).toInt64 := by obtain ⟨m0, e0, e⟩ := h1; rw [e, e0]
        subst e1
        obtain ⟨J, rfl, hJ⟩ := h2
        exact h.same (m1 := sJ m (d + 343) 0 (remV (im m (d + 334 + 1)) j w).toInt64) (Nat.le_refl _) rfl rfl rfl rfl rfl rfl hJ.B
    · skip
      refine op_remembered g (c := 2) (v := nI 0) (cs := (1, 6)) (P := fun m1 => ∃ n, fz m ≤ n ∧ m1 = gr m n) (P2 := fun m1 m2 => ∃ J, m2 = wI m1 J ∧ sc (d + 334) (th m1 (d + 334) 2) J) hi hLs hb hX (by rw [ej]; exact hL_remembered_x2 g hD.t (cx_X9_remembered_2 g (0, 0) hD hR hz hj h2)) ⟨by decide, by decide⟩ (by decide) (fun m1 h1 => ?_) (fun m1 h1 m2 h2 => ?_) hu (fun m1 h1 m2 h2 x5 x6 => K m2 ?_ x5 x6)
      · obtain ⟨n, hn, rfl⟩ := h1
        exact ⟨hb, hX, hMd.t, by rw [ej]; exact cn_X10_remembered_2 g (0, 0) (m := gr m n) hMd (R := nv ((im m (d + 334 + 1)) 1)) hz.n1.e hz.n1.hi hj h2⟩
      · obtain ⟨n, hn, rfl⟩ := h1
        obtain ⟨J, rfl, hJ⟩ := h2
        exact ⟨hMd, hto, (hJ _ _ (by unfold scr; omega)).trans (u2_s _ _ _ _), fun q => absurd q (by decide)⟩
      · obtain ⟨n, hn, rfl⟩ := h1
        obtain ⟨J, rfl, hJ⟩ := h2
        exact h.same (m1 := gr m n) hn rfl rfl rfl rfl rfl rfl hJ.B
  · skip
    refine op_remembered g (c := 1) (v := nI 0) (cs := (1, 6)) (P := fun m1 => ∃ n, fz m ≤ n ∧ m1 = gr m n) (P2 := fun m1 m2 => ∃ J, m2 = wI m1 J ∧ sc (d + 334) (th m1 (d + 334) 1) J) hi hLs hb hX (hL_remembered_x1 g hD.t (cx_X9_remembered_1 g (0, 0) hD hR hz h1)) ⟨by decide, by decide⟩ (by decide) (fun m1 h1 => ?_) (fun m1 h1 m2 h2 => ?_) hu (fun m1 h1 m2 h2 x5 x6 => K m2 ?_ x5 x6)
    · obtain ⟨n, hn, rfl⟩ := h1
      exact ⟨hb, hX, hMd.t, cn_X10_remembered_1 g (0, 0) (m := gr m n) hMd (R := nv ((im m (d + 334 + 1)) 1)) hz.n1.e hz.n1.hi h1⟩
    · obtain ⟨n, hn, rfl⟩ := h1
      obtain ⟨J, rfl, hJ⟩ := h2
      exact ⟨hMd, hto, (hJ _ _ (by unfold scr; omega)).trans (u2_s _ _ _ _), fun q => absurd q (by decide)⟩
    · obtain ⟨n, hn, rfl⟩ := h1
      obtain ⟨J, rfl, hJ⟩ := h2
      exact h.same (m1 := gr m n) hn rfl rfl rfl rfl rfl rfl hJ.B
theorem it_setting (g : Gp) {m : Mm} {d b Ls c i : Nat} {X : Nat → Int32} {u : Nat × Nat} {Q : Rs → Mm → Prop} (h : LI g m d b Ls X c) (hc : c < 512) (hi : i + 4 ≤ Ls) (hLs : Ls ≤ 2048) (hu : u.1 + 30 ≤ lw_rc ∧ u.2 + 230 ≤ lw_rs)
    (K : ∀ m2, LI g m2 d b Ls X (c + 1) → ∀ x5 x6 : Int32, G g ML_law Q 1834 [(6, .int x6), (5, .int x5), (4, .int (nI i)), (3, .ref (d + 343)), (2, .ref (d + 334)), (1, .ref d), (0, .ref b)] [] (u.1 + 30, u.2 + 230) m2) : G g ML_law Q 1414 [(4, .int (nI i)), (3, .ref (d + 343)), (2, .ref (d + 334)), (1, .ref d), (0, .ref b)] [] u m := by
  obtain ⟨k, kb, ⟨hb, hX, hbd⟩, hto, hMd, hKd, hfz, hDk, hk3, hk5, hzi, hk6, hzx⟩ := id h
  obtain ⟨hD, hR, hV, hl, hkb, hf⟩ := id hDk
  have hz := hzi.1
  by_cases h2 : inb (X (i + 1)) 2
  · obtain ⟨w, hw, ew⟩ := inb_of h2 (by decide)
    skip
    refine op_setting g (c := 0) (v := (im m (d + 334 + 1)) (2 + w)) (cs := (0, 0)) (P := fun m1 => ∃ m0, m0 = m ∧ m1 = sJ m0 (d + 343) 0 ((im m (d + 334 + 1)) (2 + w)).toInt64) (P2 := fun m1 m2 => ∃ J, m2 = wI m1 J ∧ sc (d + 334) (th m1 (d + 334) 0) J) hi hLs hb hX (by rw [ew]; exact hL_setting_0 g (0, 0) hD.t (cn_X9_setting g (0, 0) hD hR hz (w := w) (by omega)) (fun r m1 q => q) (fun m1 q => by rw [q]; exact hto)) ⟨by decide, by decide⟩ (by decide) (fun m1 h1 => ?_) (fun m1 h1 m2 h2 => ?_) hu (fun m1 h1 m2 h2 x5 x6 => K m2 ?_ x5 x6)
    · have e1 : m1 = sJ m (d + 343) 0 ((im m (d + 334 + 1)) (2 + w)).toInt64 := by obtain ⟨m0, e0, e⟩ := h1; rw [e, e0]
      subst e1
      have q := cn_X10_setting_0 g (0, 0) (m := sJ m (d + 343) 0 ((im m (d + 334 + 1)) (2 + w)).toInt64) hMd (w := w) (by omega)
      skip
      exact ⟨hb, hX, hMd.t, by rw [ew]; exact q⟩
    · have e1 : m1 = sJ m (d + 343) 0 ((im m (d + 334 + 1)) (2 + w)).toInt64 := by obtain ⟨m0, e0, e⟩ := h1; rw [e, e0]
      subst e1
      obtain ⟨J, rfl, hJ⟩ := h2
      exact ⟨hMd, hto, (hJ _ _ (by unfold scr; omega)).trans (u2_s _ _ _ _), fun _ => u2_s _ _ _ _⟩
    · have e1 : m1 = sJ m (d + 343) 0 ((im m (d + 334 + 1)) (2 + w)).toInt64 := by obtain ⟨m0, e0, e⟩ := h1; rw [e, e0]
      subst e1
      obtain ⟨J, rfl, hJ⟩ := h2
      exact h.same (m1 := sJ m (d + 343) 0 ((im m (d + 334 + 1)) (2 + w)).toInt64) (Nat.le_refl _) rfl rfl rfl rfl rfl rfl hJ.B
  · skip
    refine op_setting g (c := 1) (v := nI 0) (cs := (1, 6)) (P := fun m1 => ∃ n, fz m ≤ n ∧ m1 = gr m n) (P2 := fun m1 m2 => ∃ J, m2 = wI m1 J ∧ sc (d + 334) (th m1 (d + 334) 1) J) hi hLs hb hX (hL_setting_x1 g hD.t (cx_X9_setting_1 g (0, 0) hD hR hz h2)) ⟨by decide, by decide⟩ (by decide) (fun m1 h1 => ?_) (fun m1 h1 m2 h2 => ?_) hu (fun m1 h1 m2 h2 x5 x6 => K m2 ?_ x5 x6)
    · obtain ⟨n, hn, rfl⟩ := h1
      exact ⟨hb, hX, hMd.t, cn_X10_setting_1 g (0, 0) (m := gr m n) hMd h2⟩
    · obtain ⟨n, hn, rfl⟩ := h1
      obtain ⟨J, rfl, hJ⟩ := h2
      exact ⟨hMd, hto, (hJ _ _ (by unfold scr; omega)).trans (u2_s _ _ _ _), fun q => absurd q (by decide)⟩
    · obtain ⟨n, hn, rfl⟩ := h1
      obtain ⟨J, rfl, hJ⟩ := h2
      exact h.same (m1 := gr m n) hn rfl rfl rfl rfl rfl rfl hJ.B
theorem it_count (g : Gp) {m : Mm} {d b Ls c i : Nat} {X : Nat → Int32} {u : Nat × Nat} {Q : Rs → Mm → Prop} (h : LI g m d b Ls X c) (hc : c < 512) (hi : i + 4 ≤ Ls) (hLs : Ls ≤ 2048) (hu : u.1 + 30 ≤ lw_rc ∧ u.2 + 230 ≤ lw_rs)
    (K : ∀ m2, LI g m2 d b Ls X (c + 1) → ∀ x5 x6 : Int32, G g ML_law Q 1834 [(6, .int x6), (5, .int x5), (4, .int (nI i)), (3, .ref (d + 343)), (2, .ref (d + 334)), (1, .ref d), (0, .ref b)] [] (u.1 + 30, u.2 + 230) m2) : G g ML_law Q 1358 [(4, .int (nI i)), (3, .ref (d + 343)), (2, .ref (d + 334)), (1, .ref d), (0, .ref b)] [] u m := by
  obtain ⟨k, kb, ⟨hb, hX, hbd⟩, hto, hMd, hKd, hfz, hDk, hk3, hk5, hzi, hk6, hzx⟩ := id h
  obtain ⟨hD, hR, hV, hl, hkb, hf⟩ := id hDk
  have hz := hzi.1
  have hk48 : im m (d + 48) 2 = nI k := by obtain ⟨fst, ⟨⟨_, _, q, _⟩, _⟩⟩ := hV; exact q
  by_cases h2 : inb (X (i + 1)) 12
  · obtain ⟨w, hw, ew⟩ := inb_of h2 (by decide)
    skip
    refine op_count g (c := 0) (v := cntV (im m (d + 334 + 1)) (nI k) w) (cs := (0, 0)) (P := fun m1 => ∃ m0, m0 = m ∧ m1 = sJ m0 (d + 343) 0 (cntV (im m (d + 334 + 1)) (nI k) w).toInt64) (P2 := fun m1 m2 => ∃ J, m2 = wI m1 J ∧ sc (d + 334) (th m1 (d + 334) 0) J) hi hLs hb hX (by rw [ew]; exact hL_count_0 g (0, 0) hD.t (cn_X9_count g (0, 0) hD hR hz hk48 (w := w) (by omega)) (fun r m1 q => q) (fun m1 q => by rw [q]; exact hto)) ⟨by decide, by decide⟩ (by decide) (fun m1 h1 => ?_) (fun m1 h1 m2 h2 => ?_) hu (fun m1 h1 m2 h2 x5 x6 => K m2 ?_ x5 x6)
    · have e1 : m1 = sJ m (d + 343) 0 (cntV (im m (d + 334 + 1)) (nI k) w).toInt64 := by obtain ⟨m0, e0, e⟩ := h1; rw [e, e0]
      subst e1
      have q := cn_X10_count_0 g (0, 0) (m := sJ m (d + 343) 0 (cntV (im m (d + 334 + 1)) (nI k) w).toInt64) hMd hz.n0 (fun s hs => (hz.row hs).1) (w := w) (by omega)
      rw [show im (sJ m (d + 343) 0 (cntV (im m (d + 334 + 1)) (nI k) w).toInt64) (d + 334) 3 = nI k from hk3] at q
      exact ⟨hb, hX, hMd.t, by rw [ew]; exact q⟩
    · have e1 : m1 = sJ m (d + 343) 0 (cntV (im m (d + 334 + 1)) (nI k) w).toInt64 := by obtain ⟨m0, e0, e⟩ := h1; rw [e, e0]
      subst e1
      obtain ⟨J, rfl, hJ⟩ := h2
      exact ⟨hMd, hto, (hJ _ _ (by unfold scr; omega)).trans (u2_s _ _ _ _), fun _ => u2_s _ _ _ _⟩
    · have e1 : m1 = sJ m (d + 343) 0 (cntV (im m (d + 334 + 1)) (nI k) w).toInt64 := by obtain ⟨m0, e0, e⟩ := h1; rw [e, e0]
      subst e1
      obtain ⟨J, rfl, hJ⟩ := h2
      exact h.same (m1 := sJ m (d + 343) 0 (cntV (im m (d + 334 + 1)) (nI k) w).toInt64) (Nat.le_refl _) rfl rfl rfl rfl rfl rfl hJ.B
  · skip
    refine op_count g (c := 1) (v := nI 0) (cs := (1, 6)) (P := fun m1 => ∃ n, fz m ≤ n ∧ m1 = gr m n) (P2 := fun m1 m2 => ∃ J, m2 = wI m1 J ∧ sc (d + 334) (th m1 (d + 334) 1) J) hi hLs hb hX (hL_count_x1 g hD.t (cx_X9_count_1 g (0, 0) hD hR hz h2)) ⟨by decide, by decide⟩ (by decide) (fun m1 h1 => ?_) (fun m1 h1 m2 h2 => ?_) hu (fun m1 h1 m2 h2 x5 x6 => K m2 ?_ x5 x6)
    · obtain ⟨n, hn, rfl⟩ := h1
      exact ⟨hb, hX, hMd.t, cn_X10_count_1 g (0, 0) (m := gr m n) hMd h2⟩
    · obtain ⟨n, hn, rfl⟩ := h1
      obtain ⟨J, rfl, hJ⟩ := h2
      exact ⟨hMd, hto, (hJ _ _ (by unfold scr; omega)).trans (u2_s _ _ _ _), fun q => absurd q (by decide)⟩
    · obtain ⟨n, hn, rfl⟩ := h1
      obtain ⟨J, rfl, hJ⟩ := h2
      exact h.same (m1 := gr m n) hn rfl rfl rfl rfl rfl rfl hJ.B
