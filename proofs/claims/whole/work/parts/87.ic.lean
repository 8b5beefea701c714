/-! THE LAW: more looks, and some that change -/
theorem it_near (g : Gp) {m : Mm} {d b Ls c i : Nat} {X : Nat → Int32} {u : Nat × Nat} {Q : Rs → Mm → Prop} (h : LI g m d b Ls X c) (hc : c < 512) (hi : i + 4 ≤ Ls) (hLs : Ls ≤ 2048) (hu : u.1 + 30 ≤ lw_rc ∧ u.2 + 230 ≤ lw_rs)
    (K : ∀ m2, LI g m2 d b Ls X (c + 1) → ∀ x5 x6 : Int32, G g ML_law Q 1834 [(6, .int x6), (5, .int x5), (4, .int (nI i)), (3, .ref (d + 343)), (2, .ref (d + 334)), (1, .ref d), (0, .ref b)] [] (u.1 + 30, u.2 + 230) m2) : G g ML_law Q 1470 [(4, .int (nI i)), (3, .ref (d + 343)), (2, .ref (d + 334)), (1, .ref d), (0, .ref b)] [] u m := by
  obtain ⟨k, kb, ⟨hb, hX, hbd⟩, hto, hMd, hKd, hfz, hDk, hk3, hk5, hzi, hk6, hzx⟩ := id h
  obtain ⟨hD, hR, hV, hl, hkb, hf⟩ := id hDk
  have hz := hzi.1
  have hn09 := hz.n0.hi
  have hn19 := hz.n1.hi
  by_cases h1 : inb (X (i + 1)) (nv ((im m (d + 334 + 1)) 0))
  · obtain ⟨s, hs, es⟩ := inb_of h1 (by omega)
    by_cases h2 : inb (X (i + 2)) (nv ((im m (d + 334 + 1)) 1))
    · obtain ⟨r, hr, er⟩ := inb_of h2 (by omega)
      by_cases h3 : inb (X (i + 3)) 3
      · obtain ⟨w, hw, ew⟩ := inb_of h3 (by decide)
        skip
        refine op_near g (c := 0) (v := nearV (im m (d + 334 + 1)) (79 + 22 * s) r w) (cs := (0, 0)) (P := fun m1 => ∃ m0, m0 = m ∧ m1 = sJ m0 (d + 343) 0 (nearV (im m (d + 334 + 1)) (79 + 22 * s) r w).toInt64) (P2 := fun m1 m2 => ∃ J, m2 = wI m1 J ∧ sc (d + 334) (th m1 (d + 334) 0) J) hi hLs hb hX (by rw [es, er, ew]; exact hL_near_0 g (0, 0) hD.t (cn_X9_near g (0, 0) hD hR hz hs hr (w := w) (by omega)) (fun r m1 q => q) (fun m1 q => by rw [q]; exact hto)) ⟨by decide, by decide⟩ (by decide) (fun m1 h1 => ?_) (fun m1 h1 m2 h2 => ?_) hu (fun m1 h1 m2 h2 x5 x6 => K m2 ?_ x5 x6)
        · have e1 : m1 = sJ m (d + 343) 0 (nearV (im m (d + 334 + 1)) (79 + 22 * s) r w).toInt64 := by obtain ⟨m0, e0, e⟩ := h1; rw [e, e0]
          subst e1
          have q := cn_X10_near_0 g (0, 0) (m := sJ m (d + 343) 0 (nearV (im m (d + 334 + 1)) (79 + 22 * s) r w).toInt64) hMd (N := nv ((im m (d + 334 + 1)) 0)) hz.n0.e hz.n0.hi hs hz.n1 hr (hz.row hs).1 (fun r hr => (hz.mem hr).1) (w := w) (by omega)
          skip
          exact ⟨hb, hX, hMd.t, by rw [es, er, ew]; exact q⟩
        · have e1 : m1 = sJ m (d + 343) 0 (nearV (im m (d + 334 + 1)) (79 + 22 * s) r w).toInt64 := by obtain ⟨m0, e0, e⟩ := h1; rw [e, e0]
          subst e1
          obtain ⟨J, rfl, hJ⟩ := h2
          exact ⟨hMd, hto, (hJ _ _ (by unfold scr; omega)).trans (u2_s _ _ _ _), fun _ => u2_s _ _ _ _⟩
        · have e1 : m1 = sJ m (d + 343) 0 (nearV (im m (d + 334 + 1)) (79 + 22 * s) r w).toInt64 := by obtain ⟨m0, e0, e⟩ := h1; rw [e, e0]
          subst e1
          obtain ⟨J, rfl, hJ⟩ := h2
          exact h.same (m1 := sJ m (d + 343) 0 (nearV (im m (d + 334 + 1)) (79 + 22 * s) r w).toInt64) (Nat.le_refl _) rfl rfl rfl rfl rfl rfl hJ.B
      · skip
        refine op_near g (c := 2) (v := nI 0) (cs := (1, 6)) (P := fun m1 => ∃ n, fz m ≤ n ∧ m1 = gr m n) (P2 := fun m1 m2 => ∃ J, m2 = wI m1 J ∧ sc (d + 334) (th m1 (d + 334) 2) J) hi hLs hb hX (by rw [es, er]; exact hL_near_x2 g hD.t (cx_X9_near_2 g (0, 0) hD hR hz hs hr h3)) ⟨by decide, by decide⟩ (by decide) (fun m1 h1 => ?_) (fun m1 h1 m2 h2 => ?_) hu (fun m1 h1 m2 h2 x5 x6 => K m2 ?_ x5 x6)
        · obtain ⟨n, hn, rfl⟩ := h1
          exact ⟨hb, hX, hMd.t, by rw [es, er]; exact cn_X10_near_2 g (0, 0) (m := gr m n) hMd (N := nv ((im m (d + 334 + 1)) 0)) hz.n0.e hz.n0.hi hs hz.n1 hr h3⟩
        · obtain ⟨n, hn, rfl⟩ := h1
          obtain ⟨J, rfl, hJ⟩ := h2
          exact ⟨hMd, hto, (hJ _ _ (by unfold scr; omega)).trans (u2_s _ _ _ _), fun q => absurd q (by decide)⟩
        · obtain ⟨n, hn, rfl⟩ := h1
          obtain ⟨J, rfl, hJ⟩ := h2
          exact h.same (m1 := gr m n) hn rfl rfl rfl rfl rfl rfl hJ.B
    · skip
      refine op_near g (c := 1) (v := nI 0) (cs := (1, 6)) (P := fun m1 => ∃ n, fz m ≤ n ∧ m1 = gr m n) (P2 := fun m1 m2 => ∃ J, m2 = wI m1 J ∧ sc (d + 334) (th m1 (d + 334) 1) J) hi hLs hb hX (by rw [es]; exact hL_near_x1 g hD.t (cx_X9_near_11 g (0, 0) hD hR hz hs h2)) ⟨by decide, by decide⟩ (by decide) (fun m1 h1 => ?_) (fun m1 h1 m2 h2 => ?_) hu (fun m1 h1 m2 h2 x5 x6 => K m2 ?_ x5 x6)
      · obtain ⟨n, hn, rfl⟩ := h1
        exact ⟨hb, hX, hMd.t, by rw [es]; exact cn_X10_near_1 g (0, 0) (m := gr m n) hMd (N := nv ((im m (d + 334 + 1)) 0)) hz.n0.e hz.n0.hi hz.n1 (fun q => h2 q.2)⟩
      · obtain ⟨n, hn, rfl⟩ := h1
        obtain ⟨J, rfl, hJ⟩ := h2
        exact ⟨hMd, hto, (hJ _ _ (by unfold scr; omega)).trans (u2_s _ _ _ _), fun q => absurd q (by decide)⟩
      · obtain ⟨n, hn, rfl⟩ := h1
        obtain ⟨J, rfl, hJ⟩ := h2
        exact h.same (m1 := gr m n) hn rfl rfl rfl rfl rfl rfl hJ.B
  · skip
    refine op_near g (c := 1) (v := nI 0) (cs := (1, 6)) (P := fun m1 => ∃ n, fz m ≤ n ∧ m1 = gr m n) (P2 := fun m1 m2 => ∃ J, m2 = wI m1 J ∧ sc (d + 334) (th m1 (d + 334) 1) J) hi hLs hb hX (hL_near_x1 g hD.t (cx_X9_near_1 g (0, 0) hD hR hz h1)) ⟨by decide, by decide⟩ (by decide) (fun m1 h1 => ?_) (fun m1 h1 m2 h2 => ?_) hu (fun m1 h1 m2 h2 x5 x6 => K m2 ?_ x5 x6)
    · obtain ⟨n, hn, rfl⟩ := h1
      exact ⟨hb, hX, hMd.t, cn_X10_near_1 g (0, 0) (m := gr m n) hMd (N := nv ((im m (d + 334 + 1)) 0)) hz.n0.e hz.n0.hi hz.n1 (fun q => h1 q.1)⟩
    · obtain ⟨n, hn, rfl⟩ := h1
      obtain ⟨J, rfl, hJ⟩ := h2
      exact ⟨hMd, hto, (hJ _ _ (by unfold scr; omega)).trans (u2_s _ _ _ _), fun q => absurd q (by decide)⟩
    · obtain ⟨n, hn, rfl⟩ := h1
      obtain ⟨J, rfl, hJ⟩ := h2
      exact h.same (m1 := gr m n) hn rfl rfl rfl rfl rfl rfl hJ.B
theorem it_common (g : Gp) {m : Mm} {d b Ls c i : Nat} {X : Nat → Int32} {u : Nat × Nat} {Q : Rs → Mm → Prop} (h : LI g m d b Ls X c) (hc : c < 512) (hi : i + 4 ≤ Ls) (hLs : Ls ≤ 2048) (hu : u.1 + 30 ≤ lw_rc ∧ u.2 + 230 ≤ lw_rs)
    (K : ∀ m2, LI g m2 d b Ls X (c + 1) → ∀ x5 x6 : Int32, G g ML_law Q 1834 [(6, .int x6), (5, .int x5), (4, .int (nI i)), (3, .ref (d + 343)), (2, .ref (d + 334)), (1, .ref d), (0, .ref b)] [] (u.1 + 30, u.2 + 230) m2) : G g ML_law Q 1550 [(4, .int (nI i)), (3, .ref (d + 343)), (2, .ref (d + 334)), (1, .ref d), (0, .ref b)] [] u m := by
  obtain ⟨k, kb, ⟨hb, hX, hbd⟩, hto, hMd, hKd, hfz, hDk, hk3, hk5, hzi, hk6, hzx⟩ := id h
  obtain ⟨hD, hR, hV, hl, hkb, hf⟩ := id hDk
  have hz := hzi.1
  have hn09 := hz.n0.hi
  have hn19 := hz.n1.hi
  by_cases h1 : inb (X (i + 1)) (nv ((im m (d + 334 + 1)) 0))
  · obtain ⟨s, hs, es⟩ := inb_of h1 (by omega)
    by_cases h2 : inb (X (i + 2)) (nv ((im m (d + 334 + 1)) 0))
    · obtain ⟨r, hr, er⟩ := inb_of h2 (by omega)
      by_cases h3 : inb (X (i + 3)) 12
      · obtain ⟨w, hw, ew⟩ := inb_of h3 (by decide)
        skip
        refine op_common g (c := 0) (v := comV (im m (d + 334 + 1)) (79 + 22 * s) (79 + 22 * r) w) (cs := (0, 0)) (P := fun m1 => ∃ m0, m0 = m ∧ m1 = sJ m0 (d + 343) 0 (comV (im m (d + 334 + 1)) (79 + 22 * s) (79 + 22 * r) w).toInt64) (P2 := fun m1 m2 => ∃ J, m2 = wI m1 J ∧ sc (d + 334) (th m1 (d + 334) 0) J) hi hLs hb hX (by rw [es, er, ew]; exact hL_common_0 g (0, 0) hD.t (cn_X9_common g (0, 0) hD hR hz hs hr (w := w) (by omega)) (fun r m1 q => q) (fun m1 q => by rw [q]; exact hto)) ⟨by decide, by decide⟩ (by decide) (fun m1 h1 => ?_) (fun m1 h1 m2 h2 => ?_) hu (fun m1 h1 m2 h2 x5 x6 => K m2 ?_ x5 x6)
        · have e1 : m1 = sJ m (d + 343) 0 (comV (im m (d + 334 + 1)) (79 + 22 * s) (79 + 22 * r) w).toInt64 := by obtain ⟨m0, e0, e⟩ := h1; rw [e, e0]
          subst e1
          have q := cn_X10_common_0 g (0, 0) (m := sJ m (d + 343) 0 (comV (im m (d + 334 + 1)) (79 + 22 * s) (79 + 22 * r) w).toInt64) hMd (N := nv ((im m (d + 334 + 1)) 0)) hz.n0.e hz.n0.hi hs hr (hz.row hs) (hz.row hr).1 (w := w) (by omega)
          skip
          exact ⟨hb, hX, hMd.t, by rw [es, er, ew]; exact q⟩
        · have e1 : m1 = sJ m (d + 343) 0 (comV (im m (d + 334 + 1)) (79 + 22 * s) (79 + 22 * r) w).toInt64 := by obtain ⟨m0, e0, e⟩ := h1; rw [e, e0]
          subst e1
          obtain ⟨J, rfl, hJ⟩ := h2
          exact ⟨hMd, hto, (hJ _ _ (by unfold scr; omega)).trans (u2_s _ _ _ _), fun _ => u2_s _ _ _ _⟩
        · have e1 : m1 = sJ m (d + 343) 0 (comV (im m (d + 334 + 1)) (79 + 22 * s) (79 + 22 * r) w).toInt64 := by obtain ⟨m0, e0, e⟩ := h1; rw [e, e0]
          subst e1
          obtain ⟨J, rfl, hJ⟩ := h2
          exact h.same (m1 := sJ m (d + 343) 0 (comV (im m (d + 334 + 1)) (79 + 22 * s) (79 + 22 * r) w).toInt64) (Nat.le_refl _) rfl rfl rfl rfl rfl rfl hJ.B
      · skip
        refine op_common g (c := 2) (v := nI 0) (cs := (1, 6)) (P := fun m1 => ∃ n, fz m ≤ n ∧ m1 = gr m n) (P2 := fun m1 m2 => ∃ J, m2 = wI m1 J ∧ sc (d + 334) (th m1 (d + 334) 2) J) hi hLs hb hX (by rw [es, er]; exact hL_common_x2 g hD.t (cx_X9_common_2 g (0, 0) hD hR hz hs hr h3)) ⟨by decide, by decide⟩ (by decide) (fun m1 h1 => ?_) (fun m1 h1 m2 h2 => ?_) hu (fun m1 h1 m2 h2 x5 x6 => K m2 ?_ x5 x6)
        · obtain ⟨n, hn, rfl⟩ := h1
          exact ⟨hb, hX, hMd.t, by rw [es, er]; exact cn_X10_common_2 g (0, 0) (m := gr m n) hMd (N := nv ((im m (d + 334 + 1)) 0)) hz.n0.e hz.n0.hi hs hr h3⟩
        · obtain ⟨n, hn, rfl⟩ := h1
          obtain ⟨J, rfl, hJ⟩ := h2
          exact ⟨hMd, hto, (hJ _ _ (by unfold scr; omega)).trans (u2_s _ _ _ _), fun q => absurd q (by decide)⟩
        · obtain ⟨n, hn, rfl⟩ := h1
          obtain ⟨J, rfl, hJ⟩ := h2
          exact h.same (m1 := gr m n) hn rfl rfl rfl rfl rfl rfl hJ.B
    · skip
      refine op_common g (c := 1) (v := nI 0) (cs := (1, 6)) (P := fun m1 => ∃ n, fz m ≤ n ∧ m1 = gr m n) (P2 := fun m1 m2 => ∃ J, m2 = wI m1 J ∧ sc (d + 334) (th m1 (d + 334) 1) J) hi hLs hb hX (by rw [es]; exact hL_common_x1 g hD.t (cx_X9_common_11 g (0, 0) hD hR hz hs h2)) ⟨by decide, by decide⟩ (by decide) (fun m1 h1 => ?_) (fun m1 h1 m2 h2 => ?_) hu (fun m1 h1 m2 h2 x5 x6 => K m2 ?_ x5 x6)
      · obtain ⟨n, hn, rfl⟩ := h1
        exact ⟨hb, hX, hMd.t, by rw [es]; exact cn_X10_common_1 g (0, 0) (m := gr m n) hMd (N := nv ((im m (d + 334 + 1)) 0)) hz.n0.e hz.n0.hi (fun q => h2 q.2)⟩
      · obtain ⟨n, hn, rfl⟩ := h1
        obtain ⟨J, rfl, hJ⟩ := h2
        exact ⟨hMd, hto, (hJ _ _ (by unfold scr; omega)).trans (u2_s _ _ _ _), fun q => absurd q (by decide)⟩
      · obtain ⟨n, hn, rfl⟩ := h1
        obtain ⟨J, rfl, hJ⟩ := h2
        exact h.same (m1 := gr m n) hn rfl rfl rfl rfl rfl rfl hJ.B
  · skip
    refine op_common g (c := 1) (v := nI 0) (cs := (1, 6)) (P := fun m1 => ∃ n, fz m ≤ n ∧ m1 = gr m n) (P2 := fun m1 m2 => ∃ J, m2 = wI m1 J ∧ sc (d + 334) (th m1 (d + 334) 1) J) hi hLs hb hX (hL_common_x1 g hD.t (cx_X9_common_1 g (0, 0) hD hR hz h1)) ⟨by decide, by decide⟩ (by decide) (fun m1 h1 => ?_) (fun m1 h1 m2 h2 => ?_) hu (fun m1 h1 m2 h2 x5 x6 => K m2 ?_ x5 x6)
    · obtain ⟨n, hn, rfl⟩ := h1
      exact ⟨hb, hX, hMd.t, cn_X10_common_1 g (0, 0) (m := gr m n) hMd (N := nv ((im m (d + 334 + 1)) 0)) hz.n0.e hz.n0.hi (fun q => h1 q.1)⟩
    · obtain ⟨n, hn, rfl⟩ := h1
      obtain ⟨J, rfl, hJ⟩ := h2
      exact ⟨hMd, hto, (hJ _ _ (by unfold scr; omega)).trans (u2_s _ _ _ _), fun q => absurd q (by decide)⟩
    · obtain ⟨n, hn, rfl⟩ := h1
      obtain ⟨J, rfl, hJ⟩ := h2
      exact h.same (m1 := gr m n) hn rfl rfl rfl rfl rfl rfl hJ.B
theorem it_ifPaid (g : Gp) {m : Mm} {d b Ls c i : Nat} {X : Nat → Int32} {u : Nat × Nat} {Q : Rs → Mm → Prop} (h : LI g m d b Ls X c) (hc : c < 512) (hi : i + 4 ≤ Ls) (hLs : Ls ≤ 2048) (hu : u.1 + 30 ≤ lw_rc ∧ u.2 + 230 ≤ lw_rs)
    (K : ∀ m2, LI g m2 d b Ls X (c + 1) → ∀ x5 x6 : Int32, G g ML_law Q 1834 [(6, .int x6), (5, .int x5), (4, .int (nI i)), (3, .ref (d + 343)), (2, .ref (d + 334)), (1, .ref d), (0, .ref b)] [] (u.1 + 30, u.2 + 230) m2) : G g ML_law Q 1630 [(4, .int (nI i)), (3, .ref (d + 343)), (2, .ref (d + 334)), (1, .ref d), (0, .ref b)] [] u m := by
  obtain ⟨k, kb, ⟨hb, hX, hbd⟩, hto, hMd, hKd, hfz, hDk, hk3, hk5, hzi, hk6, hzx⟩ := id h
  obtain ⟨hD, hR, hV, hl, hkb, hf⟩ := id hDk
  have hz := hzi.1
  have hn09 := hz.n0.hi
  have hn19 := hz.n1.hi
  by_cases h1 : inb (X (i + 1)) (nv ((im m (d + 334 + 1)) 0))
  · obtain ⟨s, hs, es⟩ := inb_of h1 (by omega)
    by_cases h2 : inb (X (i + 2)) 4
    · obtain ⟨r, hr, er⟩ := inb_of h2 (by omega)
      skip
      refine op_ifPaid g (c := 0) (v := payV (im m (d + 334 + 1)) (79 + 22 * s) r (pctV (im m (d + 334 + 1)) (79 + 22 * s))) (cs := (0, 0)) (P := fun m1 => ∃ m0, m0 = m ∧ m1 = sJ m0 (d + 343) 0 (payV (im m (d + 334 + 1)) (79 + 22 * s) r (pctV (im m (d + 334 + 1)) (79 + 22 * s))).toInt64) (P2 := fun m1 m2 => ∃ J, m2 = wI m1 J ∧ sc (d + 334) (th m1 (d + 334) 0) J) hi hLs hb hX (by rw [es, er]; exact hL_ifPaid_0 g (0, 0) hD.t (cn_X9_ifPaid g (0, 0) hD hR hz hs hKd.1 hr) (fun r m1 q => q) (fun m1 q => by rw [q]; exact hto)) ⟨by decide, by decide⟩ (by decide) (fun m1 h1 => ?_) (fun m1 h1 m2 h2 => ?_) hu (fun m1 h1 m2 h2 x5 x6 => K m2 ?_ x5 x6)
      · have e1 : m1 = sJ m (d + 343) 0 (payV (im m (d + 334 + 1)) (79 + 22 * s) r (pctV (im m (d + 334 + 1)) (79 + 22 * s))).toInt64 := by obtain ⟨m0, e0, e⟩ := h1; rw [e, e0]
        subst e1
        have q := cn_X10_ifPaid_0 g (0, 0) (m := sJ m (d + 343) 0 (payV (im m (d + 334 + 1)) (79 + 22 * s) r (pctV (im m (d + 334 + 1)) (79 + 22 * s))).toInt64) hMd (N := nv ((im m (d + 334 + 1)) 0)) hz.n0.e hz.n0.hi hs (hz.row hs) hz.n1 (fun r hr => (hz.mem hr).1) (fun b hb => hz.B0 hb) hr
        skip
        exact ⟨hb, hX, hMd.t, by rw [es, er]; exact q⟩
      · have e1 : m1 = sJ m (d + 343) 0 (payV (im m (d + 334 + 1)) (79 + 22 * s) r (pctV (im m (d + 334 + 1)) (79 + 22 * s))).toInt64 := by obtain ⟨m0, e0, e⟩ := h1; rw [e, e0]
        subst e1
        obtain ⟨J, rfl, hJ⟩ := h2
        exact ⟨hMd, hto, (hJ _ _ (by unfold scr; omega)).trans (u2_s _ _ _ _), fun _ => u2_s _ _ _ _⟩
      · have e1 : m1 = sJ m (d + 343) 0 (payV (im m (d + 334 + 1)) (79 + 22 * s) r (pctV (im m (d + 334 + 1)) (79 + 22 * s))).toInt64 := by obtain ⟨m0, e0, e⟩ := h1; rw [e, e0]
        subst e1
        obtain ⟨J, rfl, hJ⟩ := h2
        exact h.same (m1 := sJ m (d + 343) 0 (payV (im m (d + 334 + 1)) (79 + 22 * s) r (pctV (im m (d + 334 + 1)) (79 + 22 * s))).toInt64) (Nat.le_refl _) rfl rfl rfl rfl rfl rfl hJ.B
    · skip
      refine op_ifPaid g (c := 1) (v := nI 0) (cs := (1, 6)) (P := fun m1 => ∃ n, fz m ≤ n ∧ m1 = gr m n) (P2 := fun m1 m2 => ∃ J, m2 = wI m1 J ∧ sc (d + 334) (th m1 (d + 334) 1) J) hi hLs hb hX (by rw [es]; exact hL_ifPaid_x1 g hD.t (cx_X9_ifPaid_11 g (0, 0) hD hR hz hs h2)) ⟨by decide, by decide⟩ (by decide) (fun m1 h1 => ?_) (fun m1 h1 m2 h2 => ?_) hu (fun m1 h1 m2 h2 x5 x6 => K m2 ?_ x5 x6)
      · obtain ⟨n, hn, rfl⟩ := h1
        exact ⟨hb, hX, hMd.t, by rw [es]; exact cn_X10_ifPaid_1 g (0, 0) (m := gr m n) hMd (N := nv ((im m (d + 334 + 1)) 0)) hz.n0.e hz.n0.hi (fun q => h2 q.2)⟩
      · obtain ⟨n, hn, rfl⟩ := h1
        obtain ⟨J, rfl, hJ⟩ := h2
        exact ⟨hMd, hto, (hJ _ _ (by unfold scr; omega)).trans (u2_s _ _ _ _), fun q => absurd q (by decide)⟩
      · obtain ⟨n, hn, rfl⟩ := h1
        obtain ⟨J, rfl, hJ⟩ := h2
        exact h.same (m1 := gr m n) hn rfl rfl rfl rfl rfl rfl hJ.B
  · skip
    refine op_ifPaid g (c := 1) (v := nI 0) (cs := (1, 6)) (P := fun m1 => ∃ n, fz m ≤ n ∧ m1 = gr m n) (P2 := fun m1 m2 => ∃ J, m2 = wI m1 J ∧ sc (d + 334) (th m1 (d + 334) 1) J) hi hLs hb hX (hL_ifPaid_x1 g hD.t (cx_X9_ifPaid_1 g (0, 0) hD hR hz h1)) ⟨by decide, by decide⟩ (by decide) (fun m1 h1 => ?_) (fun m1 h1 m2 h2 => ?_) hu (fun m1 h1 m2 h2 x5 x6 => K m2 ?_ x5 x6)
    · obtain ⟨n, hn, rfl⟩ := h1
      exact ⟨hb, hX, hMd.t, cn_X10_ifPaid_1 g (0, 0) (m := gr m n) hMd (N := nv ((im m (d + 334 + 1)) 0)) hz.n0.e hz.n0.hi (fun q => h1 q.1)⟩
    · obtain ⟨n, hn, rfl⟩ := h1
      obtain ⟨J, rfl, hJ⟩ := h2
      exact ⟨hMd, hto, (hJ _ _ (by unfold scr; omega)).trans (u2_s _ _ _ _), fun q => absurd q (by decide)⟩
    · obtain ⟨n, hn, rfl⟩ := h1
      obtain ⟨J, rfl, hJ⟩ := h2
      exact h.same (m1 := gr m n) hn rfl rfl rfl rfl rfl rfl hJ.B
theorem it_orderMatters (g : Gp) {m : Mm} {d b Ls c i : Nat} {X : Nat → Int32} {u : Nat × Nat} {Q : Rs → Mm → Prop} (h : LI g m d b Ls X c) (hc : c < 512) (hi : i + 4 ≤ Ls) (hLs : Ls ≤ 2048) (hu : u.1 + 30 ≤ lw_rc ∧ u.2 + 230 ≤ lw_rs)
    (K : ∀ m2, LI g m2 d b Ls X (c + 1) → ∀ x5 x6 : Int32, G g ML_law Q 1834 [(6, .int x6), (5, .int x5), (4, .int (nI i)), (3, .ref (d + 343)), (2, .ref (d + 334)), (1, .ref d), (0, .ref b)] [] (u.1 + 30, u.2 + 230) m2) : G g ML_law Q 1698 [(4, .int (nI i)), (3, .ref (d + 343)), (2, .ref (d + 334)), (1, .ref d), (0, .ref b)] [] u m := by
  obtain ⟨k, kb, ⟨hb, hX, hbd⟩, hto, hMd, hKd, hfz, hDk, hk3, hk5, hzi, hk6, hzx⟩ := id h
  obtain ⟨hD, hR, hV, hl, hkb, hf⟩ := id hDk
  have hz := hzi.1
  have hn09 := hz.n0.hi
  have hn19 := hz.n1.hi
  by_cases h1 : inb (X (i + 1)) (nv ((im m (d + 334 + 1)) 0))
  · obtain ⟨s, hs, es⟩ := inb_of h1 (by omega)
    by_cases h2 : inb (X (i + 2)) (nv ((im m (d + 334 + 1)) 0))
    · obtain ⟨r, hr, er⟩ := inb_of h2 (by omega)
      by_cases hsr : s = r
      · subst hsr
        refine op_orderMatters g (c := 2) (v := nI 0) (cs := (1, 6)) (P := fun m1 => ∃ n, fz m ≤ n ∧ m1 = gr m n) (P2 := fun m1 m2 => ∃ J, m2 = wI m1 J ∧ sc (d + 334) (th m1 (d + 334) 2) J) hi hLs hb hX (by rw [es, er]; exact hL_orderMatters_x2 g hD.t (cx_X9_orderMatters_2 g (0, 0) hD hR hz hs)) ⟨by decide, by decide⟩ (by decide) (fun m1 h1 => ?_) (fun m1 h1 m2 h2 => ?_) hu (fun m1 h1 m2 h2 x5 x6 => K m2 ?_ x5 x6)
        · obtain ⟨n, hn, rfl⟩ := h1
          exact ⟨hb, hX, hMd.t, by rw [es, er]; exact cn_X10_orderMatters_2 g (0, 0) (m := gr m n) hMd (N := nv ((im m (d + 334 + 1)) 0)) hz.n0.e hz.n0.hi hs⟩
        · obtain ⟨n, hn, rfl⟩ := h1
          obtain ⟨J, rfl, hJ⟩ := h2
          exact ⟨hMd, hto, (hJ _ _ (by unfold scr; omega)).trans (u2_s _ _ _ _), fun q => absurd q (by decide)⟩
        · obtain ⟨n, hn, rfl⟩ := h1
          obtain ⟨J, rfl, hJ⟩ := h2
          exact h.same (m1 := gr m n) hn rfl rfl rfl rfl rfl rfl hJ.B
      · by_cases h3 : (im m (d + 334 + 1)) (79 + 22 * s + 1) = 0 ∧ (im m (d + 334 + 1)) (79 + 22 * r + 1) = 0
        · skip
          skip
          refine op_orderMatters g (c := 0) (v := csV (im m (d + 334 + 1)) s r - csV (im m (d + 334 + 1)) r s) (cs := (0, 0)) (P := fun m1 => ∃ m0, m0 = m ∧ m1 = sJ m0 (d + 343) 0 (csV (im m (d + 334 + 1)) s r - csV (im m (d + 334 + 1)) r s).toInt64) (P2 := fun m1 m2 => ∃ J, m2 = wI m1 J ∧ scB (d + 334) (th m1 (d + 334) 0) J) hi hLs hb hX (by rw [es, er]; exact hL_orderMatters_0 g (0, 0) hD.t (cn_X9_orderMatters g (0, 0) hD hR hz hs hr hKd.1 hsr h3) (fun r m1 q => q) (fun m1 q => by rw [q]; exact hto)) ⟨by decide, by decide⟩ (by decide) (fun m1 h1 => ?_) (fun m1 h1 m2 h2 => ?_) hu (fun m1 h1 m2 h2 x5 x6 => K m2 ?_ x5 x6)
          · have e1 : m1 = sJ m (d + 343) 0 (csV (im m (d + 334 + 1)) s r - csV (im m (d + 334 + 1)) r s).toInt64 := by obtain ⟨m0, e0, e⟩ := h1; rw [e, e0]
            subst e1
            have q := cn_X10_orderMatters_0 g (0, 0) (m := sJ m (d + 343) 0 (csV (im m (d + 334 + 1)) s r - csV (im m (d + 334 + 1)) r s).toInt64) hMd (N := nv ((im m (d + 334 + 1)) 0)) hz.n0.e hz.n0.hi hs hr hsr h3.1 h3.2 (hz.row hs).1 (hz.row hr).1 hz.n1 (fun r hr => (hz.mem hr).1)
            skip
            exact ⟨hb, hX, hMd.t, by rw [es, er]; exact q⟩
          · have e1 : m1 = sJ m (d + 343) 0 (csV (im m (d + 334 + 1)) s r - csV (im m (d + 334 + 1)) r s).toInt64 := by obtain ⟨m0, e0, e⟩ := h1; rw [e, e0]
            subst e1
            obtain ⟨J, rfl, hJ⟩ := h2
            exact ⟨hMd, hto, (hJ _ _ (by unfold scr; omega) (by omega)).trans (u2_s _ _ _ _), fun _ => u2_s _ _ _ _⟩
          · have e1 : m1 = sJ m (d + 343) 0 (csV (im m (d + 334 + 1)) s r - csV (im m (d + 334 + 1)) r s).toInt64 := by obtain ⟨m0, e0, e⟩ := h1; rw [e, e0]
            subst e1
            obtain ⟨J, rfl, hJ⟩ := h2
            exact h.same (m1 := sJ m (d + 343) 0 (csV (im m (d + 334 + 1)) s r - csV (im m (d + 334 + 1)) r s).toInt64) (Nat.le_refl _) rfl rfl rfl rfl rfl rfl hJ
        · skip
          refine op_orderMatters g (c := 3) (v := nI 0) (cs := (1, 6)) (P := fun m1 => ∃ n, fz m ≤ n ∧ m1 = gr m n) (P2 := fun m1 m2 => ∃ J, m2 = wI m1 J ∧ sc (d + 334) (th m1 (d + 334) 3) J) hi hLs hb hX (by rw [es, er]; exact hL_orderMatters_x3 g hD.t (cx_X9_orderMatters_3 g (0, 0) hD hR hz hs hr hsr h3)) ⟨by decide, by decide⟩ (by decide) (fun m1 h1 => ?_) (fun m1 h1 m2 h2 => ?_) hu (fun m1 h1 m2 h2 x5 x6 => K m2 ?_ x5 x6)
          · obtain ⟨n, hn, rfl⟩ := h1
            exact ⟨hb, hX, hMd.t, by rw [es, er]; exact cn_X10_orderMatters_3 g (0, 0) (m := gr m n) hMd (N := nv ((im m (d + 334 + 1)) 0)) hz.n0.e hz.n0.hi hs hr hsr h3⟩
          · obtain ⟨n, hn, rfl⟩ := h1
            obtain ⟨J, rfl, hJ⟩ := h2
            exact ⟨hMd, hto, (hJ _ _ (by unfold scr; omega)).trans (u2_s _ _ _ _), fun q => absurd q (by decide)⟩
          · obtain ⟨n, hn, rfl⟩ := h1
            obtain ⟨J, rfl, hJ⟩ := h2
            exact h.same (m1 := gr m n) hn rfl rfl rfl rfl rfl rfl hJ.B
    · skip
      refine op_orderMatters g (c := 1) (v := nI 0) (cs := (1, 6)) (P := fun m1 => ∃ n, fz m ≤ n ∧ m1 = gr m n) (P2 := fun m1 m2 => ∃ J, m2 = wI m1 J ∧ sc (d + 334) (th m1 (d + 334) 1) J) hi hLs hb hX (by rw [es]; exact hL_orderMatters_x1 g hD.t (cx_X9_orderMatters_11 g (0, 0) hD hR hz hs h2)) ⟨by decide, by decide⟩ (by decide) (fun m1 h1 => ?_) (fun m1 h1 m2 h2 => ?_) hu (fun m1 h1 m2 h2 x5 x6 => K m2 ?_ x5 x6)
      · obtain ⟨n, hn, rfl⟩ := h1
        exact ⟨hb, hX, hMd.t, by rw [es]; exact cn_X10_orderMatters_1 g (0, 0) (m := gr m n) hMd (N := nv ((im m (d + 334 + 1)) 0)) hz.n0.e hz.n0.hi (fun q => h2 q.2)⟩
      · obtain ⟨n, hn, rfl⟩ := h1
        obtain ⟨J, rfl, hJ⟩ := h2
        exact ⟨hMd, hto, (hJ _ _ (by unfold scr; omega)).trans (u2_s _ _ _ _), fun q => absurd q (by decide)⟩
      · obtain ⟨n, hn, rfl⟩ := h1
        obtain ⟨J, rfl, hJ⟩ := h2
        exact h.same (m1 := gr m n) hn rfl rfl rfl rfl rfl rfl hJ.B
  · skip
    refine op_orderMatters g (c := 1) (v := nI 0) (cs := (1, 6)) (P := fun m1 => ∃ n, fz m ≤ n ∧ m1 = gr m n) (P2 := fun m1 m2 => ∃ J, m2 = wI m1 J ∧ sc (d + 334) (th m1 (d + 334) 1) J) hi hLs hb hX (hL_orderMatters_x1 g hD.t (cx_X9_orderMatters_1 g (0, 0) hD hR hz h1)) ⟨by decide, by decide⟩ (by decide) (fun m1 h1 => ?_) (fun m1 h1 m2 h2 => ?_) hu (fun m1 h1 m2 h2 x5 x6 => K m2 ?_ x5 x6)
    · obtain ⟨n, hn, rfl⟩ := h1
      exact ⟨hb, hX, hMd.t, cn_X10_orderMatters_1 g (0, 0) (m := gr m n) hMd (N := nv ((im m (d + 334 + 1)) 0)) hz.n0.e hz.n0.hi (fun q => h1 q.1)⟩
    · obtain ⟨n, hn, rfl⟩ := h1
      obtain ⟨J, rfl, hJ⟩ := h2
      exact ⟨hMd, hto, (hJ _ _ (by unfold scr; omega)).trans (u2_s _ _ _ _), fun q => absurd q (by decide)⟩
    · obtain ⟨n, hn, rfl⟩ := h1
      obtain ⟨J, rfl, hJ⟩ := h2
      exact h.same (m1 := gr m n) hn rfl rfl rfl rfl rfl rfl hJ.B
theorem it_propose (g : Gp) {m : Mm} {d b Ls c i : Nat} {X : Nat → Int32} {u : Nat × Nat} {Q : Rs → Mm → Prop} (h : LI g m d b Ls X c) (hc : c < 512) (hi : i + 4 ≤ Ls) (hLs : Ls ≤ 2048) (hu : u.1 + 30 ≤ lw_rc ∧ u.2 + 230 ≤ lw_rs)
    (K : ∀ m2, LI g m2 d b Ls X (c + 1) → ∀ x5 x6 : Int32, G g ML_law Q 1834 [(6, .int x6), (5, .int x5), (4, .int (nI i)), (3, .ref (d + 343)), (2, .ref (d + 334)), (1, .ref d), (0, .ref b)] [] (u.1 + 30, u.2 + 230) m2) : G g ML_law Q 576 [(4, .int (nI i)), (3, .ref (d + 343)), (2, .ref (d + 334)), (1, .ref d), (0, .ref b)] [] u m := by
  obtain ⟨k, kb, ⟨hb, hX, hbd⟩, hto, hMd, hKd, hfz, hDk, hk3, hk5, hzi, hk6, hzx⟩ := id h
  obtain ⟨hD, hR, hV, hl, hkb, hf⟩ := id hDk
  have hz := hzi.1
  by_cases h1 : inb (X (i + 1)) 8
  · obtain ⟨w, hw, ew⟩ := inb_of h1 (by decide)
    by_cases h2 : inb (X (i + 2)) 4
    · obtain ⟨t, ht, et⟩ := inb_of h2 (by decide)
      by_cases h3 : (-1 : Int32) ≤ X (i + 3) ∧ X (i + 3) ≤ nI 9
      · by_cases h4 : (im m (d + 334 + 1)) (56 + w) = -1
        · skip
          refine op_propose g (c := 0) (v := (im m (d + 334 + 1)) (24 + 4 * w + t)) (cs := (0, 0)) (P := fun m1 => ∃ m0, (Hd m m0 d ∧ DkV m0 d (d + 344) c (sk k) kb (u1 (im m (d + 334 + 1)) (24 + 4 * w + t) (X (i + 3))) (svR k (im m (d + 334 + 1)) (fun i j => im m (d + 334 + 2) (689 * i + j))) (im m (d + 334 + 4))) ∧ m1 = sJ m0 (d + 343) 0 ((im m (d + 334 + 1)) (24 + 4 * w + t)).toInt64) (P2 := fun m1 m2 => ∃ J, m2 = wI m1 J ∧ sc (d + 334) (rz (svI (th m1 (d + 334) 0) (d + 334) k) (d + 334 + 1) (u1 (im m (d + 334 + 1)) (24 + 4 * w + t) (X (i + 3)))) J) hi hLs hb hX (by rw [ew, et]; exact hL_propose_0 g (0, 0) hD.t (cn_X9_propose g (0, 0) (Nat.le_refl _) hKd hDk hz hw ht h3 h4) (fun r m1 q => q) (fun m1 q => (q.1.2 _ (by omega)).1.1.trans hto)) ⟨by decide, by decide⟩ (by decide) (fun m1 h1 => ?_) (fun m1 h1 m2 h2 => ?_) hu (fun m1 h1 m2 h2 x5 x6 => K m2 ?_ x5 x6)
          · obtain ⟨m0, ⟨hH, hK⟩, rfl⟩ := h1
            have hM0 := hMd.hd hH hfz
            have ez : im (sJ m0 (d + 343) 0 ((im m (d + 334 + 1)) (24 + 4 * w + t)).toInt64) (d + 334 + 1) = im m (d + 334 + 1) := ((hH.2 _ (by omega)).2 (by omega)).1
            have e3 : im (sJ m0 (d + 343) 0 ((im m (d + 334 + 1)) (24 + 4 * w + t)).toInt64) (d + 334) 3 = nI k := (congrFun ((hH.2 (d + 334) (by omega)).2 (by omega)).1 3).trans hk3
            have q := cn_X10_propose_0 g (0, 0) (m := sJ m0 (d + 343) 0 ((im m (d + 334 + 1)) (24 + 4 * w + t)).toInt64) hM0 (n := k) e3 hk6 hw ht h3 (by rw [ez]; exact h4)
            rw [ez] at q
            rw [rz_uu _ _ (im m (d + 334 + 1)) ((svI_ne _ _ _ (by omega) (by omega)).trans ((u2_o _ _ _ _ (by omega)).trans ez))] at q
            refine ⟨(hH.2 b (by omega)).1.1.trans hb, ((hH.2 b (by omega)).2 (by omega)).1.trans hX, hM0.t, ?_⟩
            rw [ew, et]; exact q
          · obtain ⟨m0, ⟨hH, hK⟩, rfl⟩ := h1
            obtain ⟨J, rfl, hJ⟩ := h2
            exact ⟨(show MdOk m0 (d + 334) from hMd.hd hH hfz), (hH.2 _ (by omega)).1.1.trans hto, at6 hJ, fun _ => u2_s _ _ _ _⟩
          · obtain ⟨m0, ⟨hH, hK⟩, e1⟩ := h1
            obtain ⟨J, e2, hJ⟩ := h2
            exact h.mutR hk3 hk5 hk6 hH hK (by have q := zi_term hzi (j := 4 * w + t) (by omega) h3; rwa [← Nat.add_assoc] at q) e1 e2 hJ
        · skip
          refine op_propose g (c := 3) (v := nI 0) (cs := (1, 6)) (P := fun m1 => ∃ n, fz m ≤ n ∧ m1 = gr m n) (P2 := fun m1 m2 => ∃ J, m2 = wI m1 J ∧ sc (d + 334) (th m1 (d + 334) 3) J) hi hLs hb hX (by rw [ew, et]; exact hL_propose_x3 g hD.t (cx_X9_propose_3 g (0, 0) hD hR hz hw ht h3 h4)) ⟨by decide, by decide⟩ (by decide) (fun m1 h1 => ?_) (fun m1 h1 m2 h2 => ?_) hu (fun m1 h1 m2 h2 x5 x6 => K m2 ?_ x5 x6)
          · obtain ⟨n, hn, rfl⟩ := h1
            exact ⟨hb, hX, hMd.t, by rw [ew, et]; exact cn_X10_propose_3 g (0, 0) (m := gr m n) hMd hw ht h3 h4⟩
          · obtain ⟨n, hn, rfl⟩ := h1
            obtain ⟨J, rfl, hJ⟩ := h2
            exact ⟨hMd, hto, (hJ _ _ (by unfold scr; omega)).trans (u2_s _ _ _ _), fun q => absurd q (by decide)⟩
          · obtain ⟨n, hn, rfl⟩ := h1
            obtain ⟨J, rfl, hJ⟩ := h2
            exact h.same (m1 := gr m n) hn rfl rfl rfl rfl rfl rfl hJ.B
      · skip
        refine op_propose g (c := 2) (v := nI 0) (cs := (1, 6)) (P := fun m1 => ∃ n, fz m ≤ n ∧ m1 = gr m n) (P2 := fun m1 m2 => ∃ J, m2 = wI m1 J ∧ sc (d + 334) (th m1 (d + 334) 2) J) hi hLs hb hX (by rw [ew, et]; exact hL_propose_x2 g hD.t (cx_X9_propose_2 g (0, 0) hD hR hz hw ht h3)) ⟨by decide, by decide⟩ (by decide) (fun m1 h1 => ?_) (fun m1 h1 m2 h2 => ?_) hu (fun m1 h1 m2 h2 x5 x6 => K m2 ?_ x5 x6)
        · obtain ⟨n, hn, rfl⟩ := h1
          exact ⟨hb, hX, hMd.t, by rw [ew, et]; exact cn_X10_propose_2 g (0, 0) (m := gr m n) hMd hw ht h3⟩
        · obtain ⟨n, hn, rfl⟩ := h1
          obtain ⟨J, rfl, hJ⟩ := h2
          exact ⟨hMd, hto, (hJ _ _ (by unfold scr; omega)).trans (u2_s _ _ _ _), fun q => absurd q (by decide)⟩
        · obtain ⟨n, hn, rfl⟩ := h1
          obtain ⟨J, rfl, hJ⟩ := h2
          exact h.same (m1 := gr m n) hn rfl rfl rfl rfl rfl rfl hJ.B
    · skip
      refine op_propose g (c := 1) (v := nI 0) (cs := (1, 6)) (P := fun m1 => ∃ n, fz m ≤ n ∧ m1 = gr m n) (P2 := fun m1 m2 => ∃ J, m2 = wI m1 J ∧ sc (d + 334) (th m1 (d + 334) 1) J) hi hLs hb hX (by rw [ew]; exact hL_propose_x1 g hD.t (cx_X9_propose_11 g (0, 0) hD hR hz hw h2)) ⟨by decide, by decide⟩ (by decide) (fun m1 h1 => ?_) (fun m1 h1 m2 h2 => ?_) hu (fun m1 h1 m2 h2 x5 x6 => K m2 ?_ x5 x6)
      · obtain ⟨n, hn, rfl⟩ := h1
        exact ⟨hb, hX, hMd.t, by rw [ew]; exact cn_X10_propose_1 g (0, 0) (m := gr m n) hMd (fun q => h2 q.2)⟩
      · obtain ⟨n, hn, rfl⟩ := h1
        obtain ⟨J, rfl, hJ⟩ := h2
        exact ⟨hMd, hto, (hJ _ _ (by unfold scr; omega)).trans (u2_s _ _ _ _), fun q => absurd q (by decide)⟩
      · obtain ⟨n, hn, rfl⟩ := h1
        obtain ⟨J, rfl, hJ⟩ := h2
        exact h.same (m1 := gr m n) hn rfl rfl rfl rfl rfl rfl hJ.B
  · skip
    refine op_propose g (c := 1) (v := nI 0) (cs := (1, 6)) (P := fun m1 => ∃ n, fz m ≤ n ∧ m1 = gr m n) (P2 := fun m1 m2 => ∃ J, m2 = wI m1 J ∧ sc (d + 334) (th m1 (d + 334) 1) J) hi hLs hb hX (hL_propose_x1 g hD.t (cx_X9_propose_1 g (0, 0) hD hR hz h1)) ⟨by decide, by decide⟩ (by decide) (fun m1 h1 => ?_) (fun m1 h1 m2 h2 => ?_) hu (fun m1 h1 m2 h2 x5 x6 => K m2 ?_ x5 x6)
    · obtain ⟨n, hn, rfl⟩ := h1
      exact ⟨hb, hX, hMd.t, cn_X10_propose_1 g (0, 0) (m := gr m n) hMd (fun q => h1 q.1)⟩
    · obtain ⟨n, hn, rfl⟩ := h1
      obtain ⟨J, rfl, hJ⟩ := h2
      exact ⟨hMd, hto, (hJ _ _ (by unfold scr; omega)).trans (u2_s _ _ _ _), fun q => absurd q (by decide)⟩
    · obtain ⟨n, hn, rfl⟩ := h1
      obtain ⟨J, rfl, hJ⟩ := h2
      exact h.same (m1 := gr m n) hn rfl rfl rfl rfl rfl rfl hJ.B
theorem it_rule (g : Gp) {m : Mm} {d b Ls c i : Nat} {X : Nat → Int32} {u : Nat × Nat} {Q : Rs → Mm → Prop} (h : LI g m d b Ls X c) (hc : c < 512) (hi : i + 4 ≤ Ls) (hLs : Ls ≤ 2048) (hu : u.1 + 30 ≤ lw_rc ∧ u.2 + 230 ≤ lw_rs)
    (K : ∀ m2, LI g m2 d b Ls X (c + 1) → ∀ x5 x6 : Int32, G g ML_law Q 1834 [(6, .int x6), (5, .int x5), (4, .int (nI i)), (3, .ref (d + 343)), (2, .ref (d + 334)), (1, .ref d), (0, .ref b)] [] (u.1 + 30, u.2 + 230) m2) : G g ML_law Q 656 [(4, .int (nI i)), (3, .ref (d + 343)), (2, .ref (d + 334)), (1, .ref d), (0, .ref b)] [] u m := by
  obtain ⟨k, kb, ⟨hb, hX, hbd⟩, hto, hMd, hKd, hfz, hDk, hk3, hk5, hzi, hk6, hzx⟩ := id h
  obtain ⟨hD, hR, hV, hl, hkb, hf⟩ := id hDk
  have hz := hzi.1
  by_cases h1 : inb (X (i + 1)) 8
  · obtain ⟨w, hw, ew⟩ := inb_of h1 (by decide)
    by_cases h2 : nI 0 ≤ X (i + 2) ∧ X (i + 2) ≤ nI 9
    · by_cases h3 : (im m (d + 334 + 1)) (56 + w) = -1 ∧ ∃ t, t < 4 ∧ (im m (d + 334 + 1)) (24 + 4 * w + t) = X (i + 2)
      · skip
        refine op_rule g (c := 0) (v := nI 4 - nI (hv (im m (d + 334 + 1)) w (X (i + 2)) 4) - nI (hv (im m (d + 334 + 1)) w (-1) 4)) (cs := (0, 0)) (P := fun m1 => ∃ m0, (Hd m m0 d ∧ DkV m0 d (d + 344) c (sk k) kb (u1 (im m (d + 334 + 1)) (56 + w) (X (i + 2))) (svR k (im m (d + 334 + 1)) (fun i j => im m (d + 334 + 2) (689 * i + j))) (im m (d + 334 + 4))) ∧ m1 = sJ m0 (d + 343) 0 (nI 4 - nI (hv (im m (d + 334 + 1)) w (X (i + 2)) 4) - nI (hv (im m (d + 334 + 1)) w (-1) 4)).toInt64) (P2 := fun m1 m2 => ∃ J, m2 = wI m1 J ∧ sc (d + 334) (rz (svI (th m1 (d + 334) 0) (d + 334) k) (d + 334 + 1) (u1 (im m (d + 334 + 1)) (56 + w) (X (i + 2)))) J) hi hLs hb hX (by rw [ew]; exact hL_rule_0 g (0, 0) hD.t (cn_X9_rule g (0, 0) (Nat.le_refl _) hKd hDk hz hw h2 h3) (fun r m1 q => q) (fun m1 q => (q.1.2 _ (by omega)).1.1.trans hto)) ⟨by decide, by decide⟩ (by decide) (fun m1 h1 => ?_) (fun m1 h1 m2 h2 => ?_) hu (fun m1 h1 m2 h2 x5 x6 => K m2 ?_ x5 x6)
        · obtain ⟨m0, ⟨hH, hK⟩, rfl⟩ := h1
          have hM0 := hMd.hd hH hfz
          have ez : im (sJ m0 (d + 343) 0 (nI 4 - nI (hv (im m (d + 334 + 1)) w (X (i + 2)) 4) - nI (hv (im m (d + 334 + 1)) w (-1) 4)).toInt64) (d + 334 + 1) = im m (d + 334 + 1) := ((hH.2 _ (by omega)).2 (by omega)).1
          have e3 : im (sJ m0 (d + 343) 0 (nI 4 - nI (hv (im m (d + 334 + 1)) w (X (i + 2)) 4) - nI (hv (im m (d + 334 + 1)) w (-1) 4)).toInt64) (d + 334) 3 = nI k := (congrFun ((hH.2 (d + 334) (by omega)).2 (by omega)).1 3).trans hk3
          have q := cn_X10_rule_0 g (0, 0) (m := sJ m0 (d + 343) 0 (nI 4 - nI (hv (im m (d + 334 + 1)) w (X (i + 2)) 4) - nI (hv (im m (d + 334 + 1)) w (-1) 4)).toInt64) hM0 (n := k) e3 hk6 hw h2 (by rw [ez]; exact h3.1) (by rw [ez]; exact (hv_iff _ _ _ _).mpr h3.2)
          rw [ez] at q
          rw [rz_uu _ _ (im m (d + 334 + 1)) ((svI_ne _ _ _ (by omega) (by omega)).trans ((u2_o _ _ _ _ (by omega)).trans ez))] at q
          refine ⟨(hH.2 b (by omega)).1.1.trans hb, ((hH.2 b (by omega)).2 (by omega)).1.trans hX, hM0.t, ?_⟩
          rw [ew]; exact q
        · obtain ⟨m0, ⟨hH, hK⟩, rfl⟩ := h1
          obtain ⟨J, rfl, hJ⟩ := h2
          exact ⟨(show MdOk m0 (d + 334) from hMd.hd hH hfz), (hH.2 _ (by omega)).1.1.trans hto, at6 hJ, fun _ => u2_s _ _ _ _⟩
        · obtain ⟨m0, ⟨hH, hK⟩, e1⟩ := h1
          obtain ⟨J, e2, hJ⟩ := h2
          exact h.mutR hk3 hk5 hk6 hH hK (by have q := zi_term hzi (j := 32 + w) (by omega) ⟨Int32.le_trans (by decide) h2.1, h2.2⟩; rwa [show 24 + (32 + w) = 56 + w by omega] at q) e1 e2 hJ
      · skip
        refine op_rule g (c := 3) (v := nI 0) (cs := (1, 6)) (P := fun m1 => ∃ n, fz m ≤ n ∧ m1 = gr m n) (P2 := fun m1 m2 => ∃ J, m2 = wI m1 J ∧ sc (d + 334) (th m1 (d + 334) 3) J) hi hLs hb hX (by rw [ew]; exact hL_rule_x3 g hD.t (cx_X9_rule_3 g (0, 0) hD hR hz hw h2 h3)) ⟨by decide, by decide⟩ (by decide) (fun m1 h1 => ?_) (fun m1 h1 m2 h2 => ?_) hu (fun m1 h1 m2 h2 x5 x6 => K m2 ?_ x5 x6)
        · obtain ⟨n, hn, rfl⟩ := h1
          exact ⟨hb, hX, hMd.t, by rw [ew]; exact cn_X10_rule_3 g (0, 0) (m := gr m n) hMd hw h2 (fun q => h3 ⟨q.1, (hv_iff _ _ _ _).mp q.2⟩)⟩
        · obtain ⟨n, hn, rfl⟩ := h1
          obtain ⟨J, rfl, hJ⟩ := h2
          exact ⟨hMd, hto, (hJ _ _ (by unfold scr; omega)).trans (u2_s _ _ _ _), fun q => absurd q (by decide)⟩
        · obtain ⟨n, hn, rfl⟩ := h1
          obtain ⟨J, rfl, hJ⟩ := h2
          exact h.same (m1 := gr m n) hn rfl rfl rfl rfl rfl rfl hJ.B
    · skip
      refine op_rule g (c := 2) (v := nI 0) (cs := (1, 6)) (P := fun m1 => ∃ n, fz m ≤ n ∧ m1 = gr m n) (P2 := fun m1 m2 => ∃ J, m2 = wI m1 J ∧ sc (d + 334) (th m1 (d + 334) 2) J) hi hLs hb hX (by rw [ew]; exact hL_rule_x2 g hD.t (cx_X9_rule_2 g (0, 0) hD hR hz hw h2)) ⟨by decide, by decide⟩ (by decide) (fun m1 h1 => ?_) (fun m1 h1 m2 h2 => ?_) hu (fun m1 h1 m2 h2 x5 x6 => K m2 ?_ x5 x6)
      · obtain ⟨n, hn, rfl⟩ := h1
        exact ⟨hb, hX, hMd.t, by rw [ew]; exact cn_X10_rule_2 g (0, 0) (m := gr m n) hMd hw h2⟩
      · obtain ⟨n, hn, rfl⟩ := h1
        obtain ⟨J, rfl, hJ⟩ := h2
        exact ⟨hMd, hto, (hJ _ _ (by unfold scr; omega)).trans (u2_s _ _ _ _), fun q => absurd q (by decide)⟩
      · obtain ⟨n, hn, rfl⟩ := h1
        obtain ⟨J, rfl, hJ⟩ := h2
        exact h.same (m1 := gr m n) hn rfl rfl rfl rfl rfl rfl hJ.B
  · skip
    refine op_rule g (c := 1) (v := nI 0) (cs := (1, 6)) (P := fun m1 => ∃ n, fz m ≤ n ∧ m1 = gr m n) (P2 := fun m1 m2 => ∃ J, m2 = wI m1 J ∧ sc (d + 334) (th m1 (d + 334) 1) J) hi hLs hb hX (hL_rule_x1 g hD.t (cx_X9_rule_1 g (0, 0) hD hR hz h1)) ⟨by decide, by decide⟩ (by decide) (fun m1 h1 => ?_) (fun m1 h1 m2 h2 => ?_) hu (fun m1 h1 m2 h2 x5 x6 => K m2 ?_ x5 x6)
    · obtain ⟨n, hn, rfl⟩ := h1
      exact ⟨hb, hX, hMd.t, cn_X10_rule_1 g (0, 0) (m := gr m n) hMd h1⟩
    · obtain ⟨n, hn, rfl⟩ := h1
      obtain ⟨J, rfl, hJ⟩ := h2
      exact ⟨hMd, hto, (hJ _ _ (by unfold scr; omega)).trans (u2_s _ _ _ _), fun q => absurd q (by decide)⟩
    · obtain ⟨n, hn, rfl⟩ := h1
      obtain ⟨J, rfl, hJ⟩ := h2
      exact h.same (m1 := gr m n) hn rfl rfl rfl rfl rfl rfl hJ.B
theorem it_set (g : Gp) {m : Mm} {d b Ls c i : Nat} {X : Nat → Int32} {u : Nat × Nat} {Q : Rs → Mm → Prop} (h : LI g m d b Ls X c) (hc : c < 512) (hi : i + 4 ≤ Ls) (hLs : Ls ≤ 2048) (hu : u.1 + 30 ≤ lw_rc ∧ u.2 + 230 ≤ lw_rs)
    (K : ∀ m2, LI g m2 d b Ls X (c + 1) → ∀ x5 x6 : Int32, G g ML_law Q 1834 [(6, .int x6), (5, .int x5), (4, .int (nI i)), (3, .ref (d + 343)), (2, .ref (d + 334)), (1, .ref d), (0, .ref b)] [] (u.1 + 30, u.2 + 230) m2) : G g ML_law Q 304 [(4, .int (nI i)), (3, .ref (d + 343)), (2, .ref (d + 334)), (1, .ref d), (0, .ref b)] [] u m := by
  obtain ⟨k, kb, ⟨hb, hX, hbd⟩, hto, hMd, hKd, hfz, hDk, hk3, hk5, hzi, hk6, hzx⟩ := id h
  obtain ⟨hD, hR, hV, hl, hkb, hf⟩ := id hDk
  have hz := hzi.1
  by_cases h1 : inb (X (i + 1)) 2
  · obtain ⟨j, hj, ej⟩ := inb_of h1 (by decide)
    rcases (show j = 0 ∨ j = 1 by omega) with rfl | rfl
    · by_cases h2 : nI 0 ≤ X (i + 2) ∧ X (i + 2) ≤ nI 100
      · skip
        refine op_set g (c := 0) (v := (im m (d + 334 + 1)) 2) (cs := (0, 0)) (P := fun m1 => ∃ m0, (Hd m m0 d ∧ DkV m0 d (d + 344) c (sk k) kb (u1 (im m (d + 334 + 1)) 2 (X (i + 2))) (svR k (im m (d + 334 + 1)) (fun i j => im m (d + 334 + 2) (689 * i + j))) (im m (d + 334 + 4))) ∧ m1 = sJ m0 (d + 343) 0 ((im m (d + 334 + 1)) 2).toInt64) (P2 := fun m1 m2 => ∃ J, m2 = wI m1 J ∧ sc (d + 334) (rz (svI (th m1 (d + 334) 0) (d + 334) k) (d + 334 + 1) (u1 (im m (d + 334 + 1)) 2 (X (i + 2)))) J) hi hLs hb hX (by rw [ej]; exact hL_set_0 g (0, 0) hD.t (cn_X9_set0 g (0, 0) (Nat.le_refl _) hKd hDk hz h2) (fun r m1 q => q) (fun m1 q => (q.1.2 _ (by omega)).1.1.trans hto)) ⟨by decide, by decide⟩ (by decide) (fun m1 h1 => ?_) (fun m1 h1 m2 h2 => ?_) hu (fun m1 h1 m2 h2 x5 x6 => K m2 ?_ x5 x6)
        · obtain ⟨m0, ⟨hH, hK⟩, rfl⟩ := h1
          have hM0 := hMd.hd hH hfz
          have ez : im (sJ m0 (d + 343) 0 ((im m (d + 334 + 1)) 2).toInt64) (d + 334 + 1) = im m (d + 334 + 1) := ((hH.2 _ (by omega)).2 (by omega)).1
          have e3 : im (sJ m0 (d + 343) 0 ((im m (d + 334 + 1)) 2).toInt64) (d + 334) 3 = nI k := (congrFun ((hH.2 (d + 334) (by omega)).2 (by omega)).1 3).trans hk3
          have q := cn_X10_set_00 g (0, 0) (m := sJ m0 (d + 343) 0 ((im m (d + 334 + 1)) 2).toInt64) hM0 (n := k) e3 hk6 h2
          rw [ez] at q
          rw [rz_uu _ _ (im m (d + 334 + 1)) ((svI_ne _ _ _ (by omega) (by omega)).trans ((u2_o _ _ _ _ (by omega)).trans ez))] at q
          refine ⟨(hH.2 b (by omega)).1.1.trans hb, ((hH.2 b (by omega)).2 (by omega)).1.trans hX, hM0.t, ?_⟩
          rw [ej]; exact q
        · obtain ⟨m0, ⟨hH, hK⟩, rfl⟩ := h1
          obtain ⟨J, rfl, hJ⟩ := h2
          exact ⟨(show MdOk m0 (d + 334) from hMd.hd hH hfz), (hH.2 _ (by omega)).1.1.trans hto, at6 hJ, fun _ => u2_s _ _ _ _⟩
        · obtain ⟨m0, ⟨hH, hK⟩, e1⟩ := h1
          obtain ⟨J, e2, hJ⟩ := h2
          exact h.mutR hk3 hk5 hk6 hH hK (zi_set0 hzi h2) e1 e2 hJ
      · skip
        refine op_set g (c := 2) (v := nI 0) (cs := (1, 6)) (P := fun m1 => ∃ n, fz m ≤ n ∧ m1 = gr m n) (P2 := fun m1 m2 => ∃ J, m2 = wI m1 J ∧ sc (d + 334) (th m1 (d + 334) 2) J) hi hLs hb hX (by rw [ej]; exact hL_set_x2 g hD.t (cx_X9_set_20 g (0, 0) hD hR hz hKd.1 h2)) ⟨by decide, by decide⟩ (by decide) (fun m1 h1 => ?_) (fun m1 h1 m2 h2 => ?_) hu (fun m1 h1 m2 h2 x5 x6 => K m2 ?_ x5 x6)
        · obtain ⟨n, hn, rfl⟩ := h1
          exact ⟨hb, hX, hMd.t, by rw [ej]; exact cn_X10_set_20 g (0, 0) (m := gr m n) hMd h2⟩
        · obtain ⟨n, hn, rfl⟩ := h1
          obtain ⟨J, rfl, hJ⟩ := h2
          exact ⟨hMd, hto, (hJ _ _ (by unfold scr; omega)).trans (u2_s _ _ _ _), fun q => absurd q (by decide)⟩
        · obtain ⟨n, hn, rfl⟩ := h1
          obtain ⟨J, rfl, hJ⟩ := h2
          exact h.same (m1 := gr m n) hn rfl rfl rfl rfl rfl rfl hJ.B
    · by_cases h2 : nI 0 ≤ X (i + 2) ∧ X (i + 2) ≤ nI 200
      · skip
        refine op_set g (c := 0) (v := (im m (d + 334 + 1)) 3) (cs := (0, 0)) (P := fun m1 => ∃ m0, (Hd m m0 d ∧ DkV m0 d (d + 344) c (sk k) kb (u1 (im m (d + 334 + 1)) 3 (X (i + 2))) (svR k (im m (d + 334 + 1)) (fun i j => im m (d + 334 + 2) (689 * i + j))) (im m (d + 334 + 4))) ∧ m1 = sJ m0 (d + 343) 0 ((im m (d + 334 + 1)) 3).toInt64) (P2 := fun m1 m2 => ∃ J, m2 = wI m1 J ∧ sc (d + 334) (rz (svI (th m1 (d + 334) 0) (d + 334) k) (d + 334 + 1) (u1 (im m (d + 334 + 1)) 3 (X (i + 2)))) J) hi hLs hb hX (by rw [ej]; exact hL_set_0 g (0, 0) hD.t (cn_X9_set1 g (0, 0) (Nat.le_refl _) hKd hDk hz h2) (fun r m1 q => q) (fun m1 q => (q.1.2 _ (by omega)).1.1.trans hto)) ⟨by decide, by decide⟩ (by decide) (fun m1 h1 => ?_) (fun m1 h1 m2 h2 => ?_) hu (fun m1 h1 m2 h2 x5 x6 => K m2 ?_ x5 x6)
        · obtain ⟨m0, ⟨hH, hK⟩, rfl⟩ := h1
          have hM0 := hMd.hd hH hfz
          have ez : im (sJ m0 (d + 343) 0 ((im m (d + 334 + 1)) 3).toInt64) (d + 334 + 1) = im m (d + 334 + 1) := ((hH.2 _ (by omega)).2 (by omega)).1
          have e3 : im (sJ m0 (d + 343) 0 ((im m (d + 334 + 1)) 3).toInt64) (d + 334) 3 = nI k := (congrFun ((hH.2 (d + 334) (by omega)).2 (by omega)).1 3).trans hk3
          have q := cn_X10_set_01 g (0, 0) (m := sJ m0 (d + 343) 0 ((im m (d + 334 + 1)) 3).toInt64) hM0 (n := k) e3 hk6 h2
          rw [ez] at q
          rw [rz_uu _ _ (im m (d + 334 + 1)) ((svI_ne _ _ _ (by omega) (by omega)).trans ((u2_o _ _ _ _ (by omega)).trans ez))] at q
          refine ⟨(hH.2 b (by omega)).1.1.trans hb, ((hH.2 b (by omega)).2 (by omega)).1.trans hX, hM0.t, ?_⟩
          rw [ej]; exact q
        · obtain ⟨m0, ⟨hH, hK⟩, rfl⟩ := h1
          obtain ⟨J, rfl, hJ⟩ := h2
          exact ⟨(show MdOk m0 (d + 334) from hMd.hd hH hfz), (hH.2 _ (by omega)).1.1.trans hto, at6 hJ, fun _ => u2_s _ _ _ _⟩
        · obtain ⟨m0, ⟨hH, hK⟩, e1⟩ := h1
          obtain ⟨J, e2, hJ⟩ := h2
          exact h.mutR hk3 hk5 hk6 hH hK (zi_set1 hzi h2) e1 e2 hJ
      · skip
        refine op_set g (c := 2) (v := nI 0) (cs := (1, 6)) (P := fun m1 => ∃ n, fz m ≤ n ∧ m1 = gr m n) (P2 := fun m1 m2 => ∃ J, m2 = wI m1 J ∧ sc (d + 334) (th m1 (d + 334) 2) J) hi hLs hb hX (by rw [ej]; exact hL_set_x2 g hD.t (cx_X9_set_21 g (0, 0) hD hR hz hKd.1 h2)) ⟨by decide, by decide⟩ (by decide) (fun m1 h1 => ?_) (fun m1 h1 m2 h2 => ?_) hu (fun m1 h1 m2 h2 x5 x6 => K m2 ?_ x5 x6)
        · obtain ⟨n, hn, rfl⟩ := h1
          exact ⟨hb, hX, hMd.t, by rw [ej]; exact cn_X10_set_21 g (0, 0) (m := gr m n) hMd h2⟩
        · obtain ⟨n, hn, rfl⟩ := h1
          obtain ⟨J, rfl, hJ⟩ := h2
          exact ⟨hMd, hto, (hJ _ _ (by unfold scr; omega)).trans (u2_s _ _ _ _), fun q => absurd q (by decide)⟩
        · obtain ⟨n, hn, rfl⟩ := h1
          obtain ⟨J, rfl, hJ⟩ := h2
          exact h.same (m1 := gr m n) hn rfl rfl rfl rfl rfl rfl hJ.B
  · skip
    refine op_set g (c := 1) (v := nI 0) (cs := (1, 6)) (P := fun m1 => ∃ n, fz m ≤ n ∧ m1 = gr m n) (P2 := fun m1 m2 => ∃ J, m2 = wI m1 J ∧ sc (d + 334) (th m1 (d + 334) 1) J) hi hLs hb hX (hL_set_x1 g hD.t (cx_X9_set_1 g (0, 0) hD hR hz h1)) ⟨by decide, by decide⟩ (by decide) (fun m1 h1 => ?_) (fun m1 h1 m2 h2 => ?_) hu (fun m1 h1 m2 h2 x5 x6 => K m2 ?_ x5 x6)
    · obtain ⟨n, hn, rfl⟩ := h1
      exact ⟨hb, hX, hMd.t, cn_X10_set_1 g (0, 0) (m := gr m n) hMd h1⟩
    · obtain ⟨n, hn, rfl⟩ := h1
      obtain ⟨J, rfl, hJ⟩ := h2
      exact ⟨hMd, hto, (hJ _ _ (by unfold scr; omega)).trans (u2_s _ _ _ _), fun q => absurd q (by decide)⟩
    · obtain ⟨n, hn, rfl⟩ := h1
      obtain ⟨J, rfl, hJ⟩ := h2
      exact h.same (m1 := gr m n) hn rfl rfl rfl rfl rfl rfl hJ.B
