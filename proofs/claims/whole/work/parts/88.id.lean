/-! THE LAW: assigning, delivering, revising -/
theorem it_assign (g : Gp) {m : Mm} {d b Ls c i : Nat} {X : Nat → Int32} {u : Nat × Nat} {Q : Rs → Mm → Prop} (h : LI g m d b Ls X c) (hc : c < 512) (hi : i + 4 ≤ Ls) (hLs : Ls ≤ 2048) (hu : u.1 + 30 ≤ lw_rc ∧ u.2 + 230 ≤ lw_rs)
    (K : ∀ m2, LI g m2 d b Ls X (c + 1) → ∀ x5 x6 : Int32, G g ML_law Q 1834 [(6, .int x6), (5, .int x5), (4, .int (nI i)), (3, .ref (d + 343)), (2, .ref (d + 334)), (1, .ref d), (0, .ref b)] [] (u.1 + 30, u.2 + 230) m2) : G g ML_law Q 372 [(4, .int (nI i)), (3, .ref (d + 343)), (2, .ref (d + 334)), (1, .ref d), (0, .ref b)] [] u m := by
  obtain ⟨k, kb, ⟨hb, hX, hbd⟩, hto, hMd, hKd, hfz, hDk, hk3, hk5, hzi, hk6, hzx⟩ := id h
  obtain ⟨hD, hR, hV, hl, hkb, hf⟩ := id hDk
  have hz := hzi.1
  have hn09 := hz.n0.hi
  have hn19 := hz.n1.hi
  by_cases h1 : inb (X (i + 1)) (nv ((im m (d + 334 + 1)) 0))
  · obtain ⟨s, hs, es⟩ := inb_of h1 (by omega)
    by_cases h2 : inb (X (i + 2)) 4
    · obtain ⟨t, ht, et⟩ := inb_of h2 (by decide)
      by_cases h3 : (im m (d + 334 + 1)) (79 + 22 * s + 1) = 0
      · skip
        refine op_assign g (c := 0) (v := nI (bandOf (mtc (u1 (u1 (im m (d + 334 + 1)) (79 + 22 * s + 1) (nI 1)) (79 + 22 * s + 2) (nI t)) (79 + 22 * s)))) (cs := (0, 0)) (P := fun m1 => ∃ m0, (Hd m m0 d ∧ DkV m0 d (d + 344) c (sk k) kb (asZ (im m (d + 334 + 1)) s t) (svR k (im m (d + 334 + 1)) (fun i j => im m (d + 334 + 2) (689 * i + j))) (im m (d + 334 + 4))) ∧ m1 = sJ m0 (d + 343) 0 (nI (bandOf (mtc (u1 (u1 (im m (d + 334 + 1)) (79 + 22 * s + 1) (nI 1)) (79 + 22 * s + 2) (nI t)) (79 + 22 * s)))).toInt64) (P2 := fun m1 m2 => ∃ J, m2 = wI m1 J ∧ sc (d + 334) (rz (svI (th m1 (d + 334) 0) (d + 334) k) (d + 334 + 1) (asZ (im m (d + 334 + 1)) s t)) J) hi hLs hb hX (by rw [es, et]; exact hL_assign_0 g (0, 0) hD.t (cn_X9_assign g (0, 0) (Nat.le_refl _) hKd hDk hz hs ht h3) (fun r m1 q => q) (fun m1 q => (q.1.2 _ (by omega)).1.1.trans hto)) ⟨by decide, by decide⟩ (by decide) (fun m1 h1 => ?_) (fun m1 h1 m2 h2 => ?_) hu (fun m1 h1 m2 h2 x5 x6 => K m2 ?_ x5 x6)
        · obtain ⟨m0, ⟨hH, hK⟩, rfl⟩ := h1
          have hM0 := hMd.hd hH hfz
          have ez : im (sJ m0 (d + 343) 0 (nI (bandOf (mtc (u1 (u1 (im m (d + 334 + 1)) (79 + 22 * s + 1) (nI 1)) (79 + 22 * s + 2) (nI t)) (79 + 22 * s)))).toInt64) (d + 334 + 1) = im m (d + 334 + 1) := ((hH.2 _ (by omega)).2 (by omega)).1
          have e3 : im (sJ m0 (d + 343) 0 (nI (bandOf (mtc (u1 (u1 (im m (d + 334 + 1)) (79 + 22 * s + 1) (nI 1)) (79 + 22 * s + 2) (nI t)) (79 + 22 * s)))).toInt64) (d + 334) 3 = nI k := (congrFun ((hH.2 (d + 334) (by omega)).2 (by omega)).1 3).trans hk3
          have q := cn_X10_assign_0 g (0, 0) (m := sJ m0 (d + 343) 0 (nI (bandOf (mtc (u1 (u1 (im m (d + 334 + 1)) (79 + 22 * s + 1) (nI 1)) (79 + 22 * s + 2) (nI t)) (79 + 22 * s)))).toInt64) hM0 (N := nv ((im m (d + 334 + 1)) 0)) (by rw [ez]; exact hz.n0.e) hz.n0.hi hs (by rw [ez]; exact hz.row hs) (by rw [ez]; exact hz.n1) (by rw [ez]; exact fun r hr => (hz.mem hr).1) (n := k) e3 hk6 ht (by rw [ez]; exact h3)
          rw [ez] at q
          skip
          refine ⟨(hH.2 b (by omega)).1.1.trans hb, ((hH.2 b (by omega)).2 (by omega)).1.trans hX, hM0.t, ?_⟩
          rw [es, et]; exact q
        · obtain ⟨m0, ⟨hH, hK⟩, rfl⟩ := h1
          obtain ⟨J, rfl, hJ⟩ := h2
          exact ⟨(show MdOk m0 (d + 334) from hMd.hd hH hfz), (hH.2 _ (by omega)).1.1.trans hto, at6 hJ, fun _ => u2_s _ _ _ _⟩
        · obtain ⟨m0, ⟨hH, hK⟩, e1⟩ := h1
          obtain ⟨J, e2, hJ⟩ := h2
          exact h.mutR hk3 hk5 hk6 hH hK ((zi_as hzi hs ht h3).up) e1 e2 hJ
      · skip
        refine op_assign g (c := 2) (v := nI 0) (cs := (1, 6)) (P := fun m1 => ∃ n, fz m ≤ n ∧ m1 = gr m n) (P2 := fun m1 m2 => ∃ J, m2 = wI m1 J ∧ sc (d + 334) (th m1 (d + 334) 2) J) hi hLs hb hX (by rw [es, et]; exact hL_assign_x2 g hD.t (cx_X9_assign_3 g (0, 0) hD hR hz hs ht h3)) ⟨by decide, by decide⟩ (by decide) (fun m1 h1 => ?_) (fun m1 h1 m2 h2 => ?_) hu (fun m1 h1 m2 h2 x5 x6 => K m2 ?_ x5 x6)
        · obtain ⟨n, hn, rfl⟩ := h1
          exact ⟨hb, hX, hMd.t, by rw [es, et]; exact cn_X10_assign_2 g (0, 0) (m := gr m n) hMd (N := nv ((im m (d + 334 + 1)) 0)) hz.n0.e hz.n0.hi hs ht h3⟩
        · obtain ⟨n, hn, rfl⟩ := h1
          obtain ⟨J, rfl, hJ⟩ := h2
          exact ⟨hMd, hto, (hJ _ _ (by unfold scr; omega)).trans (u2_s _ _ _ _), fun q => absurd q (by decide)⟩
        · obtain ⟨n, hn, rfl⟩ := h1
          obtain ⟨J, rfl, hJ⟩ := h2
          exact h.same (m1 := gr m n) hn rfl rfl rfl rfl rfl rfl hJ.B
    · skip
      refine op_assign g (c := 1) (v := nI 0) (cs := (1, 6)) (P := fun m1 => ∃ n, fz m ≤ n ∧ m1 = gr m n) (P2 := fun m1 m2 => ∃ J, m2 = wI m1 J ∧ sc (d + 334) (th m1 (d + 334) 1) J) hi hLs hb hX (by rw [es]; exact hL_assign_x1 g hD.t (cx_X9_assign_11 g (0, 0) hD hR hz hs h2)) ⟨by decide, by decide⟩ (by decide) (fun m1 h1 => ?_) (fun m1 h1 m2 h2 => ?_) hu (fun m1 h1 m2 h2 x5 x6 => K m2 ?_ x5 x6)
      · obtain ⟨n, hn, rfl⟩ := h1
        exact ⟨hb, hX, hMd.t, by rw [es]; exact cn_X10_assign_1 g (0, 0) (m := gr m n) hMd (N := nv ((im m (d + 334 + 1)) 0)) hz.n0.e hz.n0.hi (fun q => h2 q.2)⟩
      · obtain ⟨n, hn, rfl⟩ := h1
        obtain ⟨J, rfl, hJ⟩ := h2
        exact ⟨hMd, hto, (hJ _ _ (by unfold scr; omega)).trans (u2_s _ _ _ _), fun q => absurd q (by decide)⟩
      · obtain ⟨n, hn, rfl⟩ := h1
        obtain ⟨J, rfl, hJ⟩ := h2
        exact h.same (m1 := gr m n) hn rfl rfl rfl rfl rfl rfl hJ.B
  · skip
    refine op_assign g (c := 1) (v := nI 0) (cs := (1, 6)) (P := fun m1 => ∃ n, fz m ≤ n ∧ m1 = gr m n) (P2 := fun m1 m2 => ∃ J, m2 = wI m1 J ∧ sc (d + 334) (th m1 (d + 334) 1) J) hi hLs hb hX (hL_assign_x1 g hD.t (cx_X9_assign_1 g (0, 0) hD hR hz h1)) ⟨by decide, by decide⟩ (by decide) (fun m1 h1 => ?_) (fun m1 h1 m2 h2 => ?_) hu (fun m1 h1 m2 h2 x5 x6 => K m2 ?_ x5 x6)
    · obtain ⟨n, hn, rfl⟩ := h1
      exact ⟨hb, hX, hMd.t, cn_X10_assign_1 g (0, 0) (m := gr m n) hMd (N := nv ((im m (d + 334 + 1)) 0)) hz.n0.e hz.n0.hi (fun q => h1 q.1)⟩
    · obtain ⟨n, hn, rfl⟩ := h1
      obtain ⟨J, rfl, hJ⟩ := h2
      exact ⟨hMd, hto, (hJ _ _ (by unfold scr; omega)).trans (u2_s _ _ _ _), fun q => absurd q (by decide)⟩
    · obtain ⟨n, hn, rfl⟩ := h1
      obtain ⟨J, rfl, hJ⟩ := h2
      exact h.same (m1 := gr m n) hn rfl rfl rfl rfl rfl rfl hJ.B
theorem it_deliver (g : Gp) {m : Mm} {d b Ls c i : Nat} {X : Nat → Int32} {u : Nat × Nat} {Q : Rs → Mm → Prop} (h : LI g m d b Ls X c) (hc : c < 512) (hi : i + 4 ≤ Ls) (hLs : Ls ≤ 2048) (hu : u.1 + 30 ≤ lw_rc ∧ u.2 + 230 ≤ lw_rs)
    (K : ∀ m2, LI g m2 d b Ls X (c + 1) → ∀ x5 x6 : Int32, G g ML_law Q 1834 [(6, .int x6), (5, .int x5), (4, .int (nI i)), (3, .ref (d + 343)), (2, .ref (d + 334)), (1, .ref d), (0, .ref b)] [] (u.1 + 30, u.2 + 230) m2) : G g ML_law Q 440 [(4, .int (nI i)), (3, .ref (d + 343)), (2, .ref (d + 334)), (1, .ref d), (0, .ref b)] [] u m := by
  obtain ⟨k, kb, ⟨hb, hX, hbd⟩, hto, hMd, hKd, hfz, hDk, hk3, hk5, hzi, hk6, hzx⟩ := id h
  obtain ⟨hD, hR, hV, hl, hkb, hf⟩ := id hDk
  have hz := hzi.1
  have hn09 := hz.n0.hi
  have hn19 := hz.n1.hi
  by_cases h1 : inb (X (i + 1)) (nv ((im m (d + 334 + 1)) 0))
  · obtain ⟨s, hs, es⟩ := inb_of h1 (by omega)
    have ht3 := (hz.S2 hs).hi
    have hb4 := (hz.S3 hs).hi
    by_cases h3 : (im m (d + 334 + 1)) (79 + 22 * s + 1) = nI 1 ∧ ¬ hdp (im m (d + 334 + 1)) (79 + 22 * s)
    · skip
      refine op_deliver g (c := 0) (v := payV (im m (d + 334 + 1)) (79 + 22 * s) (nv ((im m (d + 334 + 1)) (79 + 22 * s + 2))) ((im m (d + 334 + 1)) (79 + 22 * s + 4))) (cs := (0, 0)) (P := fun m1 => ∃ m0, (Hd m m0 d ∧ DkV m0 d (d + 344) c (sk k) kb (dlZ (im m (d + 334 + 1)) s (nv ((im m (d + 334 + 1)) (79 + 22 * s + 2))) (nv ((im m (d + 334 + 1)) (79 + 22 * s + 3))) (payV (im m (d + 334 + 1)) (79 + 22 * s) (nv ((im m (d + 334 + 1)) (79 + 22 * s + 2))) ((im m (d + 334 + 1)) (79 + 22 * s + 4)))) (svR k (im m (d + 334 + 1)) (fun i j => im m (d + 334 + 2) (689 * i + j))) (im m (d + 334 + 4))) ∧ m1 = sJ m0 (d + 343) 0 (payV (im m (d + 334 + 1)) (79 + 22 * s) (nv ((im m (d + 334 + 1)) (79 + 22 * s + 2))) ((im m (d + 334 + 1)) (79 + 22 * s + 4))).toInt64) (P2 := fun m1 m2 => ∃ J, m2 = wI m1 J ∧ sc (d + 334) (rz (svI (th m1 (d + 334) 0) (d + 334) k) (d + 334 + 1) (dlZ (im m (d + 334 + 1)) s (nv ((im m (d + 334 + 1)) (79 + 22 * s + 2))) (nv ((im m (d + 334 + 1)) (79 + 22 * s + 3))) (payV (im m (d + 334 + 1)) (79 + 22 * s) (nv ((im m (d + 334 + 1)) (79 + 22 * s + 2))) ((im m (d + 334 + 1)) (79 + 22 * s + 4))))) J) hi hLs hb hX (by rw [es]; exact hL_deliver_0 g (0, 0) hD.t (cn_X9_deliver g (0, 0) (Nat.le_refl _) hKd hDk hz hs h3) (fun r m1 q => q) (fun m1 q => (q.1.2 _ (by omega)).1.1.trans hto)) ⟨by decide, by decide⟩ (by decide) (fun m1 h1 => ?_) (fun m1 h1 m2 h2 => ?_) hu (fun m1 h1 m2 h2 x5 x6 => K m2 ?_ x5 x6)
      · obtain ⟨m0, ⟨hH, hK⟩, rfl⟩ := h1
        have hM0 := hMd.hd hH hfz
        have ez : im (sJ m0 (d + 343) 0 (payV (im m (d + 334 + 1)) (79 + 22 * s) (nv ((im m (d + 334 + 1)) (79 + 22 * s + 2))) ((im m (d + 334 + 1)) (79 + 22 * s + 4))).toInt64) (d + 334 + 1) = im m (d + 334 + 1) := ((hH.2 _ (by omega)).2 (by omega)).1
        have e3 : im (sJ m0 (d + 343) 0 (payV (im m (d + 334 + 1)) (79 + 22 * s) (nv ((im m (d + 334 + 1)) (79 + 22 * s + 2))) ((im m (d + 334 + 1)) (79 + 22 * s + 4))).toInt64) (d + 334) 3 = nI k := (congrFun ((hH.2 (d + 334) (by omega)).2 (by omega)).1 3).trans hk3
        have q := cn_X10_deliver_0 g (0, 0) (m := sJ m0 (d + 343) 0 (payV (im m (d + 334 + 1)) (79 + 22 * s) (nv ((im m (d + 334 + 1)) (79 + 22 * s + 2))) ((im m (d + 334 + 1)) (79 + 22 * s + 4))).toInt64) hM0 (N := nv ((im m (d + 334 + 1)) 0)) (by rw [ez]; exact hz.n0.e) hz.n0.hi hs (by rw [ez]; exact hz.row hs) (by rw [ez]; exact hz.n1) (by rw [ez]; exact fun r hr => (hz.mem hr).1) (n := k) e3 hk6 (by rw [ez]; exact h3.1) (by rw [ez]; exact h3.2) (by rw [ez]; exact hz.S2 hs) (by rw [ez]; exact hz.S3 hs)
        rw [ez] at q
        skip
        refine ⟨(hH.2 b (by omega)).1.1.trans hb, ((hH.2 b (by omega)).2 (by omega)).1.trans hX, hM0.t, ?_⟩
        rw [es]; exact q
      · obtain ⟨m0, ⟨hH, hK⟩, rfl⟩ := h1
        obtain ⟨J, rfl, hJ⟩ := h2
        exact ⟨(show MdOk m0 (d + 334) from hMd.hd hH hfz), (hH.2 _ (by omega)).1.1.trans hto, at6 hJ, fun _ => u2_s _ _ _ _⟩
      · obtain ⟨m0, ⟨hH, hK⟩, e1⟩ := h1
        obtain ⟨J, e2, hJ⟩ := h2
        exact h.mutR hk3 hk5 hk6 hH hK (zi_dl hzi (by omega) hs (by omega) (by omega) h3.1 (hz.S2 hs).e (pay_r hzi hs (by omega) (hz.S4 hs))) e1 e2 hJ
    · skip
      refine op_deliver g (c := 2) (v := nI 0) (cs := (1, 6)) (P := fun m1 => ∃ n, fz m ≤ n ∧ m1 = gr m n) (P2 := fun m1 m2 => ∃ J, m2 = wI m1 J ∧ sc (d + 334) (th m1 (d + 334) 2) J) hi hLs hb hX (by rw [es]; exact hL_deliver_x2 g hD.t (cx_X9_deliver_3 g (0, 0) hD hR hz hs h3)) ⟨by decide, by decide⟩ (by decide) (fun m1 h1 => ?_) (fun m1 h1 m2 h2 => ?_) hu (fun m1 h1 m2 h2 x5 x6 => K m2 ?_ x5 x6)
      · obtain ⟨n, hn, rfl⟩ := h1
        exact ⟨hb, hX, hMd.t, by rw [es]; exact cn_X10_deliver_2 g (0, 0) (m := gr m n) hMd (N := nv ((im m (d + 334 + 1)) 0)) hz.n0.e hz.n0.hi hs (hz.row hs) hz.n1 (fun r hr => (hz.mem hr).1) h3⟩
      · obtain ⟨n, hn, rfl⟩ := h1
        obtain ⟨J, rfl, hJ⟩ := h2
        exact ⟨hMd, hto, (hJ _ _ (by unfold scr; omega)).trans (u2_s _ _ _ _), fun q => absurd q (by decide)⟩
      · obtain ⟨n, hn, rfl⟩ := h1
        obtain ⟨J, rfl, hJ⟩ := h2
        exact h.same (m1 := gr m n) hn rfl rfl rfl rfl rfl rfl hJ.B
  · skip
    refine op_deliver g (c := 1) (v := nI 0) (cs := (1, 6)) (P := fun m1 => ∃ n, fz m ≤ n ∧ m1 = gr m n) (P2 := fun m1 m2 => ∃ J, m2 = wI m1 J ∧ sc (d + 334) (th m1 (d + 334) 1) J) hi hLs hb hX (hL_deliver_x1 g hD.t (cx_X9_deliver_1 g (0, 0) hD hR hz h1)) ⟨by decide, by decide⟩ (by decide) (fun m1 h1 => ?_) (fun m1 h1 m2 h2 => ?_) hu (fun m1 h1 m2 h2 x5 x6 => K m2 ?_ x5 x6)
    · obtain ⟨n, hn, rfl⟩ := h1
      exact ⟨hb, hX, hMd.t, cn_X10_deliver_1 g (0, 0) (m := gr m n) hMd (N := nv ((im m (d + 334 + 1)) 0)) hz.n0.e hz.n0.hi h1⟩
    · obtain ⟨n, hn, rfl⟩ := h1
      obtain ⟨J, rfl, hJ⟩ := h2
      exact ⟨hMd, hto, (hJ _ _ (by unfold scr; omega)).trans (u2_s _ _ _ _), fun q => absurd q (by decide)⟩
    · obtain ⟨n, hn, rfl⟩ := h1
      obtain ⟨J, rfl, hJ⟩ := h2
      exact h.same (m1 := gr m n) hn rfl rfl rfl rfl rfl rfl hJ.B
theorem it_revise (g : Gp) {m : Mm} {d b Ls c i : Nat} {X : Nat → Int32} {u : Nat × Nat} {Q : Rs → Mm → Prop} (h : LI g m d b Ls X c) (hc : c < 512) (hi : i + 4 ≤ Ls) (hLs : Ls ≤ 2048) (hu : u.1 + 30 ≤ lw_rc ∧ u.2 + 230 ≤ lw_rs)
    (K : ∀ m2, LI g m2 d b Ls X (c + 1) → ∀ x5 x6 : Int32, G g ML_law Q 1834 [(6, .int x6), (5, .int x5), (4, .int (nI i)), (3, .ref (d + 343)), (2, .ref (d + 334)), (1, .ref d), (0, .ref b)] [] (u.1 + 30, u.2 + 230) m2) : G g ML_law Q 496 [(4, .int (nI i)), (3, .ref (d + 343)), (2, .ref (d + 334)), (1, .ref d), (0, .ref b)] [] u m := by
  obtain ⟨k, kb, ⟨hb, hX, hbd⟩, hto, hMd, hKd, hfz, hDk, hk3, hk5, hzi, hk6, hzx⟩ := id h
  obtain ⟨hD, hR, hV, hl, hkb, hf⟩ := id hDk
  have hz := hzi.1
  have hn09 := hz.n0.hi
  have hn19 := hz.n1.hi
  by_cases h1 : inb (X (i + 1)) (nv ((im m (d + 334 + 1)) 0))
  · obtain ⟨s, hs, es⟩ := inb_of h1 (by omega)
    have hw12 := (hz.row hs).1.hi
    have ht3 := (hz.S2 hs).hi
    by_cases h2 : inb (X (i + 2)) 4
    · obtain ⟨t, ht, et⟩ := inb_of h2 (by decide)
      by_cases h3 : nI 0 ≤ X (i + 3) ∧ X (i + 3) ≤ nI (nv ((im m (d + 334 + 1)) (79 + 22 * s)))
      · have hy : NR (X (i + 3)) 0 12 := (NR.of h3.1 h3.2 (by omega) (by decide)).up hw12
        by_cases h4 : (im m (d + 334 + 1)) (79 + 22 * s + 1) = nI 2 ∧ ¬ (im m (d + 334 + 1)) (79 + 22 * s + 2) = nI t
        · skip
          refine op_revise g (c := 0) (v := (im m (d + 334 + 1)) (79 + 22 * s + 5) - lsV (im m (d + 334 + 1)) (79 + 22 * s) (X (i + 3))) (cs := (0, 0)) (P := fun m1 => ∃ m0, (Hd m m0 d ∧ DkV m0 d (d + 344) c (sk k) kb (rvZ (im m (d + 334 + 1)) s t (nv ((im m (d + 334 + 1)) (79 + 22 * s + 2))) (X (i + 3)) (lsV (im m (d + 334 + 1)) (79 + 22 * s) (X (i + 3)))) (svR k (im m (d + 334 + 1)) (fun i j => im m (d + 334 + 2) (689 * i + j))) (im m (d + 334 + 4))) ∧ m1 = sJ m0 (d + 343) 0 ((im m (d + 334 + 1)) (79 + 22 * s + 5) - lsV (im m (d + 334 + 1)) (79 + 22 * s) (X (i + 3))).toInt64) (P2 := fun m1 m2 => ∃ J, m2 = wI m1 J ∧ sc (d + 334) (rz (svI (th m1 (d + 334) 0) (d + 334) k) (d + 334 + 1) (rvZ (im m (d + 334 + 1)) s t (nv ((im m (d + 334 + 1)) (79 + 22 * s + 2))) (X (i + 3)) (lsV (im m (d + 334 + 1)) (79 + 22 * s) (X (i + 3))))) J) hi hLs hb hX (by rw [es, et]; exact hL_revise_0 g (0, 0) hD.t (cn_X9_revise g (0, 0) (Nat.le_refl _) hKd hDk hz hs ht h3 h4) (fun r m1 q => q) (fun m1 q => (q.1.2 _ (by omega)).1.1.trans hto)) ⟨by decide, by decide⟩ (by decide) (fun m1 h1 => ?_) (fun m1 h1 m2 h2 => ?_) hu (fun m1 h1 m2 h2 x5 x6 => K m2 ?_ x5 x6)
          · obtain ⟨m0, ⟨hH, hK⟩, rfl⟩ := h1
            have hM0 := hMd.hd hH hfz
            have ez : im (sJ m0 (d + 343) 0 ((im m (d + 334 + 1)) (79 + 22 * s + 5) - lsV (im m (d + 334 + 1)) (79 + 22 * s) (X (i + 3))).toInt64) (d + 334 + 1) = im m (d + 334 + 1) := ((hH.2 _ (by omega)).2 (by omega)).1
            have e3 : im (sJ m0 (d + 343) 0 ((im m (d + 334 + 1)) (79 + 22 * s + 5) - lsV (im m (d + 334 + 1)) (79 + 22 * s) (X (i + 3))).toInt64) (d + 334) 3 = nI k := (congrFun ((hH.2 (d + 334) (by omega)).2 (by omega)).1 3).trans hk3
            have q := cn_X10_revise_0 g (0, 0) (m := sJ m0 (d + 343) 0 ((im m (d + 334 + 1)) (79 + 22 * s + 5) - lsV (im m (d + 334 + 1)) (79 + 22 * s) (X (i + 3))).toInt64) hM0 (N := nv ((im m (d + 334 + 1)) 0)) (by rw [ez]; exact hz.n0.e) hz.n0.hi hs (by rw [ez]; exact (hz.row hs).1) ht (n := k) e3 hk6 (by rw [ez]; exact h3) (by rw [ez]; exact h4.1) (by rw [ez]; exact h4.2) (by rw [ez]; exact hz.S2 hs)
            rw [ez] at q
            skip
            refine ⟨(hH.2 b (by omega)).1.1.trans hb, ((hH.2 b (by omega)).2 (by omega)).1.trans hX, hM0.t, ?_⟩
            rw [es, et]; exact q
          · obtain ⟨m0, ⟨hH, hK⟩, rfl⟩ := h1
            obtain ⟨J, rfl, hJ⟩ := h2
            exact ⟨(show MdOk m0 (d + 334) from hMd.hd hH hfz), (hH.2 _ (by omega)).1.1.trans hto, at6 hJ, fun _ => u2_s _ _ _ _⟩
          · obtain ⟨m0, ⟨hH, hK⟩, e1⟩ := h1
            obtain ⟨J, e2, hJ⟩ := h2
            exact h.mutR hk3 hk5 hk6 hH hK (zi_rv hzi (by omega) hs ht (by omega) (fun q => h4.2 (by rw [q]; exact (hz.S2 hs).e)) h4.1 (hz.S2 hs).e hy (ls_r hzi hs hy).1 (ls_r hzi hs hy).2) e1 e2 hJ
        · skip
          refine op_revise g (c := 3) (v := nI 0) (cs := (1, 6)) (P := fun m1 => ∃ n, fz m ≤ n ∧ m1 = gr m n) (P2 := fun m1 m2 => ∃ J, m2 = wI m1 J ∧ sc (d + 334) (th m1 (d + 334) 3) J) hi hLs hb hX (by rw [es, et]; exact hL_revise_x3 g hD.t (cx_X9_revise_3 g (0, 0) hD hR hz hs ht h3 h4)) ⟨by decide, by decide⟩ (by decide) (fun m1 h1 => ?_) (fun m1 h1 m2 h2 => ?_) hu (fun m1 h1 m2 h2 x5 x6 => K m2 ?_ x5 x6)
          · obtain ⟨n, hn, rfl⟩ := h1
            exact ⟨hb, hX, hMd.t, by rw [es, et]; exact cn_X10_revise_3 g (0, 0) (m := gr m n) hMd (N := nv ((im m (d + 334 + 1)) 0)) hz.n0.e hz.n0.hi hs (hz.row hs).1 ht h3 h4⟩
          · obtain ⟨n, hn, rfl⟩ := h1
            obtain ⟨J, rfl, hJ⟩ := h2
            exact ⟨hMd, hto, (hJ _ _ (by unfold scr; omega)).trans (u2_s _ _ _ _), fun q => absurd q (by decide)⟩
          · obtain ⟨n, hn, rfl⟩ := h1
            obtain ⟨J, rfl, hJ⟩ := h2
            exact h.same (m1 := gr m n) hn rfl rfl rfl rfl rfl rfl hJ.B
      · skip
        refine op_revise g (c := 2) (v := nI 0) (cs := (1, 6)) (P := fun m1 => ∃ n, fz m ≤ n ∧ m1 = gr m n) (P2 := fun m1 m2 => ∃ J, m2 = wI m1 J ∧ sc (d + 334) (th m1 (d + 334) 2) J) hi hLs hb hX (by rw [es, et]; exact hL_revise_x2 g hD.t (cx_X9_revise_2 g (0, 0) hD hR hz hs ht h3)) ⟨by decide, by decide⟩ (by decide) (fun m1 h1 => ?_) (fun m1 h1 m2 h2 => ?_) hu (fun m1 h1 m2 h2 x5 x6 => K m2 ?_ x5 x6)
        · obtain ⟨n, hn, rfl⟩ := h1
          exact ⟨hb, hX, hMd.t, by rw [es, et]; exact cn_X10_revise_2 g (0, 0) (m := gr m n) hMd (N := nv ((im m (d + 334 + 1)) 0)) hz.n0.e hz.n0.hi hs (hz.row hs).1 ht h3⟩
        · obtain ⟨n, hn, rfl⟩ := h1
          obtain ⟨J, rfl, hJ⟩ := h2
          exact ⟨hMd, hto, (hJ _ _ (by unfold scr; omega)).trans (u2_s _ _ _ _), fun q => absurd q (by decide)⟩
        · obtain ⟨n, hn, rfl⟩ := h1
          obtain ⟨J, rfl, hJ⟩ := h2
          exact h.same (m1 := gr m n) hn rfl rfl rfl rfl rfl rfl hJ.B
    · skip
      refine op_revise g (c := 1) (v := nI 0) (cs := (1, 6)) (P := fun m1 => ∃ n, fz m ≤ n ∧ m1 = gr m n) (P2 := fun m1 m2 => ∃ J, m2 = wI m1 J ∧ sc (d + 334) (th m1 (d + 334) 1) J) hi hLs hb hX (by rw [es]; exact hL_revise_x1 g hD.t (cx_X9_revise_11 g (0, 0) hD hR hz hs h2)) ⟨by decide, by decide⟩ (by decide) (fun m1 h1 => ?_) (fun m1 h1 m2 h2 => ?_) hu (fun m1 h1 m2 h2 x5 x6 => K m2 ?_ x5 x6)
      · obtain ⟨n, hn, rfl⟩ := h1
        exact ⟨hb, hX, hMd.t, by rw [es]; exact cn_X10_revise_1 g (0, 0) (m := gr m n) hMd (N := nv ((im m (d + 334 + 1)) 0)) hz.n0.e hz.n0.hi (fun q => h2 q.2)⟩
      · obtain ⟨n, hn, rfl⟩ := h1
        obtain ⟨J, rfl, hJ⟩ := h2
        exact ⟨hMd, hto, (hJ _ _ (by unfold scr; omega)).trans (u2_s _ _ _ _), fun q => absurd q (by decide)⟩
      · obtain ⟨n, hn, rfl⟩ := h1
        obtain ⟨J, rfl, hJ⟩ := h2
        exact h.same (m1 := gr m n) hn rfl rfl rfl rfl rfl rfl hJ.B
  · skip
    refine op_revise g (c := 1) (v := nI 0) (cs := (1, 6)) (P := fun m1 => ∃ n, fz m ≤ n ∧ m1 = gr m n) (P2 := fun m1 m2 => ∃ J, m2 = wI m1 J ∧ sc (d + 334) (th m1 (d + 334) 1) J) hi hLs hb hX (hL_revise_x1 g hD.t (cx_X9_revise_1 g (0, 0) hD hR hz h1)) ⟨by decide, by decide⟩ (by decide) (fun m1 h1 => ?_) (fun m1 h1 m2 h2 => ?_) hu (fun m1 h1 m2 h2 x5 x6 => K m2 ?_ x5 x6)
    · obtain ⟨n, hn, rfl⟩ := h1
      exact ⟨hb, hX, hMd.t, cn_X10_revise_1 g (0, 0) (m := gr m n) hMd (N := nv ((im m (d + 334 + 1)) 0)) hz.n0.e hz.n0.hi (fun q => h1 q.1)⟩
    · obtain ⟨n, hn, rfl⟩ := h1
      obtain ⟨J, rfl, hJ⟩ := h2
      exact ⟨hMd, hto, (hJ _ _ (by unfold scr; omega)).trans (u2_s _ _ _ _), fun q => absurd q (by decide)⟩
    · obtain ⟨n, hn, rfl⟩ := h1
      obtain ⟨J, rfl, hJ⟩ := h2
      exact h.same (m1 := gr m n) hn rfl rfl rfl rfl rfl rfl hJ.B
