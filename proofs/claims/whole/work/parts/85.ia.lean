/-! THE LAW: each call -/
theorem MdOk.hd {m m0 : Mm} {d : Nat} (h : MdOk m (d + 334)) (hH : Hd m m0 d) (hf : d + 344 ≤ fz m) : MdOk m0 (d + 334) := by
  obtain ⟨t, r⟩ := h
  refine ⟨?_, ?_⟩
  · rw [(hH.2 (d + 334) (by omega)).1.1, (hH.2 (d + 334 + 1) (by omega)).1.1, (hH.2 (d + 334 + 2) (by omega)).1.1, (hH.2 (d + 334 + 3) (by omega)).1.1, (hH.2 (d + 334 + 4) (by omega)).1.1, (hH.2 (d + 334 + 5) (by omega)).1.1, (hH.2 (d + 334 + 6) (by omega)).1.1, (hH.2 (d + 334 + 7) (by omega)).1.1, (hH.2 (d + 334 + 8) (by omega)).1.1]
    exact t
  · rw [((hH.2 (d + 334) (by omega)).2 (by omega)).2]; exact r
theorem svI_cg2 {I I' : Nat → Nat → Int32} {a n : Nat} (h1 : I (a + 1) = I' (a + 1)) (h2 : I (a + 2) = I' (a + 2)) : svI I a n (a + 2) = svI I' a n (a + 2) := by
  have e1 : ∀ y, I (a + 1) y = I' (a + 1) y := fun y => congrFun h1 y
  have e2 : ∀ y, I (a + 2) y = I' (a + 2) y := fun y => congrFun h2 y
  funext y
  unfold svI
  split
  · unfold svB svA u2 cpI
    simp only [e1, e2, show ¬ (a + 1 = a + 2) by omega, show ¬ (a + 2 = a) by omega, show ¬ (a + 1 = a) by omega, false_and, if_false]
  · unfold svB u2 cpI
    simp only [e1, e2, show ¬ (a + 1 = a + 2) by omega, show ¬ (a + 2 = a) by omega, show ¬ (a + 1 = a) by omega, false_and, if_false]
theorem LI.mutR {g : Gp} {m m0 m1 m2 : Mm} {d b Ls : Nat} {X : Nat → Int32} {c k kb : Nat} {w : Int64} {z' : Nat → Int32} {J : Nat → Nat → Int32} (h : LI g m d b Ls X c) (hk9 : im m (d + 334) 3 = nI k) (hb9 : im m (d + 334) 5 = nI kb) (hk6 : k ≤ 6) (hH : Hd m m0 d) (hK : DkV m0 d (d + 344) c (sk k) kb z' (svR k (im m (d + 334 + 1)) (fun i j => im m (d + 334 + 2) (689 * i + j))) (im m (d + 334 + 4))) (hz : ZI (c + 1) z')
    (e1 : m1 = sJ m0 (d + 343) 0 w) (e2 : m2 = wI m1 J) (hs : sc (d + 334) (rz (svI (th m1 (d + 334) 0) (d + 334) k) (d + 334 + 1) z') J) : LI g m2 d b Ls X (c + 1) := by
  subst e1
  subst e2
  have hfz : d + 344 ≤ fz m := by obtain ⟨_, _, _, _, _, _, h7, _⟩ := id h; exact h7
  have him : ∀ x, d + 334 ≤ x → x < d + 344 → im m0 x = im m x := fun x h1 h2 => ((hH.2 x (by omega)).2 (by omega)).1
  refine h.mut hk9 hk6 hH hK hz (m2 := wI (sJ m0 (d + 343) 0 w) J) rfl rfl rfl hs.B (fun x hx => ?_) (rz_b _ _ _) (fun x hx => ?_) (fun e _ => ?_) ?_ ?_
  · rw [rz_n _ _ _ (by omega), svI_ne _ _ _ (by omega) (by omega)]; exact u2_o _ _ _ _ (by omega)
  · subst hx
    rw [rz_n _ _ _ (by omega)]
    exact svI_cg2 ((u2_o _ _ _ _ (by omega)).trans ((him _ (by omega) (by omega)).trans (u2_o _ _ _ _ (by omega)).symm)) ((u2_o _ _ _ _ (by omega)).trans ((him _ (by omega) (by omega)).trans (u2_o _ _ _ _ (by omega)).symm))
  · rw [rz_n _ _ _ (by omega), svI_ne _ _ _ (by omega) (by omega)]
    exact (congrFun (u2_o _ _ _ _ (by omega)) e).trans (congrFun (him _ (by omega) (by omega)) e)
  · rw [rz_n _ _ _ (by omega)]; exact svI_3 _ _ _
  · rw [rz_n _ _ _ (by omega), svI_a _ _ _ (by decide)]
    exact (u2_n _ _ _ _ (by omega)).trans ((congrFun (him _ (by omega) (by omega)) 5).trans hb9)
theorem at6 {m1 : Mm} {a k : Nat} {z' : Nat → Int32} {J : Nat → Nat → Int32} (hs : sc a (rz (svI (th m1 a 0) a k) (a + 1) z') J) : J a 6 = nI 0 := by
  rw [hs _ _ (by unfold scr; omega), rz_n _ _ _ (by omega), svI_a _ _ _ (by decide)]
  exact u2_s _ _ _ _
theorem it_rate (g : Gp) {m : Mm} {d b Ls c i : Nat} {X : Nat → Int32} {u : Nat × Nat} {Q : Rs → Mm → Prop} (h : LI g m d b Ls X c) (hc : c < 512) (hi : i + 4 ≤ Ls) (hLs : Ls ≤ 2048) (hu : u.1 + 30 ≤ lw_rc ∧ u.2 + 230 ≤ lw_rs)
    (K : ∀ m2, LI g m2 d b Ls X (c + 1) → ∀ x5 x6 : Int32, G g ML_law Q 1834 [(6, .int x6), (5, .int x5), (4, .int (nI i)), (3, .ref (d + 343)), (2, .ref (d + 334)), (1, .ref d), (0, .ref b)] [] (u.1 + 30, u.2 + 230) m2) : G g ML_law Q 168 [(4, .int (nI i)), (3, .ref (d + 343)), (2, .ref (d + 334)), (1, .ref d), (0, .ref b)] [] u m := by
  obtain ⟨k, kb, ⟨hb, hX, hbd⟩, hto, hMd, hKd, hfz, hDk, hk3, hk5, hzi, hk6, hzx⟩ := id h
  obtain ⟨hD, hR, hV, hl, hkb, hf⟩ := id hDk
  have hz := hzi.1
  by_cases h1 : inb (X (i + 1)) 4
  · obtain ⟨j, hj, ej⟩ := inb_of h1 (by decide)
    by_cases h2 : nI 1 ≤ X (i + 2) ∧ X (i + 2) ≤ nI 99
    · skip
      refine op_rate g (c := 0) (v := im m (d + 334 + 1) (4 + 5 * j)) (cs := (0, 0)) (P := fun m1 => ∃ m0, (Hd m m0 d ∧ DkV m0 d (d + 344) c (sk k) kb (u1 (im m (d + 334 + 1)) (4 + 5 * j) (X (i + 2))) (svR k (im m (d + 334 + 1)) (fun i j => im m (d + 334 + 2) (689 * i + j))) (im m (d + 334 + 4))) ∧ m1 = sJ m0 (d + 343) 0 (im m (d + 334 + 1) (4 + 5 * j)).toInt64) (P2 := fun m1 m2 => ∃ J, m2 = wI m1 J ∧ sc (d + 334) (rz (svI (th m1 (d + 334) 0) (d + 334) k) (d + 334 + 1) (u1 (im m (d + 334 + 1)) (4 + 5 * j) (X (i + 2)))) J) hi hLs hb hX (by rw [ej]; exact hL_rate_0 g (0, 0) hD.t (cn_X9_rate g (0, 0) (Nat.le_refl _) hKd hDk hz hj h2) (fun r m1 q => q) (fun m1 q => (q.1.2 _ (by omega)).1.1.trans hto)) ⟨by decide, by decide⟩ (by decide) (fun m1 h1 => ?_) (fun m1 h1 m2 h2 => ?_) hu (fun m1 h1 m2 h2 x5 x6 => K m2 ?_ x5 x6)
      · obtain ⟨m0, ⟨hH, hK⟩, rfl⟩ := h1
        have hM0 := hMd.hd hH hfz
        have ez : im (sJ m0 (d + 343) 0 (im m (d + 334 + 1) (4 + 5 * j)).toInt64) (d + 334 + 1) = im m (d + 334 + 1) := ((hH.2 _ (by omega)).2 (by omega)).1
        have e3 : im (sJ m0 (d + 343) 0 (im m (d + 334 + 1) (4 + 5 * j)).toInt64) (d + 334) 3 = nI k := (congrFun ((hH.2 (d + 334) (by omega)).2 (by omega)).1 3).trans hk3
        have q := cn_X10_rate_0 g (0, 0) (m := sJ m0 (d + 343) 0 (im m (d + 334 + 1) (4 + 5 * j)).toInt64) hM0 (n := k) e3 hk6 hj h2
        rw [ez] at q
        rw [rz_uu _ _ (im m (d + 334 + 1)) ((svI_ne _ _ _ (by omega) (by omega)).trans ((u2_o _ _ _ _ (by omega)).trans ez))] at q
        refine ⟨(hH.2 b (by omega)).1.1.trans hb, ((hH.2 b (by omega)).2 (by omega)).1.trans hX, hM0.t, ?_⟩
        rw [ej]; exact q
      · obtain ⟨m0, ⟨hH, hK⟩, rfl⟩ := h1
        obtain ⟨J, rfl, hJ⟩ := h2
        exact ⟨(show MdOk m0 (d + 334) from hMd.hd hH hfz), (hH.2 _ (by omega)).1.1.trans hto, at6 hJ, fun _ => u2_s _ _ _ _⟩
      · obtain ⟨m0, ⟨hH, hK⟩, e1⟩ := h1
        obtain ⟨J, e2, hJ⟩ := h2
        exact h.mutR hk3 hk5 hk6 hH hK (zi_rate hzi hj h2) e1 e2 hJ
    · skip
      refine op_rate g (c := 2) (v := nI 0) (cs := (1, 6)) (P := fun m1 => ∃ n, fz m ≤ n ∧ m1 = gr m n) (P2 := fun m1 m2 => ∃ J, m2 = wI m1 J ∧ sc (d + 334) (th m1 (d + 334) 2) J) hi hLs hb hX (by rw [ej]; exact hL_rate_x2 g hD.t (cx_X9_rate_2 g (0, 0) hD hR hz hj h2)) ⟨by decide, by decide⟩ (by decide) (fun m1 h1 => ?_) (fun m1 h1 m2 h2 => ?_) hu (fun m1 h1 m2 h2 x5 x6 => K m2 ?_ x5 x6)
      · obtain ⟨n, hn, rfl⟩ := h1
        exact ⟨hb, hX, hMd.t, by rw [ej]; exact cn_X10_rate_2 g (0, 0) (m := gr m n) hMd hj h2⟩
      · obtain ⟨n, hn, rfl⟩ := h1
        obtain ⟨J, rfl, hJ⟩ := h2
        exact ⟨hMd, hto, (hJ _ _ (by unfold scr; omega)).trans (u2_s _ _ _ _), fun q => absurd q (by decide)⟩
      · obtain ⟨n, hn, rfl⟩ := h1
        obtain ⟨J, rfl, hJ⟩ := h2
        exact h.same (m1 := gr m n) hn rfl rfl rfl rfl rfl rfl hJ.B
  · skip
    refine op_rate g (c := 1) (v := nI 0) (cs := (1, 6)) (P := fun m1 => ∃ n, fz m ≤ n ∧ m1 = gr m n) (P2 := fun m1 m2 => ∃ J, m2 = wI m1 J ∧ sc (d + 334) (th m1 (d + 334) 1) J) hi hLs hb hX (hL_rate_x1 g hD.t (cx_X9_rate_1 g (0, 0) hD hR hz h1)) ⟨by decide, by decide⟩ (by decide) (fun m1 h1 => ?_) (fun m1 h1 m2 h2 => ?_) hu (fun m1 h1 m2 h2 x5 x6 => K m2 ?_ x5 x6)
    · obtain ⟨n, hn, rfl⟩ := h1
      exact ⟨hb, hX, hMd.t, cn_X10_rate_1 g (0, 0) (m := gr m n) hMd h1⟩
    · obtain ⟨n, hn, rfl⟩ := h1
      obtain ⟨J, rfl, hJ⟩ := h2
      exact ⟨hMd, hto, (hJ _ _ (by unfold scr; omega)).trans (u2_s _ _ _ _), fun q => absurd q (by decide)⟩
    · obtain ⟨n, hn, rfl⟩ := h1
      obtain ⟨J, rfl, hJ⟩ := h2
      exact h.same (m1 := gr m n) hn rfl rfl rfl rfl rfl rfl hJ.B
theorem it_pays (g : Gp) {m : Mm} {d b Ls c i : Nat} {X : Nat → Int32} {u : Nat × Nat} {Q : Rs → Mm → Prop} (h : LI g m d b Ls X c) (hc : c < 512) (hi : i + 4 ≤ Ls) (hLs : Ls ≤ 2048) (hu : u.1 + 30 ≤ lw_rc ∧ u.2 + 230 ≤ lw_rs)
    (K : ∀ m2, LI g m2 d b Ls X (c + 1) → ∀ x5 x6 : Int32, G g ML_law Q 1834 [(6, .int x6), (5, .int x5), (4, .int (nI i)), (3, .ref (d + 343)), (2, .ref (d + 334)), (1, .ref d), (0, .ref b)] [] (u.1 + 30, u.2 + 230) m2) : G g ML_law Q 236 [(4, .int (nI i)), (3, .ref (d + 343)), (2, .ref (d + 334)), (1, .ref d), (0, .ref b)] [] u m := by
  obtain ⟨k, kb, ⟨hb, hX, hbd⟩, hto, hMd, hKd, hfz, hDk, hk3, hk5, hzi, hk6, hzx⟩ := id h
  obtain ⟨hD, hR, hV, hl, hkb, hf⟩ := id hDk
  have hz := hzi.1
  by_cases h1 : inb (X (i + 1)) 5
  · obtain ⟨j, hj, ej⟩ := inb_of h1 (by decide)
    by_cases h2 : nI 0 ≤ X (i + 2) ∧ X (i + 2) ≤ nI 100
    · skip
      refine op_pays g (c := 0) (v := im m (d + 334 + 1) (64 + 3 * j)) (cs := (0, 0)) (P := fun m1 => ∃ m0, (Hd m m0 d ∧ DkV m0 d (d + 344) c (sk k) kb (u1 (im m (d + 334 + 1)) (64 + 3 * j) (X (i + 2))) (svR k (im m (d + 334 + 1)) (fun i j => im m (d + 334 + 2) (689 * i + j))) (im m (d + 334 + 4))) ∧ m1 = sJ m0 (d + 343) 0 (im m (d + 334 + 1) (64 + 3 * j)).toInt64) (P2 := fun m1 m2 => ∃ J, m2 = wI m1 J ∧ sc (d + 334) (rz (svI (th m1 (d + 334) 0) (d + 334) k) (d + 334 + 1) (u1 (im m (d + 334 + 1)) (64 + 3 * j) (X (i + 2)))) J) hi hLs hb hX (by rw [ej]; exact hL_pays_0 g (0, 0) hD.t (cn_X9_pays g (0, 0) (Nat.le_refl _) hKd hDk hz hj h2) (fun r m1 q => q) (fun m1 q => (q.1.2 _ (by omega)).1.1.trans hto)) ⟨by decide, by decide⟩ (by decide) (fun m1 h1 => ?_) (fun m1 h1 m2 h2 => ?_) hu (fun m1 h1 m2 h2 x5 x6 => K m2 ?_ x5 x6)
      · obtain ⟨m0, ⟨hH, hK⟩, rfl⟩ := h1
        have hM0 := hMd.hd hH hfz
        have ez : im (sJ m0 (d + 343) 0 (im m (d + 334 + 1) (64 + 3 * j)).toInt64) (d + 334 + 1) = im m (d + 334 + 1) := ((hH.2 _ (by omega)).2 (by omega)).1
        have e3 : im (sJ m0 (d + 343) 0 (im m (d + 334 + 1) (64 + 3 * j)).toInt64) (d + 334) 3 = nI k := (congrFun ((hH.2 (d + 334) (by omega)).2 (by omega)).1 3).trans hk3
        have q := cn_X10_pays_0 g (0, 0) (m := sJ m0 (d + 343) 0 (im m (d + 334 + 1) (64 + 3 * j)).toInt64) hM0 (n := k) e3 hk6 hj h2
        rw [ez] at q
        rw [rz_uu _ _ (im m (d + 334 + 1)) ((svI_ne _ _ _ (by omega) (by omega)).trans ((u2_o _ _ _ _ (by omega)).trans ez))] at q
        refine ⟨(hH.2 b (by omega)).1.1.trans hb, ((hH.2 b (by omega)).2 (by omega)).1.trans hX, hM0.t, ?_⟩
        rw [ej]; exact q
      · obtain ⟨m0, ⟨hH, hK⟩, rfl⟩ := h1
        obtain ⟨J, rfl, hJ⟩ := h2
        exact ⟨(show MdOk m0 (d + 334) from hMd.hd hH hfz), (hH.2 _ (by omega)).1.1.trans hto, at6 hJ, fun _ => u2_s _ _ _ _⟩
      · obtain ⟨m0, ⟨hH, hK⟩, e1⟩ := h1
        obtain ⟨J, e2, hJ⟩ := h2
        exact h.mutR hk3 hk5 hk6 hH hK (zi_pays hzi hj h2) e1 e2 hJ
    · skip
      refine op_pays g (c := 2) (v := nI 0) (cs := (1, 6)) (P := fun m1 => ∃ n, fz m ≤ n ∧ m1 = gr m n) (P2 := fun m1 m2 => ∃ J, m2 = wI m1 J ∧ sc (d + 334) (th m1 (d + 334) 2) J) hi hLs hb hX (by rw [ej]; exact hL_pays_x2 g hD.t (cx_X9_pays_2 g (0, 0) hD hR hz hj h2)) ⟨by decide, by decide⟩ (by decide) (fun m1 h1 => ?_) (fun m1 h1 m2 h2 => ?_) hu (fun m1 h1 m2 h2 x5 x6 => K m2 ?_ x5 x6)
      · obtain ⟨n, hn, rfl⟩ := h1
        exact ⟨hb, hX, hMd.t, by rw [ej]; exact cn_X10_pays_2 g (0, 0) (m := gr m n) hMd hj h2⟩
      · obtain ⟨n, hn, rfl⟩ := h1
        obtain ⟨J, rfl, hJ⟩ := h2
        exact ⟨hMd, hto, (hJ _ _ (by unfold scr; omega)).trans (u2_s _ _ _ _), fun q => absurd q (by decide)⟩
      · obtain ⟨n, hn, rfl⟩ := h1
        obtain ⟨J, rfl, hJ⟩ := h2
        exact h.same (m1 := gr m n) hn rfl rfl rfl rfl rfl rfl hJ.B
  · skip
    refine op_pays g (c := 1) (v := nI 0) (cs := (1, 6)) (P := fun m1 => ∃ n, fz m ≤ n ∧ m1 = gr m n) (P2 := fun m1 m2 => ∃ J, m2 = wI m1 J ∧ sc (d + 334) (th m1 (d + 334) 1) J) hi hLs hb hX (hL_pays_x1 g hD.t (cx_X9_pays_1 g (0, 0) hD hR hz h1)) ⟨by decide, by decide⟩ (by decide) (fun m1 h1 => ?_) (fun m1 h1 m2 h2 => ?_) hu (fun m1 h1 m2 h2 x5 x6 => K m2 ?_ x5 x6)
    · obtain ⟨n, hn, rfl⟩ := h1
      exact ⟨hb, hX, hMd.t, cn_X10_pays_1 g (0, 0) (m := gr m n) hMd h1⟩
    · obtain ⟨n, hn, rfl⟩ := h1
      obtain ⟨J, rfl, hJ⟩ := h2
      exact ⟨hMd, hto, (hJ _ _ (by unfold scr; omega)).trans (u2_s _ _ _ _), fun q => absurd q (by decide)⟩
    · obtain ⟨n, hn, rfl⟩ := h1
      obtain ⟨J, rfl, hJ⟩ := h2
      exact h.same (m1 := gr m n) hn rfl rfl rfl rfl rfl rfl hJ.B
