/-! THE LAW: adding, changing -/
theorem LI.mutB {g : Gp} {m m0 m1 m2 : Mm} {d b Ls : Nat} {X : Nat → Int32} {c k : Nat} {w : Int64} {z' f' : Nat → Int32} {J : Nat → Nat → Int32} (h : LI g m d b Ls X c) (hk9 : im m (d + 334) 3 = nI k) (hk6 : k ≤ 6) (hH : Hd m m0 d) (hK : DkV m0 d (d + 344) c (sk k) 0 z' (svR k (im m (d + 334 + 1)) (fun i j => im m (d + 334 + 2) (689 * i + j))) f') (hz : ZI (c + 1) z')
    (e1 : m1 = sJ m0 (d + 343) 0 w) (e2 : m2 = wI m1 J) (hs : sc (d + 334) (u2 (rz (svI (th m1 (d + 334) 0) (d + 334) k) (d + 334 + 1) z') (d + 334) 5 (nI 0)) J) : LI g m2 d b Ls X (c + 1) := by
  subst e1
  subst e2
  have hfz : d + 344 ≤ fz m := by obtain ⟨_, _, _, _, _, _, h7, _⟩ := id h; exact h7
  have him : ∀ x, d + 334 ≤ x → x < d + 344 → im m0 x = im m x := fun x h1 h2 => ((hH.2 x (by omega)).2 (by omega)).1
  refine h.mut hk9 hk6 hH hK hz (m2 := wI (sJ m0 (d + 343) 0 w) J) rfl rfl rfl hs.B (fun x hx => ?_) ((u2_o _ _ _ _ (by omega)).trans (rz_b _ _ _)) (fun x hx => ?_) (fun e he => absurd he (Nat.not_lt_zero _)) ?_ (u2_s _ _ _ _)
  · rw [u2_o _ _ _ _ (by omega), rz_n _ _ _ (by omega), svI_ne _ _ _ (by omega) (by omega)]; exact u2_o _ _ _ _ (by omega)
  · subst hx
    rw [u2_o _ _ _ _ (by omega), rz_n _ _ _ (by omega)]
    exact svI_cg2 ((u2_o _ _ _ _ (by omega)).trans ((him _ (by omega) (by omega)).trans (u2_o _ _ _ _ (by omega)).symm)) ((u2_o _ _ _ _ (by omega)).trans ((him _ (by omega) (by omega)).trans (u2_o _ _ _ _ (by omega)).symm))
  · rw [u2_n _ _ _ _ (by omega), rz_n _ _ _ (by omega)]; exact svI_3 _ _ _
theorem at6b {m1 : Mm} {a k : Nat} {z' : Nat → Int32} {J : Nat → Nat → Int32} (hs : sc a (u2 (rz (svI (th m1 a 0) a k) (a + 1) z') a 5 (nI 0)) J) : J a 6 = nI 0 := by
  rw [hs _ _ (by unfold scr; omega), u2_n _ _ _ _ (by omega), rz_n _ _ _ (by omega), svI_a _ _ _ (by decide)]
  exact u2_s _ _ _ _
theorem it_add (g : Gp) {m : Mm} {d b Ls c i : Nat} {X : Nat → Int32} {u : Nat × Nat} {Q : Rs → Mm → Prop} (h : LI g m d b Ls X c) (hc : c < 512) (hi : i + 4 ≤ Ls) (hLs : Ls ≤ 2048) (hu : u.1 + 30 ≤ lw_rc ∧ u.2 + 230 ≤ lw_rs)
    (K : ∀ m2, LI g m2 d b Ls X (c + 1) → ∀ x5 x6 : Int32, G g ML_law Q 1834 [(6, .int x6), (5, .int x5), (4, .int (nI i)), (3, .ref (d + 343)), (2, .ref (d + 334)), (1, .ref d), (0, .ref b)] [] (u.1 + 30, u.2 + 230) m2) : G g ML_law Q 806 [(4, .int (nI i)), (3, .ref (d + 343)), (2, .ref (d + 334)), (1, .ref d), (0, .ref b)] [] u m := by
  obtain ⟨k, kb, ⟨hb, hX, hbd⟩, hto, hMd, hKd, hfz, hDk, hk3, hk5, hzi, hk6, hzx⟩ := id h
  obtain ⟨hD, hR, hV, hl, hkb, hf⟩ := id hDk
  have hz := hzi.1
  have hn09 := hz.n0.hi
  have hn19 := hz.n1.hi
  by_cases h1 : okT (im m (d + 334 + 4)) kb
  · by_cases h2 : nv ((im m (d + 334 + 1)) 0) + (lastT (im m (d + 334 + 4)) kb + 1) ≤ 10
    · skip
      refine op_add g (c := 0) (v := nI (nv ((im m (d + 334 + 1)) 0) + (lastT (im m (d + 334 + 4)) kb + 1))) (cs := (30, 230)) (P := fun m1 => ∃ m0, (Hd m m0 d ∧ DkV m0 d (d + 344) c (sk k) 0 (adZ (nv ((im m (d + 334 + 1)) 0)) (im m (d + 334 + 1)) (im m (d + 334 + 4)) kb (lastT (im m (d + 334 + 4)) kb + 1)) (svR k (im m (d + 334 + 1)) (fun i j => im m (d + 334 + 2) (689 * i + j))) (im m (d + 334 + 4))) ∧ m1 = sJ m0 (d + 343) 0 (nI (nv ((im m (d + 334 + 1)) 0) + (lastT (im m (d + 334 + 4)) kb + 1))).toInt64) (P2 := fun m1 m2 => ∃ J, m2 = wI m1 J ∧ sc (d + 334) (u2 (rz (svI (th m1 (d + 334) 0) (d + 334) k) (d + 334 + 1) (adZ (nv ((im m (d + 334 + 1)) 0)) (im m (d + 334 + 1)) (im m (d + 334 + 4)) kb (lastT (im m (d + 334 + 4)) kb + 1))) (d + 334) 5 (nI 0)) J) hi hLs hb hX (by exact hL_add_0 g (30, 230) hD.t (cn_X9_add g (Nat.le_refl _) hKd hDk hz hfz h1 h2) (fun r m1 q => q) (fun m1 q => (q.1.2 _ (by omega)).1.1.trans hto)) ⟨by decide, by decide⟩ (by decide) (fun m1 h1 => ?_) (fun m1 h1 m2 h2 => ?_) hu (fun m1 h1 m2 h2 x5 x6 => K m2 ?_ x5 x6)
      · obtain ⟨m0, ⟨hH, hK⟩, rfl⟩ := h1
        have hM0 := hMd.hd hH hfz
        have ez : im (sJ m0 (d + 343) 0 (nI (nv ((im m (d + 334 + 1)) 0) + (lastT (im m (d + 334 + 4)) kb + 1))).toInt64) (d + 334 + 1) = im m (d + 334 + 1) := ((hH.2 _ (by omega)).2 (by omega)).1
        have e3 : im (sJ m0 (d + 343) 0 (nI (nv ((im m (d + 334 + 1)) 0) + (lastT (im m (d + 334 + 4)) kb + 1))).toInt64) (d + 334) 3 = nI k := (congrFun ((hH.2 (d + 334) (by omega)).2 (by omega)).1 3).trans hk3
        have q := cn_X10_add_0 g (0, 0) (m := sJ m0 (d + 343) 0 (nI (nv ((im m (d + 334 + 1)) 0) + (lastT (im m (d + 334 + 4)) kb + 1))).toInt64) hM0 (f := (im m (d + 334 + 4))) ((hH.2 _ (by omega)).2 (by omega)).1 (k := kb) ((congrFun ((hH.2 (d + 334) (by omega)).2 (by omega)).1 5).trans hk5) hkb (N := nv ((im m (d + 334 + 1)) 0)) (by rw [ez]; exact hz.n0.e) hz.n0.hi (n := k) e3 hk6 h1 h2
        rw [ez] at q
        skip
        refine ⟨(hH.2 b (by omega)).1.1.trans hb, ((hH.2 b (by omega)).2 (by omega)).1.trans hX, hM0.t, ?_⟩
        exact q
      · obtain ⟨m0, ⟨hH, hK⟩, rfl⟩ := h1
        obtain ⟨J, rfl, hJ⟩ := h2
        exact ⟨(show MdOk m0 (d + 334) from hMd.hd hH hfz), (hH.2 _ (by omega)).1.1.trans hto, at6b hJ, fun _ => u2_s _ _ _ _⟩
      · obtain ⟨m0, ⟨hH, hK⟩, e1⟩ := h1
        obtain ⟨J, e2, hJ⟩ := h2
        exact h.mutB hk3 hk6 hH hK ((zi_ad hzi hz.n0.e h1 h2 _ (Nat.le_refl _)).up) e1 e2 hJ
    · skip
      refine op_add g (c := 2) (v := nI 0) (cs := (1, 6)) (P := fun m1 => ∃ n, fz m ≤ n ∧ m1 = gr m n) (P2 := fun m1 m2 => ∃ J, m2 = wI m1 J ∧ sc (d + 334) (th m1 (d + 334) 2) J) hi hLs hb hX (hL_add_x2 g hD.t (cx_X9_add_3 g (0, 0) hD hR hz hl hkb hf h1 h2)) ⟨by decide, by decide⟩ (by decide) (fun m1 h1 => ?_) (fun m1 h1 m2 h2 => ?_) hu (fun m1 h1 m2 h2 x5 x6 => K m2 ?_ x5 x6)
      · obtain ⟨n, hn, rfl⟩ := h1
        exact ⟨hb, hX, hMd.t, cn_X10_add_2 g (0, 0) (m := gr m n) hMd (f := (im m (d + 334 + 4))) rfl (k := kb) hk5 hkb (N := nv ((im m (d + 334 + 1)) 0)) hz.n0.e hz.n0.hi h1 (by omega)⟩
      · obtain ⟨n, hn, rfl⟩ := h1
        obtain ⟨J, rfl, hJ⟩ := h2
        exact ⟨hMd, hto, (hJ _ _ (by unfold scr; omega)).trans (u2_s _ _ _ _), fun q => absurd q (by decide)⟩
      · obtain ⟨n, hn, rfl⟩ := h1
        obtain ⟨J, rfl, hJ⟩ := h2
        exact h.same (m1 := gr m n) hn rfl rfl rfl rfl rfl rfl hJ.B
  · skip
    refine op_add g (c := 1) (v := nI 0) (cs := (1, 6)) (P := fun m1 => ∃ n, fz m ≤ n ∧ m1 = gr m n) (P2 := fun m1 m2 => ∃ J, m2 = wI m1 J ∧ sc (d + 334) (th m1 (d + 334) 1) J) hi hLs hb hX (hL_add_x1 g hD.t (cx_X9_add_2 g (0, 0) hD hR hz hl hkb hf h1)) ⟨by decide, by decide⟩ (by decide) (fun m1 h1 => ?_) (fun m1 h1 m2 h2 => ?_) hu (fun m1 h1 m2 h2 x5 x6 => K m2 ?_ x5 x6)
    · obtain ⟨n, hn, rfl⟩ := h1
      exact ⟨hb, hX, hMd.t, cn_X10_add_1 g (0, 0) (m := gr m n) hMd (f := (im m (d + 334 + 4))) rfl (k := kb) hk5 hkb h1⟩
    · obtain ⟨n, hn, rfl⟩ := h1
      obtain ⟨J, rfl, hJ⟩ := h2
      exact ⟨hMd, hto, (hJ _ _ (by unfold scr; omega)).trans (u2_s _ _ _ _), fun q => absurd q (by decide)⟩
    · obtain ⟨n, hn, rfl⟩ := h1
      obtain ⟨J, rfl, hJ⟩ := h2
      exact h.same (m1 := gr m n) hn rfl rfl rfl rfl rfl rfl hJ.B
theorem it_change (g : Gp) {m : Mm} {d b Ls c i : Nat} {X : Nat → Int32} {u : Nat × Nat} {Q : Rs → Mm → Prop} (h : LI g m d b Ls X c) (hc : c < 512) (hi : i + 4 ≤ Ls) (hLs : Ls ≤ 2048) (hu : u.1 + 30 ≤ lw_rc ∧ u.2 + 230 ≤ lw_rs)
    (K : ∀ m2, LI g m2 d b Ls X (c + 1) → ∀ x5 x6 : Int32, G g ML_law Q 1834 [(6, .int x6), (5, .int x5), (4, .int (nI i)), (3, .ref (d + 343)), (2, .ref (d + 334)), (1, .ref d), (0, .ref b)] [] (u.1 + 30, u.2 + 230) m2) : G g ML_law Q 850 [(4, .int (nI i)), (3, .ref (d + 343)), (2, .ref (d + 334)), (1, .ref d), (0, .ref b)] [] u m := by
  obtain ⟨k, kb, ⟨hb, hX, hbd⟩, hto, hMd, hKd, hfz, hDk, hk3, hk5, hzi, hk6, hzx⟩ := id h
  obtain ⟨hD, hR, hV, hl, hkb, hf⟩ := id hDk
  have hz := hzi.1
  have hn09 := hz.n0.hi
  have hn19 := hz.n1.hi
  by_cases h1 : inb (X (i + 1)) (nv ((im m (d + 334 + 1)) 0))
  · obtain ⟨s, hs, es⟩ := inb_of h1 (by omega)
    by_cases h2 : okT (im m (d + 334 + 4)) kb ∧ lastT (im m (d + 334 + 4)) kb = 0
    · have hst := hz.S1 hs
      have hst3 := hst.hi
      have htx := zi_tx hzi hs h2.1 (t := 0) (Nat.zero_le _)
      have hs1 : s < nv (txZ (im m (d + 334 + 1)) s (im m (d + 334 + 4)) kb 0 0) := by rw [txZ_0]; exact hs
      have hs2 : s < nv (rsZ (txZ (im m (d + 334 + 1)) s (im m (d + 334 + 4)) kb 0) s 0) := by rw [rsZ_lo _ _ (by omega)]; exact hs1
      rcases (show nv ((im m (d + 334 + 1)) (79 + 22 * s + 1)) = 0 ∨ nv ((im m (d + 334 + 1)) (79 + 22 * s + 1)) = 1 ∨ 2 ≤ nv ((im m (d + 334 + 1)) (79 + 22 * s + 1)) by omega) with h3 | h3 | h3
      · have h4 : (im m (d + 334 + 1)) (79 + 22 * s + 1) = 0 := by rw [hst.e, h3]; rfl
        refine op_change g (c := 0) (v := nI 0) (cs := (3, 23)) (P := fun m1 => ∃ m0, (Hd m m0 d ∧ DkV m0 d (d + 344) c (sk k) 0 (txZ (im m (d + 334 + 1)) s (im m (d + 334 + 4)) kb 0) (svR k (im m (d + 334 + 1)) (fun i j => im m (d + 334 + 2) (689 * i + j))) (im m (d + 334 + 4))) ∧ m1 = sJ m0 (d + 343) 0 (nI 0).toInt64) (P2 := fun m1 m2 => ∃ J, m2 = wI m1 J ∧ sc (d + 334) (u2 (rz (svI (th m1 (d + 334) 0) (d + 334) k) (d + 334 + 1) (txZ (im m (d + 334 + 1)) s (im m (d + 334 + 4)) kb 0)) (d + 334) 5 (nI 0)) J) hi hLs hb hX (by rw [es]; exact hL_change_0 g (3, 23) hD.t (cn_X9_change0 g (Nat.le_refl _) hKd hDk hz hfz hs h2 h4) (fun r m1 q => q) (fun m1 q => (q.1.2 _ (by omega)).1.1.trans hto)) ⟨by decide, by decide⟩ (by decide) (fun m1 h1 => ?_) (fun m1 h1 m2 h2 => ?_) hu (fun m1 h1 m2 h2 x5 x6 => K m2 ?_ x5 x6)
        · obtain ⟨m0, ⟨hH, hK⟩, rfl⟩ := h1
          have hM0 := hMd.hd hH hfz
          have ez : im (sJ m0 (d + 343) 0 (nI 0).toInt64) (d + 334 + 1) = im m (d + 334 + 1) := ((hH.2 _ (by omega)).2 (by omega)).1
          have e3 : im (sJ m0 (d + 343) 0 (nI 0).toInt64) (d + 334) 3 = nI k := (congrFun ((hH.2 (d + 334) (by omega)).2 (by omega)).1 3).trans hk3
          have q := cn_X10_change_00 g (0, 0) (m := sJ m0 (d + 343) 0 (nI 0).toInt64) hM0 (f := (im m (d + 334 + 4))) ((hH.2 _ (by omega)).2 (by omega)).1 (k := kb) ((congrFun ((hH.2 (d + 334) (by omega)).2 (by omega)).1 5).trans hk5) hkb (N := nv ((im m (d + 334 + 1)) 0)) (by rw [ez]; exact hz.n0.e) hz.n0.hi hs (n := k) e3 hk6 h2.1 h2.2 (by rw [ez]; exact hst) (by rw [ez]; exact h3)
          rw [ez] at q
          skip
          refine ⟨(hH.2 b (by omega)).1.1.trans hb, ((hH.2 b (by omega)).2 (by omega)).1.trans hX, hM0.t, ?_⟩
          rw [es]; exact q
        · obtain ⟨m0, ⟨hH, hK⟩, rfl⟩ := h1
          obtain ⟨J, rfl, hJ⟩ := h2
          exact ⟨(show MdOk m0 (d + 334) from hMd.hd hH hfz), (hH.2 _ (by omega)).1.1.trans hto, at6b hJ, fun _ => u2_s _ _ _ _⟩
        · obtain ⟨m0, ⟨hH, hK⟩, e1⟩ := h1
          obtain ⟨J, e2, hJ⟩ := h2
          exact h.mutB hk3 hk6 hH hK (htx.up) e1 e2 hJ
      · have h4 : (im m (d + 334 + 1)) (79 + 22 * s + 1) = nI 1 := by rw [hst.e, h3]
        refine op_change g (c := 0) (v := nI 1) (cs := (3, 23)) (P := fun m1 => ∃ m0, (Hd m m0 d ∧ DkV m0 d (d + 344) c (sk k) 0 (fxZ (txZ (im m (d + 334 + 1)) s (im m (d + 334 + 4)) kb 0) s) (svR k (im m (d + 334 + 1)) (fun i j => im m (d + 334 + 2) (689 * i + j))) (im m (d + 334 + 4))) ∧ m1 = sJ m0 (d + 343) 0 (nI 1).toInt64) (P2 := fun m1 m2 => ∃ J, m2 = wI m1 J ∧ sc (d + 334) (u2 (rz (svI (th m1 (d + 334) 0) (d + 334) k) (d + 334 + 1) (fxZ (txZ (im m (d + 334 + 1)) s (im m (d + 334 + 4)) kb 0) s)) (d + 334) 5 (nI 0)) J) hi hLs hb hX (by rw [es]; exact hL_change_0 g (3, 23) hD.t (cn_X9_change1 g (Nat.le_refl _) hKd hDk hz hfz hs h2 h4 (hzi.2.2.1 s hs (by omega))) (fun r m1 q => q) (fun m1 q => (q.1.2 _ (by omega)).1.1.trans hto)) ⟨by decide, by decide⟩ (by decide) (fun m1 h1 => ?_) (fun m1 h1 m2 h2 => ?_) hu (fun m1 h1 m2 h2 x5 x6 => K m2 ?_ x5 x6)
        · obtain ⟨m0, ⟨hH, hK⟩, rfl⟩ := h1
          have hM0 := hMd.hd hH hfz
          have ez : im (sJ m0 (d + 343) 0 (nI 1).toInt64) (d + 334 + 1) = im m (d + 334 + 1) := ((hH.2 _ (by omega)).2 (by omega)).1
          have e3 : im (sJ m0 (d + 343) 0 (nI 1).toInt64) (d + 334) 3 = nI k := (congrFun ((hH.2 (d + 334) (by omega)).2 (by omega)).1 3).trans hk3
          have q := cn_X10_change_01 g (0, 0) (m := sJ m0 (d + 343) 0 (nI 1).toInt64) hM0 (f := (im m (d + 334 + 4))) ((hH.2 _ (by omega)).2 (by omega)).1 (k := kb) ((congrFun ((hH.2 (d + 334) (by omega)).2 (by omega)).1 5).trans hk5) hkb (N := nv ((im m (d + 334 + 1)) 0)) (by rw [ez]; exact hz.n0.e) hz.n0.hi hs (n := k) e3 hk6 h2.1 h2.2 (by rw [ez]; exact hst) (by rw [ez]; exact hz.n1) (by rw [ez]; exact fun r hr => (hz.mem hr).1) (by rw [ez]; exact h3)
          rw [ez] at q
          skip
          refine ⟨(hH.2 b (by omega)).1.1.trans hb, ((hH.2 b (by omega)).2 (by omega)).1.trans hX, hM0.t, ?_⟩
          rw [es]; exact q
        · obtain ⟨m0, ⟨hH, hK⟩, rfl⟩ := h1
          obtain ⟨J, rfl, hJ⟩ := h2
          exact ⟨(show MdOk m0 (d + 334) from hMd.hd hH hfz), (hH.2 _ (by omega)).1.1.trans hto, at6b hJ, fun _ => u2_s _ _ _ _⟩
        · obtain ⟨m0, ⟨hH, hK⟩, e1⟩ := h1
          obtain ⟨J, e2, hJ⟩ := h2
          exact h.mutB hk3 hk6 hH hK ((zi_fx htx hs1).up) e1 e2 hJ
      · skip
        refine op_change g (c := 0) (v := nI 1) (cs := (3, 23)) (P := fun m1 => ∃ m0, (Hd m m0 d ∧ DkV m0 d (d + 344) c (sk k) 0 (fxZ (rsZ (txZ (im m (d + 334 + 1)) s (im m (d + 334 + 4)) kb 0) s) s) (svR k (im m (d + 334 + 1)) (fun i j => im m (d + 334 + 2) (689 * i + j))) (im m (d + 334 + 4))) ∧ m1 = sJ m0 (d + 343) 0 (nI 1).toInt64) (P2 := fun m1 m2 => ∃ J, m2 = wI m1 J ∧ sc (d + 334) (u2 (rz (svI (th m1 (d + 334) 0) (d + 334) k) (d + 334 + 1) (fxZ (rsZ (txZ (im m (d + 334 + 1)) s (im m (d + 334 + 4)) kb 0) s) s)) (d + 334) 5 (nI 0)) J) hi hLs hb hX (by rw [es]; exact hL_change_0 g (3, 23) hD.t (cn_X9_change2 g (Nat.le_refl _) hKd hDk hz hfz hs h2 h3) (fun r m1 q => q) (fun m1 q => (q.1.2 _ (by omega)).1.1.trans hto)) ⟨by decide, by decide⟩ (by decide) (fun m1 h1 => ?_) (fun m1 h1 m2 h2 => ?_) hu (fun m1 h1 m2 h2 x5 x6 => K m2 ?_ x5 x6)
        · obtain ⟨m0, ⟨hH, hK⟩, rfl⟩ := h1
          have hM0 := hMd.hd hH hfz
          have ez : im (sJ m0 (d + 343) 0 (nI 1).toInt64) (d + 334 + 1) = im m (d + 334 + 1) := ((hH.2 _ (by omega)).2 (by omega)).1
          have e3 : im (sJ m0 (d + 343) 0 (nI 1).toInt64) (d + 334) 3 = nI k := (congrFun ((hH.2 (d + 334) (by omega)).2 (by omega)).1 3).trans hk3
          have q := cn_X10_change_02 g (0, 0) (m := sJ m0 (d + 343) 0 (nI 1).toInt64) hM0 (f := (im m (d + 334 + 4))) ((hH.2 _ (by omega)).2 (by omega)).1 (k := kb) ((congrFun ((hH.2 (d + 334) (by omega)).2 (by omega)).1 5).trans hk5) hkb (N := nv ((im m (d + 334 + 1)) 0)) (by rw [ez]; exact hz.n0.e) hz.n0.hi hs (n := k) e3 hk6 h2.1 h2.2 (by rw [ez]; exact hst) (by rw [ez]; exact hz.n1) (by rw [ez]; exact fun r hr => (hz.mem hr).1) (by rw [ez]; exact h3)
          rw [ez] at q
          skip
          refine ⟨(hH.2 b (by omega)).1.1.trans hb, ((hH.2 b (by omega)).2 (by omega)).1.trans hX, hM0.t, ?_⟩
          rw [es]; exact q
        · obtain ⟨m0, ⟨hH, hK⟩, rfl⟩ := h1
          obtain ⟨J, rfl, hJ⟩ := h2
          exact ⟨(show MdOk m0 (d + 334) from hMd.hd hH hfz), (hH.2 _ (by omega)).1.1.trans hto, at6b hJ, fun _ => u2_s _ _ _ _⟩
        · obtain ⟨m0, ⟨hH, hK⟩, e1⟩ := h1
          obtain ⟨J, e2, hJ⟩ := h2
          exact h.mutB hk3 hk6 hH hK (zi_fx (zi_rs htx (by omega) hs1) hs2) e1 e2 hJ
    · skip
      refine op_change g (c := 2) (v := nI 0) (cs := (1, 6)) (P := fun m1 => ∃ n, fz m ≤ n ∧ m1 = gr m n) (P2 := fun m1 m2 => ∃ J, m2 = wI m1 J ∧ sc (d + 334) (th m1 (d + 334) 2) J) hi hLs hb hX (by rw [es]; exact hL_change_x2 g hD.t (cx_X9_change_2 g (0, 0) hD hR hz hl hkb hf hs h2)) ⟨by decide, by decide⟩ (by decide) (fun m1 h1 => ?_) (fun m1 h1 m2 h2 => ?_) hu (fun m1 h1 m2 h2 x5 x6 => K m2 ?_ x5 x6)
      · obtain ⟨n, hn, rfl⟩ := h1
        exact ⟨hb, hX, hMd.t, by rw [es]; exact cn_X10_change_2 g (0, 0) (m := gr m n) hMd (f := (im m (d + 334 + 4))) rfl (k := kb) hk5 hkb (N := nv ((im m (d + 334 + 1)) 0)) hz.n0.e hz.n0.hi hs h2⟩
      · obtain ⟨n, hn, rfl⟩ := h1
        obtain ⟨J, rfl, hJ⟩ := h2
        exact ⟨hMd, hto, (hJ _ _ (by unfold scr; omega)).trans (u2_s _ _ _ _), fun q => absurd q (by decide)⟩
      · obtain ⟨n, hn, rfl⟩ := h1
        obtain ⟨J, rfl, hJ⟩ := h2
        exact h.same (m1 := gr m n) hn rfl rfl rfl rfl rfl rfl hJ.B
  · skip
    refine op_change g (c := 1) (v := nI 0) (cs := (1, 6)) (P := fun m1 => ∃ n, fz m ≤ n ∧ m1 = gr m n) (P2 := fun m1 m2 => ∃ J, m2 = wI m1 J ∧ sc (d + 334) (th m1 (d + 334) 1) J) hi hLs hb hX (hL_change_x1 g hD.t (cx_X9_change_1 g (0, 0) hD hR hz hl hkb hf h1)) ⟨by decide, by decide⟩ (by decide) (fun m1 h1 => ?_) (fun m1 h1 m2 h2 => ?_) hu (fun m1 h1 m2 h2 x5 x6 => K m2 ?_ x5 x6)
    · obtain ⟨n, hn, rfl⟩ := h1
      exact ⟨hb, hX, hMd.t, cn_X10_change_1 g (0, 0) (m := gr m n) hMd (N := nv ((im m (d + 334 + 1)) 0)) hz.n0.e hz.n0.hi h1⟩
    · obtain ⟨n, hn, rfl⟩ := h1
      obtain ⟨J, rfl, hJ⟩ := h2
      exact ⟨hMd, hto, (hJ _ _ (by unfold scr; omega)).trans (u2_s _ _ _ _), fun q => absurd q (by decide)⟩
    · obtain ⟨n, hn, rfl⟩ := h1
      obtain ⟨J, rfl, hJ⟩ := h2
      exact h.same (m1 := gr m n) hn rfl rfl rfl rfl rfl rfl hJ.B
theorem it_saved (g : Gp) {m : Mm} {d b Ls c i : Nat} {X : Nat → Int32} {u : Nat × Nat} {Q : Rs → Mm → Prop} (h : LI g m d b Ls X c) (hc : c < 512) (hi : i + 4 ≤ Ls) (hLs : Ls ≤ 2048) (hu : u.1 + 30 ≤ lw_rc ∧ u.2 + 230 ≤ lw_rs)
    (K : ∀ m2, LI g m2 d b Ls X (c + 1) → G g ML_law Q 1834 [(4, .int (nI i)), (3, .ref (d + 343)), (2, .ref (d + 334)), (1, .ref d), (0, .ref b)] [] (u.1 + 30, u.2 + 230) m2) : G g ML_law Q 1766 [(4, .int (nI i)), (3, .ref (d + 343)), (2, .ref (d + 334)), (1, .ref d), (0, .ref b)] [] u m := by
  obtain ⟨k, kb, ⟨hb, hX, hbd⟩, hto, hMd, hKd, hfz, hDk, hk3, hk5, hzi, hk6, hzx⟩ := id h
  obtain ⟨hD, hR, hV, hl, hkb, hf⟩ := id hDk
  have hz := hzi.1
  refine op_saved g (v := savV (im m (d + 334 + 1))) (P := fun m1 => m1 = m) (P2 := fun m1 m2 => ∃ J, m2 = wI m1 J ∧ sc (d + 334) (th m1 (d + 334) 0) J) hD.t (cn_X9_saved g (0, 0) hD hR hz hKd.1) (fun m1 h1 => ?_) hu (fun m1 h1 m2 h2 => K m2 ?_)
  · subst h1
    exact ⟨hMd.t, cn_X10_saved g (0, 0) hMd hz.n0 (fun s hs => (hz.row hs).1) hz.n1 (fun r hr => (hz.mem hr).1) (fun b hb => hz.B0 hb)⟩
  · subst h1
    obtain ⟨J, rfl, hJ⟩ := h2
    exact h.same (m1 := m1) (Nat.le_refl _) rfl rfl rfl rfl rfl rfl hJ.B
theorem it_firstError (g : Gp) {m : Mm} {d b Ls c i : Nat} {X : Nat → Int32} {u : Nat × Nat} {Q : Rs → Mm → Prop} (h : LI g m d b Ls X c) (hc : c < 512) (hi : i + 4 ≤ Ls) (hLs : Ls ≤ 2048) (hu : u.1 + 30 ≤ lw_rc ∧ u.2 + 230 ≤ lw_rs)
    (K : ∀ m2, LI g m2 d b Ls X (c + 1) → G g ML_law Q 1834 [(4, .int (nI i)), (3, .ref (d + 343)), (2, .ref (d + 334)), (1, .ref d), (0, .ref b)] [] (u.1 + 30, u.2 + 230) m2) : G g ML_law Q 793 [(4, .int (nI i)), (3, .ref (d + 343)), (2, .ref (d + 334)), (1, .ref d), (0, .ref b)] [] u m := by
  obtain ⟨k, kb, ⟨hb, hX, hbd⟩, hto, hMd, hKd, hfz, hDk, hk3, hk5, hzi, hk6, hzx⟩ := id h
  obtain ⟨hD, hR, hV, hl, hkb, hf⟩ := id hDk
  have hz := hzi.1
  refine op_firstError g (v := nI (plc (im m (d + 334 + 4)) kb)) (P := fun m1 => m1 = m) (P2 := fun m1 m2 => ∃ J, m2 = wI m1 J ∧ sc (d + 334) (th m1 (d + 334) 0) J) hD.t (cn_X9_firstError g (0, 0) hD hl hkb hf) (fun m1 h1 => ?_) hu (fun m1 h1 m2 h2 => K m2 ?_)
  · subst h1
    exact ⟨hMd.t, cn_X10_firstError g (0, 0) hMd rfl hk5 hkb⟩
  · subst h1
    obtain ⟨J, rfl, hJ⟩ := h2
    exact h.same (m1 := m1) (Nat.le_refl _) rfl rfl rfl rfl rfl rfl hJ.B
