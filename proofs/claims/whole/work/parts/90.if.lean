/-! THE LAW: the buffer, undo -/
theorem LI.app {g : Gp} {m m0 m1 m2 : Mm} {d b Ls : Nat} {X : Nat → Int32} {c k kb kb' e9 : Nat} {w : Int64} {y v9 : Int32} {f' : Nat → Int32} {J : Nat → Nat → Int32} (h : LI g m d b Ls X c) (hk9 : im m (d + 334) 3 = nI k) (hk6 : k ≤ 6) (hzi : ZI c (im m (d + 334 + 1))) (hzx : ∀ i, i < k → ZX (fun j => im m (d + 334 + 2) (689 * i + j))) (hH : Hd m m0 d) (hK : DkV m0 d (d + 344) c k kb' (im m (d + 334 + 1)) (fun i j => im m (d + 334 + 2) (689 * i + j)) f')
    (e1 : m1 = sJ m0 (d + 343) 0 w) (e2 : m2 = wI m1 J) (hf : ∀ e, e < kb' → u2 (th m1 (d + 334) 0) (d + 334 + 4) e9 v9 (d + 334 + 4) e = f' e) (hs : sc (d + 334) (u2 (u2 (th m1 (d + 334) 0) (d + 334 + 4) e9 v9) (d + 334) 5 (nI kb')) J) : LI g m2 d b Ls X (c + 1) := by
  subst e1
  subst e2
  have hfz : d + 344 ≤ fz m := by obtain ⟨_, _, _, _, _, _, h7, _⟩ := id h; exact h7
  have him : ∀ x, d + 334 ≤ x → x < d + 344 → im m0 x = im m x := fun x h1 h2 => ((hH.2 x (by omega)).2 (by omega)).1
  refine h.of hH.1 (fun x hx => ⟨(hH.2 x hx).1.1, (hH.2 x hx).2⟩) (J := u2 (u2 (th (sJ m0 (d + 343) 0 w) (d + 334) 0) (d + 334 + 4) e9 v9) (d + 334) 5 (nI kb')) (fun x hx => ?_) (m2 := wI (sJ m0 (d + 343) 0 w) J) rfl rfl rfl hs.B hK hzi.up hzx (LI.r10 (g := g) (X := X) (b := b) (Ls := Ls) hK) hk6 ?_ (fun i _ j _ => ?_) (fun e he => ?_) ?_ (u2_s _ _ _ _)
  · rw [u2_o _ _ _ _ (by omega), u2_o _ _ _ _ (by omega)]; exact u2_o _ _ _ _ (by omega)
  · rw [u2_o _ _ _ _ (by omega), u2_o _ _ _ _ (by omega)]; exact (u2_o _ _ _ _ (by omega)).trans (him _ (by omega) (by omega))
  · rw [u2_o _ _ _ _ (by omega), u2_o _ _ _ _ (by omega)]
    exact (congrFun (u2_o _ _ _ _ (by omega)) _).trans (congrFun (him _ (by omega) (by omega)) _)
  · rw [u2_o _ _ _ _ (by omega)]; exact hf e he
  · rw [u2_n _ _ _ _ (by omega), u2_o _ _ _ _ (by omega)]
    exact (u2_n _ _ _ _ (by omega)).trans ((congrFun (him _ (by omega) (by omega)) 3).trans hk9)
theorem LI.und {g : Gp} {m m0 m1 m2 : Mm} {d b Ls : Nat} {X : Nat → Int32} {c k kb : Nat} {w : Int64} {J : Nat → Nat → Int32} (h : LI g m d b Ls X c) (hb9 : im m (d + 334) 5 = nI kb) (hk6 : k + 1 ≤ 6) (hzx : ∀ i, i < k + 1 → ZX (fun j => im m (d + 334 + 2) (689 * i + j))) (hH : Hd m m0 d) (hK : DkV m0 d (d + 344) c k kb (fun j => im m (d + 334 + 2) (689 * k + j)) (fun i j => im m (d + 334 + 2) (689 * i + j)) (im m (d + 334 + 4))) (hzo : ZOk c (fun j => im m (d + 334 + 2) (689 * k + j)))
    (e1 : m1 = sJ m0 (d + 343) 0 w) (e2 : m2 = wI m1 J) (hs : sc (d + 334) (cpI (u2 (th m1 (d + 334) 0) (d + 334) 3 (nI k)) (d + 334 + 1) 0 689 (fun j => im m1 (d + 334 + 2) (689 * k + j))) J) : LI g m2 d b Ls X (c + 1) := by
  subst e1
  subst e2
  have hfz : d + 344 ≤ fz m := by obtain ⟨_, _, _, _, _, _, h7, _⟩ := id h; exact h7
  have him : ∀ x, d + 334 ≤ x → x < d + 344 → im m0 x = im m x := fun x h1 h2 => ((hH.2 x (by omega)).2 (by omega)).1
  have hz0 := hzo.n0.hi
  have hm0 : im (sJ m0 (d + 343) 0 w) = im m0 := rfl
  have ej : ∀ j, j < 689 → cpI (u2 (th (sJ m0 (d + 343) 0 w) (d + 334) 0) (d + 334) 3 (nI k)) (d + 334 + 1) 0 689 (fun j => im (sJ m0 (d + 343) 0 w) (d + 334 + 2) (689 * k + j)) (d + 334 + 1) j = im m (d + 334 + 2) (689 * k + j) := fun j hj => by
    unfold cpI
    rw [if_pos (by omega), hm0, him _ (by omega) (by omega), Nat.sub_zero]
  obtain ⟨hD, hR, hV, hl, hkb, hf⟩ := hK
  have hK2 : DkV m0 d (d + 344) c k kb (cpI (u2 (th (sJ m0 (d + 343) 0 w) (d + 334) 0) (d + 334) 3 (nI k)) (d + 334 + 1) 0 689 (fun j => im (sJ m0 (d + 343) 0 w) (d + 334 + 2) (689 * k + j)) (d + 334 + 1)) (fun i j => im m (d + 334 + 2) (689 * i + j)) (im m (d + 334 + 4)) :=
    ⟨hD, hR.cg hz0 hzo.n1.hi (fun s hs => (hzo.row hs).1.hi) (fun r hr => (hzo.mem hr).1.hi) ej, hV, hl, hkb, hf⟩
  refine h.of hH.1 (fun x hx => ⟨(hH.2 x hx).1.1, (hH.2 x hx).2⟩) (J := cpI (u2 (th (sJ m0 (d + 343) 0 w) (d + 334) 0) (d + 334) 3 (nI k)) (d + 334 + 1) 0 689 (fun j => im (sJ m0 (d + 343) 0 w) (d + 334 + 2) (689 * k + j))) (fun x hx => ?_) (m2 := wI (sJ m0 (d + 343) 0 w) J) rfl rfl rfl hs.B hK2 ⟨(hzo.cgx ej).up, (hzx k (by omega)).cgx hz0 ej⟩ (fun i hi => hzx i (by omega)) (LI.r10 (g := g) (X := X) (b := b) (Ls := Ls) hK2) (by omega) rfl (fun i _ j _ => ?_) (fun e he => ?_) ?_ ?_
  · rw [cpI_ne _ _ _ _ _ (by omega), u2_o _ _ _ _ (by omega)]; exact u2_o _ _ _ _ (by omega)
  · rw [cpI_ne _ _ _ _ _ (by omega), u2_o _ _ _ _ (by omega)]
    exact (congrFun (u2_o _ _ _ _ (by omega)) _).trans (congrFun (him _ (by omega) (by omega)) _)
  · rw [cpI_ne _ _ _ _ _ (by omega), u2_o _ _ _ _ (by omega)]
    exact (congrFun (u2_o _ _ _ _ (by omega)) _).trans (congrFun (him _ (by omega) (by omega)) _)
  · rw [cpI_ne _ _ _ _ _ (by omega)]; exact u2_s _ _ _ _
  · rw [cpI_ne _ _ _ _ _ (by omega), u2_n _ _ _ _ (by omega)]
    exact (u2_n _ _ _ _ (by omega)).trans ((congrFun (him _ (by omega) (by omega)) 5).trans hb9)
theorem it_append (g : Gp) {m : Mm} {d b Ls c i : Nat} {X : Nat → Int32} {u : Nat × Nat} {Q : Rs → Mm → Prop} (h : LI g m d b Ls X c) (hc : c < 512) (hi : i + 4 ≤ Ls) (hLs : Ls ≤ 2048) (hu : u.1 + 30 ≤ lw_rc ∧ u.2 + 230 ≤ lw_rs)
    (K : ∀ m2, LI g m2 d b Ls X (c + 1) → ∀ x5 x6 : Int32, G g ML_law Q 1834 [(6, .int x6), (5, .int x5), (4, .int (nI i)), (3, .ref (d + 343)), (2, .ref (d + 334)), (1, .ref d), (0, .ref b)] [] (u.1 + 30, u.2 + 230) m2) : G g ML_law Q 724 [(4, .int (nI i)), (3, .ref (d + 343)), (2, .ref (d + 334)), (1, .ref d), (0, .ref b)] [] u m := by
  obtain ⟨k, kb, ⟨hb, hX, hbd⟩, hto, hMd, hKd, hfz, hDk, hk3, hk5, hzi, hk6, hzx⟩ := id h
  obtain ⟨hD, hR, hV, hl, hkb, hf⟩ := id hDk
  have hz := hzi.1
  by_cases h1 : nI 33 ≤ (X (i + 1)) ∧ (X (i + 1)) ≤ nI 126
  · by_cases h2 : kb < 60
    · refine op_append g (c := 0) (v := nI (kb + 1)) (cs := (0, 0)) (P := fun m1 => ∃ m0, (Hd m m0 d ∧ DkV m0 d (d + 344) c k (kb + 1) (im m (d + 334 + 1)) (fun i j => im m (d + 334 + 2) (689 * i + j)) (u1 (im m (d + 334 + 4)) kb (X (i + 1)))) ∧ m1 = sJ m0 (d + 343) 0 (nI (kb + 1)).toInt64) (P2 := fun m1 m2 => ∃ J, m2 = wI m1 J ∧ sc (d + 334) (u2 (u2 (th m1 (d + 334) 0) (d + 334 + 4) kb (X (i + 1))) (d + 334) 5 (nI (kb + 1))) J) hi hLs hb hX (hL_append_0 g (0, 0) hD.t (cn_X9_append g (0, 0) (Nat.le_refl _) hKd hDk hz h1 h2) (fun r m1 q => q) (fun m1 q => (q.1.2 _ (by omega)).1.1.trans hto)) ⟨by decide, by decide⟩ (by decide) (fun m1 h8 => ?_) (fun m1 h8 m2 h9 => ?_) hu (fun m1 h8 m2 h9 x5 x6 => K m2 ?_ x5 x6)
      · obtain ⟨m0, ⟨hH, hK⟩, rfl⟩ := h8
        have hM0 := hMd.hd hH hfz
        exact ⟨(hH.2 b (by omega)).1.1.trans hb, ((hH.2 b (by omega)).2 (by omega)).1.trans hX, hM0.t, cn_X10_append_0 g (0, 0) (m := sJ m0 (d + 343) 0 (nI (kb + 1)).toInt64) hM0 ((congrFun ((hH.2 (d + 334) (by omega)).2 (by omega)).1 5).trans hk5) hkb h1 h2⟩
      · obtain ⟨m0, ⟨hH, hK⟩, rfl⟩ := h8
        obtain ⟨J, rfl, hJ⟩ := h9
        exact ⟨(show MdOk m0 (d + 334) from hMd.hd hH hfz), (hH.2 _ (by omega)).1.1.trans hto, (hJ _ _ (by unfold scr; omega)).trans ((u2_n _ _ _ _ (by omega)).trans ((u2_n _ _ _ _ (by omega)).trans (u2_s _ _ _ _))), fun _ => u2_s _ _ _ _⟩
      · obtain ⟨m0, ⟨hH, hK⟩, e1⟩ := h8
        obtain ⟨J, e2, hJ⟩ := h9
        refine h.app (y := (X (i + 1))) (kb := kb) hk3 hk6 hzi hzx hH hK e1 e2 (fun e he => ?_) hJ
        subst e1
        have him := ((hH.2 (d + 334 + 4) (by omega)).2 (by omega)).1
        by_cases q : e = kb
        · subst q; rw [u2_s, u1_s]
        · rw [u2_n _ _ _ _ (by omega), u1_n _ _ _ q]
          exact (congrFun (u2_o _ _ _ _ (by omega)) e).trans (congrFun him e)
    · skip
      refine op_append g (c := 2) (v := nI 0) (cs := (1, 6)) (P := fun m1 => ∃ n, fz m ≤ n ∧ m1 = gr m n) (P2 := fun m1 m2 => ∃ J, m2 = wI m1 J ∧ sc (d + 334) (th m1 (d + 334) 2) J) hi hLs hb hX (hL_append_x2 g hD.t (cx_X9_append_3 g (0, 0) hD hl hkb h1 h2)) ⟨by decide, by decide⟩ (by decide) (fun m1 h8 => ?_) (fun m1 h8 m2 h9 => ?_) hu (fun m1 h8 m2 h9 x5 x6 => K m2 ?_ x5 x6)
      · obtain ⟨n, hn, rfl⟩ := h8
        exact ⟨hb, hX, hMd.t, cn_X10_append_2 g (0, 0) (m := gr m n) hMd hk5 hkb h1 (by omega)⟩
      · obtain ⟨n, hn, rfl⟩ := h8
        obtain ⟨J, rfl, hJ⟩ := h9
        exact ⟨hMd, hto, (hJ _ _ (by unfold scr; omega)).trans (u2_s _ _ _ _), fun q => absurd q (by decide)⟩
      · obtain ⟨n, hn, rfl⟩ := h8
        obtain ⟨J, rfl, hJ⟩ := h9
        exact h.same (m1 := gr m n) hn rfl rfl rfl rfl rfl rfl hJ.B
  · skip
    refine op_append g (c := 1) (v := nI 0) (cs := (1, 6)) (P := fun m1 => ∃ n, fz m ≤ n ∧ m1 = gr m n) (P2 := fun m1 m2 => ∃ J, m2 = wI m1 J ∧ sc (d + 334) (th m1 (d + 334) 1) J) hi hLs hb hX (hL_append_x1 g hD.t (cx_X9_append_2 g (0, 0) hD hl hkb h1)) ⟨by decide, by decide⟩ (by decide) (fun m1 h8 => ?_) (fun m1 h8 m2 h9 => ?_) hu (fun m1 h8 m2 h9 x5 x6 => K m2 ?_ x5 x6)
    · obtain ⟨n, hn, rfl⟩ := h8
      exact ⟨hb, hX, hMd.t, cn_X10_append_1 g (0, 0) (m := gr m n) hMd h1⟩
    · obtain ⟨n, hn, rfl⟩ := h8
      obtain ⟨J, rfl, hJ⟩ := h9
      exact ⟨hMd, hto, (hJ _ _ (by unfold scr; omega)).trans (u2_s _ _ _ _), fun q => absurd q (by decide)⟩
    · obtain ⟨n, hn, rfl⟩ := h8
      obtain ⟨J, rfl, hJ⟩ := h9
      exact h.same (m1 := gr m n) hn rfl rfl rfl rfl rfl rfl hJ.B
