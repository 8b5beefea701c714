/-! THE LAW: undo, clearBuffer -/
theorem u2_id {α : Type} (f : Nat → Nat → α) (a k : Nat) : u2 f a k (f a k) = f := by
  funext x y
  by_cases h : x = a ∧ y = k
  · rw [h.1, h.2, u2_s]
  · rw [u2_n _ _ _ _ h]
theorem sJ_id (m : Mm) (a k : Nat) : sJ m a k (jm m a k) = m := by
  show (fz m, tg m, im m, rf m, u2 (jm m) a k (jm m a k)) = m
  rw [u2_id]; rfl
theorem it_undo (g : Gp) {m : Mm} {d b Ls c i : Nat} {X : Nat → Int32} {u : Nat × Nat} {Q : Rs → Mm → Prop} (h : LI g m d b Ls X c) (hc : c < 512) (hi : i + 4 ≤ Ls) (hLs : Ls ≤ 2048) (hu : u.1 + 30 ≤ lw_rc ∧ u.2 + 230 ≤ lw_rs)
    (K : ∀ m2, LI g m2 d b Ls X (c + 1) → ∀ x5 x6 : Int32, G g ML_law Q 1834 [(6, .int x6), (5, .int x5), (4, .int (nI i)), (3, .ref (d + 343)), (2, .ref (d + 334)), (1, .ref d), (0, .ref b)] [] (u.1 + 30, u.2 + 230) m2) : G g ML_law Q 906 [(4, .int (nI i)), (3, .ref (d + 343)), (2, .ref (d + 334)), (1, .ref d), (0, .ref b)] [] u m := by
  obtain ⟨k, kb, ⟨hb, hX, hbd⟩, hto, hMd, hKd, hfz, hDk, hk3, hk5, hzi, hk6, hzx⟩ := id h
  obtain ⟨hD, hR, hV, hl, hkb, hf⟩ := id hDk
  have hz := hzi.1
  by_cases h1 : 0 < k
  · obtain ⟨k, rfl⟩ : ∃ k', k = k' + 1 := ⟨k - 1, by omega⟩
    refine op_undo g (c := 0) (v := nI k) (cs := (0, 0)) (P := fun m1 => ∃ m0, (Hd m m0 d ∧ DkV m0 d (d + 344) c k kb (fun j => im m (d + 334 + 2) (689 * k + j)) (fun i j => im m (d + 334 + 2) (689 * i + j)) (im m (d + 334 + 4)) ∧ ZOk c (fun j => im m (d + 334 + 2) (689 * k + j))) ∧ m1 = sJ m0 (d + 343) 0 (nI k).toInt64) (P2 := fun m1 m2 => ∃ J, m2 = wI m1 J ∧ sc (d + 334) (cpI (u2 (th m1 (d + 334) 0) (d + 334) 3 (nI k)) (d + 334 + 1) 0 689 (fun j => im m1 (d + 334 + 2) (689 * k + j))) J) hi hLs hb hX (hL_undo_0 g (0, 0) hD.t (cn_X9_undo g (0, 0) (Nat.le_refl _) hKd hDk hz) (fun r m1 q => ⟨q.1.1, q.1.2.1, q.1.2.2, q.2⟩) (fun m1 q => (q.1.2 _ (by omega)).1.1.trans hto)) ⟨by decide, by decide⟩ (by decide) (fun m1 h8 => ?_) (fun m1 h8 m2 h9 => ?_) hu (fun m1 h8 m2 h9 x5 x6 => K m2 ?_ x5 x6)
    · obtain ⟨m0, ⟨hH, hK, hzo⟩, rfl⟩ := h8
      have hM0 := hMd.hd hH hfz
      exact ⟨(hH.2 b (by omega)).1.1.trans hb, ((hH.2 b (by omega)).2 (by omega)).1.trans hX, hM0.t, cn_X10_undo_0 g (0, 0) (m := sJ m0 (d + 343) 0 (nI k).toInt64) hM0 (by omega) ((congrFun ((hH.2 (d + 334) (by omega)).2 (by omega)).1 3).trans hk3)⟩
    · obtain ⟨m0, ⟨hH, hK, hzo⟩, rfl⟩ := h8
      obtain ⟨J, rfl, hJ⟩ := h9
      exact ⟨(show MdOk m0 (d + 334) from hMd.hd hH hfz), (hH.2 _ (by omega)).1.1.trans hto, (hJ _ _ (by unfold scr; omega)).trans ((congrFun (cpI_ne _ _ _ _ _ (by omega)) 6).trans ((u2_n _ _ _ _ (by omega)).trans (u2_s _ _ _ _))), fun _ => u2_s _ _ _ _⟩
    · obtain ⟨m0, ⟨hH, hK, hzo⟩, e1⟩ := h8
      obtain ⟨J, e2, hJ⟩ := h9
      exact h.und hk5 hk6 hzx hH hK hzo e1 e2 hJ
  · have hk48 : im m (d + 48) 2 = nI k := by obtain ⟨fst, ⟨⟨_, _, q, _⟩, _⟩⟩ := hV; exact q
    obtain rfl : k = 0 := by omega
    refine op_undo g (c := 1) (v := nI 0) (cs := (1, 6)) (P := fun m1 => ∃ n, fz m ≤ n ∧ m1 = gr m n) (P2 := fun m1 m2 => ∃ J, m2 = wI m1 J ∧ sc (d + 334) (th m1 (d + 334) 1) J) hi hLs hb hX (hL_undo_x1 g hD.t (cx_X9_undo_3 g (0, 0) hD hk48 hk6 h1)) ⟨by decide, by decide⟩ (by decide) (fun m1 h8 => ?_) (fun m1 h8 m2 h9 => ?_) hu (fun m1 h8 m2 h9 x5 x6 => K m2 ?_ x5 x6)
    · obtain ⟨n, hn, rfl⟩ := h8
      exact ⟨hb, hX, hMd.t, cn_X10_undo_1 g (0, 0) (m := gr m n) hMd hk3⟩
    · obtain ⟨n, hn, rfl⟩ := h8
      obtain ⟨J, rfl, hJ⟩ := h9
      exact ⟨hMd, hto, (hJ _ _ (by unfold scr; omega)).trans (u2_s _ _ _ _), fun q => absurd q (by decide)⟩
    · obtain ⟨n, hn, rfl⟩ := h8
      obtain ⟨J, rfl, hJ⟩ := h9
      exact h.same (m1 := gr m n) hn rfl rfl rfl rfl rfl rfl hJ.B
theorem it_clearBuffer (g : Gp) {m : Mm} {d b Ls c i : Nat} {X : Nat → Int32} {u : Nat × Nat} {Q : Rs → Mm → Prop} (h : LI g m d b Ls X c) (hc : c < 512) (hi : i + 4 ≤ Ls) (hLs : Ls ≤ 2048) (hu : u.1 + 30 ≤ lw_rc ∧ u.2 + 230 ≤ lw_rs)
    (K : ∀ m2, LI g m2 d b Ls X (c + 1) → G g ML_law Q 1834 [(4, .int (nI i)), (3, .ref (d + 343)), (2, .ref (d + 334)), (1, .ref d), (0, .ref b)] [] (u.1 + 30, u.2 + 230) m2) : G g ML_law Q 780 [(4, .int (nI i)), (3, .ref (d + 343)), (2, .ref (d + 334)), (1, .ref d), (0, .ref b)] [] u m := by
  obtain ⟨k, kb, ⟨hb, hX, hbd⟩, hto, hMd, hKd, hfz, hDk, hk3, hk5, hzi, hk6, hzx⟩ := id h
  obtain ⟨hD, hR, hV, hl, hkb, hf⟩ := id hDk
  have hz := hzi.1
  refine op_clearBuffer g (v := nI kb) (P := fun m1 => Hd m m1 d ∧ DkV m1 d (d + 344) c k 0 (im m (d + 334 + 1)) (fun i j => im m (d + 334 + 2) (689 * i + j)) (im m (d + 334 + 4))) (P2 := fun m1 m2 => ∃ J, m2 = wI m1 J ∧ sc (d + 334) (u2 (th m1 (d + 334) 0) (d + 334) 5 (nI 0)) J) hD.t (cn_X9_clearBuffer g (0, 0) (Nat.le_refl _) hKd hDk hz) (fun m1 h8 => ?_) hu (fun m1 h8 m2 h9 => K m2 ?_)
  · obtain ⟨hH, hK⟩ := h8
    have hM0 := hMd.hd hH hfz
    have q := cn_X10_clearBuffer g (0, 0) (m := m1) hM0
    rw [show im m1 (d + 334) 5 = nI kb from (congrFun ((hH.2 (d + 334) (by omega)).2 (by omega)).1 5).trans hk5] at q
    exact ⟨hM0.t, q⟩
  · obtain ⟨hH, hK⟩ := h8
    obtain ⟨J, e2, hJ⟩ := h9
    refine h.app (y := 0) (kb := 0) (kb' := 0) (e9 := 0) (v9 := th m1 (d + 334) 0 (d + 334 + 4) 0) hk3 hk6 hzi hzx hH hK (sJ_id m1 (d + 343) 0).symm e2 (fun e he => absurd he (Nat.not_lt_zero _)) ?_
    rw [u2_id]
    exact hJ
