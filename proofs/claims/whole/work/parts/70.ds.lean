/-! THE CLASS: what changes a desk -/
/-- but for the desk's own cells, all that was there is as it was -/
def Hd (m m1 : Mm) (d : Nat) : Prop := fz m ≤ fz m1 ∧ ∀ x, x < fz m → (tg m1 x = tg m x ∧ jm m1 x = jm m x) ∧ ((x < d ∨ d + 334 ≤ x) → im m1 x = im m x ∧ rf m1 x = rf m x)
theorem Hd.rfl' (m : Mm) (d : Nat) : Hd m m d := ⟨Nat.le_refl _, fun _ _ => ⟨⟨rfl, rfl⟩, fun _ => ⟨rfl, rfl⟩⟩⟩
theorem Hd.tr {m m1 m2 : Mm} {d : Nat} (h : Hd m m1 d) (k : Hd m1 m2 d) : Hd m m2 d := ⟨Nat.le_trans h.1 k.1, fun x hx => ⟨⟨(k.2 x (Nat.lt_of_lt_of_le hx h.1)).1.1.trans (h.2 x hx).1.1, (k.2 x (Nat.lt_of_lt_of_le hx h.1)).1.2.trans (h.2 x hx).1.2⟩, fun q => ⟨((k.2 x (Nat.lt_of_lt_of_le hx h.1)).2 q).1.trans ((h.2 x hx).2 q).1, ((k.2 x (Nat.lt_of_lt_of_le hx h.1)).2 q).2.trans ((h.2 x hx).2 q).2⟩⟩⟩
theorem Hd.fb {m m1 : Mm} {d lo hi : Nat} {I : Nat → Nat → Int32} {R : Nat → Nat → Option Nat} (h : Hd m m1 d) (hF : FrB m1 lo hi I R) (h1 : d ≤ lo) (h2 : hi ≤ d + 334) : Hd m (wM m1 I R) d :=
  h.tr ⟨Nat.le_refl _, fun x _ => ⟨⟨rfl, rfl⟩, fun q => hF x (by omega)⟩⟩
def DkV (m : Mm) (d B c k kb : Nat) (z : Nat → Int32) (rows : Nat → Nat → Int32) (f : Nat → Int32) : Prop := DkT m d ∧ Rp m B (d + 1) z ∧ (∃ fst, HsV m B (d + 48) c fst k rows) ∧ im m (d + 332) 1 = nI kb ∧ kb ≤ 60 ∧ ∀ e, e < kb → im m (d + 333) e = f e
def KdT (g : Gp) (m : Mm) (d : Nat) : Prop := CsT g m ∧ (g.2.1 < d ∧ g.2.2.1 < d ∧ g.2.2.2 < d) ∧ d ≤ fz m
theorem KdT.fd {g : Gp} {m m1 : Mm} {d : Nat} (h : KdT g m d) (hF : Hd m m1 d) : KdT g m1 d := by
  obtain ⟨hC, ⟨h1, h2, h3⟩, h4⟩ := h
  have a1 := hF.2 _ (Nat.lt_of_lt_of_le h1 h4)
  have a2 := hF.2 _ (Nat.lt_of_lt_of_le h2 h4)
  have a3 := hF.2 _ (Nat.lt_of_lt_of_le h3 h4)
  refine ⟨?_, ⟨h1, h2, h3⟩, Nat.le_trans h4 hF.1⟩
  unfold CsT at hC ⊢
  rw [a1.1.1, a2.1.1, a3.1.1, (a1.2 (Or.inl h1)).1, (a2.2 (Or.inl h2)).1, (a3.2 (Or.inl h3)).1]
  exact hC
theorem DkT.w {m : Mm} {d lo hi : Nat} {I : Nat → Nat → Int32} {R : Nat → Nat → Option Nat} (h : DkT m d) (hF : FrB m lo hi I R) (h1 : d + 1 ≤ lo) (h2 : hi ≤ d + 332) (hS : StT (wM m I R) (d + 1)) (hH : HsT (wM m I R) (d + 48)) : DkT (wM m I R) d := by
  refine ⟨⟨⟨h.t, ?_, ?_, ?_⟩, h.tb, ?_, h.tc⟩, hS, hH⟩
  · rw [rf_wM, (hF d (by omega)).2]; exact h.r0
  · rw [rf_wM, (hF d (by omega)).2]; exact h.r1
  · rw [rf_wM, (hF d (by omega)).2]; exact h.r2
  · rw [rf_wM, (hF (d + 332) (by omega)).2]; exact h.rb
section DKV
variable {m : Mm} {d B c k kb : Nat} {z : Nat → Int32} {rows : Nat → Nat → Int32} {f : Nat → Int32} {I : Nat → Nat → Int32} {R : Nat → Nat → Option Nat}
theorem DkV.sv {k2 : Nat} {rows2 : Nat → Nat → Int32} {fst2 : Nat} (h : DkV m d B c k kb z rows f) (h0 : nv (z 0) ≤ 10) (hB : d + 344 ≤ B) (hF : FrB m (d + 48) (d + 48 + 284) I R) (hH : HsT (wM m I R) (d + 48)) (hV : HsV (wM m I R) B (d + 48) c fst2 k2 rows2) : DkV (wM m I R) d B c k2 kb z rows2 f := by
  obtain ⟨hD, hR, hV0, hl, hk6, hf⟩ := h
  refine ⟨hD.w hF (by omega) (by omega) (hF.st (by omega) hD.s) hH, hF.rp (by omega) (by omega) hR h0, ⟨fst2, hV⟩, ?_, hk6, fun e he => ?_⟩
  · rw [im_wM, (hF (d + 332) (by omega)).1]; exact hl
  · rw [im_wM, (hF (d + 333) (by omega)).1]; exact hf e he
theorem DkV.nw {z' : Nat → Int32} (h : DkV m d B c k kb z rows f) (hB : d + 344 ≤ B) (hF : FrB m (d + 1) (d + 1 + 47) I R) (hS : StT (wM m I R) (d + 1)) (hR : Rp (wM m I R) B (d + 1) z') : DkV (wM m I R) d B c k kb z' rows f := by
  obtain ⟨hD, hR0, ⟨fst, hV⟩, hl, hk6, hf⟩ := h
  refine ⟨hD.w hF (by omega) (by omega) hS (hD.h.w0 hF (by omega)), hR, ⟨fst, hV.w0 hF (by omega) (by omega)⟩, ?_, hk6, fun e he => ?_⟩
  · rw [im_wM, (hF (d + 332) (by omega)).1]; exact hl
  · rw [im_wM, (hF (d + 333) (by omega)).1]; exact hf e he
theorem DkV.bf {kb' : Nat} {f' : Nat → Int32} (h : DkV m d B c k kb z rows f) (h0 : nv (z 0) ≤ 10) (hB : d + 344 ≤ B) (hF : FrB m (d + 332) (d + 334) I (rf m)) (hl : I (d + 332) 1 = nI kb') (hk6 : kb' ≤ 60) (hf : ∀ e, e < kb' → I (d + 333) e = f' e) : DkV (wM m I (rf m)) d B c k kb' z rows f' := by
  obtain ⟨hD, hR0, ⟨fst, hV⟩, _, _, _⟩ := h
  exact ⟨⟨hD.1, hF.st (by omega) hD.s, hD.h.w0 hF (by omega)⟩, hF.rp (by omega) (by omega) hR0 h0, ⟨fst, hV.w0 hF (by omega) (by omega)⟩, hl, hk6, hf⟩
end DKV
abbrev kQ (m : Mm) (d B c k kb : Nat) (z : Nat → Int32) (rows : Nat → Nat → Int32) (f : Nat → Int32) (v : Option Value) : Rs → Mm → Prop := fun r m1 => r = .inl v ∧ Hd m m1 d ∧ DkV m1 d B c k kb z rows f
abbrev sk (k : Nat) : Nat := if k = 6 then 6 else k + 1
set_option maxRecDepth 100000 in
theorem cn_X9_rate (g : Gp) (cs : Nat × Nat) {m : Mm} {d B c k kb : Nat} {z : Nat → Int32} {rows : Nat → Nat → Int32} {f : Nat → Int32} (hB : d + 344 ≤ B) (hG : KdT g m d) (hK : DkV m d B c k kb z rows f) (hz : ZOk c z) {j : Nat} (hj : j < 4) {x : Int32} (h : nI 1 ≤ x ∧ x ≤ nI 99) : Cn g (MX9_rate cs) [.ref (d), .int (nI (j)), .int (x)] m (kQ m d B c (sk k) kb (u1 z (4 + 5 * j) x) (svR k z rows) f (some (.int (z (4 + 5 * j))))) := by
  have hz0 := hz.n0.hi
  have hz1 := hz.n1.hi
  have hSB : d + 1 + 47 ≤ B := by omega
  have hC := hG.1
  have hK0 := hK
  obtain ⟨hD, hR, ⟨fst, hV⟩, hl, hk6, hf⟩ := hK0
  refine Cn.of pn_X9 (Nat.le_of_ble_eq_true rfl) rfl ?_
  refine g_iload_n 1 dX9_rate_0 rfl rfl ?_
  refine gN_iconst 4 dX9_rate_1 (by decide) ?_
  refine gd_callS _ _ _ _ (cn_X9_checkNumber g (0, 0) (j := j) (N := 4) (by omega) (by omega)) ⟨rfl, rfl⟩ (ok_X9_checkNumber _) mlX9_30 st_X9_checkNumber rfl ⟨Nat.le_of_ble_eq_true rfl, Nat.le_of_ble_eq_true rfl⟩ (by exact Nat.le_of_ble_eq_true rfl) ⟨Nat.zero_le _, Nat.zero_le _⟩ dX9_rate_2 rfl ?_
  refine g_iload_n 2 dX9_rate_5 rfl rfl ?_
  refine gN_iconst 1 dX9_rate_6 (by decide) ?_
  refine gN_bipush 99 dX9_rate_7 (by decide) ?_
  refine gd_callS _ _ _ _ (cn_X9_checkRange g (0, 0) (h)) ⟨rfl, rfl⟩ (ok_X9_checkRange _) mlX9_34 st_X9_checkRange rfl ⟨Nat.le_of_ble_eq_true rfl, Nat.le_of_ble_eq_true rfl⟩ (by exact Nat.le_of_ble_eq_true rfl) ⟨Nat.zero_le _, Nat.zero_le _⟩ dX9_rate_9 rfl ?_
  refine g_aload_n 0 dX9_rate_12 rfl rfl ?_
  refine gN_getR (d + 48) flX9_19 (fun _ _ _ => rfl) 0 (hD.t) (hD.r1) dX9_rate_13 ?_
  refine g_aload_n 0 dX9_rate_16 rfl rfl ?_
  refine gN_getR (d + 1) flX9_10 (fun _ _ _ => rfl) 0 (hD.t) (hD.r0) dX9_rate_17 ?_
  refine gm_callV _ _ _ (cn_X2_save g (0, 0) (m := m) (H := d + 48) (S := d + 1) (B := B) (c := c) (z := z) hD.h hV hD.s hR hz rfl (by omega)) ⟨rfl, rfl⟩ (ok_X2_save _) mlX9_38 in_X2_save se_X2_save 2 0 (hD.h.t) rfl rfl rfl ⟨Nat.le_of_ble_eq_true rfl, Nat.le_of_ble_eq_true rfl⟩ (by exact Nat.le_of_ble_eq_true rfl) ⟨Nat.zero_le _, Nat.zero_le _⟩ dX9_rate_20 rfl (fun I R hP => ?_)
  obtain ⟨hF, hH2, fst2, hV2⟩ := hP
  have hK1 := DkV.sv hK hz0 hB hF hH2 hV2
  have hF1 := Hd.fb (Hd.rfl' m d) hF (by omega) (by omega)
  generalize wM m I R = m1 at hK1 hF1 ⊢
  clear hF hH2 hV2 hD hR hV hl hf hC
  have hG1 := hG.fd hF1
  have hC := hG1.1
  have hK2 := hK1
  obtain ⟨hD, hR, ⟨fst1, hV⟩, hl, _, hf⟩ := hK2
  
  refine g_aload_n 0 dX9_rate_23 rfl rfl ?_
  refine gN_getR (d + 1) flX9_10 (fun _ _ _ => rfl) 0 (hD.t) (hD.r0) dX9_rate_24 ?_
  refine gN_getR (d + 1 + 2) flX9_42 (fun _ _ _ => rfl) 0 (hD.s.t) (hD.s.r1) dX9_rate_27 ?_
  refine g_iload_n 1 dX9_rate_30 rfl rfl ?_
  refine gN_aald 17 4 (d + 1 + 12 + j) (hD.s.t2) (by decide) (by first | omega | exact b01_lt _) (by first | omega | exact b01_lt _) (hD.s.rT (by omega)) dX9_rate_31 ?_
  refine g_astore_n 3 [(3, .ref (d + 1 + 12 + j)), (0, .ref (d)), (1, .int (nI (j))), (2, .int (x))] dX9_rate_32 rfl (Nat.le_of_ble_eq_true rfl) rfl ?_
  refine g_aload_n 3 dX9_rate_33 rfl rfl ?_
  refine gN_getI flX9_46 rfl 0 (hD.s.tT (by omega)) dX9_rate_34 ?_
  refine g_eI (z (4 + 5 * j)) (hR.T0 (by omega)) ?_
  refine g_istore 4 [(4, .int (z (4 + 5 * j))), (3, .ref (d + 1 + 12 + j)), (0, .ref (d)), (1, .int (nI (j))), (2, .int (x))] dX9_rate_37 (Nat.le_of_ble_eq_true rfl) rfl ?_
  refine g_aload_n 3 dX9_rate_39 rfl rfl ?_
  refine g_iload_n 2 dX9_rate_40 rfl rfl ?_
  refine gN_putI fwX9_46 rfl 0 (hD.s.tT (by omega)) dX9_rate_41 ?_
  refine g_iload 4 dX9_rate_44 rfl ?_
  refine g_iret rfl dX9_rate_46 ⟨Nat.zero_le _, Nat.zero_le _⟩ ?_
  refine ⟨rfl, Hd.fb hF1 (lo := d + 1) (hi := d + 48) (((FrB.rfl' _ _ _).i _ (by omega) (by omega))) (by omega) (by omega), DkV.nw hK1 hB (((FrB.rfl' _ _ _).i _ (by omega) (by omega))) (hD.s.w (fun _ _ _ => rfl)) ?_⟩
  refine Rp.up hR hz.ln hSB (((FrB.rfl' _ _ _).i _ (by omega) (by omega))) ?_ ?_ ⟨?_, ?_, ?_, ?_⟩ (fun p hp => ?_) (fun p hp => ?_) (fun p hp => ⟨fun w hw => ?_, ?_⟩) (fun q hq => ?_) (fun q hq => ⟨?_, fun e he => ?_⟩) (fun j hj => ?_)
  · simp (disch := omega) only [im_wM, im_sI, u2_n, u2_s, u1_n, u1_s]
  · simp (disch := omega) only [im_wM, im_sI, u2_n, u2_s, u1_n, u1_s]
  · simp (disch := omega) only [im_wM, im_sI, u2_n, u2_s, u1_n, u1_s]
    first | done | rfl | exact hR.c0
  · simp (disch := omega) only [im_wM, im_sI, u2_n, u2_s, u1_n, u1_s]
    first | done | rfl | exact hR.c1
  · simp (disch := omega) only [im_wM, im_sI, u2_n, u2_s, u1_n, u1_s]
    first | done | rfl | exact hR.c2
  · simp (disch := omega) only [im_wM, im_sI, u2_n, u2_s, u1_n, u1_s]
    first | done | rfl | exact hR.c3
  · skip
    by_cases e1 : p = j
    · subst e1
      refine ⟨?_, ?_, ?_, ?_, ?_⟩
      all_goals (try simp (disch := omega) only [im_wM, im_sI, u2_n, u2_s, u1_n, u1_s])
      all_goals first | done | rfl | exact hR.T0 (by omega) | exact hR.T1 (by omega) | exact hR.T2 (by omega) | exact hR.T3 (by omega) | exact hR.T4 (by omega)
    · skip
      refine ⟨?_, ?_, ?_, ?_, ?_⟩
      all_goals (try simp (disch := omega) only [im_wM, im_sI, u2_n, u2_s, u1_n, u1_s])
      all_goals first | done | rfl | exact hR.T0 (by omega) | exact hR.T1 (by omega) | exact hR.T2 (by omega) | exact hR.T3 (by omega) | exact hR.T4 (by omega)
  · skip
    refine ⟨?_, ?_, ?_⟩
    all_goals (try simp (disch := omega) only [im_wM, im_sI, u2_n, u2_s, u1_n, u1_s])
    all_goals first | done | rfl | exact hR.B0 (by omega) | exact hR.B1 (by omega) | exact hR.B2 (by omega)
  · try simp (disch := omega) only [im_wM, im_sI, u2_n, u2_s, u1_n, u1_s]
    exact hR.W hp hw
  · try simp (disch := omega) only [im_wM, im_sI, u2_n, u2_s, u1_n, u1_s]
    exact hR.W1 hp
  · have h9 := hR.Sg hq
    unfold SgI at h9 ⊢
    simp (disch := omega) only [im_wM, im_sI, u2_n, u2_s, u1_n, u1_s] at h9 ⊢
    exact h9
  · simp (disch := omega) only [im_wM, im_sI, u2_n, u2_s, u1_n, u1_s]
  · simp (disch := omega) only [im_wM, im_sI, u2_n, u2_s, u1_n, u1_s]
  · simp (disch := omega) only [im_wM, im_sI, u2_n, u2_s, u1_n, u1_s]
set_option maxRecDepth 100000 in
theorem cn_X9_pays (g : Gp) (cs : Nat × Nat) {m : Mm} {d B c k kb : Nat} {z : Nat → Int32} {rows : Nat → Nat → Int32} {f : Nat → Int32} (hB : d + 344 ≤ B) (hG : KdT g m d) (hK : DkV m d B c k kb z rows f) (hz : ZOk c z) {j : Nat} (hj : j < 5) {x : Int32} (h : nI 0 ≤ x ∧ x ≤ nI 100) : Cn g (MX9_pays cs) [.ref (d), .int (nI (j)), .int (x)] m (kQ m d B c (sk k) kb (u1 z (64 + 3 * j) x) (svR k z rows) f (some (.int (z (64 + 3 * j))))) := by
  have hz0 := hz.n0.hi
  have hz1 := hz.n1.hi
  have hSB : d + 1 + 47 ≤ B := by omega
  have hC := hG.1
  have hK0 := hK
  obtain ⟨hD, hR, ⟨fst, hV⟩, hl, hk6, hf⟩ := hK0
  refine Cn.of pn_X9 (Nat.le_of_ble_eq_true rfl) rfl ?_
  refine g_iload_n 1 dX9_pays_0 rfl rfl ?_
  refine gN_iconst 5 dX9_pays_1 (by decide) ?_
  refine gd_callS _ _ _ _ (cn_X9_checkNumber g (0, 0) (j := j) (N := 5) (by omega) (by omega)) ⟨rfl, rfl⟩ (ok_X9_checkNumber _) mlX9_30 st_X9_checkNumber rfl ⟨Nat.le_of_ble_eq_true rfl, Nat.le_of_ble_eq_true rfl⟩ (by exact Nat.le_of_ble_eq_true rfl) ⟨Nat.zero_le _, Nat.zero_le _⟩ dX9_pays_2 rfl ?_
  refine g_iload_n 2 dX9_pays_5 rfl rfl ?_
  refine gN_iconst 0 dX9_pays_6 (by decide) ?_
  refine gN_bipush 100 dX9_pays_7 (by decide) ?_
  refine gd_callS _ _ _ _ (cn_X9_checkRange g (0, 0) (h)) ⟨rfl, rfl⟩ (ok_X9_checkRange _) mlX9_34 st_X9_checkRange rfl ⟨Nat.le_of_ble_eq_true rfl, Nat.le_of_ble_eq_true rfl⟩ (by exact Nat.le_of_ble_eq_true rfl) ⟨Nat.zero_le _, Nat.zero_le _⟩ dX9_pays_9 rfl ?_
  refine g_aload_n 0 dX9_pays_12 rfl rfl ?_
  refine gN_getR (d + 48) flX9_19 (fun _ _ _ => rfl) 0 (hD.t) (hD.r1) dX9_pays_13 ?_
  refine g_aload_n 0 dX9_pays_16 rfl rfl ?_
  refine gN_getR (d + 1) flX9_10 (fun _ _ _ => rfl) 0 (hD.t) (hD.r0) dX9_pays_17 ?_
  refine gm_callV _ _ _ (cn_X2_save g (0, 0) (m := m) (H := d + 48) (S := d + 1) (B := B) (c := c) (z := z) hD.h hV hD.s hR hz rfl (by omega)) ⟨rfl, rfl⟩ (ok_X2_save _) mlX9_38 in_X2_save se_X2_save 2 0 (hD.h.t) rfl rfl rfl ⟨Nat.le_of_ble_eq_true rfl, Nat.le_of_ble_eq_true rfl⟩ (by exact Nat.le_of_ble_eq_true rfl) ⟨Nat.zero_le _, Nat.zero_le _⟩ dX9_pays_20 rfl (fun I R hP => ?_)
  obtain ⟨hF, hH2, fst2, hV2⟩ := hP
  have hK1 := DkV.sv hK hz0 hB hF hH2 hV2
  have hF1 := Hd.fb (Hd.rfl' m d) hF (by omega) (by omega)
  generalize wM m I R = m1 at hK1 hF1 ⊢
  clear hF hH2 hV2 hD hR hV hl hf hC
  have hG1 := hG.fd hF1
  have hC := hG1.1
  have hK2 := hK1
  obtain ⟨hD, hR, ⟨fst1, hV⟩, hl, _, hf⟩ := hK2
  
  refine g_aload_n 0 dX9_pays_23 rfl rfl ?_
  refine gN_getR (d + 1) flX9_10 (fun _ _ _ => rfl) 0 (hD.t) (hD.r0) dX9_pays_24 ?_
  refine gN_getR (d + 1 + 3) flX9_52 (fun _ _ _ => rfl) 0 (hD.s.t) (hD.s.r2) dX9_pays_27 ?_
  refine g_iload_n 1 dX9_pays_30 rfl rfl ?_
  refine gN_aald 12 5 (d + 1 + 16 + j) (hD.s.t3) (by decide) (by first | omega | exact b01_lt _) (by first | omega | exact b01_lt _) (hD.s.rB (by omega)) dX9_pays_31 ?_
  refine g_astore_n 3 [(3, .ref (d + 1 + 16 + j)), (0, .ref (d)), (1, .int (nI (j))), (2, .int (x))] dX9_pays_32 rfl (Nat.le_of_ble_eq_true rfl) rfl ?_
  refine g_aload_n 3 dX9_pays_33 rfl rfl ?_
  refine gN_getI flX9_56 rfl 0 (hD.s.tB (by omega)) dX9_pays_34 ?_
  refine g_eI (z (64 + 3 * j)) (hR.B0 (by omega)) ?_
  refine g_istore 4 [(4, .int (z (64 + 3 * j))), (3, .ref (d + 1 + 16 + j)), (0, .ref (d)), (1, .int (nI (j))), (2, .int (x))] dX9_pays_37 (Nat.le_of_ble_eq_true rfl) rfl ?_
  refine g_aload_n 3 dX9_pays_39 rfl rfl ?_
  refine g_iload_n 2 dX9_pays_40 rfl rfl ?_
  refine gN_putI fwX9_56 rfl 0 (hD.s.tB (by omega)) dX9_pays_41 ?_
  refine g_iload 4 dX9_pays_44 rfl ?_
  refine g_iret rfl dX9_pays_46 ⟨Nat.zero_le _, Nat.zero_le _⟩ ?_
  refine ⟨rfl, Hd.fb hF1 (lo := d + 1) (hi := d + 48) (((FrB.rfl' _ _ _).i _ (by omega) (by omega))) (by omega) (by omega), DkV.nw hK1 hB (((FrB.rfl' _ _ _).i _ (by omega) (by omega))) (hD.s.w (fun _ _ _ => rfl)) ?_⟩
  refine Rp.up hR hz.ln hSB (((FrB.rfl' _ _ _).i _ (by omega) (by omega))) ?_ ?_ ⟨?_, ?_, ?_, ?_⟩ (fun p hp => ?_) (fun p hp => ?_) (fun p hp => ⟨fun w hw => ?_, ?_⟩) (fun q hq => ?_) (fun q hq => ⟨?_, fun e he => ?_⟩) (fun j hj => ?_)
  · simp (disch := omega) only [im_wM, im_sI, u2_n, u2_s, u1_n, u1_s]
  · simp (disch := omega) only [im_wM, im_sI, u2_n, u2_s, u1_n, u1_s]
  · simp (disch := omega) only [im_wM, im_sI, u2_n, u2_s, u1_n, u1_s]
    first | done | rfl | exact hR.c0
  · simp (disch := omega) only [im_wM, im_sI, u2_n, u2_s, u1_n, u1_s]
    first | done | rfl | exact hR.c1
  · simp (disch := omega) only [im_wM, im_sI, u2_n, u2_s, u1_n, u1_s]
    first | done | rfl | exact hR.c2
  · simp (disch := omega) only [im_wM, im_sI, u2_n, u2_s, u1_n, u1_s]
    first | done | rfl | exact hR.c3
  · skip
    refine ⟨?_, ?_, ?_, ?_, ?_⟩
    all_goals (try simp (disch := omega) only [im_wM, im_sI, u2_n, u2_s, u1_n, u1_s])
    all_goals first | done | rfl | exact hR.T0 (by omega) | exact hR.T1 (by omega) | exact hR.T2 (by omega) | exact hR.T3 (by omega) | exact hR.T4 (by omega)
  · skip
    by_cases e1 : p = j
    · subst e1
      refine ⟨?_, ?_, ?_⟩
      all_goals (try simp (disch := omega) only [im_wM, im_sI, u2_n, u2_s, u1_n, u1_s])
      all_goals first | done | rfl | exact hR.B0 (by omega) | exact hR.B1 (by omega) | exact hR.B2 (by omega)
    · skip
      refine ⟨?_, ?_, ?_⟩
      all_goals (try simp (disch := omega) only [im_wM, im_sI, u2_n, u2_s, u1_n, u1_s])
      all_goals first | done | rfl | exact hR.B0 (by omega) | exact hR.B1 (by omega) | exact hR.B2 (by omega)
  · try simp (disch := omega) only [im_wM, im_sI, u2_n, u2_s, u1_n, u1_s]
    exact hR.W hp hw
  · try simp (disch := omega) only [im_wM, im_sI, u2_n, u2_s, u1_n, u1_s]
    exact hR.W1 hp
  · have h9 := hR.Sg hq
    unfold SgI at h9 ⊢
    simp (disch := omega) only [im_wM, im_sI, u2_n, u2_s, u1_n, u1_s] at h9 ⊢
    exact h9
  · simp (disch := omega) only [im_wM, im_sI, u2_n, u2_s, u1_n, u1_s]
  · simp (disch := omega) only [im_wM, im_sI, u2_n, u2_s, u1_n, u1_s]
  · simp (disch := omega) only [im_wM, im_sI, u2_n, u2_s, u1_n, u1_s]
set_option maxRecDepth 100000 in
theorem cn_X9_set0 (g : Gp) (cs : Nat × Nat) {m : Mm} {d B c k kb : Nat} {z : Nat → Int32} {rows : Nat → Nat → Int32} {f : Nat → Int32} (hB : d + 344 ≤ B) (hG : KdT g m d) (hK : DkV m d B c k kb z rows f) (hz : ZOk c z) {x : Int32} (h : nI 0 ≤ x ∧ x ≤ nI 100) : Cn g (MX9_set cs) [.ref (d), .int (nI (0)), .int (x)] m (kQ m d B c (sk k) kb (u1 z 2 x) (svR k z rows) f (some (.int (z 2)))) := by
  have hz0 := hz.n0.hi
  have hz1 := hz.n1.hi
  have hSB : d + 1 + 47 ≤ B := by omega
  have hC := hG.1
  have hK0 := hK
  obtain ⟨hD, hR, ⟨fst, hV⟩, hl, hk6, hf⟩ := hK0
  refine Cn.of pn_X9 (Nat.le_of_ble_eq_true rfl) rfl ?_
  refine g_iload_n 1 dX9_set_0 rfl rfl ?_
  refine gN_iconst 2 dX9_set_1 (by decide) ?_
  refine gd_callS _ _ _ _ (cn_X9_checkNumber g (0, 0) (j := 0) (N := 2) (by omega) (by omega)) ⟨rfl, rfl⟩ (ok_X9_checkNumber _) mlX9_30 st_X9_checkNumber rfl ⟨Nat.le_of_ble_eq_true rfl, Nat.le_of_ble_eq_true rfl⟩ (by exact Nat.le_of_ble_eq_true rfl) ⟨Nat.zero_le _, Nat.zero_le _⟩ dX9_set_2 rfl ?_
  refine g_iload_n 2 dX9_set_5 rfl rfl ?_
  refine gN_iconst 0 dX9_set_6 (by decide) ?_
  refine g_gets1 fhX9_61 dX9_set_7 ?_
  refine g_iload_n 1 dX9_set_10 rfl rfl ?_
  refine gN_iald19 2 (hC.2.1.1) (by first | omega | exact b01_lt _) (by first | omega | exact b01_lt _) dX9_set_11 ?_
  refine g_ei (nI (100)) (hC.2.1.2.1) ?_
  refine gd_callS _ _ _ _ (cn_X9_checkRange g (0, 0) (h)) ⟨rfl, rfl⟩ (ok_X9_checkRange _) mlX9_34 st_X9_checkRange rfl ⟨Nat.le_of_ble_eq_true rfl, Nat.le_of_ble_eq_true rfl⟩ (by exact Nat.le_of_ble_eq_true rfl) ⟨Nat.zero_le _, Nat.zero_le _⟩ dX9_set_12 rfl ?_
  refine g_aload_n 0 dX9_set_15 rfl rfl ?_
  refine gN_getR (d + 48) flX9_19 (fun _ _ _ => rfl) 0 (hD.t) (hD.r1) dX9_set_16 ?_
  refine g_aload_n 0 dX9_set_19 rfl rfl ?_
  refine gN_getR (d + 1) flX9_10 (fun _ _ _ => rfl) 0 (hD.t) (hD.r0) dX9_set_20 ?_
  refine gm_callV _ _ _ (cn_X2_save g (0, 0) (m := m) (H := d + 48) (S := d + 1) (B := B) (c := c) (z := z) hD.h hV hD.s hR hz rfl (by omega)) ⟨rfl, rfl⟩ (ok_X2_save _) mlX9_38 in_X2_save se_X2_save 2 0 (hD.h.t) rfl rfl rfl ⟨Nat.le_of_ble_eq_true rfl, Nat.le_of_ble_eq_true rfl⟩ (by exact Nat.le_of_ble_eq_true rfl) ⟨Nat.zero_le _, Nat.zero_le _⟩ dX9_set_23 rfl (fun I R hP => ?_)
  obtain ⟨hF, hH2, fst2, hV2⟩ := hP
  have hK1 := DkV.sv hK hz0 hB hF hH2 hV2
  have hF1 := Hd.fb (Hd.rfl' m d) hF (by omega) (by omega)
  generalize wM m I R = m1 at hK1 hF1 ⊢
  clear hF hH2 hV2 hD hR hV hl hf hC
  have hG1 := hG.fd hF1
  have hC := hG1.1
  have hK2 := hK1
  obtain ⟨hD, hR, ⟨fst1, hV⟩, hl, _, hf⟩ := hK2
  
  refine g_aload_n 0 dX9_set_26 rfl rfl ?_
  refine gN_getR (d + 1) flX9_10 (fun _ _ _ => rfl) 0 (hD.t) (hD.r0) dX9_set_27 ?_
  refine gN_getR (d + 1 + 1) flX9_65 (fun _ _ _ => rfl) 0 (hD.s.t) (hD.s.r0) dX9_set_30 ?_
  refine g_iload_n 1 dX9_set_33 rfl rfl ?_
  refine gN_iald 2 (hD.s.t1) (by first | omega | exact b01_lt _) (by first | omega | exact b01_lt _) dX9_set_34 ?_
  refine g_eI (z 2) (hR.c2) ?_
  refine g_istore_n 3 [(3, .int (z 2)), (0, .ref (d)), (1, .int (nI (0))), (2, .int (x))] dX9_set_35 rfl (Nat.le_of_ble_eq_true rfl) rfl ?_
  refine g_aload_n 0 dX9_set_36 rfl rfl ?_
  refine gN_getR (d + 1) flX9_10 (fun _ _ _ => rfl) 0 (hD.t) (hD.r0) dX9_set_37 ?_
  refine gN_getR (d + 1 + 1) flX9_65 (fun _ _ _ => rfl) 0 (hD.s.t) (hD.s.r0) dX9_set_40 ?_
  refine g_iload_n 1 dX9_set_43 rfl rfl ?_
  refine g_iload_n 2 dX9_set_44 rfl rfl ?_
  refine gN_iast 2 (hD.s.t1) (by first | omega | exact b01_lt _) (by first | omega | exact b01_lt _) dX9_set_45 ?_
  refine g_iload_n 3 dX9_set_46 rfl rfl ?_
  refine g_iret rfl dX9_set_47 ⟨Nat.zero_le _, Nat.zero_le _⟩ ?_
  refine ⟨rfl, Hd.fb hF1 (lo := d + 1) (hi := d + 48) (((FrB.rfl' _ _ _).i _ (by omega) (by omega))) (by omega) (by omega), DkV.nw hK1 hB (((FrB.rfl' _ _ _).i _ (by omega) (by omega))) (hD.s.w (fun _ _ _ => rfl)) ?_⟩
  refine Rp.up hR hz.ln hSB (((FrB.rfl' _ _ _).i _ (by omega) (by omega))) ?_ ?_ ⟨?_, ?_, ?_, ?_⟩ (fun p hp => ?_) (fun p hp => ?_) (fun p hp => ⟨fun w hw => ?_, ?_⟩) (fun q hq => ?_) (fun q hq => ⟨?_, fun e he => ?_⟩) (fun j hj => ?_)
  · simp (disch := omega) only [im_wM, im_sI, u2_n, u2_s, u1_n, u1_s]
  · simp (disch := omega) only [im_wM, im_sI, u2_n, u2_s, u1_n, u1_s]
  · simp (disch := omega) only [im_wM, im_sI, u2_n, u2_s, u1_n, u1_s]
    first | done | rfl | exact hR.c0
  · simp (disch := omega) only [im_wM, im_sI, u2_n, u2_s, u1_n, u1_s]
    first | done | rfl | exact hR.c1
  · simp (disch := omega) only [im_wM, im_sI, u2_n, u2_s, u1_n, u1_s]
    first | done | rfl | exact hR.c2
  · simp (disch := omega) only [im_wM, im_sI, u2_n, u2_s, u1_n, u1_s]
    first | done | rfl | exact hR.c3
  · skip
    refine ⟨?_, ?_, ?_, ?_, ?_⟩
    all_goals (try simp (disch := omega) only [im_wM, im_sI, u2_n, u2_s, u1_n, u1_s])
    all_goals first | done | rfl | exact hR.T0 (by omega) | exact hR.T1 (by omega) | exact hR.T2 (by omega) | exact hR.T3 (by omega) | exact hR.T4 (by omega)
  · skip
    refine ⟨?_, ?_, ?_⟩
    all_goals (try simp (disch := omega) only [im_wM, im_sI, u2_n, u2_s, u1_n, u1_s])
    all_goals first | done | rfl | exact hR.B0 (by omega) | exact hR.B1 (by omega) | exact hR.B2 (by omega)
  · try simp (disch := omega) only [im_wM, im_sI, u2_n, u2_s, u1_n, u1_s]
    exact hR.W hp hw
  · try simp (disch := omega) only [im_wM, im_sI, u2_n, u2_s, u1_n, u1_s]
    exact hR.W1 hp
  · have h9 := hR.Sg hq
    unfold SgI at h9 ⊢
    simp (disch := omega) only [im_wM, im_sI, u2_n, u2_s, u1_n, u1_s] at h9 ⊢
    exact h9
  · simp (disch := omega) only [im_wM, im_sI, u2_n, u2_s, u1_n, u1_s]
  · simp (disch := omega) only [im_wM, im_sI, u2_n, u2_s, u1_n, u1_s]
  · simp (disch := omega) only [im_wM, im_sI, u2_n, u2_s, u1_n, u1_s]
set_option maxRecDepth 100000 in
theorem cn_X9_set1 (g : Gp) (cs : Nat × Nat) {m : Mm} {d B c k kb : Nat} {z : Nat → Int32} {rows : Nat → Nat → Int32} {f : Nat → Int32} (hB : d + 344 ≤ B) (hG : KdT g m d) (hK : DkV m d B c k kb z rows f) (hz : ZOk c z) {x : Int32} (h : nI 0 ≤ x ∧ x ≤ nI 200) : Cn g (MX9_set cs) [.ref (d), .int (nI (1)), .int (x)] m (kQ m d B c (sk k) kb (u1 z 3 x) (svR k z rows) f (some (.int (z 3)))) := by
  have hz0 := hz.n0.hi
  have hz1 := hz.n1.hi
  have hSB : d + 1 + 47 ≤ B := by omega
  have hC := hG.1
  have hK0 := hK
  obtain ⟨hD, hR, ⟨fst, hV⟩, hl, hk6, hf⟩ := hK0
  refine Cn.of pn_X9 (Nat.le_of_ble_eq_true rfl) rfl ?_
  refine g_iload_n 1 dX9_set_0 rfl rfl ?_
  refine gN_iconst 2 dX9_set_1 (by decide) ?_
  refine gd_callS _ _ _ _ (cn_X9_checkNumber g (0, 0) (j := 1) (N := 2) (by omega) (by omega)) ⟨rfl, rfl⟩ (ok_X9_checkNumber _) mlX9_30 st_X9_checkNumber rfl ⟨Nat.le_of_ble_eq_true rfl, Nat.le_of_ble_eq_true rfl⟩ (by exact Nat.le_of_ble_eq_true rfl) ⟨Nat.zero_le _, Nat.zero_le _⟩ dX9_set_2 rfl ?_
  refine g_iload_n 2 dX9_set_5 rfl rfl ?_
  refine gN_iconst 0 dX9_set_6 (by decide) ?_
  refine g_gets1 fhX9_61 dX9_set_7 ?_
  refine g_iload_n 1 dX9_set_10 rfl rfl ?_
  refine gN_iald19 2 (hC.2.1.1) (by first | omega | exact b01_lt _) (by first | omega | exact b01_lt _) dX9_set_11 ?_
  refine g_ei (nI (200)) (hC.2.1.2.2) ?_
  refine gd_callS _ _ _ _ (cn_X9_checkRange g (0, 0) (h)) ⟨rfl, rfl⟩ (ok_X9_checkRange _) mlX9_34 st_X9_checkRange rfl ⟨Nat.le_of_ble_eq_true rfl, Nat.le_of_ble_eq_true rfl⟩ (by exact Nat.le_of_ble_eq_true rfl) ⟨Nat.zero_le _, Nat.zero_le _⟩ dX9_set_12 rfl ?_
  refine g_aload_n 0 dX9_set_15 rfl rfl ?_
  refine gN_getR (d + 48) flX9_19 (fun _ _ _ => rfl) 0 (hD.t) (hD.r1) dX9_set_16 ?_
  refine g_aload_n 0 dX9_set_19 rfl rfl ?_
  refine gN_getR (d + 1) flX9_10 (fun _ _ _ => rfl) 0 (hD.t) (hD.r0) dX9_set_20 ?_
  refine gm_callV _ _ _ (cn_X2_save g (0, 0) (m := m) (H := d + 48) (S := d + 1) (B := B) (c := c) (z := z) hD.h hV hD.s hR hz rfl (by omega)) ⟨rfl, rfl⟩ (ok_X2_save _) mlX9_38 in_X2_save se_X2_save 2 0 (hD.h.t) rfl rfl rfl ⟨Nat.le_of_ble_eq_true rfl, Nat.le_of_ble_eq_true rfl⟩ (by exact Nat.le_of_ble_eq_true rfl) ⟨Nat.zero_le _, Nat.zero_le _⟩ dX9_set_23 rfl (fun I R hP => ?_)
  obtain ⟨hF, hH2, fst2, hV2⟩ := hP
  have hK1 := DkV.sv hK hz0 hB hF hH2 hV2
  have hF1 := Hd.fb (Hd.rfl' m d) hF (by omega) (by omega)
  generalize wM m I R = m1 at hK1 hF1 ⊢
  clear hF hH2 hV2 hD hR hV hl hf hC
  have hG1 := hG.fd hF1
  have hC := hG1.1
  have hK2 := hK1
  obtain ⟨hD, hR, ⟨fst1, hV⟩, hl, _, hf⟩ := hK2
  
  refine g_aload_n 0 dX9_set_26 rfl rfl ?_
  refine gN_getR (d + 1) flX9_10 (fun _ _ _ => rfl) 0 (hD.t) (hD.r0) dX9_set_27 ?_
  refine gN_getR (d + 1 + 1) flX9_65 (fun _ _ _ => rfl) 0 (hD.s.t) (hD.s.r0) dX9_set_30 ?_
  refine g_iload_n 1 dX9_set_33 rfl rfl ?_
  refine gN_iald 2 (hD.s.t1) (by first | omega | exact b01_lt _) (by first | omega | exact b01_lt _) dX9_set_34 ?_
  refine g_eI (z 3) (hR.c3) ?_
  refine g_istore_n 3 [(3, .int (z 3)), (0, .ref (d)), (1, .int (nI (1))), (2, .int (x))] dX9_set_35 rfl (Nat.le_of_ble_eq_true rfl) rfl ?_
  refine g_aload_n 0 dX9_set_36 rfl rfl ?_
  refine gN_getR (d + 1) flX9_10 (fun _ _ _ => rfl) 0 (hD.t) (hD.r0) dX9_set_37 ?_
  refine gN_getR (d + 1 + 1) flX9_65 (fun _ _ _ => rfl) 0 (hD.s.t) (hD.s.r0) dX9_set_40 ?_
  refine g_iload_n 1 dX9_set_43 rfl rfl ?_
  refine g_iload_n 2 dX9_set_44 rfl rfl ?_
  refine gN_iast 2 (hD.s.t1) (by first | omega | exact b01_lt _) (by first | omega | exact b01_lt _) dX9_set_45 ?_
  refine g_iload_n 3 dX9_set_46 rfl rfl ?_
  refine g_iret rfl dX9_set_47 ⟨Nat.zero_le _, Nat.zero_le _⟩ ?_
  refine ⟨rfl, Hd.fb hF1 (lo := d + 1) (hi := d + 48) (((FrB.rfl' _ _ _).i _ (by omega) (by omega))) (by omega) (by omega), DkV.nw hK1 hB (((FrB.rfl' _ _ _).i _ (by omega) (by omega))) (hD.s.w (fun _ _ _ => rfl)) ?_⟩
  refine Rp.up hR hz.ln hSB (((FrB.rfl' _ _ _).i _ (by omega) (by omega))) ?_ ?_ ⟨?_, ?_, ?_, ?_⟩ (fun p hp => ?_) (fun p hp => ?_) (fun p hp => ⟨fun w hw => ?_, ?_⟩) (fun q hq => ?_) (fun q hq => ⟨?_, fun e he => ?_⟩) (fun j hj => ?_)
  · simp (disch := omega) only [im_wM, im_sI, u2_n, u2_s, u1_n, u1_s]
  · simp (disch := omega) only [im_wM, im_sI, u2_n, u2_s, u1_n, u1_s]
  · simp (disch := omega) only [im_wM, im_sI, u2_n, u2_s, u1_n, u1_s]
    first | done | rfl | exact hR.c0
  · simp (disch := omega) only [im_wM, im_sI, u2_n, u2_s, u1_n, u1_s]
    first | done | rfl | exact hR.c1
  · simp (disch := omega) only [im_wM, im_sI, u2_n, u2_s, u1_n, u1_s]
    first | done | rfl | exact hR.c2
  · simp (disch := omega) only [im_wM, im_sI, u2_n, u2_s, u1_n, u1_s]
    first | done | rfl | exact hR.c3
  · skip
    refine ⟨?_, ?_, ?_, ?_, ?_⟩
    all_goals (try simp (disch := omega) only [im_wM, im_sI, u2_n, u2_s, u1_n, u1_s])
    all_goals first | done | rfl | exact hR.T0 (by omega) | exact hR.T1 (by omega) | exact hR.T2 (by omega) | exact hR.T3 (by omega) | exact hR.T4 (by omega)
  · skip
    refine ⟨?_, ?_, ?_⟩
    all_goals (try simp (disch := omega) only [im_wM, im_sI, u2_n, u2_s, u1_n, u1_s])
    all_goals first | done | rfl | exact hR.B0 (by omega) | exact hR.B1 (by omega) | exact hR.B2 (by omega)
  · try simp (disch := omega) only [im_wM, im_sI, u2_n, u2_s, u1_n, u1_s]
    exact hR.W hp hw
  · try simp (disch := omega) only [im_wM, im_sI, u2_n, u2_s, u1_n, u1_s]
    exact hR.W1 hp
  · have h9 := hR.Sg hq
    unfold SgI at h9 ⊢
    simp (disch := omega) only [im_wM, im_sI, u2_n, u2_s, u1_n, u1_s] at h9 ⊢
    exact h9
  · simp (disch := omega) only [im_wM, im_sI, u2_n, u2_s, u1_n, u1_s]
  · simp (disch := omega) only [im_wM, im_sI, u2_n, u2_s, u1_n, u1_s]
  · simp (disch := omega) only [im_wM, im_sI, u2_n, u2_s, u1_n, u1_s]
