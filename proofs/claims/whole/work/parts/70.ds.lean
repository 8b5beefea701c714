/-! THE CLASS: what changes a desk -/
/-- but for the desk's own cells, all that was there is as it was -/
def Hd (m m1 : Mm) (d : Nat) : Prop := fz m ≤ fz m1 ∧ ∀ x, x < fz m → (tg m1 x = tg m x ∧ jm m1 x = jm m x) ∧ ((x < d ∨ d + 334 ≤ x) → im m1 x = im m x ∧ rf m1 x = rf m x)
theorem Hd.rfl' (m : Mm) (d : Nat) : Hd m m d := ⟨Nat.le_refl _, fun _ _ => ⟨⟨rfl, rfl⟩, fun _ => ⟨rfl, rfl⟩⟩⟩
theorem Hd.tr {m m1 m2 : Mm} {d : Nat} (h : Hd m m1 d) (k : Hd m1 m2 d) : Hd m m2 d := ⟨Nat.le_trans h.1 k.1, fun x hx => ⟨⟨(k.2 x (Nat.lt_of_lt_of_le hx h.1)).1.1.trans (h.2 x hx).1.1, (k.2 x (Nat.lt_of_lt_of_le hx h.1)).1.2.trans (h.2 x hx).1.2⟩, fun q => ⟨((k.2 x (Nat.lt_of_lt_of_le hx h.1)).2 q).1.trans ((h.2 x hx).2 q).1, ((k.2 x (Nat.lt_of_lt_of_le hx h.1)).2 q).2.trans ((h.2 x hx).2 q).2⟩⟩⟩
theorem Hd.fb {m m1 : Mm} {d lo hi : Nat} {I : Nat → Nat → Int32} {R : Nat → Nat → Option Nat} (h : Hd m m1 d) (hF : FrB m1 lo hi I R) (h1 : d ≤ lo) (h2 : hi ≤ d + 334) : Hd m (wM m1 I R) d :=
  h.tr ⟨Nat.le_refl _, fun x _ => ⟨⟨rfl, rfl⟩, fun q => hF x (by omega)⟩⟩
def DkV (m : Mm) (d B c k kb : Nat) (z : Nat → Int32) (rows : Nat → Nat → Int32) (f : Nat → Int32) : Prop := DkT m d ∧ Rp m B (d + 1) z ∧ (∃ fst, HsV m B (d + 48) c fst k rows) ∧ im m (d + 332) 1 = nI kb ∧ kb ≤ 60 ∧ ∀ e, e < kb → im m (d + 333) e = f e
def KdT (g : Gp) (m : Mm) (d : Nat) : Prop := CsT g m ∧ (g.2.1 < d ∧ g.2.2.1 < d ∧ g.2.2.2 < d) ∧ d ≤ fz m
theorem KdT.fd {g : Gp} {m m1 : Mm} {d : Nat} (h : KdT g m d) (hF : Hd m m1 d) : KdT g m1 d := by
  obtain ⟨hC, ⟨h1, h2, h3⟩, h4⟩ := h
  have a1 := hF.2 _ (Nat.lt_of_lt_of_le h1 h4)
  have a2 := hF.2 _ (Nat.lt_of_lt_of_le h2 h4)
  have a3 := hF.2 _ (Nat.lt_of_lt_of_le h3 h4)
  refine ⟨?_, ⟨h1, h2, h3⟩, Nat.le_trans h4 hF.1⟩
  unfold CsT at hC ⊢
  rw [a1.1.1, a2.1.1, a3.1.1, (a1.2 (Or.inl h1)).1, (a2.2 (Or.inl h2)).1, (a3.2 (Or.inl h3)).1]
  exact hC
theorem DkT.w {m : Mm} {d lo hi : Nat} {I : Nat → Nat → Int32} {R : Nat → Nat → Option Nat} (h : DkT m d) (hF : FrB m lo hi I R) (h1 : d + 1 ≤ lo) (h2 : hi ≤ d + 332) (hS : StT (wM m I R) (d + 1)) (hH : HsT (wM m I R) (d + 48)) : DkT (wM m I R) d := by
  refine ⟨⟨⟨h.t, ?_, ?_, ?_⟩, h.tb, ?_, h.tc⟩, hS, hH⟩
  · rw [rf_wM, (hF d (by omega)).2]; exact h.r0
  · rw [rf_wM, (hF d (by omega)).2]; exact h.r1
  · rw [rf_wM, (hF d (by omega)).2]; exact h.r2
  · rw [rf_wM, (hF (d + 332) (by omega)).2]; exact h.rb
section DKV
variable {m : Mm} {d B c k kb : Nat} {z : Nat → Int32} {rows : Nat → Nat → Int32} {f : Nat → Int32} {I : Nat → Nat → Int32} {R : Nat → Nat → Option Nat}
theorem DkV.sv {k2 : Nat} {rows2 : Nat → Nat → Int32} {fst2 : Nat} (h : DkV m d B c k kb z rows f) (h0 : nv (z 0) ≤ 10) (hB : d + 344 ≤ B) (hF : FrB m (d + 48) (d + 48 + 284) I R) (hH : HsT (wM m I R) (d + 48)) (hV : HsV (wM m I R) B (d + 48) c fst2 k2 rows2) : DkV (wM m I R) d B c k2 kb z rows2 f := by
  obtain ⟨hD, hR, hV0, hl, hk6, hf⟩ := h
  refine ⟨hD.w hF (by omega) (by omega) (hF.st (by omega) hD.s) hH, hF.rp (by omega) (by omega) hR h0, ⟨fst2, hV⟩, ?_, hk6, fun e he => ?_⟩
  · rw [im_wM, (hF (d + 332) (by omega)).1]; exact hl
  · rw [im_wM, (hF (d + 333) (by omega)).1]; exact hf e he
theorem DkV.nw {z' : Nat → Int32} (h : DkV m d B c k kb z rows f) (hB : d + 344 ≤ B) (hF : FrB m (d + 1) (d + 1 + 47) I R) (hS : StT (wM m I R) (d + 1)) (hR : Rp (wM m I R) B (d + 1) z') : DkV (wM m I R) d B c k kb z' rows f := by
  obtain ⟨hD, hR0, ⟨fst, hV⟩, hl, hk6, hf⟩ := h
  refine ⟨hD.w hF (by omega) (by omega) hS (hD.h.w0 hF (by omega)), hR, ⟨fst, hV.w0 hF (by omega) (by omega)⟩, ?_, hk6, fun e he => ?_⟩
  · rw [im_wM, (hF (d + 332) (by omega)).1]; exact hl
  · rw [im_wM, (hF (d + 333) (by omega)).1]; exact hf e he
theorem DkV.bf {kb' : Nat} {f' : Nat → Int32} (h : DkV m d B c k kb z rows f) (h0 : nv (z 0) ≤ 10) (hB : d + 344 ≤ B) (hF : FrB m (d + 332) (d + 334) I (rf m)) (hl : I (d + 332) 1 = nI kb') (hk6 : kb' ≤ 60) (hf : ∀ e, e < kb' → I (d + 333) e = f' e) : DkV (wM m I (rf m)) d B c k kb' z rows f' := by
  obtain ⟨hD, hR0, ⟨fst, hV⟩, _, _, _⟩ := h
  exact ⟨⟨hD.1, hF.st (by omega) hD.s, hD.h.w0 hF (by omega)⟩, hF.rp (by omega) (by omega) hR0 h0, ⟨fst, hV.w0 hF (by omega) (by omega)⟩, hl, hk6, hf⟩
end DKV
abbrev kQ (m : Mm) (d B c k kb : Nat) (z : Nat → Int32) (rows : Nat → Nat → Int32) (f : Nat → Int32) (v : Option Value) : Rs → Mm → Prop := fun r m1 => r = .inl v ∧ Hd m m1 d ∧ DkV m1 d B c k kb z rows f
abbrev sk (k : Nat) : Nat := if k = 6 then 6 else k + 1
set_option maxRecDepth 100000 in
theorem cn_X9_rate (g : Gp) (cs : Nat × Nat) {m : Mm} {d B c k kb : Nat} {z : Nat → Int32} {rows : Nat → Nat → Int32} {f : Nat → Int32} (hB : d + 344 ≤ B) (hG : KdT g m d) (hK : DkV m d B c k kb z rows f) (hz : ZOk c z) {j : Nat} (hj : j < 4) {x : Int32} (h : nI 1 ≤ x ∧ x ≤ nI 99) : Cn g (MX9_rate cs) [.ref (d), .int (nI (j)), .int (x)] m (kQ m d B c (sk k) kb (u1 z (4 + 5 * j) x) (svR k z rows) f (some (.int (z (4 + 5 * j))))) := by
  have hz0 := hz.n0.hi
  have hz1 := hz.n1.hi
  have hSB : d + 1 + 47 ≤ B := by omega
  have hC := hG.1
  have hK0 := hK
  obtain ⟨hD, hR, ⟨fst, hV⟩, hl, hk6, hf⟩ := hK0
  refine Cn.of pn_X9 (Nat.le_of_ble_eq_true rfl) rfl ?_
  refine g_iload_n 1 dX9_rate_0 rfl rfl ?_
  refine gN_iconst 4 dX9_rate_1 (by decide) ?_
  refine gd_callS _ _ _ _ (cn_X9_checkNumber g (0, 0) (j := j) (N := 4) (by omega) (by omega)) ⟨rfl, rfl⟩ (ok_X9_checkNumber _) mlX9_30 st_X9_checkNumber rfl ⟨Nat.le_of_ble_eq_true rfl, Nat.le_of_ble_eq_true rfl⟩ (by exact Nat.le_of_ble_eq_true rfl) ⟨Nat.zero_le _, Nat.zero_le _⟩ dX9_rate_2 rfl ?_
  refine g_iload_n 2 dX9_rate_5 rfl rfl ?_
  refine gN_iconst 1 dX9_rate_6 (by decide) ?_
  refine gN_bipush 99 dX9_rate_7 (by decide) ?_
  refine gd_callS _ _ _ _ (cn_X9_checkRange g (0, 0) (h)) ⟨rfl, rfl⟩ (ok_X9_checkRange _) mlX9_34 st_X9_checkRange rfl ⟨Nat.le_of_ble_eq_true rfl, Nat.le_of_ble_eq_true rfl⟩ (by exact Nat.le_of_ble_eq_true rfl) ⟨Nat.zero_le _, Nat.zero_le _⟩ dX9_rate_9 rfl ?_
  refine g_aload_n 0 dX9_rate_12 rfl rfl ?_
  refine gN_getR (d + 48) flX9_19 (fun _ _ _ => rfl) 0 (hD.t) (hD.r1) dX9_rate_13 ?_
  refine g_aload_n 0 dX9_rate_16 rfl rfl ?_
  refine gN_getR (d + 1) flX9_10 (fun _ _ _ => rfl) 0 (hD.t) (hD.r0) dX9_rate_17 ?_
  refine gm_callV _ _ _ (cn_X2_save g (0, 0) (m := m) (H := d + 48) (S := d + 1) (B := B) (c := c) (z := z) hD.h hV hD.s hR hz rfl (by omega)) ⟨rfl, rfl⟩ (ok_X2_save _) mlX9_38 in_X2_save se_X2_save 2 0 (hD.h.t) rfl rfl rfl ⟨Nat.le_of_ble_eq_true rfl, Nat.le_of_ble_eq_true rfl⟩ (by exact Nat.le_of_ble_eq_true rfl) ⟨Nat.zero_le _, Nat.zero_le _⟩ dX9_rate_20 rfl (fun I R hP => ?_)
  obtain ⟨hF, hH2, fst2, hV2⟩ := hP
  have hK1 := DkV.sv hK hz0 hB hF hH2 hV2
  have hF1 := Hd.fb (Hd.rfl' m d) hF (by omega) (by omega)
  generalize wM m I R = m1 at hK1 hF1 ⊢
  clear hF hH2 hV2 hD hR hV hl hf hC
  have hG1 := hG.fd hF1
  have hC := hG1.1
  have hK2 := hK1
  obtain ⟨hD, hR, ⟨fst1, hV⟩, hl, _, hf⟩ := hK2
  
  refine g_aload_n 0 dX9_rate_23 rfl rfl ?_
  refine gN_getR (d + 1) flX9_10 (fun _ _ _ => rfl) 0 (hD.t) (hD.r0) dX9_rate_24 ?_
  refine gN_getR (d + 1 + 2) flX9_42 (fun _ _ _ => rfl) 0 (hD.s.t) (hD.s.r1) dX9_rate_27 ?_
  refine g_iload_n 1 dX9_rate_30 rfl rfl ?_
  refine gN_aald 17 4 (d + 1 + 12 + j) (hD.s.t2) (by decide) (by first | omega | exact b01_lt _) (by first | omega | exact b01_lt _) (hD.s.rT (by omega)) dX9_rate_31 ?_
  refine g_astore_n 3 [(3, .ref (d + 1 + 12 + j)), (0, .ref (d)), (1, .int (nI (j))), (2, .int (x))] dX9_rate_32 rfl (Nat.le_of_ble_eq_true rfl) rfl ?_
  refine g_aload_n 3 dX9_rate_33 rfl rfl ?_
  refine gN_getI flX9_46 rfl 0 (hD.s.tT (by omega)) dX9_rate_34 ?_
  refine g_eI (z (4 + 5 * j)) (hR.T0 (by omega)) ?_
  refine g_istore 4 [(4, .int (z (4 + 5 * j))), (3, .ref (d + 1 + 12 + j)), (0, .ref (d)), (1, .int (nI (j))), (2, .int (x))] dX9_rate_37 (Nat.le_of_ble_eq_true rfl) rfl ?_
  refine g_aload_n 3 dX9_rate_39 rfl rfl ?_
  refine g_iload_n 2 dX9_rate_40 rfl rfl ?_
  refine gN_putI fwX9_46 rfl 0 (hD.s.tT (by omega)) dX9_rate_41 ?_
  refine g_iload 4 dX9_rate_44 rfl ?_
  refine g_iret rfl dX9_rate_46 ⟨Nat.zero_le _, Nat.zero_le _⟩ ?_
  refine ⟨rfl, Hd.fb hF1 (lo := d + 1) (hi := d + 48) (((FrB.rfl' _ _ _).i _ (by omega) (by omega))) (by omega) (by omega), DkV.nw hK1 hB (((FrB.rfl' _ _ _).i _ (by omega) (by omega))) (hD.s.w (fun _ _ _ => rfl)) ?_⟩
  refine Rp.up hR hz.ln hSB (((FrB.rfl' _ _ _).i _ (by omega) (by omega))) ?_ ?_ ⟨?_, ?_, ?_, ?_⟩ (fun p hp => ?_) (fun p hp => ?_) (fun p hp => ⟨fun w hw => ?_, ?_⟩) (fun q hq => ?_) (fun q hq => ⟨?_, fun e he => ?_⟩) (fun j hj => ?_)
  · simp (disch := omega) only [im_wM, im_sI, u2_n, u2_s, u1_n, u1_s]
  · simp (disch := omega) only [im_wM, im_sI, u2_n, u2_s, u1_n, u1_s]
  · simp (disch := omega) only [im_wM, im_sI, u2_n, u2_s, u1_n, u1_s]
    first | done | rfl | exact hR.c0
  · simp (disch := omega) only [im_wM, im_sI, u2_n, u2_s, u1_n, u1_s]
    first | done | rfl | exact hR.c1
  · simp (disch := omega) only [im_wM, im_sI, u2_n, u2_s, u1_n, u1_s]
    first | done | rfl | exact hR.c2
  · simp (disch := omega) only [im_wM, im_sI, u2_n, u2_s, u1_n, u1_s]
    first | done | rfl | exact hR.c3
  · skip
    by_cases e1 : p = j
    · subst e1
      refine ⟨?_, ?_, ?_, ?_, ?_⟩
      all_goals (try simp (disch := omega) only [im_wM, im_sI, u2_n, u2_s, u1_n, u1_s])
      all_goals first | done | rfl | exact hR.T0 (by omega) | exact hR.T1 (by omega) | exact hR.T2 (by omega) | exact hR.T3 (by omega) | exact hR.T4 (by omega)
    · skip
      refine ⟨?_, ?_, ?_, ?_, ?_⟩
      all_goals (try simp (disch := omega) only [im_wM, im_sI, u2_n, u2_s, u1_n, u1_s])
      all_goals first | done | rfl | exact hR.T0 (by omega) | exact hR.T1 (by omega) | exact hR.T2 (by omega) | exact hR.T3 (by omega) | exact hR.T4 (by omega)
  · skip
    refine ⟨?_, ?_, ?_⟩
    all_goals (try simp (disch := omega) only [im_wM, im_sI, u2_n, u2_s, u1_n, u1_s])
    all_goals first | done | rfl | exact hR.B0 (by omega) | exact hR.B1 (by omega) | exact hR.B2 (by omega)
  · try simp (disch := omega) only [im_wM, im_sI, u2_n, u2_s, u1_n, u1_s]
    exact hR.W hp hw
  · try simp (disch := omega) only [im_wM, im_sI, u2_n, u2_s, u1_n, u1_s]
    exact hR.W1 hp
  · have h9 := hR.Sg hq
    unfold SgI at h9 ⊢
    simp (disch := omega) only [im_wM, im_sI, u2_n, u2_s, u1_n, u1_s] at h9 ⊢
    exact h9
  · simp (disch := omega) only [im_wM, im_sI, u2_n, u2_s, u1_n, u1_s]
  · simp (disch := omega) only [im_wM, im_sI, u2_n, u2_s, u1_n, u1_s]
  · simp (disch := omega) only [im_wM, im_sI, u2_n, u2_s, u1_n, u1_s]
set_option maxRecDepth 100000 in
theorem cn_X9_pays (g : Gp) (cs : Nat × Nat) {m : Mm} {d B c k kb : Nat} {z : Nat → Int32} {rows : Nat → Nat → Int32} {f : Nat → Int32} (hB : d + 344 ≤ B) (hG : KdT g m d) (hK : DkV m d B c k kb z rows f) (hz : ZOk c z) {j : Nat} (hj : j < 5) {x : Int32} (h : nI 0 ≤ x ∧ x ≤ nI 100) : Cn g (MX9_pays cs) [.ref (d), .int (nI (j)), .int (x)] m (kQ m d B c (sk k) kb (u1 z (64 + 3 * j) x) (svR k z rows) f (some (.int (z (64 + 3 * j))))) := by
  have hz0 := hz.n0.hi
  have hz1 := hz.n1.hi
  have hSB : d + 1 + 47 ≤ B := by omega
  have hC := hG.1
  have hK0 := hK
  obtain ⟨hD, hR, ⟨fst, hV⟩, hl, hk6, hf⟩ := hK0
  refine Cn.of pn_X9 (Nat.le_of_ble_eq_true rfl) rfl ?_
  refine g_iload_n 1 dX9_pays_0 rfl rfl ?_
  refine gN_iconst 5 dX9_pays_1 (by decide) ?_
  refine gd_callS _ _ _ _ (cn_X9_checkNumber g (0, 0) (j := j) (N := 5) (by omega) (by omega)) ⟨rfl, rfl⟩ (ok_X9_checkNumber _) mlX9_30 st_X9_checkNumber rfl ⟨Nat.le_of_ble_eq_true rfl, Nat.le_of_ble_eq_true rfl⟩ (by exact Nat.le_of_ble_eq_true rfl) ⟨Nat.zero_le _, Nat.zero_le _⟩ dX9_pays_2 rfl ?_
  refine g_iload_n 2 dX9_pays_5 rfl rfl ?_
  refine gN_iconst 0 dX9_pays_6 (by decide) ?_
  refine gN_bipush 100 dX9_pays_7 (by decide) ?_
  refine gd_callS _ _ _ _ (cn_X9_checkRange g (0, 0) (h)) ⟨rfl, rfl⟩ (ok_X9_checkRange _) mlX9_34 st_X9_checkRange rfl ⟨Nat.le_of_ble_eq_true rfl, Nat.le_of_ble_eq_true rfl⟩ (by exact Nat.le_of_ble_eq_true rfl) ⟨Nat.zero_le _, Nat.zero_le _⟩ dX9_pays_9 rfl ?_
  refine g_aload_n 0 dX9_pays_12 rfl rfl ?_
  refine gN_getR (d + 48) flX9_19 (fun _ _ _ => rfl) 0 (hD.t) (hD.r1) dX9_pays_13 ?_
  refine g_aload_n 0 dX9_pays_16 rfl rfl ?_
  refine gN_getR (d + 1) flX9_10 (fun _ _ _ => rfl) 0 (hD.t) (hD.r0) dX9_pays_17 ?_
  refine gm_callV _ _ _ (cn_X2_save g (0, 0) (m := m) (H := d + 48) (S := d + 1) (B := B) (c := c) (z := z) hD.h hV hD.s hR hz rfl (by omega)) ⟨rfl, rfl⟩ (ok_X2_save _) mlX9_38 in_X2_save se_X2_save 2 0 (hD.h.t) rfl rfl rfl ⟨Nat.le_of_ble_eq_true rfl, Nat.le_of_ble_eq_true rfl⟩ (by exact Nat.le_of_ble_eq_true rfl) ⟨Nat.zero_le _, Nat.zero_le _⟩ dX9_pays_20 rfl (fun I R hP => ?_)
  obtain ⟨hF, hH2, fst2, hV2⟩ := hP
  have hK1 := DkV.sv hK hz0 hB hF hH2 hV2
  have hF1 := Hd.fb (Hd.rfl' m d) hF (by omega) (by omega)
  generalize wM m I R = m1 at hK1 hF1 ⊢
  clear hF hH2 hV2 hD hR hV hl hf hC
  have hG1 := hG.fd hF1
  have hC := hG1.1
  have hK2 := hK1
  obtain ⟨hD, hR, ⟨fst1, hV⟩, hl, _, hf⟩ := hK2
  
  refine g_aload_n 0 dX9_pays_23 rfl rfl ?_
  refine gN_getR (d + 1) flX9_10 (fun _ _ _ => rfl) 0 (hD.t) (hD.r0) dX9_pays_24 ?_
  refine gN_getR (d + 1 + 3) flX9_52 (fun _ _ _ => rfl) 0 (hD.s.t) (hD.s.r2) dX9_pays_27 ?_
  refine g_iload_n 1 dX9_pays_30 rfl rfl ?_
  refine gN_aald 12 5 (d + 1 + 16 + j) (hD.s.t3) (by decide) (by first | omega | exact b01_lt _) (by first | omega | exact b01_lt _) (hD.s.rB (by omega)) dX9_pays_31 ?_
  refine g_astore_n 3 [(3, .ref (d + 1 + 16 + j)), (0, .ref (d)), (1, .int (nI (j))), (2, .int (x))] dX9_pays_32 rfl (Nat.le_of_ble_eq_true rfl) rfl ?_
  refine g_aload_n 3 dX9_pays_33 rfl rfl ?_
  refine gN_getI flX9_56 rfl 0 (hD.s.tB (by omega)) dX9_pays_34 ?_
  refine g_eI (z (64 + 3 * j)) (hR.B0 (by omega)) ?_
  refine g_istore 4 [(4, .int (z (64 + 3 * j))), (3, .ref (d + 1 + 16 + j)), (0, .ref (d)), (1, .int (nI (j))), (2, .int (x))] dX9_pays_37 (Nat.le_of_ble_eq_true rfl) rfl ?_
  refine g_aload_n 3 dX9_pays_39 rfl rfl ?_
  refine g_iload_n 2 dX9_pays_40 rfl rfl ?_
  refine gN_putI fwX9_56 rfl 0 (hD.s.tB (by omega)) dX9_pays_41 ?_
  refine g_iload 4 dX9_pays_44 rfl ?_
  refine g_iret rfl dX9_pays_46 ⟨Nat.zero_le _, Nat.zero_le _⟩ ?_
  refine ⟨rfl, Hd.fb hF1 (lo := d + 1) (hi := d + 48) (((FrB.rfl' _ _ _).i _ (by omega) (by omega))) (by omega) (by omega), DkV.nw hK1 hB (((FrB.rfl' _ _ _).i _ (by omega) (by omega))) (hD.s.w (fun _ _ _ => rfl)) ?_⟩
  refine Rp.up hR hz.ln hSB (((FrB.rfl' _ _ _).i _ (by omega) (by omega))) ?_ ?_ ⟨?_, ?_, ?_, ?_⟩ (fun p hp => ?_) (fun p hp => ?_) (fun p hp => ⟨fun w hw => ?_, ?_⟩) (fun q hq => ?_) (fun q hq => ⟨?_, fun e he => ?_⟩) (fun j hj => ?_)
  · simp (disch := omega) only [im_wM, im_sI, u2_n, u2_s, u1_n, u1_s]
  · simp (disch := omega) only [im_wM, im_sI, u2_n, u2_s, u1_n, u1_s]
  · simp (disch := omega) only [im_wM, im_sI, u2_n, u2_s, u1_n, u1_s]
    first | done | rfl | exact hR.c0
  · simp (disch := omega) only [im_wM, im_sI, u2_n, u2_s, u1_n, u1_s]
    first | done | rfl | exact hR.c1
  · simp (disch := omega) only [im_wM, im_sI, u2_n, u2_s, u1_n, u1_s]
    first | done | rfl | exact hR.c2
  · simp (disch := omega) only [im_wM, im_sI, u2_n, u2_s, u1_n, u1_s]
    first | done | rfl | exact hR.c3
  · skip
    refine ⟨?_, ?_, ?_, ?_, ?_⟩
    all_goals (try simp (disch := omega) only [im_wM, im_sI, u2_n, u2_s, u1_n, u1_s])
    all_goals first | done | rfl | exact hR.T0 (by omega) | exact hR.T1 (by omega) | exact hR.T2 (by omega) | exact hR.T3 (by omega) | exact hR.T4 (by omega)
  · skip
    by_cases e1 : p = j
    · subst e1
      refine ⟨?_, ?_, ?_⟩
      all_goals (try simp (disch := omega) only [im_wM, im_sI, u2_n, u2_s, u1_n, u1_s])
      all_goals first | done | rfl | exact hR.B0 (by omega) | exact hR.B1 (by omega) | exact hR.B2 (by omega)
    · skip
      refine ⟨?_, ?_, ?_⟩
      all_goals (try simp (disch := omega) only [im_wM, im_sI, u2_n, u2_s, u1_n, u1_s])
      all_goals first | done | rfl | exact hR.B0 (by omega) | exact hR.B1 (by omega) | exact hR.B2 (by omega)
  · try simp (disch := omega) only [im_wM, im_sI, u2_n, u2_s, u1_n, u1_s]
    exact hR.W hp hw
  · try simp (disch := omega) only [im_wM, im_sI, u2_n, u2_s, u1_n, u1_s]
    exact hR.W1 hp
  · have h9 := hR.Sg hq
    unfold SgI at h9 ⊢
    simp (disch := omega) only [im_wM, im_sI, u2_n, u2_s, u1_n, u1_s] at h9 ⊢
    exact h9
  · simp (disch := omega) only [im_wM, im_sI, u2_n, u2_s, u1_n, u1_s]
  · simp (disch := omega) only [im_wM, im_sI, u2_n, u2_s, u1_n, u1_s]
  · simp (disch := omega) only [im_wM, im_sI, u2_n, u2_s, u1_n, u1_s]
set_option maxRecDepth 100000 in
theorem cn_X9_set0 (g : Gp) (cs : Nat × Nat) {m : Mm} {d B c k kb : Nat} {z : Nat → Int32} {rows : Nat → Nat → Int32} {f : Nat → Int32} (hB : d + 344 ≤ B) (hG : KdT g m d) (hK : DkV m d B c k kb z rows f) (hz : ZOk c z) {x : Int32} (h : nI 0 ≤ x ∧ x ≤ nI 100) : Cn g (MX9_set cs) [.ref (d), .int (nI (0)), .int (x)] m (kQ m d B c (sk k) kb (u1 z 2 x) (svR k z rows) f (some (.int (z 2)))) := by
  have hz0 := hz.n0.hi
  have hz1 := hz.n1.hi
  have hSB : d + 1 + 47 ≤ B := by omega
  have hC := hG.1
  have hK0 := hK
  obtain ⟨hD, hR, ⟨fst, hV⟩, hl, hk6, hf⟩ := hK0
  refine Cn.of pn_X9 (Nat.le_of_ble_eq_true rfl) rfl ?_
  refine g_iload_n 1 dX9_set_0 rfl rfl ?_
  refine gN_iconst 2 dX9_set_1 (by decide) ?_
  refine gd_callS _ _ _ _ (cn_X9_checkNumber g (0, 0) (j := 0) (N := 2) (by omega) (by omega)) ⟨rfl, rfl⟩ (ok_X9_checkNumber _) mlX9_30 st_X9_checkNumber rfl ⟨Nat.le_of_ble_eq_true rfl, Nat.le_of_ble_eq_true rfl⟩ (by exact Nat.le_of_ble_eq_true rfl) ⟨Nat.zero_le _, Nat.zero_le _⟩ dX9_set_2 rfl ?_
  refine g_iload_n 2 dX9_set_5 rfl rfl ?_
  refine gN_iconst 0 dX9_set_6 (by decide) ?_
  refine g_gets1 fhX9_61 dX9_set_7 ?_
  refine g_iload_n 1 dX9_set_10 rfl rfl ?_
  refine gN_iald19 2 (hC.2.1.1) (by first | omega | exact b01_lt _) (by first | omega | exact b01_lt _) dX9_set_11 ?_
  refine g_ei (nI (100)) (hC.2.1.2.1) ?_
  refine gd_callS _ _ _ _ (cn_X9_checkRange g (0, 0) (h)) ⟨rfl, rfl⟩ (ok_X9_checkRange _) mlX9_34 st_X9_checkRange rfl ⟨Nat.le_of_ble_eq_true rfl, Nat.le_of_ble_eq_true rfl⟩ (by exact Nat.le_of_ble_eq_true rfl) ⟨Nat.zero_le _, Nat.zero_le _⟩ dX9_set_12 rfl ?_
  refine g_aload_n 0 dX9_set_15 rfl rfl ?_
  refine gN_getR (d + 48) flX9_19 (fun _ _ _ => rfl) 0 (hD.t) (hD.r1) dX9_set_16 ?_
  refine g_aload_n 0 dX9_set_19 rfl rfl ?_
  refine gN_getR (d + 1) flX9_10 (fun _ _ _ => rfl) 0 (hD.t) (hD.r0) dX9_set_20 ?_
  refine gm_callV _ _ _ (cn_X2_save g (0, 0) (m := m) (H := d + 48) (S := d + 1) (B := B) (c := c) (z := z) hD.h hV hD.s hR hz rfl (by omega)) ⟨rfl, rfl⟩ (ok_X2_save _) mlX9_38 in_X2_save se_X2_save 2 0 (hD.h.t) rfl rfl rfl ⟨Nat.le_of_ble_eq_true rfl, Nat.le_of_ble_eq_true rfl⟩ (by exact Nat.le_of_ble_eq_true rfl) ⟨Nat.zero_le _, Nat.zero_le _⟩ dX9_set_23 rfl (fun I R hP => ?_)
  obtain ⟨hF, hH2, fst2, hV2⟩ := hP
  have hK1 := DkV.sv hK hz0 hB hF hH2 hV2
  have hF1 := Hd.fb (Hd.rfl' m d) hF (by omega) (by omega)
  generalize wM m I R = m1 at hK1 hF1 ⊢
  clear hF hH2 hV2 hD hR hV hl hf hC
  have hG1 := hG.fd hF1
  have hC := hG1.1
  have hK2 := hK1
  obtain ⟨hD, hR, ⟨fst1, hV⟩, hl, _, hf⟩ := hK2
  
  refine g_aload_n 0 dX9_set_26 rfl rfl ?_
  refine gN_getR (d + 1) flX9_10 (fun _ _ _ => rfl) 0 (hD.t) (hD.r0) dX9_set_27 ?_
  refine gN_getR (d + 1 + 1) flX9_65 (fun _ _ _ => rfl) 0 (hD.s.t) (hD.s.r0) dX9_set_30 ?_
  refine g_iload_n 1 dX9_set_33 rfl rfl ?_
  refine gN_iald 2 (hD.s.t1) (by first | omega | exact b01_lt _) (by first | omega | exact b01_lt _) dX9_set_34 ?_
  refine g_eI (z 2) (hR.c2) ?_
  refine g_istore_n 3 [(3, .int (z 2)), (0, .ref (d)), (1, .int (nI (0))), (2, .int (x))] dX9_set_35 rfl (Nat.le_of_ble_eq_true rfl) rfl ?_
  refine g_aload_n 0 dX9_set_36 rfl rfl ?_
  refine gN_getR (d + 1) flX9_10 (fun _ _ _ => rfl) 0 (hD.t) (hD.r0) dX9_set_37 ?_
  refine gN_getR (d + 1 + 1) flX9_65 (fun _ _ _ => rfl) 0 (hD.s.t) (hD.s.r0) dX9_set_40 ?_
  refine g_iload_n 1 dX9_set_43 rfl rfl ?_
  refine g_iload_n 2 dX9_set_44 rfl rfl ?_
  refine gN_iast 2 (hD.s.t1) (by first | omega | exact b01_lt _) (by first | omega | exact b01_lt _) dX9_set_45 ?_
  refine g_iload_n 3 dX9_set_46 rfl rfl ?_
  refine g_iret rfl dX9_set_47 ⟨Nat.zero_le _, Nat.zero_le _⟩ ?_
  refine ⟨rfl, Hd.fb hF1 (lo := d + 1) (hi := d + 48) (((FrB.rfl' _ _ _).i _ (by omega) (by omega))) (by omega) (by omega), DkV.nw hK1 hB (((FrB.rfl' _ _ _).i _ (by omega) (by omega))) (hD.s.w (fun _ _ _ => rfl)) ?_⟩
  refine Rp.up hR hz.ln hSB (((FrB.rfl' _ _ _).i _ (by omega) (by omega))) ?_ ?_ ⟨?_, ?_, ?_, ?_⟩ (fun p hp => ?_) (fun p hp => ?_) (fun p hp => ⟨fun w hw => ?_, ?_⟩) (fun q hq => ?_) (fun q hq => ⟨?_, fun e he => ?_⟩) (fun j hj => ?_)
  · simp (disch := omega) only [im_wM, im_sI, u2_n, u2_s, u1_n, u1_s]
  · simp (disch := omega) only [im_wM, im_sI, u2_n, u2_s, u1_n, u1_s]
  · simp (disch := omega) only [im_wM, im_sI, u2_n, u2_s, u1_n, u1_s]
    first | done | rfl | exact hR.c0
  · simp (disch := omega) only [im_wM, im_sI, u2_n, u2_s, u1_n, u1_s]
    first | done | rfl | exact hR.c1
  · simp (disch := omega) only [im_wM, im_sI, u2_n, u2_s, u1_n, u1_s]
    first | done | rfl | exact hR.c2
  · simp (disch := omega) only [im_wM, im_sI, u2_n, u2_s, u1_n, u1_s]
    first | done | rfl | exact hR.c3
  · skip
    refine ⟨?_, ?_, ?_, ?_, ?_⟩
    all_goals (try simp (disch := omega) only [im_wM, im_sI, u2_n, u2_s, u1_n, u1_s])
    all_goals first | done | rfl | exact hR.T0 (by omega) | exact hR.T1 (by omega) | exact hR.T2 (by omega) | exact hR.T3 (by omega) | exact hR.T4 (by omega)
  · skip
    refine ⟨?_, ?_, ?_⟩
    all_goals (try simp (disch := omega) only [im_wM, im_sI, u2_n, u2_s, u1_n, u1_s])
    all_goals first | done | rfl | exact hR.B0 (by omega) | exact hR.B1 (by omega) | exact hR.B2 (by omega)
  · try simp (disch := omega) only [im_wM, im_sI, u2_n, u2_s, u1_n, u1_s]
    exact hR.W hp hw
  · try simp (disch := omega) only [im_wM, im_sI, u2_n, u2_s, u1_n, u1_s]
    exact hR.W1 hp
  · have h9 := hR.Sg hq
    unfold SgI at h9 ⊢
    simp (disch := omega) only [im_wM, im_sI, u2_n, u2_s, u1_n, u1_s] at h9 ⊢
    exact h9
  · simp (disch := omega) only [im_wM, im_sI, u2_n, u2_s, u1_n, u1_s]
  · simp (disch := omega) only [im_wM, im_sI, u2_n, u2_s, u1_n, u1_s]
  · simp (disch := omega) only [im_wM, im_sI, u2_n, u2_s, u1_n, u1_s]
set_option maxRecDepth 100000 in
theorem cn_X9_set1 (g : Gp) (cs : Nat × Nat) {m : Mm} {d B c k kb : Nat} {z : Nat → Int32} {rows : Nat → Nat → Int32} {f : Nat → Int32} (hB : d + 344 ≤ B) (hG : KdT g m d) (hK : DkV m d B c k kb z rows f) (hz : ZOk c z) {x : Int32} (h : nI 0 ≤ x ∧ x ≤ nI 200) : Cn g (MX9_set cs) [.ref (d), .int (nI (1)), .int (x)] m (kQ m d B c (sk k) kb (u1 z 3 x) (svR k z rows) f (some (.int (z 3)))) := by
  have hz0 := hz.n0.hi
  have hz1 := hz.n1.hi
  have hSB : d + 1 + 47 ≤ B := by omega
  have hC := hG.1
  have hK0 := hK
  obtain ⟨hD, hR, ⟨fst, hV⟩, hl, hk6, hf⟩ := hK0
  refine Cn.of pn_X9 (Nat.le_of_ble_eq_true rfl) rfl ?_
  refine g_iload_n 1 dX9_set_0 rfl rfl ?_
  refine gN_iconst 2 dX9_set_1 (by decide) ?_
  refine gd_callS _ _ _ _ (cn_X9_checkNumber g (0, 0) (j := 1) (N := 2) (by omega) (by omega)) ⟨rfl, rfl⟩ (ok_X9_checkNumber _) mlX9_30 st_X9_checkNumber rfl ⟨Nat.le_of_ble_eq_true rfl, Nat.le_of_ble_eq_true rfl⟩ (by exact Nat.le_of_ble_eq_true rfl) ⟨Nat.zero_le _, Nat.zero_le _⟩ dX9_set_2 rfl ?_
  refine g_iload_n 2 dX9_set_5 rfl rfl ?_
  refine gN_iconst 0 dX9_set_6 (by decide) ?_
  refine g_gets1 fhX9_61 dX9_set_7 ?_
  refine g_iload_n 1 dX9_set_10 rfl rfl ?_
  refine gN_iald19 2 (hC.2.1.1) (by first | omega | exact b01_lt _) (by first | omega | exact b01_lt _) dX9_set_11 ?_
  refine g_ei (nI (200)) (hC.2.1.2.2) ?_
  refine gd_callS _ _ _ _ (cn_X9_checkRange g (0, 0) (h)) ⟨rfl, rfl⟩ (ok_X9_checkRange _) mlX9_34 st_X9_checkRange rfl ⟨Nat.le_of_ble_eq_true rfl, Nat.le_of_ble_eq_true rfl⟩ (by exact Nat.le_of_ble_eq_true rfl) ⟨Nat.zero_le _, Nat.zero_le _⟩ dX9_set_12 rfl ?_
  refine g_aload_n 0 dX9_set_15 rfl rfl ?_
  refine gN_getR (d + 48) flX9_19 (fun _ _ _ => rfl) 0 (hD.t) (hD.r1) dX9_set_16 ?_
  refine g_aload_n 0 dX9_set_19 rfl rfl ?_
  refine gN_getR (d + 1) flX9_10 (fun _ _ _ => rfl) 0 (hD.t) (hD.r0) dX9_set_20 ?_
  refine gm_callV _ _ _ (cn_X2_save g (0, 0) (m := m) (H := d + 48) (S := d + 1) (B := B) (c := c) (z := z) hD.h hV hD.s hR hz rfl (by omega)) ⟨rfl, rfl⟩ (ok_X2_save _) mlX9_38 in_X2_save se_X2_save 2 0 (hD.h.t) rfl rfl rfl ⟨Nat.le_of_ble_eq_true rfl, Nat.le_of_ble_eq_true rfl⟩ (by exact Nat.le_of_ble_eq_true rfl) ⟨Nat.zero_le _, Nat.zero_le _⟩ dX9_set_23 rfl (fun I R hP => ?_)
  obtain ⟨hF, hH2, fst2, hV2⟩ := hP
  have hK1 := DkV.sv hK hz0 hB hF hH2 hV2
  have hF1 := Hd.fb (Hd.rfl' m d) hF (by omega) (by omega)
  generalize wM m I R = m1 at hK1 hF1 ⊢
  clear hF hH2 hV2 hD hR hV hl hf hC
  have hG1 := hG.fd hF1
  have hC := hG1.1
  have hK2 := hK1
  obtain ⟨hD, hR, ⟨fst1, hV⟩, hl, _, hf⟩ := hK2
  
  refine g_aload_n 0 dX9_set_26 rfl rfl ?_
  refine gN_getR (d + 1) flX9_10 (fun _ _ _ => rfl) 0 (hD.t) (hD.r0) dX9_set_27 ?_
  refine gN_getR (d + 1 + 1) flX9_65 (fun _ _ _ => rfl) 0 (hD.s.t) (hD.s.r0) dX9_set_30 ?_
  refine g_iload_n 1 dX9_set_33 rfl rfl ?_
  refine gN_iald 2 (hD.s.t1) (by first | omega | exact b01_lt _) (by first | omega | exact b01_lt _) dX9_set_34 ?_
  refine g_eI (z 3) (hR.c3) ?_
  refine g_istore_n 3 [(3, .int (z 3)), (0, .ref (d)), (1, .int (nI (1))), (2, .int (x))] dX9_set_35 rfl (Nat.le_of_ble_eq_true rfl) rfl ?_
  refine g_aload_n 0 dX9_set_36 rfl rfl ?_
  refine gN_getR (d + 1) flX9_10 (fun _ _ _ => rfl) 0 (hD.t) (hD.r0) dX9_set_37 ?_
  refine gN_getR (d + 1 + 1) flX9_65 (fun _ _ _ => rfl) 0 (hD.s.t) (hD.s.r0) dX9_set_40 ?_
  refine g_iload_n 1 dX9_set_43 rfl rfl ?_
  refine g_iload_n 2 dX9_set_44 rfl rfl ?_
  refine gN_iast 2 (hD.s.t1) (by first | omega | exact b01_lt _) (by first | omega | exact b01_lt _) dX9_set_45 ?_
  refine g_iload_n 3 dX9_set_46 rfl rfl ?_
  refine g_iret rfl dX9_set_47 ⟨Nat.zero_le _, Nat.zero_le _⟩ ?_
  refine ⟨rfl, Hd.fb hF1 (lo := d + 1) (hi := d + 48) (((FrB.rfl' _ _ _).i _ (by omega) (by omega))) (by omega) (by omega), DkV.nw hK1 hB (((FrB.rfl' _ _ _).i _ (by omega) (by omega))) (hD.s.w (fun _ _ _ => rfl)) ?_⟩
  refine Rp.up hR hz.ln hSB (((FrB.rfl' _ _ _).i _ (by omega) (by omega))) ?_ ?_ ⟨?_, ?_, ?_, ?_⟩ (fun p hp => ?_) (fun p hp => ?_) (fun p hp => ⟨fun w hw => ?_, ?_⟩) (fun q hq => ?_) (fun q hq => ⟨?_, fun e he => ?_⟩) (fun j hj => ?_)
  · simp (disch := omega) only [im_wM, im_sI, u2_n, u2_s, u1_n, u1_s]
  · simp (disch := omega) only [im_wM, im_sI, u2_n, u2_s, u1_n, u1_s]
  · simp (disch := omega) only [im_wM, im_sI, u2_n, u2_s, u1_n, u1_s]
    first | done | rfl | exact hR.c0
  · simp (disch := omega) only [im_wM, im_sI, u2_n, u2_s, u1_n, u1_s]
    first | done | rfl | exact hR.c1
  · simp (disch := omega) only [im_wM, im_sI, u2_n, u2_s, u1_n, u1_s]
    first | done | rfl | exact hR.c2
  · simp (disch := omega) only [im_wM, im_sI, u2_n, u2_s, u1_n, u1_s]
    first | done | rfl | exact hR.c3
  · skip
    refine ⟨?_, ?_, ?_, ?_, ?_⟩
    all_goals (try simp (disch := omega) only [im_wM, im_sI, u2_n, u2_s, u1_n, u1_s])
    all_goals first | done | rfl | exact hR.T0 (by omega) | exact hR.T1 (by omega) | exact hR.T2 (by omega) | exact hR.T3 (by omega) | exact hR.T4 (by omega)
  · skip
    refine ⟨?_, ?_, ?_⟩
    all_goals (try simp (disch := omega) only [im_wM, im_sI, u2_n, u2_s, u1_n, u1_s])
    all_goals first | done | rfl | exact hR.B0 (by omega) | exact hR.B1 (by omega) | exact hR.B2 (by omega)
  · try simp (disch := omega) only [im_wM, im_sI, u2_n, u2_s, u1_n, u1_s]
    exact hR.W hp hw
  · try simp (disch := omega) only [im_wM, im_sI, u2_n, u2_s, u1_n, u1_s]
    exact hR.W1 hp
  · have h9 := hR.Sg hq
    unfold SgI at h9 ⊢
    simp (disch := omega) only [im_wM, im_sI, u2_n, u2_s, u1_n, u1_s] at h9 ⊢
    exact h9
  · simp (disch := omega) only [im_wM, im_sI, u2_n, u2_s, u1_n, u1_s]
  · simp (disch := omega) only [im_wM, im_sI, u2_n, u2_s, u1_n, u1_s]
  · simp (disch := omega) only [im_wM, im_sI, u2_n, u2_s, u1_n, u1_s]
set_option maxRecDepth 100000 in
theorem cx_X9_assign_1 (g : Gp) (cs : Nat × Nat) {m : Mm} {d B c : Nat} {z : Nat → Int32} (hD : DkT m d) (hR : Rp m B (d + 1) z) (hz : ZOk c z) {p x : Int32} (h : ¬ inb p (nv (z 0))) : Xn g (MX9_assign (1, 6)) [.ref (d), .int (p), .int (x)] m "java/lang/IndexOutOfBoundsException" := by
  have hz0 := hz.n0.hi
  have hz1 := hz.n1.hi
  refine Cn.of pn_X9 (Nat.le_of_ble_eq_true rfl) rfl ?_
  refine g_iload_n 1 dX9_assign_0 rfl rfl ?_
  refine g_aload_n 0 dX9_assign_1 rfl rfl ?_
  refine gN_getR (d + 1) flX9_10 (fun _ _ _ => rfl) 0 (hD.t) (hD.r0) dX9_assign_2 ?_
  refine gN_getI flX9_68 rfl 0 (hD.s.t) dX9_assign_5 ?_
  refine g_ei (nI (nv (z 0))) (hR.c0.trans hz.n0.e) ?_
  exact gx_callS _ _ (cx_X9_checkNumber g (0, 0) (N := nv (z 0)) (by omega) (h)) (ok_X9_checkNumber _) mlX9_30 st_X9_checkNumber rfl ⟨Nat.le_of_ble_eq_true rfl, Nat.le_of_ble_eq_true rfl⟩ (by exact Nat.le_of_ble_eq_true rfl) ⟨Nat.le_of_ble_eq_true rfl, Nat.le_of_ble_eq_true rfl⟩ dX9_assign_8 rfl (fun n hn => ⟨rfl, n, hn, rfl⟩)
set_option maxRecDepth 100000 in
theorem cx_X9_assign_11 (g : Gp) (cs : Nat × Nat) {m : Mm} {d B c : Nat} {z : Nat → Int32} (hD : DkT m d) (hR : Rp m B (d + 1) z) (hz : ZOk c z) {s : Nat} (hs : s < nv (z 0)) {x : Int32} (h : ¬ inb x 4) : Xn g (MX9_assign (1, 6)) [.ref (d), .int (nI (s)), .int (x)] m "java/lang/IndexOutOfBoundsException" := by
  have hz0 := hz.n0.hi
  have hz1 := hz.n1.hi
  refine Cn.of pn_X9 (Nat.le_of_ble_eq_true rfl) rfl ?_
  refine g_iload_n 1 dX9_assign_0 rfl rfl ?_
  refine g_aload_n 0 dX9_assign_1 rfl rfl ?_
  refine gN_getR (d + 1) flX9_10 (fun _ _ _ => rfl) 0 (hD.t) (hD.r0) dX9_assign_2 ?_
  refine gN_getI flX9_68 rfl 0 (hD.s.t) dX9_assign_5 ?_
  refine g_ei (nI (nv (z 0))) (hR.c0.trans hz.n0.e) ?_
  refine gd_callS _ _ _ _ (cn_X9_checkNumber g (0, 0) (j := s) (N := nv (z 0)) (by omega) (by omega)) ⟨rfl, rfl⟩ (ok_X9_checkNumber _) mlX9_30 st_X9_checkNumber rfl ⟨Nat.le_of_ble_eq_true rfl, Nat.le_of_ble_eq_true rfl⟩ (by exact Nat.le_of_ble_eq_true rfl) ⟨Nat.zero_le _, Nat.zero_le _⟩ dX9_assign_8 rfl ?_
  refine g_iload_n 2 dX9_assign_11 rfl rfl ?_
  refine gN_iconst 4 dX9_assign_12 (by decide) ?_
  exact gx_callS _ _ (cx_X9_checkNumber g (0, 0) (N := 4) (by omega) (h)) (ok_X9_checkNumber _) mlX9_30 st_X9_checkNumber rfl ⟨Nat.le_of_ble_eq_true rfl, Nat.le_of_ble_eq_true rfl⟩ (by exact Nat.le_of_ble_eq_true rfl) ⟨Nat.le_of_ble_eq_true rfl, Nat.le_of_ble_eq_true rfl⟩ dX9_assign_13 rfl (fun n hn => ⟨rfl, n, hn, rfl⟩)
set_option maxRecDepth 100000 in
theorem cx_X9_assign_3 (g : Gp) (cs : Nat × Nat) {m : Mm} {d B c : Nat} {z : Nat → Int32} (hD : DkT m d) (hR : Rp m B (d + 1) z) (hz : ZOk c z) {s : Nat} (hs : s < nv (z 0)) {t : Nat} (ht : t < 4) (h : ¬ z (79 + 22 * s + 1) = 0) : Xn g (MX9_assign (1, 6)) [.ref (d), .int (nI (s)), .int (nI (t))] m "java/lang/IllegalStateException" := by
  have hz0 := hz.n0.hi
  have hz1 := hz.n1.hi
  refine Cn.of pn_X9 (Nat.le_of_ble_eq_true rfl) rfl ?_
  refine g_iload_n 1 dX9_assign_0 rfl rfl ?_
  refine g_aload_n 0 dX9_assign_1 rfl rfl ?_
  refine gN_getR (d + 1) flX9_10 (fun _ _ _ => rfl) 0 (hD.t) (hD.r0) dX9_assign_2 ?_
  refine gN_getI flX9_68 rfl 0 (hD.s.t) dX9_assign_5 ?_
  refine g_ei (nI (nv (z 0))) (hR.c0.trans hz.n0.e) ?_
  refine gd_callS _ _ _ _ (cn_X9_checkNumber g (0, 0) (j := s) (N := nv (z 0)) (by omega) (by omega)) ⟨rfl, rfl⟩ (ok_X9_checkNumber _) mlX9_30 st_X9_checkNumber rfl ⟨Nat.le_of_ble_eq_true rfl, Nat.le_of_ble_eq_true rfl⟩ (by exact Nat.le_of_ble_eq_true rfl) ⟨Nat.zero_le _, Nat.zero_le _⟩ dX9_assign_8 rfl ?_
  refine g_iload_n 2 dX9_assign_11 rfl rfl ?_
  refine gN_iconst 4 dX9_assign_12 (by decide) ?_
  refine gd_callS _ _ _ _ (cn_X9_checkNumber g (0, 0) (j := t) (N := 4) (by omega) (by omega)) ⟨rfl, rfl⟩ (ok_X9_checkNumber _) mlX9_30 st_X9_checkNumber rfl ⟨Nat.le_of_ble_eq_true rfl, Nat.le_of_ble_eq_true rfl⟩ (by exact Nat.le_of_ble_eq_true rfl) ⟨Nat.zero_le _, Nat.zero_le _⟩ dX9_assign_13 rfl ?_
  refine g_aload_n 0 dX9_assign_16 rfl rfl ?_
  refine gN_getR (d + 1) flX9_10 (fun _ _ _ => rfl) 0 (hD.t) (hD.r0) dX9_assign_17 ?_
  refine gN_getR (d + 1 + 5) flX9_71 (fun _ _ _ => rfl) 0 (hD.s.t) (hD.s.r4) dX9_assign_20 ?_
  refine g_iload_n 1 dX9_assign_23 rfl rfl ?_
  refine gN_aald 14 10 (d + 1 + 37 + s) (hD.s.t5) (by decide) (by first | omega | exact b01_lt _) (by first | omega | exact b01_lt _) (hD.s.rS (by omega)) dX9_assign_24 ?_
  refine g_astore_n 3 [(3, .ref (d + 1 + 37 + s)), (0, .ref (d)), (1, .int (nI (s))), (2, .int (nI (t)))] dX9_assign_25 rfl (Nat.le_of_ble_eq_true rfl) rfl ?_
  refine g_join 38 (b01 (z (79 + 22 * s + 1) = 0)) ?_ (fun K_38 => ?_)
  · exact gx_callS _ _ (cx_X9_checkState g (0, 0) (p := z (79 + 22 * s + 1) = 0) h) (ok_X9_checkState _) mlX9_80 st_X9_checkState rfl ⟨Nat.le_of_ble_eq_true rfl, Nat.le_of_ble_eq_true rfl⟩ (by exact Nat.le_of_ble_eq_true rfl) ⟨Nat.le_of_ble_eq_true rfl, Nat.le_of_ble_eq_true rfl⟩ dX9_assign_38 rfl (fun n hn => ⟨rfl, n, hn, rfl⟩)
  · refine g_aload_n 3 dX9_assign_26 rfl rfl ?_
    refine gN_getI flX9_75 rfl 0 (hD.s.tS (by omega)) dX9_assign_27 ?_
    refine g_eI (z (79 + 22 * s + 1)) (hR.S1 (by omega)) ?_
    refine g_if_ne 37 dX9_assign_30 (by decide) (fun h_30 => ?_) (fun h_30 => ?_)
    · refine gN_iconst 0 dX9_assign_37 (by decide) ?_
      exact g_ei (nI (b01 (z (79 + 22 * s + 1) = 0))) (congrArg nI (show 0 = b01 (z (79 + 22 * s + 1) = 0) from by first | exact (b01_t h_30).symm | exact (b01_f h_30).symm)) K_38
    · refine gN_iconst 1 dX9_assign_33 (by decide) ?_
      refine g_goto 38 dX9_assign_34 (by decide) ?_
      exact g_ei (nI (b01 (z (79 + 22 * s + 1) = 0))) (congrArg nI (show 1 = b01 (z (79 + 22 * s + 1) = 0) from by first | exact (b01_t h_30).symm | exact (b01_f h_30).symm)) K_38
set_option maxRecDepth 100000 in
theorem cn_X9_assign (g : Gp) (cs : Nat × Nat) {m : Mm} {d B c k kb : Nat} {z : Nat → Int32} {rows : Nat → Nat → Int32} {f : Nat → Int32} (hB : d + 344 ≤ B) (hG : KdT g m d) (hK : DkV m d B c k kb z rows f) (hz : ZOk c z) {s : Nat} (hs : s < nv (z 0)) {t : Nat} (ht : t < 4) (h : z (79 + 22 * s + 1) = 0) : Cn g (MX9_assign cs) [.ref (d), .int (nI (s)), .int (nI (t))] m (kQ m d B c (sk k) kb (asZ z s t) (svR k z rows) f (some (.int (nI (bandOf (mtc (u1 (u1 z (79 + 22 * s + 1) (nI 1)) (79 + 22 * s + 2) (nI t)) (79 + 22 * s))))))) := by
  have hz0 := hz.n0.hi
  have hz1 := hz.n1.hi
  have hSB : d + 1 + 47 ≤ B := by omega
  have hC := hG.1
  have hK0 := hK
  obtain ⟨hD, hR, ⟨fst, hV⟩, hl, hk6, hf⟩ := hK0
  refine Cn.of pn_X9 (Nat.le_of_ble_eq_true rfl) rfl ?_
  refine g_iload_n 1 dX9_assign_0 rfl rfl ?_
  refine g_aload_n 0 dX9_assign_1 rfl rfl ?_
  refine gN_getR (d + 1) flX9_10 (fun _ _ _ => rfl) 0 (hD.t) (hD.r0) dX9_assign_2 ?_
  refine gN_getI flX9_68 rfl 0 (hD.s.t) dX9_assign_5 ?_
  refine g_ei (nI (nv (z 0))) (hR.c0.trans hz.n0.e) ?_
  refine gd_callS _ _ _ _ (cn_X9_checkNumber g (0, 0) (j := s) (N := nv (z 0)) (by omega) (by omega)) ⟨rfl, rfl⟩ (ok_X9_checkNumber _) mlX9_30 st_X9_checkNumber rfl ⟨Nat.le_of_ble_eq_true rfl, Nat.le_of_ble_eq_true rfl⟩ (by exact Nat.le_of_ble_eq_true rfl) ⟨Nat.zero_le _, Nat.zero_le _⟩ dX9_assign_8 rfl ?_
  refine g_iload_n 2 dX9_assign_11 rfl rfl ?_
  refine gN_iconst 4 dX9_assign_12 (by decide) ?_
  refine gd_callS _ _ _ _ (cn_X9_checkNumber g (0, 0) (j := t) (N := 4) (by omega) (by omega)) ⟨rfl, rfl⟩ (ok_X9_checkNumber _) mlX9_30 st_X9_checkNumber rfl ⟨Nat.le_of_ble_eq_true rfl, Nat.le_of_ble_eq_true rfl⟩ (by exact Nat.le_of_ble_eq_true rfl) ⟨Nat.zero_le _, Nat.zero_le _⟩ dX9_assign_13 rfl ?_
  refine g_aload_n 0 dX9_assign_16 rfl rfl ?_
  refine gN_getR (d + 1) flX9_10 (fun _ _ _ => rfl) 0 (hD.t) (hD.r0) dX9_assign_17 ?_
  refine gN_getR (d + 1 + 5) flX9_71 (fun _ _ _ => rfl) 0 (hD.s.t) (hD.s.r4) dX9_assign_20 ?_
  refine g_iload_n 1 dX9_assign_23 rfl rfl ?_
  refine gN_aald 14 10 (d + 1 + 37 + s) (hD.s.t5) (by decide) (by first | omega | exact b01_lt _) (by first | omega | exact b01_lt _) (hD.s.rS (by omega)) dX9_assign_24 ?_
  refine g_astore_n 3 [(3, .ref (d + 1 + 37 + s)), (0, .ref (d)), (1, .int (nI (s))), (2, .int (nI (t)))] dX9_assign_25 rfl (Nat.le_of_ble_eq_true rfl) rfl ?_
  refine g_join 38 (b01 (z (79 + 22 * s + 1) = 0)) ?_ (fun K_38 => ?_)
  · refine gd_callS _ _ _ _ (cn_X9_checkState g (0, 0) (p := z (79 + 22 * s + 1) = 0) (h)) ⟨rfl, rfl⟩ (ok_X9_checkState _) mlX9_80 st_X9_checkState rfl ⟨Nat.le_of_ble_eq_true rfl, Nat.le_of_ble_eq_true rfl⟩ (by exact Nat.le_of_ble_eq_true rfl) ⟨Nat.zero_le _, Nat.zero_le _⟩ dX9_assign_38 rfl ?_
    refine g_aload_n 0 dX9_assign_41 rfl rfl ?_
    refine gN_getR (d + 48) flX9_19 (fun _ _ _ => rfl) 0 (hD.t) (hD.r1) dX9_assign_42 ?_
    refine g_aload_n 0 dX9_assign_45 rfl rfl ?_
    refine gN_getR (d + 1) flX9_10 (fun _ _ _ => rfl) 0 (hD.t) (hD.r0) dX9_assign_46 ?_
    refine gm_callV _ _ _ (cn_X2_save g (0, 0) (m := m) (H := d + 48) (S := d + 1) (B := B) (c := c) (z := z) hD.h hV hD.s hR hz rfl (by omega)) ⟨rfl, rfl⟩ (ok_X2_save _) mlX9_38 in_X2_save se_X2_save 2 0 (hD.h.t) rfl rfl rfl ⟨Nat.le_of_ble_eq_true rfl, Nat.le_of_ble_eq_true rfl⟩ (by exact Nat.le_of_ble_eq_true rfl) ⟨Nat.zero_le _, Nat.zero_le _⟩ dX9_assign_49 rfl (fun I R hP => ?_)
    obtain ⟨hF, hH2, fst2, hV2⟩ := hP
    have hK1 := DkV.sv hK hz0 hB hF hH2 hV2
    have hF1 := Hd.fb (Hd.rfl' m d) hF (by omega) (by omega)
    generalize wM m I R = m1 at hK1 hF1 ⊢
    clear hF hH2 hV2 hD hR hV hl hf hC
    have hG1 := hG.fd hF1
    have hC := hG1.1
    have hK2 := hK1
    obtain ⟨hD, hR, ⟨fst1, hV⟩, hl, _, hf⟩ := hK2
    obtain ⟨r, hq1, hr⟩ := hR.SR hs
    have hF2 : FrB m1 (d + 1) (d + 1 + 47) (u2 (u2 (im m1) (d + 1 + 37 + s) 1 (nI 1)) (d + 1 + 37 + s) 2 (nI t)) (rf m1) := (((FrB.rfl' _ _ _).i _ (by omega) (by omega)).i _ (by omega) (by omega))
    have hF2s : FrB m1 (d + 1 + 37) (d + 1 + 47) (u2 (u2 (im m1) (d + 1 + 37 + s) 1 (nI 1)) (d + 1 + 37 + s) 2 (nI t)) (rf m1) := (((FrB.rfl' _ _ _).i _ (by omega) (by omega)).i _ (by omega) (by omega))
    have hr5 : RowA (wM m1 (u2 (u2 (im m1) (d + 1 + 37 + s) 1 (nI 1)) (d + 1 + 37 + s) 2 (nI t)) (rf m1)) B r _ _ := hF2.row (by omega) hr
    have hM5 : RpM (wM m1 (u2 (u2 (im m1) (d + 1 + 37 + s) 1 (nI 1)) (d + 1 + 37 + s) 2 (nI t)) (rf m1)) B (d + 1) z (nv (z 1)) := fun j hj => (hR.M hj).fr rfl (Nat.le_refl _) (fun x k1 k2 => ⟨rfl, (hF2 x (by omega)).1, (hF2 x (by omega)).2⟩)
    have hc5 : im (wM m1 (u2 (u2 (im m1) (d + 1 + 37 + s) 1 (nI 1)) (d + 1 + 37 + s) 2 (nI t)) (rf m1)) (d + 1 + 10) 1 = z 1 := by rw [im_wM, (hF2s _ (by omega)).1]; exact hR.c1
    have hB5 : RpB (wM m1 (u2 (u2 (im m1) (d + 1 + 37 + s) 1 (nI 1)) (d + 1 + 37 + s) 2 (nI t)) (rf m1)) (d + 1) z 5 := hR.2.2.1.fr (Nat.le_refl _) (fun x k1 k2 => (hF2s x (by omega)).1)
    have hC5 : CsT g (wM m1 (u2 (u2 (im m1) (d + 1 + 37 + s) 1 (nI 1)) (d + 1 + 37 + s) 2 (nI t)) (rf m1)) := (hG1.fd (Hd.fb (Hd.rfl' m1 d) hF2 (by omega) (by omega))).1
    refine g_aload_n 3 dX9_assign_52 rfl rfl ?_
    refine gN_iconst 1 dX9_assign_53 (by decide) ?_
    refine gN_putI fwX9_75 rfl 0 (hD.s.tS (by omega)) dX9_assign_54 ?_
    refine g_aload_n 3 dX9_assign_57 rfl rfl ?_
    refine g_iload_n 2 dX9_assign_58 rfl rfl ?_
    refine gN_putI fwX9_84 rfl 0 (hD.s.tS (by omega)) dX9_assign_59 ?_
    refine g_aload_n 0 dX9_assign_62 rfl rfl ?_
    refine gN_getR (d + 1) flX9_10 (fun _ _ _ => rfl) 0 (hD.t) (hD.r0) dX9_assign_63 ?_
    refine g_aload_n 3 dX9_assign_66 rfl rfl ?_
    refine g_mem (m1 := (wM m1 (u2 (u2 (im m1) (d + 1 + 37 + s) 1 (nI 1)) (d + 1 + 37 + s) 2 (nI t)) (rf m1))) rfl ?_
    refine gd_callV _ _ _ _ (cn_X6_fixBand g (0, 0) (m := (wM m1 (u2 (u2 (im m1) (d + 1 + 37 + s) 1 (nI 1)) (d + 1 + 37 + s) 2 (nI t)) (rf m1))) (hD.s.w (fun _ _ _ => rfl)) hc5 hz.n1 hM5 hB5 hC5 (by omega) hq1 hr5.2.2) ⟨rfl, rfl⟩ (ok_X6_fixBand _) mlX9_87 in_X6_fixBand se_X6_fixBand 6 0 (hD.s.t) rfl rfl rfl ⟨Nat.le_of_ble_eq_true rfl, Nat.le_of_ble_eq_true rfl⟩ (by exact Nat.le_of_ble_eq_true rfl) ⟨Nat.zero_le _, Nat.zero_le _⟩ dX9_assign_67 rfl ?_
    refine g_aload_n 3 dX9_assign_70 rfl rfl ?_
    refine gN_getI flX9_91 rfl 0 (hD.s.tS (by omega)) dX9_assign_71 ?_
    refine g_eI (nI (bandOf (gm (mfr z (fun e => z (79 + 22 * s + 10 + e)) (nv (z (79 + 22 * s)))) (nv (z 1))))) ((u2_n _ _ _ _ (by omega)).trans (u2_s _ _ _ _)) ?_
    refine g_iret rfl dX9_assign_74 ⟨Nat.zero_le _, Nat.zero_le _⟩ ?_
    have hmt : mtc (u1 (u1 z (79 + 22 * s + 1) (nI 1)) (79 + 22 * s + 2) (nI t)) (79 + 22 * s) = gm (mfr z (fun e => z (79 + 22 * s + 10 + e)) (nv (z (79 + 22 * s)))) (nv (z 1)) := mtc_cg (by simp (disch := omega) only [im_wM, im_sI, u2_n, u2_s, u1_n, u1_s]) (fun e he => by simp (disch := omega) only [im_wM, im_sI, u2_n, u2_s, u1_n, u1_s]) (fun j hj => by simp (disch := omega) only [im_wM, im_sI, u2_n, u2_s, u1_n, u1_s]) (by simp (disch := omega) only [im_wM, im_sI, u2_n, u2_s, u1_n, u1_s])
    have hb4 := bandOf_le (gm (mfr z (fun e => z (79 + 22 * s + 10 + e)) (nv (z (79 + 22 * s)))) (nv (z 1)))
    have haz : asZ z s t = u1 (u1 (u1 (u1 z (79 + 22 * s + 1) (nI 1)) (79 + 22 * s + 2) (nI t)) (79 + 22 * s + 3) (nI (bandOf (gm (mfr z (fun e => z (79 + 22 * s + 10 + e)) (nv (z (79 + 22 * s)))) (nv (z 1)))))) (79 + 22 * s + 4) (z (64 + 3 * bandOf (gm (mfr z (fun e => z (79 + 22 * s + 10 + e)) (nv (z (79 + 22 * s)))) (nv (z 1))))) := by unfold asZ fxZ; rw [hmt]; simp (disch := omega) only [im_wM, im_sI, u2_n, u2_s, u1_n, u1_s]
    rw [haz]
    have hF4 : FrB m1 (d + 1) (d + 1 + 47) (u2 (u2 (u2 (u2 (im m1) (d + 1 + 37 + s) 1 (nI 1)) (d + 1 + 37 + s) 2 (nI t)) (d + 1 + 37 + s) 3 (nI (bandOf (gm (mfr z (fun e => z (79 + 22 * s + 10 + e)) (nv (z (79 + 22 * s)))) (nv (z 1)))))) (d + 1 + 37 + s) 4 (z (64 + 3 * bandOf (gm (mfr z (fun e => z (79 + 22 * s + 10 + e)) (nv (z (79 + 22 * s)))) (nv (z 1)))))) (rf m1) := (((((FrB.rfl' _ _ _).i _ (by omega) (by omega)).i _ (by omega) (by omega)).i _ (by omega) (by omega)).i _ (by omega) (by omega))
    refine ⟨vI ?_, Hd.fb (m1 := m1) (I := (u2 (u2 (u2 (u2 (im m1) (d + 1 + 37 + s) 1 (nI 1)) (d + 1 + 37 + s) 2 (nI t)) (d + 1 + 37 + s) 3 (nI (bandOf (gm (mfr z (fun e => z (79 + 22 * s + 10 + e)) (nv (z (79 + 22 * s)))) (nv (z 1)))))) (d + 1 + 37 + s) 4 (z (64 + 3 * bandOf (gm (mfr z (fun e => z (79 + 22 * s + 10 + e)) (nv (z (79 + 22 * s)))) (nv (z 1))))))) (R := rf m1) hF1 hF4 (by omega) (by omega), DkV.nw (m := m1) (I := (u2 (u2 (u2 (u2 (im m1) (d + 1 + 37 + s) 1 (nI 1)) (d + 1 + 37 + s) 2 (nI t)) (d + 1 + 37 + s) 3 (nI (bandOf (gm (mfr z (fun e => z (79 + 22 * s + 10 + e)) (nv (z (79 + 22 * s)))) (nv (z 1)))))) (d + 1 + 37 + s) 4 (z (64 + 3 * bandOf (gm (mfr z (fun e => z (79 + 22 * s + 10 + e)) (nv (z (79 + 22 * s)))) (nv (z 1))))))) (R := rf m1) hK1 hB hF4 (hD.s.w (fun _ _ _ => rfl)) ?_⟩
    · rw [hmt]
    refine Rp.up hR hz.ln hSB ((((((FrB.rfl' _ _ _).i _ (by omega) (by omega)).i _ (by omega) (by omega)).i _ (by omega) (by omega)).i _ (by omega) (by omega))) ?_ ?_ ⟨?_, ?_, ?_, ?_⟩ (fun p hp => ?_) (fun p hp => ?_) (fun p hp => ⟨fun w hw => ?_, ?_⟩) (fun q hq => ?_) (fun q hq => ⟨?_, fun e he => ?_⟩) (fun j hj => ?_)
    · simp (disch := omega) only [im_wM, im_sI, u2_n, u2_s, u1_n, u1_s]
    · simp (disch := omega) only [im_wM, im_sI, u2_n, u2_s, u1_n, u1_s]
    · simp (disch := omega) only [im_wM, im_sI, u2_n, u2_s, u1_n, u1_s]
      first | done | rfl | exact hR.c0
    · simp (disch := omega) only [im_wM, im_sI, u2_n, u2_s, u1_n, u1_s]
      first | done | rfl | exact hR.c1
    · simp (disch := omega) only [im_wM, im_sI, u2_n, u2_s, u1_n, u1_s]
      first | done | rfl | exact hR.c2
    · simp (disch := omega) only [im_wM, im_sI, u2_n, u2_s, u1_n, u1_s]
      first | done | rfl | exact hR.c3
    · skip
      refine ⟨?_, ?_, ?_, ?_, ?_⟩
      all_goals (try simp (disch := omega) only [im_wM, im_sI, u2_n, u2_s, u1_n, u1_s])
      all_goals first | done | rfl | exact hR.T0 (by omega) | exact hR.T1 (by omega) | exact hR.T2 (by omega) | exact hR.T3 (by omega) | exact hR.T4 (by omega)
    · skip
      refine ⟨?_, ?_, ?_⟩
      all_goals (try simp (disch := omega) only [im_wM, im_sI, u2_n, u2_s, u1_n, u1_s])
      all_goals first | done | rfl | exact hR.B0 (by omega) | exact hR.B1 (by omega) | exact hR.B2 (by omega)
    · try simp (disch := omega) only [im_wM, im_sI, u2_n, u2_s, u1_n, u1_s]
      exact hR.W hp hw
    · try simp (disch := omega) only [im_wM, im_sI, u2_n, u2_s, u1_n, u1_s]
      exact hR.W1 hp
    · skip
      by_cases e1 : q = s
      · subst e1
        unfold SgI
        refine ⟨?_, ?_, ?_, ?_, ?_, ?_, ?_, ?_, fun h9 => ?_⟩
        all_goals (try simp (disch := omega) only [im_wM, im_sI, u2_n, u2_s, u1_n, u1_s])
        all_goals (try simp (disch := omega) only [im_wM, im_sI, u2_n, u2_s, u1_n, u1_s] at h9)
        all_goals first | done | rfl | (rw [opn_t (by decide)]; done) | exact hR.S5 hs | exact hR.S6 hs | exact hR.S7 hs | exact hR.S8 hs | (exfalso; exact absurd h9 (by decide))
      · have h9 := hR.Sg hq
        unfold SgI at h9 ⊢
        simp (disch := omega) only [im_wM, im_sI, u2_n, u2_s, u1_n, u1_s] at h9 ⊢
        exact h9
    · simp (disch := omega) only [im_wM, im_sI, u2_n, u2_s, u1_n, u1_s]
    · simp (disch := omega) only [im_wM, im_sI, u2_n, u2_s, u1_n, u1_s]
    · simp (disch := omega) only [im_wM, im_sI, u2_n, u2_s, u1_n, u1_s]
  · refine g_aload_n 3 dX9_assign_26 rfl rfl ?_
    refine gN_getI flX9_75 rfl 0 (hD.s.tS (by omega)) dX9_assign_27 ?_
    refine g_eI (z (79 + 22 * s + 1)) (hR.S1 (by omega)) ?_
    refine g_if_ne 37 dX9_assign_30 (by decide) (fun h_30 => ?_) (fun h_30 => ?_)
    · refine gN_iconst 0 dX9_assign_37 (by decide) ?_
      exact g_ei (nI (b01 (z (79 + 22 * s + 1) = 0))) (congrArg nI (show 0 = b01 (z (79 + 22 * s + 1) = 0) from by first | exact (b01_t h_30).symm | exact (b01_f h_30).symm)) K_38
    · refine gN_iconst 1 dX9_assign_33 (by decide) ?_
      refine g_goto 38 dX9_assign_34 (by decide) ?_
      exact g_ei (nI (b01 (z (79 + 22 * s + 1) = 0))) (congrArg nI (show 1 = b01 (z (79 + 22 * s + 1) = 0) from by first | exact (b01_t h_30).symm | exact (b01_f h_30).symm)) K_38
set_option maxRecDepth 100000 in
theorem cn_X5_isTakenAt (g : Gp) (cs : Nat × Nat) {m : Mm} {S B c : Nat} {z : Nat → Int32} (hS : StT m S) (hR : Rp m B S z) (hz : ZOk c z) {s : Nat} (hs : s < nv (z 0)) {r : Nat} (h0 : ¬ nI r = 0) : Dn g (MX5_isTakenAt cs) [.ref (S + 37 + s), .int (nI r)] m (some (.int (nI (b01 (z (79 + 22 * s + 1) = nI r))))) m := by
  have hz0 := hz.n0.hi
  have h2 := (hz.S2 hs).hi
  have h3 := (hz.S3 hs).hi
  refine Cn.of pn_X5 (Nat.le_of_ble_eq_true rfl) rfl ?_
  refine g_join 43 (b01 (z (79 + 22 * s + 1) = nI r)) ?_ (fun K_43 => ?_)
  · refine g_zret rfl (by first | rfl | exact nar_b01 _) dX5_isTakenAt_43 ⟨Nat.zero_le _, Nat.zero_le _⟩ ?_
    exact ⟨rfl, rfl⟩
  · refine g_aload_n 0 dX5_isTakenAt_0 rfl rfl ?_
    refine gN_getI flX5_15 rfl 0 (hS.tS (by omega)) dX5_isTakenAt_1 ?_
    refine g_eI (z (79 + 22 * s + 1)) (hR.S1 hs) ?_
    refine g_iload_n 1 dX5_isTakenAt_4 rfl rfl ?_
    refine g_icmp_ne 42 dX5_isTakenAt_5 (by decide) (fun h_5 => ?_) (fun h_5 => ?_)
    · refine gN_iconst 0 dX5_isTakenAt_42 (by decide) ?_
      exact g_ei (nI (b01 (z (79 + 22 * s + 1) = nI r))) (congrArg nI (show 0 = b01 (z (79 + 22 * s + 1) = nI r) from by first | exact (b01_t h_5).symm | exact (b01_f h_5).symm)) K_43
    · refine g_aload_n 0 dX5_isTakenAt_8 rfl rfl ?_
      refine gN_getI flX5_19 rfl 0 (hS.tS (by omega)) dX5_isTakenAt_9 ?_
      refine g_ei (nI (nv (z (79 + 22 * s + 2)))) ((hR.S2 hs).trans ((opn_t (fun q => h0 (h_5.symm.trans q))).trans (hz.S2 hs).e)) ?_
      refine gN_if_lt 42 dX5_isTakenAt_12 (by decide) (by first | omega | exact b01_lt _) ?_
      refine g_aload_n 0 dX5_isTakenAt_15 rfl rfl ?_
      refine gN_getI flX5_19 rfl 0 (hS.tS (by omega)) dX5_isTakenAt_16 ?_
      refine g_ei (nI (nv (z (79 + 22 * s + 2)))) ((hR.S2 hs).trans ((opn_t (fun q => h0 (h_5.symm.trans q))).trans (hz.S2 hs).e)) ?_
      refine gN_iconst 4 dX5_isTakenAt_19 (by decide) ?_
      refine gN_icmp_ge 42 dX5_isTakenAt_20 (by decide) (by first | omega | exact b01_lt _) (by first | omega | exact b01_lt _) (fun h_20 => ?_) (fun h_20 => ?_)
      · exfalso; omega
      · refine g_aload_n 0 dX5_isTakenAt_23 rfl rfl ?_
        refine gN_getI flX5_22 rfl 0 (hS.tS (by omega)) dX5_isTakenAt_24 ?_
        refine g_ei (nI (nv (z (79 + 22 * s + 3)))) ((hR.S3 hs).trans ((opn_t (fun q => h0 (h_5.symm.trans q))).trans (hz.S3 hs).e)) ?_
        refine gN_if_lt 42 dX5_isTakenAt_27 (by decide) (by first | omega | exact b01_lt _) ?_
        refine g_aload_n 0 dX5_isTakenAt_30 rfl rfl ?_
        refine gN_getI flX5_22 rfl 0 (hS.tS (by omega)) dX5_isTakenAt_31 ?_
        refine g_ei (nI (nv (z (79 + 22 * s + 3)))) ((hR.S3 hs).trans ((opn_t (fun q => h0 (h_5.symm.trans q))).trans (hz.S3 hs).e)) ?_
        refine gN_iconst 5 dX5_isTakenAt_34 (by decide) ?_
        refine gN_icmp_ge 42 dX5_isTakenAt_35 (by decide) (by first | omega | exact b01_lt _) (by first | omega | exact b01_lt _) (fun h_35 => ?_) (fun h_35 => ?_)
        · exfalso; omega
        · refine gN_iconst 1 dX5_isTakenAt_38 (by decide) ?_
          refine g_goto 43 dX5_isTakenAt_39 (by decide) ?_
          exact g_ei (nI (b01 (z (79 + 22 * s + 1) = nI r))) (congrArg nI (show 1 = b01 (z (79 + 22 * s + 1) = nI r) from by first | exact (b01_t h_5).symm | exact (b01_f h_5).symm)) K_43
set_option maxRecDepth 100000 in
theorem cx_X9_deliver_1 (g : Gp) (cs : Nat × Nat) {m : Mm} {d B c : Nat} {z : Nat → Int32} (hD : DkT m d) (hR : Rp m B (d + 1) z) (hz : ZOk c z) {p : Int32} (h : ¬ inb p (nv (z 0))) : Xn g (MX9_deliver (1, 6)) [.ref (d), .int (p)] m "java/lang/IndexOutOfBoundsException" := by
  have hz0 := hz.n0.hi
  have hz1 := hz.n1.hi
  refine Cn.of pn_X9 (Nat.le_of_ble_eq_true rfl) rfl ?_
  refine g_iload_n 1 dX9_deliver_0 rfl rfl ?_
  refine g_aload_n 0 dX9_deliver_1 rfl rfl ?_
  refine gN_getR (d + 1) flX9_10 (fun _ _ _ => rfl) 0 (hD.t) (hD.r0) dX9_deliver_2 ?_
  refine gN_getI flX9_68 rfl 0 (hD.s.t) dX9_deliver_5 ?_
  refine g_ei (nI (nv (z 0))) (hR.c0.trans hz.n0.e) ?_
  exact gx_callS _ _ (cx_X9_checkNumber g (0, 0) (N := nv (z 0)) (by omega) (h)) (ok_X9_checkNumber _) mlX9_30 st_X9_checkNumber rfl ⟨Nat.le_of_ble_eq_true rfl, Nat.le_of_ble_eq_true rfl⟩ (by exact Nat.le_of_ble_eq_true rfl) ⟨Nat.le_of_ble_eq_true rfl, Nat.le_of_ble_eq_true rfl⟩ dX9_deliver_8 rfl (fun n hn => ⟨rfl, n, hn, rfl⟩)
set_option maxRecDepth 100000 in
theorem cx_X9_deliver_3 (g : Gp) (cs : Nat × Nat) {m : Mm} {d B c : Nat} {z : Nat → Int32} (hD : DkT m d) (hR : Rp m B (d + 1) z) (hz : ZOk c z) {s : Nat} (hs : s < nv (z 0)) (h : ¬ (z (79 + 22 * s + 1) = nI 1 ∧ ¬ hdp z (79 + 22 * s))) : Xn g (MX9_deliver (1, 6)) [.ref (d), .int (nI (s))] m "java/lang/IllegalStateException" := by
  have hz0 := hz.n0.hi
  have hz1 := hz.n1.hi
  obtain ⟨q, hq1, hqa⟩ := hR.SR (s := s) hs
  have hq := hqa.2.2
  refine Cn.of pn_X9 (Nat.le_of_ble_eq_true rfl) rfl ?_
  refine g_iload_n 1 dX9_deliver_0 rfl rfl ?_
  refine g_aload_n 0 dX9_deliver_1 rfl rfl ?_
  refine gN_getR (d + 1) flX9_10 (fun _ _ _ => rfl) 0 (hD.t) (hD.r0) dX9_deliver_2 ?_
  refine gN_getI flX9_68 rfl 0 (hD.s.t) dX9_deliver_5 ?_
  refine g_ei (nI (nv (z 0))) (hR.c0.trans hz.n0.e) ?_
  refine gd_callS _ _ _ _ (cn_X9_checkNumber g (0, 0) (j := s) (N := nv (z 0)) (by omega) (by omega)) ⟨rfl, rfl⟩ (ok_X9_checkNumber _) mlX9_30 st_X9_checkNumber rfl ⟨Nat.le_of_ble_eq_true rfl, Nat.le_of_ble_eq_true rfl⟩ (by exact Nat.le_of_ble_eq_true rfl) ⟨Nat.zero_le _, Nat.zero_le _⟩ dX9_deliver_8 rfl ?_
  refine g_aload_n 0 dX9_deliver_11 rfl rfl ?_
  refine gN_getR (d + 1) flX9_10 (fun _ _ _ => rfl) 0 (hD.t) (hD.r0) dX9_deliver_12 ?_
  refine gN_getR (d + 1 + 5) flX9_71 (fun _ _ _ => rfl) 0 (hD.s.t) (hD.s.r4) dX9_deliver_15 ?_
  refine g_iload_n 1 dX9_deliver_18 rfl rfl ?_
  refine gN_aald 14 10 (d + 1 + 37 + s) (hD.s.t5) (by decide) (by first | omega | exact b01_lt _) (by first | omega | exact b01_lt _) (hD.s.rS (by omega)) dX9_deliver_19 ?_
  refine g_astore_n 2 [(2, .ref (d + 1 + 37 + s)), (0, .ref (d)), (1, .int (nI (s)))] dX9_deliver_20 rfl (Nat.le_of_ble_eq_true rfl) rfl ?_
  refine g_join 48 (b01 (z (79 + 22 * s + 1) = nI 1 ∧ ¬ hdp z (79 + 22 * s))) ?_ (fun K_48 => ?_)
  · exact gx_callS _ _ (cx_X9_checkState g (0, 0) (p := z (79 + 22 * s + 1) = nI 1 ∧ ¬ hdp z (79 + 22 * s)) h) (ok_X9_checkState _) mlX9_80 st_X9_checkState rfl ⟨Nat.le_of_ble_eq_true rfl, Nat.le_of_ble_eq_true rfl⟩ (by exact Nat.le_of_ble_eq_true rfl) ⟨Nat.le_of_ble_eq_true rfl, Nat.le_of_ble_eq_true rfl⟩ dX9_deliver_48 rfl (fun n hn => ⟨rfl, n, hn, rfl⟩)
  · refine g_aload_n 2 dX9_deliver_21 rfl rfl ?_
    refine gN_iconst 1 dX9_deliver_22 (by decide) ?_
    refine gd_callV _ _ _ _ (cn_X5_isTakenAt g (0, 0) hD.s hR hz hs (r := 1) (by decide)) ⟨rfl, rfl⟩ (ok_X5_isTakenAt _) mlX9_94 in_X5_isTakenAt se_X5_isTakenAt 5 0 (hD.s.tS (by omega)) rfl rfl rfl ⟨Nat.le_of_ble_eq_true rfl, Nat.le_of_ble_eq_true rfl⟩ (by exact Nat.le_of_ble_eq_true rfl) ⟨Nat.zero_le _, Nat.zero_le _⟩ dX9_deliver_23 rfl ?_
    refine gN_if_eq 47 dX9_deliver_26 (by decide) (by first | omega | exact b01_lt _) (fun h_26 => ?_) (fun h_26 => ?_)
    · refine gN_iconst 0 dX9_deliver_47 (by decide) ?_
      exact g_ei (nI (b01 (z (79 + 22 * s + 1) = nI 1 ∧ ¬ hdp z (79 + 22 * s)))) (congrArg nI (show 0 = b01 (z (79 + 22 * s + 1) = nI 1 ∧ ¬ hdp z (79 + 22 * s)) from by first | exact (b01_t ⟨b01_n.mp h_26, fun q => by rw [b01_t q] at h_40; exact absurd h_40 (by decide)⟩).symm | exact (b01_f (fun q => by first | exact b01_z.mp h_26 q.1 | (rw [b01_f q.2] at h_40; exact absurd h_40 (by decide)))).symm)) K_48
    · refine g_aload_n 0 dX9_deliver_29 rfl rfl ?_
      refine gN_getR (d + 1) flX9_10 (fun _ _ _ => rfl) 0 (hD.t) (hD.r0) dX9_deliver_30 ?_
      refine g_aload_n 2 dX9_deliver_33 rfl rfl ?_
      refine gN_getR (q) flX9_98 (fun _ _ _ => rfl) 0 (hD.s.tS (by omega)) (hq1) dX9_deliver_34 ?_
      refine gd_callV _ _ _ _ (cn_X6_hasDispute g (0, 0) hD.s hR hz hq) ⟨rfl, rfl⟩ (ok_X6_hasDispute _) mlX9_102 in_X6_hasDispute se_X6_hasDispute 6 0 (hD.s.t) rfl rfl rfl ⟨Nat.le_of_ble_eq_true rfl, Nat.le_of_ble_eq_true rfl⟩ (by exact Nat.le_of_ble_eq_true rfl) ⟨Nat.zero_le _, Nat.zero_le _⟩ dX9_deliver_37 rfl ?_
      refine g_ei (nI (b01 (hdp z (79 + 22 * s)))) (rfl) ?_
      refine gN_if_ne 47 dX9_deliver_40 (by decide) (by first | omega | exact b01_lt _) (fun h_40 => ?_) (fun h_40 => ?_)
      · refine gN_iconst 0 dX9_deliver_47 (by decide) ?_
        exact g_ei (nI (b01 (z (79 + 22 * s + 1) = nI 1 ∧ ¬ hdp z (79 + 22 * s)))) (congrArg nI (show 0 = b01 (z (79 + 22 * s + 1) = nI 1 ∧ ¬ hdp z (79 + 22 * s)) from by first | exact (b01_t ⟨b01_n.mp h_26, fun q => by rw [b01_t q] at h_40; exact absurd h_40 (by decide)⟩).symm | exact (b01_f (fun q => by first | exact b01_z.mp h_26 q.1 | (rw [b01_f q.2] at h_40; exact absurd h_40 (by decide)))).symm)) K_48
      · refine gN_iconst 1 dX9_deliver_43 (by decide) ?_
        refine g_goto 48 dX9_deliver_44 (by decide) ?_
        exact g_ei (nI (b01 (z (79 + 22 * s + 1) = nI 1 ∧ ¬ hdp z (79 + 22 * s)))) (congrArg nI (show 1 = b01 (z (79 + 22 * s + 1) = nI 1 ∧ ¬ hdp z (79 + 22 * s)) from by first | exact (b01_t ⟨b01_n.mp h_26, fun q => by rw [b01_t q] at h_40; exact absurd h_40 (by decide)⟩).symm | exact (b01_f (fun q => by first | exact b01_z.mp h_26 q.1 | (rw [b01_f q.2] at h_40; exact absurd h_40 (by decide)))).symm)) K_48
set_option maxRecDepth 100000 in
theorem cn_X9_deliver (g : Gp) (cs : Nat × Nat) {m : Mm} {d B c k kb : Nat} {z : Nat → Int32} {rows : Nat → Nat → Int32} {f : Nat → Int32} (hB : d + 344 ≤ B) (hG : KdT g m d) (hK : DkV m d B c k kb z rows f) (hz : ZOk c z) {s : Nat} (hs : s < nv (z 0)) (h : z (79 + 22 * s + 1) = nI 1 ∧ ¬ hdp z (79 + 22 * s)) : Cn g (MX9_deliver cs) [.ref (d), .int (nI (s))] m (kQ m d B c (sk k) kb (dlZ z s (nv (z (79 + 22 * s + 2))) (nv (z (79 + 22 * s + 3))) (payV z (79 + 22 * s) (nv (z (79 + 22 * s + 2))) (z (79 + 22 * s + 4)))) (svR k z rows) f (some (.int (payV z (79 + 22 * s) (nv (z (79 + 22 * s + 2))) (z (79 + 22 * s + 4)))))) := by
  have hz0 := hz.n0.hi
  have hz1 := hz.n1.hi
  have hSB : d + 1 + 47 ≤ B := by omega
  have hC := hG.1
  have hK0 := hK
  obtain ⟨hD, hR, ⟨fst, hV⟩, hl, hk6, hf⟩ := hK0
  obtain ⟨q, hq1, hqa⟩ := hR.SR (s := s) hs
  have hq := hqa.2.2
  refine Cn.of pn_X9 (Nat.le_of_ble_eq_true rfl) rfl ?_
  refine g_iload_n 1 dX9_deliver_0 rfl rfl ?_
  refine g_aload_n 0 dX9_deliver_1 rfl rfl ?_
  refine gN_getR (d + 1) flX9_10 (fun _ _ _ => rfl) 0 (hD.t) (hD.r0) dX9_deliver_2 ?_
  refine gN_getI flX9_68 rfl 0 (hD.s.t) dX9_deliver_5 ?_
  refine g_ei (nI (nv (z 0))) (hR.c0.trans hz.n0.e) ?_
  refine gd_callS _ _ _ _ (cn_X9_checkNumber g (0, 0) (j := s) (N := nv (z 0)) (by omega) (by omega)) ⟨rfl, rfl⟩ (ok_X9_checkNumber _) mlX9_30 st_X9_checkNumber rfl ⟨Nat.le_of_ble_eq_true rfl, Nat.le_of_ble_eq_true rfl⟩ (by exact Nat.le_of_ble_eq_true rfl) ⟨Nat.zero_le _, Nat.zero_le _⟩ dX9_deliver_8 rfl ?_
  refine g_aload_n 0 dX9_deliver_11 rfl rfl ?_
  refine gN_getR (d + 1) flX9_10 (fun _ _ _ => rfl) 0 (hD.t) (hD.r0) dX9_deliver_12 ?_
  refine gN_getR (d + 1 + 5) flX9_71 (fun _ _ _ => rfl) 0 (hD.s.t) (hD.s.r4) dX9_deliver_15 ?_
  refine g_iload_n 1 dX9_deliver_18 rfl rfl ?_
  refine gN_aald 14 10 (d + 1 + 37 + s) (hD.s.t5) (by decide) (by first | omega | exact b01_lt _) (by first | omega | exact b01_lt _) (hD.s.rS (by omega)) dX9_deliver_19 ?_
  refine g_astore_n 2 [(2, .ref (d + 1 + 37 + s)), (0, .ref (d)), (1, .int (nI (s)))] dX9_deliver_20 rfl (Nat.le_of_ble_eq_true rfl) rfl ?_
  refine g_join 48 (b01 (z (79 + 22 * s + 1) = nI 1 ∧ ¬ hdp z (79 + 22 * s))) ?_ (fun K_48 => ?_)
  · refine gd_callS _ _ _ _ (cn_X9_checkState g (0, 0) (p := z (79 + 22 * s + 1) = nI 1 ∧ ¬ hdp z (79 + 22 * s)) (h)) ⟨rfl, rfl⟩ (ok_X9_checkState _) mlX9_80 st_X9_checkState rfl ⟨Nat.le_of_ble_eq_true rfl, Nat.le_of_ble_eq_true rfl⟩ (by exact Nat.le_of_ble_eq_true rfl) ⟨Nat.zero_le _, Nat.zero_le _⟩ dX9_deliver_48 rfl ?_
    refine g_aload_n 0 dX9_deliver_51 rfl rfl ?_
    refine gN_getR (d + 48) flX9_19 (fun _ _ _ => rfl) 0 (hD.t) (hD.r1) dX9_deliver_52 ?_
    refine g_aload_n 0 dX9_deliver_55 rfl rfl ?_
    refine gN_getR (d + 1) flX9_10 (fun _ _ _ => rfl) 0 (hD.t) (hD.r0) dX9_deliver_56 ?_
    refine gm_callV _ _ _ (cn_X2_save g (0, 0) (m := m) (H := d + 48) (S := d + 1) (B := B) (c := c) (z := z) hD.h hV hD.s hR hz rfl (by omega)) ⟨rfl, rfl⟩ (ok_X2_save _) mlX9_38 in_X2_save se_X2_save 2 0 (hD.h.t) rfl rfl rfl ⟨Nat.le_of_ble_eq_true rfl, Nat.le_of_ble_eq_true rfl⟩ (by exact Nat.le_of_ble_eq_true rfl) ⟨Nat.zero_le _, Nat.zero_le _⟩ dX9_deliver_59 rfl (fun I R hP => ?_)
    obtain ⟨hF, hH2, fst2, hV2⟩ := hP
    have hK1 := DkV.sv hK hz0 hB hF hH2 hV2
    have hF1 := Hd.fb (Hd.rfl' m d) hF (by omega) (by omega)
    generalize wM m I R = m1 at hK1 hF1 ⊢
    clear hF hH2 hV2 hD hR hV hl hf hC
    have hG1 := hG.fd hF1
    have hC := hG1.1
    have hK2 := hK1
    obtain ⟨hD, hR, ⟨fst1, hV⟩, hl, _, hf⟩ := hK2
    
    refine g_aload_n 0 dX9_deliver_62 rfl rfl ?_
    refine gN_getR (d + 1) flX9_10 (fun _ _ _ => rfl) 0 (hD.t) (hD.r0) dX9_deliver_63 ?_
    refine g_aload_n 2 dX9_deliver_66 rfl rfl ?_
    refine gm_callV _ _ _ (cn_X6_takeDelivery g (0, 0) (m := m1) (B := B) (c := c) hD.s hR hz hSB hs h.1 (hz.S2 hs).e (by have := (hz.S2 hs).hi; omega) (hz.S3 hs).e (by have := (hz.S3 hs).hi; omega) rfl) ⟨rfl, rfl⟩ (ok_X6_takeDelivery _) mlX9_106 in_X6_takeDelivery se_X6_takeDelivery 6 0 (hD.s.t) rfl rfl rfl ⟨Nat.le_of_ble_eq_true rfl, Nat.le_of_ble_eq_true rfl⟩ (by exact Nat.le_of_ble_eq_true rfl) ⟨Nat.zero_le _, Nat.zero_le _⟩ dX9_deliver_67 rfl (fun I R hP => ?_)
    obtain ⟨hF, hS3, hR3, h5⟩ := hP
    refine g_aload_n 2 dX9_deliver_70 rfl rfl ?_
    refine gN_getI flX9_109 rfl 0 (hD.s.tS (by omega)) dX9_deliver_71 ?_
    refine g_eI (payV z (79 + 22 * s) (nv (z (79 + 22 * s + 2))) (z (79 + 22 * s + 4))) (h5) ?_
    refine g_iret rfl dX9_deliver_74 ⟨Nat.zero_le _, Nat.zero_le _⟩ ?_
    refine ⟨rfl, Hd.fb hF1 hF (by omega) (by omega), DkV.nw hK1 hB hF hS3 hR3⟩
  · refine g_aload_n 2 dX9_deliver_21 rfl rfl ?_
    refine gN_iconst 1 dX9_deliver_22 (by decide) ?_
    refine gd_callV _ _ _ _ (cn_X5_isTakenAt g (0, 0) hD.s hR hz hs (r := 1) (by decide)) ⟨rfl, rfl⟩ (ok_X5_isTakenAt _) mlX9_94 in_X5_isTakenAt se_X5_isTakenAt 5 0 (hD.s.tS (by omega)) rfl rfl rfl ⟨Nat.le_of_ble_eq_true rfl, Nat.le_of_ble_eq_true rfl⟩ (by exact Nat.le_of_ble_eq_true rfl) ⟨Nat.zero_le _, Nat.zero_le _⟩ dX9_deliver_23 rfl ?_
    refine gN_if_eq 47 dX9_deliver_26 (by decide) (by first | omega | exact b01_lt _) (fun h_26 => ?_) (fun h_26 => ?_)
    · refine gN_iconst 0 dX9_deliver_47 (by decide) ?_
      exact g_ei (nI (b01 (z (79 + 22 * s + 1) = nI 1 ∧ ¬ hdp z (79 + 22 * s)))) (congrArg nI (show 0 = b01 (z (79 + 22 * s + 1) = nI 1 ∧ ¬ hdp z (79 + 22 * s)) from by first | exact (b01_t ⟨b01_n.mp h_26, fun q => by rw [b01_t q] at h_40; exact absurd h_40 (by decide)⟩).symm | exact (b01_f (fun q => by first | exact b01_z.mp h_26 q.1 | (rw [b01_f q.2] at h_40; exact absurd h_40 (by decide)))).symm)) K_48
    · refine g_aload_n 0 dX9_deliver_29 rfl rfl ?_
      refine gN_getR (d + 1) flX9_10 (fun _ _ _ => rfl) 0 (hD.t) (hD.r0) dX9_deliver_30 ?_
      refine g_aload_n 2 dX9_deliver_33 rfl rfl ?_
      refine gN_getR (q) flX9_98 (fun _ _ _ => rfl) 0 (hD.s.tS (by omega)) (hq1) dX9_deliver_34 ?_
      refine gd_callV _ _ _ _ (cn_X6_hasDispute g (0, 0) hD.s hR hz hq) ⟨rfl, rfl⟩ (ok_X6_hasDispute _) mlX9_102 in_X6_hasDispute se_X6_hasDispute 6 0 (hD.s.t) rfl rfl rfl ⟨Nat.le_of_ble_eq_true rfl, Nat.le_of_ble_eq_true rfl⟩ (by exact Nat.le_of_ble_eq_true rfl) ⟨Nat.zero_le _, Nat.zero_le _⟩ dX9_deliver_37 rfl ?_
      refine g_ei (nI (b01 (hdp z (79 + 22 * s)))) (rfl) ?_
      refine gN_if_ne 47 dX9_deliver_40 (by decide) (by first | omega | exact b01_lt _) (fun h_40 => ?_) (fun h_40 => ?_)
      · refine gN_iconst 0 dX9_deliver_47 (by decide) ?_
        exact g_ei (nI (b01 (z (79 + 22 * s + 1) = nI 1 ∧ ¬ hdp z (79 + 22 * s)))) (congrArg nI (show 0 = b01 (z (79 + 22 * s + 1) = nI 1 ∧ ¬ hdp z (79 + 22 * s)) from by first | exact (b01_t ⟨b01_n.mp h_26, fun q => by rw [b01_t q] at h_40; exact absurd h_40 (by decide)⟩).symm | exact (b01_f (fun q => by first | exact b01_z.mp h_26 q.1 | (rw [b01_f q.2] at h_40; exact absurd h_40 (by decide)))).symm)) K_48
      · refine gN_iconst 1 dX9_deliver_43 (by decide) ?_
        refine g_goto 48 dX9_deliver_44 (by decide) ?_
        exact g_ei (nI (b01 (z (79 + 22 * s + 1) = nI 1 ∧ ¬ hdp z (79 + 22 * s)))) (congrArg nI (show 1 = b01 (z (79 + 22 * s + 1) = nI 1 ∧ ¬ hdp z (79 + 22 * s)) from by first | exact (b01_t ⟨b01_n.mp h_26, fun q => by rw [b01_t q] at h_40; exact absurd h_40 (by decide)⟩).symm | exact (b01_f (fun q => by first | exact b01_z.mp h_26 q.1 | (rw [b01_f q.2] at h_40; exact absurd h_40 (by decide)))).symm)) K_48
set_option maxRecDepth 100000 in
theorem cx_X9_revise_1 (g : Gp) (cs : Nat × Nat) {m : Mm} {d B c : Nat} {z : Nat → Int32} (hD : DkT m d) (hR : Rp m B (d + 1) z) (hz : ZOk c z) {p x y : Int32} (h : ¬ inb p (nv (z 0))) : Xn g (MX9_revise (1, 6)) [.ref (d), .int (p), .int (x), .int (y)] m "java/lang/IndexOutOfBoundsException" := by
  have hz0 := hz.n0.hi
  have hz1 := hz.n1.hi
  refine Cn.of pn_X9 (Nat.le_of_ble_eq_true rfl) rfl ?_
  refine g_iload_n 1 dX9_revise_0 rfl rfl ?_
  refine g_aload_n 0 dX9_revise_1 rfl rfl ?_
  refine gN_getR (d + 1) flX9_10 (fun _ _ _ => rfl) 0 (hD.t) (hD.r0) dX9_revise_2 ?_
  refine gN_getI flX9_68 rfl 0 (hD.s.t) dX9_revise_5 ?_
  refine g_ei (nI (nv (z 0))) (hR.c0.trans hz.n0.e) ?_
  exact gx_callS _ _ (cx_X9_checkNumber g (0, 0) (N := nv (z 0)) (by omega) (h)) (ok_X9_checkNumber _) mlX9_30 st_X9_checkNumber rfl ⟨Nat.le_of_ble_eq_true rfl, Nat.le_of_ble_eq_true rfl⟩ (by exact Nat.le_of_ble_eq_true rfl) ⟨Nat.le_of_ble_eq_true rfl, Nat.le_of_ble_eq_true rfl⟩ dX9_revise_8 rfl (fun n hn => ⟨rfl, n, hn, rfl⟩)
set_option maxRecDepth 100000 in
theorem cx_X9_revise_11 (g : Gp) (cs : Nat × Nat) {m : Mm} {d B c : Nat} {z : Nat → Int32} (hD : DkT m d) (hR : Rp m B (d + 1) z) (hz : ZOk c z) {s : Nat} (hs : s < nv (z 0)) {x y : Int32} (h : ¬ inb x 4) : Xn g (MX9_revise (1, 6)) [.ref (d), .int (nI (s)), .int (x), .int (y)] m "java/lang/IndexOutOfBoundsException" := by
  have hz0 := hz.n0.hi
  have hz1 := hz.n1.hi
  refine Cn.of pn_X9 (Nat.le_of_ble_eq_true rfl) rfl ?_
  refine g_iload_n 1 dX9_revise_0 rfl rfl ?_
  refine g_aload_n 0 dX9_revise_1 rfl rfl ?_
  refine gN_getR (d + 1) flX9_10 (fun _ _ _ => rfl) 0 (hD.t) (hD.r0) dX9_revise_2 ?_
  refine gN_getI flX9_68 rfl 0 (hD.s.t) dX9_revise_5 ?_
  refine g_ei (nI (nv (z 0))) (hR.c0.trans hz.n0.e) ?_
  refine gd_callS _ _ _ _ (cn_X9_checkNumber g (0, 0) (j := s) (N := nv (z 0)) (by omega) (by omega)) ⟨rfl, rfl⟩ (ok_X9_checkNumber _) mlX9_30 st_X9_checkNumber rfl ⟨Nat.le_of_ble_eq_true rfl, Nat.le_of_ble_eq_true rfl⟩ (by exact Nat.le_of_ble_eq_true rfl) ⟨Nat.zero_le _, Nat.zero_le _⟩ dX9_revise_8 rfl ?_
  refine g_iload_n 2 dX9_revise_11 rfl rfl ?_
  refine gN_iconst 4 dX9_revise_12 (by decide) ?_
  exact gx_callS _ _ (cx_X9_checkNumber g (0, 0) (N := 4) (by omega) (h)) (ok_X9_checkNumber _) mlX9_30 st_X9_checkNumber rfl ⟨Nat.le_of_ble_eq_true rfl, Nat.le_of_ble_eq_true rfl⟩ (by exact Nat.le_of_ble_eq_true rfl) ⟨Nat.le_of_ble_eq_true rfl, Nat.le_of_ble_eq_true rfl⟩ dX9_revise_13 rfl (fun n hn => ⟨rfl, n, hn, rfl⟩)
set_option maxRecDepth 100000 in
theorem cx_X9_revise_2 (g : Gp) (cs : Nat × Nat) {m : Mm} {d B c : Nat} {z : Nat → Int32} (hD : DkT m d) (hR : Rp m B (d + 1) z) (hz : ZOk c z) {s : Nat} (hs : s < nv (z 0)) {t : Nat} (ht : t < 4) {y : Int32} (h : ¬ (nI 0 ≤ y ∧ y ≤ nI (nv (z (79 + 22 * s))))) : Xn g (MX9_revise (1, 6)) [.ref (d), .int (nI (s)), .int (nI (t)), .int (y)] m "java/lang/IllegalArgumentException" := by
  have hz0 := hz.n0.hi
  have hz1 := hz.n1.hi
  obtain ⟨q, hq1, hqa⟩ := hR.SR (s := s) hs
  have hq := hqa.2.2
  refine Cn.of pn_X9 (Nat.le_of_ble_eq_true rfl) rfl ?_
  refine g_iload_n 1 dX9_revise_0 rfl rfl ?_
  refine g_aload_n 0 dX9_revise_1 rfl rfl ?_
  refine gN_getR (d + 1) flX9_10 (fun _ _ _ => rfl) 0 (hD.t) (hD.r0) dX9_revise_2 ?_
  refine gN_getI flX9_68 rfl 0 (hD.s.t) dX9_revise_5 ?_
  refine g_ei (nI (nv (z 0))) (hR.c0.trans hz.n0.e) ?_
  refine gd_callS _ _ _ _ (cn_X9_checkNumber g (0, 0) (j := s) (N := nv (z 0)) (by omega) (by omega)) ⟨rfl, rfl⟩ (ok_X9_checkNumber _) mlX9_30 st_X9_checkNumber rfl ⟨Nat.le_of_ble_eq_true rfl, Nat.le_of_ble_eq_true rfl⟩ (by exact Nat.le_of_ble_eq_true rfl) ⟨Nat.zero_le _, Nat.zero_le _⟩ dX9_revise_8 rfl ?_
  refine g_iload_n 2 dX9_revise_11 rfl rfl ?_
  refine gN_iconst 4 dX9_revise_12 (by decide) ?_
  refine gd_callS _ _ _ _ (cn_X9_checkNumber g (0, 0) (j := t) (N := 4) (by omega) (by omega)) ⟨rfl, rfl⟩ (ok_X9_checkNumber _) mlX9_30 st_X9_checkNumber rfl ⟨Nat.le_of_ble_eq_true rfl, Nat.le_of_ble_eq_true rfl⟩ (by exact Nat.le_of_ble_eq_true rfl) ⟨Nat.zero_le _, Nat.zero_le _⟩ dX9_revise_13 rfl ?_
  refine g_aload_n 0 dX9_revise_16 rfl rfl ?_
  refine gN_getR (d + 1) flX9_10 (fun _ _ _ => rfl) 0 (hD.t) (hD.r0) dX9_revise_17 ?_
  refine gN_getR (d + 1 + 5) flX9_71 (fun _ _ _ => rfl) 0 (hD.s.t) (hD.s.r4) dX9_revise_20 ?_
  refine g_iload_n 1 dX9_revise_23 rfl rfl ?_
  refine gN_aald 14 10 (d + 1 + 37 + s) (hD.s.t5) (by decide) (by first | omega | exact b01_lt _) (by first | omega | exact b01_lt _) (hD.s.rS (by omega)) dX9_revise_24 ?_
  refine g_astore 4 [(4, .ref (d + 1 + 37 + s)), (0, .ref (d)), (1, .int (nI (s))), (2, .int (nI (t))), (3, .int (y))] dX9_revise_25 (Nat.le_of_ble_eq_true rfl) rfl ?_
  refine g_iload_n 3 dX9_revise_27 rfl rfl ?_
  refine gN_iconst 0 dX9_revise_28 (by decide) ?_
  refine g_aload 4 dX9_revise_29 rfl ?_
  refine gN_getR (q) flX9_98 (fun _ _ _ => rfl) 0 (hD.s.tS (by omega)) (hq1) dX9_revise_31 ?_
  refine gN_getI flX9_112 rfl 0 (hq.t) dX9_revise_34 ?_
  refine g_ei (nI (nv (z (79 + 22 * s)))) (hq.l) ?_
  exact gx_callS _ _ (cx_X9_checkRange g (0, 0) (h)) (ok_X9_checkRange _) mlX9_34 st_X9_checkRange rfl ⟨Nat.le_of_ble_eq_true rfl, Nat.le_of_ble_eq_true rfl⟩ (by exact Nat.le_of_ble_eq_true rfl) ⟨Nat.le_of_ble_eq_true rfl, Nat.le_of_ble_eq_true rfl⟩ dX9_revise_37 rfl (fun n hn => ⟨rfl, n, hn, rfl⟩)
set_option maxRecDepth 100000 in
theorem cx_X9_revise_3 (g : Gp) (cs : Nat × Nat) {m : Mm} {d B c : Nat} {z : Nat → Int32} (hD : DkT m d) (hR : Rp m B (d + 1) z) (hz : ZOk c z) {s : Nat} (hs : s < nv (z 0)) {t : Nat} (ht : t < 4) {y : Int32} (hy : (nI 0 ≤ y ∧ y ≤ nI (nv (z (79 + 22 * s))))) (h : ¬ (z (79 + 22 * s + 1) = nI 2 ∧ ¬ z (79 + 22 * s + 2) = nI t)) : Xn g (MX9_revise (1, 6)) [.ref (d), .int (nI (s)), .int (nI (t)), .int (y)] m "java/lang/IllegalStateException" := by
  have hz0 := hz.n0.hi
  have hz1 := hz.n1.hi
  obtain ⟨q, hq1, hqa⟩ := hR.SR (s := s) hs
  have hq := hqa.2.2
  have hA2 : z (79 + 22 * s + 1) = nI 2 → opn (z (79 + 22 * s + 1)) (z (79 + 22 * s + 2)) = z (79 + 22 * s + 2) := fun q => opn_t (by rw [q]; decide)
  refine Cn.of pn_X9 (Nat.le_of_ble_eq_true rfl) rfl ?_
  refine g_iload_n 1 dX9_revise_0 rfl rfl ?_
  refine g_aload_n 0 dX9_revise_1 rfl rfl ?_
  refine gN_getR (d + 1) flX9_10 (fun _ _ _ => rfl) 0 (hD.t) (hD.r0) dX9_revise_2 ?_
  refine gN_getI flX9_68 rfl 0 (hD.s.t) dX9_revise_5 ?_
  refine g_ei (nI (nv (z 0))) (hR.c0.trans hz.n0.e) ?_
  refine gd_callS _ _ _ _ (cn_X9_checkNumber g (0, 0) (j := s) (N := nv (z 0)) (by omega) (by omega)) ⟨rfl, rfl⟩ (ok_X9_checkNumber _) mlX9_30 st_X9_checkNumber rfl ⟨Nat.le_of_ble_eq_true rfl, Nat.le_of_ble_eq_true rfl⟩ (by exact Nat.le_of_ble_eq_true rfl) ⟨Nat.zero_le _, Nat.zero_le _⟩ dX9_revise_8 rfl ?_
  refine g_iload_n 2 dX9_revise_11 rfl rfl ?_
  refine gN_iconst 4 dX9_revise_12 (by decide) ?_
  refine gd_callS _ _ _ _ (cn_X9_checkNumber g (0, 0) (j := t) (N := 4) (by omega) (by omega)) ⟨rfl, rfl⟩ (ok_X9_checkNumber _) mlX9_30 st_X9_checkNumber rfl ⟨Nat.le_of_ble_eq_true rfl, Nat.le_of_ble_eq_true rfl⟩ (by exact Nat.le_of_ble_eq_true rfl) ⟨Nat.zero_le _, Nat.zero_le _⟩ dX9_revise_13 rfl ?_
  refine g_aload_n 0 dX9_revise_16 rfl rfl ?_
  refine gN_getR (d + 1) flX9_10 (fun _ _ _ => rfl) 0 (hD.t) (hD.r0) dX9_revise_17 ?_
  refine gN_getR (d + 1 + 5) flX9_71 (fun _ _ _ => rfl) 0 (hD.s.t) (hD.s.r4) dX9_revise_20 ?_
  refine g_iload_n 1 dX9_revise_23 rfl rfl ?_
  refine gN_aald 14 10 (d + 1 + 37 + s) (hD.s.t5) (by decide) (by first | omega | exact b01_lt _) (by first | omega | exact b01_lt _) (hD.s.rS (by omega)) dX9_revise_24 ?_
  refine g_astore 4 [(4, .ref (d + 1 + 37 + s)), (0, .ref (d)), (1, .int (nI (s))), (2, .int (nI (t))), (3, .int (y))] dX9_revise_25 (Nat.le_of_ble_eq_true rfl) rfl ?_
  refine g_iload_n 3 dX9_revise_27 rfl rfl ?_
  refine gN_iconst 0 dX9_revise_28 (by decide) ?_
  refine g_aload 4 dX9_revise_29 rfl ?_
  refine gN_getR (q) flX9_98 (fun _ _ _ => rfl) 0 (hD.s.tS (by omega)) (hq1) dX9_revise_31 ?_
  refine gN_getI flX9_112 rfl 0 (hq.t) dX9_revise_34 ?_
  refine g_ei (nI (nv (z (79 + 22 * s)))) (hq.l) ?_
  refine gd_callS _ _ _ _ (cn_X9_checkRange g (0, 0) (hy)) ⟨rfl, rfl⟩ (ok_X9_checkRange _) mlX9_34 st_X9_checkRange rfl ⟨Nat.le_of_ble_eq_true rfl, Nat.le_of_ble_eq_true rfl⟩ (by exact Nat.le_of_ble_eq_true rfl) ⟨Nat.zero_le _, Nat.zero_le _⟩ dX9_revise_37 rfl ?_
  refine g_join 63 (b01 (z (79 + 22 * s + 1) = nI 2 ∧ ¬ z (79 + 22 * s + 2) = nI t)) ?_ (fun K_63 => ?_)
  · exact gx_callS _ _ (cx_X9_checkState g (0, 0) (p := z (79 + 22 * s + 1) = nI 2 ∧ ¬ z (79 + 22 * s + 2) = nI t) h) (ok_X9_checkState _) mlX9_80 st_X9_checkState rfl ⟨Nat.le_of_ble_eq_true rfl, Nat.le_of_ble_eq_true rfl⟩ (by exact Nat.le_of_ble_eq_true rfl) ⟨Nat.le_of_ble_eq_true rfl, Nat.le_of_ble_eq_true rfl⟩ dX9_revise_63 rfl (fun n hn => ⟨rfl, n, hn, rfl⟩)
  · refine g_aload 4 dX9_revise_40 rfl ?_
    refine gN_iconst 2 dX9_revise_42 (by decide) ?_
    refine gd_callV _ _ _ _ (cn_X5_isTakenAt g (0, 0) hD.s hR hz hs (r := 2) (by decide)) ⟨rfl, rfl⟩ (ok_X5_isTakenAt _) mlX9_94 in_X5_isTakenAt se_X5_isTakenAt 5 0 (hD.s.tS (by omega)) rfl rfl rfl ⟨Nat.le_of_ble_eq_true rfl, Nat.le_of_ble_eq_true rfl⟩ (by exact Nat.le_of_ble_eq_true rfl) ⟨Nat.zero_le _, Nat.zero_le _⟩ dX9_revise_43 rfl ?_
    refine gN_if_eq 62 dX9_revise_46 (by decide) (by first | omega | exact b01_lt _) (fun h_46 => ?_) (fun h_46 => ?_)
    · refine gN_iconst 0 dX9_revise_62 (by decide) ?_
      exact g_ei (nI (b01 (z (79 + 22 * s + 1) = nI 2 ∧ ¬ z (79 + 22 * s + 2) = nI t))) (congrArg nI (show 0 = b01 (z (79 + 22 * s + 1) = nI 2 ∧ ¬ z (79 + 22 * s + 2) = nI t) from by first | exact (b01_t ⟨b01_n.mp h_46, fun q => h_55 ((hA2 (b01_n.mp h_46)).trans q)⟩).symm | exact (b01_f (fun q => by first | exact b01_z.mp h_46 q.1 | exact q.2 ((hA2 (b01_n.mp h_46)).symm.trans h_55))).symm)) K_63
    · refine g_aload 4 dX9_revise_49 rfl ?_
      refine gN_getI flX9_84 rfl 0 (hD.s.tS (by omega)) dX9_revise_51 ?_
      refine g_eI (opn (z (79 + 22 * s + 1)) (z (79 + 22 * s + 2))) (hR.S2 (by omega)) ?_
      refine g_iload_n 2 dX9_revise_54 rfl rfl ?_
      refine g_icmp_eq 62 dX9_revise_55 (by decide) (fun h_55 => ?_) (fun h_55 => ?_)
      · refine gN_iconst 0 dX9_revise_62 (by decide) ?_
        exact g_ei (nI (b01 (z (79 + 22 * s + 1) = nI 2 ∧ ¬ z (79 + 22 * s + 2) = nI t))) (congrArg nI (show 0 = b01 (z (79 + 22 * s + 1) = nI 2 ∧ ¬ z (79 + 22 * s + 2) = nI t) from by first | exact (b01_t ⟨b01_n.mp h_46, fun q => h_55 ((hA2 (b01_n.mp h_46)).trans q)⟩).symm | exact (b01_f (fun q => by first | exact b01_z.mp h_46 q.1 | exact q.2 ((hA2 (b01_n.mp h_46)).symm.trans h_55))).symm)) K_63
      · refine gN_iconst 1 dX9_revise_58 (by decide) ?_
        refine g_goto 63 dX9_revise_59 (by decide) ?_
        exact g_ei (nI (b01 (z (79 + 22 * s + 1) = nI 2 ∧ ¬ z (79 + 22 * s + 2) = nI t))) (congrArg nI (show 1 = b01 (z (79 + 22 * s + 1) = nI 2 ∧ ¬ z (79 + 22 * s + 2) = nI t) from by first | exact (b01_t ⟨b01_n.mp h_46, fun q => h_55 ((hA2 (b01_n.mp h_46)).trans q)⟩).symm | exact (b01_f (fun q => by first | exact b01_z.mp h_46 q.1 | exact q.2 ((hA2 (b01_n.mp h_46)).symm.trans h_55))).symm)) K_63
set_option maxRecDepth 100000 in
theorem cn_X9_revise (g : Gp) (cs : Nat × Nat) {m : Mm} {d B c k kb : Nat} {z : Nat → Int32} {rows : Nat → Nat → Int32} {f : Nat → Int32} (hB : d + 344 ≤ B) (hG : KdT g m d) (hK : DkV m d B c k kb z rows f) (hz : ZOk c z) {s : Nat} (hs : s < nv (z 0)) {t : Nat} (ht : t < 4) {y : Int32} (hy : (nI 0 ≤ y ∧ y ≤ nI (nv (z (79 + 22 * s))))) (h : z (79 + 22 * s + 1) = nI 2 ∧ ¬ z (79 + 22 * s + 2) = nI t) : Cn g (MX9_revise cs) [.ref (d), .int (nI (s)), .int (nI (t)), .int (y)] m (kQ m d B c (sk k) kb (rvZ z s t (nv (z (79 + 22 * s + 2))) y (lsV z (79 + 22 * s) y)) (svR k z rows) f (some (.int (z (79 + 22 * s + 5) - lsV z (79 + 22 * s) y)))) := by
  have hz0 := hz.n0.hi
  have hz1 := hz.n1.hi
  have hSB : d + 1 + 47 ≤ B := by omega
  have hC := hG.1
  have hK0 := hK
  obtain ⟨hD, hR, ⟨fst, hV⟩, hl, hk6, hf⟩ := hK0
  obtain ⟨q, hq1, hqa⟩ := hR.SR (s := s) hs
  have hq := hqa.2.2
  have hA2 : z (79 + 22 * s + 1) = nI 2 → opn (z (79 + 22 * s + 1)) (z (79 + 22 * s + 2)) = z (79 + 22 * s + 2) := fun q => opn_t (by rw [q]; decide)
  refine Cn.of pn_X9 (Nat.le_of_ble_eq_true rfl) rfl ?_
  refine g_iload_n 1 dX9_revise_0 rfl rfl ?_
  refine g_aload_n 0 dX9_revise_1 rfl rfl ?_
  refine gN_getR (d + 1) flX9_10 (fun _ _ _ => rfl) 0 (hD.t) (hD.r0) dX9_revise_2 ?_
  refine gN_getI flX9_68 rfl 0 (hD.s.t) dX9_revise_5 ?_
  refine g_ei (nI (nv (z 0))) (hR.c0.trans hz.n0.e) ?_
  refine gd_callS _ _ _ _ (cn_X9_checkNumber g (0, 0) (j := s) (N := nv (z 0)) (by omega) (by omega)) ⟨rfl, rfl⟩ (ok_X9_checkNumber _) mlX9_30 st_X9_checkNumber rfl ⟨Nat.le_of_ble_eq_true rfl, Nat.le_of_ble_eq_true rfl⟩ (by exact Nat.le_of_ble_eq_true rfl) ⟨Nat.zero_le _, Nat.zero_le _⟩ dX9_revise_8 rfl ?_
  refine g_iload_n 2 dX9_revise_11 rfl rfl ?_
  refine gN_iconst 4 dX9_revise_12 (by decide) ?_
  refine gd_callS _ _ _ _ (cn_X9_checkNumber g (0, 0) (j := t) (N := 4) (by omega) (by omega)) ⟨rfl, rfl⟩ (ok_X9_checkNumber _) mlX9_30 st_X9_checkNumber rfl ⟨Nat.le_of_ble_eq_true rfl, Nat.le_of_ble_eq_true rfl⟩ (by exact Nat.le_of_ble_eq_true rfl) ⟨Nat.zero_le _, Nat.zero_le _⟩ dX9_revise_13 rfl ?_
  refine g_aload_n 0 dX9_revise_16 rfl rfl ?_
  refine gN_getR (d + 1) flX9_10 (fun _ _ _ => rfl) 0 (hD.t) (hD.r0) dX9_revise_17 ?_
  refine gN_getR (d + 1 + 5) flX9_71 (fun _ _ _ => rfl) 0 (hD.s.t) (hD.s.r4) dX9_revise_20 ?_
  refine g_iload_n 1 dX9_revise_23 rfl rfl ?_
  refine gN_aald 14 10 (d + 1 + 37 + s) (hD.s.t5) (by decide) (by first | omega | exact b01_lt _) (by first | omega | exact b01_lt _) (hD.s.rS (by omega)) dX9_revise_24 ?_
  refine g_astore 4 [(4, .ref (d + 1 + 37 + s)), (0, .ref (d)), (1, .int (nI (s))), (2, .int (nI (t))), (3, .int (y))] dX9_revise_25 (Nat.le_of_ble_eq_true rfl) rfl ?_
  refine g_iload_n 3 dX9_revise_27 rfl rfl ?_
  refine gN_iconst 0 dX9_revise_28 (by decide) ?_
  refine g_aload 4 dX9_revise_29 rfl ?_
  refine gN_getR (q) flX9_98 (fun _ _ _ => rfl) 0 (hD.s.tS (by omega)) (hq1) dX9_revise_31 ?_
  refine gN_getI flX9_112 rfl 0 (hq.t) dX9_revise_34 ?_
  refine g_ei (nI (nv (z (79 + 22 * s)))) (hq.l) ?_
  refine gd_callS _ _ _ _ (cn_X9_checkRange g (0, 0) (hy)) ⟨rfl, rfl⟩ (ok_X9_checkRange _) mlX9_34 st_X9_checkRange rfl ⟨Nat.le_of_ble_eq_true rfl, Nat.le_of_ble_eq_true rfl⟩ (by exact Nat.le_of_ble_eq_true rfl) ⟨Nat.zero_le _, Nat.zero_le _⟩ dX9_revise_37 rfl ?_
  refine g_join 63 (b01 (z (79 + 22 * s + 1) = nI 2 ∧ ¬ z (79 + 22 * s + 2) = nI t)) ?_ (fun K_63 => ?_)
  · refine gd_callS _ _ _ _ (cn_X9_checkState g (0, 0) (p := z (79 + 22 * s + 1) = nI 2 ∧ ¬ z (79 + 22 * s + 2) = nI t) (h)) ⟨rfl, rfl⟩ (ok_X9_checkState _) mlX9_80 st_X9_checkState rfl ⟨Nat.le_of_ble_eq_true rfl, Nat.le_of_ble_eq_true rfl⟩ (by exact Nat.le_of_ble_eq_true rfl) ⟨Nat.zero_le _, Nat.zero_le _⟩ dX9_revise_63 rfl ?_
    refine g_aload_n 0 dX9_revise_66 rfl rfl ?_
    refine gN_getR (d + 48) flX9_19 (fun _ _ _ => rfl) 0 (hD.t) (hD.r1) dX9_revise_67 ?_
    refine g_aload_n 0 dX9_revise_70 rfl rfl ?_
    refine gN_getR (d + 1) flX9_10 (fun _ _ _ => rfl) 0 (hD.t) (hD.r0) dX9_revise_71 ?_
    refine gm_callV _ _ _ (cn_X2_save g (0, 0) (m := m) (H := d + 48) (S := d + 1) (B := B) (c := c) (z := z) hD.h hV hD.s hR hz rfl (by omega)) ⟨rfl, rfl⟩ (ok_X2_save _) mlX9_38 in_X2_save se_X2_save 2 0 (hD.h.t) rfl rfl rfl ⟨Nat.le_of_ble_eq_true rfl, Nat.le_of_ble_eq_true rfl⟩ (by exact Nat.le_of_ble_eq_true rfl) ⟨Nat.zero_le _, Nat.zero_le _⟩ dX9_revise_74 rfl (fun I R hP => ?_)
    obtain ⟨hF, hH2, fst2, hV2⟩ := hP
    have hK1 := DkV.sv hK hz0 hB hF hH2 hV2
    have hF1 := Hd.fb (Hd.rfl' m d) hF (by omega) (by omega)
    generalize wM m I R = m1 at hK1 hF1 ⊢
    clear hF hH2 hV2 hD hR hV hl hf hC
    have hG1 := hG.fd hF1
    have hC := hG1.1
    have hK2 := hK1
    obtain ⟨hD, hR, ⟨fst1, hV⟩, hl, _, hf⟩ := hK2
    
    refine g_aload_n 0 dX9_revise_77 rfl rfl ?_
    refine gN_getR (d + 1) flX9_10 (fun _ _ _ => rfl) 0 (hD.t) (hD.r0) dX9_revise_78 ?_
    refine g_aload 4 dX9_revise_81 rfl ?_
    refine g_iload_n 2 dX9_revise_83 rfl rfl ?_
    refine g_iload_n 3 dX9_revise_84 rfl rfl ?_
    refine gm_callV _ _ _ (cn_X6_takeRevision g (0, 0) (m := m1) (B := B) (c := c) hD.s hR hz hSB hs h.1 (hz.S2 hs).e (by have := (hz.S2 hs).hi; omega) ht (fun q => h.2 (by rw [q]; exact (hz.S2 hs).e)) y rfl) ⟨rfl, rfl⟩ (ok_X6_takeRevision _) mlX9_117 in_X6_takeRevision se_X6_takeRevision 6 0 (hD.s.t) rfl rfl rfl ⟨Nat.le_of_ble_eq_true rfl, Nat.le_of_ble_eq_true rfl⟩ (by exact Nat.le_of_ble_eq_true rfl) ⟨Nat.zero_le _, Nat.zero_le _⟩ dX9_revise_85 rfl (fun I R hP => ?_)
    obtain ⟨hF, hS3, hR3, h5⟩ := hP
    refine g_aload 4 dX9_revise_88 rfl ?_
    refine gN_getI flX9_109 rfl 0 (hD.s.tS (by omega)) dX9_revise_90 ?_
    refine g_eI (z (79 + 22 * s + 5) - lsV z (79 + 22 * s) y) (h5) ?_
    refine g_iret rfl dX9_revise_93 ⟨Nat.zero_le _, Nat.zero_le _⟩ ?_
    refine ⟨rfl, Hd.fb hF1 hF (by omega) (by omega), DkV.nw hK1 hB hF hS3 hR3⟩
  · refine g_aload 4 dX9_revise_40 rfl ?_
    refine gN_iconst 2 dX9_revise_42 (by decide) ?_
    refine gd_callV _ _ _ _ (cn_X5_isTakenAt g (0, 0) hD.s hR hz hs (r := 2) (by decide)) ⟨rfl, rfl⟩ (ok_X5_isTakenAt _) mlX9_94 in_X5_isTakenAt se_X5_isTakenAt 5 0 (hD.s.tS (by omega)) rfl rfl rfl ⟨Nat.le_of_ble_eq_true rfl, Nat.le_of_ble_eq_true rfl⟩ (by exact Nat.le_of_ble_eq_true rfl) ⟨Nat.zero_le _, Nat.zero_le _⟩ dX9_revise_43 rfl ?_
    refine gN_if_eq 62 dX9_revise_46 (by decide) (by first | omega | exact b01_lt _) (fun h_46 => ?_) (fun h_46 => ?_)
    · refine gN_iconst 0 dX9_revise_62 (by decide) ?_
      exact g_ei (nI (b01 (z (79 + 22 * s + 1) = nI 2 ∧ ¬ z (79 + 22 * s + 2) = nI t))) (congrArg nI (show 0 = b01 (z (79 + 22 * s + 1) = nI 2 ∧ ¬ z (79 + 22 * s + 2) = nI t) from by first | exact (b01_t ⟨b01_n.mp h_46, fun q => h_55 ((hA2 (b01_n.mp h_46)).trans q)⟩).symm | exact (b01_f (fun q => by first | exact b01_z.mp h_46 q.1 | exact q.2 ((hA2 (b01_n.mp h_46)).symm.trans h_55))).symm)) K_63
    · refine g_aload 4 dX9_revise_49 rfl ?_
      refine gN_getI flX9_84 rfl 0 (hD.s.tS (by omega)) dX9_revise_51 ?_
      refine g_eI (opn (z (79 + 22 * s + 1)) (z (79 + 22 * s + 2))) (hR.S2 (by omega)) ?_
      refine g_iload_n 2 dX9_revise_54 rfl rfl ?_
      refine g_icmp_eq 62 dX9_revise_55 (by decide) (fun h_55 => ?_) (fun h_55 => ?_)
      · refine gN_iconst 0 dX9_revise_62 (by decide) ?_
        exact g_ei (nI (b01 (z (79 + 22 * s + 1) = nI 2 ∧ ¬ z (79 + 22 * s + 2) = nI t))) (congrArg nI (show 0 = b01 (z (79 + 22 * s + 1) = nI 2 ∧ ¬ z (79 + 22 * s + 2) = nI t) from by first | exact (b01_t ⟨b01_n.mp h_46, fun q => h_55 ((hA2 (b01_n.mp h_46)).trans q)⟩).symm | exact (b01_f (fun q => by first | exact b01_z.mp h_46 q.1 | exact q.2 ((hA2 (b01_n.mp h_46)).symm.trans h_55))).symm)) K_63
      · refine gN_iconst 1 dX9_revise_58 (by decide) ?_
        refine g_goto 63 dX9_revise_59 (by decide) ?_
        exact g_ei (nI (b01 (z (79 + 22 * s + 1) = nI 2 ∧ ¬ z (79 + 22 * s + 2) = nI t))) (congrArg nI (show 1 = b01 (z (79 + 22 * s + 1) = nI 2 ∧ ¬ z (79 + 22 * s + 2) = nI t) from by first | exact (b01_t ⟨b01_n.mp h_46, fun q => h_55 ((hA2 (b01_n.mp h_46)).trans q)⟩).symm | exact (b01_f (fun q => by first | exact b01_z.mp h_46 q.1 | exact q.2 ((hA2 (b01_n.mp h_46)).symm.trans h_55))).symm)) K_63
