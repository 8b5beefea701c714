set_option maxRecDepth 100000 in
theorem cx_X9_propose_1 (g : Gp) (cs : Nat × Nat) {m : Mm} {d B c : Nat} {z : Nat → Int32} (hD : DkT m d) (hR : Rp m B (d + 1) z) (hz : ZOk c z) {p x y : Int32} (h : ¬ inb p 8) : Xn g (MX9_propose (1, 6)) [.ref (d), .int (p), .int (x), .int (y)] m "java/lang/IndexOutOfBoundsException" := by
  have hz0 := hz.n0.hi
  have hz1 := hz.n1.hi
  refine Cn.of pn_X9 (Nat.le_of_ble_eq_true rfl) rfl ?_
  refine g_iload_n 1 dX9_propose_0 rfl rfl ?_
  refine gN_bipush 8 dX9_propose_1 (by decide) ?_
  exact gx_callS _ _ (cx_X9_checkNumber g (0, 0) (N := 8) (by omega) (h)) (ok_X9_checkNumber _) mlX9_30 st_X9_checkNumber rfl ⟨Nat.le_of_ble_eq_true rfl, Nat.le_of_ble_eq_true rfl⟩ (by exact Nat.le_of_ble_eq_true rfl) ⟨Nat.le_of_ble_eq_true rfl, Nat.le_of_ble_eq_true rfl⟩ dX9_propose_3 rfl (fun n hn => ⟨rfl, n, hn, rfl⟩)
set_option maxRecDepth 100000 in
theorem cx_X9_propose_11 (g : Gp) (cs : Nat × Nat) {m : Mm} {d B c : Nat} {z : Nat → Int32} (hD : DkT m d) (hR : Rp m B (d + 1) z) (hz : ZOk c z) {w : Nat} (hw : w < 8) {x y : Int32} (h : ¬ inb x 4) : Xn g (MX9_propose (1, 6)) [.ref (d), .int (nI (w)), .int (x), .int (y)] m "java/lang/IndexOutOfBoundsException" := by
  have hz0 := hz.n0.hi
  have hz1 := hz.n1.hi
  refine Cn.of pn_X9 (Nat.le_of_ble_eq_true rfl) rfl ?_
  refine g_iload_n 1 dX9_propose_0 rfl rfl ?_
  refine gN_bipush 8 dX9_propose_1 (by decide) ?_
  refine gd_callS _ _ _ _ (cn_X9_checkNumber g (0, 0) (j := w) (N := 8) (by omega) (by omega)) ⟨rfl, rfl⟩ (ok_X9_checkNumber _) mlX9_30 st_X9_checkNumber rfl ⟨Nat.le_of_ble_eq_true rfl, Nat.le_of_ble_eq_true rfl⟩ (by exact Nat.le_of_ble_eq_true rfl) ⟨Nat.zero_le _, Nat.zero_le _⟩ dX9_propose_3 rfl ?_
  refine g_iload_n 2 dX9_propose_6 rfl rfl ?_
  refine gN_iconst 4 dX9_propose_7 (by decide) ?_
  exact gx_callS _ _ (cx_X9_checkNumber g (0, 0) (N := 4) (by omega) (h)) (ok_X9_checkNumber _) mlX9_30 st_X9_checkNumber rfl ⟨Nat.le_of_ble_eq_true rfl, Nat.le_of_ble_eq_true rfl⟩ (by exact Nat.le_of_ble_eq_true rfl) ⟨Nat.le_of_ble_eq_true rfl, Nat.le_of_ble_eq_true rfl⟩ dX9_propose_8 rfl (fun n hn => ⟨rfl, n, hn, rfl⟩)
set_option maxRecDepth 100000 in
theorem cx_X9_propose_2 (g : Gp) (cs : Nat × Nat) {m : Mm} {d B c : Nat} {z : Nat → Int32} (hD : DkT m d) (hR : Rp m B (d + 1) z) (hz : ZOk c z) {w : Nat} (hw : w < 8) {t : Nat} (ht : t < 4) {y : Int32} (h : ¬ ((-1 : Int32) ≤ y ∧ y ≤ nI 9)) : Xn g (MX9_propose (1, 6)) [.ref (d), .int (nI (w)), .int (nI (t)), .int (y)] m "java/lang/IllegalArgumentException" := by
  have hz0 := hz.n0.hi
  have hz1 := hz.n1.hi
  refine Cn.of pn_X9 (Nat.le_of_ble_eq_true rfl) rfl ?_
  refine g_iload_n 1 dX9_propose_0 rfl rfl ?_
  refine gN_bipush 8 dX9_propose_1 (by decide) ?_
  refine gd_callS _ _ _ _ (cn_X9_checkNumber g (0, 0) (j := w) (N := 8) (by omega) (by omega)) ⟨rfl, rfl⟩ (ok_X9_checkNumber _) mlX9_30 st_X9_checkNumber rfl ⟨Nat.le_of_ble_eq_true rfl, Nat.le_of_ble_eq_true rfl⟩ (by exact Nat.le_of_ble_eq_true rfl) ⟨Nat.zero_le _, Nat.zero_le _⟩ dX9_propose_3 rfl ?_
  refine g_iload_n 2 dX9_propose_6 rfl rfl ?_
  refine gN_iconst 4 dX9_propose_7 (by decide) ?_
  refine gd_callS _ _ _ _ (cn_X9_checkNumber g (0, 0) (j := t) (N := 4) (by omega) (by omega)) ⟨rfl, rfl⟩ (ok_X9_checkNumber _) mlX9_30 st_X9_checkNumber rfl ⟨Nat.le_of_ble_eq_true rfl, Nat.le_of_ble_eq_true rfl⟩ (by exact Nat.le_of_ble_eq_true rfl) ⟨Nat.zero_le _, Nat.zero_le _⟩ dX9_propose_8 rfl ?_
  refine g_iload_n 3 dX9_propose_11 rfl rfl ?_
  refine g_iconst (-1) dX9_propose_12 (by decide) ?_
  refine gN_bipush 9 dX9_propose_13 (by decide) ?_
  exact gx_callS _ _ (cx_X9_checkRange g (0, 0) (h)) (ok_X9_checkRange _) mlX9_34 st_X9_checkRange rfl ⟨Nat.le_of_ble_eq_true rfl, Nat.le_of_ble_eq_true rfl⟩ (by exact Nat.le_of_ble_eq_true rfl) ⟨Nat.le_of_ble_eq_true rfl, Nat.le_of_ble_eq_true rfl⟩ dX9_propose_15 rfl (fun n hn => ⟨rfl, n, hn, rfl⟩)
set_option maxRecDepth 100000 in
theorem cx_X9_propose_3 (g : Gp) (cs : Nat × Nat) {m : Mm} {d B c : Nat} {z : Nat → Int32} (hD : DkT m d) (hR : Rp m B (d + 1) z) (hz : ZOk c z) {w : Nat} (hw : w < 8) {t : Nat} (ht : t < 4) {y : Int32} (hy : ((-1 : Int32) ≤ y ∧ y ≤ nI 9)) (h : ¬ z (56 + w) = -1) : Xn g (MX9_propose (1, 6)) [.ref (d), .int (nI (w)), .int (nI (t)), .int (y)] m "java/lang/IllegalStateException" := by
  have hz0 := hz.n0.hi
  have hz1 := hz.n1.hi
  refine Cn.of pn_X9 (Nat.le_of_ble_eq_true rfl) rfl ?_
  refine g_iload_n 1 dX9_propose_0 rfl rfl ?_
  refine gN_bipush 8 dX9_propose_1 (by decide) ?_
  refine gd_callS _ _ _ _ (cn_X9_checkNumber g (0, 0) (j := w) (N := 8) (by omega) (by omega)) ⟨rfl, rfl⟩ (ok_X9_checkNumber _) mlX9_30 st_X9_checkNumber rfl ⟨Nat.le_of_ble_eq_true rfl, Nat.le_of_ble_eq_true rfl⟩ (by exact Nat.le_of_ble_eq_true rfl) ⟨Nat.zero_le _, Nat.zero_le _⟩ dX9_propose_3 rfl ?_
  refine g_iload_n 2 dX9_propose_6 rfl rfl ?_
  refine gN_iconst 4 dX9_propose_7 (by decide) ?_
  refine gd_callS _ _ _ _ (cn_X9_checkNumber g (0, 0) (j := t) (N := 4) (by omega) (by omega)) ⟨rfl, rfl⟩ (ok_X9_checkNumber _) mlX9_30 st_X9_checkNumber rfl ⟨Nat.le_of_ble_eq_true rfl, Nat.le_of_ble_eq_true rfl⟩ (by exact Nat.le_of_ble_eq_true rfl) ⟨Nat.zero_le _, Nat.zero_le _⟩ dX9_propose_8 rfl ?_
  refine g_iload_n 3 dX9_propose_11 rfl rfl ?_
  refine g_iconst (-1) dX9_propose_12 (by decide) ?_
  refine gN_bipush 9 dX9_propose_13 (by decide) ?_
  refine gd_callS _ _ _ _ (cn_X9_checkRange g (0, 0) (hy)) ⟨rfl, rfl⟩ (ok_X9_checkRange _) mlX9_34 st_X9_checkRange rfl ⟨Nat.le_of_ble_eq_true rfl, Nat.le_of_ble_eq_true rfl⟩ (by exact Nat.le_of_ble_eq_true rfl) ⟨Nat.zero_le _, Nat.zero_le _⟩ dX9_propose_15 rfl ?_
  refine g_aload_n 0 dX9_propose_18 rfl rfl ?_
  refine gN_getR (d + 1) flX9_10 (fun _ _ _ => rfl) 0 (hD.t) (hD.r0) dX9_propose_19 ?_
  refine gN_getR (d + 1 + 4) flX9_121 (fun _ _ _ => rfl) 0 (hD.s.t) (hD.s.r3) dX9_propose_22 ?_
  refine g_iload_n 1 dX9_propose_25 rfl rfl ?_
  refine gN_aald 16 8 (d + 1 + 21 + 2 * w) (hD.s.t4) (by decide) (by first | omega | exact b01_lt _) (by first | omega | exact b01_lt _) (hD.s.rW (by omega)) dX9_propose_26 ?_
  refine g_astore 4 [(4, .ref (d + 1 + 21 + 2 * w)), (0, .ref (d)), (1, .int (nI (w))), (2, .int (nI (t))), (3, .int (y))] dX9_propose_27 (Nat.le_of_ble_eq_true rfl) rfl ?_
  refine g_join 43 (b01 (z (56 + w) = -1)) ?_ (fun K_43 => ?_)
  · exact gx_callS _ _ (cx_X9_checkState g (0, 0) (p := z (56 + w) = -1) h) (ok_X9_checkState _) mlX9_80 st_X9_checkState rfl ⟨Nat.le_of_ble_eq_true rfl, Nat.le_of_ble_eq_true rfl⟩ (by exact Nat.le_of_ble_eq_true rfl) ⟨Nat.le_of_ble_eq_true rfl, Nat.le_of_ble_eq_true rfl⟩ dX9_propose_43 rfl (fun n hn => ⟨rfl, n, hn, rfl⟩)
  · refine g_aload 4 dX9_propose_29 rfl ?_
    refine gN_getI flX9_125 rfl 0 (hD.s.tW (by omega)) dX9_propose_31 ?_
    refine g_eI (z (56 + w)) (hR.W1 (by omega)) ?_
    refine g_iconst (-1) dX9_propose_34 (by decide) ?_
    refine g_icmp_ne 42 dX9_propose_35 (by decide) (fun h_35 => ?_) (fun h_35 => ?_)
    · refine gN_iconst 0 dX9_propose_42 (by decide) ?_
      exact g_ei (nI (b01 (z (56 + w) = -1))) (congrArg nI (show 0 = b01 (z (56 + w) = -1) from by first | exact (b01_t h_35).symm | exact (b01_f h_35).symm)) K_43
    · refine gN_iconst 1 dX9_propose_38 (by decide) ?_
      refine g_goto 43 dX9_propose_39 (by decide) ?_
      exact g_ei (nI (b01 (z (56 + w) = -1))) (congrArg nI (show 1 = b01 (z (56 + w) = -1) from by first | exact (b01_t h_35).symm | exact (b01_f h_35).symm)) K_43
set_option maxRecDepth 100000 in
theorem cn_X9_propose (g : Gp) (cs : Nat × Nat) {m : Mm} {d B c k kb : Nat} {z : Nat → Int32} {rows : Nat → Nat → Int32} {f : Nat → Int32} (hB : d + 344 ≤ B) (hG : KdT g m d) (hK : DkV m d B c k kb z rows f) (hz : ZOk c z) {w : Nat} (hw : w < 8) {t : Nat} (ht : t < 4) {y : Int32} (hy : ((-1 : Int32) ≤ y ∧ y ≤ nI 9)) (h : z (56 + w) = -1) : Cn g (MX9_propose cs) [.ref (d), .int (nI (w)), .int (nI (t)), .int (y)] m (kQ m d B c (sk k) kb (u1 z (24 + 4 * w + t) y) (svR k z rows) f (some (.int (z (24 + 4 * w + t))))) := by
  have hz0 := hz.n0.hi
  have hz1 := hz.n1.hi
  have hSB : d + 1 + 47 ≤ B := by omega
  have hC := hG.1
  have hK0 := hK
  obtain ⟨hD, hR, ⟨fst, hV⟩, hl, hk6, hf⟩ := hK0
  refine Cn.of pn_X9 (Nat.le_of_ble_eq_true rfl) rfl ?_
  refine g_iload_n 1 dX9_propose_0 rfl rfl ?_
  refine gN_bipush 8 dX9_propose_1 (by decide) ?_
  refine gd_callS _ _ _ _ (cn_X9_checkNumber g (0, 0) (j := w) (N := 8) (by omega) (by omega)) ⟨rfl, rfl⟩ (ok_X9_checkNumber _) mlX9_30 st_X9_checkNumber rfl ⟨Nat.le_of_ble_eq_true rfl, Nat.le_of_ble_eq_true rfl⟩ (by exact Nat.le_of_ble_eq_true rfl) ⟨Nat.zero_le _, Nat.zero_le _⟩ dX9_propose_3 rfl ?_
  refine g_iload_n 2 dX9_propose_6 rfl rfl ?_
  refine gN_iconst 4 dX9_propose_7 (by decide) ?_
  refine gd_callS _ _ _ _ (cn_X9_checkNumber g (0, 0) (j := t) (N := 4) (by omega) (by omega)) ⟨rfl, rfl⟩ (ok_X9_checkNumber _) mlX9_30 st_X9_checkNumber rfl ⟨Nat.le_of_ble_eq_true rfl, Nat.le_of_ble_eq_true rfl⟩ (by exact Nat.le_of_ble_eq_true rfl) ⟨Nat.zero_le _, Nat.zero_le _⟩ dX9_propose_8 rfl ?_
  refine g_iload_n 3 dX9_propose_11 rfl rfl ?_
  refine g_iconst (-1) dX9_propose_12 (by decide) ?_
  refine gN_bipush 9 dX9_propose_13 (by decide) ?_
  refine gd_callS _ _ _ _ (cn_X9_checkRange g (0, 0) (hy)) ⟨rfl, rfl⟩ (ok_X9_checkRange _) mlX9_34 st_X9_checkRange rfl ⟨Nat.le_of_ble_eq_true rfl, Nat.le_of_ble_eq_true rfl⟩ (by exact Nat.le_of_ble_eq_true rfl) ⟨Nat.zero_le _, Nat.zero_le _⟩ dX9_propose_15 rfl ?_
  refine g_aload_n 0 dX9_propose_18 rfl rfl ?_
  refine gN_getR (d + 1) flX9_10 (fun _ _ _ => rfl) 0 (hD.t) (hD.r0) dX9_propose_19 ?_
  refine gN_getR (d + 1 + 4) flX9_121 (fun _ _ _ => rfl) 0 (hD.s.t) (hD.s.r3) dX9_propose_22 ?_
  refine g_iload_n 1 dX9_propose_25 rfl rfl ?_
  refine gN_aald 16 8 (d + 1 + 21 + 2 * w) (hD.s.t4) (by decide) (by first | omega | exact b01_lt _) (by first | omega | exact b01_lt _) (hD.s.rW (by omega)) dX9_propose_26 ?_
  refine g_astore 4 [(4, .ref (d + 1 + 21 + 2 * w)), (0, .ref (d)), (1, .int (nI (w))), (2, .int (nI (t))), (3, .int (y))] dX9_propose_27 (Nat.le_of_ble_eq_true rfl) rfl ?_
  refine g_join 43 (b01 (z (56 + w) = -1)) ?_ (fun K_43 => ?_)
  · refine gd_callS _ _ _ _ (cn_X9_checkState g (0, 0) (p := z (56 + w) = -1) (h)) ⟨rfl, rfl⟩ (ok_X9_checkState _) mlX9_80 st_X9_checkState rfl ⟨Nat.le_of_ble_eq_true rfl, Nat.le_of_ble_eq_true rfl⟩ (by exact Nat.le_of_ble_eq_true rfl) ⟨Nat.zero_le _, Nat.zero_le _⟩ dX9_propose_43 rfl ?_
    refine g_aload_n 0 dX9_propose_46 rfl rfl ?_
    refine gN_getR (d + 48) flX9_19 (fun _ _ _ => rfl) 0 (hD.t) (hD.r1) dX9_propose_47 ?_
    refine g_aload_n 0 dX9_propose_50 rfl rfl ?_
    refine gN_getR (d + 1) flX9_10 (fun _ _ _ => rfl) 0 (hD.t) (hD.r0) dX9_propose_51 ?_
    refine gm_callV _ _ _ (cn_X2_save g (0, 0) (m := m) (H := d + 48) (S := d + 1) (B := B) (c := c) (z := z) hD.h hV hD.s hR hz rfl (by omega)) ⟨rfl, rfl⟩ (ok_X2_save _) mlX9_38 in_X2_save se_X2_save 2 0 (hD.h.t) rfl rfl rfl ⟨Nat.le_of_ble_eq_true rfl, Nat.le_of_ble_eq_true rfl⟩ (by exact Nat.le_of_ble_eq_true rfl) ⟨Nat.zero_le _, Nat.zero_le _⟩ dX9_propose_54 rfl (fun I R hP => ?_)
    obtain ⟨hF, hH2, fst2, hV2⟩ := hP
    have hK1 := DkV.sv hK hz0 hB hF hH2 hV2
    have hF1 := Hd.fb (Hd.rfl' m d) hF (by omega) (by omega)
    generalize wM m I R = m1 at hK1 hF1 ⊢
    clear hF hH2 hV2 hD hR hV hl hf hC
    have hG1 := hG.fd hF1
    have hC := hG1.1
    have hK2 := hK1
    obtain ⟨hD, hR, ⟨fst1, hV⟩, hl, _, hf⟩ := hK2
    
    refine g_aload 4 dX9_propose_57 rfl ?_
    refine gN_getR (d + 1 + 22 + 2 * w) flX9_130 (fun _ _ _ => rfl) 0 (hD.s.tW (by omega)) (hD.s.rP (by omega)) dX9_propose_59 ?_
    refine g_iload_n 2 dX9_propose_62 rfl rfl ?_
    refine gN_iald 4 (hD.s.tP (by omega)) (by first | omega | exact b01_lt _) (by first | omega | exact b01_lt _) dX9_propose_63 ?_
    refine g_eI (z (24 + 4 * w + t)) (hR.W (by omega) (by omega)) ?_
    refine g_istore 5 [(5, .int (z (24 + 4 * w + t))), (4, .ref (d + 1 + 21 + 2 * w)), (0, .ref (d)), (1, .int (nI (w))), (2, .int (nI (t))), (3, .int (y))] dX9_propose_64 (Nat.le_of_ble_eq_true rfl) rfl ?_
    refine g_aload 4 dX9_propose_66 rfl ?_
    refine gN_getR (d + 1 + 22 + 2 * w) flX9_130 (fun _ _ _ => rfl) 0 (hD.s.tW (by omega)) (hD.s.rP (by omega)) dX9_propose_68 ?_
    refine g_iload_n 2 dX9_propose_71 rfl rfl ?_
    refine g_iload_n 3 dX9_propose_72 rfl rfl ?_
    refine gN_iast 4 (hD.s.tP (by omega)) (by first | omega | exact b01_lt _) (by first | omega | exact b01_lt _) dX9_propose_73 ?_
    refine g_iload 5 dX9_propose_74 rfl ?_
    refine g_iret rfl dX9_propose_76 ⟨Nat.zero_le _, Nat.zero_le _⟩ ?_
    refine ⟨rfl, Hd.fb hF1 (lo := d + 1) (hi := d + 48) (((FrB.rfl' _ _ _).i _ (by omega) (by omega))) (by omega) (by omega), DkV.nw hK1 hB (((FrB.rfl' _ _ _).i _ (by omega) (by omega))) (hD.s.w (fun _ _ _ => rfl)) ?_⟩
    refine Rp.up hR hz.ln hSB (((FrB.rfl' _ _ _).i _ (by omega) (by omega))) ?_ ?_ ⟨?_, ?_, ?_, ?_⟩ (fun p hp => ?_) (fun p hp => ?_) (fun p hp => ⟨fun w1 hw1 => ?_, ?_⟩) (fun q hq => ?_) (fun q hq => ⟨?_, fun e he => ?_⟩) (fun j hj => ?_)
    · simp (disch := omega) only [im_wM, im_sI, u2_n, u2_s, u1_n, u1_s]
    · simp (disch := omega) only [im_wM, im_sI, u2_n, u2_s, u1_n, u1_s]
    · simp (disch := omega) only [im_wM, im_sI, u2_n, u2_s, u1_n, u1_s]
      first | done | rfl | exact hR.c0
    · simp (disch := omega) only [im_wM, im_sI, u2_n, u2_s, u1_n, u1_s]
      first | done | rfl | exact hR.c1
    · simp (disch := omega) only [im_wM, im_sI, u2_n, u2_s, u1_n, u1_s]
      first | done | rfl | exact hR.c2
    · simp (disch := omega) only [im_wM, im_sI, u2_n, u2_s, u1_n, u1_s]
      first | done | rfl | exact hR.c3
    · skip
      refine ⟨?_, ?_, ?_, ?_, ?_⟩
      all_goals (try simp (disch := omega) only [im_wM, im_sI, u2_n, u2_s, u1_n, u1_s])
      all_goals first | done | rfl | exact hR.T0 (by omega) | exact hR.T1 (by omega) | exact hR.T2 (by omega) | exact hR.T3 (by omega) | exact hR.T4 (by omega)
    · skip
      refine ⟨?_, ?_, ?_⟩
      all_goals (try simp (disch := omega) only [im_wM, im_sI, u2_n, u2_s, u1_n, u1_s])
      all_goals first | done | rfl | exact hR.B0 (by omega) | exact hR.B1 (by omega) | exact hR.B2 (by omega)
    · skip
      by_cases e1 : p = w ∧ w1 = t
      · obtain ⟨rfl, rfl⟩ := e1
        try simp (disch := omega) only [im_wM, im_sI, u2_n, u2_s, u1_n, u1_s]
        first | done | rfl
      · try simp (disch := omega) only [im_wM, im_sI, u2_n, u2_s, u1_n, u1_s]
        first | done | exact hR.W hp hw1
    · try simp (disch := omega) only [im_wM, im_sI, u2_n, u2_s, u1_n, u1_s]
      exact hR.W1 hp
    · have h9 := hR.Sg hq
      unfold SgI at h9 ⊢
      simp (disch := omega) only [im_wM, im_sI, u2_n, u2_s, u1_n, u1_s] at h9 ⊢
      exact h9
    · simp (disch := omega) only [im_wM, im_sI, u2_n, u2_s, u1_n, u1_s]
    · simp (disch := omega) only [im_wM, im_sI, u2_n, u2_s, u1_n, u1_s]
    · simp (disch := omega) only [im_wM, im_sI, u2_n, u2_s, u1_n, u1_s]
  · refine g_aload 4 dX9_propose_29 rfl ?_
    refine gN_getI flX9_125 rfl 0 (hD.s.tW (by omega)) dX9_propose_31 ?_
    refine g_eI (z (56 + w)) (hR.W1 (by omega)) ?_
    refine g_iconst (-1) dX9_propose_34 (by decide) ?_
    refine g_icmp_ne 42 dX9_propose_35 (by decide) (fun h_35 => ?_) (fun h_35 => ?_)
    · refine gN_iconst 0 dX9_propose_42 (by decide) ?_
      exact g_ei (nI (b01 (z (56 + w) = -1))) (congrArg nI (show 0 = b01 (z (56 + w) = -1) from by first | exact (b01_t h_35).symm | exact (b01_f h_35).symm)) K_43
    · refine gN_iconst 1 dX9_propose_38 (by decide) ?_
      refine g_goto 43 dX9_propose_39 (by decide) ?_
      exact g_ei (nI (b01 (z (56 + w) = -1))) (congrArg nI (show 1 = b01 (z (56 + w) = -1) from by first | exact (b01_t h_35).symm | exact (b01_f h_35).symm)) K_43
set_option maxRecDepth 100000 in
theorem cx_X9_rule_1 (g : Gp) (cs : Nat × Nat) {m : Mm} {d B c : Nat} {z : Nat → Int32} (hD : DkT m d) (hR : Rp m B (d + 1) z) (hz : ZOk c z) {p x : Int32} (h : ¬ inb p 8) : Xn g (MX9_rule (1, 6)) [.ref (d), .int (p), .int (x)] m "java/lang/IndexOutOfBoundsException" := by
  have hz0 := hz.n0.hi
  have hz1 := hz.n1.hi
  refine Cn.of pn_X9 (Nat.le_of_ble_eq_true rfl) rfl ?_
  refine g_iload_n 1 dX9_rule_0 rfl rfl ?_
  refine gN_bipush 8 dX9_rule_1 (by decide) ?_
  exact gx_callS _ _ (cx_X9_checkNumber g (0, 0) (N := 8) (by omega) (h)) (ok_X9_checkNumber _) mlX9_30 st_X9_checkNumber rfl ⟨Nat.le_of_ble_eq_true rfl, Nat.le_of_ble_eq_true rfl⟩ (by exact Nat.le_of_ble_eq_true rfl) ⟨Nat.le_of_ble_eq_true rfl, Nat.le_of_ble_eq_true rfl⟩ dX9_rule_3 rfl (fun n hn => ⟨rfl, n, hn, rfl⟩)
set_option maxRecDepth 100000 in
theorem cx_X9_rule_2 (g : Gp) (cs : Nat × Nat) {m : Mm} {d B c : Nat} {z : Nat → Int32} (hD : DkT m d) (hR : Rp m B (d + 1) z) (hz : ZOk c z) {w : Nat} (hw : w < 8) {y : Int32} (h : ¬ (nI 0 ≤ y ∧ y ≤ nI 9)) : Xn g (MX9_rule (1, 6)) [.ref (d), .int (nI (w)), .int (y)] m "java/lang/IllegalArgumentException" := by
  have hz0 := hz.n0.hi
  have hz1 := hz.n1.hi
  refine Cn.of pn_X9 (Nat.le_of_ble_eq_true rfl) rfl ?_
  refine g_iload_n 1 dX9_rule_0 rfl rfl ?_
  refine gN_bipush 8 dX9_rule_1 (by decide) ?_
  refine gd_callS _ _ _ _ (cn_X9_checkNumber g (0, 0) (j := w) (N := 8) (by omega) (by omega)) ⟨rfl, rfl⟩ (ok_X9_checkNumber _) mlX9_30 st_X9_checkNumber rfl ⟨Nat.le_of_ble_eq_true rfl, Nat.le_of_ble_eq_true rfl⟩ (by exact Nat.le_of_ble_eq_true rfl) ⟨Nat.zero_le _, Nat.zero_le _⟩ dX9_rule_3 rfl ?_
  refine g_iload_n 2 dX9_rule_6 rfl rfl ?_
  refine gN_iconst 0 dX9_rule_7 (by decide) ?_
  refine gN_bipush 9 dX9_rule_8 (by decide) ?_
  exact gx_callS _ _ (cx_X9_checkRange g (0, 0) (h)) (ok_X9_checkRange _) mlX9_34 st_X9_checkRange rfl ⟨Nat.le_of_ble_eq_true rfl, Nat.le_of_ble_eq_true rfl⟩ (by exact Nat.le_of_ble_eq_true rfl) ⟨Nat.le_of_ble_eq_true rfl, Nat.le_of_ble_eq_true rfl⟩ dX9_rule_10 rfl (fun n hn => ⟨rfl, n, hn, rfl⟩)
set_option maxRecDepth 100000 in
theorem cx_X9_rule_3 (g : Gp) (cs : Nat × Nat) {m : Mm} {d B c : Nat} {z : Nat → Int32} (hD : DkT m d) (hR : Rp m B (d + 1) z) (hz : ZOk c z) {w : Nat} (hw : w < 8) {y : Int32} (hy : nI 0 ≤ y ∧ y ≤ nI 9) (h : ¬ (z (56 + w) = -1 ∧ ∃ t, t < 4 ∧ z (24 + 4 * w + t) = y)) : Xn g (MX9_rule (1, 6)) [.ref (d), .int (nI (w)), .int (y)] m "java/lang/IllegalStateException" := by
  have hz0 := hz.n0.hi
  have hz1 := hz.n1.hi
  refine Cn.of pn_X9 (Nat.le_of_ble_eq_true rfl) rfl ?_
  refine g_iload_n 1 dX9_rule_0 rfl rfl ?_
  refine gN_bipush 8 dX9_rule_1 (by decide) ?_
  refine gd_callS _ _ _ _ (cn_X9_checkNumber g (0, 0) (j := w) (N := 8) (by omega) (by omega)) ⟨rfl, rfl⟩ (ok_X9_checkNumber _) mlX9_30 st_X9_checkNumber rfl ⟨Nat.le_of_ble_eq_true rfl, Nat.le_of_ble_eq_true rfl⟩ (by exact Nat.le_of_ble_eq_true rfl) ⟨Nat.zero_le _, Nat.zero_le _⟩ dX9_rule_3 rfl ?_
  refine g_iload_n 2 dX9_rule_6 rfl rfl ?_
  refine gN_iconst 0 dX9_rule_7 (by decide) ?_
  refine gN_bipush 9 dX9_rule_8 (by decide) ?_
  refine gd_callS _ _ _ _ (cn_X9_checkRange g (0, 0) (hy)) ⟨rfl, rfl⟩ (ok_X9_checkRange _) mlX9_34 st_X9_checkRange rfl ⟨Nat.le_of_ble_eq_true rfl, Nat.le_of_ble_eq_true rfl⟩ (by exact Nat.le_of_ble_eq_true rfl) ⟨Nat.zero_le _, Nat.zero_le _⟩ dX9_rule_10 rfl ?_
  refine g_aload_n 0 dX9_rule_13 rfl rfl ?_
  refine gN_getR (d + 1) flX9_10 (fun _ _ _ => rfl) 0 (hD.t) (hD.r0) dX9_rule_14 ?_
  refine gN_getR (d + 1 + 4) flX9_121 (fun _ _ _ => rfl) 0 (hD.s.t) (hD.s.r3) dX9_rule_17 ?_
  refine g_iload_n 1 dX9_rule_20 rfl rfl ?_
  refine gN_aald 16 8 (d + 1 + 21 + 2 * w) (hD.s.t4) (by decide) (by first | omega | exact b01_lt _) (by first | omega | exact b01_lt _) (hD.s.rW (by omega)) dX9_rule_21 ?_
  refine g_astore_n 3 [(3, .ref (d + 1 + 21 + 2 * w)), (0, .ref (d)), (1, .int (nI (w))), (2, .int (y))] dX9_rule_22 rfl (Nat.le_of_ble_eq_true rfl) rfl ?_
  refine g_join 44 (b01 (z (56 + w) = -1 ∧ ∃ t, t < 4 ∧ z (24 + 4 * w + t) = y)) ?_ (fun K_44 => ?_)
  · exact gx_callS _ _ (cx_X9_checkState g (0, 0) (p := z (56 + w) = -1 ∧ ∃ t, t < 4 ∧ z (24 + 4 * w + t) = y) h) (ok_X9_checkState _) mlX9_80 st_X9_checkState rfl ⟨Nat.le_of_ble_eq_true rfl, Nat.le_of_ble_eq_true rfl⟩ (by exact Nat.le_of_ble_eq_true rfl) ⟨Nat.le_of_ble_eq_true rfl, Nat.le_of_ble_eq_true rfl⟩ dX9_rule_44 rfl (fun n hn => ⟨rfl, n, hn, rfl⟩)
  · refine g_aload_n 3 dX9_rule_23 rfl rfl ?_
    refine gN_getI flX9_125 rfl 0 (hD.s.tW (by omega)) dX9_rule_24 ?_
    refine g_eI (z (56 + w)) (hR.W1 (by omega)) ?_
    refine g_iconst (-1) dX9_rule_27 (by decide) ?_
    refine g_icmp_ne 43 dX9_rule_28 (by decide) (fun h_28 => ?_) (fun h_28 => ?_)
    · refine gN_iconst 0 dX9_rule_43 (by decide) ?_
      exact g_ei (nI (b01 (z (56 + w) = -1 ∧ ∃ t, t < 4 ∧ z (24 + 4 * w + t) = y))) (congrArg nI (show 0 = b01 (z (56 + w) = -1 ∧ ∃ t, t < 4 ∧ z (24 + 4 * w + t) = y) from by first | exact (b01_t ⟨h_28, b01_n.mp h_36⟩).symm | exact (b01_f (fun q => by first | exact h_28 q.1 | exact b01_z.mp h_36 q.2)).symm)) K_44
    · refine g_aload_n 3 dX9_rule_31 rfl rfl ?_
      refine g_iload_n 2 dX9_rule_32 rfl rfl ?_
      refine gd_callV _ _ _ _ (cn_X7_isProposed g (0, 0) (f := fun t => z (24 + 4 * w + t)) (hD.s.tW hw) (hD.s.tP hw) (hD.s.rP hw) (fun t ht => hR.W hw ht) y) ⟨rfl, rfl⟩ (ok_X7_isProposed _) mlX9_133 in_X7_isProposed se_X7_isProposed 7 0 (hD.s.tW (by omega)) rfl rfl rfl ⟨Nat.le_of_ble_eq_true rfl, Nat.le_of_ble_eq_true rfl⟩ (by exact Nat.le_of_ble_eq_true rfl) ⟨Nat.zero_le _, Nat.zero_le _⟩ dX9_rule_33 rfl ?_
      refine gN_if_eq 43 dX9_rule_36 (by decide) (by first | omega | exact b01_lt _) (fun h_36 => ?_) (fun h_36 => ?_)
      · refine gN_iconst 0 dX9_rule_43 (by decide) ?_
        exact g_ei (nI (b01 (z (56 + w) = -1 ∧ ∃ t, t < 4 ∧ z (24 + 4 * w + t) = y))) (congrArg nI (show 0 = b01 (z (56 + w) = -1 ∧ ∃ t, t < 4 ∧ z (24 + 4 * w + t) = y) from by first | exact (b01_t ⟨h_28, b01_n.mp h_36⟩).symm | exact (b01_f (fun q => by first | exact h_28 q.1 | exact b01_z.mp h_36 q.2)).symm)) K_44
      · refine gN_iconst 1 dX9_rule_39 (by decide) ?_
        refine g_goto 44 dX9_rule_40 (by decide) ?_
        exact g_ei (nI (b01 (z (56 + w) = -1 ∧ ∃ t, t < 4 ∧ z (24 + 4 * w + t) = y))) (congrArg nI (show 1 = b01 (z (56 + w) = -1 ∧ ∃ t, t < 4 ∧ z (24 + 4 * w + t) = y) from by first | exact (b01_t ⟨h_28, b01_n.mp h_36⟩).symm | exact (b01_f (fun q => by first | exact h_28 q.1 | exact b01_z.mp h_36 q.2)).symm)) K_44
set_option maxRecDepth 100000 in
theorem cn_X9_rule (g : Gp) (cs : Nat × Nat) {m : Mm} {d B c k kb : Nat} {z : Nat → Int32} {rows : Nat → Nat → Int32} {f : Nat → Int32} (hB : d + 344 ≤ B) (hG : KdT g m d) (hK : DkV m d B c k kb z rows f) (hz : ZOk c z) {w : Nat} (hw : w < 8) {y : Int32} (hy : nI 0 ≤ y ∧ y ≤ nI 9) (h : z (56 + w) = -1 ∧ ∃ t, t < 4 ∧ z (24 + 4 * w + t) = y) : Cn g (MX9_rule cs) [.ref (d), .int (nI (w)), .int (y)] m (kQ m d B c (sk k) kb (u1 z (56 + w) y) (svR k z rows) f (some (.int (nI 4 - nI (hv z w y 4) - nI (hv z w (-1) 4))))) := by
  have hz0 := hz.n0.hi
  have hz1 := hz.n1.hi
  have hSB : d + 1 + 47 ≤ B := by omega
  have hC := hG.1
  have hK0 := hK
  obtain ⟨hD, hR, ⟨fst, hV⟩, hl, hk6, hf⟩ := hK0
  refine Cn.of pn_X9 (Nat.le_of_ble_eq_true rfl) rfl ?_
  refine g_iload_n 1 dX9_rule_0 rfl rfl ?_
  refine gN_bipush 8 dX9_rule_1 (by decide) ?_
  refine gd_callS _ _ _ _ (cn_X9_checkNumber g (0, 0) (j := w) (N := 8) (by omega) (by omega)) ⟨rfl, rfl⟩ (ok_X9_checkNumber _) mlX9_30 st_X9_checkNumber rfl ⟨Nat.le_of_ble_eq_true rfl, Nat.le_of_ble_eq_true rfl⟩ (by exact Nat.le_of_ble_eq_true rfl) ⟨Nat.zero_le _, Nat.zero_le _⟩ dX9_rule_3 rfl ?_
  refine g_iload_n 2 dX9_rule_6 rfl rfl ?_
  refine gN_iconst 0 dX9_rule_7 (by decide) ?_
  refine gN_bipush 9 dX9_rule_8 (by decide) ?_
  refine gd_callS _ _ _ _ (cn_X9_checkRange g (0, 0) (hy)) ⟨rfl, rfl⟩ (ok_X9_checkRange _) mlX9_34 st_X9_checkRange rfl ⟨Nat.le_of_ble_eq_true rfl, Nat.le_of_ble_eq_true rfl⟩ (by exact Nat.le_of_ble_eq_true rfl) ⟨Nat.zero_le _, Nat.zero_le _⟩ dX9_rule_10 rfl ?_
  refine g_aload_n 0 dX9_rule_13 rfl rfl ?_
  refine gN_getR (d + 1) flX9_10 (fun _ _ _ => rfl) 0 (hD.t) (hD.r0) dX9_rule_14 ?_
  refine gN_getR (d + 1 + 4) flX9_121 (fun _ _ _ => rfl) 0 (hD.s.t) (hD.s.r3) dX9_rule_17 ?_
  refine g_iload_n 1 dX9_rule_20 rfl rfl ?_
  refine gN_aald 16 8 (d + 1 + 21 + 2 * w) (hD.s.t4) (by decide) (by first | omega | exact b01_lt _) (by first | omega | exact b01_lt _) (hD.s.rW (by omega)) dX9_rule_21 ?_
  refine g_astore_n 3 [(3, .ref (d + 1 + 21 + 2 * w)), (0, .ref (d)), (1, .int (nI (w))), (2, .int (y))] dX9_rule_22 rfl (Nat.le_of_ble_eq_true rfl) rfl ?_
  refine g_join 44 (b01 (z (56 + w) = -1 ∧ ∃ t, t < 4 ∧ z (24 + 4 * w + t) = y)) ?_ (fun K_44 => ?_)
  · refine gd_callS _ _ _ _ (cn_X9_checkState g (0, 0) (p := z (56 + w) = -1 ∧ ∃ t, t < 4 ∧ z (24 + 4 * w + t) = y) (h)) ⟨rfl, rfl⟩ (ok_X9_checkState _) mlX9_80 st_X9_checkState rfl ⟨Nat.le_of_ble_eq_true rfl, Nat.le_of_ble_eq_true rfl⟩ (by exact Nat.le_of_ble_eq_true rfl) ⟨Nat.zero_le _, Nat.zero_le _⟩ dX9_rule_44 rfl ?_
    refine g_aload_n 0 dX9_rule_47 rfl rfl ?_
    refine gN_getR (d + 48) flX9_19 (fun _ _ _ => rfl) 0 (hD.t) (hD.r1) dX9_rule_48 ?_
    refine g_aload_n 0 dX9_rule_51 rfl rfl ?_
    refine gN_getR (d + 1) flX9_10 (fun _ _ _ => rfl) 0 (hD.t) (hD.r0) dX9_rule_52 ?_
    refine gm_callV _ _ _ (cn_X2_save g (0, 0) (m := m) (H := d + 48) (S := d + 1) (B := B) (c := c) (z := z) hD.h hV hD.s hR hz rfl (by omega)) ⟨rfl, rfl⟩ (ok_X2_save _) mlX9_38 in_X2_save se_X2_save 2 0 (hD.h.t) rfl rfl rfl ⟨Nat.le_of_ble_eq_true rfl, Nat.le_of_ble_eq_true rfl⟩ (by exact Nat.le_of_ble_eq_true rfl) ⟨Nat.zero_le _, Nat.zero_le _⟩ dX9_rule_55 rfl (fun I R hP => ?_)
    obtain ⟨hF, hH2, fst2, hV2⟩ := hP
    have hK1 := DkV.sv hK hz0 hB hF hH2 hV2
    have hF1 := Hd.fb (Hd.rfl' m d) hF (by omega) (by omega)
    generalize wM m I R = m1 at hK1 hF1 ⊢
    clear hF hH2 hV2 hD hR hV hl hf hC
    have hG1 := hG.fd hF1
    have hC := hG1.1
    have hK2 := hK1
    obtain ⟨hD, hR, ⟨fst1, hV⟩, hl, _, hf⟩ := hK2
    
    refine g_aload_n 3 dX9_rule_58 rfl rfl ?_
    refine g_iload_n 2 dX9_rule_59 rfl rfl ?_
    refine gN_putI fwX9_125 rfl 0 (hD.s.tW (by omega)) dX9_rule_60 ?_
    refine g_aload_n 3 dX9_rule_63 rfl rfl ?_
    refine g_iload_n 2 dX9_rule_64 rfl rfl ?_
    refine gd_callV _ _ _ _ (cn_X7_otherProposals g (0, 0) (m := sI m1 (d + 1 + 21 + 2 * w) 1 y) (f := fun t => z (24 + 4 * w + t)) (hD.s.tW hw) (hD.s.tP hw) (hD.s.rP hw) (fun t ht => by rw [im_sI, u2_o _ _ _ _ (by omega)]; exact hR.W hw ht) y) ⟨rfl, rfl⟩ (ok_X7_otherProposals _) mlX9_136 in_X7_otherProposals se_X7_otherProposals 7 0 (hD.s.tW (by omega)) rfl rfl rfl ⟨Nat.le_of_ble_eq_true rfl, Nat.le_of_ble_eq_true rfl⟩ (by exact Nat.le_of_ble_eq_true rfl) ⟨Nat.zero_le _, Nat.zero_le _⟩ dX9_rule_65 rfl ?_
    refine g_iret rfl dX9_rule_68 ⟨Nat.zero_le _, Nat.zero_le _⟩ ?_
    have hym : ¬ y = -1 := fun q => by have h0 := hy.1; rw [q] at h0; exact absurd h0 (by decide)
    refine ⟨vI (hv_oI z w hym).symm, Hd.fb hF1 (lo := d + 1) (hi := d + 48) (((FrB.rfl' _ _ _).i _ (by omega) (by omega))) (by omega) (by omega), DkV.nw hK1 hB (((FrB.rfl' _ _ _).i _ (by omega) (by omega))) (hD.s.w (fun _ _ _ => rfl)) ?_⟩
    refine Rp.up hR hz.ln hSB (((FrB.rfl' _ _ _).i _ (by omega) (by omega))) ?_ ?_ ⟨?_, ?_, ?_, ?_⟩ (fun p hp => ?_) (fun p hp => ?_) (fun p hp => ⟨fun w hw => ?_, ?_⟩) (fun q hq => ?_) (fun q hq => ⟨?_, fun e he => ?_⟩) (fun j hj => ?_)
    · simp (disch := omega) only [im_wM, im_sI, u2_n, u2_s, u1_n, u1_s]
    · simp (disch := omega) only [im_wM, im_sI, u2_n, u2_s, u1_n, u1_s]
    · simp (disch := omega) only [im_wM, im_sI, u2_n, u2_s, u1_n, u1_s]
      first | done | rfl | exact hR.c0
    · simp (disch := omega) only [im_wM, im_sI, u2_n, u2_s, u1_n, u1_s]
      first | done | rfl | exact hR.c1
    · simp (disch := omega) only [im_wM, im_sI, u2_n, u2_s, u1_n, u1_s]
      first | done | rfl | exact hR.c2
    · simp (disch := omega) only [im_wM, im_sI, u2_n, u2_s, u1_n, u1_s]
      first | done | rfl | exact hR.c3
    · skip
      refine ⟨?_, ?_, ?_, ?_, ?_⟩
      all_goals (try simp (disch := omega) only [im_wM, im_sI, u2_n, u2_s, u1_n, u1_s])
      all_goals first | done | rfl | exact hR.T0 (by omega) | exact hR.T1 (by omega) | exact hR.T2 (by omega) | exact hR.T3 (by omega) | exact hR.T4 (by omega)
    · skip
      refine ⟨?_, ?_, ?_⟩
      all_goals (try simp (disch := omega) only [im_wM, im_sI, u2_n, u2_s, u1_n, u1_s])
      all_goals first | done | rfl | exact hR.B0 (by omega) | exact hR.B1 (by omega) | exact hR.B2 (by omega)
    · try simp (disch := omega) only [im_wM, im_sI, u2_n, u2_s, u1_n, u1_s]
      exact hR.W hp hw
    · skip
      by_cases e1 : p = w
      · subst e1
        try simp (disch := omega) only [im_wM, im_sI, u2_n, u2_s, u1_n, u1_s]
        first | done | rfl
      · try simp (disch := omega) only [im_wM, im_sI, u2_n, u2_s, u1_n, u1_s]
        exact hR.W1 hp
    · have h9 := hR.Sg hq
      unfold SgI at h9 ⊢
      simp (disch := omega) only [im_wM, im_sI, u2_n, u2_s, u1_n, u1_s] at h9 ⊢
      exact h9
    · simp (disch := omega) only [im_wM, im_sI, u2_n, u2_s, u1_n, u1_s]
    · simp (disch := omega) only [im_wM, im_sI, u2_n, u2_s, u1_n, u1_s]
    · simp (disch := omega) only [im_wM, im_sI, u2_n, u2_s, u1_n, u1_s]
  · refine g_aload_n 3 dX9_rule_23 rfl rfl ?_
    refine gN_getI flX9_125 rfl 0 (hD.s.tW (by omega)) dX9_rule_24 ?_
    refine g_eI (z (56 + w)) (hR.W1 (by omega)) ?_
    refine g_iconst (-1) dX9_rule_27 (by decide) ?_
    refine g_icmp_ne 43 dX9_rule_28 (by decide) (fun h_28 => ?_) (fun h_28 => ?_)
    · refine gN_iconst 0 dX9_rule_43 (by decide) ?_
      exact g_ei (nI (b01 (z (56 + w) = -1 ∧ ∃ t, t < 4 ∧ z (24 + 4 * w + t) = y))) (congrArg nI (show 0 = b01 (z (56 + w) = -1 ∧ ∃ t, t < 4 ∧ z (24 + 4 * w + t) = y) from by first | exact (b01_t ⟨h_28, b01_n.mp h_36⟩).symm | exact (b01_f (fun q => by first | exact h_28 q.1 | exact b01_z.mp h_36 q.2)).symm)) K_44
    · refine g_aload_n 3 dX9_rule_31 rfl rfl ?_
      refine g_iload_n 2 dX9_rule_32 rfl rfl ?_
      refine gd_callV _ _ _ _ (cn_X7_isProposed g (0, 0) (f := fun t => z (24 + 4 * w + t)) (hD.s.tW hw) (hD.s.tP hw) (hD.s.rP hw) (fun t ht => hR.W hw ht) y) ⟨rfl, rfl⟩ (ok_X7_isProposed _) mlX9_133 in_X7_isProposed se_X7_isProposed 7 0 (hD.s.tW (by omega)) rfl rfl rfl ⟨Nat.le_of_ble_eq_true rfl, Nat.le_of_ble_eq_true rfl⟩ (by exact Nat.le_of_ble_eq_true rfl) ⟨Nat.zero_le _, Nat.zero_le _⟩ dX9_rule_33 rfl ?_
      refine gN_if_eq 43 dX9_rule_36 (by decide) (by first | omega | exact b01_lt _) (fun h_36 => ?_) (fun h_36 => ?_)
      · refine gN_iconst 0 dX9_rule_43 (by decide) ?_
        exact g_ei (nI (b01 (z (56 + w) = -1 ∧ ∃ t, t < 4 ∧ z (24 + 4 * w + t) = y))) (congrArg nI (show 0 = b01 (z (56 + w) = -1 ∧ ∃ t, t < 4 ∧ z (24 + 4 * w + t) = y) from by first | exact (b01_t ⟨h_28, b01_n.mp h_36⟩).symm | exact (b01_f (fun q => by first | exact h_28 q.1 | exact b01_z.mp h_36 q.2)).symm)) K_44
      · refine gN_iconst 1 dX9_rule_39 (by decide) ?_
        refine g_goto 44 dX9_rule_40 (by decide) ?_
        exact g_ei (nI (b01 (z (56 + w) = -1 ∧ ∃ t, t < 4 ∧ z (24 + 4 * w + t) = y))) (congrArg nI (show 1 = b01 (z (56 + w) = -1 ∧ ∃ t, t < 4 ∧ z (24 + 4 * w + t) = y) from by first | exact (b01_t ⟨h_28, b01_n.mp h_36⟩).symm | exact (b01_f (fun q => by first | exact h_28 q.1 | exact b01_z.mp h_36 q.2)).symm)) K_44
set_option maxRecDepth 100000 in
theorem cx_X9_append_2 (g : Gp) (cs : Nat × Nat) {m : Mm} {d kb : Nat} (hD : DkT m d) (hl : im m (d + 332) 1 = nI kb) (hk6 : kb ≤ 60) {y : Int32} (h : ¬ (nI 33 ≤ y ∧ y ≤ nI 126)) : Xn g (MX9_append (1, 6)) [.ref (d), .int (y)] m "java/lang/IllegalArgumentException" := by
  refine Cn.of pn_X9 (Nat.le_of_ble_eq_true rfl) rfl ?_
  refine g_iload_n 1 dX9_append_0 rfl rfl ?_
  refine gN_bipush 33 dX9_append_1 (by decide) ?_
  refine gN_bipush 126 dX9_append_3 (by decide) ?_
  exact gx_callS _ _ (cx_X9_checkRange g (0, 0) (h)) (ok_X9_checkRange _) mlX9_34 st_X9_checkRange rfl ⟨Nat.le_of_ble_eq_true rfl, Nat.le_of_ble_eq_true rfl⟩ (by exact Nat.le_of_ble_eq_true rfl) ⟨Nat.le_of_ble_eq_true rfl, Nat.le_of_ble_eq_true rfl⟩ dX9_append_5 rfl (fun n hn => ⟨rfl, n, hn, rfl⟩)
set_option maxRecDepth 100000 in
theorem cx_X9_append_3 (g : Gp) (cs : Nat × Nat) {m : Mm} {d kb : Nat} (hD : DkT m d) (hl : im m (d + 332) 1 = nI kb) (hk6 : kb ≤ 60) {y : Int32} (hy : (nI 33 ≤ y ∧ y ≤ nI 126)) (h : ¬ kb < 60) : Xn g (MX9_append (1, 6)) [.ref (d), .int (y)] m "java/lang/IllegalStateException" := by
  refine Cn.of pn_X9 (Nat.le_of_ble_eq_true rfl) rfl ?_
  refine g_iload_n 1 dX9_append_0 rfl rfl ?_
  refine gN_bipush 33 dX9_append_1 (by decide) ?_
  refine gN_bipush 126 dX9_append_3 (by decide) ?_
  refine gd_callS _ _ _ _ (cn_X9_checkRange g (0, 0) (hy)) ⟨rfl, rfl⟩ (ok_X9_checkRange _) mlX9_34 st_X9_checkRange rfl ⟨Nat.le_of_ble_eq_true rfl, Nat.le_of_ble_eq_true rfl⟩ (by exact Nat.le_of_ble_eq_true rfl) ⟨Nat.zero_le _, Nat.zero_le _⟩ dX9_append_5 rfl ?_
  refine g_join 25 (b01 (kb < 60)) ?_ (fun K_25 => ?_)
  · exact gx_callS _ _ (cx_X9_checkState g (0, 0) (p := kb < 60) h) (ok_X9_checkState _) mlX9_80 st_X9_checkState rfl ⟨Nat.le_of_ble_eq_true rfl, Nat.le_of_ble_eq_true rfl⟩ (by exact Nat.le_of_ble_eq_true rfl) ⟨Nat.le_of_ble_eq_true rfl, Nat.le_of_ble_eq_true rfl⟩ dX9_append_25 rfl (fun n hn => ⟨rfl, n, hn, rfl⟩)
  · refine g_aload_n 0 dX9_append_8 rfl rfl ?_
    refine gN_getR (d + 332) flX9_26 (fun _ _ _ => rfl) 0 (hD.t) (hD.r2) dX9_append_9 ?_
    refine gN_getI flX9_140 rfl 0 (hD.tb) dX9_append_12 ?_
    refine g_ei (nI (kb)) (hl) ?_
    refine gN_bipush 60 dX9_append_15 (by decide) ?_
    refine gN_icmp_ge 24 dX9_append_17 (by decide) (by first | omega | exact b01_lt _) (by first | omega | exact b01_lt _) (fun h_17 => ?_) (fun h_17 => ?_)
    · refine gN_iconst 0 dX9_append_24 (by decide) ?_
      exact g_ei (nI (b01 (kb < 60))) (congrArg nI (show 0 = b01 (kb < 60) from by first | exact (b01_t h_17).symm | exact (b01_f (by omega)).symm)) K_25
    · refine gN_iconst 1 dX9_append_20 (by decide) ?_
      refine g_goto 25 dX9_append_21 (by decide) ?_
      exact g_ei (nI (b01 (kb < 60))) (congrArg nI (show 1 = b01 (kb < 60) from by first | exact (b01_t h_17).symm | exact (b01_f (by omega)).symm)) K_25
set_option maxRecDepth 100000 in
theorem cn_X9_append (g : Gp) (cs : Nat × Nat) {m : Mm} {d B c k kb : Nat} {z : Nat → Int32} {rows : Nat → Nat → Int32} {f : Nat → Int32} (hB : d + 344 ≤ B) (hG : KdT g m d) (hK : DkV m d B c k kb z rows f) (hz : ZOk c z) {y : Int32} (hy : (nI 33 ≤ y ∧ y ≤ nI 126)) (h : kb < 60) : Cn g (MX9_append cs) [.ref (d), .int (y)] m (kQ m d B c k (kb + 1) (z) rows (u1 f kb y) (some (.int (nI (kb + 1))))) := by
  have hz0 := hz.n0.hi
  have hz1 := hz.n1.hi
  have hSB : d + 1 + 47 ≤ B := by omega
  have hC := hG.1
  have hK0 := hK
  obtain ⟨hD, hR, ⟨fst, hV⟩, hl, hk6, hf⟩ := hK0
  refine Cn.of pn_X9 (Nat.le_of_ble_eq_true rfl) rfl ?_
  refine g_iload_n 1 dX9_append_0 rfl rfl ?_
  refine gN_bipush 33 dX9_append_1 (by decide) ?_
  refine gN_bipush 126 dX9_append_3 (by decide) ?_
  refine gd_callS _ _ _ _ (cn_X9_checkRange g (0, 0) (hy)) ⟨rfl, rfl⟩ (ok_X9_checkRange _) mlX9_34 st_X9_checkRange rfl ⟨Nat.le_of_ble_eq_true rfl, Nat.le_of_ble_eq_true rfl⟩ (by exact Nat.le_of_ble_eq_true rfl) ⟨Nat.zero_le _, Nat.zero_le _⟩ dX9_append_5 rfl ?_
  refine g_join 25 (b01 (kb < 60)) ?_ (fun K_25 => ?_)
  · refine gd_callS _ _ _ _ (cn_X9_checkState g (0, 0) (p := kb < 60) (h)) ⟨rfl, rfl⟩ (ok_X9_checkState _) mlX9_80 st_X9_checkState rfl ⟨Nat.le_of_ble_eq_true rfl, Nat.le_of_ble_eq_true rfl⟩ (by exact Nat.le_of_ble_eq_true rfl) ⟨Nat.zero_le _, Nat.zero_le _⟩ dX9_append_25 rfl ?_
    refine g_aload_n 0 dX9_append_28 rfl rfl ?_
    refine gN_getR (d + 332) flX9_26 (fun _ _ _ => rfl) 0 (hD.t) (hD.r2) dX9_append_29 ?_
    refine gN_getR (d + 333) flX9_141 (fun _ _ _ => rfl) 0 (hD.tb) (hD.rb) dX9_append_32 ?_
    refine g_aload_n 0 dX9_append_35 rfl rfl ?_
    refine gN_getR (d + 332) flX9_26 (fun _ _ _ => rfl) 0 (hD.t) (hD.r2) dX9_append_36 ?_
    refine gN_getI flX9_140 rfl 0 (hD.tb) dX9_append_39 ?_
    refine g_ei (nI (kb)) (hl) ?_
    refine g_iload_n 1 dX9_append_42 rfl rfl ?_
    refine gN_iast 60 (hD.tc) (by first | omega | exact b01_lt _) (by first | omega | exact b01_lt _) dX9_append_43 ?_
    refine g_aload_n 0 dX9_append_44 rfl rfl ?_
    refine gN_getR (d + 332) flX9_26 (fun _ _ _ => rfl) 0 (hD.t) (hD.r2) dX9_append_45 ?_
    refine g_dup dX9_append_48 rfl ?_
    refine gN_getI flX9_140 rfl 0 (hD.tb) dX9_append_49 ?_
    refine g_ei (nI (kb)) (by rw [im_sI, u2_o _ _ _ _ (by omega)]; exact hl) ?_
    refine gN_iconst 1 dX9_append_52 (by decide) ?_
    refine gN_iadd (kb + 1) dX9_append_53 rfl ?_
    refine gN_putI fwX9_140 rfl 0 (hD.tb) dX9_append_54 ?_
    refine g_aload_n 0 dX9_append_57 rfl rfl ?_
    refine gN_getR (d + 332) flX9_26 (fun _ _ _ => rfl) 0 (hD.t) (hD.r2) dX9_append_58 ?_
    refine gN_getI flX9_140 rfl 0 (hD.tb) dX9_append_61 ?_
    refine g_ei (nI (kb + 1)) (u2_s _ _ _ _) ?_
    refine g_iret rfl dX9_append_64 ⟨Nat.zero_le _, Nat.zero_le _⟩ ?_
    have hFa : FrB m (d + 332) (d + 334) (u2 (u2 (im m) (d + 333) kb y) (d + 332) 1 (nI (kb + 1))) (rf m) := (((FrB.rfl' _ _ _).i _ (by omega) (by omega)).i _ (by omega) (by omega))
    refine ⟨rfl, Hd.fb (m1 := m) (I := (u2 (u2 (im m) (d + 333) kb y) (d + 332) 1 (nI (kb + 1)))) (R := rf m) (Hd.rfl' m d) hFa (by omega) (by omega), DkV.bf (m := m) (I := (u2 (u2 (im m) (d + 333) kb y) (d + 332) 1 (nI (kb + 1)))) hK hz0 hB hFa (u2_s _ _ _ _) (by omega) (fun e he => ?_)⟩
    rw [u2_o _ _ _ _ (by omega)]
    by_cases q : e = kb
    · subst q; rw [u2_s, u1_s]
    · rw [u2_n _ _ _ _ (by omega), u1_n _ _ _ (by omega)]; exact hf e (by omega)
  · refine g_aload_n 0 dX9_append_8 rfl rfl ?_
    refine gN_getR (d + 332) flX9_26 (fun _ _ _ => rfl) 0 (hD.t) (hD.r2) dX9_append_9 ?_
    refine gN_getI flX9_140 rfl 0 (hD.tb) dX9_append_12 ?_
    refine g_ei (nI (kb)) (hl) ?_
    refine gN_bipush 60 dX9_append_15 (by decide) ?_
    refine gN_icmp_ge 24 dX9_append_17 (by decide) (by first | omega | exact b01_lt _) (by first | omega | exact b01_lt _) (fun h_17 => ?_) (fun h_17 => ?_)
    · refine gN_iconst 0 dX9_append_24 (by decide) ?_
      exact g_ei (nI (b01 (kb < 60))) (congrArg nI (show 0 = b01 (kb < 60) from by first | exact (b01_t h_17).symm | exact (b01_f (by omega)).symm)) K_25
    · refine gN_iconst 1 dX9_append_20 (by decide) ?_
      refine g_goto 25 dX9_append_21 (by decide) ?_
      exact g_ei (nI (b01 (kb < 60))) (congrArg nI (show 1 = b01 (kb < 60) from by first | exact (b01_t h_17).symm | exact (b01_f (by omega)).symm)) K_25
set_option maxRecDepth 100000 in
theorem cn_X9_clearBuffer (g : Gp) (cs : Nat × Nat) {m : Mm} {d B c k kb : Nat} {z : Nat → Int32} {rows : Nat → Nat → Int32} {f : Nat → Int32} (hB : d + 344 ≤ B) (hG : KdT g m d) (hK : DkV m d B c k kb z rows f) (hz : ZOk c z) : Cn g (MX9_clearBuffer cs) [.ref (d)] m (kQ m d B c k 0 (z) rows f (some (.int (nI kb)))) := by
  have hz0 := hz.n0.hi
  have hz1 := hz.n1.hi
  have hSB : d + 1 + 47 ≤ B := by omega
  have hC := hG.1
  have hK0 := hK
  obtain ⟨hD, hR, ⟨fst, hV⟩, hl, hk6, hf⟩ := hK0
  refine Cn.of pn_X9 (Nat.le_of_ble_eq_true rfl) rfl ?_
  refine g_aload_n 0 dX9_clearBuffer_0 rfl rfl ?_
  refine gN_getR (d + 332) flX9_26 (fun _ _ _ => rfl) 0 (hD.t) (hD.r2) dX9_clearBuffer_1 ?_
  refine gN_getI flX9_140 rfl 0 (hD.tb) dX9_clearBuffer_4 ?_
  refine g_ei (nI (kb)) (hl) ?_
  refine g_istore_n 1 [(1, .int (nI (kb))), (0, .ref (d))] dX9_clearBuffer_7 rfl (Nat.le_of_ble_eq_true rfl) rfl ?_
  refine g_aload_n 0 dX9_clearBuffer_8 rfl rfl ?_
  refine gN_getR (d + 332) flX9_26 (fun _ _ _ => rfl) 0 (hD.t) (hD.r2) dX9_clearBuffer_9 ?_
  refine gN_iconst 0 dX9_clearBuffer_12 (by decide) ?_
  refine gN_putI fwX9_140 rfl 0 (hD.tb) dX9_clearBuffer_13 ?_
  refine g_iload_n 1 dX9_clearBuffer_16 rfl rfl ?_
  refine g_iret rfl dX9_clearBuffer_17 ⟨Nat.zero_le _, Nat.zero_le _⟩ ?_
  have hFa : FrB m (d + 332) (d + 334) (u2 (im m) (d + 332) 1 (nI 0)) (rf m) := ((FrB.rfl' _ _ _).i _ (by omega) (by omega))
  exact ⟨rfl, Hd.fb (m1 := m) (I := (u2 (im m) (d + 332) 1 (nI 0))) (R := rf m) (Hd.rfl' m d) hFa (by omega) (by omega), DkV.bf (m := m) (I := (u2 (im m) (d + 332) 1 (nI 0))) hK hz0 hB hFa (u2_s _ _ _ _) (by omega) (fun e he => absurd he (Nat.not_lt_zero _))⟩
set_option maxRecDepth 100000 in
theorem cx_X9_undo_3 (g : Gp) (cs : Nat × Nat) {m : Mm} {d k : Nat} (hD : DkT m d) (hk : im m (d + 48) 2 = nI k) (hk6 : k ≤ 6) (h : ¬ 0 < k) : Xn g (MX9_undo (1, 6)) [.ref (d)] m "java/lang/IllegalStateException" := by
  refine Cn.of pn_X9 (Nat.le_of_ble_eq_true rfl) rfl ?_
  refine g_join 15 (b01 (0 < k)) ?_ (fun K_15 => ?_)
  · exact gx_callS _ _ (cx_X9_checkState g (0, 0) (p := 0 < k) h) (ok_X9_checkState _) mlX9_80 st_X9_checkState rfl ⟨Nat.le_of_ble_eq_true rfl, Nat.le_of_ble_eq_true rfl⟩ (by exact Nat.le_of_ble_eq_true rfl) ⟨Nat.le_of_ble_eq_true rfl, Nat.le_of_ble_eq_true rfl⟩ dX9_undo_15 rfl (fun n hn => ⟨rfl, n, hn, rfl⟩)
  · refine g_aload_n 0 dX9_undo_0 rfl rfl ?_
    refine gN_getR (d + 48) flX9_19 (fun _ _ _ => rfl) 0 (hD.t) (hD.r1) dX9_undo_1 ?_
    refine gN_getI flX9_172 rfl 0 (hD.h.t) dX9_undo_4 ?_
    refine g_ei (nI (k)) (hk) ?_
    refine gN_if_le 14 dX9_undo_7 (by decide) (by first | omega | exact b01_lt _) (fun h_7 => ?_) (fun h_7 => ?_)
    · refine gN_iconst 0 dX9_undo_14 (by decide) ?_
      exact g_ei (nI (b01 (0 < k))) (congrArg nI (show 0 = b01 (0 < k) from by first | exact (b01_t h_7).symm | exact (b01_f h_7).symm | exact (b01_t (by omega)).symm | exact (b01_f (by omega)).symm)) K_15
    · refine gN_iconst 1 dX9_undo_10 (by decide) ?_
      refine g_goto 15 dX9_undo_11 (by decide) ?_
      exact g_ei (nI (b01 (0 < k))) (congrArg nI (show 1 = b01 (0 < k) from by first | exact (b01_t h_7).symm | exact (b01_f h_7).symm | exact (b01_t (by omega)).symm | exact (b01_f (by omega)).symm)) K_15
set_option maxRecDepth 100000 in
theorem cn_X9_undo (g : Gp) (cs : Nat × Nat) {m : Mm} {d B c k kb : Nat} {z : Nat → Int32} {rows : Nat → Nat → Int32} {f : Nat → Int32} (hB : d + 344 ≤ B) (hG : KdT g m d) (hK : DkV m d B c (k + 1) kb z rows f) (hz : ZOk c z) : Cn g (MX9_undo cs) [.ref d] m (fun r m1 => kQ m d B c k kb (rows k) rows f (some (.int (nI k))) r m1 ∧ ZOk c (rows k)) := by
  have hz0 := hz.n0.hi
  have hz1 := hz.n1.hi
  have hSB : d + 1 + 47 ≤ B := by omega
  have hC := hG.1
  have hK0 := hK
  obtain ⟨hD, hR, ⟨fst, hV⟩, hl, hk6, hf⟩ := hK0
  have hV9 := hV
  obtain ⟨⟨hq1, hq2, hq3, hq4⟩, hq5⟩ := hV
  refine Cn.of pn_X9 (Nat.le_of_ble_eq_true rfl) rfl ?_
  refine g_join 15 (b01 (0 < k + 1)) ?_ (fun K_15 => ?_)
  · refine gd_callS _ _ _ _ (cn_X9_checkState g (0, 0) (p := 0 < k + 1) ((Nat.succ_pos k))) ⟨rfl, rfl⟩ (ok_X9_checkState _) mlX9_80 st_X9_checkState rfl ⟨Nat.le_of_ble_eq_true rfl, Nat.le_of_ble_eq_true rfl⟩ (by exact Nat.le_of_ble_eq_true rfl) ⟨Nat.zero_le _, Nat.zero_le _⟩ dX9_undo_15 rfl ?_
    refine g_aload_n 0 dX9_undo_18 rfl rfl ?_
    refine gN_getR (d + 48) flX9_19 (fun _ _ _ => rfl) 0 (hD.t) ((by first | exact hD.r1 | (rw [rf_wM, (hF d (by omega)).2]; exact hD.r1))) dX9_undo_19 ?_
    refine g_aload_n 0 dX9_undo_22 rfl rfl ?_
    refine gN_getR (d + 1) flX9_10 (fun _ _ _ => rfl) 0 (hD.t) (hD.r0) dX9_undo_23 ?_
    refine gm_callV _ _ _ (cn_X2_restore g (0, 0) (m := m) (H := d + 48) (S := d + 1) (B := B) (c := c) (k := k) hD.h hV9 hD.s rfl (by omega)) ⟨rfl, rfl⟩ (ok_X2_restore _) mlX9_173 in_X2_restore se_X2_restore 2 0 (hD.h.t) rfl rfl rfl ⟨Nat.le_of_ble_eq_true rfl, Nat.le_of_ble_eq_true rfl⟩ (by exact Nat.le_of_ble_eq_true rfl) ⟨Nat.zero_le _, Nat.zero_le _⟩ dX9_undo_26 rfl (fun I R hP => ?_)
    obtain ⟨hF, hH2, hV2, hS2, hR2, hz2⟩ := hP
    obtain ⟨⟨hq6, hq7, hq8, hq9⟩, hq10⟩ := id hV2
    refine g_aload_n 0 dX9_undo_29 rfl rfl ?_
    refine gN_getR (d + 48) flX9_19 (fun _ _ _ => rfl) 0 (hD.t) ((by first | exact hD.r1 | (rw [rf_wM, (hF d (by omega)).2]; exact hD.r1))) dX9_undo_30 ?_
    refine gN_getI flX9_172 rfl 0 (hD.h.t) dX9_undo_33 ?_
    refine g_ei (nI (k)) (hq8) ?_
    refine g_iret rfl dX9_undo_36 ⟨Nat.zero_le _, Nat.zero_le _⟩ ?_
    refine ⟨⟨rfl, Hd.fb (Hd.rfl' m d) hF (by omega) (by omega), ⟨⟨⟨hD.t, ?_, ?_, ?_⟩, hD.tb, ?_, hD.tc⟩, hS2, hH2⟩, hR2, ⟨fst, hV2⟩, ?_, hk6, fun e he => ?_⟩, hz2⟩
    · rw [rf_wM, (hF d (by omega)).2]; exact hD.r0
    · rw [rf_wM, (hF d (by omega)).2]; exact hD.r1
    · rw [rf_wM, (hF d (by omega)).2]; exact hD.r2
    · rw [rf_wM, (hF (d + 332) (by omega)).2]; exact hD.rb
    · rw [im_wM, (hF (d + 332) (by omega)).1]; exact hl
    · rw [im_wM, (hF (d + 333) (by omega)).1]; exact hf e he
  · refine g_aload_n 0 dX9_undo_0 rfl rfl ?_
    refine gN_getR (d + 48) flX9_19 (fun _ _ _ => rfl) 0 (hD.t) ((by first | exact hD.r1 | (rw [rf_wM, (hF d (by omega)).2]; exact hD.r1))) dX9_undo_1 ?_
    refine gN_getI flX9_172 rfl 0 (hD.h.t) dX9_undo_4 ?_
    refine g_ei (nI (k + 1)) (hq3) ?_
    refine gN_if_le 14 dX9_undo_7 (by decide) (by first | omega | exact b01_lt _) (fun h_7 => ?_) (fun h_7 => ?_)
    · refine gN_iconst 0 dX9_undo_14 (by decide) ?_
      exact g_ei (nI (b01 (0 < k + 1))) (congrArg nI (show 0 = b01 (0 < k + 1) from by first | exact (b01_t h_7).symm | exact (b01_f h_7).symm | exact (b01_t (by omega)).symm | exact (b01_f (by omega)).symm)) K_15
    · refine gN_iconst 1 dX9_undo_10 (by decide) ?_
      refine g_goto 15 dX9_undo_11 (by decide) ?_
      exact g_ei (nI (b01 (0 < k + 1))) (congrArg nI (show 1 = b01 (0 < k + 1) from by first | exact (b01_t h_7).symm | exact (b01_f h_7).symm | exact (b01_t (by omega)).symm | exact (b01_f (by omega)).symm)) K_15
