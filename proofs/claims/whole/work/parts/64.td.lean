/-! THE CLASS: delivering, revising -/
/-- delivered, ahead of the remembering -/
def dlY (z : Nat → Int32) (s t b : Nat) (v : Int32) : Nat → Int32 :=
  u1 (u1 (u1 (u1 (u1 (u1 (u1 z (79 + 22 * s + 1) (nI 2)) (79 + 22 * s + 5) v) (79 + 22 * s + 9) (z (4 + 5 * t))) (4 + 5 * t + 1) (z (4 + 5 * t + 1) + v)) (4 + 5 * t + 2) (z (4 + 5 * t + 2) + z (79 + 22 * s))) (64 + 3 * b + 1) (z (64 + 3 * b + 1) + z (79 + 22 * s))) (64 + 3 * b + 2) (z (64 + 3 * b + 2) + v)
theorem dlZ_Y (z : Nat → Int32) {s t b : Nat} (v : Int32) (ht : t < 4) (hb : b < 5) : dlZ z s t b v = rmZ (dlY z s t b v) s := by
  unfold dlZ dlY
  simp (disch := omega) only [u1_n, u1_s]
def rvY (z : Nat → Int32) (s t o : Nat) (c v : Int32) : Nat → Int32 :=
  u1 (u1 (u1 (u1 (u1 (u1 (u1 (u1 z (4 + 5 * t + 1) (z (4 + 5 * t + 1) + z (79 + 22 * s) * z (4 + 5 * t) * z 2 / nI 100)) (4 + 5 * t + 3) (z (4 + 5 * t + 3) + c)) (4 + 5 * o + 1) (z (4 + 5 * o + 1) - v)) (4 + 5 * o + 4) (z (4 + 5 * o + 4) + c)) (79 + 22 * s + 5) (z (79 + 22 * s + 5) - v)) (79 + 22 * s + 1) (nI 3)) (79 + 22 * s + 7) (nI t)) (79 + 22 * s + 8) c
theorem rvZ_Y (z : Nat → Int32) {s t o : Nat} (c v : Int32) (ht : t < 4) (ho : o < 4) (hto : t ≠ o) : rvZ z s t o c v = rvY z s t o c v := by
  unfold rvZ rvY
  simp (disch := omega) only [u1_n, u1_s]
set_option maxRecDepth 100000 in
theorem cn_X6_takeDelivery (g : Gp) (cs : Nat × Nat) {m : Mm} {S B c : Nat} {z : Nat → Int32} (hS : StT m S) (hR : Rp m B S z) (hz : ZOk c z) (hSB : S + 47 ≤ B) {s : Nat} (hs : s < nv (z 0)) {t b : Nat} (h1 : z (79 + 22 * s + 1) = nI 1) (ht : z (79 + 22 * s + 2) = nI t) (ht4 : t < 4) (hb : z (79 + 22 * s + 3) = nI b) (hb5 : b < 5) {v : Int32} (hv : v = payV z (79 + 22 * s) t (z (79 + 22 * s + 4))) : Mn g (MX6_takeDelivery cs) [.ref S, .ref (S + 37 + s)] m none (fun I R => FrB m S (S + 47) I R ∧ StT (wM m I R) S ∧ Rp (wM m I R) B S (dlZ z s t b v) ∧ I (S + 37 + s) 5 = v) := by
  have hz0 := hz.n0.hi
  have hz1 := hz.n1.hi
  obtain ⟨q, hq1, hq2⟩ := hR.SR hs
  have hq := hq2.2.2
  have hne : ¬ z (79 + 22 * s + 1) = 0 := by rw [h1]; decide
  have hA2 : im m (S + 37 + s) 2 = z (79 + 22 * s + 2) := (hR.S2 hs).trans (opn_t hne)
  have hA3 : im m (S + 37 + s) 3 = z (79 + 22 * s + 3) := (hR.S3 hs).trans (opn_t hne)
  have hA4 : im m (S + 37 + s) 4 = z (79 + 22 * s + 4) := (hR.S4 hs).trans (opn_t hne)
  refine Cn.of pn_X6 (Nat.le_of_ble_eq_true rfl) rfl ?_
  refine g_aload_n 0 dX6_takeDelivery_0 rfl rfl ?_
  refine gN_getR (S + 2) flX6_17 (fun _ _ _ => rfl) 0 (hS.t) (hS.r1) dX6_takeDelivery_1 ?_
  refine g_aload_n 1 dX6_takeDelivery_4 rfl rfl ?_
  refine gN_getI flX6_107 rfl 0 (hS.tS (by omega)) dX6_takeDelivery_5 ?_
  refine g_ei (nI (t)) (hA2.trans ht) ?_
  refine gN_aald 17 4 (S + 12 + t) (hS.t2) (by decide) (by first | omega | exact b01_lt _) (by first | omega | exact b01_lt _) (hS.rT (by omega)) dX6_takeDelivery_8 ?_
  refine g_astore_n 2 [(2, .ref (S + 12 + t)), (0, .ref (S)), (1, .ref (S + 37 + s))] dX6_takeDelivery_9 rfl (Nat.le_of_ble_eq_true rfl) rfl ?_
  refine g_aload_n 0 dX6_takeDelivery_10 rfl rfl ?_
  refine gN_getR (S + 3) flX6_23 (fun _ _ _ => rfl) 0 (hS.t) (hS.r2) dX6_takeDelivery_11 ?_
  refine g_aload_n 1 dX6_takeDelivery_14 rfl rfl ?_
  refine gN_getI flX6_100 rfl 0 (hS.tS (by omega)) dX6_takeDelivery_15 ?_
  refine g_ei (nI (b)) (hA3.trans hb) ?_
  refine gN_aald 12 5 (S + 16 + b) (hS.t3) (by decide) (by first | omega | exact b01_lt _) (by first | omega | exact b01_lt _) (hS.rB (by omega)) dX6_takeDelivery_18 ?_
  refine g_astore_n 3 [(3, .ref (S + 16 + b)), (2, .ref (S + 12 + t)), (0, .ref (S)), (1, .ref (S + 37 + s))] dX6_takeDelivery_19 rfl (Nat.le_of_ble_eq_true rfl) rfl ?_
  refine g_aload_n 1 dX6_takeDelivery_20 rfl rfl ?_
  refine gN_getR (q) flX6_88 (fun _ _ _ => rfl) 0 (hS.tS (by omega)) (hq1) dX6_takeDelivery_21 ?_
  refine gN_getI flX6_110 rfl 0 (hq.t) dX6_takeDelivery_24 ?_
  refine g_eI (z (79 + 22 * s)) (by first | exact (hq.l.trans (hz.row hs).1.e.symm) | (simp (disch := omega) only [im_wM, im_sI, u2_n, u2_s, u1_n, u1_s]; exact (hq.l.trans (hz.row hs).1.e.symm))) ?_
  refine g_istore 4 [(4, .int (z (79 + 22 * s))), (3, .ref (S + 16 + b)), (2, .ref (S + 12 + t)), (0, .ref (S)), (1, .ref (S + 37 + s))] dX6_takeDelivery_27 (Nat.le_of_ble_eq_true rfl) rfl ?_
  refine g_aload_n 1 dX6_takeDelivery_29 rfl rfl ?_
  refine gN_iconst 2 dX6_takeDelivery_30 (by decide) ?_
  refine gN_putI fwX6_113 rfl 0 (hS.tS (by omega)) dX6_takeDelivery_31 ?_
  refine g_aload_n 1 dX6_takeDelivery_34 rfl rfl ?_
  refine g_aload_n 2 dX6_takeDelivery_35 rfl rfl ?_
  refine gN_getI flX6_116 rfl 0 (hS.tT (by omega)) dX6_takeDelivery_36 ?_
  refine g_eI (z (4 + 5 * t)) (by first | exact hR.T0 (by omega) | (simp (disch := omega) only [im_wM, im_sI, u2_n, u2_s, u1_n, u1_s]; exact hR.T0 (by omega))) ?_
  refine gN_putI fwX6_119 rfl 0 (hS.tS (by omega)) dX6_takeDelivery_39 ?_
  refine g_aload_n 1 dX6_takeDelivery_42 rfl rfl ?_
  refine g_iload 4 dX6_takeDelivery_43 rfl ?_
  refine g_aload_n 2 dX6_takeDelivery_45 rfl rfl ?_
  refine gN_getI flX6_116 rfl 0 (hS.tT (by omega)) dX6_takeDelivery_46 ?_
  refine g_eI (z (4 + 5 * t)) (by first | exact hR.T0 (by omega) | (simp (disch := omega) only [im_wM, im_sI, u2_n, u2_s, u1_n, u1_s]; exact hR.T0 (by omega))) ?_
  refine g_imul dX6_takeDelivery_49 ?_
  refine g_aload_n 1 dX6_takeDelivery_50 rfl rfl ?_
  refine gN_getI flX6_106 rfl 0 (hS.tS (by omega)) dX6_takeDelivery_51 ?_
  refine g_eI (z (79 + 22 * s + 4)) (by first | exact hA4 | (simp (disch := omega) only [im_wM, im_sI, u2_n, u2_s, u1_n, u1_s]; exact hA4)) ?_
  refine g_imul dX6_takeDelivery_54 ?_
  refine gN_bipush 100 dX6_takeDelivery_55 (by decide) ?_
  refine g_idiv dX6_takeDelivery_57 (by decide) ?_
  refine g_eI v hv.symm ?_
  refine gN_putI fwX6_122 rfl 0 (hS.tS (by omega)) dX6_takeDelivery_58 ?_
  refine g_aload_n 2 dX6_takeDelivery_61 rfl rfl ?_
  refine g_dup dX6_takeDelivery_62 rfl ?_
  refine gN_getI flX6_125 rfl 0 (hS.tT (by omega)) dX6_takeDelivery_63 ?_
  refine g_eI (z (4 + 5 * t + 1)) (by first | exact hR.T1 (by omega) | (simp (disch := omega) only [im_wM, im_sI, u2_n, u2_s, u1_n, u1_s]; exact hR.T1 (by omega))) ?_
  refine g_aload_n 1 dX6_takeDelivery_66 rfl rfl ?_
  refine gN_getI flX6_122 rfl 0 (hS.tS (by omega)) dX6_takeDelivery_67 ?_
  refine g_eI v (by simp (disch := omega) only [im_wM, im_sI, u2_n, u2_s, u1_n, u1_s]) ?_
  refine g_iadd dX6_takeDelivery_70 ?_
  refine gN_putI fwX6_125 rfl 0 (hS.tT (by omega)) dX6_takeDelivery_71 ?_
  refine g_aload_n 2 dX6_takeDelivery_74 rfl rfl ?_
  refine g_dup dX6_takeDelivery_75 rfl ?_
  refine gN_getI flX6_128 rfl 0 (hS.tT (by omega)) dX6_takeDelivery_76 ?_
  refine g_eI (z (4 + 5 * t + 2)) (by first | exact hR.T2 (by omega) | (simp (disch := omega) only [im_wM, im_sI, u2_n, u2_s, u1_n, u1_s]; exact hR.T2 (by omega))) ?_
  refine g_iload 4 dX6_takeDelivery_79 rfl ?_
  refine g_iadd dX6_takeDelivery_81 ?_
  refine gN_putI fwX6_128 rfl 0 (hS.tT (by omega)) dX6_takeDelivery_82 ?_
  refine g_aload_n 3 dX6_takeDelivery_85 rfl rfl ?_
  refine g_dup dX6_takeDelivery_86 rfl ?_
  refine gN_getI flX6_131 rfl 0 (hS.tB (by omega)) dX6_takeDelivery_87 ?_
  refine g_eI (z (64 + 3 * b + 1)) (by first | exact hR.B1 (by omega) | (simp (disch := omega) only [im_wM, im_sI, u2_n, u2_s, u1_n, u1_s]; exact hR.B1 (by omega))) ?_
  refine g_iload 4 dX6_takeDelivery_90 rfl ?_
  refine g_iadd dX6_takeDelivery_92 ?_
  refine gN_putI fwX6_131 rfl 0 (hS.tB (by omega)) dX6_takeDelivery_93 ?_
  refine g_aload_n 3 dX6_takeDelivery_96 rfl rfl ?_
  refine g_dup dX6_takeDelivery_97 rfl ?_
  refine gN_getI flX6_134 rfl 0 (hS.tB (by omega)) dX6_takeDelivery_98 ?_
  refine g_eI (z (64 + 3 * b + 2)) (by first | exact hR.B2 (by omega) | (simp (disch := omega) only [im_wM, im_sI, u2_n, u2_s, u1_n, u1_s]; exact hR.B2 (by omega))) ?_
  refine g_aload_n 1 dX6_takeDelivery_101 rfl rfl ?_
  refine gN_getI flX6_122 rfl 0 (hS.tS (by omega)) dX6_takeDelivery_102 ?_
  refine g_eI v (by simp (disch := omega) only [im_wM, im_sI, u2_n, u2_s, u1_n, u1_s]) ?_
  refine g_iadd dX6_takeDelivery_105 ?_
  refine gN_putI fwX6_134 rfl 0 (hS.tB (by omega)) dX6_takeDelivery_106 ?_
  refine g_aload_n 0 dX6_takeDelivery_109 rfl rfl ?_
  refine gN_getR (S + 10) flX6_53 (fun _ _ _ => rfl) 0 (hS.t) (hS.r5) dX6_takeDelivery_110 ?_
  refine g_aload_n 1 dX6_takeDelivery_113 rfl rfl ?_
  refine gN_getR (q) flX6_88 (fun _ _ _ => rfl) 0 (hS.tS (by omega)) (hq1) dX6_takeDelivery_114 ?_
  generalize hm7 : wM m (u2 (u2 (u2 (u2 (u2 (u2 (u2 (im m) (S + 37 + s) 1 (nI 2)) (S + 37 + s) 9 (z (4 + 5 * t))) (S + 37 + s) 5 v) (S + 12 + t) 1 (z (4 + 5 * t + 1) + v)) (S + 12 + t) 2 (z (4 + 5 * t + 2) + z (79 + 22 * s))) (S + 16 + b) 1 (z (64 + 3 * b + 1) + z (79 + 22 * s))) (S + 16 + b) 2 (z (64 + 3 * b + 2) + v)) (rf m) = m7
  have e7 : m7 = wM m (u2 (u2 (u2 (u2 (u2 (u2 (u2 (im m) (S + 37 + s) 1 (nI 2)) (S + 37 + s) 9 (z (4 + 5 * t))) (S + 37 + s) 5 v) (S + 12 + t) 1 (z (4 + 5 * t + 1) + v)) (S + 12 + t) 2 (z (4 + 5 * t + 2) + z (79 + 22 * s))) (S + 16 + b) 1 (z (64 + 3 * b + 1) + z (79 + 22 * s))) (S + 16 + b) 2 (z (64 + 3 * b + 2) + v)) (rf m) := hm7.symm
  have hS7 : StT m7 S := by rw [e7]; exact hS
  have hR7 : Rp m7 B S (dlY z s t b v) := by
    rw [e7]
    refine Rp.up hR hz.ln hSB (((((((((FrB.rfl' _ _ _).i _ (by omega) (by omega)).i _ (by omega) (by omega)).i _ (by omega) (by omega)).i _ (by omega) (by omega)).i _ (by omega) (by omega)).i _ (by omega) (by omega)).i _ (by omega) (by omega))) ?_ ?_ ⟨?_, ?_, ?_, ?_⟩ (fun p hp => ?_) (fun p hp => ?_) (fun p hp => ⟨fun w hw => ?_, ?_⟩) (fun q hq => ?_) (fun q hq => ⟨?_, fun e he => ?_⟩) (fun j hj => ?_)
    · simp (disch := omega) only [dlY, im_wM, im_sI, u2_n, u2_s, u1_n, u1_s]
    · simp (disch := omega) only [dlY, im_wM, im_sI, u2_n, u2_s, u1_n, u1_s]
    · simp (disch := omega) only [dlY, im_wM, im_sI, u2_n, u2_s, u1_n, u1_s]
      first | done | rfl | exact hR.c0
    · simp (disch := omega) only [dlY, im_wM, im_sI, u2_n, u2_s, u1_n, u1_s]
      first | done | rfl | exact hR.c1
    · simp (disch := omega) only [dlY, im_wM, im_sI, u2_n, u2_s, u1_n, u1_s]
      first | done | rfl | exact hR.c2
    · simp (disch := omega) only [dlY, im_wM, im_sI, u2_n, u2_s, u1_n, u1_s]
      first | done | rfl | exact hR.c3
    · skip
      by_cases e1 : p = t
      · subst e1
        refine ⟨?_, ?_, ?_, ?_, ?_⟩
        all_goals (try simp (disch := omega) only [dlY, im_wM, im_sI, u2_n, u2_s, u1_n, u1_s])
        all_goals first | done | rfl | exact hR.T0 (by omega) | exact hR.T1 (by omega) | exact hR.T2 (by omega) | exact hR.T3 (by omega) | exact hR.T4 (by omega)
      · skip
        refine ⟨?_, ?_, ?_, ?_, ?_⟩
        all_goals (try simp (disch := omega) only [dlY, im_wM, im_sI, u2_n, u2_s, u1_n, u1_s])
        all_goals first | done | rfl | exact hR.T0 (by omega) | exact hR.T1 (by omega) | exact hR.T2 (by omega) | exact hR.T3 (by omega) | exact hR.T4 (by omega)
    · skip
      by_cases e1 : p = b
      · subst e1
        refine ⟨?_, ?_, ?_⟩
        all_goals (try simp (disch := omega) only [dlY, im_wM, im_sI, u2_n, u2_s, u1_n, u1_s])
        all_goals first | done | rfl | exact hR.B0 (by omega) | exact hR.B1 (by omega) | exact hR.B2 (by omega)
      · skip
        refine ⟨?_, ?_, ?_⟩
        all_goals (try simp (disch := omega) only [dlY, im_wM, im_sI, u2_n, u2_s, u1_n, u1_s])
        all_goals first | done | rfl | exact hR.B0 (by omega) | exact hR.B1 (by omega) | exact hR.B2 (by omega)
    · try simp (disch := omega) only [dlY, im_wM, im_sI, u2_n, u2_s, u1_n, u1_s]
      exact hR.W hp hw
    · try simp (disch := omega) only [dlY, im_wM, im_sI, u2_n, u2_s, u1_n, u1_s]
      exact hR.W1 hp
    · skip
      by_cases e1 : q = s
      · subst e1
        unfold SgI
        refine ⟨?_, ?_, ?_, ?_, ?_, ?_, ?_, ?_, fun h9 => ?_⟩
        all_goals (try simp (disch := omega) only [dlY, im_wM, im_sI, u2_n, u2_s, u1_n, u1_s])
        all_goals (try simp (disch := omega) only [dlY, im_wM, im_sI, u2_n, u2_s, u1_n, u1_s] at h9)
        all_goals first | done | rfl | exact hR.S1 hs | (rw [opn_t (by decide)]; first | exact hA2 | exact hA3 | exact hA4) | exact hR.S6 hs | exact hR.S7 hs | exact hR.S8 hs | (exfalso; exact absurd h9 (by decide))
      · have h9 := hR.Sg hq
        unfold SgI at h9 ⊢
        simp (disch := omega) only [dlY, im_wM, im_sI, u2_n, u2_s, u1_n, u1_s] at h9 ⊢
        exact h9
    · simp (disch := omega) only [dlY, im_wM, im_sI, u2_n, u2_s, u1_n, u1_s]
    · simp (disch := omega) only [dlY, im_wM, im_sI, u2_n, u2_s, u1_n, u1_s]
    · simp (disch := omega) only [dlY, im_wM, im_sI, u2_n, u2_s, u1_n, u1_s]
  have d0 : dlY z s t b v 0 = z 0 := by simp (disch := omega) only [dlY, im_wM, im_sI, u2_n, u2_s, u1_n, u1_s]
  have d1 : dlY z s t b v 1 = z 1 := by simp (disch := omega) only [dlY, im_wM, im_sI, u2_n, u2_s, u1_n, u1_s]
  have dx : ∀ i, i < 10 → dlY z s t b v (79 + 22 * i) = z (79 + 22 * i) := fun i hi => by simp (disch := omega) only [dlY, im_wM, im_sI, u2_n, u2_s, u1_n, u1_s]
  have dw : ∀ e, e < 12 → dlY z s t b v (79 + 22 * s + 10 + e) = z (79 + 22 * s + 10 + e) := fun e he => by simp (disch := omega) only [dlY, im_wM, im_sI, u2_n, u2_s, u1_n, u1_s]
  have dm : ∀ j, 299 ≤ j → dlY z s t b v j = z j := fun j hj => by simp (disch := omega) only [dlY, im_wM, im_sI, u2_n, u2_s, u1_n, u1_s]
  have hq7 : RowA m7 B q (fun e => z (79 + 22 * s + 10 + e)) (nv (z (79 + 22 * s))) := by rw [e7]; exact (((((((((FrB.rfl' _ _ _).i _ (by omega) (by omega)).i _ (by omega) (by omega)).i _ (by omega) (by omega)).i _ (by omega) (by omega)).i _ (by omega) (by omega)).i _ (by omega) (by omega)).i _ (by omega) (by omega)) : FrB m S (S + 47) (u2 (u2 (u2 (u2 (u2 (u2 (u2 (im m) (S + 37 + s) 1 (nI 2)) (S + 37 + s) 9 (z (4 + 5 * t))) (S + 37 + s) 5 v) (S + 12 + t) 1 (z (4 + 5 * t + 1) + v)) (S + 12 + t) 2 (z (4 + 5 * t + 2) + z (79 + 22 * s))) (S + 16 + b) 1 (z (64 + 3 * b + 1) + z (79 + 22 * s))) (S + 16 + b) 2 (z (64 + 3 * b + 2) + v)) (rf m)).row hSB hq2
  refine g_mem (m1 := m7) e7.symm ?_
  refine gm_callV _ _ _ (cn_X3_remember g (0, 0) (m := m7) (B := B) hS7 hR7.c1 (by rw [d1]; exact hz.n1) hR7.2.2.2.2.2 hq7.2.2.t) ⟨rfl, rfl⟩ (ok_X3_remember _) mlX6_137 in_X3_remember se_X3_remember 3 0 (hS7.t10) rfl rfl rfl ⟨Nat.le_of_ble_eq_true rfl, Nat.le_of_ble_eq_true rfl⟩ (by exact Nat.le_of_ble_eq_true rfl) ⟨Nat.zero_le _, Nat.zero_le _⟩ dX6_takeDelivery_117 rfl (fun I R hP => ?_)
  obtain ⟨p1, p2, p3, p4⟩ := hP
  refine g_vret rfl dX6_takeDelivery_120 ⟨Nat.zero_le _, Nat.zero_le _⟩ ?_
  refine ⟨rfl, I, R, by rw [e7]; rfl, fun x hx => ⟨?_, ?_⟩, ?_, ?_, ?_⟩
  · rw [p1, u2_o _ _ _ _ (by omega), e7]
    exact (((((((((FrB.rfl' _ _ _).i _ (by omega) (by omega)).i _ (by omega) (by omega)).i _ (by omega) (by omega)).i _ (by omega) (by omega)).i _ (by omega) (by omega)).i _ (by omega) (by omega)).i _ (by omega) (by omega)) : FrB m S (S + 47) (u2 (u2 (u2 (u2 (u2 (u2 (u2 (im m) (S + 37 + s) 1 (nI 2)) (S + 37 + s) 9 (z (4 + 5 * t))) (S + 37 + s) 5 v) (S + 12 + t) 1 (z (4 + 5 * t + 1) + v)) (S + 12 + t) 2 (z (4 + 5 * t + 2) + z (79 + 22 * s))) (S + 16 + b) 1 (z (64 + 3 * b + 1) + z (79 + 22 * s))) (S + 16 + b) 2 (z (64 + 3 * b + 2) + v)) (rf m)) x hx |>.1
  · rw [p2 x (by omega), e7]; rfl
  · exact hS.w (fun x k1 k2 => by rw [p2 x k1, e7]; rfl)
  · rw [dlZ_Y z v ht4 hb5]
    have h8 := Rp.rm hR7 ⟨by rw [d0]; exact hz0, by rw [d1]; exact hz1, fun i hi => by rw [d0] at hi; rw [dx i (by omega)]; exact (hz.row hi).1.hi, fun i hi => by rw [d1] at hi; rw [dm _ (by omega)]; exact (hz.mem hi).1.hi⟩ hSB (by rw [d0]; exact hs) (hq7.cg (by rw [dx s (by omega)]) (fun e he => dw e (by have := (hz.row hs).1.hi; omega))) p1 p2 p3 p4
    rw [e7] at h8
    exact h8
  · rw [p1, u2_o _ _ _ _ (by omega), e7, im_wM]
    simp (disch := omega) only [im_wM, im_sI, u2_n, u2_s, u1_n, u1_s]
