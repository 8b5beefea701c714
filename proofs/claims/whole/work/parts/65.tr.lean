theorem mn_ls {x y : Int32} : (if x ≤ y then x else y) = if x < y then x else y := by
  by_cases h : x < y
  · rw [if_pos h, if_pos (Int32.le_of_lt h)]
  · rw [if_neg h]
    by_cases h2 : x ≤ y
    · rw [if_pos h2]
      rw [lt_tI] at h; rw [le_tI] at h2
      exact Int32.toInt_inj.mp (by omega)
    · rw [if_neg h2]
set_option maxRecDepth 100000 in
theorem cn_X6_takeRevision (g : Gp) (cs : Nat × Nat) {m : Mm} {S B c : Nat} {z : Nat → Int32} (hS : StT m S) (hR : Rp m B S z) (hz : ZOk c z) (hSB : S + 47 ≤ B) {s : Nat} (hs : s < nv (z 0)) {t o : Nat} (h1 : z (79 + 22 * s + 1) = nI 2) (ht : z (79 + 22 * s + 2) = nI o) (ho4 : o < 4) (ht4 : t < 4) (hto : t ≠ o) (c0 : Int32) {v : Int32} (hv : v = lsV z (79 + 22 * s) c0) : Mn g (MX6_takeRevision cs) [.ref S, .ref (S + 37 + s), .int (nI t), .int c0] m none (fun I R => FrB m S (S + 47) I R ∧ StT (wM m I R) S ∧ Rp (wM m I R) B S (rvZ z s t o c0 v) ∧ I (S + 37 + s) 5 = z (79 + 22 * s + 5) - v) := by
  have hz0 := hz.n0.hi
  have hz1 := hz.n1.hi
  obtain ⟨q, hq1, hq2⟩ := hR.SR hs
  have hq := hq2.2.2
  have hne : ¬ z (79 + 22 * s + 1) = 0 := by rw [h1]; decide
  have hA2 : im m (S + 37 + s) 2 = z (79 + 22 * s + 2) := (hR.S2 hs).trans (opn_t hne)
  have hA3 : im m (S + 37 + s) 3 = z (79 + 22 * s + 3) := (hR.S3 hs).trans (opn_t hne)
  have hA4 : im m (S + 37 + s) 4 = z (79 + 22 * s + 4) := (hR.S4 hs).trans (opn_t hne)
  refine Cn.of pn_X6 (Nat.le_of_ble_eq_true rfl) rfl ?_
  refine g_aload_n 0 dX6_takeRevision_0 rfl rfl ?_
  refine gN_getR (S + 2) flX6_17 (fun _ _ _ => rfl) 0 (hS.t) (hS.r1) dX6_takeRevision_1 ?_
  refine g_aload_n 1 dX6_takeRevision_4 rfl rfl ?_
  refine gN_getI flX6_107 rfl 0 (hS.tS (by omega)) dX6_takeRevision_5 ?_
  refine g_ei (nI (o)) (hA2.trans ht) ?_
  refine gN_aald 17 4 (S + 12 + o) (hS.t2) (by decide) (by first | omega | exact b01_lt _) (by first | omega | exact b01_lt _) (hS.rT (by omega)) dX6_takeRevision_8 ?_
  refine g_astore 4 [(4, .ref (S + 12 + o)), (0, .ref (S)), (1, .ref (S + 37 + s)), (2, .int (nI (t))), (3, .int (c0))] dX6_takeRevision_9 (Nat.le_of_ble_eq_true rfl) rfl ?_
  refine g_aload_n 0 dX6_takeRevision_11 rfl rfl ?_
  refine gN_getR (S + 2) flX6_17 (fun _ _ _ => rfl) 0 (hS.t) (hS.r1) dX6_takeRevision_12 ?_
  refine g_iload_n 2 dX6_takeRevision_15 rfl rfl ?_
  refine gN_aald 17 4 (S + 12 + t) (hS.t2) (by decide) (by first | omega | exact b01_lt _) (by first | omega | exact b01_lt _) (hS.rT (by omega)) dX6_takeRevision_16 ?_
  refine g_astore 5 [(5, .ref (S + 12 + t)), (4, .ref (S + 12 + o)), (0, .ref (S)), (1, .ref (S + 37 + s)), (2, .int (nI (t))), (3, .int (c0))] dX6_takeRevision_17 (Nat.le_of_ble_eq_true rfl) rfl ?_
  refine g_aload_n 1 dX6_takeRevision_19 rfl rfl ?_
  refine gN_getR (q) flX6_88 (fun _ _ _ => rfl) 0 (hS.tS (by omega)) (hq1) dX6_takeRevision_20 ?_
  refine gN_getI flX6_110 rfl 0 (hq.t) dX6_takeRevision_23 ?_
  refine g_eI (z (79 + 22 * s)) (by first | exact (hq.l.trans (hz.row hs).1.e.symm) | (simp (disch := omega) only [im_wM, im_sI, u2_n, u2_s, u1_n, u1_s]; exact (hq.l.trans (hz.row hs).1.e.symm))) ?_
  refine g_aload 5 dX6_takeRevision_26 rfl ?_
  refine gN_getI flX6_116 rfl 0 (hS.tT (by omega)) dX6_takeRevision_28 ?_
  refine g_eI (z (4 + 5 * t)) (by first | exact (hR.T0 (by omega)) | (simp (disch := omega) only [im_wM, im_sI, u2_n, u2_s, u1_n, u1_s]; exact (hR.T0 (by omega)))) ?_
  refine g_imul dX6_takeRevision_31 ?_
  refine g_aload_n 0 dX6_takeRevision_32 rfl rfl ?_
  refine gN_getR (S + 1) flX6_9 (fun _ _ _ => rfl) 0 (hS.t) (hS.r0) dX6_takeRevision_33 ?_
  refine gN_iconst 0 dX6_takeRevision_36 (by decide) ?_
  refine gN_iald 2 (hS.t1) (by first | omega | exact b01_lt _) (by first | omega | exact b01_lt _) dX6_takeRevision_37 ?_
  refine g_eI (z 2) (by first | exact (hR.c2) | (simp (disch := omega) only [im_wM, im_sI, u2_n, u2_s, u1_n, u1_s]; exact (hR.c2))) ?_
  refine g_imul dX6_takeRevision_38 ?_
  refine gN_bipush 100 dX6_takeRevision_39 (by decide) ?_
  refine g_idiv dX6_takeRevision_41 (by decide) ?_
  refine g_istore 6 [(6, .int ((((z (79 + 22 * s)) * (z (4 + 5 * t))) * (z 2)) / nI (100))), (5, .ref (S + 12 + t)), (4, .ref (S + 12 + o)), (0, .ref (S)), (1, .ref (S + 37 + s)), (2, .int (nI (t))), (3, .int (c0))] dX6_takeRevision_42 (Nat.le_of_ble_eq_true rfl) rfl ?_
  refine g_iload_n 3 dX6_takeRevision_44 rfl rfl ?_
  refine g_aload_n 1 dX6_takeRevision_45 rfl rfl ?_
  refine gN_getI flX6_119 rfl 0 (hS.tS (by omega)) dX6_takeRevision_46 ?_
  refine g_eI (z (79 + 22 * s + 9)) (by first | exact (hR.S9 hs h1) | (simp (disch := omega) only [im_wM, im_sI, u2_n, u2_s, u1_n, u1_s]; exact (hR.S9 hs h1))) ?_
  refine g_imul dX6_takeRevision_49 ?_
  refine g_aload_n 0 dX6_takeRevision_50 rfl rfl ?_
  refine gN_getR (S + 1) flX6_9 (fun _ _ _ => rfl) 0 (hS.t) (hS.r0) dX6_takeRevision_51 ?_
  refine gN_iconst 1 dX6_takeRevision_54 (by decide) ?_
  refine gN_iald 2 (hS.t1) (by first | omega | exact b01_lt _) (by first | omega | exact b01_lt _) dX6_takeRevision_55 ?_
  refine g_eI (z 3) (by first | exact (hR.c3) | (simp (disch := omega) only [im_wM, im_sI, u2_n, u2_s, u1_n, u1_s]; exact (hR.c3))) ?_
  refine g_imul dX6_takeRevision_56 ?_
  refine gN_bipush 100 dX6_takeRevision_57 (by decide) ?_
  refine g_idiv dX6_takeRevision_59 (by decide) ?_
  refine g_istore 7 [(7, .int (((c0 * (z (79 + 22 * s + 9))) * (z 3)) / nI (100))), (6, .int ((((z (79 + 22 * s)) * (z (4 + 5 * t))) * (z 2)) / nI (100))), (5, .ref (S + 12 + t)), (4, .ref (S + 12 + o)), (0, .ref (S)), (1, .ref (S + 37 + s)), (2, .int (nI (t))), (3, .int (c0))] dX6_takeRevision_60 (Nat.le_of_ble_eq_true rfl) rfl ?_
  refine g_iload 7 dX6_takeRevision_62 rfl ?_
  refine g_aload_n 1 dX6_takeRevision_64 rfl rfl ?_
  refine gN_getI flX6_122 rfl 0 (hS.tS (by omega)) dX6_takeRevision_65 ?_
  refine g_eI (z (79 + 22 * s + 5)) (by first | exact (hR.S5 (by omega)) | (simp (disch := omega) only [im_wM, im_sI, u2_n, u2_s, u1_n, u1_s]; exact (hR.S5 (by omega)))) ?_
  refine gd_callS _ _ _ _ (cn_J9_min_7cf53I g (0, 0)) ⟨rfl, rfl⟩ (ok_J9_min_7cf53 _) mlX6_140 st_J9_min_7cf53 rfl ⟨Nat.le_of_ble_eq_true rfl, Nat.le_of_ble_eq_true rfl⟩ (by exact Nat.le_of_ble_eq_true rfl) ⟨Nat.zero_le _, Nat.zero_le _⟩ dX6_takeRevision_68 rfl ?_
  refine g_eI v (mn_ls.trans hv.symm) ?_
  refine g_istore 8 [(8, .int (v)), (7, .int (((c0 * (z (79 + 22 * s + 9))) * (z 3)) / nI (100))), (6, .int ((((z (79 + 22 * s)) * (z (4 + 5 * t))) * (z 2)) / nI (100))), (5, .ref (S + 12 + t)), (4, .ref (S + 12 + o)), (0, .ref (S)), (1, .ref (S + 37 + s)), (2, .int (nI (t))), (3, .int (c0))] dX6_takeRevision_71 (Nat.le_of_ble_eq_true rfl) rfl ?_
  refine g_aload_n 1 dX6_takeRevision_73 rfl rfl ?_
  refine gN_iconst 3 dX6_takeRevision_74 (by decide) ?_
  refine gN_putI fwX6_113 rfl 0 (hS.tS (by omega)) dX6_takeRevision_75 ?_
  refine g_aload_n 1 dX6_takeRevision_78 rfl rfl ?_
  refine g_iload_n 2 dX6_takeRevision_79 rfl rfl ?_
  refine gN_putI fwX6_146 rfl 0 (hS.tS (by omega)) dX6_takeRevision_80 ?_
  refine g_aload_n 1 dX6_takeRevision_83 rfl rfl ?_
  refine g_iload_n 3 dX6_takeRevision_84 rfl rfl ?_
  refine gN_putI fwX6_149 rfl 0 (hS.tS (by omega)) dX6_takeRevision_85 ?_
  refine g_aload_n 1 dX6_takeRevision_88 rfl rfl ?_
  refine g_dup dX6_takeRevision_89 rfl ?_
  refine gN_getI flX6_122 rfl 0 (hS.tS (by omega)) dX6_takeRevision_90 ?_
  refine g_eI (z (79 + 22 * s + 5)) (by first | exact (hR.S5 (by omega)) | (simp (disch := omega) only [im_wM, im_sI, u2_n, u2_s, u1_n, u1_s]; exact (hR.S5 (by omega)))) ?_
  refine g_iload 8 dX6_takeRevision_93 rfl ?_
  refine g_isub dX6_takeRevision_95 ?_
  refine gN_putI fwX6_122 rfl 0 (hS.tS (by omega)) dX6_takeRevision_96 ?_
  refine g_aload 4 dX6_takeRevision_99 rfl ?_
  refine g_dup dX6_takeRevision_101 rfl ?_
  refine gN_getI flX6_125 rfl 0 (hS.tT (by omega)) dX6_takeRevision_102 ?_
  refine g_eI (z (4 + 5 * o + 1)) (by first | exact (hR.T1 (by omega)) | (simp (disch := omega) only [im_wM, im_sI, u2_n, u2_s, u1_n, u1_s]; exact (hR.T1 (by omega)))) ?_
  refine g_iload 8 dX6_takeRevision_105 rfl ?_
  refine g_isub dX6_takeRevision_107 ?_
  refine gN_putI fwX6_125 rfl 0 (hS.tT (by omega)) dX6_takeRevision_108 ?_
  refine g_aload 4 dX6_takeRevision_111 rfl ?_
  refine g_dup dX6_takeRevision_113 rfl ?_
  refine gN_getI flX6_152 rfl 0 (hS.tT (by omega)) dX6_takeRevision_114 ?_
  refine g_eI (z (4 + 5 * o + 4)) (by first | exact (hR.T4 (by omega)) | (simp (disch := omega) only [im_wM, im_sI, u2_n, u2_s, u1_n, u1_s]; exact (hR.T4 (by omega)))) ?_
  refine g_iload_n 3 dX6_takeRevision_117 rfl rfl ?_
  refine g_iadd dX6_takeRevision_118 ?_
  refine gN_putI fwX6_152 rfl 0 (hS.tT (by omega)) dX6_takeRevision_119 ?_
  refine g_aload 5 dX6_takeRevision_122 rfl ?_
  refine g_dup dX6_takeRevision_124 rfl ?_
  refine gN_getI flX6_125 rfl 0 (hS.tT (by omega)) dX6_takeRevision_125 ?_
  refine g_eI (z (4 + 5 * t + 1)) (by first | exact (hR.T1 (by omega)) | (simp (disch := omega) only [im_wM, im_sI, u2_n, u2_s, u1_n, u1_s]; exact (hR.T1 (by omega)))) ?_
  refine g_iload 6 dX6_takeRevision_128 rfl ?_
  refine g_iadd dX6_takeRevision_130 ?_
  refine gN_putI fwX6_125 rfl 0 (hS.tT (by omega)) dX6_takeRevision_131 ?_
  refine g_aload 5 dX6_takeRevision_134 rfl ?_
  refine g_dup dX6_takeRevision_136 rfl ?_
  refine gN_getI flX6_155 rfl 0 (hS.tT (by omega)) dX6_takeRevision_137 ?_
  refine g_eI (z (4 + 5 * t + 3)) (by first | exact (hR.T3 (by omega)) | (simp (disch := omega) only [im_wM, im_sI, u2_n, u2_s, u1_n, u1_s]; exact (hR.T3 (by omega)))) ?_
  refine g_iload_n 3 dX6_takeRevision_140 rfl rfl ?_
  refine g_iadd dX6_takeRevision_141 ?_
  refine gN_putI fwX6_155 rfl 0 (hS.tT (by omega)) dX6_takeRevision_142 ?_
  refine g_vret rfl dX6_takeRevision_145 ⟨Nat.zero_le _, Nat.zero_le _⟩ ?_
  refine ⟨rfl, (u2 (u2 (u2 (u2 (u2 (u2 (u2 (u2 (im m) (S + 37 + s) 1 (nI 3)) (S + 37 + s) 7 (nI t)) (S + 37 + s) 8 c0) (S + 37 + s) 5 (z (79 + 22 * s + 5) - v)) (S + 12 + o) 1 (z (4 + 5 * o + 1) - v)) (S + 12 + o) 4 (z (4 + 5 * o + 4) + c0)) (S + 12 + t) 1 (z (4 + 5 * t + 1) + z (79 + 22 * s) * z (4 + 5 * t) * z 2 / nI 100)) (S + 12 + t) 3 (z (4 + 5 * t + 3) + c0)), rf m, rfl, ((((((((((FrB.rfl' _ _ _).i _ (by omega) (by omega)).i _ (by omega) (by omega)).i _ (by omega) (by omega)).i _ (by omega) (by omega)).i _ (by omega) (by omega)).i _ (by omega) (by omega)).i _ (by omega) (by omega)).i _ (by omega) (by omega))), hS, ?_, ?_⟩
  · rw [rvZ_Y z c0 v ht4 ho4 hto]
    refine Rp.up hR hz.ln hSB ((((((((((FrB.rfl' _ _ _).i _ (by omega) (by omega)).i _ (by omega) (by omega)).i _ (by omega) (by omega)).i _ (by omega) (by omega)).i _ (by omega) (by omega)).i _ (by omega) (by omega)).i _ (by omega) (by omega)).i _ (by omega) (by omega))) ?_ ?_ ⟨?_, ?_, ?_, ?_⟩ (fun p hp => ?_) (fun p hp => ?_) (fun p hp => ⟨fun w hw => ?_, ?_⟩) (fun q hq => ?_) (fun q hq => ⟨?_, fun e he => ?_⟩) (fun j hj => ?_)
    · simp (disch := omega) only [rvY, im_wM, im_sI, u2_n, u2_s, u1_n, u1_s]
    · simp (disch := omega) only [rvY, im_wM, im_sI, u2_n, u2_s, u1_n, u1_s]
    · simp (disch := omega) only [rvY, im_wM, im_sI, u2_n, u2_s, u1_n, u1_s]
      first | done | rfl | exact hR.c0
    · simp (disch := omega) only [rvY, im_wM, im_sI, u2_n, u2_s, u1_n, u1_s]
      first | done | rfl | exact hR.c1
    · simp (disch := omega) only [rvY, im_wM, im_sI, u2_n, u2_s, u1_n, u1_s]
      first | done | rfl | exact hR.c2
    · simp (disch := omega) only [rvY, im_wM, im_sI, u2_n, u2_s, u1_n, u1_s]
      first | done | rfl | exact hR.c3
    · skip
      by_cases e2 : p = t
      · subst e2
        refine ⟨?_, ?_, ?_, ?_, ?_⟩
        all_goals (try simp (disch := omega) only [rvY, im_wM, im_sI, u2_n, u2_s, u1_n, u1_s])
        all_goals first | done | rfl | exact hR.T0 (by omega) | exact hR.T1 (by omega) | exact hR.T2 (by omega) | exact hR.T3 (by omega) | exact hR.T4 (by omega)
      · skip
        by_cases e1 : p = o
        · subst e1
          refine ⟨?_, ?_, ?_, ?_, ?_⟩
          all_goals (try simp (disch := omega) only [rvY, im_wM, im_sI, u2_n, u2_s, u1_n, u1_s])
          all_goals first | done | rfl | exact hR.T0 (by omega) | exact hR.T1 (by omega) | exact hR.T2 (by omega) | exact hR.T3 (by omega) | exact hR.T4 (by omega)
        · skip
          refine ⟨?_, ?_, ?_, ?_, ?_⟩
          all_goals (try simp (disch := omega) only [rvY, im_wM, im_sI, u2_n, u2_s, u1_n, u1_s])
          all_goals first | done | rfl | exact hR.T0 (by omega) | exact hR.T1 (by omega) | exact hR.T2 (by omega) | exact hR.T3 (by omega) | exact hR.T4 (by omega)
    · skip
      refine ⟨?_, ?_, ?_⟩
      all_goals (try simp (disch := omega) only [rvY, im_wM, im_sI, u2_n, u2_s, u1_n, u1_s])
      all_goals first | done | rfl | exact hR.B0 (by omega) | exact hR.B1 (by omega) | exact hR.B2 (by omega)
    · try simp (disch := omega) only [rvY, im_wM, im_sI, u2_n, u2_s, u1_n, u1_s]
      exact hR.W hp hw
    · try simp (disch := omega) only [rvY, im_wM, im_sI, u2_n, u2_s, u1_n, u1_s]
      exact hR.W1 hp
    · skip
      by_cases e1 : q = s
      · subst e1
        unfold SgI
        refine ⟨?_, ?_, ?_, ?_, ?_, ?_, ?_, ?_, fun h9 => ?_⟩
        all_goals (try simp (disch := omega) only [rvY, im_wM, im_sI, u2_n, u2_s, u1_n, u1_s])
        all_goals (try simp (disch := omega) only [rvY, im_wM, im_sI, u2_n, u2_s, u1_n, u1_s] at h9)
        all_goals first | done | rfl | exact hR.S1 hs | (rw [opn_t (by decide)]; first | exact hA2 | exact hA3 | exact hA4) | exact hR.S6 hs | exact hR.S7 hs | exact hR.S8 hs | (exfalso; exact absurd h9 (by decide))
      · have h9 := hR.Sg hq
        unfold SgI at h9 ⊢
        simp (disch := omega) only [rvY, im_wM, im_sI, u2_n, u2_s, u1_n, u1_s] at h9 ⊢
        exact h9
    · simp (disch := omega) only [rvY, im_wM, im_sI, u2_n, u2_s, u1_n, u1_s]
    · simp (disch := omega) only [rvY, im_wM, im_sI, u2_n, u2_s, u1_n, u1_s]
    · simp (disch := omega) only [rvY, im_wM, im_sI, u2_n, u2_s, u1_n, u1_s]
  · simp (disch := omega) only [im_wM, im_sI, u2_n, u2_s, u1_n, u1_s]
/-- one segment set anew -/
theorem Rp.seg {m : Mm} {B S s : Nat} {z z' : Nat → Int32} {I : Nat → Nat → Int32} {R : Nat → Nat → Option Nat} (hR : Rp m B S z) (hz : ZLn z) (hSB : S + 47 ≤ B) (hs : s < nv (z 0)) (hI : ∀ x, x ≠ S + 37 + s → I x = im m x) (hRr : ∀ x, x ≠ S + 37 + s → R x = rf m x) (hz' : ∀ j, (j < 79 + 22 * s ∨ 79 + 22 * s + 22 ≤ j) → z' j = z j) (hg : SgI (wM m I R) (S + 37 + s) z' (79 + 22 * s)) (hsr : SgR (wM m I R) B (S + 37 + s) z' (79 + 22 * s)) : Rp (wM m I R) B S z' := by
  have hz0 := hz.1
  have hb : ∀ x, B ≤ x → x < fz m → agr m (wM m I R) x := fun x h1 h2 => ⟨rfl, hI x (by omega), hRr x (by omega)⟩
  have hm : ∀ x, x ≠ S + 37 + s → im (wM m I R) x = im m x := hI
  obtain ⟨⟨c0, c1, c2, c3⟩, hT, hB, hW, hSg, hM⟩ := hR
  refine ⟨⟨?_, ?_, ?_, ?_⟩, fun p hp => ?_, fun p hp => ?_, fun p hp => ⟨fun t ht => ?_, ?_⟩, fun q hq => ?_, fun j hj => ?_⟩
  · rw [hm _ (by omega), hz' _ (by omega)]; exact c0
  · rw [hm _ (by omega), hz' _ (by omega)]; exact c1
  · rw [hm _ (by omega), hz' _ (by omega)]; exact c2
  · rw [hm _ (by omega), hz' _ (by omega)]; exact c3
  · rw [hm _ (by omega), hz' _ (by omega), hz' _ (by omega), hz' _ (by omega), hz' _ (by omega), hz' _ (by omega)]; exact hT p hp
  · rw [hm _ (by omega), hz' _ (by omega), hz' _ (by omega), hz' _ (by omega)]; exact hB p hp
  · rw [hm _ (by omega), hz' _ (by omega)]; exact (hW p hp).1 t ht
  · rw [hm _ (by omega), hz' _ (by omega)]; exact (hW p hp).2
  · rw [hz' _ (by omega)] at hq
    by_cases e : q = s
    · subst e; exact ⟨hg, hsr⟩
    · have hn := hz.2.2.1 q hq
      obtain ⟨a1, q1, a2, a3⟩ := hSg q hq
      refine ⟨?_, q1, by rw [rf_wM, hRr _ (by omega)]; exact a2, (a3.fr (m1 := wM m I R) (Nat.le_refl _) hb).cg (by rw [hz' _ (by omega)]) (fun e he => hz' _ (by omega))⟩
      unfold SgI at a1 ⊢
      rw [hm _ (by omega), hz' _ (by omega), hz' _ (by omega), hz' _ (by omega), hz' _ (by omega), hz' _ (by omega), hz' _ (by omega), hz' _ (by omega), hz' _ (by omega), hz' _ (by omega)]
      exact a1
  · rw [hz' _ (by omega)] at hj
    have hn := hz.2.2.2 j hj
    obtain ⟨q, q1, q2⟩ := hM j hj
    exact ⟨q, by rw [rf_wM, hRr _ (by omega)]; exact q1, (q2.fr (m1 := wM m I R) (Nat.le_refl _) hb).cg (by rw [hz' _ (by omega)]) (fun e he => hz' _ (by omega))⟩
theorem mfr_cg {z z' u u' : Nat → Int32} {n r : Nat} (hu : ∀ e, e < n → u e = u' e) (hz : ∀ j, 299 ≤ j → z' j = z j) : mfr z' u n r = mfr z u' n r := by
  unfold mfr tt
  rw [show (fun e => z' (299 + 13 * r + 1 + e)) = fun e => z (299 + 13 * r + 1 + e) from funext fun e => hz _ (by omega), hz (299 + 13 * r) (by omega)]
  rw [lc_congr (u := u) (u' := u') (v' := fun e => z (299 + 13 * r + 1 + e)) hu (fun _ _ => rfl) _ _ (Nat.sub_le _ _) (Nat.sub_le _ _)]
theorem gm_cg {f f' : Nat → Nat} : ∀ n, (∀ i, i < n → f i = f' i) → gm f n = gm f' n := by
  intro n
  induction n with
  | zero => intro _; rfl
  | succ n ih =>
    intro h
    show max (gm f n) (f n) = max (gm f' n) (f' n)
    rw [ih (fun i hi => h i (by omega)), h n (by omega)]
/-- the match of a row is that of the segment where it is laid -/
theorem mtc_cg {z z' w : Nat → Int32} {n p : Nat} (hp : nv (z' p) = n) (hu : ∀ e, e < n → z' (p + 10 + e) = w e) (hz : ∀ j, 299 ≤ j → z' j = z j) (h1 : z' 1 = z 1) : mtc z' p = gm (mfr z w n) (nv (z 1)) := by
  show gm (mf z' p) (nv (z' 1)) = _
  rw [h1]
  refine gm_cg _ (fun i _ => ?_)
  rw [← mfr_mf z' p, hp]
  exact mfr_cg hu hz
set_option maxRecDepth 100000 in
theorem cn_X6_replaceSource0 (g : Gp) (cs : Nat × Nat) {m : Mm} {S B c : Nat} {z : Nat → Int32} (hS : StT m S) (hR : Rp m B S z) (hz : ZOk c z) (hSB : S + 47 ≤ B) {s : Nat} (hs : s < nv (z 0)) {r n : Nat} {u zt : Nat → Int32} (hr : RowA m B r u n) (hn : zt (79 + 22 * s) = nI n) (hu : ∀ e, e < n → zt (79 + 22 * s + 10 + e) = u e) (ho : ∀ j, j ≠ 79 + 22 * s → (j < 79 + 22 * s + 10 ∨ 79 + 22 * s + 22 ≤ j) → zt j = z j) (h1 : z (79 + 22 * s + 1) = 0) : Mn g (MX6_replaceSource cs) [.ref S, .ref (S + 37 + s), .ref r] m none (fun I R => FrB m S (S + 47) I R ∧ StT (wM m I R) S ∧ Rp (wM m I R) B S (zt) ∧ I (S + 37 + s) 1 = zt (79 + 22 * s + 1)) := by
  have hz0 := hz.n0.hi
  have hz1 := hz.n1.hi
  have hrn := hr.2.2.n
  have hnv : nv (zt (79 + 22 * s)) = n := by rw [hn]; exact nv_nI (by omega)
  have hS10 : s < 10 := by omega
  refine Cn.of pn_X6 (Nat.le_of_ble_eq_true rfl) rfl ?_
  refine g_aload_n 1 dX6_replaceSource_0 rfl rfl ?_
  refine g_aload_n 2 dX6_replaceSource_1 rfl rfl ?_
  refine gN_putR fwX6_88 rfl 0 (hS.tS (by omega)) dX6_replaceSource_2 ?_
  refine g_aload_n 1 dX6_replaceSource_5 rfl rfl ?_
  refine gN_getI flX6_113 rfl 0 (hS.tS (by omega)) dX6_replaceSource_6 ?_
  refine g_if_ne 13 dX6_replaceSource_9 (by decide) (fun h_9 => ?_) (fun h_9 => ?_)
  · exact absurd (show im m (S + 37 + s) 1 = 0 from (hR.S1 hs).trans h1) h_9
  · refine g_vret rfl dX6_replaceSource_12 ⟨Nat.zero_le _, Nat.zero_le _⟩ ?_
    refine ⟨rfl, im m, u2 (rf m) (S + 37 + s) 0 (some r), rfl, (FrB.rfl' m _ _).r _ (by omega) (by omega), hS.w (fun x k1 k2 => u2_o _ _ _ _ (by omega)), ?_, ?_⟩
    · refine hR.seg hz.ln hSB hs (fun x hx => rfl) (fun x hx => u2_o _ _ _ _ hx) (fun j hj => ho j (by omega) (by omega)) ?_ ⟨r, u2_s _ _ _ _, ?_⟩
      · have h9 := hR.Sg hs
        unfold SgI at h9 ⊢
        rw [ho _ (by omega) (by omega), ho _ (by omega) (by omega), ho _ (by omega) (by omega), ho _ (by omega) (by omega), ho _ (by omega) (by omega), ho _ (by omega) (by omega), ho _ (by omega) (by omega), ho _ (by omega) (by omega), ho _ (by omega) (by omega)]
        exact h9
      · exact (hr.fr (m1 := wM m (im m) (u2 (rf m) (S + 37 + s) 0 (some r))) (Nat.le_refl _) (fun x k1 k2 => ⟨rfl, rfl, u2_o _ _ _ _ (by omega)⟩)).cg hnv hu
    · rw [ho _ (by omega) (by omega)]; exact hR.S1 hs
set_option maxRecDepth 100000 in
theorem cn_X6_replaceSource1 (g : Gp) (cs : Nat × Nat) {m : Mm} {S B c : Nat} {z : Nat → Int32} (hS : StT m S) (hR : Rp m B S z) (hz : ZOk c z) (hSB : S + 47 ≤ B) {s : Nat} (hs : s < nv (z 0)) {r n : Nat} {u zt : Nat → Int32} (hr : RowA m B r u n) (hn : zt (79 + 22 * s) = nI n) (hu : ∀ e, e < n → zt (79 + 22 * s + 10 + e) = u e) (ho : ∀ j, j ≠ 79 + 22 * s → (j < 79 + 22 * s + 10 ∨ 79 + 22 * s + 22 ≤ j) → zt j = z j) (hCx : ∀ I R, FrB m (S + 37) (S + 47) I R → CsT g (wM m I R)) (h1 : z (79 + 22 * s + 1) = nI 1) (h5 : z (79 + 22 * s + 5) = nI 0 ∧ z (79 + 22 * s + 7) = -1 ∧ z (79 + 22 * s + 8) = nI 0) : Mn g (MX6_replaceSource cs) [.ref S, .ref (S + 37 + s), .ref r] m none (fun I R => FrB m S (S + 47) I R ∧ StT (wM m I R) S ∧ Rp (wM m I R) B S (fxZ zt s) ∧ I (S + 37 + s) 1 = (fxZ zt s) (79 + 22 * s + 1)) := by
  have hz0 := hz.n0.hi
  have hz1 := hz.n1.hi
  have hrn := hr.2.2.n
  have hnv : nv (zt (79 + 22 * s)) = n := by rw [hn]; exact nv_nI (by omega)
  have hS10 : s < 10 := by omega
  have hne : ¬ z (79 + 22 * s + 1) = 0 := by rw [h1]; decide
  refine Cn.of pn_X6 (Nat.le_of_ble_eq_true rfl) rfl ?_
  refine g_aload_n 1 dX6_replaceSource_0 rfl rfl ?_
  refine g_aload_n 2 dX6_replaceSource_1 rfl rfl ?_
  refine gN_putR fwX6_88 rfl 0 (hS.tS (by omega)) dX6_replaceSource_2 ?_
  refine g_aload_n 1 dX6_replaceSource_5 rfl rfl ?_
  refine gN_getI flX6_113 rfl 0 (hS.tS (by omega)) dX6_replaceSource_6 ?_
  refine g_if_ne 13 dX6_replaceSource_9 (by decide) (fun h_9 => ?_) (fun h_9 => ?_)
  · refine g_aload_n 1 dX6_replaceSource_13 rfl rfl ?_
    refine gd_callV _ _ _ _ (cn_X5_reassign g (0, 0) (m := sR m (S + 37 + s) 0 (some r)) (hS.tS hS10)) ⟨rfl, rfl⟩ (ok_X5_reassign _) mlX6_156 in_X5_reassign se_X5_reassign 5 0 (hS.tS (by omega)) rfl rfl rfl ⟨Nat.le_of_ble_eq_true rfl, Nat.le_of_ble_eq_true rfl⟩ (by exact Nat.le_of_ble_eq_true rfl) ⟨Nat.zero_le _, Nat.zero_le _⟩ dX6_replaceSource_14 rfl ?_
    refine g_mem (m1 := wM m (u2 (u2 (u2 (u2 (u2 (im m) (S + 37 + s) 1 (nI 1)) (S + 37 + s) 6 (z (79 + 22 * s + 6) + z (79 + 22 * s + 5))) (S + 37 + s) 5 (nI 0)) (S + 37 + s) 7 (-1)) (S + 37 + s) 8 (nI 0)) (u2 (rf m) (S + 37 + s) 0 (some r))) (by rw [← hR.S6 hs, ← hR.S5 hs]; rfl) ?_
    have hF5 : FrB m (S + 37) (S + 47) (u2 (u2 (u2 (u2 (u2 (im m) (S + 37 + s) 1 (nI 1)) (S + 37 + s) 6 (z (79 + 22 * s + 6) + z (79 + 22 * s + 5))) (S + 37 + s) 5 (nI 0)) (S + 37 + s) 7 (-1)) (S + 37 + s) 8 (nI 0)) (u2 (rf m) (S + 37 + s) 0 (some r)) := (((((((FrB.rfl' _ _ _).i _ (by omega) (by omega)).i _ (by omega) (by omega)).i _ (by omega) (by omega)).i _ (by omega) (by omega)).i _ (by omega) (by omega))).r _ (by omega) (by omega)
    have hS5 : StT (wM m (u2 (u2 (u2 (u2 (u2 (im m) (S + 37 + s) 1 (nI 1)) (S + 37 + s) 6 (z (79 + 22 * s + 6) + z (79 + 22 * s + 5))) (S + 37 + s) 5 (nI 0)) (S + 37 + s) 7 (-1)) (S + 37 + s) 8 (nI 0)) (u2 (rf m) (S + 37 + s) 0 (some r))) S := hS.w (fun x k1 k2 => u2_o _ _ _ _ (by omega))
    have hr5 : RowA (wM m (u2 (u2 (u2 (u2 (u2 (im m) (S + 37 + s) 1 (nI 1)) (S + 37 + s) 6 (z (79 + 22 * s + 6) + z (79 + 22 * s + 5))) (S + 37 + s) 5 (nI 0)) (S + 37 + s) 7 (-1)) (S + 37 + s) 8 (nI 0)) (u2 (rf m) (S + 37 + s) 0 (some r))) B r u n := hF5.row (by omega) hr
    have hM5 : RpM (wM m (u2 (u2 (u2 (u2 (u2 (im m) (S + 37 + s) 1 (nI 1)) (S + 37 + s) 6 (z (79 + 22 * s + 6) + z (79 + 22 * s + 5))) (S + 37 + s) 5 (nI 0)) (S + 37 + s) 7 (-1)) (S + 37 + s) 8 (nI 0)) (u2 (rf m) (S + 37 + s) 0 (some r))) B S z (nv (z 1)) := fun j hj => (hR.M hj).fr (by rw [rf_wM, u2_o _ _ _ _ (by omega)]) (Nat.le_refl _) (fun x k1 k2 => ⟨rfl, (hF5 x (by omega)).1, (hF5 x (by omega)).2⟩)
    have hc5 : im (wM m (u2 (u2 (u2 (u2 (u2 (im m) (S + 37 + s) 1 (nI 1)) (S + 37 + s) 6 (z (79 + 22 * s + 6) + z (79 + 22 * s + 5))) (S + 37 + s) 5 (nI 0)) (S + 37 + s) 7 (-1)) (S + 37 + s) 8 (nI 0)) (u2 (rf m) (S + 37 + s) 0 (some r))) (S + 10) 1 = z 1 := by rw [im_wM, (hF5 _ (by omega)).1]; exact hR.c1
    have hB5 : RpB (wM m (u2 (u2 (u2 (u2 (u2 (im m) (S + 37 + s) 1 (nI 1)) (S + 37 + s) 6 (z (79 + 22 * s + 6) + z (79 + 22 * s + 5))) (S + 37 + s) 5 (nI 0)) (S + 37 + s) 7 (-1)) (S + 37 + s) 8 (nI 0)) (u2 (rf m) (S + 37 + s) 0 (some r))) S z 5 := hR.2.2.1.fr (Nat.le_refl _) (fun x k1 k2 => (hF5 x (by omega)).1)
    have hC5 : CsT g (wM m (u2 (u2 (u2 (u2 (u2 (im m) (S + 37 + s) 1 (nI 1)) (S + 37 + s) 6 (z (79 + 22 * s + 6) + z (79 + 22 * s + 5))) (S + 37 + s) 5 (nI 0)) (S + 37 + s) 7 (-1)) (S + 37 + s) 8 (nI 0)) (u2 (rf m) (S + 37 + s) 0 (some r))) := hCx _ _ hF5
    refine g_aload_n 0 dX6_replaceSource_17 rfl rfl ?_
    refine g_aload_n 1 dX6_replaceSource_18 rfl rfl ?_
    refine gd_callV _ _ _ _ (cn_X6_fixBand g (0, 0) hS5 hc5 hz.n1 hM5 hB5 hC5 hS10 (u2_s _ _ _ _) hr5.2.2) ⟨rfl, rfl⟩ (ok_X6_fixBand _) mlX6_159 in_X6_fixBand se_X6_fixBand 6 0 (hS.t) rfl rfl rfl ⟨Nat.le_of_ble_eq_true rfl, Nat.le_of_ble_eq_true rfl⟩ (by exact Nat.le_of_ble_eq_true rfl) ⟨Nat.zero_le _, Nat.zero_le _⟩ dX6_replaceSource_19 rfl ?_
    refine g_vret rfl dX6_replaceSource_22 ⟨Nat.zero_le _, Nat.zero_le _⟩ ?_
    refine ⟨rfl, u2 (u2 (u2 (u2 (u2 (u2 (u2 (im m) (S + 37 + s) 1 (nI 1)) (S + 37 + s) 6 (z (79 + 22 * s + 6) + z (79 + 22 * s + 5))) (S + 37 + s) 5 (nI 0)) (S + 37 + s) 7 (-1)) (S + 37 + s) 8 (nI 0)) (S + 37 + s) 3 (nI (bandOf (gm (mfr z u n) (nv (z 1)))))) (S + 37 + s) 4 (z (64 + 3 * bandOf (gm (mfr z u n) (nv (z 1))))), (u2 (rf m) (S + 37 + s) 0 (some r)), rfl, ((hF5.i _ (by omega) (by omega)).i _ (by omega) (by omega)).up (by omega) (by omega), hS5, ?_, ?_⟩
    · have hmt : mtc zt (79 + 22 * s) = gm (mfr z u n) (nv (z 1)) := mtc_cg (by exact hnv) (fun e he => by exact hu e he) (fun j hj => by exact ho j (by omega) (by omega)) (by exact ho 1 (by omega) (by omega))
      have hb4 := bandOf_le (gm (mfr z u n) (nv (z 1)))
      have ho1 := ho (79 + 22 * s + 1) (by omega) (by omega)
      have ho2 := ho (79 + 22 * s + 2) (by omega) (by omega)
      have ho5 := ho (79 + 22 * s + 5) (by omega) (by omega)
      have ho6 := ho (79 + 22 * s + 6) (by omega) (by omega)
      have ho7 := ho (79 + 22 * s + 7) (by omega) (by omega)
      have ho8 := ho (79 + 22 * s + 8) (by omega) (by omega)
      have ho64 := ho (64 + 3 * bandOf (gm (mfr z u n) (nv (z 1)))) (by omega) (by omega)
      have hA2 : im m (S + 37 + s) 2 = z (79 + 22 * s + 2) := (hR.S2 hs).trans (opn_t hne)
      refine hR.seg hz.ln hSB hs (fun x hx => ?_) (fun x hx => u2_o _ _ _ _ hx) (fun j hj => ?_) ?_ ⟨r, u2_s _ _ _ _, ?_⟩
      · rw [u2_o _ _ _ _ hx, u2_o _ _ _ _ hx, u2_o _ _ _ _ hx, u2_o _ _ _ _ hx, u2_o _ _ _ _ hx, u2_o _ _ _ _ hx, u2_o _ _ _ _ hx]
      · simp (disch := omega) only [fxZ, im_wM, im_sI, u2_n, u2_s, u1_n, u1_s]
        exact ho j (by omega) (by omega)
      · unfold SgI
        refine ⟨?_, ?_, ?_, ?_, ?_, ?_, ?_, ?_, fun h9 => ?_⟩
        all_goals (try rw [show fxZ zt s = u1 (u1 zt (79 + 22 * s + 3) (nI (bandOf (gm (mfr z u n) (nv (z 1)))))) (79 + 22 * s + 4) (zt (64 + 3 * bandOf (gm (mfr z u n) (nv (z 1))))) from by unfold fxZ; rw [hmt]])
        all_goals (try rw [show fxZ zt s = u1 (u1 zt (79 + 22 * s + 3) (nI (bandOf (gm (mfr z u n) (nv (z 1)))))) (79 + 22 * s + 4) (zt (64 + 3 * bandOf (gm (mfr z u n) (nv (z 1))))) from by unfold fxZ; rw [hmt]] at h9)
        all_goals (try simp (disch := omega) only [im_wM, im_sI, u2_n, u2_s, u1_n, u1_s])
        all_goals (try simp (disch := omega) only [im_wM, im_sI, u2_n, u2_s, u1_n, u1_s] at h9)
        all_goals (try rw [ho1]) <;> (try rw [ho2]) <;> (try rw [ho5]) <;> (try rw [ho6]) <;> (try rw [ho7]) <;> (try rw [ho8]) <;> (try rw [ho64])
        all_goals first | done | rfl | exact hA2 | exact h1.symm | exact h5.1.symm | exact h5.2.1.symm | exact h5.2.2.symm | (rw [h1, opn_t (by decide)]; done) | (rw [h1, opn_t (by decide)]; exact hA2) | (rw [opn_t (by decide)]; done) | (rw [opn_t (by decide)]; exact hA2) | (rw [h5.1]; exact Int32.add_zero _) | (rw [h1]; exact hA2) | (exfalso; rw [ho1, h1] at h9; exact absurd h9 (by decide)) | (exfalso; exact absurd h9 (by decide))
      · exact ((hr5.fr (m1 := wM m (u2 (u2 (u2 (u2 (u2 (u2 (u2 (im m) (S + 37 + s) 1 (nI 1)) (S + 37 + s) 6 (z (79 + 22 * s + 6) + z (79 + 22 * s + 5))) (S + 37 + s) 5 (nI 0)) (S + 37 + s) 7 (-1)) (S + 37 + s) 8 (nI 0)) (S + 37 + s) 3 (nI (bandOf (gm (mfr z u n) (nv (z 1)))))) (S + 37 + s) 4 (z (64 + 3 * bandOf (gm (mfr z u n) (nv (z 1)))))) (u2 (rf m) (S + 37 + s) 0 (some r))) (Nat.le_refl _) (fun x k1 k2 => ⟨rfl, by rw [im_wM, u2_o _ _ _ _ (by omega), u2_o _ _ _ _ (by omega), im_wM], rfl⟩))).cg (by simp (disch := omega) only [fxZ, im_wM, im_sI, u2_n, u2_s, u1_n, u1_s]; exact hnv) (fun e he => by simp (disch := omega) only [fxZ, im_wM, im_sI, u2_n, u2_s, u1_n, u1_s]; exact hu e he)
    · simp (disch := omega) only [fxZ, im_wM, im_sI, u2_n, u2_s, u1_n, u1_s]
      exact ((ho _ (by omega) (by omega)).trans h1).symm
  · exact absurd (h_9 : im m (S + 37 + s) 1 = 0) (fun q => hne ((hR.S1 hs).symm.trans q))
set_option maxRecDepth 100000 in
theorem cn_X6_replaceSource2 (g : Gp) (cs : Nat × Nat) {m : Mm} {S B c : Nat} {z : Nat → Int32} (hS : StT m S) (hR : Rp m B S z) (hz : ZOk c z) (hSB : S + 47 ≤ B) {s : Nat} (hs : s < nv (z 0)) {r n : Nat} {u zt : Nat → Int32} (hr : RowA m B r u n) (hn : zt (79 + 22 * s) = nI n) (hu : ∀ e, e < n → zt (79 + 22 * s + 10 + e) = u e) (ho : ∀ j, j ≠ 79 + 22 * s → (j < 79 + 22 * s + 10 ∨ 79 + 22 * s + 22 ≤ j) → zt j = z j) (hCx : ∀ I R, FrB m (S + 37) (S + 47) I R → CsT g (wM m I R)) (h1 : 2 ≤ nv (z (79 + 22 * s + 1))) : Mn g (MX6_replaceSource cs) [.ref S, .ref (S + 37 + s), .ref r] m none (fun I R => FrB m S (S + 47) I R ∧ StT (wM m I R) S ∧ Rp (wM m I R) B S (fxZ (rsZ zt s) s) ∧ I (S + 37 + s) 1 = (fxZ (rsZ zt s) s) (79 + 22 * s + 1)) := by
  have hz0 := hz.n0.hi
  have hz1 := hz.n1.hi
  have hrn := hr.2.2.n
  have hnv : nv (zt (79 + 22 * s)) = n := by rw [hn]; exact nv_nI (by omega)
  have hS10 : s < 10 := by omega
  have hne : ¬ z (79 + 22 * s + 1) = 0 := fun q => by rw [q] at h1; exact absurd h1 (by decide)
  refine Cn.of pn_X6 (Nat.le_of_ble_eq_true rfl) rfl ?_
  refine g_aload_n 1 dX6_replaceSource_0 rfl rfl ?_
  refine g_aload_n 2 dX6_replaceSource_1 rfl rfl ?_
  refine gN_putR fwX6_88 rfl 0 (hS.tS (by omega)) dX6_replaceSource_2 ?_
  refine g_aload_n 1 dX6_replaceSource_5 rfl rfl ?_
  refine gN_getI flX6_113 rfl 0 (hS.tS (by omega)) dX6_replaceSource_6 ?_
  refine g_if_ne 13 dX6_replaceSource_9 (by decide) (fun h_9 => ?_) (fun h_9 => ?_)
  · refine g_aload_n 1 dX6_replaceSource_13 rfl rfl ?_
    refine gd_callV _ _ _ _ (cn_X5_reassign g (0, 0) (m := sR m (S + 37 + s) 0 (some r)) (hS.tS hS10)) ⟨rfl, rfl⟩ (ok_X5_reassign _) mlX6_156 in_X5_reassign se_X5_reassign 5 0 (hS.tS (by omega)) rfl rfl rfl ⟨Nat.le_of_ble_eq_true rfl, Nat.le_of_ble_eq_true rfl⟩ (by exact Nat.le_of_ble_eq_true rfl) ⟨Nat.zero_le _, Nat.zero_le _⟩ dX6_replaceSource_14 rfl ?_
    refine g_mem (m1 := wM m (u2 (u2 (u2 (u2 (u2 (im m) (S + 37 + s) 1 (nI 1)) (S + 37 + s) 6 (z (79 + 22 * s + 6) + z (79 + 22 * s + 5))) (S + 37 + s) 5 (nI 0)) (S + 37 + s) 7 (-1)) (S + 37 + s) 8 (nI 0)) (u2 (rf m) (S + 37 + s) 0 (some r))) (by rw [← hR.S6 hs, ← hR.S5 hs]; rfl) ?_
    have hF5 : FrB m (S + 37) (S + 47) (u2 (u2 (u2 (u2 (u2 (im m) (S + 37 + s) 1 (nI 1)) (S + 37 + s) 6 (z (79 + 22 * s + 6) + z (79 + 22 * s + 5))) (S + 37 + s) 5 (nI 0)) (S + 37 + s) 7 (-1)) (S + 37 + s) 8 (nI 0)) (u2 (rf m) (S + 37 + s) 0 (some r)) := (((((((FrB.rfl' _ _ _).i _ (by omega) (by omega)).i _ (by omega) (by omega)).i _ (by omega) (by omega)).i _ (by omega) (by omega)).i _ (by omega) (by omega))).r _ (by omega) (by omega)
    have hS5 : StT (wM m (u2 (u2 (u2 (u2 (u2 (im m) (S + 37 + s) 1 (nI 1)) (S + 37 + s) 6 (z (79 + 22 * s + 6) + z (79 + 22 * s + 5))) (S + 37 + s) 5 (nI 0)) (S + 37 + s) 7 (-1)) (S + 37 + s) 8 (nI 0)) (u2 (rf m) (S + 37 + s) 0 (some r))) S := hS.w (fun x k1 k2 => u2_o _ _ _ _ (by omega))
    have hr5 : RowA (wM m (u2 (u2 (u2 (u2 (u2 (im m) (S + 37 + s) 1 (nI 1)) (S + 37 + s) 6 (z (79 + 22 * s + 6) + z (79 + 22 * s + 5))) (S + 37 + s) 5 (nI 0)) (S + 37 + s) 7 (-1)) (S + 37 + s) 8 (nI 0)) (u2 (rf m) (S + 37 + s) 0 (some r))) B r u n := hF5.row (by omega) hr
    have hM5 : RpM (wM m (u2 (u2 (u2 (u2 (u2 (im m) (S + 37 + s) 1 (nI 1)) (S + 37 + s) 6 (z (79 + 22 * s + 6) + z (79 + 22 * s + 5))) (S + 37 + s) 5 (nI 0)) (S + 37 + s) 7 (-1)) (S + 37 + s) 8 (nI 0)) (u2 (rf m) (S + 37 + s) 0 (some r))) B S z (nv (z 1)) := fun j hj => (hR.M hj).fr (by rw [rf_wM, u2_o _ _ _ _ (by omega)]) (Nat.le_refl _) (fun x k1 k2 => ⟨rfl, (hF5 x (by omega)).1, (hF5 x (by omega)).2⟩)
    have hc5 : im (wM m (u2 (u2 (u2 (u2 (u2 (im m) (S + 37 + s) 1 (nI 1)) (S + 37 + s) 6 (z (79 + 22 * s + 6) + z (79 + 22 * s + 5))) (S + 37 + s) 5 (nI 0)) (S + 37 + s) 7 (-1)) (S + 37 + s) 8 (nI 0)) (u2 (rf m) (S + 37 + s) 0 (some r))) (S + 10) 1 = z 1 := by rw [im_wM, (hF5 _ (by omega)).1]; exact hR.c1
    have hB5 : RpB (wM m (u2 (u2 (u2 (u2 (u2 (im m) (S + 37 + s) 1 (nI 1)) (S + 37 + s) 6 (z (79 + 22 * s + 6) + z (79 + 22 * s + 5))) (S + 37 + s) 5 (nI 0)) (S + 37 + s) 7 (-1)) (S + 37 + s) 8 (nI 0)) (u2 (rf m) (S + 37 + s) 0 (some r))) S z 5 := hR.2.2.1.fr (Nat.le_refl _) (fun x k1 k2 => (hF5 x (by omega)).1)
    have hC5 : CsT g (wM m (u2 (u2 (u2 (u2 (u2 (im m) (S + 37 + s) 1 (nI 1)) (S + 37 + s) 6 (z (79 + 22 * s + 6) + z (79 + 22 * s + 5))) (S + 37 + s) 5 (nI 0)) (S + 37 + s) 7 (-1)) (S + 37 + s) 8 (nI 0)) (u2 (rf m) (S + 37 + s) 0 (some r))) := hCx _ _ hF5
    refine g_aload_n 0 dX6_replaceSource_17 rfl rfl ?_
    refine g_aload_n 1 dX6_replaceSource_18 rfl rfl ?_
    refine gd_callV _ _ _ _ (cn_X6_fixBand g (0, 0) hS5 hc5 hz.n1 hM5 hB5 hC5 hS10 (u2_s _ _ _ _) hr5.2.2) ⟨rfl, rfl⟩ (ok_X6_fixBand _) mlX6_159 in_X6_fixBand se_X6_fixBand 6 0 (hS.t) rfl rfl rfl ⟨Nat.le_of_ble_eq_true rfl, Nat.le_of_ble_eq_true rfl⟩ (by exact Nat.le_of_ble_eq_true rfl) ⟨Nat.zero_le _, Nat.zero_le _⟩ dX6_replaceSource_19 rfl ?_
    refine g_vret rfl dX6_replaceSource_22 ⟨Nat.zero_le _, Nat.zero_le _⟩ ?_
    refine ⟨rfl, u2 (u2 (u2 (u2 (u2 (u2 (u2 (im m) (S + 37 + s) 1 (nI 1)) (S + 37 + s) 6 (z (79 + 22 * s + 6) + z (79 + 22 * s + 5))) (S + 37 + s) 5 (nI 0)) (S + 37 + s) 7 (-1)) (S + 37 + s) 8 (nI 0)) (S + 37 + s) 3 (nI (bandOf (gm (mfr z u n) (nv (z 1)))))) (S + 37 + s) 4 (z (64 + 3 * bandOf (gm (mfr z u n) (nv (z 1))))), (u2 (rf m) (S + 37 + s) 0 (some r)), rfl, ((hF5.i _ (by omega) (by omega)).i _ (by omega) (by omega)).up (by omega) (by omega), hS5, ?_, ?_⟩
    · have hmt : mtc (rsZ zt s) (79 + 22 * s) = gm (mfr z u n) (nv (z 1)) := mtc_cg (by rw [rsZ_lo _ _ (by omega)]; exact hnv) (fun e he => by rw [rsZ_lo _ _ (by omega)]; exact hu e he) (fun j hj => by rw [rsZ_lo _ _ (by omega)]; exact ho j (by omega) (by omega)) (by rw [rsZ_lo _ _ (by omega)]; exact ho 1 (by omega) (by omega))
      have hb4 := bandOf_le (gm (mfr z u n) (nv (z 1)))
      have ho1 := ho (79 + 22 * s + 1) (by omega) (by omega)
      have ho2 := ho (79 + 22 * s + 2) (by omega) (by omega)
      have ho5 := ho (79 + 22 * s + 5) (by omega) (by omega)
      have ho6 := ho (79 + 22 * s + 6) (by omega) (by omega)
      have ho7 := ho (79 + 22 * s + 7) (by omega) (by omega)
      have ho8 := ho (79 + 22 * s + 8) (by omega) (by omega)
      have ho64 := ho (64 + 3 * bandOf (gm (mfr z u n) (nv (z 1)))) (by omega) (by omega)
      have hA2 : im m (S + 37 + s) 2 = z (79 + 22 * s + 2) := (hR.S2 hs).trans (opn_t hne)
      refine hR.seg hz.ln hSB hs (fun x hx => ?_) (fun x hx => u2_o _ _ _ _ hx) (fun j hj => ?_) ?_ ⟨r, u2_s _ _ _ _, ?_⟩
      · rw [u2_o _ _ _ _ hx, u2_o _ _ _ _ hx, u2_o _ _ _ _ hx, u2_o _ _ _ _ hx, u2_o _ _ _ _ hx, u2_o _ _ _ _ hx, u2_o _ _ _ _ hx]
      · simp (disch := omega) only [fxZ, rsZ, im_wM, im_sI, u2_n, u2_s, u1_n, u1_s]
        exact ho j (by omega) (by omega)
      · unfold SgI
        refine ⟨?_, ?_, ?_, ?_, ?_, ?_, ?_, ?_, fun h9 => ?_⟩
        all_goals (try rw [show fxZ (rsZ zt s) s = u1 (u1 (rsZ zt s) (79 + 22 * s + 3) (nI (bandOf (gm (mfr z u n) (nv (z 1)))))) (79 + 22 * s + 4) (rsZ zt s (64 + 3 * bandOf (gm (mfr z u n) (nv (z 1))))) from by unfold fxZ; rw [hmt]])
        all_goals (try rw [show fxZ (rsZ zt s) s = u1 (u1 (rsZ zt s) (79 + 22 * s + 3) (nI (bandOf (gm (mfr z u n) (nv (z 1)))))) (79 + 22 * s + 4) (rsZ zt s (64 + 3 * bandOf (gm (mfr z u n) (nv (z 1))))) from by unfold fxZ; rw [hmt]] at h9)
        all_goals (try simp (disch := omega) only [rsZ, im_wM, im_sI, u2_n, u2_s, u1_n, u1_s])
        all_goals (try simp (disch := omega) only [rsZ, im_wM, im_sI, u2_n, u2_s, u1_n, u1_s] at h9)
        all_goals (try rw [ho1]) <;> (try rw [ho2]) <;> (try rw [ho5]) <;> (try rw [ho6]) <;> (try rw [ho7]) <;> (try rw [ho8]) <;> (try rw [ho64])
        all_goals first | done | rfl | exact hA2 | exact h1.symm | exact h5.1.symm | exact h5.2.1.symm | exact h5.2.2.symm | (rw [h1, opn_t (by decide)]; done) | (rw [h1, opn_t (by decide)]; exact hA2) | (rw [opn_t (by decide)]; done) | (rw [opn_t (by decide)]; exact hA2) | (rw [h5.1]; exact Int32.add_zero _) | (rw [h1]; exact hA2) | (exfalso; rw [ho1, h1] at h9; exact absurd h9 (by decide)) | (exfalso; exact absurd h9 (by decide))
      · exact ((hr5.fr (m1 := wM m (u2 (u2 (u2 (u2 (u2 (u2 (u2 (im m) (S + 37 + s) 1 (nI 1)) (S + 37 + s) 6 (z (79 + 22 * s + 6) + z (79 + 22 * s + 5))) (S + 37 + s) 5 (nI 0)) (S + 37 + s) 7 (-1)) (S + 37 + s) 8 (nI 0)) (S + 37 + s) 3 (nI (bandOf (gm (mfr z u n) (nv (z 1)))))) (S + 37 + s) 4 (z (64 + 3 * bandOf (gm (mfr z u n) (nv (z 1)))))) (u2 (rf m) (S + 37 + s) 0 (some r))) (Nat.le_refl _) (fun x k1 k2 => ⟨rfl, by rw [im_wM, u2_o _ _ _ _ (by omega), u2_o _ _ _ _ (by omega), im_wM], rfl⟩))).cg (by simp (disch := omega) only [fxZ, rsZ, im_wM, im_sI, u2_n, u2_s, u1_n, u1_s]; exact hnv) (fun e he => by simp (disch := omega) only [fxZ, rsZ, im_wM, im_sI, u2_n, u2_s, u1_n, u1_s]; exact hu e he)
    · simp (disch := omega) only [fxZ, rsZ, im_wM, im_sI, u2_n, u2_s, u1_n, u1_s]
      try rfl
  · exact absurd (h_9 : im m (S + 37 + s) 1 = 0) (fun q => hne ((hR.S1 hs).symm.trans q))
