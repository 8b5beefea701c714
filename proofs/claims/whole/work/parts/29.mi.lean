set_option maxRecDepth 100000 in
theorem cn_X10_segmentOf0 (g : Gp) (cs : Nat × Nat) {m : Mm} {a : Nat} (hM : MdOk m a) {s : Nat} (hs : s < 10) (hr : RwOk (im m (a + 1)) (79 + 22 * s) 10) (hR : NR (im m (a + 1) 1) 0 30) (hrow : ∀ r, r < nv (im m (a + 1) 1) → NR (im m (a + 1) (299 + 13 * r)) 1 12) : En g (MX10_segmentOf cs) [.ref a, .int (nI s), .int (nI 0)] m (some (.int ((im m (a + 1)) (79 + 22 * s + 0)))) (sc a (im m)) := by
  refine Cn.of pn_X10 (Nat.le_of_ble_eq_true rfl) rfl ?_
  refine g_iload_n 1 dX10_segmentOf_0 rfl rfl ?_
  refine gd_callS _ _ _ _ (cn_X10_at g (0, 0) _ s) ⟨rfl, rfl⟩ (ok_X10_at _) mlX10_45 st_X10_at rfl ⟨Nat.le_of_ble_eq_true rfl, Nat.le_of_ble_eq_true rfl⟩ (by exact Nat.le_of_ble_eq_true rfl) ⟨Nat.zero_le _, Nat.zero_le _⟩ dX10_segmentOf_1 rfl ?_
  refine g_istore_n 3 [(3, .int (nI (79 + 22 * s))), (0, .ref (a)), (1, .int (nI (s))), (2, .int (nI (0)))] dX10_segmentOf_4 rfl (Nat.le_of_ble_eq_true rfl) rfl ?_
  refine g_join 21 (b01 ((im m (a + 1)) (79 + 22 * s + 1) = 0)) ?_ (fun K_21 => ?_)
  · refine g_istore 4 [(4, .int (nI (b01 ((im m (a + 1)) (79 + 22 * s + 1) = 0)))), (3, .int (nI (79 + 22 * s))), (0, .ref (a)), (1, .int (nI (s))), (2, .int (nI (0)))] dX10_segmentOf_21 (Nat.le_of_ble_eq_true rfl) rfl ?_
    refine g_iload_n 2 dX10_segmentOf_23 rfl rfl ?_
    refine g_tableIn (off := 60) 84 dX10_segmentOf_24 (by decide) (by decide) (by decide) (by decide) ?_
    refine g_aload_n 0 dX10_segmentOf_84 rfl rfl ?_
    refine gN_getR (a + 1) flX10_7 (fun _ _ _ => rfl) 0 (hM.t) (hM.r0) dX10_segmentOf_85 ?_
    refine g_iload_n 3 dX10_segmentOf_88 rfl rfl ?_
    refine g_iload_n 2 dX10_segmentOf_89 rfl rfl ?_
    refine gN_iadd ((79 + 22 * s) + 0) dX10_segmentOf_90 rfl ?_
    refine gN_iald 689 (hM.t1) (by first | omega | exact b01_lt _) (by first | omega | exact b01_lt _) dX10_segmentOf_91 ?_
    refine g_iret rfl dX10_segmentOf_92 ⟨Nat.zero_le _, Nat.zero_le _⟩ ?_
    exact ⟨rfl, im m, rfl, sc.rf⟩
  · refine g_aload_n 0 dX10_segmentOf_5 rfl rfl ?_
    refine gN_getR (a + 1) flX10_7 (fun _ _ _ => rfl) 0 (hM.t) (hM.r0) dX10_segmentOf_6 ?_
    refine g_iload_n 3 dX10_segmentOf_9 rfl rfl ?_
    refine gN_iconst 1 dX10_segmentOf_10 (by decide) ?_
    refine gN_iadd ((79 + 22 * s) + 1) dX10_segmentOf_11 rfl ?_
    refine gN_iald 689 (hM.t1) (by first | omega | exact b01_lt _) (by first | omega | exact b01_lt _) dX10_segmentOf_12 ?_
    refine g_if_ne 20 dX10_segmentOf_13 (by decide) (fun h_13 => ?_) (fun h_13 => ?_)
    · refine gN_iconst 0 dX10_segmentOf_20 (by decide) ?_
      exact g_ei (nI (b01 ((im m (a + 1)) (79 + 22 * s + 1) = 0))) (congrArg nI (show 0 = b01 ((im m (a + 1)) (79 + 22 * s + 1) = 0) from by first | exact (b01_t h_13).symm | exact (b01_f h_13).symm)) K_21
    · refine gN_iconst 1 dX10_segmentOf_16 (by decide) ?_
      refine g_goto 21 dX10_segmentOf_17 (by decide) ?_
      exact g_ei (nI (b01 ((im m (a + 1)) (79 + 22 * s + 1) = 0))) (congrArg nI (show 1 = b01 ((im m (a + 1)) (79 + 22 * s + 1) = 0) from by first | exact (b01_t h_13).symm | exact (b01_f h_13).symm)) K_21
set_option maxRecDepth 100000 in
theorem cn_X10_segmentOf1 (g : Gp) (cs : Nat × Nat) {m : Mm} {a : Nat} (hM : MdOk m a) {s : Nat} (hs : s < 10) (hr : RwOk (im m (a + 1)) (79 + 22 * s) 10) (hR : NR (im m (a + 1) 1) 0 30) (hrow : ∀ r, r < nv (im m (a + 1) 1) → NR (im m (a + 1) (299 + 13 * r)) 1 12) : En g (MX10_segmentOf cs) [.ref a, .int (nI s), .int (nI 1)] m (some (.int ((im m (a + 1)) (79 + 22 * s + 1)))) (sc a (im m)) := by
  refine Cn.of pn_X10 (Nat.le_of_ble_eq_true rfl) rfl ?_
  refine g_iload_n 1 dX10_segmentOf_0 rfl rfl ?_
  refine gd_callS _ _ _ _ (cn_X10_at g (0, 0) _ s) ⟨rfl, rfl⟩ (ok_X10_at _) mlX10_45 st_X10_at rfl ⟨Nat.le_of_ble_eq_true rfl, Nat.le_of_ble_eq_true rfl⟩ (by exact Nat.le_of_ble_eq_true rfl) ⟨Nat.zero_le _, Nat.zero_le _⟩ dX10_segmentOf_1 rfl ?_
  refine g_istore_n 3 [(3, .int (nI (79 + 22 * s))), (0, .ref (a)), (1, .int (nI (s))), (2, .int (nI (1)))] dX10_segmentOf_4 rfl (Nat.le_of_ble_eq_true rfl) rfl ?_
  refine g_join 21 (b01 ((im m (a + 1)) (79 + 22 * s + 1) = 0)) ?_ (fun K_21 => ?_)
  · refine g_istore 4 [(4, .int (nI (b01 ((im m (a + 1)) (79 + 22 * s + 1) = 0)))), (3, .int (nI (79 + 22 * s))), (0, .ref (a)), (1, .int (nI (s))), (2, .int (nI (1)))] dX10_segmentOf_21 (Nat.le_of_ble_eq_true rfl) rfl ?_
    refine g_iload_n 2 dX10_segmentOf_23 rfl rfl ?_
    refine g_tableIn (off := 60) 84 dX10_segmentOf_24 (by decide) (by decide) (by decide) (by decide) ?_
    refine g_aload_n 0 dX10_segmentOf_84 rfl rfl ?_
    refine gN_getR (a + 1) flX10_7 (fun _ _ _ => rfl) 0 (hM.t) (hM.r0) dX10_segmentOf_85 ?_
    refine g_iload_n 3 dX10_segmentOf_88 rfl rfl ?_
    refine g_iload_n 2 dX10_segmentOf_89 rfl rfl ?_
    refine gN_iadd ((79 + 22 * s) + 1) dX10_segmentOf_90 rfl ?_
    refine gN_iald 689 (hM.t1) (by first | omega | exact b01_lt _) (by first | omega | exact b01_lt _) dX10_segmentOf_91 ?_
    refine g_iret rfl dX10_segmentOf_92 ⟨Nat.zero_le _, Nat.zero_le _⟩ ?_
    exact ⟨rfl, im m, rfl, sc.rf⟩
  · refine g_aload_n 0 dX10_segmentOf_5 rfl rfl ?_
    refine gN_getR (a + 1) flX10_7 (fun _ _ _ => rfl) 0 (hM.t) (hM.r0) dX10_segmentOf_6 ?_
    refine g_iload_n 3 dX10_segmentOf_9 rfl rfl ?_
    refine gN_iconst 1 dX10_segmentOf_10 (by decide) ?_
    refine gN_iadd ((79 + 22 * s) + 1) dX10_segmentOf_11 rfl ?_
    refine gN_iald 689 (hM.t1) (by first | omega | exact b01_lt _) (by first | omega | exact b01_lt _) dX10_segmentOf_12 ?_
    refine g_if_ne 20 dX10_segmentOf_13 (by decide) (fun h_13 => ?_) (fun h_13 => ?_)
    · refine gN_iconst 0 dX10_segmentOf_20 (by decide) ?_
      exact g_ei (nI (b01 ((im m (a + 1)) (79 + 22 * s + 1) = 0))) (congrArg nI (show 0 = b01 ((im m (a + 1)) (79 + 22 * s + 1) = 0) from by first | exact (b01_t h_13).symm | exact (b01_f h_13).symm)) K_21
    · refine gN_iconst 1 dX10_segmentOf_16 (by decide) ?_
      refine g_goto 21 dX10_segmentOf_17 (by decide) ?_
      exact g_ei (nI (b01 ((im m (a + 1)) (79 + 22 * s + 1) = 0))) (congrArg nI (show 1 = b01 ((im m (a + 1)) (79 + 22 * s + 1) = 0) from by first | exact (b01_t h_13).symm | exact (b01_f h_13).symm)) K_21
set_option maxRecDepth 100000 in
theorem cn_X10_segmentOf2 (g : Gp) (cs : Nat × Nat) {m : Mm} {a : Nat} (hM : MdOk m a) {s : Nat} (hs : s < 10) (hr : RwOk (im m (a + 1)) (79 + 22 * s) 10) (hR : NR (im m (a + 1) 1) 0 30) (hrow : ∀ r, r < nv (im m (a + 1) 1) → NR (im m (a + 1) (299 + 13 * r)) 1 12) : En g (MX10_segmentOf cs) [.ref a, .int (nI s), .int (nI 2)] m (some (.int ((if (im m (a + 1)) (79 + 22 * s + 1) = 0 then -1 else (im m (a + 1)) (79 + 22 * s + 2))))) (sc a (im m)) := by
  refine Cn.of pn_X10 (Nat.le_of_ble_eq_true rfl) rfl ?_
  refine g_iload_n 1 dX10_segmentOf_0 rfl rfl ?_
  refine gd_callS _ _ _ _ (cn_X10_at g (0, 0) _ s) ⟨rfl, rfl⟩ (ok_X10_at _) mlX10_45 st_X10_at rfl ⟨Nat.le_of_ble_eq_true rfl, Nat.le_of_ble_eq_true rfl⟩ (by exact Nat.le_of_ble_eq_true rfl) ⟨Nat.zero_le _, Nat.zero_le _⟩ dX10_segmentOf_1 rfl ?_
  refine g_istore_n 3 [(3, .int (nI (79 + 22 * s))), (0, .ref (a)), (1, .int (nI (s))), (2, .int (nI (2)))] dX10_segmentOf_4 rfl (Nat.le_of_ble_eq_true rfl) rfl ?_
  refine g_join 21 (b01 ((im m (a + 1)) (79 + 22 * s + 1) = 0)) ?_ (fun K_21 => ?_)
  · refine g_istore 4 [(4, .int (nI (b01 ((im m (a + 1)) (79 + 22 * s + 1) = 0)))), (3, .int (nI (79 + 22 * s))), (0, .ref (a)), (1, .int (nI (s))), (2, .int (nI (2)))] dX10_segmentOf_21 (Nat.le_of_ble_eq_true rfl) rfl ?_
    refine g_iload_n 2 dX10_segmentOf_23 rfl rfl ?_
    refine g_tableIn (off := 69) 93 dX10_segmentOf_24 (by decide) (by decide) (by decide) (by decide) ?_
    refine g_iload 4 dX10_segmentOf_93 rfl ?_
    refine gN_if_eq 102 dX10_segmentOf_95 (by decide) (by first | omega | exact b01_lt _) (fun h_95 => ?_) (fun h_95 => ?_)
    · refine g_aload_n 0 dX10_segmentOf_102 rfl rfl ?_
      refine gN_getR (a + 1) flX10_7 (fun _ _ _ => rfl) 0 (hM.t) (hM.r0) dX10_segmentOf_103 ?_
      refine g_iload_n 3 dX10_segmentOf_106 rfl rfl ?_
      refine gN_iconst 2 dX10_segmentOf_107 (by decide) ?_
      refine gN_iadd ((79 + 22 * s) + 2) dX10_segmentOf_108 rfl ?_
      refine gN_iald 689 (hM.t1) (by first | omega | exact b01_lt _) (by first | omega | exact b01_lt _) dX10_segmentOf_109 ?_
      refine g_iret rfl dX10_segmentOf_110 ⟨Nat.zero_le _, Nat.zero_le _⟩ ?_
      refine ⟨vI ?_, im m, rfl, sc.rf⟩
      first | rw [if_pos (b01_n.mp h_95)] | rw [if_neg (b01_z.mp h_95)]
    · refine g_iconst (-1) dX10_segmentOf_98 (by decide) ?_
      refine g_goto 110 dX10_segmentOf_99 (by decide) ?_
      refine g_iret rfl dX10_segmentOf_110 ⟨Nat.zero_le _, Nat.zero_le _⟩ ?_
      refine ⟨vI ?_, im m, rfl, sc.rf⟩
      first | rw [if_pos (b01_n.mp h_95)] | rw [if_neg (b01_z.mp h_95)]
  · refine g_aload_n 0 dX10_segmentOf_5 rfl rfl ?_
    refine gN_getR (a + 1) flX10_7 (fun _ _ _ => rfl) 0 (hM.t) (hM.r0) dX10_segmentOf_6 ?_
    refine g_iload_n 3 dX10_segmentOf_9 rfl rfl ?_
    refine gN_iconst 1 dX10_segmentOf_10 (by decide) ?_
    refine gN_iadd ((79 + 22 * s) + 1) dX10_segmentOf_11 rfl ?_
    refine gN_iald 689 (hM.t1) (by first | omega | exact b01_lt _) (by first | omega | exact b01_lt _) dX10_segmentOf_12 ?_
    refine g_if_ne 20 dX10_segmentOf_13 (by decide) (fun h_13 => ?_) (fun h_13 => ?_)
    · refine gN_iconst 0 dX10_segmentOf_20 (by decide) ?_
      exact g_ei (nI (b01 ((im m (a + 1)) (79 + 22 * s + 1) = 0))) (congrArg nI (show 0 = b01 ((im m (a + 1)) (79 + 22 * s + 1) = 0) from by first | exact (b01_t h_13).symm | exact (b01_f h_13).symm)) K_21
    · refine gN_iconst 1 dX10_segmentOf_16 (by decide) ?_
      refine g_goto 21 dX10_segmentOf_17 (by decide) ?_
      exact g_ei (nI (b01 ((im m (a + 1)) (79 + 22 * s + 1) = 0))) (congrArg nI (show 1 = b01 ((im m (a + 1)) (79 + 22 * s + 1) = 0) from by first | exact (b01_t h_13).symm | exact (b01_f h_13).symm)) K_21
set_option maxRecDepth 100000 in
theorem cn_X10_segmentOf3 (g : Gp) (cs : Nat × Nat) {m : Mm} {a : Nat} (hM : MdOk m a) {s : Nat} (hs : s < 10) (hr : RwOk (im m (a + 1)) (79 + 22 * s) 10) (hR : NR (im m (a + 1) 1) 0 30) (hrow : ∀ r, r < nv (im m (a + 1) 1) → NR (im m (a + 1) (299 + 13 * r)) 1 12) : En g (MX10_segmentOf cs) [.ref a, .int (nI s), .int (nI 3)] m (some (.int (nI (mtc (im m (a + 1)) (79 + 22 * s))))) (sc a (im m)) := by
  refine Cn.of pn_X10 (Nat.le_of_ble_eq_true rfl) rfl ?_
  refine g_iload_n 1 dX10_segmentOf_0 rfl rfl ?_
  refine gd_callS _ _ _ _ (cn_X10_at g (0, 0) _ s) ⟨rfl, rfl⟩ (ok_X10_at _) mlX10_45 st_X10_at rfl ⟨Nat.le_of_ble_eq_true rfl, Nat.le_of_ble_eq_true rfl⟩ (by exact Nat.le_of_ble_eq_true rfl) ⟨Nat.zero_le _, Nat.zero_le _⟩ dX10_segmentOf_1 rfl ?_
  refine g_istore_n 3 [(3, .int (nI (79 + 22 * s))), (0, .ref (a)), (1, .int (nI (s))), (2, .int (nI (3)))] dX10_segmentOf_4 rfl (Nat.le_of_ble_eq_true rfl) rfl ?_
  refine g_join 21 (b01 ((im m (a + 1)) (79 + 22 * s + 1) = 0)) ?_ (fun K_21 => ?_)
  · refine g_istore 4 [(4, .int (nI (b01 ((im m (a + 1)) (79 + 22 * s + 1) = 0)))), (3, .int (nI (79 + 22 * s))), (0, .ref (a)), (1, .int (nI (s))), (2, .int (nI (3)))] dX10_segmentOf_21 (Nat.le_of_ble_eq_true rfl) rfl ?_
    refine g_iload_n 2 dX10_segmentOf_23 rfl rfl ?_
    refine g_tableIn (off := 87) 111 dX10_segmentOf_24 (by decide) (by decide) (by decide) (by decide) ?_
    refine g_aload_n 0 dX10_segmentOf_111 rfl rfl ?_
    refine g_iload_n 1 dX10_segmentOf_112 rfl rfl ?_
    refine ge_callV _ _ _ (cn_X10_matchOf g (0, 0) hM hs hr.1 hR hrow) ⟨rfl, rfl⟩ (ok_X10_matchOf _) mlX10_75 in_X10_matchOf se_X10_matchOf 10 0 (hM.t) rfl rfl rfl ⟨Nat.le_of_ble_eq_true rfl, Nat.le_of_ble_eq_true rfl⟩ (by exact Nat.le_of_ble_eq_true rfl) ⟨Nat.zero_le _, Nat.zero_le _⟩ dX10_segmentOf_113 rfl (fun I1 hI1 => ?_)
    refine g_iret rfl dX10_segmentOf_116 ⟨Nat.zero_le _, Nat.zero_le _⟩ ?_
    exact ⟨rfl, I1, rfl, hI1⟩
  · refine g_aload_n 0 dX10_segmentOf_5 rfl rfl ?_
    refine gN_getR (a + 1) flX10_7 (fun _ _ _ => rfl) 0 (hM.t) (hM.r0) dX10_segmentOf_6 ?_
    refine g_iload_n 3 dX10_segmentOf_9 rfl rfl ?_
    refine gN_iconst 1 dX10_segmentOf_10 (by decide) ?_
    refine gN_iadd ((79 + 22 * s) + 1) dX10_segmentOf_11 rfl ?_
    refine gN_iald 689 (hM.t1) (by first | omega | exact b01_lt _) (by first | omega | exact b01_lt _) dX10_segmentOf_12 ?_
    refine g_if_ne 20 dX10_segmentOf_13 (by decide) (fun h_13 => ?_) (fun h_13 => ?_)
    · refine gN_iconst 0 dX10_segmentOf_20 (by decide) ?_
      exact g_ei (nI (b01 ((im m (a + 1)) (79 + 22 * s + 1) = 0))) (congrArg nI (show 0 = b01 ((im m (a + 1)) (79 + 22 * s + 1) = 0) from by first | exact (b01_t h_13).symm | exact (b01_f h_13).symm)) K_21
    · refine gN_iconst 1 dX10_segmentOf_16 (by decide) ?_
      refine g_goto 21 dX10_segmentOf_17 (by decide) ?_
      exact g_ei (nI (b01 ((im m (a + 1)) (79 + 22 * s + 1) = 0))) (congrArg nI (show 1 = b01 ((im m (a + 1)) (79 + 22 * s + 1) = 0) from by first | exact (b01_t h_13).symm | exact (b01_f h_13).symm)) K_21
set_option maxRecDepth 100000 in
theorem cn_X10_segmentOf4 (g : Gp) (cs : Nat × Nat) {m : Mm} {a : Nat} (hM : MdOk m a) {s : Nat} (hs : s < 10) (hr : RwOk (im m (a + 1)) (79 + 22 * s) 10) (hR : NR (im m (a + 1) 1) 0 30) (hrow : ∀ r, r < nv (im m (a + 1) 1) → NR (im m (a + 1) (299 + 13 * r)) 1 12) : En g (MX10_segmentOf cs) [.ref a, .int (nI s), .int (nI 4)] m (some (.int (lm (mf (im m (a + 1)) (79 + 22 * s)) (nv ((im m (a + 1)) 1))))) (sc a (im m)) := by
  refine Cn.of pn_X10 (Nat.le_of_ble_eq_true rfl) rfl ?_
  refine g_iload_n 1 dX10_segmentOf_0 rfl rfl ?_
  refine gd_callS _ _ _ _ (cn_X10_at g (0, 0) _ s) ⟨rfl, rfl⟩ (ok_X10_at _) mlX10_45 st_X10_at rfl ⟨Nat.le_of_ble_eq_true rfl, Nat.le_of_ble_eq_true rfl⟩ (by exact Nat.le_of_ble_eq_true rfl) ⟨Nat.zero_le _, Nat.zero_le _⟩ dX10_segmentOf_1 rfl ?_
  refine g_istore_n 3 [(3, .int (nI (79 + 22 * s))), (0, .ref (a)), (1, .int (nI (s))), (2, .int (nI (4)))] dX10_segmentOf_4 rfl (Nat.le_of_ble_eq_true rfl) rfl ?_
  refine g_join 21 (b01 ((im m (a + 1)) (79 + 22 * s + 1) = 0)) ?_ (fun K_21 => ?_)
  · refine g_istore 4 [(4, .int (nI (b01 ((im m (a + 1)) (79 + 22 * s + 1) = 0)))), (3, .int (nI (79 + 22 * s))), (0, .ref (a)), (1, .int (nI (s))), (2, .int (nI (4)))] dX10_segmentOf_21 (Nat.le_of_ble_eq_true rfl) rfl ?_
    refine g_iload_n 2 dX10_segmentOf_23 rfl rfl ?_
    refine g_tableIn (off := 93) 117 dX10_segmentOf_24 (by decide) (by decide) (by decide) (by decide) ?_
    refine g_aload_n 0 dX10_segmentOf_117 rfl rfl ?_
    refine g_iload_n 1 dX10_segmentOf_118 rfl rfl ?_
    refine ge_callV _ _ _ (cn_X10_bestRow g (0, 0) hM hs hr.1 hR hrow) ⟨rfl, rfl⟩ (ok_X10_bestRow _) mlX10_72 in_X10_bestRow se_X10_bestRow 10 0 (hM.t) rfl rfl rfl ⟨Nat.le_of_ble_eq_true rfl, Nat.le_of_ble_eq_true rfl⟩ (by exact Nat.le_of_ble_eq_true rfl) ⟨Nat.zero_le _, Nat.zero_le _⟩ dX10_segmentOf_119 rfl (fun I1 hI1 => ?_)
    refine g_iret rfl dX10_segmentOf_122 ⟨Nat.zero_le _, Nat.zero_le _⟩ ?_
    exact ⟨rfl, I1, rfl, hI1.1⟩
  · refine g_aload_n 0 dX10_segmentOf_5 rfl rfl ?_
    refine gN_getR (a + 1) flX10_7 (fun _ _ _ => rfl) 0 (hM.t) (hM.r0) dX10_segmentOf_6 ?_
    refine g_iload_n 3 dX10_segmentOf_9 rfl rfl ?_
    refine gN_iconst 1 dX10_segmentOf_10 (by decide) ?_
    refine gN_iadd ((79 + 22 * s) + 1) dX10_segmentOf_11 rfl ?_
    refine gN_iald 689 (hM.t1) (by first | omega | exact b01_lt _) (by first | omega | exact b01_lt _) dX10_segmentOf_12 ?_
    refine g_if_ne 20 dX10_segmentOf_13 (by decide) (fun h_13 => ?_) (fun h_13 => ?_)
    · refine gN_iconst 0 dX10_segmentOf_20 (by decide) ?_
      exact g_ei (nI (b01 ((im m (a + 1)) (79 + 22 * s + 1) = 0))) (congrArg nI (show 0 = b01 ((im m (a + 1)) (79 + 22 * s + 1) = 0) from by first | exact (b01_t h_13).symm | exact (b01_f h_13).symm)) K_21
    · refine gN_iconst 1 dX10_segmentOf_16 (by decide) ?_
      refine g_goto 21 dX10_segmentOf_17 (by decide) ?_
      exact g_ei (nI (b01 ((im m (a + 1)) (79 + 22 * s + 1) = 0))) (congrArg nI (show 1 = b01 ((im m (a + 1)) (79 + 22 * s + 1) = 0) from by first | exact (b01_t h_13).symm | exact (b01_f h_13).symm)) K_21
set_option maxRecDepth 100000 in
theorem cn_X10_segmentOf5 (g : Gp) (cs : Nat × Nat) {m : Mm} {a : Nat} (hM : MdOk m a) {s : Nat} (hs : s < 10) (hr : RwOk (im m (a + 1)) (79 + 22 * s) 10) (hR : NR (im m (a + 1) 1) 0 30) (hrow : ∀ r, r < nv (im m (a + 1) 1) → NR (im m (a + 1) (299 + 13 * r)) 1 12) : En g (MX10_segmentOf cs) [.ref a, .int (nI s), .int (nI 5)] m (some (.int ((if (im m (a + 1)) (79 + 22 * s + 1) = 0 then -1 else (im m (a + 1)) (79 + 22 * s + 5 - 2))))) (sc a (im m)) := by
  refine Cn.of pn_X10 (Nat.le_of_ble_eq_true rfl) rfl ?_
  refine g_iload_n 1 dX10_segmentOf_0 rfl rfl ?_
  refine gd_callS _ _ _ _ (cn_X10_at g (0, 0) _ s) ⟨rfl, rfl⟩ (ok_X10_at _) mlX10_45 st_X10_at rfl ⟨Nat.le_of_ble_eq_true rfl, Nat.le_of_ble_eq_true rfl⟩ (by exact Nat.le_of_ble_eq_true rfl) ⟨Nat.zero_le _, Nat.zero_le _⟩ dX10_segmentOf_1 rfl ?_
  refine g_istore_n 3 [(3, .int (nI (79 + 22 * s))), (0, .ref (a)), (1, .int (nI (s))), (2, .int (nI (5)))] dX10_segmentOf_4 rfl (Nat.le_of_ble_eq_true rfl) rfl ?_
  refine g_join 21 (b01 ((im m (a + 1)) (79 + 22 * s + 1) = 0)) ?_ (fun K_21 => ?_)
  · refine g_istore 4 [(4, .int (nI (b01 ((im m (a + 1)) (79 + 22 * s + 1) = 0)))), (3, .int (nI (79 + 22 * s))), (0, .ref (a)), (1, .int (nI (s))), (2, .int (nI (5)))] dX10_segmentOf_21 (Nat.le_of_ble_eq_true rfl) rfl ?_
    refine g_iload_n 2 dX10_segmentOf_23 rfl rfl ?_
    refine g_tableIn (off := 99) 123 dX10_segmentOf_24 (by decide) (by decide) (by decide) (by decide) ?_
    refine g_iload 4 dX10_segmentOf_123 rfl ?_
    refine gN_if_eq 132 dX10_segmentOf_125 (by decide) (by first | omega | exact b01_lt _) (fun h_125 => ?_) (fun h_125 => ?_)
    · refine g_aload_n 0 dX10_segmentOf_132 rfl rfl ?_
      refine gN_getR (a + 1) flX10_7 (fun _ _ _ => rfl) 0 (hM.t) (hM.r0) dX10_segmentOf_133 ?_
      refine g_iload_n 3 dX10_segmentOf_136 rfl rfl ?_
      refine g_iload_n 2 dX10_segmentOf_137 rfl rfl ?_
      refine gN_iadd ((79 + 22 * s) + 5) dX10_segmentOf_138 rfl ?_
      refine gN_iconst 2 dX10_segmentOf_139 (by decide) ?_
      refine gN_isub (((79 + 22 * s) + 5) - 2) dX10_segmentOf_140 (by first | omega | exact b01_lt _) rfl ?_
      refine gN_iald 689 (hM.t1) (by first | omega | exact b01_lt _) (by first | omega | exact b01_lt _) dX10_segmentOf_141 ?_
      refine g_iret rfl dX10_segmentOf_142 ⟨Nat.zero_le _, Nat.zero_le _⟩ ?_
      refine ⟨vI ?_, im m, rfl, sc.rf⟩
      first | rw [if_pos (b01_n.mp h_125)] | rw [if_neg (b01_z.mp h_125)]
    · refine g_iconst (-1) dX10_segmentOf_128 (by decide) ?_
      refine g_goto 142 dX10_segmentOf_129 (by decide) ?_
      refine g_iret rfl dX10_segmentOf_142 ⟨Nat.zero_le _, Nat.zero_le _⟩ ?_
      refine ⟨vI ?_, im m, rfl, sc.rf⟩
      first | rw [if_pos (b01_n.mp h_125)] | rw [if_neg (b01_z.mp h_125)]
  · refine g_aload_n 0 dX10_segmentOf_5 rfl rfl ?_
    refine gN_getR (a + 1) flX10_7 (fun _ _ _ => rfl) 0 (hM.t) (hM.r0) dX10_segmentOf_6 ?_
    refine g_iload_n 3 dX10_segmentOf_9 rfl rfl ?_
    refine gN_iconst 1 dX10_segmentOf_10 (by decide) ?_
    refine gN_iadd ((79 + 22 * s) + 1) dX10_segmentOf_11 rfl ?_
    refine gN_iald 689 (hM.t1) (by first | omega | exact b01_lt _) (by first | omega | exact b01_lt _) dX10_segmentOf_12 ?_
    refine g_if_ne 20 dX10_segmentOf_13 (by decide) (fun h_13 => ?_) (fun h_13 => ?_)
    · refine gN_iconst 0 dX10_segmentOf_20 (by decide) ?_
      exact g_ei (nI (b01 ((im m (a + 1)) (79 + 22 * s + 1) = 0))) (congrArg nI (show 0 = b01 ((im m (a + 1)) (79 + 22 * s + 1) = 0) from by first | exact (b01_t h_13).symm | exact (b01_f h_13).symm)) K_21
    · refine gN_iconst 1 dX10_segmentOf_16 (by decide) ?_
      refine g_goto 21 dX10_segmentOf_17 (by decide) ?_
      exact g_ei (nI (b01 ((im m (a + 1)) (79 + 22 * s + 1) = 0))) (congrArg nI (show 1 = b01 ((im m (a + 1)) (79 + 22 * s + 1) = 0) from by first | exact (b01_t h_13).symm | exact (b01_f h_13).symm)) K_21
set_option maxRecDepth 100000 in
theorem cn_X10_segmentOf6 (g : Gp) (cs : Nat × Nat) {m : Mm} {a : Nat} (hM : MdOk m a) {s : Nat} (hs : s < 10) (hr : RwOk (im m (a + 1)) (79 + 22 * s) 10) (hR : NR (im m (a + 1) 1) 0 30) (hrow : ∀ r, r < nv (im m (a + 1) 1) → NR (im m (a + 1) (299 + 13 * r)) 1 12) : En g (MX10_segmentOf cs) [.ref a, .int (nI s), .int (nI 6)] m (some (.int ((if (im m (a + 1)) (79 + 22 * s + 1) = 0 then -1 else (im m (a + 1)) (79 + 22 * s + 6 - 2))))) (sc a (im m)) := by
  refine Cn.of pn_X10 (Nat.le_of_ble_eq_true rfl) rfl ?_
  refine g_iload_n 1 dX10_segmentOf_0 rfl rfl ?_
  refine gd_callS _ _ _ _ (cn_X10_at g (0, 0) _ s) ⟨rfl, rfl⟩ (ok_X10_at _) mlX10_45 st_X10_at rfl ⟨Nat.le_of_ble_eq_true rfl, Nat.le_of_ble_eq_true rfl⟩ (by exact Nat.le_of_ble_eq_true rfl) ⟨Nat.zero_le _, Nat.zero_le _⟩ dX10_segmentOf_1 rfl ?_
  refine g_istore_n 3 [(3, .int (nI (79 + 22 * s))), (0, .ref (a)), (1, .int (nI (s))), (2, .int (nI (6)))] dX10_segmentOf_4 rfl (Nat.le_of_ble_eq_true rfl) rfl ?_
  refine g_join 21 (b01 ((im m (a + 1)) (79 + 22 * s + 1) = 0)) ?_ (fun K_21 => ?_)
  · refine g_istore 4 [(4, .int (nI (b01 ((im m (a + 1)) (79 + 22 * s + 1) = 0)))), (3, .int (nI (79 + 22 * s))), (0, .ref (a)), (1, .int (nI (s))), (2, .int (nI (6)))] dX10_segmentOf_21 (Nat.le_of_ble_eq_true rfl) rfl ?_
    refine g_iload_n 2 dX10_segmentOf_23 rfl rfl ?_
    refine g_tableIn (off := 99) 123 dX10_segmentOf_24 (by decide) (by decide) (by decide) (by decide) ?_
    refine g_iload 4 dX10_segmentOf_123 rfl ?_
    refine gN_if_eq 132 dX10_segmentOf_125 (by decide) (by first | omega | exact b01_lt _) (fun h_125 => ?_) (fun h_125 => ?_)
    · refine g_aload_n 0 dX10_segmentOf_132 rfl rfl ?_
      refine gN_getR (a + 1) flX10_7 (fun _ _ _ => rfl) 0 (hM.t) (hM.r0) dX10_segmentOf_133 ?_
      refine g_iload_n 3 dX10_segmentOf_136 rfl rfl ?_
      refine g_iload_n 2 dX10_segmentOf_137 rfl rfl ?_
      refine gN_iadd ((79 + 22 * s) + 6) dX10_segmentOf_138 rfl ?_
      refine gN_iconst 2 dX10_segmentOf_139 (by decide) ?_
      refine gN_isub (((79 + 22 * s) + 6) - 2) dX10_segmentOf_140 (by first | omega | exact b01_lt _) rfl ?_
      refine gN_iald 689 (hM.t1) (by first | omega | exact b01_lt _) (by first | omega | exact b01_lt _) dX10_segmentOf_141 ?_
      refine g_iret rfl dX10_segmentOf_142 ⟨Nat.zero_le _, Nat.zero_le _⟩ ?_
      refine ⟨vI ?_, im m, rfl, sc.rf⟩
      first | rw [if_pos (b01_n.mp h_125)] | rw [if_neg (b01_z.mp h_125)]
    · refine g_iconst (-1) dX10_segmentOf_128 (by decide) ?_
      refine g_goto 142 dX10_segmentOf_129 (by decide) ?_
      refine g_iret rfl dX10_segmentOf_142 ⟨Nat.zero_le _, Nat.zero_le _⟩ ?_
      refine ⟨vI ?_, im m, rfl, sc.rf⟩
      first | rw [if_pos (b01_n.mp h_125)] | rw [if_neg (b01_z.mp h_125)]
  · refine g_aload_n 0 dX10_segmentOf_5 rfl rfl ?_
    refine gN_getR (a + 1) flX10_7 (fun _ _ _ => rfl) 0 (hM.t) (hM.r0) dX10_segmentOf_6 ?_
    refine g_iload_n 3 dX10_segmentOf_9 rfl rfl ?_
    refine gN_iconst 1 dX10_segmentOf_10 (by decide) ?_
    refine gN_iadd ((79 + 22 * s) + 1) dX10_segmentOf_11 rfl ?_
    refine gN_iald 689 (hM.t1) (by first | omega | exact b01_lt _) (by first | omega | exact b01_lt _) dX10_segmentOf_12 ?_
    refine g_if_ne 20 dX10_segmentOf_13 (by decide) (fun h_13 => ?_) (fun h_13 => ?_)
    · refine gN_iconst 0 dX10_segmentOf_20 (by decide) ?_
      exact g_ei (nI (b01 ((im m (a + 1)) (79 + 22 * s + 1) = 0))) (congrArg nI (show 0 = b01 ((im m (a + 1)) (79 + 22 * s + 1) = 0) from by first | exact (b01_t h_13).symm | exact (b01_f h_13).symm)) K_21
    · refine gN_iconst 1 dX10_segmentOf_16 (by decide) ?_
      refine g_goto 21 dX10_segmentOf_17 (by decide) ?_
      exact g_ei (nI (b01 ((im m (a + 1)) (79 + 22 * s + 1) = 0))) (congrArg nI (show 1 = b01 ((im m (a + 1)) (79 + 22 * s + 1) = 0) from by first | exact (b01_t h_13).symm | exact (b01_f h_13).symm)) K_21
set_option maxRecDepth 100000 in
theorem cn_X10_segmentOf7 (g : Gp) (cs : Nat × Nat) {m : Mm} {a : Nat} (hM : MdOk m a) {s : Nat} (hs : s < 10) (hr : RwOk (im m (a + 1)) (79 + 22 * s) 10) (hR : NR (im m (a + 1) 1) 0 30) (hrow : ∀ r, r < nv (im m (a + 1) 1) → NR (im m (a + 1) (299 + 13 * r)) 1 12) : En g (MX10_segmentOf cs) [.ref a, .int (nI s), .int (nI 7)] m (some (.int ((im m (a + 1)) (79 + 22 * s + 7 - 2)))) (sc a (im m)) := by
  refine Cn.of pn_X10 (Nat.le_of_ble_eq_true rfl) rfl ?_
  refine g_iload_n 1 dX10_segmentOf_0 rfl rfl ?_
  refine gd_callS _ _ _ _ (cn_X10_at g (0, 0) _ s) ⟨rfl, rfl⟩ (ok_X10_at _) mlX10_45 st_X10_at rfl ⟨Nat.le_of_ble_eq_true rfl, Nat.le_of_ble_eq_true rfl⟩ (by exact Nat.le_of_ble_eq_true rfl) ⟨Nat.zero_le _, Nat.zero_le _⟩ dX10_segmentOf_1 rfl ?_
  refine g_istore_n 3 [(3, .int (nI (79 + 22 * s))), (0, .ref (a)), (1, .int (nI (s))), (2, .int (nI (7)))] dX10_segmentOf_4 rfl (Nat.le_of_ble_eq_true rfl) rfl ?_
  refine g_join 21 (b01 ((im m (a + 1)) (79 + 22 * s + 1) = 0)) ?_ (fun K_21 => ?_)
  · refine g_istore 4 [(4, .int (nI (b01 ((im m (a + 1)) (79 + 22 * s + 1) = 0)))), (3, .int (nI (79 + 22 * s))), (0, .ref (a)), (1, .int (nI (s))), (2, .int (nI (7)))] dX10_segmentOf_21 (Nat.le_of_ble_eq_true rfl) rfl ?_
    refine g_iload_n 2 dX10_segmentOf_23 rfl rfl ?_
    refine g_tableIn (off := 119) 143 dX10_segmentOf_24 (by decide) (by decide) (by decide) (by decide) ?_
    refine g_aload_n 0 dX10_segmentOf_143 rfl rfl ?_
    refine gN_getR (a + 1) flX10_7 (fun _ _ _ => rfl) 0 (hM.t) (hM.r0) dX10_segmentOf_144 ?_
    refine g_iload_n 3 dX10_segmentOf_147 rfl rfl ?_
    refine g_iload_n 2 dX10_segmentOf_148 rfl rfl ?_
    refine gN_iadd ((79 + 22 * s) + 7) dX10_segmentOf_149 rfl ?_
    refine gN_iconst 2 dX10_segmentOf_150 (by decide) ?_
    refine gN_isub (((79 + 22 * s) + 7) - 2) dX10_segmentOf_151 (by first | omega | exact b01_lt _) rfl ?_
    refine gN_iald 689 (hM.t1) (by first | omega | exact b01_lt _) (by first | omega | exact b01_lt _) dX10_segmentOf_152 ?_
    refine g_iret rfl dX10_segmentOf_153 ⟨Nat.zero_le _, Nat.zero_le _⟩ ?_
    exact ⟨rfl, im m, rfl, sc.rf⟩
  · refine g_aload_n 0 dX10_segmentOf_5 rfl rfl ?_
    refine gN_getR (a + 1) flX10_7 (fun _ _ _ => rfl) 0 (hM.t) (hM.r0) dX10_segmentOf_6 ?_
    refine g_iload_n 3 dX10_segmentOf_9 rfl rfl ?_
    refine gN_iconst 1 dX10_segmentOf_10 (by decide) ?_
    refine gN_iadd ((79 + 22 * s) + 1) dX10_segmentOf_11 rfl ?_
    refine gN_iald 689 (hM.t1) (by first | omega | exact b01_lt _) (by first | omega | exact b01_lt _) dX10_segmentOf_12 ?_
    refine g_if_ne 20 dX10_segmentOf_13 (by decide) (fun h_13 => ?_) (fun h_13 => ?_)
    · refine gN_iconst 0 dX10_segmentOf_20 (by decide) ?_
      exact g_ei (nI (b01 ((im m (a + 1)) (79 + 22 * s + 1) = 0))) (congrArg nI (show 0 = b01 ((im m (a + 1)) (79 + 22 * s + 1) = 0) from by first | exact (b01_t h_13).symm | exact (b01_f h_13).symm)) K_21
    · refine gN_iconst 1 dX10_segmentOf_16 (by decide) ?_
      refine g_goto 21 dX10_segmentOf_17 (by decide) ?_
      exact g_ei (nI (b01 ((im m (a + 1)) (79 + 22 * s + 1) = 0))) (congrArg nI (show 1 = b01 ((im m (a + 1)) (79 + 22 * s + 1) = 0) from by first | exact (b01_t h_13).symm | exact (b01_f h_13).symm)) K_21
set_option maxRecDepth 100000 in
theorem cn_X10_segmentOf8 (g : Gp) (cs : Nat × Nat) {m : Mm} {a : Nat} (hM : MdOk m a) {s : Nat} (hs : s < 10) (hr : RwOk (im m (a + 1)) (79 + 22 * s) 10) (hR : NR (im m (a + 1) 1) 0 30) (hrow : ∀ r, r < nv (im m (a + 1) 1) → NR (im m (a + 1) (299 + 13 * r)) 1 12) : En g (MX10_segmentOf cs) [.ref a, .int (nI s), .int (nI 8)] m (some (.int ((im m (a + 1)) (79 + 22 * s + 8 - 2)))) (sc a (im m)) := by
  refine Cn.of pn_X10 (Nat.le_of_ble_eq_true rfl) rfl ?_
  refine g_iload_n 1 dX10_segmentOf_0 rfl rfl ?_
  refine gd_callS _ _ _ _ (cn_X10_at g (0, 0) _ s) ⟨rfl, rfl⟩ (ok_X10_at _) mlX10_45 st_X10_at rfl ⟨Nat.le_of_ble_eq_true rfl, Nat.le_of_ble_eq_true rfl⟩ (by exact Nat.le_of_ble_eq_true rfl) ⟨Nat.zero_le _, Nat.zero_le _⟩ dX10_segmentOf_1 rfl ?_
  refine g_istore_n 3 [(3, .int (nI (79 + 22 * s))), (0, .ref (a)), (1, .int (nI (s))), (2, .int (nI (8)))] dX10_segmentOf_4 rfl (Nat.le_of_ble_eq_true rfl) rfl ?_
  refine g_join 21 (b01 ((im m (a + 1)) (79 + 22 * s + 1) = 0)) ?_ (fun K_21 => ?_)
  · refine g_istore 4 [(4, .int (nI (b01 ((im m (a + 1)) (79 + 22 * s + 1) = 0)))), (3, .int (nI (79 + 22 * s))), (0, .ref (a)), (1, .int (nI (s))), (2, .int (nI (8)))] dX10_segmentOf_21 (Nat.le_of_ble_eq_true rfl) rfl ?_
    refine g_iload_n 2 dX10_segmentOf_23 rfl rfl ?_
    refine g_tableIn (off := 119) 143 dX10_segmentOf_24 (by decide) (by decide) (by decide) (by decide) ?_
    refine g_aload_n 0 dX10_segmentOf_143 rfl rfl ?_
    refine gN_getR (a + 1) flX10_7 (fun _ _ _ => rfl) 0 (hM.t) (hM.r0) dX10_segmentOf_144 ?_
    refine g_iload_n 3 dX10_segmentOf_147 rfl rfl ?_
    refine g_iload_n 2 dX10_segmentOf_148 rfl rfl ?_
    refine gN_iadd ((79 + 22 * s) + 8) dX10_segmentOf_149 rfl ?_
    refine gN_iconst 2 dX10_segmentOf_150 (by decide) ?_
    refine gN_isub (((79 + 22 * s) + 8) - 2) dX10_segmentOf_151 (by first | omega | exact b01_lt _) rfl ?_
    refine gN_iald 689 (hM.t1) (by first | omega | exact b01_lt _) (by first | omega | exact b01_lt _) dX10_segmentOf_152 ?_
    refine g_iret rfl dX10_segmentOf_153 ⟨Nat.zero_le _, Nat.zero_le _⟩ ?_
    exact ⟨rfl, im m, rfl, sc.rf⟩
  · refine g_aload_n 0 dX10_segmentOf_5 rfl rfl ?_
    refine gN_getR (a + 1) flX10_7 (fun _ _ _ => rfl) 0 (hM.t) (hM.r0) dX10_segmentOf_6 ?_
    refine g_iload_n 3 dX10_segmentOf_9 rfl rfl ?_
    refine gN_iconst 1 dX10_segmentOf_10 (by decide) ?_
    refine gN_iadd ((79 + 22 * s) + 1) dX10_segmentOf_11 rfl ?_
    refine gN_iald 689 (hM.t1) (by first | omega | exact b01_lt _) (by first | omega | exact b01_lt _) dX10_segmentOf_12 ?_
    refine g_if_ne 20 dX10_segmentOf_13 (by decide) (fun h_13 => ?_) (fun h_13 => ?_)
    · refine gN_iconst 0 dX10_segmentOf_20 (by decide) ?_
      exact g_ei (nI (b01 ((im m (a + 1)) (79 + 22 * s + 1) = 0))) (congrArg nI (show 0 = b01 ((im m (a + 1)) (79 + 22 * s + 1) = 0) from by first | exact (b01_t h_13).symm | exact (b01_f h_13).symm)) K_21
    · refine gN_iconst 1 dX10_segmentOf_16 (by decide) ?_
      refine g_goto 21 dX10_segmentOf_17 (by decide) ?_
      exact g_ei (nI (b01 ((im m (a + 1)) (79 + 22 * s + 1) = 0))) (congrArg nI (show 1 = b01 ((im m (a + 1)) (79 + 22 * s + 1) = 0) from by first | exact (b01_t h_13).symm | exact (b01_f h_13).symm)) K_21
set_option maxRecDepth 100000 in
theorem cn_X10_segmentOf9 (g : Gp) (cs : Nat × Nat) {m : Mm} {a : Nat} (hM : MdOk m a) {s : Nat} (hs : s < 10) (hr : RwOk (im m (a + 1)) (79 + 22 * s) 10) (hR : NR (im m (a + 1) 1) 0 30) (hrow : ∀ r, r < nv (im m (a + 1) 1) → NR (im m (a + 1) (299 + 13 * r)) 1 12) : En g (MX10_segmentOf cs) [.ref a, .int (nI s), .int (nI 9)] m (some (.int ((im m (a + 1)) (79 + 22 * s + 9 - 2)))) (sc a (im m)) := by
  refine Cn.of pn_X10 (Nat.le_of_ble_eq_true rfl) rfl ?_
  refine g_iload_n 1 dX10_segmentOf_0 rfl rfl ?_
  refine gd_callS _ _ _ _ (cn_X10_at g (0, 0) _ s) ⟨rfl, rfl⟩ (ok_X10_at _) mlX10_45 st_X10_at rfl ⟨Nat.le_of_ble_eq_true rfl, Nat.le_of_ble_eq_true rfl⟩ (by exact Nat.le_of_ble_eq_true rfl) ⟨Nat.zero_le _, Nat.zero_le _⟩ dX10_segmentOf_1 rfl ?_
  refine g_istore_n 3 [(3, .int (nI (79 + 22 * s))), (0, .ref (a)), (1, .int (nI (s))), (2, .int (nI (9)))] dX10_segmentOf_4 rfl (Nat.le_of_ble_eq_true rfl) rfl ?_
  refine g_join 21 (b01 ((im m (a + 1)) (79 + 22 * s + 1) = 0)) ?_ (fun K_21 => ?_)
  · refine g_istore 4 [(4, .int (nI (b01 ((im m (a + 1)) (79 + 22 * s + 1) = 0)))), (3, .int (nI (79 + 22 * s))), (0, .ref (a)), (1, .int (nI (s))), (2, .int (nI (9)))] dX10_segmentOf_21 (Nat.le_of_ble_eq_true rfl) rfl ?_
    refine g_iload_n 2 dX10_segmentOf_23 rfl rfl ?_
    refine g_tableIn (off := 119) 143 dX10_segmentOf_24 (by decide) (by decide) (by decide) (by decide) ?_
    refine g_aload_n 0 dX10_segmentOf_143 rfl rfl ?_
    refine gN_getR (a + 1) flX10_7 (fun _ _ _ => rfl) 0 (hM.t) (hM.r0) dX10_segmentOf_144 ?_
    refine g_iload_n 3 dX10_segmentOf_147 rfl rfl ?_
    refine g_iload_n 2 dX10_segmentOf_148 rfl rfl ?_
    refine gN_iadd ((79 + 22 * s) + 9) dX10_segmentOf_149 rfl ?_
    refine gN_iconst 2 dX10_segmentOf_150 (by decide) ?_
    refine gN_isub (((79 + 22 * s) + 9) - 2) dX10_segmentOf_151 (by first | omega | exact b01_lt _) rfl ?_
    refine gN_iald 689 (hM.t1) (by first | omega | exact b01_lt _) (by first | omega | exact b01_lt _) dX10_segmentOf_152 ?_
    refine g_iret rfl dX10_segmentOf_153 ⟨Nat.zero_le _, Nat.zero_le _⟩ ?_
    exact ⟨rfl, im m, rfl, sc.rf⟩
  · refine g_aload_n 0 dX10_segmentOf_5 rfl rfl ?_
    refine gN_getR (a + 1) flX10_7 (fun _ _ _ => rfl) 0 (hM.t) (hM.r0) dX10_segmentOf_6 ?_
    refine g_iload_n 3 dX10_segmentOf_9 rfl rfl ?_
    refine gN_iconst 1 dX10_segmentOf_10 (by decide) ?_
    refine gN_iadd ((79 + 22 * s) + 1) dX10_segmentOf_11 rfl ?_
    refine gN_iald 689 (hM.t1) (by first | omega | exact b01_lt _) (by first | omega | exact b01_lt _) dX10_segmentOf_12 ?_
    refine g_if_ne 20 dX10_segmentOf_13 (by decide) (fun h_13 => ?_) (fun h_13 => ?_)
    · refine gN_iconst 0 dX10_segmentOf_20 (by decide) ?_
      exact g_ei (nI (b01 ((im m (a + 1)) (79 + 22 * s + 1) = 0))) (congrArg nI (show 0 = b01 ((im m (a + 1)) (79 + 22 * s + 1) = 0) from by first | exact (b01_t h_13).symm | exact (b01_f h_13).symm)) K_21
    · refine gN_iconst 1 dX10_segmentOf_16 (by decide) ?_
      refine g_goto 21 dX10_segmentOf_17 (by decide) ?_
      exact g_ei (nI (b01 ((im m (a + 1)) (79 + 22 * s + 1) = 0))) (congrArg nI (show 1 = b01 ((im m (a + 1)) (79 + 22 * s + 1) = 0) from by first | exact (b01_t h_13).symm | exact (b01_f h_13).symm)) K_21
set_option maxRecDepth 100000 in
theorem cn_X10_segmentOf10 (g : Gp) (cs : Nat × Nat) {m : Mm} {a : Nat} (hM : MdOk m a) {s : Nat} (hs : s < 10) (hr : RwOk (im m (a + 1)) (79 + 22 * s) 10) (hR : NR (im m (a + 1) 1) 0 30) (hrow : ∀ r, r < nv (im m (a + 1) 1) → NR (im m (a + 1) (299 + 13 * r)) 1 12) : En g (MX10_segmentOf cs) [.ref a, .int (nI s), .int (nI 10)] m (some (.int ((im m (a + 1)) (79 + 22 * s + 10 - 2)))) (sc a (im m)) := by
  refine Cn.of pn_X10 (Nat.le_of_ble_eq_true rfl) rfl ?_
  refine g_iload_n 1 dX10_segmentOf_0 rfl rfl ?_
  refine gd_callS _ _ _ _ (cn_X10_at g (0, 0) _ s) ⟨rfl, rfl⟩ (ok_X10_at _) mlX10_45 st_X10_at rfl ⟨Nat.le_of_ble_eq_true rfl, Nat.le_of_ble_eq_true rfl⟩ (by exact Nat.le_of_ble_eq_true rfl) ⟨Nat.zero_le _, Nat.zero_le _⟩ dX10_segmentOf_1 rfl ?_
  refine g_istore_n 3 [(3, .int (nI (79 + 22 * s))), (0, .ref (a)), (1, .int (nI (s))), (2, .int (nI (10)))] dX10_segmentOf_4 rfl (Nat.le_of_ble_eq_true rfl) rfl ?_
  refine g_join 21 (b01 ((im m (a + 1)) (79 + 22 * s + 1) = 0)) ?_ (fun K_21 => ?_)
  · refine g_istore 4 [(4, .int (nI (b01 ((im m (a + 1)) (79 + 22 * s + 1) = 0)))), (3, .int (nI (79 + 22 * s))), (0, .ref (a)), (1, .int (nI (s))), (2, .int (nI (10)))] dX10_segmentOf_21 (Nat.le_of_ble_eq_true rfl) rfl ?_
    refine g_iload_n 2 dX10_segmentOf_23 rfl rfl ?_
    refine g_tableIn (off := 119) 143 dX10_segmentOf_24 (by decide) (by decide) (by decide) (by decide) ?_
    refine g_aload_n 0 dX10_segmentOf_143 rfl rfl ?_
    refine gN_getR (a + 1) flX10_7 (fun _ _ _ => rfl) 0 (hM.t) (hM.r0) dX10_segmentOf_144 ?_
    refine g_iload_n 3 dX10_segmentOf_147 rfl rfl ?_
    refine g_iload_n 2 dX10_segmentOf_148 rfl rfl ?_
    refine gN_iadd ((79 + 22 * s) + 10) dX10_segmentOf_149 rfl ?_
    refine gN_iconst 2 dX10_segmentOf_150 (by decide) ?_
    refine gN_isub (((79 + 22 * s) + 10) - 2) dX10_segmentOf_151 (by first | omega | exact b01_lt _) rfl ?_
    refine gN_iald 689 (hM.t1) (by first | omega | exact b01_lt _) (by first | omega | exact b01_lt _) dX10_segmentOf_152 ?_
    refine g_iret rfl dX10_segmentOf_153 ⟨Nat.zero_le _, Nat.zero_le _⟩ ?_
    exact ⟨rfl, im m, rfl, sc.rf⟩
  · refine g_aload_n 0 dX10_segmentOf_5 rfl rfl ?_
    refine gN_getR (a + 1) flX10_7 (fun _ _ _ => rfl) 0 (hM.t) (hM.r0) dX10_segmentOf_6 ?_
    refine g_iload_n 3 dX10_segmentOf_9 rfl rfl ?_
    refine gN_iconst 1 dX10_segmentOf_10 (by decide) ?_
    refine gN_iadd ((79 + 22 * s) + 1) dX10_segmentOf_11 rfl ?_
    refine gN_iald 689 (hM.t1) (by first | omega | exact b01_lt _) (by first | omega | exact b01_lt _) dX10_segmentOf_12 ?_
    refine g_if_ne 20 dX10_segmentOf_13 (by decide) (fun h_13 => ?_) (fun h_13 => ?_)
    · refine gN_iconst 0 dX10_segmentOf_20 (by decide) ?_
      exact g_ei (nI (b01 ((im m (a + 1)) (79 + 22 * s + 1) = 0))) (congrArg nI (show 0 = b01 ((im m (a + 1)) (79 + 22 * s + 1) = 0) from by first | exact (b01_t h_13).symm | exact (b01_f h_13).symm)) K_21
    · refine gN_iconst 1 dX10_segmentOf_16 (by decide) ?_
      refine g_goto 21 dX10_segmentOf_17 (by decide) ?_
      exact g_ei (nI (b01 ((im m (a + 1)) (79 + 22 * s + 1) = 0))) (congrArg nI (show 1 = b01 ((im m (a + 1)) (79 + 22 * s + 1) = 0) from by first | exact (b01_t h_13).symm | exact (b01_f h_13).symm)) K_21
set_option maxRecDepth 100000 in
theorem cn_X10_segmentOf11 (g : Gp) (cs : Nat × Nat) {m : Mm} {a : Nat} (hM : MdOk m a) {s : Nat} (hs : s < 10) (hr : RwOk (im m (a + 1)) (79 + 22 * s) 10) (hR : NR (im m (a + 1) 1) 0 30) (hrow : ∀ r, r < nv (im m (a + 1) 1) → NR (im m (a + 1) (299 + 13 * r)) 1 12) : En g (MX10_segmentOf cs) [.ref a, .int (nI s), .int (nI 11)] m (some (.int (nI (b01 (hdp (im m (a + 1)) (79 + 22 * s)))))) (sc a (im m)) := by
  refine Cn.of pn_X10 (Nat.le_of_ble_eq_true rfl) rfl ?_
  refine g_iload_n 1 dX10_segmentOf_0 rfl rfl ?_
  refine gd_callS _ _ _ _ (cn_X10_at g (0, 0) _ s) ⟨rfl, rfl⟩ (ok_X10_at _) mlX10_45 st_X10_at rfl ⟨Nat.le_of_ble_eq_true rfl, Nat.le_of_ble_eq_true rfl⟩ (by exact Nat.le_of_ble_eq_true rfl) ⟨Nat.zero_le _, Nat.zero_le _⟩ dX10_segmentOf_1 rfl ?_
  refine g_istore_n 3 [(3, .int (nI (79 + 22 * s))), (0, .ref (a)), (1, .int (nI (s))), (2, .int (nI (11)))] dX10_segmentOf_4 rfl (Nat.le_of_ble_eq_true rfl) rfl ?_
  refine g_join 21 (b01 ((im m (a + 1)) (79 + 22 * s + 1) = 0)) ?_ (fun K_21 => ?_)
  · refine g_istore 4 [(4, .int (nI (b01 ((im m (a + 1)) (79 + 22 * s + 1) = 0)))), (3, .int (nI (79 + 22 * s))), (0, .ref (a)), (1, .int (nI (s))), (2, .int (nI (11)))] dX10_segmentOf_21 (Nat.le_of_ble_eq_true rfl) rfl ?_
    refine g_iload_n 2 dX10_segmentOf_23 rfl rfl ?_
    refine g_tableOut 154 dX10_segmentOf_24 (by decide) (by decide) ?_
    refine g_join 167 (b01 (hdp (im m (a + 1)) (79 + 22 * s))) ?_ (fun K_167 => ?_)
    · refine g_iret rfl dX10_segmentOf_167 ⟨Nat.zero_le _, Nat.zero_le _⟩ ?_
      exact ⟨rfl, im m, rfl, sc.rf⟩
    · refine g_aload_n 0 dX10_segmentOf_154 rfl rfl ?_
      refine g_iload_n 1 dX10_segmentOf_155 rfl rfl ?_
      refine gd_callV _ _ _ _ (cn_X10_hasDisputed g (0, 0) hM hs hr) ⟨rfl, rfl⟩ (ok_X10_hasDisputed _) mlX10_113 in_X10_hasDisputed se_X10_hasDisputed 10 0 (hM.t) rfl rfl rfl ⟨Nat.le_of_ble_eq_true rfl, Nat.le_of_ble_eq_true rfl⟩ (by exact Nat.le_of_ble_eq_true rfl) ⟨Nat.zero_le _, Nat.zero_le _⟩ dX10_segmentOf_156 rfl ?_
      refine gN_if_eq 166 dX10_segmentOf_159 (by decide) (by first | omega | exact b01_lt _) (fun h_159 => ?_) (fun h_159 => ?_)
      · refine gN_iconst 0 dX10_segmentOf_166 (by decide) ?_
        exact g_ei (nI (b01 (hdp (im m (a + 1)) (79 + 22 * s)))) (congrArg nI (show 0 = b01 (hdp (im m (a + 1)) (79 + 22 * s)) from by first | (show 1 = b01 (hdp (im m (a + 1)) (79 + 22 * s)); have := b01_le (hdp (im m (a + 1)) (79 + 22 * s)); omega) | (show 0 = b01 (hdp (im m (a + 1)) (79 + 22 * s)); omega))) K_167
      · refine gN_iconst 1 dX10_segmentOf_162 (by decide) ?_
        refine g_goto 167 dX10_segmentOf_163 (by decide) ?_
        exact g_ei (nI (b01 (hdp (im m (a + 1)) (79 + 22 * s)))) (congrArg nI (show 1 = b01 (hdp (im m (a + 1)) (79 + 22 * s)) from by first | (show 1 = b01 (hdp (im m (a + 1)) (79 + 22 * s)); have := b01_le (hdp (im m (a + 1)) (79 + 22 * s)); omega) | (show 0 = b01 (hdp (im m (a + 1)) (79 + 22 * s)); omega))) K_167
  · refine g_aload_n 0 dX10_segmentOf_5 rfl rfl ?_
    refine gN_getR (a + 1) flX10_7 (fun _ _ _ => rfl) 0 (hM.t) (hM.r0) dX10_segmentOf_6 ?_
    refine g_iload_n 3 dX10_segmentOf_9 rfl rfl ?_
    refine gN_iconst 1 dX10_segmentOf_10 (by decide) ?_
    refine gN_iadd ((79 + 22 * s) + 1) dX10_segmentOf_11 rfl ?_
    refine gN_iald 689 (hM.t1) (by first | omega | exact b01_lt _) (by first | omega | exact b01_lt _) dX10_segmentOf_12 ?_
    refine g_if_ne 20 dX10_segmentOf_13 (by decide) (fun h_13 => ?_) (fun h_13 => ?_)
    · refine gN_iconst 0 dX10_segmentOf_20 (by decide) ?_
      exact g_ei (nI (b01 ((im m (a + 1)) (79 + 22 * s + 1) = 0))) (congrArg nI (show 0 = b01 ((im m (a + 1)) (79 + 22 * s + 1) = 0) from by first | exact (b01_t h_13).symm | exact (b01_f h_13).symm)) K_21
    · refine gN_iconst 1 dX10_segmentOf_16 (by decide) ?_
      refine g_goto 21 dX10_segmentOf_17 (by decide) ?_
      exact g_ei (nI (b01 ((im m (a + 1)) (79 + 22 * s + 1) = 0))) (congrArg nI (show 1 = b01 ((im m (a + 1)) (79 + 22 * s + 1) = 0) from by first | exact (b01_t h_13).symm | exact (b01_f h_13).symm)) K_21
theorem cn_X10_segmentOf (g : Gp) (cs : Nat × Nat) {m : Mm} {a : Nat} (hM : MdOk m a) {s : Nat} (hs : s < 10) (hr : RwOk (im m (a + 1)) (79 + 22 * s) 10) (hR : NR (im m (a + 1) 1) 0 30) (hrow : ∀ r, r < nv (im m (a + 1) 1) → NR (im m (a + 1) (299 + 13 * r)) 1 12) {w : Nat} (hw : w ≤ 11) : En g (MX10_segmentOf cs) [.ref a, .int (nI s), .int (nI w)] m (some (.int (segV (im m (a + 1)) s w))) (sc a (im m)) := by
  rcases (show w = 0 ∨ w = 1 ∨ w = 2 ∨ w = 3 ∨ w = 4 ∨ w = 5 ∨ w = 6 ∨ w = 7 ∨ w = 8 ∨ w = 9 ∨ w = 10 ∨ w = 11 by omega) with rfl | rfl | rfl | rfl | rfl | rfl | rfl | rfl | rfl | rfl | rfl | rfl
  · exact cn_X10_segmentOf0 g cs hM hs hr hR hrow
  · exact cn_X10_segmentOf1 g cs hM hs hr hR hrow
  · exact cn_X10_segmentOf2 g cs hM hs hr hR hrow
  · exact cn_X10_segmentOf3 g cs hM hs hr hR hrow
  · exact cn_X10_segmentOf4 g cs hM hs hr hR hrow
  · exact cn_X10_segmentOf5 g cs hM hs hr hR hrow
  · exact cn_X10_segmentOf6 g cs hM hs hr hR hrow
  · exact cn_X10_segmentOf7 g cs hM hs hr hR hrow
  · exact cn_X10_segmentOf8 g cs hM hs hr hR hrow
  · exact cn_X10_segmentOf9 g cs hM hs hr hR hrow
  · exact cn_X10_segmentOf10 g cs hM hs hr hR hrow
  · exact cn_X10_segmentOf11 g cs hM hs hr hR hrow
set_option maxRecDepth 100000 in
theorem cn_X10_paidOf (g : Gp) (cs : Nat × Nat) {m : Mm} {a : Nat} (hM : MdOk m a) {s : Nat} (hs : s < 10) (hr : RwOk (im m (a + 1)) (79 + 22 * s) 10) (hR : NR (im m (a + 1) 1) 0 30) (hrow : ∀ r, r < nv (im m (a + 1) 1) → NR (im m (a + 1) (299 + 13 * r)) 1 12) (hb : ∀ b, b < 5 → NR (im m (a + 1) (64 + 3 * b)) 0 100) {t : Nat} (ht : t < 4) : En g (MX10_paidOf cs) [.ref a, .int (nI s), .int (nI t)] m (some (.int (payV (im m (a + 1)) (79 + 22 * s) t (pctV (im m (a + 1)) (79 + 22 * s))))) (sc a (im m)) := by
  have hb4 := bandOf_le (mtc (im m (a + 1)) (79 + 22 * s))
  by_cases hz : (im m (a + 1)) (79 + 22 * s + 1) = 0
  · refine Cn.of pn_X10 (Nat.le_of_ble_eq_true rfl) rfl ?_
    refine g_aload_n 0 dX10_paidOf_0 rfl rfl ?_
    refine gN_getR (a + 1) flX10_7 (fun _ _ _ => rfl) 0 (hM.t) (hM.r0) dX10_paidOf_1 ?_
    refine g_iload_n 1 dX10_paidOf_4 rfl rfl ?_
    refine gd_callS _ _ _ _ (cn_X10_at g (0, 0) _ s) ⟨rfl, rfl⟩ (ok_X10_at _) mlX10_45 st_X10_at rfl ⟨Nat.le_of_ble_eq_true rfl, Nat.le_of_ble_eq_true rfl⟩ (by exact Nat.le_of_ble_eq_true rfl) ⟨Nat.zero_le _, Nat.zero_le _⟩ dX10_paidOf_5 rfl ?_
    refine gN_iconst 1 dX10_paidOf_8 (by decide) ?_
    refine gN_iadd ((79 + 22 * s) + 1) dX10_paidOf_9 rfl ?_
    refine gN_iald 689 (hM.t1) (by first | omega | exact b01_lt _) (by first | omega | exact b01_lt _) dX10_paidOf_10 ?_
    refine g_if_ne 22 dX10_paidOf_11 (by decide) (fun h_11 => ?_) (fun h_11 => ?_)
    · exact absurd hz h_11
    · refine g_aload_n 0 dX10_paidOf_14 rfl rfl ?_
      refine g_iload_n 1 dX10_paidOf_15 rfl rfl ?_
      refine ge_callV _ _ _ (cn_X10_partNow g (0, 0) hM hs hr.1 hR hrow) ⟨rfl, rfl⟩ (ok_X10_partNow _) mlX10_207 in_X10_partNow se_X10_partNow 10 0 (hM.t) rfl rfl rfl ⟨Nat.le_of_ble_eq_true rfl, Nat.le_of_ble_eq_true rfl⟩ (by exact Nat.le_of_ble_eq_true rfl) ⟨Nat.zero_le _, Nat.zero_le _⟩ dX10_paidOf_16 rfl (fun I1 hI1 => ?_)
      refine g_goto 33 dX10_paidOf_19 (by decide) ?_
      refine g_topi (fun q eq => ?_)
      refine g_istore_n 3 [(3, .int (q)), (0, .ref (a)), (1, .int (nI (s))), (2, .int (nI (t)))] dX10_paidOf_33 rfl (Nat.le_of_ble_eq_true rfl) rfl ?_
      refine g_aload_n 0 dX10_paidOf_34 rfl rfl ?_
      refine gN_getR (a + 1) flX10_7 (fun _ _ _ => rfl) 0 (hM.t) (hM.r0) dX10_paidOf_35 ?_
      refine g_iload_n 1 dX10_paidOf_38 rfl rfl ?_
      refine gd_callS _ _ _ _ (cn_X10_at g (0, 0) _ s) ⟨rfl, rfl⟩ (ok_X10_at _) mlX10_45 st_X10_at rfl ⟨Nat.le_of_ble_eq_true rfl, Nat.le_of_ble_eq_true rfl⟩ (by exact Nat.le_of_ble_eq_true rfl) ⟨Nat.zero_le _, Nat.zero_le _⟩ dX10_paidOf_39 rfl ?_
      refine gN_iald 689 (hM.t1) (by first | omega | exact b01_lt _) (by first | omega | exact b01_lt _) dX10_paidOf_42 ?_
      refine g_aload_n 0 dX10_paidOf_43 rfl rfl ?_
      refine gN_getR (a + 1) flX10_7 (fun _ _ _ => rfl) 0 (hM.t) (hM.r0) dX10_paidOf_44 ?_
      refine g_iload_n 2 dX10_paidOf_47 rfl rfl ?_
      refine gd_callS _ _ _ _ (cn_X10_person g (0, 0) _ t) ⟨rfl, rfl⟩ (ok_X10_person _) mlX10_101 st_X10_person rfl ⟨Nat.le_of_ble_eq_true rfl, Nat.le_of_ble_eq_true rfl⟩ (by exact Nat.le_of_ble_eq_true rfl) ⟨Nat.zero_le _, Nat.zero_le _⟩ dX10_paidOf_48 rfl ?_
      refine gN_iald 689 (hM.t1) (by first | omega | exact b01_lt _) (by first | omega | exact b01_lt _) dX10_paidOf_51 ?_
      refine g_imul dX10_paidOf_52 ?_
      refine g_iload_n 3 dX10_paidOf_53 rfl rfl ?_
      refine g_imul dX10_paidOf_54 ?_
      refine gN_bipush 100 dX10_paidOf_55 (by decide) ?_
      refine g_idiv dX10_paidOf_57 (by decide) ?_
      refine g_iret rfl dX10_paidOf_58 ⟨Nat.zero_le _, Nat.zero_le _⟩ ?_
      refine ⟨vI ?_, I1, rfl, hI1⟩
      rw [eq]
      unfold payV pctV
      rw [if_pos hz]
      show I1 (a + 1) _ * I1 (a + 1) _ * _ / _ = _
      rw [hI1.zz, hI1.zz]
  · refine Cn.of pn_X10 (Nat.le_of_ble_eq_true rfl) rfl ?_
    refine g_aload_n 0 dX10_paidOf_0 rfl rfl ?_
    refine gN_getR (a + 1) flX10_7 (fun _ _ _ => rfl) 0 (hM.t) (hM.r0) dX10_paidOf_1 ?_
    refine g_iload_n 1 dX10_paidOf_4 rfl rfl ?_
    refine gd_callS _ _ _ _ (cn_X10_at g (0, 0) _ s) ⟨rfl, rfl⟩ (ok_X10_at _) mlX10_45 st_X10_at rfl ⟨Nat.le_of_ble_eq_true rfl, Nat.le_of_ble_eq_true rfl⟩ (by exact Nat.le_of_ble_eq_true rfl) ⟨Nat.zero_le _, Nat.zero_le _⟩ dX10_paidOf_5 rfl ?_
    refine gN_iconst 1 dX10_paidOf_8 (by decide) ?_
    refine gN_iadd ((79 + 22 * s) + 1) dX10_paidOf_9 rfl ?_
    refine gN_iald 689 (hM.t1) (by first | omega | exact b01_lt _) (by first | omega | exact b01_lt _) dX10_paidOf_10 ?_
    refine g_if_ne 22 dX10_paidOf_11 (by decide) (fun h_11 => ?_) (fun h_11 => ?_)
    · refine g_aload_n 0 dX10_paidOf_22 rfl rfl ?_
      refine gN_getR (a + 1) flX10_7 (fun _ _ _ => rfl) 0 (hM.t) (hM.r0) dX10_paidOf_23 ?_
      refine g_iload_n 1 dX10_paidOf_26 rfl rfl ?_
      refine gd_callS _ _ _ _ (cn_X10_at g (0, 0) _ s) ⟨rfl, rfl⟩ (ok_X10_at _) mlX10_45 st_X10_at rfl ⟨Nat.le_of_ble_eq_true rfl, Nat.le_of_ble_eq_true rfl⟩ (by exact Nat.le_of_ble_eq_true rfl) ⟨Nat.zero_le _, Nat.zero_le _⟩ dX10_paidOf_27 rfl ?_
      refine gN_iconst 4 dX10_paidOf_30 (by decide) ?_
      refine gN_iadd ((79 + 22 * s) + 4) dX10_paidOf_31 rfl ?_
      refine gN_iald 689 (hM.t1) (by first | omega | exact b01_lt _) (by first | omega | exact b01_lt _) dX10_paidOf_32 ?_
      refine g_topi (fun q eq => ?_)
      refine g_istore_n 3 [(3, .int (q)), (0, .ref (a)), (1, .int (nI (s))), (2, .int (nI (t)))] dX10_paidOf_33 rfl (Nat.le_of_ble_eq_true rfl) rfl ?_
      refine g_aload_n 0 dX10_paidOf_34 rfl rfl ?_
      refine gN_getR (a + 1) flX10_7 (fun _ _ _ => rfl) 0 (hM.t) (hM.r0) dX10_paidOf_35 ?_
      refine g_iload_n 1 dX10_paidOf_38 rfl rfl ?_
      refine gd_callS _ _ _ _ (cn_X10_at g (0, 0) _ s) ⟨rfl, rfl⟩ (ok_X10_at _) mlX10_45 st_X10_at rfl ⟨Nat.le_of_ble_eq_true rfl, Nat.le_of_ble_eq_true rfl⟩ (by exact Nat.le_of_ble_eq_true rfl) ⟨Nat.zero_le _, Nat.zero_le _⟩ dX10_paidOf_39 rfl ?_
      refine gN_iald 689 (hM.t1) (by first | omega | exact b01_lt _) (by first | omega | exact b01_lt _) dX10_paidOf_42 ?_
      refine g_aload_n 0 dX10_paidOf_43 rfl rfl ?_
      refine gN_getR (a + 1) flX10_7 (fun _ _ _ => rfl) 0 (hM.t) (hM.r0) dX10_paidOf_44 ?_
      refine g_iload_n 2 dX10_paidOf_47 rfl rfl ?_
      refine gd_callS _ _ _ _ (cn_X10_person g (0, 0) _ t) ⟨rfl, rfl⟩ (ok_X10_person _) mlX10_101 st_X10_person rfl ⟨Nat.le_of_ble_eq_true rfl, Nat.le_of_ble_eq_true rfl⟩ (by exact Nat.le_of_ble_eq_true rfl) ⟨Nat.zero_le _, Nat.zero_le _⟩ dX10_paidOf_48 rfl ?_
      refine gN_iald 689 (hM.t1) (by first | omega | exact b01_lt _) (by first | omega | exact b01_lt _) dX10_paidOf_51 ?_
      refine g_imul dX10_paidOf_52 ?_
      refine g_iload_n 3 dX10_paidOf_53 rfl rfl ?_
      refine g_imul dX10_paidOf_54 ?_
      refine gN_bipush 100 dX10_paidOf_55 (by decide) ?_
      refine g_idiv dX10_paidOf_57 (by decide) ?_
      refine g_iret rfl dX10_paidOf_58 ⟨Nat.zero_le _, Nat.zero_le _⟩ ?_
      refine ⟨vI ?_, im m, rfl, sc.rf⟩
      rw [eq]
      unfold payV pctV
      rw [if_neg hz]
    · exact absurd h_11 hz
set_option maxRecDepth 100000 in
theorem cn_X10_segment_1 (g : Gp) (cs : Nat × Nat) {m : Mm} {a : Nat} (hM : MdOk m a) {N : Nat} (hN : im m (a + 1) 0 = nI N) (hN9 : N ≤ 10) {p x : Int32} (h : ¬ inb p N) : En g (MX10_segment cs) [.ref (a), .int (p), .int (x)] m (some (.int (nI 0))) (sc a (th m a 1)) := by
  refine Cn.of pn_X10 (Nat.le_of_ble_eq_true rfl) rfl ?_
  refine g_aload_n 0 dX10_segment_0 rfl rfl ?_
  refine gN_iconst 0 dX10_segment_1 (by decide) ?_
  refine gN_putI fwX10_34 rfl 0 (hM.t) dX10_segment_2 ?_
  refine g_aload_n 0 dX10_segment_5 rfl rfl ?_
  refine g_iload_n 1 dX10_segment_6 rfl rfl ?_
  refine gd_callV _ _ _ _ (cn_X10_isSegment g (0, 0) (m := sI m a 6 (nI 0)) hM (N := N) ((th_z m a 0 0).trans hN) (by omega) (p)) ⟨rfl, rfl⟩ (ok_X10_isSegment _) mlX10_107 in_X10_isSegment se_X10_isSegment 10 0 (hM.t) rfl rfl rfl ⟨Nat.le_of_ble_eq_true rfl, Nat.le_of_ble_eq_true rfl⟩ (by exact Nat.le_of_ble_eq_true rfl) ⟨Nat.zero_le _, Nat.zero_le _⟩ dX10_segment_7 rfl ?_
  refine gN_if_ne 19 dX10_segment_10 (by decide) (by first | omega | exact b01_lt _) (fun h_10 => ?_) (fun h_10 => ?_)
  · exact False.elim (h (b01_n.mp h_10))
  · refine g_aload_n 0 dX10_segment_13 rfl rfl ?_
    refine gN_iconst 1 dX10_segment_14 (by decide) ?_
    refine gd_callV _ _ _ _ (cn_X10_fails g (0, 0) (m := sI m a 6 (nI 0)) hM (nI (1))) ⟨rfl, rfl⟩ (ok_X10_fails _) mlX10_95 in_X10_fails se_X10_fails 10 0 (hM.t) rfl rfl rfl ⟨Nat.le_of_ble_eq_true rfl, Nat.le_of_ble_eq_true rfl⟩ (by exact Nat.le_of_ble_eq_true rfl) ⟨Nat.zero_le _, Nat.zero_le _⟩ dX10_segment_15 rfl ?_
    refine g_iret rfl dX10_segment_18 ⟨Nat.zero_le _, Nat.zero_le _⟩ ?_
    exact ⟨rfl, _, rfl, by rw [show im (sI m a 6 (nI 0)) = th m a 0 from rfl, th_th]; exact sc.rf⟩
set_option maxRecDepth 100000 in
theorem cn_X10_segment_2 (g : Gp) (cs : Nat × Nat) {m : Mm} {a : Nat} (hM : MdOk m a) {N : Nat} (hN : im m (a + 1) 0 = nI N) (hN9 : N ≤ 10) {s : Nat} (hs : s < N) {x : Int32} (h : ¬ inb x 12) : En g (MX10_segment cs) [.ref (a), .int (nI (s)), .int (x)] m (some (.int (nI 0))) (sc a (th m a 2)) := by
  refine Cn.of pn_X10 (Nat.le_of_ble_eq_true rfl) rfl ?_
  refine g_aload_n 0 dX10_segment_0 rfl rfl ?_
  refine gN_iconst 0 dX10_segment_1 (by decide) ?_
  refine gN_putI fwX10_34 rfl 0 (hM.t) dX10_segment_2 ?_
  refine g_aload_n 0 dX10_segment_5 rfl rfl ?_
  refine g_iload_n 1 dX10_segment_6 rfl rfl ?_
  refine gd_callV _ _ _ _ (cn_X10_isSegment g (0, 0) (m := sI m a 6 (nI 0)) hM (N := N) ((th_z m a 0 0).trans hN) (by omega) (nI (s))) ⟨rfl, rfl⟩ (ok_X10_isSegment _) mlX10_107 in_X10_isSegment se_X10_isSegment 10 0 (hM.t) rfl rfl rfl ⟨Nat.le_of_ble_eq_true rfl, Nat.le_of_ble_eq_true rfl⟩ (by exact Nat.le_of_ble_eq_true rfl) ⟨Nat.zero_le _, Nat.zero_le _⟩ dX10_segment_7 rfl ?_
  refine gN_if_ne 19 dX10_segment_10 (by decide) (by first | omega | exact b01_lt _) (fun h_10 => ?_) (fun h_10 => ?_)
  · refine g_iload_n 2 dX10_segment_19 rfl rfl ?_
    refine gN_iconst 0 dX10_segment_20 (by decide) ?_
    refine gN_bipush 11 dX10_segment_21 (by decide) ?_
    refine gd_callS _ _ _ _ (cn_X10_in g (0, 0) _ (x) (nI (0)) (nI (11))) ⟨rfl, rfl⟩ (ok_X10_in _) mlX10_41 st_X10_in rfl ⟨Nat.le_of_ble_eq_true rfl, Nat.le_of_ble_eq_true rfl⟩ (by exact Nat.le_of_ble_eq_true rfl) ⟨Nat.zero_le _, Nat.zero_le _⟩ dX10_segment_23 rfl ?_
    refine gN_if_eq 38 dX10_segment_26 (by decide) (by first | omega | exact b01_lt _) (fun h_26 => ?_) (fun h_26 => ?_)
    · refine g_aload_n 0 dX10_segment_38 rfl rfl ?_
      refine gN_iconst 2 dX10_segment_39 (by decide) ?_
      refine gd_callV _ _ _ _ (cn_X10_fails g (0, 0) (m := sI m a 6 (nI 0)) hM (nI (2))) ⟨rfl, rfl⟩ (ok_X10_fails _) mlX10_95 in_X10_fails se_X10_fails 10 0 (hM.t) rfl rfl rfl ⟨Nat.le_of_ble_eq_true rfl, Nat.le_of_ble_eq_true rfl⟩ (by exact Nat.le_of_ble_eq_true rfl) ⟨Nat.zero_le _, Nat.zero_le _⟩ dX10_segment_40 rfl ?_
      refine g_iret rfl dX10_segment_43 ⟨Nat.zero_le _, Nat.zero_le _⟩ ?_
      exact ⟨rfl, _, rfl, by rw [show im (sI m a 6 (nI 0)) = th m a 0 from rfl, th_th]; exact sc.rf⟩
    · exact False.elim (h ((in_inb (n := 11) (by decide)).mp (b01_n.mp h_26)))
  · exact False.elim (b01_z.mp h_10 ((inb_nI (by omega)).mpr hs))
set_option maxRecDepth 100000 in
theorem cn_X10_segment_0 (g : Gp) (cs : Nat × Nat) {m : Mm} {a : Nat} (hM : MdOk m a) {N : Nat} (hN : im m (a + 1) 0 = nI N) (hN9 : N ≤ 10) {s : Nat} (hs : s < N) (hr : RwOk (im m (a + 1)) (79 + 22 * s) 10) (hR : NR (im m (a + 1) 1) 0 30) (hrow : ∀ r, r < nv (im m (a + 1) 1) → NR (im m (a + 1) (299 + 13 * r)) 1 12) {w : Nat} (hw : w ≤ 11) : En g (MX10_segment cs) [.ref (a), .int (nI (s)), .int (nI (w))] m (some (.int (segV (im m (a + 1)) s w))) (sc a (th m a 0)) := by
  refine Cn.of pn_X10 (Nat.le_of_ble_eq_true rfl) rfl ?_
  refine g_aload_n 0 dX10_segment_0 rfl rfl ?_
  refine gN_iconst 0 dX10_segment_1 (by decide) ?_
  refine gN_putI fwX10_34 rfl 0 (hM.t) dX10_segment_2 ?_
  refine g_aload_n 0 dX10_segment_5 rfl rfl ?_
  refine g_iload_n 1 dX10_segment_6 rfl rfl ?_
  refine gd_callV _ _ _ _ (cn_X10_isSegment g (0, 0) (m := sI m a 6 (nI 0)) hM (N := N) ((th_z m a 0 0).trans hN) (by omega) (nI (s))) ⟨rfl, rfl⟩ (ok_X10_isSegment _) mlX10_107 in_X10_isSegment se_X10_isSegment 10 0 (hM.t) rfl rfl rfl ⟨Nat.le_of_ble_eq_true rfl, Nat.le_of_ble_eq_true rfl⟩ (by exact Nat.le_of_ble_eq_true rfl) ⟨Nat.zero_le _, Nat.zero_le _⟩ dX10_segment_7 rfl ?_
  refine gN_if_ne 19 dX10_segment_10 (by decide) (by first | omega | exact b01_lt _) (fun h_10 => ?_) (fun h_10 => ?_)
  · refine g_iload_n 2 dX10_segment_19 rfl rfl ?_
    refine gN_iconst 0 dX10_segment_20 (by decide) ?_
    refine gN_bipush 11 dX10_segment_21 (by decide) ?_
    refine gd_callS _ _ _ _ (cn_X10_in g (0, 0) _ (nI (w)) (nI (0)) (nI (11))) ⟨rfl, rfl⟩ (ok_X10_in _) mlX10_41 st_X10_in rfl ⟨Nat.le_of_ble_eq_true rfl, Nat.le_of_ble_eq_true rfl⟩ (by exact Nat.le_of_ble_eq_true rfl) ⟨Nat.zero_le _, Nat.zero_le _⟩ dX10_segment_23 rfl ?_
    refine gN_if_eq 38 dX10_segment_26 (by decide) (by first | omega | exact b01_lt _) (fun h_26 => ?_) (fun h_26 => ?_)
    · exact False.elim (b01_z.mp h_26 ((in_inb (n := 11) (by decide)).mpr ((inb_nI (by omega)).mpr (by omega))))
    · refine g_aload_n 0 dX10_segment_29 rfl rfl ?_
      refine g_iload_n 1 dX10_segment_30 rfl rfl ?_
      refine g_iload_n 2 dX10_segment_31 rfl rfl ?_
      refine ge_callV _ _ _ (cn_X10_segmentOf g (0, 0) (m := sI m a 6 (nI 0)) hM (s := s) (by omega) (by rw [ze]; exact hr) (by rw [ze]; exact hR) (by rw [ze]; exact hrow) hw) ⟨rfl, rfl⟩ (ok_X10_segmentOf _) mlX10_148 in_X10_segmentOf se_X10_segmentOf 10 0 (hM.t) rfl rfl rfl ⟨Nat.le_of_ble_eq_true rfl, Nat.le_of_ble_eq_true rfl⟩ (by exact Nat.le_of_ble_eq_true rfl) ⟨Nat.zero_le _, Nat.zero_le _⟩ dX10_segment_32 rfl (fun I1 hI1 => ?_)
      refine g_goto 43 dX10_segment_35 (by decide) ?_
      refine g_iret rfl dX10_segment_43 ⟨Nat.zero_le _, Nat.zero_le _⟩ ?_
      exact ⟨vI (by rw [ze]), I1, rfl, hI1⟩
  · exact False.elim (b01_z.mp h_10 ((inb_nI (by omega)).mpr hs))
set_option maxRecDepth 100000 in
theorem cn_X10_ifPaid_1 (g : Gp) (cs : Nat × Nat) {m : Mm} {a : Nat} (hM : MdOk m a) {N : Nat} (hN : im m (a + 1) 0 = nI N) (hN9 : N ≤ 10) {p x : Int32} (h : ¬ (inb p N ∧ inb x 4)) : En g (MX10_ifPaid cs) [.ref (a), .int (p), .int (x)] m (some (.int (nI 0))) (sc a (th m a 1)) := by
  refine Cn.of pn_X10 (Nat.le_of_ble_eq_true rfl) rfl ?_
  refine g_aload_n 0 dX10_ifPaid_0 rfl rfl ?_
  refine gN_iconst 0 dX10_ifPaid_1 (by decide) ?_
  refine gN_putI fwX10_34 rfl 0 (hM.t) dX10_ifPaid_2 ?_
  refine g_aload_n 0 dX10_ifPaid_5 rfl rfl ?_
  refine g_iload_n 1 dX10_ifPaid_6 rfl rfl ?_
  refine gd_callV _ _ _ _ (cn_X10_isSegment g (0, 0) (m := sI m a 6 (nI 0)) hM (N := N) ((th_z m a 0 0).trans hN) (by omega) (p)) ⟨rfl, rfl⟩ (ok_X10_isSegment _) mlX10_107 in_X10_isSegment se_X10_isSegment 10 0 (hM.t) rfl rfl rfl ⟨Nat.le_of_ble_eq_true rfl, Nat.le_of_ble_eq_true rfl⟩ (by exact Nat.le_of_ble_eq_true rfl) ⟨Nat.zero_le _, Nat.zero_le _⟩ dX10_ifPaid_7 rfl ?_
  refine gN_if_eq 29 dX10_ifPaid_10 (by decide) (by first | omega | exact b01_lt _) (fun h_10 => ?_) (fun h_10 => ?_)
  · refine g_aload_n 0 dX10_ifPaid_29 rfl rfl ?_
    refine gN_iconst 1 dX10_ifPaid_30 (by decide) ?_
    refine gd_callV _ _ _ _ (cn_X10_fails g (0, 0) (m := sI m a 6 (nI 0)) hM (nI (1))) ⟨rfl, rfl⟩ (ok_X10_fails _) mlX10_95 in_X10_fails se_X10_fails 10 0 (hM.t) rfl rfl rfl ⟨Nat.le_of_ble_eq_true rfl, Nat.le_of_ble_eq_true rfl⟩ (by exact Nat.le_of_ble_eq_true rfl) ⟨Nat.zero_le _, Nat.zero_le _⟩ dX10_ifPaid_31 rfl ?_
    refine g_iret rfl dX10_ifPaid_34 ⟨Nat.zero_le _, Nat.zero_le _⟩ ?_
    exact ⟨rfl, _, rfl, by rw [show im (sI m a 6 (nI 0)) = th m a 0 from rfl, th_th]; exact sc.rf⟩
  · refine g_iload_n 2 dX10_ifPaid_13 rfl rfl ?_
    refine gd_callS _ _ _ _ (cn_X10_isPerson g (0, 0) (x)) ⟨rfl, rfl⟩ (ok_X10_isPerson _) mlX10_92 st_X10_isPerson rfl ⟨Nat.le_of_ble_eq_true rfl, Nat.le_of_ble_eq_true rfl⟩ (by exact Nat.le_of_ble_eq_true rfl) ⟨Nat.zero_le _, Nat.zero_le _⟩ dX10_ifPaid_14 rfl ?_
    refine gN_if_eq 29 dX10_ifPaid_17 (by decide) (by first | omega | exact b01_lt _) (fun h_17 => ?_) (fun h_17 => ?_)
    · refine g_aload_n 0 dX10_ifPaid_29 rfl rfl ?_
      refine gN_iconst 1 dX10_ifPaid_30 (by decide) ?_
      refine gd_callV _ _ _ _ (cn_X10_fails g (0, 0) (m := sI m a 6 (nI 0)) hM (nI (1))) ⟨rfl, rfl⟩ (ok_X10_fails _) mlX10_95 in_X10_fails se_X10_fails 10 0 (hM.t) rfl rfl rfl ⟨Nat.le_of_ble_eq_true rfl, Nat.le_of_ble_eq_true rfl⟩ (by exact Nat.le_of_ble_eq_true rfl) ⟨Nat.zero_le _, Nat.zero_le _⟩ dX10_ifPaid_31 rfl ?_
      refine g_iret rfl dX10_ifPaid_34 ⟨Nat.zero_le _, Nat.zero_le _⟩ ?_
      exact ⟨rfl, _, rfl, by rw [show im (sI m a 6 (nI 0)) = th m a 0 from rfl, th_th]; exact sc.rf⟩
    · exact False.elim (h ⟨b01_n.mp h_10, b01_n.mp h_17⟩)
set_option maxRecDepth 100000 in
theorem cn_X10_ifPaid_0 (g : Gp) (cs : Nat × Nat) {m : Mm} {a : Nat} (hM : MdOk m a) {N : Nat} (hN : im m (a + 1) 0 = nI N) (hN9 : N ≤ 10) {s : Nat} (hs : s < N) (hr : RwOk (im m (a + 1)) (79 + 22 * s) 10) (hR : NR (im m (a + 1) 1) 0 30) (hrow : ∀ r, r < nv (im m (a + 1) 1) → NR (im m (a + 1) (299 + 13 * r)) 1 12) (hb : ∀ b, b < 5 → NR (im m (a + 1) (64 + 3 * b)) 0 100) {t : Nat} (ht : t < 4) : En g (MX10_ifPaid cs) [.ref (a), .int (nI (s)), .int (nI (t))] m (some (.int (payV (im m (a + 1)) (79 + 22 * s) t (pctV (im m (a + 1)) (79 + 22 * s))))) (sc a (th m a 0)) := by
  refine Cn.of pn_X10 (Nat.le_of_ble_eq_true rfl) rfl ?_
  refine g_aload_n 0 dX10_ifPaid_0 rfl rfl ?_
  refine gN_iconst 0 dX10_ifPaid_1 (by decide) ?_
  refine gN_putI fwX10_34 rfl 0 (hM.t) dX10_ifPaid_2 ?_
  refine g_aload_n 0 dX10_ifPaid_5 rfl rfl ?_
  refine g_iload_n 1 dX10_ifPaid_6 rfl rfl ?_
  refine gd_callV _ _ _ _ (cn_X10_isSegment g (0, 0) (m := sI m a 6 (nI 0)) hM (N := N) ((th_z m a 0 0).trans hN) (by omega) (nI (s))) ⟨rfl, rfl⟩ (ok_X10_isSegment _) mlX10_107 in_X10_isSegment se_X10_isSegment 10 0 (hM.t) rfl rfl rfl ⟨Nat.le_of_ble_eq_true rfl, Nat.le_of_ble_eq_true rfl⟩ (by exact Nat.le_of_ble_eq_true rfl) ⟨Nat.zero_le _, Nat.zero_le _⟩ dX10_ifPaid_7 rfl ?_
  refine gN_if_eq 29 dX10_ifPaid_10 (by decide) (by first | omega | exact b01_lt _) (fun h_10 => ?_) (fun h_10 => ?_)
  · exact False.elim (b01_z.mp h_10 ((inb_nI (by omega)).mpr hs))
  · refine g_iload_n 2 dX10_ifPaid_13 rfl rfl ?_
    refine gd_callS _ _ _ _ (cn_X10_isPerson g (0, 0) (nI (t))) ⟨rfl, rfl⟩ (ok_X10_isPerson _) mlX10_92 st_X10_isPerson rfl ⟨Nat.le_of_ble_eq_true rfl, Nat.le_of_ble_eq_true rfl⟩ (by exact Nat.le_of_ble_eq_true rfl) ⟨Nat.zero_le _, Nat.zero_le _⟩ dX10_ifPaid_14 rfl ?_
    refine gN_if_eq 29 dX10_ifPaid_17 (by decide) (by first | omega | exact b01_lt _) (fun h_17 => ?_) (fun h_17 => ?_)
    · exact False.elim (b01_z.mp h_17 ((inb_nI (by omega)).mpr ht))
    · refine g_aload_n 0 dX10_ifPaid_20 rfl rfl ?_
      refine g_iload_n 1 dX10_ifPaid_21 rfl rfl ?_
      refine g_iload_n 2 dX10_ifPaid_22 rfl rfl ?_
      refine ge_callV _ _ _ (cn_X10_paidOf g (0, 0) (m := sI m a 6 (nI 0)) hM (s := s) (by omega) (by rw [ze]; exact hr) (by rw [ze]; exact hR) (by rw [ze]; exact hrow) (by rw [ze]; exact hb) ht) ⟨rfl, rfl⟩ (ok_X10_paidOf _) mlX10_210 in_X10_paidOf se_X10_paidOf 10 0 (hM.t) rfl rfl rfl ⟨Nat.le_of_ble_eq_true rfl, Nat.le_of_ble_eq_true rfl⟩ (by exact Nat.le_of_ble_eq_true rfl) ⟨Nat.zero_le _, Nat.zero_le _⟩ dX10_ifPaid_23 rfl (fun I1 hI1 => ?_)
      refine g_goto 34 dX10_ifPaid_26 (by decide) ?_
      refine g_iret rfl dX10_ifPaid_34 ⟨Nat.zero_le _, Nat.zero_le _⟩ ?_
      exact ⟨vI (by rw [ze]), I1, rfl, hI1⟩
