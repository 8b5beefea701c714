theorem co' (g : Gp) (cs : Nat × Nat) {m : Mm} {a : Nat} (hM : MdOk m a) {z : Nat → Int32} (hz : im m (a + 1) = z) {f s : Nat} (hf : f < 10) (hs : s < 10) (hlf : NR (z (79 + 22 * f)) 1 12) (hls : NR (z (79 + 22 * s)) 1 12) (hR : NR (z 1) 0 30) (hrow : ∀ r, r < nv (z 1) → NR (z (299 + 13 * r)) 1 12) : En g (MX10_costOf cs) [.ref a, .int (nI f), .int (nI s)] m (some (.int (csV z f s))) (scB a (im m)) := by
  subst hz
  exact cn_X10_costOf g cs hM hf hs hlf hls hR hrow
set_option maxRecDepth 100000 in
theorem cn_X10_orderMatters_1 (g : Gp) (cs : Nat × Nat) {m : Mm} {a : Nat} (hM : MdOk m a) {N : Nat} (hN : im m (a + 1) 0 = nI N) (hN9 : N ≤ 10) {p q : Int32} (h : ¬ (inb p N ∧ inb q N)) : En g (MX10_orderMatters cs) [.ref (a), .int (p), .int (q)] m (some (.int (nI 0))) (sc a (th m a 1)) := by
  refine Cn.of pn_X10 (Nat.le_of_ble_eq_true rfl) rfl ?_
  refine g_aload_n 0 dX10_orderMatters_0 rfl rfl ?_
  refine gN_iconst 0 dX10_orderMatters_1 (by decide) ?_
  refine gN_putI fwX10_34 rfl 0 (hM.t) dX10_orderMatters_2 ?_
  refine g_aload_n 0 dX10_orderMatters_5 rfl rfl ?_
  refine g_iload_n 1 dX10_orderMatters_6 rfl rfl ?_
  refine gd_callV _ _ _ _ (cn_X10_isSegment g (0, 0) (m := sI m a 6 (nI 0)) hM (N := N) ((th_z m a 0 0).trans hN) (by omega) (p)) ⟨rfl, rfl⟩ (ok_X10_isSegment _) mlX10_107 in_X10_isSegment se_X10_isSegment 10 0 (hM.t) rfl rfl rfl ⟨Nat.le_of_ble_eq_true rfl, Nat.le_of_ble_eq_true rfl⟩ (by exact Nat.le_of_ble_eq_true rfl) ⟨Nat.zero_le _, Nat.zero_le _⟩ dX10_orderMatters_7 rfl ?_
  refine gN_if_eq 21 dX10_orderMatters_10 (by decide) (by first | omega | exact b01_lt _) (fun h_10 => ?_) (fun h_10 => ?_)
  · refine g_aload_n 0 dX10_orderMatters_21 rfl rfl ?_
    refine gN_iconst 1 dX10_orderMatters_22 (by decide) ?_
    refine gd_callV _ _ _ _ (cn_X10_fails g (0, 0) (m := sI m a 6 (nI 0)) hM (nI (1))) ⟨rfl, rfl⟩ (ok_X10_fails _) mlX10_95 in_X10_fails se_X10_fails 10 0 (hM.t) rfl rfl rfl ⟨Nat.le_of_ble_eq_true rfl, Nat.le_of_ble_eq_true rfl⟩ (by exact Nat.le_of_ble_eq_true rfl) ⟨Nat.zero_le _, Nat.zero_le _⟩ dX10_orderMatters_23 rfl ?_
    refine g_iret rfl dX10_orderMatters_26 ⟨Nat.zero_le _, Nat.zero_le _⟩ ?_
    exact ⟨rfl, _, rfl, by rw [show im (sI m a 6 (nI 0)) = th m a 0 from rfl, th_th]; exact sc.rf⟩
  · refine g_aload_n 0 dX10_orderMatters_13 rfl rfl ?_
    refine g_iload_n 2 dX10_orderMatters_14 rfl rfl ?_
    refine gd_callV _ _ _ _ (cn_X10_isSegment g (0, 0) (m := sI m a 6 (nI 0)) hM (N := N) ((th_z m a 0 0).trans hN) (by omega) (q)) ⟨rfl, rfl⟩ (ok_X10_isSegment _) mlX10_107 in_X10_isSegment se_X10_isSegment 10 0 (hM.t) rfl rfl rfl ⟨Nat.le_of_ble_eq_true rfl, Nat.le_of_ble_eq_true rfl⟩ (by exact Nat.le_of_ble_eq_true rfl) ⟨Nat.zero_le _, Nat.zero_le _⟩ dX10_orderMatters_15 rfl ?_
    refine gN_if_ne 27 dX10_orderMatters_18 (by decide) (by first | omega | exact b01_lt _) (fun h_18 => ?_) (fun h_18 => ?_)
    · exact False.elim (h ⟨b01_n.mp h_10, b01_n.mp h_18⟩)
    · refine g_aload_n 0 dX10_orderMatters_21 rfl rfl ?_
      refine gN_iconst 1 dX10_orderMatters_22 (by decide) ?_
      refine gd_callV _ _ _ _ (cn_X10_fails g (0, 0) (m := sI m a 6 (nI 0)) hM (nI (1))) ⟨rfl, rfl⟩ (ok_X10_fails _) mlX10_95 in_X10_fails se_X10_fails 10 0 (hM.t) rfl rfl rfl ⟨Nat.le_of_ble_eq_true rfl, Nat.le_of_ble_eq_true rfl⟩ (by exact Nat.le_of_ble_eq_true rfl) ⟨Nat.zero_le _, Nat.zero_le _⟩ dX10_orderMatters_23 rfl ?_
      refine g_iret rfl dX10_orderMatters_26 ⟨Nat.zero_le _, Nat.zero_le _⟩ ?_
      exact ⟨rfl, _, rfl, by rw [show im (sI m a 6 (nI 0)) = th m a 0 from rfl, th_th]; exact sc.rf⟩
set_option maxRecDepth 100000 in
theorem cn_X10_orderMatters_2 (g : Gp) (cs : Nat × Nat) {m : Mm} {a : Nat} (hM : MdOk m a) {N : Nat} (hN : im m (a + 1) 0 = nI N) (hN9 : N ≤ 10) {f : Nat} (hf : f < N) : En g (MX10_orderMatters cs) [.ref (a), .int (nI (f)), .int (nI (f))] m (some (.int (nI 0))) (sc a (th m a 2)) := by
  refine Cn.of pn_X10 (Nat.le_of_ble_eq_true rfl) rfl ?_
  refine g_aload_n 0 dX10_orderMatters_0 rfl rfl ?_
  refine gN_iconst 0 dX10_orderMatters_1 (by decide) ?_
  refine gN_putI fwX10_34 rfl 0 (hM.t) dX10_orderMatters_2 ?_
  refine g_aload_n 0 dX10_orderMatters_5 rfl rfl ?_
  refine g_iload_n 1 dX10_orderMatters_6 rfl rfl ?_
  refine gd_callV _ _ _ _ (cn_X10_isSegment g (0, 0) (m := sI m a 6 (nI 0)) hM (N := N) ((th_z m a 0 0).trans hN) (by omega) (nI (f))) ⟨rfl, rfl⟩ (ok_X10_isSegment _) mlX10_107 in_X10_isSegment se_X10_isSegment 10 0 (hM.t) rfl rfl rfl ⟨Nat.le_of_ble_eq_true rfl, Nat.le_of_ble_eq_true rfl⟩ (by exact Nat.le_of_ble_eq_true rfl) ⟨Nat.zero_le _, Nat.zero_le _⟩ dX10_orderMatters_7 rfl ?_
  refine gN_if_eq 21 dX10_orderMatters_10 (by decide) (by first | omega | exact b01_lt _) (fun h_10 => ?_) (fun h_10 => ?_)
  · exact False.elim (b01_z.mp h_10 ((inb_nI (by omega)).mpr hf))
  · refine g_aload_n 0 dX10_orderMatters_13 rfl rfl ?_
    refine g_iload_n 2 dX10_orderMatters_14 rfl rfl ?_
    refine gd_callV _ _ _ _ (cn_X10_isSegment g (0, 0) (m := sI m a 6 (nI 0)) hM (N := N) ((th_z m a 0 0).trans hN) (by omega) (nI (f))) ⟨rfl, rfl⟩ (ok_X10_isSegment _) mlX10_107 in_X10_isSegment se_X10_isSegment 10 0 (hM.t) rfl rfl rfl ⟨Nat.le_of_ble_eq_true rfl, Nat.le_of_ble_eq_true rfl⟩ (by exact Nat.le_of_ble_eq_true rfl) ⟨Nat.zero_le _, Nat.zero_le _⟩ dX10_orderMatters_15 rfl ?_
    refine gN_if_ne 27 dX10_orderMatters_18 (by decide) (by first | omega | exact b01_lt _) (fun h_18 => ?_) (fun h_18 => ?_)
    · refine g_iload_n 1 dX10_orderMatters_27 rfl rfl ?_
      refine g_iload_n 2 dX10_orderMatters_28 rfl rfl ?_
      refine gN_icmp_ne 38 dX10_orderMatters_29 (by decide) (by first | omega | exact b01_lt _) (by first | omega | exact b01_lt _) (fun h_29 => ?_) (fun h_29 => ?_)
      · exact False.elim (h_29 rfl)
      · refine g_aload_n 0 dX10_orderMatters_32 rfl rfl ?_
        refine gN_iconst 2 dX10_orderMatters_33 (by decide) ?_
        refine gd_callV _ _ _ _ (cn_X10_fails g (0, 0) (m := sI m a 6 (nI 0)) hM (nI (2))) ⟨rfl, rfl⟩ (ok_X10_fails _) mlX10_95 in_X10_fails se_X10_fails 10 0 (hM.t) rfl rfl rfl ⟨Nat.le_of_ble_eq_true rfl, Nat.le_of_ble_eq_true rfl⟩ (by exact Nat.le_of_ble_eq_true rfl) ⟨Nat.zero_le _, Nat.zero_le _⟩ dX10_orderMatters_34 rfl ?_
        refine g_iret rfl dX10_orderMatters_37 ⟨Nat.zero_le _, Nat.zero_le _⟩ ?_
        exact ⟨rfl, _, rfl, by rw [show im (sI m a 6 (nI 0)) = th m a 0 from rfl, th_th]; exact sc.rf⟩
    · exact False.elim (b01_z.mp h_18 ((inb_nI (by omega)).mpr hf))
set_option maxRecDepth 100000 in
theorem cn_X10_orderMatters_3 (g : Gp) (cs : Nat × Nat) {m : Mm} {a : Nat} (hM : MdOk m a) {N : Nat} (hN : im m (a + 1) 0 = nI N) (hN9 : N ≤ 10) {f s : Nat} (hf : f < N) (hs : s < N) (hne : f ≠ s) (h : ¬ ((im m (a + 1)) (79 + 22 * f + 1) = 0 ∧ (im m (a + 1)) (79 + 22 * s + 1) = 0)) : En g (MX10_orderMatters cs) [.ref (a), .int (nI (f)), .int (nI (s))] m (some (.int (nI 0))) (sc a (th m a 3)) := by
  refine Cn.of pn_X10 (Nat.le_of_ble_eq_true rfl) rfl ?_
  refine g_aload_n 0 dX10_orderMatters_0 rfl rfl ?_
  refine gN_iconst 0 dX10_orderMatters_1 (by decide) ?_
  refine gN_putI fwX10_34 rfl 0 (hM.t) dX10_orderMatters_2 ?_
  refine g_aload_n 0 dX10_orderMatters_5 rfl rfl ?_
  refine g_iload_n 1 dX10_orderMatters_6 rfl rfl ?_
  refine gd_callV _ _ _ _ (cn_X10_isSegment g (0, 0) (m := sI m a 6 (nI 0)) hM (N := N) ((th_z m a 0 0).trans hN) (by omega) (nI (f))) ⟨rfl, rfl⟩ (ok_X10_isSegment _) mlX10_107 in_X10_isSegment se_X10_isSegment 10 0 (hM.t) rfl rfl rfl ⟨Nat.le_of_ble_eq_true rfl, Nat.le_of_ble_eq_true rfl⟩ (by exact Nat.le_of_ble_eq_true rfl) ⟨Nat.zero_le _, Nat.zero_le _⟩ dX10_orderMatters_7 rfl ?_
  refine gN_if_eq 21 dX10_orderMatters_10 (by decide) (by first | omega | exact b01_lt _) (fun h_10 => ?_) (fun h_10 => ?_)
  · exact False.elim (b01_z.mp h_10 ((inb_nI (by omega)).mpr hf))
  · refine g_aload_n 0 dX10_orderMatters_13 rfl rfl ?_
    refine g_iload_n 2 dX10_orderMatters_14 rfl rfl ?_
    refine gd_callV _ _ _ _ (cn_X10_isSegment g (0, 0) (m := sI m a 6 (nI 0)) hM (N := N) ((th_z m a 0 0).trans hN) (by omega) (nI (s))) ⟨rfl, rfl⟩ (ok_X10_isSegment _) mlX10_107 in_X10_isSegment se_X10_isSegment 10 0 (hM.t) rfl rfl rfl ⟨Nat.le_of_ble_eq_true rfl, Nat.le_of_ble_eq_true rfl⟩ (by exact Nat.le_of_ble_eq_true rfl) ⟨Nat.zero_le _, Nat.zero_le _⟩ dX10_orderMatters_15 rfl ?_
    refine gN_if_ne 27 dX10_orderMatters_18 (by decide) (by first | omega | exact b01_lt _) (fun h_18 => ?_) (fun h_18 => ?_)
    · refine g_iload_n 1 dX10_orderMatters_27 rfl rfl ?_
      refine g_iload_n 2 dX10_orderMatters_28 rfl rfl ?_
      refine gN_icmp_ne 38 dX10_orderMatters_29 (by decide) (by first | omega | exact b01_lt _) (by first | omega | exact b01_lt _) (fun h_29 => ?_) (fun h_29 => ?_)
      · refine g_aload_n 0 dX10_orderMatters_38 rfl rfl ?_
        refine gN_getR (a + 1) flX10_7 (fun _ _ _ => rfl) 0 (hM.t) (hM.r0) dX10_orderMatters_39 ?_
        refine g_iload_n 1 dX10_orderMatters_42 rfl rfl ?_
        refine gd_callS _ _ _ _ (cn_X10_at g (0, 0) _ f) ⟨rfl, rfl⟩ (ok_X10_at _) mlX10_45 st_X10_at rfl ⟨Nat.le_of_ble_eq_true rfl, Nat.le_of_ble_eq_true rfl⟩ (by exact Nat.le_of_ble_eq_true rfl) ⟨Nat.zero_le _, Nat.zero_le _⟩ dX10_orderMatters_43 rfl ?_
        refine gN_iconst 1 dX10_orderMatters_46 (by decide) ?_
        refine gN_iadd ((79 + 22 * f) + 1) dX10_orderMatters_47 rfl ?_
        refine gN_iald 689 (hM.t1) (by first | omega | exact b01_lt _) (by first | omega | exact b01_lt _) dX10_orderMatters_48 ?_
        refine g_if_ne 66 dX10_orderMatters_49 (by decide) (fun h_49 => ?_) (fun h_49 => ?_)
        · refine g_aload_n 0 dX10_orderMatters_66 rfl rfl ?_
          refine gN_iconst 3 dX10_orderMatters_67 (by decide) ?_
          refine gd_callV _ _ _ _ (cn_X10_fails g (0, 0) (m := sI m a 6 (nI 0)) hM (nI (3))) ⟨rfl, rfl⟩ (ok_X10_fails _) mlX10_95 in_X10_fails se_X10_fails 10 0 (hM.t) rfl rfl rfl ⟨Nat.le_of_ble_eq_true rfl, Nat.le_of_ble_eq_true rfl⟩ (by exact Nat.le_of_ble_eq_true rfl) ⟨Nat.zero_le _, Nat.zero_le _⟩ dX10_orderMatters_68 rfl ?_
          refine g_iret rfl dX10_orderMatters_71 ⟨Nat.zero_le _, Nat.zero_le _⟩ ?_
          exact ⟨rfl, _, rfl, by rw [show im (sI m a 6 (nI 0)) = th m a 0 from rfl, th_th]; exact sc.rf⟩
        · refine g_aload_n 0 dX10_orderMatters_52 rfl rfl ?_
          refine gN_getR (a + 1) flX10_7 (fun _ _ _ => rfl) 0 (hM.t) (hM.r0) dX10_orderMatters_53 ?_
          refine g_iload_n 2 dX10_orderMatters_56 rfl rfl ?_
          refine gd_callS _ _ _ _ (cn_X10_at g (0, 0) _ s) ⟨rfl, rfl⟩ (ok_X10_at _) mlX10_45 st_X10_at rfl ⟨Nat.le_of_ble_eq_true rfl, Nat.le_of_ble_eq_true rfl⟩ (by exact Nat.le_of_ble_eq_true rfl) ⟨Nat.zero_le _, Nat.zero_le _⟩ dX10_orderMatters_57 rfl ?_
          refine gN_iconst 1 dX10_orderMatters_60 (by decide) ?_
          refine gN_iadd ((79 + 22 * s) + 1) dX10_orderMatters_61 rfl ?_
          refine gN_iald 689 (hM.t1) (by first | omega | exact b01_lt _) (by first | omega | exact b01_lt _) dX10_orderMatters_62 ?_
          refine g_if_eq 72 dX10_orderMatters_63 (by decide) (fun h_63 => ?_) (fun h_63 => ?_)
          · exact False.elim (h ⟨(th_z m a 0 _).symm.trans h_49, (th_z m a 0 _).symm.trans h_63⟩)
          · refine g_aload_n 0 dX10_orderMatters_66 rfl rfl ?_
            refine gN_iconst 3 dX10_orderMatters_67 (by decide) ?_
            refine gd_callV _ _ _ _ (cn_X10_fails g (0, 0) (m := sI m a 6 (nI 0)) hM (nI (3))) ⟨rfl, rfl⟩ (ok_X10_fails _) mlX10_95 in_X10_fails se_X10_fails 10 0 (hM.t) rfl rfl rfl ⟨Nat.le_of_ble_eq_true rfl, Nat.le_of_ble_eq_true rfl⟩ (by exact Nat.le_of_ble_eq_true rfl) ⟨Nat.zero_le _, Nat.zero_le _⟩ dX10_orderMatters_68 rfl ?_
            refine g_iret rfl dX10_orderMatters_71 ⟨Nat.zero_le _, Nat.zero_le _⟩ ?_
            exact ⟨rfl, _, rfl, by rw [show im (sI m a 6 (nI 0)) = th m a 0 from rfl, th_th]; exact sc.rf⟩
      · exact False.elim (hne h_29)
    · exact False.elim (b01_z.mp h_18 ((inb_nI (by omega)).mpr hs))
set_option maxRecDepth 100000 in
theorem cn_X10_orderMatters_0 (g : Gp) (cs : Nat × Nat) {m : Mm} {a : Nat} (hM : MdOk m a) {N : Nat} (hN : im m (a + 1) 0 = nI N) (hN9 : N ≤ 10) {f s : Nat} (hf : f < N) (hs : s < N) (hne : f ≠ s) (h1 : (im m (a + 1)) (79 + 22 * f + 1) = 0) (h2 : (im m (a + 1)) (79 + 22 * s + 1) = 0) (hlf : NR (im m (a + 1) (79 + 22 * f)) 1 12) (hls : NR (im m (a + 1) (79 + 22 * s)) 1 12) (hR : NR (im m (a + 1) 1) 0 30) (hrow : ∀ r, r < nv (im m (a + 1) 1) → NR (im m (a + 1) (299 + 13 * r)) 1 12) : En g (MX10_orderMatters cs) [.ref (a), .int (nI (f)), .int (nI (s))] m (some (.int (csV (im m (a + 1)) f s - csV (im m (a + 1)) s f))) (scB a (th m a 0)) := by
  refine Cn.of pn_X10 (Nat.le_of_ble_eq_true rfl) rfl ?_
  refine g_aload_n 0 dX10_orderMatters_0 rfl rfl ?_
  refine gN_iconst 0 dX10_orderMatters_1 (by decide) ?_
  refine gN_putI fwX10_34 rfl 0 (hM.t) dX10_orderMatters_2 ?_
  refine g_aload_n 0 dX10_orderMatters_5 rfl rfl ?_
  refine g_iload_n 1 dX10_orderMatters_6 rfl rfl ?_
  refine gd_callV _ _ _ _ (cn_X10_isSegment g (0, 0) (m := sI m a 6 (nI 0)) hM (N := N) ((th_z m a 0 0).trans hN) (by omega) (nI (f))) ⟨rfl, rfl⟩ (ok_X10_isSegment _) mlX10_107 in_X10_isSegment se_X10_isSegment 10 0 (hM.t) rfl rfl rfl ⟨Nat.le_of_ble_eq_true rfl, Nat.le_of_ble_eq_true rfl⟩ (by exact Nat.le_of_ble_eq_true rfl) ⟨Nat.zero_le _, Nat.zero_le _⟩ dX10_orderMatters_7 rfl ?_
  refine gN_if_eq 21 dX10_orderMatters_10 (by decide) (by first | omega | exact b01_lt _) (fun h_10 => ?_) (fun h_10 => ?_)
  · exact False.elim (b01_z.mp h_10 ((inb_nI (by omega)).mpr hf))
  · refine g_aload_n 0 dX10_orderMatters_13 rfl rfl ?_
    refine g_iload_n 2 dX10_orderMatters_14 rfl rfl ?_
    refine gd_callV _ _ _ _ (cn_X10_isSegment g (0, 0) (m := sI m a 6 (nI 0)) hM (N := N) ((th_z m a 0 0).trans hN) (by omega) (nI (s))) ⟨rfl, rfl⟩ (ok_X10_isSegment _) mlX10_107 in_X10_isSegment se_X10_isSegment 10 0 (hM.t) rfl rfl rfl ⟨Nat.le_of_ble_eq_true rfl, Nat.le_of_ble_eq_true rfl⟩ (by exact Nat.le_of_ble_eq_true rfl) ⟨Nat.zero_le _, Nat.zero_le _⟩ dX10_orderMatters_15 rfl ?_
    refine gN_if_ne 27 dX10_orderMatters_18 (by decide) (by first | omega | exact b01_lt _) (fun h_18 => ?_) (fun h_18 => ?_)
    · refine g_iload_n 1 dX10_orderMatters_27 rfl rfl ?_
      refine g_iload_n 2 dX10_orderMatters_28 rfl rfl ?_
      refine gN_icmp_ne 38 dX10_orderMatters_29 (by decide) (by first | omega | exact b01_lt _) (by first | omega | exact b01_lt _) (fun h_29 => ?_) (fun h_29 => ?_)
      · refine g_aload_n 0 dX10_orderMatters_38 rfl rfl ?_
        refine gN_getR (a + 1) flX10_7 (fun _ _ _ => rfl) 0 (hM.t) (hM.r0) dX10_orderMatters_39 ?_
        refine g_iload_n 1 dX10_orderMatters_42 rfl rfl ?_
        refine gd_callS _ _ _ _ (cn_X10_at g (0, 0) _ f) ⟨rfl, rfl⟩ (ok_X10_at _) mlX10_45 st_X10_at rfl ⟨Nat.le_of_ble_eq_true rfl, Nat.le_of_ble_eq_true rfl⟩ (by exact Nat.le_of_ble_eq_true rfl) ⟨Nat.zero_le _, Nat.zero_le _⟩ dX10_orderMatters_43 rfl ?_
        refine gN_iconst 1 dX10_orderMatters_46 (by decide) ?_
        refine gN_iadd ((79 + 22 * f) + 1) dX10_orderMatters_47 rfl ?_
        refine gN_iald 689 (hM.t1) (by first | omega | exact b01_lt _) (by first | omega | exact b01_lt _) dX10_orderMatters_48 ?_
        refine g_if_ne 66 dX10_orderMatters_49 (by decide) (fun h_49 => ?_) (fun h_49 => ?_)
        · exact False.elim (h_49 ((th_z m a 0 _).trans h1))
        · refine g_aload_n 0 dX10_orderMatters_52 rfl rfl ?_
          refine gN_getR (a + 1) flX10_7 (fun _ _ _ => rfl) 0 (hM.t) (hM.r0) dX10_orderMatters_53 ?_
          refine g_iload_n 2 dX10_orderMatters_56 rfl rfl ?_
          refine gd_callS _ _ _ _ (cn_X10_at g (0, 0) _ s) ⟨rfl, rfl⟩ (ok_X10_at _) mlX10_45 st_X10_at rfl ⟨Nat.le_of_ble_eq_true rfl, Nat.le_of_ble_eq_true rfl⟩ (by exact Nat.le_of_ble_eq_true rfl) ⟨Nat.zero_le _, Nat.zero_le _⟩ dX10_orderMatters_57 rfl ?_
          refine gN_iconst 1 dX10_orderMatters_60 (by decide) ?_
          refine gN_iadd ((79 + 22 * s) + 1) dX10_orderMatters_61 rfl ?_
          refine gN_iald 689 (hM.t1) (by first | omega | exact b01_lt _) (by first | omega | exact b01_lt _) dX10_orderMatters_62 ?_
          refine g_if_eq 72 dX10_orderMatters_63 (by decide) (fun h_63 => ?_) (fun h_63 => ?_)
          · refine g_aload_n 0 dX10_orderMatters_72 rfl rfl ?_
            refine g_iload_n 1 dX10_orderMatters_73 rfl rfl ?_
            refine g_iload_n 2 dX10_orderMatters_74 rfl rfl ?_
            refine ge_callV _ _ _ (co' g (0, 0) (m := sI m a 6 (nI 0)) hM (z := (im m (a + 1))) (ze m a _) (f := f) (s := s) (by omega) (by omega) hlf hls hR hrow) ⟨rfl, rfl⟩ (ok_X10_costOf _) mlX10_219 in_X10_costOf se_X10_costOf 10 0 (hM.t) rfl rfl rfl ⟨Nat.le_of_ble_eq_true rfl, Nat.le_of_ble_eq_true rfl⟩ (by exact Nat.le_of_ble_eq_true rfl) ⟨Nat.zero_le _, Nat.zero_le _⟩ dX10_orderMatters_75 rfl (fun I1 hI1 => ?_)
            have hz1 : I1 (a + 1) = im m (a + 1) := hI1.z.trans (ze m a _)
            refine g_aload_n 0 dX10_orderMatters_78 rfl rfl ?_
            refine g_iload_n 2 dX10_orderMatters_79 rfl rfl ?_
            refine g_iload_n 1 dX10_orderMatters_80 rfl rfl ?_
            refine ge_callV _ _ _ (co' g (0, 0) (m := wI m I1) hM (z := (im m (a + 1))) hz1 (f := s) (s := f) (by omega) (by omega) hls hlf hR hrow) ⟨rfl, rfl⟩ (ok_X10_costOf _) mlX10_219 in_X10_costOf se_X10_costOf 10 0 (hM.t) rfl rfl rfl ⟨Nat.le_of_ble_eq_true rfl, Nat.le_of_ble_eq_true rfl⟩ (by exact Nat.le_of_ble_eq_true rfl) ⟨Nat.zero_le _, Nat.zero_le _⟩ dX10_orderMatters_81 rfl (fun I2 hI2 => ?_)
            refine g_isub dX10_orderMatters_84 ?_
            refine g_iret rfl dX10_orderMatters_85 ⟨Nat.zero_le _, Nat.zero_le _⟩ ?_
            exact ⟨rfl, _, rfl, hI1.tr hI2⟩
          · exact False.elim (h_63 ((th_z m a 0 _).trans h2))
      · exact False.elim (hne h_29)
    · exact False.elim (b01_z.mp h_18 ((inb_nI (by omega)).mpr hs))
