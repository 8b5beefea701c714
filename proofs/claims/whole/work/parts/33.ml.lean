set_option maxRecDepth 100000 in
theorem cn_X10_revise_1 (g : Gp) (cs : Nat × Nat) {m : Mm} {a : Nat} (hM : MdOk m a) {N : Nat} (hN : im m (a + 1) 0 = nI N) (hN9 : N ≤ 10) {p x c : Int32} (h : ¬ (inb p N ∧ inb x 4)) : En g (MX10_revise cs) [.ref (a), .int (p), .int (x), .int (c)] m (some (.int (nI 0))) (sc a (th m a 1)) := by
  refine Cn.of pn_X10 (Nat.le_of_ble_eq_true rfl) rfl ?_
  refine g_aload_n 0 dX10_revise_0 rfl rfl ?_
  refine gN_iconst 0 dX10_revise_1 (by decide) ?_
  refine gN_putI fwX10_34 rfl 0 (hM.t) dX10_revise_2 ?_
  refine g_aload_n 0 dX10_revise_5 rfl rfl ?_
  refine g_iload_n 1 dX10_revise_6 rfl rfl ?_
  refine gd_callV _ _ _ _ (cn_X10_isSegment g (0, 0) (m := sI m a 6 (nI 0)) hM (N := N) ((th_z m a 0 0).trans hN) (by omega) (p)) ⟨rfl, rfl⟩ (ok_X10_isSegment _) mlX10_107 in_X10_isSegment se_X10_isSegment 10 0 (hM.t) rfl rfl rfl ⟨Nat.le_of_ble_eq_true rfl, Nat.le_of_ble_eq_true rfl⟩ (by exact Nat.le_of_ble_eq_true rfl) ⟨Nat.zero_le _, Nat.zero_le _⟩ dX10_revise_7 rfl ?_
  refine gN_if_eq 20 dX10_revise_10 (by decide) (by first | omega | exact b01_lt _) (fun h_10 => ?_) (fun h_10 => ?_)
  · refine g_aload_n 0 dX10_revise_20 rfl rfl ?_
    refine gN_iconst 1 dX10_revise_21 (by decide) ?_
    refine gd_callV _ _ _ _ (cn_X10_fails g (0, 0) (m := sI m a 6 (nI 0)) hM (nI (1))) ⟨rfl, rfl⟩ (ok_X10_fails _) mlX10_95 in_X10_fails se_X10_fails 10 0 (hM.t) rfl rfl rfl ⟨Nat.le_of_ble_eq_true rfl, Nat.le_of_ble_eq_true rfl⟩ (by exact Nat.le_of_ble_eq_true rfl) ⟨Nat.zero_le _, Nat.zero_le _⟩ dX10_revise_22 rfl ?_
    refine g_iret rfl dX10_revise_25 ⟨Nat.zero_le _, Nat.zero_le _⟩ ?_
    exact ⟨rfl, _, rfl, by rw [show im (sI m a 6 (nI 0)) = th m a 0 from rfl, th_th]; exact sc.rf⟩
  · refine g_iload_n 2 dX10_revise_13 rfl rfl ?_
    refine gd_callS _ _ _ _ (cn_X10_isPerson g (0, 0) (x)) ⟨rfl, rfl⟩ (ok_X10_isPerson _) mlX10_92 st_X10_isPerson rfl ⟨Nat.le_of_ble_eq_true rfl, Nat.le_of_ble_eq_true rfl⟩ (by exact Nat.le_of_ble_eq_true rfl) ⟨Nat.zero_le _, Nat.zero_le _⟩ dX10_revise_14 rfl ?_
    refine gN_if_ne 26 dX10_revise_17 (by decide) (by first | omega | exact b01_lt _) (fun h_17 => ?_) (fun h_17 => ?_)
    · exact False.elim (h ⟨b01_n.mp h_10, b01_n.mp h_17⟩)
    · refine g_aload_n 0 dX10_revise_20 rfl rfl ?_
      refine gN_iconst 1 dX10_revise_21 (by decide) ?_
      refine gd_callV _ _ _ _ (cn_X10_fails g (0, 0) (m := sI m a 6 (nI 0)) hM (nI (1))) ⟨rfl, rfl⟩ (ok_X10_fails _) mlX10_95 in_X10_fails se_X10_fails 10 0 (hM.t) rfl rfl rfl ⟨Nat.le_of_ble_eq_true rfl, Nat.le_of_ble_eq_true rfl⟩ (by exact Nat.le_of_ble_eq_true rfl) ⟨Nat.zero_le _, Nat.zero_le _⟩ dX10_revise_22 rfl ?_
      refine g_iret rfl dX10_revise_25 ⟨Nat.zero_le _, Nat.zero_le _⟩ ?_
      exact ⟨rfl, _, rfl, by rw [show im (sI m a 6 (nI 0)) = th m a 0 from rfl, th_th]; exact sc.rf⟩
set_option maxRecDepth 100000 in
theorem cn_X10_revise_2 (g : Gp) (cs : Nat × Nat) {m : Mm} {a : Nat} (hM : MdOk m a) {N : Nat} (hN : im m (a + 1) 0 = nI N) (hN9 : N ≤ 10) {s : Nat} (hs : s < N) (hr : NR (im m (a + 1) (79 + 22 * s)) 1 12) {t : Nat} (ht : t < 4) {c : Int32} (h : ¬ (nI 0 ≤ c ∧ c ≤ nI (nv ((im m (a + 1)) (79 + 22 * s))))) : En g (MX10_revise cs) [.ref (a), .int (nI (s)), .int (nI (t)), .int (c)] m (some (.int (nI 0))) (sc a (th m a 2)) := by
  have hr2 := hr.hi
  refine Cn.of pn_X10 (Nat.le_of_ble_eq_true rfl) rfl ?_
  refine g_aload_n 0 dX10_revise_0 rfl rfl ?_
  refine gN_iconst 0 dX10_revise_1 (by decide) ?_
  refine gN_putI fwX10_34 rfl 0 (hM.t) dX10_revise_2 ?_
  refine g_aload_n 0 dX10_revise_5 rfl rfl ?_
  refine g_iload_n 1 dX10_revise_6 rfl rfl ?_
  refine gd_callV _ _ _ _ (cn_X10_isSegment g (0, 0) (m := sI m a 6 (nI 0)) hM (N := N) ((th_z m a 0 0).trans hN) (by omega) (nI (s))) ⟨rfl, rfl⟩ (ok_X10_isSegment _) mlX10_107 in_X10_isSegment se_X10_isSegment 10 0 (hM.t) rfl rfl rfl ⟨Nat.le_of_ble_eq_true rfl, Nat.le_of_ble_eq_true rfl⟩ (by exact Nat.le_of_ble_eq_true rfl) ⟨Nat.zero_le _, Nat.zero_le _⟩ dX10_revise_7 rfl ?_
  refine gN_if_eq 20 dX10_revise_10 (by decide) (by first | omega | exact b01_lt _) (fun h_10 => ?_) (fun h_10 => ?_)
  · exact False.elim (b01_z.mp h_10 ((inb_nI (by omega)).mpr hs))
  · refine g_iload_n 2 dX10_revise_13 rfl rfl ?_
    refine gd_callS _ _ _ _ (cn_X10_isPerson g (0, 0) (nI (t))) ⟨rfl, rfl⟩ (ok_X10_isPerson _) mlX10_92 st_X10_isPerson rfl ⟨Nat.le_of_ble_eq_true rfl, Nat.le_of_ble_eq_true rfl⟩ (by exact Nat.le_of_ble_eq_true rfl) ⟨Nat.zero_le _, Nat.zero_le _⟩ dX10_revise_14 rfl ?_
    refine gN_if_ne 26 dX10_revise_17 (by decide) (by first | omega | exact b01_lt _) (fun h_17 => ?_) (fun h_17 => ?_)
    · refine g_iload_n 1 dX10_revise_26 rfl rfl ?_
      refine gd_callS _ _ _ _ (cn_X10_at g (0, 0) _ s) ⟨rfl, rfl⟩ (ok_X10_at _) mlX10_45 st_X10_at rfl ⟨Nat.le_of_ble_eq_true rfl, Nat.le_of_ble_eq_true rfl⟩ (by exact Nat.le_of_ble_eq_true rfl) ⟨Nat.zero_le _, Nat.zero_le _⟩ dX10_revise_27 rfl ?_
      refine g_istore 4 [(4, .int (nI (79 + 22 * s))), (0, .ref (a)), (1, .int (nI (s))), (2, .int (nI (t))), (3, .int (c))] dX10_revise_30 (Nat.le_of_ble_eq_true rfl) rfl ?_
      refine g_iload_n 3 dX10_revise_32 rfl rfl ?_
      refine gN_iconst 0 dX10_revise_33 (by decide) ?_
      refine g_aload_n 0 dX10_revise_34 rfl rfl ?_
      refine gN_getR (a + 1) flX10_7 (fun _ _ _ => rfl) 0 (hM.t) (hM.r0) dX10_revise_35 ?_
      refine g_iload 4 dX10_revise_38 rfl ?_
      refine gN_iald 689 (hM.t1) (by first | omega | exact b01_lt _) (by first | omega | exact b01_lt _) dX10_revise_40 ?_
      refine g_ei (nI (nv ((im m (a + 1)) (79 + 22 * s)))) ((th_z m a 0 _).trans hr.e) ?_
      refine gd_callS _ _ _ _ (cn_X10_in g (0, 0) _ (c) (nI (0)) (nI (nv ((im m (a + 1)) (79 + 22 * s))))) ⟨rfl, rfl⟩ (ok_X10_in _) mlX10_41 st_X10_in rfl ⟨Nat.le_of_ble_eq_true rfl, Nat.le_of_ble_eq_true rfl⟩ (by exact Nat.le_of_ble_eq_true rfl) ⟨Nat.zero_le _, Nat.zero_le _⟩ dX10_revise_41 rfl ?_
      refine gN_if_ne 53 dX10_revise_44 (by decide) (by first | omega | exact b01_lt _) (fun h_44 => ?_) (fun h_44 => ?_)
      · exact False.elim (h (b01_n.mp h_44))
      · refine g_aload_n 0 dX10_revise_47 rfl rfl ?_
        refine gN_iconst 2 dX10_revise_48 (by decide) ?_
        refine gd_callV _ _ _ _ (cn_X10_fails g (0, 0) (m := sI m a 6 (nI 0)) hM (nI (2))) ⟨rfl, rfl⟩ (ok_X10_fails _) mlX10_95 in_X10_fails se_X10_fails 10 0 (hM.t) rfl rfl rfl ⟨Nat.le_of_ble_eq_true rfl, Nat.le_of_ble_eq_true rfl⟩ (by exact Nat.le_of_ble_eq_true rfl) ⟨Nat.zero_le _, Nat.zero_le _⟩ dX10_revise_49 rfl ?_
        refine g_iret rfl dX10_revise_52 ⟨Nat.zero_le _, Nat.zero_le _⟩ ?_
        exact ⟨rfl, _, rfl, by rw [show im (sI m a 6 (nI 0)) = th m a 0 from rfl, th_th]; exact sc.rf⟩
    · exact False.elim (b01_z.mp h_17 ((inb_nI (by omega)).mpr ht))
set_option maxRecDepth 100000 in
theorem cn_X10_revise_3 (g : Gp) (cs : Nat × Nat) {m : Mm} {a : Nat} (hM : MdOk m a) {N : Nat} (hN : im m (a + 1) 0 = nI N) (hN9 : N ≤ 10) {s : Nat} (hs : s < N) (hr : NR (im m (a + 1) (79 + 22 * s)) 1 12) {t : Nat} (ht : t < 4) {c : Int32} (h : nI 0 ≤ c ∧ c ≤ nI (nv ((im m (a + 1)) (79 + 22 * s)))) (h3 : ¬ ((im m (a + 1)) (79 + 22 * s + 1) = nI 2 ∧ ¬ (im m (a + 1)) (79 + 22 * s + 2) = nI t)) : En g (MX10_revise cs) [.ref (a), .int (nI (s)), .int (nI (t)), .int (c)] m (some (.int (nI 0))) (sc a (th m a 3)) := by
  have hr2 := hr.hi
  refine Cn.of pn_X10 (Nat.le_of_ble_eq_true rfl) rfl ?_
  refine g_aload_n 0 dX10_revise_0 rfl rfl ?_
  refine gN_iconst 0 dX10_revise_1 (by decide) ?_
  refine gN_putI fwX10_34 rfl 0 (hM.t) dX10_revise_2 ?_
  refine g_aload_n 0 dX10_revise_5 rfl rfl ?_
  refine g_iload_n 1 dX10_revise_6 rfl rfl ?_
  refine gd_callV _ _ _ _ (cn_X10_isSegment g (0, 0) (m := sI m a 6 (nI 0)) hM (N := N) ((th_z m a 0 0).trans hN) (by omega) (nI (s))) ⟨rfl, rfl⟩ (ok_X10_isSegment _) mlX10_107 in_X10_isSegment se_X10_isSegment 10 0 (hM.t) rfl rfl rfl ⟨Nat.le_of_ble_eq_true rfl, Nat.le_of_ble_eq_true rfl⟩ (by exact Nat.le_of_ble_eq_true rfl) ⟨Nat.zero_le _, Nat.zero_le _⟩ dX10_revise_7 rfl ?_
  refine gN_if_eq 20 dX10_revise_10 (by decide) (by first | omega | exact b01_lt _) (fun h_10 => ?_) (fun h_10 => ?_)
  · exact False.elim (b01_z.mp h_10 ((inb_nI (by omega)).mpr hs))
  · refine g_iload_n 2 dX10_revise_13 rfl rfl ?_
    refine gd_callS _ _ _ _ (cn_X10_isPerson g (0, 0) (nI (t))) ⟨rfl, rfl⟩ (ok_X10_isPerson _) mlX10_92 st_X10_isPerson rfl ⟨Nat.le_of_ble_eq_true rfl, Nat.le_of_ble_eq_true rfl⟩ (by exact Nat.le_of_ble_eq_true rfl) ⟨Nat.zero_le _, Nat.zero_le _⟩ dX10_revise_14 rfl ?_
    refine gN_if_ne 26 dX10_revise_17 (by decide) (by first | omega | exact b01_lt _) (fun h_17 => ?_) (fun h_17 => ?_)
    · refine g_iload_n 1 dX10_revise_26 rfl rfl ?_
      refine gd_callS _ _ _ _ (cn_X10_at g (0, 0) _ s) ⟨rfl, rfl⟩ (ok_X10_at _) mlX10_45 st_X10_at rfl ⟨Nat.le_of_ble_eq_true rfl, Nat.le_of_ble_eq_true rfl⟩ (by exact Nat.le_of_ble_eq_true rfl) ⟨Nat.zero_le _, Nat.zero_le _⟩ dX10_revise_27 rfl ?_
      refine g_istore 4 [(4, .int (nI (79 + 22 * s))), (0, .ref (a)), (1, .int (nI (s))), (2, .int (nI (t))), (3, .int (c))] dX10_revise_30 (Nat.le_of_ble_eq_true rfl) rfl ?_
      refine g_iload_n 3 dX10_revise_32 rfl rfl ?_
      refine gN_iconst 0 dX10_revise_33 (by decide) ?_
      refine g_aload_n 0 dX10_revise_34 rfl rfl ?_
      refine gN_getR (a + 1) flX10_7 (fun _ _ _ => rfl) 0 (hM.t) (hM.r0) dX10_revise_35 ?_
      refine g_iload 4 dX10_revise_38 rfl ?_
      refine gN_iald 689 (hM.t1) (by first | omega | exact b01_lt _) (by first | omega | exact b01_lt _) dX10_revise_40 ?_
      refine g_ei (nI (nv ((im m (a + 1)) (79 + 22 * s)))) ((th_z m a 0 _).trans hr.e) ?_
      refine gd_callS _ _ _ _ (cn_X10_in g (0, 0) _ (c) (nI (0)) (nI (nv ((im m (a + 1)) (79 + 22 * s))))) ⟨rfl, rfl⟩ (ok_X10_in _) mlX10_41 st_X10_in rfl ⟨Nat.le_of_ble_eq_true rfl, Nat.le_of_ble_eq_true rfl⟩ (by exact Nat.le_of_ble_eq_true rfl) ⟨Nat.zero_le _, Nat.zero_le _⟩ dX10_revise_41 rfl ?_
      refine gN_if_ne 53 dX10_revise_44 (by decide) (by first | omega | exact b01_lt _) (fun h_44 => ?_) (fun h_44 => ?_)
      · refine g_aload_n 0 dX10_revise_53 rfl rfl ?_
        refine gN_getR (a + 1) flX10_7 (fun _ _ _ => rfl) 0 (hM.t) (hM.r0) dX10_revise_54 ?_
        refine g_iload 4 dX10_revise_57 rfl ?_
        refine gN_iconst 1 dX10_revise_59 (by decide) ?_
        refine gN_iadd ((79 + 22 * s) + 1) dX10_revise_60 rfl ?_
        refine gN_iald 689 (hM.t1) (by first | omega | exact b01_lt _) (by first | omega | exact b01_lt _) dX10_revise_61 ?_
        refine gN_iconst 2 dX10_revise_62 (by decide) ?_
        refine g_icmp_ne 79 dX10_revise_63 (by decide) (fun h_63 => ?_) (fun h_63 => ?_)
        · refine g_aload_n 0 dX10_revise_79 rfl rfl ?_
          refine gN_iconst 3 dX10_revise_80 (by decide) ?_
          refine gd_callV _ _ _ _ (cn_X10_fails g (0, 0) (m := sI m a 6 (nI 0)) hM (nI (3))) ⟨rfl, rfl⟩ (ok_X10_fails _) mlX10_95 in_X10_fails se_X10_fails 10 0 (hM.t) rfl rfl rfl ⟨Nat.le_of_ble_eq_true rfl, Nat.le_of_ble_eq_true rfl⟩ (by exact Nat.le_of_ble_eq_true rfl) ⟨Nat.zero_le _, Nat.zero_le _⟩ dX10_revise_81 rfl ?_
          refine g_iret rfl dX10_revise_84 ⟨Nat.zero_le _, Nat.zero_le _⟩ ?_
          exact ⟨rfl, _, rfl, by rw [show im (sI m a 6 (nI 0)) = th m a 0 from rfl, th_th]; exact sc.rf⟩
        · refine g_aload_n 0 dX10_revise_66 rfl rfl ?_
          refine gN_getR (a + 1) flX10_7 (fun _ _ _ => rfl) 0 (hM.t) (hM.r0) dX10_revise_67 ?_
          refine g_iload 4 dX10_revise_70 rfl ?_
          refine gN_iconst 2 dX10_revise_72 (by decide) ?_
          refine gN_iadd ((79 + 22 * s) + 2) dX10_revise_73 rfl ?_
          refine gN_iald 689 (hM.t1) (by first | omega | exact b01_lt _) (by first | omega | exact b01_lt _) dX10_revise_74 ?_
          refine g_iload_n 2 dX10_revise_75 rfl rfl ?_
          refine g_icmp_ne 85 dX10_revise_76 (by decide) (fun h_76 => ?_) (fun h_76 => ?_)
          · exact False.elim (h3 ⟨(th_z m a 0 _).symm.trans h_63, fun q => h_76 ((th_z m a 0 _).trans q)⟩)
          · refine g_aload_n 0 dX10_revise_79 rfl rfl ?_
            refine gN_iconst 3 dX10_revise_80 (by decide) ?_
            refine gd_callV _ _ _ _ (cn_X10_fails g (0, 0) (m := sI m a 6 (nI 0)) hM (nI (3))) ⟨rfl, rfl⟩ (ok_X10_fails _) mlX10_95 in_X10_fails se_X10_fails 10 0 (hM.t) rfl rfl rfl ⟨Nat.le_of_ble_eq_true rfl, Nat.le_of_ble_eq_true rfl⟩ (by exact Nat.le_of_ble_eq_true rfl) ⟨Nat.zero_le _, Nat.zero_le _⟩ dX10_revise_81 rfl ?_
            refine g_iret rfl dX10_revise_84 ⟨Nat.zero_le _, Nat.zero_le _⟩ ?_
            exact ⟨rfl, _, rfl, by rw [show im (sI m a 6 (nI 0)) = th m a 0 from rfl, th_th]; exact sc.rf⟩
      · exact False.elim (b01_z.mp h_44 h)
    · exact False.elim (b01_z.mp h_17 ((inb_nI (by omega)).mpr ht))
set_option maxRecDepth 100000 in
theorem cn_X10_revise_0 (g : Gp) (cs : Nat × Nat) {m : Mm} {a : Nat} (hM : MdOk m a) {N : Nat} (hN : im m (a + 1) 0 = nI N) (hN9 : N ≤ 10) {s : Nat} (hs : s < N) (hr : NR (im m (a + 1) (79 + 22 * s)) 1 12) {t : Nat} (ht : t < 4) {c : Int32} {n : Nat} (hn : im m a 3 = nI n) (hn6 : n ≤ 6) (h : nI 0 ≤ c ∧ c ≤ nI (nv ((im m (a + 1)) (79 + 22 * s)))) (h1 : (im m (a + 1)) (79 + 22 * s + 1) = nI 2) (h2 : ¬ (im m (a + 1)) (79 + 22 * s + 2) = nI t) (hby : NR ((im m (a + 1)) (79 + 22 * s + 2)) 0 3) : En g (MX10_revise cs) [.ref (a), .int (nI (s)), .int (nI (t)), .int (c)] m (some (.int ((im m (a + 1)) (79 + 22 * s + 5) - lsV (im m (a + 1)) (79 + 22 * s) c))) (sc a (rz (svI (th m a 0) a n) (a + 1) (rvZ (im m (a + 1)) s t (nv ((im m (a + 1)) (79 + 22 * s + 2))) c (lsV (im m (a + 1)) (79 + 22 * s) c)))) := by
  have hr2 := hr.hi
  have hby2 := hby.hi
  refine Cn.of pn_X10 (Nat.le_of_ble_eq_true rfl) rfl ?_
  refine g_aload_n 0 dX10_revise_0 rfl rfl ?_
  refine gN_iconst 0 dX10_revise_1 (by decide) ?_
  refine gN_putI fwX10_34 rfl 0 (hM.t) dX10_revise_2 ?_
  refine g_aload_n 0 dX10_revise_5 rfl rfl ?_
  refine g_iload_n 1 dX10_revise_6 rfl rfl ?_
  refine gd_callV _ _ _ _ (cn_X10_isSegment g (0, 0) (m := sI m a 6 (nI 0)) hM (N := N) ((th_z m a 0 0).trans hN) (by omega) (nI (s))) ⟨rfl, rfl⟩ (ok_X10_isSegment _) mlX10_107 in_X10_isSegment se_X10_isSegment 10 0 (hM.t) rfl rfl rfl ⟨Nat.le_of_ble_eq_true rfl, Nat.le_of_ble_eq_true rfl⟩ (by exact Nat.le_of_ble_eq_true rfl) ⟨Nat.zero_le _, Nat.zero_le _⟩ dX10_revise_7 rfl ?_
  refine gN_if_eq 20 dX10_revise_10 (by decide) (by first | omega | exact b01_lt _) (fun h_10 => ?_) (fun h_10 => ?_)
  · exact False.elim (b01_z.mp h_10 ((inb_nI (by omega)).mpr hs))
  · refine g_iload_n 2 dX10_revise_13 rfl rfl ?_
    refine gd_callS _ _ _ _ (cn_X10_isPerson g (0, 0) (nI (t))) ⟨rfl, rfl⟩ (ok_X10_isPerson _) mlX10_92 st_X10_isPerson rfl ⟨Nat.le_of_ble_eq_true rfl, Nat.le_of_ble_eq_true rfl⟩ (by exact Nat.le_of_ble_eq_true rfl) ⟨Nat.zero_le _, Nat.zero_le _⟩ dX10_revise_14 rfl ?_
    refine gN_if_ne 26 dX10_revise_17 (by decide) (by first | omega | exact b01_lt _) (fun h_17 => ?_) (fun h_17 => ?_)
    · refine g_iload_n 1 dX10_revise_26 rfl rfl ?_
      refine gd_callS _ _ _ _ (cn_X10_at g (0, 0) _ s) ⟨rfl, rfl⟩ (ok_X10_at _) mlX10_45 st_X10_at rfl ⟨Nat.le_of_ble_eq_true rfl, Nat.le_of_ble_eq_true rfl⟩ (by exact Nat.le_of_ble_eq_true rfl) ⟨Nat.zero_le _, Nat.zero_le _⟩ dX10_revise_27 rfl ?_
      refine g_istore 4 [(4, .int (nI (79 + 22 * s))), (0, .ref (a)), (1, .int (nI (s))), (2, .int (nI (t))), (3, .int (c))] dX10_revise_30 (Nat.le_of_ble_eq_true rfl) rfl ?_
      refine g_iload_n 3 dX10_revise_32 rfl rfl ?_
      refine gN_iconst 0 dX10_revise_33 (by decide) ?_
      refine g_aload_n 0 dX10_revise_34 rfl rfl ?_
      refine gN_getR (a + 1) flX10_7 (fun _ _ _ => rfl) 0 (hM.t) (hM.r0) dX10_revise_35 ?_
      refine g_iload 4 dX10_revise_38 rfl ?_
      refine gN_iald 689 (hM.t1) (by first | omega | exact b01_lt _) (by first | omega | exact b01_lt _) dX10_revise_40 ?_
      refine g_ei (nI (nv ((im m (a + 1)) (79 + 22 * s)))) ((th_z m a 0 _).trans hr.e) ?_
      refine gd_callS _ _ _ _ (cn_X10_in g (0, 0) _ (c) (nI (0)) (nI (nv ((im m (a + 1)) (79 + 22 * s))))) ⟨rfl, rfl⟩ (ok_X10_in _) mlX10_41 st_X10_in rfl ⟨Nat.le_of_ble_eq_true rfl, Nat.le_of_ble_eq_true rfl⟩ (by exact Nat.le_of_ble_eq_true rfl) ⟨Nat.zero_le _, Nat.zero_le _⟩ dX10_revise_41 rfl ?_
      refine gN_if_ne 53 dX10_revise_44 (by decide) (by first | omega | exact b01_lt _) (fun h_44 => ?_) (fun h_44 => ?_)
      · refine g_aload_n 0 dX10_revise_53 rfl rfl ?_
        refine gN_getR (a + 1) flX10_7 (fun _ _ _ => rfl) 0 (hM.t) (hM.r0) dX10_revise_54 ?_
        refine g_iload 4 dX10_revise_57 rfl ?_
        refine gN_iconst 1 dX10_revise_59 (by decide) ?_
        refine gN_iadd ((79 + 22 * s) + 1) dX10_revise_60 rfl ?_
        refine gN_iald 689 (hM.t1) (by first | omega | exact b01_lt _) (by first | omega | exact b01_lt _) dX10_revise_61 ?_
        refine gN_iconst 2 dX10_revise_62 (by decide) ?_
        refine g_icmp_ne 79 dX10_revise_63 (by decide) (fun h_63 => ?_) (fun h_63 => ?_)
        · exact False.elim (h_63 ((th_z m a 0 _).trans h1))
        · refine g_aload_n 0 dX10_revise_66 rfl rfl ?_
          refine gN_getR (a + 1) flX10_7 (fun _ _ _ => rfl) 0 (hM.t) (hM.r0) dX10_revise_67 ?_
          refine g_iload 4 dX10_revise_70 rfl ?_
          refine gN_iconst 2 dX10_revise_72 (by decide) ?_
          refine gN_iadd ((79 + 22 * s) + 2) dX10_revise_73 rfl ?_
          refine gN_iald 689 (hM.t1) (by first | omega | exact b01_lt _) (by first | omega | exact b01_lt _) dX10_revise_74 ?_
          refine g_iload_n 2 dX10_revise_75 rfl rfl ?_
          refine g_icmp_ne 85 dX10_revise_76 (by decide) (fun h_76 => ?_) (fun h_76 => ?_)
          · refine g_aload_n 0 dX10_revise_85 rfl rfl ?_
            refine gd_callV _ _ _ _ (cn_X10_save g (0, 0) (m := sI m a 6 (nI 0)) hM (n := n) ((th_a m a 0 3 (by omega)).trans hn) hn6) ⟨rfl, rfl⟩ (ok_X10_save _) mlX10_98 in_X10_save se_X10_save 10 0 (hM.t) rfl rfl rfl ⟨Nat.le_of_ble_eq_true rfl, Nat.le_of_ble_eq_true rfl⟩ (by exact Nat.le_of_ble_eq_true rfl) ⟨Nat.zero_le _, Nat.zero_le _⟩ dX10_revise_86 rfl ?_
            refine g_mem (sz_0 m (svI (th m a 0) a n) (a + 1) (im m (a + 1)) (svz m a 0 n)) ?_
            refine g_iload_n 2 dX10_revise_89 rfl rfl ?_
            refine gd_callS _ _ _ _ (cn_X10_person g (0, 0) _ t) ⟨rfl, rfl⟩ (ok_X10_person _) mlX10_101 st_X10_person rfl ⟨Nat.le_of_ble_eq_true rfl, Nat.le_of_ble_eq_true rfl⟩ (by exact Nat.le_of_ble_eq_true rfl) ⟨Nat.zero_le _, Nat.zero_le _⟩ dX10_revise_90 rfl ?_
            refine g_istore 5 [(5, .int (nI (4 + 5 * t))), (4, .int (nI (79 + 22 * s))), (0, .ref (a)), (1, .int (nI (s))), (2, .int (nI (t))), (3, .int (c))] dX10_revise_93 (Nat.le_of_ble_eq_true rfl) rfl ?_
            refine g_aload_n 0 dX10_revise_95 rfl rfl ?_
            refine gN_getR (a + 1) flX10_7 (fun _ _ _ => rfl) 0 (hM.t) (hM.r0) dX10_revise_96 ?_
            refine g_iload 4 dX10_revise_99 rfl ?_
            refine gN_iconst 2 dX10_revise_101 (by decide) ?_
            refine gN_iadd ((79 + 22 * s) + 2) dX10_revise_102 rfl ?_
            refine gN_iald 689 (hM.t1) (by first | omega | exact b01_lt _) (by first | omega | exact b01_lt _) dX10_revise_103 ?_
            refine g_eI (((im m (a + 1))) ((79 + 22 * s) + 2)) (iz _ _ _ _ _) ?_
            refine g_ei (nI (nv ((im m (a + 1)) (79 + 22 * s + 2)))) (by exact hby.e) ?_
            refine gd_callS _ _ _ _ (cn_X10_person g (0, 0) _ (nv ((im m (a + 1)) (79 + 22 * s + 2)))) ⟨rfl, rfl⟩ (ok_X10_person _) mlX10_101 st_X10_person rfl ⟨Nat.le_of_ble_eq_true rfl, Nat.le_of_ble_eq_true rfl⟩ (by exact Nat.le_of_ble_eq_true rfl) ⟨Nat.zero_le _, Nat.zero_le _⟩ dX10_revise_104 rfl ?_
            refine g_istore 6 [(6, .int (nI (4 + 5 * (nv ((im m (a + 1)) (79 + 22 * s + 2)))))), (5, .int (nI (4 + 5 * t))), (4, .int (nI (79 + 22 * s))), (0, .ref (a)), (1, .int (nI (s))), (2, .int (nI (t))), (3, .int (c))] dX10_revise_107 (Nat.le_of_ble_eq_true rfl) rfl ?_
            refine g_iload_n 3 dX10_revise_109 rfl rfl ?_
            refine g_aload_n 0 dX10_revise_110 rfl rfl ?_
            refine gN_getR (a + 1) flX10_7 (fun _ _ _ => rfl) 0 (hM.t) (hM.r0) dX10_revise_111 ?_
            refine g_iload 4 dX10_revise_114 rfl ?_
            refine gN_bipush 9 dX10_revise_116 (by decide) ?_
            refine gN_iadd ((79 + 22 * s) + 9) dX10_revise_118 rfl ?_
            refine gN_iald 689 (hM.t1) (by first | omega | exact b01_lt _) (by first | omega | exact b01_lt _) dX10_revise_119 ?_
            refine g_eI (((im m (a + 1))) ((79 + 22 * s) + 9)) (iz _ _ _ _ _) ?_
            refine g_imul dX10_revise_120 ?_
            refine g_aload_n 0 dX10_revise_121 rfl rfl ?_
            refine gN_getR (a + 1) flX10_7 (fun _ _ _ => rfl) 0 (hM.t) (hM.r0) dX10_revise_122 ?_
            refine gN_iconst 3 dX10_revise_125 (by decide) ?_
            refine gN_iald 689 (hM.t1) (by first | omega | exact b01_lt _) (by first | omega | exact b01_lt _) dX10_revise_126 ?_
            refine g_eI (((im m (a + 1))) (3)) (iz _ _ _ _ _) ?_
            refine g_imul dX10_revise_127 ?_
            refine gN_bipush 100 dX10_revise_128 (by decide) ?_
            refine g_idiv dX10_revise_130 (by decide) ?_
            refine g_topi (fun w ew => ?_)
            refine g_istore 7 [(7, .int (w)), (6, .int (nI (4 + 5 * (nv ((im m (a + 1)) (79 + 22 * s + 2)))))), (5, .int (nI (4 + 5 * t))), (4, .int (nI (79 + 22 * s))), (0, .ref (a)), (1, .int (nI (s))), (2, .int (nI (t))), (3, .int (c))] dX10_revise_131 (Nat.le_of_ble_eq_true rfl) rfl ?_
            refine g_iload 7 dX10_revise_133 rfl ?_
            refine g_aload_n 0 dX10_revise_135 rfl rfl ?_
            refine gN_getR (a + 1) flX10_7 (fun _ _ _ => rfl) 0 (hM.t) (hM.r0) dX10_revise_136 ?_
            refine g_iload 4 dX10_revise_139 rfl ?_
            refine gN_iconst 5 dX10_revise_141 (by decide) ?_
            refine gN_iadd ((79 + 22 * s) + 5) dX10_revise_142 rfl ?_
            refine gN_iald 689 (hM.t1) (by first | omega | exact b01_lt _) (by first | omega | exact b01_lt _) dX10_revise_143 ?_
            refine g_eI (((im m (a + 1))) ((79 + 22 * s) + 5)) (iz _ _ _ _ _) ?_
            refine g_icmp_ge 152 dX10_revise_144 (by decide) (fun h_144 => ?_) (fun h_144 => ?_)
            · refine g_aload_n 0 dX10_revise_152 rfl rfl ?_
              refine gN_getR (a + 1) flX10_7 (fun _ _ _ => rfl) 0 (hM.t) (hM.r0) dX10_revise_153 ?_
              refine g_iload 4 dX10_revise_156 rfl ?_
              refine gN_iconst 5 dX10_revise_158 (by decide) ?_
              refine gN_iadd ((79 + 22 * s) + 5) dX10_revise_159 rfl ?_
              refine gN_iald 689 (hM.t1) (by first | omega | exact b01_lt _) (by first | omega | exact b01_lt _) dX10_revise_160 ?_
              refine g_eI (((im m (a + 1))) ((79 + 22 * s) + 5)) (iz _ _ _ _ _) ?_
              refine g_topi (fun v ev => ?_)
              refine g_istore 7 [(7, .int (v)), (6, .int (nI (4 + 5 * (nv ((im m (a + 1)) (79 + 22 * s + 2)))))), (5, .int (nI (4 + 5 * t))), (4, .int (nI (79 + 22 * s))), (0, .ref (a)), (1, .int (nI (s))), (2, .int (nI (t))), (3, .int (c))] dX10_revise_161 (Nat.le_of_ble_eq_true rfl) rfl ?_
              refine g_aload_n 0 dX10_revise_163 rfl rfl ?_
              refine gN_getR (a + 1) flX10_7 (fun _ _ _ => rfl) 0 (hM.t) (hM.r0) dX10_revise_164 ?_
              refine g_iload 5 dX10_revise_167 rfl ?_
              refine gN_iconst 1 dX10_revise_169 (by decide) ?_
              refine gN_iadd ((4 + 5 * t) + 1) dX10_revise_170 rfl ?_
              refine g_dup2_11 dX10_revise_171 rfl rfl ?_
              refine gN_iald 689 (hM.t1) (by first | omega | exact b01_lt _) (by first | omega | exact b01_lt _) dX10_revise_172 ?_
              refine g_eI (((im m (a + 1))) ((4 + 5 * t) + 1)) (iz _ _ _ _ _) ?_
              refine g_aload_n 0 dX10_revise_173 rfl rfl ?_
              refine gN_getR (a + 1) flX10_7 (fun _ _ _ => rfl) 0 (hM.t) (hM.r0) dX10_revise_174 ?_
              refine g_iload 4 dX10_revise_177 rfl ?_
              refine gN_iald 689 (hM.t1) (by first | omega | exact b01_lt _) (by first | omega | exact b01_lt _) dX10_revise_179 ?_
              refine g_eI (((im m (a + 1))) (79 + 22 * s)) (iz _ _ _ _ _) ?_
              refine g_aload_n 0 dX10_revise_180 rfl rfl ?_
              refine gN_getR (a + 1) flX10_7 (fun _ _ _ => rfl) 0 (hM.t) (hM.r0) dX10_revise_181 ?_
              refine g_iload 5 dX10_revise_184 rfl ?_
              refine gN_iald 689 (hM.t1) (by first | omega | exact b01_lt _) (by first | omega | exact b01_lt _) dX10_revise_186 ?_
              refine g_eI (((im m (a + 1))) (4 + 5 * t)) (iz _ _ _ _ _) ?_
              refine g_imul dX10_revise_187 ?_
              refine g_aload_n 0 dX10_revise_188 rfl rfl ?_
              refine gN_getR (a + 1) flX10_7 (fun _ _ _ => rfl) 0 (hM.t) (hM.r0) dX10_revise_189 ?_
              refine gN_iconst 2 dX10_revise_192 (by decide) ?_
              refine gN_iald 689 (hM.t1) (by first | omega | exact b01_lt _) (by first | omega | exact b01_lt _) dX10_revise_193 ?_
              refine g_eI (((im m (a + 1))) (2)) (iz _ _ _ _ _) ?_
              refine g_imul dX10_revise_194 ?_
              refine gN_bipush 100 dX10_revise_195 (by decide) ?_
              refine g_idiv dX10_revise_197 (by decide) ?_
              refine g_iadd dX10_revise_198 ?_
              refine gN_iast 689 (hM.t1) (by first | omega | exact b01_lt _) (by first | omega | exact b01_lt _) dX10_revise_199 ?_
              refine g_zset (fun Z199 eZ199 => ?_)
              refine g_aload_n 0 dX10_revise_200 rfl rfl ?_
              refine gN_getR (a + 1) flX10_7 (fun _ _ _ => rfl) 0 (hM.t) (hM.r0) dX10_revise_201 ?_
              refine g_iload 5 dX10_revise_204 rfl ?_
              refine gN_iconst 3 dX10_revise_206 (by decide) ?_
              refine gN_iadd ((4 + 5 * t) + 3) dX10_revise_207 rfl ?_
              refine g_dup2_11 dX10_revise_208 rfl rfl ?_
              refine gN_iald 689 (hM.t1) (by first | omega | exact b01_lt _) (by first | omega | exact b01_lt _) dX10_revise_209 ?_
              refine g_eI (Z199 ((4 + 5 * t) + 3)) (iz _ _ _ _ _) ?_
              refine g_iload_n 3 dX10_revise_210 rfl rfl ?_
              refine g_iadd dX10_revise_211 ?_
              refine gN_iast 689 (hM.t1) (by first | omega | exact b01_lt _) (by first | omega | exact b01_lt _) dX10_revise_212 ?_
              refine g_zset (fun Z212 eZ212 => ?_)
              refine g_aload_n 0 dX10_revise_213 rfl rfl ?_
              refine gN_getR (a + 1) flX10_7 (fun _ _ _ => rfl) 0 (hM.t) (hM.r0) dX10_revise_214 ?_
              refine g_iload 6 dX10_revise_217 rfl ?_
              refine gN_iconst 1 dX10_revise_219 (by decide) ?_
              refine gN_iadd ((4 + 5 * (nv ((im m (a + 1)) (79 + 22 * s + 2)))) + 1) dX10_revise_220 rfl ?_
              refine g_dup2_11 dX10_revise_221 rfl rfl ?_
              refine gN_iald 689 (hM.t1) (by first | omega | exact b01_lt _) (by first | omega | exact b01_lt _) dX10_revise_222 ?_
              refine g_eI (Z212 ((4 + 5 * (nv ((im m (a + 1)) (79 + 22 * s + 2)))) + 1)) (iz _ _ _ _ _) ?_
              refine g_iload 7 dX10_revise_223 rfl ?_
              refine g_isub dX10_revise_225 ?_
              refine gN_iast 689 (hM.t1) (by first | omega | exact b01_lt _) (by first | omega | exact b01_lt _) dX10_revise_226 ?_
              refine g_zset (fun Z226 eZ226 => ?_)
              refine g_aload_n 0 dX10_revise_227 rfl rfl ?_
              refine gN_getR (a + 1) flX10_7 (fun _ _ _ => rfl) 0 (hM.t) (hM.r0) dX10_revise_228 ?_
              refine g_iload 6 dX10_revise_231 rfl ?_
              refine gN_iconst 4 dX10_revise_233 (by decide) ?_
              refine gN_iadd ((4 + 5 * (nv ((im m (a + 1)) (79 + 22 * s + 2)))) + 4) dX10_revise_234 rfl ?_
              refine g_dup2_11 dX10_revise_235 rfl rfl ?_
              refine gN_iald 689 (hM.t1) (by first | omega | exact b01_lt _) (by first | omega | exact b01_lt _) dX10_revise_236 ?_
              refine g_eI (Z226 ((4 + 5 * (nv ((im m (a + 1)) (79 + 22 * s + 2)))) + 4)) (iz _ _ _ _ _) ?_
              refine g_iload_n 3 dX10_revise_237 rfl rfl ?_
              refine g_iadd dX10_revise_238 ?_
              refine gN_iast 689 (hM.t1) (by first | omega | exact b01_lt _) (by first | omega | exact b01_lt _) dX10_revise_239 ?_
              refine g_zset (fun Z239 eZ239 => ?_)
              refine g_aload_n 0 dX10_revise_240 rfl rfl ?_
              refine gN_getR (a + 1) flX10_7 (fun _ _ _ => rfl) 0 (hM.t) (hM.r0) dX10_revise_241 ?_
              refine g_iload 4 dX10_revise_244 rfl ?_
              refine gN_iconst 5 dX10_revise_246 (by decide) ?_
              refine gN_iadd ((79 + 22 * s) + 5) dX10_revise_247 rfl ?_
              refine g_dup2_11 dX10_revise_248 rfl rfl ?_
              refine gN_iald 689 (hM.t1) (by first | omega | exact b01_lt _) (by first | omega | exact b01_lt _) dX10_revise_249 ?_
              refine g_eI (Z239 ((79 + 22 * s) + 5)) (iz _ _ _ _ _) ?_
              refine g_iload 7 dX10_revise_250 rfl ?_
              refine g_isub dX10_revise_252 ?_
              refine gN_iast 689 (hM.t1) (by first | omega | exact b01_lt _) (by first | omega | exact b01_lt _) dX10_revise_253 ?_
              refine g_zset (fun Z253 eZ253 => ?_)
              refine g_aload_n 0 dX10_revise_254 rfl rfl ?_
              refine gN_getR (a + 1) flX10_7 (fun _ _ _ => rfl) 0 (hM.t) (hM.r0) dX10_revise_255 ?_
              refine g_iload 4 dX10_revise_258 rfl ?_
              refine gN_iconst 1 dX10_revise_260 (by decide) ?_
              refine gN_iadd ((79 + 22 * s) + 1) dX10_revise_261 rfl ?_
              refine gN_iconst 3 dX10_revise_262 (by decide) ?_
              refine gN_iast 689 (hM.t1) (by first | omega | exact b01_lt _) (by first | omega | exact b01_lt _) dX10_revise_263 ?_
              refine g_zset (fun Z263 eZ263 => ?_)
              refine g_aload_n 0 dX10_revise_264 rfl rfl ?_
              refine gN_getR (a + 1) flX10_7 (fun _ _ _ => rfl) 0 (hM.t) (hM.r0) dX10_revise_265 ?_
              refine g_iload 4 dX10_revise_268 rfl ?_
              refine gN_bipush 7 dX10_revise_270 (by decide) ?_
              refine gN_iadd ((79 + 22 * s) + 7) dX10_revise_272 rfl ?_
              refine g_iload_n 2 dX10_revise_273 rfl rfl ?_
              refine gN_iast 689 (hM.t1) (by first | omega | exact b01_lt _) (by first | omega | exact b01_lt _) dX10_revise_274 ?_
              refine g_zset (fun Z274 eZ274 => ?_)
              refine g_aload_n 0 dX10_revise_275 rfl rfl ?_
              refine gN_getR (a + 1) flX10_7 (fun _ _ _ => rfl) 0 (hM.t) (hM.r0) dX10_revise_276 ?_
              refine g_iload 4 dX10_revise_279 rfl ?_
              refine gN_bipush 8 dX10_revise_281 (by decide) ?_
              refine gN_iadd ((79 + 22 * s) + 8) dX10_revise_283 rfl ?_
              refine g_iload_n 3 dX10_revise_284 rfl rfl ?_
              refine gN_iast 689 (hM.t1) (by first | omega | exact b01_lt _) (by first | omega | exact b01_lt _) dX10_revise_285 ?_
              refine g_zset (fun Z285 eZ285 => ?_)
              refine g_aload_n 0 dX10_revise_286 rfl rfl ?_
              refine gN_getR (a + 1) flX10_7 (fun _ _ _ => rfl) 0 (hM.t) (hM.r0) dX10_revise_287 ?_
              refine g_iload 4 dX10_revise_290 rfl ?_
              refine gN_iconst 5 dX10_revise_292 (by decide) ?_
              refine gN_iadd ((79 + 22 * s) + 5) dX10_revise_293 rfl ?_
              refine gN_iald 689 (hM.t1) (by first | omega | exact b01_lt _) (by first | omega | exact b01_lt _) dX10_revise_294 ?_
              refine g_eI (Z285 ((79 + 22 * s) + 5)) (iz _ _ _ _ _) ?_
              refine g_iret rfl dX10_revise_295 ⟨Nat.zero_le _, Nat.zero_le _⟩ ?_
              have ev9 : v = lsV (im m (a + 1)) (79 + 22 * s) c := by
                rw [ev]; unfold lsV; rw [← ew]
                first | (rw [if_pos (by first | exact h_144 | exact Int32.not_le.mp h_144 | exact Classical.byContradiction fun q => h_144 (Int32.not_lt.mp q))]) | (rw [if_neg (by first | exact h_144 | exact Int32.not_lt.mpr h_144)])
              refine ⟨vI ?_, _, rfl, ?_⟩
              · rw [← ev9]
                rw [eZ285, u1_n _ _ _ (by omega)]; rw [eZ274, u1_n _ _ _ (by omega)]; rw [eZ263, u1_n _ _ _ (by omega)]; rw [eZ253, u1_s]; rw [eZ239, u1_n _ _ _ (by omega)]; rw [eZ226, u1_n _ _ _ (by omega)]; rw [eZ212, u1_n _ _ _ (by omega)]; rw [eZ199, u1_n _ _ _ (by omega)]
              · have e9 : Z285 = rvZ (im m (a + 1)) s t (nv ((im m (a + 1)) (79 + 22 * s + 2))) c (lsV (im m (a + 1)) (79 + 22 * s) c) := by
                  rw [← ev9, eZ285]
                  unfold rvZ
                  rw [eZ274, eZ263, eZ253, eZ239, eZ226, eZ212, eZ199]
                rw [← e9]
                exact sc.rf
            · refine g_iload 7 dX10_revise_147 rfl ?_
              refine g_goto 161 dX10_revise_149 (by decide) ?_
              refine g_topi (fun v ev => ?_)
              refine g_istore 7 [(7, .int (v)), (6, .int (nI (4 + 5 * (nv ((im m (a + 1)) (79 + 22 * s + 2)))))), (5, .int (nI (4 + 5 * t))), (4, .int (nI (79 + 22 * s))), (0, .ref (a)), (1, .int (nI (s))), (2, .int (nI (t))), (3, .int (c))] dX10_revise_161 (Nat.le_of_ble_eq_true rfl) rfl ?_
              refine g_aload_n 0 dX10_revise_163 rfl rfl ?_
              refine gN_getR (a + 1) flX10_7 (fun _ _ _ => rfl) 0 (hM.t) (hM.r0) dX10_revise_164 ?_
              refine g_iload 5 dX10_revise_167 rfl ?_
              refine gN_iconst 1 dX10_revise_169 (by decide) ?_
              refine gN_iadd ((4 + 5 * t) + 1) dX10_revise_170 rfl ?_
              refine g_dup2_11 dX10_revise_171 rfl rfl ?_
              refine gN_iald 689 (hM.t1) (by first | omega | exact b01_lt _) (by first | omega | exact b01_lt _) dX10_revise_172 ?_
              refine g_eI (((im m (a + 1))) ((4 + 5 * t) + 1)) (iz _ _ _ _ _) ?_
              refine g_aload_n 0 dX10_revise_173 rfl rfl ?_
              refine gN_getR (a + 1) flX10_7 (fun _ _ _ => rfl) 0 (hM.t) (hM.r0) dX10_revise_174 ?_
              refine g_iload 4 dX10_revise_177 rfl ?_
              refine gN_iald 689 (hM.t1) (by first | omega | exact b01_lt _) (by first | omega | exact b01_lt _) dX10_revise_179 ?_
              refine g_eI (((im m (a + 1))) (79 + 22 * s)) (iz _ _ _ _ _) ?_
              refine g_aload_n 0 dX10_revise_180 rfl rfl ?_
              refine gN_getR (a + 1) flX10_7 (fun _ _ _ => rfl) 0 (hM.t) (hM.r0) dX10_revise_181 ?_
              refine g_iload 5 dX10_revise_184 rfl ?_
              refine gN_iald 689 (hM.t1) (by first | omega | exact b01_lt _) (by first | omega | exact b01_lt _) dX10_revise_186 ?_
              refine g_eI (((im m (a + 1))) (4 + 5 * t)) (iz _ _ _ _ _) ?_
              refine g_imul dX10_revise_187 ?_
              refine g_aload_n 0 dX10_revise_188 rfl rfl ?_
              refine gN_getR (a + 1) flX10_7 (fun _ _ _ => rfl) 0 (hM.t) (hM.r0) dX10_revise_189 ?_
              refine gN_iconst 2 dX10_revise_192 (by decide) ?_
              refine gN_iald 689 (hM.t1) (by first | omega | exact b01_lt _) (by first | omega | exact b01_lt _) dX10_revise_193 ?_
              refine g_eI (((im m (a + 1))) (2)) (iz _ _ _ _ _) ?_
              refine g_imul dX10_revise_194 ?_
              refine gN_bipush 100 dX10_revise_195 (by decide) ?_
              refine g_idiv dX10_revise_197 (by decide) ?_
              refine g_iadd dX10_revise_198 ?_
              refine gN_iast 689 (hM.t1) (by first | omega | exact b01_lt _) (by first | omega | exact b01_lt _) dX10_revise_199 ?_
              refine g_zset (fun Z199 eZ199 => ?_)
              refine g_aload_n 0 dX10_revise_200 rfl rfl ?_
              refine gN_getR (a + 1) flX10_7 (fun _ _ _ => rfl) 0 (hM.t) (hM.r0) dX10_revise_201 ?_
              refine g_iload 5 dX10_revise_204 rfl ?_
              refine gN_iconst 3 dX10_revise_206 (by decide) ?_
              refine gN_iadd ((4 + 5 * t) + 3) dX10_revise_207 rfl ?_
              refine g_dup2_11 dX10_revise_208 rfl rfl ?_
              refine gN_iald 689 (hM.t1) (by first | omega | exact b01_lt _) (by first | omega | exact b01_lt _) dX10_revise_209 ?_
              refine g_eI (Z199 ((4 + 5 * t) + 3)) (iz _ _ _ _ _) ?_
              refine g_iload_n 3 dX10_revise_210 rfl rfl ?_
              refine g_iadd dX10_revise_211 ?_
              refine gN_iast 689 (hM.t1) (by first | omega | exact b01_lt _) (by first | omega | exact b01_lt _) dX10_revise_212 ?_
              refine g_zset (fun Z212 eZ212 => ?_)
              refine g_aload_n 0 dX10_revise_213 rfl rfl ?_
              refine gN_getR (a + 1) flX10_7 (fun _ _ _ => rfl) 0 (hM.t) (hM.r0) dX10_revise_214 ?_
              refine g_iload 6 dX10_revise_217 rfl ?_
              refine gN_iconst 1 dX10_revise_219 (by decide) ?_
              refine gN_iadd ((4 + 5 * (nv ((im m (a + 1)) (79 + 22 * s + 2)))) + 1) dX10_revise_220 rfl ?_
              refine g_dup2_11 dX10_revise_221 rfl rfl ?_
              refine gN_iald 689 (hM.t1) (by first | omega | exact b01_lt _) (by first | omega | exact b01_lt _) dX10_revise_222 ?_
              refine g_eI (Z212 ((4 + 5 * (nv ((im m (a + 1)) (79 + 22 * s + 2)))) + 1)) (iz _ _ _ _ _) ?_
              refine g_iload 7 dX10_revise_223 rfl ?_
              refine g_isub dX10_revise_225 ?_
              refine gN_iast 689 (hM.t1) (by first | omega | exact b01_lt _) (by first | omega | exact b01_lt _) dX10_revise_226 ?_
              refine g_zset (fun Z226 eZ226 => ?_)
              refine g_aload_n 0 dX10_revise_227 rfl rfl ?_
              refine gN_getR (a + 1) flX10_7 (fun _ _ _ => rfl) 0 (hM.t) (hM.r0) dX10_revise_228 ?_
              refine g_iload 6 dX10_revise_231 rfl ?_
              refine gN_iconst 4 dX10_revise_233 (by decide) ?_
              refine gN_iadd ((4 + 5 * (nv ((im m (a + 1)) (79 + 22 * s + 2)))) + 4) dX10_revise_234 rfl ?_
              refine g_dup2_11 dX10_revise_235 rfl rfl ?_
              refine gN_iald 689 (hM.t1) (by first | omega | exact b01_lt _) (by first | omega | exact b01_lt _) dX10_revise_236 ?_
              refine g_eI (Z226 ((4 + 5 * (nv ((im m (a + 1)) (79 + 22 * s + 2)))) + 4)) (iz _ _ _ _ _) ?_
              refine g_iload_n 3 dX10_revise_237 rfl rfl ?_
              refine g_iadd dX10_revise_238 ?_
              refine gN_iast 689 (hM.t1) (by first | omega | exact b01_lt _) (by first | omega | exact b01_lt _) dX10_revise_239 ?_
              refine g_zset (fun Z239 eZ239 => ?_)
              refine g_aload_n 0 dX10_revise_240 rfl rfl ?_
              refine gN_getR (a + 1) flX10_7 (fun _ _ _ => rfl) 0 (hM.t) (hM.r0) dX10_revise_241 ?_
              refine g_iload 4 dX10_revise_244 rfl ?_
              refine gN_iconst 5 dX10_revise_246 (by decide) ?_
              refine gN_iadd ((79 + 22 * s) + 5) dX10_revise_247 rfl ?_
              refine g_dup2_11 dX10_revise_248 rfl rfl ?_
              refine gN_iald 689 (hM.t1) (by first | omega | exact b01_lt _) (by first | omega | exact b01_lt _) dX10_revise_249 ?_
              refine g_eI (Z239 ((79 + 22 * s) + 5)) (iz _ _ _ _ _) ?_
              refine g_iload 7 dX10_revise_250 rfl ?_
              refine g_isub dX10_revise_252 ?_
              refine gN_iast 689 (hM.t1) (by first | omega | exact b01_lt _) (by first | omega | exact b01_lt _) dX10_revise_253 ?_
              refine g_zset (fun Z253 eZ253 => ?_)
              refine g_aload_n 0 dX10_revise_254 rfl rfl ?_
              refine gN_getR (a + 1) flX10_7 (fun _ _ _ => rfl) 0 (hM.t) (hM.r0) dX10_revise_255 ?_
              refine g_iload 4 dX10_revise_258 rfl ?_
              refine gN_iconst 1 dX10_revise_260 (by decide) ?_
              refine gN_iadd ((79 + 22 * s) + 1) dX10_revise_261 rfl ?_
              refine gN_iconst 3 dX10_revise_262 (by decide) ?_
              refine gN_iast 689 (hM.t1) (by first | omega | exact b01_lt _) (by first | omega | exact b01_lt _) dX10_revise_263 ?_
              refine g_zset (fun Z263 eZ263 => ?_)
              refine g_aload_n 0 dX10_revise_264 rfl rfl ?_
              refine gN_getR (a + 1) flX10_7 (fun _ _ _ => rfl) 0 (hM.t) (hM.r0) dX10_revise_265 ?_
              refine g_iload 4 dX10_revise_268 rfl ?_
              refine gN_bipush 7 dX10_revise_270 (by decide) ?_
              refine gN_iadd ((79 + 22 * s) + 7) dX10_revise_272 rfl ?_
              refine g_iload_n 2 dX10_revise_273 rfl rfl ?_
              refine gN_iast 689 (hM.t1) (by first | omega | exact b01_lt _) (by first | omega | exact b01_lt _) dX10_revise_274 ?_
              refine g_zset (fun Z274 eZ274 => ?_)
              refine g_aload_n 0 dX10_revise_275 rfl rfl ?_
              refine gN_getR (a + 1) flX10_7 (fun _ _ _ => rfl) 0 (hM.t) (hM.r0) dX10_revise_276 ?_
              refine g_iload 4 dX10_revise_279 rfl ?_
              refine gN_bipush 8 dX10_revise_281 (by decide) ?_
              refine gN_iadd ((79 + 22 * s) + 8) dX10_revise_283 rfl ?_
              refine g_iload_n 3 dX10_revise_284 rfl rfl ?_
              refine gN_iast 689 (hM.t1) (by first | omega | exact b01_lt _) (by first | omega | exact b01_lt _) dX10_revise_285 ?_
              refine g_zset (fun Z285 eZ285 => ?_)
              refine g_aload_n 0 dX10_revise_286 rfl rfl ?_
              refine gN_getR (a + 1) flX10_7 (fun _ _ _ => rfl) 0 (hM.t) (hM.r0) dX10_revise_287 ?_
              refine g_iload 4 dX10_revise_290 rfl ?_
              refine gN_iconst 5 dX10_revise_292 (by decide) ?_
              refine gN_iadd ((79 + 22 * s) + 5) dX10_revise_293 rfl ?_
              refine gN_iald 689 (hM.t1) (by first | omega | exact b01_lt _) (by first | omega | exact b01_lt _) dX10_revise_294 ?_
              refine g_eI (Z285 ((79 + 22 * s) + 5)) (iz _ _ _ _ _) ?_
              refine g_iret rfl dX10_revise_295 ⟨Nat.zero_le _, Nat.zero_le _⟩ ?_
              have ev9 : v = lsV (im m (a + 1)) (79 + 22 * s) c := by
                rw [ev]; unfold lsV; rw [← ew]
                first | (rw [if_pos (by first | exact h_144 | exact Int32.not_le.mp h_144 | exact Classical.byContradiction fun q => h_144 (Int32.not_lt.mp q))]) | (rw [if_neg (by first | exact h_144 | exact Int32.not_lt.mpr h_144)])
              refine ⟨vI ?_, _, rfl, ?_⟩
              · rw [← ev9]
                rw [eZ285, u1_n _ _ _ (by omega)]; rw [eZ274, u1_n _ _ _ (by omega)]; rw [eZ263, u1_n _ _ _ (by omega)]; rw [eZ253, u1_s]; rw [eZ239, u1_n _ _ _ (by omega)]; rw [eZ226, u1_n _ _ _ (by omega)]; rw [eZ212, u1_n _ _ _ (by omega)]; rw [eZ199, u1_n _ _ _ (by omega)]
              · have e9 : Z285 = rvZ (im m (a + 1)) s t (nv ((im m (a + 1)) (79 + 22 * s + 2))) c (lsV (im m (a + 1)) (79 + 22 * s) c) := by
                  rw [← ev9, eZ285]
                  unfold rvZ
                  rw [eZ274, eZ263, eZ253, eZ239, eZ226, eZ212, eZ199]
                rw [← e9]
                exact sc.rf
          · exact False.elim (h2 ((th_z m a 0 _).symm.trans h_76))
      · exact False.elim (b01_z.mp h_44 h)
    · exact False.elim (b01_z.mp h_17 ((inb_nI (by omega)).mpr ht))
