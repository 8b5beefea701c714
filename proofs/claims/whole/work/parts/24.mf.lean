set_option maxRecDepth 100000 in
theorem cn_X10_rate_1 (g : Gp) (cs : Nat × Nat) {m : Mm} {a : Nat} (hM : MdOk m a) {p x : Int32} (h : ¬ inb p 4) : En g (MX10_rate cs) [.ref (a), .int (p), .int (x)] m (some (.int (nI 0))) (sc a (th m a 1)) := by
  refine Cn.of pn_X10 (Nat.le_of_ble_eq_true rfl) rfl ?_
  refine g_aload_n 0 dX10_rate_0 rfl rfl ?_
  refine gN_iconst 0 dX10_rate_1 (by decide) ?_
  refine gN_putI fwX10_34 rfl 0 (hM.t) dX10_rate_2 ?_
  refine g_iload_n 1 dX10_rate_5 rfl rfl ?_
  refine gd_callS _ _ _ _ (cn_X10_isPerson g (0, 0) (p)) ⟨rfl, rfl⟩ (ok_X10_isPerson _) mlX10_92 st_X10_isPerson rfl ⟨Nat.le_of_ble_eq_true rfl, Nat.le_of_ble_eq_true rfl⟩ (by exact Nat.le_of_ble_eq_true rfl) ⟨Nat.zero_le _, Nat.zero_le _⟩ dX10_rate_6 rfl ?_
  refine gN_if_ne 18 dX10_rate_9 (by decide) (by first | omega | exact b01_lt _) (fun h_9 => ?_) (fun h_9 => ?_)
  · exact False.elim (h (b01_n.mp h_9))
  · refine g_aload_n 0 dX10_rate_12 rfl rfl ?_
    refine gN_iconst 1 dX10_rate_13 (by decide) ?_
    refine gd_callV _ _ _ _ (cn_X10_fails g (0, 0) (m := sI m a 6 (nI 0)) hM (nI (1))) ⟨rfl, rfl⟩ (ok_X10_fails _) mlX10_95 in_X10_fails se_X10_fails 10 0 (hM.t) rfl rfl rfl ⟨Nat.le_of_ble_eq_true rfl, Nat.le_of_ble_eq_true rfl⟩ (by exact Nat.le_of_ble_eq_true rfl) ⟨Nat.zero_le _, Nat.zero_le _⟩ dX10_rate_14 rfl ?_
    refine g_iret rfl dX10_rate_17 ⟨Nat.zero_le _, Nat.zero_le _⟩ ?_
    exact ⟨rfl, _, rfl, by rw [show im (sI m a 6 (nI 0)) = th m a 0 from rfl, th_th]; exact sc.rf⟩
set_option maxRecDepth 100000 in
theorem cn_X10_rate_2 (g : Gp) (cs : Nat × Nat) {m : Mm} {a : Nat} (hM : MdOk m a) {j : Nat} (hj : j < 4) {x : Int32} (h : ¬ (nI 1 ≤ x ∧ x ≤ nI 99)) : En g (MX10_rate cs) [.ref (a), .int (nI (j)), .int (x)] m (some (.int (nI 0))) (sc a (th m a 2)) := by
  refine Cn.of pn_X10 (Nat.le_of_ble_eq_true rfl) rfl ?_
  refine g_aload_n 0 dX10_rate_0 rfl rfl ?_
  refine gN_iconst 0 dX10_rate_1 (by decide) ?_
  refine gN_putI fwX10_34 rfl 0 (hM.t) dX10_rate_2 ?_
  refine g_iload_n 1 dX10_rate_5 rfl rfl ?_
  refine gd_callS _ _ _ _ (cn_X10_isPerson g (0, 0) (nI (j))) ⟨rfl, rfl⟩ (ok_X10_isPerson _) mlX10_92 st_X10_isPerson rfl ⟨Nat.le_of_ble_eq_true rfl, Nat.le_of_ble_eq_true rfl⟩ (by exact Nat.le_of_ble_eq_true rfl) ⟨Nat.zero_le _, Nat.zero_le _⟩ dX10_rate_6 rfl ?_
  refine gN_if_ne 18 dX10_rate_9 (by decide) (by first | omega | exact b01_lt _) (fun h_9 => ?_) (fun h_9 => ?_)
  · refine g_iload_n 2 dX10_rate_18 rfl rfl ?_
    refine gN_iconst 1 dX10_rate_19 (by decide) ?_
    refine gN_bipush 99 dX10_rate_20 (by decide) ?_
    refine gd_callS _ _ _ _ (cn_X10_in g (0, 0) _ (x) (nI (1)) (nI (99))) ⟨rfl, rfl⟩ (ok_X10_in _) mlX10_41 st_X10_in rfl ⟨Nat.le_of_ble_eq_true rfl, Nat.le_of_ble_eq_true rfl⟩ (by exact Nat.le_of_ble_eq_true rfl) ⟨Nat.zero_le _, Nat.zero_le _⟩ dX10_rate_22 rfl ?_
    refine gN_if_ne 34 dX10_rate_25 (by decide) (by first | omega | exact b01_lt _) (fun h_25 => ?_) (fun h_25 => ?_)
    · exact False.elim (h (b01_n.mp h_25))
    · refine g_aload_n 0 dX10_rate_28 rfl rfl ?_
      refine gN_iconst 2 dX10_rate_29 (by decide) ?_
      refine gd_callV _ _ _ _ (cn_X10_fails g (0, 0) (m := sI m a 6 (nI 0)) hM (nI (2))) ⟨rfl, rfl⟩ (ok_X10_fails _) mlX10_95 in_X10_fails se_X10_fails 10 0 (hM.t) rfl rfl rfl ⟨Nat.le_of_ble_eq_true rfl, Nat.le_of_ble_eq_true rfl⟩ (by exact Nat.le_of_ble_eq_true rfl) ⟨Nat.zero_le _, Nat.zero_le _⟩ dX10_rate_30 rfl ?_
      refine g_iret rfl dX10_rate_33 ⟨Nat.zero_le _, Nat.zero_le _⟩ ?_
      exact ⟨rfl, _, rfl, by rw [show im (sI m a 6 (nI 0)) = th m a 0 from rfl, th_th]; exact sc.rf⟩
  · exact False.elim (b01_z.mp h_9 ((inb_nI (by omega)).mpr hj))
set_option maxRecDepth 100000 in
theorem cn_X10_rate_0 (g : Gp) (cs : Nat × Nat) {m : Mm} {a : Nat} (hM : MdOk m a) {n : Nat} (hn : im m a 3 = nI n) (hn6 : n ≤ 6) {j : Nat} (hj : j < 4) {x : Int32} (h : nI 1 ≤ x ∧ x ≤ nI 99) : En g (MX10_rate cs) [.ref (a), .int (nI (j)), .int (x)] m (some (.int ((im m (a + 1)) (4 + 5 * j)))) (sc a (u2 (svI (th m a 0) a n) (a + 1) (4 + 5 * j) x)) := by
  refine Cn.of pn_X10 (Nat.le_of_ble_eq_true rfl) rfl ?_
  refine g_aload_n 0 dX10_rate_0 rfl rfl ?_
  refine gN_iconst 0 dX10_rate_1 (by decide) ?_
  refine gN_putI fwX10_34 rfl 0 (hM.t) dX10_rate_2 ?_
  refine g_iload_n 1 dX10_rate_5 rfl rfl ?_
  refine gd_callS _ _ _ _ (cn_X10_isPerson g (0, 0) (nI (j))) ⟨rfl, rfl⟩ (ok_X10_isPerson _) mlX10_92 st_X10_isPerson rfl ⟨Nat.le_of_ble_eq_true rfl, Nat.le_of_ble_eq_true rfl⟩ (by exact Nat.le_of_ble_eq_true rfl) ⟨Nat.zero_le _, Nat.zero_le _⟩ dX10_rate_6 rfl ?_
  refine gN_if_ne 18 dX10_rate_9 (by decide) (by first | omega | exact b01_lt _) (fun h_9 => ?_) (fun h_9 => ?_)
  · refine g_iload_n 2 dX10_rate_18 rfl rfl ?_
    refine gN_iconst 1 dX10_rate_19 (by decide) ?_
    refine gN_bipush 99 dX10_rate_20 (by decide) ?_
    refine gd_callS _ _ _ _ (cn_X10_in g (0, 0) _ (x) (nI (1)) (nI (99))) ⟨rfl, rfl⟩ (ok_X10_in _) mlX10_41 st_X10_in rfl ⟨Nat.le_of_ble_eq_true rfl, Nat.le_of_ble_eq_true rfl⟩ (by exact Nat.le_of_ble_eq_true rfl) ⟨Nat.zero_le _, Nat.zero_le _⟩ dX10_rate_22 rfl ?_
    refine gN_if_ne 34 dX10_rate_25 (by decide) (by first | omega | exact b01_lt _) (fun h_25 => ?_) (fun h_25 => ?_)
    · refine g_aload_n 0 dX10_rate_34 rfl rfl ?_
      refine gd_callV _ _ _ _ (cn_X10_save g (0, 0) (m := sI m a 6 (nI 0)) hM (n := n) ((th_a m a 0 3 (by omega)).trans hn) hn6) ⟨rfl, rfl⟩ (ok_X10_save _) mlX10_98 in_X10_save se_X10_save 10 0 (hM.t) rfl rfl rfl ⟨Nat.le_of_ble_eq_true rfl, Nat.le_of_ble_eq_true rfl⟩ (by exact Nat.le_of_ble_eq_true rfl) ⟨Nat.zero_le _, Nat.zero_le _⟩ dX10_rate_35 rfl ?_
      refine g_aload_n 0 dX10_rate_38 rfl rfl ?_
      refine gN_getR (a + 1) flX10_7 (fun _ _ _ => rfl) 0 (hM.t) (hM.r0) dX10_rate_39 ?_
      refine g_iload_n 1 dX10_rate_42 rfl rfl ?_
      refine gd_callS _ _ _ _ (cn_X10_person g (0, 0) _ j) ⟨rfl, rfl⟩ (ok_X10_person _) mlX10_101 st_X10_person rfl ⟨Nat.le_of_ble_eq_true rfl, Nat.le_of_ble_eq_true rfl⟩ (by exact Nat.le_of_ble_eq_true rfl) ⟨Nat.zero_le _, Nat.zero_le _⟩ dX10_rate_43 rfl ?_
      refine gN_iald 689 (hM.t1) (by first | omega | exact b01_lt _) (by first | omega | exact b01_lt _) dX10_rate_46 ?_
      refine g_topi (fun v3_47 ev3_47 => ?_)
      refine g_istore_n 3 [(3, .int (v3_47)), (0, .ref (a)), (1, .int (nI (j))), (2, .int (x))] dX10_rate_47 rfl (Nat.le_of_ble_eq_true rfl) rfl ?_
      refine g_aload_n 0 dX10_rate_48 rfl rfl ?_
      refine gN_getR (a + 1) flX10_7 (fun _ _ _ => rfl) 0 (hM.t) (hM.r0) dX10_rate_49 ?_
      refine g_iload_n 1 dX10_rate_52 rfl rfl ?_
      refine gd_callS _ _ _ _ (cn_X10_person g (0, 0) _ j) ⟨rfl, rfl⟩ (ok_X10_person _) mlX10_101 st_X10_person rfl ⟨Nat.le_of_ble_eq_true rfl, Nat.le_of_ble_eq_true rfl⟩ (by exact Nat.le_of_ble_eq_true rfl) ⟨Nat.zero_le _, Nat.zero_le _⟩ dX10_rate_53 rfl ?_
      refine g_iload_n 2 dX10_rate_56 rfl rfl ?_
      refine gN_iast 689 (hM.t1) (by first | omega | exact b01_lt _) (by first | omega | exact b01_lt _) dX10_rate_57 ?_
      refine g_iload_n 3 dX10_rate_58 rfl rfl ?_
      refine g_iret rfl dX10_rate_59 ⟨Nat.zero_le _, Nat.zero_le _⟩ ?_
      exact ⟨vI (by rw [ev3_47]; exact sv_z m a 0 n _), _, rfl, sc.rf⟩
    · exact False.elim (b01_z.mp h_25 h)
  · exact False.elim (b01_z.mp h_9 ((inb_nI (by omega)).mpr hj))
set_option maxRecDepth 100000 in
theorem cn_X10_pays_1 (g : Gp) (cs : Nat × Nat) {m : Mm} {a : Nat} (hM : MdOk m a) {p x : Int32} (h : ¬ inb p 5) : En g (MX10_pays cs) [.ref (a), .int (p), .int (x)] m (some (.int (nI 0))) (sc a (th m a 1)) := by
  refine Cn.of pn_X10 (Nat.le_of_ble_eq_true rfl) rfl ?_
  refine g_aload_n 0 dX10_pays_0 rfl rfl ?_
  refine gN_iconst 0 dX10_pays_1 (by decide) ?_
  refine gN_putI fwX10_34 rfl 0 (hM.t) dX10_pays_2 ?_
  refine g_iload_n 1 dX10_pays_5 rfl rfl ?_
  refine gd_callS _ _ _ _ (cn_X10_isBand g (0, 0) (p)) ⟨rfl, rfl⟩ (ok_X10_isBand _) mlX10_104 st_X10_isBand rfl ⟨Nat.le_of_ble_eq_true rfl, Nat.le_of_ble_eq_true rfl⟩ (by exact Nat.le_of_ble_eq_true rfl) ⟨Nat.zero_le _, Nat.zero_le _⟩ dX10_pays_6 rfl ?_
  refine gN_if_ne 18 dX10_pays_9 (by decide) (by first | omega | exact b01_lt _) (fun h_9 => ?_) (fun h_9 => ?_)
  · exact False.elim (h (b01_n.mp h_9))
  · refine g_aload_n 0 dX10_pays_12 rfl rfl ?_
    refine gN_iconst 1 dX10_pays_13 (by decide) ?_
    refine gd_callV _ _ _ _ (cn_X10_fails g (0, 0) (m := sI m a 6 (nI 0)) hM (nI (1))) ⟨rfl, rfl⟩ (ok_X10_fails _) mlX10_95 in_X10_fails se_X10_fails 10 0 (hM.t) rfl rfl rfl ⟨Nat.le_of_ble_eq_true rfl, Nat.le_of_ble_eq_true rfl⟩ (by exact Nat.le_of_ble_eq_true rfl) ⟨Nat.zero_le _, Nat.zero_le _⟩ dX10_pays_14 rfl ?_
    refine g_iret rfl dX10_pays_17 ⟨Nat.zero_le _, Nat.zero_le _⟩ ?_
    exact ⟨rfl, _, rfl, by rw [show im (sI m a 6 (nI 0)) = th m a 0 from rfl, th_th]; exact sc.rf⟩
set_option maxRecDepth 100000 in
theorem cn_X10_pays_2 (g : Gp) (cs : Nat × Nat) {m : Mm} {a : Nat} (hM : MdOk m a) {j : Nat} (hj : j < 5) {x : Int32} (h : ¬ (nI 0 ≤ x ∧ x ≤ nI 100)) : En g (MX10_pays cs) [.ref (a), .int (nI (j)), .int (x)] m (some (.int (nI 0))) (sc a (th m a 2)) := by
  refine Cn.of pn_X10 (Nat.le_of_ble_eq_true rfl) rfl ?_
  refine g_aload_n 0 dX10_pays_0 rfl rfl ?_
  refine gN_iconst 0 dX10_pays_1 (by decide) ?_
  refine gN_putI fwX10_34 rfl 0 (hM.t) dX10_pays_2 ?_
  refine g_iload_n 1 dX10_pays_5 rfl rfl ?_
  refine gd_callS _ _ _ _ (cn_X10_isBand g (0, 0) (nI (j))) ⟨rfl, rfl⟩ (ok_X10_isBand _) mlX10_104 st_X10_isBand rfl ⟨Nat.le_of_ble_eq_true rfl, Nat.le_of_ble_eq_true rfl⟩ (by exact Nat.le_of_ble_eq_true rfl) ⟨Nat.zero_le _, Nat.zero_le _⟩ dX10_pays_6 rfl ?_
  refine gN_if_ne 18 dX10_pays_9 (by decide) (by first | omega | exact b01_lt _) (fun h_9 => ?_) (fun h_9 => ?_)
  · refine g_iload_n 2 dX10_pays_18 rfl rfl ?_
    refine gN_iconst 0 dX10_pays_19 (by decide) ?_
    refine gN_bipush 100 dX10_pays_20 (by decide) ?_
    refine gd_callS _ _ _ _ (cn_X10_in g (0, 0) _ (x) (nI (0)) (nI (100))) ⟨rfl, rfl⟩ (ok_X10_in _) mlX10_41 st_X10_in rfl ⟨Nat.le_of_ble_eq_true rfl, Nat.le_of_ble_eq_true rfl⟩ (by exact Nat.le_of_ble_eq_true rfl) ⟨Nat.zero_le _, Nat.zero_le _⟩ dX10_pays_22 rfl ?_
    refine gN_if_ne 34 dX10_pays_25 (by decide) (by first | omega | exact b01_lt _) (fun h_25 => ?_) (fun h_25 => ?_)
    · exact False.elim (h (b01_n.mp h_25))
    · refine g_aload_n 0 dX10_pays_28 rfl rfl ?_
      refine gN_iconst 2 dX10_pays_29 (by decide) ?_
      refine gd_callV _ _ _ _ (cn_X10_fails g (0, 0) (m := sI m a 6 (nI 0)) hM (nI (2))) ⟨rfl, rfl⟩ (ok_X10_fails _) mlX10_95 in_X10_fails se_X10_fails 10 0 (hM.t) rfl rfl rfl ⟨Nat.le_of_ble_eq_true rfl, Nat.le_of_ble_eq_true rfl⟩ (by exact Nat.le_of_ble_eq_true rfl) ⟨Nat.zero_le _, Nat.zero_le _⟩ dX10_pays_30 rfl ?_
      refine g_iret rfl dX10_pays_33 ⟨Nat.zero_le _, Nat.zero_le _⟩ ?_
      exact ⟨rfl, _, rfl, by rw [show im (sI m a 6 (nI 0)) = th m a 0 from rfl, th_th]; exact sc.rf⟩
  · exact False.elim (b01_z.mp h_9 ((inb_nI (by omega)).mpr hj))
set_option maxRecDepth 100000 in
theorem cn_X10_pays_0 (g : Gp) (cs : Nat × Nat) {m : Mm} {a : Nat} (hM : MdOk m a) {n : Nat} (hn : im m a 3 = nI n) (hn6 : n ≤ 6) {j : Nat} (hj : j < 5) {x : Int32} (h : nI 0 ≤ x ∧ x ≤ nI 100) : En g (MX10_pays cs) [.ref (a), .int (nI (j)), .int (x)] m (some (.int ((im m (a + 1)) (64 + 3 * j)))) (sc a (u2 (svI (th m a 0) a n) (a + 1) (64 + 3 * j) x)) := by
  refine Cn.of pn_X10 (Nat.le_of_ble_eq_true rfl) rfl ?_
  refine g_aload_n 0 dX10_pays_0 rfl rfl ?_
  refine gN_iconst 0 dX10_pays_1 (by decide) ?_
  refine gN_putI fwX10_34 rfl 0 (hM.t) dX10_pays_2 ?_
  refine g_iload_n 1 dX10_pays_5 rfl rfl ?_
  refine gd_callS _ _ _ _ (cn_X10_isBand g (0, 0) (nI (j))) ⟨rfl, rfl⟩ (ok_X10_isBand _) mlX10_104 st_X10_isBand rfl ⟨Nat.le_of_ble_eq_true rfl, Nat.le_of_ble_eq_true rfl⟩ (by exact Nat.le_of_ble_eq_true rfl) ⟨Nat.zero_le _, Nat.zero_le _⟩ dX10_pays_6 rfl ?_
  refine gN_if_ne 18 dX10_pays_9 (by decide) (by first | omega | exact b01_lt _) (fun h_9 => ?_) (fun h_9 => ?_)
  · refine g_iload_n 2 dX10_pays_18 rfl rfl ?_
    refine gN_iconst 0 dX10_pays_19 (by decide) ?_
    refine gN_bipush 100 dX10_pays_20 (by decide) ?_
    refine gd_callS _ _ _ _ (cn_X10_in g (0, 0) _ (x) (nI (0)) (nI (100))) ⟨rfl, rfl⟩ (ok_X10_in _) mlX10_41 st_X10_in rfl ⟨Nat.le_of_ble_eq_true rfl, Nat.le_of_ble_eq_true rfl⟩ (by exact Nat.le_of_ble_eq_true rfl) ⟨Nat.zero_le _, Nat.zero_le _⟩ dX10_pays_22 rfl ?_
    refine gN_if_ne 34 dX10_pays_25 (by decide) (by first | omega | exact b01_lt _) (fun h_25 => ?_) (fun h_25 => ?_)
    · refine g_aload_n 0 dX10_pays_34 rfl rfl ?_
      refine gd_callV _ _ _ _ (cn_X10_save g (0, 0) (m := sI m a 6 (nI 0)) hM (n := n) ((th_a m a 0 3 (by omega)).trans hn) hn6) ⟨rfl, rfl⟩ (ok_X10_save _) mlX10_98 in_X10_save se_X10_save 10 0 (hM.t) rfl rfl rfl ⟨Nat.le_of_ble_eq_true rfl, Nat.le_of_ble_eq_true rfl⟩ (by exact Nat.le_of_ble_eq_true rfl) ⟨Nat.zero_le _, Nat.zero_le _⟩ dX10_pays_35 rfl ?_
      refine g_aload_n 0 dX10_pays_38 rfl rfl ?_
      refine gN_getR (a + 1) flX10_7 (fun _ _ _ => rfl) 0 (hM.t) (hM.r0) dX10_pays_39 ?_
      refine gN_bipush 64 dX10_pays_42 (by decide) ?_
      refine gN_iconst 3 dX10_pays_44 (by decide) ?_
      refine g_iload_n 1 dX10_pays_45 rfl rfl ?_
      refine gN_imul (3 * j) dX10_pays_46 rfl ?_
      refine gN_iadd (64 + (3 * j)) dX10_pays_47 rfl ?_
      refine gN_iald 689 (hM.t1) (by first | omega | exact b01_lt _) (by first | omega | exact b01_lt _) dX10_pays_48 ?_
      refine g_topi (fun v3_49 ev3_49 => ?_)
      refine g_istore_n 3 [(3, .int (v3_49)), (0, .ref (a)), (1, .int (nI (j))), (2, .int (x))] dX10_pays_49 rfl (Nat.le_of_ble_eq_true rfl) rfl ?_
      refine g_aload_n 0 dX10_pays_50 rfl rfl ?_
      refine gN_getR (a + 1) flX10_7 (fun _ _ _ => rfl) 0 (hM.t) (hM.r0) dX10_pays_51 ?_
      refine gN_bipush 64 dX10_pays_54 (by decide) ?_
      refine gN_iconst 3 dX10_pays_56 (by decide) ?_
      refine g_iload_n 1 dX10_pays_57 rfl rfl ?_
      refine gN_imul (3 * j) dX10_pays_58 rfl ?_
      refine gN_iadd (64 + (3 * j)) dX10_pays_59 rfl ?_
      refine g_iload_n 2 dX10_pays_60 rfl rfl ?_
      refine gN_iast 689 (hM.t1) (by first | omega | exact b01_lt _) (by first | omega | exact b01_lt _) dX10_pays_61 ?_
      refine g_iload_n 3 dX10_pays_62 rfl rfl ?_
      refine g_iret rfl dX10_pays_63 ⟨Nat.zero_le _, Nat.zero_le _⟩ ?_
      exact ⟨vI (by rw [ev3_49]; exact sv_z m a 0 n _), _, rfl, sc.rf⟩
    · exact False.elim (b01_z.mp h_25 h)
  · exact False.elim (b01_z.mp h_9 ((inb_nI (by omega)).mpr hj))
set_option maxRecDepth 100000 in
theorem cn_X10_set_1 (g : Gp) (cs : Nat × Nat) {m : Mm} {a : Nat} (hM : MdOk m a) {p x : Int32} (h : ¬ inb p 2) : En g (MX10_set cs) [.ref (a), .int (p), .int (x)] m (some (.int (nI 0))) (sc a (th m a 1)) := by
  refine Cn.of pn_X10 (Nat.le_of_ble_eq_true rfl) rfl ?_
  refine g_aload_n 0 dX10_set_0 rfl rfl ?_
  refine gN_iconst 0 dX10_set_1 (by decide) ?_
  refine gN_putI fwX10_34 rfl 0 (hM.t) dX10_set_2 ?_
  refine g_iload_n 1 dX10_set_5 rfl rfl ?_
  refine gN_iconst 0 dX10_set_6 (by decide) ?_
  refine gN_iconst 1 dX10_set_7 (by decide) ?_
  refine gd_callS _ _ _ _ (cn_X10_in g (0, 0) _ (p) (nI (0)) (nI (1))) ⟨rfl, rfl⟩ (ok_X10_in _) mlX10_41 st_X10_in rfl ⟨Nat.le_of_ble_eq_true rfl, Nat.le_of_ble_eq_true rfl⟩ (by exact Nat.le_of_ble_eq_true rfl) ⟨Nat.zero_le _, Nat.zero_le _⟩ dX10_set_8 rfl ?_
  refine gN_if_ne 20 dX10_set_11 (by decide) (by first | omega | exact b01_lt _) (fun h_11 => ?_) (fun h_11 => ?_)
  · exact False.elim (h ((in_inb (n := 1) (by decide)).mp (b01_n.mp h_11)))
  · refine g_aload_n 0 dX10_set_14 rfl rfl ?_
    refine gN_iconst 1 dX10_set_15 (by decide) ?_
    refine gd_callV _ _ _ _ (cn_X10_fails g (0, 0) (m := sI m a 6 (nI 0)) hM (nI (1))) ⟨rfl, rfl⟩ (ok_X10_fails _) mlX10_95 in_X10_fails se_X10_fails 10 0 (hM.t) rfl rfl rfl ⟨Nat.le_of_ble_eq_true rfl, Nat.le_of_ble_eq_true rfl⟩ (by exact Nat.le_of_ble_eq_true rfl) ⟨Nat.zero_le _, Nat.zero_le _⟩ dX10_set_16 rfl ?_
    refine g_iret rfl dX10_set_19 ⟨Nat.zero_le _, Nat.zero_le _⟩ ?_
    exact ⟨rfl, _, rfl, by rw [show im (sI m a 6 (nI 0)) = th m a 0 from rfl, th_th]; exact sc.rf⟩
set_option maxRecDepth 100000 in
theorem cn_X10_set_20 (g : Gp) (cs : Nat × Nat) {m : Mm} {a : Nat} (hM : MdOk m a) {x : Int32} (h : ¬ (nI 0 ≤ x ∧ x ≤ nI 100)) : En g (MX10_set cs) [.ref (a), .int (nI (0)), .int (x)] m (some (.int (nI 0))) (sc a (th m a 2)) := by
  refine Cn.of pn_X10 (Nat.le_of_ble_eq_true rfl) rfl ?_
  refine g_aload_n 0 dX10_set_0 rfl rfl ?_
  refine gN_iconst 0 dX10_set_1 (by decide) ?_
  refine gN_putI fwX10_34 rfl 0 (hM.t) dX10_set_2 ?_
  refine g_iload_n 1 dX10_set_5 rfl rfl ?_
  refine gN_iconst 0 dX10_set_6 (by decide) ?_
  refine gN_iconst 1 dX10_set_7 (by decide) ?_
  refine gd_callS _ _ _ _ (cn_X10_in g (0, 0) _ (nI (0)) (nI (0)) (nI (1))) ⟨rfl, rfl⟩ (ok_X10_in _) mlX10_41 st_X10_in rfl ⟨Nat.le_of_ble_eq_true rfl, Nat.le_of_ble_eq_true rfl⟩ (by exact Nat.le_of_ble_eq_true rfl) ⟨Nat.zero_le _, Nat.zero_le _⟩ dX10_set_8 rfl ?_
  refine gN_if_ne 20 dX10_set_11 (by decide) (by first | omega | exact b01_lt _) (fun h_11 => ?_) (fun h_11 => ?_)
  · refine g_iload_n 2 dX10_set_20 rfl rfl ?_
    refine gN_iconst 0 dX10_set_21 (by decide) ?_
    refine g_iload_n 1 dX10_set_22 rfl rfl ?_
    refine gN_if_ne 31 dX10_set_23 (by decide) (by first | omega | exact b01_lt _) (fun h_23 => ?_) (fun h_23 => ?_)
    · exact absurd h_23 (by decide)
    · refine gN_bipush 100 dX10_set_26 (by decide) ?_
      refine g_goto 34 dX10_set_28 (by decide) ?_
      refine gd_callS _ _ _ _ (cn_X10_in g (0, 0) _ (x) (nI (0)) (nI (100))) ⟨rfl, rfl⟩ (ok_X10_in _) mlX10_41 st_X10_in rfl ⟨Nat.le_of_ble_eq_true rfl, Nat.le_of_ble_eq_true rfl⟩ (by exact Nat.le_of_ble_eq_true rfl) ⟨Nat.zero_le _, Nat.zero_le _⟩ dX10_set_34 rfl ?_
      refine gN_if_ne 46 dX10_set_37 (by decide) (by first | omega | exact b01_lt _) (fun h_37 => ?_) (fun h_37 => ?_)
      · exact False.elim (h (b01_n.mp h_37))
      · refine g_aload_n 0 dX10_set_40 rfl rfl ?_
        refine gN_iconst 2 dX10_set_41 (by decide) ?_
        refine gd_callV _ _ _ _ (cn_X10_fails g (0, 0) (m := sI m a 6 (nI 0)) hM (nI (2))) ⟨rfl, rfl⟩ (ok_X10_fails _) mlX10_95 in_X10_fails se_X10_fails 10 0 (hM.t) rfl rfl rfl ⟨Nat.le_of_ble_eq_true rfl, Nat.le_of_ble_eq_true rfl⟩ (by exact Nat.le_of_ble_eq_true rfl) ⟨Nat.zero_le _, Nat.zero_le _⟩ dX10_set_42 rfl ?_
        refine g_iret rfl dX10_set_45 ⟨Nat.zero_le _, Nat.zero_le _⟩ ?_
        exact ⟨rfl, _, rfl, by rw [show im (sI m a 6 (nI 0)) = th m a 0 from rfl, th_th]; exact sc.rf⟩
  · exact False.elim (b01_z.mp h_11 ((in_inb (n := 1) (by decide)).mpr ((inb_nI (by decide)).mpr (by decide))))
set_option maxRecDepth 100000 in
theorem cn_X10_set_00 (g : Gp) (cs : Nat × Nat) {m : Mm} {a : Nat} (hM : MdOk m a) {n : Nat} (hn : im m a 3 = nI n) (hn6 : n ≤ 6) {x : Int32} (h : nI 0 ≤ x ∧ x ≤ nI 100) : En g (MX10_set cs) [.ref (a), .int (nI (0)), .int (x)] m (some (.int ((im m (a + 1)) 2))) (sc a (u2 (svI (th m a 0) a n) (a + 1) 2 x)) := by
  refine Cn.of pn_X10 (Nat.le_of_ble_eq_true rfl) rfl ?_
  refine g_aload_n 0 dX10_set_0 rfl rfl ?_
  refine gN_iconst 0 dX10_set_1 (by decide) ?_
  refine gN_putI fwX10_34 rfl 0 (hM.t) dX10_set_2 ?_
  refine g_iload_n 1 dX10_set_5 rfl rfl ?_
  refine gN_iconst 0 dX10_set_6 (by decide) ?_
  refine gN_iconst 1 dX10_set_7 (by decide) ?_
  refine gd_callS _ _ _ _ (cn_X10_in g (0, 0) _ (nI (0)) (nI (0)) (nI (1))) ⟨rfl, rfl⟩ (ok_X10_in _) mlX10_41 st_X10_in rfl ⟨Nat.le_of_ble_eq_true rfl, Nat.le_of_ble_eq_true rfl⟩ (by exact Nat.le_of_ble_eq_true rfl) ⟨Nat.zero_le _, Nat.zero_le _⟩ dX10_set_8 rfl ?_
  refine gN_if_ne 20 dX10_set_11 (by decide) (by first | omega | exact b01_lt _) (fun h_11 => ?_) (fun h_11 => ?_)
  · refine g_iload_n 2 dX10_set_20 rfl rfl ?_
    refine gN_iconst 0 dX10_set_21 (by decide) ?_
    refine g_iload_n 1 dX10_set_22 rfl rfl ?_
    refine gN_if_ne 31 dX10_set_23 (by decide) (by first | omega | exact b01_lt _) (fun h_23 => ?_) (fun h_23 => ?_)
    · exact absurd h_23 (by decide)
    · refine gN_bipush 100 dX10_set_26 (by decide) ?_
      refine g_goto 34 dX10_set_28 (by decide) ?_
      refine gd_callS _ _ _ _ (cn_X10_in g (0, 0) _ (x) (nI (0)) (nI (100))) ⟨rfl, rfl⟩ (ok_X10_in _) mlX10_41 st_X10_in rfl ⟨Nat.le_of_ble_eq_true rfl, Nat.le_of_ble_eq_true rfl⟩ (by exact Nat.le_of_ble_eq_true rfl) ⟨Nat.zero_le _, Nat.zero_le _⟩ dX10_set_34 rfl ?_
      refine gN_if_ne 46 dX10_set_37 (by decide) (by first | omega | exact b01_lt _) (fun h_37 => ?_) (fun h_37 => ?_)
      · refine g_aload_n 0 dX10_set_46 rfl rfl ?_
        refine gd_callV _ _ _ _ (cn_X10_save g (0, 0) (m := sI m a 6 (nI 0)) hM (n := n) ((th_a m a 0 3 (by omega)).trans hn) hn6) ⟨rfl, rfl⟩ (ok_X10_save _) mlX10_98 in_X10_save se_X10_save 10 0 (hM.t) rfl rfl rfl ⟨Nat.le_of_ble_eq_true rfl, Nat.le_of_ble_eq_true rfl⟩ (by exact Nat.le_of_ble_eq_true rfl) ⟨Nat.zero_le _, Nat.zero_le _⟩ dX10_set_47 rfl ?_
        refine g_aload_n 0 dX10_set_50 rfl rfl ?_
        refine gN_getR (a + 1) flX10_7 (fun _ _ _ => rfl) 0 (hM.t) (hM.r0) dX10_set_51 ?_
        refine gN_iconst 2 dX10_set_54 (by decide) ?_
        refine g_iload_n 1 dX10_set_55 rfl rfl ?_
        refine gN_iadd (2) dX10_set_56 rfl ?_
        refine gN_iald 689 (hM.t1) (by first | omega | exact b01_lt _) (by first | omega | exact b01_lt _) dX10_set_57 ?_
        refine g_topi (fun v3_58 ev3_58 => ?_)
        refine g_istore_n 3 [(3, .int (v3_58)), (0, .ref (a)), (1, .int (nI (0))), (2, .int (x))] dX10_set_58 rfl (Nat.le_of_ble_eq_true rfl) rfl ?_
        refine g_aload_n 0 dX10_set_59 rfl rfl ?_
        refine gN_getR (a + 1) flX10_7 (fun _ _ _ => rfl) 0 (hM.t) (hM.r0) dX10_set_60 ?_
        refine gN_iconst 2 dX10_set_63 (by decide) ?_
        refine g_iload_n 1 dX10_set_64 rfl rfl ?_
        refine gN_iadd (2) dX10_set_65 rfl ?_
        refine g_iload_n 2 dX10_set_66 rfl rfl ?_
        refine gN_iast 689 (hM.t1) (by first | omega | exact b01_lt _) (by first | omega | exact b01_lt _) dX10_set_67 ?_
        refine g_iload_n 3 dX10_set_68 rfl rfl ?_
        refine g_iret rfl dX10_set_69 ⟨Nat.zero_le _, Nat.zero_le _⟩ ?_
        exact ⟨vI (by rw [ev3_58]; exact sv_z m a 0 n _), _, rfl, sc.rf⟩
      · exact False.elim (b01_z.mp h_37 h)
  · exact False.elim (b01_z.mp h_11 ((in_inb (n := 1) (by decide)).mpr ((inb_nI (by decide)).mpr (by decide))))
set_option maxRecDepth 100000 in
theorem cn_X10_set_21 (g : Gp) (cs : Nat × Nat) {m : Mm} {a : Nat} (hM : MdOk m a) {x : Int32} (h : ¬ (nI 0 ≤ x ∧ x ≤ nI 200)) : En g (MX10_set cs) [.ref (a), .int (nI (1)), .int (x)] m (some (.int (nI 0))) (sc a (th m a 2)) := by
  refine Cn.of pn_X10 (Nat.le_of_ble_eq_true rfl) rfl ?_
  refine g_aload_n 0 dX10_set_0 rfl rfl ?_
  refine gN_iconst 0 dX10_set_1 (by decide) ?_
  refine gN_putI fwX10_34 rfl 0 (hM.t) dX10_set_2 ?_
  refine g_iload_n 1 dX10_set_5 rfl rfl ?_
  refine gN_iconst 0 dX10_set_6 (by decide) ?_
  refine gN_iconst 1 dX10_set_7 (by decide) ?_
  refine gd_callS _ _ _ _ (cn_X10_in g (0, 0) _ (nI (1)) (nI (0)) (nI (1))) ⟨rfl, rfl⟩ (ok_X10_in _) mlX10_41 st_X10_in rfl ⟨Nat.le_of_ble_eq_true rfl, Nat.le_of_ble_eq_true rfl⟩ (by exact Nat.le_of_ble_eq_true rfl) ⟨Nat.zero_le _, Nat.zero_le _⟩ dX10_set_8 rfl ?_
  refine gN_if_ne 20 dX10_set_11 (by decide) (by first | omega | exact b01_lt _) (fun h_11 => ?_) (fun h_11 => ?_)
  · refine g_iload_n 2 dX10_set_20 rfl rfl ?_
    refine gN_iconst 0 dX10_set_21 (by decide) ?_
    refine g_iload_n 1 dX10_set_22 rfl rfl ?_
    refine gN_if_ne 31 dX10_set_23 (by decide) (by first | omega | exact b01_lt _) (fun h_23 => ?_) (fun h_23 => ?_)
    · refine gN_sipush 200 dX10_set_31 (by decide) ?_
      refine gd_callS _ _ _ _ (cn_X10_in g (0, 0) _ (x) (nI (0)) (nI (200))) ⟨rfl, rfl⟩ (ok_X10_in _) mlX10_41 st_X10_in rfl ⟨Nat.le_of_ble_eq_true rfl, Nat.le_of_ble_eq_true rfl⟩ (by exact Nat.le_of_ble_eq_true rfl) ⟨Nat.zero_le _, Nat.zero_le _⟩ dX10_set_34 rfl ?_
      refine gN_if_ne 46 dX10_set_37 (by decide) (by first | omega | exact b01_lt _) (fun h_37 => ?_) (fun h_37 => ?_)
      · exact False.elim (h (b01_n.mp h_37))
      · refine g_aload_n 0 dX10_set_40 rfl rfl ?_
        refine gN_iconst 2 dX10_set_41 (by decide) ?_
        refine gd_callV _ _ _ _ (cn_X10_fails g (0, 0) (m := sI m a 6 (nI 0)) hM (nI (2))) ⟨rfl, rfl⟩ (ok_X10_fails _) mlX10_95 in_X10_fails se_X10_fails 10 0 (hM.t) rfl rfl rfl ⟨Nat.le_of_ble_eq_true rfl, Nat.le_of_ble_eq_true rfl⟩ (by exact Nat.le_of_ble_eq_true rfl) ⟨Nat.zero_le _, Nat.zero_le _⟩ dX10_set_42 rfl ?_
        refine g_iret rfl dX10_set_45 ⟨Nat.zero_le _, Nat.zero_le _⟩ ?_
        exact ⟨rfl, _, rfl, by rw [show im (sI m a 6 (nI 0)) = th m a 0 from rfl, th_th]; exact sc.rf⟩
    · exact absurd h_23 (by decide)
  · exact False.elim (b01_z.mp h_11 ((in_inb (n := 1) (by decide)).mpr ((inb_nI (by decide)).mpr (by decide))))
set_option maxRecDepth 100000 in
theorem cn_X10_set_01 (g : Gp) (cs : Nat × Nat) {m : Mm} {a : Nat} (hM : MdOk m a) {n : Nat} (hn : im m a 3 = nI n) (hn6 : n ≤ 6) {x : Int32} (h : nI 0 ≤ x ∧ x ≤ nI 200) : En g (MX10_set cs) [.ref (a), .int (nI (1)), .int (x)] m (some (.int ((im m (a + 1)) 3))) (sc a (u2 (svI (th m a 0) a n) (a + 1) 3 x)) := by
  refine Cn.of pn_X10 (Nat.le_of_ble_eq_true rfl) rfl ?_
  refine g_aload_n 0 dX10_set_0 rfl rfl ?_
  refine gN_iconst 0 dX10_set_1 (by decide) ?_
  refine gN_putI fwX10_34 rfl 0 (hM.t) dX10_set_2 ?_
  refine g_iload_n 1 dX10_set_5 rfl rfl ?_
  refine gN_iconst 0 dX10_set_6 (by decide) ?_
  refine gN_iconst 1 dX10_set_7 (by decide) ?_
  refine gd_callS _ _ _ _ (cn_X10_in g (0, 0) _ (nI (1)) (nI (0)) (nI (1))) ⟨rfl, rfl⟩ (ok_X10_in _) mlX10_41 st_X10_in rfl ⟨Nat.le_of_ble_eq_true rfl, Nat.le_of_ble_eq_true rfl⟩ (by exact Nat.le_of_ble_eq_true rfl) ⟨Nat.zero_le _, Nat.zero_le _⟩ dX10_set_8 rfl ?_
  refine gN_if_ne 20 dX10_set_11 (by decide) (by first | omega | exact b01_lt _) (fun h_11 => ?_) (fun h_11 => ?_)
  · refine g_iload_n 2 dX10_set_20 rfl rfl ?_
    refine gN_iconst 0 dX10_set_21 (by decide) ?_
    refine g_iload_n 1 dX10_set_22 rfl rfl ?_
    refine gN_if_ne 31 dX10_set_23 (by decide) (by first | omega | exact b01_lt _) (fun h_23 => ?_) (fun h_23 => ?_)
    · refine gN_sipush 200 dX10_set_31 (by decide) ?_
      refine gd_callS _ _ _ _ (cn_X10_in g (0, 0) _ (x) (nI (0)) (nI (200))) ⟨rfl, rfl⟩ (ok_X10_in _) mlX10_41 st_X10_in rfl ⟨Nat.le_of_ble_eq_true rfl, Nat.le_of_ble_eq_true rfl⟩ (by exact Nat.le_of_ble_eq_true rfl) ⟨Nat.zero_le _, Nat.zero_le _⟩ dX10_set_34 rfl ?_
      refine gN_if_ne 46 dX10_set_37 (by decide) (by first | omega | exact b01_lt _) (fun h_37 => ?_) (fun h_37 => ?_)
      · refine g_aload_n 0 dX10_set_46 rfl rfl ?_
        refine gd_callV _ _ _ _ (cn_X10_save g (0, 0) (m := sI m a 6 (nI 0)) hM (n := n) ((th_a m a 0 3 (by omega)).trans hn) hn6) ⟨rfl, rfl⟩ (ok_X10_save _) mlX10_98 in_X10_save se_X10_save 10 0 (hM.t) rfl rfl rfl ⟨Nat.le_of_ble_eq_true rfl, Nat.le_of_ble_eq_true rfl⟩ (by exact Nat.le_of_ble_eq_true rfl) ⟨Nat.zero_le _, Nat.zero_le _⟩ dX10_set_47 rfl ?_
        refine g_aload_n 0 dX10_set_50 rfl rfl ?_
        refine gN_getR (a + 1) flX10_7 (fun _ _ _ => rfl) 0 (hM.t) (hM.r0) dX10_set_51 ?_
        refine gN_iconst 2 dX10_set_54 (by decide) ?_
        refine g_iload_n 1 dX10_set_55 rfl rfl ?_
        refine gN_iadd (3) dX10_set_56 rfl ?_
        refine gN_iald 689 (hM.t1) (by first | omega | exact b01_lt _) (by first | omega | exact b01_lt _) dX10_set_57 ?_
        refine g_topi (fun v3_58 ev3_58 => ?_)
        refine g_istore_n 3 [(3, .int (v3_58)), (0, .ref (a)), (1, .int (nI (1))), (2, .int (x))] dX10_set_58 rfl (Nat.le_of_ble_eq_true rfl) rfl ?_
        refine g_aload_n 0 dX10_set_59 rfl rfl ?_
        refine gN_getR (a + 1) flX10_7 (fun _ _ _ => rfl) 0 (hM.t) (hM.r0) dX10_set_60 ?_
        refine gN_iconst 2 dX10_set_63 (by decide) ?_
        refine g_iload_n 1 dX10_set_64 rfl rfl ?_
        refine gN_iadd (3) dX10_set_65 rfl ?_
        refine g_iload_n 2 dX10_set_66 rfl rfl ?_
        refine gN_iast 689 (hM.t1) (by first | omega | exact b01_lt _) (by first | omega | exact b01_lt _) dX10_set_67 ?_
        refine g_iload_n 3 dX10_set_68 rfl rfl ?_
        refine g_iret rfl dX10_set_69 ⟨Nat.zero_le _, Nat.zero_le _⟩ ?_
        exact ⟨vI (by rw [ev3_58]; exact sv_z m a 0 n _), _, rfl, sc.rf⟩
      · exact False.elim (b01_z.mp h_37 h)
    · exact absurd h_23 (by decide)
  · exact False.elim (b01_z.mp h_11 ((in_inb (n := 1) (by decide)).mpr ((inb_nI (by decide)).mpr (by decide))))
set_option maxRecDepth 100000 in
theorem cn_X10_propose_1 (g : Gp) (cs : Nat × Nat) {m : Mm} {a : Nat} (hM : MdOk m a) {p q x : Int32} (h : ¬ (inb p 8 ∧ inb q 4)) : En g (MX10_propose cs) [.ref (a), .int (p), .int (q), .int (x)] m (some (.int (nI 0))) (sc a (th m a 1)) := by
  refine Cn.of pn_X10 (Nat.le_of_ble_eq_true rfl) rfl ?_
  refine g_aload_n 0 dX10_propose_0 rfl rfl ?_
  refine gN_iconst 0 dX10_propose_1 (by decide) ?_
  refine gN_putI fwX10_34 rfl 0 (hM.t) dX10_propose_2 ?_
  refine g_iload_n 1 dX10_propose_5 rfl rfl ?_
  refine gd_callS _ _ _ _ (cn_X10_isWord g (0, 0) (p)) ⟨rfl, rfl⟩ (ok_X10_isWord _) mlX10_119 st_X10_isWord rfl ⟨Nat.le_of_ble_eq_true rfl, Nat.le_of_ble_eq_true rfl⟩ (by exact Nat.le_of_ble_eq_true rfl) ⟨Nat.zero_le _, Nat.zero_le _⟩ dX10_propose_6 rfl ?_
  refine gN_if_eq 19 dX10_propose_9 (by decide) (by first | omega | exact b01_lt _) (fun h_9 => ?_) (fun h_9 => ?_)
  · refine g_aload_n 0 dX10_propose_19 rfl rfl ?_
    refine gN_iconst 1 dX10_propose_20 (by decide) ?_
    refine gd_callV _ _ _ _ (cn_X10_fails g (0, 0) (m := sI m a 6 (nI 0)) hM (nI (1))) ⟨rfl, rfl⟩ (ok_X10_fails _) mlX10_95 in_X10_fails se_X10_fails 10 0 (hM.t) rfl rfl rfl ⟨Nat.le_of_ble_eq_true rfl, Nat.le_of_ble_eq_true rfl⟩ (by exact Nat.le_of_ble_eq_true rfl) ⟨Nat.zero_le _, Nat.zero_le _⟩ dX10_propose_21 rfl ?_
    refine g_iret rfl dX10_propose_24 ⟨Nat.zero_le _, Nat.zero_le _⟩ ?_
    exact ⟨rfl, _, rfl, by rw [show im (sI m a 6 (nI 0)) = th m a 0 from rfl, th_th]; exact sc.rf⟩
  · refine g_iload_n 2 dX10_propose_12 rfl rfl ?_
    refine gd_callS _ _ _ _ (cn_X10_isPerson g (0, 0) (q)) ⟨rfl, rfl⟩ (ok_X10_isPerson _) mlX10_92 st_X10_isPerson rfl ⟨Nat.le_of_ble_eq_true rfl, Nat.le_of_ble_eq_true rfl⟩ (by exact Nat.le_of_ble_eq_true rfl) ⟨Nat.zero_le _, Nat.zero_le _⟩ dX10_propose_13 rfl ?_
    refine gN_if_ne 25 dX10_propose_16 (by decide) (by first | omega | exact b01_lt _) (fun h_16 => ?_) (fun h_16 => ?_)
    · exact False.elim (h ⟨b01_n.mp h_9, b01_n.mp h_16⟩)
    · refine g_aload_n 0 dX10_propose_19 rfl rfl ?_
      refine gN_iconst 1 dX10_propose_20 (by decide) ?_
      refine gd_callV _ _ _ _ (cn_X10_fails g (0, 0) (m := sI m a 6 (nI 0)) hM (nI (1))) ⟨rfl, rfl⟩ (ok_X10_fails _) mlX10_95 in_X10_fails se_X10_fails 10 0 (hM.t) rfl rfl rfl ⟨Nat.le_of_ble_eq_true rfl, Nat.le_of_ble_eq_true rfl⟩ (by exact Nat.le_of_ble_eq_true rfl) ⟨Nat.zero_le _, Nat.zero_le _⟩ dX10_propose_21 rfl ?_
      refine g_iret rfl dX10_propose_24 ⟨Nat.zero_le _, Nat.zero_le _⟩ ?_
      exact ⟨rfl, _, rfl, by rw [show im (sI m a 6 (nI 0)) = th m a 0 from rfl, th_th]; exact sc.rf⟩
set_option maxRecDepth 100000 in
theorem cn_X10_propose_2 (g : Gp) (cs : Nat × Nat) {m : Mm} {a : Nat} (hM : MdOk m a) {w t : Nat} (hw : w < 8) (ht : t < 4) {x : Int32} (h : ¬ ((-1 : Int32) ≤ x ∧ x ≤ nI 9)) : En g (MX10_propose cs) [.ref (a), .int (nI (w)), .int (nI (t)), .int (x)] m (some (.int (nI 0))) (sc a (th m a 2)) := by
  refine Cn.of pn_X10 (Nat.le_of_ble_eq_true rfl) rfl ?_
  refine g_aload_n 0 dX10_propose_0 rfl rfl ?_
  refine gN_iconst 0 dX10_propose_1 (by decide) ?_
  refine gN_putI fwX10_34 rfl 0 (hM.t) dX10_propose_2 ?_
  refine g_iload_n 1 dX10_propose_5 rfl rfl ?_
  refine gd_callS _ _ _ _ (cn_X10_isWord g (0, 0) (nI (w))) ⟨rfl, rfl⟩ (ok_X10_isWord _) mlX10_119 st_X10_isWord rfl ⟨Nat.le_of_ble_eq_true rfl, Nat.le_of_ble_eq_true rfl⟩ (by exact Nat.le_of_ble_eq_true rfl) ⟨Nat.zero_le _, Nat.zero_le _⟩ dX10_propose_6 rfl ?_
  refine gN_if_eq 19 dX10_propose_9 (by decide) (by first | omega | exact b01_lt _) (fun h_9 => ?_) (fun h_9 => ?_)
  · exact False.elim (b01_z.mp h_9 ((inb_nI (by omega)).mpr hw))
  · refine g_iload_n 2 dX10_propose_12 rfl rfl ?_
    refine gd_callS _ _ _ _ (cn_X10_isPerson g (0, 0) (nI (t))) ⟨rfl, rfl⟩ (ok_X10_isPerson _) mlX10_92 st_X10_isPerson rfl ⟨Nat.le_of_ble_eq_true rfl, Nat.le_of_ble_eq_true rfl⟩ (by exact Nat.le_of_ble_eq_true rfl) ⟨Nat.zero_le _, Nat.zero_le _⟩ dX10_propose_13 rfl ?_
    refine gN_if_ne 25 dX10_propose_16 (by decide) (by first | omega | exact b01_lt _) (fun h_16 => ?_) (fun h_16 => ?_)
    · refine g_iload_n 3 dX10_propose_25 rfl rfl ?_
      refine g_iconst (-1) dX10_propose_26 (by decide) ?_
      refine gN_bipush 9 dX10_propose_27 (by decide) ?_
      refine gd_callS _ _ _ _ (cn_X10_in g (0, 0) _ (x) (-1) (nI (9))) ⟨rfl, rfl⟩ (ok_X10_in _) mlX10_41 st_X10_in rfl ⟨Nat.le_of_ble_eq_true rfl, Nat.le_of_ble_eq_true rfl⟩ (by exact Nat.le_of_ble_eq_true rfl) ⟨Nat.zero_le _, Nat.zero_le _⟩ dX10_propose_29 rfl ?_
      refine gN_if_ne 41 dX10_propose_32 (by decide) (by first | omega | exact b01_lt _) (fun h_32 => ?_) (fun h_32 => ?_)
      · exact False.elim (h (b01_n.mp h_32))
      · refine g_aload_n 0 dX10_propose_35 rfl rfl ?_
        refine gN_iconst 2 dX10_propose_36 (by decide) ?_
        refine gd_callV _ _ _ _ (cn_X10_fails g (0, 0) (m := sI m a 6 (nI 0)) hM (nI (2))) ⟨rfl, rfl⟩ (ok_X10_fails _) mlX10_95 in_X10_fails se_X10_fails 10 0 (hM.t) rfl rfl rfl ⟨Nat.le_of_ble_eq_true rfl, Nat.le_of_ble_eq_true rfl⟩ (by exact Nat.le_of_ble_eq_true rfl) ⟨Nat.zero_le _, Nat.zero_le _⟩ dX10_propose_37 rfl ?_
        refine g_iret rfl dX10_propose_40 ⟨Nat.zero_le _, Nat.zero_le _⟩ ?_
        exact ⟨rfl, _, rfl, by rw [show im (sI m a 6 (nI 0)) = th m a 0 from rfl, th_th]; exact sc.rf⟩
    · exact False.elim (b01_z.mp h_16 ((inb_nI (by omega)).mpr ht))
set_option maxRecDepth 100000 in
theorem cn_X10_propose_3 (g : Gp) (cs : Nat × Nat) {m : Mm} {a : Nat} (hM : MdOk m a) {w t : Nat} (hw : w < 8) (ht : t < 4) {x : Int32} (h : (-1 : Int32) ≤ x ∧ x ≤ nI 9) (hr : ¬ (im m (a + 1)) (56 + w) = -1) : En g (MX10_propose cs) [.ref (a), .int (nI (w)), .int (nI (t)), .int (x)] m (some (.int (nI 0))) (sc a (th m a 3)) := by
  refine Cn.of pn_X10 (Nat.le_of_ble_eq_true rfl) rfl ?_
  refine g_aload_n 0 dX10_propose_0 rfl rfl ?_
  refine gN_iconst 0 dX10_propose_1 (by decide) ?_
  refine gN_putI fwX10_34 rfl 0 (hM.t) dX10_propose_2 ?_
  refine g_iload_n 1 dX10_propose_5 rfl rfl ?_
  refine gd_callS _ _ _ _ (cn_X10_isWord g (0, 0) (nI (w))) ⟨rfl, rfl⟩ (ok_X10_isWord _) mlX10_119 st_X10_isWord rfl ⟨Nat.le_of_ble_eq_true rfl, Nat.le_of_ble_eq_true rfl⟩ (by exact Nat.le_of_ble_eq_true rfl) ⟨Nat.zero_le _, Nat.zero_le _⟩ dX10_propose_6 rfl ?_
  refine gN_if_eq 19 dX10_propose_9 (by decide) (by first | omega | exact b01_lt _) (fun h_9 => ?_) (fun h_9 => ?_)
  · exact False.elim (b01_z.mp h_9 ((inb_nI (by omega)).mpr hw))
  · refine g_iload_n 2 dX10_propose_12 rfl rfl ?_
    refine gd_callS _ _ _ _ (cn_X10_isPerson g (0, 0) (nI (t))) ⟨rfl, rfl⟩ (ok_X10_isPerson _) mlX10_92 st_X10_isPerson rfl ⟨Nat.le_of_ble_eq_true rfl, Nat.le_of_ble_eq_true rfl⟩ (by exact Nat.le_of_ble_eq_true rfl) ⟨Nat.zero_le _, Nat.zero_le _⟩ dX10_propose_13 rfl ?_
    refine gN_if_ne 25 dX10_propose_16 (by decide) (by first | omega | exact b01_lt _) (fun h_16 => ?_) (fun h_16 => ?_)
    · refine g_iload_n 3 dX10_propose_25 rfl rfl ?_
      refine g_iconst (-1) dX10_propose_26 (by decide) ?_
      refine gN_bipush 9 dX10_propose_27 (by decide) ?_
      refine gd_callS _ _ _ _ (cn_X10_in g (0, 0) _ (x) (-1) (nI (9))) ⟨rfl, rfl⟩ (ok_X10_in _) mlX10_41 st_X10_in rfl ⟨Nat.le_of_ble_eq_true rfl, Nat.le_of_ble_eq_true rfl⟩ (by exact Nat.le_of_ble_eq_true rfl) ⟨Nat.zero_le _, Nat.zero_le _⟩ dX10_propose_29 rfl ?_
      refine gN_if_ne 41 dX10_propose_32 (by decide) (by first | omega | exact b01_lt _) (fun h_32 => ?_) (fun h_32 => ?_)
      · refine g_aload_n 0 dX10_propose_41 rfl rfl ?_
        refine gN_getR (a + 1) flX10_7 (fun _ _ _ => rfl) 0 (hM.t) (hM.r0) dX10_propose_42 ?_
        refine gN_bipush 56 dX10_propose_45 (by decide) ?_
        refine g_iload_n 1 dX10_propose_47 rfl rfl ?_
        refine gN_iadd (56 + w) dX10_propose_48 rfl ?_
        refine gN_iald 689 (hM.t1) (by first | omega | exact b01_lt _) (by first | omega | exact b01_lt _) dX10_propose_49 ?_
        refine g_iconst (-1) dX10_propose_50 (by decide) ?_
        refine g_icmp_eq 60 dX10_propose_51 (by decide) (fun h_51 => ?_) (fun h_51 => ?_)
        · exact False.elim (hr ((th_z m a 0 _).symm.trans h_51))
        · refine g_aload_n 0 dX10_propose_54 rfl rfl ?_
          refine gN_iconst 3 dX10_propose_55 (by decide) ?_
          refine gd_callV _ _ _ _ (cn_X10_fails g (0, 0) (m := sI m a 6 (nI 0)) hM (nI (3))) ⟨rfl, rfl⟩ (ok_X10_fails _) mlX10_95 in_X10_fails se_X10_fails 10 0 (hM.t) rfl rfl rfl ⟨Nat.le_of_ble_eq_true rfl, Nat.le_of_ble_eq_true rfl⟩ (by exact Nat.le_of_ble_eq_true rfl) ⟨Nat.zero_le _, Nat.zero_le _⟩ dX10_propose_56 rfl ?_
          refine g_iret rfl dX10_propose_59 ⟨Nat.zero_le _, Nat.zero_le _⟩ ?_
          exact ⟨rfl, _, rfl, by rw [show im (sI m a 6 (nI 0)) = th m a 0 from rfl, th_th]; exact sc.rf⟩
      · exact False.elim (b01_z.mp h_32 h)
    · exact False.elim (b01_z.mp h_16 ((inb_nI (by omega)).mpr ht))
set_option maxRecDepth 100000 in
theorem cn_X10_propose_0 (g : Gp) (cs : Nat × Nat) {m : Mm} {a : Nat} (hM : MdOk m a) {n : Nat} (hn : im m a 3 = nI n) (hn6 : n ≤ 6) {w t : Nat} (hw : w < 8) (ht : t < 4) {x : Int32} (h : (-1 : Int32) ≤ x ∧ x ≤ nI 9) (hr : (im m (a + 1)) (56 + w) = -1) : En g (MX10_propose cs) [.ref (a), .int (nI (w)), .int (nI (t)), .int (x)] m (some (.int ((im m (a + 1)) (24 + 4 * w + t)))) (sc a (u2 (svI (th m a 0) a n) (a + 1) (24 + 4 * w + t) x)) := by
  refine Cn.of pn_X10 (Nat.le_of_ble_eq_true rfl) rfl ?_
  refine g_aload_n 0 dX10_propose_0 rfl rfl ?_
  refine gN_iconst 0 dX10_propose_1 (by decide) ?_
  refine gN_putI fwX10_34 rfl 0 (hM.t) dX10_propose_2 ?_
  refine g_iload_n 1 dX10_propose_5 rfl rfl ?_
  refine gd_callS _ _ _ _ (cn_X10_isWord g (0, 0) (nI (w))) ⟨rfl, rfl⟩ (ok_X10_isWord _) mlX10_119 st_X10_isWord rfl ⟨Nat.le_of_ble_eq_true rfl, Nat.le_of_ble_eq_true rfl⟩ (by exact Nat.le_of_ble_eq_true rfl) ⟨Nat.zero_le _, Nat.zero_le _⟩ dX10_propose_6 rfl ?_
  refine gN_if_eq 19 dX10_propose_9 (by decide) (by first | omega | exact b01_lt _) (fun h_9 => ?_) (fun h_9 => ?_)
  · exact False.elim (b01_z.mp h_9 ((inb_nI (by omega)).mpr hw))
  · refine g_iload_n 2 dX10_propose_12 rfl rfl ?_
    refine gd_callS _ _ _ _ (cn_X10_isPerson g (0, 0) (nI (t))) ⟨rfl, rfl⟩ (ok_X10_isPerson _) mlX10_92 st_X10_isPerson rfl ⟨Nat.le_of_ble_eq_true rfl, Nat.le_of_ble_eq_true rfl⟩ (by exact Nat.le_of_ble_eq_true rfl) ⟨Nat.zero_le _, Nat.zero_le _⟩ dX10_propose_13 rfl ?_
    refine gN_if_ne 25 dX10_propose_16 (by decide) (by first | omega | exact b01_lt _) (fun h_16 => ?_) (fun h_16 => ?_)
    · refine g_iload_n 3 dX10_propose_25 rfl rfl ?_
      refine g_iconst (-1) dX10_propose_26 (by decide) ?_
      refine gN_bipush 9 dX10_propose_27 (by decide) ?_
      refine gd_callS _ _ _ _ (cn_X10_in g (0, 0) _ (x) (-1) (nI (9))) ⟨rfl, rfl⟩ (ok_X10_in _) mlX10_41 st_X10_in rfl ⟨Nat.le_of_ble_eq_true rfl, Nat.le_of_ble_eq_true rfl⟩ (by exact Nat.le_of_ble_eq_true rfl) ⟨Nat.zero_le _, Nat.zero_le _⟩ dX10_propose_29 rfl ?_
      refine gN_if_ne 41 dX10_propose_32 (by decide) (by first | omega | exact b01_lt _) (fun h_32 => ?_) (fun h_32 => ?_)
      · refine g_aload_n 0 dX10_propose_41 rfl rfl ?_
        refine gN_getR (a + 1) flX10_7 (fun _ _ _ => rfl) 0 (hM.t) (hM.r0) dX10_propose_42 ?_
        refine gN_bipush 56 dX10_propose_45 (by decide) ?_
        refine g_iload_n 1 dX10_propose_47 rfl rfl ?_
        refine gN_iadd (56 + w) dX10_propose_48 rfl ?_
        refine gN_iald 689 (hM.t1) (by first | omega | exact b01_lt _) (by first | omega | exact b01_lt _) dX10_propose_49 ?_
        refine g_iconst (-1) dX10_propose_50 (by decide) ?_
        refine g_icmp_eq 60 dX10_propose_51 (by decide) (fun h_51 => ?_) (fun h_51 => ?_)
        · refine g_aload_n 0 dX10_propose_60 rfl rfl ?_
          refine gd_callV _ _ _ _ (cn_X10_save g (0, 0) (m := sI m a 6 (nI 0)) hM (n := n) ((th_a m a 0 3 (by omega)).trans hn) hn6) ⟨rfl, rfl⟩ (ok_X10_save _) mlX10_98 in_X10_save se_X10_save 10 0 (hM.t) rfl rfl rfl ⟨Nat.le_of_ble_eq_true rfl, Nat.le_of_ble_eq_true rfl⟩ (by exact Nat.le_of_ble_eq_true rfl) ⟨Nat.zero_le _, Nat.zero_le _⟩ dX10_propose_61 rfl ?_
          refine g_aload_n 0 dX10_propose_64 rfl rfl ?_
          refine gN_getR (a + 1) flX10_7 (fun _ _ _ => rfl) 0 (hM.t) (hM.r0) dX10_propose_65 ?_
          refine g_iload_n 1 dX10_propose_68 rfl rfl ?_
          refine g_iload_n 2 dX10_propose_69 rfl rfl ?_
          refine gd_callS _ _ _ _ (cn_X10_proposal g (0, 0) _ w t) ⟨rfl, rfl⟩ (ok_X10_proposal _) mlX10_84 st_X10_proposal rfl ⟨Nat.le_of_ble_eq_true rfl, Nat.le_of_ble_eq_true rfl⟩ (by exact Nat.le_of_ble_eq_true rfl) ⟨Nat.zero_le _, Nat.zero_le _⟩ dX10_propose_70 rfl ?_
          refine gN_iald 689 (hM.t1) (by first | omega | exact b01_lt _) (by first | omega | exact b01_lt _) dX10_propose_73 ?_
          refine g_topi (fun v4_74 ev4_74 => ?_)
          refine g_istore 4 [(4, .int (v4_74)), (0, .ref (a)), (1, .int (nI (w))), (2, .int (nI (t))), (3, .int (x))] dX10_propose_74 (Nat.le_of_ble_eq_true rfl) rfl ?_
          refine g_aload_n 0 dX10_propose_76 rfl rfl ?_
          refine gN_getR (a + 1) flX10_7 (fun _ _ _ => rfl) 0 (hM.t) (hM.r0) dX10_propose_77 ?_
          refine g_iload_n 1 dX10_propose_80 rfl rfl ?_
          refine g_iload_n 2 dX10_propose_81 rfl rfl ?_
          refine gd_callS _ _ _ _ (cn_X10_proposal g (0, 0) _ w t) ⟨rfl, rfl⟩ (ok_X10_proposal _) mlX10_84 st_X10_proposal rfl ⟨Nat.le_of_ble_eq_true rfl, Nat.le_of_ble_eq_true rfl⟩ (by exact Nat.le_of_ble_eq_true rfl) ⟨Nat.zero_le _, Nat.zero_le _⟩ dX10_propose_82 rfl ?_
          refine g_iload_n 3 dX10_propose_85 rfl rfl ?_
          refine gN_iast 689 (hM.t1) (by first | omega | exact b01_lt _) (by first | omega | exact b01_lt _) dX10_propose_86 ?_
          refine g_iload 4 dX10_propose_87 rfl ?_
          refine g_iret rfl dX10_propose_89 ⟨Nat.zero_le _, Nat.zero_le _⟩ ?_
          exact ⟨vI (by rw [ev4_74]; exact sv_z m a 0 n _), _, rfl, sc.rf⟩
        · exact False.elim (h_51 ((th_z m a 0 _).trans hr))
      · exact False.elim (b01_z.mp h_32 h)
    · exact False.elim (b01_z.mp h_16 ((inb_nI (by omega)).mpr ht))
set_option maxRecDepth 100000 in
theorem cn_X10_rule_1 (g : Gp) (cs : Nat × Nat) {m : Mm} {a : Nat} (hM : MdOk m a) {p x : Int32} (h : ¬ inb p 8) : En g (MX10_rule cs) [.ref (a), .int (p), .int (x)] m (some (.int (nI 0))) (sc a (th m a 1)) := by
  refine Cn.of pn_X10 (Nat.le_of_ble_eq_true rfl) rfl ?_
  refine g_aload_n 0 dX10_rule_0 rfl rfl ?_
  refine gN_iconst 0 dX10_rule_1 (by decide) ?_
  refine gN_putI fwX10_34 rfl 0 (hM.t) dX10_rule_2 ?_
  refine g_iload_n 1 dX10_rule_5 rfl rfl ?_
  refine gd_callS _ _ _ _ (cn_X10_isWord g (0, 0) (p)) ⟨rfl, rfl⟩ (ok_X10_isWord _) mlX10_119 st_X10_isWord rfl ⟨Nat.le_of_ble_eq_true rfl, Nat.le_of_ble_eq_true rfl⟩ (by exact Nat.le_of_ble_eq_true rfl) ⟨Nat.zero_le _, Nat.zero_le _⟩ dX10_rule_6 rfl ?_
  refine gN_if_ne 18 dX10_rule_9 (by decide) (by first | omega | exact b01_lt _) (fun h_9 => ?_) (fun h_9 => ?_)
  · exact False.elim (h (b01_n.mp h_9))
  · refine g_aload_n 0 dX10_rule_12 rfl rfl ?_
    refine gN_iconst 1 dX10_rule_13 (by decide) ?_
    refine gd_callV _ _ _ _ (cn_X10_fails g (0, 0) (m := sI m a 6 (nI 0)) hM (nI (1))) ⟨rfl, rfl⟩ (ok_X10_fails _) mlX10_95 in_X10_fails se_X10_fails 10 0 (hM.t) rfl rfl rfl ⟨Nat.le_of_ble_eq_true rfl, Nat.le_of_ble_eq_true rfl⟩ (by exact Nat.le_of_ble_eq_true rfl) ⟨Nat.zero_le _, Nat.zero_le _⟩ dX10_rule_14 rfl ?_
    refine g_iret rfl dX10_rule_17 ⟨Nat.zero_le _, Nat.zero_le _⟩ ?_
    exact ⟨rfl, _, rfl, by rw [show im (sI m a 6 (nI 0)) = th m a 0 from rfl, th_th]; exact sc.rf⟩
set_option maxRecDepth 100000 in
theorem cn_X10_rule_2 (g : Gp) (cs : Nat × Nat) {m : Mm} {a : Nat} (hM : MdOk m a) {w : Nat} (hw : w < 8) {x : Int32} (h : ¬ (nI 0 ≤ x ∧ x ≤ nI 9)) : En g (MX10_rule cs) [.ref (a), .int (nI (w)), .int (x)] m (some (.int (nI 0))) (sc a (th m a 2)) := by
  refine Cn.of pn_X10 (Nat.le_of_ble_eq_true rfl) rfl ?_
  refine g_aload_n 0 dX10_rule_0 rfl rfl ?_
  refine gN_iconst 0 dX10_rule_1 (by decide) ?_
  refine gN_putI fwX10_34 rfl 0 (hM.t) dX10_rule_2 ?_
  refine g_iload_n 1 dX10_rule_5 rfl rfl ?_
  refine gd_callS _ _ _ _ (cn_X10_isWord g (0, 0) (nI (w))) ⟨rfl, rfl⟩ (ok_X10_isWord _) mlX10_119 st_X10_isWord rfl ⟨Nat.le_of_ble_eq_true rfl, Nat.le_of_ble_eq_true rfl⟩ (by exact Nat.le_of_ble_eq_true rfl) ⟨Nat.zero_le _, Nat.zero_le _⟩ dX10_rule_6 rfl ?_
  refine gN_if_ne 18 dX10_rule_9 (by decide) (by first | omega | exact b01_lt _) (fun h_9 => ?_) (fun h_9 => ?_)
  · refine g_iload_n 2 dX10_rule_18 rfl rfl ?_
    refine gN_iconst 0 dX10_rule_19 (by decide) ?_
    refine gN_bipush 9 dX10_rule_20 (by decide) ?_
    refine gd_callS _ _ _ _ (cn_X10_in g (0, 0) _ (x) (nI (0)) (nI (9))) ⟨rfl, rfl⟩ (ok_X10_in _) mlX10_41 st_X10_in rfl ⟨Nat.le_of_ble_eq_true rfl, Nat.le_of_ble_eq_true rfl⟩ (by exact Nat.le_of_ble_eq_true rfl) ⟨Nat.zero_le _, Nat.zero_le _⟩ dX10_rule_22 rfl ?_
    refine gN_if_ne 34 dX10_rule_25 (by decide) (by first | omega | exact b01_lt _) (fun h_25 => ?_) (fun h_25 => ?_)
    · exact False.elim (h (b01_n.mp h_25))
    · refine g_aload_n 0 dX10_rule_28 rfl rfl ?_
      refine gN_iconst 2 dX10_rule_29 (by decide) ?_
      refine gd_callV _ _ _ _ (cn_X10_fails g (0, 0) (m := sI m a 6 (nI 0)) hM (nI (2))) ⟨rfl, rfl⟩ (ok_X10_fails _) mlX10_95 in_X10_fails se_X10_fails 10 0 (hM.t) rfl rfl rfl ⟨Nat.le_of_ble_eq_true rfl, Nat.le_of_ble_eq_true rfl⟩ (by exact Nat.le_of_ble_eq_true rfl) ⟨Nat.zero_le _, Nat.zero_le _⟩ dX10_rule_30 rfl ?_
      refine g_iret rfl dX10_rule_33 ⟨Nat.zero_le _, Nat.zero_le _⟩ ?_
      exact ⟨rfl, _, rfl, by rw [show im (sI m a 6 (nI 0)) = th m a 0 from rfl, th_th]; exact sc.rf⟩
  · exact False.elim (b01_z.mp h_9 ((inb_nI (by omega)).mpr hw))
theorem hv_th (m : Mm) (a k w : Nat) (p : Int32) : ∀ j, hv (th m a k (a + 1)) w p j = hv (im m (a + 1)) w p j := by
  intro j
  rw [show th m a k (a + 1) = im m (a + 1) from funext (th_z m a k)]
theorem hv_sv (m : Mm) (a n w y : Nat) (v p : Int32) (h : 56 ≤ y) (hw : w < 8) : ∀ j, j ≤ 4 → hv (u2 (svI (th m a 0) a n) (a + 1) y v (a + 1)) w p j = hv (im m (a + 1)) w p j := by
  intro j
  induction j with
  | zero => intro _; rfl
  | succ j ih =>
    intro hj
    show hv _ w p j + b01 _ = hv _ w p j + b01 _
    rw [ih (by omega), u2_n _ _ _ _ (by omega), sv_z]
set_option maxRecDepth 100000 in
theorem cn_X10_rule_3 (g : Gp) (cs : Nat × Nat) {m : Mm} {a : Nat} (hM : MdOk m a) {w : Nat} (hw : w < 8) {x : Int32} (h : nI 0 ≤ x ∧ x ≤ nI 9) (hr : ¬ ((im m (a + 1)) (56 + w) = -1 ∧ 0 < hv (im m (a + 1)) w x 4)) : En g (MX10_rule cs) [.ref (a), .int (nI (w)), .int (x)] m (some (.int (nI 0))) (sc a (th m a 3)) := by
  have l1 := hv_le (im m (a + 1)) w x 4
  refine Cn.of pn_X10 (Nat.le_of_ble_eq_true rfl) rfl ?_
  refine g_aload_n 0 dX10_rule_0 rfl rfl ?_
  refine gN_iconst 0 dX10_rule_1 (by decide) ?_
  refine gN_putI fwX10_34 rfl 0 (hM.t) dX10_rule_2 ?_
  refine g_iload_n 1 dX10_rule_5 rfl rfl ?_
  refine gd_callS _ _ _ _ (cn_X10_isWord g (0, 0) (nI (w))) ⟨rfl, rfl⟩ (ok_X10_isWord _) mlX10_119 st_X10_isWord rfl ⟨Nat.le_of_ble_eq_true rfl, Nat.le_of_ble_eq_true rfl⟩ (by exact Nat.le_of_ble_eq_true rfl) ⟨Nat.zero_le _, Nat.zero_le _⟩ dX10_rule_6 rfl ?_
  refine gN_if_ne 18 dX10_rule_9 (by decide) (by first | omega | exact b01_lt _) (fun h_9 => ?_) (fun h_9 => ?_)
  · refine g_iload_n 2 dX10_rule_18 rfl rfl ?_
    refine gN_iconst 0 dX10_rule_19 (by decide) ?_
    refine gN_bipush 9 dX10_rule_20 (by decide) ?_
    refine gd_callS _ _ _ _ (cn_X10_in g (0, 0) _ (x) (nI (0)) (nI (9))) ⟨rfl, rfl⟩ (ok_X10_in _) mlX10_41 st_X10_in rfl ⟨Nat.le_of_ble_eq_true rfl, Nat.le_of_ble_eq_true rfl⟩ (by exact Nat.le_of_ble_eq_true rfl) ⟨Nat.zero_le _, Nat.zero_le _⟩ dX10_rule_22 rfl ?_
    refine gN_if_ne 34 dX10_rule_25 (by decide) (by first | omega | exact b01_lt _) (fun h_25 => ?_) (fun h_25 => ?_)
    · refine g_aload_n 0 dX10_rule_34 rfl rfl ?_
      refine gN_getR (a + 1) flX10_7 (fun _ _ _ => rfl) 0 (hM.t) (hM.r0) dX10_rule_35 ?_
      refine gN_bipush 56 dX10_rule_38 (by decide) ?_
      refine g_iload_n 1 dX10_rule_40 rfl rfl ?_
      refine gN_iadd (56 + w) dX10_rule_41 rfl ?_
      refine gN_iald 689 (hM.t1) (by first | omega | exact b01_lt _) (by first | omega | exact b01_lt _) dX10_rule_42 ?_
      refine g_iconst (-1) dX10_rule_43 (by decide) ?_
      refine g_icmp_ne 56 dX10_rule_44 (by decide) (fun h_44 => ?_) (fun h_44 => ?_)
      · refine g_aload_n 0 dX10_rule_56 rfl rfl ?_
        refine gN_iconst 3 dX10_rule_57 (by decide) ?_
        refine gd_callV _ _ _ _ (cn_X10_fails g (0, 0) (m := sI m a 6 (nI 0)) hM (nI (3))) ⟨rfl, rfl⟩ (ok_X10_fails _) mlX10_95 in_X10_fails se_X10_fails 10 0 (hM.t) rfl rfl rfl ⟨Nat.le_of_ble_eq_true rfl, Nat.le_of_ble_eq_true rfl⟩ (by exact Nat.le_of_ble_eq_true rfl) ⟨Nat.zero_le _, Nat.zero_le _⟩ dX10_rule_58 rfl ?_
        refine g_iret rfl dX10_rule_61 ⟨Nat.zero_le _, Nat.zero_le _⟩ ?_
        exact ⟨rfl, _, rfl, by rw [show im (sI m a 6 (nI 0)) = th m a 0 from rfl, th_th]; exact sc.rf⟩
      · refine g_aload_n 0 dX10_rule_47 rfl rfl ?_
        refine g_iload_n 1 dX10_rule_48 rfl rfl ?_
        refine g_iload_n 2 dX10_rule_49 rfl rfl ?_
        refine gd_callV _ _ _ _ (cn_X10_having g (0, 0) (m := sI m a 6 (nI 0)) hM hw (x)) ⟨rfl, rfl⟩ (ok_X10_having _) mlX10_122 in_X10_having se_X10_having 10 0 (hM.t) rfl rfl rfl ⟨Nat.le_of_ble_eq_true rfl, Nat.le_of_ble_eq_true rfl⟩ (by exact Nat.le_of_ble_eq_true rfl) ⟨Nat.zero_le _, Nat.zero_le _⟩ dX10_rule_50 rfl ?_
        refine g_ei (nI (hv (im m (a + 1)) w x 4)) (congrArg nI (hv_th m a 0 w x 4)) ?_
        refine gN_if_ne 62 dX10_rule_53 (by decide) (by first | omega | exact b01_lt _) (fun h_53 => ?_) (fun h_53 => ?_)
        · exact False.elim (hr ⟨(th_z m a 0 _).symm.trans h_44, by omega⟩)
        · refine g_aload_n 0 dX10_rule_56 rfl rfl ?_
          refine gN_iconst 3 dX10_rule_57 (by decide) ?_
          refine gd_callV _ _ _ _ (cn_X10_fails g (0, 0) (m := sI m a 6 (nI 0)) hM (nI (3))) ⟨rfl, rfl⟩ (ok_X10_fails _) mlX10_95 in_X10_fails se_X10_fails 10 0 (hM.t) rfl rfl rfl ⟨Nat.le_of_ble_eq_true rfl, Nat.le_of_ble_eq_true rfl⟩ (by exact Nat.le_of_ble_eq_true rfl) ⟨Nat.zero_le _, Nat.zero_le _⟩ dX10_rule_58 rfl ?_
          refine g_iret rfl dX10_rule_61 ⟨Nat.zero_le _, Nat.zero_le _⟩ ?_
          exact ⟨rfl, _, rfl, by rw [show im (sI m a 6 (nI 0)) = th m a 0 from rfl, th_th]; exact sc.rf⟩
    · exact False.elim (b01_z.mp h_25 h)
  · exact False.elim (b01_z.mp h_9 ((inb_nI (by omega)).mpr hw))
set_option maxRecDepth 100000 in
theorem cn_X10_rule_0 (g : Gp) (cs : Nat × Nat) {m : Mm} {a : Nat} (hM : MdOk m a) {n : Nat} (hn : im m a 3 = nI n) (hn6 : n ≤ 6) {w : Nat} (hw : w < 8) {x : Int32} (h : nI 0 ≤ x ∧ x ≤ nI 9) (hr : (im m (a + 1)) (56 + w) = -1) (hp : 0 < hv (im m (a + 1)) w x 4) : En g (MX10_rule cs) [.ref (a), .int (nI (w)), .int (x)] m (some (.int (nI 4 - nI (hv (im m (a + 1)) w x 4) - nI (hv (im m (a + 1)) w (-1) 4)))) (sc a (u2 (svI (th m a 0) a n) (a + 1) (56 + w) x)) := by
  have l1 := hv_le (im m (a + 1)) w x 4
  have l2 := hv_le (im m (a + 1)) w (-1) 4
  refine Cn.of pn_X10 (Nat.le_of_ble_eq_true rfl) rfl ?_
  refine g_aload_n 0 dX10_rule_0 rfl rfl ?_
  refine gN_iconst 0 dX10_rule_1 (by decide) ?_
  refine gN_putI fwX10_34 rfl 0 (hM.t) dX10_rule_2 ?_
  refine g_iload_n 1 dX10_rule_5 rfl rfl ?_
  refine gd_callS _ _ _ _ (cn_X10_isWord g (0, 0) (nI (w))) ⟨rfl, rfl⟩ (ok_X10_isWord _) mlX10_119 st_X10_isWord rfl ⟨Nat.le_of_ble_eq_true rfl, Nat.le_of_ble_eq_true rfl⟩ (by exact Nat.le_of_ble_eq_true rfl) ⟨Nat.zero_le _, Nat.zero_le _⟩ dX10_rule_6 rfl ?_
  refine gN_if_ne 18 dX10_rule_9 (by decide) (by first | omega | exact b01_lt _) (fun h_9 => ?_) (fun h_9 => ?_)
  · refine g_iload_n 2 dX10_rule_18 rfl rfl ?_
    refine gN_iconst 0 dX10_rule_19 (by decide) ?_
    refine gN_bipush 9 dX10_rule_20 (by decide) ?_
    refine gd_callS _ _ _ _ (cn_X10_in g (0, 0) _ (x) (nI (0)) (nI (9))) ⟨rfl, rfl⟩ (ok_X10_in _) mlX10_41 st_X10_in rfl ⟨Nat.le_of_ble_eq_true rfl, Nat.le_of_ble_eq_true rfl⟩ (by exact Nat.le_of_ble_eq_true rfl) ⟨Nat.zero_le _, Nat.zero_le _⟩ dX10_rule_22 rfl ?_
    refine gN_if_ne 34 dX10_rule_25 (by decide) (by first | omega | exact b01_lt _) (fun h_25 => ?_) (fun h_25 => ?_)
    · refine g_aload_n 0 dX10_rule_34 rfl rfl ?_
      refine gN_getR (a + 1) flX10_7 (fun _ _ _ => rfl) 0 (hM.t) (hM.r0) dX10_rule_35 ?_
      refine gN_bipush 56 dX10_rule_38 (by decide) ?_
      refine g_iload_n 1 dX10_rule_40 rfl rfl ?_
      refine gN_iadd (56 + w) dX10_rule_41 rfl ?_
      refine gN_iald 689 (hM.t1) (by first | omega | exact b01_lt _) (by first | omega | exact b01_lt _) dX10_rule_42 ?_
      refine g_iconst (-1) dX10_rule_43 (by decide) ?_
      refine g_icmp_ne 56 dX10_rule_44 (by decide) (fun h_44 => ?_) (fun h_44 => ?_)
      · exact False.elim (h_44 ((th_z m a 0 _).trans hr))
      · refine g_aload_n 0 dX10_rule_47 rfl rfl ?_
        refine g_iload_n 1 dX10_rule_48 rfl rfl ?_
        refine g_iload_n 2 dX10_rule_49 rfl rfl ?_
        refine gd_callV _ _ _ _ (cn_X10_having g (0, 0) (m := sI m a 6 (nI 0)) hM hw (x)) ⟨rfl, rfl⟩ (ok_X10_having _) mlX10_122 in_X10_having se_X10_having 10 0 (hM.t) rfl rfl rfl ⟨Nat.le_of_ble_eq_true rfl, Nat.le_of_ble_eq_true rfl⟩ (by exact Nat.le_of_ble_eq_true rfl) ⟨Nat.zero_le _, Nat.zero_le _⟩ dX10_rule_50 rfl ?_
        refine g_ei (nI (hv (im m (a + 1)) w x 4)) (congrArg nI (hv_th m a 0 w x 4)) ?_
        refine gN_if_ne 62 dX10_rule_53 (by decide) (by first | omega | exact b01_lt _) (fun h_53 => ?_) (fun h_53 => ?_)
        · refine g_aload_n 0 dX10_rule_62 rfl rfl ?_
          refine gd_callV _ _ _ _ (cn_X10_save g (0, 0) (m := sI m a 6 (nI 0)) hM (n := n) ((th_a m a 0 3 (by omega)).trans hn) hn6) ⟨rfl, rfl⟩ (ok_X10_save _) mlX10_98 in_X10_save se_X10_save 10 0 (hM.t) rfl rfl rfl ⟨Nat.le_of_ble_eq_true rfl, Nat.le_of_ble_eq_true rfl⟩ (by exact Nat.le_of_ble_eq_true rfl) ⟨Nat.zero_le _, Nat.zero_le _⟩ dX10_rule_63 rfl ?_
          refine g_aload_n 0 dX10_rule_66 rfl rfl ?_
          refine gN_getR (a + 1) flX10_7 (fun _ _ _ => rfl) 0 (hM.t) (hM.r0) dX10_rule_67 ?_
          refine gN_bipush 56 dX10_rule_70 (by decide) ?_
          refine g_iload_n 1 dX10_rule_72 rfl rfl ?_
          refine gN_iadd (56 + w) dX10_rule_73 rfl ?_
          refine g_iload_n 2 dX10_rule_74 rfl rfl ?_
          refine gN_iast 689 (hM.t1) (by first | omega | exact b01_lt _) (by first | omega | exact b01_lt _) dX10_rule_75 ?_
          refine gN_iconst 4 dX10_rule_76 (by decide) ?_
          refine g_aload_n 0 dX10_rule_77 rfl rfl ?_
          refine g_iload_n 1 dX10_rule_78 rfl rfl ?_
          refine g_iload_n 2 dX10_rule_79 rfl rfl ?_
          refine gd_callV _ _ _ _ (cn_X10_having g (0, 0) (m := sI (wI (sI m a 6 (nI 0)) (svI (th m a 0) a n)) (a + 1) (56 + w) x) hM hw (x)) ⟨rfl, rfl⟩ (ok_X10_having _) mlX10_122 in_X10_having se_X10_having 10 0 (hM.t) rfl rfl rfl ⟨Nat.le_of_ble_eq_true rfl, Nat.le_of_ble_eq_true rfl⟩ (by exact Nat.le_of_ble_eq_true rfl) ⟨Nat.zero_le _, Nat.zero_le _⟩ dX10_rule_80 rfl ?_
          refine g_ei (nI (hv (im m (a + 1)) w x 4)) (congrArg nI (hv_sv m a n w (56 + w) x x (by omega) hw 4 (by omega))) ?_
          refine g_isub dX10_rule_83 ?_
          refine g_aload_n 0 dX10_rule_84 rfl rfl ?_
          refine g_iload_n 1 dX10_rule_85 rfl rfl ?_
          refine g_iconst (-1) dX10_rule_86 (by decide) ?_
          refine gd_callV _ _ _ _ (cn_X10_having g (0, 0) (m := sI (wI (sI m a 6 (nI 0)) (svI (th m a 0) a n)) (a + 1) (56 + w) x) hM hw (-1)) ⟨rfl, rfl⟩ (ok_X10_having _) mlX10_122 in_X10_having se_X10_having 10 0 (hM.t) rfl rfl rfl ⟨Nat.le_of_ble_eq_true rfl, Nat.le_of_ble_eq_true rfl⟩ (by exact Nat.le_of_ble_eq_true rfl) ⟨Nat.zero_le _, Nat.zero_le _⟩ dX10_rule_87 rfl ?_
          refine g_ei (nI (hv (im m (a + 1)) w (-1) 4)) (congrArg nI (hv_sv m a n w (56 + w) x (-1) (by omega) hw 4 (by omega))) ?_
          refine g_isub dX10_rule_90 ?_
          refine g_iret rfl dX10_rule_91 ⟨Nat.zero_le _, Nat.zero_le _⟩ ?_
          exact ⟨rfl, _, rfl, sc.rf⟩
        · exfalso; omega
    · exact False.elim (b01_z.mp h_25 h)
  · exact False.elim (b01_z.mp h_9 ((inb_nI (by omega)).mpr hw))
set_option maxRecDepth 100000 in
theorem cn_X10_append_1 (g : Gp) (cs : Nat × Nat) {m : Mm} {a : Nat} (hM : MdOk m a) {x : Int32} (h : ¬ (nI 33 ≤ x ∧ x ≤ nI 126)) : En g (MX10_append cs) [.ref (a), .int (x)] m (some (.int (nI 0))) (sc a (th m a 1)) := by
  refine Cn.of pn_X10 (Nat.le_of_ble_eq_true rfl) rfl ?_
  refine g_aload_n 0 dX10_append_0 rfl rfl ?_
  refine gN_iconst 0 dX10_append_1 (by decide) ?_
  refine gN_putI fwX10_34 rfl 0 (hM.t) dX10_append_2 ?_
  refine g_iload_n 1 dX10_append_5 rfl rfl ?_
  refine gN_bipush 33 dX10_append_6 (by decide) ?_
  refine gN_bipush 126 dX10_append_8 (by decide) ?_
  refine gd_callS _ _ _ _ (cn_X10_in g (0, 0) _ (x) (nI (33)) (nI (126))) ⟨rfl, rfl⟩ (ok_X10_in _) mlX10_41 st_X10_in rfl ⟨Nat.le_of_ble_eq_true rfl, Nat.le_of_ble_eq_true rfl⟩ (by exact Nat.le_of_ble_eq_true rfl) ⟨Nat.zero_le _, Nat.zero_le _⟩ dX10_append_10 rfl ?_
  refine gN_if_ne 22 dX10_append_13 (by decide) (by first | omega | exact b01_lt _) (fun h_13 => ?_) (fun h_13 => ?_)
  · exact False.elim (h (b01_n.mp h_13))
  · refine g_aload_n 0 dX10_append_16 rfl rfl ?_
    refine gN_iconst 1 dX10_append_17 (by decide) ?_
    refine gd_callV _ _ _ _ (cn_X10_fails g (0, 0) (m := sI m a 6 (nI 0)) hM (nI (1))) ⟨rfl, rfl⟩ (ok_X10_fails _) mlX10_95 in_X10_fails se_X10_fails 10 0 (hM.t) rfl rfl rfl ⟨Nat.le_of_ble_eq_true rfl, Nat.le_of_ble_eq_true rfl⟩ (by exact Nat.le_of_ble_eq_true rfl) ⟨Nat.zero_le _, Nat.zero_le _⟩ dX10_append_18 rfl ?_
    refine g_iret rfl dX10_append_21 ⟨Nat.zero_le _, Nat.zero_le _⟩ ?_
    exact ⟨rfl, _, rfl, by rw [show im (sI m a 6 (nI 0)) = th m a 0 from rfl, th_th]; exact sc.rf⟩
set_option maxRecDepth 100000 in
theorem cn_X10_append_2 (g : Gp) (cs : Nat × Nat) {m : Mm} {a : Nat} (hM : MdOk m a) {k : Nat} (hk : im m a 5 = nI k) (hk6 : k ≤ 60) {x : Int32} (h : nI 33 ≤ x ∧ x ≤ nI 126) (h6 : k = 60) : En g (MX10_append cs) [.ref (a), .int (x)] m (some (.int (nI 0))) (sc a (th m a 2)) := by
  refine Cn.of pn_X10 (Nat.le_of_ble_eq_true rfl) rfl ?_
  refine g_aload_n 0 dX10_append_0 rfl rfl ?_
  refine gN_iconst 0 dX10_append_1 (by decide) ?_
  refine gN_putI fwX10_34 rfl 0 (hM.t) dX10_append_2 ?_
  refine g_iload_n 1 dX10_append_5 rfl rfl ?_
  refine gN_bipush 33 dX10_append_6 (by decide) ?_
  refine gN_bipush 126 dX10_append_8 (by decide) ?_
  refine gd_callS _ _ _ _ (cn_X10_in g (0, 0) _ (x) (nI (33)) (nI (126))) ⟨rfl, rfl⟩ (ok_X10_in _) mlX10_41 st_X10_in rfl ⟨Nat.le_of_ble_eq_true rfl, Nat.le_of_ble_eq_true rfl⟩ (by exact Nat.le_of_ble_eq_true rfl) ⟨Nat.zero_le _, Nat.zero_le _⟩ dX10_append_10 rfl ?_
  refine gN_if_ne 22 dX10_append_13 (by decide) (by first | omega | exact b01_lt _) (fun h_13 => ?_) (fun h_13 => ?_)
  · refine g_aload_n 0 dX10_append_22 rfl rfl ?_
    refine gN_getI flX10_125 rfl 0 (hM.t) dX10_append_23 ?_
    refine g_ei (nI (k)) ((th_a m a 0 5 (by omega)).trans hk) ?_
    refine gN_bipush 60 dX10_append_26 (by decide) ?_
    refine gN_icmp_ne 37 dX10_append_28 (by decide) (by first | omega | exact b01_lt _) (by first | omega | exact b01_lt _) (fun h_28 => ?_) (fun h_28 => ?_)
    · exfalso; omega
    · refine g_aload_n 0 dX10_append_31 rfl rfl ?_
      refine gN_iconst 2 dX10_append_32 (by decide) ?_
      refine gd_callV _ _ _ _ (cn_X10_fails g (0, 0) (m := sI m a 6 (nI 0)) hM (nI (2))) ⟨rfl, rfl⟩ (ok_X10_fails _) mlX10_95 in_X10_fails se_X10_fails 10 0 (hM.t) rfl rfl rfl ⟨Nat.le_of_ble_eq_true rfl, Nat.le_of_ble_eq_true rfl⟩ (by exact Nat.le_of_ble_eq_true rfl) ⟨Nat.zero_le _, Nat.zero_le _⟩ dX10_append_33 rfl ?_
      refine g_iret rfl dX10_append_36 ⟨Nat.zero_le _, Nat.zero_le _⟩ ?_
      exact ⟨rfl, _, rfl, by rw [show im (sI m a 6 (nI 0)) = th m a 0 from rfl, th_th]; exact sc.rf⟩
  · exact False.elim (b01_z.mp h_13 h)
set_option maxRecDepth 100000 in
theorem cn_X10_append_0 (g : Gp) (cs : Nat × Nat) {m : Mm} {a : Nat} (hM : MdOk m a) {k : Nat} (hk : im m a 5 = nI k) (hk6 : k ≤ 60) {x : Int32} (h : nI 33 ≤ x ∧ x ≤ nI 126) (h6 : k < 60) : En g (MX10_append cs) [.ref (a), .int (x)] m (some (.int (nI (k + 1)))) (sc a (u2 (u2 (th m a 0) (a + 4) k x) a 5 (nI (k + 1)))) := by
  refine Cn.of pn_X10 (Nat.le_of_ble_eq_true rfl) rfl ?_
  refine g_aload_n 0 dX10_append_0 rfl rfl ?_
  refine gN_iconst 0 dX10_append_1 (by decide) ?_
  refine gN_putI fwX10_34 rfl 0 (hM.t) dX10_append_2 ?_
  refine g_iload_n 1 dX10_append_5 rfl rfl ?_
  refine gN_bipush 33 dX10_append_6 (by decide) ?_
  refine gN_bipush 126 dX10_append_8 (by decide) ?_
  refine gd_callS _ _ _ _ (cn_X10_in g (0, 0) _ (x) (nI (33)) (nI (126))) ⟨rfl, rfl⟩ (ok_X10_in _) mlX10_41 st_X10_in rfl ⟨Nat.le_of_ble_eq_true rfl, Nat.le_of_ble_eq_true rfl⟩ (by exact Nat.le_of_ble_eq_true rfl) ⟨Nat.zero_le _, Nat.zero_le _⟩ dX10_append_10 rfl ?_
  refine gN_if_ne 22 dX10_append_13 (by decide) (by first | omega | exact b01_lt _) (fun h_13 => ?_) (fun h_13 => ?_)
  · refine g_aload_n 0 dX10_append_22 rfl rfl ?_
    refine gN_getI flX10_125 rfl 0 (hM.t) dX10_append_23 ?_
    refine g_ei (nI (k)) ((th_a m a 0 5 (by omega)).trans hk) ?_
    refine gN_bipush 60 dX10_append_26 (by decide) ?_
    refine gN_icmp_ne 37 dX10_append_28 (by decide) (by first | omega | exact b01_lt _) (by first | omega | exact b01_lt _) (fun h_28 => ?_) (fun h_28 => ?_)
    · refine g_aload_n 0 dX10_append_37 rfl rfl ?_
      refine gN_getR (a + 4) flX10_19 (fun _ _ _ => rfl) 0 (hM.t) (hM.r4) dX10_append_38 ?_
      refine g_aload_n 0 dX10_append_41 rfl rfl ?_
      refine gN_getI flX10_125 rfl 0 (hM.t) dX10_append_42 ?_
      refine g_ei (nI (k)) ((th_a m a 0 5 (by omega)).trans hk) ?_
      refine g_iload_n 1 dX10_append_45 rfl rfl ?_
      refine gN_iast 60 (hM.t4) (by first | omega | exact b01_lt _) (by first | omega | exact b01_lt _) dX10_append_46 ?_
      refine g_aload_n 0 dX10_append_47 rfl rfl ?_
      refine g_dup dX10_append_48 rfl ?_
      refine gN_getI flX10_125 rfl 0 (hM.t) dX10_append_49 ?_
      refine g_ei (nI (k)) ((u2_n _ _ _ _ (by omega)).trans ((th_a m a 0 5 (by omega)).trans hk)) ?_
      refine gN_iconst 1 dX10_append_52 (by decide) ?_
      refine gN_iadd (k + 1) dX10_append_53 rfl ?_
      refine gN_putI fwX10_125 rfl 0 (hM.t) dX10_append_54 ?_
      refine g_aload_n 0 dX10_append_57 rfl rfl ?_
      refine gN_getI flX10_125 rfl 0 (hM.t) dX10_append_58 ?_
      refine g_ei (nI (k + 1)) (u2_s _ _ _ _) ?_
      refine g_iret rfl dX10_append_61 ⟨Nat.zero_le _, Nat.zero_le _⟩ ?_
      exact ⟨rfl, _, rfl, sc.rf⟩
    · exfalso; omega
  · exact False.elim (b01_z.mp h_13 h)
set_option maxRecDepth 100000 in
theorem cn_X10_clearBuffer (g : Gp) (cs : Nat × Nat) {m : Mm} {a : Nat} (hM : MdOk m a) : En g (MX10_clearBuffer cs) [.ref (a)] m (some (.int (im m a 5))) (sc a (u2 (th m a 0) a 5 (nI 0))) := by
  refine Cn.of pn_X10 (Nat.le_of_ble_eq_true rfl) rfl ?_
  refine g_aload_n 0 dX10_clearBuffer_0 rfl rfl ?_
  refine gN_iconst 0 dX10_clearBuffer_1 (by decide) ?_
  refine gN_putI fwX10_34 rfl 0 (hM.t) dX10_clearBuffer_2 ?_
  refine g_aload_n 0 dX10_clearBuffer_5 rfl rfl ?_
  refine gN_getI flX10_125 rfl 0 (hM.t) dX10_clearBuffer_6 ?_
  refine g_topi (fun v1_9 ev1_9 => ?_)
  refine g_istore_n 1 [(1, .int (v1_9)), (0, .ref (a))] dX10_clearBuffer_9 rfl (Nat.le_of_ble_eq_true rfl) rfl ?_
  refine g_aload_n 0 dX10_clearBuffer_10 rfl rfl ?_
  refine gN_iconst 0 dX10_clearBuffer_11 (by decide) ?_
  refine gN_putI fwX10_125 rfl 0 (hM.t) dX10_clearBuffer_12 ?_
  refine g_iload_n 1 dX10_clearBuffer_15 rfl rfl ?_
  refine g_iret rfl dX10_clearBuffer_16 ⟨Nat.zero_le _, Nat.zero_le _⟩ ?_
  exact ⟨vI (by rw [ev1_9]; exact th_a m a 0 5 (by omega)), _, rfl, sc.rf⟩
