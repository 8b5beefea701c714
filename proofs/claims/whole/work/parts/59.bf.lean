/-! THE CLASS: the buffer -/
set_option maxRecDepth 100000 in
theorem cn_X1_isLetter (g : Gp) (cs : Nat × Nat) {m : Mm} (x : Int32) : Dn g (MX1_isLetter cs) [.int (x)] m (some (.int (nI (b01 (nI 97 ≤ x ∧ x < nI 105))))) (m) := by
  refine Cn.of pn_X1 (Nat.le_of_ble_eq_true rfl) rfl ?_
  refine g_iload_n 0 dX1_isLetter_0 rfl rfl ?_
  refine gN_bipush 97 dX1_isLetter_1 (by decide) ?_
  refine g_icmp_lt 16 dX1_isLetter_3 (by decide) (fun h_3 => ?_) (fun h_3 => ?_)
  · refine gN_iconst 0 dX1_isLetter_16 (by decide) ?_
    refine g_zret rfl (by first | rfl | exact nar_b01 _) dX1_isLetter_17 ⟨Nat.zero_le _, Nat.zero_le _⟩ ?_
    refine ⟨?_, rfl⟩
    rw [b01_f (by rintro ⟨z1, z2⟩; first | exact Int32.not_lt.mpr z1 h_3 | exact Int32.not_le.mpr z2 h_9)]
  · refine g_iload_n 0 dX1_isLetter_6 rfl rfl ?_
    refine gN_bipush 105 dX1_isLetter_7 (by decide) ?_
    refine g_icmp_ge 16 dX1_isLetter_9 (by decide) (fun h_9 => ?_) (fun h_9 => ?_)
    · refine gN_iconst 0 dX1_isLetter_16 (by decide) ?_
      refine g_zret rfl (by first | rfl | exact nar_b01 _) dX1_isLetter_17 ⟨Nat.zero_le _, Nat.zero_le _⟩ ?_
      refine ⟨?_, rfl⟩
      rw [b01_f (by rintro ⟨z1, z2⟩; first | exact Int32.not_lt.mpr z1 h_3 | exact Int32.not_le.mpr z2 h_9)]
    · refine gN_iconst 1 dX1_isLetter_12 (by decide) ?_
      refine g_goto 17 dX1_isLetter_13 (by decide) ?_
      refine g_zret rfl (by first | rfl | exact nar_b01 _) dX1_isLetter_17 ⟨Nat.zero_le _, Nat.zero_le _⟩ ?_
      refine ⟨?_, rfl⟩
      rw [b01_t (by constructor <;> first | exact Int32.not_lt.mp h_3 | exact Int32.not_le.mp h_9)]
set_option maxRecDepth 100000 in
theorem lp_X1_firstFault (g : Gp) (cs : Nat × Nat) {m : Mm} {T C k : Nat} {f : Nat → Int32} (ht : tg m T = (1, 0)) (hc : tg m C = (11, 60)) (hr : rf m T 0 = some C) (hl : im m T 1 = nI k) (hk6 : k ≤ 60) (hf : ∀ e, e < k → im m C e = f e) : ∀ d p : Nat, p + d = k → ∀ i w, rdI f k i w p → G g (MX1_firstFault cs) (dQ (some (.int (nI (plc f k)))) m) 4 [(2, .int (nI (p))), (1, .int (nI (w))), (0, .ref (T))] [] (0, 0) m := by
  intro d
  induction d with
  | zero =>
    intro p hp i w hI
    obtain rfl : p = k := hp
    refine g_iload_n 2 dX1_firstFault_4 rfl rfl ?_
    refine g_aload_n 0 dX1_firstFault_5 rfl rfl ?_
    refine gN_getI flX1_15 rfl 0 (ht) dX1_firstFault_6 ?_
    refine g_ei (nI (p)) (hl) ?_
    refine gN_icmp_ge 64 dX1_firstFault_9 (by decide) (by first | omega | exact b01_lt _) (by first | omega | exact b01_lt _) (fun h_9 => ?_) (fun h_9 => ?_)
    · refine g_aload_n 0 dX1_firstFault_64 rfl rfl ?_
      refine gN_getI flX1_15 rfl 0 (ht) dX1_firstFault_65 ?_
      refine g_ei (nI (p)) (hl) ?_
      refine g_iret rfl dX1_firstFault_68 ⟨Nat.zero_le _, Nat.zero_le _⟩ ?_
      exact ⟨vI (congrArg nI (rd_e hI (fun q => Nat.lt_irrefl _ q.1.1) (fun q => Nat.lt_irrefl _ q.1)).symm), rfl⟩
    · exfalso; omega
  | succ d ih =>
    intro p hp i w hI
    have hw12 := hI.2.2.1
    have hI0 := hI
    have hpk : p < k := by omega
    refine g_iload_n 2 dX1_firstFault_4 rfl rfl ?_
    refine g_aload_n 0 dX1_firstFault_5 rfl rfl ?_
    refine gN_getI flX1_15 rfl 0 (ht) dX1_firstFault_6 ?_
    refine g_ei (nI (k)) (hl) ?_
    refine gN_icmp_ge 64 dX1_firstFault_9 (by decide) (by first | omega | exact b01_lt _) (by first | omega | exact b01_lt _) (fun h_9 => ?_) (fun h_9 => ?_)
    · exfalso; omega
    · refine g_aload_n 0 dX1_firstFault_12 rfl rfl ?_
      refine gN_getR (C) flX1_9 (fun _ _ _ => rfl) 0 (ht) (hr) dX1_firstFault_13 ?_
      refine g_iload_n 2 dX1_firstFault_16 rfl rfl ?_
      refine gN_iald 60 (hc) (by first | omega | exact b01_lt _) (by first | omega | exact b01_lt _) dX1_firstFault_17 ?_
      refine g_eI (f p) (hf _ (by omega)) ?_
      refine gd_callS _ _ _ _ (cn_X1_isLetter g (0, 0) (f p)) ⟨rfl, rfl⟩ (ok_X1_isLetter _) mlX1_19 st_X1_isLetter rfl ⟨Nat.le_of_ble_eq_true rfl, Nat.le_of_ble_eq_true rfl⟩ (by exact Nat.le_of_ble_eq_true rfl) ⟨Nat.zero_le _, Nat.zero_le _⟩ dX1_firstFault_18 rfl ?_
      refine gN_if_eq 36 dX1_firstFault_21 (by decide) (by first | omega | exact b01_lt _) (fun h_21 => ?_) (fun h_21 => ?_)
      · refine g_aload_n 0 dX1_firstFault_36 rfl rfl ?_
        refine gN_getR (C) flX1_9 (fun _ _ _ => rfl) 0 (ht) (hr) dX1_firstFault_37 ?_
        refine g_iload_n 2 dX1_firstFault_40 rfl rfl ?_
        refine gN_iald 60 (hc) (by first | omega | exact b01_lt _) (by first | omega | exact b01_lt _) dX1_firstFault_41 ?_
        refine g_eI (f p) (hf _ (by omega)) ?_
        refine gN_bipush 59 dX1_firstFault_42 (by decide) ?_
        refine g_icmp_ne 56 dX1_firstFault_44 (by decide) (fun h_44 => ?_) (fun h_44 => ?_)
        · refine g_iload_n 2 dX1_firstFault_56 rfl rfl ?_
          refine g_iret rfl dX1_firstFault_57 ⟨Nat.zero_le _, Nat.zero_le _⟩ ?_
          refine ⟨vI (congrArg nI (rd_e hI (fun q => by first | exact b01_z.mp h_21 (inb_sub.mp q.1.2) | (have := q.2; omega)) (fun q => ?_)).symm), rfl⟩
          first | exact h_44 q.2.1 | (have := q.2.2; omega)
        · refine g_iload_n 1 dX1_firstFault_47 rfl rfl ?_
          refine gN_if_le 56 dX1_firstFault_48 (by decide) (by first | omega | exact b01_lt _) (fun h_48 => ?_) (fun h_48 => ?_)
          · refine g_iload_n 2 dX1_firstFault_56 rfl rfl ?_
            refine g_iret rfl dX1_firstFault_57 ⟨Nat.zero_le _, Nat.zero_le _⟩ ?_
            refine ⟨vI (congrArg nI (rd_e hI (fun q => by first | exact b01_z.mp h_21 (inb_sub.mp q.1.2) | (have := q.2; omega)) (fun q => ?_)).symm), rfl⟩
            first | exact h_44 q.2.1 | (have := q.2.2; omega)
          · refine gN_iconst 0 dX1_firstFault_51 (by decide) ?_
            refine g_istore_n 1 [(1, .int (nI (0))), (2, .int (nI (p))), (0, .ref (T))] dX1_firstFault_52 rfl (Nat.le_of_ble_eq_true rfl) rfl ?_
            refine g_goto 58 dX1_firstFault_53 (by decide) ?_
            refine g_iinc 2 (nI (p + 1)) 1 [(2, .int (nI (p + 1))), (1, .int (nI (0))), (0, .ref (T))] dX1_firstFault_58 rfl (nI_add p 1) (Nat.le_of_ble_eq_true rfl) rfl ?_
            refine g_goto 4 dX1_firstFault_61 (by decide) ?_
            refine g_pick [0, 1, 2] rfl ?_
            exact ih (p + 1) (by omega) (i + 1) 0 (rd_s hk6 hI (fun q => by first | exact b01_z.mp h_21 (inb_sub.mp q.1.2) | (have := q.2; omega)) hpk h_44 (by omega))
      · refine g_iload_n 1 dX1_firstFault_24 rfl rfl ?_
        refine gN_bipush 12 dX1_firstFault_25 (by decide) ?_
        refine gN_icmp_ge 36 dX1_firstFault_27 (by decide) (by first | omega | exact b01_lt _) (by first | omega | exact b01_lt _) (fun h_27 => ?_) (fun h_27 => ?_)
        · refine g_aload_n 0 dX1_firstFault_36 rfl rfl ?_
          refine gN_getR (C) flX1_9 (fun _ _ _ => rfl) 0 (ht) (hr) dX1_firstFault_37 ?_
          refine g_iload_n 2 dX1_firstFault_40 rfl rfl ?_
          refine gN_iald 60 (hc) (by first | omega | exact b01_lt _) (by first | omega | exact b01_lt _) dX1_firstFault_41 ?_
          refine g_eI (f p) (hf _ (by omega)) ?_
          refine gN_bipush 59 dX1_firstFault_42 (by decide) ?_
          refine g_icmp_ne 56 dX1_firstFault_44 (by decide) (fun h_44 => ?_) (fun h_44 => ?_)
          · refine g_iload_n 2 dX1_firstFault_56 rfl rfl ?_
            refine g_iret rfl dX1_firstFault_57 ⟨Nat.zero_le _, Nat.zero_le _⟩ ?_
            refine ⟨vI (congrArg nI (rd_e hI (fun q => by first | exact b01_z.mp h_21 (inb_sub.mp q.1.2) | (have := q.2; omega)) (fun q => ?_)).symm), rfl⟩
            first | exact h_44 q.2.1 | (have := q.2.2; omega)
          · refine g_iload_n 1 dX1_firstFault_47 rfl rfl ?_
            refine gN_if_le 56 dX1_firstFault_48 (by decide) (by first | omega | exact b01_lt _) (fun h_48 => ?_) (fun h_48 => ?_)
            · refine g_iload_n 2 dX1_firstFault_56 rfl rfl ?_
              refine g_iret rfl dX1_firstFault_57 ⟨Nat.zero_le _, Nat.zero_le _⟩ ?_
              refine ⟨vI (congrArg nI (rd_e hI (fun q => by first | exact b01_z.mp h_21 (inb_sub.mp q.1.2) | (have := q.2; omega)) (fun q => ?_)).symm), rfl⟩
              first | exact h_44 q.2.1 | (have := q.2.2; omega)
            · refine gN_iconst 0 dX1_firstFault_51 (by decide) ?_
              refine g_istore_n 1 [(1, .int (nI (0))), (2, .int (nI (p))), (0, .ref (T))] dX1_firstFault_52 rfl (Nat.le_of_ble_eq_true rfl) rfl ?_
              refine g_goto 58 dX1_firstFault_53 (by decide) ?_
              refine g_iinc 2 (nI (p + 1)) 1 [(2, .int (nI (p + 1))), (1, .int (nI (0))), (0, .ref (T))] dX1_firstFault_58 rfl (nI_add p 1) (Nat.le_of_ble_eq_true rfl) rfl ?_
              refine g_goto 4 dX1_firstFault_61 (by decide) ?_
              refine g_pick [0, 1, 2] rfl ?_
              exact ih (p + 1) (by omega) (i + 1) 0 (rd_s hk6 hI (fun q => by first | exact b01_z.mp h_21 (inb_sub.mp q.1.2) | (have := q.2; omega)) hpk h_44 (by omega))
        · refine g_iinc 1 (nI (w + 1)) 1 [(1, .int (nI (w + 1))), (2, .int (nI (p))), (0, .ref (T))] dX1_firstFault_30 rfl (nI_add w 1) (Nat.le_of_ble_eq_true rfl) rfl ?_
          refine g_goto 58 dX1_firstFault_33 (by decide) ?_
          refine g_iinc 2 (nI (p + 1)) 1 [(2, .int (nI (p + 1))), (1, .int (nI (w + 1))), (0, .ref (T))] dX1_firstFault_58 rfl (nI_add p 1) (Nat.le_of_ble_eq_true rfl) rfl ?_
          refine g_goto 4 dX1_firstFault_61 (by decide) ?_
          refine g_pick [0, 1, 2] rfl ?_
          exact ih (p + 1) (by omega) i (w + 1) (rd_l hI (by omega) (show isl f k p from ⟨hpk, inb_sub.mpr (b01_n.mp h_21)⟩))
set_option maxRecDepth 100000 in
theorem cn_X1_firstFault (g : Gp) (cs : Nat × Nat) {m : Mm} {T C k : Nat} {f : Nat → Int32} (ht : tg m T = (1, 0)) (hc : tg m C = (11, 60)) (hr : rf m T 0 = some C) (hl : im m T 1 = nI k) (hk6 : k ≤ 60) (hf : ∀ e, e < k → im m C e = f e) : Dn g (MX1_firstFault cs) [.ref (T)] m (some (.int (nI (plc f k)))) (m) := by
  refine Cn.of pn_X1 (Nat.le_of_ble_eq_true rfl) rfl ?_
  refine gN_iconst 0 dX1_firstFault_0 (by decide) ?_
  refine g_istore_n 1 [(1, .int (nI (0))), (0, .ref (T))] dX1_firstFault_1 rfl (Nat.le_of_ble_eq_true rfl) rfl ?_
  refine gN_iconst 0 dX1_firstFault_2 (by decide) ?_
  refine g_istore_n 2 [(2, .int (nI (0))), (1, .int (nI (0))), (0, .ref (T))] dX1_firstFault_3 rfl (Nat.le_of_ble_eq_true rfl) rfl ?_
  refine g_pick [0, 1, 2] rfl ?_
  exact lp_X1_firstFault g cs ht hc hr hl hk6 hf k 0 (Nat.zero_add _) 0 0 (rd_0 f k)
set_option maxRecDepth 100000 in
theorem cn_X1_isComplete (g : Gp) (cs : Nat × Nat) {m : Mm} {T C k : Nat} {f : Nat → Int32} (ht : tg m T = (1, 0)) (hc : tg m C = (11, 60)) (hr : rf m T 0 = some C) (hl : im m T 1 = nI k) (hk6 : k ≤ 60) (hf : ∀ e, e < k → im m C e = f e) : Dn g (MX1_isComplete cs) [.ref (T)] m (some (.int (nI (b01 (okT f k))))) (m) := by
  have hple : plc f k ≤ k := ln_k (Nat.le_refl _)
  refine Cn.of pn_X1 (Nat.le_of_ble_eq_true rfl) rfl ?_
  refine g_aload_n 0 dX1_isComplete_0 rfl rfl ?_
  refine gN_getI flX1_15 rfl 0 (ht) dX1_isComplete_1 ?_
  refine g_ei (nI (k)) (hl) ?_
  refine gN_if_le 38 dX1_isComplete_4 (by decide) (by first | omega | exact b01_lt _) (fun h_4 => ?_) (fun h_4 => ?_)
  · refine gN_iconst 0 dX1_isComplete_38 (by decide) ?_
    refine g_zret rfl (by first | rfl | exact nar_b01 _) dX1_isComplete_39 ⟨Nat.zero_le _, Nat.zero_le _⟩ ?_
    refine ⟨vI (congrArg nI ?_), rfl⟩
    refine (b01_f (fun q => ?_)).symm
    obtain ⟨q1, q2, q3⟩ := (ok_iff hk6).mp q
    first | exact q3 h_31 | exact h_15 q2 | omega
  · refine g_aload_n 0 dX1_isComplete_7 rfl rfl ?_
    refine gd_callV _ _ _ _ (cn_X1_firstFault g (0, 0) ht hc hr hl hk6 hf) ⟨rfl, rfl⟩ (ok_X1_firstFault _) mlX1_23 in_X1_firstFault se_X1_firstFault 1 0 (ht) rfl rfl rfl ⟨Nat.le_of_ble_eq_true rfl, Nat.le_of_ble_eq_true rfl⟩ (by exact Nat.le_of_ble_eq_true rfl) ⟨Nat.zero_le _, Nat.zero_le _⟩ dX1_isComplete_8 rfl ?_
    refine g_aload_n 0 dX1_isComplete_11 rfl rfl ?_
    refine gN_getI flX1_15 rfl 0 (ht) dX1_isComplete_12 ?_
    refine g_ei (nI (k)) (hl) ?_
    refine gN_icmp_ne 38 dX1_isComplete_15 (by decide) (by first | omega | exact b01_lt _) (by first | omega | exact b01_lt _) (fun h_15 => ?_) (fun h_15 => ?_)
    · refine gN_iconst 0 dX1_isComplete_38 (by decide) ?_
      refine g_zret rfl (by first | rfl | exact nar_b01 _) dX1_isComplete_39 ⟨Nat.zero_le _, Nat.zero_le _⟩ ?_
      refine ⟨vI (congrArg nI ?_), rfl⟩
      refine (b01_f (fun q => ?_)).symm
      obtain ⟨q1, q2, q3⟩ := (ok_iff hk6).mp q
      first | exact q3 h_31 | exact h_15 q2 | omega
    · refine g_aload_n 0 dX1_isComplete_18 rfl rfl ?_
      refine gN_getR (C) flX1_9 (fun _ _ _ => rfl) 0 (ht) (hr) dX1_isComplete_19 ?_
      refine g_aload_n 0 dX1_isComplete_22 rfl rfl ?_
      refine gN_getI flX1_15 rfl 0 (ht) dX1_isComplete_23 ?_
      refine g_ei (nI (k)) (hl) ?_
      refine gN_iconst 1 dX1_isComplete_26 (by decide) ?_
      refine gN_isub (k - 1) dX1_isComplete_27 (by first | omega | exact b01_lt _) rfl ?_
      refine gN_iald 60 (hc) (by first | omega | exact b01_lt _) (by first | omega | exact b01_lt _) dX1_isComplete_28 ?_
      refine g_eI (f (k - 1)) (hf _ (by omega)) ?_
      refine gN_bipush 59 dX1_isComplete_29 (by decide) ?_
      refine g_icmp_eq 38 dX1_isComplete_31 (by decide) (fun h_31 => ?_) (fun h_31 => ?_)
      · refine gN_iconst 0 dX1_isComplete_38 (by decide) ?_
        refine g_zret rfl (by first | rfl | exact nar_b01 _) dX1_isComplete_39 ⟨Nat.zero_le _, Nat.zero_le _⟩ ?_
        refine ⟨vI (congrArg nI ?_), rfl⟩
        refine (b01_f (fun q => ?_)).symm
        obtain ⟨q1, q2, q3⟩ := (ok_iff hk6).mp q
        first | exact q3 h_31 | exact h_15 q2 | omega
      · refine gN_iconst 1 dX1_isComplete_34 (by decide) ?_
        refine g_goto 39 dX1_isComplete_35 (by decide) ?_
        refine g_zret rfl (by first | rfl | exact nar_b01 _) dX1_isComplete_39 ⟨Nat.zero_le _, Nat.zero_le _⟩ ?_
        refine ⟨vI (congrArg nI ?_), rfl⟩
        exact (b01_t ((ok_iff hk6).mpr ⟨by omega, h_15, h_31⟩)).symm
set_option maxRecDepth 100000 in
theorem lp_X1_rowCount (g : Gp) (cs : Nat × Nat) {m : Mm} {T C k : Nat} {f : Nat → Int32} (ht : tg m T = (1, 0)) (hc : tg m C = (11, 60)) (hr : rf m T 0 = some C) (hl : im m T 1 = nI k) (hk6 : k ≤ 60) (hf : ∀ e, e < k → im m C e = f e) : ∀ d e : Nat, e + d = k → G g (MX1_rowCount cs) (dQ (some (.int (nI (1 + sm (fun e => b01 (f e = nI 59)) k)))) m) 4 [(2, .int (nI (e))), (1, .int (nI (1 + sm (fun e => b01 (f e = nI 59)) e))), (0, .ref (T))] [] (0, 0) m := by
  intro d
  induction d with
  | zero =>
    intro e he
    obtain rfl : e = k := he
    refine g_iload_n 2 dX1_rowCount_4 rfl rfl ?_
    refine g_aload_n 0 dX1_rowCount_5 rfl rfl ?_
    refine gN_getI flX1_15 rfl 0 (ht) dX1_rowCount_6 ?_
    refine g_ei (nI (e)) (hl) ?_
    refine gN_icmp_ge 40 dX1_rowCount_9 (by decide) (by first | omega | exact b01_lt _) (by first | omega | exact b01_lt _) (fun h_9 => ?_) (fun h_9 => ?_)
    · refine g_iload_n 1 dX1_rowCount_40 rfl rfl ?_
      refine g_iret rfl dX1_rowCount_41 ⟨Nat.zero_le _, Nat.zero_le _⟩ ?_
      exact ⟨rfl, rfl⟩
    · exfalso; omega
  | succ d ih =>
    intro e he
    refine g_iload_n 2 dX1_rowCount_4 rfl rfl ?_
    refine g_aload_n 0 dX1_rowCount_5 rfl rfl ?_
    refine gN_getI flX1_15 rfl 0 (ht) dX1_rowCount_6 ?_
    refine g_ei (nI (k)) (hl) ?_
    refine gN_icmp_ge 40 dX1_rowCount_9 (by decide) (by first | omega | exact b01_lt _) (by first | omega | exact b01_lt _) (fun h_9 => ?_) (fun h_9 => ?_)
    · exfalso; omega
    · refine g_iload_n 1 dX1_rowCount_12 rfl rfl ?_
      refine g_join 29 (b01 (f e = nI 59)) ?_ (fun K_29 => ?_)
      · refine gd_callSN _ _ _ _ (cn_X9_oneIf g (0, 0) (f e = nI 59)) ⟨rfl, rfl⟩ (ok_X9_oneIf _) mlX1_27 st_X9_oneIf rfl ⟨Nat.le_of_ble_eq_true rfl, Nat.le_of_ble_eq_true rfl⟩ (by exact Nat.le_of_ble_eq_true rfl) ⟨Nat.zero_le _, Nat.zero_le _⟩ dX1_rowCount_29 rfl ?_
        refine gN_iadd ((1 + sm (fun e => b01 (f e = nI 59)) e) + (b01 (f e = nI 59))) dX1_rowCount_32 rfl ?_
        refine g_ei (nI (1 + sm (fun e => b01 (f e = nI 59)) (e + 1))) (congrArg nI (Nat.add_assoc _ _ _)) ?_
        refine g_istore_n 1 [(1, .int (nI (1 + sm (fun e => b01 (f e = nI 59)) (e + 1)))), (2, .int (nI (e))), (0, .ref (T))] dX1_rowCount_33 rfl (Nat.le_of_ble_eq_true rfl) rfl ?_
        refine g_iinc 2 (nI (e + 1)) 1 [(2, .int (nI (e + 1))), (1, .int (nI (1 + sm (fun e => b01 (f e = nI 59)) (e + 1)))), (0, .ref (T))] dX1_rowCount_34 rfl (nI_add e 1) (Nat.le_of_ble_eq_true rfl) rfl ?_
        refine g_goto 4 dX1_rowCount_37 (by decide) ?_
        refine g_pick [0, 1, 2] rfl ?_
        exact ih (e + 1) (by omega)
      · refine g_aload_n 0 dX1_rowCount_13 rfl rfl ?_
        refine gN_getR (C) flX1_9 (fun _ _ _ => rfl) 0 (ht) (hr) dX1_rowCount_14 ?_
        refine g_iload_n 2 dX1_rowCount_17 rfl rfl ?_
        refine gN_iald 60 (hc) (by first | omega | exact b01_lt _) (by first | omega | exact b01_lt _) dX1_rowCount_18 ?_
        refine g_eI (f e) (hf _ (by omega)) ?_
        refine gN_bipush 59 dX1_rowCount_19 (by decide) ?_
        refine g_icmp_ne 28 dX1_rowCount_21 (by decide) (fun h_21 => ?_) (fun h_21 => ?_)
        · refine gN_iconst 0 dX1_rowCount_28 (by decide) ?_
          exact g_ei (nI (b01 (f e = nI 59))) (congrArg nI (show 0 = b01 (f e = nI 59) from by first | exact (b01_t h_21).symm | exact (b01_f h_21).symm)) K_29
        · refine gN_iconst 1 dX1_rowCount_24 (by decide) ?_
          refine g_goto 29 dX1_rowCount_25 (by decide) ?_
          exact g_ei (nI (b01 (f e = nI 59))) (congrArg nI (show 1 = b01 (f e = nI 59) from by first | exact (b01_t h_21).symm | exact (b01_f h_21).symm)) K_29
set_option maxRecDepth 100000 in
theorem cn_X1_rowCount (g : Gp) (cs : Nat × Nat) {m : Mm} {T C k : Nat} {f : Nat → Int32} (ht : tg m T = (1, 0)) (hc : tg m C = (11, 60)) (hr : rf m T 0 = some C) (hl : im m T 1 = nI k) (hk6 : k ≤ 60) (hf : ∀ e, e < k → im m C e = f e) : Dn g (MX1_rowCount cs) [.ref (T)] m (some (.int (nI (1 + sm (fun e => b01 (f e = nI 59)) k)))) (m) := by
  refine Cn.of pn_X1 (Nat.le_of_ble_eq_true rfl) rfl ?_
  refine gN_iconst 1 dX1_rowCount_0 (by decide) ?_
  refine g_istore_n 1 [(1, .int (nI (1))), (0, .ref (T))] dX1_rowCount_1 rfl (Nat.le_of_ble_eq_true rfl) rfl ?_
  refine gN_iconst 0 dX1_rowCount_2 (by decide) ?_
  refine g_istore_n 2 [(2, .int (nI (0))), (1, .int (nI (1))), (0, .ref (T))] dX1_rowCount_3 rfl (Nat.le_of_ble_eq_true rfl) rfl ?_
  refine g_pick [0, 1, 2] rfl ?_
  exact lp_X1_rowCount g cs ht hc hr hl hk6 hf k 0 (Nat.zero_add _)
set_option maxRecDepth 100000 in
theorem lp_X1_endOfRow (g : Gp) (cs : Nat × Nat) {m : Mm} {T C k : Nat} {f : Nat → Int32} (ht : tg m T = (1, 0)) (hc : tg m C = (11, 60)) (hr : rf m T 0 = some C) (hl : im m T 1 = nI k) (hk6 : k ≤ 60) (hf : ∀ e, e < k → im m C e = f e) {b n : Nat} (hn : ∀ e, e < n → ¬ f (b + e) = nI 59) (he : b + n = k ∨ (b + n < k ∧ f (b + n) = nI 59)) : ∀ d e : Nat, e + d = n → G g (MX1_endOfRow cs) (dQ (some (.int (nI (b + n)))) m) 2 [(2, .int (nI (b + e))), (0, .ref (T)), (1, .int (nI (b)))] [] (0, 0) m := by
  intro d
  induction d with
  | zero =>
    intro e hen
    obtain rfl : e = n := hen
    rcases he with he | ⟨he, he2⟩
    · refine g_iload_n 2 dX1_endOfRow_2 rfl rfl ?_
      refine g_aload_n 0 dX1_endOfRow_3 rfl rfl ?_
      refine gN_getI flX1_15 rfl 0 (ht) dX1_endOfRow_4 ?_
      refine g_ei (nI (k)) (hl) ?_
      refine gN_icmp_ge 27 dX1_endOfRow_7 (by decide) (by first | omega | exact b01_lt _) (by first | omega | exact b01_lt _) (fun h_7 => ?_) (fun h_7 => ?_)
      · refine g_iload_n 2 dX1_endOfRow_27 rfl rfl ?_
        refine g_iret rfl dX1_endOfRow_28 ⟨Nat.zero_le _, Nat.zero_le _⟩ ?_
        exact ⟨rfl, rfl⟩
      · exfalso; omega
    · refine g_iload_n 2 dX1_endOfRow_2 rfl rfl ?_
      refine g_aload_n 0 dX1_endOfRow_3 rfl rfl ?_
      refine gN_getI flX1_15 rfl 0 (ht) dX1_endOfRow_4 ?_
      refine g_ei (nI (k)) (hl) ?_
      refine gN_icmp_ge 27 dX1_endOfRow_7 (by decide) (by first | omega | exact b01_lt _) (by first | omega | exact b01_lt _) (fun h_7 => ?_) (fun h_7 => ?_)
      · exfalso; omega
      · refine g_aload_n 0 dX1_endOfRow_10 rfl rfl ?_
        refine gN_getR (C) flX1_9 (fun _ _ _ => rfl) 0 (ht) (hr) dX1_endOfRow_11 ?_
        refine g_iload_n 2 dX1_endOfRow_14 rfl rfl ?_
        refine gN_iald 60 (hc) (by first | omega | exact b01_lt _) (by first | omega | exact b01_lt _) dX1_endOfRow_15 ?_
        refine g_eI (f (b + e)) (hf _ (by omega)) ?_
        refine gN_bipush 59 dX1_endOfRow_16 (by decide) ?_
        refine g_icmp_eq 27 dX1_endOfRow_18 (by decide) (fun h_18 => ?_) (fun h_18 => ?_)
        · refine g_iload_n 2 dX1_endOfRow_27 rfl rfl ?_
          refine g_iret rfl dX1_endOfRow_28 ⟨Nat.zero_le _, Nat.zero_le _⟩ ?_
          exact ⟨rfl, rfl⟩
        · exact absurd he2 h_18
  | succ d ih =>
    intro e hen
    have hbk : b + e < k := by rcases he with q | ⟨q, _⟩ <;> omega
    refine g_iload_n 2 dX1_endOfRow_2 rfl rfl ?_
    refine g_aload_n 0 dX1_endOfRow_3 rfl rfl ?_
    refine gN_getI flX1_15 rfl 0 (ht) dX1_endOfRow_4 ?_
    refine g_ei (nI (k)) (hl) ?_
    refine gN_icmp_ge 27 dX1_endOfRow_7 (by decide) (by first | omega | exact b01_lt _) (by first | omega | exact b01_lt _) (fun h_7 => ?_) (fun h_7 => ?_)
    · exfalso; omega
    · refine g_aload_n 0 dX1_endOfRow_10 rfl rfl ?_
      refine gN_getR (C) flX1_9 (fun _ _ _ => rfl) 0 (ht) (hr) dX1_endOfRow_11 ?_
      refine g_iload_n 2 dX1_endOfRow_14 rfl rfl ?_
      refine gN_iald 60 (hc) (by first | omega | exact b01_lt _) (by first | omega | exact b01_lt _) dX1_endOfRow_15 ?_
      refine g_eI (f (b + e)) (hf _ (by omega)) ?_
      refine gN_bipush 59 dX1_endOfRow_16 (by decide) ?_
      refine g_icmp_eq 27 dX1_endOfRow_18 (by decide) (fun h_18 => ?_) (fun h_18 => ?_)
      · exact absurd h_18 (hn e (by omega))
      · refine g_iinc 2 (nI (b + e + 1)) 0 [(2, .int (nI (b + e + 1))), (0, .ref (T)), (1, .int (nI (b)))] dX1_endOfRow_21 rfl (nI_add (b + e) 1) (Nat.le_of_ble_eq_true rfl) rfl ?_
        refine g_goto 2 dX1_endOfRow_24 (by decide) ?_
        refine g_pick [0, 1, 2] rfl ?_
        exact ih (e + 1) (by omega)
set_option maxRecDepth 100000 in
theorem cn_X1_endOfRow (g : Gp) (cs : Nat × Nat) {m : Mm} {T C k : Nat} {f : Nat → Int32} (ht : tg m T = (1, 0)) (hc : tg m C = (11, 60)) (hr : rf m T 0 = some C) (hl : im m T 1 = nI k) (hk6 : k ≤ 60) (hf : ∀ e, e < k → im m C e = f e) {b n : Nat} (hn : ∀ e, e < n → ¬ f (b + e) = nI 59) (he : b + n = k ∨ (b + n < k ∧ f (b + n) = nI 59)) : Dn g (MX1_endOfRow cs) [.ref (T), .int (nI (b))] m (some (.int (nI (b + n)))) (m) := by
  refine Cn.of pn_X1 (Nat.le_of_ble_eq_true rfl) rfl ?_
  refine g_iload_n 1 dX1_endOfRow_0 rfl rfl ?_
  refine g_istore_n 2 [(2, .int (nI (b))), (0, .ref (T)), (1, .int (nI (b)))] dX1_endOfRow_1 rfl (Nat.le_of_ble_eq_true rfl) rfl ?_
  refine g_pick [0, 1, 2] rfl ?_
  exact lp_X1_endOfRow g cs ht hc hr hl hk6 hf hn he n 0 (Nat.zero_add _)
