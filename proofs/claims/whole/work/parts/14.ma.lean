set_option maxRecDepth 100000 in
theorem cn_X10_at (g : Gp) (cs : Nat × Nat) (m : Mm) (s : Nat) : Dn g (MX10_at cs) [.int (nI (s))] m (some (.int (nI (79 + 22 * s)))) (m) := by
  refine Cn.of pn_X10 (Nat.le_of_ble_eq_true rfl) rfl ?_
  refine gN_bipush 79 dX10_at_0 (by decide) ?_
  refine gN_bipush 22 dX10_at_2 (by decide) ?_
  refine g_iload_n 0 dX10_at_4 rfl rfl ?_
  refine gN_imul (22 * s) dX10_at_5 rfl ?_
  refine gN_iadd (79 + (22 * s)) dX10_at_6 rfl ?_
  refine g_iret rfl dX10_at_7 ⟨Nat.zero_le _, Nat.zero_le _⟩ ?_
  exact ⟨rfl, rfl⟩
set_option maxRecDepth 100000 in
theorem cn_X10_rowAt (g : Gp) (cs : Nat × Nat) (m : Mm) (s : Nat) : Dn g (MX10_rowAt cs) [.int (nI (s))] m (some (.int (nI (299 + 13 * s)))) (m) := by
  refine Cn.of pn_X10 (Nat.le_of_ble_eq_true rfl) rfl ?_
  refine gN_sipush 299 dX10_rowAt_0 (by decide) ?_
  refine gN_bipush 13 dX10_rowAt_3 (by decide) ?_
  refine g_iload_n 0 dX10_rowAt_5 rfl rfl ?_
  refine gN_imul (13 * s) dX10_rowAt_6 rfl ?_
  refine gN_iadd (299 + (13 * s)) dX10_rowAt_7 rfl ?_
  refine g_iret rfl dX10_rowAt_8 ⟨Nat.zero_le _, Nat.zero_le _⟩ ?_
  exact ⟨rfl, rfl⟩
set_option maxRecDepth 100000 in
theorem cn_X10_person (g : Gp) (cs : Nat × Nat) (m : Mm) (s : Nat) : Dn g (MX10_person cs) [.int (nI (s))] m (some (.int (nI (4 + 5 * s)))) (m) := by
  refine Cn.of pn_X10 (Nat.le_of_ble_eq_true rfl) rfl ?_
  refine gN_iconst 4 dX10_person_0 (by decide) ?_
  refine gN_iconst 5 dX10_person_1 (by decide) ?_
  refine g_iload_n 0 dX10_person_2 rfl rfl ?_
  refine gN_imul (5 * s) dX10_person_3 rfl ?_
  refine gN_iadd (4 + (5 * s)) dX10_person_4 rfl ?_
  refine g_iret rfl dX10_person_5 ⟨Nat.zero_le _, Nat.zero_le _⟩ ?_
  exact ⟨rfl, rfl⟩
set_option maxRecDepth 100000 in
theorem cn_X10_proposal (g : Gp) (cs : Nat × Nat) (m : Mm) (s t : Nat) : Dn g (MX10_proposal cs) [.int (nI (s)), .int (nI (t))] m (some (.int (nI (24 + 4 * s + t)))) (m) := by
  refine Cn.of pn_X10 (Nat.le_of_ble_eq_true rfl) rfl ?_
  refine gN_bipush 24 dX10_proposal_0 (by decide) ?_
  refine gN_iconst 4 dX10_proposal_2 (by decide) ?_
  refine g_iload_n 0 dX10_proposal_3 rfl rfl ?_
  refine gN_imul (4 * s) dX10_proposal_4 rfl ?_
  refine gN_iadd (24 + (4 * s)) dX10_proposal_5 rfl ?_
  refine g_iload_n 1 dX10_proposal_6 rfl rfl ?_
  refine gN_iadd ((24 + (4 * s)) + t) dX10_proposal_7 rfl ?_
  refine g_iret rfl dX10_proposal_8 ⟨Nat.zero_le _, Nat.zero_le _⟩ ?_
  exact ⟨rfl, rfl⟩
set_option maxRecDepth 100000 in
theorem cn_X10_in (g : Gp) (cs : Nat × Nat) (m : Mm) (x l h : Int32) : Dn g (MX10_in cs) [.int (x), .int (l), .int (h)] m (some (.int (nI (b01 (l ≤ x ∧ x ≤ h))))) (m) := by
  refine Cn.of pn_X10 (Nat.le_of_ble_eq_true rfl) rfl ?_
  refine g_iload_n 0 dX10_in_0 rfl rfl ?_
  refine g_iload_n 1 dX10_in_1 rfl rfl ?_
  refine g_icmp_lt 14 dX10_in_2 (by decide) (fun h_2 => ?_) (fun h_2 => ?_)
  · refine gN_iconst 0 dX10_in_14 (by decide) ?_
    refine g_zret rfl (by first | rfl | exact nar_b01 _) dX10_in_15 ⟨Nat.zero_le _, Nat.zero_le _⟩ ?_
    refine ⟨?_, rfl⟩
    rw [b01_f (by rintro ⟨z1, z2⟩; rw [le_tI] at z1 z2; rw [lt_tI] at *; omega)]
  · refine g_iload_n 0 dX10_in_5 rfl rfl ?_
    refine g_iload_n 2 dX10_in_6 rfl rfl ?_
    refine g_icmp_gt 14 dX10_in_7 (by decide) (fun h_7 => ?_) (fun h_7 => ?_)
    · refine gN_iconst 0 dX10_in_14 (by decide) ?_
      refine g_zret rfl (by first | rfl | exact nar_b01 _) dX10_in_15 ⟨Nat.zero_le _, Nat.zero_le _⟩ ?_
      refine ⟨?_, rfl⟩
      rw [b01_f (by rintro ⟨z1, z2⟩; rw [le_tI] at z1 z2; rw [lt_tI] at *; omega)]
    · refine gN_iconst 1 dX10_in_10 (by decide) ?_
      refine g_goto 15 dX10_in_11 (by decide) ?_
      refine g_zret rfl (by first | rfl | exact nar_b01 _) dX10_in_15 ⟨Nat.zero_le _, Nat.zero_le _⟩ ?_
      refine ⟨?_, rfl⟩
      rw [b01_t (by constructor <;> (rw [le_tI]; rw [lt_tI] at *; omega))]
