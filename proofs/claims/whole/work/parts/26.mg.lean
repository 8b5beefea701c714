set_option maxRecDepth 100000 in
theorem lp_X10_staged (g : Gp) (cs : Nat × Nat) {m : Mm} {a : Nat} (hM : MdOk m a) (h0 : NR (im m (a + 1) 0) 0 10) (t : Int32) : ∀ d k : Nat, k + d = nv (im m (a + 1) 0) → G g (MX10_staged cs) (dQ (some (.int (nI (sm (stF (im m (a + 1)) t) (nv (im m (a + 1) 0)))))) m) 4 [(3, .int (nI (k))), (2, .int (nI (sm (stF (im m (a + 1)) t) k))), (0, .ref (a)), (1, .int (t))] [] (0, 0) m := by
  have h9 := h0.hi
  intro d
  induction d with
  | zero =>
    intro k hk
    obtain rfl : k = nv (im m (a + 1) 0) := hk
    refine g_iload_n 3 dX10_staged_4 rfl rfl ?_
    refine g_aload_n 0 dX10_staged_5 rfl rfl ?_
    refine gN_getR (a + 1) flX10_7 (fun _ _ _ => rfl) 0 (hM.t) (hM.r0) dX10_staged_6 ?_
    refine gN_iconst 0 dX10_staged_9 (by decide) ?_
    refine gN_iald 689 (hM.t1) (by first | omega | exact b01_lt _) (by first | omega | exact b01_lt _) dX10_staged_10 ?_
    refine g_ei (nI (nv (im m (a + 1) 0))) (h0.e) ?_
    refine gN_icmp_ge 43 dX10_staged_11 (by decide) (by first | omega | exact b01_lt _) (by first | omega | exact b01_lt _) (fun h_11 => ?_) (fun h_11 => ?_)
    · refine g_iload_n 2 dX10_staged_43 rfl rfl ?_
      refine g_iret rfl dX10_staged_44 ⟨Nat.zero_le _, Nat.zero_le _⟩ ?_
      exact ⟨rfl, rfl⟩
    · exfalso; omega
  | succ d ih =>
    intro k hk
    refine g_iload_n 3 dX10_staged_4 rfl rfl ?_
    refine g_aload_n 0 dX10_staged_5 rfl rfl ?_
    refine gN_getR (a + 1) flX10_7 (fun _ _ _ => rfl) 0 (hM.t) (hM.r0) dX10_staged_6 ?_
    refine gN_iconst 0 dX10_staged_9 (by decide) ?_
    refine gN_iald 689 (hM.t1) (by first | omega | exact b01_lt _) (by first | omega | exact b01_lt _) dX10_staged_10 ?_
    refine g_ei (nI (nv (im m (a + 1) 0))) (h0.e) ?_
    refine gN_icmp_ge 43 dX10_staged_11 (by decide) (by first | omega | exact b01_lt _) (by first | omega | exact b01_lt _) (fun h_11 => ?_) (fun h_11 => ?_)
    · exfalso; omega
    · refine g_iload_n 2 dX10_staged_14 rfl rfl ?_
      refine g_join 35 (stF (im m (a + 1)) t k) ?_ (fun K_35 => ?_)
      · refine gN_iadd ((sm (stF (im m (a + 1)) t) k) + (stF (im m (a + 1)) t k)) dX10_staged_35 rfl ?_
        refine g_istore_n 2 [(2, .int (nI ((sm (stF (im m (a + 1)) t) k) + (stF (im m (a + 1)) t k)))), (3, .int (nI (k))), (0, .ref (a)), (1, .int (t))] dX10_staged_36 rfl (Nat.le_of_ble_eq_true rfl) rfl ?_
        refine g_iinc 3 (nI (k + 1)) 1 [(3, .int (nI (k + 1))), (2, .int (nI ((sm (stF (im m (a + 1)) t) k) + (stF (im m (a + 1)) t k)))), (0, .ref (a)), (1, .int (t))] dX10_staged_37 rfl (nI_add k 1) (Nat.le_of_ble_eq_true rfl) rfl ?_
        refine g_goto 4 dX10_staged_40 (by decide) ?_
        refine g_pick [0, 1, 2, 3] rfl ?_
        exact ih (k + 1) (by omega)
      · refine g_aload_n 0 dX10_staged_15 rfl rfl ?_
        refine gN_getR (a + 1) flX10_7 (fun _ _ _ => rfl) 0 (hM.t) (hM.r0) dX10_staged_16 ?_
        refine g_iload_n 3 dX10_staged_19 rfl rfl ?_
        refine gd_callS _ _ _ _ (cn_X10_at g (0, 0) _ k) ⟨rfl, rfl⟩ (ok_X10_at _) mlX10_45 st_X10_at rfl ⟨Nat.le_of_ble_eq_true rfl, Nat.le_of_ble_eq_true rfl⟩ (by exact Nat.le_of_ble_eq_true rfl) ⟨Nat.zero_le _, Nat.zero_le _⟩ dX10_staged_20 rfl ?_
        refine gN_iconst 1 dX10_staged_23 (by decide) ?_
        refine gN_iadd ((79 + 22 * k) + 1) dX10_staged_24 rfl ?_
        refine gN_iald 689 (hM.t1) (by first | omega | exact b01_lt _) (by first | omega | exact b01_lt _) dX10_staged_25 ?_
        refine g_iload_n 1 dX10_staged_26 rfl rfl ?_
        refine g_icmp_ne 34 dX10_staged_27 (by decide) (fun h_27 => ?_) (fun h_27 => ?_)
        · refine gN_iconst 0 dX10_staged_34 (by decide) ?_
          exact g_ei (nI (stF (im m (a + 1)) t k)) (congrArg nI (show 0 = stF (im m (a + 1)) t k from by first | exact (b01_t h_27).symm | exact (b01_f h_27).symm)) K_35
        · refine gN_iconst 1 dX10_staged_30 (by decide) ?_
          refine g_goto 35 dX10_staged_31 (by decide) ?_
          exact g_ei (nI (stF (im m (a + 1)) t k)) (congrArg nI (show 1 = stF (im m (a + 1)) t k from by first | exact (b01_t h_27).symm | exact (b01_f h_27).symm)) K_35
set_option maxRecDepth 100000 in
theorem cn_X10_staged (g : Gp) (cs : Nat × Nat) {m : Mm} {a : Nat} (hM : MdOk m a) (h0 : NR (im m (a + 1) 0) 0 10) (t : Int32) : Dn g (MX10_staged cs) [.ref (a), .int (t)] m (some (.int (nI (sm (stF (im m (a + 1)) t) (nv (im m (a + 1) 0)))))) (m) := by
  have h9 := h0.hi
  refine Cn.of pn_X10 (Nat.le_of_ble_eq_true rfl) rfl ?_
  refine gN_iconst 0 dX10_staged_0 (by decide) ?_
  refine g_istore_n 2 [(2, .int (nI (0))), (0, .ref (a)), (1, .int (t))] dX10_staged_1 rfl (Nat.le_of_ble_eq_true rfl) rfl ?_
  refine gN_iconst 0 dX10_staged_2 (by decide) ?_
  refine g_istore_n 3 [(3, .int (nI (0))), (2, .int (nI (0))), (0, .ref (a)), (1, .int (t))] dX10_staged_3 rfl (Nat.le_of_ble_eq_true rfl) rfl ?_
  refine g_pick [0, 1, 2, 3] rfl ?_
  exact lp_X10_staged g cs hM h0 t _ 0 (Nat.zero_add _)
set_option maxRecDepth 100000 in
theorem lp_X10_wordsAll (g : Gp) (cs : Nat × Nat) {m : Mm} {a : Nat} (hM : MdOk m a) (h0 : NR (im m (a + 1) 0) 0 10) (hl : ∀ s, s < nv (im m (a + 1) 0) → NR (im m (a + 1) (79 + 22 * s)) 1 12) : ∀ d k : Nat, k + d = nv (im m (a + 1) 0) → G g (MX10_wordsAll cs) (dQ (some (.int (nI (sm (wdF (im m (a + 1))) (nv (im m (a + 1) 0)))))) m) 4 [(2, .int (nI (k))), (1, .int (nI (sm (wdF (im m (a + 1))) k))), (0, .ref (a))] [] (0, 0) m := by
  have h9 := h0.hi
  intro d
  induction d with
  | zero =>
    intro k hk
    obtain rfl : k = nv (im m (a + 1) 0) := hk
    refine g_iload_n 2 dX10_wordsAll_4 rfl rfl ?_
    refine g_aload_n 0 dX10_wordsAll_5 rfl rfl ?_
    refine gN_getR (a + 1) flX10_7 (fun _ _ _ => rfl) 0 (hM.t) (hM.r0) dX10_wordsAll_6 ?_
    refine gN_iconst 0 dX10_wordsAll_9 (by decide) ?_
    refine gN_iald 689 (hM.t1) (by first | omega | exact b01_lt _) (by first | omega | exact b01_lt _) dX10_wordsAll_10 ?_
    refine g_ei (nI (nv (im m (a + 1) 0))) (h0.e) ?_
    refine gN_icmp_ge 32 dX10_wordsAll_11 (by decide) (by first | omega | exact b01_lt _) (by first | omega | exact b01_lt _) (fun h_11 => ?_) (fun h_11 => ?_)
    · refine g_iload_n 1 dX10_wordsAll_32 rfl rfl ?_
      refine g_iret rfl dX10_wordsAll_33 ⟨Nat.zero_le _, Nat.zero_le _⟩ ?_
      exact ⟨rfl, rfl⟩
    · exfalso; omega
  | succ d ih =>
    intro k hk
    refine g_iload_n 2 dX10_wordsAll_4 rfl rfl ?_
    refine g_aload_n 0 dX10_wordsAll_5 rfl rfl ?_
    refine gN_getR (a + 1) flX10_7 (fun _ _ _ => rfl) 0 (hM.t) (hM.r0) dX10_wordsAll_6 ?_
    refine gN_iconst 0 dX10_wordsAll_9 (by decide) ?_
    refine gN_iald 689 (hM.t1) (by first | omega | exact b01_lt _) (by first | omega | exact b01_lt _) dX10_wordsAll_10 ?_
    refine g_ei (nI (nv (im m (a + 1) 0))) (h0.e) ?_
    refine gN_icmp_ge 32 dX10_wordsAll_11 (by decide) (by first | omega | exact b01_lt _) (by first | omega | exact b01_lt _) (fun h_11 => ?_) (fun h_11 => ?_)
    · exfalso; omega
    · refine g_iload_n 1 dX10_wordsAll_14 rfl rfl ?_
      refine g_aload_n 0 dX10_wordsAll_15 rfl rfl ?_
      refine gN_getR (a + 1) flX10_7 (fun _ _ _ => rfl) 0 (hM.t) (hM.r0) dX10_wordsAll_16 ?_
      refine g_iload_n 2 dX10_wordsAll_19 rfl rfl ?_
      refine gd_callS _ _ _ _ (cn_X10_at g (0, 0) _ k) ⟨rfl, rfl⟩ (ok_X10_at _) mlX10_45 st_X10_at rfl ⟨Nat.le_of_ble_eq_true rfl, Nat.le_of_ble_eq_true rfl⟩ (by exact Nat.le_of_ble_eq_true rfl) ⟨Nat.zero_le _, Nat.zero_le _⟩ dX10_wordsAll_20 rfl ?_
      refine gN_iald 689 (hM.t1) (by first | omega | exact b01_lt _) (by first | omega | exact b01_lt _) dX10_wordsAll_23 ?_
      refine g_ei (nI (wdF (im m (a + 1)) k)) ((hl k (by omega)).e) ?_
      refine gN_iadd ((sm (wdF (im m (a + 1))) k) + (wdF (im m (a + 1)) k)) dX10_wordsAll_24 rfl ?_
      refine g_istore_n 1 [(1, .int (nI ((sm (wdF (im m (a + 1))) k) + (wdF (im m (a + 1)) k)))), (2, .int (nI (k))), (0, .ref (a))] dX10_wordsAll_25 rfl (Nat.le_of_ble_eq_true rfl) rfl ?_
      refine g_iinc 2 (nI (k + 1)) 1 [(2, .int (nI (k + 1))), (1, .int (nI ((sm (wdF (im m (a + 1))) k) + (wdF (im m (a + 1)) k)))), (0, .ref (a))] dX10_wordsAll_26 rfl (nI_add k 1) (Nat.le_of_ble_eq_true rfl) rfl ?_
      refine g_goto 4 dX10_wordsAll_29 (by decide) ?_
      refine g_pick [0, 1, 2] rfl ?_
      exact ih (k + 1) (by omega)
set_option maxRecDepth 100000 in
theorem cn_X10_wordsAll (g : Gp) (cs : Nat × Nat) {m : Mm} {a : Nat} (hM : MdOk m a) (h0 : NR (im m (a + 1) 0) 0 10) (hl : ∀ s, s < nv (im m (a + 1) 0) → NR (im m (a + 1) (79 + 22 * s)) 1 12) : Dn g (MX10_wordsAll cs) [.ref (a)] m (some (.int (nI (sm (wdF (im m (a + 1))) (nv (im m (a + 1) 0)))))) (m) := by
  have h9 := h0.hi
  refine Cn.of pn_X10 (Nat.le_of_ble_eq_true rfl) rfl ?_
  refine gN_iconst 0 dX10_wordsAll_0 (by decide) ?_
  refine g_istore_n 1 [(1, .int (nI (0))), (0, .ref (a))] dX10_wordsAll_1 rfl (Nat.le_of_ble_eq_true rfl) rfl ?_
  refine gN_iconst 0 dX10_wordsAll_2 (by decide) ?_
  refine g_istore_n 2 [(2, .int (nI (0))), (1, .int (nI (0))), (0, .ref (a))] dX10_wordsAll_3 rfl (Nat.le_of_ble_eq_true rfl) rfl ?_
  refine g_pick [0, 1, 2] rfl ?_
  exact lp_X10_wordsAll g cs hM h0 hl _ 0 (Nat.zero_add _)
set_option maxRecDepth 100000 in
theorem lp_X10_ofPeople (g : Gp) (cs : Nat × Nat) {m : Mm} {a : Nat} (hM : MdOk m a) {w : Nat} (hw : w < 5) : ∀ d k : Nat, k + d = 4 → G g (MX10_ofPeople cs) (dQ (some (.int (ppl (im m (a + 1)) w 4))) m) 4 [(3, .int (nI (k))), (2, .int (ppl (im m (a + 1)) w k)), (0, .ref (a)), (1, .int (nI (w)))] [] (0, 0) m := by
  intro d
  induction d with
  | zero =>
    intro k hk
    obtain rfl : k = 4 := hk
    refine g_iload_n 3 dX10_ofPeople_4 rfl rfl ?_
    refine gN_iconst 4 dX10_ofPeople_5 (by decide) ?_
    refine gN_icmp_ge 29 dX10_ofPeople_6 (by decide) (by first | omega | exact b01_lt _) (by first | omega | exact b01_lt _) (fun h_6 => ?_) (fun h_6 => ?_)
    · refine g_iload_n 2 dX10_ofPeople_29 rfl rfl ?_
      refine g_iret rfl dX10_ofPeople_30 ⟨Nat.zero_le _, Nat.zero_le _⟩ ?_
      exact ⟨rfl, rfl⟩
    · exact absurd h_6 (by decide)
  | succ d ih =>
    intro k hk
    refine g_iload_n 3 dX10_ofPeople_4 rfl rfl ?_
    refine gN_iconst 4 dX10_ofPeople_5 (by decide) ?_
    refine gN_icmp_ge 29 dX10_ofPeople_6 (by decide) (by first | omega | exact b01_lt _) (by first | omega | exact b01_lt _) (fun h_6 => ?_) (fun h_6 => ?_)
    · exfalso; omega
    · refine g_iload_n 2 dX10_ofPeople_9 rfl rfl ?_
      refine g_aload_n 0 dX10_ofPeople_10 rfl rfl ?_
      refine gN_getR (a + 1) flX10_7 (fun _ _ _ => rfl) 0 (hM.t) (hM.r0) dX10_ofPeople_11 ?_
      refine g_iload_n 3 dX10_ofPeople_14 rfl rfl ?_
      refine gd_callS _ _ _ _ (cn_X10_person g (0, 0) _ k) ⟨rfl, rfl⟩ (ok_X10_person _) mlX10_101 st_X10_person rfl ⟨Nat.le_of_ble_eq_true rfl, Nat.le_of_ble_eq_true rfl⟩ (by exact Nat.le_of_ble_eq_true rfl) ⟨Nat.zero_le _, Nat.zero_le _⟩ dX10_ofPeople_15 rfl ?_
      refine g_iload_n 1 dX10_ofPeople_18 rfl rfl ?_
      refine gN_iadd ((4 + 5 * k) + w) dX10_ofPeople_19 rfl ?_
      refine gN_iald 689 (hM.t1) (by first | omega | exact b01_lt _) (by first | omega | exact b01_lt _) dX10_ofPeople_20 ?_
      refine g_iadd dX10_ofPeople_21 ?_
      refine g_topi (fun v2_22 ev2_22 => ?_)
      refine g_istore_n 2 [(2, .int (v2_22)), (3, .int (nI (k))), (0, .ref (a)), (1, .int (nI (w)))] dX10_ofPeople_22 rfl (Nat.le_of_ble_eq_true rfl) rfl ?_
      refine g_iinc 3 (nI (k + 1)) 1 [(3, .int (nI (k + 1))), (2, .int (v2_22)), (0, .ref (a)), (1, .int (nI (w)))] dX10_ofPeople_23 rfl (nI_add k 1) (Nat.le_of_ble_eq_true rfl) rfl ?_
      refine g_goto 4 dX10_ofPeople_26 (by decide) ?_
      refine g_pick [0, 1, 2, 3] rfl ?_
      subst ev2_22
      exact ih (k + 1) (by omega)
set_option maxRecDepth 100000 in
theorem cn_X10_ofPeople (g : Gp) (cs : Nat × Nat) {m : Mm} {a : Nat} (hM : MdOk m a) {w : Nat} (hw : w < 5) : Dn g (MX10_ofPeople cs) [.ref (a), .int (nI (w))] m (some (.int (ppl (im m (a + 1)) w 4))) (m) := by
  refine Cn.of pn_X10 (Nat.le_of_ble_eq_true rfl) rfl ?_
  refine gN_iconst 0 dX10_ofPeople_0 (by decide) ?_
  refine g_istore_n 2 [(2, .int (nI (0))), (0, .ref (a)), (1, .int (nI (w)))] dX10_ofPeople_1 rfl (Nat.le_of_ble_eq_true rfl) rfl ?_
  refine gN_iconst 0 dX10_ofPeople_2 (by decide) ?_
  refine g_istore_n 3 [(3, .int (nI (0))), (2, .int (nI (0))), (0, .ref (a)), (1, .int (nI (w)))] dX10_ofPeople_3 rfl (Nat.le_of_ble_eq_true rfl) rfl ?_
  refine g_pick [0, 1, 2, 3] rfl ?_
  exact lp_X10_ofPeople g cs hM hw _ 0 (Nat.zero_add _)
set_option maxRecDepth 100000 in
theorem lp_X10_assignedTo (g : Gp) (cs : Nat × Nat) {m : Mm} {a : Nat} (hM : MdOk m a) (h0 : NR (im m (a + 1) 0) 0 10) (p : Int32) : ∀ d k : Nat, k + d = nv (im m (a + 1) 0) → G g (MX10_assignedTo cs) (dQ (some (.int (nI (sm (asF (im m (a + 1)) p) (nv (im m (a + 1) 0)))))) m) 4 [(3, .int (nI (k))), (2, .int (nI (sm (asF (im m (a + 1)) p) k))), (0, .ref (a)), (1, .int (p))] [] (0, 0) m := by
  have h9 := h0.hi
  intro d
  induction d with
  | zero =>
    intro k hk
    obtain rfl : k = nv (im m (a + 1) 0) := hk
    refine g_iload_n 3 dX10_assignedTo_4 rfl rfl ?_
    refine g_aload_n 0 dX10_assignedTo_5 rfl rfl ?_
    refine gN_getR (a + 1) flX10_7 (fun _ _ _ => rfl) 0 (hM.t) (hM.r0) dX10_assignedTo_6 ?_
    refine gN_iconst 0 dX10_assignedTo_9 (by decide) ?_
    refine gN_iald 689 (hM.t1) (by first | omega | exact b01_lt _) (by first | omega | exact b01_lt _) dX10_assignedTo_10 ?_
    refine g_ei (nI (nv (im m (a + 1) 0))) (h0.e) ?_
    refine gN_icmp_ge 58 dX10_assignedTo_11 (by decide) (by first | omega | exact b01_lt _) (by first | omega | exact b01_lt _) (fun h_11 => ?_) (fun h_11 => ?_)
    · refine g_iload_n 2 dX10_assignedTo_58 rfl rfl ?_
      refine g_iret rfl dX10_assignedTo_59 ⟨Nat.zero_le _, Nat.zero_le _⟩ ?_
      exact ⟨rfl, rfl⟩
    · exfalso; omega
  | succ d ih =>
    intro k hk
    refine g_iload_n 3 dX10_assignedTo_4 rfl rfl ?_
    refine g_aload_n 0 dX10_assignedTo_5 rfl rfl ?_
    refine gN_getR (a + 1) flX10_7 (fun _ _ _ => rfl) 0 (hM.t) (hM.r0) dX10_assignedTo_6 ?_
    refine gN_iconst 0 dX10_assignedTo_9 (by decide) ?_
    refine gN_iald 689 (hM.t1) (by first | omega | exact b01_lt _) (by first | omega | exact b01_lt _) dX10_assignedTo_10 ?_
    refine g_ei (nI (nv (im m (a + 1) 0))) (h0.e) ?_
    refine gN_icmp_ge 58 dX10_assignedTo_11 (by decide) (by first | omega | exact b01_lt _) (by first | omega | exact b01_lt _) (fun h_11 => ?_) (fun h_11 => ?_)
    · exfalso; omega
    · refine g_iload_n 2 dX10_assignedTo_14 rfl rfl ?_
      refine g_join 50 (asF (im m (a + 1)) p k) ?_ (fun K_50 => ?_)
      · refine gN_iadd ((sm (asF (im m (a + 1)) p) k) + (asF (im m (a + 1)) p k)) dX10_assignedTo_50 rfl ?_
        refine g_istore_n 2 [(2, .int (nI ((sm (asF (im m (a + 1)) p) k) + (asF (im m (a + 1)) p k)))), (3, .int (nI (k))), (0, .ref (a)), (1, .int (p))] dX10_assignedTo_51 rfl (Nat.le_of_ble_eq_true rfl) rfl ?_
        refine g_iinc 3 (nI (k + 1)) 1 [(3, .int (nI (k + 1))), (2, .int (nI ((sm (asF (im m (a + 1)) p) k) + (asF (im m (a + 1)) p k)))), (0, .ref (a)), (1, .int (p))] dX10_assignedTo_52 rfl (nI_add k 1) (Nat.le_of_ble_eq_true rfl) rfl ?_
        refine g_goto 4 dX10_assignedTo_55 (by decide) ?_
        refine g_pick [0, 1, 2, 3] rfl ?_
        exact ih (k + 1) (by omega)
      · refine g_aload_n 0 dX10_assignedTo_15 rfl rfl ?_
        refine gN_getR (a + 1) flX10_7 (fun _ _ _ => rfl) 0 (hM.t) (hM.r0) dX10_assignedTo_16 ?_
        refine g_iload_n 3 dX10_assignedTo_19 rfl rfl ?_
        refine gd_callS _ _ _ _ (cn_X10_at g (0, 0) _ k) ⟨rfl, rfl⟩ (ok_X10_at _) mlX10_45 st_X10_at rfl ⟨Nat.le_of_ble_eq_true rfl, Nat.le_of_ble_eq_true rfl⟩ (by exact Nat.le_of_ble_eq_true rfl) ⟨Nat.zero_le _, Nat.zero_le _⟩ dX10_assignedTo_20 rfl ?_
        refine gN_iconst 1 dX10_assignedTo_23 (by decide) ?_
        refine gN_iadd ((79 + 22 * k) + 1) dX10_assignedTo_24 rfl ?_
        refine gN_iald 689 (hM.t1) (by first | omega | exact b01_lt _) (by first | omega | exact b01_lt _) dX10_assignedTo_25 ?_
        refine gN_iconst 1 dX10_assignedTo_26 (by decide) ?_
        refine g_icmp_ne 49 dX10_assignedTo_27 (by decide) (fun h_27 => ?_) (fun h_27 => ?_)
        · refine gN_iconst 0 dX10_assignedTo_49 (by decide) ?_
          exact g_ei (nI (asF (im m (a + 1)) p k)) (congrArg nI (show 0 = asF (im m (a + 1)) p k from by first | exact (b01_t ⟨h_27, h_42⟩).symm | exact (b01_f (fun q => h_42 q.2)).symm | exact (b01_f (fun q => h_27 q.1)).symm)) K_50
        · refine g_aload_n 0 dX10_assignedTo_30 rfl rfl ?_
          refine gN_getR (a + 1) flX10_7 (fun _ _ _ => rfl) 0 (hM.t) (hM.r0) dX10_assignedTo_31 ?_
          refine g_iload_n 3 dX10_assignedTo_34 rfl rfl ?_
          refine gd_callS _ _ _ _ (cn_X10_at g (0, 0) _ k) ⟨rfl, rfl⟩ (ok_X10_at _) mlX10_45 st_X10_at rfl ⟨Nat.le_of_ble_eq_true rfl, Nat.le_of_ble_eq_true rfl⟩ (by exact Nat.le_of_ble_eq_true rfl) ⟨Nat.zero_le _, Nat.zero_le _⟩ dX10_assignedTo_35 rfl ?_
          refine gN_iconst 2 dX10_assignedTo_38 (by decide) ?_
          refine gN_iadd ((79 + 22 * k) + 2) dX10_assignedTo_39 rfl ?_
          refine gN_iald 689 (hM.t1) (by first | omega | exact b01_lt _) (by first | omega | exact b01_lt _) dX10_assignedTo_40 ?_
          refine g_iload_n 1 dX10_assignedTo_41 rfl rfl ?_
          refine g_icmp_ne 49 dX10_assignedTo_42 (by decide) (fun h_42 => ?_) (fun h_42 => ?_)
          · refine gN_iconst 0 dX10_assignedTo_49 (by decide) ?_
            exact g_ei (nI (asF (im m (a + 1)) p k)) (congrArg nI (show 0 = asF (im m (a + 1)) p k from by first | exact (b01_t ⟨h_27, h_42⟩).symm | exact (b01_f (fun q => h_42 q.2)).symm | exact (b01_f (fun q => h_27 q.1)).symm)) K_50
          · refine gN_iconst 1 dX10_assignedTo_45 (by decide) ?_
            refine g_goto 50 dX10_assignedTo_46 (by decide) ?_
            exact g_ei (nI (asF (im m (a + 1)) p k)) (congrArg nI (show 1 = asF (im m (a + 1)) p k from by first | exact (b01_t ⟨h_27, h_42⟩).symm | exact (b01_f (fun q => h_42 q.2)).symm | exact (b01_f (fun q => h_27 q.1)).symm)) K_50
set_option maxRecDepth 100000 in
theorem cn_X10_assignedTo (g : Gp) (cs : Nat × Nat) {m : Mm} {a : Nat} (hM : MdOk m a) (h0 : NR (im m (a + 1) 0) 0 10) (p : Int32) : Dn g (MX10_assignedTo cs) [.ref (a), .int (p)] m (some (.int (nI (sm (asF (im m (a + 1)) p) (nv (im m (a + 1) 0)))))) (m) := by
  have h9 := h0.hi
  refine Cn.of pn_X10 (Nat.le_of_ble_eq_true rfl) rfl ?_
  refine gN_iconst 0 dX10_assignedTo_0 (by decide) ?_
  refine g_istore_n 2 [(2, .int (nI (0))), (0, .ref (a)), (1, .int (p))] dX10_assignedTo_1 rfl (Nat.le_of_ble_eq_true rfl) rfl ?_
  refine gN_iconst 0 dX10_assignedTo_2 (by decide) ?_
  refine g_istore_n 3 [(3, .int (nI (0))), (2, .int (nI (0))), (0, .ref (a)), (1, .int (p))] dX10_assignedTo_3 rfl (Nat.le_of_ble_eq_true rfl) rfl ?_
  refine g_pick [0, 1, 2, 3] rfl ?_
  exact lp_X10_assignedTo g cs hM h0 p _ 0 (Nat.zero_add _)
set_option maxRecDepth 100000 in
theorem lp_X10_proposals (g : Gp) (cs : Nat × Nat) {m : Mm} {a : Nat} (hM : MdOk m a) {t : Nat} (ht : t < 4) : ∀ d k : Nat, k + d = 8 → G g (MX10_proposals cs) (dQ (some (.int (nI (sm (prF (im m (a + 1)) t) 8)))) m) 4 [(3, .int (nI (k))), (2, .int (nI (sm (prF (im m (a + 1)) t) k))), (0, .ref (a)), (1, .int (nI (t)))] [] (0, 0) m := by
  intro d
  induction d with
  | zero =>
    intro k hk
    obtain rfl : k = 8 := hk
    refine g_iload_n 3 dX10_proposals_4 rfl rfl ?_
    refine gN_bipush 8 dX10_proposals_5 (by decide) ?_
    refine gN_icmp_ge 38 dX10_proposals_7 (by decide) (by first | omega | exact b01_lt _) (by first | omega | exact b01_lt _) (fun h_7 => ?_) (fun h_7 => ?_)
    · refine g_iload_n 2 dX10_proposals_38 rfl rfl ?_
      refine g_iret rfl dX10_proposals_39 ⟨Nat.zero_le _, Nat.zero_le _⟩ ?_
      exact ⟨rfl, rfl⟩
    · exact absurd h_7 (by decide)
  | succ d ih =>
    intro k hk
    refine g_iload_n 3 dX10_proposals_4 rfl rfl ?_
    refine gN_bipush 8 dX10_proposals_5 (by decide) ?_
    refine gN_icmp_ge 38 dX10_proposals_7 (by decide) (by first | omega | exact b01_lt _) (by first | omega | exact b01_lt _) (fun h_7 => ?_) (fun h_7 => ?_)
    · exfalso; omega
    · refine g_iload_n 2 dX10_proposals_10 rfl rfl ?_
      refine g_join 30 (prF (im m (a + 1)) t k) ?_ (fun K_30 => ?_)
      · refine gN_iadd ((sm (prF (im m (a + 1)) t) k) + (prF (im m (a + 1)) t k)) dX10_proposals_30 rfl ?_
        refine g_istore_n 2 [(2, .int (nI ((sm (prF (im m (a + 1)) t) k) + (prF (im m (a + 1)) t k)))), (3, .int (nI (k))), (0, .ref (a)), (1, .int (nI (t)))] dX10_proposals_31 rfl (Nat.le_of_ble_eq_true rfl) rfl ?_
        refine g_iinc 3 (nI (k + 1)) 1 [(3, .int (nI (k + 1))), (2, .int (nI ((sm (prF (im m (a + 1)) t) k) + (prF (im m (a + 1)) t k)))), (0, .ref (a)), (1, .int (nI (t)))] dX10_proposals_32 rfl (nI_add k 1) (Nat.le_of_ble_eq_true rfl) rfl ?_
        refine g_goto 4 dX10_proposals_35 (by decide) ?_
        refine g_pick [0, 1, 2, 3] rfl ?_
        exact ih (k + 1) (by omega)
      · refine g_aload_n 0 dX10_proposals_11 rfl rfl ?_
        refine gN_getR (a + 1) flX10_7 (fun _ _ _ => rfl) 0 (hM.t) (hM.r0) dX10_proposals_12 ?_
        refine g_iload_n 3 dX10_proposals_15 rfl rfl ?_
        refine g_iload_n 1 dX10_proposals_16 rfl rfl ?_
        refine gd_callS _ _ _ _ (cn_X10_proposal g (0, 0) _ k t) ⟨rfl, rfl⟩ (ok_X10_proposal _) mlX10_84 st_X10_proposal rfl ⟨Nat.le_of_ble_eq_true rfl, Nat.le_of_ble_eq_true rfl⟩ (by exact Nat.le_of_ble_eq_true rfl) ⟨Nat.zero_le _, Nat.zero_le _⟩ dX10_proposals_17 rfl ?_
        refine gN_iald 689 (hM.t1) (by first | omega | exact b01_lt _) (by first | omega | exact b01_lt _) dX10_proposals_20 ?_
        refine g_iconst (-1) dX10_proposals_21 (by decide) ?_
        refine g_icmp_eq 29 dX10_proposals_22 (by decide) (fun h_22 => ?_) (fun h_22 => ?_)
        · refine gN_iconst 0 dX10_proposals_29 (by decide) ?_
          exact g_ei (nI (prF (im m (a + 1)) t k)) (congrArg nI (show 0 = prF (im m (a + 1)) t k from by first | exact (b01_t h_22).symm | exact (b01_f (fun q => q h_22)).symm)) K_30
        · refine gN_iconst 1 dX10_proposals_25 (by decide) ?_
          refine g_goto 30 dX10_proposals_26 (by decide) ?_
          exact g_ei (nI (prF (im m (a + 1)) t k)) (congrArg nI (show 1 = prF (im m (a + 1)) t k from by first | exact (b01_t h_22).symm | exact (b01_f (fun q => q h_22)).symm)) K_30
set_option maxRecDepth 100000 in
theorem cn_X10_proposals (g : Gp) (cs : Nat × Nat) {m : Mm} {a : Nat} (hM : MdOk m a) {t : Nat} (ht : t < 4) : Dn g (MX10_proposals cs) [.ref (a), .int (nI (t))] m (some (.int (nI (sm (prF (im m (a + 1)) t) 8)))) (m) := by
  refine Cn.of pn_X10 (Nat.le_of_ble_eq_true rfl) rfl ?_
  refine gN_iconst 0 dX10_proposals_0 (by decide) ?_
  refine g_istore_n 2 [(2, .int (nI (0))), (0, .ref (a)), (1, .int (nI (t)))] dX10_proposals_1 rfl (Nat.le_of_ble_eq_true rfl) rfl ?_
  refine gN_iconst 0 dX10_proposals_2 (by decide) ?_
  refine g_istore_n 3 [(3, .int (nI (0))), (2, .int (nI (0))), (0, .ref (a)), (1, .int (nI (t)))] dX10_proposals_3 rfl (Nat.le_of_ble_eq_true rfl) rfl ?_
  refine g_pick [0, 1, 2, 3] rfl ?_
  exact lp_X10_proposals g cs hM ht _ 0 (Nat.zero_add _)
set_option maxRecDepth 100000 in
theorem lp_X10_ofTerms1 (g : Gp) (cs : Nat × Nat) {m : Mm} {a : Nat} (hM : MdOk m a) : ∀ d k : Nat, k + d = 8 → G g (MX10_ofTerms cs) (dQ (some (.int (nI (sm (rlF (im m (a + 1))) 8)))) m) 4 [(3, .int (nI k)), (2, .int (nI (sm (rlF (im m (a + 1))) k))), (0, .ref a), (1, .int (nI 1))] [] (0, 0) m := by
  intro d
  induction d with
  | zero =>
    intro k hk
    obtain rfl : k = 8 := hk
    refine g_iload_n 3 dX10_ofTerms_4 rfl rfl ?_
    refine gN_bipush 8 dX10_ofTerms_5 (by decide) ?_
    refine gN_icmp_ge 52 dX10_ofTerms_7 (by decide) (by first | omega | exact b01_lt _) (by first | omega | exact b01_lt _) (fun h_7 => ?_) (fun h_7 => ?_)
    · refine g_iload_n 2 dX10_ofTerms_52 rfl rfl ?_
      refine g_iret rfl dX10_ofTerms_53 ⟨Nat.zero_le _, Nat.zero_le _⟩ ?_
      exact ⟨rfl, rfl⟩
    · exact absurd h_7 (by decide)
  | succ d ih =>
    intro k hk
    refine g_iload_n 3 dX10_ofTerms_4 rfl rfl ?_
    refine gN_bipush 8 dX10_ofTerms_5 (by decide) ?_
    refine gN_icmp_ge 52 dX10_ofTerms_7 (by decide) (by first | omega | exact b01_lt _) (by first | omega | exact b01_lt _) (fun h_7 => ?_) (fun h_7 => ?_)
    · exfalso; omega
    · refine g_iload_n 2 dX10_ofTerms_10 rfl rfl ?_
      refine g_join 44 (rlF (im m (a + 1)) k) ?_ (fun K_44 => ?_)
      · refine gN_iadd ((sm (rlF (im m (a + 1))) k) + (rlF (im m (a + 1)) k)) dX10_ofTerms_44 rfl ?_
        refine g_istore_n 2 [(2, .int (nI ((sm (rlF (im m (a + 1))) k) + (rlF (im m (a + 1)) k)))), (3, .int (nI (k))), (0, .ref (a)), (1, .int (nI (1)))] dX10_ofTerms_45 rfl (Nat.le_of_ble_eq_true rfl) rfl ?_
        refine g_iinc 3 (nI (k + 1)) 1 [(3, .int (nI (k + 1))), (2, .int (nI ((sm (rlF (im m (a + 1))) k) + (rlF (im m (a + 1)) k)))), (0, .ref (a)), (1, .int (nI (1)))] dX10_ofTerms_46 rfl (nI_add k 1) (Nat.le_of_ble_eq_true rfl) rfl ?_
        refine g_goto 4 dX10_ofTerms_49 (by decide) ?_
        refine g_pick [0, 1, 2, 3] rfl ?_
        exact ih (k + 1) (by omega)
      · refine g_iload_n 1 dX10_ofTerms_11 rfl rfl ?_
        refine gN_if_eq 31 dX10_ofTerms_12 (by decide) (by first | omega | exact b01_lt _) (fun h_12 => ?_) (fun h_12 => ?_)
        · exact absurd h_12 (by decide)
        · refine g_aload_n 0 dX10_ofTerms_15 rfl rfl ?_
          refine gN_getR (a + 1) flX10_7 (fun _ _ _ => rfl) 0 (hM.t) (hM.r0) dX10_ofTerms_16 ?_
          refine gN_bipush 56 dX10_ofTerms_19 (by decide) ?_
          refine g_iload_n 3 dX10_ofTerms_21 rfl rfl ?_
          refine gN_iadd (56 + k) dX10_ofTerms_22 rfl ?_
          refine gN_iald 689 (hM.t1) (by first | omega | exact b01_lt _) (by first | omega | exact b01_lt _) dX10_ofTerms_23 ?_
          refine g_iconst (-1) dX10_ofTerms_24 (by decide) ?_
          refine g_icmp_eq 43 dX10_ofTerms_25 (by decide) (fun h_25 => ?_) (fun h_25 => ?_)
          · refine gN_iconst 0 dX10_ofTerms_43 (by decide) ?_
            exact g_ei (nI (rlF (im m (a + 1)) k)) (congrArg nI (show 0 = rlF (im m (a + 1)) k from by first | exact (b01_t h_25).symm | exact (b01_f (fun q => q h_25)).symm)) K_44
          · refine g_goto 39 dX10_ofTerms_28 (by decide) ?_
            refine gN_iconst 1 dX10_ofTerms_39 (by decide) ?_
            refine g_goto 44 dX10_ofTerms_40 (by decide) ?_
            exact g_ei (nI (rlF (im m (a + 1)) k)) (congrArg nI (show 1 = rlF (im m (a + 1)) k from by first | exact (b01_t h_25).symm | exact (b01_f (fun q => q h_25)).symm)) K_44
set_option maxRecDepth 100000 in
theorem cn_X10_ofTerms1 (g : Gp) (cs : Nat × Nat) {m : Mm} {a : Nat} (hM : MdOk m a) : Dn g (MX10_ofTerms cs) [.ref (a), .int (nI (1))] m (some (.int (nI (sm (rlF (im m (a + 1))) 8)))) (m) := by
  refine Cn.of pn_X10 (Nat.le_of_ble_eq_true rfl) rfl ?_
  refine gN_iconst 0 dX10_ofTerms_0 (by decide) ?_
  refine g_istore_n 2 [(2, .int (nI (0))), (0, .ref (a)), (1, .int (nI (1)))] dX10_ofTerms_1 rfl (Nat.le_of_ble_eq_true rfl) rfl ?_
  refine gN_iconst 0 dX10_ofTerms_2 (by decide) ?_
  refine g_istore_n 3 [(3, .int (nI (0))), (2, .int (nI (0))), (0, .ref (a)), (1, .int (nI (1)))] dX10_ofTerms_3 rfl (Nat.le_of_ble_eq_true rfl) rfl ?_
  refine g_pick [0, 1, 2, 3] rfl ?_
  exact lp_X10_ofTerms1 g cs hM 8 0 rfl
set_option maxRecDepth 100000 in
theorem lp_X10_ofTerms0 (g : Gp) (cs : Nat × Nat) {m : Mm} {a : Nat} (hM : MdOk m a) : ∀ d k : Nat, k + d = 8 → G g (MX10_ofTerms cs) (dQ (some (.int (nI (sm (dsF (im m (a + 1))) 8)))) m) 4 [(3, .int (nI k)), (2, .int (nI (sm (dsF (im m (a + 1))) k))), (0, .ref a), (1, .int (nI 0))] [] (0, 0) m := by
  intro d
  induction d with
  | zero =>
    intro k hk
    obtain rfl : k = 8 := hk
    refine g_iload_n 3 dX10_ofTerms_4 rfl rfl ?_
    refine gN_bipush 8 dX10_ofTerms_5 (by decide) ?_
    refine gN_icmp_ge 52 dX10_ofTerms_7 (by decide) (by first | omega | exact b01_lt _) (by first | omega | exact b01_lt _) (fun h_7 => ?_) (fun h_7 => ?_)
    · refine g_iload_n 2 dX10_ofTerms_52 rfl rfl ?_
      refine g_iret rfl dX10_ofTerms_53 ⟨Nat.zero_le _, Nat.zero_le _⟩ ?_
      exact ⟨rfl, rfl⟩
    · exact absurd h_7 (by decide)
  | succ d ih =>
    intro k hk
    refine g_iload_n 3 dX10_ofTerms_4 rfl rfl ?_
    refine gN_bipush 8 dX10_ofTerms_5 (by decide) ?_
    refine gN_icmp_ge 52 dX10_ofTerms_7 (by decide) (by first | omega | exact b01_lt _) (by first | omega | exact b01_lt _) (fun h_7 => ?_) (fun h_7 => ?_)
    · exfalso; omega
    · refine g_iload_n 2 dX10_ofTerms_10 rfl rfl ?_
      refine g_join 44 (dsF (im m (a + 1)) k) ?_ (fun K_44 => ?_)
      · refine gN_iadd ((sm (dsF (im m (a + 1))) k) + (dsF (im m (a + 1)) k)) dX10_ofTerms_44 rfl ?_
        refine g_istore_n 2 [(2, .int (nI ((sm (dsF (im m (a + 1))) k) + (dsF (im m (a + 1)) k)))), (3, .int (nI (k))), (0, .ref (a)), (1, .int (nI (0)))] dX10_ofTerms_45 rfl (Nat.le_of_ble_eq_true rfl) rfl ?_
        refine g_iinc 3 (nI (k + 1)) 1 [(3, .int (nI (k + 1))), (2, .int (nI ((sm (dsF (im m (a + 1))) k) + (dsF (im m (a + 1)) k)))), (0, .ref (a)), (1, .int (nI (0)))] dX10_ofTerms_46 rfl (nI_add k 1) (Nat.le_of_ble_eq_true rfl) rfl ?_
        refine g_goto 4 dX10_ofTerms_49 (by decide) ?_
        refine g_pick [0, 1, 2, 3] rfl ?_
        exact ih (k + 1) (by omega)
      · refine g_iload_n 1 dX10_ofTerms_11 rfl rfl ?_
        refine gN_if_eq 31 dX10_ofTerms_12 (by decide) (by first | omega | exact b01_lt _) (fun h_12 => ?_) (fun h_12 => ?_)
        · refine g_aload_n 0 dX10_ofTerms_31 rfl rfl ?_
          refine g_iload_n 3 dX10_ofTerms_32 rfl rfl ?_
          refine gd_callV _ _ _ _ (cn_X10_isDisputed g (0, 0) hM (w := k) (by omega)) ⟨rfl, rfl⟩ (ok_X10_isDisputed _) mlX10_88 in_X10_isDisputed se_X10_isDisputed 10 0 (hM.t) rfl rfl rfl ⟨Nat.le_of_ble_eq_true rfl, Nat.le_of_ble_eq_true rfl⟩ (by exact Nat.le_of_ble_eq_true rfl) ⟨Nat.zero_le _, Nat.zero_le _⟩ dX10_ofTerms_33 rfl ?_
          refine gN_if_eq 43 dX10_ofTerms_36 (by decide) (by first | omega | exact b01_lt _) (fun h_36 => ?_) (fun h_36 => ?_)
          · refine gN_iconst 0 dX10_ofTerms_43 (by decide) ?_
            exact g_ei (nI (dsF (im m (a + 1)) k)) (congrArg nI (show 0 = dsF (im m (a + 1)) k from by first | (show 1 = b01 (dsp (im m (a + 1)) k); have := b01_le (dsp (im m (a + 1)) k); omega) | (show 0 = b01 (dsp (im m (a + 1)) k); omega))) K_44
          · refine gN_iconst 1 dX10_ofTerms_39 (by decide) ?_
            refine g_goto 44 dX10_ofTerms_40 (by decide) ?_
            exact g_ei (nI (dsF (im m (a + 1)) k)) (congrArg nI (show 1 = dsF (im m (a + 1)) k from by first | (show 1 = b01 (dsp (im m (a + 1)) k); have := b01_le (dsp (im m (a + 1)) k); omega) | (show 0 = b01 (dsp (im m (a + 1)) k); omega))) K_44
        · exact absurd h_12 (by decide)
set_option maxRecDepth 100000 in
theorem cn_X10_ofTerms0 (g : Gp) (cs : Nat × Nat) {m : Mm} {a : Nat} (hM : MdOk m a) : Dn g (MX10_ofTerms cs) [.ref (a), .int (nI (0))] m (some (.int (nI (sm (dsF (im m (a + 1))) 8)))) (m) := by
  refine Cn.of pn_X10 (Nat.le_of_ble_eq_true rfl) rfl ?_
  refine gN_iconst 0 dX10_ofTerms_0 (by decide) ?_
  refine g_istore_n 2 [(2, .int (nI (0))), (0, .ref (a)), (1, .int (nI (0)))] dX10_ofTerms_1 rfl (Nat.le_of_ble_eq_true rfl) rfl ?_
  refine gN_iconst 0 dX10_ofTerms_2 (by decide) ?_
  refine g_istore_n 3 [(3, .int (nI (0))), (2, .int (nI (0))), (0, .ref (a)), (1, .int (nI (0)))] dX10_ofTerms_3 rfl (Nat.le_of_ble_eq_true rfl) rfl ?_
  refine g_pick [0, 1, 2, 3] rfl ?_
  exact lp_X10_ofTerms0 g cs hM 8 0 rfl
set_option maxRecDepth 100000 in
theorem lp_X10_oftenB (g : Gp) (cs : Nat × Nat) {m : Mm} {a : Nat} (hM : MdOk m a) {s c : Nat} (hs : s < 10) (hl : NR (im m (a + 1) (79 + 22 * s)) 1 12) (x : Int32) {Q : Rs → Mm → Prop} (K : ∀ j, G g (MX10_often cs) Q 64 [(4, .int j), (2, .int (nI (c + sm (fun e => b01 (im m (a + 1) (79 + 22 * s + 10 + e) = x)) (nv (im m (a + 1) (79 + 22 * s)))))), (3, .int (nI s)), (0, .ref a), (1, .int x)] [] (0, 0) m) : ∀ d k : Nat, k + d = nv (im m (a + 1) (79 + 22 * s)) → G g (MX10_often cs) Q 17 [(4, .int (nI k)), (2, .int (nI (c + sm (fun e => b01 (im m (a + 1) (79 + 22 * s + 10 + e) = x)) k))), (3, .int (nI s)), (0, .ref a), (1, .int x)] [] (0, 0) m := by
  have h9 := hl.hi
  intro d
  induction d with
  | zero =>
    intro k hk
    obtain rfl : k = nv (im m (a + 1) (79 + 22 * s)) := hk
    refine g_iload 4 dX10_often_17 rfl ?_
    refine g_aload_n 0 dX10_often_19 rfl rfl ?_
    refine gN_getR (a + 1) flX10_7 (fun _ _ _ => rfl) 0 (hM.t) (hM.r0) dX10_often_20 ?_
    refine g_iload_n 3 dX10_often_23 rfl rfl ?_
    refine gd_callS _ _ _ _ (cn_X10_at g (0, 0) _ s) ⟨rfl, rfl⟩ (ok_X10_at _) mlX10_45 st_X10_at rfl ⟨Nat.le_of_ble_eq_true rfl, Nat.le_of_ble_eq_true rfl⟩ (by exact Nat.le_of_ble_eq_true rfl) ⟨Nat.zero_le _, Nat.zero_le _⟩ dX10_often_24 rfl ?_
    refine gN_iald 689 (hM.t1) (by first | omega | exact b01_lt _) (by first | omega | exact b01_lt _) dX10_often_27 ?_
    refine g_ei (nI (nv (im m (a + 1) (79 + 22 * s)))) (hl.e) ?_
    refine gN_icmp_ge 64 dX10_often_28 (by decide) (by first | omega | exact b01_lt _) (by first | omega | exact b01_lt _) (fun h_28 => ?_) (fun h_28 => ?_)
    · exact K _
    · exfalso; omega
  | succ d ih =>
    intro k hk
    refine g_iload 4 dX10_often_17 rfl ?_
    refine g_aload_n 0 dX10_often_19 rfl rfl ?_
    refine gN_getR (a + 1) flX10_7 (fun _ _ _ => rfl) 0 (hM.t) (hM.r0) dX10_often_20 ?_
    refine g_iload_n 3 dX10_often_23 rfl rfl ?_
    refine gd_callS _ _ _ _ (cn_X10_at g (0, 0) _ s) ⟨rfl, rfl⟩ (ok_X10_at _) mlX10_45 st_X10_at rfl ⟨Nat.le_of_ble_eq_true rfl, Nat.le_of_ble_eq_true rfl⟩ (by exact Nat.le_of_ble_eq_true rfl) ⟨Nat.zero_le _, Nat.zero_le _⟩ dX10_often_24 rfl ?_
    refine gN_iald 689 (hM.t1) (by first | omega | exact b01_lt _) (by first | omega | exact b01_lt _) dX10_often_27 ?_
    refine g_ei (nI (nv (im m (a + 1) (79 + 22 * s)))) (hl.e) ?_
    refine gN_icmp_ge 64 dX10_often_28 (by decide) (by first | omega | exact b01_lt _) (by first | omega | exact b01_lt _) (fun h_28 => ?_) (fun h_28 => ?_)
    · exfalso; omega
    · refine g_iload_n 2 dX10_often_31 rfl rfl ?_
      refine g_join 56 (b01 (im m (a + 1) (79 + 22 * s + 10 + k) = x)) ?_ (fun K_56 => ?_)
      · refine gN_iadd ((c + sm (fun e => b01 (im m (a + 1) (79 + 22 * s + 10 + e) = x)) k) + (b01 (im m (a + 1) (79 + 22 * s + 10 + k) = x))) dX10_often_56 rfl ?_
        refine g_istore_n 2 [(2, .int (nI ((c + sm (fun e => b01 (im m (a + 1) (79 + 22 * s + 10 + e) = x)) k) + (b01 (im m (a + 1) (79 + 22 * s + 10 + k) = x))))), (4, .int (nI (k))), (3, .int (nI (s))), (0, .ref (a)), (1, .int (x))] dX10_often_57 rfl (Nat.le_of_ble_eq_true rfl) rfl ?_
        refine g_iinc 4 (nI (k + 1)) 1 [(4, .int (nI (k + 1))), (2, .int (nI ((c + sm (fun e => b01 (im m (a + 1) (79 + 22 * s + 10 + e) = x)) k) + (b01 (im m (a + 1) (79 + 22 * s + 10 + k) = x))))), (3, .int (nI (s))), (0, .ref (a)), (1, .int (x))] dX10_often_58 rfl (nI_add k 1) (Nat.le_of_ble_eq_true rfl) rfl ?_
        refine g_goto 17 dX10_often_61 (by decide) ?_
        refine g_pick [0, 1, 2, 3, 4] rfl ?_
        have K9 := ih (k + 1) (by omega)
        rw [show c + sm (fun e => b01 (im m (a + 1) (79 + 22 * s + 10 + e) = x)) (k + 1) = c + sm (fun e => b01 (im m (a + 1) (79 + 22 * s + 10 + e) = x)) k + b01 (im m (a + 1) (79 + 22 * s + 10 + k) = x) from (Nat.add_assoc _ _ _).symm] at K9
        exact K9
      · refine g_aload_n 0 dX10_often_32 rfl rfl ?_
        refine gN_getR (a + 1) flX10_7 (fun _ _ _ => rfl) 0 (hM.t) (hM.r0) dX10_often_33 ?_
        refine g_iload_n 3 dX10_often_36 rfl rfl ?_
        refine gd_callS _ _ _ _ (cn_X10_at g (0, 0) _ s) ⟨rfl, rfl⟩ (ok_X10_at _) mlX10_45 st_X10_at rfl ⟨Nat.le_of_ble_eq_true rfl, Nat.le_of_ble_eq_true rfl⟩ (by exact Nat.le_of_ble_eq_true rfl) ⟨Nat.zero_le _, Nat.zero_le _⟩ dX10_often_37 rfl ?_
        refine gN_bipush 10 dX10_often_40 (by decide) ?_
        refine gN_iadd ((79 + 22 * s) + 10) dX10_often_42 rfl ?_
        refine g_iload 4 dX10_often_43 rfl ?_
        refine gN_iadd (((79 + 22 * s) + 10) + k) dX10_often_45 rfl ?_
        refine gN_iald 689 (hM.t1) (by first | omega | exact b01_lt _) (by first | omega | exact b01_lt _) dX10_often_46 ?_
        refine g_iload_n 1 dX10_often_47 rfl rfl ?_
        refine g_icmp_ne 55 dX10_often_48 (by decide) (fun h_48 => ?_) (fun h_48 => ?_)
        · refine gN_iconst 0 dX10_often_55 (by decide) ?_
          exact g_ei (nI (b01 (im m (a + 1) (79 + 22 * s + 10 + k) = x))) (congrArg nI (show 0 = b01 (im m (a + 1) (79 + 22 * s + 10 + k) = x) from by first | exact (b01_t h_48).symm | exact (b01_f h_48).symm)) K_56
        · refine gN_iconst 1 dX10_often_51 (by decide) ?_
          refine g_goto 56 dX10_often_52 (by decide) ?_
          exact g_ei (nI (b01 (im m (a + 1) (79 + 22 * s + 10 + k) = x))) (congrArg nI (show 1 = b01 (im m (a + 1) (79 + 22 * s + 10 + k) = x) from by first | exact (b01_t h_48).symm | exact (b01_f h_48).symm)) K_56
set_option maxRecDepth 100000 in
theorem lp_X10_often (g : Gp) (cs : Nat × Nat) {m : Mm} {a : Nat} (hM : MdOk m a) (h0 : NR (im m (a + 1) 0) 0 10) (hl : ∀ s, s < nv (im m (a + 1) 0) → NR (im m (a + 1) (79 + 22 * s)) 1 12) (x : Int32) : ∀ d k : Nat, k + d = nv (im m (a + 1) 0) → G g (MX10_often cs) (dQ (some (.int (nI (sm (ofF (im m (a + 1)) x) (nv (im m (a + 1) 0)))))) m) 4 [(3, .int (nI k)), (2, .int (nI (sm (ofF (im m (a + 1)) x) k))), (0, .ref a), (1, .int x)] [] (0, 0) m := by
  have h9 := h0.hi
  intro d
  induction d with
  | zero =>
    intro k hk
    obtain rfl : k = nv (im m (a + 1) 0) := hk
    refine g_iload_n 3 dX10_often_4 rfl rfl ?_
    refine g_aload_n 0 dX10_often_5 rfl rfl ?_
    refine gN_getR (a + 1) flX10_7 (fun _ _ _ => rfl) 0 (hM.t) (hM.r0) dX10_often_6 ?_
    refine gN_iconst 0 dX10_often_9 (by decide) ?_
    refine gN_iald 689 (hM.t1) (by first | omega | exact b01_lt _) (by first | omega | exact b01_lt _) dX10_often_10 ?_
    refine g_ei (nI (nv (im m (a + 1) 0))) (h0.e) ?_
    refine gN_icmp_ge 70 dX10_often_11 (by decide) (by first | omega | exact b01_lt _) (by first | omega | exact b01_lt _) (fun h_11 => ?_) (fun h_11 => ?_)
    · refine g_iload_n 2 dX10_often_70 rfl rfl ?_
      refine g_iret rfl dX10_often_71 ⟨Nat.zero_le _, Nat.zero_le _⟩ ?_
      exact ⟨rfl, rfl⟩
    · exfalso; omega
  | succ d ih =>
    intro k hk
    refine g_iload_n 3 dX10_often_4 rfl rfl ?_
    refine g_aload_n 0 dX10_often_5 rfl rfl ?_
    refine gN_getR (a + 1) flX10_7 (fun _ _ _ => rfl) 0 (hM.t) (hM.r0) dX10_often_6 ?_
    refine gN_iconst 0 dX10_often_9 (by decide) ?_
    refine gN_iald 689 (hM.t1) (by first | omega | exact b01_lt _) (by first | omega | exact b01_lt _) dX10_often_10 ?_
    refine g_ei (nI (nv (im m (a + 1) 0))) (h0.e) ?_
    refine gN_icmp_ge 70 dX10_often_11 (by decide) (by first | omega | exact b01_lt _) (by first | omega | exact b01_lt _) (fun h_11 => ?_) (fun h_11 => ?_)
    · exfalso; omega
    · refine gN_iconst 0 dX10_often_14 (by decide) ?_
      refine g_istore 4 [(4, .int (nI (0))), (3, .int (nI (k))), (2, .int (nI (sm (ofF (im m (a + 1)) x) k))), (0, .ref (a)), (1, .int (x))] dX10_often_15 (Nat.le_of_ble_eq_true rfl) rfl ?_
      refine g_pick [0, 2, 1, 3, 4] rfl ?_
      refine lp_X10_oftenB g cs hM (s := k) (c := sm (ofF (im m (a + 1)) x) k) (by omega) (hl k (by omega)) x (fun j => ?_) _ 0 (Nat.zero_add _)
      refine g_iinc 3 (nI (k + 1)) 2 [(3, .int (nI (k + 1))), (4, .int j), (2, .int (nI (sm (ofF (im m (a + 1)) x) (k + 1)))), (0, .ref a), (1, .int x)] dX10_often_64 rfl (nI_add k 1) (Nat.le_of_ble_eq_true rfl) rfl ?_
      refine g_goto 4 dX10_often_67 (by decide) ?_
      refine g_pick [0, 2, 3, 4] rfl ?_
      exact ih (k + 1) (by omega)
set_option maxRecDepth 100000 in
theorem cn_X10_often (g : Gp) (cs : Nat × Nat) {m : Mm} {a : Nat} (hM : MdOk m a) (h0 : NR (im m (a + 1) 0) 0 10) (hl : ∀ s, s < nv (im m (a + 1) 0) → NR (im m (a + 1) (79 + 22 * s)) 1 12) (x : Int32) : Dn g (MX10_often cs) [.ref (a), .int (x)] m (some (.int (nI (sm (ofF (im m (a + 1)) x) (nv (im m (a + 1) 0)))))) (m) := by
  refine Cn.of pn_X10 (Nat.le_of_ble_eq_true rfl) rfl ?_
  refine gN_iconst 0 dX10_often_0 (by decide) ?_
  refine g_istore_n 2 [(2, .int (nI (0))), (0, .ref (a)), (1, .int (x))] dX10_often_1 rfl (Nat.le_of_ble_eq_true rfl) rfl ?_
  refine gN_iconst 0 dX10_often_2 (by decide) ?_
  refine g_istore_n 3 [(3, .int (nI (0))), (2, .int (nI (0))), (0, .ref (a)), (1, .int (x))] dX10_often_3 rfl (Nat.le_of_ble_eq_true rfl) rfl ?_
  refine g_pick [0, 1, 2, 3] rfl ?_
  exact lp_X10_often g cs hM h0 hl x _ 0 (Nat.zero_add _)
