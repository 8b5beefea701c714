set_option maxRecDepth 100000 in
theorem cn_X10_thrown (g : Gp) (cs : Nat × Nat) {m : Mm} {a : Nat} (hM : MdOk m a) : Dn g (MX10_thrown cs) [.ref (a)] m (some (.int (im m a 6))) (m) := by
  refine Cn.of pn_X10 (Nat.le_of_ble_eq_true rfl) rfl ?_
  refine g_aload_n 0 dX10_thrown_0 rfl rfl ?_
  refine gN_getI flX10_34 rfl 0 (hM.t) dX10_thrown_1 ?_
  refine g_iret rfl dX10_thrown_4 ⟨Nat.zero_le _, Nat.zero_le _⟩ ?_
  exact ⟨rfl, rfl⟩
set_option maxRecDepth 100000 in
theorem cn_X10_fails (g : Gp) (cs : Nat × Nat) {m : Mm} {a : Nat} (hM : MdOk m a) (p : Int32) : Dn g (MX10_fails cs) [.ref (a), .int (p)] m (some (.int (nI 0))) (sI m a 6 p) := by
  refine Cn.of pn_X10 (Nat.le_of_ble_eq_true rfl) rfl ?_
  refine g_aload_n 0 dX10_fails_0 rfl rfl ?_
  refine g_iload_n 1 dX10_fails_1 rfl rfl ?_
  refine gN_putI fwX10_34 rfl 0 (hM.t) dX10_fails_2 ?_
  refine gN_iconst 0 dX10_fails_5 (by decide) ?_
  refine g_iret rfl dX10_fails_6 ⟨Nat.zero_le _, Nat.zero_le _⟩ ?_
  exact ⟨rfl, rfl⟩
set_option maxRecDepth 100000 in
theorem cn_X10_isSegment (g : Gp) (cs : Nat × Nat) {m : Mm} {a : Nat} (hM : MdOk m a) {N : Nat} (hN : im m (a + 1) 0 = nI N) (hN1 : N < 2147483648) (x : Int32) : Dn g (MX10_isSegment cs) [.ref (a), .int (x)] m (some (.int (nI (b01 (inb x N))))) (m) := by
  refine Cn.of pn_X10 (Nat.le_of_ble_eq_true rfl) rfl ?_
  refine g_iload_n 1 dX10_isSegment_0 rfl rfl ?_
  refine gN_iconst 0 dX10_isSegment_1 (by decide) ?_
  refine g_aload_n 0 dX10_isSegment_2 rfl rfl ?_
  refine gN_getR (a + 1) flX10_7 (fun _ _ _ => rfl) 0 (hM.t) (hM.r0) dX10_isSegment_3 ?_
  refine gN_iconst 0 dX10_isSegment_6 (by decide) ?_
  refine gN_iald 689 (hM.t1) (by omega) (by omega) dX10_isSegment_7 ?_
  refine g_ei (nI (N)) (hN) ?_
  refine gN_iconst 1 dX10_isSegment_8 (by decide) ?_
  refine g_isub dX10_isSegment_9 ?_
  refine gd_callS _ _ _ _ (cn_X10_in g (0, 0) _ (x) (nI (0)) (nI (N) - nI (1))) ⟨rfl, rfl⟩ (ok_X10_in _) mlX10_41 st_X10_in rfl ⟨Nat.le_of_ble_eq_true rfl, Nat.le_of_ble_eq_true rfl⟩ (by exact Nat.le_of_ble_eq_true rfl) ⟨Nat.zero_le _, Nat.zero_le _⟩ dX10_isSegment_10 rfl ?_
  refine g_zret rfl (by first | rfl | exact nar_b01 _) dX10_isSegment_13 ⟨Nat.zero_le _, Nat.zero_le _⟩ ?_
  exact ⟨by rw [b01_c (seg_in hN1)], rfl⟩
set_option maxRecDepth 100000 in
theorem cn_X10_isPerson (g : Gp) (cs : Nat × Nat) {m : Mm} (x : Int32) : Dn g (MX10_isPerson cs) [.int (x)] m (some (.int (nI (b01 (inb x 4))))) (m) := by
  refine Cn.of pn_X10 (Nat.le_of_ble_eq_true rfl) rfl ?_
  refine g_iload_n 0 dX10_isPerson_0 rfl rfl ?_
  refine gN_iconst 0 dX10_isPerson_1 (by decide) ?_
  refine gN_iconst 3 dX10_isPerson_2 (by decide) ?_
  refine gd_callS _ _ _ _ (cn_X10_in g (0, 0) _ (x) (nI (0)) (nI (3))) ⟨rfl, rfl⟩ (ok_X10_in _) mlX10_41 st_X10_in rfl ⟨Nat.le_of_ble_eq_true rfl, Nat.le_of_ble_eq_true rfl⟩ (by exact Nat.le_of_ble_eq_true rfl) ⟨Nat.zero_le _, Nat.zero_le _⟩ dX10_isPerson_3 rfl ?_
  refine g_zret rfl (by first | rfl | exact nar_b01 _) dX10_isPerson_6 ⟨Nat.zero_le _, Nat.zero_le _⟩ ?_
  exact ⟨by rw [b01_c (in_inb (n := 3) (by decide))], rfl⟩
set_option maxRecDepth 100000 in
theorem cn_X10_isWord (g : Gp) (cs : Nat × Nat) {m : Mm} (x : Int32) : Dn g (MX10_isWord cs) [.int (x)] m (some (.int (nI (b01 (inb x 8))))) (m) := by
  refine Cn.of pn_X10 (Nat.le_of_ble_eq_true rfl) rfl ?_
  refine g_iload_n 0 dX10_isWord_0 rfl rfl ?_
  refine gN_iconst 0 dX10_isWord_1 (by decide) ?_
  refine gN_bipush 7 dX10_isWord_2 (by decide) ?_
  refine gd_callS _ _ _ _ (cn_X10_in g (0, 0) _ (x) (nI (0)) (nI (7))) ⟨rfl, rfl⟩ (ok_X10_in _) mlX10_41 st_X10_in rfl ⟨Nat.le_of_ble_eq_true rfl, Nat.le_of_ble_eq_true rfl⟩ (by exact Nat.le_of_ble_eq_true rfl) ⟨Nat.zero_le _, Nat.zero_le _⟩ dX10_isWord_4 rfl ?_
  refine g_zret rfl (by first | rfl | exact nar_b01 _) dX10_isWord_7 ⟨Nat.zero_le _, Nat.zero_le _⟩ ?_
  exact ⟨by rw [b01_c (in_inb (n := 7) (by decide))], rfl⟩
set_option maxRecDepth 100000 in
theorem cn_X10_isBand (g : Gp) (cs : Nat × Nat) {m : Mm} (x : Int32) : Dn g (MX10_isBand cs) [.int (x)] m (some (.int (nI (b01 (inb x 5))))) (m) := by
  refine Cn.of pn_X10 (Nat.le_of_ble_eq_true rfl) rfl ?_
  refine g_iload_n 0 dX10_isBand_0 rfl rfl ?_
  refine gN_iconst 0 dX10_isBand_1 (by decide) ?_
  refine gN_iconst 4 dX10_isBand_2 (by decide) ?_
  refine gd_callS _ _ _ _ (cn_X10_in g (0, 0) _ (x) (nI (0)) (nI (4))) ⟨rfl, rfl⟩ (ok_X10_in _) mlX10_41 st_X10_in rfl ⟨Nat.le_of_ble_eq_true rfl, Nat.le_of_ble_eq_true rfl⟩ (by exact Nat.le_of_ble_eq_true rfl) ⟨Nat.zero_le _, Nat.zero_le _⟩ dX10_isBand_3 rfl ?_
  refine g_zret rfl (by first | rfl | exact nar_b01 _) dX10_isBand_6 ⟨Nat.zero_le _, Nat.zero_le _⟩ ?_
  exact ⟨by rw [b01_c (in_inb (n := 4) (by decide))], rfl⟩
set_option maxRecDepth 100000 in
theorem lp_X10_layOne (g : Gp) (cs : Nat × Nat) {m : Mm} {a : Nat} (hM : MdOk m a) {s n : Nat} (hs : s < 10) (hn : im m (a + 1) (79 + 22 * s) = nI n) (hn2 : n ≤ 12) {Q : Rs → Mm → Prop} (K : G g (MX10_layOne cs) Q 49 [(2, .int (nI (n))), (0, .ref (a)), (1, .int (nI (s)))] [] (0, 0) (wI m (cpI (u2 (im m) a 9 (nI n)) (a + 5) (0) (n) (fun j => im m (a + 1) (79 + 22 * s + 10 + j))))) :
    ∀ d j : Nat, j + d = n → G g (MX10_layOne cs) Q 15 [(2, .int (nI (j))), (0, .ref (a)), (1, .int (nI (s)))] [] (0, 0) (wI m (cpI (u2 (im m) a 9 (nI n)) (a + 5) (0) j (fun j => im m (a + 1) (79 + 22 * s + 10 + j)))) := by
  have h9 : ∀ j, im (wI m (cpI (u2 (im m) a 9 (nI n)) (a + 5) 0 j (fun j => im m (a + 1) (79 + 22 * s + 10 + j)))) a 9 = nI n := fun j => by rw [im_wI, cpI_ne _ _ _ _ _ (by omega), u2_s]
  have hz : ∀ j, im (wI m (cpI (u2 (im m) a 9 (nI n)) (a + 5) 0 j (fun j => im m (a + 1) (79 + 22 * s + 10 + j)))) (a + 1) = im m (a + 1) := fun j => by rw [im_wI, cpI_ne _ _ _ _ _ (by omega), u2_o _ _ _ _ (by omega)]
  intro d
  induction d with
  | zero =>
    intro j hj
    obtain rfl : n = j := by omega
    refine g_iload_n 2 dX10_layOne_15 rfl rfl ?_
    refine g_aload_n 0 dX10_layOne_16 rfl rfl ?_
    refine gN_getI flX10_49 rfl 0 (hM.t) dX10_layOne_17 ?_
    refine g_ei (nI (n)) (h9 _) ?_
    refine gN_icmp_ge 49 dX10_layOne_20 (by decide) (by omega) (by omega) (fun h_20 => ?_) (fun h_20 => ?_)
    · exact K
    · exfalso; omega
  | succ d ih =>
    intro j hj
    refine g_iload_n 2 dX10_layOne_15 rfl rfl ?_
    refine g_aload_n 0 dX10_layOne_16 rfl rfl ?_
    refine gN_getI flX10_49 rfl 0 (hM.t) dX10_layOne_17 ?_
    refine g_ei (nI (n)) (h9 _) ?_
    refine gN_icmp_ge 49 dX10_layOne_20 (by decide) (by omega) (by omega) (fun h_20 => ?_) (fun h_20 => ?_)
    · exfalso; omega
    · refine g_aload_n 0 dX10_layOne_23 rfl rfl ?_
      refine gN_getR (a + 5) flX10_22 (fun _ _ _ => rfl) 0 (hM.t) (hM.r7) dX10_layOne_24 ?_
      refine g_iload_n 2 dX10_layOne_27 rfl rfl ?_
      refine g_aload_n 0 dX10_layOne_28 rfl rfl ?_
      refine gN_getR (a + 1) flX10_7 (fun _ _ _ => rfl) 0 (hM.t) (hM.r0) dX10_layOne_29 ?_
      refine g_iload_n 1 dX10_layOne_32 rfl rfl ?_
      refine gd_callS _ _ _ _ (cn_X10_at g (0, 0) _ s) ⟨rfl, rfl⟩ (ok_X10_at _) mlX10_45 st_X10_at rfl ⟨Nat.le_of_ble_eq_true rfl, Nat.le_of_ble_eq_true rfl⟩ (by exact Nat.le_of_ble_eq_true rfl) ⟨Nat.zero_le _, Nat.zero_le _⟩ dX10_layOne_33 rfl ?_
      refine gN_bipush 10 dX10_layOne_36 (by decide) ?_
      refine gN_iadd ((79 + 22 * s) + 10) dX10_layOne_38 rfl ?_
      refine g_iload_n 2 dX10_layOne_39 rfl rfl ?_
      refine gN_iadd (((79 + 22 * s) + 10) + j) dX10_layOne_40 rfl ?_
      refine gN_iald 689 (hM.t1) (by omega) (by omega) dX10_layOne_41 ?_
      refine gN_iast 12 (hM.t5) (by omega) (by omega) dX10_layOne_42 ?_
      refine g_iinc 2 (nI (j + 1)) 0 [(2, .int (nI (j + 1))), (0, .ref (a)), (1, .int (nI (s)))] dX10_layOne_43 rfl (nI_add j 1) (Nat.le_of_ble_eq_true rfl) rfl ?_
      refine g_goto 15 dX10_layOne_46 (by decide) ?_
      refine g_mem (m1 := wI m (cpI (u2 (im m) a 9 (nI n)) (a + 5) (0) (j + 1) (fun j => im m (a + 1) (79 + 22 * s + 10 + j)))) (wI_cp _ _ _ _ _ _ _ _ (by omega) (by rw [hz])) ?_
      refine g_pick [0, 1, 2] rfl ?_
      exact ih (j + 1) (by omega)
set_option maxRecDepth 100000 in
theorem cn_X10_layOne (g : Gp) (cs : Nat × Nat) {m : Mm} {a : Nat} (hM : MdOk m a) {s n : Nat} (hs : s < 10) (hn : im m (a + 1) (79 + 22 * s) = nI n) (hn2 : n ≤ 12) : Dn g (MX10_layOne cs) [.ref (a), .int (nI (s))] m (none) (wI m (cpI (u2 (im m) a 9 (nI n)) (a + 5) 0 n (fun j => im m (a + 1) (79 + 22 * s + 10 + j)))) := by
  refine Cn.of pn_X10 (Nat.le_of_ble_eq_true rfl) rfl ?_
  refine g_aload_n 0 dX10_layOne_0 rfl rfl ?_
  refine g_aload_n 0 dX10_layOne_1 rfl rfl ?_
  refine gN_getR (a + 1) flX10_7 (fun _ _ _ => rfl) 0 (hM.t) (hM.r0) dX10_layOne_2 ?_
  refine g_iload_n 1 dX10_layOne_5 rfl rfl ?_
  refine gd_callS _ _ _ _ (cn_X10_at g (0, 0) _ s) ⟨rfl, rfl⟩ (ok_X10_at _) mlX10_45 st_X10_at rfl ⟨Nat.le_of_ble_eq_true rfl, Nat.le_of_ble_eq_true rfl⟩ (by exact Nat.le_of_ble_eq_true rfl) ⟨Nat.zero_le _, Nat.zero_le _⟩ dX10_layOne_6 rfl ?_
  refine gN_iald 689 (hM.t1) (by omega) (by omega) dX10_layOne_9 ?_
  refine g_ei (nI (n)) (hn) ?_
  refine gN_putI fwX10_49 rfl 0 (hM.t) dX10_layOne_10 ?_
  refine gN_iconst 0 dX10_layOne_13 (by decide) ?_
  refine g_istore_n 2 [(2, .int (nI (0))), (0, .ref (a)), (1, .int (nI (s)))] dX10_layOne_14 rfl (Nat.le_of_ble_eq_true rfl) rfl ?_
  refine g_mem (m1 := wI m (cpI (u2 (im m) a 9 (nI n)) (a + 5) 0 0 (fun j => im m (a + 1) (79 + 22 * s + 10 + j)))) (by rw [cpI_0]; rfl) ?_
  refine lp_X10_layOne g cs hM hs hn hn2 ?_ n 0 (by omega)
  exact g_vret rfl dX10_layOne_49 ⟨Nat.zero_le _, Nat.zero_le _⟩ ⟨rfl, rfl⟩
set_option maxRecDepth 100000 in
theorem lp_X10_layOther (g : Gp) (cs : Nat × Nat) {m : Mm} {a : Nat} (hM : MdOk m a) {s n : Nat} (hs : s < 10) (hn : im m (a + 1) (79 + 22 * s) = nI n) (hn2 : n ≤ 12) {Q : Rs → Mm → Prop} (K : G g (MX10_layOther cs) Q 49 [(2, .int (nI (n))), (0, .ref (a)), (1, .int (nI (s)))] [] (0, 0) (wI m (cpI (u2 (im m) a 10 (nI n)) (a + 6) (0) (n) (fun j => im m (a + 1) (79 + 22 * s + 10 + j))))) :
    ∀ d j : Nat, j + d = n → G g (MX10_layOther cs) Q 15 [(2, .int (nI (j))), (0, .ref (a)), (1, .int (nI (s)))] [] (0, 0) (wI m (cpI (u2 (im m) a 10 (nI n)) (a + 6) (0) j (fun j => im m (a + 1) (79 + 22 * s + 10 + j)))) := by
  have h9 : ∀ j, im (wI m (cpI (u2 (im m) a 10 (nI n)) (a + 6) 0 j (fun j => im m (a + 1) (79 + 22 * s + 10 + j)))) a 10 = nI n := fun j => by rw [im_wI, cpI_ne _ _ _ _ _ (by omega), u2_s]
  have hz : ∀ j, im (wI m (cpI (u2 (im m) a 10 (nI n)) (a + 6) 0 j (fun j => im m (a + 1) (79 + 22 * s + 10 + j)))) (a + 1) = im m (a + 1) := fun j => by rw [im_wI, cpI_ne _ _ _ _ _ (by omega), u2_o _ _ _ _ (by omega)]
  intro d
  induction d with
  | zero =>
    intro j hj
    obtain rfl : n = j := by omega
    refine g_iload_n 2 dX10_layOther_15 rfl rfl ?_
    refine g_aload_n 0 dX10_layOther_16 rfl rfl ?_
    refine gN_getI flX10_52 rfl 0 (hM.t) dX10_layOther_17 ?_
    refine g_ei (nI (n)) (h9 _) ?_
    refine gN_icmp_ge 49 dX10_layOther_20 (by decide) (by omega) (by omega) (fun h_20 => ?_) (fun h_20 => ?_)
    · exact K
    · exfalso; omega
  | succ d ih =>
    intro j hj
    refine g_iload_n 2 dX10_layOther_15 rfl rfl ?_
    refine g_aload_n 0 dX10_layOther_16 rfl rfl ?_
    refine gN_getI flX10_52 rfl 0 (hM.t) dX10_layOther_17 ?_
    refine g_ei (nI (n)) (h9 _) ?_
    refine gN_icmp_ge 49 dX10_layOther_20 (by decide) (by omega) (by omega) (fun h_20 => ?_) (fun h_20 => ?_)
    · exfalso; omega
    · refine g_aload_n 0 dX10_layOther_23 rfl rfl ?_
      refine gN_getR (a + 6) flX10_25 (fun _ _ _ => rfl) 0 (hM.t) (hM.r8) dX10_layOther_24 ?_
      refine g_iload_n 2 dX10_layOther_27 rfl rfl ?_
      refine g_aload_n 0 dX10_layOther_28 rfl rfl ?_
      refine gN_getR (a + 1) flX10_7 (fun _ _ _ => rfl) 0 (hM.t) (hM.r0) dX10_layOther_29 ?_
      refine g_iload_n 1 dX10_layOther_32 rfl rfl ?_
      refine gd_callS _ _ _ _ (cn_X10_at g (0, 0) _ s) ⟨rfl, rfl⟩ (ok_X10_at _) mlX10_45 st_X10_at rfl ⟨Nat.le_of_ble_eq_true rfl, Nat.le_of_ble_eq_true rfl⟩ (by exact Nat.le_of_ble_eq_true rfl) ⟨Nat.zero_le _, Nat.zero_le _⟩ dX10_layOther_33 rfl ?_
      refine gN_bipush 10 dX10_layOther_36 (by decide) ?_
      refine gN_iadd ((79 + 22 * s) + 10) dX10_layOther_38 rfl ?_
      refine g_iload_n 2 dX10_layOther_39 rfl rfl ?_
      refine gN_iadd (((79 + 22 * s) + 10) + j) dX10_layOther_40 rfl ?_
      refine gN_iald 689 (hM.t1) (by omega) (by omega) dX10_layOther_41 ?_
      refine gN_iast 12 (hM.t6) (by omega) (by omega) dX10_layOther_42 ?_
      refine g_iinc 2 (nI (j + 1)) 0 [(2, .int (nI (j + 1))), (0, .ref (a)), (1, .int (nI (s)))] dX10_layOther_43 rfl (nI_add j 1) (Nat.le_of_ble_eq_true rfl) rfl ?_
      refine g_goto 15 dX10_layOther_46 (by decide) ?_
      refine g_mem (m1 := wI m (cpI (u2 (im m) a 10 (nI n)) (a + 6) (0) (j + 1) (fun j => im m (a + 1) (79 + 22 * s + 10 + j)))) (wI_cp _ _ _ _ _ _ _ _ (by omega) (by rw [hz])) ?_
      refine g_pick [0, 1, 2] rfl ?_
      exact ih (j + 1) (by omega)
set_option maxRecDepth 100000 in
theorem cn_X10_layOther (g : Gp) (cs : Nat × Nat) {m : Mm} {a : Nat} (hM : MdOk m a) {s n : Nat} (hs : s < 10) (hn : im m (a + 1) (79 + 22 * s) = nI n) (hn2 : n ≤ 12) : Dn g (MX10_layOther cs) [.ref (a), .int (nI (s))] m (none) (wI m (cpI (u2 (im m) a 10 (nI n)) (a + 6) 0 n (fun j => im m (a + 1) (79 + 22 * s + 10 + j)))) := by
  refine Cn.of pn_X10 (Nat.le_of_ble_eq_true rfl) rfl ?_
  refine g_aload_n 0 dX10_layOther_0 rfl rfl ?_
  refine g_aload_n 0 dX10_layOther_1 rfl rfl ?_
  refine gN_getR (a + 1) flX10_7 (fun _ _ _ => rfl) 0 (hM.t) (hM.r0) dX10_layOther_2 ?_
  refine g_iload_n 1 dX10_layOther_5 rfl rfl ?_
  refine gd_callS _ _ _ _ (cn_X10_at g (0, 0) _ s) ⟨rfl, rfl⟩ (ok_X10_at _) mlX10_45 st_X10_at rfl ⟨Nat.le_of_ble_eq_true rfl, Nat.le_of_ble_eq_true rfl⟩ (by exact Nat.le_of_ble_eq_true rfl) ⟨Nat.zero_le _, Nat.zero_le _⟩ dX10_layOther_6 rfl ?_
  refine gN_iald 689 (hM.t1) (by omega) (by omega) dX10_layOther_9 ?_
  refine g_ei (nI (n)) (hn) ?_
  refine gN_putI fwX10_52 rfl 0 (hM.t) dX10_layOther_10 ?_
  refine gN_iconst 0 dX10_layOther_13 (by decide) ?_
  refine g_istore_n 2 [(2, .int (nI (0))), (0, .ref (a)), (1, .int (nI (s)))] dX10_layOther_14 rfl (Nat.le_of_ble_eq_true rfl) rfl ?_
  refine g_mem (m1 := wI m (cpI (u2 (im m) a 10 (nI n)) (a + 6) 0 0 (fun j => im m (a + 1) (79 + 22 * s + 10 + j)))) (by rw [cpI_0]; rfl) ?_
  refine lp_X10_layOther g cs hM hs hn hn2 ?_ n 0 (by omega)
  exact g_vret rfl dX10_layOther_49 ⟨Nat.zero_le _, Nat.zero_le _⟩ ⟨rfl, rfl⟩
set_option maxRecDepth 100000 in
theorem lp_X10_layRow (g : Gp) (cs : Nat × Nat) {m : Mm} {a : Nat} (hM : MdOk m a) {s n : Nat} (hs : s < 30) (hn : im m (a + 1) (299 + 13 * s) = nI n) (hn2 : n ≤ 12) {Q : Rs → Mm → Prop} (K : G g (MX10_layRow cs) Q 48 [(2, .int (nI (n))), (0, .ref (a)), (1, .int (nI (s)))] [] (0, 0) (wI m (cpI (u2 (im m) a 10 (nI n)) (a + 6) (0) (n) (fun j => im m (a + 1) (299 + 13 * s + 1 + j))))) :
    ∀ d j : Nat, j + d = n → G g (MX10_layRow cs) Q 15 [(2, .int (nI (j))), (0, .ref (a)), (1, .int (nI (s)))] [] (0, 0) (wI m (cpI (u2 (im m) a 10 (nI n)) (a + 6) (0) j (fun j => im m (a + 1) (299 + 13 * s + 1 + j)))) := by
  have h9 : ∀ j, im (wI m (cpI (u2 (im m) a 10 (nI n)) (a + 6) 0 j (fun j => im m (a + 1) (299 + 13 * s + 1 + j)))) a 10 = nI n := fun j => by rw [im_wI, cpI_ne _ _ _ _ _ (by omega), u2_s]
  have hz : ∀ j, im (wI m (cpI (u2 (im m) a 10 (nI n)) (a + 6) 0 j (fun j => im m (a + 1) (299 + 13 * s + 1 + j)))) (a + 1) = im m (a + 1) := fun j => by rw [im_wI, cpI_ne _ _ _ _ _ (by omega), u2_o _ _ _ _ (by omega)]
  intro d
  induction d with
  | zero =>
    intro j hj
    obtain rfl : n = j := by omega
    refine g_iload_n 2 dX10_layRow_15 rfl rfl ?_
    refine g_aload_n 0 dX10_layRow_16 rfl rfl ?_
    refine gN_getI flX10_52 rfl 0 (hM.t) dX10_layRow_17 ?_
    refine g_ei (nI (n)) (h9 _) ?_
    refine gN_icmp_ge 48 dX10_layRow_20 (by decide) (by omega) (by omega) (fun h_20 => ?_) (fun h_20 => ?_)
    · exact K
    · exfalso; omega
  | succ d ih =>
    intro j hj
    refine g_iload_n 2 dX10_layRow_15 rfl rfl ?_
    refine g_aload_n 0 dX10_layRow_16 rfl rfl ?_
    refine gN_getI flX10_52 rfl 0 (hM.t) dX10_layRow_17 ?_
    refine g_ei (nI (n)) (h9 _) ?_
    refine gN_icmp_ge 48 dX10_layRow_20 (by decide) (by omega) (by omega) (fun h_20 => ?_) (fun h_20 => ?_)
    · exfalso; omega
    · refine g_aload_n 0 dX10_layRow_23 rfl rfl ?_
      refine gN_getR (a + 6) flX10_25 (fun _ _ _ => rfl) 0 (hM.t) (hM.r8) dX10_layRow_24 ?_
      refine g_iload_n 2 dX10_layRow_27 rfl rfl ?_
      refine g_aload_n 0 dX10_layRow_28 rfl rfl ?_
      refine gN_getR (a + 1) flX10_7 (fun _ _ _ => rfl) 0 (hM.t) (hM.r0) dX10_layRow_29 ?_
      refine g_iload_n 1 dX10_layRow_32 rfl rfl ?_
      refine gd_callS _ _ _ _ (cn_X10_rowAt g (0, 0) _ s) ⟨rfl, rfl⟩ (ok_X10_rowAt _) mlX10_55 st_X10_rowAt rfl ⟨Nat.le_of_ble_eq_true rfl, Nat.le_of_ble_eq_true rfl⟩ (by exact Nat.le_of_ble_eq_true rfl) ⟨Nat.zero_le _, Nat.zero_le _⟩ dX10_layRow_33 rfl ?_
      refine gN_iconst 1 dX10_layRow_36 (by decide) ?_
      refine gN_iadd ((299 + 13 * s) + 1) dX10_layRow_37 rfl ?_
      refine g_iload_n 2 dX10_layRow_38 rfl rfl ?_
      refine gN_iadd (((299 + 13 * s) + 1) + j) dX10_layRow_39 rfl ?_
      refine gN_iald 689 (hM.t1) (by omega) (by omega) dX10_layRow_40 ?_
      refine gN_iast 12 (hM.t6) (by omega) (by omega) dX10_layRow_41 ?_
      refine g_iinc 2 (nI (j + 1)) 0 [(2, .int (nI (j + 1))), (0, .ref (a)), (1, .int (nI (s)))] dX10_layRow_42 rfl (nI_add j 1) (Nat.le_of_ble_eq_true rfl) rfl ?_
      refine g_goto 15 dX10_layRow_45 (by decide) ?_
      refine g_mem (m1 := wI m (cpI (u2 (im m) a 10 (nI n)) (a + 6) (0) (j + 1) (fun j => im m (a + 1) (299 + 13 * s + 1 + j)))) (wI_cp _ _ _ _ _ _ _ _ (by omega) (by rw [hz])) ?_
      refine g_pick [0, 1, 2] rfl ?_
      exact ih (j + 1) (by omega)
set_option maxRecDepth 100000 in
theorem cn_X10_layRow (g : Gp) (cs : Nat × Nat) {m : Mm} {a : Nat} (hM : MdOk m a) {s n : Nat} (hs : s < 30) (hn : im m (a + 1) (299 + 13 * s) = nI n) (hn2 : n ≤ 12) : Dn g (MX10_layRow cs) [.ref (a), .int (nI (s))] m (none) (wI m (cpI (u2 (im m) a 10 (nI n)) (a + 6) 0 n (fun j => im m (a + 1) (299 + 13 * s + 1 + j)))) := by
  refine Cn.of pn_X10 (Nat.le_of_ble_eq_true rfl) rfl ?_
  refine g_aload_n 0 dX10_layRow_0 rfl rfl ?_
  refine g_aload_n 0 dX10_layRow_1 rfl rfl ?_
  refine gN_getR (a + 1) flX10_7 (fun _ _ _ => rfl) 0 (hM.t) (hM.r0) dX10_layRow_2 ?_
  refine g_iload_n 1 dX10_layRow_5 rfl rfl ?_
  refine gd_callS _ _ _ _ (cn_X10_rowAt g (0, 0) _ s) ⟨rfl, rfl⟩ (ok_X10_rowAt _) mlX10_55 st_X10_rowAt rfl ⟨Nat.le_of_ble_eq_true rfl, Nat.le_of_ble_eq_true rfl⟩ (by exact Nat.le_of_ble_eq_true rfl) ⟨Nat.zero_le _, Nat.zero_le _⟩ dX10_layRow_6 rfl ?_
  refine gN_iald 689 (hM.t1) (by omega) (by omega) dX10_layRow_9 ?_
  refine g_ei (nI (n)) (hn) ?_
  refine gN_putI fwX10_52 rfl 0 (hM.t) dX10_layRow_10 ?_
  refine gN_iconst 0 dX10_layRow_13 (by decide) ?_
  refine g_istore_n 2 [(2, .int (nI (0))), (0, .ref (a)), (1, .int (nI (s)))] dX10_layRow_14 rfl (Nat.le_of_ble_eq_true rfl) rfl ?_
  refine g_mem (m1 := wI m (cpI (u2 (im m) a 10 (nI n)) (a + 6) 0 0 (fun j => im m (a + 1) (299 + 13 * s + 1 + j)))) (by rw [cpI_0]; rfl) ?_
  refine lp_X10_layRow g cs hM hs hn hn2 ?_ n 0 (by omega)
  exact g_vret rfl dX10_layRow_48 ⟨Nat.zero_le _, Nat.zero_le _⟩ ⟨rfl, rfl⟩
set_option maxRecDepth 100000 in
theorem lp_X10_putAside (g : Gp) (cs : Nat × Nat) {m : Mm} {a : Nat} (hM : MdOk m a) {Q : Rs → Mm → Prop} (K : G g (MX10_putAside cs) Q 27 [(1, .int (nI (689))), (0, .ref (a))] [] (0, 0) (wI m (cpI (im m) (a + 3) (0) (689) (fun j => im m (a + 1) j)))) :
    ∀ d j : Nat, j + d = 689 → G g (MX10_putAside cs) Q 2 [(1, .int (nI (j))), (0, .ref (a))] [] (0, 0) (wI m (cpI (im m) (a + 3) (0) j (fun j => im m (a + 1) j))) := by
  have hz : ∀ j, im (wI m (cpI (im m) (a + 3) 0 j (fun j => im m (a + 1) j))) (a + 1) = im m (a + 1) := fun j => by rw [im_wI, cpI_ne _ _ _ _ _ (by omega)]
  intro d
  induction d with
  | zero =>
    intro j hj
    obtain rfl : j = 689 := hj
    refine g_iload_n 1 dX10_putAside_2 rfl rfl ?_
    refine gN_sipush 689 dX10_putAside_3 (by decide) ?_
    refine gN_icmp_ge 27 dX10_putAside_6 (by decide) (by omega) (by omega) (fun h_6 => ?_) (fun h_6 => ?_)
    · exact K
    · exact absurd h_6 (by decide)
  | succ d ih =>
    intro j hj
    refine g_iload_n 1 dX10_putAside_2 rfl rfl ?_
    refine gN_sipush 689 dX10_putAside_3 (by decide) ?_
    refine gN_icmp_ge 27 dX10_putAside_6 (by decide) (by omega) (by omega) (fun h_6 => ?_) (fun h_6 => ?_)
    · exfalso; omega
    · refine g_aload_n 0 dX10_putAside_9 rfl rfl ?_
      refine gN_getR (a + 3) flX10_16 (fun _ _ _ => rfl) 0 (hM.t) (hM.r2) dX10_putAside_10 ?_
      refine g_iload_n 1 dX10_putAside_13 rfl rfl ?_
      refine g_aload_n 0 dX10_putAside_14 rfl rfl ?_
      refine gN_getR (a + 1) flX10_7 (fun _ _ _ => rfl) 0 (hM.t) (hM.r0) dX10_putAside_15 ?_
      refine g_iload_n 1 dX10_putAside_18 rfl rfl ?_
      refine gN_iald 689 (hM.t1) (by omega) (by omega) dX10_putAside_19 ?_
      refine gN_iast 689 (hM.t3) (by omega) (by omega) dX10_putAside_20 ?_
      refine g_iinc 1 (nI (j + 1)) 0 [(1, .int (nI (j + 1))), (0, .ref (a))] dX10_putAside_21 rfl (nI_add j 1) (Nat.le_of_ble_eq_true rfl) rfl ?_
      refine g_goto 2 dX10_putAside_24 (by decide) ?_
      refine g_mem (m1 := wI m (cpI (im m) (a + 3) (0) (j + 1) (fun j => im m (a + 1) j))) (wI_cp _ _ _ _ _ _ _ _ (by omega) (by rw [hz])) ?_
      refine g_pick [0, 1] rfl ?_
      exact ih (j + 1) (by omega)
set_option maxRecDepth 100000 in
theorem cn_X10_putAside (g : Gp) (cs : Nat × Nat) {m : Mm} {a : Nat} (hM : MdOk m a) : Dn g (MX10_putAside cs) [.ref (a)] m (none) (wI m (cpI (im m) (a + 3) 0 689 (fun j => im m (a + 1) j))) := by
  refine Cn.of pn_X10 (Nat.le_of_ble_eq_true rfl) rfl ?_
  refine gN_iconst 0 dX10_putAside_0 (by decide) ?_
  refine g_istore_n 1 [(1, .int (nI (0))), (0, .ref (a))] dX10_putAside_1 rfl (Nat.le_of_ble_eq_true rfl) rfl ?_
  refine g_mem (m1 := wI m (cpI (im m) (a + 3) 0 0 (fun j => im m (a + 1) j))) (by rw [cpI_0]; rfl) ?_
  refine lp_X10_putAside g cs hM ?_ 689 0 rfl
  exact g_vret rfl dX10_putAside_27 ⟨Nat.zero_le _, Nat.zero_le _⟩ ⟨rfl, rfl⟩
set_option maxRecDepth 100000 in
theorem lp_X10_putBack (g : Gp) (cs : Nat × Nat) {m : Mm} {a : Nat} (hM : MdOk m a) {Q : Rs → Mm → Prop} (K : G g (MX10_putBack cs) Q 27 [(1, .int (nI (689))), (0, .ref (a))] [] (0, 0) (wI m (cpI (im m) (a + 1) (0) (689) (fun j => im m (a + 3) j)))) :
    ∀ d j : Nat, j + d = 689 → G g (MX10_putBack cs) Q 2 [(1, .int (nI (j))), (0, .ref (a))] [] (0, 0) (wI m (cpI (im m) (a + 1) (0) j (fun j => im m (a + 3) j))) := by
  have hz : ∀ j, im (wI m (cpI (im m) (a + 1) 0 j (fun j => im m (a + 3) j))) (a + 3) = im m (a + 3) := fun j => by rw [im_wI, cpI_ne _ _ _ _ _ (by omega)]
  intro d
  induction d with
  | zero =>
    intro j hj
    obtain rfl : j = 689 := hj
    refine g_iload_n 1 dX10_putBack_2 rfl rfl ?_
    refine gN_sipush 689 dX10_putBack_3 (by decide) ?_
    refine gN_icmp_ge 27 dX10_putBack_6 (by decide) (by omega) (by omega) (fun h_6 => ?_) (fun h_6 => ?_)
    · exact K
    · exact absurd h_6 (by decide)
  | succ d ih =>
    intro j hj
    refine g_iload_n 1 dX10_putBack_2 rfl rfl ?_
    refine gN_sipush 689 dX10_putBack_3 (by decide) ?_
    refine gN_icmp_ge 27 dX10_putBack_6 (by decide) (by omega) (by omega) (fun h_6 => ?_) (fun h_6 => ?_)
    · exfalso; omega
    · refine g_aload_n 0 dX10_putBack_9 rfl rfl ?_
      refine gN_getR (a + 1) flX10_7 (fun _ _ _ => rfl) 0 (hM.t) (hM.r0) dX10_putBack_10 ?_
      refine g_iload_n 1 dX10_putBack_13 rfl rfl ?_
      refine g_aload_n 0 dX10_putBack_14 rfl rfl ?_
      refine gN_getR (a + 3) flX10_16 (fun _ _ _ => rfl) 0 (hM.t) (hM.r2) dX10_putBack_15 ?_
      refine g_iload_n 1 dX10_putBack_18 rfl rfl ?_
      refine gN_iald 689 (hM.t3) (by omega) (by omega) dX10_putBack_19 ?_
      refine gN_iast 689 (hM.t1) (by omega) (by omega) dX10_putBack_20 ?_
      refine g_iinc 1 (nI (j + 1)) 0 [(1, .int (nI (j + 1))), (0, .ref (a))] dX10_putBack_21 rfl (nI_add j 1) (Nat.le_of_ble_eq_true rfl) rfl ?_
      refine g_goto 2 dX10_putBack_24 (by decide) ?_
      refine g_mem (m1 := wI m (cpI (im m) (a + 1) (0) (j + 1) (fun j => im m (a + 3) j))) (wI_cp _ _ _ _ _ _ _ _ (by omega) (by rw [hz])) ?_
      refine g_pick [0, 1] rfl ?_
      exact ih (j + 1) (by omega)
set_option maxRecDepth 100000 in
theorem cn_X10_putBack (g : Gp) (cs : Nat × Nat) {m : Mm} {a : Nat} (hM : MdOk m a) : Dn g (MX10_putBack cs) [.ref (a)] m (none) (wI m (cpI (im m) (a + 1) 0 689 (fun j => im m (a + 3) j))) := by
  refine Cn.of pn_X10 (Nat.le_of_ble_eq_true rfl) rfl ?_
  refine gN_iconst 0 dX10_putBack_0 (by decide) ?_
  refine g_istore_n 1 [(1, .int (nI (0))), (0, .ref (a))] dX10_putBack_1 rfl (Nat.le_of_ble_eq_true rfl) rfl ?_
  refine g_mem (m1 := wI m (cpI (im m) (a + 1) 0 0 (fun j => im m (a + 3) j))) (by rw [cpI_0]; rfl) ?_
  refine lp_X10_putBack g cs hM ?_ 689 0 rfl
  exact g_vret rfl dX10_putBack_27 ⟨Nat.zero_le _, Nat.zero_le _⟩ ⟨rfl, rfl⟩
