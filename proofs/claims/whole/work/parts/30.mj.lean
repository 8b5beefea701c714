set_option maxRecDepth 100000 in
theorem lp_X10_remA (g : Gp) (cs : Nat × Nat) {m : Mm} {a : Nat} (hM : MdOk m a) {s : Nat} {Q : Rs → Mm → Prop} (K : G g (MX10_remember cs) Q 45 [(2, .int (nI (299 + 377))), (0, .ref (a)), (1, .int (nI (s)))] [] (0, 0) (wI m (cpI (im m) (a + 1) (299) (377) (fun j => im m (a + 1) (299 + j + 13))))) :
    ∀ d j : Nat, j + d = 377 → G g (MX10_remember cs) Q 15 [(2, .int (nI (299 + j))), (0, .ref (a)), (1, .int (nI (s)))] [] (0, 0) (wI m (cpI (im m) (a + 1) (299) j (fun j => im m (a + 1) (299 + j + 13)))) := by
  intro d
  induction d with
  | zero =>
    intro j hj
    obtain rfl : j = 377 := hj
    refine g_iload_n 2 dX10_remember_15 rfl rfl ?_
    refine gN_bipush 29 dX10_remember_16 (by decide) ?_
    refine gd_callS _ _ _ _ (cn_X10_rowAt g (0, 0) _ 29) ⟨rfl, rfl⟩ (ok_X10_rowAt _) mlX10_55 st_X10_rowAt rfl ⟨Nat.le_of_ble_eq_true rfl, Nat.le_of_ble_eq_true rfl⟩ (by exact Nat.le_of_ble_eq_true rfl) ⟨Nat.zero_le _, Nat.zero_le _⟩ dX10_remember_18 rfl ?_
    refine gN_icmp_ge 45 dX10_remember_21 (by decide) (by first | omega | exact b01_lt _) (by first | omega | exact b01_lt _) (fun h_21 => ?_) (fun h_21 => ?_)
    · exact K
    · exfalso; omega
  | succ d ih =>
    intro j hj
    refine g_iload_n 2 dX10_remember_15 rfl rfl ?_
    refine gN_bipush 29 dX10_remember_16 (by decide) ?_
    refine gd_callS _ _ _ _ (cn_X10_rowAt g (0, 0) _ 29) ⟨rfl, rfl⟩ (ok_X10_rowAt _) mlX10_55 st_X10_rowAt rfl ⟨Nat.le_of_ble_eq_true rfl, Nat.le_of_ble_eq_true rfl⟩ (by exact Nat.le_of_ble_eq_true rfl) ⟨Nat.zero_le _, Nat.zero_le _⟩ dX10_remember_18 rfl ?_
    refine gN_icmp_ge 45 dX10_remember_21 (by decide) (by first | omega | exact b01_lt _) (by first | omega | exact b01_lt _) (fun h_21 => ?_) (fun h_21 => ?_)
    · exfalso; omega
    · refine g_aload_n 0 dX10_remember_24 rfl rfl ?_
      refine gN_getR (a + 1) flX10_7 (fun _ _ _ => rfl) 0 (hM.t) (hM.r0) dX10_remember_25 ?_
      refine g_iload_n 2 dX10_remember_28 rfl rfl ?_
      refine g_aload_n 0 dX10_remember_29 rfl rfl ?_
      refine gN_getR (a + 1) flX10_7 (fun _ _ _ => rfl) 0 (hM.t) (hM.r0) dX10_remember_30 ?_
      refine g_iload_n 2 dX10_remember_33 rfl rfl ?_
      refine gN_bipush 13 dX10_remember_34 (by decide) ?_
      refine gN_iadd ((299 + j) + 13) dX10_remember_36 rfl ?_
      refine gN_iald 689 (hM.t1) (by first | omega | exact b01_lt _) (by first | omega | exact b01_lt _) dX10_remember_37 ?_
      refine gN_iast 689 (hM.t1) (by first | omega | exact b01_lt _) (by first | omega | exact b01_lt _) dX10_remember_38 ?_
      refine g_iinc 2 (nI (299 + j + 1)) 0 [(2, .int (nI (299 + j + 1))), (0, .ref (a)), (1, .int (nI (s)))] dX10_remember_39 rfl (nI_add (299 + j) 1) (Nat.le_of_ble_eq_true rfl) rfl ?_
      refine g_goto 15 dX10_remember_42 (by decide) ?_
      refine g_mem (m1 := wI m (cpI (im m) (a + 1) (299) (j + 1) (fun j => im m (a + 1) (299 + j + 13)))) (wI_cp _ _ _ _ _ _ _ _ (by omega) (by rw [im_wI, cpI_out _ _ _ _ _ (by omega)])) ?_
      refine g_pick [0, 1, 2] rfl ?_
      exact ih (j + 1) (by omega)
set_option maxRecDepth 100000 in
theorem lp_X10_remB (g : Gp) (cs : Nat × Nat) {m : Mm} {a : Nat} (hM : MdOk m a) {I0 : Nat → Nat → Int32} {s r : Nat} (hs : s < 10) (hr : r < 30) {Q : Rs → Mm → Prop} (K : G g (MX10_remember cs) Q 118 [(3, .int (nI (12))), (2, .int (nI (299 + 13 * r))), (0, .ref (a)), (1, .int (nI (s)))] [] (0, 0) (wI m (cpI (I0) (a + 1) (299 + 13 * r + 1) (12) (fun j => I0 (a + 1) (79 + 22 * s + 10 + j))))) :
    ∀ d j : Nat, j + d = 12 → G g (MX10_remember cs) Q 82 [(3, .int (nI (j))), (2, .int (nI (299 + 13 * r))), (0, .ref (a)), (1, .int (nI (s)))] [] (0, 0) (wI m (cpI (I0) (a + 1) (299 + 13 * r + 1) j (fun j => I0 (a + 1) (79 + 22 * s + 10 + j)))) := by
  intro d
  induction d with
  | zero =>
    intro j hj
    obtain rfl : j = 12 := hj
    refine g_iload_n 3 dX10_remember_82 rfl rfl ?_
    refine gN_bipush 12 dX10_remember_83 (by decide) ?_
    refine gN_icmp_ge 118 dX10_remember_85 (by decide) (by first | omega | exact b01_lt _) (by first | omega | exact b01_lt _) (fun h_85 => ?_) (fun h_85 => ?_)
    · exact K
    · exact absurd h_85 (by decide)
  | succ d ih =>
    intro j hj
    refine g_iload_n 3 dX10_remember_82 rfl rfl ?_
    refine gN_bipush 12 dX10_remember_83 (by decide) ?_
    refine gN_icmp_ge 118 dX10_remember_85 (by decide) (by first | omega | exact b01_lt _) (by first | omega | exact b01_lt _) (fun h_85 => ?_) (fun h_85 => ?_)
    · exfalso; omega
    · refine g_aload_n 0 dX10_remember_88 rfl rfl ?_
      refine gN_getR (a + 1) flX10_7 (fun _ _ _ => rfl) 0 (hM.t) (hM.r0) dX10_remember_89 ?_
      refine g_iload_n 2 dX10_remember_92 rfl rfl ?_
      refine gN_iconst 1 dX10_remember_93 (by decide) ?_
      refine gN_iadd ((299 + 13 * r) + 1) dX10_remember_94 rfl ?_
      refine g_iload_n 3 dX10_remember_95 rfl rfl ?_
      refine gN_iadd (((299 + 13 * r) + 1) + j) dX10_remember_96 rfl ?_
      refine g_aload_n 0 dX10_remember_97 rfl rfl ?_
      refine gN_getR (a + 1) flX10_7 (fun _ _ _ => rfl) 0 (hM.t) (hM.r0) dX10_remember_98 ?_
      refine g_iload_n 1 dX10_remember_101 rfl rfl ?_
      refine gd_callS _ _ _ _ (cn_X10_at g (0, 0) _ s) ⟨rfl, rfl⟩ (ok_X10_at _) mlX10_45 st_X10_at rfl ⟨Nat.le_of_ble_eq_true rfl, Nat.le_of_ble_eq_true rfl⟩ (by exact Nat.le_of_ble_eq_true rfl) ⟨Nat.zero_le _, Nat.zero_le _⟩ dX10_remember_102 rfl ?_
      refine gN_bipush 10 dX10_remember_105 (by decide) ?_
      refine gN_iadd ((79 + 22 * s) + 10) dX10_remember_107 rfl ?_
      refine g_iload_n 3 dX10_remember_108 rfl rfl ?_
      refine gN_iadd (((79 + 22 * s) + 10) + j) dX10_remember_109 rfl ?_
      refine gN_iald 689 (hM.t1) (by first | omega | exact b01_lt _) (by first | omega | exact b01_lt _) dX10_remember_110 ?_
      refine gN_iast 689 (hM.t1) (by first | omega | exact b01_lt _) (by first | omega | exact b01_lt _) dX10_remember_111 ?_
      refine g_iinc 3 (nI (j + 1)) 0 [(3, .int (nI (j + 1))), (2, .int (nI (299 + 13 * r))), (0, .ref (a)), (1, .int (nI (s)))] dX10_remember_112 rfl (nI_add j 1) (Nat.le_of_ble_eq_true rfl) rfl ?_
      refine g_goto 82 dX10_remember_115 (by decide) ?_
      refine g_mem (m1 := wI m (cpI (I0) (a + 1) (299 + 13 * r + 1) (j + 1) (fun j => I0 (a + 1) (79 + 22 * s + 10 + j)))) (wI_cp _ _ _ _ _ _ _ _ (by omega) (by rw [im_wI, cpI_out _ _ _ _ _ (by omega)])) ?_
      refine g_pick [0, 1, 2, 3] rfl ?_
      exact ih (j + 1) (by omega)
def rmB (I : Nat → Nat → Int32) (a s r : Nat) : Nat → Nat → Int32 :=
  u2 (cpI (u2 I (a + 1) (299 + 13 * r) (I (a + 1) (79 + 22 * s))) (a + 1) (299 + 13 * r + 1) 12 (fun j => u2 I (a + 1) (299 + 13 * r) (I (a + 1) (79 + 22 * s)) (a + 1) (79 + 22 * s + 10 + j))) (a + 1) 1 (nI (r + 1))
def rmA (I : Nat → Nat → Int32) (a : Nat) : Nat → Nat → Int32 := u2 (cpI I (a + 1) 299 377 (fun j => I (a + 1) (299 + j + 13))) (a + 1) 1 (nI 29)
set_option maxRecDepth 100000 in
theorem rm_X10e (g : Gp) (cs : Nat × Nat) {m : Mm} {a : Nat} (hM : MdOk m a) {I0 : Nat → Nat → Int32} {s r : Nat} (hs : s < 10) (hr : r < 30) (h1 : I0 (a + 1) 1 = nI r) : G g (MX10_remember cs) (dQ none (wI m (rmB I0 a s r))) 118 [(3, .int (nI 12)), (2, .int (nI (299 + 13 * r))), (0, .ref a), (1, .int (nI s))] [] (0, 0) (wI m (cpI (u2 I0 (a + 1) (299 + 13 * r) (I0 (a + 1) (79 + 22 * s))) (a + 1) (299 + 13 * r + 1) 12 (fun j => (u2 I0 (a + 1) (299 + 13 * r) (I0 (a + 1) (79 + 22 * s))) (a + 1) (79 + 22 * s + 10 + j)))) := by
  refine g_aload_n 0 dX10_remember_118 rfl rfl ?_
  refine gN_getR (a + 1) flX10_7 (fun _ _ _ => rfl) 0 (hM.t) (hM.r0) dX10_remember_119 ?_
  refine gN_iconst 1 dX10_remember_122 (by decide) ?_
  refine g_dup2_11 dX10_remember_123 rfl rfl ?_
  refine gN_iald 689 (hM.t1) (by first | omega | exact b01_lt _) (by first | omega | exact b01_lt _) dX10_remember_124 ?_
  refine g_ei (nI (r)) ((by rw [im_wI, cpI_out _ _ _ _ _ (by omega), u2_n _ _ _ _ (by omega)]; exact h1)) ?_
  refine gN_iconst 1 dX10_remember_125 (by decide) ?_
  refine gN_iadd (r + 1) dX10_remember_126 rfl ?_
  refine gN_iast 689 (hM.t1) (by first | omega | exact b01_lt _) (by first | omega | exact b01_lt _) dX10_remember_127 ?_
  refine g_vret rfl dX10_remember_128 ⟨Nat.zero_le _, Nat.zero_le _⟩ ?_
  exact ⟨rfl, rfl⟩
set_option maxRecDepth 100000 in
theorem rm_X10 (g : Gp) (cs : Nat × Nat) {m : Mm} {a : Nat} (hM : MdOk m a) {I0 : Nat → Nat → Int32} {s r : Nat} (hs : s < 10) (hr : r < 30) (h1 : I0 (a + 1) 1 = nI r) : ∀ L0, L0 = [(0, Value.ref a), (1, .int (nI s))] → G g (MX10_remember cs) (dQ none (wI m (rmB I0 a s r))) 55 L0 [] (0, 0) (wI m I0) := by
  intro L0 hL
  subst hL
  refine g_aload_n 0 dX10_remember_55 rfl rfl ?_
  refine gN_getR (a + 1) flX10_7 (fun _ _ _ => rfl) 0 (hM.t) (hM.r0) dX10_remember_56 ?_
  refine gN_iconst 1 dX10_remember_59 (by decide) ?_
  refine gN_iald 689 (hM.t1) (by first | omega | exact b01_lt _) (by first | omega | exact b01_lt _) dX10_remember_60 ?_
  refine g_ei (nI (r)) (h1) ?_
  refine gd_callS _ _ _ _ (cn_X10_rowAt g (0, 0) _ r) ⟨rfl, rfl⟩ (ok_X10_rowAt _) mlX10_55 st_X10_rowAt rfl ⟨Nat.le_of_ble_eq_true rfl, Nat.le_of_ble_eq_true rfl⟩ (by exact Nat.le_of_ble_eq_true rfl) ⟨Nat.zero_le _, Nat.zero_le _⟩ dX10_remember_61 rfl ?_
  refine g_istore_n 2 [(2, .int (nI (299 + 13 * r))), (0, .ref (a)), (1, .int (nI (s)))] dX10_remember_64 rfl (Nat.le_of_ble_eq_true rfl) rfl ?_
  refine g_aload_n 0 dX10_remember_65 rfl rfl ?_
  refine gN_getR (a + 1) flX10_7 (fun _ _ _ => rfl) 0 (hM.t) (hM.r0) dX10_remember_66 ?_
  refine g_iload_n 2 dX10_remember_69 rfl rfl ?_
  refine g_aload_n 0 dX10_remember_70 rfl rfl ?_
  refine gN_getR (a + 1) flX10_7 (fun _ _ _ => rfl) 0 (hM.t) (hM.r0) dX10_remember_71 ?_
  refine g_iload_n 1 dX10_remember_74 rfl rfl ?_
  refine gd_callS _ _ _ _ (cn_X10_at g (0, 0) _ s) ⟨rfl, rfl⟩ (ok_X10_at _) mlX10_45 st_X10_at rfl ⟨Nat.le_of_ble_eq_true rfl, Nat.le_of_ble_eq_true rfl⟩ (by exact Nat.le_of_ble_eq_true rfl) ⟨Nat.zero_le _, Nat.zero_le _⟩ dX10_remember_75 rfl ?_
  refine gN_iald 689 (hM.t1) (by first | omega | exact b01_lt _) (by first | omega | exact b01_lt _) dX10_remember_78 ?_
  refine gN_iast 689 (hM.t1) (by first | omega | exact b01_lt _) (by first | omega | exact b01_lt _) dX10_remember_79 ?_
  refine gN_iconst 0 dX10_remember_80 (by decide) ?_
  refine g_istore_n 3 [(3, .int (nI (0))), (2, .int (nI (299 + 13 * r))), (0, .ref (a)), (1, .int (nI (s)))] dX10_remember_81 rfl (Nat.le_of_ble_eq_true rfl) rfl ?_
  refine g_mem (m1 := wI m (cpI (u2 I0 (a + 1) (299 + 13 * r) (I0 (a + 1) (79 + 22 * s))) (a + 1) (299 + 13 * r + 1) 0 (fun j => (u2 I0 (a + 1) (299 + 13 * r) (I0 (a + 1) (79 + 22 * s))) (a + 1) (79 + 22 * s + 10 + j)))) (by rw [cpI_0]; rfl) ?_
  refine lp_X10_remB g cs hM (I0 := u2 I0 (a + 1) (299 + 13 * r) (I0 (a + 1) (79 + 22 * s))) hs hr ?_ 12 0 rfl
  exact rm_X10e g cs hM hs hr h1
def rmI (I : Nat → Nat → Int32) (a s : Nat) : Nat → Nat → Int32 := if nv (I (a + 1) 1) = 30 then rmB (rmA I a) a s 29 else rmB I a s (nv (I (a + 1) 1))
set_option maxRecDepth 100000 in
theorem rm_X10a (g : Gp) (cs : Nat × Nat) {m : Mm} {a : Nat} (hM : MdOk m a) {s : Nat} (hs : s < 10) (h1 : im m (a + 1) 1 = nI 30) : G g (MX10_remember cs) (dQ none (wI m (rmB (rmA (im m) a) a s 29))) 45 [(2, .int (nI (299 + 377))), (0, .ref a), (1, .int (nI s))] [] (0, 0) (wI m (cpI (im m) (a + 1) 299 377 (fun j => im m (a + 1) (299 + j + 13)))) := by
  refine g_aload_n 0 dX10_remember_45 rfl rfl ?_
  refine gN_getR (a + 1) flX10_7 (fun _ _ _ => rfl) 0 (hM.t) (hM.r0) dX10_remember_46 ?_
  refine gN_iconst 1 dX10_remember_49 (by decide) ?_
  refine g_dup2_11 dX10_remember_50 rfl rfl ?_
  refine gN_iald 689 (hM.t1) (by first | omega | exact b01_lt _) (by first | omega | exact b01_lt _) dX10_remember_51 ?_
  refine g_ei (nI (30)) ((by rw [im_wI, cpI_out _ _ _ _ _ (by omega)]; exact h1)) ?_
  refine gN_iconst 1 dX10_remember_52 (by decide) ?_
  refine gN_isub (29) dX10_remember_53 (by first | omega | exact b01_lt _) rfl ?_
  refine gN_iast 689 (hM.t1) (by first | omega | exact b01_lt _) (by first | omega | exact b01_lt _) dX10_remember_54 ?_
  refine g_pick [1, 2] rfl ?_
  exact rm_X10 g cs (m := m) (I0 := rmA (im m) a) hM hs (by decide) (u2_s _ _ _ _) _ rfl
set_option maxRecDepth 100000 in
theorem cn_X10_remember (g : Gp) (cs : Nat × Nat) {m : Mm} {a : Nat} (hM : MdOk m a) {s : Nat} (hs : s < 10) (hR : NR (im m (a + 1) 1) 0 30) : Dn g (MX10_remember cs) [.ref a, .int (nI s)] m none (wI m (rmI (im m) a s)) := by
  have h9 := hR.hi
  refine Cn.of pn_X10 (Nat.le_of_ble_eq_true rfl) rfl ?_
  refine g_aload_n 0 dX10_remember_0 rfl rfl ?_
  refine gN_getR (a + 1) flX10_7 (fun _ _ _ => rfl) 0 (hM.t) (hM.r0) dX10_remember_1 ?_
  refine gN_iconst 1 dX10_remember_4 (by decide) ?_
  refine gN_iald 689 (hM.t1) (by first | omega | exact b01_lt _) (by first | omega | exact b01_lt _) dX10_remember_5 ?_
  refine g_ei (nI (nv (im m (a + 1) 1))) (hR.e) ?_
  refine gN_bipush 30 dX10_remember_6 (by decide) ?_
  refine gN_icmp_ne 55 dX10_remember_8 (by decide) (by first | omega | exact b01_lt _) (by first | omega | exact b01_lt _) (fun h_8 => ?_) (fun h_8 => ?_)
  · unfold rmI
    rw [if_neg (by omega)]
    exact rm_X10 g cs (m := m) (I0 := im m) hM hs (by omega) hR.e _ rfl
  · refine gN_sipush 299 dX10_remember_11 (by decide) ?_
    refine g_istore_n 2 [(2, .int (nI (299))), (0, .ref (a)), (1, .int (nI (s)))] dX10_remember_14 rfl (Nat.le_of_ble_eq_true rfl) rfl ?_
    refine g_mem (m1 := wI m (cpI (im m) (a + 1) 299 0 (fun j => im m (a + 1) (299 + j + 13)))) (by rw [cpI_0]; rfl) ?_
    refine g_pick [0, 1, 2] rfl ?_
    refine lp_X10_remA g cs hM ?_ 377 0 rfl
    unfold rmI
    rw [if_pos (by omega)]
    exact rm_X10a g cs hM hs (by rw [hR.e]; congr 1)
set_option maxRecDepth 100000 in
theorem lp_X10_undo (g : Gp) (cs : Nat × Nat) {m : Mm} {a : Nat} (hM : MdOk m a) {k : Nat} (hk : k < 6) {Q : Rs → Mm → Prop} (K : G g (MX10_undo cs) Q 64 [(1, .int (nI (689))), (0, .ref (a))] [] (0, 0) (wI m (cpI (u2 (th m a 0) a 3 (nI k)) (a + 1) (0) (689) (fun j => im m (a + 2) (689 * k + j))))) :
    ∀ d j : Nat, j + d = 689 → G g (MX10_undo cs) Q 30 [(1, .int (nI (j))), (0, .ref (a))] [] (0, 0) (wI m (cpI (u2 (th m a 0) a 3 (nI k)) (a + 1) (0) j (fun j => im m (a + 2) (689 * k + j)))) := by
  have h3 : ∀ j, im (wI m (cpI (u2 (th m a 0) a 3 (nI k)) (a + 1) 0 j (fun j => im m (a + 2) (689 * k + j)))) a 3 = nI k := fun j => by rw [im_wI, cpI_ne _ _ _ _ _ (by omega), u2_s]
  intro d
  induction d with
  | zero =>
    intro j hj
    obtain rfl : j = 689 := hj
    refine g_iload_n 1 dX10_undo_30 rfl rfl ?_
    refine gN_sipush 689 dX10_undo_31 (by decide) ?_
    refine gN_icmp_ge 64 dX10_undo_34 (by decide) (by first | omega | exact b01_lt _) (by first | omega | exact b01_lt _) (fun h_34 => ?_) (fun h_34 => ?_)
    · exact K
    · exact absurd h_34 (by decide)
  | succ d ih =>
    intro j hj
    refine g_iload_n 1 dX10_undo_30 rfl rfl ?_
    refine gN_sipush 689 dX10_undo_31 (by decide) ?_
    refine gN_icmp_ge 64 dX10_undo_34 (by decide) (by first | omega | exact b01_lt _) (by first | omega | exact b01_lt _) (fun h_34 => ?_) (fun h_34 => ?_)
    · exfalso; omega
    · refine g_aload_n 0 dX10_undo_37 rfl rfl ?_
      refine gN_getR (a + 1) flX10_7 (fun _ _ _ => rfl) 0 (hM.t) (hM.r0) dX10_undo_38 ?_
      refine g_iload_n 1 dX10_undo_41 rfl rfl ?_
      refine g_aload_n 0 dX10_undo_42 rfl rfl ?_
      refine gN_getR (a + 2) flX10_13 (fun _ _ _ => rfl) 0 (hM.t) (hM.r1) dX10_undo_43 ?_
      refine gN_sipush 689 dX10_undo_46 (by decide) ?_
      refine g_aload_n 0 dX10_undo_49 rfl rfl ?_
      refine gN_getI flX10_38 rfl 0 (hM.t) dX10_undo_50 ?_
      refine g_ei (nI (k)) (h3 _) ?_
      refine gN_imul (689 * k) dX10_undo_53 rfl ?_
      refine g_iload_n 1 dX10_undo_54 rfl rfl ?_
      refine gN_iadd ((689 * k) + j) dX10_undo_55 rfl ?_
      refine gN_iald 4134 (hM.t2) (by first | omega | exact b01_lt _) (by first | omega | exact b01_lt _) dX10_undo_56 ?_
      refine gN_iast 689 (hM.t1) (by first | omega | exact b01_lt _) (by first | omega | exact b01_lt _) dX10_undo_57 ?_
      refine g_iinc 1 (nI (j + 1)) 0 [(1, .int (nI (j + 1))), (0, .ref (a))] dX10_undo_58 rfl (nI_add j 1) (Nat.le_of_ble_eq_true rfl) rfl ?_
      refine g_goto 30 dX10_undo_61 (by decide) ?_
      refine g_mem (m1 := wI m (cpI (u2 (th m a 0) a 3 (nI k)) (a + 1) (0) (j + 1) (fun j => im m (a + 2) (689 * k + j)))) (wI_cp _ _ _ _ _ _ _ _ (by omega) (by rw [im_wI, cpI_ne _ _ _ _ _ (by omega), u2_o _ _ _ _ (by omega)]; exact u2_n _ _ _ _ (by omega))) ?_
      refine g_pick [0, 1] rfl ?_
      exact ih (j + 1) (by omega)
set_option maxRecDepth 100000 in
theorem cn_X10_undo_1 (g : Gp) (cs : Nat × Nat) {m : Mm} {a : Nat} (hM : MdOk m a) (hn : im m a 3 = nI 0) : En g (MX10_undo cs) [.ref (a)] m (some (.int (nI 0))) (sc a (th m a 1)) := by
  refine Cn.of pn_X10 (Nat.le_of_ble_eq_true rfl) rfl ?_
  refine g_aload_n 0 dX10_undo_0 rfl rfl ?_
  refine gN_iconst 0 dX10_undo_1 (by decide) ?_
  refine gN_putI fwX10_34 rfl 0 (hM.t) dX10_undo_2 ?_
  refine g_aload_n 0 dX10_undo_5 rfl rfl ?_
  refine gN_getI flX10_38 rfl 0 (hM.t) dX10_undo_6 ?_
  refine g_ei (nI (0)) ((th_a m a 0 3 (by omega)).trans hn) ?_
  refine gN_if_ne 18 dX10_undo_9 (by decide) (by first | omega | exact b01_lt _) (fun h_9 => ?_) (fun h_9 => ?_)
  · exact absurd h_9 (by decide)
  · refine g_aload_n 0 dX10_undo_12 rfl rfl ?_
    refine gN_iconst 1 dX10_undo_13 (by decide) ?_
    refine gd_callV _ _ _ _ (cn_X10_fails g (0, 0) (m := sI m a 6 (nI 0)) hM (nI (1))) ⟨rfl, rfl⟩ (ok_X10_fails _) mlX10_95 in_X10_fails se_X10_fails 10 0 (hM.t) rfl rfl rfl ⟨Nat.le_of_ble_eq_true rfl, Nat.le_of_ble_eq_true rfl⟩ (by exact Nat.le_of_ble_eq_true rfl) ⟨Nat.zero_le _, Nat.zero_le _⟩ dX10_undo_14 rfl ?_
    refine g_iret rfl dX10_undo_17 ⟨Nat.zero_le _, Nat.zero_le _⟩ ?_
    exact ⟨rfl, _, rfl, by rw [show im (sI m a 6 (nI 0)) = th m a 0 from rfl, th_th]; exact sc.rf⟩
set_option maxRecDepth 100000 in
theorem un_X10 (g : Gp) (cs : Nat × Nat) {m : Mm} {a : Nat} (hM : MdOk m a) {k : Nat} (hk : k < 6) : G g (MX10_undo cs) (eQ m (some (.int (nI k))) (sc a (cpI (u2 (th m a 0) a 3 (nI k)) (a + 1) 0 689 (fun j => im m (a + 2) (689 * k + j))))) 64 [(1, .int (nI 689)), (0, .ref a)] [] (0, 0) (wI m (cpI (u2 (th m a 0) a 3 (nI k)) (a + 1) 0 689 (fun j => im m (a + 2) (689 * k + j)))) := by
  refine g_aload_n 0 dX10_undo_64 rfl rfl ?_
  refine gN_getI flX10_38 rfl 0 (hM.t) dX10_undo_65 ?_
  refine g_ei (nI (k)) ((by rw [im_wI, cpI_ne _ _ _ _ _ (by omega), u2_s])) ?_
  refine g_iret rfl dX10_undo_68 ⟨Nat.zero_le _, Nat.zero_le _⟩ ?_
  exact ⟨rfl, _, rfl, sc.rf⟩
set_option maxRecDepth 100000 in
theorem cn_X10_undo_0 (g : Gp) (cs : Nat × Nat) {m : Mm} {a : Nat} (hM : MdOk m a) {k : Nat} (hk : k < 6) (hn : im m a 3 = nI (k + 1)) : En g (MX10_undo cs) [.ref (a)] m (some (.int (nI k))) (sc a (cpI (u2 (th m a 0) a 3 (nI k)) (a + 1) 0 689 (fun j => im m (a + 2) (689 * k + j)))) := by
  refine Cn.of pn_X10 (Nat.le_of_ble_eq_true rfl) rfl ?_
  refine g_aload_n 0 dX10_undo_0 rfl rfl ?_
  refine gN_iconst 0 dX10_undo_1 (by decide) ?_
  refine gN_putI fwX10_34 rfl 0 (hM.t) dX10_undo_2 ?_
  refine g_aload_n 0 dX10_undo_5 rfl rfl ?_
  refine gN_getI flX10_38 rfl 0 (hM.t) dX10_undo_6 ?_
  refine g_ei (nI (k + 1)) ((th_a m a 0 3 (by omega)).trans hn) ?_
  refine gN_if_ne 18 dX10_undo_9 (by decide) (by first | omega | exact b01_lt _) (fun h_9 => ?_) (fun h_9 => ?_)
  · refine g_aload_n 0 dX10_undo_18 rfl rfl ?_
    refine g_dup dX10_undo_19 rfl ?_
    refine gN_getI flX10_38 rfl 0 (hM.t) dX10_undo_20 ?_
    refine g_ei (nI (k + 1)) ((th_a m a 0 3 (by omega)).trans hn) ?_
    refine gN_iconst 1 dX10_undo_23 (by decide) ?_
    refine gN_isub ((k + 1) - 1) dX10_undo_24 (by first | omega | exact b01_lt _) rfl ?_
    refine gN_putI fwX10_38 rfl 0 (hM.t) dX10_undo_25 ?_
    refine gN_iconst 0 dX10_undo_28 (by decide) ?_
    refine g_istore_n 1 [(1, .int (nI (0))), (0, .ref (a))] dX10_undo_29 rfl (Nat.le_of_ble_eq_true rfl) rfl ?_
    refine g_mem (m1 := wI m (cpI (u2 (th m a 0) a 3 (nI k)) (a + 1) 0 0 (fun j => im m (a + 2) (689 * k + j)))) (by rw [cpI_0]; rfl) ?_
    refine lp_X10_undo g cs hM hk ?_ 689 0 rfl
    exact un_X10 g cs hM hk
  · exfalso; omega
