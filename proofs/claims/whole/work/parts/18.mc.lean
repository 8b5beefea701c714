set_option maxRecDepth 100000 in
theorem lp_X10_saveA (g : Gp) (cs : Nat × Nat) {m : Mm} {a : Nat} (hM : MdOk m a) {Q : Rs → Mm → Prop} (K : G g (MX10_save cs) Q 40 [(1, .int (nI (3445))), (0, .ref (a))] [] (0, 0) (wI m (cpI (im m) (a + 2) (0) (3445) (fun j => im m (a + 2) (j + 689))))) :
    ∀ d j : Nat, j + d = 3445 → G g (MX10_save cs) Q 11 [(1, .int (nI (j))), (0, .ref (a))] [] (0, 0) (wI m (cpI (im m) (a + 2) (0) j (fun j => im m (a + 2) (j + 689)))) := by
  intro d
  induction d with
  | zero =>
    intro j hj
    obtain rfl : j = 3445 := hj
    refine g_iload_n 1 dX10_save_11 rfl rfl ?_
    refine gN_sipush 3445 dX10_save_12 (by decide) ?_
    refine gN_icmp_ge 40 dX10_save_15 (by decide) (by omega) (by omega) (fun h_15 => ?_) (fun h_15 => ?_)
    · exact K
    · exact absurd h_15 (by decide)
  | succ d ih =>
    intro j hj
    refine g_iload_n 1 dX10_save_11 rfl rfl ?_
    refine gN_sipush 3445 dX10_save_12 (by decide) ?_
    refine gN_icmp_ge 40 dX10_save_15 (by decide) (by omega) (by omega) (fun h_15 => ?_) (fun h_15 => ?_)
    · exfalso; omega
    · refine g_aload_n 0 dX10_save_18 rfl rfl ?_
      refine gN_getR (a + 2) flX10_13 (fun _ _ _ => rfl) 0 (hM.t) (hM.r1) dX10_save_19 ?_
      refine g_iload_n 1 dX10_save_22 rfl rfl ?_
      refine g_aload_n 0 dX10_save_23 rfl rfl ?_
      refine gN_getR (a + 2) flX10_13 (fun _ _ _ => rfl) 0 (hM.t) (hM.r1) dX10_save_24 ?_
      refine g_iload_n 1 dX10_save_27 rfl rfl ?_
      refine gN_sipush 689 dX10_save_28 (by decide) ?_
      refine gN_iadd (j + 689) dX10_save_31 rfl ?_
      refine gN_iald 4134 (hM.t2) (by omega) (by omega) dX10_save_32 ?_
      refine gN_iast 4134 (hM.t2) (by omega) (by omega) dX10_save_33 ?_
      refine g_iinc 1 (nI (j + 1)) 0 [(1, .int (nI (j + 1))), (0, .ref (a))] dX10_save_34 rfl (nI_add j 1) (Nat.le_of_ble_eq_true rfl) rfl ?_
      refine g_goto 11 dX10_save_37 (by decide) ?_
      refine g_mem (m1 := wI m (cpI (im m) (a + 2) (0) (j + 1) (fun j => im m (a + 2) (j + 689)))) (wI_cp _ _ _ _ _ _ _ _ (by omega) (by rw [im_wI, cpI_out _ _ _ _ _ (by omega)])) ?_
      refine g_pick [0, 1] rfl ?_
      exact ih (j + 1) (by omega)
set_option maxRecDepth 100000 in
theorem lp_X10_saveB (g : Gp) (cs : Nat × Nat) {m : Mm} {a : Nat} (hM : MdOk m a) {I0 : Nat → Nat → Int32} {k : Nat} (hk : k < 6) (h3 : I0 a 3 = nI k) {Q : Rs → Mm → Prop} (K : G g (MX10_save cs) Q 86 [(1, .int (nI (689))), (0, .ref (a))] [] (0, 0) (wI m (cpI (I0) (a + 2) (689 * k) (689) (fun j => I0 (a + 1) j)))) :
    ∀ d j : Nat, j + d = 689 → G g (MX10_save cs) Q 52 [(1, .int (nI (j))), (0, .ref (a))] [] (0, 0) (wI m (cpI (I0) (a + 2) (689 * k) j (fun j => I0 (a + 1) j))) := by
  have h3 : ∀ j, im (wI m (cpI (I0) (a + 2) (689 * k) j (fun j => I0 (a + 1) j))) a 3 = nI k := fun j => by rw [im_wI, cpI_ne _ _ _ _ _ (by omega), h3]
  intro d
  induction d with
  | zero =>
    intro j hj
    obtain rfl : j = 689 := hj
    refine g_iload_n 1 dX10_save_52 rfl rfl ?_
    refine gN_sipush 689 dX10_save_53 (by decide) ?_
    refine gN_icmp_ge 86 dX10_save_56 (by decide) (by omega) (by omega) (fun h_56 => ?_) (fun h_56 => ?_)
    · exact K
    · exact absurd h_56 (by decide)
  | succ d ih =>
    intro j hj
    refine g_iload_n 1 dX10_save_52 rfl rfl ?_
    refine gN_sipush 689 dX10_save_53 (by decide) ?_
    refine gN_icmp_ge 86 dX10_save_56 (by decide) (by omega) (by omega) (fun h_56 => ?_) (fun h_56 => ?_)
    · exfalso; omega
    · refine g_aload_n 0 dX10_save_59 rfl rfl ?_
      refine gN_getR (a + 2) flX10_13 (fun _ _ _ => rfl) 0 (hM.t) (hM.r1) dX10_save_60 ?_
      refine gN_sipush 689 dX10_save_63 (by decide) ?_
      refine g_aload_n 0 dX10_save_66 rfl rfl ?_
      refine gN_getI flX10_38 rfl 0 (hM.t) dX10_save_67 ?_
      refine g_ei (nI (k)) (h3 _) ?_
      refine gN_imul (689 * k) dX10_save_70 rfl ?_
      refine g_iload_n 1 dX10_save_71 rfl rfl ?_
      refine gN_iadd ((689 * k) + j) dX10_save_72 rfl ?_
      refine g_aload_n 0 dX10_save_73 rfl rfl ?_
      refine gN_getR (a + 1) flX10_7 (fun _ _ _ => rfl) 0 (hM.t) (hM.r0) dX10_save_74 ?_
      refine g_iload_n 1 dX10_save_77 rfl rfl ?_
      refine gN_iald 689 (hM.t1) (by omega) (by omega) dX10_save_78 ?_
      refine gN_iast 4134 (hM.t2) (by omega) (by omega) dX10_save_79 ?_
      refine g_iinc 1 (nI (j + 1)) 0 [(1, .int (nI (j + 1))), (0, .ref (a))] dX10_save_80 rfl (nI_add j 1) (Nat.le_of_ble_eq_true rfl) rfl ?_
      refine g_goto 52 dX10_save_83 (by decide) ?_
      refine g_mem (m1 := wI m (cpI (I0) (a + 2) (689 * k) (j + 1) (fun j => I0 (a + 1) j))) (wI_cp _ _ _ _ _ _ _ _ (by omega) (by rw [im_wI, cpI_ne _ _ _ _ _ (by omega)])) ?_
      refine g_pick [0, 1] rfl ?_
      exact ih (j + 1) (by omega)
/-- the ints behind a saving, n states being saved -/
def svB (I0 : Nat → Nat → Int32) (a k : Nat) : Nat → Nat → Int32 := u2 (cpI I0 (a + 2) (689 * k) 689 (fun j => I0 (a + 1) j)) a 3 (nI (k + 1))
def svA (I : Nat → Nat → Int32) (a : Nat) : Nat → Nat → Int32 := u2 (cpI I (a + 2) 0 3445 (fun j => I (a + 2) (j + 689))) a 3 (nI 5)
def svI (I : Nat → Nat → Int32) (a n : Nat) : Nat → Nat → Int32 := if n = 6 then svB (svA I a) a 5 else svB I a n
set_option maxRecDepth 100000 in
theorem sv_X10 (g : Gp) (cs : Nat × Nat) {m : Mm} {a : Nat} (hM : MdOk m a) {I0 : Nat → Nat → Int32} {k : Nat} (hk : k < 6) (h3 : I0 a 3 = nI k) (u : Nat × Nat) : G g (MX10_save cs) (dQ none (wI m (svB I0 a k))) 50 [(0, .ref a)] [] (0, 0) (wI m I0) := by
  refine gN_iconst 0 dX10_save_50 (by decide) ?_
  refine g_istore_n 1 [(1, .int (nI (0))), (0, .ref (a))] dX10_save_51 rfl (Nat.le_of_ble_eq_true rfl) rfl ?_
  refine g_mem (m1 := wI m (cpI I0 (a + 2) (689 * k) 0 (fun j => I0 (a + 1) j))) (by rw [cpI_0]) ?_
  refine lp_X10_saveB g cs hM hk h3 ?_ 689 0 rfl
  refine g_aload_n 0 dX10_save_86 rfl rfl ?_
  refine g_dup dX10_save_87 rfl ?_
  refine gN_getI flX10_38 rfl 0 (hM.t) dX10_save_88 ?_
  refine g_ei (nI (k)) ((congrFun (cpI_ne _ _ _ _ _ (by omega)) 3).trans h3) ?_
  refine gN_iconst 1 dX10_save_91 (by decide) ?_
  refine gN_iadd (k + 1) dX10_save_92 rfl ?_
  refine gN_putI fwX10_38 rfl 0 (hM.t) dX10_save_93 ?_
  refine g_vret rfl dX10_save_96 ⟨Nat.zero_le _, Nat.zero_le _⟩ ?_
  exact ⟨rfl, rfl⟩
set_option maxRecDepth 100000 in
theorem sv_X10b (g : Gp) (cs : Nat × Nat) {m : Mm} {a : Nat} (hM : MdOk m a) (hn : im m a 3 = nI 6) : G g (MX10_save cs) (dQ none (wI m (svB (svA (im m) a) a 5))) 40 [(0, .ref a)] [] (0, 0) (wI m (cpI (im m) (a + 2) 0 3445 (fun j => im m (a + 2) (j + 689)))) := by
  refine g_aload_n 0 dX10_save_40 rfl rfl ?_
  refine g_dup dX10_save_41 rfl ?_
  refine gN_getI flX10_38 rfl 0 (hM.t) dX10_save_42 ?_
  refine g_ei (nI (6)) (by rw [im_wI, cpI_ne _ _ _ _ _ (by omega)]; exact hn) ?_
  refine gN_iconst 1 dX10_save_45 (by decide) ?_
  refine gN_isub (5) dX10_save_46 (by omega) rfl ?_
  refine gN_putI fwX10_38 rfl 0 (hM.t) dX10_save_47 ?_
  exact sv_X10 g cs (m := m) (I0 := svA (im m) a) hM (by decide) (u2_s _ _ _ _) (0, 0)
set_option maxRecDepth 100000 in
theorem cn_X10_save (g : Gp) (cs : Nat × Nat) {m : Mm} {a : Nat} (hM : MdOk m a) {n : Nat} (hn : im m a 3 = nI n) (hn6 : n ≤ 6) : Dn g (MX10_save cs) [.ref (a)] m (none) (wI m (svI (im m) a n)) := by
  refine Cn.of pn_X10 (Nat.le_of_ble_eq_true rfl) rfl ?_
  refine g_aload_n 0 dX10_save_0 rfl rfl ?_
  refine gN_getI flX10_38 rfl 0 (hM.t) dX10_save_1 ?_
  refine g_ei (nI (n)) (hn) ?_
  refine gN_bipush 6 dX10_save_4 (by decide) ?_
  refine gN_icmp_ne 50 dX10_save_6 (by decide) (by omega) (by omega) (fun h_6 => ?_) (fun h_6 => ?_)
  · unfold svI
    rw [if_neg (by omega)]
    exact sv_X10 g cs (m := m) (I0 := im m) hM (by omega) hn (0, 0)
  · refine gN_iconst 0 dX10_save_9 (by decide) ?_
    refine g_istore_n 1 [(1, .int (nI (0))), (0, .ref (a))] dX10_save_10 rfl (Nat.le_of_ble_eq_true rfl) rfl ?_
    obtain rfl : n = 6 := by omega
    unfold svI
    rw [if_pos rfl]
    refine g_mem (m1 := wI m (cpI (im m) (a + 2) 0 0 (fun j => im m (a + 2) (j + 689)))) (by rw [cpI_0]; rfl) ?_
    refine lp_X10_saveA g cs hM ?_ 3445 0 rfl
    refine g_pick [1] rfl ?_
    exact sv_X10b g cs hM hn
set_option maxRecDepth 100000 in
theorem lp_X10_longestA (g : Gp) (cs : Nat × Nat) {m : Mm} {a : Nat} (hM : MdOk m a) {Q : Rs → Mm → Prop} (K : G g (MX10_longest cs) Q 22 [(1, .int (nI (169))), (0, .ref (a))] [] (0, 0) (wI m (cpI (im m) (a + 7) (0) (169) (fun _ => nI 0)))) :
    ∀ d j : Nat, j + d = 169 → G g (MX10_longest cs) Q 2 [(1, .int (nI (j))), (0, .ref (a))] [] (0, 0) (wI m (cpI (im m) (a + 7) (0) j (fun _ => nI 0))) := by
  intro d
  induction d with
  | zero =>
    intro j hj
    obtain rfl : j = 169 := hj
    refine g_iload_n 1 dX10_longest_2 rfl rfl ?_
    refine gN_sipush 169 dX10_longest_3 (by decide) ?_
    refine gN_icmp_ge 22 dX10_longest_6 (by decide) (by omega) (by omega) (fun h_6 => ?_) (fun h_6 => ?_)
    · exact K
    · exact absurd h_6 (by decide)
  | succ d ih =>
    intro j hj
    refine g_iload_n 1 dX10_longest_2 rfl rfl ?_
    refine gN_sipush 169 dX10_longest_3 (by decide) ?_
    refine gN_icmp_ge 22 dX10_longest_6 (by decide) (by omega) (by omega) (fun h_6 => ?_) (fun h_6 => ?_)
    · exfalso; omega
    · refine g_aload_n 0 dX10_longest_9 rfl rfl ?_
      refine gN_getR (a + 7) flX10_28 (fun _ _ _ => rfl) 0 (hM.t) (hM.r11) dX10_longest_10 ?_
      refine g_iload_n 1 dX10_longest_13 rfl rfl ?_
      refine gN_iconst 0 dX10_longest_14 (by decide) ?_
      refine gN_iast 169 (hM.t7) (by omega) (by omega) dX10_longest_15 ?_
      refine g_iinc 1 (nI (j + 1)) 0 [(1, .int (nI (j + 1))), (0, .ref (a))] dX10_longest_16 rfl (nI_add j 1) (Nat.le_of_ble_eq_true rfl) rfl ?_
      refine g_goto 2 dX10_longest_19 (by decide) ?_
      refine g_mem (m1 := wI m (cpI (im m) (a + 7) (0) (j + 1) (fun _ => nI 0))) (wI_cp _ _ _ _ _ _ _ _ (by omega) (rfl)) ?_
      refine g_pick [0, 1] rfl ?_
      exact ih (j + 1) (by omega)
set_option maxRecDepth 100000 in
theorem lp_X10_longestC (g : Gp) (cs : Nat × Nat) {m : Mm} {a : Nat} (hM : MdOk m a) {n k : Nat} (hn : im m a 9 = nI n) (hk : im m a 10 = nI k) (hn2 : n ≤ 12) (hk2 : k ≤ 12) {u v : Nat → Int32} (hu : ∀ e, e < n → im m (a + 5) e = u e) (hv : ∀ e, e < k → im m (a + 6) e = v e) {Q : Rs → Mm → Prop} {r : Nat} (hr : r < n) (K : G g (MX10_longest cs) Q 137 [(1, .int (nI r)), (0, .ref a)] [] (0, 0) (wI m (cpI (im m) (a + 7) 0 169 (tb u v n k (r) (0))))) :
    ∀ j, j ≤ k → ∀ x, x = nI j - nI 1 → G g (MX10_longest cs) Q 40 [(2, .int x), (1, .int (nI r)), (0, .ref a)] [] (0, 0) (wI m (cpI (im m) (a + 7) 0 169 (tb u v n k (r) (j)))) := by
  intro j
  induction j with
  | zero =>
    intro _ x hx
    refine g_iload_n 2 dX10_longest_40 rfl rfl ?_
    refine g_if_lt 137 dX10_longest_41 (by decide) (fun h_41 => ?_) (fun h_41 => ?_)
    · exact g_pick [1, 2] rfl K
    · exact absurd (by rw [hx]; decide) h_41
  | succ j ih =>
    intro hj x hx
    obtain rfl : x = nI j := by rw [hx, pk_sub (by omega)]; rfl
    refine g_iload_n 2 dX10_longest_40 rfl rfl ?_
    refine gN_if_lt 137 dX10_longest_41 (by decide) (by omega) ?_
    refine g_aload_n 0 dX10_longest_44 rfl rfl ?_
    refine gN_getR (a + 7) flX10_28 (fun _ _ _ => rfl) 0 (hM.t) (hM.r11) dX10_longest_45 ?_
    refine gN_bipush 13 dX10_longest_48 (by decide) ?_
    refine g_iload_n 1 dX10_longest_50 rfl rfl ?_
    refine gN_iconst 1 dX10_longest_51 (by decide) ?_
    refine gN_iadd (r + 1) dX10_longest_52 rfl ?_
    refine gN_imul (13 * (r + 1)) dX10_longest_53 rfl ?_
    refine g_iload_n 2 dX10_longest_54 rfl rfl ?_
    refine gN_iadd ((13 * (r + 1)) + j) dX10_longest_55 rfl ?_
    have l1 := tt_le u v n k (r + 1) j
    have l2 := tt_le u v n k r (j + 1)
    have l3 := tt_le u v n k (r + 1) (j + 1)
    refine gN_iald 169 (hM.t7) (by omega) (by omega) dX10_longest_56 ?_
    refine g_ei (nI (tt u v n k (r + 1) j)) (im_tb m (a + 7) u v n k r (j + 1) (by omega) (Or.inl (by omega)) (by omega)) ?_
    refine g_istore_n 3 [(3, .int (nI (tt u v n k (r + 1) j))), (2, .int (nI (j))), (1, .int (nI (r))), (0, .ref (a))] dX10_longest_57 rfl (Nat.le_of_ble_eq_true rfl) rfl ?_
    refine g_aload_n 0 dX10_longest_58 rfl rfl ?_
    refine gN_getR (a + 7) flX10_28 (fun _ _ _ => rfl) 0 (hM.t) (hM.r11) dX10_longest_59 ?_
    refine gN_bipush 13 dX10_longest_62 (by decide) ?_
    refine g_iload_n 1 dX10_longest_64 rfl rfl ?_
    refine gN_imul (13 * r) dX10_longest_65 rfl ?_
    refine g_iload_n 2 dX10_longest_66 rfl rfl ?_
    refine gN_iadd ((13 * r) + j) dX10_longest_67 rfl ?_
    refine gN_iconst 1 dX10_longest_68 (by decide) ?_
    refine gN_iadd (((13 * r) + j) + 1) dX10_longest_69 rfl ?_
    refine gN_iald 169 (hM.t7) (by omega) (by omega) dX10_longest_70 ?_
    refine g_ei (nI (tt u v n k r (j + 1))) ((by have e8 := im_tb m (a + 7) u v n k r (j + 1) (x := r) (y := j + 1) (by omega) (Or.inr ⟨rfl, by omega⟩) (by omega); rw [← e8]; rfl)) ?_
    refine g_istore 4 [(4, .int (nI (tt u v n k r (j + 1)))), (3, .int (nI (tt u v n k (r + 1) j))), (2, .int (nI (j))), (1, .int (nI (r))), (0, .ref (a))] dX10_longest_71 (Nat.le_of_ble_eq_true rfl) rfl ?_
    refine g_aload_n 0 dX10_longest_73 rfl rfl ?_
    refine gN_getR (a + 7) flX10_28 (fun _ _ _ => rfl) 0 (hM.t) (hM.r11) dX10_longest_74 ?_
    refine gN_bipush 13 dX10_longest_77 (by decide) ?_
    refine g_iload_n 1 dX10_longest_79 rfl rfl ?_
    refine gN_imul (13 * r) dX10_longest_80 rfl ?_
    refine g_iload_n 2 dX10_longest_81 rfl rfl ?_
    refine gN_iadd ((13 * r) + j) dX10_longest_82 rfl ?_
    refine g_join 130 (tt u v n k r j) ?_ (fun K_130 => ?_)
    · refine gN_iast 169 (hM.t7) (by omega) (by omega) dX10_longest_130 ?_
      obtain ⟨v2_131, ev2_131⟩ : ∃ y : Int32, y = nI (j) + Int32.ofInt (-1) := ⟨_, rfl⟩
      refine g_iinc 2 v2_131 2 [(2, .int (v2_131)), (4, .int (nI (tt u v n k r (j + 1)))), (3, .int (nI (tt u v n k (r + 1) j))), (1, .int (nI (r))), (0, .ref (a))] dX10_longest_131 rfl ev2_131.symm (Nat.le_of_ble_eq_true rfl) rfl ?_
      refine g_goto 40 dX10_longest_134 (by decide) ?_
      refine g_mem (wI_tb m (a + 7) u v n k r j (by omega) (by omega) (by omega)) ?_
      refine g_pick [0, 3, 4] rfl ?_
      exact ih (by omega) _ (by rw [ev2_131, Int32.sub_eq_add_neg]; rfl)
    · refine g_aload_n 0 dX10_longest_83 rfl rfl ?_
      refine gN_getR (a + 5) flX10_22 (fun _ _ _ => rfl) 0 (hM.t) (hM.r7) dX10_longest_84 ?_
      refine g_iload_n 1 dX10_longest_87 rfl rfl ?_
      refine gN_iald 12 (hM.t5) (by omega) (by omega) dX10_longest_88 ?_
      refine g_aload_n 0 dX10_longest_89 rfl rfl ?_
      refine gN_getR (a + 6) flX10_25 (fun _ _ _ => rfl) 0 (hM.t) (hM.r8) dX10_longest_90 ?_
      refine g_iload_n 2 dX10_longest_93 rfl rfl ?_
      refine gN_iald 12 (hM.t6) (by omega) (by omega) dX10_longest_94 ?_
      rw [im_tbo m (a + 7) u v n k r (j + 1) (by omega), im_tbo m (a + 7) u v n k r (j + 1) (by omega), hu r hr, hv j (by omega)]
      refine g_icmp_ne 118 dX10_longest_95 (by decide) (fun h_95 => ?_) (fun h_95 => ?_)
      · refine g_iload_n 3 dX10_longest_118 rfl rfl ?_
        refine g_iload 4 dX10_longest_119 rfl ?_
        refine gN_icmp_le 128 dX10_longest_121 (by decide) (by omega) (by omega) (fun h_121 => ?_) (fun h_121 => ?_)
        · refine g_iload 4 dX10_longest_128 rfl ?_
          exact g_ei (nI (tt u v n k r j)) (congrArg nI (show tt u v n k r (j + 1) = tt u v n k r j from by first | exact tt_eq hr (by omega) h_95 | (have e9 := tt_ne hr (show j < k by omega) h_95; omega))) K_130
        · refine g_iload_n 3 dX10_longest_124 rfl rfl ?_
          refine g_goto 130 dX10_longest_125 (by decide) ?_
          exact g_ei (nI (tt u v n k r j)) (congrArg nI (show tt u v n k (r + 1) j = tt u v n k r j from by first | exact tt_eq hr (by omega) h_95 | (have e9 := tt_ne hr (show j < k by omega) h_95; omega))) K_130
      · refine g_aload_n 0 dX10_longest_98 rfl rfl ?_
        refine gN_getR (a + 7) flX10_28 (fun _ _ _ => rfl) 0 (hM.t) (hM.r11) dX10_longest_99 ?_
        refine gN_bipush 13 dX10_longest_102 (by decide) ?_
        refine g_iload_n 1 dX10_longest_104 rfl rfl ?_
        refine gN_iconst 1 dX10_longest_105 (by decide) ?_
        refine gN_iadd (r + 1) dX10_longest_106 rfl ?_
        refine gN_imul (13 * (r + 1)) dX10_longest_107 rfl ?_
        refine g_iload_n 2 dX10_longest_108 rfl rfl ?_
        refine gN_iadd ((13 * (r + 1)) + j) dX10_longest_109 rfl ?_
        refine gN_iconst 1 dX10_longest_110 (by decide) ?_
        refine gN_iadd (((13 * (r + 1)) + j) + 1) dX10_longest_111 rfl ?_
        refine gN_iald 169 (hM.t7) (by omega) (by omega) dX10_longest_112 ?_
        refine g_ei (nI (tt u v n k (r + 1) (j + 1))) ((by have e8 := im_tb m (a + 7) u v n k r (j + 1) (x := r + 1) (y := j + 1) (by omega) (Or.inl (by omega)) (by omega); rw [← e8]; rfl)) ?_
        refine gN_iconst 1 dX10_longest_113 (by decide) ?_
        refine gN_iadd ((tt u v n k (r + 1) (j + 1)) + 1) dX10_longest_114 rfl ?_
        refine g_goto 130 dX10_longest_115 (by decide) ?_
        exact g_ei (nI (tt u v n k r j)) (congrArg nI (show (tt u v n k (r + 1) (j + 1)) + 1 = tt u v n k r j from by first | exact tt_eq hr (by omega) h_95 | (have e9 := tt_ne hr (show j < k by omega) h_95; omega))) K_130
set_option maxRecDepth 100000 in
theorem lp_X10_longestB (g : Gp) (cs : Nat × Nat) {m : Mm} {a : Nat} (hM : MdOk m a) {n k : Nat} (hn : im m a 9 = nI n) (hk : im m a 10 = nI k) (hn2 : n ≤ 12) (hk2 : k ≤ 12) {u v : Nat → Int32} (hu : ∀ e, e < n → im m (a + 5) e = u e) (hv : ∀ e, e < k → im m (a + 6) e = v e) {Q : Rs → Mm → Prop} (K : ∀ x, G g (MX10_longest cs) Q 143 [(1, .int x), (0, .ref a)] [] (0, 0) (wI m (cpI (im m) (a + 7) 0 169 (tb u v n k (0) (0))))) :
    ∀ i, i ≤ n → ∀ x, x = nI i - nI 1 → G g (MX10_longest cs) Q 29 [(1, .int x), (0, .ref a)] [] (0, 0) (wI m (cpI (im m) (a + 7) 0 169 (tb u v n k (i) (0)))) := by
  intro i
  induction i with
  | zero =>
    intro _ x hx
    refine g_iload_n 1 dX10_longest_29 rfl rfl ?_
    refine g_if_lt 143 dX10_longest_30 (by decide) (fun h_30 => ?_) (fun h_30 => ?_)
    · exact K _
    · exact absurd (by rw [hx]; decide) h_30
  | succ i ih =>
    intro hi x hx
    obtain rfl : x = nI i := by rw [hx, pk_sub (by omega)]; rfl
    refine g_iload_n 1 dX10_longest_29 rfl rfl ?_
    refine gN_if_lt 143 dX10_longest_30 (by decide) (by omega) ?_
    refine g_aload_n 0 dX10_longest_33 rfl rfl ?_
    refine gN_getI flX10_52 rfl 0 (hM.t) dX10_longest_34 ?_
    refine g_ei (nI (k)) ((congrFun (im_tbo m (a + 7) u v n k (i + 1) 0 (by omega)) 10).trans hk) ?_
    refine gN_iconst 1 dX10_longest_37 (by decide) ?_
    refine g_isub dX10_longest_38 ?_
    refine g_topi (fun v2_39 ev2_39 => ?_)
    refine g_istore_n 2 [(2, .int (v2_39)), (1, .int (nI (i))), (0, .ref (a))] dX10_longest_39 rfl (Nat.le_of_ble_eq_true rfl) rfl ?_
    rw [tb_row u v n k i]
    refine lp_X10_longestC g cs hM hn hk hn2 hk2 hu hv (r := i) (by omega) ?_ k (Nat.le_refl k) _ ev2_39
    refine g_iinc 1 (nI i + Int32.ofInt (-1)) 0 [(1, .int (nI i + Int32.ofInt (-1))), (0, .ref a)] dX10_longest_137 rfl rfl (Nat.le_of_ble_eq_true rfl) rfl ?_
    refine g_goto 29 dX10_longest_140 (by decide) ?_
    exact ih (by omega) _ (by rw [Int32.sub_eq_add_neg]; rfl)
set_option maxRecDepth 100000 in
theorem lo_X10e (g : Gp) (cs : Nat × Nat) {m : Mm} {a : Nat} (hM : MdOk m a) {n k : Nat} (hn2 : n ≤ 12) (hk2 : k ≤ 12) {u v : Nat → Int32} (x : Int32) : G g (MX10_longest cs) (dQ (some (.int (nI (tt u v n k 0 0)))) (wI m (cpI (im m) (a + 7) 0 169 (tb u v n k (0) (0))))) 143 [(1, .int x), (0, .ref a)] [] (0, 0) (wI m (cpI (im m) (a + 7) 0 169 (tb u v n k (0) (0)))) := by
  refine g_aload_n 0 dX10_longest_143 rfl rfl ?_
  refine gN_getR (a + 7) flX10_28 (fun _ _ _ => rfl) 0 (hM.t) (hM.r11) dX10_longest_144 ?_
  refine gN_iconst 0 dX10_longest_147 (by decide) ?_
  refine gN_iald 169 (hM.t7) (by omega) (by omega) dX10_longest_148 ?_
  refine g_ei (nI (tt u v n k 0 0)) (im_tb m (a + 7) u v n k 0 0 (x := 0) (y := 0) (by omega) (Or.inr ⟨rfl, by omega⟩) (by omega)) ?_
  refine g_iret rfl dX10_longest_149 ⟨Nat.zero_le _, Nat.zero_le _⟩ ?_
  exact ⟨rfl, rfl⟩
set_option maxRecDepth 100000 in
theorem lo_X10 (g : Gp) (cs : Nat × Nat) {m : Mm} {a : Nat} (hM : MdOk m a) {n k : Nat} (hn : im m a 9 = nI n) (hk : im m a 10 = nI k) (hn2 : n ≤ 12) (hk2 : k ≤ 12) {u v : Nat → Int32} (hu : ∀ e, e < n → im m (a + 5) e = u e) (hv : ∀ e, e < k → im m (a + 6) e = v e) : G g (MX10_longest cs) (dQ (some (.int (nI (tt u v n k 0 0)))) (wI m (cpI (im m) (a + 7) 0 169 (tb u v n k (0) (0))))) 22 [(1, .int (nI 169)), (0, .ref a)] [] (0, 0) (wI m (cpI (im m) (a + 7) 0 169 (fun _ => nI 0))) := by
  refine g_aload_n 0 dX10_longest_22 rfl rfl ?_
  refine gN_getI flX10_49 rfl 0 (hM.t) dX10_longest_23 ?_
  refine g_ei (nI (n)) (by rw [im_wI, cpI_ne _ _ _ _ _ (by omega)]; exact hn) ?_
  refine gN_iconst 1 dX10_longest_26 (by decide) ?_
  refine g_isub dX10_longest_27 ?_
  refine g_topi (fun v1_28 ev1_28 => ?_)
  refine g_istore_n 1 [(1, .int (v1_28)), (0, .ref (a))] dX10_longest_28 rfl (Nat.le_of_ble_eq_true rfl) rfl ?_
  rw [← tb_0 u v n k]
  refine lp_X10_longestB g cs hM hn hk hn2 hk2 hu hv (fun x => ?_) n (Nat.le_refl n) _ ev1_28
  exact lo_X10e g cs hM hn2 hk2 x
set_option maxRecDepth 100000 in
theorem cn_X10_longest (g : Gp) (cs : Nat × Nat) {m : Mm} {a : Nat} (hM : MdOk m a) {n k : Nat} (hn : im m a 9 = nI n) (hk : im m a 10 = nI k) (hn2 : n ≤ 12) (hk2 : k ≤ 12) {u v : Nat → Int32} (hu : ∀ e, e < n → im m (a + 5) e = u e) (hv : ∀ e, e < k → im m (a + 6) e = v e) : Dn g (MX10_longest cs) [.ref (a)] m (some (.int (nI (tt u v n k 0 0)))) (wI m (cpI (im m) (a + 7) 0 169 (tb u v n k (0) (0)))) := by
  refine Cn.of pn_X10 (Nat.le_of_ble_eq_true rfl) rfl ?_
  refine gN_iconst 0 dX10_longest_0 (by decide) ?_
  refine g_istore_n 1 [(1, .int (nI (0))), (0, .ref (a))] dX10_longest_1 rfl (Nat.le_of_ble_eq_true rfl) rfl ?_
  refine g_mem (m1 := wI m (cpI (im m) (a + 7) 0 0 (fun _ => nI 0))) (by rw [cpI_0]; rfl) ?_
  refine lp_X10_longestA g cs hM ?_ 169 0 rfl
  exact lo_X10 g cs hM hn hk hn2 hk2 hu hv
