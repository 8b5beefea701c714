set_option maxRecDepth 100000 in
theorem lp_X10_firstOne (g : Gp) (cs : Nat × Nat) {m : Mm} {a : Nat} (hM : MdOk m a) {n : Nat} (hn : im m a 9 = nI n) (hn2 : n ≤ 12) {u : Nat → Int32} (hu : ∀ e, e < n → im m (a + 5) e = u e) (w : Int32) {i : Nat} (hi : i ≤ n) : ∀ d e : Nat, e + d = n → fs u w d e = fi u n w i → G g (MX10_firstOne cs) (dQ (some (.int (nI (fi u n w i)))) m) 2 [(3, .int (nI e)), (0, .ref a), (1, .int w), (2, .int (nI i))] [] (0, 0) m := by
  intro d
  induction d with
  | zero =>
    intro e he hR
    obtain rfl : e = n := he
    refine g_iload_n 3 dX10_firstOne_2 rfl rfl ?_
    refine g_aload_n 0 dX10_firstOne_3 rfl rfl ?_
    refine gN_getI flX10_49 rfl 0 (hM.t) dX10_firstOne_4 ?_
    refine g_ei (nI (e)) (hn) ?_
    refine gN_icmp_ge 26 dX10_firstOne_7 (by decide) (by first | omega | exact b01_lt _) (by first | omega | exact b01_lt _) (fun h_7 => ?_) (fun h_7 => ?_)
    · refine g_iload_n 3 dX10_firstOne_26 rfl rfl ?_
      refine g_iret rfl dX10_firstOne_27 ⟨Nat.zero_le _, Nat.zero_le _⟩ ?_
      exact ⟨by rw [← hR]; rfl, rfl⟩
    · exfalso; omega
  | succ d ih =>
    intro e he hR
    refine g_iload_n 3 dX10_firstOne_2 rfl rfl ?_
    refine g_aload_n 0 dX10_firstOne_3 rfl rfl ?_
    refine gN_getI flX10_49 rfl 0 (hM.t) dX10_firstOne_4 ?_
    refine g_ei (nI (n)) (hn) ?_
    refine gN_icmp_ge 26 dX10_firstOne_7 (by decide) (by first | omega | exact b01_lt _) (by first | omega | exact b01_lt _) (fun h_7 => ?_) (fun h_7 => ?_)
    · exfalso; omega
    · refine g_aload_n 0 dX10_firstOne_10 rfl rfl ?_
      refine gN_getR (a + 5) flX10_22 (fun _ _ _ => rfl) 0 (hM.t) (hM.r7) dX10_firstOne_11 ?_
      refine g_iload_n 3 dX10_firstOne_14 rfl rfl ?_
      refine gN_iald 12 (hM.t5) (by first | omega | exact b01_lt _) (by first | omega | exact b01_lt _) dX10_firstOne_15 ?_
      refine g_eI (u e) (hu e (by omega)) ?_
      refine g_iload_n 1 dX10_firstOne_16 rfl rfl ?_
      refine g_icmp_eq 26 dX10_firstOne_17 (by decide) (fun h_17 => ?_) (fun h_17 => ?_)
      · refine g_iload_n 3 dX10_firstOne_26 rfl rfl ?_
        refine g_iret rfl dX10_firstOne_27 ⟨Nat.zero_le _, Nat.zero_le _⟩ ?_
        exact ⟨by rw [← hR, fs_t h_17], rfl⟩
      · refine g_iinc 3 (nI (e + 1)) 0 [(3, .int (nI (e + 1))), (0, .ref (a)), (1, .int (w)), (2, .int (nI (i)))] dX10_firstOne_20 rfl (nI_add e 1) (Nat.le_of_ble_eq_true rfl) rfl ?_
        refine g_goto 2 dX10_firstOne_23 (by decide) ?_
        refine g_pick [0, 1, 2, 3] rfl ?_
        exact ih (e + 1) (by omega) (by rw [← hR, fs_f h_17])
set_option maxRecDepth 100000 in
theorem cn_X10_firstOne (g : Gp) (cs : Nat × Nat) {m : Mm} {a : Nat} (hM : MdOk m a) {n : Nat} (hn : im m a 9 = nI n) (hn2 : n ≤ 12) {u : Nat → Int32} (hu : ∀ e, e < n → im m (a + 5) e = u e) (w : Int32) {i : Nat} (hi : i ≤ n) : Dn g (MX10_firstOne cs) [.ref (a), .int (w), .int (nI (i))] m (some (.int (nI (fi u n w i)))) (m) := by
  refine Cn.of pn_X10 (Nat.le_of_ble_eq_true rfl) rfl ?_
  refine g_iload_n 2 dX10_firstOne_0 rfl rfl ?_
  refine g_istore_n 3 [(3, .int (nI (i))), (0, .ref (a)), (1, .int (w)), (2, .int (nI (i)))] dX10_firstOne_1 rfl (Nat.le_of_ble_eq_true rfl) rfl ?_
  exact lp_X10_firstOne g cs hM hn hn2 hu w hi (n - i) i (by omega) rfl
set_option maxRecDepth 100000 in
theorem lp_X10_firstOther (g : Gp) (cs : Nat × Nat) {m : Mm} {a : Nat} (hM : MdOk m a) {n : Nat} (hn : im m a 10 = nI n) (hn2 : n ≤ 12) {u : Nat → Int32} (hu : ∀ e, e < n → im m (a + 6) e = u e) (w : Int32) {i : Nat} (hi : i ≤ n) : ∀ d e : Nat, e + d = n → fs u w d e = fi u n w i → G g (MX10_firstOther cs) (dQ (some (.int (nI (fi u n w i)))) m) 2 [(3, .int (nI e)), (0, .ref a), (1, .int w), (2, .int (nI i))] [] (0, 0) m := by
  intro d
  induction d with
  | zero =>
    intro e he hR
    obtain rfl : e = n := he
    refine g_iload_n 3 dX10_firstOther_2 rfl rfl ?_
    refine g_aload_n 0 dX10_firstOther_3 rfl rfl ?_
    refine gN_getI flX10_52 rfl 0 (hM.t) dX10_firstOther_4 ?_
    refine g_ei (nI (e)) (hn) ?_
    refine gN_icmp_ge 26 dX10_firstOther_7 (by decide) (by first | omega | exact b01_lt _) (by first | omega | exact b01_lt _) (fun h_7 => ?_) (fun h_7 => ?_)
    · refine g_iload_n 3 dX10_firstOther_26 rfl rfl ?_
      refine g_iret rfl dX10_firstOther_27 ⟨Nat.zero_le _, Nat.zero_le _⟩ ?_
      exact ⟨by rw [← hR]; rfl, rfl⟩
    · exfalso; omega
  | succ d ih =>
    intro e he hR
    refine g_iload_n 3 dX10_firstOther_2 rfl rfl ?_
    refine g_aload_n 0 dX10_firstOther_3 rfl rfl ?_
    refine gN_getI flX10_52 rfl 0 (hM.t) dX10_firstOther_4 ?_
    refine g_ei (nI (n)) (hn) ?_
    refine gN_icmp_ge 26 dX10_firstOther_7 (by decide) (by first | omega | exact b01_lt _) (by first | omega | exact b01_lt _) (fun h_7 => ?_) (fun h_7 => ?_)
    · exfalso; omega
    · refine g_aload_n 0 dX10_firstOther_10 rfl rfl ?_
      refine gN_getR (a + 6) flX10_25 (fun _ _ _ => rfl) 0 (hM.t) (hM.r8) dX10_firstOther_11 ?_
      refine g_iload_n 3 dX10_firstOther_14 rfl rfl ?_
      refine gN_iald 12 (hM.t6) (by first | omega | exact b01_lt _) (by first | omega | exact b01_lt _) dX10_firstOther_15 ?_
      refine g_eI (u e) (hu e (by omega)) ?_
      refine g_iload_n 1 dX10_firstOther_16 rfl rfl ?_
      refine g_icmp_eq 26 dX10_firstOther_17 (by decide) (fun h_17 => ?_) (fun h_17 => ?_)
      · refine g_iload_n 3 dX10_firstOther_26 rfl rfl ?_
        refine g_iret rfl dX10_firstOther_27 ⟨Nat.zero_le _, Nat.zero_le _⟩ ?_
        exact ⟨by rw [← hR, fs_t h_17], rfl⟩
      · refine g_iinc 3 (nI (e + 1)) 0 [(3, .int (nI (e + 1))), (0, .ref (a)), (1, .int (w)), (2, .int (nI (i)))] dX10_firstOther_20 rfl (nI_add e 1) (Nat.le_of_ble_eq_true rfl) rfl ?_
        refine g_goto 2 dX10_firstOther_23 (by decide) ?_
        refine g_pick [0, 1, 2, 3] rfl ?_
        exact ih (e + 1) (by omega) (by rw [← hR, fs_f h_17])
set_option maxRecDepth 100000 in
theorem cn_X10_firstOther (g : Gp) (cs : Nat × Nat) {m : Mm} {a : Nat} (hM : MdOk m a) {n : Nat} (hn : im m a 10 = nI n) (hn2 : n ≤ 12) {u : Nat → Int32} (hu : ∀ e, e < n → im m (a + 6) e = u e) (w : Int32) {i : Nat} (hi : i ≤ n) : Dn g (MX10_firstOther cs) [.ref (a), .int (w), .int (nI (i))] m (some (.int (nI (fi u n w i)))) (m) := by
  refine Cn.of pn_X10 (Nat.le_of_ble_eq_true rfl) rfl ?_
  refine g_iload_n 2 dX10_firstOther_0 rfl rfl ?_
  refine g_istore_n 3 [(3, .int (nI (i))), (0, .ref (a)), (1, .int (w)), (2, .int (nI (i)))] dX10_firstOther_1 rfl (Nat.le_of_ble_eq_true rfl) rfl ?_
  exact lp_X10_firstOther g cs hM hn hn2 hu w hi (n - i) i (by omega) rfl
set_option maxRecDepth 100000 in
theorem lp_X10_commonOfa (g : Gp) (cs : Nat × Nat) {m : Mm} {a : Nat} (hM : MdOk m a) {n k : Nat} (hn : im m a 9 = nI n) (hk : im m a 10 = nI k) (hn2 : n ≤ 12) (hk2 : k ≤ 12) {u v : Nat → Int32} (hu : ∀ e, e < n → im m (a + 5) e = u e) (hv : ∀ e, e < k → im m (a + 6) e = v e) (ht : ∀ x y, x < 13 → y < 13 → im m (a + 7) (13 * x + y) = nI (tt u v n k x y)) {i j l t p s r : Nat} (hi : i ≤ n) (hj : j ≤ k) (hl : tt u v n k i j = l) (hl1 : 1 ≤ l) (hW : cw u v n k i j < 8) {Q : Rs → Mm → Prop} (K : G g (MX10_commonOf cs) Q 128 [(7, .int (nI (cw u v n k i j))), (4, .int (nI (l))), (5, .int (nI (i))), (6, .int (nI (j))), (8, .int (nI (t))), (3, .int (nI (p))), (0, .ref (a)), (1, .int (nI (s))), (2, .int (nI (r)))] [] (0, 0) m) : ∀ d w : Nat, w + d = 8 → lw (cwP u v n k i j) d w = cw u v n k i j → ∀ x : Int32, x + Int32.ofInt 1 = nI w → G g (MX10_commonOf cs) Q 53 [(7, .int (x)), (4, .int (nI (l))), (5, .int (nI (i))), (6, .int (nI (j))), (8, .int (nI (t))), (3, .int (nI (p))), (0, .ref (a)), (1, .int (nI (s))), (2, .int (nI (r)))] [] (0, 0) m := by
  have hl12 : l ≤ n := by rw [← hl]; exact tt_le _ _ _ _ _ _
  intro d
  induction d with
  | zero =>
    intro w hw hR x hx
    have h8 : w = cw u v n k i j := hR
    omega
  | succ d ih =>
    intro w hw hR x hx
    have f1 := fi_le u (nI w) hi
    have f2 := fi_le v (nI w) hj
    refine (?_ : G g (MX10_commonOf cs) Q 53 [(7, .int (x)), (4, .int (nI (l))), (5, .int (nI (i))), (6, .int (nI (j))), (8, .int (nI (t))), (3, .int (nI (p))), (0, .ref (a)), (1, .int (nI (s))), (2, .int (nI (r)))] [] (0, 0) m)
    obtain ⟨v7_53, ev7_53⟩ : ∃ y : Int32, y = x + Int32.ofInt (1) := ⟨_, rfl⟩
    refine g_iinc 7 v7_53 0 [(7, .int (v7_53)), (4, .int (nI (l))), (5, .int (nI (i))), (6, .int (nI (j))), (8, .int (nI (t))), (3, .int (nI (p))), (0, .ref (a)), (1, .int (nI (s))), (2, .int (nI (r)))] dX10_commonOf_53 rfl ev7_53.symm (Nat.le_of_ble_eq_true rfl) rfl ?_
    obtain rfl : v7_53 = nI w := ev7_53.trans hx
    refine g_aload_n 0 dX10_commonOf_56 rfl rfl ?_
    refine g_iload 7 dX10_commonOf_57 rfl ?_
    refine g_iload 5 dX10_commonOf_59 rfl ?_
    refine gd_callV _ _ _ _ (cn_X10_firstOne g (0, 0) hM hn hn2 hu (nI (w)) (i := i) hi) ⟨rfl, rfl⟩ (ok_X10_firstOne _) mlX10_198 in_X10_firstOne se_X10_firstOne 10 0 (hM.t) rfl rfl rfl ⟨Nat.le_of_ble_eq_true rfl, Nat.le_of_ble_eq_true rfl⟩ (by exact Nat.le_of_ble_eq_true rfl) ⟨Nat.zero_le _, Nat.zero_le _⟩ dX10_commonOf_61 rfl ?_
    refine g_istore 10 [(10, .int (nI (fi u n (nI (w)) i))), (7, .int (nI (w))), (4, .int (nI (l))), (5, .int (nI (i))), (6, .int (nI (j))), (8, .int (nI (t))), (3, .int (nI (p))), (0, .ref (a)), (1, .int (nI (s))), (2, .int (nI (r)))] dX10_commonOf_64 (Nat.le_of_ble_eq_true rfl) rfl ?_
    refine g_aload_n 0 dX10_commonOf_66 rfl rfl ?_
    refine g_iload 7 dX10_commonOf_67 rfl ?_
    refine g_iload 6 dX10_commonOf_69 rfl ?_
    refine gd_callV _ _ _ _ (cn_X10_firstOther g (0, 0) hM hk hk2 hv (nI (w)) (i := j) hj) ⟨rfl, rfl⟩ (ok_X10_firstOther _) mlX10_201 in_X10_firstOther se_X10_firstOther 10 0 (hM.t) rfl rfl rfl ⟨Nat.le_of_ble_eq_true rfl, Nat.le_of_ble_eq_true rfl⟩ (by exact Nat.le_of_ble_eq_true rfl) ⟨Nat.zero_le _, Nat.zero_le _⟩ dX10_commonOf_71 rfl ?_
    refine g_istore 11 [(11, .int (nI (fi v k (nI (w)) j))), (10, .int (nI (fi u n (nI (w)) i))), (7, .int (nI (w))), (4, .int (nI (l))), (5, .int (nI (i))), (6, .int (nI (j))), (8, .int (nI (t))), (3, .int (nI (p))), (0, .ref (a)), (1, .int (nI (s))), (2, .int (nI (r)))] dX10_commonOf_74 (Nat.le_of_ble_eq_true rfl) rfl ?_
    refine g_join 123 (b01 (cwP u v n k i j w)) ?_ (fun K_123 => ?_)
    · refine g_istore 9 [(9, .int (nI (b01 (cwP u v n k i j w)))), (11, .int (nI (fi v k (nI (w)) j))), (10, .int (nI (fi u n (nI (w)) i))), (7, .int (nI (w))), (4, .int (nI (l))), (5, .int (nI (i))), (6, .int (nI (j))), (8, .int (nI (t))), (3, .int (nI (p))), (0, .ref (a)), (1, .int (nI (s))), (2, .int (nI (r)))] dX10_commonOf_123 (Nat.le_of_ble_eq_true rfl) rfl ?_
      refine g_goto 48 dX10_commonOf_125 (by decide) ?_
      refine g_iload 9 dX10_commonOf_48 rfl ?_
      refine gN_if_ne 128 dX10_commonOf_50 (by decide) (by first | omega | exact b01_lt _ | (have := tt_le u v n k (fi u n (nI (w)) i + 1) (fi v k (nI (w)) j + 1); omega)) (fun h_50 => ?_) (fun h_50 => ?_)
      · have hP := b01_n.mp h_50
        have e9 : w = cw u v n k i j := by rw [← hR, lw_t hP]
        refine g_pick [3, 4, 5, 6, 7, 8, 9, 10, 11] rfl ?_
        rw [← e9] at K
        exact K
      · have hP := b01_z.mp h_50
        refine g_pick [3, 4, 5, 6, 7, 8, 9, 10, 11] rfl ?_
        exact ih (w + 1) (by omega) (by rw [← hR, lw_f hP]) (nI w) (nI_add w 1)
    · refine g_iload 10 dX10_commonOf_76 rfl ?_
      refine g_aload_n 0 dX10_commonOf_78 rfl rfl ?_
      refine gN_getI flX10_49 rfl 0 (hM.t) dX10_commonOf_79 ?_
      refine g_ei (nI (n)) (hn) ?_
      refine gN_icmp_ge 122 dX10_commonOf_82 (by decide) (by first | omega | exact b01_lt _ | (have := tt_le u v n k (fi u n (nI (w)) i + 1) (fi v k (nI (w)) j + 1); omega)) (by first | omega | exact b01_lt _ | (have := tt_le u v n k (fi u n (nI (w)) i + 1) (fi v k (nI (w)) j + 1); omega)) (fun h_82 => ?_) (fun h_82 => ?_)
      · refine gN_iconst 0 dX10_commonOf_122 (by decide) ?_
        exact g_ei (nI (b01 (cwP u v n k i j w))) (congrArg nI (show 0 = b01 (cwP u v n k i j w) from by first | exact (b01_t ⟨by omega, by omega, by omega⟩).symm | exact (b01_f (fun q => by obtain ⟨q1, q2, q3⟩ := q; omega)).symm)) K_123
      · refine g_iload 11 dX10_commonOf_85 rfl ?_
        refine g_aload_n 0 dX10_commonOf_87 rfl rfl ?_
        refine gN_getI flX10_52 rfl 0 (hM.t) dX10_commonOf_88 ?_
        refine g_ei (nI (k)) (hk) ?_
        refine gN_icmp_ge 122 dX10_commonOf_91 (by decide) (by first | omega | exact b01_lt _ | (have := tt_le u v n k (fi u n (nI (w)) i + 1) (fi v k (nI (w)) j + 1); omega)) (by first | omega | exact b01_lt _ | (have := tt_le u v n k (fi u n (nI (w)) i + 1) (fi v k (nI (w)) j + 1); omega)) (fun h_91 => ?_) (fun h_91 => ?_)
        · refine gN_iconst 0 dX10_commonOf_122 (by decide) ?_
          exact g_ei (nI (b01 (cwP u v n k i j w))) (congrArg nI (show 0 = b01 (cwP u v n k i j w) from by first | exact (b01_t ⟨by omega, by omega, by omega⟩).symm | exact (b01_f (fun q => by obtain ⟨q1, q2, q3⟩ := q; omega)).symm)) K_123
        · refine g_aload_n 0 dX10_commonOf_94 rfl rfl ?_
          refine gN_getR (a + 7) flX10_28 (fun _ _ _ => rfl) 0 (hM.t) (hM.r11) dX10_commonOf_95 ?_
          refine gN_bipush 13 dX10_commonOf_98 (by decide) ?_
          refine g_iload 10 dX10_commonOf_100 rfl ?_
          refine gN_iconst 1 dX10_commonOf_102 (by decide) ?_
          refine gN_iadd ((fi u n (nI (w)) i) + 1) dX10_commonOf_103 rfl ?_
          refine gN_imul (13 * ((fi u n (nI (w)) i) + 1)) dX10_commonOf_104 rfl ?_
          refine g_iload 11 dX10_commonOf_105 rfl ?_
          refine gN_iadd ((13 * ((fi u n (nI (w)) i) + 1)) + (fi v k (nI (w)) j)) dX10_commonOf_107 rfl ?_
          refine gN_iconst 1 dX10_commonOf_108 (by decide) ?_
          refine gN_iadd (((13 * ((fi u n (nI (w)) i) + 1)) + (fi v k (nI (w)) j)) + 1) dX10_commonOf_109 rfl ?_
          refine gN_iald 169 (hM.t7) (by first | omega | exact b01_lt _ | (have := tt_le u v n k (fi u n (nI (w)) i + 1) (fi v k (nI (w)) j + 1); omega)) (by first | omega | exact b01_lt _ | (have := tt_le u v n k (fi u n (nI (w)) i + 1) (fi v k (nI (w)) j + 1); omega)) dX10_commonOf_110 ?_
          refine g_ei (nI (tt u v n k (fi u n (nI (w)) i + 1) (fi v k (nI (w)) j + 1))) (ht (fi u n (nI (w)) i + 1) (fi v k (nI (w)) j + 1) (by omega) (by omega)) ?_
          refine g_iload 4 dX10_commonOf_111 rfl ?_
          refine gN_iconst 1 dX10_commonOf_113 (by decide) ?_
          refine gN_isub (l - 1) dX10_commonOf_114 (by first | omega | exact b01_lt _ | (have := tt_le u v n k (fi u n (nI (w)) i + 1) (fi v k (nI (w)) j + 1); omega)) rfl ?_
          refine gN_icmp_ne 122 dX10_commonOf_115 (by decide) (by first | omega | exact b01_lt _ | (have := tt_le u v n k (fi u n (nI (w)) i + 1) (fi v k (nI (w)) j + 1); omega)) (by first | omega | exact b01_lt _ | (have := tt_le u v n k (fi u n (nI (w)) i + 1) (fi v k (nI (w)) j + 1); omega)) (fun h_115 => ?_) (fun h_115 => ?_)
          · refine gN_iconst 0 dX10_commonOf_122 (by decide) ?_
            exact g_ei (nI (b01 (cwP u v n k i j w))) (congrArg nI (show 0 = b01 (cwP u v n k i j w) from by first | exact (b01_t ⟨by omega, by omega, by omega⟩).symm | exact (b01_f (fun q => by obtain ⟨q1, q2, q3⟩ := q; omega)).symm)) K_123
          · refine gN_iconst 1 dX10_commonOf_118 (by decide) ?_
            refine g_goto 123 dX10_commonOf_119 (by decide) ?_
            exact g_ei (nI (b01 (cwP u v n k i j w))) (congrArg nI (show 1 = b01 (cwP u v n k i j w) from by first | exact (b01_t ⟨by omega, by omega, by omega⟩).symm | exact (b01_f (fun q => by obtain ⟨q1, q2, q3⟩ := q; omega)).symm)) K_123
set_option maxRecDepth 100000 in
theorem lp_X10_commonOfb (g : Gp) (cs : Nat × Nat) {m : Mm} {a : Nat} (hM : MdOk m a) {n k : Nat} (hn : im m a 9 = nI n) (hk : im m a 10 = nI k) (hn2 : n ≤ 12) (hk2 : k ≤ 12) {u v : Nat → Int32} (hu : ∀ e, e < n → im m (a + 5) e = u e) (hv : ∀ e, e < k → im m (a + 6) e = v e) (ht : ∀ x y, x < 13 → y < 13 → im m (a + 7) (13 * x + y) = nI (tt u v n k x y)) (h7 : ∀ e, e < n → NR (u e) 0 7) {p s r : Nat} (hp : p < tt u v n k 0 0) {Q : Rs → Mm → Prop} (hQ : Q (.inl (some (.int (nI (cwt u v n k p))))) m) : ∀ d t : Nat, t + d = p + 1 → ∀ x : Int32, (t = p + 1 → x = nI (cwt u v n k p)) → ∀ l i j, l + t = tt u v n k 0 0 → i = (cws u v n k t).1 → j = (cws u v n k t).2 → G g (MX10_commonOf cs) Q 36 [(8, .int (nI (t))), (7, .int (x)), (4, .int (nI (l))), (5, .int (nI (i))), (6, .int (nI (j))), (3, .int (nI (p))), (0, .ref (a)), (1, .int (nI (s))), (2, .int (nI (r)))] [] (0, 0) m := by
  have hL : tt u v n k 0 0 ≤ n := tt_le _ _ _ _ _ _
  intro d
  induction d with
  | zero =>
    intro t ht2 x hx l i j hl hi0 hj0
    refine g_iload 8 dX10_commonOf_36 rfl ?_
    refine g_iload_n 3 dX10_commonOf_38 rfl rfl ?_
    refine gN_icmp_gt 161 dX10_commonOf_39 (by decide) (by first | omega | exact b01_lt _) (by first | omega | exact b01_lt _) (fun h_39 => ?_) (fun h_39 => ?_)
    · refine g_iload 7 dX10_commonOf_161 rfl ?_
      refine g_iret rfl dX10_commonOf_163 ⟨Nat.zero_le _, Nat.zero_le _⟩ ?_
      rw [hx (by omega)]; exact hQ
    · exfalso; omega
  | succ d ih =>
    intro t ht2 x hx l i j hl hi0 hj0
    obtain ⟨hi, hj, h3⟩ := cws_ok (v := v) (k := k) h7 t (by omega)
    rw [← hi0] at hi
    rw [← hj0] at hj
    rw [← hi0, ← hj0] at h3
    have hcw := cw_ok (v := v) hi hj h7 (by omega)
    obtain ⟨hW8, hP1, hP2, hP3⟩ := hcw
    refine g_iload 8 dX10_commonOf_36 rfl ?_
    refine g_iload_n 3 dX10_commonOf_38 rfl rfl ?_
    refine gN_icmp_gt 161 dX10_commonOf_39 (by decide) (by first | omega | exact b01_lt _) (by first | omega | exact b01_lt _) (fun h_39 => ?_) (fun h_39 => ?_)
    · exfalso; omega
    · refine g_iconst (-1) dX10_commonOf_42 (by decide) ?_
      refine g_topi (fun v7_43 ev7_43 => ?_)
      refine g_istore 7 [(7, .int (v7_43)), (8, .int (nI (t))), (4, .int (nI (l))), (5, .int (nI (i))), (6, .int (nI (j))), (3, .int (nI (p))), (0, .ref (a)), (1, .int (nI (s))), (2, .int (nI (r)))] dX10_commonOf_43 (Nat.le_of_ble_eq_true rfl) rfl ?_
      refine gN_iconst 0 dX10_commonOf_45 (by decide) ?_
      refine g_istore 9 [(9, .int (nI (0))), (7, .int (v7_43)), (8, .int (nI (t))), (4, .int (nI (l))), (5, .int (nI (i))), (6, .int (nI (j))), (3, .int (nI (p))), (0, .ref (a)), (1, .int (nI (s))), (2, .int (nI (r)))] dX10_commonOf_46 (Nat.le_of_ble_eq_true rfl) rfl ?_
      refine g_iload 9 dX10_commonOf_48 rfl ?_
      refine gN_if_ne 128 dX10_commonOf_50 (by decide) (by first | omega | exact b01_lt _) (fun h_50 => ?_) (fun h_50 => ?_)
      · exact absurd h_50 (by decide)
      · refine g_pick [1, 3, 4, 5, 2, 6, 7, 8, 9] rfl ?_
        refine lp_X10_commonOfa g cs hM hn hk hn2 hk2 hu hv ht hi hj (show tt u v n k i j = l by omega) (by omega) hW8 ?_ 8 0 rfl rfl _ (by first | (rw [ev7_43]; rfl) | rfl)
        refine g_aload_n 0 dX10_commonOf_128 rfl rfl ?_
        refine g_iload 7 dX10_commonOf_129 rfl ?_
        refine g_iload 5 dX10_commonOf_131 rfl ?_
        refine gd_callV _ _ _ _ (cn_X10_firstOne g (0, 0) hM hn hn2 hu (nI (cw u v n k i j)) (i := i) hi) ⟨rfl, rfl⟩ (ok_X10_firstOne _) mlX10_198 in_X10_firstOne se_X10_firstOne 10 0 (hM.t) rfl rfl rfl ⟨Nat.le_of_ble_eq_true rfl, Nat.le_of_ble_eq_true rfl⟩ (by exact Nat.le_of_ble_eq_true rfl) ⟨Nat.zero_le _, Nat.zero_le _⟩ dX10_commonOf_133 rfl ?_
        refine gN_iconst 1 dX10_commonOf_136 (by decide) ?_
        refine gN_iadd ((fi u n (nI (cw u v n k i j)) i) + 1) dX10_commonOf_137 rfl ?_
        refine g_istore 5 [(5, .int (nI ((fi u n (nI (cw u v n k i j)) i) + 1))), (7, .int (nI (cw u v n k i j))), (4, .int (nI (l))), (6, .int (nI (j))), (8, .int (nI (t))), (3, .int (nI (p))), (0, .ref (a)), (1, .int (nI (s))), (2, .int (nI (r)))] dX10_commonOf_138 (Nat.le_of_ble_eq_true rfl) rfl ?_
        refine g_aload_n 0 dX10_commonOf_140 rfl rfl ?_
        refine g_iload 7 dX10_commonOf_141 rfl ?_
        refine g_iload 6 dX10_commonOf_143 rfl ?_
        refine gd_callV _ _ _ _ (cn_X10_firstOther g (0, 0) hM hk hk2 hv (nI (cw u v n k i j)) (i := j) hj) ⟨rfl, rfl⟩ (ok_X10_firstOther _) mlX10_201 in_X10_firstOther se_X10_firstOther 10 0 (hM.t) rfl rfl rfl ⟨Nat.le_of_ble_eq_true rfl, Nat.le_of_ble_eq_true rfl⟩ (by exact Nat.le_of_ble_eq_true rfl) ⟨Nat.zero_le _, Nat.zero_le _⟩ dX10_commonOf_145 rfl ?_
        refine gN_iconst 1 dX10_commonOf_148 (by decide) ?_
        refine gN_iadd ((fi v k (nI (cw u v n k i j)) j) + 1) dX10_commonOf_149 rfl ?_
        refine g_istore 6 [(6, .int (nI ((fi v k (nI (cw u v n k i j)) j) + 1))), (5, .int (nI ((fi u n (nI (cw u v n k i j)) i) + 1))), (7, .int (nI (cw u v n k i j))), (4, .int (nI (l))), (8, .int (nI (t))), (3, .int (nI (p))), (0, .ref (a)), (1, .int (nI (s))), (2, .int (nI (r)))] dX10_commonOf_150 (Nat.le_of_ble_eq_true rfl) rfl ?_
        refine g_iinc 4 (nI (l - 1)) 3 [(4, .int (nI (l - 1))), (6, .int (nI ((fi v k (nI (cw u v n k i j)) j) + 1))), (5, .int (nI ((fi u n (nI (cw u v n k i j)) i) + 1))), (7, .int (nI (cw u v n k i j))), (8, .int (nI (t))), (3, .int (nI (p))), (0, .ref (a)), (1, .int (nI (s))), (2, .int (nI (r)))] dX10_commonOf_152 rfl (nI_dec1 (by first | omega | exact b01_lt _)) (Nat.le_of_ble_eq_true rfl) rfl ?_
        refine g_iinc 8 (nI (t + 1)) 4 [(8, .int (nI (t + 1))), (4, .int (nI (l - 1))), (6, .int (nI ((fi v k (nI (cw u v n k i j)) j) + 1))), (5, .int (nI ((fi u n (nI (cw u v n k i j)) i) + 1))), (7, .int (nI (cw u v n k i j))), (3, .int (nI (p))), (0, .ref (a)), (1, .int (nI (s))), (2, .int (nI (r)))] dX10_commonOf_155 rfl (nI_add t 1) (Nat.le_of_ble_eq_true rfl) rfl ?_
        refine g_goto 36 dX10_commonOf_158 (by decide) ?_
        refine g_pick [0, 4, 1, 3, 2, 5, 6, 7, 8] rfl ?_
        exact ih (t + 1) (by omega) _ (fun q => by (obtain rfl : t = p := by omega); rw [hi0, hj0]) (l - 1) _ _ (by omega) (by rw [hi0, hj0]; rfl) (by rw [hi0, hj0]; rfl)
theorem br_X10c {m : Mm} {a s r : Nat} {I : Nat → Nat → Int32} (hI : brI m a s I) : brI m a s (cpI (cpI (u2 I a 10 (nI (nv (im m (a + 1) (79 + 22 * r))))) (a + 6) 0 (nv (im m (a + 1) (79 + 22 * r))) (fun j => I (a + 1) (79 + 22 * r + 10 + j))) (a + 7) 0 169 (tb (fun e => im m (a + 1) (79 + 22 * s + 10 + e)) (fun e => im m (a + 1) (79 + 22 * r + 10 + e)) (nv (im m (a + 1) (79 + 22 * s))) (nv (im m (a + 1) (79 + 22 * r))) 0 0)) := by
  obtain ⟨h1, h2, h3⟩ := hI
  refine ⟨((h1.u2 _ (Or.inl ⟨rfl, Or.inr (Or.inl rfl)⟩)).cp _ (Or.inr (Or.inl rfl))).cp _ (Or.inr (Or.inr (Or.inl rfl))), ?_, fun e he => ?_⟩
  · rw [cpI_ne _ _ _ _ _ (by omega), cpI_ne _ _ _ _ _ (by omega), u2_n _ _ _ _ (by omega)]; exact h2
  · rw [cpI_ne _ _ _ _ _ (by omega), cpI_ne _ _ _ _ _ (by omega), u2_o _ _ _ _ (by omega)]; exact h3 e he
set_option maxRecDepth 100000 in
theorem cn_X10_commonOf (g : Gp) (cs : Nat × Nat) {m : Mm} {a : Nat} (hM : MdOk m a) {s r : Nat} (hs : s < 10) (hr : r < 10) (hn : RwOk (im m (a + 1)) (79 + 22 * s) 10) (hk : NR (im m (a + 1) (79 + 22 * r)) 1 12) (p : Nat) (hp : p < 2147483648) : En g (MX10_commonOf cs) [.ref a, .int (nI s), .int (nI r), .int (nI p)] m (some (.int (comV (im m (a + 1)) (79 + 22 * s) (79 + 22 * r) p))) (sc a (im m)) := by
  have hk1 := hk.lo
  have hk2 := hk.hi
  have hn1 := hn.1.lo
  have hn2 := hn.1.hi
  have hl : tt (fun e => im m (a + 1) (79 + 22 * s + 10 + e)) (fun e => im m (a + 1) (79 + 22 * r + 10 + e)) (nv (im m (a + 1) (79 + 22 * s))) (nv (im m (a + 1) (79 + 22 * r))) 0 0 ≤ nv (im m (a + 1) (79 + 22 * s)) := tt_le _ _ _ _ _ _
  refine Cn.of pn_X10 (Nat.le_of_ble_eq_true rfl) rfl ?_
  refine g_aload_n 0 dX10_commonOf_0 rfl rfl ?_
  refine g_iload_n 1 dX10_commonOf_1 rfl rfl ?_
  refine gd_callV _ _ _ _ (cn_X10_layOne g (0, 0) hM (n := nv (im m (a + 1) (79 + 22 * s))) hs hn.1.e hn2) ⟨rfl, rfl⟩ (ok_X10_layOne _) mlX10_62 in_X10_layOne se_X10_layOne 10 0 (hM.t) rfl rfl rfl ⟨Nat.le_of_ble_eq_true rfl, Nat.le_of_ble_eq_true rfl⟩ (by exact Nat.le_of_ble_eq_true rfl) ⟨Nat.zero_le _, Nat.zero_le _⟩ dX10_commonOf_2 rfl ?_
  refine g_hideI (P := brI m a s) br_0 (fun I hI => ?_)
  refine g_aload_n 0 dX10_commonOf_5 rfl rfl ?_
  refine g_iload_n 2 dX10_commonOf_6 rfl rfl ?_
  refine gd_callV _ _ _ _ (cn_X10_layOther g (0, 0) (m := wI m I) hM (s := r) (n := nv (im m (a + 1) (79 + 22 * r))) hr ((hI.1.zz _).trans hk.e) hk2) ⟨rfl, rfl⟩ (ok_X10_layOther _) mlX10_195 in_X10_layOther se_X10_layOther 10 0 (hM.t) rfl rfl rfl ⟨Nat.le_of_ble_eq_true rfl, Nat.le_of_ble_eq_true rfl⟩ (by exact Nat.le_of_ble_eq_true rfl) ⟨Nat.zero_le _, Nat.zero_le _⟩ dX10_commonOf_7 rfl ?_
  refine g_aload_n 0 dX10_commonOf_10 rfl rfl ?_
  have h9 : (cpI (u2 I a 10 (nI (nv (im m (a + 1) (79 + 22 * r))))) (a + 6) 0 (nv (im m (a + 1) (79 + 22 * r))) (fun j => I (a + 1) (79 + 22 * r + 10 + j))) a 9 = nI (nv (im m (a + 1) (79 + 22 * s))) := by rw [cpI_ne _ _ _ _ _ (by omega), u2_n _ _ _ _ (by omega)]; exact hI.2.1
  have h10 : (cpI (u2 I a 10 (nI (nv (im m (a + 1) (79 + 22 * r))))) (a + 6) 0 (nv (im m (a + 1) (79 + 22 * r))) (fun j => I (a + 1) (79 + 22 * r + 10 + j))) a 10 = nI (nv (im m (a + 1) (79 + 22 * r))) := by rw [cpI_ne _ _ _ _ _ (by omega), u2_s]
  have hu : ∀ e, e < nv (im m (a + 1) (79 + 22 * s)) → (cpI (u2 I a 10 (nI (nv (im m (a + 1) (79 + 22 * r))))) (a + 6) 0 (nv (im m (a + 1) (79 + 22 * r))) (fun j => I (a + 1) (79 + 22 * r + 10 + j))) (a + 5) e = (fun e => im m (a + 1) (79 + 22 * s + 10 + e)) e := fun e he => by rw [cpI_ne _ _ _ _ _ (by omega), u2_o _ _ _ _ (by omega)]; exact hI.2.2 e he
  have hv : ∀ e, e < nv (im m (a + 1) (79 + 22 * r)) → (cpI (u2 I a 10 (nI (nv (im m (a + 1) (79 + 22 * r))))) (a + 6) 0 (nv (im m (a + 1) (79 + 22 * r))) (fun j => I (a + 1) (79 + 22 * r + 10 + j))) (a + 6) e = (fun e => im m (a + 1) (79 + 22 * r + 10 + e)) e := fun e he => by rw [cpI_in _ _ _ _ _ (by omega) (by omega)]; exact hI.1.zz _
  refine gd_callV _ _ _ _ (cn_X10_longest g (0, 0) (m := wI m (cpI (u2 I a 10 (nI (nv (im m (a + 1) (79 + 22 * r))))) (a + 6) 0 (nv (im m (a + 1) (79 + 22 * r))) (fun j => I (a + 1) (79 + 22 * r + 10 + j)))) hM h9 h10 hn2 hk2 hu hv) ⟨rfl, rfl⟩ (ok_X10_longest _) mlX10_58 in_X10_longest se_X10_longest 10 0 (hM.t) rfl rfl rfl ⟨Nat.le_of_ble_eq_true rfl, Nat.le_of_ble_eq_true rfl⟩ (by exact Nat.le_of_ble_eq_true rfl) ⟨Nat.zero_le _, Nat.zero_le _⟩ dX10_commonOf_11 rfl ?_
  refine g_istore 4 [(4, .int (nI (tt (fun e => im m (a + 1) (79 + 22 * s + 10 + e)) (fun e => im m (a + 1) (79 + 22 * r + 10 + e)) (nv (im m (a + 1) (79 + 22 * s))) (nv (im m (a + 1) (79 + 22 * r))) 0 0))), (0, .ref (a)), (1, .int (nI (s))), (2, .int (nI (r))), (3, .int (nI (p)))] dX10_commonOf_14 (Nat.le_of_ble_eq_true rfl) rfl ?_
  refine g_iload_n 3 dX10_commonOf_16 rfl rfl ?_
  refine g_iload 4 dX10_commonOf_17 rfl ?_
  refine gN_icmp_lt 24 dX10_commonOf_19 (by decide) (by first | omega | exact b01_lt _) (by first | omega | exact b01_lt _) (fun h_19 => ?_) (fun h_19 => ?_)
  · refine gN_iconst 0 dX10_commonOf_24 (by decide) ?_
    refine g_istore 5 [(5, .int (nI (0))), (4, .int (nI (tt (fun e => im m (a + 1) (79 + 22 * s + 10 + e)) (fun e => im m (a + 1) (79 + 22 * r + 10 + e)) (nv (im m (a + 1) (79 + 22 * s))) (nv (im m (a + 1) (79 + 22 * r))) 0 0))), (0, .ref (a)), (1, .int (nI (s))), (2, .int (nI (r))), (3, .int (nI (p)))] dX10_commonOf_25 (Nat.le_of_ble_eq_true rfl) rfl ?_
    refine gN_iconst 0 dX10_commonOf_27 (by decide) ?_
    refine g_istore 6 [(6, .int (nI (0))), (5, .int (nI (0))), (4, .int (nI (tt (fun e => im m (a + 1) (79 + 22 * s + 10 + e)) (fun e => im m (a + 1) (79 + 22 * r + 10 + e)) (nv (im m (a + 1) (79 + 22 * s))) (nv (im m (a + 1) (79 + 22 * r))) 0 0))), (0, .ref (a)), (1, .int (nI (s))), (2, .int (nI (r))), (3, .int (nI (p)))] dX10_commonOf_28 (Nat.le_of_ble_eq_true rfl) rfl ?_
    refine g_iconst (-1) dX10_commonOf_30 (by decide) ?_
    refine g_topi (fun v7_31 ev7_31 => ?_)
    refine g_istore 7 [(7, .int (v7_31)), (6, .int (nI (0))), (5, .int (nI (0))), (4, .int (nI (tt (fun e => im m (a + 1) (79 + 22 * s + 10 + e)) (fun e => im m (a + 1) (79 + 22 * r + 10 + e)) (nv (im m (a + 1) (79 + 22 * s))) (nv (im m (a + 1) (79 + 22 * r))) 0 0))), (0, .ref (a)), (1, .int (nI (s))), (2, .int (nI (r))), (3, .int (nI (p)))] dX10_commonOf_31 (Nat.le_of_ble_eq_true rfl) rfl ?_
    refine gN_iconst 0 dX10_commonOf_33 (by decide) ?_
    refine g_istore 8 [(8, .int (nI (0))), (7, .int (v7_31)), (6, .int (nI (0))), (5, .int (nI (0))), (4, .int (nI (tt (fun e => im m (a + 1) (79 + 22 * s + 10 + e)) (fun e => im m (a + 1) (79 + 22 * r + 10 + e)) (nv (im m (a + 1) (79 + 22 * s))) (nv (im m (a + 1) (79 + 22 * r))) 0 0))), (0, .ref (a)), (1, .int (nI (s))), (2, .int (nI (r))), (3, .int (nI (p)))] dX10_commonOf_34 (Nat.le_of_ble_eq_true rfl) rfl ?_
    refine g_mem (m1 := wI m (cpI (cpI (u2 I a 10 (nI (nv (im m (a + 1) (79 + 22 * r))))) (a + 6) 0 (nv (im m (a + 1) (79 + 22 * r))) (fun j => I (a + 1) (79 + 22 * r + 10 + j))) (a + 7) 0 169 (tb (fun e => im m (a + 1) (79 + 22 * s + 10 + e)) (fun e => im m (a + 1) (79 + 22 * r + 10 + e)) (nv (im m (a + 1) (79 + 22 * s))) (nv (im m (a + 1) (79 + 22 * r))) 0 0))) rfl ?_
    refine g_pick [0, 1, 4, 3, 2, 8, 5, 6, 7] rfl ?_
    refine lp_X10_commonOfb g cs (m := wI m (cpI (cpI (u2 I a 10 (nI (nv (im m (a + 1) (79 + 22 * r))))) (a + 6) 0 (nv (im m (a + 1) (79 + 22 * r))) (fun j => I (a + 1) (79 + 22 * r + 10 + j))) (a + 7) 0 169 (tb (fun e => im m (a + 1) (79 + 22 * s + 10 + e)) (fun e => im m (a + 1) (79 + 22 * r + 10 + e)) (nv (im m (a + 1) (79 + 22 * s))) (nv (im m (a + 1) (79 + 22 * r))) 0 0))) hM (n := nv (im m (a + 1) (79 + 22 * s))) (k := nv (im m (a + 1) (79 + 22 * r))) (by rw [im_wI, cpI_ne _ _ _ _ _ (by omega)]; exact h9) (by rw [im_wI, cpI_ne _ _ _ _ _ (by omega)]; exact h10) hn2 hk2 (u := (fun e => im m (a + 1) (79 + 22 * s + 10 + e))) (v := (fun e => im m (a + 1) (79 + 22 * r + 10 + e))) (fun e he => by rw [im_wI, cpI_ne _ _ _ _ _ (by omega)]; exact hu e he) (fun e he => by rw [im_wI, cpI_ne _ _ _ _ _ (by omega)]; exact hv e he) (fun x y hx hy => im_tb (wI m (cpI (u2 I a 10 (nI (nv (im m (a + 1) (79 + 22 * r))))) (a + 6) 0 (nv (im m (a + 1) (79 + 22 * r))) (fun j => I (a + 1) (79 + 22 * r + 10 + j)))) (a + 7) (fun e => im m (a + 1) (79 + 22 * s + 10 + e)) (fun e => im m (a + 1) (79 + 22 * r + 10 + e)) (nv (im m (a + 1) (79 + 22 * s))) (nv (im m (a + 1) (79 + 22 * r))) 0 0 hy (by omega) (by omega)) hn.2 h_19 ?_ (p + 1) 0 (Nat.zero_add _) _ (fun q => by omega) _ _ _ (by omega) rfl rfl
    refine ⟨vI ?_, _, rfl, (br_X10c hI).1⟩
    unfold comV
    exact (if_pos h_19).symm
  · refine g_iconst (-1) dX10_commonOf_22 (by decide) ?_
    refine g_iret rfl dX10_commonOf_23 ⟨Nat.zero_le _, Nat.zero_le _⟩ ?_
    refine ⟨vI ?_, _, rfl, (br_X10c hI).1⟩
    unfold comV
    exact (if_neg (by omega)).symm
set_option maxRecDepth 100000 in
theorem cn_X10_common_1 (g : Gp) (cs : Nat × Nat) {m : Mm} {a : Nat} (hM : MdOk m a) {N : Nat} (hN : im m (a + 1) 0 = nI N) (hN9 : N ≤ 10) {p x y : Int32} (h : ¬ (inb p N ∧ inb x N)) : En g (MX10_common cs) [.ref (a), .int (p), .int (x), .int (y)] m (some (.int (nI 0))) (sc a (th m a 1)) := by
  refine Cn.of pn_X10 (Nat.le_of_ble_eq_true rfl) rfl ?_
  refine g_aload_n 0 dX10_common_0 rfl rfl ?_
  refine gN_iconst 0 dX10_common_1 (by decide) ?_
  refine gN_putI fwX10_34 rfl 0 (hM.t) dX10_common_2 ?_
  refine g_aload_n 0 dX10_common_5 rfl rfl ?_
  refine g_iload_n 1 dX10_common_6 rfl rfl ?_
  refine gd_callV _ _ _ _ (cn_X10_isSegment g (0, 0) (m := sI m a 6 (nI 0)) hM (N := N) ((th_z m a 0 0).trans hN) (by omega) (p)) ⟨rfl, rfl⟩ (ok_X10_isSegment _) mlX10_107 in_X10_isSegment se_X10_isSegment 10 0 (hM.t) rfl rfl rfl ⟨Nat.le_of_ble_eq_true rfl, Nat.le_of_ble_eq_true rfl⟩ (by exact Nat.le_of_ble_eq_true rfl) ⟨Nat.zero_le _, Nat.zero_le _⟩ dX10_common_7 rfl ?_
  refine gN_if_eq 21 dX10_common_10 (by decide) (by first | omega | exact b01_lt _) (fun h_10 => ?_) (fun h_10 => ?_)
  · refine g_aload_n 0 dX10_common_21 rfl rfl ?_
    refine gN_iconst 1 dX10_common_22 (by decide) ?_
    refine gd_callV _ _ _ _ (cn_X10_fails g (0, 0) (m := sI m a 6 (nI 0)) hM (nI (1))) ⟨rfl, rfl⟩ (ok_X10_fails _) mlX10_95 in_X10_fails se_X10_fails 10 0 (hM.t) rfl rfl rfl ⟨Nat.le_of_ble_eq_true rfl, Nat.le_of_ble_eq_true rfl⟩ (by exact Nat.le_of_ble_eq_true rfl) ⟨Nat.zero_le _, Nat.zero_le _⟩ dX10_common_23 rfl ?_
    refine g_iret rfl dX10_common_26 ⟨Nat.zero_le _, Nat.zero_le _⟩ ?_
    exact ⟨rfl, _, rfl, by rw [show im (sI m a 6 (nI 0)) = th m a 0 from rfl, th_th]; exact sc.rf⟩
  · refine g_aload_n 0 dX10_common_13 rfl rfl ?_
    refine g_iload_n 2 dX10_common_14 rfl rfl ?_
    refine gd_callV _ _ _ _ (cn_X10_isSegment g (0, 0) (m := sI m a 6 (nI 0)) hM (N := N) ((th_z m a 0 0).trans hN) (by omega) (x)) ⟨rfl, rfl⟩ (ok_X10_isSegment _) mlX10_107 in_X10_isSegment se_X10_isSegment 10 0 (hM.t) rfl rfl rfl ⟨Nat.le_of_ble_eq_true rfl, Nat.le_of_ble_eq_true rfl⟩ (by exact Nat.le_of_ble_eq_true rfl) ⟨Nat.zero_le _, Nat.zero_le _⟩ dX10_common_15 rfl ?_
    refine gN_if_ne 27 dX10_common_18 (by decide) (by first | omega | exact b01_lt _) (fun h_18 => ?_) (fun h_18 => ?_)
    · exact False.elim (h ⟨b01_n.mp h_10, b01_n.mp h_18⟩)
    · refine g_aload_n 0 dX10_common_21 rfl rfl ?_
      refine gN_iconst 1 dX10_common_22 (by decide) ?_
      refine gd_callV _ _ _ _ (cn_X10_fails g (0, 0) (m := sI m a 6 (nI 0)) hM (nI (1))) ⟨rfl, rfl⟩ (ok_X10_fails _) mlX10_95 in_X10_fails se_X10_fails 10 0 (hM.t) rfl rfl rfl ⟨Nat.le_of_ble_eq_true rfl, Nat.le_of_ble_eq_true rfl⟩ (by exact Nat.le_of_ble_eq_true rfl) ⟨Nat.zero_le _, Nat.zero_le _⟩ dX10_common_23 rfl ?_
      refine g_iret rfl dX10_common_26 ⟨Nat.zero_le _, Nat.zero_le _⟩ ?_
      exact ⟨rfl, _, rfl, by rw [show im (sI m a 6 (nI 0)) = th m a 0 from rfl, th_th]; exact sc.rf⟩
set_option maxRecDepth 100000 in
theorem cn_X10_common_2 (g : Gp) (cs : Nat × Nat) {m : Mm} {a : Nat} (hM : MdOk m a) {N : Nat} (hN : im m (a + 1) 0 = nI N) (hN9 : N ≤ 10) {s r : Nat} (hs : s < N) (hr : r < N) {x : Int32} (h : ¬ inb x 12) : En g (MX10_common cs) [.ref (a), .int (nI (s)), .int (nI (r)), .int (x)] m (some (.int (nI 0))) (sc a (th m a 2)) := by
  refine Cn.of pn_X10 (Nat.le_of_ble_eq_true rfl) rfl ?_
  refine g_aload_n 0 dX10_common_0 rfl rfl ?_
  refine gN_iconst 0 dX10_common_1 (by decide) ?_
  refine gN_putI fwX10_34 rfl 0 (hM.t) dX10_common_2 ?_
  refine g_aload_n 0 dX10_common_5 rfl rfl ?_
  refine g_iload_n 1 dX10_common_6 rfl rfl ?_
  refine gd_callV _ _ _ _ (cn_X10_isSegment g (0, 0) (m := sI m a 6 (nI 0)) hM (N := N) ((th_z m a 0 0).trans hN) (by omega) (nI (s))) ⟨rfl, rfl⟩ (ok_X10_isSegment _) mlX10_107 in_X10_isSegment se_X10_isSegment 10 0 (hM.t) rfl rfl rfl ⟨Nat.le_of_ble_eq_true rfl, Nat.le_of_ble_eq_true rfl⟩ (by exact Nat.le_of_ble_eq_true rfl) ⟨Nat.zero_le _, Nat.zero_le _⟩ dX10_common_7 rfl ?_
  refine gN_if_eq 21 dX10_common_10 (by decide) (by first | omega | exact b01_lt _) (fun h_10 => ?_) (fun h_10 => ?_)
  · exact False.elim (b01_z.mp h_10 ((inb_nI (by omega)).mpr hs))
  · refine g_aload_n 0 dX10_common_13 rfl rfl ?_
    refine g_iload_n 2 dX10_common_14 rfl rfl ?_
    refine gd_callV _ _ _ _ (cn_X10_isSegment g (0, 0) (m := sI m a 6 (nI 0)) hM (N := N) ((th_z m a 0 0).trans hN) (by omega) (nI (r))) ⟨rfl, rfl⟩ (ok_X10_isSegment _) mlX10_107 in_X10_isSegment se_X10_isSegment 10 0 (hM.t) rfl rfl rfl ⟨Nat.le_of_ble_eq_true rfl, Nat.le_of_ble_eq_true rfl⟩ (by exact Nat.le_of_ble_eq_true rfl) ⟨Nat.zero_le _, Nat.zero_le _⟩ dX10_common_15 rfl ?_
    refine gN_if_ne 27 dX10_common_18 (by decide) (by first | omega | exact b01_lt _) (fun h_18 => ?_) (fun h_18 => ?_)
    · refine g_iload_n 3 dX10_common_27 rfl rfl ?_
      refine gN_iconst 0 dX10_common_28 (by decide) ?_
      refine gN_bipush 11 dX10_common_29 (by decide) ?_
      refine gd_callS _ _ _ _ (cn_X10_in g (0, 0) _ (x) (nI (0)) (nI (11))) ⟨rfl, rfl⟩ (ok_X10_in _) mlX10_41 st_X10_in rfl ⟨Nat.le_of_ble_eq_true rfl, Nat.le_of_ble_eq_true rfl⟩ (by exact Nat.le_of_ble_eq_true rfl) ⟨Nat.zero_le _, Nat.zero_le _⟩ dX10_common_31 rfl ?_
      refine gN_if_eq 47 dX10_common_34 (by decide) (by first | omega | exact b01_lt _) (fun h_34 => ?_) (fun h_34 => ?_)
      · refine g_aload_n 0 dX10_common_47 rfl rfl ?_
        refine gN_iconst 2 dX10_common_48 (by decide) ?_
        refine gd_callV _ _ _ _ (cn_X10_fails g (0, 0) (m := sI m a 6 (nI 0)) hM (nI (2))) ⟨rfl, rfl⟩ (ok_X10_fails _) mlX10_95 in_X10_fails se_X10_fails 10 0 (hM.t) rfl rfl rfl ⟨Nat.le_of_ble_eq_true rfl, Nat.le_of_ble_eq_true rfl⟩ (by exact Nat.le_of_ble_eq_true rfl) ⟨Nat.zero_le _, Nat.zero_le _⟩ dX10_common_49 rfl ?_
        refine g_iret rfl dX10_common_52 ⟨Nat.zero_le _, Nat.zero_le _⟩ ?_
        exact ⟨rfl, _, rfl, by rw [show im (sI m a 6 (nI 0)) = th m a 0 from rfl, th_th]; exact sc.rf⟩
      · exact False.elim (h ((in_inb (n := 11) (by decide)).mp (b01_n.mp h_34)))
    · exact False.elim (b01_z.mp h_18 ((inb_nI (by omega)).mpr hr))
set_option maxRecDepth 100000 in
theorem cn_X10_common_0 (g : Gp) (cs : Nat × Nat) {m : Mm} {a : Nat} (hM : MdOk m a) {N : Nat} (hN : im m (a + 1) 0 = nI N) (hN9 : N ≤ 10) {s r : Nat} (hs : s < N) (hr : r < N) (hn : RwOk (im m (a + 1)) (79 + 22 * s) 10) (hk : NR (im m (a + 1) (79 + 22 * r)) 1 12) {w : Nat} (hw : w ≤ 11) : En g (MX10_common cs) [.ref (a), .int (nI (s)), .int (nI (r)), .int (nI (w))] m (some (.int (comV (im m (a + 1)) (79 + 22 * s) (79 + 22 * r) w))) (sc a (th m a 0)) := by
  refine Cn.of pn_X10 (Nat.le_of_ble_eq_true rfl) rfl ?_
  refine g_aload_n 0 dX10_common_0 rfl rfl ?_
  refine gN_iconst 0 dX10_common_1 (by decide) ?_
  refine gN_putI fwX10_34 rfl 0 (hM.t) dX10_common_2 ?_
  refine g_aload_n 0 dX10_common_5 rfl rfl ?_
  refine g_iload_n 1 dX10_common_6 rfl rfl ?_
  refine gd_callV _ _ _ _ (cn_X10_isSegment g (0, 0) (m := sI m a 6 (nI 0)) hM (N := N) ((th_z m a 0 0).trans hN) (by omega) (nI (s))) ⟨rfl, rfl⟩ (ok_X10_isSegment _) mlX10_107 in_X10_isSegment se_X10_isSegment 10 0 (hM.t) rfl rfl rfl ⟨Nat.le_of_ble_eq_true rfl, Nat.le_of_ble_eq_true rfl⟩ (by exact Nat.le_of_ble_eq_true rfl) ⟨Nat.zero_le _, Nat.zero_le _⟩ dX10_common_7 rfl ?_
  refine gN_if_eq 21 dX10_common_10 (by decide) (by first | omega | exact b01_lt _) (fun h_10 => ?_) (fun h_10 => ?_)
  · exact False.elim (b01_z.mp h_10 ((inb_nI (by omega)).mpr hs))
  · refine g_aload_n 0 dX10_common_13 rfl rfl ?_
    refine g_iload_n 2 dX10_common_14 rfl rfl ?_
    refine gd_callV _ _ _ _ (cn_X10_isSegment g (0, 0) (m := sI m a 6 (nI 0)) hM (N := N) ((th_z m a 0 0).trans hN) (by omega) (nI (r))) ⟨rfl, rfl⟩ (ok_X10_isSegment _) mlX10_107 in_X10_isSegment se_X10_isSegment 10 0 (hM.t) rfl rfl rfl ⟨Nat.le_of_ble_eq_true rfl, Nat.le_of_ble_eq_true rfl⟩ (by exact Nat.le_of_ble_eq_true rfl) ⟨Nat.zero_le _, Nat.zero_le _⟩ dX10_common_15 rfl ?_
    refine gN_if_ne 27 dX10_common_18 (by decide) (by first | omega | exact b01_lt _) (fun h_18 => ?_) (fun h_18 => ?_)
    · refine g_iload_n 3 dX10_common_27 rfl rfl ?_
      refine gN_iconst 0 dX10_common_28 (by decide) ?_
      refine gN_bipush 11 dX10_common_29 (by decide) ?_
      refine gd_callS _ _ _ _ (cn_X10_in g (0, 0) _ (nI (w)) (nI (0)) (nI (11))) ⟨rfl, rfl⟩ (ok_X10_in _) mlX10_41 st_X10_in rfl ⟨Nat.le_of_ble_eq_true rfl, Nat.le_of_ble_eq_true rfl⟩ (by exact Nat.le_of_ble_eq_true rfl) ⟨Nat.zero_le _, Nat.zero_le _⟩ dX10_common_31 rfl ?_
      refine gN_if_eq 47 dX10_common_34 (by decide) (by first | omega | exact b01_lt _) (fun h_34 => ?_) (fun h_34 => ?_)
      · exact False.elim (b01_z.mp h_34 ((in_inb (n := 11) (by decide)).mpr ((inb_nI (by omega)).mpr (by omega))))
      · refine g_aload_n 0 dX10_common_37 rfl rfl ?_
        refine g_iload_n 1 dX10_common_38 rfl rfl ?_
        refine g_iload_n 2 dX10_common_39 rfl rfl ?_
        refine g_iload_n 3 dX10_common_40 rfl rfl ?_
        refine ge_callV _ _ _ (cn_X10_commonOf g (0, 0) (m := sI m a 6 (nI 0)) hM (s := s) (r := r) (by omega) (by omega) (by rw [ze]; exact hn) (by rw [ze]; exact hk) w (by omega)) ⟨rfl, rfl⟩ (ok_X10_commonOf _) mlX10_204 in_X10_commonOf se_X10_commonOf 10 0 (hM.t) rfl rfl rfl ⟨Nat.le_of_ble_eq_true rfl, Nat.le_of_ble_eq_true rfl⟩ (by exact Nat.le_of_ble_eq_true rfl) ⟨Nat.zero_le _, Nat.zero_le _⟩ dX10_common_41 rfl (fun I1 hI1 => ?_)
        refine g_goto 52 dX10_common_44 (by decide) ?_
        refine g_iret rfl dX10_common_52 ⟨Nat.zero_le _, Nat.zero_le _⟩ ?_
        exact ⟨vI (by rw [ze]), I1, rfl, hI1⟩
    · exact False.elim (b01_z.mp h_18 ((inb_nI (by omega)).mpr hr))
