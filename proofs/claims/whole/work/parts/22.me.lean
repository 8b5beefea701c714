set_option maxRecDepth 100000 in
theorem lp_X10_unlike (g : Gp) (cs : Nat × Nat) {m : Mm} {a : Nat} (hM : MdOk m a) {w : Nat} (hw : w < 8) : ∀ d k : Nat, k + d = 4 → ∀ b, b = (ulF (fun t => im m (a + 1) (24 + 4 * w + t)) k).1 → G g (MX10_unlike cs) (dQ (some (.int (nI (unl (im m (a + 1)) w)))) m) 7 [(4, .int (nI k)), (3, .int (nI ((ulF (fun t => im m (a + 1) (24 + 4 * w + t)) k).2))), (2, .int b), (0, .ref a), (1, .int (nI w))] [] (0, 0) m := by
  intro d
  induction d with
  | zero =>
    intro k hk b hb
    obtain rfl : k = 4 := hk
    refine g_iload 4 dX10_unlike_7 rfl ?_
    refine gN_iconst 4 dX10_unlike_9 (by decide) ?_
    refine gN_icmp_ge 72 dX10_unlike_10 (by decide) (by omega) (by omega) (fun h_10 => ?_) (fun h_10 => ?_)
    · refine g_iload_n 3 dX10_unlike_72 rfl rfl ?_
      refine g_iret rfl dX10_unlike_73 ⟨Nat.zero_le _, Nat.zero_le _⟩ ?_
      exact ⟨rfl, rfl⟩
    · exact absurd h_10 (by decide)
  | succ d ih =>
    intro k hk b hb
    have l1 := ulF_le (fun t => im m (a + 1) (24 + 4 * w + t)) k
    refine g_iload 4 dX10_unlike_7 rfl ?_
    refine gN_iconst 4 dX10_unlike_9 (by decide) ?_
    refine gN_icmp_ge 72 dX10_unlike_10 (by decide) (by omega) (by omega) (fun h_10 => ?_) (fun h_10 => ?_)
    · exfalso; omega
    · refine g_aload_n 0 dX10_unlike_13 rfl rfl ?_
      refine gN_getR (a + 1) flX10_7 (fun _ _ _ => rfl) 0 (hM.t) (hM.r0) dX10_unlike_14 ?_
      refine g_iload_n 1 dX10_unlike_17 rfl rfl ?_
      refine g_iload 4 dX10_unlike_18 rfl ?_
      refine gd_callS _ _ _ _ (cn_X10_proposal g (0, 0) _ w k) ⟨rfl, rfl⟩ (ok_X10_proposal _) mlX10_84 st_X10_proposal rfl ⟨Nat.le_of_ble_eq_true rfl, Nat.le_of_ble_eq_true rfl⟩ (by exact Nat.le_of_ble_eq_true rfl) ⟨Nat.zero_le _, Nat.zero_le _⟩ dX10_unlike_20 rfl ?_
      refine gN_iald 689 (hM.t1) (by omega) (by omega) dX10_unlike_23 ?_
      refine g_topi (fun v5_24 ev5_24 => ?_)
      refine g_istore 5 [(5, .int (v5_24)), (4, .int (nI (k))), (3, .int (nI ((ulF (fun t => im m (a + 1) (24 + 4 * w + t)) k).2))), (2, .int (b)), (0, .ref (a)), (1, .int (nI (w)))] dX10_unlike_24 (Nat.le_of_ble_eq_true rfl) rfl ?_
      refine g_iload_n 3 dX10_unlike_26 rfl rfl ?_
      refine g_join 47 (b01 (¬ v5_24 = -1 ∧ (b >>> (v5_24 &&& 31)) &&& 1 = 0)) ?_ (fun K_47 => ?_)
      · refine gN_iadd (((ulF (fun t => im m (a + 1) (24 + 4 * w + t)) k).2) + (b01 (¬ v5_24 = -1 ∧ (b >>> (v5_24 &&& 31)) &&& 1 = 0))) dX10_unlike_47 rfl ?_
        refine g_istore_n 3 [(3, .int (nI (((ulF (fun t => im m (a + 1) (24 + 4 * w + t)) k).2) + (b01 (¬ v5_24 = -1 ∧ (b >>> (v5_24 &&& 31)) &&& 1 = 0))))), (5, .int (v5_24)), (4, .int (nI (k))), (2, .int (b)), (0, .ref (a)), (1, .int (nI (w)))] dX10_unlike_48 rfl (Nat.le_of_ble_eq_true rfl) rfl ?_
        refine g_iload_n 2 dX10_unlike_49 rfl rfl ?_
        refine g_iload 5 dX10_unlike_50 rfl ?_
        refine g_iconst (-1) dX10_unlike_52 (by decide) ?_
        refine g_icmp_ne 60 dX10_unlike_53 (by decide) (fun h_53 => ?_) (fun h_53 => ?_)
        · refine gN_iconst 1 dX10_unlike_60 (by decide) ?_
          refine g_iload 5 dX10_unlike_61 rfl ?_
          refine g_ishl dX10_unlike_63 ?_
          refine g_ior dX10_unlike_64 ?_
          refine g_topi (fun v2_65 ev2_65 => ?_)
          refine g_istore_n 2 [(2, .int (v2_65)), (3, .int (nI (((ulF (fun t => im m (a + 1) (24 + 4 * w + t)) k).2) + (b01 (¬ v5_24 = -1 ∧ (b >>> (v5_24 &&& 31)) &&& 1 = 0))))), (5, .int (v5_24)), (4, .int (nI (k))), (0, .ref (a)), (1, .int (nI (w)))] dX10_unlike_65 rfl (Nat.le_of_ble_eq_true rfl) rfl ?_
          refine g_iinc 4 (nI (k + 1)) 3 [(4, .int (nI (k + 1))), (2, .int (v2_65)), (3, .int (nI (((ulF (fun t => im m (a + 1) (24 + 4 * w + t)) k).2) + (b01 (¬ v5_24 = -1 ∧ (b >>> (v5_24 &&& 31)) &&& 1 = 0))))), (5, .int (v5_24)), (0, .ref (a)), (1, .int (nI (w)))] dX10_unlike_66 rfl (nI_add k 1) (Nat.le_of_ble_eq_true rfl) rfl ?_
          refine g_goto 7 dX10_unlike_69 (by decide) ?_
          refine g_pick [0, 2, 1, 4, 5] rfl ?_
          subst ev5_24
          subst hb
          exact ih (k + 1) (by omega) _ (by rw [ev2_65]; show _ = ulS _ _; unfold ulS; first | (rw [if_pos h_53]; rfl) | (rw [if_neg h_53]; rfl))
        · refine gN_iconst 0 dX10_unlike_56 (by decide) ?_
          refine g_goto 64 dX10_unlike_57 (by decide) ?_
          refine g_ior dX10_unlike_64 ?_
          refine g_topi (fun v2_65 ev2_65 => ?_)
          refine g_istore_n 2 [(2, .int (v2_65)), (3, .int (nI (((ulF (fun t => im m (a + 1) (24 + 4 * w + t)) k).2) + (b01 (¬ v5_24 = -1 ∧ (b >>> (v5_24 &&& 31)) &&& 1 = 0))))), (5, .int (v5_24)), (4, .int (nI (k))), (0, .ref (a)), (1, .int (nI (w)))] dX10_unlike_65 rfl (Nat.le_of_ble_eq_true rfl) rfl ?_
          refine g_iinc 4 (nI (k + 1)) 3 [(4, .int (nI (k + 1))), (2, .int (v2_65)), (3, .int (nI (((ulF (fun t => im m (a + 1) (24 + 4 * w + t)) k).2) + (b01 (¬ v5_24 = -1 ∧ (b >>> (v5_24 &&& 31)) &&& 1 = 0))))), (5, .int (v5_24)), (0, .ref (a)), (1, .int (nI (w)))] dX10_unlike_66 rfl (nI_add k 1) (Nat.le_of_ble_eq_true rfl) rfl ?_
          refine g_goto 7 dX10_unlike_69 (by decide) ?_
          refine g_pick [0, 2, 1, 4, 5] rfl ?_
          subst ev5_24
          subst hb
          exact ih (k + 1) (by omega) _ (by rw [ev2_65]; show _ = ulS _ _; unfold ulS; first | (rw [if_pos h_53]; rfl) | (rw [if_neg h_53]; rfl))
      · refine g_iload 5 dX10_unlike_27 rfl ?_
        refine g_iconst (-1) dX10_unlike_29 (by decide) ?_
        refine g_icmp_eq 46 dX10_unlike_30 (by decide) (fun h_30 => ?_) (fun h_30 => ?_)
        · refine gN_iconst 0 dX10_unlike_46 (by decide) ?_
          exact g_ei (nI (b01 (¬ v5_24 = -1 ∧ (b >>> (v5_24 &&& 31)) &&& 1 = 0))) (congrArg nI (show 0 = b01 (¬ v5_24 = -1 ∧ (b >>> (v5_24 &&& 31)) &&& 1 = 0) from by first | exact (b01_t (by first | exact ⟨h_30, h_39⟩ | (constructor <;> assumption))).symm | exact (b01_f (by first | exact fun q => q.1 h_30 | exact fun q => h_39 q.2)).symm)) K_47
        · refine g_iload_n 2 dX10_unlike_33 rfl rfl ?_
          refine g_iload 5 dX10_unlike_34 rfl ?_
          refine g_ishr dX10_unlike_36 ?_
          refine gN_iconst 1 dX10_unlike_37 (by decide) ?_
          refine g_iand dX10_unlike_38 ?_
          refine g_if_ne 46 dX10_unlike_39 (by decide) (fun h_39 => ?_) (fun h_39 => ?_)
          · refine gN_iconst 0 dX10_unlike_46 (by decide) ?_
            exact g_ei (nI (b01 (¬ v5_24 = -1 ∧ (b >>> (v5_24 &&& 31)) &&& 1 = 0))) (congrArg nI (show 0 = b01 (¬ v5_24 = -1 ∧ (b >>> (v5_24 &&& 31)) &&& 1 = 0) from by first | exact (b01_t (by first | exact ⟨h_30, h_39⟩ | (constructor <;> assumption))).symm | exact (b01_f (by first | exact fun q => q.1 h_30 | exact fun q => h_39 q.2)).symm)) K_47
          · refine gN_iconst 1 dX10_unlike_42 (by decide) ?_
            refine g_goto 47 dX10_unlike_43 (by decide) ?_
            exact g_ei (nI (b01 (¬ v5_24 = -1 ∧ (b >>> (v5_24 &&& 31)) &&& 1 = 0))) (congrArg nI (show 1 = b01 (¬ v5_24 = -1 ∧ (b >>> (v5_24 &&& 31)) &&& 1 = 0) from by first | exact (b01_t (by first | exact ⟨h_30, h_39⟩ | (constructor <;> assumption))).symm | exact (b01_f (by first | exact fun q => q.1 h_30 | exact fun q => h_39 q.2)).symm)) K_47
set_option maxRecDepth 100000 in
theorem cn_X10_unlike (g : Gp) (cs : Nat × Nat) {m : Mm} {a : Nat} (hM : MdOk m a) {w : Nat} (hw : w < 8) : Dn g (MX10_unlike cs) [.ref (a), .int (nI (w))] m (some (.int (nI (unl (im m (a + 1)) w)))) (m) := by
  refine Cn.of pn_X10 (Nat.le_of_ble_eq_true rfl) rfl ?_
  refine gN_iconst 0 dX10_unlike_0 (by decide) ?_
  refine g_istore_n 2 [(2, .int (nI (0))), (0, .ref (a)), (1, .int (nI (w)))] dX10_unlike_1 rfl (Nat.le_of_ble_eq_true rfl) rfl ?_
  refine gN_iconst 0 dX10_unlike_2 (by decide) ?_
  refine g_istore_n 3 [(3, .int (nI (0))), (2, .int (nI (0))), (0, .ref (a)), (1, .int (nI (w)))] dX10_unlike_3 rfl (Nat.le_of_ble_eq_true rfl) rfl ?_
  refine gN_iconst 0 dX10_unlike_4 (by decide) ?_
  refine g_istore 4 [(4, .int (nI (0))), (3, .int (nI (0))), (2, .int (nI (0))), (0, .ref (a)), (1, .int (nI (w)))] dX10_unlike_5 (Nat.le_of_ble_eq_true rfl) rfl ?_
  exact lp_X10_unlike g cs hM hw 4 0 rfl _ rfl
set_option maxRecDepth 100000 in
theorem cn_X10_isDisputed (g : Gp) (cs : Nat × Nat) {m : Mm} {a : Nat} (hM : MdOk m a) {w : Nat} (hw : w < 8) : Dn g (MX10_isDisputed cs) [.ref (a), .int (nI (w))] m (some (.int (nI (b01 (dsp (im m (a + 1)) w))))) (m) := by
  have l1 := unl_le (im m (a + 1)) w
  refine Cn.of pn_X10 (Nat.le_of_ble_eq_true rfl) rfl ?_
  refine g_aload_n 0 dX10_isDisputed_0 rfl rfl ?_
  refine gN_getR (a + 1) flX10_7 (fun _ _ _ => rfl) 0 (hM.t) (hM.r0) dX10_isDisputed_1 ?_
  refine gN_bipush 56 dX10_isDisputed_4 (by decide) ?_
  refine g_iload_n 1 dX10_isDisputed_6 rfl rfl ?_
  refine gN_iadd (56 + w) dX10_isDisputed_7 rfl ?_
  refine gN_iald 689 (hM.t1) (by omega) (by omega) dX10_isDisputed_8 ?_
  refine g_iconst (-1) dX10_isDisputed_9 (by decide) ?_
  refine g_icmp_eq 15 dX10_isDisputed_10 (by decide) (fun h_10 => ?_) (fun h_10 => ?_)
  · refine g_aload_n 0 dX10_isDisputed_15 rfl rfl ?_
    refine g_iload_n 1 dX10_isDisputed_16 rfl rfl ?_
    refine gd_callV _ _ _ _ (cn_X10_unlike g (0, 0) hM hw) ⟨rfl, rfl⟩ (ok_X10_unlike _) mlX10_81 in_X10_unlike se_X10_unlike 10 0 (hM.t) rfl rfl rfl ⟨Nat.le_of_ble_eq_true rfl, Nat.le_of_ble_eq_true rfl⟩ (by exact Nat.le_of_ble_eq_true rfl) ⟨Nat.zero_le _, Nat.zero_le _⟩ dX10_isDisputed_17 rfl ?_
    refine gN_iconst 1 dX10_isDisputed_20 (by decide) ?_
    refine gN_icmp_le 28 dX10_isDisputed_21 (by decide) (by omega) (by omega) (fun h_21 => ?_) (fun h_21 => ?_)
    · refine gN_iconst 0 dX10_isDisputed_28 (by decide) ?_
      refine g_zret rfl (by first | rfl | exact nar_b01 _) dX10_isDisputed_29 ⟨Nat.zero_le _, Nat.zero_le _⟩ ?_
      exact ⟨by rw [b01_f (show ¬ dsp (im m (a + 1)) w from fun q => by first | exact h_10 q.1 | (have := q.2; omega))], rfl⟩
    · refine gN_iconst 1 dX10_isDisputed_24 (by decide) ?_
      refine g_goto 29 dX10_isDisputed_25 (by decide) ?_
      refine g_zret rfl (by first | rfl | exact nar_b01 _) dX10_isDisputed_29 ⟨Nat.zero_le _, Nat.zero_le _⟩ ?_
      exact ⟨by rw [b01_t (show dsp (im m (a + 1)) w from ⟨h_10, h_21⟩)], rfl⟩
  · refine gN_iconst 0 dX10_isDisputed_13 (by decide) ?_
    refine g_zret rfl (by first | rfl | exact nar_b01 _) dX10_isDisputed_14 ⟨Nat.zero_le _, Nat.zero_le _⟩ ?_
    exact ⟨by rw [b01_f (show ¬ dsp (im m (a + 1)) w from fun q => by first | exact h_10 q.1 | (have := q.2; omega))], rfl⟩
set_option maxRecDepth 100000 in
theorem lp_X10_hasDisputed (g : Gp) (cs : Nat × Nat) {m : Mm} {a : Nat} (hM : MdOk m a) {s : Nat} (hs : s < 10) (hr : RwOk (im m (a + 1)) (79 + 22 * s) 10) : ∀ d k : Nat, k + d = nv (im m (a + 1) (79 + 22 * s)) → G g (MX10_hasDisputed cs) (dQ (some (.int (nI (b01 (hdp (im m (a + 1)) (79 + 22 * s)))))) m) 4 [(3, .int (nI k)), (2, .int (nI (b01 (∃ e, e < k ∧ dsp (im m (a + 1)) (nv (im m (a + 1) (79 + 22 * s + 10 + e))))))), (0, .ref a), (1, .int (nI s))] [] (0, 0) m := by
  have hn2 := hr.1.hi
  intro d
  induction d with
  | zero =>
    intro k hk
    obtain rfl : k = nv (im m (a + 1) (79 + 22 * s)) := hk
    refine g_iload_n 3 dX10_hasDisputed_4 rfl rfl ?_
    refine g_aload_n 0 dX10_hasDisputed_5 rfl rfl ?_
    refine gN_getR (a + 1) flX10_7 (fun _ _ _ => rfl) 0 (hM.t) (hM.r0) dX10_hasDisputed_6 ?_
    refine g_iload_n 1 dX10_hasDisputed_9 rfl rfl ?_
    refine gd_callS _ _ _ _ (cn_X10_at g (0, 0) _ s) ⟨rfl, rfl⟩ (ok_X10_at _) mlX10_45 st_X10_at rfl ⟨Nat.le_of_ble_eq_true rfl, Nat.le_of_ble_eq_true rfl⟩ (by exact Nat.le_of_ble_eq_true rfl) ⟨Nat.zero_le _, Nat.zero_le _⟩ dX10_hasDisputed_10 rfl ?_
    refine gN_iald 689 (hM.t1) (by omega) (by omega) dX10_hasDisputed_13 ?_
    refine g_ei (nI (nv (im m (a + 1) (79 + 22 * s)))) (hr.1.e) ?_
    refine gN_icmp_ge 54 dX10_hasDisputed_14 (by decide) (by omega) (by omega) (fun h_14 => ?_) (fun h_14 => ?_)
    · refine g_iload_n 2 dX10_hasDisputed_54 rfl rfl ?_
      refine g_zret rfl (by first | rfl | exact nar_b01 _) dX10_hasDisputed_55 ⟨Nat.zero_le _, Nat.zero_le _⟩ ?_
      exact ⟨rfl, rfl⟩
    · exfalso; omega
  | succ d ih =>
    intro k hk
    have hk1 : k < nv (im m (a + 1) (79 + 22 * s)) := by omega
    have hw := hr.2 k hk1
    have hw2 := hw.hi
    have hE := b01_lt (∃ e, e < k ∧ dsp (im m (a + 1)) (nv (im m (a + 1) (79 + 22 * s + 10 + e))))
    have hD := b01_lt (dsp (im m (a + 1)) (nv (im m (a + 1) (79 + 22 * s + 10 + k))))
    refine g_iload_n 3 dX10_hasDisputed_4 rfl rfl ?_
    refine g_aload_n 0 dX10_hasDisputed_5 rfl rfl ?_
    refine gN_getR (a + 1) flX10_7 (fun _ _ _ => rfl) 0 (hM.t) (hM.r0) dX10_hasDisputed_6 ?_
    refine g_iload_n 1 dX10_hasDisputed_9 rfl rfl ?_
    refine gd_callS _ _ _ _ (cn_X10_at g (0, 0) _ s) ⟨rfl, rfl⟩ (ok_X10_at _) mlX10_45 st_X10_at rfl ⟨Nat.le_of_ble_eq_true rfl, Nat.le_of_ble_eq_true rfl⟩ (by exact Nat.le_of_ble_eq_true rfl) ⟨Nat.zero_le _, Nat.zero_le _⟩ dX10_hasDisputed_10 rfl ?_
    refine gN_iald 689 (hM.t1) (by omega) (by omega) dX10_hasDisputed_13 ?_
    refine g_ei (nI (nv (im m (a + 1) (79 + 22 * s)))) (hr.1.e) ?_
    refine gN_icmp_ge 54 dX10_hasDisputed_14 (by decide) (by omega) (by omega) (fun h_14 => ?_) (fun h_14 => ?_)
    · exfalso; omega
    · refine g_join 47 (b01 (∃ e, e < (k + 1) ∧ dsp (im m (a + 1)) (nv (im m (a + 1) (79 + 22 * s + 10 + e))))) ?_ (fun K_47 => ?_)
      · refine g_istore_n 2 [(2, .int (nI (b01 (∃ e, e < (k + 1) ∧ dsp (im m (a + 1)) (nv (im m (a + 1) (79 + 22 * s + 10 + e))))))), (3, .int (nI (k))), (0, .ref (a)), (1, .int (nI (s)))] dX10_hasDisputed_47 rfl (Nat.le_of_ble_eq_true rfl) rfl ?_
        refine g_iinc 3 (nI (k + 1)) 1 [(3, .int (nI (k + 1))), (2, .int (nI (b01 (∃ e, e < (k + 1) ∧ dsp (im m (a + 1)) (nv (im m (a + 1) (79 + 22 * s + 10 + e))))))), (0, .ref (a)), (1, .int (nI (s)))] dX10_hasDisputed_48 rfl (nI_add k 1) (Nat.le_of_ble_eq_true rfl) rfl ?_
        refine g_goto 4 dX10_hasDisputed_51 (by decide) ?_
        refine g_pick [0, 1, 2, 3] rfl ?_
        exact ih (k + 1) (by omega)
      · refine g_iload_n 2 dX10_hasDisputed_17 rfl rfl ?_
        refine gN_if_ne 42 dX10_hasDisputed_18 (by decide) (by omega) (fun h_18 => ?_) (fun h_18 => ?_)
        · refine gN_iconst 1 dX10_hasDisputed_42 (by decide) ?_
          refine g_goto 47 dX10_hasDisputed_43 (by decide) ?_
          exact g_ei (nI (b01 (∃ e, e < (k + 1) ∧ dsp (im m (a + 1)) (nv (im m (a + 1) (79 + 22 * s + 10 + e)))))) (congrArg nI (show 1 = b01 (∃ e, e < (k + 1) ∧ dsp (im m (a + 1)) (nv (im m (a + 1) (79 + 22 * s + 10 + e)))) from by first | exact (b01_t ((hdp_s (k := k)).mpr (Or.inl (b01_n.mp h_18)))).symm | exact (b01_t ((hdp_s (k := k)).mpr (Or.inr (b01_n.mp h_39)))).symm | exact (b01_f (fun q => ((hdp_s (k := k)).mp q).elim (b01_z.mp h_18) (b01_z.mp h_39))).symm)) K_47
        · refine g_aload_n 0 dX10_hasDisputed_21 rfl rfl ?_
          refine g_aload_n 0 dX10_hasDisputed_22 rfl rfl ?_
          refine gN_getR (a + 1) flX10_7 (fun _ _ _ => rfl) 0 (hM.t) (hM.r0) dX10_hasDisputed_23 ?_
          refine g_iload_n 1 dX10_hasDisputed_26 rfl rfl ?_
          refine gd_callS _ _ _ _ (cn_X10_at g (0, 0) _ s) ⟨rfl, rfl⟩ (ok_X10_at _) mlX10_45 st_X10_at rfl ⟨Nat.le_of_ble_eq_true rfl, Nat.le_of_ble_eq_true rfl⟩ (by exact Nat.le_of_ble_eq_true rfl) ⟨Nat.zero_le _, Nat.zero_le _⟩ dX10_hasDisputed_27 rfl ?_
          refine gN_bipush 10 dX10_hasDisputed_30 (by decide) ?_
          refine gN_iadd ((79 + 22 * s) + 10) dX10_hasDisputed_32 rfl ?_
          refine g_iload_n 3 dX10_hasDisputed_33 rfl rfl ?_
          refine gN_iadd (((79 + 22 * s) + 10) + k) dX10_hasDisputed_34 rfl ?_
          refine gN_iald 689 (hM.t1) (by omega) (by omega) dX10_hasDisputed_35 ?_
          refine g_ei (nI (nv (im m (a + 1) (79 + 22 * s + 10 + k)))) (hw.e) ?_
          refine gd_callV _ _ _ _ (cn_X10_isDisputed g (0, 0) hM (w := nv (im m (a + 1) (79 + 22 * s + 10 + k))) (by omega)) ⟨rfl, rfl⟩ (ok_X10_isDisputed _) mlX10_88 in_X10_isDisputed se_X10_isDisputed 10 0 (hM.t) rfl rfl rfl ⟨Nat.le_of_ble_eq_true rfl, Nat.le_of_ble_eq_true rfl⟩ (by exact Nat.le_of_ble_eq_true rfl) ⟨Nat.zero_le _, Nat.zero_le _⟩ dX10_hasDisputed_36 rfl ?_
          refine gN_if_eq 46 dX10_hasDisputed_39 (by decide) (by omega) (fun h_39 => ?_) (fun h_39 => ?_)
          · refine gN_iconst 0 dX10_hasDisputed_46 (by decide) ?_
            exact g_ei (nI (b01 (∃ e, e < (k + 1) ∧ dsp (im m (a + 1)) (nv (im m (a + 1) (79 + 22 * s + 10 + e)))))) (congrArg nI (show 0 = b01 (∃ e, e < (k + 1) ∧ dsp (im m (a + 1)) (nv (im m (a + 1) (79 + 22 * s + 10 + e)))) from by first | exact (b01_t ((hdp_s (k := k)).mpr (Or.inl (b01_n.mp h_18)))).symm | exact (b01_t ((hdp_s (k := k)).mpr (Or.inr (b01_n.mp h_39)))).symm | exact (b01_f (fun q => ((hdp_s (k := k)).mp q).elim (b01_z.mp h_18) (b01_z.mp h_39))).symm)) K_47
          · refine gN_iconst 1 dX10_hasDisputed_42 (by decide) ?_
            refine g_goto 47 dX10_hasDisputed_43 (by decide) ?_
            exact g_ei (nI (b01 (∃ e, e < (k + 1) ∧ dsp (im m (a + 1)) (nv (im m (a + 1) (79 + 22 * s + 10 + e)))))) (congrArg nI (show 1 = b01 (∃ e, e < (k + 1) ∧ dsp (im m (a + 1)) (nv (im m (a + 1) (79 + 22 * s + 10 + e)))) from by first | exact (b01_t ((hdp_s (k := k)).mpr (Or.inl (b01_n.mp h_18)))).symm | exact (b01_t ((hdp_s (k := k)).mpr (Or.inr (b01_n.mp h_39)))).symm | exact (b01_f (fun q => ((hdp_s (k := k)).mp q).elim (b01_z.mp h_18) (b01_z.mp h_39))).symm)) K_47
set_option maxRecDepth 100000 in
theorem cn_X10_hasDisputed (g : Gp) (cs : Nat × Nat) {m : Mm} {a : Nat} (hM : MdOk m a) {s : Nat} (hs : s < 10) (hr : RwOk (im m (a + 1)) (79 + 22 * s) 10) : Dn g (MX10_hasDisputed cs) [.ref (a), .int (nI (s))] m (some (.int (nI (b01 (hdp (im m (a + 1)) (79 + 22 * s)))))) (m) := by
  refine Cn.of pn_X10 (Nat.le_of_ble_eq_true rfl) rfl ?_
  refine gN_iconst 0 dX10_hasDisputed_0 (by decide) ?_
  refine g_istore_n 2 [(2, .int (nI (0))), (0, .ref (a)), (1, .int (nI (s)))] dX10_hasDisputed_1 rfl (Nat.le_of_ble_eq_true rfl) rfl ?_
  refine gN_iconst 0 dX10_hasDisputed_2 (by decide) ?_
  refine g_istore_n 3 [(3, .int (nI (0))), (2, .int (nI (0))), (0, .ref (a)), (1, .int (nI (s)))] dX10_hasDisputed_3 rfl (Nat.le_of_ble_eq_true rfl) rfl ?_
  refine g_pick [0, 1, 2, 3] rfl ?_
  refine (?_ : G g (MX10_hasDisputed cs) _ 4 [(3, .int (nI 0)), (2, .int (nI 0)), (0, .ref a), (1, .int (nI s))] [] (0, 0) m)
  have K := lp_X10_hasDisputed g cs hM hs hr _ 0 (Nat.zero_add _)
  rw [show b01 (∃ e, e < 0 ∧ dsp (im m (a + 1)) (nv (im m (a + 1) (79 + 22 * s + 10 + e)))) = 0 from b01_f (fun q => by obtain ⟨e, h1, _⟩ := q; omega)] at K
  exact K
set_option maxRecDepth 100000 in
theorem lp_X10_having (g : Gp) (cs : Nat × Nat) {m : Mm} {a : Nat} (hM : MdOk m a) {w : Nat} (hw : w < 8) (p : Int32) : ∀ d k : Nat, k + d = 4 → G g (MX10_having cs) (dQ (some (.int (nI (hv (im m (a + 1)) w p 4)))) m) 5 [(4, .int (nI k)), (3, .int (nI (hv (im m (a + 1)) w p k))), (0, .ref a), (1, .int (nI w)), (2, .int p)] [] (0, 0) m := by
  intro d
  induction d with
  | zero =>
    intro k hk
    obtain rfl : k = 4 := hk
    refine g_iload 4 dX10_having_5 rfl ?_
    refine gN_iconst 4 dX10_having_7 (by decide) ?_
    refine gN_icmp_ge 40 dX10_having_8 (by decide) (by omega) (by omega) (fun h_8 => ?_) (fun h_8 => ?_)
    · refine g_iload_n 3 dX10_having_40 rfl rfl ?_
      refine g_iret rfl dX10_having_41 ⟨Nat.zero_le _, Nat.zero_le _⟩ ?_
      exact ⟨rfl, rfl⟩
    · exact absurd h_8 (by decide)
  | succ d ih =>
    intro k hk
    have l1 := hv_le (im m (a + 1)) w p k
    refine g_iload 4 dX10_having_5 rfl ?_
    refine gN_iconst 4 dX10_having_7 (by decide) ?_
    refine gN_icmp_ge 40 dX10_having_8 (by decide) (by omega) (by omega) (fun h_8 => ?_) (fun h_8 => ?_)
    · exfalso; omega
    · refine g_iload_n 3 dX10_having_11 rfl rfl ?_
      refine g_join 32 (b01 (im m (a + 1) (24 + 4 * w + k) = p)) ?_ (fun K_32 => ?_)
      · refine gN_iadd ((hv (im m (a + 1)) w p k) + (b01 (im m (a + 1) (24 + 4 * w + k) = p))) dX10_having_32 rfl ?_
        refine g_istore_n 3 [(3, .int (nI ((hv (im m (a + 1)) w p k) + (b01 (im m (a + 1) (24 + 4 * w + k) = p))))), (4, .int (nI (k))), (0, .ref (a)), (1, .int (nI (w))), (2, .int (p))] dX10_having_33 rfl (Nat.le_of_ble_eq_true rfl) rfl ?_
        refine g_iinc 4 (nI (k + 1)) 1 [(4, .int (nI (k + 1))), (3, .int (nI ((hv (im m (a + 1)) w p k) + (b01 (im m (a + 1) (24 + 4 * w + k) = p))))), (0, .ref (a)), (1, .int (nI (w))), (2, .int (p))] dX10_having_34 rfl (nI_add k 1) (Nat.le_of_ble_eq_true rfl) rfl ?_
        refine g_goto 5 dX10_having_37 (by decide) ?_
        refine g_pick [0, 1, 2, 3, 4] rfl ?_
        exact ih (k + 1) (by omega)
      · refine g_aload_n 0 dX10_having_12 rfl rfl ?_
        refine gN_getR (a + 1) flX10_7 (fun _ _ _ => rfl) 0 (hM.t) (hM.r0) dX10_having_13 ?_
        refine g_iload_n 1 dX10_having_16 rfl rfl ?_
        refine g_iload 4 dX10_having_17 rfl ?_
        refine gd_callS _ _ _ _ (cn_X10_proposal g (0, 0) _ w k) ⟨rfl, rfl⟩ (ok_X10_proposal _) mlX10_84 st_X10_proposal rfl ⟨Nat.le_of_ble_eq_true rfl, Nat.le_of_ble_eq_true rfl⟩ (by exact Nat.le_of_ble_eq_true rfl) ⟨Nat.zero_le _, Nat.zero_le _⟩ dX10_having_19 rfl ?_
        refine gN_iald 689 (hM.t1) (by omega) (by omega) dX10_having_22 ?_
        refine g_iload_n 2 dX10_having_23 rfl rfl ?_
        refine g_icmp_ne 31 dX10_having_24 (by decide) (fun h_24 => ?_) (fun h_24 => ?_)
        · refine gN_iconst 0 dX10_having_31 (by decide) ?_
          exact g_ei (nI (b01 (im m (a + 1) (24 + 4 * w + k) = p))) (congrArg nI (show 0 = b01 (im m (a + 1) (24 + 4 * w + k) = p) from by first | exact (b01_t h_24).symm | exact (b01_f h_24).symm)) K_32
        · refine gN_iconst 1 dX10_having_27 (by decide) ?_
          refine g_goto 32 dX10_having_28 (by decide) ?_
          exact g_ei (nI (b01 (im m (a + 1) (24 + 4 * w + k) = p))) (congrArg nI (show 1 = b01 (im m (a + 1) (24 + 4 * w + k) = p) from by first | exact (b01_t h_24).symm | exact (b01_f h_24).symm)) K_32
set_option maxRecDepth 100000 in
theorem cn_X10_having (g : Gp) (cs : Nat × Nat) {m : Mm} {a : Nat} (hM : MdOk m a) {w : Nat} (hw : w < 8) (p : Int32) : Dn g (MX10_having cs) [.ref (a), .int (nI (w)), .int (p)] m (some (.int (nI (hv (im m (a + 1)) w p 4)))) (m) := by
  refine Cn.of pn_X10 (Nat.le_of_ble_eq_true rfl) rfl ?_
  refine gN_iconst 0 dX10_having_0 (by decide) ?_
  refine g_istore_n 3 [(3, .int (nI (0))), (0, .ref (a)), (1, .int (nI (w))), (2, .int (p))] dX10_having_1 rfl (Nat.le_of_ble_eq_true rfl) rfl ?_
  refine gN_iconst 0 dX10_having_2 (by decide) ?_
  refine g_istore 4 [(4, .int (nI (0))), (3, .int (nI (0))), (0, .ref (a)), (1, .int (nI (w))), (2, .int (p))] dX10_having_3 (Nat.le_of_ble_eq_true rfl) rfl ?_
  refine g_pick [0, 1, 2, 3, 4] rfl ?_
  exact lp_X10_having g cs hM hw p 4 0 rfl
