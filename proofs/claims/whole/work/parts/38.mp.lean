set_option maxRecDepth 100000 in
theorem cn_X10_letter (g : Gp) (cs : Nat × Nat) {m : Mm} {a : Nat} (hM : MdOk m a) {k p : Nat} (hk : im m a 5 = nI k) (hk6 : k ≤ 60) (hp : im m a 12 = nI p) (hp6 : p ≤ 60) : Dn g (MX10_letter cs) [.ref a] m (some (.int (ltr (im m (a + 4)) k p))) m := by
  refine Cn.of pn_X10 (Nat.le_of_ble_eq_true rfl) rfl ?_
  refine g_aload_n 0 dX10_letter_0 rfl rfl ?_
  refine gN_getI flX10_128 rfl 0 (hM.t) dX10_letter_1 ?_
  refine g_ei (nI (p)) (hp) ?_
  refine g_aload_n 0 dX10_letter_4 rfl rfl ?_
  refine gN_getI flX10_125 rfl 0 (hM.t) dX10_letter_5 ?_
  refine g_ei (nI (k)) (hk) ?_
  refine gN_icmp_ge 26 dX10_letter_8 (by decide) (by first | omega | exact b01_lt _) (by first | omega | exact b01_lt _) (fun h_8 => ?_) (fun h_8 => ?_)
  · refine g_iconst (-1) dX10_letter_26 (by decide) ?_
    refine g_topi (fun x ex => ?_)
    refine g_istore_n 1 [(1, .int (x)), (0, .ref (a))] dX10_letter_27 rfl (Nat.le_of_ble_eq_true rfl) rfl ?_
    refine g_iload_n 1 dX10_letter_28 rfl rfl ?_
    refine gd_callS _ _ _ _ (cn_X10_isWord g (0, 0) (x)) ⟨rfl, rfl⟩ (ok_X10_isWord _) mlX10_119 st_X10_isWord rfl ⟨Nat.le_of_ble_eq_true rfl, Nat.le_of_ble_eq_true rfl⟩ (by exact Nat.le_of_ble_eq_true rfl) ⟨Nat.zero_le _, Nat.zero_le _⟩ dX10_letter_29 rfl ?_
    refine gN_if_eq 39 dX10_letter_32 (by decide) (by first | omega | exact b01_lt _) (fun h_32 => ?_) (fun h_32 => ?_)
    · refine g_iconst (-1) dX10_letter_39 (by decide) ?_
      refine g_iret rfl dX10_letter_40 ⟨Nat.zero_le _, Nat.zero_le _⟩ ?_
      refine ⟨vI ?_, rfl⟩
      first
        | (have h2 := b01_n.mp h_32; rw [ex] at h2 ⊢; first | exact ltr_t h_8 h2 | exact absurd h2 (by unfold inb; decide))
        | (refine ltr_f (fun q => ?_); first | (have h2 := b01_z.mp h_32; rw [ex] at h2; exact h2 q.2) | (have := q.1; omega))
    · refine g_iload_n 1 dX10_letter_35 rfl rfl ?_
      refine g_goto 40 dX10_letter_36 (by decide) ?_
      refine g_iret rfl dX10_letter_40 ⟨Nat.zero_le _, Nat.zero_le _⟩ ?_
      refine ⟨vI ?_, rfl⟩
      first
        | (have h2 := b01_n.mp h_32; rw [ex] at h2 ⊢; first | exact ltr_t h_8 h2 | exact absurd h2 (by unfold inb; decide))
        | (refine ltr_f (fun q => ?_); first | (have h2 := b01_z.mp h_32; rw [ex] at h2; exact h2 q.2) | (have := q.1; omega))
  · refine g_aload_n 0 dX10_letter_11 rfl rfl ?_
    refine gN_getR (a + 4) flX10_19 (fun _ _ _ => rfl) 0 (hM.t) (hM.r4) dX10_letter_12 ?_
    refine g_aload_n 0 dX10_letter_15 rfl rfl ?_
    refine gN_getI flX10_128 rfl 0 (hM.t) dX10_letter_16 ?_
    refine g_ei (nI (p)) (hp) ?_
    refine gN_iald 60 (hM.t4) (by first | omega | exact b01_lt _) (by first | omega | exact b01_lt _) dX10_letter_19 ?_
    refine gN_bipush 97 dX10_letter_20 (by decide) ?_
    refine g_isub dX10_letter_22 ?_
    refine g_goto 27 dX10_letter_23 (by decide) ?_
    refine g_topi (fun x ex => ?_)
    refine g_istore_n 1 [(1, .int (x)), (0, .ref (a))] dX10_letter_27 rfl (Nat.le_of_ble_eq_true rfl) rfl ?_
    refine g_iload_n 1 dX10_letter_28 rfl rfl ?_
    refine gd_callS _ _ _ _ (cn_X10_isWord g (0, 0) (x)) ⟨rfl, rfl⟩ (ok_X10_isWord _) mlX10_119 st_X10_isWord rfl ⟨Nat.le_of_ble_eq_true rfl, Nat.le_of_ble_eq_true rfl⟩ (by exact Nat.le_of_ble_eq_true rfl) ⟨Nat.zero_le _, Nat.zero_le _⟩ dX10_letter_29 rfl ?_
    refine gN_if_eq 39 dX10_letter_32 (by decide) (by first | omega | exact b01_lt _) (fun h_32 => ?_) (fun h_32 => ?_)
    · refine g_iconst (-1) dX10_letter_39 (by decide) ?_
      refine g_iret rfl dX10_letter_40 ⟨Nat.zero_le _, Nat.zero_le _⟩ ?_
      refine ⟨vI ?_, rfl⟩
      first
        | (have h2 := b01_n.mp h_32; rw [ex] at h2 ⊢; first | exact ltr_t h_8 h2 | exact absurd h2 (by unfold inb; decide))
        | (refine ltr_f (fun q => ?_); first | (have h2 := b01_z.mp h_32; rw [ex] at h2; exact h2 q.2) | (have := q.1; omega))
    · refine g_iload_n 1 dX10_letter_35 rfl rfl ?_
      refine g_goto 40 dX10_letter_36 (by decide) ?_
      refine g_iret rfl dX10_letter_40 ⟨Nat.zero_le _, Nat.zero_le _⟩ ?_
      refine ⟨vI ?_, rfl⟩
      first
        | (have h2 := b01_n.mp h_32; rw [ex] at h2 ⊢; first | exact ltr_t h_8 h2 | exact absurd h2 (by unfold inb; decide))
        | (refine ltr_f (fun q => ?_); first | (have h2 := b01_z.mp h_32; rw [ex] at h2; exact h2 q.2) | (have := q.1; omega))
theorem rw_5 {m : Mm} {a k p t : Nat} {x : Int32} (h : im m a 5 = nI k) : u2 (u2 (im m) (a + 8) t (nI p)) a 12 x a 5 = nI k := by rw [u2_n _ _ _ _ (by omega), u2_n _ _ _ _ (by omega)]; exact h
theorem rw_13 {m : Mm} {a k p t : Nat} {x : Int32} (h : im m a 13 = nI k) : u2 (u2 (im m) (a + 8) t (nI p)) a 12 x a 13 = nI k := by rw [u2_n _ _ _ _ (by omega), u2_n _ _ _ _ (by omega)]; exact h
theorem rw_8 (m : Mm) (a t : Nat) {p : Nat} {x : Int32} : u2 (u2 (im m) (a + 8) t (nI p)) a 12 x (a + 8) t = nI p := by rw [u2_n _ _ _ _ (by omega), u2_s]
theorem rw_4 (m : Mm) (a t : Nat) {p : Nat} {x : Int32} : u2 (u2 (im m) (a + 8) t (nI p)) a 12 x (a + 4) = im m (a + 4) := by rw [u2_o _ _ _ _ (by omega), u2_o _ _ _ _ (by omega)]
set_option maxRecDepth 100000 in
theorem lp_X10_row (g : Gp) (cs : Nat × Nat) {m : Mm} {a : Nat} (hM : MdOk m a) {k p t : Nat} (hk : im m a 5 = nI k) (hk6 : k ≤ 60) (hp : im m a 12 = nI p) (hp6 : p ≤ k) (ht : im m a 13 = nI t) (ht6 : t ≤ 30) {Q : Rs → Mm → Prop} (K : G g (MX10_row cs) Q 53 [(0, .ref a)] [] (0, 0) (wI m (u2 (u2 (im m) (a + 8) t (nI p)) a 12 (nI (p + rl (im m (a + 4)) k 12 p))))) : ∀ c q : Nat, q + c = p + 12 → p ≤ q → q ≤ k → q + rl (im m (a + 4)) k c q = p + rl (im m (a + 4)) k 12 p → G g (MX10_row cs) Q 13 [(0, .ref a)] [] (0, 0) (wI m (u2 (u2 (im m) (a + 8) t (nI p)) a 12 (nI (q)))) := by
  intro c
  induction c with
  | zero =>
    intro q hq hpq hqk hrl
    refine g_aload_n 0 dX10_row_13 rfl rfl ?_
    refine gd_callV _ _ _ _ (cn_X10_letter g (0, 0) (m := wI m (u2 (u2 (im m) (a + 8) t (nI p)) a 12 (nI (q)))) hM (rw_5 hk) hk6 (u2_s _ _ _ _) (by omega)) ⟨rfl, rfl⟩ (ok_X10_letter _) mlX10_134 in_X10_letter se_X10_letter 10 0 (hM.t) rfl rfl rfl ⟨Nat.le_of_ble_eq_true rfl, Nat.le_of_ble_eq_true rfl⟩ (by exact Nat.le_of_ble_eq_true rfl) ⟨Nat.zero_le _, Nat.zero_le _⟩ dX10_row_14 rfl ?_
    rw [im_wI, rw_4 m a t]
    refine g_iconst (-1) dX10_row_17 (by decide) ?_
    refine g_icmp_eq 53 dX10_row_18 (by decide) (fun h_18 => ?_) (fun h_18 => ?_)
    · have hq2 : p + 0 + rl (im m (a + 4)) k 12 p = q := by have : rl (im m (a + 4)) k 0 q = 0 := rfl; omega
      have hq3 : q = p + rl (im m (a + 4)) k 12 p := by omega
      rw [← hq3] at K
      exact K
    · refine g_aload_n 0 dX10_row_21 rfl rfl ?_
      refine gN_getI flX10_128 rfl 0 (hM.t) dX10_row_22 ?_
      refine g_ei (nI (q)) (u2_s _ _ _ _) ?_
      refine g_aload_n 0 dX10_row_25 rfl rfl ?_
      refine gN_getR (a + 8) flX10_31 (fun _ _ _ => rfl) 0 (hM.t) (hM.r14) dX10_row_26 ?_
      refine g_aload_n 0 dX10_row_29 rfl rfl ?_
      refine gN_getI flX10_131 rfl 0 (hM.t) dX10_row_30 ?_
      refine g_ei (nI (t)) ((rw_13 ht)) ?_
      refine gN_iald 31 (hM.t8) (by first | omega | exact b01_lt _) (by first | omega | exact b01_lt _) dX10_row_33 ?_
      refine g_ei (nI (p)) ((rw_8 m a t)) ?_
      refine gN_isub (q - p) dX10_row_34 (by first | omega | exact b01_lt _) rfl ?_
      refine gN_bipush 12 dX10_row_35 (by decide) ?_
      refine gN_icmp_ge 53 dX10_row_37 (by decide) (by first | omega | exact b01_lt _) (by first | omega | exact b01_lt _) (fun h_37 => ?_) (fun h_37 => ?_)
      · have hq2 : p + 0 + rl (im m (a + 4)) k 12 p = q := by have : rl (im m (a + 4)) k 0 q = 0 := rfl; omega
        have hq3 : q = p + rl (im m (a + 4)) k 12 p := by omega
        rw [← hq3] at K
        exact K
      · exfalso; omega
  | succ c ih =>
    intro q hq hpq hqk hrl
    refine g_aload_n 0 dX10_row_13 rfl rfl ?_
    refine gd_callV _ _ _ _ (cn_X10_letter g (0, 0) (m := wI m (u2 (u2 (im m) (a + 8) t (nI p)) a 12 (nI (q)))) hM (rw_5 hk) hk6 (u2_s _ _ _ _) (by omega)) ⟨rfl, rfl⟩ (ok_X10_letter _) mlX10_134 in_X10_letter se_X10_letter 10 0 (hM.t) rfl rfl rfl ⟨Nat.le_of_ble_eq_true rfl, Nat.le_of_ble_eq_true rfl⟩ (by exact Nat.le_of_ble_eq_true rfl) ⟨Nat.zero_le _, Nat.zero_le _⟩ dX10_row_14 rfl ?_
    rw [im_wI, rw_4 m a t]
    refine g_iconst (-1) dX10_row_17 (by decide) ?_
    refine g_icmp_eq 53 dX10_row_18 (by decide) (fun h_18 => ?_) (fun h_18 => ?_)
    · have hni : ¬ isl (im m (a + 4)) k q := ltr_ne.mp h_18
      rw [rl_f hni] at hrl
      have hq3 : q = p + rl (im m (a + 4)) k 12 p := by omega
      rw [← hq3] at K
      exact K
    · refine g_aload_n 0 dX10_row_21 rfl rfl ?_
      refine gN_getI flX10_128 rfl 0 (hM.t) dX10_row_22 ?_
      refine g_ei (nI (q)) (u2_s _ _ _ _) ?_
      refine g_aload_n 0 dX10_row_25 rfl rfl ?_
      refine gN_getR (a + 8) flX10_31 (fun _ _ _ => rfl) 0 (hM.t) (hM.r14) dX10_row_26 ?_
      refine g_aload_n 0 dX10_row_29 rfl rfl ?_
      refine gN_getI flX10_131 rfl 0 (hM.t) dX10_row_30 ?_
      refine g_ei (nI (t)) ((rw_13 ht)) ?_
      refine gN_iald 31 (hM.t8) (by first | omega | exact b01_lt _) (by first | omega | exact b01_lt _) dX10_row_33 ?_
      refine g_ei (nI (p)) ((rw_8 m a t)) ?_
      refine gN_isub (q - p) dX10_row_34 (by first | omega | exact b01_lt _) rfl ?_
      refine gN_bipush 12 dX10_row_35 (by decide) ?_
      refine gN_icmp_ge 53 dX10_row_37 (by decide) (by first | omega | exact b01_lt _) (by first | omega | exact b01_lt _) (fun h_37 => ?_) (fun h_37 => ?_)
      · exfalso; omega
      · refine g_aload_n 0 dX10_row_40 rfl rfl ?_
        refine g_dup dX10_row_41 rfl ?_
        refine gN_getI flX10_128 rfl 0 (hM.t) dX10_row_42 ?_
        refine g_ei (nI (q)) (u2_s _ _ _ _) ?_
        refine gN_iconst 1 dX10_row_45 (by decide) ?_
        refine gN_iadd (q + 1) dX10_row_46 rfl ?_
        refine gN_putI fwX10_128 rfl 0 (hM.t) dX10_row_47 ?_
        refine g_goto 13 dX10_row_50 (by decide) ?_
        have hi : isl (im m (a + 4)) k q := Classical.byContradiction fun z => h_18 (ltr_ne.mpr z)
        rw [rl_t hi] at hrl
        have hik := hi.1
        refine g_mem (m1 := wI m (u2 (u2 (im m) (a + 8) t (nI p)) a 12 (nI (q + 1)))) (congrArg (wI m) (u2_uu _ _ _ _ _)) ?_
        exact ih (q + 1) (by omega) (by omega) (by omega) (by omega)
theorem rw_0 {m : Mm} {a p t : Nat} (hp : im m a 12 = nI p) : u2 (im m) (a + 8) t (nI p) = u2 (u2 (im m) (a + 8) t (nI p)) a 12 (nI p) := by
  funext x y
  by_cases h : x = a ∧ y = 12
  · obtain ⟨rfl, rfl⟩ := h
    rw [u2_s, u2_n _ _ _ _ (by omega)]; exact hp
  · rw [u2_n _ _ _ _ h]
set_option maxRecDepth 100000 in
theorem rw_X10 (g : Gp) (cs : Nat × Nat) {m : Mm} {a : Nat} (hM : MdOk m a) {k p t : Nat} (hk : im m a 5 = nI k) (hk6 : k ≤ 60) (hp6 : p ≤ k) (ht : im m a 13 = nI t) (ht6 : t ≤ 30) : G g (MX10_row cs) (dQ (some (.int (nI (b01 (0 < rl (im m (a + 4)) k 12 p))))) (wI m (u2 (u2 (u2 (im m) (a + 8) t (nI p)) a 12 (nI (p + rl (im m (a + 4)) k 12 p))) a 13 (nI (t + b01 (0 < rl (im m (a + 4)) k 12 p)))))) 53 [(0, .ref a)] [] (0, 0) (wI m (u2 (u2 (im m) (a + 8) t (nI p)) a 12 (nI (p + rl (im m (a + 4)) k 12 p)))) := by
  have hle := rl_k (im m (a + 4)) k 12 p hp6
  refine g_join 74 (b01 (0 < rl (im m (a + 4)) k 12 p)) ?_ (fun K_74 => ?_)
  · refine g_istore_n 1 [(1, .int (nI (b01 (0 < rl (im m (a + 4)) k 12 p)))), (0, .ref (a))] dX10_row_74 rfl (Nat.le_of_ble_eq_true rfl) rfl ?_
    refine g_aload_n 0 dX10_row_75 rfl rfl ?_
    refine g_dup dX10_row_76 rfl ?_
    refine gN_getI flX10_131 rfl 0 (hM.t) dX10_row_77 ?_
    refine g_ei (nI (t)) ((rw_13 ht)) ?_
    refine g_join 89 (b01 (0 < rl (im m (a + 4)) k 12 p)) ?_ (fun K_89 => ?_)
    · refine gN_iadd (t + (b01 (0 < rl (im m (a + 4)) k 12 p))) dX10_row_89 rfl ?_
      refine gN_putI fwX10_131 rfl 0 (hM.t) dX10_row_90 ?_
      refine g_iload_n 1 dX10_row_93 rfl rfl ?_
      refine g_zret rfl (by first | rfl | exact nar_b01 _) dX10_row_94 ⟨Nat.zero_le _, Nat.zero_le _⟩ ?_
      exact ⟨rfl, rfl⟩
    · refine g_iload_n 1 dX10_row_80 rfl rfl ?_
      refine gN_if_eq 88 dX10_row_81 (by decide) (by first | omega | exact b01_lt _) (fun h_81 => ?_) (fun h_81 => ?_)
      · refine gN_iconst 0 dX10_row_88 (by decide) ?_
        exact g_ei (nI (b01 (0 < rl (im m (a + 4)) k 12 p))) (congrArg nI (show 0 = b01 (0 < rl (im m (a + 4)) k 12 p) from by first | (have := b01_le (0 < rl (im m (a + 4)) k 12 p); omega) | omega)) K_89
      · refine gN_iconst 1 dX10_row_84 (by decide) ?_
        refine g_goto 89 dX10_row_85 (by decide) ?_
        exact g_ei (nI (b01 (0 < rl (im m (a + 4)) k 12 p))) (congrArg nI (show 1 = b01 (0 < rl (im m (a + 4)) k 12 p) from by first | (have := b01_le (0 < rl (im m (a + 4)) k 12 p); omega) | omega)) K_89
  · refine g_aload_n 0 dX10_row_53 rfl rfl ?_
    refine gN_getI flX10_128 rfl 0 (hM.t) dX10_row_54 ?_
    refine g_ei (nI (p + rl (im m (a + 4)) k 12 p)) (u2_s _ _ _ _) ?_
    refine g_aload_n 0 dX10_row_57 rfl rfl ?_
    refine gN_getR (a + 8) flX10_31 (fun _ _ _ => rfl) 0 (hM.t) (hM.r14) dX10_row_58 ?_
    refine g_aload_n 0 dX10_row_61 rfl rfl ?_
    refine gN_getI flX10_131 rfl 0 (hM.t) dX10_row_62 ?_
    refine g_ei (nI (t)) ((rw_13 ht)) ?_
    refine gN_iald 31 (hM.t8) (by first | omega | exact b01_lt _) (by first | omega | exact b01_lt _) dX10_row_65 ?_
    refine g_ei (nI (p)) ((rw_8 m a t)) ?_
    refine gN_icmp_le 73 dX10_row_66 (by decide) (by first | omega | exact b01_lt _) (by first | omega | exact b01_lt _) (fun h_66 => ?_) (fun h_66 => ?_)
    · refine gN_iconst 0 dX10_row_73 (by decide) ?_
      exact g_ei (nI (b01 (0 < rl (im m (a + 4)) k 12 p))) (congrArg nI (show 0 = b01 (0 < rl (im m (a + 4)) k 12 p) from by first | exact (b01_t (by omega)).symm | exact (b01_f (by omega)).symm)) K_74
    · refine gN_iconst 1 dX10_row_69 (by decide) ?_
      refine g_goto 74 dX10_row_70 (by decide) ?_
      exact g_ei (nI (b01 (0 < rl (im m (a + 4)) k 12 p))) (congrArg nI (show 1 = b01 (0 < rl (im m (a + 4)) k 12 p) from by first | exact (b01_t (by omega)).symm | exact (b01_f (by omega)).symm)) K_74
set_option maxRecDepth 100000 in
theorem cn_X10_row (g : Gp) (cs : Nat × Nat) {m : Mm} {a : Nat} (hM : MdOk m a) {k p t : Nat} (hk : im m a 5 = nI k) (hk6 : k ≤ 60) (hp : im m a 12 = nI p) (hp6 : p ≤ k) (ht : im m a 13 = nI t) (ht6 : t ≤ 30) : Dn g (MX10_row cs) [.ref a] m (some (.int (nI (b01 (0 < rl (im m (a + 4)) k 12 p))))) (wI m (u2 (u2 (u2 (im m) (a + 8) t (nI p)) a 12 (nI (p + rl (im m (a + 4)) k 12 p))) a 13 (nI (t + b01 (0 < rl (im m (a + 4)) k 12 p))))) := by
  have hle := rl_k (im m (a + 4)) k 12 p hp6
  refine Cn.of pn_X10 (Nat.le_of_ble_eq_true rfl) rfl ?_
  refine g_aload_n 0 dX10_row_0 rfl rfl ?_
  refine gN_getR (a + 8) flX10_31 (fun _ _ _ => rfl) 0 (hM.t) (hM.r14) dX10_row_1 ?_
  refine g_aload_n 0 dX10_row_4 rfl rfl ?_
  refine gN_getI flX10_131 rfl 0 (hM.t) dX10_row_5 ?_
  refine g_ei (nI (t)) (ht) ?_
  refine g_aload_n 0 dX10_row_8 rfl rfl ?_
  refine gN_getI flX10_128 rfl 0 (hM.t) dX10_row_9 ?_
  refine g_ei (nI (p)) (hp) ?_
  refine gN_iast 31 (hM.t8) (by first | omega | exact b01_lt _) (by first | omega | exact b01_lt _) dX10_row_12 ?_
  refine g_mem (m1 := wI m (u2 (u2 (im m) (a + 8) t (nI p)) a 12 (nI (p)))) (congrArg (wI m) (rw_0 hp)) ?_
  refine lp_X10_row g cs hM hk hk6 hp hp6 ht ht6 ?_ 12 p rfl (Nat.le_refl _) hp6 rfl
  exact rw_X10 g cs hM hk hk6 hp6 ht ht6
