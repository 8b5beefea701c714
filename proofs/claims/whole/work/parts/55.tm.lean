/-! THE CLASS: terms, bands -/
set_option maxRecDepth 100000 in
theorem cn_X9_oneIf (g : Gp) (cs : Nat × Nat) {m : Mm} (p : Prop) : Dn g (MX9_oneIf cs) [.int (nI (b01 p))] m (some (.int (nI (b01 p)))) (m) := by
  have hp := b01_le p
  refine Cn.of pn_X9 (Nat.le_of_ble_eq_true rfl) rfl ?_
  refine g_iload_n 0 dX9_oneIf_0 rfl rfl ?_
  refine gN_if_eq 8 dX9_oneIf_1 (by decide) (by first | omega | exact b01_lt _) (fun h_1 => ?_) (fun h_1 => ?_)
  · refine gN_iconst 0 dX9_oneIf_8 (by decide) ?_
    refine g_iret rfl dX9_oneIf_9 ⟨Nat.zero_le _, Nat.zero_le _⟩ ?_
    exact ⟨vI (congrArg nI (show 0 = b01 p by omega)), rfl⟩
  · refine gN_iconst 1 dX9_oneIf_4 (by decide) ?_
    refine g_goto 9 dX9_oneIf_5 (by decide) ?_
    refine g_iret rfl dX9_oneIf_9 ⟨Nat.zero_le _, Nat.zero_le _⟩ ?_
    exact ⟨vI (congrArg nI (show 1 = b01 p by omega)), rfl⟩
set_option maxRecDepth 100000 in
theorem lp_X7_isProposed (g : Gp) (cs : Nat × Nat) {m : Mm} {T P : Nat} {f : Nat → Int32} (ht : tg m T = (7, 0)) (hP : tg m P = (11, 4)) (hrP : rf m T 0 = some P) (hf : ∀ t, t < 4 → im m P t = f t) (p : Int32) : ∀ d k : Nat, k + d = 4 → (∀ t, t < k → ¬ f t = p) → G g (MX7_isProposed cs) (dQ (some (.int (nI (b01 (∃ t, t < 4 ∧ f t = p))))) m) 11 [(4, .int (nI (k))), (3, .int (nI (4))), (2, .ref (P)), (0, .ref (T)), (1, .int (p))] [] (0, 0) m := by
  intro d
  induction d with
  | zero =>
    intro k hk hn
    obtain rfl : k = 4 := hk
    refine g_iload 4 dX7_isProposed_11 rfl ?_
    refine g_iload_n 3 dX7_isProposed_13 rfl rfl ?_
    refine gN_icmp_ge 37 dX7_isProposed_14 (by decide) (by first | omega | exact b01_lt _) (by first | omega | exact b01_lt _) (fun h_14 => ?_) (fun h_14 => ?_)
    · refine gN_iconst 0 dX7_isProposed_37 (by decide) ?_
      refine g_zret rfl (by first | rfl | exact nar_b01 _) dX7_isProposed_38 ⟨Nat.zero_le _, Nat.zero_le _⟩ ?_
      exact ⟨vI (by rw [b01_f (fun q => by obtain ⟨t, h1, h2⟩ := q; exact hn t h1 h2)]), rfl⟩
    · exact absurd h_14 (by decide)
  | succ d ih =>
    intro k hk hn
    refine g_iload 4 dX7_isProposed_11 rfl ?_
    refine g_iload_n 3 dX7_isProposed_13 rfl rfl ?_
    refine gN_icmp_ge 37 dX7_isProposed_14 (by decide) (by first | omega | exact b01_lt _) (by first | omega | exact b01_lt _) (fun h_14 => ?_) (fun h_14 => ?_)
    · exfalso; omega
    · refine g_aload_n 2 dX7_isProposed_17 rfl rfl ?_
      refine g_iload 4 dX7_isProposed_18 rfl ?_
      refine gN_iald 4 (hP) (by first | omega | exact b01_lt _) (by first | omega | exact b01_lt _) dX7_isProposed_20 ?_
      refine g_eI (f (k)) (hf _ (by omega)) ?_
      refine g_istore 5 [(5, .int (f (k))), (4, .int (nI (k))), (3, .int (nI (4))), (2, .ref (P)), (0, .ref (T)), (1, .int (p))] dX7_isProposed_21 (Nat.le_of_ble_eq_true rfl) rfl ?_
      refine g_iload 5 dX7_isProposed_23 rfl ?_
      refine g_iload_n 1 dX7_isProposed_25 rfl rfl ?_
      refine g_icmp_ne 31 dX7_isProposed_26 (by decide) (fun h_26 => ?_) (fun h_26 => ?_)
      · refine g_iinc 4 (nI (k + 1)) 1 [(4, .int (nI (k + 1))), (5, .int (f (k))), (3, .int (nI (4))), (2, .ref (P)), (0, .ref (T)), (1, .int (p))] dX7_isProposed_31 rfl (nI_add k 1) (Nat.le_of_ble_eq_true rfl) rfl ?_
        refine g_goto 11 dX7_isProposed_34 (by decide) ?_
        refine g_pick [0, 2, 3, 4, 5] rfl ?_
        exact ih (k + 1) (by omega) (fun t ht2 => by
          rcases Nat.lt_or_ge t k with q | q
          · exact hn t q
          · obtain rfl : t = k := by omega
            exact h_26)
      · refine gN_iconst 1 dX7_isProposed_29 (by decide) ?_
        refine g_zret rfl (by first | rfl | exact nar_b01 _) dX7_isProposed_30 ⟨Nat.zero_le _, Nat.zero_le _⟩ ?_
        exact ⟨vI (by rw [b01_t ⟨k, by omega, h_26⟩]), rfl⟩
set_option maxRecDepth 100000 in
theorem cn_X7_isProposed (g : Gp) (cs : Nat × Nat) {m : Mm} {T P : Nat} {f : Nat → Int32} (ht : tg m T = (7, 0)) (hP : tg m P = (11, 4)) (hrP : rf m T 0 = some P) (hf : ∀ t, t < 4 → im m P t = f t) (p : Int32) : Dn g (MX7_isProposed cs) [.ref (T), .int (p)] m (some (.int (nI (b01 (∃ t, t < 4 ∧ f t = p))))) (m) := by
  refine Cn.of pn_X7 (Nat.le_of_ble_eq_true rfl) rfl ?_
  refine g_aload_n 0 dX7_isProposed_0 rfl rfl ?_
  refine gN_getR (P) flX7_9 (fun _ _ _ => rfl) 0 (ht) (hrP) dX7_isProposed_1 ?_
  refine g_astore_n 2 [(2, .ref (P)), (0, .ref (T)), (1, .int (p))] dX7_isProposed_4 rfl (Nat.le_of_ble_eq_true rfl) rfl ?_
  refine g_aload_n 2 dX7_isProposed_5 rfl rfl ?_
  refine gN_alen 11 4 (hP) (by decide) dX7_isProposed_6 ?_
  refine g_istore_n 3 [(3, .int (nI (4))), (2, .ref (P)), (0, .ref (T)), (1, .int (p))] dX7_isProposed_7 rfl (Nat.le_of_ble_eq_true rfl) rfl ?_
  refine gN_iconst 0 dX7_isProposed_8 (by decide) ?_
  refine g_istore 4 [(4, .int (nI (0))), (3, .int (nI (4))), (2, .ref (P)), (0, .ref (T)), (1, .int (p))] dX7_isProposed_9 (Nat.le_of_ble_eq_true rfl) rfl ?_
  refine g_pick [0, 1, 2, 3, 4] rfl ?_
  exact lp_X7_isProposed g cs ht hP hrP hf p 4 0 rfl (fun t q => by omega)
set_option maxRecDepth 100000 in
theorem lp_X7_otherProposals (g : Gp) (cs : Nat × Nat) {m : Mm} {T P : Nat} {f : Nat → Int32} (ht : tg m T = (7, 0)) (hP : tg m P = (11, 4)) (hrP : rf m T 0 = some P) (hf : ∀ t, t < 4 → im m P t = f t) (p : Int32) : ∀ d k : Nat, k + d = 4 → G g (MX7_otherProposals cs) (dQ (some (.int (nI (sm (fun t => b01 (¬ f t = -1 ∧ ¬ f t = p)) 4)))) m) 14 [(5, .int (nI (k))), (4, .int (nI (4))), (3, .ref (P)), (2, .int (nI (sm (fun t => b01 (¬ f t = -1 ∧ ¬ f t = p)) k))), (0, .ref (T)), (1, .int (p))] [] (0, 0) m := by
  intro d
  induction d with
  | zero =>
    intro k hk
    obtain rfl : k = 4 := hk
    refine g_iload 5 dX7_otherProposals_14 rfl ?_
    refine g_iload 4 dX7_otherProposals_16 rfl ?_
    refine gN_icmp_ge 56 dX7_otherProposals_18 (by decide) (by first | omega | exact b01_lt _) (by first | omega | exact b01_lt _) (fun h_18 => ?_) (fun h_18 => ?_)
    · refine g_iload_n 2 dX7_otherProposals_56 rfl rfl ?_
      refine g_iret rfl dX7_otherProposals_57 ⟨Nat.zero_le _, Nat.zero_le _⟩ ?_
      exact ⟨rfl, rfl⟩
    · exact absurd h_18 (by decide)
  | succ d ih =>
    intro k hk
    refine g_iload 5 dX7_otherProposals_14 rfl ?_
    refine g_iload 4 dX7_otherProposals_16 rfl ?_
    refine gN_icmp_ge 56 dX7_otherProposals_18 (by decide) (by first | omega | exact b01_lt _) (by first | omega | exact b01_lt _) (fun h_18 => ?_) (fun h_18 => ?_)
    · exfalso; omega
    · refine g_aload_n 3 dX7_otherProposals_21 rfl rfl ?_
      refine g_iload 5 dX7_otherProposals_22 rfl ?_
      refine gN_iald 4 (hP) (by first | omega | exact b01_lt _) (by first | omega | exact b01_lt _) dX7_otherProposals_24 ?_
      refine g_eI (f (k)) (hf _ (by omega)) ?_
      refine g_istore 6 [(6, .int (f (k))), (5, .int (nI (k))), (4, .int (nI (4))), (3, .ref (P)), (2, .int (nI (sm (fun t => b01 (¬ f t = -1 ∧ ¬ f t = p)) k))), (0, .ref (T)), (1, .int (p))] dX7_otherProposals_25 (Nat.le_of_ble_eq_true rfl) rfl ?_
      refine g_iload_n 2 dX7_otherProposals_27 rfl rfl ?_
      refine g_join 45 (b01 (¬ f k = -1 ∧ ¬ f k = p)) ?_ (fun K_45 => ?_)
      · refine gd_callSN _ _ _ _ (cn_X9_oneIf g (0, 0) (¬ f k = -1 ∧ ¬ f k = p)) ⟨rfl, rfl⟩ (ok_X9_oneIf _) mlX7_19 st_X9_oneIf rfl ⟨Nat.le_of_ble_eq_true rfl, Nat.le_of_ble_eq_true rfl⟩ (by exact Nat.le_of_ble_eq_true rfl) ⟨Nat.zero_le _, Nat.zero_le _⟩ dX7_otherProposals_45 rfl ?_
        refine gN_iadd ((sm (fun t => b01 (¬ f t = -1 ∧ ¬ f t = p)) k) + (b01 (¬ f k = -1 ∧ ¬ f k = p))) dX7_otherProposals_48 rfl ?_
        refine g_istore_n 2 [(2, .int (nI ((sm (fun t => b01 (¬ f t = -1 ∧ ¬ f t = p)) k) + (b01 (¬ f k = -1 ∧ ¬ f k = p))))), (6, .int (f (k))), (5, .int (nI (k))), (4, .int (nI (4))), (3, .ref (P)), (0, .ref (T)), (1, .int (p))] dX7_otherProposals_49 rfl (Nat.le_of_ble_eq_true rfl) rfl ?_
        refine g_iinc 5 (nI (k + 1)) 2 [(5, .int (nI (k + 1))), (2, .int (nI ((sm (fun t => b01 (¬ f t = -1 ∧ ¬ f t = p)) k) + (b01 (¬ f k = -1 ∧ ¬ f k = p))))), (6, .int (f (k))), (4, .int (nI (4))), (3, .ref (P)), (0, .ref (T)), (1, .int (p))] dX7_otherProposals_50 rfl (nI_add k 1) (Nat.le_of_ble_eq_true rfl) rfl ?_
        refine g_goto 14 dX7_otherProposals_53 (by decide) ?_
        refine g_pick [0, 3, 4, 1, 5, 6] rfl ?_
        exact ih (k + 1) (by omega)
      · refine g_iload 6 dX7_otherProposals_28 rfl ?_
        refine g_iconst (-1) dX7_otherProposals_30 (by decide) ?_
        refine g_icmp_eq 44 dX7_otherProposals_31 (by decide) (fun h_31 => ?_) (fun h_31 => ?_)
        · refine gN_iconst 0 dX7_otherProposals_44 (by decide) ?_
          exact g_ei (nI (b01 (¬ f k = -1 ∧ ¬ f k = p))) (congrArg nI (show 0 = b01 (¬ f k = -1 ∧ ¬ f k = p) from by first | exact (b01_t (by first | exact ⟨h_31, h_37⟩ | (constructor <;> assumption))).symm | exact (b01_f (by first | exact fun q => q.1 h_31 | exact fun q => q.2 h_37)).symm)) K_45
        · refine g_iload 6 dX7_otherProposals_34 rfl ?_
          refine g_iload_n 1 dX7_otherProposals_36 rfl rfl ?_
          refine g_icmp_eq 44 dX7_otherProposals_37 (by decide) (fun h_37 => ?_) (fun h_37 => ?_)
          · refine gN_iconst 0 dX7_otherProposals_44 (by decide) ?_
            exact g_ei (nI (b01 (¬ f k = -1 ∧ ¬ f k = p))) (congrArg nI (show 0 = b01 (¬ f k = -1 ∧ ¬ f k = p) from by first | exact (b01_t (by first | exact ⟨h_31, h_37⟩ | (constructor <;> assumption))).symm | exact (b01_f (by first | exact fun q => q.1 h_31 | exact fun q => q.2 h_37)).symm)) K_45
          · refine gN_iconst 1 dX7_otherProposals_40 (by decide) ?_
            refine g_goto 45 dX7_otherProposals_41 (by decide) ?_
            exact g_ei (nI (b01 (¬ f k = -1 ∧ ¬ f k = p))) (congrArg nI (show 1 = b01 (¬ f k = -1 ∧ ¬ f k = p) from by first | exact (b01_t (by first | exact ⟨h_31, h_37⟩ | (constructor <;> assumption))).symm | exact (b01_f (by first | exact fun q => q.1 h_31 | exact fun q => q.2 h_37)).symm)) K_45
set_option maxRecDepth 100000 in
theorem cn_X7_otherProposals (g : Gp) (cs : Nat × Nat) {m : Mm} {T P : Nat} {f : Nat → Int32} (ht : tg m T = (7, 0)) (hP : tg m P = (11, 4)) (hrP : rf m T 0 = some P) (hf : ∀ t, t < 4 → im m P t = f t) (p : Int32) : Dn g (MX7_otherProposals cs) [.ref (T), .int (p)] m (some (.int (nI (sm (fun t => b01 (¬ f t = -1 ∧ ¬ f t = p)) 4)))) (m) := by
  refine Cn.of pn_X7 (Nat.le_of_ble_eq_true rfl) rfl ?_
  refine gN_iconst 0 dX7_otherProposals_0 (by decide) ?_
  refine g_istore_n 2 [(2, .int (nI (0))), (0, .ref (T)), (1, .int (p))] dX7_otherProposals_1 rfl (Nat.le_of_ble_eq_true rfl) rfl ?_
  refine g_aload_n 0 dX7_otherProposals_2 rfl rfl ?_
  refine gN_getR (P) flX7_9 (fun _ _ _ => rfl) 0 (ht) (hrP) dX7_otherProposals_3 ?_
  refine g_astore_n 3 [(3, .ref (P)), (2, .int (nI (0))), (0, .ref (T)), (1, .int (p))] dX7_otherProposals_6 rfl (Nat.le_of_ble_eq_true rfl) rfl ?_
  refine g_aload_n 3 dX7_otherProposals_7 rfl rfl ?_
  refine gN_alen 11 4 (hP) (by decide) dX7_otherProposals_8 ?_
  refine g_istore 4 [(4, .int (nI (4))), (3, .ref (P)), (2, .int (nI (0))), (0, .ref (T)), (1, .int (p))] dX7_otherProposals_9 (Nat.le_of_ble_eq_true rfl) rfl ?_
  refine gN_iconst 0 dX7_otherProposals_11 (by decide) ?_
  refine g_istore 5 [(5, .int (nI (0))), (4, .int (nI (4))), (3, .ref (P)), (2, .int (nI (0))), (0, .ref (T)), (1, .int (p))] dX7_otherProposals_12 (Nat.le_of_ble_eq_true rfl) rfl ?_
  refine g_pick [0, 1, 2, 3, 4, 5] rfl ?_
  exact lp_X7_otherProposals g cs ht hP hrP hf p 4 0 rfl
set_option maxRecDepth 100000 in
theorem lp_X7_unlikeProposals (g : Gp) (cs : Nat × Nat) {m : Mm} {T P : Nat} {f : Nat → Int32} (ht : tg m T = (7, 0)) (hP : tg m P = (11, 4)) (hrP : rf m T 0 = some P) (hf : ∀ t, t < 4 → im m P t = f t) : ∀ d k : Nat, k + d = 10 → G g (MX7_unlikeProposals cs) (dQ (some (.int (nI (sm (fun v => b01 (∃ t, t < 4 ∧ f t = nI v)) 10)))) m) 4 [(2, .int (nI (k))), (1, .int (nI (sm (fun v => b01 (∃ t, t < 4 ∧ f t = nI v)) k))), (0, .ref (T))] [] (0, 0) m := by
  intro d
  induction d with
  | zero =>
    intro k hk
    obtain rfl : k = 10 := hk
    refine g_iload_n 2 dX7_unlikeProposals_4 rfl rfl ?_
    refine gN_bipush 9 dX7_unlikeProposals_5 (by decide) ?_
    refine gN_icmp_gt 27 dX7_unlikeProposals_7 (by decide) (by first | omega | exact b01_lt _) (by first | omega | exact b01_lt _) (fun h_7 => ?_) (fun h_7 => ?_)
    · refine g_iload_n 1 dX7_unlikeProposals_27 rfl rfl ?_
      refine g_iret rfl dX7_unlikeProposals_28 ⟨Nat.zero_le _, Nat.zero_le _⟩ ?_
      exact ⟨rfl, rfl⟩
    · exact absurd h_7 (by decide)
  | succ d ih =>
    intro k hk
    refine g_iload_n 2 dX7_unlikeProposals_4 rfl rfl ?_
    refine gN_bipush 9 dX7_unlikeProposals_5 (by decide) ?_
    refine gN_icmp_gt 27 dX7_unlikeProposals_7 (by decide) (by first | omega | exact b01_lt _) (by first | omega | exact b01_lt _) (fun h_7 => ?_) (fun h_7 => ?_)
    · exfalso; omega
    · refine g_iload_n 1 dX7_unlikeProposals_10 rfl rfl ?_
      refine g_aload_n 0 dX7_unlikeProposals_11 rfl rfl ?_
      refine g_iload_n 2 dX7_unlikeProposals_12 rfl rfl ?_
      refine gd_callV _ _ _ _ (cn_X7_isProposed g (0, 0) ht hP hrP hf (nI k)) ⟨rfl, rfl⟩ (ok_X7_isProposed _) mlX7_23 in_X7_isProposed se_X7_isProposed 7 0 (ht) rfl rfl rfl ⟨Nat.le_of_ble_eq_true rfl, Nat.le_of_ble_eq_true rfl⟩ (by exact Nat.le_of_ble_eq_true rfl) ⟨Nat.zero_le _, Nat.zero_le _⟩ dX7_unlikeProposals_13 rfl ?_
      refine gd_callSN _ _ _ _ (cn_X9_oneIf g (0, 0) (∃ t, t < 4 ∧ f t = nI k)) ⟨rfl, rfl⟩ (ok_X9_oneIf _) mlX7_19 st_X9_oneIf rfl ⟨Nat.le_of_ble_eq_true rfl, Nat.le_of_ble_eq_true rfl⟩ (by exact Nat.le_of_ble_eq_true rfl) ⟨Nat.zero_le _, Nat.zero_le _⟩ dX7_unlikeProposals_16 rfl ?_
      refine gN_iadd ((sm (fun v => b01 (∃ t, t < 4 ∧ f t = nI v)) k) + (b01 (∃ t, t < 4 ∧ f t = nI k))) dX7_unlikeProposals_19 rfl ?_
      refine g_istore_n 1 [(1, .int (nI ((sm (fun v => b01 (∃ t, t < 4 ∧ f t = nI v)) k) + (b01 (∃ t, t < 4 ∧ f t = nI k))))), (2, .int (nI (k))), (0, .ref (T))] dX7_unlikeProposals_20 rfl (Nat.le_of_ble_eq_true rfl) rfl ?_
      refine g_iinc 2 (nI (k + 1)) 1 [(2, .int (nI (k + 1))), (1, .int (nI ((sm (fun v => b01 (∃ t, t < 4 ∧ f t = nI v)) k) + (b01 (∃ t, t < 4 ∧ f t = nI k))))), (0, .ref (T))] dX7_unlikeProposals_21 rfl (nI_add k 1) (Nat.le_of_ble_eq_true rfl) rfl ?_
      refine g_goto 4 dX7_unlikeProposals_24 (by decide) ?_
      refine g_pick [0, 1, 2] rfl ?_
      exact ih (k + 1) (by omega)
set_option maxRecDepth 100000 in
theorem cn_X7_unlikeProposals (g : Gp) (cs : Nat × Nat) {m : Mm} {T P : Nat} {f : Nat → Int32} (ht : tg m T = (7, 0)) (hP : tg m P = (11, 4)) (hrP : rf m T 0 = some P) (hf : ∀ t, t < 4 → im m P t = f t) : Dn g (MX7_unlikeProposals cs) [.ref (T)] m (some (.int (nI (sm (fun v => b01 (∃ t, t < 4 ∧ f t = nI v)) 10)))) (m) := by
  refine Cn.of pn_X7 (Nat.le_of_ble_eq_true rfl) rfl ?_
  refine gN_iconst 0 dX7_unlikeProposals_0 (by decide) ?_
  refine g_istore_n 1 [(1, .int (nI (0))), (0, .ref (T))] dX7_unlikeProposals_1 rfl (Nat.le_of_ble_eq_true rfl) rfl ?_
  refine gN_iconst 0 dX7_unlikeProposals_2 (by decide) ?_
  refine g_istore_n 2 [(2, .int (nI (0))), (1, .int (nI (0))), (0, .ref (T))] dX7_unlikeProposals_3 rfl (Nat.le_of_ble_eq_true rfl) rfl ?_
  refine g_pick [0, 1, 2] rfl ?_
  exact lp_X7_unlikeProposals g cs ht hP hrP hf 10 0 rfl
set_option maxRecDepth 100000 in
theorem cn_X7_isDisputed (g : Gp) (cs : Nat × Nat) {m : Mm} {T P : Nat} {f : Nat → Int32} (ht : tg m T = (7, 0)) (hP : tg m P = (11, 4)) (hrP : rf m T 0 = some P) (hf : ∀ t, t < 4 → im m P t = f t) {x : Int32} (hx : im m T 1 = x) : Dn g (MX7_isDisputed cs) [.ref (T)] m (some (.int (nI (b01 (x = -1 ∧ 1 < sm (fun v => b01 (∃ t, t < 4 ∧ f t = nI v)) 10))))) (m) := by
  have l1 := sm_le (fun v => b01 (∃ t, t < 4 ∧ f t = nI v)) 1 10 (fun i _ => b01_le _)
  refine Cn.of pn_X7 (Nat.le_of_ble_eq_true rfl) rfl ?_
  refine g_aload_n 0 dX7_isDisputed_0 rfl rfl ?_
  refine gN_getI flX7_15 rfl 0 (ht) dX7_isDisputed_1 ?_
  refine g_eI (x) (hx) ?_
  refine g_iconst (-1) dX7_isDisputed_4 (by decide) ?_
  refine g_icmp_ne 20 dX7_isDisputed_5 (by decide) (fun h_5 => ?_) (fun h_5 => ?_)
  · refine gN_iconst 0 dX7_isDisputed_20 (by decide) ?_
    refine g_zret rfl (by first | rfl | exact nar_b01 _) dX7_isDisputed_21 ⟨Nat.zero_le _, Nat.zero_le _⟩ ?_
    exact ⟨vI (by rw [b01_f (fun q => by first | exact h_5 q.1 | (have := q.2; omega))]), rfl⟩
  · refine g_aload_n 0 dX7_isDisputed_8 rfl rfl ?_
    refine gd_callV _ _ _ _ (cn_X7_unlikeProposals g (0, 0) ht hP hrP hf) ⟨rfl, rfl⟩ (ok_X7_unlikeProposals _) mlX7_27 in_X7_unlikeProposals se_X7_unlikeProposals 7 0 (ht) rfl rfl rfl ⟨Nat.le_of_ble_eq_true rfl, Nat.le_of_ble_eq_true rfl⟩ (by exact Nat.le_of_ble_eq_true rfl) ⟨Nat.zero_le _, Nat.zero_le _⟩ dX7_isDisputed_9 rfl ?_
    refine gN_iconst 1 dX7_isDisputed_12 (by decide) ?_
    refine gN_icmp_le 20 dX7_isDisputed_13 (by decide) (by first | omega | exact b01_lt _) (by first | omega | exact b01_lt _) (fun h_13 => ?_) (fun h_13 => ?_)
    · refine gN_iconst 0 dX7_isDisputed_20 (by decide) ?_
      refine g_zret rfl (by first | rfl | exact nar_b01 _) dX7_isDisputed_21 ⟨Nat.zero_le _, Nat.zero_le _⟩ ?_
      exact ⟨vI (by rw [b01_f (fun q => by first | exact h_5 q.1 | (have := q.2; omega))]), rfl⟩
    · refine gN_iconst 1 dX7_isDisputed_16 (by decide) ?_
      refine g_goto 21 dX7_isDisputed_17 (by decide) ?_
      refine g_zret rfl (by first | rfl | exact nar_b01 _) dX7_isDisputed_21 ⟨Nat.zero_le _, Nat.zero_le _⟩ ?_
      exact ⟨vI (by rw [b01_t ⟨h_5, h_13⟩]), rfl⟩
/-- the three rows of constants -/
def CsT (g : Gp) (m : Mm) : Prop :=
  (tg m g.2.1 = (19, 5) ∧ im m g.2.1 0 = nI 10 ∧ im m g.2.1 1 = nI 30 ∧ im m g.2.1 2 = nI 60 ∧ im m g.2.1 3 = nI 80 ∧ im m g.2.1 4 = nI 100) ∧ (tg m g.2.2.1 = (19, 2) ∧ im m g.2.2.1 0 = nI 100 ∧ im m g.2.2.1 1 = nI 200) ∧
  (tg m g.2.2.2 = (19, 4) ∧ im m g.2.2.2 0 = nI 100 ∧ im m g.2.2.2 1 = nI 85 ∧ im m g.2.2.2 2 = nI 70 ∧ im m g.2.2.2 3 = nI 50)
set_option maxRecDepth 100000 in
theorem cn_X6_bandOf (g : Gp) (cs : Nat × Nat) {m : Mm} (hC : CsT g m) {t : Nat} (ht : t ≤ 100) : Dn g (MX6_bandOf cs) [.int (nI (t))] m (some (.int (nI (bandOf t)))) (m) := by
  refine Cn.of pn_X6 (Nat.le_of_ble_eq_true rfl) rfl ?_
  refine gN_iconst 0 dX6_bandOf_0 (by decide) ?_
  refine g_istore_n 1 [(1, .int (nI (0))), (0, .int (nI (t)))] dX6_bandOf_1 rfl (Nat.le_of_ble_eq_true rfl) rfl ?_
  refine g_iload_n 1 dX6_bandOf_2 rfl rfl ?_
  refine g_gets2 fnX6_162 dX6_bandOf_3 ?_
  refine gN_alen 19 4 (hC.2.2.1) (by decide) dX6_bandOf_6 ?_
  refine gN_icmp_ge 27 dX6_bandOf_7 (by decide) (by first | omega | exact b01_lt _) (by first | omega | exact b01_lt _) (fun h_7 => ?_) (fun h_7 => ?_)
  · exact absurd h_7 (by decide)
  · refine g_iload_n 0 dX6_bandOf_10 rfl rfl ?_
    refine g_gets2 fnX6_162 dX6_bandOf_11 ?_
    refine g_iload_n 1 dX6_bandOf_14 rfl rfl ?_
    refine gN_iald19 4 (hC.2.2.1) (by first | omega | exact b01_lt _) (by first | omega | exact b01_lt _) dX6_bandOf_15 ?_
    refine g_ei (nI (100)) (hC.2.2.2.1) ?_
    refine gN_icmp_lt 21 dX6_bandOf_16 (by decide) (by first | omega | exact b01_lt _) (by first | omega | exact b01_lt _) (fun h_16 => ?_) (fun h_16 => ?_)
    · refine g_iinc 1 (nI (1)) 0 [(1, .int (nI (1))), (0, .int (nI (t)))] dX6_bandOf_21 rfl (nI_add 0 1) (Nat.le_of_ble_eq_true rfl) rfl ?_
      refine g_goto 2 dX6_bandOf_24 (by decide) ?_
      refine g_iload_n 1 dX6_bandOf_2 rfl rfl ?_
      refine g_gets2 fnX6_162 dX6_bandOf_3 ?_
      refine gN_alen 19 4 (hC.2.2.1) (by decide) dX6_bandOf_6 ?_
      refine gN_icmp_ge 27 dX6_bandOf_7 (by decide) (by first | omega | exact b01_lt _) (by first | omega | exact b01_lt _) (fun h_7 => ?_) (fun h_7 => ?_)
      · exact absurd h_7 (by decide)
      · refine g_iload_n 0 dX6_bandOf_10 rfl rfl ?_
        refine g_gets2 fnX6_162 dX6_bandOf_11 ?_
        refine g_iload_n 1 dX6_bandOf_14 rfl rfl ?_
        refine gN_iald19 4 (hC.2.2.1) (by first | omega | exact b01_lt _) (by first | omega | exact b01_lt _) dX6_bandOf_15 ?_
        refine g_ei (nI (85)) (hC.2.2.2.2.1) ?_
        refine gN_icmp_lt 21 dX6_bandOf_16 (by decide) (by first | omega | exact b01_lt _) (by first | omega | exact b01_lt _) (fun h_16 => ?_) (fun h_16 => ?_)
        · refine g_iinc 1 (nI (2)) 0 [(1, .int (nI (2))), (0, .int (nI (t)))] dX6_bandOf_21 rfl (nI_add 1 1) (Nat.le_of_ble_eq_true rfl) rfl ?_
          refine g_goto 2 dX6_bandOf_24 (by decide) ?_
          refine g_iload_n 1 dX6_bandOf_2 rfl rfl ?_
          refine g_gets2 fnX6_162 dX6_bandOf_3 ?_
          refine gN_alen 19 4 (hC.2.2.1) (by decide) dX6_bandOf_6 ?_
          refine gN_icmp_ge 27 dX6_bandOf_7 (by decide) (by first | omega | exact b01_lt _) (by first | omega | exact b01_lt _) (fun h_7 => ?_) (fun h_7 => ?_)
          · exact absurd h_7 (by decide)
          · refine g_iload_n 0 dX6_bandOf_10 rfl rfl ?_
            refine g_gets2 fnX6_162 dX6_bandOf_11 ?_
            refine g_iload_n 1 dX6_bandOf_14 rfl rfl ?_
            refine gN_iald19 4 (hC.2.2.1) (by first | omega | exact b01_lt _) (by first | omega | exact b01_lt _) dX6_bandOf_15 ?_
            refine g_ei (nI (70)) (hC.2.2.2.2.2.1) ?_
            refine gN_icmp_lt 21 dX6_bandOf_16 (by decide) (by first | omega | exact b01_lt _) (by first | omega | exact b01_lt _) (fun h_16 => ?_) (fun h_16 => ?_)
            · refine g_iinc 1 (nI (3)) 0 [(1, .int (nI (3))), (0, .int (nI (t)))] dX6_bandOf_21 rfl (nI_add 2 1) (Nat.le_of_ble_eq_true rfl) rfl ?_
              refine g_goto 2 dX6_bandOf_24 (by decide) ?_
              refine g_iload_n 1 dX6_bandOf_2 rfl rfl ?_
              refine g_gets2 fnX6_162 dX6_bandOf_3 ?_
              refine gN_alen 19 4 (hC.2.2.1) (by decide) dX6_bandOf_6 ?_
              refine gN_icmp_ge 27 dX6_bandOf_7 (by decide) (by first | omega | exact b01_lt _) (by first | omega | exact b01_lt _) (fun h_7 => ?_) (fun h_7 => ?_)
              · exact absurd h_7 (by decide)
              · refine g_iload_n 0 dX6_bandOf_10 rfl rfl ?_
                refine g_gets2 fnX6_162 dX6_bandOf_11 ?_
                refine g_iload_n 1 dX6_bandOf_14 rfl rfl ?_
                refine gN_iald19 4 (hC.2.2.1) (by first | omega | exact b01_lt _) (by first | omega | exact b01_lt _) dX6_bandOf_15 ?_
                refine g_ei (nI (50)) (hC.2.2.2.2.2.2) ?_
                refine gN_icmp_lt 21 dX6_bandOf_16 (by decide) (by first | omega | exact b01_lt _) (by first | omega | exact b01_lt _) (fun h_16 => ?_) (fun h_16 => ?_)
                · refine g_iinc 1 (nI (4)) 0 [(1, .int (nI (4))), (0, .int (nI (t)))] dX6_bandOf_21 rfl (nI_add 3 1) (Nat.le_of_ble_eq_true rfl) rfl ?_
                  refine g_goto 2 dX6_bandOf_24 (by decide) ?_
                  refine g_iload_n 1 dX6_bandOf_2 rfl rfl ?_
                  refine g_gets2 fnX6_162 dX6_bandOf_3 ?_
                  refine gN_alen 19 4 (hC.2.2.1) (by decide) dX6_bandOf_6 ?_
                  refine gN_icmp_ge 27 dX6_bandOf_7 (by decide) (by first | omega | exact b01_lt _) (by first | omega | exact b01_lt _) (fun h_7 => ?_) (fun h_7 => ?_)
                  · refine g_gets2 fnX6_162 dX6_bandOf_27 ?_
                    refine gN_alen 19 4 (hC.2.2.1) (by decide) dX6_bandOf_30 ?_
                    refine g_iret rfl dX6_bandOf_31 ⟨Nat.zero_le _, Nat.zero_le _⟩ ?_
                    exact ⟨vI (congrArg nI (show 4 = bandOf t from by unfold bandOf; split <;> (try split) <;> (try split) <;> (try split) <;> omega)), rfl⟩
                  · exact absurd h_7 (by decide)
                · refine g_iload_n 1 dX6_bandOf_19 rfl rfl ?_
                  refine g_iret rfl dX6_bandOf_20 ⟨Nat.zero_le _, Nat.zero_le _⟩ ?_
                  exact ⟨vI (congrArg nI (show 3 = bandOf t from by unfold bandOf; split <;> (try split) <;> (try split) <;> (try split) <;> omega)), rfl⟩
            · refine g_iload_n 1 dX6_bandOf_19 rfl rfl ?_
              refine g_iret rfl dX6_bandOf_20 ⟨Nat.zero_le _, Nat.zero_le _⟩ ?_
              exact ⟨vI (congrArg nI (show 2 = bandOf t from by unfold bandOf; split <;> (try split) <;> (try split) <;> (try split) <;> omega)), rfl⟩
        · refine g_iload_n 1 dX6_bandOf_19 rfl rfl ?_
          refine g_iret rfl dX6_bandOf_20 ⟨Nat.zero_le _, Nat.zero_le _⟩ ?_
          exact ⟨vI (congrArg nI (show 1 = bandOf t from by unfold bandOf; split <;> (try split) <;> (try split) <;> (try split) <;> omega)), rfl⟩
    · refine g_iload_n 1 dX6_bandOf_19 rfl rfl ?_
      refine g_iret rfl dX6_bandOf_20 ⟨Nat.zero_le _, Nat.zero_le _⟩ ?_
      exact ⟨vI (congrArg nI (show 0 = bandOf t from by unfold bandOf; split <;> (try split) <;> (try split) <;> (try split) <;> omega)), rfl⟩
