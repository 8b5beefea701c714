/-! CONSTRUCTORS: a state -/
set_option maxRecDepth 100000 in
theorem lp_X6_initT (g : Gp) {m0 : Mm} {S : Nat} (hS : tg m0 S = (6, 0)) (hr : rf m0 S 1 = some (S + 2)) (ha : tg m0 (S + 2) = (17, 4)) (h6 : tg m0 (S + 6) = (4, 0)) {Q : Rs → Mm → Prop} (K : ∀ m, fz m = S + 12 + 1 * 4 → Fx m0 m (S + 12) (S + 2) → (∀ p, p < 4 → tg m (S + 12 + p) = (8, 0) ∧ rf m (S + 2) p = some (S + 12 + p) ∧ im m (S + 12 + p) 0 = nI 10 ∧ im m (S + 12 + p) 1 = nI 0 ∧ im m (S + 12 + p) 2 = nI 0 ∧ im m (S + 12 + p) 3 = nI 0 ∧ im m (S + 12 + p) 4 = nI 0) → G g (MX6_init (46, 255)) Q 111 [(2, .int (nI (4))), (1, .ref (S + 6)), (0, .ref (S))] [] (11 + 1 * 4, 72 + 5 * 4) m) : ∀ j i : Nat, i + j = 4 → ∀ m, fz m = S + 12 + 1 * i → Fx m0 m (S + 12) (S + 2) → (∀ p, p < i → tg m (S + 12 + p) = (8, 0) ∧ rf m (S + 2) p = some (S + 12 + p) ∧ im m (S + 12 + p) 0 = nI 10 ∧ im m (S + 12 + p) 1 = nI 0 ∧ im m (S + 12 + p) 2 = nI 0 ∧ im m (S + 12 + p) 3 = nI 0 ∧ im m (S + 12 + p) 4 = nI 0) → G g (MX6_init (46, 255)) Q 87 [(2, .int (nI (i))), (1, .ref (S + 6)), (0, .ref (S))] [] (11 + 1 * i, 72 + 5 * i) m := by
  intro j
  induction j with
  | zero =>
    intro i hi m hz hx hp
    obtain rfl : i = 4 := hi
    refine g_iload_n 2 dX6_init_87 rfl rfl ?_
    refine gN_iconst 4 dX6_init_88 (by decide) ?_
    refine gN_icmp_ge 111 dX6_init_89 (by decide) (by first | omega | exact b01_lt _) (by first | omega | exact b01_lt _) (fun h_89 => ?_) (fun h_89 => ?_)
    · refine g_pick [0, 1, 2] rfl ?_
      exact K m hz hx hp
    · exact absurd h_89 (by decide)
  | succ j ih =>
    intro i hi m hz hx hp
    obtain ⟨q, hq⟩ : ∃ q, q = S + 12 + 1 * i := ⟨_, rfl⟩
    have hqq : q = S + 12 + i := by omega
    have hlt : ∀ p, p < i → S + 12 + p < q := fun p hp => by omega
    refine g_iload_n 2 dX6_init_87 rfl rfl ?_
    refine gN_iconst 4 dX6_init_88 (by decide) ?_
    refine gN_icmp_ge 111 dX6_init_89 (by decide) (by first | omega | exact b01_lt _) (by first | omega | exact b01_lt _) (fun h_89 => ?_) (fun h_89 => ?_)
    · exfalso; omega
    · refine g_aload_n 0 dX6_init_92 rfl rfl ?_
      refine gN_getR (S + 2) flX6_17 (fun _ _ _ => rfl) 0 (by first | exact (hx S (by omega)).1.1.trans hS | (simp (disch := omega) only [tg_nwA, im_nwA, rf_nwA, jm_nwA, tg_sI, im_sI, rf_sI, jm_sI, tg_sR, im_sR, rf_sR, jm_sR, u1_n, u1_s, u2_n, u2_s]; exact (hx S (by omega)).1.1.trans hS) | (simp (disch := omega) only [tg_nwA, im_nwA, rf_nwA, jm_nwA, tg_sI, im_sI, rf_sI, jm_sI, tg_sR, im_sR, rf_sR, jm_sR, u1_n, u1_s, u2_n, u2_s]; done)) (by first | exact (congrFun ((hx S (by omega)).2 (by omega)) 1).trans hr | (simp (disch := omega) only [tg_nwA, im_nwA, rf_nwA, jm_nwA, tg_sI, im_sI, rf_sI, jm_sI, tg_sR, im_sR, rf_sR, jm_sR, u1_n, u1_s, u2_n, u2_s]; exact (congrFun ((hx S (by omega)).2 (by omega)) 1).trans hr) | (simp (disch := omega) only [tg_nwA, im_nwA, rf_nwA, jm_nwA, tg_sI, im_sI, rf_sI, jm_sI, tg_sR, im_sR, rf_sR, jm_sR, u1_n, u1_s, u2_n, u2_s]; done)) dX6_init_93 ?_
      refine g_iload_n 2 dX6_init_96 rfl rfl ?_
      refine g_newA (c := 8) (q) (hz.trans hq.symm) rfl klX6_15 ii_X8 iz_X8 (df_ok rfl) ⟨by show 11 + 1 * i + 1 ≤ 46; omega, by show 72 + 5 * i + 5 ≤ 255; omega⟩ dX6_init_97 ?_
      refine g_dup dX6_init_100 rfl ?_
      refine g_callIN _ _ (cn_X8_init g (0, 0) (m := nwA m q (8, 0)) (q := q) (u1_s _ _ _)) (ok_X8_init _) rfl rfl mlX6_57 in_X8_init rfl ⟨Nat.le_of_ble_eq_true rfl, Nat.le_of_ble_eq_true rfl⟩ (by exact Nat.le_of_ble_eq_true rfl) ⟨by show 11 + 1 * i + 1 + 0 ≤ 46; omega, by show 72 + 5 * i + 5 + 0 ≤ 255; omega⟩ dX6_init_101 rfl (fun v m4 h4 => ?_) (fun E m4 h4 => by cases h4.1)
      obtain ⟨h40, rfl⟩ := h4; cases h40
      refine gN_aast 17 4 8 0 (by first | exact (hx (S + 2) (by omega)).1.1.trans ha | (simp (disch := omega) only [tg_nwA, im_nwA, rf_nwA, jm_nwA, tg_sI, im_sI, rf_sI, jm_sI, tg_sR, im_sR, rf_sR, jm_sR, u1_n, u1_s, u2_n, u2_s]; exact (hx (S + 2) (by omega)).1.1.trans ha) | (simp (disch := omega) only [tg_nwA, im_nwA, rf_nwA, jm_nwA, tg_sI, im_sI, rf_sI, jm_sI, tg_sR, im_sR, rf_sR, jm_sR, u1_n, u1_s, u2_n, u2_s]; done)) (by decide) (by first | omega | exact b01_lt _) (by first | omega | exact b01_lt _) (by first | exact rfl | (simp (disch := omega) only [tg_nwA, im_nwA, rf_nwA, jm_nwA, tg_sI, im_sI, rf_sI, jm_sI, tg_sR, im_sR, rf_sR, jm_sR, u1_n, u1_s, u2_n, u2_s]; exact rfl) | (simp (disch := omega) only [tg_nwA, im_nwA, rf_nwA, jm_nwA, tg_sI, im_sI, rf_sI, jm_sI, tg_sR, im_sR, rf_sR, jm_sR, u1_n, u1_s, u2_n, u2_s]; done)) rfl rfl dX6_init_104 ?_
      refine g_iinc 2 (nI (i + 1)) 0 [(2, .int (nI (i + 1))), (1, .ref (S + 6)), (0, .ref (S))] dX6_init_105 rfl (nI_add i 1) (Nat.le_of_ble_eq_true rfl) rfl ?_
      refine g_goto 87 dX6_init_108 (by decide) ?_
      refine g_pick [0, 1, 2] rfl ?_
      refine g_u (u2 := (11 + 1 * (i + 1), 72 + 5 * (i + 1))) (show ((_, _) : Nat × Nat) = (_, _) from Prod.ext (by show _ = 11 + 1 * (i + 1); show 11 + 1 * i + 1 + 0 = _; omega) (by show _ = 72 + 5 * (i + 1); show 72 + 5 * i + 5 + 0 = _; omega)) ?_
      refine ih (i + 1) (by omega) _ ?_ (fun x hx1 => ⟨⟨?_, ?_, ?_⟩, fun hxa => ?_⟩) (fun p hp1 => ?_)
      · show q + 1 = _; omega
      · simp (disch := omega) only [tg_nwA, im_nwA, rf_nwA, jm_nwA, tg_sI, im_sI, rf_sI, jm_sI, tg_sR, im_sR, rf_sR, jm_sR, u1_n, u1_s, u2_n, u2_s]; exact (hx x hx1).1.1
      · show u2 (u2 (u2 (u2 (u2 (u1 (im m) q (fun _ => 0)) q 0 _) q 1 _) q 2 _) q 3 _) q 4 _ x = _
        rw [u2_o _ _ _ _ (by omega), u2_o _ _ _ _ (by omega), u2_o _ _ _ _ (by omega), u2_o _ _ _ _ (by omega), u2_o _ _ _ _ (by omega), u1_n _ _ _ (by omega)]
        exact (hx x hx1).1.2.1
      · simp (disch := omega) only [tg_nwA, im_nwA, rf_nwA, jm_nwA, tg_sI, im_sI, rf_sI, jm_sI, tg_sR, im_sR, rf_sR, jm_sR, u1_n, u1_s, u2_n, u2_s]; exact (hx x hx1).1.2.2
      · show u2 (u1 (rf m) q (fun _ => none)) (S + 2) i _ x = _
        rw [u2_o _ _ _ _ hxa, u1_n _ _ _ (by omega)]
        exact (hx x hx1).2 hxa
      · by_cases e : p = i
        · subst e
          rw [← hqq]
          refine ⟨?_, ?_, ?_, ?_, ?_, ?_, ?_⟩
          all_goals first | (simp (disch := omega) only [tg_nwA, im_nwA, rf_nwA, jm_nwA, tg_sI, im_sI, rf_sI, jm_sI, tg_sR, im_sR, rf_sR, jm_sR, u1_n, u1_s, u2_n, u2_s]; done) | (simp (disch := omega) only [tg_nwA, im_nwA, rf_nwA, jm_nwA, tg_sI, im_sI, rf_sI, jm_sI, tg_sR, im_sR, rf_sR, jm_sR, u1_n, u1_s, u2_n, u2_s]; first | rfl | rw [hqq]) | rfl
        · have hpq := hlt p (by omega)
          have ho := hp p (by omega)
          obtain ⟨o0, o1, o2, o3, o4, o5, o6⟩ := ho
          refine ⟨?_, ?_, ?_, ?_, ?_, ?_, ?_⟩
          · simp (disch := omega) only [tg_nwA, im_nwA, rf_nwA, jm_nwA, tg_sI, im_sI, rf_sI, jm_sI, tg_sR, im_sR, rf_sR, jm_sR, u1_n, u1_s, u2_n, u2_s]; exact o0
          · simp (disch := omega) only [tg_nwA, im_nwA, rf_nwA, jm_nwA, tg_sI, im_sI, rf_sI, jm_sI, tg_sR, im_sR, rf_sR, jm_sR, u1_n, u1_s, u2_n, u2_s]; exact o1
          · simp (disch := omega) only [tg_nwA, im_nwA, rf_nwA, jm_nwA, tg_sI, im_sI, rf_sI, jm_sI, tg_sR, im_sR, rf_sR, jm_sR, u1_n, u1_s, u2_n, u2_s]; exact o2
          · simp (disch := omega) only [tg_nwA, im_nwA, rf_nwA, jm_nwA, tg_sI, im_sI, rf_sI, jm_sI, tg_sR, im_sR, rf_sR, jm_sR, u1_n, u1_s, u2_n, u2_s]; exact o3
          · simp (disch := omega) only [tg_nwA, im_nwA, rf_nwA, jm_nwA, tg_sI, im_sI, rf_sI, jm_sI, tg_sR, im_sR, rf_sR, jm_sR, u1_n, u1_s, u2_n, u2_s]; exact o4
          · simp (disch := omega) only [tg_nwA, im_nwA, rf_nwA, jm_nwA, tg_sI, im_sI, rf_sI, jm_sI, tg_sR, im_sR, rf_sR, jm_sR, u1_n, u1_s, u2_n, u2_s]; exact o5
          · simp (disch := omega) only [tg_nwA, im_nwA, rf_nwA, jm_nwA, tg_sI, im_sI, rf_sI, jm_sI, tg_sR, im_sR, rf_sR, jm_sR, u1_n, u1_s, u2_n, u2_s]; exact o6
set_option maxRecDepth 100000 in
theorem lp_X6_initB (g : Gp) {m0 : Mm} {S : Nat} (hS : tg m0 S = (6, 0)) (hr : rf m0 S 2 = some (S + 3)) (ha : tg m0 (S + 3) = (12, 5)) (h6 : tg m0 (S + 6) = (4, 0)) (hg : g.2.1 < S) (hC : CsT g m0) {Q : Rs → Mm → Prop} (K : ∀ m, fz m = S + 16 + 1 * 5 → Fx m0 m (S + 16) (S + 3) → (∀ p, p < 5 → tg m (S + 16 + p) = (0, 0) ∧ rf m (S + 3) p = some (S + 16 + p) ∧ im m (S + 16 + p) 0 = im m0 g.2.1 p ∧ im m (S + 16 + p) 1 = nI 0 ∧ im m (S + 16 + p) 2 = nI 0) → G g (MX6_init (46, 255)) Q 142 [(2, .int (nI (5))), (1, .ref (S + 6)), (0, .ref (S))] [] (15 + 1 * 5, 92 + 3 * 5) m) : ∀ j i : Nat, i + j = 5 → ∀ m, fz m = S + 16 + 1 * i → Fx m0 m (S + 16) (S + 3) → (∀ p, p < i → tg m (S + 16 + p) = (0, 0) ∧ rf m (S + 3) p = some (S + 16 + p) ∧ im m (S + 16 + p) 0 = im m0 g.2.1 p ∧ im m (S + 16 + p) 1 = nI 0 ∧ im m (S + 16 + p) 2 = nI 0) → G g (MX6_init (46, 255)) Q 113 [(2, .int (nI (i))), (1, .ref (S + 6)), (0, .ref (S))] [] (15 + 1 * i, 92 + 3 * i) m := by
  intro j
  induction j with
  | zero =>
    intro i hi m hz hx hp
    obtain rfl : i = 5 := hi
    refine g_iload_n 2 dX6_init_113 rfl rfl ?_
    refine gN_iconst 5 dX6_init_114 (by decide) ?_
    refine gN_icmp_ge 142 dX6_init_115 (by decide) (by first | omega | exact b01_lt _) (by first | omega | exact b01_lt _) (fun h_115 => ?_) (fun h_115 => ?_)
    · refine g_pick [0, 1, 2] rfl ?_
      exact K m hz hx hp
    · exact absurd h_115 (by decide)
  | succ j ih =>
    intro i hi m hz hx hp
    obtain ⟨q, hq⟩ : ∃ q, q = S + 16 + 1 * i := ⟨_, rfl⟩
    have hqq : q = S + 16 + i := by omega
    have hlt : ∀ p, p < i → S + 16 + p < q := fun p hp => by omega
    refine g_iload_n 2 dX6_init_113 rfl rfl ?_
    refine gN_iconst 5 dX6_init_114 (by decide) ?_
    refine gN_icmp_ge 142 dX6_init_115 (by decide) (by first | omega | exact b01_lt _) (by first | omega | exact b01_lt _) (fun h_115 => ?_) (fun h_115 => ?_)
    · exfalso; omega
    · refine g_aload_n 0 dX6_init_118 rfl rfl ?_
      refine gN_getR (S + 3) flX6_23 (fun _ _ _ => rfl) 0 (by first | exact (hx S (by omega)).1.1.trans hS | (simp (disch := omega) only [tg_nwA, im_nwA, rf_nwA, jm_nwA, tg_sI, im_sI, rf_sI, jm_sI, tg_sR, im_sR, rf_sR, jm_sR, u1_n, u1_s, u2_n, u2_s]; exact (hx S (by omega)).1.1.trans hS) | (simp (disch := omega) only [tg_nwA, im_nwA, rf_nwA, jm_nwA, tg_sI, im_sI, rf_sI, jm_sI, tg_sR, im_sR, rf_sR, jm_sR, u1_n, u1_s, u2_n, u2_s]; done)) (by first | exact (congrFun ((hx S (by omega)).2 (by omega)) 2).trans hr | (simp (disch := omega) only [tg_nwA, im_nwA, rf_nwA, jm_nwA, tg_sI, im_sI, rf_sI, jm_sI, tg_sR, im_sR, rf_sR, jm_sR, u1_n, u1_s, u2_n, u2_s]; exact (congrFun ((hx S (by omega)).2 (by omega)) 2).trans hr) | (simp (disch := omega) only [tg_nwA, im_nwA, rf_nwA, jm_nwA, tg_sI, im_sI, rf_sI, jm_sI, tg_sR, im_sR, rf_sR, jm_sR, u1_n, u1_s, u2_n, u2_s]; done)) dX6_init_119 ?_
      refine g_iload_n 2 dX6_init_122 rfl rfl ?_
      refine g_newA (c := 0) (q) (hz.trans hq.symm) rfl klX6_21 ii_X0 iz_X0 (df_ok rfl) ⟨by show 15 + 1 * i + 1 ≤ 46; omega, by show 92 + 3 * i + 3 ≤ 255; omega⟩ dX6_init_123 ?_
      refine g_dup dX6_init_126 rfl ?_
      refine g_gets0 fnX6_58 dX6_init_127 ?_
      refine g_iload_n 2 dX6_init_130 rfl rfl ?_
      refine gN_iald19 5 (by first | exact (hx g.2.1 (by omega)).1.1.trans hC.1.1 | (simp (disch := omega) only [tg_nwA, im_nwA, rf_nwA, jm_nwA, tg_sI, im_sI, rf_sI, jm_sI, tg_sR, im_sR, rf_sR, jm_sR, u1_n, u1_s, u2_n, u2_s]; exact (hx g.2.1 (by omega)).1.1.trans hC.1.1) | (simp (disch := omega) only [tg_nwA, im_nwA, rf_nwA, jm_nwA, tg_sI, im_sI, rf_sI, jm_sI, tg_sR, im_sR, rf_sR, jm_sR, u1_n, u1_s, u2_n, u2_s]; done)) (by first | omega | exact b01_lt _) (by first | omega | exact b01_lt _) dX6_init_131 ?_
      refine g_callI _ _ (cn_X0_init g (0, 0) (m := nwA m q (0, 0)) (q := q) (u1_s _ _ _)) (ok_X0_init _) rfl rfl mlX6_61 in_X0_init rfl ⟨Nat.le_of_ble_eq_true rfl, Nat.le_of_ble_eq_true rfl⟩ (by exact Nat.le_of_ble_eq_true rfl) ⟨by show 15 + 1 * i + 1 + 0 ≤ 46; omega, by show 92 + 3 * i + 3 + 0 ≤ 255; omega⟩ dX6_init_132 rfl (fun v m4 h4 => ?_) (fun E m4 h4 => by cases h4.1)
      obtain ⟨h40, rfl⟩ := h4; cases h40
      refine gN_aast 12 5 0 0 (by first | exact (hx (S + 3) (by omega)).1.1.trans ha | (simp (disch := omega) only [tg_nwA, im_nwA, rf_nwA, jm_nwA, tg_sI, im_sI, rf_sI, jm_sI, tg_sR, im_sR, rf_sR, jm_sR, u1_n, u1_s, u2_n, u2_s]; exact (hx (S + 3) (by omega)).1.1.trans ha) | (simp (disch := omega) only [tg_nwA, im_nwA, rf_nwA, jm_nwA, tg_sI, im_sI, rf_sI, jm_sI, tg_sR, im_sR, rf_sR, jm_sR, u1_n, u1_s, u2_n, u2_s]; done)) (by decide) (by first | omega | exact b01_lt _) (by first | omega | exact b01_lt _) (by first | exact rfl | (simp (disch := omega) only [tg_nwA, im_nwA, rf_nwA, jm_nwA, tg_sI, im_sI, rf_sI, jm_sI, tg_sR, im_sR, rf_sR, jm_sR, u1_n, u1_s, u2_n, u2_s]; exact rfl) | (simp (disch := omega) only [tg_nwA, im_nwA, rf_nwA, jm_nwA, tg_sI, im_sI, rf_sI, jm_sI, tg_sR, im_sR, rf_sR, jm_sR, u1_n, u1_s, u2_n, u2_s]; done)) rfl rfl dX6_init_135 ?_
      refine g_iinc 2 (nI (i + 1)) 0 [(2, .int (nI (i + 1))), (1, .ref (S + 6)), (0, .ref (S))] dX6_init_136 rfl (nI_add i 1) (Nat.le_of_ble_eq_true rfl) rfl ?_
      refine g_goto 113 dX6_init_139 (by decide) ?_
      refine g_pick [0, 1, 2] rfl ?_
      refine g_u (u2 := (15 + 1 * (i + 1), 92 + 3 * (i + 1))) (show ((_, _) : Nat × Nat) = (_, _) from Prod.ext (by show _ = 15 + 1 * (i + 1); show 15 + 1 * i + 1 + 0 = _; omega) (by show _ = 92 + 3 * (i + 1); show 92 + 3 * i + 3 + 0 = _; omega)) ?_
      refine ih (i + 1) (by omega) _ ?_ (fun x hx1 => ⟨⟨?_, ?_, ?_⟩, fun hxa => ?_⟩) (fun p hp1 => ?_)
      · show q + 1 = _; omega
      · simp (disch := omega) only [tg_nwA, im_nwA, rf_nwA, jm_nwA, tg_sI, im_sI, rf_sI, jm_sI, tg_sR, im_sR, rf_sR, jm_sR, u1_n, u1_s, u2_n, u2_s]; exact (hx x hx1).1.1
      · show u2 (u2 (u2 (u1 (im m) q (fun _ => 0)) q 1 _) q 2 _) q 0 _ x = _
        rw [u2_o _ _ _ _ (by omega), u2_o _ _ _ _ (by omega), u2_o _ _ _ _ (by omega), u1_n _ _ _ (by omega)]
        exact (hx x hx1).1.2.1
      · simp (disch := omega) only [tg_nwA, im_nwA, rf_nwA, jm_nwA, tg_sI, im_sI, rf_sI, jm_sI, tg_sR, im_sR, rf_sR, jm_sR, u1_n, u1_s, u2_n, u2_s]; exact (hx x hx1).1.2.2
      · show u2 (u1 (rf m) q (fun _ => none)) (S + 3) i _ x = _
        rw [u2_o _ _ _ _ hxa, u1_n _ _ _ (by omega)]
        exact (hx x hx1).2 hxa
      · by_cases e : p = i
        · subst e
          rw [← hqq]
          refine ⟨?_, ?_, ?_, ?_, ?_⟩
          all_goals first | (simp (disch := omega) only [tg_nwA, im_nwA, rf_nwA, jm_nwA, tg_sI, im_sI, rf_sI, jm_sI, tg_sR, im_sR, rf_sR, jm_sR, u1_n, u1_s, u2_n, u2_s]; done) | (simp (disch := omega) only [tg_nwA, im_nwA, rf_nwA, jm_nwA, tg_sI, im_sI, rf_sI, jm_sI, tg_sR, im_sR, rf_sR, jm_sR, u1_n, u1_s, u2_n, u2_s]; first | rfl | rw [hqq] | exact congrFun (hx g.2.1 (by omega)).1.2.1 _) | rfl
        · have hpq := hlt p (by omega)
          have ho := hp p (by omega)
          obtain ⟨o0, o1, o2, o3, o4⟩ := ho
          refine ⟨?_, ?_, ?_, ?_, ?_⟩
          · simp (disch := omega) only [tg_nwA, im_nwA, rf_nwA, jm_nwA, tg_sI, im_sI, rf_sI, jm_sI, tg_sR, im_sR, rf_sR, jm_sR, u1_n, u1_s, u2_n, u2_s]; exact o0
          · simp (disch := omega) only [tg_nwA, im_nwA, rf_nwA, jm_nwA, tg_sI, im_sI, rf_sI, jm_sI, tg_sR, im_sR, rf_sR, jm_sR, u1_n, u1_s, u2_n, u2_s]; exact o1
          · simp (disch := omega) only [tg_nwA, im_nwA, rf_nwA, jm_nwA, tg_sI, im_sI, rf_sI, jm_sI, tg_sR, im_sR, rf_sR, jm_sR, u1_n, u1_s, u2_n, u2_s]; exact o2
          · simp (disch := omega) only [tg_nwA, im_nwA, rf_nwA, jm_nwA, tg_sI, im_sI, rf_sI, jm_sI, tg_sR, im_sR, rf_sR, jm_sR, u1_n, u1_s, u2_n, u2_s]; exact o3
          · simp (disch := omega) only [tg_nwA, im_nwA, rf_nwA, jm_nwA, tg_sI, im_sI, rf_sI, jm_sI, tg_sR, im_sR, rf_sR, jm_sR, u1_n, u1_s, u2_n, u2_s]; exact o4
set_option maxRecDepth 100000 in
theorem lp_X6_initW (g : Gp) {m0 : Mm} {S : Nat} (hS : tg m0 S = (6, 0)) (hr : rf m0 S 3 = some (S + 4)) (ha : tg m0 (S + 4) = (16, 8)) (h6 : tg m0 (S + 6) = (4, 0)) {Q : Rs → Mm → Prop} (K : ∀ m, fz m = S + 21 + 2 * 8 → Fx m0 m (S + 21) (S + 4) → (∀ p, p < 8 → tg m (S + 21 + 2 * p) = (7, 0) ∧ rf m (S + 4) p = some (S + 21 + 2 * p) ∧ tg m (S + 22 + 2 * p) = (11, 4) ∧ rf m (S + 21 + 2 * p) 0 = some (S + 22 + 2 * p) ∧ im m (S + 22 + 2 * p) 0 = -1 ∧ im m (S + 22 + 2 * p) 1 = -1 ∧ im m (S + 22 + 2 * p) 2 = -1 ∧ im m (S + 22 + 2 * p) 3 = -1 ∧ im m (S + 21 + 2 * p) 1 = -1) → G g (MX6_init (46, 255)) Q 169 [(2, .int (nI (8))), (1, .ref (S + 6)), (0, .ref (S))] [] (20 + 2 * 8, 107 + 6 * 8) m) : ∀ j i : Nat, i + j = 8 → ∀ m, fz m = S + 21 + 2 * i → Fx m0 m (S + 21) (S + 4) → (∀ p, p < i → tg m (S + 21 + 2 * p) = (7, 0) ∧ rf m (S + 4) p = some (S + 21 + 2 * p) ∧ tg m (S + 22 + 2 * p) = (11, 4) ∧ rf m (S + 21 + 2 * p) 0 = some (S + 22 + 2 * p) ∧ im m (S + 22 + 2 * p) 0 = -1 ∧ im m (S + 22 + 2 * p) 1 = -1 ∧ im m (S + 22 + 2 * p) 2 = -1 ∧ im m (S + 22 + 2 * p) 3 = -1 ∧ im m (S + 21 + 2 * p) 1 = -1) → G g (MX6_init (46, 255)) Q 144 [(2, .int (nI (i))), (1, .ref (S + 6)), (0, .ref (S))] [] (20 + 2 * i, 107 + 6 * i) m := by
  intro j
  induction j with
  | zero =>
    intro i hi m hz hx hp
    obtain rfl : i = 8 := hi
    refine g_iload_n 2 dX6_init_144 rfl rfl ?_
    refine gN_bipush 8 dX6_init_145 (by decide) ?_
    refine gN_icmp_ge 169 dX6_init_147 (by decide) (by first | omega | exact b01_lt _) (by first | omega | exact b01_lt _) (fun h_147 => ?_) (fun h_147 => ?_)
    · refine g_pick [0, 1, 2] rfl ?_
      exact K m hz hx hp
    · exact absurd h_147 (by decide)
  | succ j ih =>
    intro i hi m hz hx hp
    obtain ⟨q, hq⟩ : ∃ q, q = S + 21 + 2 * i := ⟨_, rfl⟩
    have hqq : q = S + 21 + 2 * i := by omega
    have hlt : ∀ p, p < i → S + 21 + 2 * p < q := fun p hp => by omega
    have hq1 : S + 22 + 2 * i = q + 1 := by omega
    refine g_iload_n 2 dX6_init_144 rfl rfl ?_
    refine gN_bipush 8 dX6_init_145 (by decide) ?_
    refine gN_icmp_ge 169 dX6_init_147 (by decide) (by first | omega | exact b01_lt _) (by first | omega | exact b01_lt _) (fun h_147 => ?_) (fun h_147 => ?_)
    · exfalso; omega
    · refine g_aload_n 0 dX6_init_150 rfl rfl ?_
      refine gN_getR (S + 4) flX6_29 (fun _ _ _ => rfl) 0 (by first | exact (hx S (by omega)).1.1.trans hS | (simp (disch := omega) only [tg_nwA, im_nwA, rf_nwA, jm_nwA, tg_sI, im_sI, rf_sI, jm_sI, tg_sR, im_sR, rf_sR, jm_sR, u1_n, u1_s, u2_n, u2_s]; exact (hx S (by omega)).1.1.trans hS) | (simp (disch := omega) only [tg_nwA, im_nwA, rf_nwA, jm_nwA, tg_sI, im_sI, rf_sI, jm_sI, tg_sR, im_sR, rf_sR, jm_sR, u1_n, u1_s, u2_n, u2_s]; done)) (by first | exact (congrFun ((hx S (by omega)).2 (by omega)) 3).trans hr | (simp (disch := omega) only [tg_nwA, im_nwA, rf_nwA, jm_nwA, tg_sI, im_sI, rf_sI, jm_sI, tg_sR, im_sR, rf_sR, jm_sR, u1_n, u1_s, u2_n, u2_s]; exact (congrFun ((hx S (by omega)).2 (by omega)) 3).trans hr) | (simp (disch := omega) only [tg_nwA, im_nwA, rf_nwA, jm_nwA, tg_sI, im_sI, rf_sI, jm_sI, tg_sR, im_sR, rf_sR, jm_sR, u1_n, u1_s, u2_n, u2_s]; done)) dX6_init_151 ?_
      refine g_iload_n 2 dX6_init_154 rfl rfl ?_
      refine g_newA (c := 7) (q) (hz.trans hq.symm) rfl klX6_27 ii_X7 iz_X7 (df_ok rfl) ⟨by show 20 + 2 * i + 1 ≤ 46; omega, by show 107 + 6 * i + 2 ≤ 255; omega⟩ dX6_init_155 ?_
      refine g_dup dX6_init_158 rfl ?_
      refine g_callIN _ _ (cn_X7_init g (0, 0) (m := nwA m q (7, 0)) (q := q) (u1_s _ _ _) rfl) (ok_X7_init _) rfl rfl mlX6_64 in_X7_init rfl ⟨Nat.le_of_ble_eq_true rfl, Nat.le_of_ble_eq_true rfl⟩ (by exact Nat.le_of_ble_eq_true rfl) ⟨by show 20 + 2 * i + 1 + 1 ≤ 46; omega, by show 107 + 6 * i + 2 + 4 ≤ 255; omega⟩ dX6_init_159 rfl (fun v m4 h4 => ?_) (fun E m4 h4 => by cases h4.1)
      obtain ⟨h40, rfl⟩ := h4; cases h40
      refine gN_aast 16 8 7 0 (by first | exact (hx (S + 4) (by omega)).1.1.trans ha | (simp (disch := omega) only [tg_nwA, im_nwA, rf_nwA, jm_nwA, tg_sI, im_sI, rf_sI, jm_sI, tg_sR, im_sR, rf_sR, jm_sR, u1_n, u1_s, u2_n, u2_s]; exact (hx (S + 4) (by omega)).1.1.trans ha) | (simp (disch := omega) only [tg_nwA, im_nwA, rf_nwA, jm_nwA, tg_sI, im_sI, rf_sI, jm_sI, tg_sR, im_sR, rf_sR, jm_sR, u1_n, u1_s, u2_n, u2_s]; done)) (by decide) (by first | omega | exact b01_lt _) (by first | omega | exact b01_lt _) (by first | exact rfl | (simp (disch := omega) only [tg_nwA, im_nwA, rf_nwA, jm_nwA, tg_sI, im_sI, rf_sI, jm_sI, tg_sR, im_sR, rf_sR, jm_sR, u1_n, u1_s, u2_n, u2_s]; exact rfl) | (simp (disch := omega) only [tg_nwA, im_nwA, rf_nwA, jm_nwA, tg_sI, im_sI, rf_sI, jm_sI, tg_sR, im_sR, rf_sR, jm_sR, u1_n, u1_s, u2_n, u2_s]; done)) rfl rfl dX6_init_162 ?_
      refine g_iinc 2 (nI (i + 1)) 0 [(2, .int (nI (i + 1))), (1, .ref (S + 6)), (0, .ref (S))] dX6_init_163 rfl (nI_add i 1) (Nat.le_of_ble_eq_true rfl) rfl ?_
      refine g_goto 144 dX6_init_166 (by decide) ?_
      refine g_pick [0, 1, 2] rfl ?_
      refine g_u (u2 := (20 + 2 * (i + 1), 107 + 6 * (i + 1))) (show ((_, _) : Nat × Nat) = (_, _) from Prod.ext (by show _ = 20 + 2 * (i + 1); show 20 + 2 * i + 1 + 1 = _; omega) (by show _ = 107 + 6 * (i + 1); show 107 + 6 * i + 2 + 4 = _; omega)) ?_
      refine ih (i + 1) (by omega) _ ?_ (fun x hx1 => ⟨⟨?_, ?_, ?_⟩, fun hxa => ?_⟩) (fun p hp1 => ?_)
      · show q + 1 + 1 = _; omega
      · simp (disch := omega) only [tg_nwA, im_nwA, rf_nwA, jm_nwA, tg_sI, im_sI, rf_sI, jm_sI, tg_sR, im_sR, rf_sR, jm_sR, u1_n, u1_s, u2_n, u2_s]; exact (hx x hx1).1.1
      · show u2 (u2 (u2 (u2 (u2 (u1 (u1 (im m) q (fun _ => 0)) (q + 1) (fun _ => 0)) (q + 1) 0 _) (q + 1) 1 _) (q + 1) 2 _) (q + 1) 3 _) q 1 _ x = _
        rw [u2_o _ _ _ _ (by omega), u2_o _ _ _ _ (by omega), u2_o _ _ _ _ (by omega), u2_o _ _ _ _ (by omega), u2_o _ _ _ _ (by omega), u1_n _ _ _ (by omega), u1_n _ _ _ (by omega)]
        exact (hx x hx1).1.2.1
      · simp (disch := omega) only [tg_nwA, im_nwA, rf_nwA, jm_nwA, tg_sI, im_sI, rf_sI, jm_sI, tg_sR, im_sR, rf_sR, jm_sR, u1_n, u1_s, u2_n, u2_s]; exact (hx x hx1).1.2.2
      · show u2 (u2 (u1 (u1 (rf m) q (fun _ => none)) (q + 1) (fun _ => none)) q 0 _) (S + 4) i _ x = _
        rw [u2_o _ _ _ _ hxa, u2_o _ _ _ _ (by omega), u1_n _ _ _ (by omega), u1_n _ _ _ (by omega)]
        exact (hx x hx1).2 hxa
      · by_cases e : p = i
        · subst e
          rw [← hqq]
          try rw [hq1]
          refine ⟨?_, ?_, ?_, ?_, ?_, ?_, ?_, ?_, ?_⟩
          all_goals first | (simp (disch := omega) only [tg_nwA, im_nwA, rf_nwA, jm_nwA, tg_sI, im_sI, rf_sI, jm_sI, tg_sR, im_sR, rf_sR, jm_sR, u1_n, u1_s, u2_n, u2_s]; done) | (simp (disch := omega) only [tg_nwA, im_nwA, rf_nwA, jm_nwA, tg_sI, im_sI, rf_sI, jm_sI, tg_sR, im_sR, rf_sR, jm_sR, u1_n, u1_s, u2_n, u2_s]; first | rfl | rw [hqq]) | rfl
        · have hpq := hlt p (by omega)
          have ho := hp p (by omega)
          obtain ⟨o0, o1, o2, o3, o4, o5, o6, o7, o8⟩ := ho
          refine ⟨?_, ?_, ?_, ?_, ?_, ?_, ?_, ?_, ?_⟩
          · simp (disch := omega) only [tg_nwA, im_nwA, rf_nwA, jm_nwA, tg_sI, im_sI, rf_sI, jm_sI, tg_sR, im_sR, rf_sR, jm_sR, u1_n, u1_s, u2_n, u2_s]; exact o0
          · simp (disch := omega) only [tg_nwA, im_nwA, rf_nwA, jm_nwA, tg_sI, im_sI, rf_sI, jm_sI, tg_sR, im_sR, rf_sR, jm_sR, u1_n, u1_s, u2_n, u2_s]; exact o1
          · simp (disch := omega) only [tg_nwA, im_nwA, rf_nwA, jm_nwA, tg_sI, im_sI, rf_sI, jm_sI, tg_sR, im_sR, rf_sR, jm_sR, u1_n, u1_s, u2_n, u2_s]; exact o2
          · simp (disch := omega) only [tg_nwA, im_nwA, rf_nwA, jm_nwA, tg_sI, im_sI, rf_sI, jm_sI, tg_sR, im_sR, rf_sR, jm_sR, u1_n, u1_s, u2_n, u2_s]; exact o3
          · simp (disch := omega) only [tg_nwA, im_nwA, rf_nwA, jm_nwA, tg_sI, im_sI, rf_sI, jm_sI, tg_sR, im_sR, rf_sR, jm_sR, u1_n, u1_s, u2_n, u2_s]; exact o4
          · simp (disch := omega) only [tg_nwA, im_nwA, rf_nwA, jm_nwA, tg_sI, im_sI, rf_sI, jm_sI, tg_sR, im_sR, rf_sR, jm_sR, u1_n, u1_s, u2_n, u2_s]; exact o5
          · simp (disch := omega) only [tg_nwA, im_nwA, rf_nwA, jm_nwA, tg_sI, im_sI, rf_sI, jm_sI, tg_sR, im_sR, rf_sR, jm_sR, u1_n, u1_s, u2_n, u2_s]; exact o6
          · simp (disch := omega) only [tg_nwA, im_nwA, rf_nwA, jm_nwA, tg_sI, im_sI, rf_sI, jm_sI, tg_sR, im_sR, rf_sR, jm_sR, u1_n, u1_s, u2_n, u2_s]; exact o7
          · simp (disch := omega) only [tg_nwA, im_nwA, rf_nwA, jm_nwA, tg_sI, im_sI, rf_sI, jm_sI, tg_sR, im_sR, rf_sR, jm_sR, u1_n, u1_s, u2_n, u2_s]; exact o8
set_option maxRecDepth 100000 in
theorem lp_X6_initS (g : Gp) {m0 : Mm} {S : Nat} (hS : tg m0 S = (6, 0)) (hr : rf m0 S 4 = some (S + 5)) (ha : tg m0 (S + 5) = (14, 10)) (h6 : tg m0 (S + 6) = (4, 0)) {Q : Rs → Mm → Prop} (K : ∀ m, fz m = S + 37 + 1 * 10 → Fx m0 m (S + 37) (S + 5) → (∀ p, p < 10 → tg m (S + 37 + p) = (5, 0) ∧ rf m (S + 5) p = some (S + 37 + p)) → G g (MX6_init (46, 255)) Q 197 [(2, .int (nI (10))), (1, .ref (S + 6)), (0, .ref (S))] [] (36 + 1 * 10, 155 + 10 * 10) m) : ∀ j i : Nat, i + j = 10 → ∀ m, fz m = S + 37 + 1 * i → Fx m0 m (S + 37) (S + 5) → (∀ p, p < i → tg m (S + 37 + p) = (5, 0) ∧ rf m (S + 5) p = some (S + 37 + p)) → G g (MX6_init (46, 255)) Q 171 [(2, .int (nI (i))), (1, .ref (S + 6)), (0, .ref (S))] [] (36 + 1 * i, 155 + 10 * i) m := by
  intro j
  induction j with
  | zero =>
    intro i hi m hz hx hp
    obtain rfl : i = 10 := hi
    refine g_iload_n 2 dX6_init_171 rfl rfl ?_
    refine gN_bipush 10 dX6_init_172 (by decide) ?_
    refine gN_icmp_ge 197 dX6_init_174 (by decide) (by first | omega | exact b01_lt _) (by first | omega | exact b01_lt _) (fun h_174 => ?_) (fun h_174 => ?_)
    · refine g_pick [0, 1, 2] rfl ?_
      exact K m hz hx hp
    · exact absurd h_174 (by decide)
  | succ j ih =>
    intro i hi m hz hx hp
    obtain ⟨q, hq⟩ : ∃ q, q = S + 37 + 1 * i := ⟨_, rfl⟩
    have hqq : q = S + 37 + i := by omega
    have hlt : ∀ p, p < i → S + 37 + p < q := fun p hp => by omega
    refine g_iload_n 2 dX6_init_171 rfl rfl ?_
    refine gN_bipush 10 dX6_init_172 (by decide) ?_
    refine gN_icmp_ge 197 dX6_init_174 (by decide) (by first | omega | exact b01_lt _) (by first | omega | exact b01_lt _) (fun h_174 => ?_) (fun h_174 => ?_)
    · exfalso; omega
    · refine g_aload_n 0 dX6_init_177 rfl rfl ?_
      refine gN_getR (S + 5) flX6_35 (fun _ _ _ => rfl) 0 (by first | exact (hx S (by omega)).1.1.trans hS | (simp (disch := omega) only [tg_nwA, im_nwA, rf_nwA, jm_nwA, tg_sI, im_sI, rf_sI, jm_sI, tg_sR, im_sR, rf_sR, jm_sR, u1_n, u1_s, u2_n, u2_s]; exact (hx S (by omega)).1.1.trans hS) | (simp (disch := omega) only [tg_nwA, im_nwA, rf_nwA, jm_nwA, tg_sI, im_sI, rf_sI, jm_sI, tg_sR, im_sR, rf_sR, jm_sR, u1_n, u1_s, u2_n, u2_s]; done)) (by first | exact (congrFun ((hx S (by omega)).2 (by omega)) 4).trans hr | (simp (disch := omega) only [tg_nwA, im_nwA, rf_nwA, jm_nwA, tg_sI, im_sI, rf_sI, jm_sI, tg_sR, im_sR, rf_sR, jm_sR, u1_n, u1_s, u2_n, u2_s]; exact (congrFun ((hx S (by omega)).2 (by omega)) 4).trans hr) | (simp (disch := omega) only [tg_nwA, im_nwA, rf_nwA, jm_nwA, tg_sI, im_sI, rf_sI, jm_sI, tg_sR, im_sR, rf_sR, jm_sR, u1_n, u1_s, u2_n, u2_s]; done)) dX6_init_178 ?_
      refine g_iload_n 2 dX6_init_181 rfl rfl ?_
      refine g_newA (c := 5) (q) (hz.trans hq.symm) rfl klX6_33 ii_X5 iz_X5 (df_ok rfl) ⟨by show 36 + 1 * i + 1 ≤ 46; omega, by show 155 + 10 * i + 10 ≤ 255; omega⟩ dX6_init_182 ?_
      refine g_dup dX6_init_185 rfl ?_
      refine g_aload_n 1 dX6_init_186 rfl rfl ?_
      refine g_callI _ _ (cn_X5_init g (0, 0) (m := nwA m q (5, 0)) (q := q) (u1_s _ _ _)) (ok_X5_init _) rfl rfl mlX6_65 in_X5_init rfl ⟨Nat.le_of_ble_eq_true rfl, Nat.le_of_ble_eq_true rfl⟩ (by exact Nat.le_of_ble_eq_true rfl) ⟨by show 36 + 1 * i + 1 + 0 ≤ 46; omega, by show 155 + 10 * i + 10 + 0 ≤ 255; omega⟩ dX6_init_187 rfl (fun v m4 h4 => ?_) (fun E m4 h4 => by cases h4.1)
      obtain ⟨h40, rfl⟩ := h4; cases h40
      refine gN_aast 14 10 5 0 (by first | exact (hx (S + 5) (by omega)).1.1.trans ha | (simp (disch := omega) only [tg_nwA, im_nwA, rf_nwA, jm_nwA, tg_sI, im_sI, rf_sI, jm_sI, tg_sR, im_sR, rf_sR, jm_sR, u1_n, u1_s, u2_n, u2_s]; exact (hx (S + 5) (by omega)).1.1.trans ha) | (simp (disch := omega) only [tg_nwA, im_nwA, rf_nwA, jm_nwA, tg_sI, im_sI, rf_sI, jm_sI, tg_sR, im_sR, rf_sR, jm_sR, u1_n, u1_s, u2_n, u2_s]; done)) (by decide) (by first | omega | exact b01_lt _) (by first | omega | exact b01_lt _) (by first | exact rfl | (simp (disch := omega) only [tg_nwA, im_nwA, rf_nwA, jm_nwA, tg_sI, im_sI, rf_sI, jm_sI, tg_sR, im_sR, rf_sR, jm_sR, u1_n, u1_s, u2_n, u2_s]; exact rfl) | (simp (disch := omega) only [tg_nwA, im_nwA, rf_nwA, jm_nwA, tg_sI, im_sI, rf_sI, jm_sI, tg_sR, im_sR, rf_sR, jm_sR, u1_n, u1_s, u2_n, u2_s]; done)) rfl rfl dX6_init_190 ?_
      refine g_iinc 2 (nI (i + 1)) 0 [(2, .int (nI (i + 1))), (1, .ref (S + 6)), (0, .ref (S))] dX6_init_191 rfl (nI_add i 1) (Nat.le_of_ble_eq_true rfl) rfl ?_
      refine g_goto 171 dX6_init_194 (by decide) ?_
      refine g_pick [0, 1, 2] rfl ?_
      refine g_u (u2 := (36 + 1 * (i + 1), 155 + 10 * (i + 1))) (show ((_, _) : Nat × Nat) = (_, _) from Prod.ext (by show _ = 36 + 1 * (i + 1); show 36 + 1 * i + 1 + 0 = _; omega) (by show _ = 155 + 10 * (i + 1); show 155 + 10 * i + 10 + 0 = _; omega)) ?_
      refine ih (i + 1) (by omega) _ ?_ (fun x hx1 => ⟨⟨?_, ?_, ?_⟩, fun hxa => ?_⟩) (fun p hp1 => ?_)
      · show q + 1 = _; omega
      · simp (disch := omega) only [tg_nwA, im_nwA, rf_nwA, jm_nwA, tg_sI, im_sI, rf_sI, jm_sI, tg_sR, im_sR, rf_sR, jm_sR, u1_n, u1_s, u2_n, u2_s]; exact (hx x hx1).1.1
      · show u1 (im m) q (fun _ => 0) x = _
        rw [u1_n _ _ _ (by omega)]
        exact (hx x hx1).1.2.1
      · simp (disch := omega) only [tg_nwA, im_nwA, rf_nwA, jm_nwA, tg_sI, im_sI, rf_sI, jm_sI, tg_sR, im_sR, rf_sR, jm_sR, u1_n, u1_s, u2_n, u2_s]; exact (hx x hx1).1.2.2
      · show u2 (u2 (u1 (rf m) q (fun _ => none)) q 0 _) (S + 5) i _ x = _
        rw [u2_o _ _ _ _ hxa, u2_o _ _ _ _ (by omega), u1_n _ _ _ (by omega)]
        exact (hx x hx1).2 hxa
      · by_cases e : p = i
        · subst e
          rw [← hqq]
          refine ⟨?_, ?_⟩
          all_goals first | (simp (disch := omega) only [tg_nwA, im_nwA, rf_nwA, jm_nwA, tg_sI, im_sI, rf_sI, jm_sI, tg_sR, im_sR, rf_sR, jm_sR, u1_n, u1_s, u2_n, u2_s]; done) | (simp (disch := omega) only [tg_nwA, im_nwA, rf_nwA, jm_nwA, tg_sI, im_sI, rf_sI, jm_sI, tg_sR, im_sR, rf_sR, jm_sR, u1_n, u1_s, u2_n, u2_s]; first | rfl | rw [hqq]) | rfl
        · have hpq := hlt p (by omega)
          have ho := hp p (by omega)
          obtain ⟨o0, o1⟩ := ho
          refine ⟨?_, ?_⟩
          · simp (disch := omega) only [tg_nwA, im_nwA, rf_nwA, jm_nwA, tg_sI, im_sI, rf_sI, jm_sI, tg_sR, im_sR, rf_sR, jm_sR, u1_n, u1_s, u2_n, u2_s]; exact o0
          · simp (disch := omega) only [tg_nwA, im_nwA, rf_nwA, jm_nwA, tg_sI, im_sI, rf_sI, jm_sI, tg_sR, im_sR, rf_sR, jm_sR, u1_n, u1_s, u2_n, u2_s]; exact o1
