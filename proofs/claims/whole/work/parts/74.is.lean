/-! CONSTRUCTORS: a state -/
set_option maxRecDepth 100000 in
theorem lp_X6_initT (g : Gp) {m0 : Mm} {S : Nat} (hS : tg m0 S = (6, 0)) (hr : rf m0 S 1 = some (S + 2)) (ha : tg m0 (S + 2) = (17, 4)) (h6 : tg m0 (S + 6) = (4, 0)) {Q : Rs → Mm → Prop} (K : ∀ m, fz m = S + 12 + 1 * 4 → Fx m0 m (S + 12) (S + 2) → (∀ p, p < 4 → tg m (S + 12 + p) = (8, 0) ∧ rf m (S + 2) p = some (S + 12 + p) ∧ im m (S + 12 + p) 0 = nI 10 ∧ im m (S + 12 + p) 1 = nI 0 ∧ im m (S + 12 + p) 2 = nI 0 ∧ im m (S + 12 + p) 3 = nI 0 ∧ im m (S + 12 + p) 4 = nI 0) → G g (MX6_init (46, 255)) Q 111 [(2, .int (nI (4))), (1, .ref (S + 6)), (0, .ref (S))] [] (11 + 1 * 4, 72 + 5 * 4) m) : ∀ j i : Nat, i + j = 4 → ∀ m, fz m = S + 12 + 1 * i → Fx m0 m (S + 12) (S + 2) → (∀ p, p < i → tg m (S + 12 + p) = (8, 0) ∧ rf m (S + 2) p = some (S + 12 + p) ∧ im m (S + 12 + p) 0 = nI 10 ∧ im m (S + 12 + p) 1 = nI 0 ∧ im m (S + 12 + p) 2 = nI 0 ∧ im m (S + 12 + p) 3 = nI 0 ∧ im m (S + 12 + p) 4 = nI 0) → G g (MX6_init (46, 255)) Q 87 [(2, .int (nI (i))), (1, .ref (S + 6)), (0, .ref (S))] [] (11 + 1 * i, 72 + 5 * i) m := by
  intro j
  induction j with
  | zero =>
    intro i hi m hz hx hp
    obtain rfl : i = 4 := hi
    refine g_iload_n 2 dX6_init_87 rfl rfl ?_
    refine gN_iconst 4 dX6_init_88 (by decide) ?_
    refine gN_icmp_ge 111 dX6_init_89 (by decide) (by first | omega | exact b01_lt _) (by first | omega | exact b01_lt _) (fun h_89 => ?_) (fun h_89 => ?_)
    · refine g_pick [0, 1, 2] rfl ?_
      exact K m hz hx hp
    · exact absurd h_89 (by decide)
  | succ j ih =>
    intro i hi m hz hx hp
    obtain ⟨q, hq⟩ : ∃ q, q = S + 12 + 1 * i := ⟨_, rfl⟩
    have hqq : q = S + 12 + i := by omega
    have hlt : ∀ p, p < i → S + 12 + p < q := fun p hp => by omega
    refine g_iload_n 2 dX6_init_87 rfl rfl ?_
    refine gN_iconst 4 dX6_init_88 (by decide) ?_
    refine gN_icmp_ge 111 dX6_init_89 (by decide) (by first | omega | exact b01_lt _) (by first | omega | exact b01_lt _) (fun h_89 => ?_) (fun h_89 => ?_)
    · exfalso; omega
    · refine g_aload_n 0 dX6_init_92 rfl rfl ?_
      refine gN_getR (S + 2) flX6_17 (fun _ _ _ => rfl) 0 (by first | exact (hx S (by omega)).1.1.trans hS | (simp (disch := omega) only [tg_nwA, im_nwA, rf_nwA, jm_nwA, tg_sI, im_sI, rf_sI, jm_sI, tg_sR, im_sR, rf_sR, jm_sR, u1_n, u1_s, u2_n, u2_s]; exact (hx S (by omega)).1.1.trans hS) | (simp (disch := omega) only [tg_nwA, im_nwA, rf_nwA, jm_nwA, tg_sI, im_sI, rf_sI, jm_sI, tg_sR, im_sR, rf_sR, jm_sR, u1_n, u1_s, u2_n, u2_s]; done)) (by first | exact (congrFun ((hx S (by omega)).2 (by omega)) 1).trans hr | (simp (disch := omega) only [tg_nwA, im_nwA, rf_nwA, jm_nwA, tg_sI, im_sI, rf_sI, jm_sI, tg_sR, im_sR, rf_sR, jm_sR, u1_n, u1_s, u2_n, u2_s]; exact (congrFun ((hx S (by omega)).2 (by omega)) 1).trans hr) | (simp (disch := omega) only [tg_nwA, im_nwA, rf_nwA, jm_nwA, tg_sI, im_sI, rf_sI, jm_sI, tg_sR, im_sR, rf_sR, jm_sR, u1_n, u1_s, u2_n, u2_s]; done)) dX6_init_93 ?_
      refine g_iload_n 2 dX6_init_96 rfl rfl ?_
      refine g_newA (c := 8) (q) (hz.trans hq.symm) rfl klX6_15 ii_X8 iz_X8 (df_ok rfl) ⟨by show 11 + 1 * i + 1 ≤ 46; omega, by show 72 + 5 * i + 5 ≤ 255; omega⟩ dX6_init_97 ?_
      refine g_dup dX6_init_100 rfl ?_
      refine g_callIN _ _ (cn_X8_init g (0, 0) (m := nwA m q (8, 0)) (q := q) (u1_s _ _ _)) (ok_X8_init _) rfl rfl mlX6_57 in_X8_init rfl ⟨Nat.le_of_ble_eq_true rfl, Nat.le_of_ble_eq_true rfl⟩ (by exact Nat.le_of_ble_eq_true rfl) ⟨by show 11 + 1 * i + 1 + 0 ≤ 46; omega, by show 72 + 5 * i + 5 + 0 ≤ 255; omega⟩ dX6_init_101 rfl (fun v m4 h4 => ?_) (fun E m4 h4 => by cases h4.1)
      obtain ⟨h40, rfl⟩ := h4; cases h40
      refine gN_aast 17 4 8 0 (by first | exact (hx (S + 2) (by omega)).1.1.trans ha | (simp (disch := omega) only [tg_nwA, im_nwA, rf_nwA, jm_nwA, tg_sI, im_sI, rf_sI, jm_sI, tg_sR, im_sR, rf_sR, jm_sR, u1_n, u1_s, u2_n, u2_s]; exact (hx (S + 2) (by omega)).1.1.trans ha) | (simp (disch := omega) only [tg_nwA, im_nwA, rf_nwA, jm_nwA, tg_sI, im_sI, rf_sI, jm_sI, tg_sR, im_sR, rf_sR, jm_sR, u1_n, u1_s, u2_n, u2_s]; done)) (by decide) (by first | omega | exact b01_lt _) (by first | omega | exact b01_lt _) (by first | exact rfl | (simp (disch := omega) only [tg_nwA, im_nwA, rf_nwA, jm_nwA, tg_sI, im_sI, rf_sI, jm_sI, tg_sR, im_sR, rf_sR, jm_sR, u1_n, u1_s, u2_n, u2_s]; exact rfl) | (simp (disch := omega) only [tg_nwA, im_nwA, rf_nwA, jm_nwA, tg_sI, im_sI, rf_sI, jm_sI, tg_sR, im_sR, rf_sR, jm_sR, u1_n, u1_s, u2_n, u2_s]; done)) rfl rfl dX6_init_104 ?_
      refine g_iinc 2 (nI (i + 1)) 0 [(2, .int (nI (i + 1))), (1, .ref (S + 6)), (0, .ref (S))] dX6_init_105 rfl (nI_add i 1) (Nat.le_of_ble_eq_true rfl) rfl ?_
      refine g_goto 87 dX6_init_108 (by decide) ?_
      refine g_pick [0, 1, 2] rfl ?_
      refine g_u (u2 := (11 + 1 * (i + 1), 72 + 5 * (i + 1))) (show ((_, _) : Nat × Nat) = (_, _) from Prod.ext (by show _ = 11 + 1 * (i + 1); show 11 + 1 * i + 1 + 0 = _; omega) (by show _ = 72 + 5 * (i + 1); show 72 + 5 * i + 5 + 0 = _; omega)) ?_
      refine ih (i + 1) (by omega) _ ?_ (fun x hx1 => ⟨⟨?_, ?_, ?_⟩, fun hxa => ?_⟩) (fun p hp1 => ?_)
      · show q + 1 = _; omega
      · simp (disch := omega) only [tg_nwA, im_nwA, rf_nwA, jm_nwA, tg_sI, im_sI, rf_sI, jm_sI, tg_sR, im_sR, rf_sR, jm_sR, u1_n, u1_s, u2_n, u2_s]; exact (hx x hx1).1.1
      · show u2 (u2 (u2 (u2 (u2 (u1 (im m) q (fun _ => 0)) q 0 _) q 1 _) q 2 _) q 3 _) q 4 _ x = _
        rw [u2_o _ _ _ _ (by omega), u2_o _ _ _ _ (by omega), u2_o _ _ _ _ (by omega), u2_o _ _ _ _ (by omega), u2_o _ _ _ _ (by omega), u1_n _ _ _ (by omega)]
        exact (hx x hx1).1.2.1
      · simp (disch := omega) only [tg_nwA, im_nwA, rf_nwA, jm_nwA, tg_sI, im_sI, rf_sI, jm_sI, tg_sR, im_sR, rf_sR, jm_sR, u1_n, u1_s, u2_n, u2_s]; exact (hx x hx1).1.2.2
      · show u2 (u1 (rf m) q (fun _ => none)) (S + 2) i _ x = _
        rw [u2_o _ _ _ _ hxa, u1_n _ _ _ (by omega)]
        exact (hx x hx1).2 hxa
      · by_cases e : p = i
        · subst e
          rw [← hqq]
          refine ⟨?_, ?_, ?_, ?_, ?_, ?_, ?_⟩
          all_goals first | (simp (disch := omega) only [tg_nwA, im_nwA, rf_nwA, jm_nwA, tg_sI, im_sI, rf_sI, jm_sI, tg_sR, im_sR, rf_sR, jm_sR, u1_n, u1_s, u2_n, u2_s]; done) | (simp (disch := omega) only [tg_nwA, im_nwA, rf_nwA, jm_nwA, tg_sI, im_sI, rf_sI, jm_sI, tg_sR, im_sR, rf_sR, jm_sR, u1_n, u1_s, u2_n, u2_s]; first | rfl | rw [hqq]) | rfl
        · have hpq := hlt p (by omega)
          have ho := hp p (by omega)
          obtain ⟨o0, o1, o2, o3, o4, o5, o6⟩ := ho
          refine ⟨?_, ?_, ?_, ?_, ?_, ?_, ?_⟩
          · simp (disch := omega) only [tg_nwA, im_nwA, rf_nwA, jm_nwA, tg_sI, im_sI, rf_sI, jm_sI, tg_sR, im_sR, rf_sR, jm_sR, u1_n, u1_s, u2_n, u2_s]; exact o0
          · simp (disch := omega) only [tg_nwA, im_nwA, rf_nwA, jm_nwA, tg_sI, im_sI, rf_sI, jm_sI, tg_sR, im_sR, rf_sR, jm_sR, u1_n, u1_s, u2_n, u2_s]; exact o1
          · simp (disch := omega) only [tg_nwA, im_nwA, rf_nwA, jm_nwA, tg_sI, im_sI, rf_sI, jm_sI, tg_sR, im_sR, rf_sR, jm_sR, u1_n, u1_s, u2_n, u2_s]; exact o2
          · simp (disch := omega) only [tg_nwA, im_nwA, rf_nwA, jm_nwA, tg_sI, im_sI, rf_sI, jm_sI, tg_sR, im_sR, rf_sR, jm_sR, u1_n, u1_s, u2_n, u2_s]; exact o3
          · simp (disch := omega) only [tg_nwA, im_nwA, rf_nwA, jm_nwA, tg_sI, im_sI, rf_sI, jm_sI, tg_sR, im_sR, rf_sR, jm_sR, u1_n, u1_s, u2_n, u2_s]; exact o4
          · simp (disch := omega) only [tg_nwA, im_nwA, rf_nwA, jm_nwA, tg_sI, im_sI, rf_sI, jm_sI, tg_sR, im_sR, rf_sR, jm_sR, u1_n, u1_s, u2_n, u2_s]; exact o5
          · simp (disch := omega) only [tg_nwA, im_nwA, rf_nwA, jm_nwA, tg_sI, im_sI, rf_sI, jm_sI, tg_sR, im_sR, rf_sR, jm_sR, u1_n, u1_s, u2_n, u2_s]; exact o6
set_option maxRecDepth 100000 in
theorem lp_X6_initB (g : Gp) {m0 : Mm} {S : Nat} (hS : tg m0 S = (6, 0)) (hr : rf m0 S 2 = some (S + 3)) (ha : tg m0 (S + 3) = (12, 5)) (h6 : tg m0 (S + 6) = (4, 0)) (hg : g.2.1 < S) (hC : CsT g m0) {Q : Rs → Mm → Prop} (K : ∀ m, fz m = S + 16 + 1 * 5 → Fx m0 m (S + 16) (S + 3) → (∀ p, p < 5 → tg m (S + 16 + p) = (0, 0) ∧ rf m (S + 3) p = some (S + 16 + p) ∧ im m (S + 16 + p) 0 = im m0 g.2.1 p ∧ im m (S + 16 + p) 1 = nI 0 ∧ im m (S + 16 + p) 2 = nI 0) → G g (MX6_init (46, 255)) Q 142 [(2, .int (nI (5))), (1, .ref (S + 6)), (0, .ref (S))] [] (15 + 1 * 5, 92 + 3 * 5) m) : ∀ j i : Nat, i + j = 5 → ∀ m, fz m = S + 16 + 1 * i → Fx m0 m (S + 16) (S + 3) → (∀ p, p < i → tg m (S + 16 + p) = (0, 0) ∧ rf m (S + 3) p = some (S + 16 + p) ∧ im m (S + 16 + p) 0 = im m0 g.2.1 p ∧ im m (S + 16 + p) 1 = nI 0 ∧ im m (S + 16 + p) 2 = nI 0) → G g (MX6_init (46, 255)) Q 113 [(2, .int (nI (i))), (1, .ref (S + 6)), (0, .ref (S))] [] (15 + 1 * i, 92 + 3 * i) m := by
  intro j
  induction j with
  | zero =>
    intro i hi m hz hx hp
    obtain rfl : i = 5 := hi
    refine g_iload_n 2 dX6_init_113 rfl rfl ?_
    refine gN_iconst 5 dX6_init_114 (by decide) ?_
    refine gN_icmp_ge 142 dX6_init_115 (by decide) (by first | omega | exact b01_lt _) (by first | omega | exact b01_lt _) (fun h_115 => ?_) (fun h_115 => ?_)
    · refine g_pick [0, 1, 2] rfl ?_
      exact K m hz hx hp
    · exact absurd h_115 (by decide)
  | succ j ih =>
    intro i hi m hz hx hp
    obtain ⟨q, hq⟩ : ∃ q, q = S + 16 + 1 * i := ⟨_, rfl⟩
    have hqq : q = S + 16 + i := by omega
    have hlt : ∀ p, p < i → S + 16 + p < q := fun p hp => by omega
    refine g_iload_n 2 dX6_init_113 rfl rfl ?_
    refine gN_iconst 5 dX6_init_114 (by decide) ?_
    refine gN_icmp_ge 142 dX6_init_115 (by decide) (by first | omega | exact b01_lt _) (by first | omega | exact b01_lt _) (fun h_115 => ?_) (fun h_115 => ?_)
    · exfalso; omega
    · refine g_aload_n 0 dX6_init_118 rfl rfl ?_
      refine gN_getR (S + 3) flX6_23 (fun _ _ _ => rfl) 0 (by first | exact (hx S (by omega)).1.1.trans hS | (simp (disch := omega) only [tg_nwA, im_nwA, rf_nwA, jm_nwA, tg_sI, im_sI, rf_sI, jm_sI, tg_sR, im_sR, rf_sR, jm_sR, u1_n, u1_s, u2_n, u2_s]; exact (hx S (by omega)).1.1.trans hS) | (simp (disch := omega) only [tg_nwA, im_nwA, rf_nwA, jm_nwA, tg_sI, im_sI, rf_sI, jm_sI, tg_sR, im_sR, rf_sR, jm_sR, u1_n, u1_s, u2_n, u2_s]; done)) (by first | exact (congrFun ((hx S (by omega)).2 (by omega)) 2).trans hr | (simp (disch := omega) only [tg_nwA, im_nwA, rf_nwA, jm_nwA, tg_sI, im_sI, rf_sI, jm_sI, tg_sR, im_sR, rf_sR, jm_sR, u1_n, u1_s, u2_n, u2_s]; exact (congrFun ((hx S (by omega)).2 (by omega)) 2).trans hr) | (simp (disch := omega) only [tg_nwA, im_nwA, rf_nwA, jm_nwA, tg_sI, im_sI, rf_sI, jm_sI, tg_sR, im_sR, rf_sR, jm_sR, u1_n, u1_s, u2_n, u2_s]; done)) dX6_init_119 ?_
      refine g_iload_n 2 dX6_init_122 rfl rfl ?_
      refine g_newA (c := 0) (q) (hz.trans hq.symm) rfl klX6_21 ii_X0 iz_X0 (df_ok rfl) ⟨by show 15 + 1 * i + 1 ≤ 46; omega, by show 92 + 3 * i + 3 ≤ 255; omega⟩ dX6_init_123 ?_
      refine g_dup dX6_init_126 rfl ?_
      refine g_gets0 fnX6_58 dX6_init_127 ?_
      refine g_iload_n 2 dX6_init_130 rfl rfl ?_
      refine gN_iald19 5 (by first | exact (hx g.2.1 (by omega)).1.1.trans hC.1.1 | (simp (disch := omega) only [tg_nwA, im_nwA, rf_nwA, jm_nwA, tg_sI, im_sI, rf_sI, jm_sI, tg_sR, im_sR, rf_sR, jm_sR, u1_n, u1_s, u2_n, u2_s]; exact (hx g.2.1 (by omega)).1.1.trans hC.1.1) | (simp (disch := omega) only [tg_nwA, im_nwA, rf_nwA, jm_nwA, tg_sI, im_sI, rf_sI, jm_sI, tg_sR, im_sR, rf_sR, jm_sR, u1_n, u1_s, u2_n, u2_s]; done)) (by first | omega | exact b01_lt _) (by first | omega | exact b01_lt _) dX6_init_131 ?_
      refine g_callI _ _ (cn_X0_init g (0, 0) (m := nwA m q (0, 0)) (q := q) (u1_s _ _ _)) (ok_X0_init _) rfl rfl mlX6_61 in_X0_init rfl ⟨Nat.le_of_ble_eq_true rfl, Nat.le_of_ble_eq_true rfl⟩ (by exact Nat.le_of_ble_eq_true rfl) ⟨by show 15 + 1 * i + 1 + 0 ≤ 46; omega, by show 92 + 3 * i + 3 + 0 ≤ 255; omega⟩ dX6_init_132 rfl (fun v m4 h4 => ?_) (fun E m4 h4 => by cases h4.1)
      obtain ⟨h40, rfl⟩ := h4; cases h40
      refine gN_aast 12 5 0 0 (by first | exact (hx (S + 3) (by omega)).1.1.trans ha | (simp (disch := omega) only [tg_nwA, im_nwA, rf_nwA, jm_nwA, tg_sI, im_sI, rf_sI, jm_sI, tg_sR, im_sR, rf_sR, jm_sR, u1_n, u1_s, u2_n, u2_s]; exact (hx (S + 3) (by omega)).1.1.trans ha) | (simp (disch := omega) only [tg_nwA, im_nwA, rf_nwA, jm_nwA, tg_sI, im_sI, rf_sI, jm_sI, tg_sR, im_sR, rf_sR, jm_sR, u1_n, u1_s, u2_n, u2_s]; done)) (by decide) (by first | omega | exact b01_lt _) (by first | omega | exact b01_lt _) (by first | exact rfl | (simp (disch := omega) only [tg_nwA, im_nwA, rf_nwA, jm_nwA, tg_sI, im_sI, rf_sI, jm_sI, tg_sR, im_sR, rf_sR, jm_sR, u1_n, u1_s, u2_n, u2_s]; exact rfl) | (simp (disch := omega) only [tg_nwA, im_nwA, rf_nwA, jm_nwA, tg_sI, im_sI, rf_sI, jm_sI, tg_sR, im_sR, rf_sR, jm_sR, u1_n, u1_s, u2_n, u2_s]; done)) rfl rfl dX6_init_135 ?_
      refine g_iinc 2 (nI (i + 1)) 0 [(2, .int (nI (i + 1))), (1, .ref (S + 6)), (0, .ref (S))] dX6_init_136 rfl (nI_add i 1) (Nat.le_of_ble_eq_true rfl) rfl ?_
      refine g_goto 113 dX6_init_139 (by decide) ?_
      refine g_pick [0, 1, 2] rfl ?_
      refine g_u (u2 := (15 + 1 * (i + 1), 92 + 3 * (i + 1))) (show ((_, _) : Nat × Nat) = (_, _) from Prod.ext (by show _ = 15 + 1 * (i + 1); show 15 + 1 * i + 1 + 0 = _; omega) (by show _ = 92 + 3 * (i + 1); show 92 + 3 * i + 3 + 0 = _; omega)) ?_
      refine ih (i + 1) (by omega) _ ?_ (fun x hx1 => ⟨⟨?_, ?_, ?_⟩, fun hxa => ?_⟩) (fun p hp1 => ?_)
      · show q + 1 = _; omega
      · simp (disch := omega) only [tg_nwA, im_nwA, rf_nwA, jm_nwA, tg_sI, im_sI, rf_sI, jm_sI, tg_sR, im_sR, rf_sR, jm_sR, u1_n, u1_s, u2_n, u2_s]; exact (hx x hx1).1.1
      · show u2 (u2 (u2 (u1 (im m) q (fun _ => 0)) q 1 _) q 2 _) q 0 _ x = _
        rw [u2_o _ _ _ _ (by omega), u2_o _ _ _ _ (by omega), u2_o _ _ _ _ (by omega), u1_n _ _ _ (by omega)]
        exact (hx x hx1).1.2.1
      · simp (disch := omega) only [tg_nwA, im_nwA, rf_nwA, jm_nwA, tg_sI, im_sI, rf_sI, jm_sI, tg_sR, im_sR, rf_sR, jm_sR, u1_n, u1_s, u2_n, u2_s]; exact (hx x hx1).1.2.2
      · show u2 (u1 (rf m) q (fun _ => none)) (S + 3) i _ x = _
        rw [u2_o _ _ _ _ hxa, u1_n _ _ _ (by omega)]
        exact (hx x hx1).2 hxa
      · by_cases e : p = i
        · subst e
          rw [← hqq]
          refine ⟨?_, ?_, ?_, ?_, ?_⟩
          all_goals first | (simp (disch := omega) only [tg_nwA, im_nwA, rf_nwA, jm_nwA, tg_sI, im_sI, rf_sI, jm_sI, tg_sR, im_sR, rf_sR, jm_sR, u1_n, u1_s, u2_n, u2_s]; done) | (simp (disch := omega) only [tg_nwA, im_nwA, rf_nwA, jm_nwA, tg_sI, im_sI, rf_sI, jm_sI, tg_sR, im_sR, rf_sR, jm_sR, u1_n, u1_s, u2_n, u2_s]; first | rfl | rw [hqq] | exact congrFun (hx g.2.1 (by omega)).1.2.1 _) | rfl
        · have hpq := hlt p (by omega)
          have ho := hp p (by omega)
          obtain ⟨o0, o1, o2, o3, o4⟩ := ho
          refine ⟨?_, ?_, ?_, ?_, ?_⟩
          · simp (disch := omega) only [tg_nwA, im_nwA, rf_nwA, jm_nwA, tg_sI, im_sI, rf_sI, jm_sI, tg_sR, im_sR, rf_sR, jm_sR, u1_n, u1_s, u2_n, u2_s]; exact o0
          · simp (disch := omega) only [tg_nwA, im_nwA, rf_nwA, jm_nwA, tg_sI, im_sI, rf_sI, jm_sI, tg_sR, im_sR, rf_sR, jm_sR, u1_n, u1_s, u2_n, u2_s]; exact o1
          · simp (disch := omega) only [tg_nwA, im_nwA, rf_nwA, jm_nwA, tg_sI, im_sI, rf_sI, jm_sI, tg_sR, im_sR, rf_sR, jm_sR, u1_n, u1_s, u2_n, u2_s]; exact o2
          · simp (disch := omega) only [tg_nwA, im_nwA, rf_nwA, jm_nwA, tg_sI, im_sI, rf_sI, jm_sI, tg_sR, im_sR, rf_sR, jm_sR, u1_n, u1_s, u2_n, u2_s]; exact o3
          · simp (disch := omega) only [tg_nwA, im_nwA, rf_nwA, jm_nwA, tg_sI, im_sI, rf_sI, jm_sI, tg_sR, im_sR, rf_sR, jm_sR, u1_n, u1_s, u2_n, u2_s]; exact o4
set_option maxRecDepth 100000 in
theorem lp_X6_initW (g : Gp) {m0 : Mm} {S : Nat} (hS : tg m0 S = (6, 0)) (hr : rf m0 S 3 = some (S + 4)) (ha : tg m0 (S + 4) = (16, 8)) (h6 : tg m0 (S + 6) = (4, 0)) {Q : Rs → Mm → Prop} (K : ∀ m, fz m = S + 21 + 2 * 8 → Fx m0 m (S + 21) (S + 4) → (∀ p, p < 8 → tg m (S + 21 + 2 * p) = (7, 0) ∧ rf m (S + 4) p = some (S + 21 + 2 * p) ∧ tg m (S + 22 + 2 * p) = (11, 4) ∧ rf m (S + 21 + 2 * p) 0 = some (S + 22 + 2 * p) ∧ im m (S + 22 + 2 * p) 0 = -1 ∧ im m (S + 22 + 2 * p) 1 = -1 ∧ im m (S + 22 + 2 * p) 2 = -1 ∧ im m (S + 22 + 2 * p) 3 = -1 ∧ im m (S + 21 + 2 * p) 1 = -1) → G g (MX6_init (46, 255)) Q 169 [(2, .int (nI (8))), (1, .ref (S + 6)), (0, .ref (S))] [] (20 + 2 * 8, 107 + 6 * 8) m) : ∀ j i : Nat, i + j = 8 → ∀ m, fz m = S + 21 + 2 * i → Fx m0 m (S + 21) (S + 4) → (∀ p, p < i → tg m (S + 21 + 2 * p) = (7, 0) ∧ rf m (S + 4) p = some (S + 21 + 2 * p) ∧ tg m (S + 22 + 2 * p) = (11, 4) ∧ rf m (S + 21 + 2 * p) 0 = some (S + 22 + 2 * p) ∧ im m (S + 22 + 2 * p) 0 = -1 ∧ im m (S + 22 + 2 * p) 1 = -1 ∧ im m (S + 22 + 2 * p) 2 = -1 ∧ im m (S + 22 + 2 * p) 3 = -1 ∧ im m (S + 21 + 2 * p) 1 = -1) → G g (MX6_init (46, 255)) Q 144 [(2, .int (nI (i))), (1, .ref (S + 6)), (0, .ref (S))] [] (20 + 2 * i, 107 + 6 * i) m := by
  intro j
  induction j with
  | zero =>
    intro i hi m hz hx hp
    obtain rfl : i = 8 := hi
    refine g_iload_n 2 dX6_init_144 rfl rfl ?_
    refine gN_bipush 8 dX6_init_145 (by decide) ?_
    refine gN_icmp_ge 169 dX6_init_147 (by decide) (by first | omega | exact b01_lt _) (by first | omega | exact b01_lt _) (fun h_147 => ?_) (fun h_147 => ?_)
    · refine g_pick [0, 1, 2] rfl ?_
      exact K m hz hx hp
    · exact absurd h_147 (by decide)
  | succ j ih =>
    intro i hi m hz hx hp
    obtain ⟨q, hq⟩ : ∃ q, q = S + 21 + 2 * i := ⟨_, rfl⟩
    have hqq : q = S + 21 + 2 * i := by omega
    have hlt : ∀ p, p < i → S + 21 + 2 * p < q := fun p hp => by omega
    have hq1 : S + 22 + 2 * i = q + 1 := by omega
    refine g_iload_n 2 dX6_init_144 rfl rfl ?_
    refine gN_bipush 8 dX6_init_145 (by decide) ?_
    refine gN_icmp_ge 169 dX6_init_147 (by decide) (by first | omega | exact b01_lt _) (by first | omega | exact b01_lt _) (fun h_147 => ?_) (fun h_147 => ?_)
    · exfalso; omega
    · refine g_aload_n 0 dX6_init_150 rfl rfl ?_
      refine gN_getR (S + 4) flX6_29 (fun _ _ _ => rfl) 0 (by first | exact (hx S (by omega)).1.1.trans hS | (simp (disch := omega) only [tg_nwA, im_nwA, rf_nwA, jm_nwA, tg_sI, im_sI, rf_sI, jm_sI, tg_sR, im_sR, rf_sR, jm_sR, u1_n, u1_s, u2_n, u2_s]; exact (hx S (by omega)).1.1.trans hS) | (simp (disch := omega) only [tg_nwA, im_nwA, rf_nwA, jm_nwA, tg_sI, im_sI, rf_sI, jm_sI, tg_sR, im_sR, rf_sR, jm_sR, u1_n, u1_s, u2_n, u2_s]; done)) (by first | exact (congrFun ((hx S (by omega)).2 (by omega)) 3).trans hr | (simp (disch := omega) only [tg_nwA, im_nwA, rf_nwA, jm_nwA, tg_sI, im_sI, rf_sI, jm_sI, tg_sR, im_sR, rf_sR, jm_sR, u1_n, u1_s, u2_n, u2_s]; exact (congrFun ((hx S (by omega)).2 (by omega)) 3).trans hr) | (simp (disch := omega) only [tg_nwA, im_nwA, rf_nwA, jm_nwA, tg_sI, im_sI, rf_sI, jm_sI, tg_sR, im_sR, rf_sR, jm_sR, u1_n, u1_s, u2_n, u2_s]; done)) dX6_init_151 ?_
      refine g_iload_n 2 dX6_init_154 rfl rfl ?_
      refine g_newA (c := 7) (q) (hz.trans hq.symm) rfl klX6_27 ii_X7 iz_X7 (df_ok rfl) ⟨by show 20 + 2 * i + 1 ≤ 46; omega, by show 107 + 6 * i + 2 ≤ 255; omega⟩ dX6_init_155 ?_
      refine g_dup dX6_init_158 rfl ?_
      refine g_callIN _ _ (cn_X7_init g (0, 0) (m := nwA m q (7, 0)) (q := q) (u1_s _ _ _) rfl) (ok_X7_init _) rfl rfl mlX6_64 in_X7_init rfl ⟨Nat.le_of_ble_eq_true rfl, Nat.le_of_ble_eq_true rfl⟩ (by exact Nat.le_of_ble_eq_true rfl) ⟨by show 20 + 2 * i + 1 + 1 ≤ 46; omega, by show 107 + 6 * i + 2 + 4 ≤ 255; omega⟩ dX6_init_159 rfl (fun v m4 h4 => ?_) (fun E m4 h4 => by cases h4.1)
      obtain ⟨h40, rfl⟩ := h4; cases h40
      refine gN_aast 16 8 7 0 (by first | exact (hx (S + 4) (by omega)).1.1.trans ha | (simp (disch := omega) only [tg_nwA, im_nwA, rf_nwA, jm_nwA, tg_sI, im_sI, rf_sI, jm_sI, tg_sR, im_sR, rf_sR, jm_sR, u1_n, u1_s, u2_n, u2_s]; exact (hx (S + 4) (by omega)).1.1.trans ha) | (simp (disch := omega) only [tg_nwA, im_nwA, rf_nwA, jm_nwA, tg_sI, im_sI, rf_sI, jm_sI, tg_sR, im_sR, rf_sR, jm_sR, u1_n, u1_s, u2_n, u2_s]; done)) (by decide) (by first | omega | exact b01_lt _) (by first | omega | exact b01_lt _) (by first | exact rfl | (simp (disch := omega) only [tg_nwA, im_nwA, rf_nwA, jm_nwA, tg_sI, im_sI, rf_sI, jm_sI, tg_sR, im_sR, rf_sR, jm_sR, u1_n, u1_s, u2_n, u2_s]; exact rfl) | (simp (disch := omega) only [tg_nwA, im_nwA, rf_nwA, jm_nwA, tg_sI, im_sI, rf_sI, jm_sI, tg_sR, im_sR, rf_sR, jm_sR, u1_n, u1_s, u2_n, u2_s]; done)) rfl rfl dX6_init_162 ?_
      refine g_iinc 2 (nI (i + 1)) 0 [(2, .int (nI (i + 1))), (1, .ref (S + 6)), (0, .ref (S))] dX6_init_163 rfl (nI_add i 1) (Nat.le_of_ble_eq_true rfl) rfl ?_
      refine g_goto 144 dX6_init_166 (by decide) ?_
      refine g_pick [0, 1, 2] rfl ?_
      refine g_u (u2 := (20 + 2 * (i + 1), 107 + 6 * (i + 1))) (show ((_, _) : Nat × Nat) = (_, _) from Prod.ext (by show _ = 20 + 2 * (i + 1); show 20 + 2 * i + 1 + 1 = _; omega) (by show _ = 107 + 6 * (i + 1); show 107 + 6 * i + 2 + 4 = _; omega)) ?_
      refine ih (i + 1) (by omega) _ ?_ (fun x hx1 => ⟨⟨?_, ?_, ?_⟩, fun hxa => ?_⟩) (fun p hp1 => ?_)
      · show q + 1 + 1 = _; omega
      · simp (disch := omega) only [tg_nwA, im_nwA, rf_nwA, jm_nwA, tg_sI, im_sI, rf_sI, jm_sI, tg_sR, im_sR, rf_sR, jm_sR, u1_n, u1_s, u2_n, u2_s]; exact (hx x hx1).1.1
      · show u2 (u2 (u2 (u2 (u2 (u1 (u1 (im m) q (fun _ => 0)) (q + 1) (fun _ => 0)) (q + 1) 0 _) (q + 1) 1 _) (q + 1) 2 _) (q + 1) 3 _) q 1 _ x = _
        rw [u2_o _ _ _ _ (by omega), u2_o _ _ _ _ (by omega), u2_o _ _ _ _ (by omega), u2_o _ _ _ _ (by omega), u2_o _ _ _ _ (by omega), u1_n _ _ _ (by omega), u1_n _ _ _ (by omega)]
        exact (hx x hx1).1.2.1
      · simp (disch := omega) only [tg_nwA, im_nwA, rf_nwA, jm_nwA, tg_sI, im_sI, rf_sI, jm_sI, tg_sR, im_sR, rf_sR, jm_sR, u1_n, u1_s, u2_n, u2_s]; exact (hx x hx1).1.2.2
      · show u2 (u2 (u1 (u1 (rf m) q (fun _ => none)) (q + 1) (fun _ => none)) q 0 _) (S + 4) i _ x = _
        rw [u2_o _ _ _ _ hxa, u2_o _ _ _ _ (by omega), u1_n _ _ _ (by omega), u1_n _ _ _ (by omega)]
        exact (hx x hx1).2 hxa
      · by_cases e : p = i
        · subst e
          rw [← hqq]
          try rw [hq1]
          refine ⟨?_, ?_, ?_, ?_, ?_, ?_, ?_, ?_, ?_⟩
          all_goals first | (simp (disch := omega) only [tg_nwA, im_nwA, rf_nwA, jm_nwA, tg_sI, im_sI, rf_sI, jm_sI, tg_sR, im_sR, rf_sR, jm_sR, u1_n, u1_s, u2_n, u2_s]; done) | (simp (disch := omega) only [tg_nwA, im_nwA, rf_nwA, jm_nwA, tg_sI, im_sI, rf_sI, jm_sI, tg_sR, im_sR, rf_sR, jm_sR, u1_n, u1_s, u2_n, u2_s]; first | rfl | rw [hqq]) | rfl
        · have hpq := hlt p (by omega)
          have ho := hp p (by omega)
          obtain ⟨o0, o1, o2, o3, o4, o5, o6, o7, o8⟩ := ho
          refine ⟨?_, ?_, ?_, ?_, ?_, ?_, ?_, ?_, ?_⟩
          · simp (disch := omega) only [tg_nwA, im_nwA, rf_nwA, jm_nwA, tg_sI, im_sI, rf_sI, jm_sI, tg_sR, im_sR, rf_sR, jm_sR, u1_n, u1_s, u2_n, u2_s]; exact o0
          · simp (disch := omega) only [tg_nwA, im_nwA, rf_nwA, jm_nwA, tg_sI, im_sI, rf_sI, jm_sI, tg_sR, im_sR, rf_sR, jm_sR, u1_n, u1_s, u2_n, u2_s]; exact o1
          · simp (disch := omega) only [tg_nwA, im_nwA, rf_nwA, jm_nwA, tg_sI, im_sI, rf_sI, jm_sI, tg_sR, im_sR, rf_sR, jm_sR, u1_n, u1_s, u2_n, u2_s]; exact o2
          · simp (disch := omega) only [tg_nwA, im_nwA, rf_nwA, jm_nwA, tg_sI, im_sI, rf_sI, jm_sI, tg_sR, im_sR, rf_sR, jm_sR, u1_n, u1_s, u2_n, u2_s]; exact o3
          · simp (disch := omega) only [tg_nwA, im_nwA, rf_nwA, jm_nwA, tg_sI, im_sI, rf_sI, jm_sI, tg_sR, im_sR, rf_sR, jm_sR, u1_n, u1_s, u2_n, u2_s]; exact o4
          · simp (disch := omega) only [tg_nwA, im_nwA, rf_nwA, jm_nwA, tg_sI, im_sI, rf_sI, jm_sI, tg_sR, im_sR, rf_sR, jm_sR, u1_n, u1_s, u2_n, u2_s]; exact o5
          · simp (disch := omega) only [tg_nwA, im_nwA, rf_nwA, jm_nwA, tg_sI, im_sI, rf_sI, jm_sI, tg_sR, im_sR, rf_sR, jm_sR, u1_n, u1_s, u2_n, u2_s]; exact o6
          · simp (disch := omega) only [tg_nwA, im_nwA, rf_nwA, jm_nwA, tg_sI, im_sI, rf_sI, jm_sI, tg_sR, im_sR, rf_sR, jm_sR, u1_n, u1_s, u2_n, u2_s]; exact o7
          · simp (disch := omega) only [tg_nwA, im_nwA, rf_nwA, jm_nwA, tg_sI, im_sI, rf_sI, jm_sI, tg_sR, im_sR, rf_sR, jm_sR, u1_n, u1_s, u2_n, u2_s]; exact o8
set_option maxRecDepth 100000 in
theorem lp_X6_initS (g : Gp) {m0 : Mm} {S : Nat} (hS : tg m0 S = (6, 0)) (hr : rf m0 S 4 = some (S + 5)) (ha : tg m0 (S + 5) = (14, 10)) (h6 : tg m0 (S + 6) = (4, 0)) {Q : Rs → Mm → Prop} (K : ∀ m, fz m = S + 37 + 1 * 10 → Fx m0 m (S + 37) (S + 5) → (∀ p, p < 10 → tg m (S + 37 + p) = (5, 0) ∧ rf m (S + 5) p = some (S + 37 + p)) → G g (MX6_init (46, 255)) Q 197 [(2, .int (nI (10))), (1, .ref (S + 6)), (0, .ref (S))] [] (36 + 1 * 10, 155 + 10 * 10) m) : ∀ j i : Nat, i + j = 10 → ∀ m, fz m = S + 37 + 1 * i → Fx m0 m (S + 37) (S + 5) → (∀ p, p < i → tg m (S + 37 + p) = (5, 0) ∧ rf m (S + 5) p = some (S + 37 + p)) → G g (MX6_init (46, 255)) Q 171 [(2, .int (nI (i))), (1, .ref (S + 6)), (0, .ref (S))] [] (36 + 1 * i, 155 + 10 * i) m := by
  intro j
  induction j with
  | zero =>
    intro i hi m hz hx hp
    obtain rfl : i = 10 := hi
    refine g_iload_n 2 dX6_init_171 rfl rfl ?_
    refine gN_bipush 10 dX6_init_172 (by decide) ?_
    refine gN_icmp_ge 197 dX6_init_174 (by decide) (by first | omega | exact b01_lt _) (by first | omega | exact b01_lt _) (fun h_174 => ?_) (fun h_174 => ?_)
    · refine g_pick [0, 1, 2] rfl ?_
      exact K m hz hx hp
    · exact absurd h_174 (by decide)
  | succ j ih =>
    intro i hi m hz hx hp
    obtain ⟨q, hq⟩ : ∃ q, q = S + 37 + 1 * i := ⟨_, rfl⟩
    have hqq : q = S + 37 + i := by omega
    have hlt : ∀ p, p < i → S + 37 + p < q := fun p hp => by omega
    refine g_iload_n 2 dX6_init_171 rfl rfl ?_
    refine gN_bipush 10 dX6_init_172 (by decide) ?_
    refine gN_icmp_ge 197 dX6_init_174 (by decide) (by first | omega | exact b01_lt _) (by first | omega | exact b01_lt _) (fun h_174 => ?_) (fun h_174 => ?_)
    · exfalso; omega
    · refine g_aload_n 0 dX6_init_177 rfl rfl ?_
      refine gN_getR (S + 5) flX6_35 (fun _ _ _ => rfl) 0 (by first | exact (hx S (by omega)).1.1.trans hS | (simp (disch := omega) only [tg_nwA, im_nwA, rf_nwA, jm_nwA, tg_sI, im_sI, rf_sI, jm_sI, tg_sR, im_sR, rf_sR, jm_sR, u1_n, u1_s, u2_n, u2_s]; exact (hx S (by omega)).1.1.trans hS) | (simp (disch := omega) only [tg_nwA, im_nwA, rf_nwA, jm_nwA, tg_sI, im_sI, rf_sI, jm_sI, tg_sR, im_sR, rf_sR, jm_sR, u1_n, u1_s, u2_n, u2_s]; done)) (by first | exact (congrFun ((hx S (by omega)).2 (by omega)) 4).trans hr | (simp (disch := omega) only [tg_nwA, im_nwA, rf_nwA, jm_nwA, tg_sI, im_sI, rf_sI, jm_sI, tg_sR, im_sR, rf_sR, jm_sR, u1_n, u1_s, u2_n, u2_s]; exact (congrFun ((hx S (by omega)).2 (by omega)) 4).trans hr) | (simp (disch := omega) only [tg_nwA, im_nwA, rf_nwA, jm_nwA, tg_sI, im_sI, rf_sI, jm_sI, tg_sR, im_sR, rf_sR, jm_sR, u1_n, u1_s, u2_n, u2_s]; done)) dX6_init_178 ?_
      refine g_iload_n 2 dX6_init_181 rfl rfl ?_
      refine g_newA (c := 5) (q) (hz.trans hq.symm) rfl klX6_33 ii_X5 iz_X5 (df_ok rfl) ⟨by show 36 + 1 * i + 1 ≤ 46; omega, by show 155 + 10 * i + 10 ≤ 255; omega⟩ dX6_init_182 ?_
      refine g_dup dX6_init_185 rfl ?_
      refine g_aload_n 1 dX6_init_186 rfl rfl ?_
      refine g_callI _ _ (cn_X5_init g (0, 0) (m := nwA m q (5, 0)) (q := q) (u1_s _ _ _)) (ok_X5_init _) rfl rfl mlX6_65 in_X5_init rfl ⟨Nat.le_of_ble_eq_true rfl, Nat.le_of_ble_eq_true rfl⟩ (by exact Nat.le_of_ble_eq_true rfl) ⟨by show 36 + 1 * i + 1 + 0 ≤ 46; omega, by show 155 + 10 * i + 10 + 0 ≤ 255; omega⟩ dX6_init_187 rfl (fun v m4 h4 => ?_) (fun E m4 h4 => by cases h4.1)
      obtain ⟨h40, rfl⟩ := h4; cases h40
      refine gN_aast 14 10 5 0 (by first | exact (hx (S + 5) (by omega)).1.1.trans ha | (simp (disch := omega) only [tg_nwA, im_nwA, rf_nwA, jm_nwA, tg_sI, im_sI, rf_sI, jm_sI, tg_sR, im_sR, rf_sR, jm_sR, u1_n, u1_s, u2_n, u2_s]; exact (hx (S + 5) (by omega)).1.1.trans ha) | (simp (disch := omega) only [tg_nwA, im_nwA, rf_nwA, jm_nwA, tg_sI, im_sI, rf_sI, jm_sI, tg_sR, im_sR, rf_sR, jm_sR, u1_n, u1_s, u2_n, u2_s]; done)) (by decide) (by first | omega | exact b01_lt _) (by first | omega | exact b01_lt _) (by first | exact rfl | (simp (disch := omega) only [tg_nwA, im_nwA, rf_nwA, jm_nwA, tg_sI, im_sI, rf_sI, jm_sI, tg_sR, im_sR, rf_sR, jm_sR, u1_n, u1_s, u2_n, u2_s]; exact rfl) | (simp (disch := omega) only [tg_nwA, im_nwA, rf_nwA, jm_nwA, tg_sI, im_sI, rf_sI, jm_sI, tg_sR, im_sR, rf_sR, jm_sR, u1_n, u1_s, u2_n, u2_s]; done)) rfl rfl dX6_init_190 ?_
      refine g_iinc 2 (nI (i + 1)) 0 [(2, .int (nI (i + 1))), (1, .ref (S + 6)), (0, .ref (S))] dX6_init_191 rfl (nI_add i 1) (Nat.le_of_ble_eq_true rfl) rfl ?_
      refine g_goto 171 dX6_init_194 (by decide) ?_
      refine g_pick [0, 1, 2] rfl ?_
      refine g_u (u2 := (36 + 1 * (i + 1), 155 + 10 * (i + 1))) (show ((_, _) : Nat × Nat) = (_, _) from Prod.ext (by show _ = 36 + 1 * (i + 1); show 36 + 1 * i + 1 + 0 = _; omega) (by show _ = 155 + 10 * (i + 1); show 155 + 10 * i + 10 + 0 = _; omega)) ?_
      refine ih (i + 1) (by omega) _ ?_ (fun x hx1 => ⟨⟨?_, ?_, ?_⟩, fun hxa => ?_⟩) (fun p hp1 => ?_)
      · show q + 1 = _; omega
      · simp (disch := omega) only [tg_nwA, im_nwA, rf_nwA, jm_nwA, tg_sI, im_sI, rf_sI, jm_sI, tg_sR, im_sR, rf_sR, jm_sR, u1_n, u1_s, u2_n, u2_s]; exact (hx x hx1).1.1
      · show u1 (im m) q (fun _ => 0) x = _
        rw [u1_n _ _ _ (by omega)]
        exact (hx x hx1).1.2.1
      · simp (disch := omega) only [tg_nwA, im_nwA, rf_nwA, jm_nwA, tg_sI, im_sI, rf_sI, jm_sI, tg_sR, im_sR, rf_sR, jm_sR, u1_n, u1_s, u2_n, u2_s]; exact (hx x hx1).1.2.2
      · show u2 (u2 (u1 (rf m) q (fun _ => none)) q 0 _) (S + 5) i _ x = _
        rw [u2_o _ _ _ _ hxa, u2_o _ _ _ _ (by omega), u1_n _ _ _ (by omega)]
        exact (hx x hx1).2 hxa
      · by_cases e : p = i
        · subst e
          rw [← hqq]
          refine ⟨?_, ?_⟩
          all_goals first | (simp (disch := omega) only [tg_nwA, im_nwA, rf_nwA, jm_nwA, tg_sI, im_sI, rf_sI, jm_sI, tg_sR, im_sR, rf_sR, jm_sR, u1_n, u1_s, u2_n, u2_s]; done) | (simp (disch := omega) only [tg_nwA, im_nwA, rf_nwA, jm_nwA, tg_sI, im_sI, rf_sI, jm_sI, tg_sR, im_sR, rf_sR, jm_sR, u1_n, u1_s, u2_n, u2_s]; first | rfl | rw [hqq]) | rfl
        · have hpq := hlt p (by omega)
          have ho := hp p (by omega)
          obtain ⟨o0, o1⟩ := ho
          refine ⟨?_, ?_⟩
          · simp (disch := omega) only [tg_nwA, im_nwA, rf_nwA, jm_nwA, tg_sI, im_sI, rf_sI, jm_sI, tg_sR, im_sR, rf_sR, jm_sR, u1_n, u1_s, u2_n, u2_s]; exact o0
          · simp (disch := omega) only [tg_nwA, im_nwA, rf_nwA, jm_nwA, tg_sI, im_sI, rf_sI, jm_sI, tg_sR, im_sR, rf_sR, jm_sR, u1_n, u1_s, u2_n, u2_s]; exact o1
/-- the numbers of a new desk -/
def Z0 (z : Nat → Int32) : Prop := (z 0 = nI 0 ∧ z 1 = nI 0 ∧ z 2 = nI 30 ∧ z 3 = nI 50) ∧ (∀ p, p < 4 → z (4 + 5 * p) = nI 10 ∧ z (4 + 5 * p + 1) = nI 0 ∧ z (4 + 5 * p + 2) = nI 0 ∧ z (4 + 5 * p + 3) = nI 0 ∧ z (4 + 5 * p + 4) = nI 0) ∧ (∀ k, k < 40 → z (24 + k) = -1) ∧ (z 64 = nI 10 ∧ z 67 = nI 30 ∧ z 70 = nI 60 ∧ z 73 = nI 80 ∧ z 76 = nI 100) ∧ ∀ p, p < 5 → z (64 + 3 * p + 1) = nI 0 ∧ z (64 + 3 * p + 2) = nI 0
theorem CsT.fr {g : Gp} {m m1 : Mm} {n : Nat} (h : CsT g m) (hg : g.2.1 < n ∧ g.2.2.1 < n ∧ g.2.2.2 < n) (ha : ∀ x, x < n → tg m1 x = tg m x ∧ im m1 x = im m x) : CsT g m1 := by
  unfold CsT at h ⊢
  rw [(ha _ hg.1).1, (ha _ hg.2.1).1, (ha _ hg.2.2).1, (ha _ hg.1).2, (ha _ hg.2.1).2, (ha _ hg.2.2).2]
  exact h
set_option maxRecDepth 100000 in
theorem cn_X6_init (g : Gp) {m : Mm} {S : Nat} (ht : tg m S = (6, 0)) (hfz : fz m = S + 1) (hC : CsT g m) (hg : g.2.1 < S ∧ g.2.2.1 < S ∧ g.2.2.2 < S) : Cn g (MX6_init (46, 255)) [.ref S] m (fun r1 m1 => r1 = Sum.inl none ∧ fz m1 = S + 47 ∧ Bfr m m1 S ∧ StT m1 S ∧ ∀ B z, Z0 z → Rp m1 B S z) := by
  refine Cn.of pn_X6 (Nat.le_of_ble_eq_true rfl) rfl ?_
  refine g_aload_n 0 dX6_init_0 rfl rfl ?_
  refine g_objInit moX6_3 in_obj co_obj (Nat.le_of_ble_eq_true rfl) (by exact Nat.le_of_ble_eq_true rfl) dX6_init_1 ?_
  refine g_aload_n 0 dX6_init_4 rfl rfl ?_
  refine gN_iconst 2 dX6_init_5 (by decide) ?_
  refine g_newIA (S + 1) 2 (hfz) (by omega) ⟨Nat.le_of_ble_eq_true rfl, Nat.le_of_ble_eq_true rfl⟩ dX6_init_6 ?_
  refine g_dup dX6_init_8 rfl ?_
  refine gN_iconst 0 dX6_init_9 (by decide) ?_
  refine gN_bipush 30 dX6_init_10 (by decide) ?_
  refine gN_iast 2 (by first | exact ht | (simp (disch := omega) only [tg_nwA, im_nwA, rf_nwA, jm_nwA, tg_sI, im_sI, rf_sI, jm_sI, tg_sR, im_sR, rf_sR, jm_sR, u1_n, u1_s, u2_n, u2_s]; exact ht) | (simp (disch := omega) only [tg_nwA, im_nwA, rf_nwA, jm_nwA, tg_sI, im_sI, rf_sI, jm_sI, tg_sR, im_sR, rf_sR, jm_sR, u1_n, u1_s, u2_n, u2_s]; done)) (by first | omega | exact b01_lt _) (by first | omega | exact b01_lt _) dX6_init_12 ?_
  refine g_dup dX6_init_13 rfl ?_
  refine gN_iconst 1 dX6_init_14 (by decide) ?_
  refine gN_bipush 50 dX6_init_15 (by decide) ?_
  refine gN_iast 2 (by first | exact ht | (simp (disch := omega) only [tg_nwA, im_nwA, rf_nwA, jm_nwA, tg_sI, im_sI, rf_sI, jm_sI, tg_sR, im_sR, rf_sR, jm_sR, u1_n, u1_s, u2_n, u2_s]; exact ht) | (simp (disch := omega) only [tg_nwA, im_nwA, rf_nwA, jm_nwA, tg_sI, im_sI, rf_sI, jm_sI, tg_sR, im_sR, rf_sR, jm_sR, u1_n, u1_s, u2_n, u2_s]; done)) (by first | omega | exact b01_lt _) (by first | omega | exact b01_lt _) dX6_init_17 ?_
  refine g_putRF ffX6_9 rfl rfl 0 (by first | exact ht | (simp (disch := omega) only [tg_nwA, im_nwA, rf_nwA, jm_nwA, tg_sI, im_sI, rf_sI, jm_sI, tg_sR, im_sR, rf_sR, jm_sR, u1_n, u1_s, u2_n, u2_s]; exact ht) | ((rw [(hx6 S (by omega)).1.1]); simp (disch := omega) only [tg_nwA, im_nwA, rf_nwA, jm_nwA, tg_sI, im_sI, rf_sI, jm_sI, tg_sR, im_sR, rf_sR, jm_sR, u1_n, u1_s, u2_n, u2_s]; exact t40)) dX6_init_18 ?_
  refine g_aload_n 0 dX6_init_21 rfl rfl ?_
  refine gN_iconst 4 dX6_init_22 (by decide) ?_
  refine g_newQA 17 (S + 2) 4 (by decide) (rfl) (by omega) ⟨Nat.le_of_ble_eq_true rfl, Nat.le_of_ble_eq_true rfl⟩ dX6_init_23 klX6_15 ao_X8 ?_
  refine g_putRF ffX6_17 rfl rfl 0 (by first | exact ht | (simp (disch := omega) only [tg_nwA, im_nwA, rf_nwA, jm_nwA, tg_sI, im_sI, rf_sI, jm_sI, tg_sR, im_sR, rf_sR, jm_sR, u1_n, u1_s, u2_n, u2_s]; exact ht) | ((rw [(hx6 S (by omega)).1.1]); simp (disch := omega) only [tg_nwA, im_nwA, rf_nwA, jm_nwA, tg_sI, im_sI, rf_sI, jm_sI, tg_sR, im_sR, rf_sR, jm_sR, u1_n, u1_s, u2_n, u2_s]; exact t40)) dX6_init_26 ?_
  refine g_aload_n 0 dX6_init_29 rfl rfl ?_
  refine gN_iconst 5 dX6_init_30 (by decide) ?_
  refine g_newQA 12 (S + 3) 5 (by decide) (rfl) (by omega) ⟨Nat.le_of_ble_eq_true rfl, Nat.le_of_ble_eq_true rfl⟩ dX6_init_31 klX6_21 ao_X0 ?_
  refine g_putRF ffX6_23 rfl rfl 0 (by first | exact ht | (simp (disch := omega) only [tg_nwA, im_nwA, rf_nwA, jm_nwA, tg_sI, im_sI, rf_sI, jm_sI, tg_sR, im_sR, rf_sR, jm_sR, u1_n, u1_s, u2_n, u2_s]; exact ht) | ((rw [(hx6 S (by omega)).1.1]); simp (disch := omega) only [tg_nwA, im_nwA, rf_nwA, jm_nwA, tg_sI, im_sI, rf_sI, jm_sI, tg_sR, im_sR, rf_sR, jm_sR, u1_n, u1_s, u2_n, u2_s]; exact t40)) dX6_init_34 ?_
  refine g_aload_n 0 dX6_init_37 rfl rfl ?_
  refine gN_bipush 8 dX6_init_38 (by decide) ?_
  refine g_newQA 16 (S + 4) 8 (by decide) (rfl) (by omega) ⟨Nat.le_of_ble_eq_true rfl, Nat.le_of_ble_eq_true rfl⟩ dX6_init_40 klX6_27 ao_X7 ?_
  refine g_putRF ffX6_29 rfl rfl 0 (by first | exact ht | (simp (disch := omega) only [tg_nwA, im_nwA, rf_nwA, jm_nwA, tg_sI, im_sI, rf_sI, jm_sI, tg_sR, im_sR, rf_sR, jm_sR, u1_n, u1_s, u2_n, u2_s]; exact ht) | ((rw [(hx6 S (by omega)).1.1]); simp (disch := omega) only [tg_nwA, im_nwA, rf_nwA, jm_nwA, tg_sI, im_sI, rf_sI, jm_sI, tg_sR, im_sR, rf_sR, jm_sR, u1_n, u1_s, u2_n, u2_s]; exact t40)) dX6_init_43 ?_
  refine g_aload_n 0 dX6_init_46 rfl rfl ?_
  refine gN_bipush 10 dX6_init_47 (by decide) ?_
  refine g_newQA 14 (S + 5) 10 (by decide) (rfl) (by omega) ⟨Nat.le_of_ble_eq_true rfl, Nat.le_of_ble_eq_true rfl⟩ dX6_init_49 klX6_33 ao_X5 ?_
  refine g_putRF ffX6_35 rfl rfl 0 (by first | exact ht | (simp (disch := omega) only [tg_nwA, im_nwA, rf_nwA, jm_nwA, tg_sI, im_sI, rf_sI, jm_sI, tg_sR, im_sR, rf_sR, jm_sR, u1_n, u1_s, u2_n, u2_s]; exact ht) | ((rw [(hx6 S (by omega)).1.1]); simp (disch := omega) only [tg_nwA, im_nwA, rf_nwA, jm_nwA, tg_sI, im_sI, rf_sI, jm_sI, tg_sR, im_sR, rf_sR, jm_sR, u1_n, u1_s, u2_n, u2_s]; exact t40)) dX6_init_52 ?_
  refine g_aload_n 0 dX6_init_55 rfl rfl ?_
  refine gN_iconst 0 dX6_init_56 (by decide) ?_
  refine gN_putI fwX6_39 rfl 0 (by first | exact ht | (simp (disch := omega) only [tg_nwA, im_nwA, rf_nwA, jm_nwA, tg_sI, im_sI, rf_sI, jm_sI, tg_sR, im_sR, rf_sR, jm_sR, u1_n, u1_s, u2_n, u2_s]; exact ht) | ((rw [(hx6 S (by omega)).1.1]); simp (disch := omega) only [tg_nwA, im_nwA, rf_nwA, jm_nwA, tg_sI, im_sI, rf_sI, jm_sI, tg_sR, im_sR, rf_sR, jm_sR, u1_n, u1_s, u2_n, u2_s]; exact t40)) dX6_init_57 ?_
  refine g_newA (c := 4) (S + 6) (rfl) rfl klX6_43 ii_X4 iz_X4 (df_ok rfl) ⟨Nat.le_of_ble_eq_true rfl, Nat.le_of_ble_eq_true rfl⟩ dX6_init_60 ?_
  refine g_dup dX6_init_63 rfl ?_
  refine gN_iconst 0 dX6_init_64 (by decide) ?_
  refine g_newIA (S + 7) 0 (rfl) (by omega) ⟨Nat.le_of_ble_eq_true rfl, Nat.le_of_ble_eq_true rfl⟩ dX6_init_65 ?_
  refine gN_iconst 0 dX6_init_67 (by decide) ?_
  refine gN_iconst 0 dX6_init_68 (by decide) ?_
  refine g_callI _ _ (cn_X4_init0 g (n := S + 8) (q := S + 6) (C := S + 7) (by simp (disch := omega) only [tg_nwA, im_nwA, rf_nwA, jm_nwA, tg_sI, im_sI, rf_sI, jm_sI, tg_sR, im_sR, rf_sR, jm_sR, u1_n, u1_s, u2_n, u2_s]) (by simp (disch := omega) only [tg_nwA, im_nwA, rf_nwA, jm_nwA, tg_sI, im_sI, rf_sI, jm_sI, tg_sR, im_sR, rf_sR, jm_sR, u1_n, u1_s, u2_n, u2_s]) rfl (by omega) (by omega)) (ok_X4_init _) rfl rfl mlX6_45 in_X4_init rfl ⟨Nat.le_of_ble_eq_true rfl, Nat.le_of_ble_eq_true rfl⟩ (by exact Nat.le_of_ble_eq_true rfl) ⟨Nat.le_of_ble_eq_true rfl, Nat.le_of_ble_eq_true rfl⟩ dX6_init_69 rfl (fun v m4 h4 => ?_) (fun E m4 h4 => by cases h4.1)
  obtain ⟨h40, hz4, hx4⟩ := h4
  cases h40
  have t40 : tg m4 (S) = (6, 0) := (hx4 (S) (by omega)).1.1.trans (by first | (simp (disch := omega) only [tg_nwA, im_nwA, rf_nwA, jm_nwA, tg_sI, im_sI, rf_sI, jm_sI, tg_sR, im_sR, rf_sR, jm_sR, u1_n, u1_s, u2_n, u2_s]; done) | (simp (disch := omega) only [tg_nwA, im_nwA, rf_nwA, jm_nwA, tg_sI, im_sI, rf_sI, jm_sI, tg_sR, im_sR, rf_sR, jm_sR, u1_n, u1_s, u2_n, u2_s]; exact ht))
  have t41 : tg m4 (S + 1) = (11, 2) := (hx4 (S + 1) (by omega)).1.1.trans (by first | (simp (disch := omega) only [tg_nwA, im_nwA, rf_nwA, jm_nwA, tg_sI, im_sI, rf_sI, jm_sI, tg_sR, im_sR, rf_sR, jm_sR, u1_n, u1_s, u2_n, u2_s]; done) | (simp (disch := omega) only [tg_nwA, im_nwA, rf_nwA, jm_nwA, tg_sI, im_sI, rf_sI, jm_sI, tg_sR, im_sR, rf_sR, jm_sR, u1_n, u1_s, u2_n, u2_s]; exact ht))
  have t42 : tg m4 (S + 2) = (17, 4) := (hx4 (S + 2) (by omega)).1.1.trans (by first | (simp (disch := omega) only [tg_nwA, im_nwA, rf_nwA, jm_nwA, tg_sI, im_sI, rf_sI, jm_sI, tg_sR, im_sR, rf_sR, jm_sR, u1_n, u1_s, u2_n, u2_s]; done) | (simp (disch := omega) only [tg_nwA, im_nwA, rf_nwA, jm_nwA, tg_sI, im_sI, rf_sI, jm_sI, tg_sR, im_sR, rf_sR, jm_sR, u1_n, u1_s, u2_n, u2_s]; exact ht))
  have t43 : tg m4 (S + 3) = (12, 5) := (hx4 (S + 3) (by omega)).1.1.trans (by first | (simp (disch := omega) only [tg_nwA, im_nwA, rf_nwA, jm_nwA, tg_sI, im_sI, rf_sI, jm_sI, tg_sR, im_sR, rf_sR, jm_sR, u1_n, u1_s, u2_n, u2_s]; done) | (simp (disch := omega) only [tg_nwA, im_nwA, rf_nwA, jm_nwA, tg_sI, im_sI, rf_sI, jm_sI, tg_sR, im_sR, rf_sR, jm_sR, u1_n, u1_s, u2_n, u2_s]; exact ht))
  have t44 : tg m4 (S + 4) = (16, 8) := (hx4 (S + 4) (by omega)).1.1.trans (by first | (simp (disch := omega) only [tg_nwA, im_nwA, rf_nwA, jm_nwA, tg_sI, im_sI, rf_sI, jm_sI, tg_sR, im_sR, rf_sR, jm_sR, u1_n, u1_s, u2_n, u2_s]; done) | (simp (disch := omega) only [tg_nwA, im_nwA, rf_nwA, jm_nwA, tg_sI, im_sI, rf_sI, jm_sI, tg_sR, im_sR, rf_sR, jm_sR, u1_n, u1_s, u2_n, u2_s]; exact ht))
  have t45 : tg m4 (S + 5) = (14, 10) := (hx4 (S + 5) (by omega)).1.1.trans (by first | (simp (disch := omega) only [tg_nwA, im_nwA, rf_nwA, jm_nwA, tg_sI, im_sI, rf_sI, jm_sI, tg_sR, im_sR, rf_sR, jm_sR, u1_n, u1_s, u2_n, u2_s]; done) | (simp (disch := omega) only [tg_nwA, im_nwA, rf_nwA, jm_nwA, tg_sI, im_sI, rf_sI, jm_sI, tg_sR, im_sR, rf_sR, jm_sR, u1_n, u1_s, u2_n, u2_s]; exact ht))
  have t46 : tg m4 (S + 6) = (4, 0) := (hx4 (S + 6) (by omega)).1.1.trans (by first | (simp (disch := omega) only [tg_nwA, im_nwA, rf_nwA, jm_nwA, tg_sI, im_sI, rf_sI, jm_sI, tg_sR, im_sR, rf_sR, jm_sR, u1_n, u1_s, u2_n, u2_s]; done) | (simp (disch := omega) only [tg_nwA, im_nwA, rf_nwA, jm_nwA, tg_sI, im_sI, rf_sI, jm_sI, tg_sR, im_sR, rf_sR, jm_sR, u1_n, u1_s, u2_n, u2_s]; exact ht))
  have r40 : rf m4 S 0 = some (S + 1) := (congrFun ((hx4 S (by omega)).2 (by omega)).2 0).trans (by simp (disch := omega) only [tg_nwA, im_nwA, rf_nwA, jm_nwA, tg_sI, im_sI, rf_sI, jm_sI, tg_sR, im_sR, rf_sR, jm_sR, u1_n, u1_s, u2_n, u2_s])
  have r41 : rf m4 S 1 = some (S + 2) := (congrFun ((hx4 S (by omega)).2 (by omega)).2 1).trans (by simp (disch := omega) only [tg_nwA, im_nwA, rf_nwA, jm_nwA, tg_sI, im_sI, rf_sI, jm_sI, tg_sR, im_sR, rf_sR, jm_sR, u1_n, u1_s, u2_n, u2_s])
  have r42 : rf m4 S 2 = some (S + 3) := (congrFun ((hx4 S (by omega)).2 (by omega)).2 2).trans (by simp (disch := omega) only [tg_nwA, im_nwA, rf_nwA, jm_nwA, tg_sI, im_sI, rf_sI, jm_sI, tg_sR, im_sR, rf_sR, jm_sR, u1_n, u1_s, u2_n, u2_s])
  have r43 : rf m4 S 3 = some (S + 4) := (congrFun ((hx4 S (by omega)).2 (by omega)).2 3).trans (by simp (disch := omega) only [tg_nwA, im_nwA, rf_nwA, jm_nwA, tg_sI, im_sI, rf_sI, jm_sI, tg_sR, im_sR, rf_sR, jm_sR, u1_n, u1_s, u2_n, u2_s])
  have r44 : rf m4 S 4 = some (S + 5) := (congrFun ((hx4 S (by omega)).2 (by omega)).2 4).trans (by simp (disch := omega) only [tg_nwA, im_nwA, rf_nwA, jm_nwA, tg_sI, im_sI, rf_sI, jm_sI, tg_sR, im_sR, rf_sR, jm_sR, u1_n, u1_s, u2_n, u2_s])
  have i40 : im m4 (S + 1) 0 = nI 30 := (congrFun ((hx4 (S + 1) (by omega)).2 (by omega)).1 0).trans (by simp (disch := omega) only [tg_nwA, im_nwA, rf_nwA, jm_nwA, tg_sI, im_sI, rf_sI, jm_sI, tg_sR, im_sR, rf_sR, jm_sR, u1_n, u1_s, u2_n, u2_s])
  have i41 : im m4 (S + 1) 1 = nI 50 := (congrFun ((hx4 (S + 1) (by omega)).2 (by omega)).1 1).trans (by simp (disch := omega) only [tg_nwA, im_nwA, rf_nwA, jm_nwA, tg_sI, im_sI, rf_sI, jm_sI, tg_sR, im_sR, rf_sR, jm_sR, u1_n, u1_s, u2_n, u2_s])
  have i42 : im m4 (S) 6 = nI 0 := (congrFun ((hx4 (S) (by omega)).2 (by omega)).1 6).trans (by simp (disch := omega) only [tg_nwA, im_nwA, rf_nwA, jm_nwA, tg_sI, im_sI, rf_sI, jm_sI, tg_sR, im_sR, rf_sR, jm_sR, u1_n, u1_s, u2_n, u2_s])
  have b4 : Bfr m m4 S := fun x hx => ⟨(hx4 x (by omega)).1.1.trans (by simp (disch := omega) only [tg_nwA, im_nwA, rf_nwA, jm_nwA, tg_sI, im_sI, rf_sI, jm_sI, tg_sR, im_sR, rf_sR, jm_sR, u1_n, u1_s, u2_n, u2_s]), ((hx4 x (by omega)).2 (by omega)).1.trans (by funext y; simp (disch := omega) only [tg_nwA, im_nwA, rf_nwA, jm_nwA, tg_sI, im_sI, rf_sI, jm_sI, tg_sR, im_sR, rf_sR, jm_sR, u1_n, u1_s, u2_n, u2_s]), ((hx4 x (by omega)).2 (by omega)).2.trans (by funext y; simp (disch := omega) only [tg_nwA, im_nwA, rf_nwA, jm_nwA, tg_sI, im_sI, rf_sI, jm_sI, tg_sR, im_sR, rf_sR, jm_sR, u1_n, u1_s, u2_n, u2_s]), (hx4 x (by omega)).1.2.trans (by simp (disch := omega) only [tg_nwA, im_nwA, rf_nwA, jm_nwA, tg_sI, im_sI, rf_sI, jm_sI, tg_sR, im_sR, rf_sR, jm_sR, u1_n, u1_s, u2_n, u2_s])⟩
  clear hx4
  refine g_astore_n 1 [(1, .ref (S + 6)), (0, .ref (S))] dX6_init_72 rfl (Nat.le_of_ble_eq_true rfl) rfl ?_
  refine g_aload_n 0 dX6_init_73 rfl rfl ?_
  refine g_newA (c := 3) (S + 10) (hz4) rfl klX6_48 ii_X3 iz_X3 (df_ok rfl) ⟨Nat.le_of_ble_eq_true rfl, Nat.le_of_ble_eq_true rfl⟩ dX6_init_74 ?_
  refine g_dup dX6_init_77 rfl ?_
  refine g_aload_n 1 dX6_init_78 rfl rfl ?_
  refine g_callI _ _ (cn_X3_init g (m0 := nwA m4 (S + 10) (3, 0)) (A := S + 10) (r := S + 6) (by simp (disch := omega) only [tg_nwA, im_nwA, rf_nwA, jm_nwA, tg_sI, im_sI, rf_sI, jm_sI, tg_sR, im_sR, rf_sR, jm_sR, u1_n, u1_s, u2_n, u2_s]; exact t46) (by omega) (u1_s _ _ _) rfl) (ok_X3_init _) rfl rfl mlX6_50 in_X3_init rfl ⟨Nat.le_of_ble_eq_true rfl, Nat.le_of_ble_eq_true rfl⟩ (by exact Nat.le_of_ble_eq_true rfl) ⟨Nat.le_of_ble_eq_true rfl, Nat.le_of_ble_eq_true rfl⟩ dX6_init_79 rfl (fun v m6 h6 => ?_) (fun E m6 h6 => by cases h6.1)
  obtain ⟨h60, hz6, hx6, t610, t611, r610, i610⟩ := h6
  cases h60
  refine g_putRF ffX6_53 rfl rfl 0 (by first | exact ht | (simp (disch := omega) only [tg_nwA, im_nwA, rf_nwA, jm_nwA, tg_sI, im_sI, rf_sI, jm_sI, tg_sR, im_sR, rf_sR, jm_sR, u1_n, u1_s, u2_n, u2_s]; exact ht) | ((rw [(hx6 S (by omega)).1.1]); simp (disch := omega) only [tg_nwA, im_nwA, rf_nwA, jm_nwA, tg_sI, im_sI, rf_sI, jm_sI, tg_sR, im_sR, rf_sR, jm_sR, u1_n, u1_s, u2_n, u2_s]; exact t40)) dX6_init_82 ?_
  refine gN_iconst 0 dX6_init_85 (by decide) ?_
  refine g_istore_n 2 [(2, .int (nI (0))), (1, .ref (S + 6)), (0, .ref (S))] dX6_init_86 rfl (Nat.le_of_ble_eq_true rfl) rfl ?_
  refine g_pick [0, 1, 2] rfl ?_
  generalize hm7 : sR m6 S 5 (some (S + 10)) = m7
  have hz7 : fz m7 = S + 12 := by rw [← hm7]; exact hz6
  have t70 : tg m7 (S) = (6, 0) := by rw [← hm7]; exact (hx6 (S) (by omega)).1.1.trans (by simp (disch := omega) only [tg_nwA, im_nwA, rf_nwA, jm_nwA, tg_sI, im_sI, rf_sI, jm_sI, tg_sR, im_sR, rf_sR, jm_sR, u1_n, u1_s, u2_n, u2_s]; exact t40)
  have t71 : tg m7 (S + 1) = (11, 2) := by rw [← hm7]; exact (hx6 (S + 1) (by omega)).1.1.trans (by simp (disch := omega) only [tg_nwA, im_nwA, rf_nwA, jm_nwA, tg_sI, im_sI, rf_sI, jm_sI, tg_sR, im_sR, rf_sR, jm_sR, u1_n, u1_s, u2_n, u2_s]; exact t41)
  have t72 : tg m7 (S + 2) = (17, 4) := by rw [← hm7]; exact (hx6 (S + 2) (by omega)).1.1.trans (by simp (disch := omega) only [tg_nwA, im_nwA, rf_nwA, jm_nwA, tg_sI, im_sI, rf_sI, jm_sI, tg_sR, im_sR, rf_sR, jm_sR, u1_n, u1_s, u2_n, u2_s]; exact t42)
  have t73 : tg m7 (S + 3) = (12, 5) := by rw [← hm7]; exact (hx6 (S + 3) (by omega)).1.1.trans (by simp (disch := omega) only [tg_nwA, im_nwA, rf_nwA, jm_nwA, tg_sI, im_sI, rf_sI, jm_sI, tg_sR, im_sR, rf_sR, jm_sR, u1_n, u1_s, u2_n, u2_s]; exact t43)
  have t74 : tg m7 (S + 4) = (16, 8) := by rw [← hm7]; exact (hx6 (S + 4) (by omega)).1.1.trans (by simp (disch := omega) only [tg_nwA, im_nwA, rf_nwA, jm_nwA, tg_sI, im_sI, rf_sI, jm_sI, tg_sR, im_sR, rf_sR, jm_sR, u1_n, u1_s, u2_n, u2_s]; exact t44)
  have t75 : tg m7 (S + 5) = (14, 10) := by rw [← hm7]; exact (hx6 (S + 5) (by omega)).1.1.trans (by simp (disch := omega) only [tg_nwA, im_nwA, rf_nwA, jm_nwA, tg_sI, im_sI, rf_sI, jm_sI, tg_sR, im_sR, rf_sR, jm_sR, u1_n, u1_s, u2_n, u2_s]; exact t45)
  have t76 : tg m7 (S + 6) = (4, 0) := by rw [← hm7]; exact (hx6 (S + 6) (by omega)).1.1.trans (by simp (disch := omega) only [tg_nwA, im_nwA, rf_nwA, jm_nwA, tg_sI, im_sI, rf_sI, jm_sI, tg_sR, im_sR, rf_sR, jm_sR, u1_n, u1_s, u2_n, u2_s]; exact t46)
  have t710 : tg m7 (S + 10) = (3, 0) := by rw [← hm7]; exact t610
  have t711 : tg m7 (S + 11) = (13, 30) := by rw [← hm7]; exact t611
  have r70 : rf m7 S 0 = some (S + 1) := by rw [← hm7]; exact (u2_n _ _ _ _ (by omega)).trans ((congrFun ((hx6 S (by omega)).2 (by omega)) 0).trans (by simp (disch := omega) only [tg_nwA, im_nwA, rf_nwA, jm_nwA, tg_sI, im_sI, rf_sI, jm_sI, tg_sR, im_sR, rf_sR, jm_sR, u1_n, u1_s, u2_n, u2_s]; exact r40))
  have r71 : rf m7 S 1 = some (S + 2) := by rw [← hm7]; exact (u2_n _ _ _ _ (by omega)).trans ((congrFun ((hx6 S (by omega)).2 (by omega)) 1).trans (by simp (disch := omega) only [tg_nwA, im_nwA, rf_nwA, jm_nwA, tg_sI, im_sI, rf_sI, jm_sI, tg_sR, im_sR, rf_sR, jm_sR, u1_n, u1_s, u2_n, u2_s]; exact r41))
  have r72 : rf m7 S 2 = some (S + 3) := by rw [← hm7]; exact (u2_n _ _ _ _ (by omega)).trans ((congrFun ((hx6 S (by omega)).2 (by omega)) 2).trans (by simp (disch := omega) only [tg_nwA, im_nwA, rf_nwA, jm_nwA, tg_sI, im_sI, rf_sI, jm_sI, tg_sR, im_sR, rf_sR, jm_sR, u1_n, u1_s, u2_n, u2_s]; exact r42))
  have r73 : rf m7 S 3 = some (S + 4) := by rw [← hm7]; exact (u2_n _ _ _ _ (by omega)).trans ((congrFun ((hx6 S (by omega)).2 (by omega)) 3).trans (by simp (disch := omega) only [tg_nwA, im_nwA, rf_nwA, jm_nwA, tg_sI, im_sI, rf_sI, jm_sI, tg_sR, im_sR, rf_sR, jm_sR, u1_n, u1_s, u2_n, u2_s]; exact r43))
  have r74 : rf m7 S 4 = some (S + 5) := by rw [← hm7]; exact (u2_n _ _ _ _ (by omega)).trans ((congrFun ((hx6 S (by omega)).2 (by omega)) 4).trans (by simp (disch := omega) only [tg_nwA, im_nwA, rf_nwA, jm_nwA, tg_sI, im_sI, rf_sI, jm_sI, tg_sR, im_sR, rf_sR, jm_sR, u1_n, u1_s, u2_n, u2_s]; exact r44))
  have r75 : rf m7 S 5 = some (S + 10) := by rw [← hm7]; exact u2_s _ _ _ _
  have r710 : rf m7 (S + 10) 0 = some (S + 11) := by rw [← hm7]; exact (u2_n _ _ _ _ (by omega)).trans r610
  have i70 : im m7 (S + 1) 0 = nI 30 := by rw [← hm7]; exact (congrFun (hx6 (S + 1) (by omega)).1.2.1 0).trans (by simp (disch := omega) only [tg_nwA, im_nwA, rf_nwA, jm_nwA, tg_sI, im_sI, rf_sI, jm_sI, tg_sR, im_sR, rf_sR, jm_sR, u1_n, u1_s, u2_n, u2_s]; exact i40)
  have i71 : im m7 (S + 1) 1 = nI 50 := by rw [← hm7]; exact (congrFun (hx6 (S + 1) (by omega)).1.2.1 1).trans (by simp (disch := omega) only [tg_nwA, im_nwA, rf_nwA, jm_nwA, tg_sI, im_sI, rf_sI, jm_sI, tg_sR, im_sR, rf_sR, jm_sR, u1_n, u1_s, u2_n, u2_s]; exact i41)
  have i72 : im m7 (S) 6 = nI 0 := by rw [← hm7]; exact (congrFun (hx6 (S) (by omega)).1.2.1 6).trans (by simp (disch := omega) only [tg_nwA, im_nwA, rf_nwA, jm_nwA, tg_sI, im_sI, rf_sI, jm_sI, tg_sR, im_sR, rf_sR, jm_sR, u1_n, u1_s, u2_n, u2_s]; exact i42)
  have i73 : im m7 (S + 10) 1 = nI 0 := by rw [← hm7]; exact i610
  have b7 : Bfr m m7 S := fun x hx => by rw [← hm7]; exact ⟨(hx6 x (by omega)).1.1.trans (by simp (disch := omega) only [tg_nwA, im_nwA, rf_nwA, jm_nwA, tg_sI, im_sI, rf_sI, jm_sI, tg_sR, im_sR, rf_sR, jm_sR, u1_n, u1_s, u2_n, u2_s]; exact (b4 x hx).1), (hx6 x (by omega)).1.2.1.trans (by simp (disch := omega) only [tg_nwA, im_nwA, rf_nwA, jm_nwA, tg_sI, im_sI, rf_sI, jm_sI, tg_sR, im_sR, rf_sR, jm_sR, u1_n, u1_s, u2_n, u2_s]; exact (b4 x hx).2.1), (u2_o _ _ _ _ (by omega)).trans (((hx6 x (by omega)).2 (by omega)).trans (by simp (disch := omega) only [tg_nwA, im_nwA, rf_nwA, jm_nwA, tg_sI, im_sI, rf_sI, jm_sI, tg_sR, im_sR, rf_sR, jm_sR, u1_n, u1_s, u2_n, u2_s]; exact (b4 x hx).2.2.1)), (hx6 x (by omega)).1.2.2.trans (by simp (disch := omega) only [tg_nwA, im_nwA, rf_nwA, jm_nwA, tg_sI, im_sI, rf_sI, jm_sI, tg_sR, im_sR, rf_sR, jm_sR, u1_n, u1_s, u2_n, u2_s]; exact (b4 x hx).2.2.2)⟩
  have hC7 : CsT g m7 := hC.fr hg (fun x hx => ⟨(b7 x hx).1, (b7 x hx).2.1⟩)
  clear hm7
  refine g_u (u2 := (11 + 1 * 0, 72 + 5 * 0)) rfl ?_
  refine lp_X6_initT g t70 r71 t72 t76 (fun m8 hz8 hx8 hp8 => ?_) 4 0 rfl m7 hz7 (Fx.rfl' _ _ _) (fun p hp => absurd hp (Nat.not_lt_zero _))
  have t80 : tg m8 (S) = _ := (hx8 (S) (by omega)).1.1.trans t70
  have r82 : rf m8 S 2 = _ := (congrFun ((hx8 S (by omega)).2 (by omega)) 2).trans r72
  have r83 : rf m8 S 3 = _ := (congrFun ((hx8 S (by omega)).2 (by omega)) 3).trans r73
  have r84 : rf m8 S 4 = _ := (congrFun ((hx8 S (by omega)).2 (by omega)) 4).trans r74
  have t83 : tg m8 (S + 3) = _ := (hx8 (S + 3) (by omega)).1.1.trans t73
  have t84 : tg m8 (S + 4) = _ := (hx8 (S + 4) (by omega)).1.1.trans t74
  have t85 : tg m8 (S + 5) = _ := (hx8 (S + 5) (by omega)).1.1.trans t75
  have t86 : tg m8 (S + 6) = _ := (hx8 (S + 6) (by omega)).1.1.trans t76
  have hC8 : CsT g m8 := hC7.fr (n := S) hg (fun x hx => ⟨(hx8 x (by omega)).1.1, (hx8 x (by omega)).1.2.1⟩)
  refine gN_iconst 0 dX6_init_111 (by decide) ?_
  refine g_istore_n 2 [(2, .int (nI (0))), (1, .ref (S + 6)), (0, .ref (S))] dX6_init_112 rfl (Nat.le_of_ble_eq_true rfl) rfl ?_
  refine g_pick [0, 1, 2] rfl ?_
  refine g_u (u2 := (15 + 1 * 0, 92 + 3 * 0)) rfl ?_
  refine lp_X6_initB g t80 r82 t83 t86 hg.1 hC8 (fun m9 hz9 hx9 hp9 => ?_) 5 0 rfl m8 hz8 (Fx.rfl' _ _ _) (fun p hp => absurd hp (Nat.not_lt_zero _))
  have t90 : tg m9 (S) = _ := (hx9 (S) (by omega)).1.1.trans t80
  have r93 : rf m9 S 3 = _ := (congrFun ((hx9 S (by omega)).2 (by omega)) 3).trans r83
  have r94 : rf m9 S 4 = _ := (congrFun ((hx9 S (by omega)).2 (by omega)) 4).trans r84
  have t94 : tg m9 (S + 4) = _ := (hx9 (S + 4) (by omega)).1.1.trans t84
  have t95 : tg m9 (S + 5) = _ := (hx9 (S + 5) (by omega)).1.1.trans t85
  have t96 : tg m9 (S + 6) = _ := (hx9 (S + 6) (by omega)).1.1.trans t86
  refine gN_iconst 0 dX6_init_142 (by decide) ?_
  refine g_istore_n 2 [(2, .int (nI (0))), (1, .ref (S + 6)), (0, .ref (S))] dX6_init_143 rfl (Nat.le_of_ble_eq_true rfl) rfl ?_
  refine g_pick [0, 1, 2] rfl ?_
  refine g_u (u2 := (20 + 2 * 0, 107 + 6 * 0)) rfl ?_
  refine lp_X6_initW g t90 r93 t94 t96 (fun m10 hz10 hx10 hp10 => ?_) 8 0 rfl m9 hz9 (Fx.rfl' _ _ _) (fun p hp => absurd hp (Nat.not_lt_zero _))
  have t100 : tg m10 (S) = _ := (hx10 (S) (by omega)).1.1.trans t90
  have r104 : rf m10 S 4 = _ := (congrFun ((hx10 S (by omega)).2 (by omega)) 4).trans r94
  have t105 : tg m10 (S + 5) = _ := (hx10 (S + 5) (by omega)).1.1.trans t95
  have t106 : tg m10 (S + 6) = _ := (hx10 (S + 6) (by omega)).1.1.trans t96
  refine gN_iconst 0 dX6_init_169 (by decide) ?_
  refine g_istore_n 2 [(2, .int (nI (0))), (1, .ref (S + 6)), (0, .ref (S))] dX6_init_170 rfl (Nat.le_of_ble_eq_true rfl) rfl ?_
  refine g_pick [0, 1, 2] rfl ?_
  refine g_u (u2 := (36 + 1 * 0, 155 + 10 * 0)) rfl ?_
  refine lp_X6_initS g t100 r104 t105 t106 (fun m11 hz11 hx11 hp11 => ?_) 10 0 rfl m10 hz10 (Fx.rfl' _ _ _) (fun p hp => absurd hp (Nat.not_lt_zero _))
  refine g_vret rfl dX6_init_197 ⟨Nat.le_of_ble_eq_true rfl, Nat.le_of_ble_eq_true rfl⟩ ?_
  have T10 : ∀ x, x < S + 37 → tg m11 x = tg m10 x ∧ im m11 x = im m10 x ∧ jm m11 x = jm m10 x := fun x h => (hx11 x h).1
  have T9 : ∀ x, x < S + 21 → tg m11 x = tg m9 x ∧ im m11 x = im m9 x ∧ jm m11 x = jm m9 x := fun x h => ⟨(T10 x (by omega)).1.trans (hx10 x h).1.1, (T10 x (by omega)).2.1.trans (hx10 x h).1.2.1, (T10 x (by omega)).2.2.trans (hx10 x h).1.2.2⟩
  have T8 : ∀ x, x < S + 16 → tg m11 x = tg m8 x ∧ im m11 x = im m8 x ∧ jm m11 x = jm m8 x := fun x h => ⟨(T9 x (by omega)).1.trans (hx9 x h).1.1, (T9 x (by omega)).2.1.trans (hx9 x h).1.2.1, (T9 x (by omega)).2.2.trans (hx9 x h).1.2.2⟩
  have T7 : ∀ x, x < S + 12 → tg m11 x = tg m7 x ∧ im m11 x = im m7 x ∧ jm m11 x = jm m7 x := fun x h => ⟨(T8 x (by omega)).1.trans (hx8 x h).1.1, (T8 x (by omega)).2.1.trans (hx8 x h).1.2.1, (T8 x (by omega)).2.2.trans (hx8 x h).1.2.2⟩
  have R10 : ∀ x, x < S + 37 → x ≠ S + 5 → rf m11 x = rf m10 x := fun x h h5 => (hx11 x h).2 h5
  have R9 : ∀ x, x < S + 21 → x ≠ S + 5 → x ≠ S + 4 → rf m11 x = rf m9 x := fun x h h5 h4 => (R10 x (by omega) h5).trans ((hx10 x h).2 h4)
  have R8 : ∀ x, x < S + 16 → x ≠ S + 5 → x ≠ S + 4 → x ≠ S + 3 → rf m11 x = rf m8 x := fun x h h5 h4 h3 => (R9 x (by omega) h5 h4).trans ((hx9 x h).2 h3)
  have R7 : ∀ x, x < S + 12 → x ≠ S + 5 → x ≠ S + 4 → x ≠ S + 3 → x ≠ S + 2 → rf m11 x = rf m7 x := fun x h h5 h4 h3 h2 => (R8 x (by omega) h5 h4 h3).trans ((hx8 x h).2 h2)
  have RS := R7 S (by omega) (by omega) (by omega) (by omega) (by omega)
  refine ⟨rfl, hz11, fun x hx => ?_, ?_, fun B z hz => ?_⟩
  · exact ⟨(T7 x (by omega)).1.trans (b7 x hx).1, (T7 x (by omega)).2.1.trans (b7 x hx).2.1, (R7 x (by omega) (by omega) (by omega) (by omega) (by omega)).trans (b7 x hx).2.2.1, (T7 x (by omega)).2.2.trans (b7 x hx).2.2.2⟩
  · refine ⟨⟨(T7 _ (by omega)).1.trans t70, (T7 _ (by omega)).1.trans t71, (T7 _ (by omega)).1.trans t72, (T7 _ (by omega)).1.trans t73, (T7 _ (by omega)).1.trans t74, (T7 _ (by omega)).1.trans t75, (T7 _ (by omega)).1.trans t710, (T7 _ (by omega)).1.trans t711⟩, ⟨(congrFun RS 0).trans r70, (congrFun RS 1).trans r71, (congrFun RS 2).trans r72, (congrFun RS 3).trans r73, (congrFun RS 4).trans r74, (congrFun RS 5).trans r75, (congrFun (R7 (S + 10) (by omega) (by omega) (by omega) (by omega) (by omega)) 0).trans r710⟩, fun p hp => ?_, fun p hp => ?_, fun p hp => ?_, fun p hp => ?_⟩
    · exact ⟨(T8 _ (by omega)).1.trans (hp8 p hp).1, (congrFun (R8 (S + 2) (by omega) (by omega) (by omega) (by omega)) p).trans (hp8 p hp).2.1⟩
    · exact ⟨(T9 _ (by omega)).1.trans (hp9 p hp).1, (congrFun (R9 (S + 3) (by omega) (by omega) (by omega)) p).trans (hp9 p hp).2.1⟩
    · exact ⟨(T10 _ (by omega)).1.trans (hp10 p hp).1, (congrFun (R10 (S + 4) (by omega) (by omega)) p).trans (hp10 p hp).2.1, (T10 _ (by omega)).1.trans (hp10 p hp).2.2.1, (congrFun (R10 (S + 21 + 2 * p) (by omega) (by omega)) 0).trans (hp10 p hp).2.2.2.1⟩
    · exact hp11 p hp
  · obtain ⟨⟨z0, z1, z2, z3⟩, zT, zP, ⟨q0, q1, q2, q3, q4⟩, zB⟩ := hz
    refine ⟨⟨?_, ?_, ?_, ?_⟩, fun p hp => ?_, fun p hp => ?_, fun p hp => ⟨fun t ht => ?_, ?_⟩, fun s hs => ?_, fun r hr => ?_⟩
    · rw [(T7 _ (by omega)).2.1, i72, z0]
    · rw [(T7 _ (by omega)).2.1, i73, z1]
    · rw [(T7 _ (by omega)).2.1, i70, z2]
    · rw [(T7 _ (by omega)).2.1, i71, z3]
    · rw [(T8 _ (by omega)).2.1]
      obtain ⟨a0, a1, a2, a3, a4⟩ := zT p hp
      obtain ⟨_, _, b0, b1, b2, b3, b4⟩ := hp8 p hp
      exact ⟨b0.trans a0.symm, b1.trans a1.symm, b2.trans a2.symm, b3.trans a3.symm, b4.trans a4.symm⟩
    · rw [(T9 _ (by omega)).2.1]
      obtain ⟨a1, a2⟩ := zB p hp
      obtain ⟨_, _, b0, b1, b2⟩ := hp9 p hp
      refine ⟨b0.trans ?_, b1.trans a1.symm, b2.trans a2.symm⟩
      obtain ⟨_, e0, e1, e2, e3, e4⟩ := hC8.1
      rcases (show p = 0 ∨ p = 1 ∨ p = 2 ∨ p = 3 ∨ p = 4 by omega) with rfl | rfl | rfl | rfl | rfl
      · exact e0.trans q0.symm
      · exact e1.trans q1.symm
      · exact e2.trans q2.symm
      · exact e3.trans q3.symm
      · exact e4.trans q4.symm
    · rw [(T10 _ (by omega)).2.1, show 24 + 4 * p + t = 24 + (4 * p + t) by omega, zP _ (by omega)]
      obtain ⟨_, _, _, _, b0, b1, b2, b3, _⟩ := hp10 p hp
      rcases (show t = 0 ∨ t = 1 ∨ t = 2 ∨ t = 3 by omega) with rfl | rfl | rfl | rfl
      · exact b0
      · exact b1
      · exact b2
      · exact b3
    · rw [(T10 _ (by omega)).2.1, show 56 + p = 24 + (32 + p) by omega, zP _ (by omega)]
      exact (hp10 p hp).2.2.2.2.2.2.2.2
    · rw [z0, nv_nI (by omega)] at hs; exact absurd hs (Nat.not_lt_zero _)
    · rw [z1, nv_nI (by omega)] at hr; exact absurd hr (Nat.not_lt_zero _)
