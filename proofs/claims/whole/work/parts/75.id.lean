/-! CONSTRUCTORS: a history, a buffer, a desk, the model -/
set_option maxRecDepth 100000 in
theorem cn_X1_init (g : Gp) (cs : Nat × Nat) {m : Mm} {q : Nat} (ht : tg m q = (1, 0)) (hfz : fz m = q + 1) : Dn g (MX1_init (1, 60)) [.ref (q)] m none (sI (sR (nwA m (q + 1) (11, 60)) q 0 (some (q + 1))) q 1 (nI 0)) := by
  refine Cn.of pn_X1 (Nat.le_of_ble_eq_true rfl) rfl ?_
  refine g_aload_n 0 dX1_init_0 rfl rfl ?_
  refine g_objInit moX1_3 in_obj co_obj (Nat.le_of_ble_eq_true rfl) (by exact Nat.le_of_ble_eq_true rfl) dX1_init_1 ?_
  refine g_aload_n 0 dX1_init_4 rfl rfl ?_
  refine gN_bipush 60 dX1_init_5 (by decide) ?_
  refine g_newIA (q + 1) 60 (hfz) (by omega) ⟨Nat.le_of_ble_eq_true rfl, Nat.le_of_ble_eq_true rfl⟩ dX1_init_7 ?_
  refine g_putRF ffX1_9 rfl rfl 0 (by first | exact ht | (simp (disch := omega) only [tg_nwA, im_nwA, rf_nwA, jm_nwA, tg_sI, im_sI, rf_sI, jm_sI, tg_sR, im_sR, rf_sR, jm_sR, u1_n, u1_s, u2_n, u2_s]; exact ht) | (simp (disch := omega) only [tg_nwA, im_nwA, rf_nwA, jm_nwA, tg_sI, im_sI, rf_sI, jm_sI, tg_sR, im_sR, rf_sR, jm_sR, u1_n, u1_s, u2_n, u2_s]; done)) dX1_init_9 ?_
  refine g_aload_n 0 dX1_init_12 rfl rfl ?_
  refine gN_iconst 0 dX1_init_13 (by decide) ?_
  refine gN_putI fwX1_15 rfl 0 (by first | exact ht | (simp (disch := omega) only [tg_nwA, im_nwA, rf_nwA, jm_nwA, tg_sI, im_sI, rf_sI, jm_sI, tg_sR, im_sR, rf_sR, jm_sR, u1_n, u1_s, u2_n, u2_s]; exact ht) | (simp (disch := omega) only [tg_nwA, im_nwA, rf_nwA, jm_nwA, tg_sI, im_sI, rf_sI, jm_sI, tg_sR, im_sR, rf_sR, jm_sR, u1_n, u1_s, u2_n, u2_s]; done)) dX1_init_14 ?_
  refine g_vret rfl dX1_init_17 ⟨Nat.le_of_ble_eq_true rfl, Nat.le_of_ble_eq_true rfl⟩ ?_
  exact ⟨rfl, rfl⟩
set_option maxRecDepth 100000 in
theorem lp_X2_init (g : Gp) {m0 : Mm} {H : Nat} (hS : tg m0 H = (2, 0)) (hr : rf m0 H 0 = some (H + 1)) (ha : tg m0 (H + 1) = (15, 6)) (hC : CsT g m0) (hg : g.2.1 < H ∧ g.2.2.1 < H ∧ g.2.2.2 < H) {Q : Rs → Mm → Prop} (K : ∀ m, fz m = H + 2 + 47 * 6 → Fx m0 m (H + 2) (H + 1) → (∀ p, p < 6 → rf m (H + 1) p = some (H + 2 + 47 * p) ∧ StT m (H + 2 + 47 * p)) → G g (MX2_init (283, 1578)) Q 50 [(1, .int (nI (6))), (0, .ref (H))] [] (1 + 47 * 6, 6 + 262 * 6) m) : ∀ j i : Nat, i + j = 6 → ∀ m, fz m = H + 2 + 47 * i → Fx m0 m (H + 2) (H + 1) → (∀ p, p < i → rf m (H + 1) p = some (H + 2 + 47 * p) ∧ StT m (H + 2 + 47 * p)) → G g (MX2_init (283, 1578)) Q 25 [(1, .int (nI (i))), (0, .ref (H))] [] (1 + 47 * i, 6 + 262 * i) m := by
  intro j
  induction j with
  | zero =>
    intro i hi m hz hx hp
    obtain rfl : i = 6 := hi
    refine g_iload_n 1 dX2_init_25 rfl rfl ?_
    refine gN_bipush 6 dX2_init_26 (by decide) ?_
    refine gN_icmp_ge 50 dX2_init_28 (by decide) (by first | omega | exact b01_lt _) (by first | omega | exact b01_lt _) (fun h_28 => ?_) (fun h_28 => ?_)
    · refine g_pick [0, 1] rfl ?_
      exact K m hz hx hp
    · exact absurd h_28 (by decide)
  | succ j ih =>
    intro i hi m hz hx hp
    obtain ⟨q, hq⟩ : ∃ q, q = H + 2 + 47 * i := ⟨_, rfl⟩
    refine g_iload_n 1 dX2_init_25 rfl rfl ?_
    refine gN_bipush 6 dX2_init_26 (by decide) ?_
    refine gN_icmp_ge 50 dX2_init_28 (by decide) (by first | omega | exact b01_lt _) (by first | omega | exact b01_lt _) (fun h_28 => ?_) (fun h_28 => ?_)
    · exfalso; omega
    · refine g_aload_n 0 dX2_init_31 rfl rfl ?_
      refine gN_getR (H + 1) flX2_11 (fun _ _ _ => rfl) 0 (by first | exact (hx H (by omega)).1.1.trans hS | (simp (disch := omega) only [tg_nwA, im_nwA, rf_nwA, jm_nwA, tg_sI, im_sI, rf_sI, jm_sI, tg_sR, im_sR, rf_sR, jm_sR, u1_n, u1_s, u2_n, u2_s]; exact (hx H (by omega)).1.1.trans hS) | (simp (disch := omega) only [tg_nwA, im_nwA, rf_nwA, jm_nwA, tg_sI, im_sI, rf_sI, jm_sI, tg_sR, im_sR, rf_sR, jm_sR, u1_n, u1_s, u2_n, u2_s]; done)) (by first | exact (congrFun ((hx H (by omega)).2 (by omega)) 0).trans hr | (simp (disch := omega) only [tg_nwA, im_nwA, rf_nwA, jm_nwA, tg_sI, im_sI, rf_sI, jm_sI, tg_sR, im_sR, rf_sR, jm_sR, u1_n, u1_s, u2_n, u2_s]; exact (congrFun ((hx H (by omega)).2 (by omega)) 0).trans hr) | (simp (disch := omega) only [tg_nwA, im_nwA, rf_nwA, jm_nwA, tg_sI, im_sI, rf_sI, jm_sI, tg_sR, im_sR, rf_sR, jm_sR, u1_n, u1_s, u2_n, u2_s]; done)) dX2_init_32 ?_
      refine g_iload_n 1 dX2_init_35 rfl rfl ?_
      refine g_newA (c := 6) (q) (hz.trans hq.symm) rfl klX2_9 ii_X6 iz_X6 (df_ok rfl) ⟨by show 1 + 47 * i + 1 ≤ 283; omega, by show 6 + 262 * i + 7 ≤ 1578; omega⟩ dX2_init_36 ?_
      refine g_dup dX2_init_39 rfl ?_
      refine g_callI _ _ (cn_X6_init g (m := nwA m q (6, 0)) (S := q) (u1_s _ _ _) rfl (hC.fr (n := H) hg (fun x hx1 => ⟨?_, ?_⟩)) ⟨by omega, by omega, by omega⟩) (ok_X6_init _) rfl rfl mlX2_24 in_X6_init rfl ⟨Nat.le_of_ble_eq_true rfl, Nat.le_of_ble_eq_true rfl⟩ (by exact Nat.le_of_ble_eq_true rfl) ⟨by show 1 + 47 * i + 1 + 46 ≤ 283; omega, by show 6 + 262 * i + 7 + 255 ≤ 1578; omega⟩ dX2_init_40 rfl (fun v m6 h6 => ?_) (fun E m6 h6 => by cases h6.1)
      · simp (disch := omega) only [tg_nwA, im_nwA, rf_nwA, jm_nwA, tg_sI, im_sI, rf_sI, jm_sI, tg_sR, im_sR, rf_sR, jm_sR, u1_n, u1_s, u2_n, u2_s]; exact (hx x (by omega)).1.1
      · simp (disch := omega) only [tg_nwA, im_nwA, rf_nwA, jm_nwA, tg_sI, im_sI, rf_sI, jm_sI, tg_sR, im_sR, rf_sR, jm_sR, u1_n, u1_s, u2_n, u2_s]; exact (hx x (by omega)).1.2.1
      obtain ⟨h60, hz6, hb6, hS6, _⟩ := h6
      cases h60
      have bq : ∀ x, x < q → tg m6 x = tg m x ∧ im m6 x = im m x ∧ rf m6 x = rf m x ∧ jm m6 x = jm m x := fun x hx1 => ⟨(hb6 x hx1).1.trans (u1_n _ _ _ (by omega)), (hb6 x hx1).2.1.trans (u1_n _ _ _ (by omega)), (hb6 x hx1).2.2.1.trans (u1_n _ _ _ (by omega)), (hb6 x hx1).2.2.2.trans (u1_n _ _ _ (by omega))⟩
      have tq : tg m6 q = (6, 0) := hS6.t
      have tA : tg m6 (H + 1) = (15, 6) := (bq _ (by omega)).1.trans ((hx _ (by omega)).1.1.trans ha)
      refine gN_aast 15 6 6 0 (tA) (by decide) (by first | omega | exact b01_lt _) (by first | omega | exact b01_lt _) (tq) rfl rfl dX2_init_43 ?_
      refine g_iinc 1 (nI (i + 1)) 0 [(1, .int (nI (i + 1))), (0, .ref (H))] dX2_init_44 rfl (nI_add i 1) (Nat.le_of_ble_eq_true rfl) rfl ?_
      refine g_goto 25 dX2_init_47 (by decide) ?_
      refine g_pick [0, 1] rfl ?_
      refine g_u (u2 := (1 + 47 * (i + 1), 6 + 262 * (i + 1))) (show ((_, _) : Nat × Nat) = (_, _) from Prod.ext (by show 1 + 47 * i + 1 + 46 = 1 + 47 * (i + 1); omega) (by show 6 + 262 * i + 7 + 255 = 6 + 262 * (i + 1); omega)) ?_
      refine ih (i + 1) (by omega) _ (by show fz m6 = _; omega) (fun x hx1 => ⟨⟨(bq x (by omega)).1.trans (hx x hx1).1.1, (bq x (by omega)).2.1.trans (hx x hx1).1.2.1, (bq x (by omega)).2.2.2.trans (hx x hx1).1.2.2⟩, fun hxa => (u2_o _ _ _ _ hxa).trans ((bq x (by omega)).2.2.1.trans ((hx x hx1).2 hxa))⟩) (fun p hp1 => ?_)
      by_cases e : p = i
      · subst e
        rw [← hq]
        exact ⟨u2_s _ _ _ _, hS6.fr (fun _ _ _ => rfl) (fun x h1 h2 _ => u2_o _ _ _ _ (by omega))⟩
      · have ho := hp p (by omega)
        exact ⟨(u2_n _ _ _ _ (by omega)).trans ((congrFun (bq _ (by omega)).2.2.1 p).trans ho.1), ho.2.fr (fun x h1 h2 => (bq x (by omega)).1) (fun x h1 h2 _ => (u2_o _ _ _ _ (by omega)).trans (bq x (by omega)).2.2.1)⟩
set_option maxRecDepth 100000 in
theorem cn_X2_init (g : Gp) {m : Mm} {H : Nat} (ht : tg m H = (2, 0)) (hfz : fz m = H + 1) (hC : CsT g m) (hg : g.2.1 < H ∧ g.2.2.1 < H ∧ g.2.2.2 < H) : Cn g (MX2_init (283, 1578)) [.ref H] m (fun r1 m1 => r1 = Sum.inl none ∧ fz m1 = H + 284 ∧ Bfr m m1 H ∧ HsT m1 H ∧ im m1 H 1 = nI 0 ∧ im m1 H 2 = nI 0) := by
  refine Cn.of pn_X2 (Nat.le_of_ble_eq_true rfl) rfl ?_
  refine g_aload_n 0 dX2_init_0 rfl rfl ?_
  refine g_objInit moX2_3 in_obj co_obj (Nat.le_of_ble_eq_true rfl) (by exact Nat.le_of_ble_eq_true rfl) dX2_init_1 ?_
  refine g_aload_n 0 dX2_init_4 rfl rfl ?_
  refine gN_bipush 6 dX2_init_5 (by decide) ?_
  refine g_newQA 15 (H + 1) 6 (by decide) (hfz) (by omega) ⟨Nat.le_of_ble_eq_true rfl, Nat.le_of_ble_eq_true rfl⟩ dX2_init_7 klX2_9 ao_X6 ?_
  refine g_putRF ffX2_11 rfl rfl 0 (by first | exact ht | (simp (disch := omega) only [tg_nwA, im_nwA, rf_nwA, jm_nwA, tg_sI, im_sI, rf_sI, jm_sI, tg_sR, im_sR, rf_sR, jm_sR, u1_n, u1_s, u2_n, u2_s]; exact ht) | (simp (disch := omega) only [tg_nwA, im_nwA, rf_nwA, jm_nwA, tg_sI, im_sI, rf_sI, jm_sI, tg_sR, im_sR, rf_sR, jm_sR, u1_n, u1_s, u2_n, u2_s]; done)) dX2_init_10 ?_
  refine g_aload_n 0 dX2_init_13 rfl rfl ?_
  refine gN_iconst 0 dX2_init_14 (by decide) ?_
  refine gN_putI fwX2_17 rfl 0 (by first | exact ht | (simp (disch := omega) only [tg_nwA, im_nwA, rf_nwA, jm_nwA, tg_sI, im_sI, rf_sI, jm_sI, tg_sR, im_sR, rf_sR, jm_sR, u1_n, u1_s, u2_n, u2_s]; exact ht) | (simp (disch := omega) only [tg_nwA, im_nwA, rf_nwA, jm_nwA, tg_sI, im_sI, rf_sI, jm_sI, tg_sR, im_sR, rf_sR, jm_sR, u1_n, u1_s, u2_n, u2_s]; done)) dX2_init_15 ?_
  refine g_aload_n 0 dX2_init_18 rfl rfl ?_
  refine gN_iconst 0 dX2_init_19 (by decide) ?_
  refine gN_putI fwX2_21 rfl 0 (by first | exact ht | (simp (disch := omega) only [tg_nwA, im_nwA, rf_nwA, jm_nwA, tg_sI, im_sI, rf_sI, jm_sI, tg_sR, im_sR, rf_sR, jm_sR, u1_n, u1_s, u2_n, u2_s]; exact ht) | (simp (disch := omega) only [tg_nwA, im_nwA, rf_nwA, jm_nwA, tg_sI, im_sI, rf_sI, jm_sI, tg_sR, im_sR, rf_sR, jm_sR, u1_n, u1_s, u2_n, u2_s]; done)) dX2_init_20 ?_
  refine gN_iconst 0 dX2_init_23 (by decide) ?_
  refine g_istore_n 1 [(1, .int (nI (0))), (0, .ref (H))] dX2_init_24 rfl (Nat.le_of_ble_eq_true rfl) rfl ?_
  refine g_pick [0, 1] rfl ?_
  generalize hm0 : sI (sI (sR (nwA m (H + 1) (15, 6)) H 0 (some (H + 1))) H 1 (nI 0)) H 2 (nI 0) = m0
  have b0 : Bfr m m0 H := fun x hx1 => by rw [← hm0]; exact ⟨by simp (disch := omega) only [tg_nwA, im_nwA, rf_nwA, jm_nwA, tg_sI, im_sI, rf_sI, jm_sI, tg_sR, im_sR, rf_sR, jm_sR, u1_n, u1_s, u2_n, u2_s], by funext y; simp (disch := omega) only [tg_nwA, im_nwA, rf_nwA, jm_nwA, tg_sI, im_sI, rf_sI, jm_sI, tg_sR, im_sR, rf_sR, jm_sR, u1_n, u1_s, u2_n, u2_s], by funext y; simp (disch := omega) only [tg_nwA, im_nwA, rf_nwA, jm_nwA, tg_sI, im_sI, rf_sI, jm_sI, tg_sR, im_sR, rf_sR, jm_sR, u1_n, u1_s, u2_n, u2_s], by simp (disch := omega) only [tg_nwA, im_nwA, rf_nwA, jm_nwA, tg_sI, im_sI, rf_sI, jm_sI, tg_sR, im_sR, rf_sR, jm_sR, u1_n, u1_s, u2_n, u2_s]⟩
  have t0 : tg m0 H = (2, 0) := by rw [← hm0]; simp (disch := omega) only [tg_nwA, im_nwA, rf_nwA, jm_nwA, tg_sI, im_sI, rf_sI, jm_sI, tg_sR, im_sR, rf_sR, jm_sR, u1_n, u1_s, u2_n, u2_s]; exact ht
  have t1 : tg m0 (H + 1) = (15, 6) := by rw [← hm0]; simp (disch := omega) only [tg_nwA, im_nwA, rf_nwA, jm_nwA, tg_sI, im_sI, rf_sI, jm_sI, tg_sR, im_sR, rf_sR, jm_sR, u1_n, u1_s, u2_n, u2_s]
  have r0 : rf m0 H 0 = some (H + 1) := by rw [← hm0]; simp (disch := omega) only [tg_nwA, im_nwA, rf_nwA, jm_nwA, tg_sI, im_sI, rf_sI, jm_sI, tg_sR, im_sR, rf_sR, jm_sR, u1_n, u1_s, u2_n, u2_s]
  have i1 : im m0 H 1 = nI 0 := by rw [← hm0]; simp (disch := omega) only [tg_nwA, im_nwA, rf_nwA, jm_nwA, tg_sI, im_sI, rf_sI, jm_sI, tg_sR, im_sR, rf_sR, jm_sR, u1_n, u1_s, u2_n, u2_s]
  have i2 : im m0 H 2 = nI 0 := by rw [← hm0]; simp (disch := omega) only [tg_nwA, im_nwA, rf_nwA, jm_nwA, tg_sI, im_sI, rf_sI, jm_sI, tg_sR, im_sR, rf_sR, jm_sR, u1_n, u1_s, u2_n, u2_s]
  have z0 : fz m0 = H + 2 := by rw [← hm0]; rfl
  clear hm0
  refine g_u (u2 := (1 + 47 * 0, 6 + 262 * 0)) rfl ?_
  refine lp_X2_init g t0 r0 t1 (hC.fr (n := H) hg (fun x hx1 => ⟨(b0 x hx1).1, (b0 x hx1).2.1⟩)) hg (fun m6 hz6 hx6 hp6 => ?_) 6 0 rfl m0 z0 (Fx.rfl' _ _ _) (fun p hp => absurd hp (Nat.not_lt_zero _))
  refine g_vret rfl dX2_init_50 ⟨Nat.le_of_ble_eq_true rfl, Nat.le_of_ble_eq_true rfl⟩ ?_
  refine ⟨rfl, hz6, fun x hx1 => ⟨(hx6 x (by omega)).1.1.trans (b0 x hx1).1, (hx6 x (by omega)).1.2.1.trans (b0 x hx1).2.1, ((hx6 x (by omega)).2 (by omega)).trans (b0 x hx1).2.2.1, (hx6 x (by omega)).1.2.2.trans (b0 x hx1).2.2.2⟩, ⟨⟨(hx6 H (by omega)).1.1.trans t0, (congrFun ((hx6 H (by omega)).2 (by omega)) 0).trans r0, (hx6 (H + 1) (by omega)).1.1.trans t1⟩, hp6⟩, (congrFun (hx6 H (by omega)).1.2.1 1).trans i1, (congrFun (hx6 H (by omega)).1.2.1 2).trans i2⟩
set_option maxRecDepth 100000 in
theorem cn_X9_init (g : Gp) {m : Mm} {d : Nat} (ht : tg m d = (9, 0)) (hfz : fz m = d + 1) (hC : CsT g m) (hg : g.2.1 < d ∧ g.2.2.1 < d ∧ g.2.2.2 < d) : Cn g (MX9_init (333, 1905)) [.ref d] m (fun r1 m1 => r1 = Sum.inl none ∧ fz m1 = d + 334 ∧ Bfr m m1 d ∧ ∀ B c z rows f, d + 344 ≤ B → Z0 z → DkV m1 d B c 0 0 z rows f) := by
  refine Cn.of pn_X9 (Nat.le_of_ble_eq_true rfl) rfl ?_
  refine g_aload_n 0 dX9_init_0 rfl rfl ?_
  refine g_objInit moX9_1 in_obj co_obj (Nat.le_of_ble_eq_true rfl) (by exact Nat.le_of_ble_eq_true rfl) dX9_init_1 ?_
  refine g_aload_n 0 dX9_init_4 rfl rfl ?_
  refine g_newA (c := 6) (d + 1) (hfz) rfl klX9_7 ii_X6 iz_X6 (df_ok rfl) ⟨Nat.le_of_ble_eq_true rfl, Nat.le_of_ble_eq_true rfl⟩ dX9_init_5 ?_
  refine g_dup dX9_init_8 rfl ?_
  refine g_callI _ _ (cn_X6_init g (m := nwA m (d + 1) (6, 0)) (S := d + 1) (u1_s _ _ _) rfl (hC.fr (n := d) hg (fun x hx1 => ⟨?_, ?_⟩)) ⟨by omega, by omega, by omega⟩) (ok_X6_init _) rfl rfl mlX9_9 in_X6_init rfl ⟨Nat.le_of_ble_eq_true rfl, Nat.le_of_ble_eq_true rfl⟩ (by exact Nat.le_of_ble_eq_true rfl) ⟨Nat.le_of_ble_eq_true rfl, Nat.le_of_ble_eq_true rfl⟩ dX9_init_9 rfl (fun v m6 h6 => ?_) (fun E m6 h6 => by cases h6.1)
  · simp (disch := omega) only [tg_nwA, im_nwA, rf_nwA, jm_nwA, tg_sI, im_sI, rf_sI, jm_sI, tg_sR, im_sR, rf_sR, jm_sR, u1_n, u1_s, u2_n, u2_s]
  · simp (disch := omega) only [tg_nwA, im_nwA, rf_nwA, jm_nwA, tg_sI, im_sI, rf_sI, jm_sI, tg_sR, im_sR, rf_sR, jm_sR, u1_n, u1_s, u2_n, u2_s]
  obtain ⟨h60, hz6, hb6, hS6, hR6⟩ := h6
  cases h60
  have bq : Bfr m m6 (d + 1) := fun x hx1 => ⟨(hb6 x hx1).1.trans (u1_n _ _ _ (by omega)), (hb6 x hx1).2.1.trans (u1_n _ _ _ (by omega)), (hb6 x hx1).2.2.1.trans (u1_n _ _ _ (by omega)), (hb6 x hx1).2.2.2.trans (u1_n _ _ _ (by omega))⟩
  have t6 : tg m6 d = (9, 0) := (bq d (by omega)).1.trans ht
  refine g_putRF ffX9_10 rfl rfl 0 (by first | exact ht | exact t6 | exact t7 | (simp (disch := omega) only [tg_nwA, im_nwA, rf_nwA, jm_nwA, tg_sI, im_sI, rf_sI, jm_sI, tg_sR, im_sR, rf_sR, jm_sR, u1_n, u1_s, u2_n, u2_s]; exact t7)) dX9_init_12 ?_
  refine g_aload_n 0 dX9_init_15 rfl rfl ?_
  refine g_newA (c := 2) (d + 48) (hz6) rfl klX9_16 ii_X2 iz_X2 (df_ok rfl) ⟨Nat.le_of_ble_eq_true rfl, Nat.le_of_ble_eq_true rfl⟩ dX9_init_16 ?_
  refine g_dup dX9_init_19 rfl ?_
  refine g_callI _ _ (cn_X2_init g (m := (nwA (sR m6 d 0 (some (d + 1))) (d + 48) (2, 0))) (H := d + 48) (u1_s _ _ _) rfl (hC.fr (n := d) hg (fun x hx1 => ⟨?_, ?_⟩)) ⟨by omega, by omega, by omega⟩) (ok_X2_init _) rfl rfl mlX9_18 in_X2_init rfl ⟨Nat.le_of_ble_eq_true rfl, Nat.le_of_ble_eq_true rfl⟩ (by exact Nat.le_of_ble_eq_true rfl) ⟨Nat.le_of_ble_eq_true rfl, Nat.le_of_ble_eq_true rfl⟩ dX9_init_20 rfl (fun v m7 h7 => ?_) (fun E m7 h7 => by cases h7.1)
  · simp (disch := omega) only [tg_nwA, im_nwA, rf_nwA, jm_nwA, tg_sI, im_sI, rf_sI, jm_sI, tg_sR, im_sR, rf_sR, jm_sR, u1_n, u1_s, u2_n, u2_s]; exact (bq x (by omega)).1
  · simp (disch := omega) only [tg_nwA, im_nwA, rf_nwA, jm_nwA, tg_sI, im_sI, rf_sI, jm_sI, tg_sR, im_sR, rf_sR, jm_sR, u1_n, u1_s, u2_n, u2_s]; exact (bq x (by omega)).2.1
  obtain ⟨h70, hz7, hb7, hH7, i71, i72⟩ := h7
  cases h70
  have b7t : ∀ x, x < d + 48 → tg m7 x = tg m6 x ∧ im m7 x = im m6 x ∧ jm m7 x = jm m6 x := fun x hx1 => ⟨(hb7 x hx1).1.trans (by simp (disch := omega) only [tg_nwA, im_nwA, rf_nwA, jm_nwA, tg_sI, im_sI, rf_sI, jm_sI, tg_sR, im_sR, rf_sR, jm_sR, u1_n, u1_s, u2_n, u2_s]), (hb7 x hx1).2.1.trans (by simp (disch := omega) only [tg_nwA, im_nwA, rf_nwA, jm_nwA, tg_sI, im_sI, rf_sI, jm_sI, tg_sR, im_sR, rf_sR, jm_sR, u1_n, u1_s, u2_n, u2_s]), (hb7 x hx1).2.2.2.trans (by simp (disch := omega) only [tg_nwA, im_nwA, rf_nwA, jm_nwA, tg_sI, im_sI, rf_sI, jm_sI, tg_sR, im_sR, rf_sR, jm_sR, u1_n, u1_s, u2_n, u2_s])⟩
  have b7r : ∀ x, x < d + 48 → x ≠ d → rf m7 x = rf m6 x := fun x hx1 hxd => (hb7 x hx1).2.2.1.trans ((u1_n _ _ _ (by omega)).trans (u2_o _ _ _ _ hxd))
  have t7 : tg m7 d = (9, 0) := (b7t d (by omega)).1.trans t6
  have r70 : rf m7 d 0 = some (d + 1) := (congrFun (hb7 d (by omega)).2.2.1 0).trans (by simp (disch := omega) only [tg_nwA, im_nwA, rf_nwA, jm_nwA, tg_sI, im_sI, rf_sI, jm_sI, tg_sR, im_sR, rf_sR, jm_sR, u1_n, u1_s, u2_n, u2_s])
  refine g_putRF ffX9_19 rfl rfl 0 (by first | exact ht | exact t6 | exact t7 | (simp (disch := omega) only [tg_nwA, im_nwA, rf_nwA, jm_nwA, tg_sI, im_sI, rf_sI, jm_sI, tg_sR, im_sR, rf_sR, jm_sR, u1_n, u1_s, u2_n, u2_s]; exact t7)) dX9_init_23 ?_
  refine g_aload_n 0 dX9_init_26 rfl rfl ?_
  refine g_newA (c := 1) (d + 332) (hz7) rfl klX9_23 ii_X1 iz_X1 (df_ok rfl) ⟨Nat.le_of_ble_eq_true rfl, Nat.le_of_ble_eq_true rfl⟩ dX9_init_27 ?_
  refine g_dup dX9_init_30 rfl ?_
  refine g_callIN _ _ (cn_X1_init g (0, 0) (m := nwA (sR m7 d 1 (some (d + 48))) (d + 332) (1, 0)) (q := d + 332) (u1_s _ _ _) rfl) (ok_X1_init _) rfl rfl mlX9_25 in_X1_init rfl ⟨Nat.le_of_ble_eq_true rfl, Nat.le_of_ble_eq_true rfl⟩ (by exact Nat.le_of_ble_eq_true rfl) ⟨Nat.le_of_ble_eq_true rfl, Nat.le_of_ble_eq_true rfl⟩ dX9_init_31 rfl (fun v m4 h4 => ?_) (fun E m4 h4 => by cases h4.1)
  obtain ⟨h40, rfl⟩ := h4; cases h40
  refine g_putRF ffX9_26 rfl rfl 0 (by first | exact ht | exact t6 | exact t7 | (simp (disch := omega) only [tg_nwA, im_nwA, rf_nwA, jm_nwA, tg_sI, im_sI, rf_sI, jm_sI, tg_sR, im_sR, rf_sR, jm_sR, u1_n, u1_s, u2_n, u2_s]; exact t7)) dX9_init_34 ?_
  refine g_vret rfl dX9_init_37 ⟨Nat.le_of_ble_eq_true rfl, Nat.le_of_ble_eq_true rfl⟩ ?_
  generalize hmF : sR (sI (sR (nwA (nwA (sR m7 d 1 (some (d + 48))) (d + 332) (1, 0)) (d + 333) (11, 60)) (d + 332) 0 (some (d + 333))) (d + 332) 1 (nI 0)) d 2 (some (d + 332)) = mF
  have zF : fz mF = d + 334 := by rw [← hmF]; rfl
  have bt : ∀ x, x < d + 332 → tg mF x = tg m7 x ∧ im mF x = im m7 x ∧ jm mF x = jm m7 x := fun x hx => by rw [← hmF]; exact ⟨by simp (disch := omega) only [tg_nwA, im_nwA, rf_nwA, jm_nwA, tg_sI, im_sI, rf_sI, jm_sI, tg_sR, im_sR, rf_sR, jm_sR, u1_n, u1_s, u2_n, u2_s], by funext y; simp (disch := omega) only [tg_nwA, im_nwA, rf_nwA, jm_nwA, tg_sI, im_sI, rf_sI, jm_sI, tg_sR, im_sR, rf_sR, jm_sR, u1_n, u1_s, u2_n, u2_s], by simp (disch := omega) only [tg_nwA, im_nwA, rf_nwA, jm_nwA, tg_sI, im_sI, rf_sI, jm_sI, tg_sR, im_sR, rf_sR, jm_sR, u1_n, u1_s, u2_n, u2_s]⟩
  have br : ∀ x, x < d + 332 → x ≠ d → rf mF x = rf m7 x := fun x hx hxd => by rw [← hmF]; funext y; simp (disch := omega) only [tg_nwA, im_nwA, rf_nwA, jm_nwA, tg_sI, im_sI, rf_sI, jm_sI, tg_sR, im_sR, rf_sR, jm_sR, u1_n, u1_s, u2_n, u2_s]
  have rF0 : rf mF d 0 = some (d + 1) := by rw [← hmF]; simp (disch := omega) only [tg_nwA, im_nwA, rf_nwA, jm_nwA, tg_sI, im_sI, rf_sI, jm_sI, tg_sR, im_sR, rf_sR, jm_sR, u1_n, u1_s, u2_n, u2_s]; exact r70
  have rF1 : rf mF d 1 = some (d + 48) := by rw [← hmF]; simp (disch := omega) only [tg_nwA, im_nwA, rf_nwA, jm_nwA, tg_sI, im_sI, rf_sI, jm_sI, tg_sR, im_sR, rf_sR, jm_sR, u1_n, u1_s, u2_n, u2_s]
  have rF2 : rf mF d 2 = some (d + 332) := by rw [← hmF]; simp (disch := omega) only [tg_nwA, im_nwA, rf_nwA, jm_nwA, tg_sI, im_sI, rf_sI, jm_sI, tg_sR, im_sR, rf_sR, jm_sR, u1_n, u1_s, u2_n, u2_s]
  have tb : tg mF (d + 332) = (1, 0) := by rw [← hmF]; simp (disch := omega) only [tg_nwA, im_nwA, rf_nwA, jm_nwA, tg_sI, im_sI, rf_sI, jm_sI, tg_sR, im_sR, rf_sR, jm_sR, u1_n, u1_s, u2_n, u2_s]
  have tc : tg mF (d + 333) = (11, 60) := by rw [← hmF]; simp (disch := omega) only [tg_nwA, im_nwA, rf_nwA, jm_nwA, tg_sI, im_sI, rf_sI, jm_sI, tg_sR, im_sR, rf_sR, jm_sR, u1_n, u1_s, u2_n, u2_s]
  have rb : rf mF (d + 332) 0 = some (d + 333) := by rw [← hmF]; simp (disch := omega) only [tg_nwA, im_nwA, rf_nwA, jm_nwA, tg_sI, im_sI, rf_sI, jm_sI, tg_sR, im_sR, rf_sR, jm_sR, u1_n, u1_s, u2_n, u2_s]
  have lb : im mF (d + 332) 1 = nI 0 := by rw [← hmF]; simp (disch := omega) only [tg_nwA, im_nwA, rf_nwA, jm_nwA, tg_sI, im_sI, rf_sI, jm_sI, tg_sR, im_sR, rf_sR, jm_sR, u1_n, u1_s, u2_n, u2_s]
  clear hmF
  refine ⟨rfl, zF, fun x hx => ⟨(bt x (by omega)).1.trans ((b7t x (by omega)).1.trans (bq x (by omega)).1), (bt x (by omega)).2.1.trans ((b7t x (by omega)).2.1.trans (bq x (by omega)).2.1), (br x (by omega) (by omega)).trans ((b7r x (by omega) (by omega)).trans (bq x (by omega)).2.2.1), (bt x (by omega)).2.2.trans ((b7t x (by omega)).2.2.trans (bq x (by omega)).2.2.2)⟩, fun B c z rows f hB hz => ?_⟩
  refine ⟨⟨⟨⟨(bt d (by omega)).1.trans t7, rF0, rF1, rF2⟩, tb, rb, tc⟩, ?_, ?_⟩, ?_, ⟨0, ⟨by omega, ?_, ?_, by omega⟩, fun i hi => absurd hi (Nat.not_lt_zero _)⟩, lb, by omega, fun e he => absurd he (Nat.not_lt_zero _)⟩
  · exact hS6.fr (fun x h1 h2 => (bt x (by omega)).1.trans (b7t x (by omega)).1) (fun x h1 h2 _ => (br x (by omega) (by omega)).trans (b7r x (by omega) (by omega)))
  · exact hH7.fr (fun x h1 h2 => ⟨(bt x (by omega)).1, (bt x (by omega)).2.1, br x (by omega) (by omega)⟩)
  · exact (hR6 B z hz).fr (by rw [hz.1.1]; decide) (fun x h1 h2 => ⟨(bt x (by omega)).2.1.trans (b7t x (by omega)).2.1, (br x (by omega) (by omega)).trans (b7r x (by omega) (by omega))⟩) (by omega) (fun x h1 h2 => by omega)
  · exact (congrFun (bt _ (by omega)).2.1 1).trans i71
  · exact (congrFun (bt _ (by omega)).2.1 2).trans i72
def za : Nat → Nat → Int32
  | 0 => u1 (u1 (fun _ => nI 0) 2 (nI 30)) 3 (nI 50)
  | i + 1 => u1 (za i) (4 + 5 * i) (nI 10)
def zb : Nat → Nat → Int32
  | 0 => za 4
  | i + 1 => u1 (zb i) (24 + i) (-1)
def zc : Nat → Int32 := u1 (u1 (u1 (u1 (u1 (zb 40) 64 (nI 10)) 67 (nI 30)) 70 (nI 60)) 73 (nI 80)) 76 (nI 100)
theorem zc_0 : Z0 zc := by
  unfold Z0
  refine ⟨by decide +kernel, by decide +kernel, by decide +kernel, by decide +kernel, by decide +kernel⟩
set_option maxRecDepth 100000 in
theorem lp_X10_inita (g : Gp) {mA : Mm} {a : Nat} (hM : MdOk mA a) {Q : Rs → Mm → Prop} (K : G g (MX10_init (8, 5796)) Q 113 [(1, .int (nI (4))), (0, .ref (a))] [] (8, 5796) (wI mA (rz (im mA) (a + 1) (za 4)))) : ∀ j i : Nat, i + j = 4 → G g (MX10_init (8, 5796)) Q 90 [(1, .int (nI (i))), (0, .ref (a))] [] (8, 5796) (wI mA (rz (im mA) (a + 1) (za i))) := by
  intro j
  induction j with
  | zero =>
    intro i hi
    obtain rfl : i = 4 := hi
    refine g_iload_n 1 dX10_init_90 rfl rfl ?_
    refine gN_iconst 4 dX10_init_91 (by decide) ?_
    refine gN_icmp_ge 113 dX10_init_92 (by decide) (by first | omega | exact b01_lt _) (by first | omega | exact b01_lt _) (fun h_92 => ?_) (fun h_92 => ?_)
    · refine g_pick [0, 1] rfl ?_
      exact K
    · exact absurd h_92 (by decide)
  | succ j ih =>
    intro i hi
    refine g_iload_n 1 dX10_init_90 rfl rfl ?_
    refine gN_iconst 4 dX10_init_91 (by decide) ?_
    refine gN_icmp_ge 113 dX10_init_92 (by decide) (by first | omega | exact b01_lt _) (by first | omega | exact b01_lt _) (fun h_92 => ?_) (fun h_92 => ?_)
    · exfalso; omega
    · refine g_aload_n 0 dX10_init_95 rfl rfl ?_
      refine gN_getR (a + 1) flX10_7 (fun _ _ _ => rfl) 0 (hM.t) (hM.2.1) dX10_init_96 ?_
      refine gN_iconst 4 dX10_init_99 (by decide) ?_
      refine gN_iconst 5 dX10_init_100 (by decide) ?_
      refine g_iload_n 1 dX10_init_101 rfl rfl ?_
      refine gN_imul (5 * i) dX10_init_102 rfl ?_
      refine gN_iadd (4 + (5 * i)) dX10_init_103 rfl ?_
      refine gN_bipush 10 dX10_init_104 (by decide) ?_
      refine gN_iast 689 (hM.t1) (by first | omega | exact b01_lt _) (by first | omega | exact b01_lt _) dX10_init_106 ?_
      refine g_iinc 1 (nI (i + 1)) 0 [(1, .int (nI (i + 1))), (0, .ref (a))] dX10_init_107 rfl (nI_add i 1) (Nat.le_of_ble_eq_true rfl) rfl ?_
      refine g_goto 90 dX10_init_110 (by decide) ?_
      refine g_mem (m1 := (wI mA (rz (im mA) (a + 1) (za (i + 1))))) (by show wI mA (u2 (rz (im mA) (a + 1) (za i)) (a + 1) _ _) = _; rw [rz_u]; rfl) ?_
      refine g_pick [0, 1] rfl ?_
      exact ih (i + 1) (by omega)
set_option maxRecDepth 100000 in
theorem lp_X10_initb (g : Gp) {mA : Mm} {a : Nat} (hM : MdOk mA a) {Q : Rs → Mm → Prop} (K : G g (MX10_init (8, 5796)) Q 137 [(1, .int (nI (40))), (0, .ref (a))] [] (8, 5796) (wI mA (rz (im mA) (a + 1) (zb 40)))) : ∀ j i : Nat, i + j = 40 → G g (MX10_init (8, 5796)) Q 115 [(1, .int (nI (i))), (0, .ref (a))] [] (8, 5796) (wI mA (rz (im mA) (a + 1) (zb i))) := by
  intro j
  induction j with
  | zero =>
    intro i hi
    obtain rfl : i = 40 := hi
    refine g_iload_n 1 dX10_init_115 rfl rfl ?_
    refine gN_bipush 40 dX10_init_116 (by decide) ?_
    refine gN_icmp_ge 137 dX10_init_118 (by decide) (by first | omega | exact b01_lt _) (by first | omega | exact b01_lt _) (fun h_118 => ?_) (fun h_118 => ?_)
    · refine g_pick [0, 1] rfl ?_
      exact K
    · exact absurd h_118 (by decide)
  | succ j ih =>
    intro i hi
    refine g_iload_n 1 dX10_init_115 rfl rfl ?_
    refine gN_bipush 40 dX10_init_116 (by decide) ?_
    refine gN_icmp_ge 137 dX10_init_118 (by decide) (by first | omega | exact b01_lt _) (by first | omega | exact b01_lt _) (fun h_118 => ?_) (fun h_118 => ?_)
    · exfalso; omega
    · refine g_aload_n 0 dX10_init_121 rfl rfl ?_
      refine gN_getR (a + 1) flX10_7 (fun _ _ _ => rfl) 0 (hM.t) (hM.2.1) dX10_init_122 ?_
      refine gN_bipush 24 dX10_init_125 (by decide) ?_
      refine g_iload_n 1 dX10_init_127 rfl rfl ?_
      refine gN_iadd (24 + i) dX10_init_128 rfl ?_
      refine g_iconst (-1) dX10_init_129 (by decide) ?_
      refine gN_iast 689 (hM.t1) (by first | omega | exact b01_lt _) (by first | omega | exact b01_lt _) dX10_init_130 ?_
      refine g_iinc 1 (nI (i + 1)) 0 [(1, .int (nI (i + 1))), (0, .ref (a))] dX10_init_131 rfl (nI_add i 1) (Nat.le_of_ble_eq_true rfl) rfl ?_
      refine g_goto 115 dX10_init_134 (by decide) ?_
      refine g_mem (m1 := (wI mA (rz (im mA) (a + 1) (zb (i + 1))))) (by show wI mA (u2 (rz (im mA) (a + 1) (zb i)) (a + 1) _ _) = _; rw [rz_u]; rfl) ?_
      refine g_pick [0, 1] rfl ?_
      exact ih (i + 1) (by omega)
set_option maxRecDepth 100000 in
theorem cn_X10_init (g : Gp) {m : Mm} {a : Nat} (ht : tg m a = (10, 0)) (hfz : fz m = a + 1) : Cn g (MX10_init (8, 5796)) [.ref a] m (fun r1 m1 => r1 = Sum.inl none ∧ fz m1 = a + 9 ∧ Bfr m m1 a ∧ MdOk m1 a ∧ im m1 a = im m a ∧ Z0 (im m1 (a + 1))) := by
  refine Cn.of pn_X10 (Nat.le_of_ble_eq_true rfl) rfl ?_
  refine g_aload_n 0 dX10_init_0 rfl rfl ?_
  refine g_objInit moX10_1 in_obj co_obj (Nat.le_of_ble_eq_true rfl) (by exact Nat.le_of_ble_eq_true rfl) dX10_init_1 ?_
  refine g_aload_n 0 dX10_init_4 rfl rfl ?_
  refine gN_sipush 689 dX10_init_5 (by decide) ?_
  refine g_newIA (a + 1) 689 (hfz) (by omega) ⟨Nat.le_of_ble_eq_true rfl, Nat.le_of_ble_eq_true rfl⟩ dX10_init_8 ?_
  refine g_putRF ffX10_7 rfl rfl 0 (by first | exact ht | (simp (disch := omega) only [tg_nwA, im_nwA, rf_nwA, jm_nwA, tg_sI, im_sI, rf_sI, jm_sI, tg_sR, im_sR, rf_sR, jm_sR, u1_n, u1_s, u2_n, u2_s]; exact ht) | (simp (disch := omega) only [tg_nwA, im_nwA, rf_nwA, jm_nwA, tg_sI, im_sI, rf_sI, jm_sI, tg_sR, im_sR, rf_sR, jm_sR, u1_n, u1_s, u2_n, u2_s]; done)) dX10_init_10 ?_
  refine g_aload_n 0 dX10_init_13 rfl rfl ?_
  refine gN_sipush 4134 dX10_init_14 (by decide) ?_
  refine g_newIA (a + 2) 4134 (rfl) (by omega) ⟨Nat.le_of_ble_eq_true rfl, Nat.le_of_ble_eq_true rfl⟩ dX10_init_17 ?_
  refine g_putRF ffX10_13 rfl rfl 0 (by first | exact ht | (simp (disch := omega) only [tg_nwA, im_nwA, rf_nwA, jm_nwA, tg_sI, im_sI, rf_sI, jm_sI, tg_sR, im_sR, rf_sR, jm_sR, u1_n, u1_s, u2_n, u2_s]; exact ht) | (simp (disch := omega) only [tg_nwA, im_nwA, rf_nwA, jm_nwA, tg_sI, im_sI, rf_sI, jm_sI, tg_sR, im_sR, rf_sR, jm_sR, u1_n, u1_s, u2_n, u2_s]; done)) dX10_init_19 ?_
  refine g_aload_n 0 dX10_init_22 rfl rfl ?_
  refine gN_sipush 689 dX10_init_23 (by decide) ?_
  refine g_newIA (a + 3) 689 (rfl) (by omega) ⟨Nat.le_of_ble_eq_true rfl, Nat.le_of_ble_eq_true rfl⟩ dX10_init_26 ?_
  refine g_putRF ffX10_16 rfl rfl 0 (by first | exact ht | (simp (disch := omega) only [tg_nwA, im_nwA, rf_nwA, jm_nwA, tg_sI, im_sI, rf_sI, jm_sI, tg_sR, im_sR, rf_sR, jm_sR, u1_n, u1_s, u2_n, u2_s]; exact ht) | (simp (disch := omega) only [tg_nwA, im_nwA, rf_nwA, jm_nwA, tg_sI, im_sI, rf_sI, jm_sI, tg_sR, im_sR, rf_sR, jm_sR, u1_n, u1_s, u2_n, u2_s]; done)) dX10_init_28 ?_
  refine g_aload_n 0 dX10_init_31 rfl rfl ?_
  refine gN_bipush 60 dX10_init_32 (by decide) ?_
  refine g_newIA (a + 4) 60 (rfl) (by omega) ⟨Nat.le_of_ble_eq_true rfl, Nat.le_of_ble_eq_true rfl⟩ dX10_init_34 ?_
  refine g_putRF ffX10_19 rfl rfl 0 (by first | exact ht | (simp (disch := omega) only [tg_nwA, im_nwA, rf_nwA, jm_nwA, tg_sI, im_sI, rf_sI, jm_sI, tg_sR, im_sR, rf_sR, jm_sR, u1_n, u1_s, u2_n, u2_s]; exact ht) | (simp (disch := omega) only [tg_nwA, im_nwA, rf_nwA, jm_nwA, tg_sI, im_sI, rf_sI, jm_sI, tg_sR, im_sR, rf_sR, jm_sR, u1_n, u1_s, u2_n, u2_s]; done)) dX10_init_36 ?_
  refine g_aload_n 0 dX10_init_39 rfl rfl ?_
  refine gN_bipush 12 dX10_init_40 (by decide) ?_
  refine g_newIA (a + 5) 12 (rfl) (by omega) ⟨Nat.le_of_ble_eq_true rfl, Nat.le_of_ble_eq_true rfl⟩ dX10_init_42 ?_
  refine g_putRF ffX10_22 rfl rfl 0 (by first | exact ht | (simp (disch := omega) only [tg_nwA, im_nwA, rf_nwA, jm_nwA, tg_sI, im_sI, rf_sI, jm_sI, tg_sR, im_sR, rf_sR, jm_sR, u1_n, u1_s, u2_n, u2_s]; exact ht) | (simp (disch := omega) only [tg_nwA, im_nwA, rf_nwA, jm_nwA, tg_sI, im_sI, rf_sI, jm_sI, tg_sR, im_sR, rf_sR, jm_sR, u1_n, u1_s, u2_n, u2_s]; done)) dX10_init_44 ?_
  refine g_aload_n 0 dX10_init_47 rfl rfl ?_
  refine gN_bipush 12 dX10_init_48 (by decide) ?_
  refine g_newIA (a + 6) 12 (rfl) (by omega) ⟨Nat.le_of_ble_eq_true rfl, Nat.le_of_ble_eq_true rfl⟩ dX10_init_50 ?_
  refine g_putRF ffX10_25 rfl rfl 0 (by first | exact ht | (simp (disch := omega) only [tg_nwA, im_nwA, rf_nwA, jm_nwA, tg_sI, im_sI, rf_sI, jm_sI, tg_sR, im_sR, rf_sR, jm_sR, u1_n, u1_s, u2_n, u2_s]; exact ht) | (simp (disch := omega) only [tg_nwA, im_nwA, rf_nwA, jm_nwA, tg_sI, im_sI, rf_sI, jm_sI, tg_sR, im_sR, rf_sR, jm_sR, u1_n, u1_s, u2_n, u2_s]; done)) dX10_init_52 ?_
  refine g_aload_n 0 dX10_init_55 rfl rfl ?_
  refine gN_sipush 169 dX10_init_56 (by decide) ?_
  refine g_newIA (a + 7) 169 (rfl) (by omega) ⟨Nat.le_of_ble_eq_true rfl, Nat.le_of_ble_eq_true rfl⟩ dX10_init_59 ?_
  refine g_putRF ffX10_28 rfl rfl 0 (by first | exact ht | (simp (disch := omega) only [tg_nwA, im_nwA, rf_nwA, jm_nwA, tg_sI, im_sI, rf_sI, jm_sI, tg_sR, im_sR, rf_sR, jm_sR, u1_n, u1_s, u2_n, u2_s]; exact ht) | (simp (disch := omega) only [tg_nwA, im_nwA, rf_nwA, jm_nwA, tg_sI, im_sI, rf_sI, jm_sI, tg_sR, im_sR, rf_sR, jm_sR, u1_n, u1_s, u2_n, u2_s]; done)) dX10_init_61 ?_
  refine g_aload_n 0 dX10_init_64 rfl rfl ?_
  refine gN_bipush 31 dX10_init_65 (by decide) ?_
  refine g_newIA (a + 8) 31 (rfl) (by omega) ⟨Nat.le_of_ble_eq_true rfl, Nat.le_of_ble_eq_true rfl⟩ dX10_init_67 ?_
  refine g_putRF ffX10_31 rfl rfl 0 (by first | exact ht | (simp (disch := omega) only [tg_nwA, im_nwA, rf_nwA, jm_nwA, tg_sI, im_sI, rf_sI, jm_sI, tg_sR, im_sR, rf_sR, jm_sR, u1_n, u1_s, u2_n, u2_s]; exact ht) | (simp (disch := omega) only [tg_nwA, im_nwA, rf_nwA, jm_nwA, tg_sI, im_sI, rf_sI, jm_sI, tg_sR, im_sR, rf_sR, jm_sR, u1_n, u1_s, u2_n, u2_s]; done)) dX10_init_69 ?_
  generalize hmA : sR (nwA (sR (nwA (sR (nwA (sR (nwA (sR (nwA (sR (nwA (sR (nwA (sR (nwA (m) (a + 1) (11, 689)) a 0 (some (a + 1))) (a + 2) (11, 4134)) a 1 (some (a + 2))) (a + 3) (11, 689)) a 2 (some (a + 3))) (a + 4) (11, 60)) a 4 (some (a + 4))) (a + 5) (11, 12)) a 7 (some (a + 5))) (a + 6) (11, 12)) a 8 (some (a + 6))) (a + 7) (11, 169)) a 11 (some (a + 7))) (a + 8) (11, 31)) a 14 (some (a + 8)) = mA
  have zA : fz mA = a + 9 := by rw [← hmA]; rfl
  have bA : Bfr m mA a := fun x hx => by rw [← hmA]; exact ⟨by simp (disch := omega) only [tg_nwA, im_nwA, rf_nwA, jm_nwA, tg_sI, im_sI, rf_sI, jm_sI, tg_sR, im_sR, rf_sR, jm_sR, u1_n, u1_s, u2_n, u2_s], by funext y; simp (disch := omega) only [tg_nwA, im_nwA, rf_nwA, jm_nwA, tg_sI, im_sI, rf_sI, jm_sI, tg_sR, im_sR, rf_sR, jm_sR, u1_n, u1_s, u2_n, u2_s], by funext y; simp (disch := omega) only [tg_nwA, im_nwA, rf_nwA, jm_nwA, tg_sI, im_sI, rf_sI, jm_sI, tg_sR, im_sR, rf_sR, jm_sR, u1_n, u1_s, u2_n, u2_s], by simp (disch := omega) only [tg_nwA, im_nwA, rf_nwA, jm_nwA, tg_sI, im_sI, rf_sI, jm_sI, tg_sR, im_sR, rf_sR, jm_sR, u1_n, u1_s, u2_n, u2_s]⟩
  have iA : im mA a = im m a := by rw [← hmA]; funext y; simp (disch := omega) only [tg_nwA, im_nwA, rf_nwA, jm_nwA, tg_sI, im_sI, rf_sI, jm_sI, tg_sR, im_sR, rf_sR, jm_sR, u1_n, u1_s, u2_n, u2_s]
  have jA : im mA (a + 1) = fun _ => nI 0 := by rw [← hmA]; funext y; simp (disch := omega) only [tg_nwA, im_nwA, rf_nwA, jm_nwA, tg_sI, im_sI, rf_sI, jm_sI, tg_sR, im_sR, rf_sR, jm_sR, u1_n, u1_s, u2_n, u2_s]; rfl
  have hM : MdOk mA a := by
    rw [← hmA]
    refine ⟨⟨?_, ?_, ?_, ?_, ?_, ?_, ?_, ?_, ?_⟩, ?_, ?_, ?_, ?_, ?_, ?_, ?_, ?_⟩
    all_goals first | (simp (disch := omega) only [tg_nwA, im_nwA, rf_nwA, jm_nwA, tg_sI, im_sI, rf_sI, jm_sI, tg_sR, im_sR, rf_sR, jm_sR, u1_n, u1_s, u2_n, u2_s]; done) | (simp (disch := omega) only [tg_nwA, im_nwA, rf_nwA, jm_nwA, tg_sI, im_sI, rf_sI, jm_sI, tg_sR, im_sR, rf_sR, jm_sR, u1_n, u1_s, u2_n, u2_s]; exact ht)
  clear hmA
  refine g_u (u2 := (8, 5796)) rfl ?_
  refine g_mem (m1 := (wI mA (rz (im mA) (a + 1) (fun _ => nI 0)))) (by rw [rz_l _ _ _ jA]; rfl) ?_
  refine g_aload_n 0 dX10_init_72 rfl rfl ?_
  refine gN_getR (a + 1) flX10_7 (fun _ _ _ => rfl) 0 (hM.t) (hM.2.1) dX10_init_73 ?_
  refine gN_iconst 2 dX10_init_76 (by decide) ?_
  refine gN_bipush 30 dX10_init_77 (by decide) ?_
  refine gN_iast 689 (hM.t1) (by first | omega | exact b01_lt _) (by first | omega | exact b01_lt _) dX10_init_79 ?_
  refine g_aload_n 0 dX10_init_80 rfl rfl ?_
  refine gN_getR (a + 1) flX10_7 (fun _ _ _ => rfl) 0 (hM.t) (hM.2.1) dX10_init_81 ?_
  refine gN_iconst 3 dX10_init_84 (by decide) ?_
  refine gN_bipush 50 dX10_init_85 (by decide) ?_
  refine gN_iast 689 (hM.t1) (by first | omega | exact b01_lt _) (by first | omega | exact b01_lt _) dX10_init_87 ?_
  refine gN_iconst 0 dX10_init_88 (by decide) ?_
  refine g_istore_n 1 [(1, .int (nI (0))), (0, .ref (a))] dX10_init_89 rfl (Nat.le_of_ble_eq_true rfl) rfl ?_
  refine g_pick [0, 1] rfl ?_
  refine g_mem (m1 := (wI mA (rz (im mA) (a + 1) (za 0)))) (by show wI mA (u2 (u2 (rz (im mA) (a + 1) _) (a + 1) _ _) (a + 1) _ _) = _; rw [rz_u, rz_u]; rfl) ?_
  refine lp_X10_inita g hM ?_ 4 0 rfl
  refine gN_iconst 0 dX10_init_113 (by decide) ?_
  refine g_istore_n 1 [(1, .int (nI (0))), (0, .ref (a))] dX10_init_114 rfl (Nat.le_of_ble_eq_true rfl) rfl ?_
  refine g_pick [0, 1] rfl ?_
  refine lp_X10_initb g hM ?_ 40 0 rfl
  refine g_aload_n 0 dX10_init_137 rfl rfl ?_
  refine gN_getR (a + 1) flX10_7 (fun _ _ _ => rfl) 0 (hM.t) (hM.2.1) dX10_init_138 ?_
  refine gN_bipush 64 dX10_init_141 (by decide) ?_
  refine gN_bipush 10 dX10_init_143 (by decide) ?_
  refine gN_iast 689 (hM.t1) (by first | omega | exact b01_lt _) (by first | omega | exact b01_lt _) dX10_init_145 ?_
  refine g_aload_n 0 dX10_init_146 rfl rfl ?_
  refine gN_getR (a + 1) flX10_7 (fun _ _ _ => rfl) 0 (hM.t) (hM.2.1) dX10_init_147 ?_
  refine gN_bipush 67 dX10_init_150 (by decide) ?_
  refine gN_bipush 30 dX10_init_152 (by decide) ?_
  refine gN_iast 689 (hM.t1) (by first | omega | exact b01_lt _) (by first | omega | exact b01_lt _) dX10_init_154 ?_
  refine g_aload_n 0 dX10_init_155 rfl rfl ?_
  refine gN_getR (a + 1) flX10_7 (fun _ _ _ => rfl) 0 (hM.t) (hM.2.1) dX10_init_156 ?_
  refine gN_bipush 70 dX10_init_159 (by decide) ?_
  refine gN_bipush 60 dX10_init_161 (by decide) ?_
  refine gN_iast 689 (hM.t1) (by first | omega | exact b01_lt _) (by first | omega | exact b01_lt _) dX10_init_163 ?_
  refine g_aload_n 0 dX10_init_164 rfl rfl ?_
  refine gN_getR (a + 1) flX10_7 (fun _ _ _ => rfl) 0 (hM.t) (hM.2.1) dX10_init_165 ?_
  refine gN_bipush 73 dX10_init_168 (by decide) ?_
  refine gN_bipush 80 dX10_init_170 (by decide) ?_
  refine gN_iast 689 (hM.t1) (by first | omega | exact b01_lt _) (by first | omega | exact b01_lt _) dX10_init_172 ?_
  refine g_aload_n 0 dX10_init_173 rfl rfl ?_
  refine gN_getR (a + 1) flX10_7 (fun _ _ _ => rfl) 0 (hM.t) (hM.2.1) dX10_init_174 ?_
  refine gN_bipush 76 dX10_init_177 (by decide) ?_
  refine gN_bipush 100 dX10_init_179 (by decide) ?_
  refine gN_iast 689 (hM.t1) (by first | omega | exact b01_lt _) (by first | omega | exact b01_lt _) dX10_init_181 ?_
  refine g_vret rfl dX10_init_182 ⟨Nat.le_of_ble_eq_true rfl, Nat.le_of_ble_eq_true rfl⟩ ?_
  have eI : im (sI (sI (sI (sI (sI (wI mA (rz (im mA) (a + 1) (zb 40))) (a + 1) 64 (nI 10)) (a + 1) 67 (nI 30)) (a + 1) 70 (nI 60)) (a + 1) 73 (nI 80)) (a + 1) 76 (nI 100)) = rz (im mA) (a + 1) zc := by
    show u2 (u2 (u2 (u2 (u2 (rz (im mA) (a + 1) (zb 40)) (a + 1) 64 _) (a + 1) 67 _) (a + 1) 70 _) (a + 1) 73 _) (a + 1) 76 _ = _
    rw [rz_u, rz_u, rz_u, rz_u, rz_u]; rfl
  refine ⟨rfl, zA, fun x hx => ⟨(bA x hx).1, ?_, (bA x hx).2.2.1, (bA x hx).2.2.2⟩, hM, ?_, ?_⟩
  · rw [eI]; funext y; rw [rz_n _ _ _ (by omega)]; exact congrFun (bA x hx).2.1 y
  · rw [eI]; funext y; rw [rz_n _ _ _ (by omega)]; exact congrFun iA y
  · rw [eI, rz_b]; exact zc_0
