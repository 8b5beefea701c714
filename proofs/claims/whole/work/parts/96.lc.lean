/-! THE LAW: a script too short for a call -/
theorem sht_lt {n : Nat} (h : n < 4) : nI n - nI 4 < nI 0 := by
  rcases (show n = 0 ∨ n = 1 ∨ n = 2 ∨ n = 3 by omega) with rfl | rfl | rfl | rfl <;> decide
set_option maxRecDepth 100000 in
theorem law_short (g : Gp) {m : Mm} {d b Ls : Nat} {X : Nat → Int32} {Q : Rs → Mm → Prop} (hLs : Ls ≤ 2048) (hL4 : Ls < 4) (hd : fz m = d) (hb : tg m b = (19, Ls)) (hX : im m b = X) (hbd : b < d) (hC : CsT g m) (hg : g.2.1 < d ∧ g.2.2.1 < d ∧ g.2.2.2 < d) (KQ : ∀ m, Q (.inl (some (.int (nI 1)))) m) : G g ML_law Q 0 [(0, .ref b)] [] (0, 0) m := by
  refine g_newA (c := 9) (d) (hd) rfl klL_8 ii_X9 iz_X9 (df_ok rfl) ⟨Nat.le_of_ble_eq_true rfl, Nat.le_of_ble_eq_true rfl⟩ dL_law_0 ?_
  refine g_dup dL_law_3 rfl ?_
  refine g_callI _ _ (cn_X9_init g (m := nwA m d (9, 0)) (d := d) (u1_s _ _ _) rfl (hC.fr (n := d) hg (fun x hx => ⟨u1_n _ _ _ (by omega), u1_n _ _ _ (by omega)⟩)) hg) (ok_X9_init _) rfl rfl mlL_91 in_X9_init rfl ⟨Nat.le_of_ble_eq_true rfl, Nat.le_of_ble_eq_true rfl⟩ (by exact Nat.le_of_ble_eq_true rfl) ⟨Nat.le_of_ble_eq_true rfl, Nat.le_of_ble_eq_true rfl⟩ dL_law_4 rfl (fun v m4 h4 => ?_) (fun E m4 h4 => by cases h4.1)
  obtain ⟨h40, hz4, hb4, hK4⟩ := h4
  cases h40
  have hb1 : Bfr m m4 d := fun x hx => ⟨(hb4 x hx).1.trans (u1_n _ _ _ (by omega)), (hb4 x hx).2.1.trans (u1_n _ _ _ (by omega)), (hb4 x hx).2.2.1.trans (u1_n _ _ _ (by omega)), (hb4 x hx).2.2.2.trans (u1_n _ _ _ (by omega))⟩
  refine g_astore_n 1 [(1, .ref (d)), (0, .ref (b))] dL_law_7 rfl (Nat.le_of_ble_eq_true rfl) rfl ?_
  refine g_newA (c := 10) (d + 334) (hz4) rfl klL_92 ii_X10 iz_X10 (df_ok rfl) ⟨Nat.le_of_ble_eq_true rfl, Nat.le_of_ble_eq_true rfl⟩ dL_law_8 ?_
  refine g_dup dL_law_11 rfl ?_
  refine g_callI _ _ (cn_X10_init g (m := nwA m4 (d + 334) (10, 0)) (a := d + 334) (u1_s _ _ _) rfl) (ok_X10_init _) rfl rfl mlL_94 in_X10_init rfl ⟨Nat.le_of_ble_eq_true rfl, Nat.le_of_ble_eq_true rfl⟩ (by exact Nat.le_of_ble_eq_true rfl) ⟨Nat.le_of_ble_eq_true rfl, Nat.le_of_ble_eq_true rfl⟩ dL_law_12 rfl (fun v m5 h5 => ?_) (fun E m5 h5 => by cases h5.1)
  obtain ⟨h50, hz5, hb5, hM5, hi5, hz05⟩ := h5
  cases h50
  have hb2 : Bfr m4 m5 (d + 334) := fun x hx => ⟨(hb5 x hx).1.trans (u1_n _ _ _ (by omega)), (hb5 x hx).2.1.trans (u1_n _ _ _ (by omega)), (hb5 x hx).2.2.1.trans (u1_n _ _ _ (by omega)), (hb5 x hx).2.2.2.trans (u1_n _ _ _ (by omega))⟩
  have hia : ∀ k, im m5 (d + 334) k = nI 0 := fun k => by rw [hi5, im_nwA, u1_s]; rfl
  refine g_astore_n 2 [(2, .ref (d + 334)), (1, .ref (d)), (0, .ref (b))] dL_law_15 rfl (Nat.le_of_ble_eq_true rfl) rfl ?_
  refine gN_iconst 1 dL_law_16 (by decide) ?_
  refine g_newJA (d + 343) 1 hz5 (by omega) ⟨Nat.le_of_ble_eq_true rfl, Nat.le_of_ble_eq_true rfl⟩ dL_law_17 ?_
  refine g_astore_n 3 [(3, .ref (d + 343)), (2, .ref (d + 334)), (1, .ref (d)), (0, .ref (b))] dL_law_19 rfl (Nat.le_of_ble_eq_true rfl) rfl ?_
  refine gN_iconst 0 dL_law_20 (by decide) ?_
  refine g_istore 4 [(4, .int (nI (0))), (3, .ref (d + 343)), (2, .ref (d + 334)), (1, .ref (d)), (0, .ref (b))] dL_law_21 (Nat.le_of_ble_eq_true rfl) rfl ?_
  refine g_pick [0, 1, 2, 3, 4] rfl ?_
  obtain ⟨k, kb, ⟨hb', -⟩, -⟩ := li_0 hd hb hX hbd hC hg hz4 hb1 hK4 hz5 hb2 hM5 hia hz05
  refine g_iload 4 dL_law_23 rfl ?_
  refine g_aload_n 0 dL_law_25 rfl rfl ?_
  refine gN_alen 19 Ls hb' (by decide) dL_law_26 ?_
  refine gN_iconst 4 dL_law_27 (by decide) ?_
  refine g_isub dL_law_28 ?_
  refine g_icmp_gt 1840 dL_law_29 (by decide) (fun _ => ?_) (fun h => absurd (sht_lt hL4) h)
  refine gN_iconst 1 dL_law_1840 (by decide) ?_
  refine g_zret rfl (by first | rfl | exact nar_b01 _) dL_law_1841 ⟨Nat.le_of_ble_eq_true rfl, Nat.le_of_ble_eq_true rfl⟩ ?_
  exact KQ _
/-- the law from its entry, for every script -/
theorem law_all (g : Gp) {m : Mm} {d b Ls : Nat} {X : Nat → Int32} {Q : Rs → Mm → Prop} (hLs : Ls ≤ 2048) (hd : fz m = d) (hb : tg m b = (19, Ls)) (hX : im m b = X) (hbd : b < d) (hC : CsT g m) (hg : g.2.1 < d ∧ g.2.2.1 < d ∧ g.2.2.2 < d) (KQ : ∀ m, Q (.inl (some (.int (nI 1)))) m) : G g ML_law Q 0 [(0, .ref b)] [] (0, 0) m := by
  by_cases h : 4 ≤ Ls
  · exact law_body g hLs h hd hb hX hbd hC hg KQ
  · exact law_short g hLs (Nat.not_le.mp h) hd hb hX hbd hC hg KQ
