theorem it_wordCost (g : Gp) {m : Mm} {d b Ls c i : Nat} {X : Nat → Int32} {u : Nat × Nat} {Q : Rs → Mm → Prop} (h : LI g m d b Ls X c) (hc : c < 512) (hi : i + 4 ≤ Ls) (hLs : Ls ≤ 2048) (hu : u.1 + 30 ≤ lw_rc ∧ u.2 + 230 ≤ lw_rs)
    (K : ∀ m2, LI g m2 d b Ls X (c + 1) → G g ML_law Q 1834 [(4, .int (nI i)), (3, .ref (d + 343)), (2, .ref (d + 334)), (1, .ref d), (0, .ref b)] [] (u.1 + 30, u.2 + 230) m2) : G g ML_law Q 1779 [(4, .int (nI i)), (3, .ref (d + 343)), (2, .ref (d + 334)), (1, .ref d), (0, .ref b)] [] u m := by
  obtain ⟨k, kb, ⟨hb, hX, hbd⟩, hto, hMd, hKd, hfz, hDk, hk3, hk5, hzi, hk6, hzx⟩ := id h
  obtain ⟨hD, hR, hV, hl, hkb, hf⟩ := id hDk
  have hz := hzi.1
  have hp : PplOk (im m (d + 334 + 1)) := ⟨fun p hp => (hz.T1 hp).up (by omega), fun p hp => (hz.T2 hp).up (by omega)⟩
  have hk48 : im m (d + 48) 2 = nI k := by obtain ⟨fst, ⟨⟨_, _, q, _⟩, _⟩⟩ := hV; exact q
  refine g_aload_n 1 dL_law_1779 rfl rfl ?_
  refine gd_callV _ _ _ _ (cn_X9_wordCost g (0, 0) hD hR hz hp) ⟨rfl, rfl⟩ (ok_X9_wordCost _) mlL_188 in_X9_wordCost se_X9_wordCost 9 0 (hD.t) rfl rfl rfl ⟨Nat.le_of_ble_eq_true rfl, Nat.le_of_ble_eq_true rfl⟩ (by exact Nat.le_of_ble_eq_true rfl) ⟨Nat.le_trans (Nat.le_add_right _ 30) hu.1, Nat.le_trans (Nat.le_add_right _ 230) hu.2⟩ dL_law_1780 rfl ?_
  refine g_dstore 5 [(5, .double (cstV (im m (d + 334 + 1)))), (4, .int (nI (i))), (3, .ref (d + 343)), (2, .ref (d + 334)), (1, .ref (d)), (0, .ref (b))] dL_law_1783 (Nat.le_of_ble_eq_true rfl) rfl ?_
  refine g_aload_n 2 dL_law_1785 rfl rfl ?_
  have hc2 := cn_X10_wordCost g (0, 0) hMd hp
  refine g_callV _ _ hc2 (ok_X10_wordCost _) mlL_192 in_X10_wordCost se_X10_wordCost (by rw [hMd.t]; rfl) rfl rfl ⟨Nat.le_of_ble_eq_true rfl, Nat.le_of_ble_eq_true rfl⟩ (by exact Nat.le_of_ble_eq_true rfl) ⟨Nat.le_trans (Nat.le_add_right _ 30) hu.1, Nat.le_trans (Nat.le_add_right _ 230) hu.2⟩ dL_law_1786 rfl (fun v9 m2 h9 => ?_) (fun E m2 h9 => by cases h9.1)
  obtain ⟨h90, J, e2, hJ⟩ := h9
  cases h90
  refine g_wide (u.1 + 30, u.2 + 230) (Nat.le_add_right _ _) (Nat.le_add_right _ _) ?_
  refine g_dstore 7 [(7, .double (cstV (im m (d + 334 + 1)))), (5, .double (cstV (im m (d + 334 + 1)))), (4, .int (nI (i))), (3, .ref (d + 343)), (2, .ref (d + 334)), (1, .ref (d)), (0, .ref (b))] dL_law_1789 (Nat.le_of_ble_eq_true rfl) rfl ?_
  refine g_dload 5 dL_law_1791 rfl ?_
  refine g_dload 7 dL_law_1793 rfl ?_
  refine g_dcmp dL_law_1795 ?_
  rw [(cst_ok hp).cmp]
  refine g_eI 0 (by decide) ?_
  refine g_if_eq 1817 dL_law_1796 (by decide) (fun h_1796 => ?_) (fun h_1796 => ?_)
  · refine g_goto 1834 dL_law_1817 (by decide) ?_
    refine g_pick [2, 3, 4, 5, 6] rfl ?_
    subst e2
    exact K _ (h.same (m1 := m) (Nat.le_refl _) rfl rfl rfl rfl rfl rfl hJ.B)
  · exact absurd rfl h_1796
theorem it_digest (g : Gp) {m : Mm} {d b Ls c i : Nat} {X : Nat → Int32} {u : Nat × Nat} {Q : Rs → Mm → Prop} (h : LI g m d b Ls X c) (hc : c < 512) (hi : i + 4 ≤ Ls) (hLs : Ls ≤ 2048) (hu : u.1 + 30 ≤ lw_rc ∧ u.2 + 230 ≤ lw_rs)
    (K : ∀ m2, LI g m2 d b Ls X (c + 1) → G g ML_law Q 1834 [(4, .int (nI i)), (3, .ref (d + 343)), (2, .ref (d + 334)), (1, .ref d), (0, .ref b)] [] (u.1 + 30, u.2 + 230) m2) : G g ML_law Q 1820 [(4, .int (nI i)), (3, .ref (d + 343)), (2, .ref (d + 334)), (1, .ref d), (0, .ref b)] [] u m := by
  obtain ⟨k, kb, ⟨hb, hX, hbd⟩, hto, hMd, hKd, hfz, hDk, hk3, hk5, hzi, hk6, hzx⟩ := id h
  obtain ⟨hD, hR, hV, hl, hkb, hf⟩ := id hDk
  have hz := hzi.1
  have hp : PplOk (im m (d + 334 + 1)) := ⟨fun p hp => (hz.T1 hp).up (by omega), fun p hp => (hz.T2 hp).up (by omega)⟩
  have hk48 : im m (d + 48) 2 = nI k := by obtain ⟨fst, ⟨⟨_, _, q, _⟩, _⟩⟩ := hV; exact q
  refine g_aload_n 1 dL_law_1820 rfl rfl ?_
  refine gd_callV _ _ _ _ (cn_X9_digest g (0, 0) hD hR hz hKd.1 hk48 hl hkb hf hp hzi.2.1) ⟨rfl, rfl⟩ (ok_X9_digest _) mlL_193 in_X9_digest se_X9_digest 9 0 (hD.t) rfl rfl rfl ⟨Nat.le_of_ble_eq_true rfl, Nat.le_of_ble_eq_true rfl⟩ (by exact Nat.le_of_ble_eq_true rfl) ⟨Nat.le_trans (Nat.le_add_right _ 30) hu.1, Nat.le_trans (Nat.le_add_right _ 230) hu.2⟩ dL_law_1821 rfl ?_
  refine g_aload_n 2 dL_law_1824 rfl rfl ?_
  have hc2 := cn_X10_digest g (0, 0) hMd hz.n0 (fun s hs => hz.row hs) hz.n1 (fun r hr => (hz.mem hr).1) (fun b hb => hz.B0 hb) hp hzi.2.1 hk5 hkb
  rw [hk3] at hc2
  refine g_callV _ _ hc2 (ok_X10_digest _) mlL_197 in_X10_digest se_X10_digest (by rw [hMd.t]; rfl) rfl rfl ⟨Nat.le_of_ble_eq_true rfl, Nat.le_of_ble_eq_true rfl⟩ (by exact Nat.le_of_ble_eq_true rfl) ⟨Nat.le_trans (Nat.le_add_right _ 30) hu.1, Nat.le_trans (Nat.le_add_right _ 230) hu.2⟩ dL_law_1825 rfl (fun v9 m2 h9 => ?_) (fun E m2 h9 => by cases h9.1)
  obtain ⟨h90, J, e2, hJ⟩ := h9
  cases h90
  refine g_wide (u.1 + 30, u.2 + 230) (Nat.le_add_right _ _) (Nat.le_add_right _ _) ?_
  refine g_lcmp dL_law_1828 ?_
  refine g_ei (nI (0)) (lg_cmp_s _) ?_
  refine gN_if_eq 1834 dL_law_1829 (by decide) (by first | omega | exact b01_lt _) (fun h_1829 => ?_) (fun h_1829 => ?_)
  · refine g_pick [0, 1, 2, 3, 4] rfl ?_
    subst e2
    exact K _ (h.same (m1 := m) (Nat.le_refl _) rfl rfl rfl rfl rfl rfl hJ.B)
  · exact absurd h_1829 (by decide)
