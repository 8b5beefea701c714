/-! THE LAW: its loop -/
theorem and31 (x : Int32) : ∃ k, k < 32 ∧ x &&& nI 31 = nI k := by
  refine ⟨x.toBitVec.toNat % 32, Nat.mod_lt _ (by decide), ?_⟩
  apply Int32.toBitVec_inj.mp
  apply BitVec.eq_of_toNat_eq
  rw [Int32.toBitVec_and, BitVec.toNat_and, show (nI 31).toBitVec.toNat = 2 ^ 5 - 1 by decide, Nat.and_two_pow_sub_one_eq_mod]
  have h : x.toBitVec.toNat % 2 ^ 5 < 4294967296 := Nat.lt_of_lt_of_le (Nat.mod_lt _ (by decide)) (by decide)
  show _ = (BitVec.ofNat 32 _).toNat
  rw [BitVec.toNat_ofNat]
  exact (Nat.mod_eq_of_lt h).symm
theorem LI.up {g : Gp} {m : Mm} {d b Ls : Nat} {X : Nat → Int32} {c : Nat} (h : LI g m d b Ls X c) : LI g m d b Ls X (c + 1) := by
  obtain ⟨k, kb, a1, a2, a3, a4, a5, a6, a7, a8, a9, a10⟩ := h
  exact ⟨k, kb, a1, a2, a3, a4, a5, a6.up, a7, a8, a9.up, a10⟩
set_option maxRecDepth 100000 in
theorem law_loop (g : Gp) {d b Ls : Nat} {X : Nat → Int32} {u0 : Nat × Nat} {Q : Rs → Mm → Prop} (hLs : Ls ≤ 2048) (hL4 : 4 ≤ Ls) (hu0 : u0.1 + 30 * 512 ≤ lw_rc ∧ u0.2 + 230 * 512 ≤ lw_rs)
    (KQ : ∀ m, Q (.inl (some (.int (nI 1)))) m) : ∀ j c : Nat, c + j = 513 ∧ c ≤ 512 → ∀ m, LI g m d b Ls X c → G g ML_law Q 23 [(4, .int (nI (4 * c))), (3, .ref (d + 343)), (2, .ref (d + 334)), (1, .ref (d)), (0, .ref (b))] [] (u0.1 + 30 * c, u0.2 + 230 * c) m := by
  intro j
  induction j with
  | zero =>
    intro c hc m h
    exfalso
    omega
  | succ j ih =>
    intro c hc m h
    obtain ⟨k, kb, ⟨hb, hX, hbd⟩, _⟩ := id h
    by_cases hcc : c ≤ 512
    · have hux : (u0.1 + 30 * c, u0.2 + 230 * c).1 ≤ lw_rc ∧ (u0.1 + 30 * c, u0.2 + 230 * c).2 ≤ lw_rs := ⟨by show u0.1 + 30 * c ≤ lw_rc; omega, by show u0.2 + 230 * c ≤ lw_rs; omega⟩
      refine g_iload 4 dL_law_23 rfl ?_
      refine g_aload_n 0 dL_law_25 rfl rfl ?_
      refine gN_alen 19 Ls (hb) (by decide) dL_law_26 ?_
      refine gN_iconst 4 dL_law_27 (by decide) ?_
      refine gN_isub (Ls - 4) dL_law_28 (by first | omega | exact b01_lt _) rfl ?_
      refine gN_icmp_gt 1840 dL_law_29 (by decide) (by first | omega | exact b01_lt _) (by first | omega | exact b01_lt _) (fun h_29 => ?_) (fun h_29 => ?_)
      · refine gN_iconst 1 dL_law_1840 (by decide) ?_
        refine g_zret rfl (by first | rfl | exact nar_b01 _) dL_law_1841 hux ?_
        exact KQ _
      · refine g_aload_n 0 dL_law_32 rfl rfl ?_
        refine g_iload 4 dL_law_33 rfl ?_
        refine gN_iald19 Ls (hb) (by first | omega | exact b01_lt _) (by first | omega | exact b01_lt _) dL_law_35 ?_
        refine g_eI (X (4 * c)) (congrFun hX _) ?_
        refine gN_bipush 31 dL_law_36 (by decide) ?_
        refine g_iand dL_law_38 ?_
        have hc5 : c < 512 := by omega
        have hi4 : 4 * c + 4 ≤ Ls := by omega
        have hu : (u0.1 + 30 * c, u0.2 + 230 * c).1 + 30 ≤ lw_rc ∧ (u0.1 + 30 * c, u0.2 + 230 * c).2 + 230 ≤ lw_rs := ⟨by show u0.1 + 30 * c + 30 ≤ lw_rc; omega, by show u0.2 + 230 * c + 230 ≤ lw_rs; omega⟩
        have KK : ∀ m2, LI g m2 d b Ls X (c + 1) → G g ML_law Q 1834 [(4, .int (nI (4 * c))), (3, .ref (d + 343)), (2, .ref (d + 334)), (1, .ref (d)), (0, .ref (b))] [] (u0.1 + 30 * c + 30, u0.2 + 230 * c + 230) m2 := fun m2 h2 => by
          refine g_iinc 4 (nI (4 * c + 4)) 0 [(4, .int (nI (4 * c + 4))), (3, .ref (d + 343)), (2, .ref (d + 334)), (1, .ref (d)), (0, .ref (b))] dL_law_1834 rfl (nI_add (4 * c) 4) (Nat.le_of_ble_eq_true rfl) rfl ?_
          refine g_goto 23 dL_law_1837 (by decide) ?_
          exact ih (c + 1) ⟨by omega, by omega⟩ m2 h2
        obtain ⟨q, hq, eq⟩ := and31 (X (4 * c))
        refine g_ei (nI q) eq ?_
        rcases (show q = 0 ∨ q = 1 ∨ q = 2 ∨ q = 3 ∨ q = 4 ∨ q = 5 ∨ q = 6 ∨ q = 7 ∨ q = 8 ∨ q = 9 ∨ q = 10 ∨ q = 11 ∨ q = 12 ∨ q = 13 ∨ q = 14 ∨ q = 15 ∨ q = 16 ∨ q = 17 ∨ q = 18 ∨ q = 19 ∨ q = 20 ∨ q = 21 ∨ q = 22 ∨ q = 23 ∨ q = 24 ∨ q = 25 ∨ q = 26 ∨ q = 27 ∨ q = 28 ∨ 28 < q by omega) with rfl | rfl | rfl | rfl | rfl | rfl | rfl | rfl | rfl | rfl | rfl | rfl | rfl | rfl | rfl | rfl | rfl | rfl | rfl | rfl | rfl | rfl | rfl | rfl | rfl | rfl | rfl | rfl | rfl | h28
        · refine g_tableIn (off := 129) 168 dL_law_39 (by decide) (by decide) (by decide) (by decide) ?_
          exact it_rate g h hc5 hi4 hLs hu (fun m2 h2 x5 x6 => g_pick [2, 3, 4, 5, 6] rfl (KK m2 h2))
        · refine g_tableIn (off := 197) 236 dL_law_39 (by decide) (by decide) (by decide) (by decide) ?_
          exact it_pays g h hc5 hi4 hLs hu (fun m2 h2 x5 x6 => g_pick [2, 3, 4, 5, 6] rfl (KK m2 h2))
        · refine g_tableIn (off := 265) 304 dL_law_39 (by decide) (by decide) (by decide) (by decide) ?_
          exact it_set g h hc5 hi4 hLs hu (fun m2 h2 x5 x6 => g_pick [2, 3, 4, 5, 6] rfl (KK m2 h2))
        · refine g_tableIn (off := 333) 372 dL_law_39 (by decide) (by decide) (by decide) (by decide) ?_
          exact it_assign g h hc5 hi4 hLs hu (fun m2 h2 x5 x6 => g_pick [2, 3, 4, 5, 6] rfl (KK m2 h2))
        · refine g_tableIn (off := 401) 440 dL_law_39 (by decide) (by decide) (by decide) (by decide) ?_
          exact it_deliver g h hc5 hi4 hLs hu (fun m2 h2 x5 x6 => g_pick [2, 3, 4, 5, 6] rfl (KK m2 h2))
        · refine g_tableIn (off := 457) 496 dL_law_39 (by decide) (by decide) (by decide) (by decide) ?_
          exact it_revise g h hc5 hi4 hLs hu (fun m2 h2 x5 x6 => g_pick [2, 3, 4, 5, 6] rfl (KK m2 h2))
        · refine g_tableIn (off := 537) 576 dL_law_39 (by decide) (by decide) (by decide) (by decide) ?_
          exact it_propose g h hc5 hi4 hLs hu (fun m2 h2 x5 x6 => g_pick [2, 3, 4, 5, 6] rfl (KK m2 h2))
        · refine g_tableIn (off := 617) 656 dL_law_39 (by decide) (by decide) (by decide) (by decide) ?_
          exact it_rule g h hc5 hi4 hLs hu (fun m2 h2 x5 x6 => g_pick [2, 3, 4, 5, 6] rfl (KK m2 h2))
        · refine g_tableIn (off := 685) 724 dL_law_39 (by decide) (by decide) (by decide) (by decide) ?_
          exact it_append g h hc5 hi4 hLs hu (fun m2 h2 x5 x6 => g_pick [2, 3, 4, 5, 6] rfl (KK m2 h2))
        · refine g_tableIn (off := 741) 780 dL_law_39 (by decide) (by decide) (by decide) (by decide) ?_
          exact it_clearBuffer g h hc5 hi4 hLs hu (fun m2 h2 => KK m2 h2)
        · refine g_tableIn (off := 754) 793 dL_law_39 (by decide) (by decide) (by decide) (by decide) ?_
          exact it_firstError g h hc5 hi4 hLs hu (fun m2 h2 => KK m2 h2)
        · refine g_tableIn (off := 767) 806 dL_law_39 (by decide) (by decide) (by decide) (by decide) ?_
          exact it_add g h hc5 hi4 hLs hu (fun m2 h2 x5 x6 => g_pick [2, 3, 4, 5, 6] rfl (KK m2 h2))
        · refine g_tableIn (off := 811) 850 dL_law_39 (by decide) (by decide) (by decide) (by decide) ?_
          exact it_change g h hc5 hi4 hLs hu (fun m2 h2 x5 x6 => g_pick [2, 3, 4, 5, 6] rfl (KK m2 h2))
        · refine g_tableIn (off := 867) 906 dL_law_39 (by decide) (by decide) (by decide) (by decide) ?_
          exact it_undo g h hc5 hi4 hLs hu (fun m2 h2 x5 x6 => g_pick [2, 3, 4, 5, 6] rfl (KK m2 h2))
        · refine g_tableIn (off := 911) 950 dL_law_39 (by decide) (by decide) (by decide) (by decide) ?_
          exact it_segment g h hc5 hi4 hLs hu (fun m2 h2 x5 x6 => g_pick [2, 3, 4, 5, 6] rfl (KK m2 h2))
        · refine g_tableIn (off := 979) 1018 dL_law_39 (by decide) (by decide) (by decide) (by decide) ?_
          exact it_word g h hc5 hi4 hLs hu (fun m2 h2 x5 x6 => g_pick [2, 3, 4, 5, 6] rfl (KK m2 h2))
        · refine g_tableIn (off := 1047) 1086 dL_law_39 (by decide) (by decide) (by decide) (by decide) ?_
          exact it_remembered g h hc5 hi4 hLs hu (fun m2 h2 x5 x6 => g_pick [2, 3, 4, 5, 6] rfl (KK m2 h2))
        · refine g_tableIn (off := 1115) 1154 dL_law_39 (by decide) (by decide) (by decide) (by decide) ?_
          exact it_translator g h hc5 hi4 hLs hu (fun m2 h2 x5 x6 => g_pick [2, 3, 4, 5, 6] rfl (KK m2 h2))
        · refine g_tableIn (off := 1183) 1222 dL_law_39 (by decide) (by decide) (by decide) (by decide) ?_
          exact it_term g h hc5 hi4 hLs hu (fun m2 h2 x5 x6 => g_pick [2, 3, 4, 5, 6] rfl (KK m2 h2))
        · refine g_tableIn (off := 1251) 1290 dL_law_39 (by decide) (by decide) (by decide) (by decide) ?_
          exact it_band g h hc5 hi4 hLs hu (fun m2 h2 x5 x6 => g_pick [2, 3, 4, 5, 6] rfl (KK m2 h2))
        · refine g_tableIn (off := 1319) 1358 dL_law_39 (by decide) (by decide) (by decide) (by decide) ?_
          exact it_count g h hc5 hi4 hLs hu (fun m2 h2 x5 x6 => g_pick [2, 3, 4, 5, 6] rfl (KK m2 h2))
        · refine g_tableIn (off := 1375) 1414 dL_law_39 (by decide) (by decide) (by decide) (by decide) ?_
          exact it_setting g h hc5 hi4 hLs hu (fun m2 h2 x5 x6 => g_pick [2, 3, 4, 5, 6] rfl (KK m2 h2))
        · refine g_tableIn (off := 1431) 1470 dL_law_39 (by decide) (by decide) (by decide) (by decide) ?_
          exact it_near g h hc5 hi4 hLs hu (fun m2 h2 x5 x6 => g_pick [2, 3, 4, 5, 6] rfl (KK m2 h2))
        · refine g_tableIn (off := 1511) 1550 dL_law_39 (by decide) (by decide) (by decide) (by decide) ?_
          exact it_common g h hc5 hi4 hLs hu (fun m2 h2 x5 x6 => g_pick [2, 3, 4, 5, 6] rfl (KK m2 h2))
        · refine g_tableIn (off := 1591) 1630 dL_law_39 (by decide) (by decide) (by decide) (by decide) ?_
          exact it_ifPaid g h hc5 hi4 hLs hu (fun m2 h2 x5 x6 => g_pick [2, 3, 4, 5, 6] rfl (KK m2 h2))
        · refine g_tableIn (off := 1659) 1698 dL_law_39 (by decide) (by decide) (by decide) (by decide) ?_
          exact it_orderMatters g h hc5 hi4 hLs hu (fun m2 h2 x5 x6 => g_pick [2, 3, 4, 5, 6] rfl (KK m2 h2))
        · refine g_tableIn (off := 1727) 1766 dL_law_39 (by decide) (by decide) (by decide) (by decide) ?_
          exact it_saved g h hc5 hi4 hLs hu (fun m2 h2 => KK m2 h2)
        · refine g_tableIn (off := 1740) 1779 dL_law_39 (by decide) (by decide) (by decide) (by decide) ?_
          exact it_wordCost g h hc5 hi4 hLs hu (fun m2 h2 => KK m2 h2)
        · refine g_tableIn (off := 1781) 1820 dL_law_39 (by decide) (by decide) (by decide) (by decide) ?_
          exact it_digest g h hc5 hi4 hLs hu (fun m2 h2 => KK m2 h2)
        · refine g_tableOut 1834 dL_law_39 (Or.inr (by rw [nI_tI' (by omega)]; omega)) (by decide) ?_
          refine g_wide (u0.1 + 30 * c + 30, u0.2 + 230 * c + 230) (Nat.le_add_right _ _) (Nat.le_add_right _ _) ?_
          exact KK m h.up
    · exfalso; omega
