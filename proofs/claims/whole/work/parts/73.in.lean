/-! CONSTRUCTORS -/
set_option maxRecDepth 100000 in
theorem cn_X8_init (g : Gp) (cs : Nat × Nat) {m : Mm} {q : Nat} (ht : tg m q = (8, 0)) : Dn g (MX8_init cs) [.ref (q)] m none (sI (sI (sI (sI (sI (m) q 0 (nI 10)) q 1 (nI 0)) q 2 (nI 0)) q 3 (nI 0)) q 4 (nI 0)) := by
  refine Cn.of pn_X8 (Nat.le_of_ble_eq_true rfl) rfl ?_
  refine g_aload_n 0 dX8_init_0 rfl rfl ?_
  refine g_objInit moX8_3 in_obj co_obj (Nat.le_of_ble_eq_true rfl) (by exact Nat.le_of_ble_eq_true rfl) dX8_init_1 ?_
  refine g_aload_n 0 dX8_init_4 rfl rfl ?_
  refine gN_bipush 10 dX8_init_5 (by decide) ?_
  refine gN_putI fwX8_9 rfl 0 (ht) dX8_init_7 ?_
  refine g_aload_n 0 dX8_init_10 rfl rfl ?_
  refine gN_iconst 0 dX8_init_11 (by decide) ?_
  refine gN_putI fwX8_15 rfl 0 (ht) dX8_init_12 ?_
  refine g_aload_n 0 dX8_init_15 rfl rfl ?_
  refine gN_iconst 0 dX8_init_16 (by decide) ?_
  refine gN_putI fwX8_18 rfl 0 (ht) dX8_init_17 ?_
  refine g_aload_n 0 dX8_init_20 rfl rfl ?_
  refine gN_iconst 0 dX8_init_21 (by decide) ?_
  refine gN_putI fwX8_21 rfl 0 (ht) dX8_init_22 ?_
  refine g_aload_n 0 dX8_init_25 rfl rfl ?_
  refine gN_iconst 0 dX8_init_26 (by decide) ?_
  refine gN_putI fwX8_24 rfl 0 (ht) dX8_init_27 ?_
  refine g_vret rfl dX8_init_30 ⟨Nat.zero_le _, Nat.zero_le _⟩ ?_
  exact ⟨rfl, rfl⟩
set_option maxRecDepth 100000 in
theorem cn_X0_init (g : Gp) (cs : Nat × Nat) {m : Mm} {q : Nat} (ht : tg m q = (0, 0)) {x : Int32} : Dn g (MX0_init cs) [.ref (q), .int (x)] m none (sI (sI (sI (m) q 1 (nI 0)) q 2 (nI 0)) q 0 (x)) := by
  refine Cn.of pn_X0 (Nat.le_of_ble_eq_true rfl) rfl ?_
  refine g_aload_n 0 dX0_init_0 rfl rfl ?_
  refine g_objInit moX0_1 in_obj co_obj (Nat.le_of_ble_eq_true rfl) (by exact Nat.le_of_ble_eq_true rfl) dX0_init_1 ?_
  refine g_aload_n 0 dX0_init_4 rfl rfl ?_
  refine gN_iconst 0 dX0_init_5 (by decide) ?_
  refine gN_putI fwX0_7 rfl 0 (ht) dX0_init_6 ?_
  refine g_aload_n 0 dX0_init_9 rfl rfl ?_
  refine gN_iconst 0 dX0_init_10 (by decide) ?_
  refine gN_putI fwX0_13 rfl 0 (ht) dX0_init_11 ?_
  refine g_aload_n 0 dX0_init_14 rfl rfl ?_
  refine g_iload_n 1 dX0_init_15 rfl rfl ?_
  refine gN_putI fwX0_16 rfl 0 (ht) dX0_init_16 ?_
  refine g_vret rfl dX0_init_19 ⟨Nat.zero_le _, Nat.zero_le _⟩ ?_
  exact ⟨rfl, rfl⟩
set_option maxRecDepth 100000 in
theorem cn_X5_init (g : Gp) (cs : Nat × Nat) {m : Mm} {q r : Nat} (ht : tg m q = (5, 0)) : Dn g (MX5_init cs) [.ref (q), .ref (r)] m none (sR m q 0 (some r)) := by
  refine Cn.of pn_X5 (Nat.le_of_ble_eq_true rfl) rfl ?_
  refine g_aload_n 0 dX5_init_0 rfl rfl ?_
  refine g_objInit moX5_3 in_obj co_obj (Nat.le_of_ble_eq_true rfl) (by exact Nat.le_of_ble_eq_true rfl) dX5_init_1 ?_
  refine g_aload_n 0 dX5_init_4 rfl rfl ?_
  refine g_aload_n 1 dX5_init_5 rfl rfl ?_
  refine gN_putR fwX5_9 rfl 0 (ht) dX5_init_6 ?_
  refine g_vret rfl dX5_init_9 ⟨Nat.zero_le _, Nat.zero_le _⟩ ?_
  exact ⟨rfl, rfl⟩
set_option maxRecDepth 100000 in
theorem cn_X7_init (g : Gp) (cs : Nat × Nat) {m : Mm} {q : Nat} (ht : tg m q = (7, 0)) (hfz : fz m = q + 1) : Dn g (MX7_init (1, 4)) [.ref (q)] m none (sI (sR (sI (sI (sI (sI (nwA m (q + 1) (11, 4)) (q + 1) 0 (-1)) (q + 1) 1 (-1)) (q + 1) 2 (-1)) (q + 1) 3 (-1)) q 0 (some (q + 1))) q 1 (-1)) := by
  refine Cn.of pn_X7 (Nat.le_of_ble_eq_true rfl) rfl ?_
  refine g_aload_n 0 dX7_init_0 rfl rfl ?_
  refine g_objInit moX7_3 in_obj co_obj (Nat.le_of_ble_eq_true rfl) (by exact Nat.le_of_ble_eq_true rfl) dX7_init_1 ?_
  refine g_aload_n 0 dX7_init_4 rfl rfl ?_
  refine gN_iconst 4 dX7_init_5 (by decide) ?_
  refine g_newIA (q + 1) 4 (hfz) (by omega) ⟨Nat.le_of_ble_eq_true rfl, Nat.le_of_ble_eq_true rfl⟩ dX7_init_6 ?_
  refine g_dup dX7_init_8 rfl ?_
  refine gN_iconst 0 dX7_init_9 (by decide) ?_
  refine g_iconst (-1) dX7_init_10 (by decide) ?_
  refine gN_iast 4 (by first | exact ht | (simp (disch := omega) only [tg_nwA, im_nwA, rf_nwA, jm_nwA, tg_sI, im_sI, rf_sI, jm_sI, tg_sR, im_sR, rf_sR, jm_sR, u1_n, u1_s, u2_n, u2_s]; exact ht) | (simp (disch := omega) only [tg_nwA, im_nwA, rf_nwA, jm_nwA, tg_sI, im_sI, rf_sI, jm_sI, tg_sR, im_sR, rf_sR, jm_sR, u1_n, u1_s, u2_n, u2_s]; done)) (by first | omega | exact b01_lt _) (by first | omega | exact b01_lt _) dX7_init_11 ?_
  refine g_dup dX7_init_12 rfl ?_
  refine gN_iconst 1 dX7_init_13 (by decide) ?_
  refine g_iconst (-1) dX7_init_14 (by decide) ?_
  refine gN_iast 4 (by first | exact ht | (simp (disch := omega) only [tg_nwA, im_nwA, rf_nwA, jm_nwA, tg_sI, im_sI, rf_sI, jm_sI, tg_sR, im_sR, rf_sR, jm_sR, u1_n, u1_s, u2_n, u2_s]; exact ht) | (simp (disch := omega) only [tg_nwA, im_nwA, rf_nwA, jm_nwA, tg_sI, im_sI, rf_sI, jm_sI, tg_sR, im_sR, rf_sR, jm_sR, u1_n, u1_s, u2_n, u2_s]; done)) (by first | omega | exact b01_lt _) (by first | omega | exact b01_lt _) dX7_init_15 ?_
  refine g_dup dX7_init_16 rfl ?_
  refine gN_iconst 2 dX7_init_17 (by decide) ?_
  refine g_iconst (-1) dX7_init_18 (by decide) ?_
  refine gN_iast 4 (by first | exact ht | (simp (disch := omega) only [tg_nwA, im_nwA, rf_nwA, jm_nwA, tg_sI, im_sI, rf_sI, jm_sI, tg_sR, im_sR, rf_sR, jm_sR, u1_n, u1_s, u2_n, u2_s]; exact ht) | (simp (disch := omega) only [tg_nwA, im_nwA, rf_nwA, jm_nwA, tg_sI, im_sI, rf_sI, jm_sI, tg_sR, im_sR, rf_sR, jm_sR, u1_n, u1_s, u2_n, u2_s]; done)) (by first | omega | exact b01_lt _) (by first | omega | exact b01_lt _) dX7_init_19 ?_
  refine g_dup dX7_init_20 rfl ?_
  refine gN_iconst 3 dX7_init_21 (by decide) ?_
  refine g_iconst (-1) dX7_init_22 (by decide) ?_
  refine gN_iast 4 (by first | exact ht | (simp (disch := omega) only [tg_nwA, im_nwA, rf_nwA, jm_nwA, tg_sI, im_sI, rf_sI, jm_sI, tg_sR, im_sR, rf_sR, jm_sR, u1_n, u1_s, u2_n, u2_s]; exact ht) | (simp (disch := omega) only [tg_nwA, im_nwA, rf_nwA, jm_nwA, tg_sI, im_sI, rf_sI, jm_sI, tg_sR, im_sR, rf_sR, jm_sR, u1_n, u1_s, u2_n, u2_s]; done)) (by first | omega | exact b01_lt _) (by first | omega | exact b01_lt _) dX7_init_23 ?_
  refine g_putRF ffX7_9 rfl rfl 0 (by first | exact ht | (simp (disch := omega) only [tg_nwA, im_nwA, rf_nwA, jm_nwA, tg_sI, im_sI, rf_sI, jm_sI, tg_sR, im_sR, rf_sR, jm_sR, u1_n, u1_s, u2_n, u2_s]; exact ht) | (simp (disch := omega) only [tg_nwA, im_nwA, rf_nwA, jm_nwA, tg_sI, im_sI, rf_sI, jm_sI, tg_sR, im_sR, rf_sR, jm_sR, u1_n, u1_s, u2_n, u2_s]; done)) dX7_init_24 ?_
  refine g_aload_n 0 dX7_init_27 rfl rfl ?_
  refine g_iconst (-1) dX7_init_28 (by decide) ?_
  refine gN_putI fwX7_15 rfl 0 (by first | exact ht | (simp (disch := omega) only [tg_nwA, im_nwA, rf_nwA, jm_nwA, tg_sI, im_sI, rf_sI, jm_sI, tg_sR, im_sR, rf_sR, jm_sR, u1_n, u1_s, u2_n, u2_s]; exact ht) | (simp (disch := omega) only [tg_nwA, im_nwA, rf_nwA, jm_nwA, tg_sI, im_sI, rf_sI, jm_sI, tg_sR, im_sR, rf_sR, jm_sR, u1_n, u1_s, u2_n, u2_s]; done)) dX7_init_29 ?_
  refine g_vret rfl dX7_init_32 ⟨Nat.le_of_ble_eq_true rfl, Nat.le_of_ble_eq_true rfl⟩ ?_
  exact ⟨rfl, rfl⟩
/-- all below n is as it was, but for the references of a -/
def Fx (m m1 : Mm) (n a : Nat) : Prop := ∀ x, x < n → (tg m1 x = tg m x ∧ im m1 x = im m x ∧ jm m1 x = jm m x) ∧ (x ≠ a → rf m1 x = rf m x)
theorem Fx.rfl' (m : Mm) (n a : Nat) : Fx m m n a := fun _ _ => ⟨⟨rfl, rfl, rfl⟩, fun _ => rfl⟩
set_option maxRecDepth 100000 in
theorem lp_X3_init (g : Gp) {m0 : Mm} {A r : Nat} (h4 : tg m0 r = (4, 0)) (hrA : r < A) : ∀ j i : Nat, i + j = 30 → ∀ m, fz m = A + 2 → Fx m0 m A (A + 1) → tg m A = (3, 0) → tg m (A + 1) = (13, 30) → rf m A 0 = some (A + 1) → im m A 1 = nI 0 → G g (MX3_init (1, 30)) (fun r1 m1 => r1 = Sum.inl none ∧ fz m1 = A + 2 ∧ Fx m0 m1 A A ∧ tg m1 A = (3, 0) ∧ tg m1 (A + 1) = (13, 30) ∧ rf m1 A 0 = some (A + 1) ∧ im m1 A 1 = nI 0) 20 [(2, .int (nI (i))), (0, .ref (A)), (1, .ref (r))] [] (1, 30) m := by
  intro j
  induction j with
  | zero =>
    intro i hi m hz hx h1 h2 h3 h5
    obtain rfl : i = 30 := hi
    refine g_iload_n 2 dX3_init_20 rfl rfl ?_
    refine gN_bipush 30 dX3_init_21 (by decide) ?_
    refine gN_icmp_ge 39 dX3_init_23 (by decide) (by first | omega | exact b01_lt _) (by first | omega | exact b01_lt _) (fun h_23 => ?_) (fun h_23 => ?_)
    · refine g_vret rfl dX3_init_39 ⟨Nat.le_of_ble_eq_true rfl, Nat.le_of_ble_eq_true rfl⟩ ?_
      exact ⟨rfl, hz, fun x hx1 => ⟨(hx x hx1).1, fun _ => (hx x hx1).2 (by omega)⟩, h1, h2, h3, h5⟩
    · exact absurd h_23 (by decide)
  | succ j ih =>
    intro i hi m hz hx h1 h2 h3 h5
    refine g_iload_n 2 dX3_init_20 rfl rfl ?_
    refine gN_bipush 30 dX3_init_21 (by decide) ?_
    refine gN_icmp_ge 39 dX3_init_23 (by decide) (by first | omega | exact b01_lt _) (by first | omega | exact b01_lt _) (fun h_23 => ?_) (fun h_23 => ?_)
    · exfalso; omega
    · refine g_aload_n 0 dX3_init_26 rfl rfl ?_
      refine gN_getR (A + 1) flX3_11 (fun _ _ _ => rfl) 0 (h1) (h3) dX3_init_27 ?_
      refine g_iload_n 2 dX3_init_30 rfl rfl ?_
      refine g_aload_n 1 dX3_init_31 rfl rfl ?_
      refine gN_aast 13 30 4 0 (h2) (by decide) (by first | omega | exact b01_lt _) (by first | omega | exact b01_lt _) ((hx r hrA).1.1.trans h4) rfl rfl dX3_init_32 ?_
      refine g_iinc 2 (nI (i + 1)) 0 [(2, .int (nI (i + 1))), (0, .ref (A)), (1, .ref (r))] dX3_init_33 rfl (nI_add i 1) (Nat.le_of_ble_eq_true rfl) rfl ?_
      refine g_goto 20 dX3_init_36 (by decide) ?_
      refine g_pick [0, 1, 2] rfl ?_
      exact ih (i + 1) (by omega) _ hz (fun x hx1 => ⟨(hx x hx1).1, fun q => (u2_o _ _ _ _ q).trans ((hx x hx1).2 q)⟩) h1 h2 ((u2_n _ _ _ _ (by omega)).trans h3) h5
set_option maxRecDepth 100000 in
theorem cn_X3_init (g : Gp) {m0 : Mm} {A r : Nat} (h4 : tg m0 r = (4, 0)) (hrA : r < A) (h1 : tg m0 A = (3, 0)) (hfz : fz m0 = A + 1) : Cn g (MX3_init (1, 30)) [.ref A, .ref r] m0 (fun r1 m1 => r1 = Sum.inl none ∧ fz m1 = A + 2 ∧ Fx m0 m1 A A ∧ tg m1 A = (3, 0) ∧ tg m1 (A + 1) = (13, 30) ∧ rf m1 A 0 = some (A + 1) ∧ im m1 A 1 = nI 0) := by
  refine Cn.of pn_X3 (Nat.le_of_ble_eq_true rfl) rfl ?_
  refine g_aload_n 0 dX3_init_0 rfl rfl ?_
  refine g_objInit moX3_3 in_obj co_obj (Nat.le_of_ble_eq_true rfl) (by exact Nat.le_of_ble_eq_true rfl) dX3_init_1 ?_
  refine g_aload_n 0 dX3_init_4 rfl rfl ?_
  refine gN_bipush 30 dX3_init_5 (by decide) ?_
  refine g_newQA 13 (A + 1) 30 (by decide) (hfz) (by omega) ⟨Nat.le_of_ble_eq_true rfl, Nat.le_of_ble_eq_true rfl⟩ dX3_init_7 klX3_9 ao_X4 ?_
  refine g_putRF ffX3_11 rfl rfl 0 (by first | exact h1 | (simp (disch := omega) only [tg_nwA, im_nwA, rf_nwA, jm_nwA, tg_sI, im_sI, rf_sI, jm_sI, tg_sR, im_sR, rf_sR, jm_sR, u1_n, u1_s, u2_n, u2_s]; exact h1) | (simp (disch := omega) only [tg_nwA, im_nwA, rf_nwA, jm_nwA, tg_sI, im_sI, rf_sI, jm_sI, tg_sR, im_sR, rf_sR, jm_sR, u1_n, u1_s, u2_n, u2_s]; done)) dX3_init_10 ?_
  refine g_aload_n 0 dX3_init_13 rfl rfl ?_
  refine gN_iconst 0 dX3_init_14 (by decide) ?_
  refine gN_putI fwX3_17 rfl 0 (by first | exact h1 | (simp (disch := omega) only [tg_nwA, im_nwA, rf_nwA, jm_nwA, tg_sI, im_sI, rf_sI, jm_sI, tg_sR, im_sR, rf_sR, jm_sR, u1_n, u1_s, u2_n, u2_s]; exact h1) | (simp (disch := omega) only [tg_nwA, im_nwA, rf_nwA, jm_nwA, tg_sI, im_sI, rf_sI, jm_sI, tg_sR, im_sR, rf_sR, jm_sR, u1_n, u1_s, u2_n, u2_s]; done)) dX3_init_15 ?_
  refine gN_iconst 0 dX3_init_18 (by decide) ?_
  refine g_istore_n 2 [(2, .int (nI (0))), (0, .ref (A)), (1, .ref (r))] dX3_init_19 rfl (Nat.le_of_ble_eq_true rfl) rfl ?_
  refine g_pick [0, 1, 2] rfl ?_
  refine lp_X3_init g h4 hrA 30 0 rfl _ rfl (fun x hx1 => ⟨⟨?_, ?_, ?_⟩, fun q => ?_⟩) ?_ ?_ ?_ ?_
  · simp (disch := omega) only [tg_nwA, im_nwA, rf_nwA, jm_nwA, tg_sI, im_sI, rf_sI, jm_sI, tg_sR, im_sR, rf_sR, jm_sR, u1_n, u1_s, u2_n, u2_s]
  · rw [im_sI, u2_o _ _ _ _ (by omega)]; simp (disch := omega) only [tg_nwA, im_nwA, rf_nwA, jm_nwA, tg_sI, im_sI, rf_sI, jm_sI, tg_sR, im_sR, rf_sR, jm_sR, u1_n, u1_s, u2_n, u2_s]
  · simp (disch := omega) only [tg_nwA, im_nwA, rf_nwA, jm_nwA, tg_sI, im_sI, rf_sI, jm_sI, tg_sR, im_sR, rf_sR, jm_sR, u1_n, u1_s, u2_n, u2_s]
  · rw [rf_sI, rf_sR]; show u2 (rf (nwA m0 (A + 1) (13, 30))) A 0 (some (A + 1)) x = _; rw [u2_o _ _ _ _ (by omega)]; simp (disch := omega) only [tg_nwA, im_nwA, rf_nwA, jm_nwA, tg_sI, im_sI, rf_sI, jm_sI, tg_sR, im_sR, rf_sR, jm_sR, u1_n, u1_s, u2_n, u2_s]
  · simp (disch := omega) only [tg_nwA, im_nwA, rf_nwA, jm_nwA, tg_sI, im_sI, rf_sI, jm_sI, tg_sR, im_sR, rf_sR, jm_sR, u1_n, u1_s, u2_n, u2_s]; exact h1
  · simp (disch := omega) only [tg_nwA, im_nwA, rf_nwA, jm_nwA, tg_sI, im_sI, rf_sI, jm_sI, tg_sR, im_sR, rf_sR, jm_sR, u1_n, u1_s, u2_n, u2_s]
  · simp (disch := omega) only [tg_nwA, im_nwA, rf_nwA, jm_nwA, tg_sI, im_sI, rf_sI, jm_sI, tg_sR, im_sR, rf_sR, jm_sR, u1_n, u1_s, u2_n, u2_s]
  · simp (disch := omega) only [tg_nwA, im_nwA, rf_nwA, jm_nwA, tg_sI, im_sI, rf_sI, jm_sI, tg_sR, im_sR, rf_sR, jm_sR, u1_n, u1_s, u2_n, u2_s]
set_option maxRecDepth 100000 in
theorem cn_X4_init0 (g : Gp) {m : Mm} {q C n : Nat} (ht : tg m q = (4, 0)) (hC : tg m C = (11, 0)) (hfz : fz m = n) (hq : q < n) (hCn : C < n) : Cn g (MX4_init (2, 8)) [.ref q, .ref C, .int (nI 0), .int (nI 0)] m (fun r1 m1 => r1 = Sum.inl none ∧ fz m1 = n + 2 ∧ ∀ x, x < n → (tg m1 x = tg m x ∧ jm m1 x = jm m x) ∧ (x ≠ q → im m1 x = im m x ∧ rf m1 x = rf m x)) := by
  refine Cn.of pn_X4 (Nat.le_of_ble_eq_true rfl) rfl ?_
  refine g_aload_n 0 dX4_init_0 rfl rfl ?_
  refine g_objInit moX4_3 in_obj co_obj (Nat.le_of_ble_eq_true rfl) (by exact Nat.le_of_ble_eq_true rfl) dX4_init_1 ?_
  refine gN_iconst 0 dX4_init_4 (by decide) ?_
  refine g_iload_n 2 dX4_init_5 rfl rfl ?_
  refine gd_callS _ _ _ _ (cn_J9_max_7cf53 g (0, 0) (a := 0) (b := 0) (by omega) (by omega)) ⟨rfl, rfl⟩ (ok_J9_max_7cf53 _) mlX4_9 st_J9_max_7cf53 rfl ⟨Nat.le_of_ble_eq_true rfl, Nat.le_of_ble_eq_true rfl⟩ (by exact Nat.le_of_ble_eq_true rfl) ⟨Nat.le_of_ble_eq_true rfl, Nat.le_of_ble_eq_true rfl⟩ dX4_init_6 rfl ?_
  refine g_ei (nI 0) rfl ?_
  refine g_istore 4 [(4, .int (nI (0))), (0, .ref (q)), (1, .ref (C)), (2, .int (nI (0))), (3, .int (nI (0)))] dX4_init_9 (Nat.le_of_ble_eq_true rfl) rfl ?_
  refine g_aload_n 0 dX4_init_11 rfl rfl ?_
  refine gN_iconst 0 dX4_init_12 (by decide) ?_
  refine g_iload_n 3 dX4_init_13 rfl rfl ?_
  refine g_aload_n 1 dX4_init_14 rfl rfl ?_
  refine gN_alen 11 0 (by first | exact hC | (simp (disch := omega) only [tg_nwA, im_nwA, rf_nwA, jm_nwA, tg_sI, im_sI, rf_sI, jm_sI, tg_sR, im_sR, rf_sR, jm_sR, u1_n, u1_s, u2_n, u2_s]; exact hC) | (simp (disch := omega) only [tg_nwA, im_nwA, rf_nwA, jm_nwA, tg_sI, im_sI, rf_sI, jm_sI, tg_sR, im_sR, rf_sR, jm_sR, u1_n, u1_s, u2_n, u2_s]; done)) (by decide) dX4_init_15 ?_
  refine gd_callS _ _ _ _ (cn_J9_min_7cf53 g (0, 0) (a := 0) (b := 0) (by omega) (by omega)) ⟨rfl, rfl⟩ (ok_J9_min_7cf53 _) mlX4_15 st_J9_min_7cf53 rfl ⟨Nat.le_of_ble_eq_true rfl, Nat.le_of_ble_eq_true rfl⟩ (by exact Nat.le_of_ble_eq_true rfl) ⟨Nat.le_of_ble_eq_true rfl, Nat.le_of_ble_eq_true rfl⟩ dX4_init_16 rfl ?_
  refine g_ei (nI 0) rfl ?_
  refine g_iload 4 dX4_init_19 rfl ?_
  refine gN_isub (0) dX4_init_21 (by first | omega | exact b01_lt _) rfl ?_
  refine gd_callS _ _ _ _ (cn_J9_max_7cf53 g (0, 0) (a := 0) (b := 0) (by omega) (by omega)) ⟨rfl, rfl⟩ (ok_J9_max_7cf53 _) mlX4_9 st_J9_max_7cf53 rfl ⟨Nat.le_of_ble_eq_true rfl, Nat.le_of_ble_eq_true rfl⟩ (by exact Nat.le_of_ble_eq_true rfl) ⟨Nat.le_of_ble_eq_true rfl, Nat.le_of_ble_eq_true rfl⟩ dX4_init_22 rfl ?_
  refine g_ei (nI 0) rfl ?_
  refine g_putIF ffX4_18 rfl rfl 0 (by first | exact ht | (simp (disch := omega) only [tg_nwA, im_nwA, rf_nwA, jm_nwA, tg_sI, im_sI, rf_sI, jm_sI, tg_sR, im_sR, rf_sR, jm_sR, u1_n, u1_s, u2_n, u2_s]; exact ht) | (simp (disch := omega) only [tg_nwA, im_nwA, rf_nwA, jm_nwA, tg_sI, im_sI, rf_sI, jm_sI, tg_sR, im_sR, rf_sR, jm_sR, u1_n, u1_s, u2_n, u2_s]; done)) dX4_init_25 ?_
  refine g_aload_n 0 dX4_init_28 rfl rfl ?_
  refine g_aload_n 0 dX4_init_29 rfl rfl ?_
  refine gN_getI flX4_18 rfl 0 (by first | exact ht | (simp (disch := omega) only [tg_nwA, im_nwA, rf_nwA, jm_nwA, tg_sI, im_sI, rf_sI, jm_sI, tg_sR, im_sR, rf_sR, jm_sR, u1_n, u1_s, u2_n, u2_s]; exact ht) | (simp (disch := omega) only [tg_nwA, im_nwA, rf_nwA, jm_nwA, tg_sI, im_sI, rf_sI, jm_sI, tg_sR, im_sR, rf_sR, jm_sR, u1_n, u1_s, u2_n, u2_s]; done)) dX4_init_30 ?_
  refine g_ei (nI (0)) (by simp (disch := omega) only [tg_nwA, im_nwA, rf_nwA, jm_nwA, tg_sI, im_sI, rf_sI, jm_sI, tg_sR, im_sR, rf_sR, jm_sR, u1_n, u1_s, u2_n, u2_s]) ?_
  refine g_newIA (n) 0 (hfz) (by omega) ⟨Nat.le_of_ble_eq_true rfl, Nat.le_of_ble_eq_true rfl⟩ dX4_init_33 ?_
  refine g_putRF ffX4_24 rfl rfl 0 (by first | exact ht | (simp (disch := omega) only [tg_nwA, im_nwA, rf_nwA, jm_nwA, tg_sI, im_sI, rf_sI, jm_sI, tg_sR, im_sR, rf_sR, jm_sR, u1_n, u1_s, u2_n, u2_s]; exact ht) | (simp (disch := omega) only [tg_nwA, im_nwA, rf_nwA, jm_nwA, tg_sI, im_sI, rf_sI, jm_sI, tg_sR, im_sR, rf_sR, jm_sR, u1_n, u1_s, u2_n, u2_s]; done)) dX4_init_35 ?_
  refine g_aload_n 0 dX4_init_38 rfl rfl ?_
  refine gN_bipush 8 dX4_init_39 (by decide) ?_
  refine g_newIA (n + 1) 8 (rfl) (by omega) ⟨Nat.le_of_ble_eq_true rfl, Nat.le_of_ble_eq_true rfl⟩ dX4_init_41 ?_
  refine g_putRF ffX4_28 rfl rfl 0 (by first | exact ht | (simp (disch := omega) only [tg_nwA, im_nwA, rf_nwA, jm_nwA, tg_sI, im_sI, rf_sI, jm_sI, tg_sR, im_sR, rf_sR, jm_sR, u1_n, u1_s, u2_n, u2_s]; exact ht) | (simp (disch := omega) only [tg_nwA, im_nwA, rf_nwA, jm_nwA, tg_sI, im_sI, rf_sI, jm_sI, tg_sR, im_sR, rf_sR, jm_sR, u1_n, u1_s, u2_n, u2_s]; done)) dX4_init_43 ?_
  refine gN_iconst 0 dX4_init_46 (by decide) ?_
  refine g_istore 5 [(5, .int (nI (0))), (4, .int (nI (0))), (0, .ref (q)), (1, .ref (C)), (2, .int (nI (0))), (3, .int (nI (0)))] dX4_init_47 (Nat.le_of_ble_eq_true rfl) rfl ?_
  refine g_iload 5 dX4_init_49 rfl ?_
  refine g_aload_n 0 dX4_init_51 rfl rfl ?_
  refine gN_getI flX4_18 rfl 0 (by first | exact ht | (simp (disch := omega) only [tg_nwA, im_nwA, rf_nwA, jm_nwA, tg_sI, im_sI, rf_sI, jm_sI, tg_sR, im_sR, rf_sR, jm_sR, u1_n, u1_s, u2_n, u2_s]; exact ht) | (simp (disch := omega) only [tg_nwA, im_nwA, rf_nwA, jm_nwA, tg_sI, im_sI, rf_sI, jm_sI, tg_sR, im_sR, rf_sR, jm_sR, u1_n, u1_s, u2_n, u2_s]; done)) dX4_init_52 ?_
  refine g_ei (nI (0)) (by simp (disch := omega) only [tg_nwA, im_nwA, rf_nwA, jm_nwA, tg_sI, im_sI, rf_sI, jm_sI, tg_sR, im_sR, rf_sR, jm_sR, u1_n, u1_s, u2_n, u2_s]) ?_
  refine gN_icmp_ge 111 dX4_init_55 (by decide) (by first | omega | exact b01_lt _) (by first | omega | exact b01_lt _) (fun h_55 => ?_) (fun h_55 => ?_)
  · refine g_vret rfl dX4_init_111 ⟨Nat.le_of_ble_eq_true rfl, Nat.le_of_ble_eq_true rfl⟩ ?_
    refine ⟨rfl, rfl, fun x hx => ⟨⟨?_, ?_⟩, fun hxq => ⟨?_, ?_⟩⟩⟩
    · simp (disch := omega) only [tg_nwA, im_nwA, rf_nwA, jm_nwA, tg_sI, im_sI, rf_sI, jm_sI, tg_sR, im_sR, rf_sR, jm_sR, u1_n, u1_s, u2_n, u2_s]
    · simp (disch := omega) only [tg_nwA, im_nwA, rf_nwA, jm_nwA, tg_sI, im_sI, rf_sI, jm_sI, tg_sR, im_sR, rf_sR, jm_sR, u1_n, u1_s, u2_n, u2_s]
    · show u1 (u1 (u2 (im m) q 0 (nI 0)) n (fun _ => 0)) (n + 1) (fun _ => 0) x = _
      rw [u1_n _ _ _ (by omega), u1_n _ _ _ (by omega), u2_o _ _ _ _ hxq]
    · show u2 (u1 (u2 (u1 (rf m) n (fun _ => none)) q 1 (some n)) (n + 1) (fun _ => none)) q 2 (some (n + 1)) x = _
      rw [u2_o _ _ _ _ hxq, u1_n _ _ _ (by omega), u2_o _ _ _ _ hxq, u1_n _ _ _ (by omega)]
  · exact absurd h_55 (by decide)
