theorem RpT.fr {m m1 : Mm} {S : Nat} {z : Nat → Int32} {n : Nat} (h : RpT m S z n) (hn : n ≤ 4) (ha : ∀ x, S + 12 ≤ x → x < S + 16 → im m1 x = im m x) : RpT m1 S z n := fun p hp => by rw [ha _ (by omega) (by omega)]; exact h p hp
theorem RpB.fr {m m1 : Mm} {S : Nat} {z : Nat → Int32} {n : Nat} (h : RpB m S z n) (hn : n ≤ 5) (ha : ∀ x, S + 16 ≤ x → x < S + 21 → im m1 x = im m x) : RpB m1 S z n := fun p hp => by rw [ha _ (by omega) (by omega)]; exact h p hp
theorem RpW.fr {m m1 : Mm} {S : Nat} {z : Nat → Int32} {n : Nat} (h : RpW m S z n) (hn : n ≤ 8) (ha : ∀ x, S + 21 ≤ x → x < S + 37 → im m1 x = im m x) : RpW m1 S z n := fun p hp => ⟨fun t ht => by rw [ha _ (by omega) (by omega)]; exact (h p hp).1 t ht, by rw [ha _ (by omega) (by omega)]; exact (h p hp).2⟩
theorem RpS.fr {m m1 : Mm} {B S : Nat} {z : Nat → Int32} {n : Nat} (h : RpS m B S z n) (hn : n ≤ 10) (ha : ∀ x, S + 37 ≤ x → x < S + 47 → im m1 x = im m x ∧ rf m1 x = rf m x) (hz : fz m ≤ fz m1) (hb : ∀ x, B ≤ x → x < fz m → agr m m1 x) : RpS m1 B S z n := fun s hs => ⟨(h s hs).1.fr (ha _ (by omega) (by omega)).1, (h s hs).2.fr (by rw [(ha _ (by omega) (by omega)).2]) hz hb⟩
theorem StT.w {m : Mm} {S : Nat} (h : StT m S) {I : Nat → Nat → Int32} {R : Nat → Nat → Option Nat} (hr : ∀ x, x ≠ S + 11 → (x < S + 37 ∨ S + 47 ≤ x) → R x = rf m x) : StT (wM m I R) S := h.fr (fun _ _ _ => rfl) (fun x h1 h2 h3 => hr x h3 (by omega))
set_option maxRecDepth 100000 in
theorem cs_T (g : Gp) (cs : Nat × Nat) {m : Mm} {S T B c : Nat} {z : Nat → Int32} (hS : StT m S) (hT : StT m T) (hR : Rp m B T z) (hz : ZOk c z) (hd : S + 47 ≤ T ∨ T + 47 ≤ S) (hSB : S + 47 ≤ B) {Q : Rs → Mm → Prop} (K : ∀ I, FrB m (S + 12) (S + 16) I (rf m) → RpT (wM m I (rf m)) S z 4 → G g (MX6_copyFrom cs) Q 42 [(2, .int (nI (4))), (0, .ref (S)), (1, .ref (T))] [] (0, 0) (wM m I (rf m))) : ∀ d i : Nat, i + d = 4 → ∀ I, FrB m (S + 12) (S + 16) I (rf m) → RpT (wM m I (rf m)) S z i → G g (MX6_copyFrom cs) Q 16 [(2, .int (nI (i))), (0, .ref (S)), (1, .ref (T))] [] (0, 0) (wM m I (rf m)) := by
  intro d
  induction d with
  | zero =>
    intro i hi I hF hP
    obtain rfl : i = 4 := hi
    refine g_iload_n 2 dX6_copyFrom_16 rfl rfl ?_
    refine gN_iconst 4 dX6_copyFrom_17 (by decide) ?_
    refine gN_icmp_ge 42 dX6_copyFrom_18 (by decide) (by first | omega | exact b01_lt _) (by first | omega | exact b01_lt _) (fun h_18 => ?_) (fun h_18 => ?_)
    · exact K I hF hP
    · exact absurd h_18 (by decide)
  | succ d ih =>
    intro i hi I hF hP
    refine g_iload_n 2 dX6_copyFrom_16 rfl rfl ?_
    refine gN_iconst 4 dX6_copyFrom_17 (by decide) ?_
    refine gN_icmp_ge 42 dX6_copyFrom_18 (by decide) (by first | omega | exact b01_lt _) (by first | omega | exact b01_lt _) (fun h_18 => ?_) (fun h_18 => ?_)
    · exfalso; omega
    · refine g_aload_n 0 dX6_copyFrom_21 rfl rfl ?_
      refine gN_getR (S + 2) flX6_17 (fun _ _ _ => rfl) 0 (hS.t) (hS.r1) dX6_copyFrom_22 ?_
      refine g_iload_n 2 dX6_copyFrom_25 rfl rfl ?_
      refine gN_aald 17 4 (S + 12 + i) (hS.t2) (by decide) (by first | omega | exact b01_lt _) (by first | omega | exact b01_lt _) (hS.rT (by omega)) dX6_copyFrom_26 ?_
      refine g_aload_n 1 dX6_copyFrom_27 rfl rfl ?_
      refine gN_getR (T + 2) flX6_17 (fun _ _ _ => rfl) 0 (hT.t) (hT.r1) dX6_copyFrom_28 ?_
      refine g_iload_n 2 dX6_copyFrom_31 rfl rfl ?_
      refine gN_aald 17 4 (T + 12 + i) (hT.t2) (by decide) (by first | omega | exact b01_lt _) (by first | omega | exact b01_lt _) (hT.rT (by omega)) dX6_copyFrom_32 ?_
      refine gd_callV _ _ _ _ (cn_X8_copyFrom g (0, 0) (m := wM m I (rf m)) (A := S + 12 + i) (C := T + 12 + i) (by omega) (hS.tT (by omega)) (hT.tT (by omega))) ⟨rfl, rfl⟩ (ok_X8_copyFrom _) mlX6_72 in_X8_copyFrom se_X8_copyFrom 8 0 (hS.tT (by omega)) rfl rfl rfl ⟨Nat.le_of_ble_eq_true rfl, Nat.le_of_ble_eq_true rfl⟩ (by exact Nat.le_of_ble_eq_true rfl) ⟨Nat.zero_le _, Nat.zero_le _⟩ dX6_copyFrom_33 rfl ?_
      refine g_iinc 2 (nI (i + 1)) 0 [(2, .int (nI (i + 1))), (0, .ref (S)), (1, .ref (T))] dX6_copyFrom_36 rfl (nI_add i 1) (Nat.le_of_ble_eq_true rfl) rfl ?_
      refine g_goto 16 dX6_copyFrom_39 (by decide) ?_
      refine g_pick [0, 1, 2] rfl ?_
      refine ih (i + 1) (by omega) _ (hF.c _ (by omega) (by omega)) (fun p hp => ?_)
      by_cases e : p = i
      · subst e
        have h9 := hR.2.1 p (by omega)
        rw [← (hF (T + 12 + p) (by omega)).1] at h9
        rw [im_wM, cpI_in _ _ _ _ _ (by omega) (by omega), cpI_in _ _ _ _ _ (by omega) (by omega), cpI_in _ _ _ _ _ (by omega) (by omega), cpI_in _ _ _ _ _ (by omega) (by omega), cpI_in _ _ _ _ _ (by omega) (by omega)]
        exact h9
      · rw [im_wM, cpI_ne _ _ _ _ _ (by omega)]
        exact hP p (by omega)
set_option maxRecDepth 100000 in
theorem cs_B (g : Gp) (cs : Nat × Nat) {m : Mm} {S T B c : Nat} {z : Nat → Int32} (hS : StT m S) (hT : StT m T) (hR : Rp m B T z) (hz : ZOk c z) (hd : S + 47 ≤ T ∨ T + 47 ≤ S) (hSB : S + 47 ≤ B) {Q : Rs → Mm → Prop} (K : ∀ I, FrB m (S + 16) (S + 21) I (rf m) → RpB (wM m I (rf m)) S z 5 → G g (MX6_copyFrom cs) Q 70 [(2, .int (nI (5))), (0, .ref (S)), (1, .ref (T))] [] (0, 0) (wM m I (rf m))) : ∀ d i : Nat, i + d = 5 → ∀ I, FrB m (S + 16) (S + 21) I (rf m) → RpB (wM m I (rf m)) S z i → G g (MX6_copyFrom cs) Q 44 [(2, .int (nI (i))), (0, .ref (S)), (1, .ref (T))] [] (0, 0) (wM m I (rf m)) := by
  intro d
  induction d with
  | zero =>
    intro i hi I hF hP
    obtain rfl : i = 5 := hi
    refine g_iload_n 2 dX6_copyFrom_44 rfl rfl ?_
    refine gN_iconst 5 dX6_copyFrom_45 (by decide) ?_
    refine gN_icmp_ge 70 dX6_copyFrom_46 (by decide) (by first | omega | exact b01_lt _) (by first | omega | exact b01_lt _) (fun h_46 => ?_) (fun h_46 => ?_)
    · exact K I hF hP
    · exact absurd h_46 (by decide)
  | succ d ih =>
    intro i hi I hF hP
    refine g_iload_n 2 dX6_copyFrom_44 rfl rfl ?_
    refine gN_iconst 5 dX6_copyFrom_45 (by decide) ?_
    refine gN_icmp_ge 70 dX6_copyFrom_46 (by decide) (by first | omega | exact b01_lt _) (by first | omega | exact b01_lt _) (fun h_46 => ?_) (fun h_46 => ?_)
    · exfalso; omega
    · refine g_aload_n 0 dX6_copyFrom_49 rfl rfl ?_
      refine gN_getR (S + 3) flX6_23 (fun _ _ _ => rfl) 0 (hS.t) (hS.r2) dX6_copyFrom_50 ?_
      refine g_iload_n 2 dX6_copyFrom_53 rfl rfl ?_
      refine gN_aald 12 5 (S + 16 + i) (hS.t3) (by decide) (by first | omega | exact b01_lt _) (by first | omega | exact b01_lt _) (hS.rB (by omega)) dX6_copyFrom_54 ?_
      refine g_aload_n 1 dX6_copyFrom_55 rfl rfl ?_
      refine gN_getR (T + 3) flX6_23 (fun _ _ _ => rfl) 0 (hT.t) (hT.r2) dX6_copyFrom_56 ?_
      refine g_iload_n 2 dX6_copyFrom_59 rfl rfl ?_
      refine gN_aald 12 5 (T + 16 + i) (hT.t3) (by decide) (by first | omega | exact b01_lt _) (by first | omega | exact b01_lt _) (hT.rB (by omega)) dX6_copyFrom_60 ?_
      refine gd_callV _ _ _ _ (cn_X0_copyFrom g (0, 0) (m := wM m I (rf m)) (A := S + 16 + i) (C := T + 16 + i) (by omega) (hS.tB (by omega)) (hT.tB (by omega))) ⟨rfl, rfl⟩ (ok_X0_copyFrom _) mlX6_76 in_X0_copyFrom se_X0_copyFrom 0 0 (hS.tB (by omega)) rfl rfl rfl ⟨Nat.le_of_ble_eq_true rfl, Nat.le_of_ble_eq_true rfl⟩ (by exact Nat.le_of_ble_eq_true rfl) ⟨Nat.zero_le _, Nat.zero_le _⟩ dX6_copyFrom_61 rfl ?_
      refine g_iinc 2 (nI (i + 1)) 0 [(2, .int (nI (i + 1))), (0, .ref (S)), (1, .ref (T))] dX6_copyFrom_64 rfl (nI_add i 1) (Nat.le_of_ble_eq_true rfl) rfl ?_
      refine g_goto 44 dX6_copyFrom_67 (by decide) ?_
      refine g_pick [0, 1, 2] rfl ?_
      refine ih (i + 1) (by omega) _ (hF.c _ (by omega) (by omega)) (fun p hp => ?_)
      by_cases e : p = i
      · subst e
        have h9 := hR.2.2.1 p (by omega)
        rw [← (hF (T + 16 + p) (by omega)).1] at h9
        rw [im_wM, cpI_in _ _ _ _ _ (by omega) (by omega), cpI_in _ _ _ _ _ (by omega) (by omega), cpI_in _ _ _ _ _ (by omega) (by omega)]
        exact h9
      · rw [im_wM, cpI_ne _ _ _ _ _ (by omega)]
        exact hP p (by omega)
set_option maxRecDepth 100000 in
theorem cs_W (g : Gp) (cs : Nat × Nat) {m : Mm} {S T B c : Nat} {z : Nat → Int32} (hS : StT m S) (hT : StT m T) (hR : Rp m B T z) (hz : ZOk c z) (hd : S + 47 ≤ T ∨ T + 47 ≤ S) (hSB : S + 47 ≤ B) {Q : Rs → Mm → Prop} (K : ∀ I, FrB m (S + 21) (S + 37) I (rf m) → RpW (wM m I (rf m)) S z 8 → G g (MX6_copyFrom cs) Q 99 [(2, .int (nI (8))), (0, .ref (S)), (1, .ref (T))] [] (0, 0) (wM m I (rf m))) : ∀ d i : Nat, i + d = 8 → ∀ I, FrB m (S + 21) (S + 37) I (rf m) → RpW (wM m I (rf m)) S z i → G g (MX6_copyFrom cs) Q 72 [(2, .int (nI (i))), (0, .ref (S)), (1, .ref (T))] [] (0, 0) (wM m I (rf m)) := by
  intro d
  induction d with
  | zero =>
    intro i hi I hF hP
    obtain rfl : i = 8 := hi
    refine g_iload_n 2 dX6_copyFrom_72 rfl rfl ?_
    refine gN_bipush 8 dX6_copyFrom_73 (by decide) ?_
    refine gN_icmp_ge 99 dX6_copyFrom_75 (by decide) (by first | omega | exact b01_lt _) (by first | omega | exact b01_lt _) (fun h_75 => ?_) (fun h_75 => ?_)
    · exact K I hF hP
    · exact absurd h_75 (by decide)
  | succ d ih =>
    intro i hi I hF hP
    refine g_iload_n 2 dX6_copyFrom_72 rfl rfl ?_
    refine gN_bipush 8 dX6_copyFrom_73 (by decide) ?_
    refine gN_icmp_ge 99 dX6_copyFrom_75 (by decide) (by first | omega | exact b01_lt _) (by first | omega | exact b01_lt _) (fun h_75 => ?_) (fun h_75 => ?_)
    · exfalso; omega
    · refine g_aload_n 0 dX6_copyFrom_78 rfl rfl ?_
      refine gN_getR (S + 4) flX6_29 (fun _ _ _ => rfl) 0 (hS.t) (hS.r3) dX6_copyFrom_79 ?_
      refine g_iload_n 2 dX6_copyFrom_82 rfl rfl ?_
      refine gN_aald 16 8 (S + 21 + 2 * i) (hS.t4) (by decide) (by first | omega | exact b01_lt _) (by first | omega | exact b01_lt _) (hS.rW (by omega)) dX6_copyFrom_83 ?_
      refine g_aload_n 1 dX6_copyFrom_84 rfl rfl ?_
      refine gN_getR (T + 4) flX6_29 (fun _ _ _ => rfl) 0 (hT.t) (hT.r3) dX6_copyFrom_85 ?_
      refine g_iload_n 2 dX6_copyFrom_88 rfl rfl ?_
      refine gN_aald 16 8 (T + 21 + 2 * i) (hT.t4) (by decide) (by first | omega | exact b01_lt _) (by first | omega | exact b01_lt _) (hT.rW (by omega)) dX6_copyFrom_89 ?_
      refine gd_callV _ _ _ _ (cn_X7_copyFrom g (0, 0) (m := wM m I (rf m)) (A := S + 21 + 2 * i) (P := S + 22 + 2 * i) (C := T + 21 + 2 * i) (D := T + 22 + 2 * i) (by omega) (by omega) (hS.tW (by omega)) (hS.tP (by omega)) (hS.rP (by omega)) (hT.tW (by omega)) (hT.tP (by omega)) (hT.rP (by omega))) ⟨rfl, rfl⟩ (ok_X7_copyFrom _) mlX6_79 in_X7_copyFrom se_X7_copyFrom 7 0 (hS.tW (by omega)) rfl rfl rfl ⟨Nat.le_of_ble_eq_true rfl, Nat.le_of_ble_eq_true rfl⟩ (by exact Nat.le_of_ble_eq_true rfl) ⟨Nat.zero_le _, Nat.zero_le _⟩ dX6_copyFrom_90 rfl ?_
      refine g_iinc 2 (nI (i + 1)) 0 [(2, .int (nI (i + 1))), (0, .ref (S)), (1, .ref (T))] dX6_copyFrom_93 rfl (nI_add i 1) (Nat.le_of_ble_eq_true rfl) rfl ?_
      refine g_goto 72 dX6_copyFrom_96 (by decide) ?_
      refine g_pick [0, 1, 2] rfl ?_
      refine ih (i + 1) (by omega) _ ((hF.c _ (by omega) (by omega)).i _ (by omega) (by omega)) (fun p hp => ?_)
      by_cases e : p = i
      · subst e
        refine ⟨fun t ht => ?_, ?_⟩
        · rw [im_wM, u2_o _ _ _ _ (by omega), cpI_in _ _ _ _ _ (by omega) (by omega)]
          show I (T + 22 + 2 * p) (t - 0) = _
          rw [(hF (T + 22 + 2 * p) (by omega)).1]; exact hR.W (by omega) ht
        · rw [im_wM, u2_s]
          show I (T + 21 + 2 * p) 1 = _
          rw [(hF (T + 21 + 2 * p) (by omega)).1]; exact hR.W1 (by omega)
      · refine ⟨fun t ht => ?_, ?_⟩
        · rw [im_wM, u2_o _ _ _ _ (by omega), cpI_ne _ _ _ _ _ (by omega)]; exact (hP p (by omega)).1 t ht
        · rw [im_wM, u2_o _ _ _ _ (by omega), cpI_ne _ _ _ _ _ (by omega)]; exact (hP p (by omega)).2
set_option maxRecDepth 100000 in
theorem cs_S (g : Gp) (cs : Nat × Nat) {m : Mm} {S T B c : Nat} {z : Nat → Int32} (hS : StT m S) (hT : StT m T) (hR : Rp m B T z) (hz : ZOk c z) (hd : S + 47 ≤ T ∨ T + 47 ≤ S) (hSB : S + 47 ≤ B) (hc : im m S 6 = z 0) {Q : Rs → Mm → Prop} (K : ∀ I R, FrB m (S + 37) (S + 47) I R → RpS (wM m I R) B S z (nv (z 0)) → G g (MX6_copyFrom cs) Q 138 [(2, .int (nI (nv (z 0)))), (0, .ref (S)), (1, .ref (T))] [] (0, 0) (wM m I R)) : ∀ d i : Nat, i + d = nv (z 0) → ∀ I R, FrB m (S + 37) (S + 47) I R → RpS (wM m I R) B S z i → G g (MX6_copyFrom cs) Q 109 [(2, .int (nI (i))), (0, .ref (S)), (1, .ref (T))] [] (0, 0) (wM m I R) := by
  have hz0 := hz.n0.hi
  have hsr : ∀ I R, FrB m (S + 37) (S + 47) I R → StT (wM m I R) S := fun I R hF => hS.w (fun x h1 h2 => (hF x (by omega)).2)
  have hcc : ∀ I R, FrB m (S + 37) (S + 47) I R → im (wM m I R) S 6 = nI (nv (z 0)) := fun I R hF => by rw [im_wM, (hF S (by omega)).1, hc]; exact hz.n0.e
  intro d
  induction d with
  | zero =>
    intro i hi I R hF hP
    obtain rfl : i = nv (z 0) := hi
    have hS1 := hsr I R hF
    refine g_iload_n 2 dX6_copyFrom_109 rfl rfl ?_
    refine g_aload_n 0 dX6_copyFrom_110 rfl rfl ?_
    refine gN_getI flX6_39 rfl 0 (hS1.t) dX6_copyFrom_111 ?_
    refine g_ei (nI (nv (z 0))) (hcc I R hF) ?_
    refine gN_icmp_ge 138 dX6_copyFrom_114 (by decide) (by first | omega | exact b01_lt _) (by first | omega | exact b01_lt _) (fun h_114 => ?_) (fun h_114 => ?_)
    · exact K I R hF hP
    · exfalso; omega
  | succ d ih =>
    intro i hi I R hF hP
    have hS1 := hsr I R hF
    have hT1 := hF.st (S := T) (by omega) hT
    have hR1 := hF.rp (S := T) (by omega) (by omega) hR hz0
    obtain ⟨q, hq1, hq2⟩ := hR1.SR (s := i) (by omega)
    have hq := hq2.2.2
    have hsg := hR1.Sg (s := i) (by omega)
    refine g_iload_n 2 dX6_copyFrom_109 rfl rfl ?_
    refine g_aload_n 0 dX6_copyFrom_110 rfl rfl ?_
    refine gN_getI flX6_39 rfl 0 (hS1.t) dX6_copyFrom_111 ?_
    refine g_ei (nI (nv (z 0))) (hcc I R hF) ?_
    refine gN_icmp_ge 138 dX6_copyFrom_114 (by decide) (by first | omega | exact b01_lt _) (by first | omega | exact b01_lt _) (fun h_114 => ?_) (fun h_114 => ?_)
    · exfalso; omega
    · refine g_aload_n 0 dX6_copyFrom_117 rfl rfl ?_
      refine gN_getR (S + 5) flX6_35 (fun _ _ _ => rfl) 0 (hS1.t) (hS1.r4) dX6_copyFrom_118 ?_
      refine g_iload_n 2 dX6_copyFrom_121 rfl rfl ?_
      refine gN_aald 14 10 (S + 37 + i) (hS1.t5) (by decide) (by first | omega | exact b01_lt _) (by first | omega | exact b01_lt _) (hS1.rS (by omega)) dX6_copyFrom_122 ?_
      refine g_aload_n 1 dX6_copyFrom_123 rfl rfl ?_
      refine gN_getR (T + 5) flX6_35 (fun _ _ _ => rfl) 0 (hT1.t) (hT1.r4) dX6_copyFrom_124 ?_
      refine g_iload_n 2 dX6_copyFrom_127 rfl rfl ?_
      refine gN_aald 14 10 (T + 37 + i) (hT1.t5) (by decide) (by first | omega | exact b01_lt _) (by first | omega | exact b01_lt _) (hT1.rS (by omega)) dX6_copyFrom_128 ?_
      refine gd_callV _ _ _ _ (cn_X5_copyFrom g (0, 0) (m := wM m I R) (A := S + 37 + i) (C := T + 37 + i) (r := q) (by omega) (hS.tS (by omega)) (hT.tS (by omega)) hq1) ⟨rfl, rfl⟩ (ok_X5_copyFrom _) mlX6_82 in_X5_copyFrom se_X5_copyFrom 5 0 (hS1.tS (by omega)) rfl rfl rfl ⟨Nat.le_of_ble_eq_true rfl, Nat.le_of_ble_eq_true rfl⟩ (by exact Nat.le_of_ble_eq_true rfl) ⟨Nat.zero_le _, Nat.zero_le _⟩ dX6_copyFrom_129 rfl ?_
      refine g_iinc 2 (nI (i + 1)) 0 [(2, .int (nI (i + 1))), (0, .ref (S)), (1, .ref (T))] dX6_copyFrom_132 rfl (nI_add i 1) (Nat.le_of_ble_eq_true rfl) rfl ?_
      refine g_goto 109 dX6_copyFrom_135 (by decide) ?_
      refine g_pick [0, 1, 2] rfl ?_
      refine ih (i + 1) (by omega) _ _ ((hF.c _ (by omega) (by omega)).r _ (by omega) (by omega)) (fun p hp => ?_)
      have hF2 := (hF.c (a := S + 37 + i) (d := 1) (n := 9) (fun j => I (T + 37 + i) (1 + j)) (by omega) (by omega)).r (a := S + 37 + i) (k := 0) (some q) (by omega) (by omega)
      by_cases e : p = i
      · subst e
        refine ⟨?_, ⟨q, ?_, ?_⟩⟩
        · unfold SgI at hsg ⊢
          rw [im_wM] at hsg ⊢
          rw [cpI_in _ _ _ _ _ (by omega) (by omega), cpI_in _ _ _ _ _ (by omega) (by omega), cpI_in _ _ _ _ _ (by omega) (by omega), cpI_in _ _ _ _ _ (by omega) (by omega), cpI_in _ _ _ _ _ (by omega) (by omega), cpI_in _ _ _ _ _ (by omega) (by omega), cpI_in _ _ _ _ _ (by omega) (by omega), cpI_in _ _ _ _ _ (by omega) (by omega), cpI_in _ _ _ _ _ (by omega) (by omega)]
          exact hsg
        · rw [rf_wM, u2_s]
        · have h8 := hq2.fr (m1 := wM m (cpI I (S + 37 + p) 1 9 (fun j => I (T + 37 + p) (1 + j))) (u2 R (S + 37 + p) 0 (some q))) (Nat.le_refl _) (fun x h1 h2 => ⟨rfl, by rw [im_wM, im_wM, cpI_ne _ _ _ _ _ (by omega)], by rw [rf_wM, rf_wM, u2_o _ _ _ _ (by omega)]⟩)
          exact h8
      · have h7 := hP p (by omega)
        refine ⟨h7.1.fr ?_, h7.2.fr ?_ (Nat.le_refl _) (fun x h1 h2 => ⟨rfl, ?_, ?_⟩)⟩
        · rw [im_wM, im_wM, cpI_ne _ _ _ _ _ (by omega)]
        · rw [rf_wM, rf_wM, u2_o _ _ _ _ (by omega)]
        · rw [im_wM, im_wM, cpI_ne _ _ _ _ _ (by omega)]
        · rw [rf_wM, rf_wM, u2_o _ _ _ _ (by omega)]
set_option maxRecDepth 100000 in
theorem lp_X3_copyFrom (g : Gp) (cs : Nat × Nat) {m : Mm} {S T B c : Nat} {z : Nat → Int32} (hS : StT m S) (hT : StT m T) (hR : Rp m B T z) (hz : ZOk c z) (hd : S + 47 ≤ T ∨ T + 47 ≤ S) (hSB : S + 47 ≤ B) : ∀ d i : Nat, i + d = nv (z 1) → ∀ R, (∀ x, x ≠ S + 11 → R x = rf m x) → RpM (wM m (u2 (im m) (S + 10) 1 (z 1)) R) B S z i → G g (MX3_copyFrom cs) (mQ m none (fun I R => I = u2 (im m) (S + 10) 1 (z 1) ∧ (∀ x, x ≠ S + 11 → R x = rf m x) ∧ RpM (wM m I R) B S z (nv (z 1)))) 10 [(2, .int (nI (i))), (0, .ref (S + 10)), (1, .ref (T + 10))] [] (0, 0) (wM m (u2 (im m) (S + 10) 1 (z 1)) R) := by
  have hz1 := hz.n1.hi
  have hcc : u2 (im m) (S + 10) 1 (z 1) (S + 10) 1 = nI (nv (z 1)) := by rw [u2_s]; exact hz.n1.e
  intro d
  induction d with
  | zero =>
    intro i hi R hF hP
    obtain rfl : i = nv (z 1) := hi
    refine g_iload_n 2 dX3_copyFrom_10 rfl rfl ?_
    refine g_aload_n 0 dX3_copyFrom_11 rfl rfl ?_
    refine gN_getI flX3_17 rfl 0 (hS.t10) dX3_copyFrom_12 ?_
    refine g_ei (nI (nv (z 1))) (hcc) ?_
    refine gN_icmp_ge 36 dX3_copyFrom_15 (by decide) (by first | omega | exact b01_lt _) (by first | omega | exact b01_lt _) (fun h_15 => ?_) (fun h_15 => ?_)
    · refine g_vret rfl dX3_copyFrom_36 ⟨Nat.zero_le _, Nat.zero_le _⟩ ?_
      exact ⟨rfl, _, R, rfl, rfl, hF, hP⟩
    · exfalso; omega
  | succ d ih =>
    intro i hi R hF hP
    obtain ⟨q, hq1, hq2⟩ := hR.M (r := i) (by omega)
    have hq := hq2.2.2
    refine g_iload_n 2 dX3_copyFrom_10 rfl rfl ?_
    refine g_aload_n 0 dX3_copyFrom_11 rfl rfl ?_
    refine gN_getI flX3_17 rfl 0 (hS.t10) dX3_copyFrom_12 ?_
    refine g_ei (nI (nv (z 1))) (hcc) ?_
    refine gN_icmp_ge 36 dX3_copyFrom_15 (by decide) (by first | omega | exact b01_lt _) (by first | omega | exact b01_lt _) (fun h_15 => ?_) (fun h_15 => ?_)
    · exfalso; omega
    · refine g_aload_n 0 dX3_copyFrom_18 rfl rfl ?_
      refine gN_getR (S + 11) flX3_11 (fun _ _ _ => rfl) 0 (hS.t10) ((congrFun (hF (S + 10) (by omega)) 0).trans hS.r10) dX3_copyFrom_19 ?_
      refine g_iload_n 2 dX3_copyFrom_22 rfl rfl ?_
      refine g_aload_n 1 dX3_copyFrom_23 rfl rfl ?_
      refine gN_getR (T + 11) flX3_11 (fun _ _ _ => rfl) 0 (hT.t10) ((congrFun (hF (T + 10) (by omega)) 0).trans hT.r10) dX3_copyFrom_24 ?_
      refine g_iload_n 2 dX3_copyFrom_27 rfl rfl ?_
      refine gN_aald 13 30 (q) (hT.t11) (by decide) (by first | omega | exact b01_lt _) (by first | omega | exact b01_lt _) ((congrFun (hF (T + 11) (by omega)) _).trans hq1) dX3_copyFrom_28 ?_
      refine gN_aast 13 30 4 0 (hS.t11) (by decide) (by first | omega | exact b01_lt _) (by first | omega | exact b01_lt _) (hq.t) rfl rfl dX3_copyFrom_29 ?_
      refine g_iinc 2 (nI (i + 1)) 0 [(2, .int (nI (i + 1))), (0, .ref (S + 10)), (1, .ref (T + 10))] dX3_copyFrom_30 rfl (nI_add i 1) (Nat.le_of_ble_eq_true rfl) rfl ?_
      refine g_goto 10 dX3_copyFrom_33 (by decide) ?_
      refine g_pick [0, 1, 2] rfl ?_
      refine ih (i + 1) (by omega) _ (fun x hx => ?_) (fun p hp => ?_)
      · rw [u2_o _ _ _ _ hx]; exact hF x hx
      · by_cases e : p = i
        · subst e
          refine ⟨q, by rw [rf_wM, u2_s], hq2.fr (Nat.le_refl _) (fun x h1 h2 => ⟨rfl, ?_, ?_⟩)⟩
          · rw [im_wM, u2_o _ _ _ _ (by omega)]
          · rw [rf_wM, u2_o _ _ _ _ (by omega), rf_wM, hF x (by omega)]
        · refine (hP p (by omega)).fr ?_ (Nat.le_refl _) (fun x h1 h2 => ⟨rfl, rfl, ?_⟩)
          · rw [rf_wM, rf_wM, u2_n _ _ _ _ (by omega)]
          · rw [rf_wM, rf_wM, u2_o _ _ _ _ (by omega)]
set_option maxRecDepth 100000 in
theorem cn_X3_copyFrom (g : Gp) (cs : Nat × Nat) {m : Mm} {S T B c : Nat} {z : Nat → Int32} (hS : StT m S) (hT : StT m T) (hR : Rp m B T z) (hz : ZOk c z) (hd : S + 47 ≤ T ∨ T + 47 ≤ S) (hSB : S + 47 ≤ B) : Mn g (MX3_copyFrom cs) [.ref (S + 10), .ref (T + 10)] m none (fun I R => I = u2 (im m) (S + 10) 1 (z 1) ∧ (∀ x, x ≠ S + 11 → R x = rf m x) ∧ RpM (wM m I R) B S z (nv (z 1))) := by
  have hF : ∀ x, x ≠ S + 11 → rf m x = rf m x := fun _ _ => rfl
  refine Cn.of pn_X3 (Nat.le_of_ble_eq_true rfl) rfl ?_
  refine g_aload_n 0 dX3_copyFrom_0 rfl rfl ?_
  refine g_aload_n 1 dX3_copyFrom_1 rfl rfl ?_
  refine gN_getI flX3_17 rfl 0 (hT.t10) dX3_copyFrom_2 ?_
  refine g_eI (z 1) (hR.c1) ?_
  refine gN_putI fwX3_17 rfl 0 (hS.t10) dX3_copyFrom_5 ?_
  refine gN_iconst 0 dX3_copyFrom_8 (by decide) ?_
  refine g_istore_n 2 [(2, .int (nI (0))), (0, .ref (S + 10)), (1, .ref (T + 10))] dX3_copyFrom_9 rfl (Nat.le_of_ble_eq_true rfl) rfl ?_
  refine g_pick [0, 1, 2] rfl ?_
  exact lp_X3_copyFrom g cs hS hT hR hz hd hSB _ 0 (Nat.zero_add _) (rf m) hF (fun p hp => by omega)
set_option maxRecDepth 100000 in
theorem cn_X6_copyFrom (g : Gp) (cs : Nat × Nat) {m : Mm} {S T B c : Nat} {z : Nat → Int32} (hS : StT m S) (hT : StT m T) (hR : Rp m B T z) (hz : ZOk c z) (hd : S + 47 ≤ T ∨ T + 47 ≤ S) (hSB : S + 47 ≤ B) : Mn g (MX6_copyFrom cs) [.ref S, .ref T] m none (fun I R => FrB m S (S + 47) I R ∧ StT (wM m I R) S ∧ Rp (wM m I R) B S z) := by
  have hz0 := hz.n0.hi
  have hz1 := hz.n1.hi
  refine Cn.of pn_X6 (Nat.le_of_ble_eq_true rfl) rfl ?_
  refine g_aload_n 1 dX6_copyFrom_0 rfl rfl ?_
  refine gN_getR (T + 1) flX6_9 (fun _ _ _ => rfl) 0 (hT.t) (hT.r0) dX6_copyFrom_1 ?_
  refine gN_iconst 0 dX6_copyFrom_4 (by decide) ?_
  refine g_aload_n 0 dX6_copyFrom_5 rfl rfl ?_
  refine gN_getR (S + 1) flX6_9 (fun _ _ _ => rfl) 0 (hS.t) (hS.r0) dX6_copyFrom_6 ?_
  refine gN_iconst 0 dX6_copyFrom_9 (by decide) ?_
  refine gN_iconst 2 dX6_copyFrom_10 (by decide) ?_
  refine g_acopy 2 2 2 (hT.t1) (hS.t1) (by decide) (by decide) (by decide) sy_l6 (by exact Nat.le_of_ble_eq_true rfl) (by exact Nat.le_of_ble_eq_true rfl) dX6_copyFrom_11 ?_
  refine gN_iconst 0 dX6_copyFrom_14 (by decide) ?_
  refine g_istore_n 2 [(2, .int (nI (0))), (0, .ref (S)), (1, .ref (T))] dX6_copyFrom_15 rfl (Nat.le_of_ble_eq_true rfl) rfl ?_
  refine g_pick [0, 1, 2] rfl ?_
  generalize hm1 : wI m (cpI (im m) (S + 1) 0 2 (fun j => im m (T + 1) j)) = m1
  have e1 : m1 = wM m (cpI (im m) (S + 1) 0 2 (fun j => im m (T + 1) j)) (rf m) := hm1.symm
  have hF1 : FrB m (S + 1) (S + 2) (cpI (im m) (S + 1) 0 2 (fun j => im m (T + 1) j)) (rf m) := (FrB.rfl' m _ _).c _ (by omega) (by omega)
  have hS1 : StT m1 S := by rw [e1]; exact hS
  have hT1 : StT m1 T := by rw [e1]; exact hT
  have hR1 : Rp m1 B T z := by rw [e1]; exact hF1.rp (by omega) (by omega) hR hz0
  have q0 : im m1 (S + 1) 0 = z 2 ∧ im m1 (S + 1) 1 = z 3 := by
    rw [e1, im_wM, cpI_in _ _ _ _ _ (by omega) (by omega), cpI_in _ _ _ _ _ (by omega) (by omega)]
    exact ⟨hR.c2, hR.c3⟩
  refine g_mem (m1 := wM m1 (im m1) (rf m1)) rfl ?_
  refine cs_T g cs hS1 hT1 hR1 hz hd hSB (fun I2 hF2 q2 => ?_) 4 0 rfl _ (FrB.rfl' _ _ _) (fun p hp => by omega)
  refine gN_iconst 0 dX6_copyFrom_42 (by decide) ?_
  refine g_istore_n 2 [(2, .int (nI (0))), (0, .ref (S)), (1, .ref (T))] dX6_copyFrom_43 rfl (Nat.le_of_ble_eq_true rfl) rfl ?_
  refine g_pick [0, 1, 2] rfl ?_
  have hS2 : StT (wM m1 I2 (rf m1)) S := hS1
  have hT2 : StT (wM m1 I2 (rf m1)) T := hT1
  have hR2 := hF2.rp (S := T) (by omega) (by omega) hR1 hz0
  refine g_mem (m1 := wM (wM m1 I2 (rf m1)) (im (wM m1 I2 (rf m1))) (rf (wM m1 I2 (rf m1)))) rfl ?_
  refine cs_B g cs hS2 hT2 hR2 hz hd hSB (fun I3 hF3 q3 => ?_) 5 0 rfl _ (FrB.rfl' _ _ _) (fun p hp => by omega)
  refine gN_iconst 0 dX6_copyFrom_70 (by decide) ?_
  refine g_istore_n 2 [(2, .int (nI (0))), (0, .ref (S)), (1, .ref (T))] dX6_copyFrom_71 rfl (Nat.le_of_ble_eq_true rfl) rfl ?_
  refine g_pick [0, 1, 2] rfl ?_
  have hS3 : StT (wM m1 I3 (rf m1)) S := hS1
  have hT3 : StT (wM m1 I3 (rf m1)) T := hT1
  have hR3 : Rp (wM m1 I3 (rf m1)) B T z := hF3.rp (S := T) (by omega) (by omega) hR2 hz0
  refine g_mem (m1 := wM (wM m1 I3 (rf m1)) (im (wM m1 I3 (rf m1))) (rf (wM m1 I3 (rf m1)))) rfl ?_
  refine cs_W g cs hS3 hT3 hR3 hz hd hSB (fun I4 hF4 q4 => ?_) 8 0 rfl _ (FrB.rfl' _ _ _) (fun p hp => by omega)
  have hS4 : StT (wM m1 I4 (rf m1)) S := hS1
  have hT4 : StT (wM m1 I4 (rf m1)) T := hT1
  have hR4 : Rp (wM m1 I4 (rf m1)) B T z := hF4.rp (S := T) (by omega) (by omega) hR3 hz0
  refine g_mem (m1 := wM m1 I4 (rf m1)) rfl ?_
  refine g_aload_n 0 dX6_copyFrom_99 rfl rfl ?_
  refine g_aload_n 1 dX6_copyFrom_100 rfl rfl ?_
  refine gN_getI flX6_39 rfl 0 (hT4.t) dX6_copyFrom_101 ?_
  refine g_eI (z 0) (hR4.c0) ?_
  refine gN_putI fwX6_39 rfl 0 (hS4.t) dX6_copyFrom_104 ?_
  refine gN_iconst 0 dX6_copyFrom_107 (by decide) ?_
  refine g_istore_n 2 [(2, .int (nI (0))), (0, .ref (S)), (1, .ref (T))] dX6_copyFrom_108 rfl (Nat.le_of_ble_eq_true rfl) rfl ?_
  refine g_pick [0, 1, 2] rfl ?_
  generalize hm5 : sI (wM m1 I4 (rf m1)) S 6 (z 0) = m5
  have e5 : m5 = wM m1 (u2 I4 S 6 (z 0)) (rf m1) := hm5.symm
  have hF5 : FrB m1 S (S + 47) (u2 I4 S 6 (z 0)) (rf m1) := (((hF2.up (by omega) (by omega)).tr (hF3.up (lo' := S) (hi' := S + 47) (by omega) (by omega))).tr (hF4.up (lo' := S) (hi' := S + 47) (by omega) (by omega))).i _ (by omega) (by omega)
  have hS5 : StT m5 S := by rw [e5]; exact hS1
  have hT5 : StT m5 T := by rw [e5]; exact hT1
  have hR5 : Rp m5 B T z := by rw [e5]; exact hF5.rp (by omega) (by omega) hR1 hz0
  have hc5 : im m5 S 6 = z 0 := by rw [e5, im_wM, u2_s]
  refine g_mem (m1 := wM m5 (im m5) (rf m5)) rfl ?_
  refine cs_S g cs hS5 hT5 hR5 hz hd hSB hc5 (fun I6 R6 hF6 q6 => ?_) _ 0 (Nat.zero_add _) _ _ (FrB.rfl' _ _ _) (fun p hp => by omega)
  have hS6 : StT (wM m5 I6 R6) S := hS5.w (fun x h1 h2 => (hF6 x (by omega)).2)
  have hT6 := hF6.st (S := T) (by omega) hT5
  have hR6 := hF6.rp (S := T) (by omega) (by omega) hR5 hz0
  refine g_aload_n 0 dX6_copyFrom_138 rfl rfl ?_
  refine gN_getR (S + 10) flX6_53 (fun _ _ _ => rfl) 0 (hS6.t) (hS6.r5) dX6_copyFrom_139 ?_
  refine g_aload_n 1 dX6_copyFrom_142 rfl rfl ?_
  refine gN_getR (T + 10) flX6_53 (fun _ _ _ => rfl) 0 (hT6.t) (hT6.r5) dX6_copyFrom_143 ?_
  refine gm_callV _ _ _ (cn_X3_copyFrom g (0, 0) (m := wM m5 I6 R6) hS6 hT6 hR6 hz hd hSB) ⟨rfl, rfl⟩ (ok_X3_copyFrom _) mlX6_85 in_X3_copyFrom se_X3_copyFrom 3 0 (hS6.t10) rfl rfl rfl ⟨Nat.le_of_ble_eq_true rfl, Nat.le_of_ble_eq_true rfl⟩ (by exact Nat.le_of_ble_eq_true rfl) ⟨Nat.zero_le _, Nat.zero_le _⟩ dX6_copyFrom_146 rfl (fun I7 R7 h7 => ?_)
  obtain ⟨h7a, h7b, h7c⟩ := h7
  refine g_vret rfl dX6_copyFrom_149 ⟨Nat.zero_le _, Nat.zero_le _⟩ ?_
  refine ⟨rfl, I7, R7, by rw [e5, e1]; rfl, fun x hx => ⟨?_, ?_⟩, ?_, ?_⟩
  · rw [h7a, im_wM, u2_o _ _ _ _ (by omega), (hF6 x (by omega)).1, e5, im_wM, (hF5 x (by omega)).1, e1, im_wM, (hF1 x (by omega)).1]
  · rw [h7b x (by omega), rf_wM, (hF6 x (by omega)).2, e5, rf_wM, e1]; rfl
  · refine hS.w (fun x h1 h2 => ?_)
    rw [h7b x h1, rf_wM, (hF6 x (by omega)).2, e5, rf_wM, e1]; rfl
  · have f7 : ∀ x, x ≠ S + 10 → I7 x = I6 x := fun x hx => by rw [h7a, im_wM, u2_o _ _ _ _ hx]
    have r7 : ∀ x, x ≠ S + 11 → R7 x = R6 x := fun x hx => by rw [h7b x hx, rf_wM]
    have f6 : ∀ x, (x < S + 37 ∨ S + 47 ≤ x) → x ≠ S + 10 → I7 x = u2 I4 S 6 (z 0) x := fun x hx hx2 => by rw [f7 x hx2, (hF6 x hx).1, e5, im_wM]
    refine ⟨⟨?_, ?_, ?_, ?_⟩, ?_, ?_, ?_, ?_, (by rw [e5, e1] at h7c; exact h7c)⟩
    · rw [im_wM, f6 S (by omega) (by omega), u2_s]
    · rw [im_wM, h7a, u2_s]
    · rw [im_wM, f6 _ (by omega) (by omega), u2_o _ _ _ _ (by omega), (hF4 _ (by omega)).1, im_wM, (hF3 _ (by omega)).1, im_wM, (hF2 _ (by omega)).1]; exact q0.1
    · rw [im_wM, f6 _ (by omega) (by omega), u2_o _ _ _ _ (by omega), (hF4 _ (by omega)).1, im_wM, (hF3 _ (by omega)).1, im_wM, (hF2 _ (by omega)).1]; exact q0.2
    · refine q2.fr (by omega) (fun x h1 h2 => ?_)
      rw [im_wM, im_wM, f6 _ (by omega) (by omega), u2_o _ _ _ _ (by omega), (hF4 _ (by omega)).1, im_wM, (hF3 _ (by omega)).1, im_wM]
    · refine q3.fr (by omega) (fun x h1 h2 => ?_)
      rw [im_wM, im_wM, f6 _ (by omega) (by omega), u2_o _ _ _ _ (by omega), (hF4 _ (by omega)).1, im_wM]
    · refine q4.fr (by omega) (fun x h1 h2 => ?_)
      rw [im_wM, im_wM, f6 _ (by omega) (by omega), u2_o _ _ _ _ (by omega)]
    · refine q6.fr (by omega) (fun x h1 h2 => ⟨?_, ?_⟩) (Nat.le_of_eq (by rw [e5, e1]; rfl)) (fun x h1 h2 => ⟨by rw [e5, e1]; rfl, ?_, ?_⟩)
      · rw [im_wM, im_wM, f7 _ (by omega)]
      · rw [rf_wM, rf_wM, r7 _ (by omega)]
      · rw [im_wM, im_wM, f7 _ (by omega)]
      · rw [rf_wM, rf_wM, r7 _ (by omega)]
