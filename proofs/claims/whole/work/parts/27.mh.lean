theorem ze (m : Mm) (a : Nat) (v : Int32) : im (sI m a 6 v) (a + 1) = im m (a + 1) := u2_o _ _ _ _ (by omega)
theorem dI {g : Gp} {M : MI} {av : List Value} {m m1 : Mm} {x y : Int32} (h : Dn g M av m (some (.int x)) m1) (e : x = y) : Dn g M av m (some (.int y)) m1 := by subst e; exact h
theorem eI {g : Gp} {M : MI} {av : List Value} {m : Mm} {x y : Int32} {P : (Nat → Nat → Int32) → Prop} (h : En g M av m (some (.int x)) P) (e : x = y) : En g M av m (some (.int y)) P := by subst e; exact h
set_option maxRecDepth 100000 in
theorem cn_X10_counted0 (g : Gp) (cs : Nat × Nat) {m : Mm} {a : Nat} (hM : MdOk m a) (h0 : NR (im m (a + 1) 0) 0 10) (hl : ∀ s, s < nv (im m (a + 1) 0) → NR (im m (a + 1) (79 + 22 * s)) 1 12) : Dn g (MX10_counted cs) [.ref (a), .int (nI (0))] m (some (.int ((im m (a + 1)) 0))) (m) := by
  refine Cn.of pn_X10 (Nat.le_of_ble_eq_true rfl) rfl ?_
  refine g_iload_n 1 dX10_counted_0 rfl rfl ?_
  refine gN_if_le 17 dX10_counted_1 (by decide) (by first | omega | exact b01_lt _) (fun h_1 => ?_) (fun h_1 => ?_)
  · refine g_iload_n 1 dX10_counted_17 rfl rfl ?_
    refine g_tableIn (off := 58) 76 dX10_counted_18 (by decide) (by decide) (by decide) (by decide) ?_
    refine g_aload_n 0 dX10_counted_76 rfl rfl ?_
    refine gN_getR (a + 1) flX10_7 (fun _ _ _ => rfl) 0 (hM.t) (hM.r0) dX10_counted_77 ?_
    refine gN_iconst 0 dX10_counted_80 (by decide) ?_
    refine gN_iald 689 (hM.t1) (by first | omega | exact b01_lt _) (by first | omega | exact b01_lt _) dX10_counted_81 ?_
    refine g_iret rfl dX10_counted_82 ⟨Nat.zero_le _, Nat.zero_le _⟩ ?_
    exact ⟨rfl, rfl⟩
  · exact absurd h_1 (by decide)
set_option maxRecDepth 100000 in
theorem cn_X10_counted1 (g : Gp) (cs : Nat × Nat) {m : Mm} {a : Nat} (hM : MdOk m a) (h0 : NR (im m (a + 1) 0) 0 10) (hl : ∀ s, s < nv (im m (a + 1) 0) → NR (im m (a + 1) (79 + 22 * s)) 1 12) : Dn g (MX10_counted cs) [.ref (a), .int (nI (1))] m (some (.int (nI (sm (stF (im m (a + 1)) (nI 0)) (nv (im m (a + 1) 0)))))) (m) := by
  refine Cn.of pn_X10 (Nat.le_of_ble_eq_true rfl) rfl ?_
  refine g_iload_n 1 dX10_counted_0 rfl rfl ?_
  refine gN_if_le 17 dX10_counted_1 (by decide) (by first | omega | exact b01_lt _) (fun h_1 => ?_) (fun h_1 => ?_)
  · exact absurd h_1 (by decide)
  · refine g_iload_n 1 dX10_counted_4 rfl rfl ?_
    refine gN_iconst 5 dX10_counted_5 (by decide) ?_
    refine gN_icmp_ge 17 dX10_counted_6 (by decide) (by first | omega | exact b01_lt _) (by first | omega | exact b01_lt _) (fun h_6 => ?_) (fun h_6 => ?_)
    · exact absurd h_6 (by decide)
    · refine g_aload_n 0 dX10_counted_9 rfl rfl ?_
      refine g_iload_n 1 dX10_counted_10 rfl rfl ?_
      refine gN_iconst 1 dX10_counted_11 (by decide) ?_
      refine gN_isub (0) dX10_counted_12 (by first | omega | exact b01_lt _) rfl ?_
      refine gd_callV _ _ _ _ (cn_X10_staged g (0, 0) hM h0 (nI (0))) ⟨rfl, rfl⟩ (ok_X10_staged _) mlX10_169 in_X10_staged se_X10_staged 10 0 (hM.t) rfl rfl rfl ⟨Nat.le_of_ble_eq_true rfl, Nat.le_of_ble_eq_true rfl⟩ (by exact Nat.le_of_ble_eq_true rfl) ⟨Nat.zero_le _, Nat.zero_le _⟩ dX10_counted_13 rfl ?_
      refine g_iret rfl dX10_counted_16 ⟨Nat.zero_le _, Nat.zero_le _⟩ ?_
      exact ⟨rfl, rfl⟩
set_option maxRecDepth 100000 in
theorem cn_X10_counted2 (g : Gp) (cs : Nat × Nat) {m : Mm} {a : Nat} (hM : MdOk m a) (h0 : NR (im m (a + 1) 0) 0 10) (hl : ∀ s, s < nv (im m (a + 1) 0) → NR (im m (a + 1) (79 + 22 * s)) 1 12) : Dn g (MX10_counted cs) [.ref (a), .int (nI (2))] m (some (.int (nI (sm (stF (im m (a + 1)) (nI 1)) (nv (im m (a + 1) 0)))))) (m) := by
  refine Cn.of pn_X10 (Nat.le_of_ble_eq_true rfl) rfl ?_
  refine g_iload_n 1 dX10_counted_0 rfl rfl ?_
  refine gN_if_le 17 dX10_counted_1 (by decide) (by first | omega | exact b01_lt _) (fun h_1 => ?_) (fun h_1 => ?_)
  · exact absurd h_1 (by decide)
  · refine g_iload_n 1 dX10_counted_4 rfl rfl ?_
    refine gN_iconst 5 dX10_counted_5 (by decide) ?_
    refine gN_icmp_ge 17 dX10_counted_6 (by decide) (by first | omega | exact b01_lt _) (by first | omega | exact b01_lt _) (fun h_6 => ?_) (fun h_6 => ?_)
    · exact absurd h_6 (by decide)
    · refine g_aload_n 0 dX10_counted_9 rfl rfl ?_
      refine g_iload_n 1 dX10_counted_10 rfl rfl ?_
      refine gN_iconst 1 dX10_counted_11 (by decide) ?_
      refine gN_isub (1) dX10_counted_12 (by first | omega | exact b01_lt _) rfl ?_
      refine gd_callV _ _ _ _ (cn_X10_staged g (0, 0) hM h0 (nI (1))) ⟨rfl, rfl⟩ (ok_X10_staged _) mlX10_169 in_X10_staged se_X10_staged 10 0 (hM.t) rfl rfl rfl ⟨Nat.le_of_ble_eq_true rfl, Nat.le_of_ble_eq_true rfl⟩ (by exact Nat.le_of_ble_eq_true rfl) ⟨Nat.zero_le _, Nat.zero_le _⟩ dX10_counted_13 rfl ?_
      refine g_iret rfl dX10_counted_16 ⟨Nat.zero_le _, Nat.zero_le _⟩ ?_
      exact ⟨rfl, rfl⟩
set_option maxRecDepth 100000 in
theorem cn_X10_counted3 (g : Gp) (cs : Nat × Nat) {m : Mm} {a : Nat} (hM : MdOk m a) (h0 : NR (im m (a + 1) 0) 0 10) (hl : ∀ s, s < nv (im m (a + 1) 0) → NR (im m (a + 1) (79 + 22 * s)) 1 12) : Dn g (MX10_counted cs) [.ref (a), .int (nI (3))] m (some (.int (nI (sm (stF (im m (a + 1)) (nI 2)) (nv (im m (a + 1) 0)))))) (m) := by
  refine Cn.of pn_X10 (Nat.le_of_ble_eq_true rfl) rfl ?_
  refine g_iload_n 1 dX10_counted_0 rfl rfl ?_
  refine gN_if_le 17 dX10_counted_1 (by decide) (by first | omega | exact b01_lt _) (fun h_1 => ?_) (fun h_1 => ?_)
  · exact absurd h_1 (by decide)
  · refine g_iload_n 1 dX10_counted_4 rfl rfl ?_
    refine gN_iconst 5 dX10_counted_5 (by decide) ?_
    refine gN_icmp_ge 17 dX10_counted_6 (by decide) (by first | omega | exact b01_lt _) (by first | omega | exact b01_lt _) (fun h_6 => ?_) (fun h_6 => ?_)
    · exact absurd h_6 (by decide)
    · refine g_aload_n 0 dX10_counted_9 rfl rfl ?_
      refine g_iload_n 1 dX10_counted_10 rfl rfl ?_
      refine gN_iconst 1 dX10_counted_11 (by decide) ?_
      refine gN_isub (2) dX10_counted_12 (by first | omega | exact b01_lt _) rfl ?_
      refine gd_callV _ _ _ _ (cn_X10_staged g (0, 0) hM h0 (nI (2))) ⟨rfl, rfl⟩ (ok_X10_staged _) mlX10_169 in_X10_staged se_X10_staged 10 0 (hM.t) rfl rfl rfl ⟨Nat.le_of_ble_eq_true rfl, Nat.le_of_ble_eq_true rfl⟩ (by exact Nat.le_of_ble_eq_true rfl) ⟨Nat.zero_le _, Nat.zero_le _⟩ dX10_counted_13 rfl ?_
      refine g_iret rfl dX10_counted_16 ⟨Nat.zero_le _, Nat.zero_le _⟩ ?_
      exact ⟨rfl, rfl⟩
set_option maxRecDepth 100000 in
theorem cn_X10_counted4 (g : Gp) (cs : Nat × Nat) {m : Mm} {a : Nat} (hM : MdOk m a) (h0 : NR (im m (a + 1) 0) 0 10) (hl : ∀ s, s < nv (im m (a + 1) 0) → NR (im m (a + 1) (79 + 22 * s)) 1 12) : Dn g (MX10_counted cs) [.ref (a), .int (nI (4))] m (some (.int (nI (sm (stF (im m (a + 1)) (nI 3)) (nv (im m (a + 1) 0)))))) (m) := by
  refine Cn.of pn_X10 (Nat.le_of_ble_eq_true rfl) rfl ?_
  refine g_iload_n 1 dX10_counted_0 rfl rfl ?_
  refine gN_if_le 17 dX10_counted_1 (by decide) (by first | omega | exact b01_lt _) (fun h_1 => ?_) (fun h_1 => ?_)
  · exact absurd h_1 (by decide)
  · refine g_iload_n 1 dX10_counted_4 rfl rfl ?_
    refine gN_iconst 5 dX10_counted_5 (by decide) ?_
    refine gN_icmp_ge 17 dX10_counted_6 (by decide) (by first | omega | exact b01_lt _) (by first | omega | exact b01_lt _) (fun h_6 => ?_) (fun h_6 => ?_)
    · exact absurd h_6 (by decide)
    · refine g_aload_n 0 dX10_counted_9 rfl rfl ?_
      refine g_iload_n 1 dX10_counted_10 rfl rfl ?_
      refine gN_iconst 1 dX10_counted_11 (by decide) ?_
      refine gN_isub (3) dX10_counted_12 (by first | omega | exact b01_lt _) rfl ?_
      refine gd_callV _ _ _ _ (cn_X10_staged g (0, 0) hM h0 (nI (3))) ⟨rfl, rfl⟩ (ok_X10_staged _) mlX10_169 in_X10_staged se_X10_staged 10 0 (hM.t) rfl rfl rfl ⟨Nat.le_of_ble_eq_true rfl, Nat.le_of_ble_eq_true rfl⟩ (by exact Nat.le_of_ble_eq_true rfl) ⟨Nat.zero_le _, Nat.zero_le _⟩ dX10_counted_13 rfl ?_
      refine g_iret rfl dX10_counted_16 ⟨Nat.zero_le _, Nat.zero_le _⟩ ?_
      exact ⟨rfl, rfl⟩
set_option maxRecDepth 100000 in
theorem cn_X10_counted5 (g : Gp) (cs : Nat × Nat) {m : Mm} {a : Nat} (hM : MdOk m a) (h0 : NR (im m (a + 1) 0) 0 10) (hl : ∀ s, s < nv (im m (a + 1) 0) → NR (im m (a + 1) (79 + 22 * s)) 1 12) : Dn g (MX10_counted cs) [.ref (a), .int (nI (5))] m (some (.int ((im m (a + 1)) 1))) (m) := by
  refine Cn.of pn_X10 (Nat.le_of_ble_eq_true rfl) rfl ?_
  refine g_iload_n 1 dX10_counted_0 rfl rfl ?_
  refine gN_if_le 17 dX10_counted_1 (by decide) (by first | omega | exact b01_lt _) (fun h_1 => ?_) (fun h_1 => ?_)
  · exact absurd h_1 (by decide)
  · refine g_iload_n 1 dX10_counted_4 rfl rfl ?_
    refine gN_iconst 5 dX10_counted_5 (by decide) ?_
    refine gN_icmp_ge 17 dX10_counted_6 (by decide) (by first | omega | exact b01_lt _) (by first | omega | exact b01_lt _) (fun h_6 => ?_) (fun h_6 => ?_)
    · refine g_iload_n 1 dX10_counted_17 rfl rfl ?_
      refine g_tableIn (off := 65) 83 dX10_counted_18 (by decide) (by decide) (by decide) (by decide) ?_
      refine g_aload_n 0 dX10_counted_83 rfl rfl ?_
      refine gN_getR (a + 1) flX10_7 (fun _ _ _ => rfl) 0 (hM.t) (hM.r0) dX10_counted_84 ?_
      refine gN_iconst 1 dX10_counted_87 (by decide) ?_
      refine gN_iald 689 (hM.t1) (by first | omega | exact b01_lt _) (by first | omega | exact b01_lt _) dX10_counted_88 ?_
      refine g_iret rfl dX10_counted_89 ⟨Nat.zero_le _, Nat.zero_le _⟩ ?_
      exact ⟨rfl, rfl⟩
    · exact absurd h_6 (by decide)
set_option maxRecDepth 100000 in
theorem cn_X10_counted6 (g : Gp) (cs : Nat × Nat) {m : Mm} {a : Nat} (hM : MdOk m a) (h0 : NR (im m (a + 1) 0) 0 10) (hl : ∀ s, s < nv (im m (a + 1) 0) → NR (im m (a + 1) (79 + 22 * s)) 1 12) : Dn g (MX10_counted cs) [.ref (a), .int (nI (6))] m (some (.int (nI (sm (wdF (im m (a + 1))) (nv (im m (a + 1) 0)))))) (m) := by
  refine Cn.of pn_X10 (Nat.le_of_ble_eq_true rfl) rfl ?_
  refine g_iload_n 1 dX10_counted_0 rfl rfl ?_
  refine gN_if_le 17 dX10_counted_1 (by decide) (by first | omega | exact b01_lt _) (fun h_1 => ?_) (fun h_1 => ?_)
  · exact absurd h_1 (by decide)
  · refine g_iload_n 1 dX10_counted_4 rfl rfl ?_
    refine gN_iconst 5 dX10_counted_5 (by decide) ?_
    refine gN_icmp_ge 17 dX10_counted_6 (by decide) (by first | omega | exact b01_lt _) (by first | omega | exact b01_lt _) (fun h_6 => ?_) (fun h_6 => ?_)
    · refine g_iload_n 1 dX10_counted_17 rfl rfl ?_
      refine g_tableIn (off := 72) 90 dX10_counted_18 (by decide) (by decide) (by decide) (by decide) ?_
      refine g_aload_n 0 dX10_counted_90 rfl rfl ?_
      refine gd_callV _ _ _ _ (cn_X10_wordsAll g (0, 0) hM h0 hl) ⟨rfl, rfl⟩ (ok_X10_wordsAll _) mlX10_172 in_X10_wordsAll se_X10_wordsAll 10 0 (hM.t) rfl rfl rfl ⟨Nat.le_of_ble_eq_true rfl, Nat.le_of_ble_eq_true rfl⟩ (by exact Nat.le_of_ble_eq_true rfl) ⟨Nat.zero_le _, Nat.zero_le _⟩ dX10_counted_91 rfl ?_
      refine g_iret rfl dX10_counted_94 ⟨Nat.zero_le _, Nat.zero_le _⟩ ?_
      exact ⟨rfl, rfl⟩
    · exact absurd h_6 (by decide)
set_option maxRecDepth 100000 in
theorem cn_X10_counted7 (g : Gp) (cs : Nat × Nat) {m : Mm} {a : Nat} (hM : MdOk m a) (h0 : NR (im m (a + 1) 0) 0 10) (hl : ∀ s, s < nv (im m (a + 1) 0) → NR (im m (a + 1) (79 + 22 * s)) 1 12) : Dn g (MX10_counted cs) [.ref (a), .int (nI (7))] m (some (.int (ppl (im m (a + 1)) 2 4))) (m) := by
  refine Cn.of pn_X10 (Nat.le_of_ble_eq_true rfl) rfl ?_
  refine g_iload_n 1 dX10_counted_0 rfl rfl ?_
  refine gN_if_le 17 dX10_counted_1 (by decide) (by first | omega | exact b01_lt _) (fun h_1 => ?_) (fun h_1 => ?_)
  · exact absurd h_1 (by decide)
  · refine g_iload_n 1 dX10_counted_4 rfl rfl ?_
    refine gN_iconst 5 dX10_counted_5 (by decide) ?_
    refine gN_icmp_ge 17 dX10_counted_6 (by decide) (by first | omega | exact b01_lt _) (by first | omega | exact b01_lt _) (fun h_6 => ?_) (fun h_6 => ?_)
    · refine g_iload_n 1 dX10_counted_17 rfl rfl ?_
      refine g_tableIn (off := 77) 95 dX10_counted_18 (by decide) (by decide) (by decide) (by decide) ?_
      refine g_aload_n 0 dX10_counted_95 rfl rfl ?_
      refine gN_iconst 2 dX10_counted_96 (by decide) ?_
      refine gd_callV _ _ _ _ (cn_X10_ofPeople g (0, 0) hM (w := 2) (by decide)) ⟨rfl, rfl⟩ (ok_X10_ofPeople _) mlX10_175 in_X10_ofPeople se_X10_ofPeople 10 0 (hM.t) rfl rfl rfl ⟨Nat.le_of_ble_eq_true rfl, Nat.le_of_ble_eq_true rfl⟩ (by exact Nat.le_of_ble_eq_true rfl) ⟨Nat.zero_le _, Nat.zero_le _⟩ dX10_counted_97 rfl ?_
      refine g_iret rfl dX10_counted_100 ⟨Nat.zero_le _, Nat.zero_le _⟩ ?_
      exact ⟨rfl, rfl⟩
    · exact absurd h_6 (by decide)
set_option maxRecDepth 100000 in
theorem cn_X10_counted8 (g : Gp) (cs : Nat × Nat) {m : Mm} {a : Nat} (hM : MdOk m a) (h0 : NR (im m (a + 1) 0) 0 10) (hl : ∀ s, s < nv (im m (a + 1) 0) → NR (im m (a + 1) (79 + 22 * s)) 1 12) : Dn g (MX10_counted cs) [.ref (a), .int (nI (8))] m (some (.int (ppl (im m (a + 1)) 1 4))) (m) := by
  refine Cn.of pn_X10 (Nat.le_of_ble_eq_true rfl) rfl ?_
  refine g_iload_n 1 dX10_counted_0 rfl rfl ?_
  refine gN_if_le 17 dX10_counted_1 (by decide) (by first | omega | exact b01_lt _) (fun h_1 => ?_) (fun h_1 => ?_)
  · exact absurd h_1 (by decide)
  · refine g_iload_n 1 dX10_counted_4 rfl rfl ?_
    refine gN_iconst 5 dX10_counted_5 (by decide) ?_
    refine gN_icmp_ge 17 dX10_counted_6 (by decide) (by first | omega | exact b01_lt _) (by first | omega | exact b01_lt _) (fun h_6 => ?_) (fun h_6 => ?_)
    · refine g_iload_n 1 dX10_counted_17 rfl rfl ?_
      refine g_tableIn (off := 83) 101 dX10_counted_18 (by decide) (by decide) (by decide) (by decide) ?_
      refine g_aload_n 0 dX10_counted_101 rfl rfl ?_
      refine gN_iconst 1 dX10_counted_102 (by decide) ?_
      refine gd_callV _ _ _ _ (cn_X10_ofPeople g (0, 0) hM (w := 1) (by decide)) ⟨rfl, rfl⟩ (ok_X10_ofPeople _) mlX10_175 in_X10_ofPeople se_X10_ofPeople 10 0 (hM.t) rfl rfl rfl ⟨Nat.le_of_ble_eq_true rfl, Nat.le_of_ble_eq_true rfl⟩ (by exact Nat.le_of_ble_eq_true rfl) ⟨Nat.zero_le _, Nat.zero_le _⟩ dX10_counted_103 rfl ?_
      refine g_iret rfl dX10_counted_106 ⟨Nat.zero_le _, Nat.zero_le _⟩ ?_
      exact ⟨rfl, rfl⟩
    · exact absurd h_6 (by decide)
set_option maxRecDepth 100000 in
theorem cn_X10_counted9 (g : Gp) (cs : Nat × Nat) {m : Mm} {a : Nat} (hM : MdOk m a) (h0 : NR (im m (a + 1) 0) 0 10) (hl : ∀ s, s < nv (im m (a + 1) 0) → NR (im m (a + 1) (79 + 22 * s)) 1 12) : Dn g (MX10_counted cs) [.ref (a), .int (nI (9))] m (some (.int (nI (sm (dsF (im m (a + 1))) 8)))) (m) := by
  refine Cn.of pn_X10 (Nat.le_of_ble_eq_true rfl) rfl ?_
  refine g_iload_n 1 dX10_counted_0 rfl rfl ?_
  refine gN_if_le 17 dX10_counted_1 (by decide) (by first | omega | exact b01_lt _) (fun h_1 => ?_) (fun h_1 => ?_)
  · exact absurd h_1 (by decide)
  · refine g_iload_n 1 dX10_counted_4 rfl rfl ?_
    refine gN_iconst 5 dX10_counted_5 (by decide) ?_
    refine gN_icmp_ge 17 dX10_counted_6 (by decide) (by first | omega | exact b01_lt _) (by first | omega | exact b01_lt _) (fun h_6 => ?_) (fun h_6 => ?_)
    · refine g_iload_n 1 dX10_counted_17 rfl rfl ?_
      refine g_tableIn (off := 89) 107 dX10_counted_18 (by decide) (by decide) (by decide) (by decide) ?_
      refine g_aload_n 0 dX10_counted_107 rfl rfl ?_
      refine g_iload_n 1 dX10_counted_108 rfl rfl ?_
      refine gN_bipush 10 dX10_counted_109 (by decide) ?_
      refine gN_icmp_ne 118 dX10_counted_111 (by decide) (by first | omega | exact b01_lt _) (by first | omega | exact b01_lt _) (fun h_111 => ?_) (fun h_111 => ?_)
      · refine gN_iconst 0 dX10_counted_118 (by decide) ?_
        refine gd_callV _ _ _ _ (cn_X10_ofTerms0 g (0, 0) hM) ⟨rfl, rfl⟩ (ok_X10_ofTerms _) mlX10_178 in_X10_ofTerms se_X10_ofTerms 10 0 (hM.t) rfl rfl rfl ⟨Nat.le_of_ble_eq_true rfl, Nat.le_of_ble_eq_true rfl⟩ (by exact Nat.le_of_ble_eq_true rfl) ⟨Nat.zero_le _, Nat.zero_le _⟩ dX10_counted_119 rfl ?_
        refine g_iret rfl dX10_counted_122 ⟨Nat.zero_le _, Nat.zero_le _⟩ ?_
        exact ⟨rfl, rfl⟩
      · exact absurd h_111 (by decide)
    · exact absurd h_6 (by decide)
set_option maxRecDepth 100000 in
theorem cn_X10_counted10 (g : Gp) (cs : Nat × Nat) {m : Mm} {a : Nat} (hM : MdOk m a) (h0 : NR (im m (a + 1) 0) 0 10) (hl : ∀ s, s < nv (im m (a + 1) 0) → NR (im m (a + 1) (79 + 22 * s)) 1 12) : Dn g (MX10_counted cs) [.ref (a), .int (nI (10))] m (some (.int (nI (sm (rlF (im m (a + 1))) 8)))) (m) := by
  refine Cn.of pn_X10 (Nat.le_of_ble_eq_true rfl) rfl ?_
  refine g_iload_n 1 dX10_counted_0 rfl rfl ?_
  refine gN_if_le 17 dX10_counted_1 (by decide) (by first | omega | exact b01_lt _) (fun h_1 => ?_) (fun h_1 => ?_)
  · exact absurd h_1 (by decide)
  · refine g_iload_n 1 dX10_counted_4 rfl rfl ?_
    refine gN_iconst 5 dX10_counted_5 (by decide) ?_
    refine gN_icmp_ge 17 dX10_counted_6 (by decide) (by first | omega | exact b01_lt _) (by first | omega | exact b01_lt _) (fun h_6 => ?_) (fun h_6 => ?_)
    · refine g_iload_n 1 dX10_counted_17 rfl rfl ?_
      refine g_tableIn (off := 89) 107 dX10_counted_18 (by decide) (by decide) (by decide) (by decide) ?_
      refine g_aload_n 0 dX10_counted_107 rfl rfl ?_
      refine g_iload_n 1 dX10_counted_108 rfl rfl ?_
      refine gN_bipush 10 dX10_counted_109 (by decide) ?_
      refine gN_icmp_ne 118 dX10_counted_111 (by decide) (by first | omega | exact b01_lt _) (by first | omega | exact b01_lt _) (fun h_111 => ?_) (fun h_111 => ?_)
      · exact absurd h_111 (by decide)
      · refine gN_iconst 1 dX10_counted_114 (by decide) ?_
        refine g_goto 119 dX10_counted_115 (by decide) ?_
        refine gd_callV _ _ _ _ (cn_X10_ofTerms1 g (0, 0) hM) ⟨rfl, rfl⟩ (ok_X10_ofTerms _) mlX10_178 in_X10_ofTerms se_X10_ofTerms 10 0 (hM.t) rfl rfl rfl ⟨Nat.le_of_ble_eq_true rfl, Nat.le_of_ble_eq_true rfl⟩ (by exact Nat.le_of_ble_eq_true rfl) ⟨Nat.zero_le _, Nat.zero_le _⟩ dX10_counted_119 rfl ?_
        refine g_iret rfl dX10_counted_122 ⟨Nat.zero_le _, Nat.zero_le _⟩ ?_
        exact ⟨rfl, rfl⟩
    · exact absurd h_6 (by decide)
set_option maxRecDepth 100000 in
theorem cn_X10_counted11 (g : Gp) (cs : Nat × Nat) {m : Mm} {a : Nat} (hM : MdOk m a) (h0 : NR (im m (a + 1) 0) 0 10) (hl : ∀ s, s < nv (im m (a + 1) 0) → NR (im m (a + 1) (79 + 22 * s)) 1 12) : Dn g (MX10_counted cs) [.ref (a), .int (nI (11))] m (some (.int (im m a 3))) (m) := by
  refine Cn.of pn_X10 (Nat.le_of_ble_eq_true rfl) rfl ?_
  refine g_iload_n 1 dX10_counted_0 rfl rfl ?_
  refine gN_if_le 17 dX10_counted_1 (by decide) (by first | omega | exact b01_lt _) (fun h_1 => ?_) (fun h_1 => ?_)
  · exact absurd h_1 (by decide)
  · refine g_iload_n 1 dX10_counted_4 rfl rfl ?_
    refine gN_iconst 5 dX10_counted_5 (by decide) ?_
    refine gN_icmp_ge 17 dX10_counted_6 (by decide) (by first | omega | exact b01_lt _) (by first | omega | exact b01_lt _) (fun h_6 => ?_) (fun h_6 => ?_)
    · refine g_iload_n 1 dX10_counted_17 rfl rfl ?_
      refine g_tableOut 123 dX10_counted_18 (by decide) (by decide) ?_
      refine g_aload_n 0 dX10_counted_123 rfl rfl ?_
      refine gN_getI flX10_38 rfl 0 (hM.t) dX10_counted_124 ?_
      refine g_iret rfl dX10_counted_127 ⟨Nat.zero_le _, Nat.zero_le _⟩ ?_
      exact ⟨rfl, rfl⟩
    · exact absurd h_6 (by decide)
theorem cn_X10_counted (g : Gp) (cs : Nat × Nat) {m : Mm} {a : Nat} (hM : MdOk m a) (h0 : NR (im m (a + 1) 0) 0 10) (hl : ∀ s, s < nv (im m (a + 1) 0) → NR (im m (a + 1) (79 + 22 * s)) 1 12) {w : Nat} (hw : w ≤ 11) : Dn g (MX10_counted cs) [.ref a, .int (nI w)] m (some (.int (cntV (im m (a + 1)) (im m a 3) w))) m := by
  rcases (show w = 0 ∨ w = 1 ∨ w = 2 ∨ w = 3 ∨ w = 4 ∨ w = 5 ∨ w = 6 ∨ w = 7 ∨ w = 8 ∨ w = 9 ∨ w = 10 ∨ w = 11 by omega) with rfl | rfl | rfl | rfl | rfl | rfl | rfl | rfl | rfl | rfl | rfl | rfl
  · exact cn_X10_counted0 g cs hM h0 hl
  · exact cn_X10_counted1 g cs hM h0 hl
  · exact cn_X10_counted2 g cs hM h0 hl
  · exact cn_X10_counted3 g cs hM h0 hl
  · exact cn_X10_counted4 g cs hM h0 hl
  · exact cn_X10_counted5 g cs hM h0 hl
  · exact cn_X10_counted6 g cs hM h0 hl
  · exact cn_X10_counted7 g cs hM h0 hl
  · exact cn_X10_counted8 g cs hM h0 hl
  · exact cn_X10_counted9 g cs hM h0 hl
  · exact cn_X10_counted10 g cs hM h0 hl
  · exact cn_X10_counted11 g cs hM h0 hl
set_option maxRecDepth 100000 in
theorem cn_X10_personOf0 (g : Gp) (cs : Nat × Nat) {m : Mm} {a : Nat} (hM : MdOk m a) (h0 : NR (im m (a + 1) 0) 0 10) (hl : ∀ s, s < nv (im m (a + 1) 0) → NR (im m (a + 1) (79 + 22 * s)) 1 12) {p : Nat} (hp : p < 4) : Dn g (MX10_personOf cs) [.ref (a), .int (nI (p)), .int (nI (0))] m (some (.int ((im m (a + 1)) (4 + 5 * p + 0)))) (m) := by
  refine Cn.of pn_X10 (Nat.le_of_ble_eq_true rfl) rfl ?_
  refine g_iload_n 2 dX10_personOf_0 rfl rfl ?_
  refine gN_iconst 2 dX10_personOf_1 (by decide) ?_
  refine gN_icmp_ne 11 dX10_personOf_2 (by decide) (by first | omega | exact b01_lt _) (by first | omega | exact b01_lt _) (fun h_2 => ?_) (fun h_2 => ?_)
  · refine g_iload_n 2 dX10_personOf_11 rfl rfl ?_
    refine gN_bipush 6 dX10_personOf_12 (by decide) ?_
    refine gN_icmp_ne 23 dX10_personOf_14 (by decide) (by first | omega | exact b01_lt _) (by first | omega | exact b01_lt _) (fun h_14 => ?_) (fun h_14 => ?_)
    · refine g_aload_n 0 dX10_personOf_23 rfl rfl ?_
      refine gN_getR (a + 1) flX10_7 (fun _ _ _ => rfl) 0 (hM.t) (hM.r0) dX10_personOf_24 ?_
      refine g_iload_n 1 dX10_personOf_27 rfl rfl ?_
      refine gd_callS _ _ _ _ (cn_X10_person g (0, 0) _ p) ⟨rfl, rfl⟩ (ok_X10_person _) mlX10_101 st_X10_person rfl ⟨Nat.le_of_ble_eq_true rfl, Nat.le_of_ble_eq_true rfl⟩ (by exact Nat.le_of_ble_eq_true rfl) ⟨Nat.zero_le _, Nat.zero_le _⟩ dX10_personOf_28 rfl ?_
      refine g_iload_n 2 dX10_personOf_31 rfl rfl ?_
      refine gN_iconst 2 dX10_personOf_32 (by decide) ?_
      refine gN_icmp_ge 40 dX10_personOf_33 (by decide) (by first | omega | exact b01_lt _) (by first | omega | exact b01_lt _) (fun h_33 => ?_) (fun h_33 => ?_)
      · exact absurd h_33 (by decide)
      · refine g_iload_n 2 dX10_personOf_36 rfl rfl ?_
        refine g_goto 43 dX10_personOf_37 (by decide) ?_
        refine gN_iadd ((4 + 5 * p) + 0) dX10_personOf_43 rfl ?_
        refine gN_iald 689 (hM.t1) (by first | omega | exact b01_lt _) (by first | omega | exact b01_lt _) dX10_personOf_44 ?_
        refine g_iret rfl dX10_personOf_45 ⟨Nat.zero_le _, Nat.zero_le _⟩ ?_
        exact ⟨rfl, rfl⟩
    · exact absurd h_14 (by decide)
  · exact absurd h_2 (by decide)
set_option maxRecDepth 100000 in
theorem cn_X10_personOf1 (g : Gp) (cs : Nat × Nat) {m : Mm} {a : Nat} (hM : MdOk m a) (h0 : NR (im m (a + 1) 0) 0 10) (hl : ∀ s, s < nv (im m (a + 1) 0) → NR (im m (a + 1) (79 + 22 * s)) 1 12) {p : Nat} (hp : p < 4) : Dn g (MX10_personOf cs) [.ref (a), .int (nI (p)), .int (nI (1))] m (some (.int ((im m (a + 1)) (4 + 5 * p + 1)))) (m) := by
  refine Cn.of pn_X10 (Nat.le_of_ble_eq_true rfl) rfl ?_
  refine g_iload_n 2 dX10_personOf_0 rfl rfl ?_
  refine gN_iconst 2 dX10_personOf_1 (by decide) ?_
  refine gN_icmp_ne 11 dX10_personOf_2 (by decide) (by first | omega | exact b01_lt _) (by first | omega | exact b01_lt _) (fun h_2 => ?_) (fun h_2 => ?_)
  · refine g_iload_n 2 dX10_personOf_11 rfl rfl ?_
    refine gN_bipush 6 dX10_personOf_12 (by decide) ?_
    refine gN_icmp_ne 23 dX10_personOf_14 (by decide) (by first | omega | exact b01_lt _) (by first | omega | exact b01_lt _) (fun h_14 => ?_) (fun h_14 => ?_)
    · refine g_aload_n 0 dX10_personOf_23 rfl rfl ?_
      refine gN_getR (a + 1) flX10_7 (fun _ _ _ => rfl) 0 (hM.t) (hM.r0) dX10_personOf_24 ?_
      refine g_iload_n 1 dX10_personOf_27 rfl rfl ?_
      refine gd_callS _ _ _ _ (cn_X10_person g (0, 0) _ p) ⟨rfl, rfl⟩ (ok_X10_person _) mlX10_101 st_X10_person rfl ⟨Nat.le_of_ble_eq_true rfl, Nat.le_of_ble_eq_true rfl⟩ (by exact Nat.le_of_ble_eq_true rfl) ⟨Nat.zero_le _, Nat.zero_le _⟩ dX10_personOf_28 rfl ?_
      refine g_iload_n 2 dX10_personOf_31 rfl rfl ?_
      refine gN_iconst 2 dX10_personOf_32 (by decide) ?_
      refine gN_icmp_ge 40 dX10_personOf_33 (by decide) (by first | omega | exact b01_lt _) (by first | omega | exact b01_lt _) (fun h_33 => ?_) (fun h_33 => ?_)
      · exact absurd h_33 (by decide)
      · refine g_iload_n 2 dX10_personOf_36 rfl rfl ?_
        refine g_goto 43 dX10_personOf_37 (by decide) ?_
        refine gN_iadd ((4 + 5 * p) + 1) dX10_personOf_43 rfl ?_
        refine gN_iald 689 (hM.t1) (by first | omega | exact b01_lt _) (by first | omega | exact b01_lt _) dX10_personOf_44 ?_
        refine g_iret rfl dX10_personOf_45 ⟨Nat.zero_le _, Nat.zero_le _⟩ ?_
        exact ⟨rfl, rfl⟩
    · exact absurd h_14 (by decide)
  · exact absurd h_2 (by decide)
set_option maxRecDepth 100000 in
theorem cn_X10_personOf2 (g : Gp) (cs : Nat × Nat) {m : Mm} {a : Nat} (hM : MdOk m a) (h0 : NR (im m (a + 1) 0) 0 10) (hl : ∀ s, s < nv (im m (a + 1) 0) → NR (im m (a + 1) (79 + 22 * s)) 1 12) {p : Nat} (hp : p < 4) : Dn g (MX10_personOf cs) [.ref (a), .int (nI (p)), .int (nI (2))] m (some (.int (nI (sm (asF (im m (a + 1)) (nI p)) (nv (im m (a + 1) 0)))))) (m) := by
  refine Cn.of pn_X10 (Nat.le_of_ble_eq_true rfl) rfl ?_
  refine g_iload_n 2 dX10_personOf_0 rfl rfl ?_
  refine gN_iconst 2 dX10_personOf_1 (by decide) ?_
  refine gN_icmp_ne 11 dX10_personOf_2 (by decide) (by first | omega | exact b01_lt _) (by first | omega | exact b01_lt _) (fun h_2 => ?_) (fun h_2 => ?_)
  · exact absurd h_2 (by decide)
  · refine g_aload_n 0 dX10_personOf_5 rfl rfl ?_
    refine g_iload_n 1 dX10_personOf_6 rfl rfl ?_
    refine gd_callV _ _ _ _ (cn_X10_assignedTo g (0, 0) hM h0 (nI p)) ⟨rfl, rfl⟩ (ok_X10_assignedTo _) mlX10_154 in_X10_assignedTo se_X10_assignedTo 10 0 (hM.t) rfl rfl rfl ⟨Nat.le_of_ble_eq_true rfl, Nat.le_of_ble_eq_true rfl⟩ (by exact Nat.le_of_ble_eq_true rfl) ⟨Nat.zero_le _, Nat.zero_le _⟩ dX10_personOf_7 rfl ?_
    refine g_iret rfl dX10_personOf_10 ⟨Nat.zero_le _, Nat.zero_le _⟩ ?_
    exact ⟨rfl, rfl⟩
set_option maxRecDepth 100000 in
theorem cn_X10_personOf3 (g : Gp) (cs : Nat × Nat) {m : Mm} {a : Nat} (hM : MdOk m a) (h0 : NR (im m (a + 1) 0) 0 10) (hl : ∀ s, s < nv (im m (a + 1) 0) → NR (im m (a + 1) (79 + 22 * s)) 1 12) {p : Nat} (hp : p < 4) : Dn g (MX10_personOf cs) [.ref (a), .int (nI (p)), .int (nI (3))] m (some (.int ((im m (a + 1)) (4 + 5 * p + 2)))) (m) := by
  refine Cn.of pn_X10 (Nat.le_of_ble_eq_true rfl) rfl ?_
  refine g_iload_n 2 dX10_personOf_0 rfl rfl ?_
  refine gN_iconst 2 dX10_personOf_1 (by decide) ?_
  refine gN_icmp_ne 11 dX10_personOf_2 (by decide) (by first | omega | exact b01_lt _) (by first | omega | exact b01_lt _) (fun h_2 => ?_) (fun h_2 => ?_)
  · refine g_iload_n 2 dX10_personOf_11 rfl rfl ?_
    refine gN_bipush 6 dX10_personOf_12 (by decide) ?_
    refine gN_icmp_ne 23 dX10_personOf_14 (by decide) (by first | omega | exact b01_lt _) (by first | omega | exact b01_lt _) (fun h_14 => ?_) (fun h_14 => ?_)
    · refine g_aload_n 0 dX10_personOf_23 rfl rfl ?_
      refine gN_getR (a + 1) flX10_7 (fun _ _ _ => rfl) 0 (hM.t) (hM.r0) dX10_personOf_24 ?_
      refine g_iload_n 1 dX10_personOf_27 rfl rfl ?_
      refine gd_callS _ _ _ _ (cn_X10_person g (0, 0) _ p) ⟨rfl, rfl⟩ (ok_X10_person _) mlX10_101 st_X10_person rfl ⟨Nat.le_of_ble_eq_true rfl, Nat.le_of_ble_eq_true rfl⟩ (by exact Nat.le_of_ble_eq_true rfl) ⟨Nat.zero_le _, Nat.zero_le _⟩ dX10_personOf_28 rfl ?_
      refine g_iload_n 2 dX10_personOf_31 rfl rfl ?_
      refine gN_iconst 2 dX10_personOf_32 (by decide) ?_
      refine gN_icmp_ge 40 dX10_personOf_33 (by decide) (by first | omega | exact b01_lt _) (by first | omega | exact b01_lt _) (fun h_33 => ?_) (fun h_33 => ?_)
      · refine g_iload_n 2 dX10_personOf_40 rfl rfl ?_
        refine gN_iconst 1 dX10_personOf_41 (by decide) ?_
        refine gN_isub (2) dX10_personOf_42 (by first | omega | exact b01_lt _) rfl ?_
        refine gN_iadd ((4 + 5 * p) + 2) dX10_personOf_43 rfl ?_
        refine gN_iald 689 (hM.t1) (by first | omega | exact b01_lt _) (by first | omega | exact b01_lt _) dX10_personOf_44 ?_
        refine g_iret rfl dX10_personOf_45 ⟨Nat.zero_le _, Nat.zero_le _⟩ ?_
        exact ⟨rfl, rfl⟩
      · exact absurd h_33 (by decide)
    · exact absurd h_14 (by decide)
  · exact absurd h_2 (by decide)
set_option maxRecDepth 100000 in
theorem cn_X10_personOf4 (g : Gp) (cs : Nat × Nat) {m : Mm} {a : Nat} (hM : MdOk m a) (h0 : NR (im m (a + 1) 0) 0 10) (hl : ∀ s, s < nv (im m (a + 1) 0) → NR (im m (a + 1) (79 + 22 * s)) 1 12) {p : Nat} (hp : p < 4) : Dn g (MX10_personOf cs) [.ref (a), .int (nI (p)), .int (nI (4))] m (some (.int ((im m (a + 1)) (4 + 5 * p + 3)))) (m) := by
  refine Cn.of pn_X10 (Nat.le_of_ble_eq_true rfl) rfl ?_
  refine g_iload_n 2 dX10_personOf_0 rfl rfl ?_
  refine gN_iconst 2 dX10_personOf_1 (by decide) ?_
  refine gN_icmp_ne 11 dX10_personOf_2 (by decide) (by first | omega | exact b01_lt _) (by first | omega | exact b01_lt _) (fun h_2 => ?_) (fun h_2 => ?_)
  · refine g_iload_n 2 dX10_personOf_11 rfl rfl ?_
    refine gN_bipush 6 dX10_personOf_12 (by decide) ?_
    refine gN_icmp_ne 23 dX10_personOf_14 (by decide) (by first | omega | exact b01_lt _) (by first | omega | exact b01_lt _) (fun h_14 => ?_) (fun h_14 => ?_)
    · refine g_aload_n 0 dX10_personOf_23 rfl rfl ?_
      refine gN_getR (a + 1) flX10_7 (fun _ _ _ => rfl) 0 (hM.t) (hM.r0) dX10_personOf_24 ?_
      refine g_iload_n 1 dX10_personOf_27 rfl rfl ?_
      refine gd_callS _ _ _ _ (cn_X10_person g (0, 0) _ p) ⟨rfl, rfl⟩ (ok_X10_person _) mlX10_101 st_X10_person rfl ⟨Nat.le_of_ble_eq_true rfl, Nat.le_of_ble_eq_true rfl⟩ (by exact Nat.le_of_ble_eq_true rfl) ⟨Nat.zero_le _, Nat.zero_le _⟩ dX10_personOf_28 rfl ?_
      refine g_iload_n 2 dX10_personOf_31 rfl rfl ?_
      refine gN_iconst 2 dX10_personOf_32 (by decide) ?_
      refine gN_icmp_ge 40 dX10_personOf_33 (by decide) (by first | omega | exact b01_lt _) (by first | omega | exact b01_lt _) (fun h_33 => ?_) (fun h_33 => ?_)
      · refine g_iload_n 2 dX10_personOf_40 rfl rfl ?_
        refine gN_iconst 1 dX10_personOf_41 (by decide) ?_
        refine gN_isub (3) dX10_personOf_42 (by first | omega | exact b01_lt _) rfl ?_
        refine gN_iadd ((4 + 5 * p) + 3) dX10_personOf_43 rfl ?_
        refine gN_iald 689 (hM.t1) (by first | omega | exact b01_lt _) (by first | omega | exact b01_lt _) dX10_personOf_44 ?_
        refine g_iret rfl dX10_personOf_45 ⟨Nat.zero_le _, Nat.zero_le _⟩ ?_
        exact ⟨rfl, rfl⟩
      · exact absurd h_33 (by decide)
    · exact absurd h_14 (by decide)
  · exact absurd h_2 (by decide)
set_option maxRecDepth 100000 in
theorem cn_X10_personOf5 (g : Gp) (cs : Nat × Nat) {m : Mm} {a : Nat} (hM : MdOk m a) (h0 : NR (im m (a + 1) 0) 0 10) (hl : ∀ s, s < nv (im m (a + 1) 0) → NR (im m (a + 1) (79 + 22 * s)) 1 12) {p : Nat} (hp : p < 4) : Dn g (MX10_personOf cs) [.ref (a), .int (nI (p)), .int (nI (5))] m (some (.int ((im m (a + 1)) (4 + 5 * p + 4)))) (m) := by
  refine Cn.of pn_X10 (Nat.le_of_ble_eq_true rfl) rfl ?_
  refine g_iload_n 2 dX10_personOf_0 rfl rfl ?_
  refine gN_iconst 2 dX10_personOf_1 (by decide) ?_
  refine gN_icmp_ne 11 dX10_personOf_2 (by decide) (by first | omega | exact b01_lt _) (by first | omega | exact b01_lt _) (fun h_2 => ?_) (fun h_2 => ?_)
  · refine g_iload_n 2 dX10_personOf_11 rfl rfl ?_
    refine gN_bipush 6 dX10_personOf_12 (by decide) ?_
    refine gN_icmp_ne 23 dX10_personOf_14 (by decide) (by first | omega | exact b01_lt _) (by first | omega | exact b01_lt _) (fun h_14 => ?_) (fun h_14 => ?_)
    · refine g_aload_n 0 dX10_personOf_23 rfl rfl ?_
      refine gN_getR (a + 1) flX10_7 (fun _ _ _ => rfl) 0 (hM.t) (hM.r0) dX10_personOf_24 ?_
      refine g_iload_n 1 dX10_personOf_27 rfl rfl ?_
      refine gd_callS _ _ _ _ (cn_X10_person g (0, 0) _ p) ⟨rfl, rfl⟩ (ok_X10_person _) mlX10_101 st_X10_person rfl ⟨Nat.le_of_ble_eq_true rfl, Nat.le_of_ble_eq_true rfl⟩ (by exact Nat.le_of_ble_eq_true rfl) ⟨Nat.zero_le _, Nat.zero_le _⟩ dX10_personOf_28 rfl ?_
      refine g_iload_n 2 dX10_personOf_31 rfl rfl ?_
      refine gN_iconst 2 dX10_personOf_32 (by decide) ?_
      refine gN_icmp_ge 40 dX10_personOf_33 (by decide) (by first | omega | exact b01_lt _) (by first | omega | exact b01_lt _) (fun h_33 => ?_) (fun h_33 => ?_)
      · refine g_iload_n 2 dX10_personOf_40 rfl rfl ?_
        refine gN_iconst 1 dX10_personOf_41 (by decide) ?_
        refine gN_isub (4) dX10_personOf_42 (by first | omega | exact b01_lt _) rfl ?_
        refine gN_iadd ((4 + 5 * p) + 4) dX10_personOf_43 rfl ?_
        refine gN_iald 689 (hM.t1) (by first | omega | exact b01_lt _) (by first | omega | exact b01_lt _) dX10_personOf_44 ?_
        refine g_iret rfl dX10_personOf_45 ⟨Nat.zero_le _, Nat.zero_le _⟩ ?_
        exact ⟨rfl, rfl⟩
      · exact absurd h_33 (by decide)
    · exact absurd h_14 (by decide)
  · exact absurd h_2 (by decide)
set_option maxRecDepth 100000 in
theorem cn_X10_personOf6 (g : Gp) (cs : Nat × Nat) {m : Mm} {a : Nat} (hM : MdOk m a) (h0 : NR (im m (a + 1) 0) 0 10) (hl : ∀ s, s < nv (im m (a + 1) 0) → NR (im m (a + 1) (79 + 22 * s)) 1 12) {p : Nat} (hp : p < 4) : Dn g (MX10_personOf cs) [.ref (a), .int (nI (p)), .int (nI (6))] m (some (.int (nI (sm (prF (im m (a + 1)) p) 8)))) (m) := by
  refine Cn.of pn_X10 (Nat.le_of_ble_eq_true rfl) rfl ?_
  refine g_iload_n 2 dX10_personOf_0 rfl rfl ?_
  refine gN_iconst 2 dX10_personOf_1 (by decide) ?_
  refine gN_icmp_ne 11 dX10_personOf_2 (by decide) (by first | omega | exact b01_lt _) (by first | omega | exact b01_lt _) (fun h_2 => ?_) (fun h_2 => ?_)
  · refine g_iload_n 2 dX10_personOf_11 rfl rfl ?_
    refine gN_bipush 6 dX10_personOf_12 (by decide) ?_
    refine gN_icmp_ne 23 dX10_personOf_14 (by decide) (by first | omega | exact b01_lt _) (by first | omega | exact b01_lt _) (fun h_14 => ?_) (fun h_14 => ?_)
    · exact absurd h_14 (by decide)
    · refine g_aload_n 0 dX10_personOf_17 rfl rfl ?_
      refine g_iload_n 1 dX10_personOf_18 rfl rfl ?_
      refine gd_callV _ _ _ _ (cn_X10_proposals g (0, 0) hM hp) ⟨rfl, rfl⟩ (ok_X10_proposals _) mlX10_157 in_X10_proposals se_X10_proposals 10 0 (hM.t) rfl rfl rfl ⟨Nat.le_of_ble_eq_true rfl, Nat.le_of_ble_eq_true rfl⟩ (by exact Nat.le_of_ble_eq_true rfl) ⟨Nat.zero_le _, Nat.zero_le _⟩ dX10_personOf_19 rfl ?_
      refine g_iret rfl dX10_personOf_22 ⟨Nat.zero_le _, Nat.zero_le _⟩ ?_
      exact ⟨rfl, rfl⟩
  · exact absurd h_2 (by decide)
theorem cn_X10_personOf (g : Gp) (cs : Nat × Nat) {m : Mm} {a : Nat} (hM : MdOk m a) (h0 : NR (im m (a + 1) 0) 0 10) (hl : ∀ s, s < nv (im m (a + 1) 0) → NR (im m (a + 1) (79 + 22 * s)) 1 12) {p : Nat} (hp : p < 4) {w : Nat} (hw : w ≤ 6) : Dn g (MX10_personOf cs) [.ref a, .int (nI p), .int (nI w)] m (some (.int (perV (im m (a + 1)) p w))) m := by
  rcases (show w = 0 ∨ w = 1 ∨ w = 2 ∨ w = 3 ∨ w = 4 ∨ w = 5 ∨ w = 6 by omega) with rfl | rfl | rfl | rfl | rfl | rfl | rfl
  · exact cn_X10_personOf0 g cs hM h0 hl hp
  · exact cn_X10_personOf1 g cs hM h0 hl hp
  · exact cn_X10_personOf2 g cs hM h0 hl hp
  · exact cn_X10_personOf3 g cs hM h0 hl hp
  · exact cn_X10_personOf4 g cs hM h0 hl hp
  · exact cn_X10_personOf5 g cs hM h0 hl hp
  · exact cn_X10_personOf6 g cs hM h0 hl hp
set_option maxRecDepth 100000 in
theorem cn_X10_termOf0 (g : Gp) (cs : Nat × Nat) {m : Mm} {a : Nat} (hM : MdOk m a) (h0 : NR (im m (a + 1) 0) 0 10) (hl : ∀ s, s < nv (im m (a + 1) 0) → NR (im m (a + 1) (79 + 22 * s)) 1 12) {v : Nat} (hv : v < 8) : Dn g (MX10_termOf cs) [.ref (a), .int (nI (v)), .int (nI (0))] m (some (.int ((im m (a + 1)) (24 + 4 * v + 0)))) (m) := by
  refine Cn.of pn_X10 (Nat.le_of_ble_eq_true rfl) rfl ?_
  refine g_iload_n 2 dX10_termOf_0 rfl rfl ?_
  refine gN_iconst 4 dX10_termOf_1 (by decide) ?_
  refine gN_icmp_ge 16 dX10_termOf_2 (by decide) (by first | omega | exact b01_lt _) (by first | omega | exact b01_lt _) (fun h_2 => ?_) (fun h_2 => ?_)
  · exact absurd h_2 (by decide)
  · refine g_aload_n 0 dX10_termOf_5 rfl rfl ?_
    refine gN_getR (a + 1) flX10_7 (fun _ _ _ => rfl) 0 (hM.t) (hM.r0) dX10_termOf_6 ?_
    refine g_iload_n 1 dX10_termOf_9 rfl rfl ?_
    refine g_iload_n 2 dX10_termOf_10 rfl rfl ?_
    refine gd_callS _ _ _ _ (cn_X10_proposal g (0, 0) _ v 0) ⟨rfl, rfl⟩ (ok_X10_proposal _) mlX10_84 st_X10_proposal rfl ⟨Nat.le_of_ble_eq_true rfl, Nat.le_of_ble_eq_true rfl⟩ (by exact Nat.le_of_ble_eq_true rfl) ⟨Nat.zero_le _, Nat.zero_le _⟩ dX10_termOf_11 rfl ?_
    refine gN_iald 689 (hM.t1) (by first | omega | exact b01_lt _) (by first | omega | exact b01_lt _) dX10_termOf_14 ?_
    refine g_iret rfl dX10_termOf_15 ⟨Nat.zero_le _, Nat.zero_le _⟩ ?_
    exact ⟨rfl, rfl⟩
set_option maxRecDepth 100000 in
theorem cn_X10_termOf1 (g : Gp) (cs : Nat × Nat) {m : Mm} {a : Nat} (hM : MdOk m a) (h0 : NR (im m (a + 1) 0) 0 10) (hl : ∀ s, s < nv (im m (a + 1) 0) → NR (im m (a + 1) (79 + 22 * s)) 1 12) {v : Nat} (hv : v < 8) : Dn g (MX10_termOf cs) [.ref (a), .int (nI (v)), .int (nI (1))] m (some (.int ((im m (a + 1)) (24 + 4 * v + 1)))) (m) := by
  refine Cn.of pn_X10 (Nat.le_of_ble_eq_true rfl) rfl ?_
  refine g_iload_n 2 dX10_termOf_0 rfl rfl ?_
  refine gN_iconst 4 dX10_termOf_1 (by decide) ?_
  refine gN_icmp_ge 16 dX10_termOf_2 (by decide) (by first | omega | exact b01_lt _) (by first | omega | exact b01_lt _) (fun h_2 => ?_) (fun h_2 => ?_)
  · exact absurd h_2 (by decide)
  · refine g_aload_n 0 dX10_termOf_5 rfl rfl ?_
    refine gN_getR (a + 1) flX10_7 (fun _ _ _ => rfl) 0 (hM.t) (hM.r0) dX10_termOf_6 ?_
    refine g_iload_n 1 dX10_termOf_9 rfl rfl ?_
    refine g_iload_n 2 dX10_termOf_10 rfl rfl ?_
    refine gd_callS _ _ _ _ (cn_X10_proposal g (0, 0) _ v 1) ⟨rfl, rfl⟩ (ok_X10_proposal _) mlX10_84 st_X10_proposal rfl ⟨Nat.le_of_ble_eq_true rfl, Nat.le_of_ble_eq_true rfl⟩ (by exact Nat.le_of_ble_eq_true rfl) ⟨Nat.zero_le _, Nat.zero_le _⟩ dX10_termOf_11 rfl ?_
    refine gN_iald 689 (hM.t1) (by first | omega | exact b01_lt _) (by first | omega | exact b01_lt _) dX10_termOf_14 ?_
    refine g_iret rfl dX10_termOf_15 ⟨Nat.zero_le _, Nat.zero_le _⟩ ?_
    exact ⟨rfl, rfl⟩
set_option maxRecDepth 100000 in
theorem cn_X10_termOf2 (g : Gp) (cs : Nat × Nat) {m : Mm} {a : Nat} (hM : MdOk m a) (h0 : NR (im m (a + 1) 0) 0 10) (hl : ∀ s, s < nv (im m (a + 1) 0) → NR (im m (a + 1) (79 + 22 * s)) 1 12) {v : Nat} (hv : v < 8) : Dn g (MX10_termOf cs) [.ref (a), .int (nI (v)), .int (nI (2))] m (some (.int ((im m (a + 1)) (24 + 4 * v + 2)))) (m) := by
  refine Cn.of pn_X10 (Nat.le_of_ble_eq_true rfl) rfl ?_
  refine g_iload_n 2 dX10_termOf_0 rfl rfl ?_
  refine gN_iconst 4 dX10_termOf_1 (by decide) ?_
  refine gN_icmp_ge 16 dX10_termOf_2 (by decide) (by first | omega | exact b01_lt _) (by first | omega | exact b01_lt _) (fun h_2 => ?_) (fun h_2 => ?_)
  · exact absurd h_2 (by decide)
  · refine g_aload_n 0 dX10_termOf_5 rfl rfl ?_
    refine gN_getR (a + 1) flX10_7 (fun _ _ _ => rfl) 0 (hM.t) (hM.r0) dX10_termOf_6 ?_
    refine g_iload_n 1 dX10_termOf_9 rfl rfl ?_
    refine g_iload_n 2 dX10_termOf_10 rfl rfl ?_
    refine gd_callS _ _ _ _ (cn_X10_proposal g (0, 0) _ v 2) ⟨rfl, rfl⟩ (ok_X10_proposal _) mlX10_84 st_X10_proposal rfl ⟨Nat.le_of_ble_eq_true rfl, Nat.le_of_ble_eq_true rfl⟩ (by exact Nat.le_of_ble_eq_true rfl) ⟨Nat.zero_le _, Nat.zero_le _⟩ dX10_termOf_11 rfl ?_
    refine gN_iald 689 (hM.t1) (by first | omega | exact b01_lt _) (by first | omega | exact b01_lt _) dX10_termOf_14 ?_
    refine g_iret rfl dX10_termOf_15 ⟨Nat.zero_le _, Nat.zero_le _⟩ ?_
    exact ⟨rfl, rfl⟩
set_option maxRecDepth 100000 in
theorem cn_X10_termOf3 (g : Gp) (cs : Nat × Nat) {m : Mm} {a : Nat} (hM : MdOk m a) (h0 : NR (im m (a + 1) 0) 0 10) (hl : ∀ s, s < nv (im m (a + 1) 0) → NR (im m (a + 1) (79 + 22 * s)) 1 12) {v : Nat} (hv : v < 8) : Dn g (MX10_termOf cs) [.ref (a), .int (nI (v)), .int (nI (3))] m (some (.int ((im m (a + 1)) (24 + 4 * v + 3)))) (m) := by
  refine Cn.of pn_X10 (Nat.le_of_ble_eq_true rfl) rfl ?_
  refine g_iload_n 2 dX10_termOf_0 rfl rfl ?_
  refine gN_iconst 4 dX10_termOf_1 (by decide) ?_
  refine gN_icmp_ge 16 dX10_termOf_2 (by decide) (by first | omega | exact b01_lt _) (by first | omega | exact b01_lt _) (fun h_2 => ?_) (fun h_2 => ?_)
  · exact absurd h_2 (by decide)
  · refine g_aload_n 0 dX10_termOf_5 rfl rfl ?_
    refine gN_getR (a + 1) flX10_7 (fun _ _ _ => rfl) 0 (hM.t) (hM.r0) dX10_termOf_6 ?_
    refine g_iload_n 1 dX10_termOf_9 rfl rfl ?_
    refine g_iload_n 2 dX10_termOf_10 rfl rfl ?_
    refine gd_callS _ _ _ _ (cn_X10_proposal g (0, 0) _ v 3) ⟨rfl, rfl⟩ (ok_X10_proposal _) mlX10_84 st_X10_proposal rfl ⟨Nat.le_of_ble_eq_true rfl, Nat.le_of_ble_eq_true rfl⟩ (by exact Nat.le_of_ble_eq_true rfl) ⟨Nat.zero_le _, Nat.zero_le _⟩ dX10_termOf_11 rfl ?_
    refine gN_iald 689 (hM.t1) (by first | omega | exact b01_lt _) (by first | omega | exact b01_lt _) dX10_termOf_14 ?_
    refine g_iret rfl dX10_termOf_15 ⟨Nat.zero_le _, Nat.zero_le _⟩ ?_
    exact ⟨rfl, rfl⟩
set_option maxRecDepth 100000 in
theorem cn_X10_termOf4 (g : Gp) (cs : Nat × Nat) {m : Mm} {a : Nat} (hM : MdOk m a) (h0 : NR (im m (a + 1) 0) 0 10) (hl : ∀ s, s < nv (im m (a + 1) 0) → NR (im m (a + 1) (79 + 22 * s)) 1 12) {v : Nat} (hv : v < 8) : Dn g (MX10_termOf cs) [.ref (a), .int (nI (v)), .int (nI (4))] m (some (.int ((im m (a + 1)) (56 + v)))) (m) := by
  refine Cn.of pn_X10 (Nat.le_of_ble_eq_true rfl) rfl ?_
  refine g_iload_n 2 dX10_termOf_0 rfl rfl ?_
  refine gN_iconst 4 dX10_termOf_1 (by decide) ?_
  refine gN_icmp_ge 16 dX10_termOf_2 (by decide) (by first | omega | exact b01_lt _) (by first | omega | exact b01_lt _) (fun h_2 => ?_) (fun h_2 => ?_)
  · refine g_iload_n 2 dX10_termOf_16 rfl rfl ?_
    refine gN_iconst 4 dX10_termOf_17 (by decide) ?_
    refine gN_icmp_ne 31 dX10_termOf_18 (by decide) (by first | omega | exact b01_lt _) (by first | omega | exact b01_lt _) (fun h_18 => ?_) (fun h_18 => ?_)
    · exact absurd h_18 (by decide)
    · refine g_aload_n 0 dX10_termOf_21 rfl rfl ?_
      refine gN_getR (a + 1) flX10_7 (fun _ _ _ => rfl) 0 (hM.t) (hM.r0) dX10_termOf_22 ?_
      refine gN_bipush 56 dX10_termOf_25 (by decide) ?_
      refine g_iload_n 1 dX10_termOf_27 rfl rfl ?_
      refine gN_iadd (56 + v) dX10_termOf_28 rfl ?_
      refine gN_iald 689 (hM.t1) (by first | omega | exact b01_lt _) (by first | omega | exact b01_lt _) dX10_termOf_29 ?_
      refine g_iret rfl dX10_termOf_30 ⟨Nat.zero_le _, Nat.zero_le _⟩ ?_
      exact ⟨rfl, rfl⟩
  · exact absurd h_2 (by decide)
set_option maxRecDepth 100000 in
theorem cn_X10_termOf5 (g : Gp) (cs : Nat × Nat) {m : Mm} {a : Nat} (hM : MdOk m a) (h0 : NR (im m (a + 1) 0) 0 10) (hl : ∀ s, s < nv (im m (a + 1) 0) → NR (im m (a + 1) (79 + 22 * s)) 1 12) {v : Nat} (hv : v < 8) : Dn g (MX10_termOf cs) [.ref (a), .int (nI (v)), .int (nI (5))] m (some (.int (nI (b01 (dsp (im m (a + 1)) v))))) (m) := by
  refine Cn.of pn_X10 (Nat.le_of_ble_eq_true rfl) rfl ?_
  refine g_iload_n 2 dX10_termOf_0 rfl rfl ?_
  refine gN_iconst 4 dX10_termOf_1 (by decide) ?_
  refine gN_icmp_ge 16 dX10_termOf_2 (by decide) (by first | omega | exact b01_lt _) (by first | omega | exact b01_lt _) (fun h_2 => ?_) (fun h_2 => ?_)
  · refine g_iload_n 2 dX10_termOf_16 rfl rfl ?_
    refine gN_iconst 4 dX10_termOf_17 (by decide) ?_
    refine gN_icmp_ne 31 dX10_termOf_18 (by decide) (by first | omega | exact b01_lt _) (by first | omega | exact b01_lt _) (fun h_18 => ?_) (fun h_18 => ?_)
    · refine g_iload_n 2 dX10_termOf_31 rfl rfl ?_
      refine gN_iconst 5 dX10_termOf_32 (by decide) ?_
      refine gN_icmp_ne 52 dX10_termOf_33 (by decide) (by first | omega | exact b01_lt _) (by first | omega | exact b01_lt _) (fun h_33 => ?_) (fun h_33 => ?_)
      · exact absurd h_33 (by decide)
      · refine g_join 71 (b01 (dsp (im m (a + 1)) v)) ?_ (fun K_71 => ?_)
        · refine g_iret rfl dX10_termOf_71 ⟨Nat.zero_le _, Nat.zero_le _⟩ ?_
          exact ⟨rfl, rfl⟩
        · refine g_aload_n 0 dX10_termOf_36 rfl rfl ?_
          refine g_iload_n 1 dX10_termOf_37 rfl rfl ?_
          refine gd_callV _ _ _ _ (cn_X10_isDisputed g (0, 0) hM hv) ⟨rfl, rfl⟩ (ok_X10_isDisputed _) mlX10_88 in_X10_isDisputed se_X10_isDisputed 10 0 (hM.t) rfl rfl rfl ⟨Nat.le_of_ble_eq_true rfl, Nat.le_of_ble_eq_true rfl⟩ (by exact Nat.le_of_ble_eq_true rfl) ⟨Nat.zero_le _, Nat.zero_le _⟩ dX10_termOf_38 rfl ?_
          refine gN_if_eq 48 dX10_termOf_41 (by decide) (by first | omega | exact b01_lt _) (fun h_41 => ?_) (fun h_41 => ?_)
          · refine gN_iconst 0 dX10_termOf_48 (by decide) ?_
            refine g_goto 71 dX10_termOf_49 (by decide) ?_
            exact g_ei (nI (b01 (dsp (im m (a + 1)) v))) (congrArg nI (show 0 = b01 (dsp (im m (a + 1)) v) from by first | (show 1 = b01 (dsp (im m (a + 1)) v); have := b01_le (dsp (im m (a + 1)) v); omega) | (show 0 = b01 (dsp (im m (a + 1)) v); omega))) K_71
          · refine gN_iconst 1 dX10_termOf_44 (by decide) ?_
            refine g_goto 71 dX10_termOf_45 (by decide) ?_
            exact g_ei (nI (b01 (dsp (im m (a + 1)) v))) (congrArg nI (show 1 = b01 (dsp (im m (a + 1)) v) from by first | (show 1 = b01 (dsp (im m (a + 1)) v); have := b01_le (dsp (im m (a + 1)) v); omega) | (show 0 = b01 (dsp (im m (a + 1)) v); omega))) K_71
    · exact absurd h_18 (by decide)
  · exact absurd h_2 (by decide)
set_option maxRecDepth 100000 in
theorem cn_X10_termOf6 (g : Gp) (cs : Nat × Nat) {m : Mm} {a : Nat} (hM : MdOk m a) (h0 : NR (im m (a + 1) 0) 0 10) (hl : ∀ s, s < nv (im m (a + 1) 0) → NR (im m (a + 1) (79 + 22 * s)) 1 12) {v : Nat} (hv : v < 8) : Dn g (MX10_termOf cs) [.ref (a), .int (nI (v)), .int (nI (6))] m (some (.int (nI (unl (im m (a + 1)) v)))) (m) := by
  refine Cn.of pn_X10 (Nat.le_of_ble_eq_true rfl) rfl ?_
  refine g_iload_n 2 dX10_termOf_0 rfl rfl ?_
  refine gN_iconst 4 dX10_termOf_1 (by decide) ?_
  refine gN_icmp_ge 16 dX10_termOf_2 (by decide) (by first | omega | exact b01_lt _) (by first | omega | exact b01_lt _) (fun h_2 => ?_) (fun h_2 => ?_)
  · refine g_iload_n 2 dX10_termOf_16 rfl rfl ?_
    refine gN_iconst 4 dX10_termOf_17 (by decide) ?_
    refine gN_icmp_ne 31 dX10_termOf_18 (by decide) (by first | omega | exact b01_lt _) (by first | omega | exact b01_lt _) (fun h_18 => ?_) (fun h_18 => ?_)
    · refine g_iload_n 2 dX10_termOf_31 rfl rfl ?_
      refine gN_iconst 5 dX10_termOf_32 (by decide) ?_
      refine gN_icmp_ne 52 dX10_termOf_33 (by decide) (by first | omega | exact b01_lt _) (by first | omega | exact b01_lt _) (fun h_33 => ?_) (fun h_33 => ?_)
      · refine g_iload_n 2 dX10_termOf_52 rfl rfl ?_
        refine gN_bipush 6 dX10_termOf_53 (by decide) ?_
        refine gN_icmp_ne 66 dX10_termOf_55 (by decide) (by first | omega | exact b01_lt _) (by first | omega | exact b01_lt _) (fun h_55 => ?_) (fun h_55 => ?_)
        · exact absurd h_55 (by decide)
        · refine g_aload_n 0 dX10_termOf_58 rfl rfl ?_
          refine g_iload_n 1 dX10_termOf_59 rfl rfl ?_
          refine gd_callV _ _ _ _ (cn_X10_unlike g (0, 0) hM hv) ⟨rfl, rfl⟩ (ok_X10_unlike _) mlX10_81 in_X10_unlike se_X10_unlike 10 0 (hM.t) rfl rfl rfl ⟨Nat.le_of_ble_eq_true rfl, Nat.le_of_ble_eq_true rfl⟩ (by exact Nat.le_of_ble_eq_true rfl) ⟨Nat.zero_le _, Nat.zero_le _⟩ dX10_termOf_60 rfl ?_
          refine g_goto 71 dX10_termOf_63 (by decide) ?_
          refine g_iret rfl dX10_termOf_71 ⟨Nat.zero_le _, Nat.zero_le _⟩ ?_
          exact ⟨rfl, rfl⟩
      · exact absurd h_33 (by decide)
    · exact absurd h_18 (by decide)
  · exact absurd h_2 (by decide)
set_option maxRecDepth 100000 in
theorem cn_X10_termOf7 (g : Gp) (cs : Nat × Nat) {m : Mm} {a : Nat} (hM : MdOk m a) (h0 : NR (im m (a + 1) 0) 0 10) (hl : ∀ s, s < nv (im m (a + 1) 0) → NR (im m (a + 1) (79 + 22 * s)) 1 12) {v : Nat} (hv : v < 8) : Dn g (MX10_termOf cs) [.ref (a), .int (nI (v)), .int (nI (7))] m (some (.int (nI (sm (ofF (im m (a + 1)) (nI v)) (nv (im m (a + 1) 0)))))) (m) := by
  refine Cn.of pn_X10 (Nat.le_of_ble_eq_true rfl) rfl ?_
  refine g_iload_n 2 dX10_termOf_0 rfl rfl ?_
  refine gN_iconst 4 dX10_termOf_1 (by decide) ?_
  refine gN_icmp_ge 16 dX10_termOf_2 (by decide) (by first | omega | exact b01_lt _) (by first | omega | exact b01_lt _) (fun h_2 => ?_) (fun h_2 => ?_)
  · refine g_iload_n 2 dX10_termOf_16 rfl rfl ?_
    refine gN_iconst 4 dX10_termOf_17 (by decide) ?_
    refine gN_icmp_ne 31 dX10_termOf_18 (by decide) (by first | omega | exact b01_lt _) (by first | omega | exact b01_lt _) (fun h_18 => ?_) (fun h_18 => ?_)
    · refine g_iload_n 2 dX10_termOf_31 rfl rfl ?_
      refine gN_iconst 5 dX10_termOf_32 (by decide) ?_
      refine gN_icmp_ne 52 dX10_termOf_33 (by decide) (by first | omega | exact b01_lt _) (by first | omega | exact b01_lt _) (fun h_33 => ?_) (fun h_33 => ?_)
      · refine g_iload_n 2 dX10_termOf_52 rfl rfl ?_
        refine gN_bipush 6 dX10_termOf_53 (by decide) ?_
        refine gN_icmp_ne 66 dX10_termOf_55 (by decide) (by first | omega | exact b01_lt _) (by first | omega | exact b01_lt _) (fun h_55 => ?_) (fun h_55 => ?_)
        · refine g_aload_n 0 dX10_termOf_66 rfl rfl ?_
          refine g_iload_n 1 dX10_termOf_67 rfl rfl ?_
          refine gd_callV _ _ _ _ (cn_X10_often g (0, 0) hM h0 hl (nI v)) ⟨rfl, rfl⟩ (ok_X10_often _) mlX10_163 in_X10_often se_X10_often 10 0 (hM.t) rfl rfl rfl ⟨Nat.le_of_ble_eq_true rfl, Nat.le_of_ble_eq_true rfl⟩ (by exact Nat.le_of_ble_eq_true rfl) ⟨Nat.zero_le _, Nat.zero_le _⟩ dX10_termOf_68 rfl ?_
          refine g_iret rfl dX10_termOf_71 ⟨Nat.zero_le _, Nat.zero_le _⟩ ?_
          exact ⟨rfl, rfl⟩
        · exact absurd h_55 (by decide)
      · exact absurd h_33 (by decide)
    · exact absurd h_18 (by decide)
  · exact absurd h_2 (by decide)
theorem cn_X10_termOf (g : Gp) (cs : Nat × Nat) {m : Mm} {a : Nat} (hM : MdOk m a) (h0 : NR (im m (a + 1) 0) 0 10) (hl : ∀ s, s < nv (im m (a + 1) 0) → NR (im m (a + 1) (79 + 22 * s)) 1 12) {v : Nat} (hv : v < 8) {w : Nat} (hw : w ≤ 7) : Dn g (MX10_termOf cs) [.ref a, .int (nI v), .int (nI w)] m (some (.int (terV (im m (a + 1)) v w))) m := by
  rcases (show w = 0 ∨ w = 1 ∨ w = 2 ∨ w = 3 ∨ w = 4 ∨ w = 5 ∨ w = 6 ∨ w = 7 by omega) with rfl | rfl | rfl | rfl | rfl | rfl | rfl | rfl
  · exact cn_X10_termOf0 g cs hM h0 hl hv
  · exact cn_X10_termOf1 g cs hM h0 hl hv
  · exact cn_X10_termOf2 g cs hM h0 hl hv
  · exact cn_X10_termOf3 g cs hM h0 hl hv
  · exact cn_X10_termOf4 g cs hM h0 hl hv
  · exact cn_X10_termOf5 g cs hM h0 hl hv
  · exact cn_X10_termOf6 g cs hM h0 hl hv
  · exact cn_X10_termOf7 g cs hM h0 hl hv
set_option maxRecDepth 100000 in
theorem cn_X10_wordOf (g : Gp) (cs : Nat × Nat) {m : Mm} {a : Nat} (hM : MdOk m a) {s : Nat} (hs : s < 10) (hl : NR (im m (a + 1) (79 + 22 * s)) 1 12) {k : Nat} (hk : k < 12) : Dn g (MX10_wordOf cs) [.ref (a), .int (nI (s)), .int (nI (k))] m (some (.int (wrdV (im m (a + 1)) (79 + 22 * s) k))) (m) := by
  have h9 := hl.hi
  refine Cn.of pn_X10 (Nat.le_of_ble_eq_true rfl) rfl ?_
  refine g_iload_n 2 dX10_wordOf_0 rfl rfl ?_
  refine g_aload_n 0 dX10_wordOf_1 rfl rfl ?_
  refine gN_getR (a + 1) flX10_7 (fun _ _ _ => rfl) 0 (hM.t) (hM.r0) dX10_wordOf_2 ?_
  refine g_iload_n 1 dX10_wordOf_5 rfl rfl ?_
  refine gd_callS _ _ _ _ (cn_X10_at g (0, 0) _ s) ⟨rfl, rfl⟩ (ok_X10_at _) mlX10_45 st_X10_at rfl ⟨Nat.le_of_ble_eq_true rfl, Nat.le_of_ble_eq_true rfl⟩ (by exact Nat.le_of_ble_eq_true rfl) ⟨Nat.zero_le _, Nat.zero_le _⟩ dX10_wordOf_6 rfl ?_
  refine gN_iald 689 (hM.t1) (by first | omega | exact b01_lt _) (by first | omega | exact b01_lt _) dX10_wordOf_9 ?_
  refine g_ei (nI (nv (im m (a + 1) (79 + 22 * s)))) (hl.e) ?_
  refine gN_icmp_ge 30 dX10_wordOf_10 (by decide) (by first | omega | exact b01_lt _) (by first | omega | exact b01_lt _) (fun h_10 => ?_) (fun h_10 => ?_)
  · refine g_iconst (-1) dX10_wordOf_30 (by decide) ?_
    refine g_iret rfl dX10_wordOf_31 ⟨Nat.zero_le _, Nat.zero_le _⟩ ?_
    refine ⟨vI ?_, rfl⟩
    unfold wrdV
    first | rw [if_pos h_10] | rw [if_neg (by omega)]
  · refine g_aload_n 0 dX10_wordOf_13 rfl rfl ?_
    refine gN_getR (a + 1) flX10_7 (fun _ _ _ => rfl) 0 (hM.t) (hM.r0) dX10_wordOf_14 ?_
    refine g_iload_n 1 dX10_wordOf_17 rfl rfl ?_
    refine gd_callS _ _ _ _ (cn_X10_at g (0, 0) _ s) ⟨rfl, rfl⟩ (ok_X10_at _) mlX10_45 st_X10_at rfl ⟨Nat.le_of_ble_eq_true rfl, Nat.le_of_ble_eq_true rfl⟩ (by exact Nat.le_of_ble_eq_true rfl) ⟨Nat.zero_le _, Nat.zero_le _⟩ dX10_wordOf_18 rfl ?_
    refine gN_bipush 10 dX10_wordOf_21 (by decide) ?_
    refine gN_iadd ((79 + 22 * s) + 10) dX10_wordOf_23 rfl ?_
    refine g_iload_n 2 dX10_wordOf_24 rfl rfl ?_
    refine gN_iadd (((79 + 22 * s) + 10) + k) dX10_wordOf_25 rfl ?_
    refine gN_iald 689 (hM.t1) (by first | omega | exact b01_lt _) (by first | omega | exact b01_lt _) dX10_wordOf_26 ?_
    refine g_goto 31 dX10_wordOf_27 (by decide) ?_
    refine g_iret rfl dX10_wordOf_31 ⟨Nat.zero_le _, Nat.zero_le _⟩ ?_
    refine ⟨vI ?_, rfl⟩
    unfold wrdV
    first | rw [if_pos h_10] | rw [if_neg (by omega)]
set_option maxRecDepth 100000 in
theorem cn_X10_count_1 (g : Gp) (cs : Nat × Nat) {m : Mm} {a : Nat} (hM : MdOk m a) {x : Int32} (h : ¬ inb x 12) : En g (MX10_count cs) [.ref (a), .int (x)] m (some (.int (nI 0))) (sc a (th m a 1)) := by
  refine Cn.of pn_X10 (Nat.le_of_ble_eq_true rfl) rfl ?_
  refine g_aload_n 0 dX10_count_0 rfl rfl ?_
  refine gN_iconst 0 dX10_count_1 (by decide) ?_
  refine gN_putI fwX10_34 rfl 0 (hM.t) dX10_count_2 ?_
  refine g_iload_n 1 dX10_count_5 rfl rfl ?_
  refine gN_iconst 0 dX10_count_6 (by decide) ?_
  refine gN_bipush 11 dX10_count_7 (by decide) ?_
  refine gd_callS _ _ _ _ (cn_X10_in g (0, 0) _ (x) (nI (0)) (nI (11))) ⟨rfl, rfl⟩ (ok_X10_in _) mlX10_41 st_X10_in rfl ⟨Nat.le_of_ble_eq_true rfl, Nat.le_of_ble_eq_true rfl⟩ (by exact Nat.le_of_ble_eq_true rfl) ⟨Nat.zero_le _, Nat.zero_le _⟩ dX10_count_9 rfl ?_
  refine gN_if_eq 23 dX10_count_12 (by decide) (by first | omega | exact b01_lt _) (fun h_12 => ?_) (fun h_12 => ?_)
  · refine g_aload_n 0 dX10_count_23 rfl rfl ?_
    refine gN_iconst 1 dX10_count_24 (by decide) ?_
    refine gd_callV _ _ _ _ (cn_X10_fails g (0, 0) (m := sI m a 6 (nI 0)) hM (nI (1))) ⟨rfl, rfl⟩ (ok_X10_fails _) mlX10_95 in_X10_fails se_X10_fails 10 0 (hM.t) rfl rfl rfl ⟨Nat.le_of_ble_eq_true rfl, Nat.le_of_ble_eq_true rfl⟩ (by exact Nat.le_of_ble_eq_true rfl) ⟨Nat.zero_le _, Nat.zero_le _⟩ dX10_count_25 rfl ?_
    refine g_iret rfl dX10_count_28 ⟨Nat.zero_le _, Nat.zero_le _⟩ ?_
    exact ⟨rfl, _, rfl, by rw [show im (sI m a 6 (nI 0)) = th m a 0 from rfl, th_th]; exact sc.rf⟩
  · exact False.elim (h ((in_inb (n := 11) (by decide)).mp (b01_n.mp h_12)))
set_option maxRecDepth 100000 in
theorem cn_X10_count_0 (g : Gp) (cs : Nat × Nat) {m : Mm} {a : Nat} (hM : MdOk m a) (h0 : NR (im m (a + 1) 0) 0 10) (hl : ∀ s, s < nv (im m (a + 1) 0) → NR (im m (a + 1) (79 + 22 * s)) 1 12) {w : Nat} (hw : w ≤ 11) : En g (MX10_count cs) [.ref (a), .int (nI (w))] m (some (.int (cntV (im m (a + 1)) (im m a 3) w))) (sc a (th m a 0)) := by
  refine Cn.of pn_X10 (Nat.le_of_ble_eq_true rfl) rfl ?_
  refine g_aload_n 0 dX10_count_0 rfl rfl ?_
  refine gN_iconst 0 dX10_count_1 (by decide) ?_
  refine gN_putI fwX10_34 rfl 0 (hM.t) dX10_count_2 ?_
  refine g_iload_n 1 dX10_count_5 rfl rfl ?_
  refine gN_iconst 0 dX10_count_6 (by decide) ?_
  refine gN_bipush 11 dX10_count_7 (by decide) ?_
  refine gd_callS _ _ _ _ (cn_X10_in g (0, 0) _ (nI (w)) (nI (0)) (nI (11))) ⟨rfl, rfl⟩ (ok_X10_in _) mlX10_41 st_X10_in rfl ⟨Nat.le_of_ble_eq_true rfl, Nat.le_of_ble_eq_true rfl⟩ (by exact Nat.le_of_ble_eq_true rfl) ⟨Nat.zero_le _, Nat.zero_le _⟩ dX10_count_9 rfl ?_
  refine gN_if_eq 23 dX10_count_12 (by decide) (by first | omega | exact b01_lt _) (fun h_12 => ?_) (fun h_12 => ?_)
  · exact False.elim (b01_z.mp h_12 ((in_inb (n := 11) (by decide)).mpr ((inb_nI (by omega)).mpr (by omega))))
  · refine g_aload_n 0 dX10_count_15 rfl rfl ?_
    refine g_iload_n 1 dX10_count_16 rfl rfl ?_
    refine gd_callV _ _ _ _ (cn_X10_counted g (0, 0) (m := sI m a 6 (nI 0)) hM (by rw [ze]; exact h0) (by rw [ze]; exact hl) hw) ⟨rfl, rfl⟩ (ok_X10_counted _) mlX10_182 in_X10_counted se_X10_counted 10 0 (hM.t) rfl rfl rfl ⟨Nat.le_of_ble_eq_true rfl, Nat.le_of_ble_eq_true rfl⟩ (by exact Nat.le_of_ble_eq_true rfl) ⟨Nat.zero_le _, Nat.zero_le _⟩ dX10_count_17 rfl ?_
    refine g_goto 28 dX10_count_20 (by decide) ?_
    refine g_iret rfl dX10_count_28 ⟨Nat.zero_le _, Nat.zero_le _⟩ ?_
    exact ⟨vI (by rw [ze, show im (sI m a 6 (nI 0)) a 3 = im m a 3 from th_a m a 0 3 (by omega)]), _, rfl, sc.rf⟩
set_option maxRecDepth 100000 in
theorem cn_X10_band_1 (g : Gp) (cs : Nat × Nat) {m : Mm} {a : Nat} (hM : MdOk m a) {p x : Int32} (h : ¬ inb p 5) : En g (MX10_band cs) [.ref (a), .int (p), .int (x)] m (some (.int (nI 0))) (sc a (th m a 1)) := by
  refine Cn.of pn_X10 (Nat.le_of_ble_eq_true rfl) rfl ?_
  refine g_aload_n 0 dX10_band_0 rfl rfl ?_
  refine gN_iconst 0 dX10_band_1 (by decide) ?_
  refine gN_putI fwX10_34 rfl 0 (hM.t) dX10_band_2 ?_
  refine g_iload_n 1 dX10_band_5 rfl rfl ?_
  refine gd_callS _ _ _ _ (cn_X10_isBand g (0, 0) (p)) ⟨rfl, rfl⟩ (ok_X10_isBand _) mlX10_104 st_X10_isBand rfl ⟨Nat.le_of_ble_eq_true rfl, Nat.le_of_ble_eq_true rfl⟩ (by exact Nat.le_of_ble_eq_true rfl) ⟨Nat.zero_le _, Nat.zero_le _⟩ dX10_band_6 rfl ?_
  refine gN_if_ne 18 dX10_band_9 (by decide) (by first | omega | exact b01_lt _) (fun h_9 => ?_) (fun h_9 => ?_)
  · exact False.elim (h (b01_n.mp h_9))
  · refine g_aload_n 0 dX10_band_12 rfl rfl ?_
    refine gN_iconst 1 dX10_band_13 (by decide) ?_
    refine gd_callV _ _ _ _ (cn_X10_fails g (0, 0) (m := sI m a 6 (nI 0)) hM (nI (1))) ⟨rfl, rfl⟩ (ok_X10_fails _) mlX10_95 in_X10_fails se_X10_fails 10 0 (hM.t) rfl rfl rfl ⟨Nat.le_of_ble_eq_true rfl, Nat.le_of_ble_eq_true rfl⟩ (by exact Nat.le_of_ble_eq_true rfl) ⟨Nat.zero_le _, Nat.zero_le _⟩ dX10_band_14 rfl ?_
    refine g_iret rfl dX10_band_17 ⟨Nat.zero_le _, Nat.zero_le _⟩ ?_
    exact ⟨rfl, _, rfl, by rw [show im (sI m a 6 (nI 0)) = th m a 0 from rfl, th_th]; exact sc.rf⟩
set_option maxRecDepth 100000 in
theorem cn_X10_band_2 (g : Gp) (cs : Nat × Nat) {m : Mm} {a : Nat} (hM : MdOk m a) {j : Nat} (hj : j < 5) {x : Int32} (h : ¬ inb x 3) : En g (MX10_band cs) [.ref (a), .int (nI (j)), .int (x)] m (some (.int (nI 0))) (sc a (th m a 2)) := by
  refine Cn.of pn_X10 (Nat.le_of_ble_eq_true rfl) rfl ?_
  refine g_aload_n 0 dX10_band_0 rfl rfl ?_
  refine gN_iconst 0 dX10_band_1 (by decide) ?_
  refine gN_putI fwX10_34 rfl 0 (hM.t) dX10_band_2 ?_
  refine g_iload_n 1 dX10_band_5 rfl rfl ?_
  refine gd_callS _ _ _ _ (cn_X10_isBand g (0, 0) (nI (j))) ⟨rfl, rfl⟩ (ok_X10_isBand _) mlX10_104 st_X10_isBand rfl ⟨Nat.le_of_ble_eq_true rfl, Nat.le_of_ble_eq_true rfl⟩ (by exact Nat.le_of_ble_eq_true rfl) ⟨Nat.zero_le _, Nat.zero_le _⟩ dX10_band_6 rfl ?_
  refine gN_if_ne 18 dX10_band_9 (by decide) (by first | omega | exact b01_lt _) (fun h_9 => ?_) (fun h_9 => ?_)
  · refine g_iload_n 2 dX10_band_18 rfl rfl ?_
    refine gN_iconst 0 dX10_band_19 (by decide) ?_
    refine gN_iconst 2 dX10_band_20 (by decide) ?_
    refine gd_callS _ _ _ _ (cn_X10_in g (0, 0) _ (x) (nI (0)) (nI (2))) ⟨rfl, rfl⟩ (ok_X10_in _) mlX10_41 st_X10_in rfl ⟨Nat.le_of_ble_eq_true rfl, Nat.le_of_ble_eq_true rfl⟩ (by exact Nat.le_of_ble_eq_true rfl) ⟨Nat.zero_le _, Nat.zero_le _⟩ dX10_band_21 rfl ?_
    refine gN_if_eq 43 dX10_band_24 (by decide) (by first | omega | exact b01_lt _) (fun h_24 => ?_) (fun h_24 => ?_)
    · refine g_aload_n 0 dX10_band_43 rfl rfl ?_
      refine gN_iconst 2 dX10_band_44 (by decide) ?_
      refine gd_callV _ _ _ _ (cn_X10_fails g (0, 0) (m := sI m a 6 (nI 0)) hM (nI (2))) ⟨rfl, rfl⟩ (ok_X10_fails _) mlX10_95 in_X10_fails se_X10_fails 10 0 (hM.t) rfl rfl rfl ⟨Nat.le_of_ble_eq_true rfl, Nat.le_of_ble_eq_true rfl⟩ (by exact Nat.le_of_ble_eq_true rfl) ⟨Nat.zero_le _, Nat.zero_le _⟩ dX10_band_45 rfl ?_
      refine g_iret rfl dX10_band_48 ⟨Nat.zero_le _, Nat.zero_le _⟩ ?_
      exact ⟨rfl, _, rfl, by rw [show im (sI m a 6 (nI 0)) = th m a 0 from rfl, th_th]; exact sc.rf⟩
    · exact False.elim (h ((in_inb (n := 2) (by decide)).mp (b01_n.mp h_24)))
  · exact False.elim (b01_z.mp h_9 ((inb_nI (by omega)).mpr hj))
set_option maxRecDepth 100000 in
theorem cn_X10_band_0 (g : Gp) (cs : Nat × Nat) {m : Mm} {a : Nat} (hM : MdOk m a) {j : Nat} (hj : j < 5) {w : Nat} (hw : w ≤ 2) : En g (MX10_band cs) [.ref (a), .int (nI (j)), .int (nI (w))] m (some (.int ((im m (a + 1)) (64 + 3 * j + w)))) (sc a (th m a 0)) := by
  refine Cn.of pn_X10 (Nat.le_of_ble_eq_true rfl) rfl ?_
  refine g_aload_n 0 dX10_band_0 rfl rfl ?_
  refine gN_iconst 0 dX10_band_1 (by decide) ?_
  refine gN_putI fwX10_34 rfl 0 (hM.t) dX10_band_2 ?_
  refine g_iload_n 1 dX10_band_5 rfl rfl ?_
  refine gd_callS _ _ _ _ (cn_X10_isBand g (0, 0) (nI (j))) ⟨rfl, rfl⟩ (ok_X10_isBand _) mlX10_104 st_X10_isBand rfl ⟨Nat.le_of_ble_eq_true rfl, Nat.le_of_ble_eq_true rfl⟩ (by exact Nat.le_of_ble_eq_true rfl) ⟨Nat.zero_le _, Nat.zero_le _⟩ dX10_band_6 rfl ?_
  refine gN_if_ne 18 dX10_band_9 (by decide) (by first | omega | exact b01_lt _) (fun h_9 => ?_) (fun h_9 => ?_)
  · refine g_iload_n 2 dX10_band_18 rfl rfl ?_
    refine gN_iconst 0 dX10_band_19 (by decide) ?_
    refine gN_iconst 2 dX10_band_20 (by decide) ?_
    refine gd_callS _ _ _ _ (cn_X10_in g (0, 0) _ (nI (w)) (nI (0)) (nI (2))) ⟨rfl, rfl⟩ (ok_X10_in _) mlX10_41 st_X10_in rfl ⟨Nat.le_of_ble_eq_true rfl, Nat.le_of_ble_eq_true rfl⟩ (by exact Nat.le_of_ble_eq_true rfl) ⟨Nat.zero_le _, Nat.zero_le _⟩ dX10_band_21 rfl ?_
    refine gN_if_eq 43 dX10_band_24 (by decide) (by first | omega | exact b01_lt _) (fun h_24 => ?_) (fun h_24 => ?_)
    · exact False.elim (b01_z.mp h_24 ((in_inb (n := 2) (by decide)).mpr ((inb_nI (by omega)).mpr (by omega))))
    · refine g_aload_n 0 dX10_band_27 rfl rfl ?_
      refine gN_getR (a + 1) flX10_7 (fun _ _ _ => rfl) 0 (hM.t) (hM.r0) dX10_band_28 ?_
      refine gN_bipush 64 dX10_band_31 (by decide) ?_
      refine gN_iconst 3 dX10_band_33 (by decide) ?_
      refine g_iload_n 1 dX10_band_34 rfl rfl ?_
      refine gN_imul (3 * j) dX10_band_35 rfl ?_
      refine gN_iadd (64 + (3 * j)) dX10_band_36 rfl ?_
      refine g_iload_n 2 dX10_band_37 rfl rfl ?_
      refine gN_iadd ((64 + (3 * j)) + w) dX10_band_38 rfl ?_
      refine gN_iald 689 (hM.t1) (by first | omega | exact b01_lt _) (by first | omega | exact b01_lt _) dX10_band_39 ?_
      refine g_goto 48 dX10_band_40 (by decide) ?_
      refine g_iret rfl dX10_band_48 ⟨Nat.zero_le _, Nat.zero_le _⟩ ?_
      exact ⟨vI (th_z m a 0 _), _, rfl, sc.rf⟩
  · exact False.elim (b01_z.mp h_9 ((inb_nI (by omega)).mpr hj))
set_option maxRecDepth 100000 in
theorem cn_X10_setting_1 (g : Gp) (cs : Nat × Nat) {m : Mm} {a : Nat} (hM : MdOk m a) {x : Int32} (h : ¬ inb x 2) : En g (MX10_setting cs) [.ref (a), .int (x)] m (some (.int (nI 0))) (sc a (th m a 1)) := by
  refine Cn.of pn_X10 (Nat.le_of_ble_eq_true rfl) rfl ?_
  refine g_aload_n 0 dX10_setting_0 rfl rfl ?_
  refine gN_iconst 0 dX10_setting_1 (by decide) ?_
  refine gN_putI fwX10_34 rfl 0 (hM.t) dX10_setting_2 ?_
  refine g_iload_n 1 dX10_setting_5 rfl rfl ?_
  refine gN_iconst 0 dX10_setting_6 (by decide) ?_
  refine gN_iconst 1 dX10_setting_7 (by decide) ?_
  refine gd_callS _ _ _ _ (cn_X10_in g (0, 0) _ (x) (nI (0)) (nI (1))) ⟨rfl, rfl⟩ (ok_X10_in _) mlX10_41 st_X10_in rfl ⟨Nat.le_of_ble_eq_true rfl, Nat.le_of_ble_eq_true rfl⟩ (by exact Nat.le_of_ble_eq_true rfl) ⟨Nat.zero_le _, Nat.zero_le _⟩ dX10_setting_8 rfl ?_
  refine gN_if_eq 25 dX10_setting_11 (by decide) (by first | omega | exact b01_lt _) (fun h_11 => ?_) (fun h_11 => ?_)
  · refine g_aload_n 0 dX10_setting_25 rfl rfl ?_
    refine gN_iconst 1 dX10_setting_26 (by decide) ?_
    refine gd_callV _ _ _ _ (cn_X10_fails g (0, 0) (m := sI m a 6 (nI 0)) hM (nI (1))) ⟨rfl, rfl⟩ (ok_X10_fails _) mlX10_95 in_X10_fails se_X10_fails 10 0 (hM.t) rfl rfl rfl ⟨Nat.le_of_ble_eq_true rfl, Nat.le_of_ble_eq_true rfl⟩ (by exact Nat.le_of_ble_eq_true rfl) ⟨Nat.zero_le _, Nat.zero_le _⟩ dX10_setting_27 rfl ?_
    refine g_iret rfl dX10_setting_30 ⟨Nat.zero_le _, Nat.zero_le _⟩ ?_
    exact ⟨rfl, _, rfl, by rw [show im (sI m a 6 (nI 0)) = th m a 0 from rfl, th_th]; exact sc.rf⟩
  · exact False.elim (h ((in_inb (n := 1) (by decide)).mp (b01_n.mp h_11)))
set_option maxRecDepth 100000 in
theorem cn_X10_setting_0 (g : Gp) (cs : Nat × Nat) {m : Mm} {a : Nat} (hM : MdOk m a) {w : Nat} (hw : w ≤ 1) : En g (MX10_setting cs) [.ref (a), .int (nI (w))] m (some (.int ((im m (a + 1)) (2 + w)))) (sc a (th m a 0)) := by
  refine Cn.of pn_X10 (Nat.le_of_ble_eq_true rfl) rfl ?_
  refine g_aload_n 0 dX10_setting_0 rfl rfl ?_
  refine gN_iconst 0 dX10_setting_1 (by decide) ?_
  refine gN_putI fwX10_34 rfl 0 (hM.t) dX10_setting_2 ?_
  refine g_iload_n 1 dX10_setting_5 rfl rfl ?_
  refine gN_iconst 0 dX10_setting_6 (by decide) ?_
  refine gN_iconst 1 dX10_setting_7 (by decide) ?_
  refine gd_callS _ _ _ _ (cn_X10_in g (0, 0) _ (nI (w)) (nI (0)) (nI (1))) ⟨rfl, rfl⟩ (ok_X10_in _) mlX10_41 st_X10_in rfl ⟨Nat.le_of_ble_eq_true rfl, Nat.le_of_ble_eq_true rfl⟩ (by exact Nat.le_of_ble_eq_true rfl) ⟨Nat.zero_le _, Nat.zero_le _⟩ dX10_setting_8 rfl ?_
  refine gN_if_eq 25 dX10_setting_11 (by decide) (by first | omega | exact b01_lt _) (fun h_11 => ?_) (fun h_11 => ?_)
  · exact False.elim (b01_z.mp h_11 ((in_inb (n := 1) (by decide)).mpr ((inb_nI (by omega)).mpr (by omega))))
  · refine g_aload_n 0 dX10_setting_14 rfl rfl ?_
    refine gN_getR (a + 1) flX10_7 (fun _ _ _ => rfl) 0 (hM.t) (hM.r0) dX10_setting_15 ?_
    refine gN_iconst 2 dX10_setting_18 (by decide) ?_
    refine g_iload_n 1 dX10_setting_19 rfl rfl ?_
    refine gN_iadd (2 + w) dX10_setting_20 rfl ?_
    refine gN_iald 689 (hM.t1) (by first | omega | exact b01_lt _) (by first | omega | exact b01_lt _) dX10_setting_21 ?_
    refine g_goto 30 dX10_setting_22 (by decide) ?_
    refine g_iret rfl dX10_setting_30 ⟨Nat.zero_le _, Nat.zero_le _⟩ ?_
    exact ⟨vI (th_z m a 0 _), _, rfl, sc.rf⟩
set_option maxRecDepth 100000 in
theorem cn_X10_translator_1 (g : Gp) (cs : Nat × Nat) {m : Mm} {a : Nat} (hM : MdOk m a) {p x : Int32} (h : ¬ inb p 4) : En g (MX10_translator cs) [.ref (a), .int (p), .int (x)] m (some (.int (nI 0))) (sc a (th m a 1)) := by
  refine Cn.of pn_X10 (Nat.le_of_ble_eq_true rfl) rfl ?_
  refine g_aload_n 0 dX10_translator_0 rfl rfl ?_
  refine gN_iconst 0 dX10_translator_1 (by decide) ?_
  refine gN_putI fwX10_34 rfl 0 (hM.t) dX10_translator_2 ?_
  refine g_iload_n 1 dX10_translator_5 rfl rfl ?_
  refine gd_callS _ _ _ _ (cn_X10_isPerson g (0, 0) (p)) ⟨rfl, rfl⟩ (ok_X10_isPerson _) mlX10_92 st_X10_isPerson rfl ⟨Nat.le_of_ble_eq_true rfl, Nat.le_of_ble_eq_true rfl⟩ (by exact Nat.le_of_ble_eq_true rfl) ⟨Nat.zero_le _, Nat.zero_le _⟩ dX10_translator_6 rfl ?_
  refine gN_if_ne 18 dX10_translator_9 (by decide) (by first | omega | exact b01_lt _) (fun h_9 => ?_) (fun h_9 => ?_)
  · exact False.elim (h (b01_n.mp h_9))
  · refine g_aload_n 0 dX10_translator_12 rfl rfl ?_
    refine gN_iconst 1 dX10_translator_13 (by decide) ?_
    refine gd_callV _ _ _ _ (cn_X10_fails g (0, 0) (m := sI m a 6 (nI 0)) hM (nI (1))) ⟨rfl, rfl⟩ (ok_X10_fails _) mlX10_95 in_X10_fails se_X10_fails 10 0 (hM.t) rfl rfl rfl ⟨Nat.le_of_ble_eq_true rfl, Nat.le_of_ble_eq_true rfl⟩ (by exact Nat.le_of_ble_eq_true rfl) ⟨Nat.zero_le _, Nat.zero_le _⟩ dX10_translator_14 rfl ?_
    refine g_iret rfl dX10_translator_17 ⟨Nat.zero_le _, Nat.zero_le _⟩ ?_
    exact ⟨rfl, _, rfl, by rw [show im (sI m a 6 (nI 0)) = th m a 0 from rfl, th_th]; exact sc.rf⟩
set_option maxRecDepth 100000 in
theorem cn_X10_translator_2 (g : Gp) (cs : Nat × Nat) {m : Mm} {a : Nat} (hM : MdOk m a) {j : Nat} (hj : j < 4) {x : Int32} (h : ¬ inb x 7) : En g (MX10_translator cs) [.ref (a), .int (nI (j)), .int (x)] m (some (.int (nI 0))) (sc a (th m a 2)) := by
  refine Cn.of pn_X10 (Nat.le_of_ble_eq_true rfl) rfl ?_
  refine g_aload_n 0 dX10_translator_0 rfl rfl ?_
  refine gN_iconst 0 dX10_translator_1 (by decide) ?_
  refine gN_putI fwX10_34 rfl 0 (hM.t) dX10_translator_2 ?_
  refine g_iload_n 1 dX10_translator_5 rfl rfl ?_
  refine gd_callS _ _ _ _ (cn_X10_isPerson g (0, 0) (nI (j))) ⟨rfl, rfl⟩ (ok_X10_isPerson _) mlX10_92 st_X10_isPerson rfl ⟨Nat.le_of_ble_eq_true rfl, Nat.le_of_ble_eq_true rfl⟩ (by exact Nat.le_of_ble_eq_true rfl) ⟨Nat.zero_le _, Nat.zero_le _⟩ dX10_translator_6 rfl ?_
  refine gN_if_ne 18 dX10_translator_9 (by decide) (by first | omega | exact b01_lt _) (fun h_9 => ?_) (fun h_9 => ?_)
  · refine g_iload_n 2 dX10_translator_18 rfl rfl ?_
    refine gN_iconst 0 dX10_translator_19 (by decide) ?_
    refine gN_bipush 6 dX10_translator_20 (by decide) ?_
    refine gd_callS _ _ _ _ (cn_X10_in g (0, 0) _ (x) (nI (0)) (nI (6))) ⟨rfl, rfl⟩ (ok_X10_in _) mlX10_41 st_X10_in rfl ⟨Nat.le_of_ble_eq_true rfl, Nat.le_of_ble_eq_true rfl⟩ (by exact Nat.le_of_ble_eq_true rfl) ⟨Nat.zero_le _, Nat.zero_le _⟩ dX10_translator_22 rfl ?_
    refine gN_if_eq 37 dX10_translator_25 (by decide) (by first | omega | exact b01_lt _) (fun h_25 => ?_) (fun h_25 => ?_)
    · refine g_aload_n 0 dX10_translator_37 rfl rfl ?_
      refine gN_iconst 2 dX10_translator_38 (by decide) ?_
      refine gd_callV _ _ _ _ (cn_X10_fails g (0, 0) (m := sI m a 6 (nI 0)) hM (nI (2))) ⟨rfl, rfl⟩ (ok_X10_fails _) mlX10_95 in_X10_fails se_X10_fails 10 0 (hM.t) rfl rfl rfl ⟨Nat.le_of_ble_eq_true rfl, Nat.le_of_ble_eq_true rfl⟩ (by exact Nat.le_of_ble_eq_true rfl) ⟨Nat.zero_le _, Nat.zero_le _⟩ dX10_translator_39 rfl ?_
      refine g_iret rfl dX10_translator_42 ⟨Nat.zero_le _, Nat.zero_le _⟩ ?_
      exact ⟨rfl, _, rfl, by rw [show im (sI m a 6 (nI 0)) = th m a 0 from rfl, th_th]; exact sc.rf⟩
    · exact False.elim (h ((in_inb (n := 6) (by decide)).mp (b01_n.mp h_25)))
  · exact False.elim (b01_z.mp h_9 ((inb_nI (by omega)).mpr hj))
set_option maxRecDepth 100000 in
theorem cn_X10_translator_0 (g : Gp) (cs : Nat × Nat) {m : Mm} {a : Nat} (hM : MdOk m a) (h0 : NR (im m (a + 1) 0) 0 10) (hl : ∀ s, s < nv (im m (a + 1) 0) → NR (im m (a + 1) (79 + 22 * s)) 1 12) {j : Nat} (hj : j < 4) {w : Nat} (hw : w ≤ 6) : En g (MX10_translator cs) [.ref (a), .int (nI (j)), .int (nI (w))] m (some (.int (perV (im m (a + 1)) j w))) (sc a (th m a 0)) := by
  refine Cn.of pn_X10 (Nat.le_of_ble_eq_true rfl) rfl ?_
  refine g_aload_n 0 dX10_translator_0 rfl rfl ?_
  refine gN_iconst 0 dX10_translator_1 (by decide) ?_
  refine gN_putI fwX10_34 rfl 0 (hM.t) dX10_translator_2 ?_
  refine g_iload_n 1 dX10_translator_5 rfl rfl ?_
  refine gd_callS _ _ _ _ (cn_X10_isPerson g (0, 0) (nI (j))) ⟨rfl, rfl⟩ (ok_X10_isPerson _) mlX10_92 st_X10_isPerson rfl ⟨Nat.le_of_ble_eq_true rfl, Nat.le_of_ble_eq_true rfl⟩ (by exact Nat.le_of_ble_eq_true rfl) ⟨Nat.zero_le _, Nat.zero_le _⟩ dX10_translator_6 rfl ?_
  refine gN_if_ne 18 dX10_translator_9 (by decide) (by first | omega | exact b01_lt _) (fun h_9 => ?_) (fun h_9 => ?_)
  · refine g_iload_n 2 dX10_translator_18 rfl rfl ?_
    refine gN_iconst 0 dX10_translator_19 (by decide) ?_
    refine gN_bipush 6 dX10_translator_20 (by decide) ?_
    refine gd_callS _ _ _ _ (cn_X10_in g (0, 0) _ (nI (w)) (nI (0)) (nI (6))) ⟨rfl, rfl⟩ (ok_X10_in _) mlX10_41 st_X10_in rfl ⟨Nat.le_of_ble_eq_true rfl, Nat.le_of_ble_eq_true rfl⟩ (by exact Nat.le_of_ble_eq_true rfl) ⟨Nat.zero_le _, Nat.zero_le _⟩ dX10_translator_22 rfl ?_
    refine gN_if_eq 37 dX10_translator_25 (by decide) (by first | omega | exact b01_lt _) (fun h_25 => ?_) (fun h_25 => ?_)
    · exact False.elim (b01_z.mp h_25 ((in_inb (n := 6) (by decide)).mpr ((inb_nI (by omega)).mpr (by omega))))
    · refine g_aload_n 0 dX10_translator_28 rfl rfl ?_
      refine g_iload_n 1 dX10_translator_29 rfl rfl ?_
      refine g_iload_n 2 dX10_translator_30 rfl rfl ?_
      refine gd_callV _ _ _ _ (cn_X10_personOf g (0, 0) (m := sI m a 6 (nI 0)) hM (by rw [ze]; exact h0) (by rw [ze]; exact hl) hj hw) ⟨rfl, rfl⟩ (ok_X10_personOf _) mlX10_160 in_X10_personOf se_X10_personOf 10 0 (hM.t) rfl rfl rfl ⟨Nat.le_of_ble_eq_true rfl, Nat.le_of_ble_eq_true rfl⟩ (by exact Nat.le_of_ble_eq_true rfl) ⟨Nat.zero_le _, Nat.zero_le _⟩ dX10_translator_31 rfl ?_
      refine g_goto 42 dX10_translator_34 (by decide) ?_
      refine g_iret rfl dX10_translator_42 ⟨Nat.zero_le _, Nat.zero_le _⟩ ?_
      exact ⟨vI (by rw [ze]), _, rfl, sc.rf⟩
  · exact False.elim (b01_z.mp h_9 ((inb_nI (by omega)).mpr hj))
set_option maxRecDepth 100000 in
theorem cn_X10_term_1 (g : Gp) (cs : Nat × Nat) {m : Mm} {a : Nat} (hM : MdOk m a) {p x : Int32} (h : ¬ inb p 8) : En g (MX10_term cs) [.ref (a), .int (p), .int (x)] m (some (.int (nI 0))) (sc a (th m a 1)) := by
  refine Cn.of pn_X10 (Nat.le_of_ble_eq_true rfl) rfl ?_
  refine g_aload_n 0 dX10_term_0 rfl rfl ?_
  refine gN_iconst 0 dX10_term_1 (by decide) ?_
  refine gN_putI fwX10_34 rfl 0 (hM.t) dX10_term_2 ?_
  refine g_iload_n 1 dX10_term_5 rfl rfl ?_
  refine gd_callS _ _ _ _ (cn_X10_isWord g (0, 0) (p)) ⟨rfl, rfl⟩ (ok_X10_isWord _) mlX10_119 st_X10_isWord rfl ⟨Nat.le_of_ble_eq_true rfl, Nat.le_of_ble_eq_true rfl⟩ (by exact Nat.le_of_ble_eq_true rfl) ⟨Nat.zero_le _, Nat.zero_le _⟩ dX10_term_6 rfl ?_
  refine gN_if_ne 18 dX10_term_9 (by decide) (by first | omega | exact b01_lt _) (fun h_9 => ?_) (fun h_9 => ?_)
  · exact False.elim (h (b01_n.mp h_9))
  · refine g_aload_n 0 dX10_term_12 rfl rfl ?_
    refine gN_iconst 1 dX10_term_13 (by decide) ?_
    refine gd_callV _ _ _ _ (cn_X10_fails g (0, 0) (m := sI m a 6 (nI 0)) hM (nI (1))) ⟨rfl, rfl⟩ (ok_X10_fails _) mlX10_95 in_X10_fails se_X10_fails 10 0 (hM.t) rfl rfl rfl ⟨Nat.le_of_ble_eq_true rfl, Nat.le_of_ble_eq_true rfl⟩ (by exact Nat.le_of_ble_eq_true rfl) ⟨Nat.zero_le _, Nat.zero_le _⟩ dX10_term_14 rfl ?_
    refine g_iret rfl dX10_term_17 ⟨Nat.zero_le _, Nat.zero_le _⟩ ?_
    exact ⟨rfl, _, rfl, by rw [show im (sI m a 6 (nI 0)) = th m a 0 from rfl, th_th]; exact sc.rf⟩
set_option maxRecDepth 100000 in
theorem cn_X10_term_2 (g : Gp) (cs : Nat × Nat) {m : Mm} {a : Nat} (hM : MdOk m a) {j : Nat} (hj : j < 8) {x : Int32} (h : ¬ inb x 8) : En g (MX10_term cs) [.ref (a), .int (nI (j)), .int (x)] m (some (.int (nI 0))) (sc a (th m a 2)) := by
  refine Cn.of pn_X10 (Nat.le_of_ble_eq_true rfl) rfl ?_
  refine g_aload_n 0 dX10_term_0 rfl rfl ?_
  refine gN_iconst 0 dX10_term_1 (by decide) ?_
  refine gN_putI fwX10_34 rfl 0 (hM.t) dX10_term_2 ?_
  refine g_iload_n 1 dX10_term_5 rfl rfl ?_
  refine gd_callS _ _ _ _ (cn_X10_isWord g (0, 0) (nI (j))) ⟨rfl, rfl⟩ (ok_X10_isWord _) mlX10_119 st_X10_isWord rfl ⟨Nat.le_of_ble_eq_true rfl, Nat.le_of_ble_eq_true rfl⟩ (by exact Nat.le_of_ble_eq_true rfl) ⟨Nat.zero_le _, Nat.zero_le _⟩ dX10_term_6 rfl ?_
  refine gN_if_ne 18 dX10_term_9 (by decide) (by first | omega | exact b01_lt _) (fun h_9 => ?_) (fun h_9 => ?_)
  · refine g_iload_n 2 dX10_term_18 rfl rfl ?_
    refine gN_iconst 0 dX10_term_19 (by decide) ?_
    refine gN_bipush 7 dX10_term_20 (by decide) ?_
    refine gd_callS _ _ _ _ (cn_X10_in g (0, 0) _ (x) (nI (0)) (nI (7))) ⟨rfl, rfl⟩ (ok_X10_in _) mlX10_41 st_X10_in rfl ⟨Nat.le_of_ble_eq_true rfl, Nat.le_of_ble_eq_true rfl⟩ (by exact Nat.le_of_ble_eq_true rfl) ⟨Nat.zero_le _, Nat.zero_le _⟩ dX10_term_22 rfl ?_
    refine gN_if_eq 37 dX10_term_25 (by decide) (by first | omega | exact b01_lt _) (fun h_25 => ?_) (fun h_25 => ?_)
    · refine g_aload_n 0 dX10_term_37 rfl rfl ?_
      refine gN_iconst 2 dX10_term_38 (by decide) ?_
      refine gd_callV _ _ _ _ (cn_X10_fails g (0, 0) (m := sI m a 6 (nI 0)) hM (nI (2))) ⟨rfl, rfl⟩ (ok_X10_fails _) mlX10_95 in_X10_fails se_X10_fails 10 0 (hM.t) rfl rfl rfl ⟨Nat.le_of_ble_eq_true rfl, Nat.le_of_ble_eq_true rfl⟩ (by exact Nat.le_of_ble_eq_true rfl) ⟨Nat.zero_le _, Nat.zero_le _⟩ dX10_term_39 rfl ?_
      refine g_iret rfl dX10_term_42 ⟨Nat.zero_le _, Nat.zero_le _⟩ ?_
      exact ⟨rfl, _, rfl, by rw [show im (sI m a 6 (nI 0)) = th m a 0 from rfl, th_th]; exact sc.rf⟩
    · exact False.elim (h ((in_inb (n := 7) (by decide)).mp (b01_n.mp h_25)))
  · exact False.elim (b01_z.mp h_9 ((inb_nI (by omega)).mpr hj))
set_option maxRecDepth 100000 in
theorem cn_X10_term_0 (g : Gp) (cs : Nat × Nat) {m : Mm} {a : Nat} (hM : MdOk m a) (h0 : NR (im m (a + 1) 0) 0 10) (hl : ∀ s, s < nv (im m (a + 1) 0) → NR (im m (a + 1) (79 + 22 * s)) 1 12) {j : Nat} (hj : j < 8) {w : Nat} (hw : w ≤ 7) : En g (MX10_term cs) [.ref (a), .int (nI (j)), .int (nI (w))] m (some (.int (terV (im m (a + 1)) j w))) (sc a (th m a 0)) := by
  refine Cn.of pn_X10 (Nat.le_of_ble_eq_true rfl) rfl ?_
  refine g_aload_n 0 dX10_term_0 rfl rfl ?_
  refine gN_iconst 0 dX10_term_1 (by decide) ?_
  refine gN_putI fwX10_34 rfl 0 (hM.t) dX10_term_2 ?_
  refine g_iload_n 1 dX10_term_5 rfl rfl ?_
  refine gd_callS _ _ _ _ (cn_X10_isWord g (0, 0) (nI (j))) ⟨rfl, rfl⟩ (ok_X10_isWord _) mlX10_119 st_X10_isWord rfl ⟨Nat.le_of_ble_eq_true rfl, Nat.le_of_ble_eq_true rfl⟩ (by exact Nat.le_of_ble_eq_true rfl) ⟨Nat.zero_le _, Nat.zero_le _⟩ dX10_term_6 rfl ?_
  refine gN_if_ne 18 dX10_term_9 (by decide) (by first | omega | exact b01_lt _) (fun h_9 => ?_) (fun h_9 => ?_)
  · refine g_iload_n 2 dX10_term_18 rfl rfl ?_
    refine gN_iconst 0 dX10_term_19 (by decide) ?_
    refine gN_bipush 7 dX10_term_20 (by decide) ?_
    refine gd_callS _ _ _ _ (cn_X10_in g (0, 0) _ (nI (w)) (nI (0)) (nI (7))) ⟨rfl, rfl⟩ (ok_X10_in _) mlX10_41 st_X10_in rfl ⟨Nat.le_of_ble_eq_true rfl, Nat.le_of_ble_eq_true rfl⟩ (by exact Nat.le_of_ble_eq_true rfl) ⟨Nat.zero_le _, Nat.zero_le _⟩ dX10_term_22 rfl ?_
    refine gN_if_eq 37 dX10_term_25 (by decide) (by first | omega | exact b01_lt _) (fun h_25 => ?_) (fun h_25 => ?_)
    · exact False.elim (b01_z.mp h_25 ((in_inb (n := 7) (by decide)).mpr ((inb_nI (by omega)).mpr (by omega))))
    · refine g_aload_n 0 dX10_term_28 rfl rfl ?_
      refine g_iload_n 1 dX10_term_29 rfl rfl ?_
      refine g_iload_n 2 dX10_term_30 rfl rfl ?_
      refine gd_callV _ _ _ _ (cn_X10_termOf g (0, 0) (m := sI m a 6 (nI 0)) hM (by rw [ze]; exact h0) (by rw [ze]; exact hl) hj hw) ⟨rfl, rfl⟩ (ok_X10_termOf _) mlX10_166 in_X10_termOf se_X10_termOf 10 0 (hM.t) rfl rfl rfl ⟨Nat.le_of_ble_eq_true rfl, Nat.le_of_ble_eq_true rfl⟩ (by exact Nat.le_of_ble_eq_true rfl) ⟨Nat.zero_le _, Nat.zero_le _⟩ dX10_term_31 rfl ?_
      refine g_goto 42 dX10_term_34 (by decide) ?_
      refine g_iret rfl dX10_term_42 ⟨Nat.zero_le _, Nat.zero_le _⟩ ?_
      exact ⟨vI (by rw [ze]), _, rfl, sc.rf⟩
  · exact False.elim (b01_z.mp h_9 ((inb_nI (by omega)).mpr hj))
set_option maxRecDepth 100000 in
theorem cn_X10_word_1 (g : Gp) (cs : Nat × Nat) {m : Mm} {a : Nat} (hM : MdOk m a) {N : Nat} (hN : im m (a + 1) 0 = nI N) (hN9 : N ≤ 10) {p x : Int32} (h : ¬ inb p N) : En g (MX10_word cs) [.ref (a), .int (p), .int (x)] m (some (.int (nI 0))) (sc a (th m a 1)) := by
  refine Cn.of pn_X10 (Nat.le_of_ble_eq_true rfl) rfl ?_
  refine g_aload_n 0 dX10_word_0 rfl rfl ?_
  refine gN_iconst 0 dX10_word_1 (by decide) ?_
  refine gN_putI fwX10_34 rfl 0 (hM.t) dX10_word_2 ?_
  refine g_aload_n 0 dX10_word_5 rfl rfl ?_
  refine g_iload_n 1 dX10_word_6 rfl rfl ?_
  refine gd_callV _ _ _ _ (cn_X10_isSegment g (0, 0) (m := sI m a 6 (nI 0)) hM (N := N) ((th_z m a 0 0).trans hN) (by omega) (p)) ⟨rfl, rfl⟩ (ok_X10_isSegment _) mlX10_107 in_X10_isSegment se_X10_isSegment 10 0 (hM.t) rfl rfl rfl ⟨Nat.le_of_ble_eq_true rfl, Nat.le_of_ble_eq_true rfl⟩ (by exact Nat.le_of_ble_eq_true rfl) ⟨Nat.zero_le _, Nat.zero_le _⟩ dX10_word_7 rfl ?_
  refine gN_if_ne 19 dX10_word_10 (by decide) (by first | omega | exact b01_lt _) (fun h_10 => ?_) (fun h_10 => ?_)
  · exact False.elim (h (b01_n.mp h_10))
  · refine g_aload_n 0 dX10_word_13 rfl rfl ?_
    refine gN_iconst 1 dX10_word_14 (by decide) ?_
    refine gd_callV _ _ _ _ (cn_X10_fails g (0, 0) (m := sI m a 6 (nI 0)) hM (nI (1))) ⟨rfl, rfl⟩ (ok_X10_fails _) mlX10_95 in_X10_fails se_X10_fails 10 0 (hM.t) rfl rfl rfl ⟨Nat.le_of_ble_eq_true rfl, Nat.le_of_ble_eq_true rfl⟩ (by exact Nat.le_of_ble_eq_true rfl) ⟨Nat.zero_le _, Nat.zero_le _⟩ dX10_word_15 rfl ?_
    refine g_iret rfl dX10_word_18 ⟨Nat.zero_le _, Nat.zero_le _⟩ ?_
    exact ⟨rfl, _, rfl, by rw [show im (sI m a 6 (nI 0)) = th m a 0 from rfl, th_th]; exact sc.rf⟩
set_option maxRecDepth 100000 in
theorem cn_X10_word_2 (g : Gp) (cs : Nat × Nat) {m : Mm} {a : Nat} (hM : MdOk m a) {N : Nat} (hN : im m (a + 1) 0 = nI N) (hN9 : N ≤ 10) {s : Nat} (hs : s < N) {x : Int32} (h : ¬ inb x 12) : En g (MX10_word cs) [.ref (a), .int (nI (s)), .int (x)] m (some (.int (nI 0))) (sc a (th m a 2)) := by
  refine Cn.of pn_X10 (Nat.le_of_ble_eq_true rfl) rfl ?_
  refine g_aload_n 0 dX10_word_0 rfl rfl ?_
  refine gN_iconst 0 dX10_word_1 (by decide) ?_
  refine gN_putI fwX10_34 rfl 0 (hM.t) dX10_word_2 ?_
  refine g_aload_n 0 dX10_word_5 rfl rfl ?_
  refine g_iload_n 1 dX10_word_6 rfl rfl ?_
  refine gd_callV _ _ _ _ (cn_X10_isSegment g (0, 0) (m := sI m a 6 (nI 0)) hM (N := N) ((th_z m a 0 0).trans hN) (by omega) (nI (s))) ⟨rfl, rfl⟩ (ok_X10_isSegment _) mlX10_107 in_X10_isSegment se_X10_isSegment 10 0 (hM.t) rfl rfl rfl ⟨Nat.le_of_ble_eq_true rfl, Nat.le_of_ble_eq_true rfl⟩ (by exact Nat.le_of_ble_eq_true rfl) ⟨Nat.zero_le _, Nat.zero_le _⟩ dX10_word_7 rfl ?_
  refine gN_if_ne 19 dX10_word_10 (by decide) (by first | omega | exact b01_lt _) (fun h_10 => ?_) (fun h_10 => ?_)
  · refine g_iload_n 2 dX10_word_19 rfl rfl ?_
    refine gN_iconst 0 dX10_word_20 (by decide) ?_
    refine gN_bipush 11 dX10_word_21 (by decide) ?_
    refine gd_callS _ _ _ _ (cn_X10_in g (0, 0) _ (x) (nI (0)) (nI (11))) ⟨rfl, rfl⟩ (ok_X10_in _) mlX10_41 st_X10_in rfl ⟨Nat.le_of_ble_eq_true rfl, Nat.le_of_ble_eq_true rfl⟩ (by exact Nat.le_of_ble_eq_true rfl) ⟨Nat.zero_le _, Nat.zero_le _⟩ dX10_word_23 rfl ?_
    refine gN_if_eq 38 dX10_word_26 (by decide) (by first | omega | exact b01_lt _) (fun h_26 => ?_) (fun h_26 => ?_)
    · refine g_aload_n 0 dX10_word_38 rfl rfl ?_
      refine gN_iconst 2 dX10_word_39 (by decide) ?_
      refine gd_callV _ _ _ _ (cn_X10_fails g (0, 0) (m := sI m a 6 (nI 0)) hM (nI (2))) ⟨rfl, rfl⟩ (ok_X10_fails _) mlX10_95 in_X10_fails se_X10_fails 10 0 (hM.t) rfl rfl rfl ⟨Nat.le_of_ble_eq_true rfl, Nat.le_of_ble_eq_true rfl⟩ (by exact Nat.le_of_ble_eq_true rfl) ⟨Nat.zero_le _, Nat.zero_le _⟩ dX10_word_40 rfl ?_
      refine g_iret rfl dX10_word_43 ⟨Nat.zero_le _, Nat.zero_le _⟩ ?_
      exact ⟨rfl, _, rfl, by rw [show im (sI m a 6 (nI 0)) = th m a 0 from rfl, th_th]; exact sc.rf⟩
    · exact False.elim (h ((in_inb (n := 11) (by decide)).mp (b01_n.mp h_26)))
  · exact False.elim (b01_z.mp h_10 ((inb_nI (by omega)).mpr hs))
set_option maxRecDepth 100000 in
theorem cn_X10_word_0 (g : Gp) (cs : Nat × Nat) {m : Mm} {a : Nat} (hM : MdOk m a) {N : Nat} (hN : im m (a + 1) 0 = nI N) (hN9 : N ≤ 10) {s : Nat} (hs : s < N) (hl : NR (im m (a + 1) (79 + 22 * s)) 1 12) {w : Nat} (hw : w ≤ 11) : En g (MX10_word cs) [.ref (a), .int (nI (s)), .int (nI (w))] m (some (.int (wrdV (im m (a + 1)) (79 + 22 * s) w))) (sc a (th m a 0)) := by
  refine Cn.of pn_X10 (Nat.le_of_ble_eq_true rfl) rfl ?_
  refine g_aload_n 0 dX10_word_0 rfl rfl ?_
  refine gN_iconst 0 dX10_word_1 (by decide) ?_
  refine gN_putI fwX10_34 rfl 0 (hM.t) dX10_word_2 ?_
  refine g_aload_n 0 dX10_word_5 rfl rfl ?_
  refine g_iload_n 1 dX10_word_6 rfl rfl ?_
  refine gd_callV _ _ _ _ (cn_X10_isSegment g (0, 0) (m := sI m a 6 (nI 0)) hM (N := N) ((th_z m a 0 0).trans hN) (by omega) (nI (s))) ⟨rfl, rfl⟩ (ok_X10_isSegment _) mlX10_107 in_X10_isSegment se_X10_isSegment 10 0 (hM.t) rfl rfl rfl ⟨Nat.le_of_ble_eq_true rfl, Nat.le_of_ble_eq_true rfl⟩ (by exact Nat.le_of_ble_eq_true rfl) ⟨Nat.zero_le _, Nat.zero_le _⟩ dX10_word_7 rfl ?_
  refine gN_if_ne 19 dX10_word_10 (by decide) (by first | omega | exact b01_lt _) (fun h_10 => ?_) (fun h_10 => ?_)
  · refine g_iload_n 2 dX10_word_19 rfl rfl ?_
    refine gN_iconst 0 dX10_word_20 (by decide) ?_
    refine gN_bipush 11 dX10_word_21 (by decide) ?_
    refine gd_callS _ _ _ _ (cn_X10_in g (0, 0) _ (nI (w)) (nI (0)) (nI (11))) ⟨rfl, rfl⟩ (ok_X10_in _) mlX10_41 st_X10_in rfl ⟨Nat.le_of_ble_eq_true rfl, Nat.le_of_ble_eq_true rfl⟩ (by exact Nat.le_of_ble_eq_true rfl) ⟨Nat.zero_le _, Nat.zero_le _⟩ dX10_word_23 rfl ?_
    refine gN_if_eq 38 dX10_word_26 (by decide) (by first | omega | exact b01_lt _) (fun h_26 => ?_) (fun h_26 => ?_)
    · exact False.elim (b01_z.mp h_26 ((in_inb (n := 11) (by decide)).mpr ((inb_nI (by omega)).mpr (by omega))))
    · refine g_aload_n 0 dX10_word_29 rfl rfl ?_
      refine g_iload_n 1 dX10_word_30 rfl rfl ?_
      refine g_iload_n 2 dX10_word_31 rfl rfl ?_
      refine gd_callV _ _ _ _ (cn_X10_wordOf g (0, 0) (m := sI m a 6 (nI 0)) hM (s := s) (by omega) (by rw [ze]; exact hl) (k := w) (by omega)) ⟨rfl, rfl⟩ (ok_X10_wordOf _) mlX10_151 in_X10_wordOf se_X10_wordOf 10 0 (hM.t) rfl rfl rfl ⟨Nat.le_of_ble_eq_true rfl, Nat.le_of_ble_eq_true rfl⟩ (by exact Nat.le_of_ble_eq_true rfl) ⟨Nat.zero_le _, Nat.zero_le _⟩ dX10_word_32 rfl ?_
      refine g_goto 43 dX10_word_35 (by decide) ?_
      refine g_iret rfl dX10_word_43 ⟨Nat.zero_le _, Nat.zero_le _⟩ ?_
      exact ⟨vI (by rw [ze]), _, rfl, sc.rf⟩
  · exact False.elim (b01_z.mp h_10 ((inb_nI (by omega)).mpr hs))
set_option maxRecDepth 100000 in
theorem cn_X10_remembered_1 (g : Gp) (cs : Nat × Nat) {m : Mm} {a : Nat} (hM : MdOk m a) {R : Nat} (hR : im m (a + 1) 1 = nI R) (hR9 : R ≤ 30) {p x : Int32} (h : ¬ inb p R) : En g (MX10_remembered cs) [.ref (a), .int (p), .int (x)] m (some (.int (nI 0))) (sc a (th m a 1)) := by
  refine Cn.of pn_X10 (Nat.le_of_ble_eq_true rfl) rfl ?_
  refine g_aload_n 0 dX10_remembered_0 rfl rfl ?_
  refine gN_iconst 0 dX10_remembered_1 (by decide) ?_
  refine gN_putI fwX10_34 rfl 0 (hM.t) dX10_remembered_2 ?_
  refine g_iload_n 1 dX10_remembered_5 rfl rfl ?_
  refine gN_iconst 0 dX10_remembered_6 (by decide) ?_
  refine g_aload_n 0 dX10_remembered_7 rfl rfl ?_
  refine gN_getR (a + 1) flX10_7 (fun _ _ _ => rfl) 0 (hM.t) (hM.r0) dX10_remembered_8 ?_
  refine gN_iconst 1 dX10_remembered_11 (by decide) ?_
  refine gN_iald 689 (hM.t1) (by first | omega | exact b01_lt _) (by first | omega | exact b01_lt _) dX10_remembered_12 ?_
  refine g_ei (nI (R)) ((th_z m a 0 1).trans hR) ?_
  refine gN_iconst 1 dX10_remembered_13 (by decide) ?_
  refine g_isub dX10_remembered_14 ?_
  refine gd_callS _ _ _ _ (cn_X10_in g (0, 0) _ (p) (nI (0)) (nI (R) - nI (1))) ⟨rfl, rfl⟩ (ok_X10_in _) mlX10_41 st_X10_in rfl ⟨Nat.le_of_ble_eq_true rfl, Nat.le_of_ble_eq_true rfl⟩ (by exact Nat.le_of_ble_eq_true rfl) ⟨Nat.zero_le _, Nat.zero_le _⟩ dX10_remembered_15 rfl ?_
  refine gN_if_ne 27 dX10_remembered_18 (by decide) (by first | omega | exact b01_lt _) (fun h_18 => ?_) (fun h_18 => ?_)
  · exact False.elim (h ((seg_in (by omega)).mp (b01_n.mp h_18)))
  · refine g_aload_n 0 dX10_remembered_21 rfl rfl ?_
    refine gN_iconst 1 dX10_remembered_22 (by decide) ?_
    refine gd_callV _ _ _ _ (cn_X10_fails g (0, 0) (m := sI m a 6 (nI 0)) hM (nI (1))) ⟨rfl, rfl⟩ (ok_X10_fails _) mlX10_95 in_X10_fails se_X10_fails 10 0 (hM.t) rfl rfl rfl ⟨Nat.le_of_ble_eq_true rfl, Nat.le_of_ble_eq_true rfl⟩ (by exact Nat.le_of_ble_eq_true rfl) ⟨Nat.zero_le _, Nat.zero_le _⟩ dX10_remembered_23 rfl ?_
    refine g_iret rfl dX10_remembered_26 ⟨Nat.zero_le _, Nat.zero_le _⟩ ?_
    exact ⟨rfl, _, rfl, by rw [show im (sI m a 6 (nI 0)) = th m a 0 from rfl, th_th]; exact sc.rf⟩
set_option maxRecDepth 100000 in
theorem cn_X10_remembered_2 (g : Gp) (cs : Nat × Nat) {m : Mm} {a : Nat} (hM : MdOk m a) {R : Nat} (hR : im m (a + 1) 1 = nI R) (hR9 : R ≤ 30) {s : Nat} (hs : s < R) {x : Int32} (h : ¬ inb x 12) : En g (MX10_remembered cs) [.ref (a), .int (nI (s)), .int (x)] m (some (.int (nI 0))) (sc a (th m a 2)) := by
  refine Cn.of pn_X10 (Nat.le_of_ble_eq_true rfl) rfl ?_
  refine g_aload_n 0 dX10_remembered_0 rfl rfl ?_
  refine gN_iconst 0 dX10_remembered_1 (by decide) ?_
  refine gN_putI fwX10_34 rfl 0 (hM.t) dX10_remembered_2 ?_
  refine g_iload_n 1 dX10_remembered_5 rfl rfl ?_
  refine gN_iconst 0 dX10_remembered_6 (by decide) ?_
  refine g_aload_n 0 dX10_remembered_7 rfl rfl ?_
  refine gN_getR (a + 1) flX10_7 (fun _ _ _ => rfl) 0 (hM.t) (hM.r0) dX10_remembered_8 ?_
  refine gN_iconst 1 dX10_remembered_11 (by decide) ?_
  refine gN_iald 689 (hM.t1) (by first | omega | exact b01_lt _) (by first | omega | exact b01_lt _) dX10_remembered_12 ?_
  refine g_ei (nI (R)) ((th_z m a 0 1).trans hR) ?_
  refine gN_iconst 1 dX10_remembered_13 (by decide) ?_
  refine g_isub dX10_remembered_14 ?_
  refine gd_callS _ _ _ _ (cn_X10_in g (0, 0) _ (nI (s)) (nI (0)) (nI (R) - nI (1))) ⟨rfl, rfl⟩ (ok_X10_in _) mlX10_41 st_X10_in rfl ⟨Nat.le_of_ble_eq_true rfl, Nat.le_of_ble_eq_true rfl⟩ (by exact Nat.le_of_ble_eq_true rfl) ⟨Nat.zero_le _, Nat.zero_le _⟩ dX10_remembered_15 rfl ?_
  refine gN_if_ne 27 dX10_remembered_18 (by decide) (by first | omega | exact b01_lt _) (fun h_18 => ?_) (fun h_18 => ?_)
  · refine g_iload_n 2 dX10_remembered_27 rfl rfl ?_
    refine gN_iconst 0 dX10_remembered_28 (by decide) ?_
    refine gN_bipush 11 dX10_remembered_29 (by decide) ?_
    refine gd_callS _ _ _ _ (cn_X10_in g (0, 0) _ (x) (nI (0)) (nI (11))) ⟨rfl, rfl⟩ (ok_X10_in _) mlX10_41 st_X10_in rfl ⟨Nat.le_of_ble_eq_true rfl, Nat.le_of_ble_eq_true rfl⟩ (by exact Nat.le_of_ble_eq_true rfl) ⟨Nat.zero_le _, Nat.zero_le _⟩ dX10_remembered_31 rfl ?_
    refine gN_if_ne 43 dX10_remembered_34 (by decide) (by first | omega | exact b01_lt _) (fun h_34 => ?_) (fun h_34 => ?_)
    · exact False.elim (h ((in_inb (n := 11) (by decide)).mp (b01_n.mp h_34)))
    · refine g_aload_n 0 dX10_remembered_37 rfl rfl ?_
      refine gN_iconst 2 dX10_remembered_38 (by decide) ?_
      refine gd_callV _ _ _ _ (cn_X10_fails g (0, 0) (m := sI m a 6 (nI 0)) hM (nI (2))) ⟨rfl, rfl⟩ (ok_X10_fails _) mlX10_95 in_X10_fails se_X10_fails 10 0 (hM.t) rfl rfl rfl ⟨Nat.le_of_ble_eq_true rfl, Nat.le_of_ble_eq_true rfl⟩ (by exact Nat.le_of_ble_eq_true rfl) ⟨Nat.zero_le _, Nat.zero_le _⟩ dX10_remembered_39 rfl ?_
      refine g_iret rfl dX10_remembered_42 ⟨Nat.zero_le _, Nat.zero_le _⟩ ?_
      exact ⟨rfl, _, rfl, by rw [show im (sI m a 6 (nI 0)) = th m a 0 from rfl, th_th]; exact sc.rf⟩
  · exact False.elim (b01_z.mp h_18 ((seg_in (by omega)).mpr ((inb_nI (by omega)).mpr hs)))
set_option maxRecDepth 100000 in
theorem cn_X10_remembered_0 (g : Gp) (cs : Nat × Nat) {m : Mm} {a : Nat} (hM : MdOk m a) {R : Nat} (hR : im m (a + 1) 1 = nI R) (hR9 : R ≤ 30) {s : Nat} (hs : s < R) (hl : NR (im m (a + 1) (299 + 13 * s)) 1 12) {w : Nat} (hw : w ≤ 11) : En g (MX10_remembered cs) [.ref (a), .int (nI (s)), .int (nI (w))] m (some (.int (remV (im m (a + 1)) s w))) (sc a (th m a 0)) := by
  have h9 := hl.hi
  refine Cn.of pn_X10 (Nat.le_of_ble_eq_true rfl) rfl ?_
  refine g_aload_n 0 dX10_remembered_0 rfl rfl ?_
  refine gN_iconst 0 dX10_remembered_1 (by decide) ?_
  refine gN_putI fwX10_34 rfl 0 (hM.t) dX10_remembered_2 ?_
  refine g_iload_n 1 dX10_remembered_5 rfl rfl ?_
  refine gN_iconst 0 dX10_remembered_6 (by decide) ?_
  refine g_aload_n 0 dX10_remembered_7 rfl rfl ?_
  refine gN_getR (a + 1) flX10_7 (fun _ _ _ => rfl) 0 (hM.t) (hM.r0) dX10_remembered_8 ?_
  refine gN_iconst 1 dX10_remembered_11 (by decide) ?_
  refine gN_iald 689 (hM.t1) (by first | omega | exact b01_lt _) (by first | omega | exact b01_lt _) dX10_remembered_12 ?_
  refine g_ei (nI (R)) ((th_z m a 0 1).trans hR) ?_
  refine gN_iconst 1 dX10_remembered_13 (by decide) ?_
  refine g_isub dX10_remembered_14 ?_
  refine gd_callS _ _ _ _ (cn_X10_in g (0, 0) _ (nI (s)) (nI (0)) (nI (R) - nI (1))) ⟨rfl, rfl⟩ (ok_X10_in _) mlX10_41 st_X10_in rfl ⟨Nat.le_of_ble_eq_true rfl, Nat.le_of_ble_eq_true rfl⟩ (by exact Nat.le_of_ble_eq_true rfl) ⟨Nat.zero_le _, Nat.zero_le _⟩ dX10_remembered_15 rfl ?_
  refine gN_if_ne 27 dX10_remembered_18 (by decide) (by first | omega | exact b01_lt _) (fun h_18 => ?_) (fun h_18 => ?_)
  · refine g_iload_n 2 dX10_remembered_27 rfl rfl ?_
    refine gN_iconst 0 dX10_remembered_28 (by decide) ?_
    refine gN_bipush 11 dX10_remembered_29 (by decide) ?_
    refine gd_callS _ _ _ _ (cn_X10_in g (0, 0) _ (nI (w)) (nI (0)) (nI (11))) ⟨rfl, rfl⟩ (ok_X10_in _) mlX10_41 st_X10_in rfl ⟨Nat.le_of_ble_eq_true rfl, Nat.le_of_ble_eq_true rfl⟩ (by exact Nat.le_of_ble_eq_true rfl) ⟨Nat.zero_le _, Nat.zero_le _⟩ dX10_remembered_31 rfl ?_
    refine gN_if_ne 43 dX10_remembered_34 (by decide) (by first | omega | exact b01_lt _) (fun h_34 => ?_) (fun h_34 => ?_)
    · refine g_iload_n 2 dX10_remembered_43 rfl rfl ?_
      refine g_aload_n 0 dX10_remembered_44 rfl rfl ?_
      refine gN_getR (a + 1) flX10_7 (fun _ _ _ => rfl) 0 (hM.t) (hM.r0) dX10_remembered_45 ?_
      refine g_iload_n 1 dX10_remembered_48 rfl rfl ?_
      refine gd_callS _ _ _ _ (cn_X10_rowAt g (0, 0) _ s) ⟨rfl, rfl⟩ (ok_X10_rowAt _) mlX10_55 st_X10_rowAt rfl ⟨Nat.le_of_ble_eq_true rfl, Nat.le_of_ble_eq_true rfl⟩ (by exact Nat.le_of_ble_eq_true rfl) ⟨Nat.zero_le _, Nat.zero_le _⟩ dX10_remembered_49 rfl ?_
      refine gN_iald 689 (hM.t1) (by first | omega | exact b01_lt _) (by first | omega | exact b01_lt _) dX10_remembered_52 ?_
      refine g_ei (nI (nv (im m (a + 1) (299 + 13 * s)))) ((th_z m a 0 _).trans hl.e) ?_
      refine gN_icmp_ge 72 dX10_remembered_53 (by decide) (by first | omega | exact b01_lt _) (by first | omega | exact b01_lt _) (fun h_53 => ?_) (fun h_53 => ?_)
      · refine g_iconst (-1) dX10_remembered_72 (by decide) ?_
        refine g_iret rfl dX10_remembered_73 ⟨Nat.zero_le _, Nat.zero_le _⟩ ?_
        refine ⟨vI ?_, _, rfl, sc.rf⟩
        unfold remV
        first | (rw [if_pos h_53]; exact th_z m a 0 _) | rw [if_neg (by omega)]
      · refine g_aload_n 0 dX10_remembered_56 rfl rfl ?_
        refine gN_getR (a + 1) flX10_7 (fun _ _ _ => rfl) 0 (hM.t) (hM.r0) dX10_remembered_57 ?_
        refine g_iload_n 1 dX10_remembered_60 rfl rfl ?_
        refine gd_callS _ _ _ _ (cn_X10_rowAt g (0, 0) _ s) ⟨rfl, rfl⟩ (ok_X10_rowAt _) mlX10_55 st_X10_rowAt rfl ⟨Nat.le_of_ble_eq_true rfl, Nat.le_of_ble_eq_true rfl⟩ (by exact Nat.le_of_ble_eq_true rfl) ⟨Nat.zero_le _, Nat.zero_le _⟩ dX10_remembered_61 rfl ?_
        refine gN_iconst 1 dX10_remembered_64 (by decide) ?_
        refine gN_iadd ((299 + 13 * s) + 1) dX10_remembered_65 rfl ?_
        refine g_iload_n 2 dX10_remembered_66 rfl rfl ?_
        refine gN_iadd (((299 + 13 * s) + 1) + w) dX10_remembered_67 rfl ?_
        refine gN_iald 689 (hM.t1) (by first | omega | exact b01_lt _) (by first | omega | exact b01_lt _) dX10_remembered_68 ?_
        refine g_goto 73 dX10_remembered_69 (by decide) ?_
        refine g_iret rfl dX10_remembered_73 ⟨Nat.zero_le _, Nat.zero_le _⟩ ?_
        refine ⟨vI ?_, _, rfl, sc.rf⟩
        unfold remV
        first | (rw [if_pos h_53]; exact th_z m a 0 _) | rw [if_neg (by omega)]
    · exact False.elim (b01_z.mp h_34 ((in_inb (n := 11) (by decide)).mpr ((inb_nI (by omega)).mpr (by omega))))
  · exact False.elim (b01_z.mp h_18 ((seg_in (by omega)).mpr ((inb_nI (by omega)).mpr hs)))
