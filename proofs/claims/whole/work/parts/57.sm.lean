/-! THE CLASS: the state's sums -/
theorem cn_SD (g : Gp) (cs : Nat × Nat) {m : Mm} {S B c : Nat} {z : Nat → Int32} (hS : StT m S) (hR : Rp m B S z) (hz : ZOk c z) {w : Nat} (hw : w < 8) : Dn g (MX7_isDisputed cs) [.ref (S + 21 + 2 * w)] m (some (.int (nI (b01 (dsp z w))))) m := by
  have h := cn_X7_isDisputed g cs (T := S + 21 + 2 * w) (P := S + 22 + 2 * w) (f := fun t => z (24 + 4 * w + t)) (hS.tW hw) (hS.tP hw) (hS.rP hw) (fun t ht => hR.W hw ht) (hR.W1 hw)
  rw [ul_n (fun t ht => by have := hz.P (k := 4 * w + t) (by omega); rwa [show 24 + (4 * w + t) = 24 + 4 * w + t by omega] at this)] at h
  exact h
theorem cn_SU (g : Gp) (cs : Nat × Nat) {m : Mm} {S B c : Nat} {z : Nat → Int32} (hS : StT m S) (hR : Rp m B S z) (hz : ZOk c z) {w : Nat} (hw : w < 8) : Dn g (MX7_unlikeProposals cs) [.ref (S + 21 + 2 * w)] m (some (.int (nI (unl z w)))) m := by
  have h := cn_X7_unlikeProposals g cs (T := S + 21 + 2 * w) (P := S + 22 + 2 * w) (f := fun t => z (24 + 4 * w + t)) (hS.tW hw) (hS.tP hw) (hS.rP hw) (fun t ht => hR.W hw ht)
  rw [ul_n (fun t ht => by have := hz.P (k := 4 * w + t) (by omega); rwa [show 24 + (4 * w + t) = 24 + 4 * w + t by omega] at this)] at h
  exact h
theorem rw_cb {m : Mm} {r n : Nat} {u : Nat → Int32} (h : RowT m r u n) {c : Nat} (hc : c < 8) : cb (im m (r + 2) c) 12 = sm (fun e => b01 (u e = nI c)) n ∧ ∀ p, 12 ≤ p → bt (im m (r + 2) c) p = false := by
  have hn := h.n
  have hb : ∀ p, n ≤ p → bt (im m (r + 2) c) p = false := fun p hp => by rw [h.b hc]; exact decide_eq_false (fun q => by omega)
  have key : ∀ k, k ≤ n → cb (im m (r + 2) c) k = sm (fun e => b01 (u e = nI c)) k := by
    intro k
    induction k with
    | zero => intro _; rfl
    | succ k ih =>
      intro hk
      show cb _ k + (if bt _ k = true then 1 else 0) = sm _ k + b01 _
      rw [ih (by omega), h.b hc]
      by_cases q : u k = nI c
      · rw [b01_t q, if_pos (decide_eq_true ⟨by omega, q⟩)]
      · rw [b01_f q, if_neg (by rw [decide_eq_false (fun z => q z.2)]; decide)]
  refine ⟨?_, fun p hp => hb p (by omega)⟩
  have := cb_up hb (12 - n)
  rw [show n + (12 - n) = 12 by omega] at this
  rw [this, key n (Nat.le_refl n)]
set_option maxRecDepth 100000 in
theorem lp_X6_hasDispute (g : Gp) (cs : Nat × Nat) {m : Mm} {S B c : Nat} {z : Nat → Int32} (hS : StT m S) (hR : Rp m B S z) (hz : ZOk c z) {r n : Nat} {u : Nat → Int32} (hr : RowT m r u n) : ∀ d k : Nat, k + d = n → (∀ e, e < k → ¬ dsp z (nv (u e))) → G g (MX6_hasDispute cs) (dQ (some (.int (nI (b01 (∃ e, e < n ∧ dsp z (nv (u e))))))) m) 11 [(4, .int (nI (k))), (3, .int (nI (n))), (2, .ref (r + 1)), (0, .ref (S)), (1, .ref (r))] [] (0, 0) m := by
  have hn := hr.n
  intro d
  induction d with
  | zero =>
    intro k hk hno
    obtain rfl : n = k := hk.symm
    refine g_iload 4 dX6_hasDispute_11 rfl ?_
    refine g_iload_n 3 dX6_hasDispute_13 rfl rfl ?_
    refine gN_icmp_ge 44 dX6_hasDispute_14 (by decide) (by first | omega | exact b01_lt _) (by first | omega | exact b01_lt _) (fun h_14 => ?_) (fun h_14 => ?_)
    · refine gN_iconst 0 dX6_hasDispute_44 (by decide) ?_
      refine g_zret rfl (by first | rfl | exact nar_b01 _) dX6_hasDispute_45 ⟨Nat.zero_le _, Nat.zero_le _⟩ ?_
      exact ⟨vI (by rw [b01_f (fun q => by obtain ⟨e, h1, h2⟩ := q; exact hno e h1 h2)]), rfl⟩
    · exfalso; omega
  | succ d ih =>
    intro k hk hno
    have hw7 := (hr.w7 (e := k) (by omega)).hi
    refine g_iload 4 dX6_hasDispute_11 rfl ?_
    refine g_iload_n 3 dX6_hasDispute_13 rfl rfl ?_
    refine gN_icmp_ge 44 dX6_hasDispute_14 (by decide) (by first | omega | exact b01_lt _) (by first | omega | exact b01_lt _) (fun h_14 => ?_) (fun h_14 => ?_)
    · exfalso; omega
    · refine g_aload_n 2 dX6_hasDispute_17 rfl rfl ?_
      refine g_iload 4 dX6_hasDispute_18 rfl ?_
      refine gN_iald n (hr.t1) (by first | omega | exact b01_lt _) (by first | omega | exact b01_lt _) dX6_hasDispute_20 ?_
      refine g_ei (nI (nv (u k))) ((hr.w (by omega)).trans (hr.w7 (by omega)).e) ?_
      refine g_istore 5 [(5, .int (nI (nv (u k)))), (4, .int (nI (k))), (3, .int (nI (n))), (2, .ref (r + 1)), (0, .ref (S)), (1, .ref (r))] dX6_hasDispute_21 (Nat.le_of_ble_eq_true rfl) rfl ?_
      refine g_aload_n 0 dX6_hasDispute_23 rfl rfl ?_
      refine gN_getR (S + 4) flX6_29 (fun _ _ _ => rfl) 0 (hS.t) (hS.r3) dX6_hasDispute_24 ?_
      refine g_iload 5 dX6_hasDispute_27 rfl ?_
      refine gN_aald 16 8 (S + 21 + 2 * (nv (u k))) (hS.t4) (by decide) (by first | omega | exact b01_lt _) (by first | omega | exact b01_lt _) (hS.rW (by omega)) dX6_hasDispute_29 ?_
      refine gd_callV _ _ _ _ (cn_SD g (0, 0) hS hR hz (w := nv (u k)) (by omega)) ⟨rfl, rfl⟩ (ok_X7_isDisputed _) mlX6_178 in_X7_isDisputed se_X7_isDisputed 7 0 (hS.tW (by omega)) rfl rfl rfl ⟨Nat.le_of_ble_eq_true rfl, Nat.le_of_ble_eq_true rfl⟩ (by exact Nat.le_of_ble_eq_true rfl) ⟨Nat.zero_le _, Nat.zero_le _⟩ dX6_hasDispute_30 rfl ?_
      refine gN_if_eq 38 dX6_hasDispute_33 (by decide) (by first | omega | exact b01_lt _) (fun h_33 => ?_) (fun h_33 => ?_)
      · refine g_iinc 4 (nI (k + 1)) 1 [(4, .int (nI (k + 1))), (5, .int (nI (nv (u k)))), (3, .int (nI (n))), (2, .ref (r + 1)), (0, .ref (S)), (1, .ref (r))] dX6_hasDispute_38 rfl (nI_add k 1) (Nat.le_of_ble_eq_true rfl) rfl ?_
        refine g_goto 11 dX6_hasDispute_41 (by decide) ?_
        refine g_pick [0, 2, 3, 4, 5] rfl ?_
        exact ih (k + 1) (by omega) (fun e he => by
          rcases Nat.lt_or_ge e k with q | q
          · exact hno e q
          · obtain rfl : e = k := by omega
            exact b01_z.mp h_33)
      · refine gN_iconst 1 dX6_hasDispute_36 (by decide) ?_
        refine g_zret rfl (by first | rfl | exact nar_b01 _) dX6_hasDispute_37 ⟨Nat.zero_le _, Nat.zero_le _⟩ ?_
        exact ⟨vI (by rw [b01_t ⟨k, by omega, b01_n.mp h_33⟩]), rfl⟩
set_option maxRecDepth 100000 in
theorem cn_X6_hasDispute (g : Gp) (cs : Nat × Nat) {m : Mm} {S B c : Nat} {z : Nat → Int32} (hS : StT m S) (hR : Rp m B S z) (hz : ZOk c z) {r n : Nat} {u : Nat → Int32} (hr : RowT m r u n) : Dn g (MX6_hasDispute cs) [.ref (S), .ref (r)] m (some (.int (nI (b01 (∃ e, e < n ∧ dsp z (nv (u e))))))) (m) := by
  refine Cn.of pn_X6 (Nat.le_of_ble_eq_true rfl) rfl ?_
  refine g_aload_n 1 dX6_hasDispute_0 rfl rfl ?_
  refine gN_getR (r + 1) flX6_176 (fun _ _ _ => rfl) 0 (hr.t) (hr.r1) dX6_hasDispute_1 ?_
  refine g_astore_n 2 [(2, .ref (r + 1)), (0, .ref (S)), (1, .ref (r))] dX6_hasDispute_4 rfl (Nat.le_of_ble_eq_true rfl) rfl ?_
  refine g_aload_n 2 dX6_hasDispute_5 rfl rfl ?_
  refine gN_alen 11 n (hr.t1) (by decide) dX6_hasDispute_6 ?_
  refine g_istore_n 3 [(3, .int (nI (n))), (2, .ref (r + 1)), (0, .ref (S)), (1, .ref (r))] dX6_hasDispute_7 rfl (Nat.le_of_ble_eq_true rfl) rfl ?_
  refine gN_iconst 0 dX6_hasDispute_8 (by decide) ?_
  refine g_istore 4 [(4, .int (nI (0))), (3, .int (nI (n))), (2, .ref (r + 1)), (0, .ref (S)), (1, .ref (r))] dX6_hasDispute_9 (Nat.le_of_ble_eq_true rfl) rfl ?_
  refine g_pick [0, 1, 2, 3, 4] rfl ?_
  exact lp_X6_hasDispute g cs hS hR hz hr n 0 (Nat.zero_add _) (fun e q => by omega)
set_option maxRecDepth 100000 in
theorem lp_X6_segmentsAt (g : Gp) (cs : Nat × Nat) {m : Mm} {S B c : Nat} {z : Nat → Int32} (hS : StT m S) (hR : Rp m B S z) (hz : ZOk c z) (t : Int32) : ∀ d s : Nat, s + d = nv (z 0) → G g (MX6_segmentsAt cs) (dQ (some (.int (nI (sm (stF z t) (nv (z 0)))))) m) 4 [(3, .int (nI (s))), (2, .int (nI (sm (stF z t) s))), (0, .ref (S)), (1, .int (t))] [] (0, 0) m := by
  have hz0 := hz.n0.hi
  have hz1 := hz.n1.hi
  intro d
  induction d with
  | zero =>
    intro s hs
    obtain rfl : s = nv (z 0) := hs
    refine g_iload_n 3 dX6_segmentsAt_4 rfl rfl ?_
    refine g_aload_n 0 dX6_segmentsAt_5 rfl rfl ?_
    refine gN_getI flX6_39 rfl 0 (hS.t) dX6_segmentsAt_6 ?_
    refine g_ei (nI (nv (z 0))) (hR.c0.trans hz.n0.e) ?_
    refine gN_icmp_ge 42 dX6_segmentsAt_9 (by decide) (by first | omega | exact b01_lt _) (by first | omega | exact b01_lt _) (fun h_9 => ?_) (fun h_9 => ?_)
    · refine g_iload_n 2 dX6_segmentsAt_42 rfl rfl ?_
      refine g_iret rfl dX6_segmentsAt_43 ⟨Nat.zero_le _, Nat.zero_le _⟩ ?_
      exact ⟨rfl, rfl⟩
    · exfalso; omega
  | succ d ih =>
    intro s hs
    have hsn : s < nv (z 0) := by omega
    refine g_iload_n 3 dX6_segmentsAt_4 rfl rfl ?_
    refine g_aload_n 0 dX6_segmentsAt_5 rfl rfl ?_
    refine gN_getI flX6_39 rfl 0 (hS.t) dX6_segmentsAt_6 ?_
    refine g_ei (nI (nv (z 0))) (hR.c0.trans hz.n0.e) ?_
    refine gN_icmp_ge 42 dX6_segmentsAt_9 (by decide) (by first | omega | exact b01_lt _) (by first | omega | exact b01_lt _) (fun h_9 => ?_) (fun h_9 => ?_)
    · exfalso; omega
    · refine g_iload_n 2 dX6_segmentsAt_12 rfl rfl ?_
      refine g_join 31 (b01 (z (79 + 22 * s + 1) = t)) ?_ (fun K_31 => ?_)
      · refine gd_callSN _ _ _ _ (cn_X9_oneIf g (0, 0) (z (79 + 22 * s + 1) = t)) ⟨rfl, rfl⟩ (ok_X9_oneIf _) mlX6_182 st_X9_oneIf rfl ⟨Nat.le_of_ble_eq_true rfl, Nat.le_of_ble_eq_true rfl⟩ (by exact Nat.le_of_ble_eq_true rfl) ⟨Nat.zero_le _, Nat.zero_le _⟩ dX6_segmentsAt_31 rfl ?_
        refine gN_iadd ((sm (stF z t) s) + (b01 (z (79 + 22 * s + 1) = t))) dX6_segmentsAt_34 rfl ?_
        refine g_istore_n 2 [(2, .int (nI ((sm (stF z t) s) + (b01 (z (79 + 22 * s + 1) = t))))), (3, .int (nI (s))), (0, .ref (S)), (1, .int (t))] dX6_segmentsAt_35 rfl (Nat.le_of_ble_eq_true rfl) rfl ?_
        refine g_iinc 3 (nI (s + 1)) 1 [(3, .int (nI (s + 1))), (2, .int (nI ((sm (stF z t) s) + (b01 (z (79 + 22 * s + 1) = t))))), (0, .ref (S)), (1, .int (t))] dX6_segmentsAt_36 rfl (nI_add s 1) (Nat.le_of_ble_eq_true rfl) rfl ?_
        refine g_goto 4 dX6_segmentsAt_39 (by decide) ?_
        refine g_pick [0, 1, 2, 3] rfl ?_
        exact ih (s + 1) (by omega)
      · refine g_aload_n 0 dX6_segmentsAt_13 rfl rfl ?_
        refine gN_getR (S + 5) flX6_35 (fun _ _ _ => rfl) 0 (hS.t) (hS.r4) dX6_segmentsAt_14 ?_
        refine g_iload_n 3 dX6_segmentsAt_17 rfl rfl ?_
        refine gN_aald 14 10 (S + 37 + s) (hS.t5) (by decide) (by first | omega | exact b01_lt _) (by first | omega | exact b01_lt _) (hS.rS (by omega)) dX6_segmentsAt_18 ?_
        refine gN_getI flX6_113 rfl 0 (hS.tS (by omega)) dX6_segmentsAt_19 ?_
        refine g_eI (z (79 + 22 * s + 1)) (hR.S1 (by omega)) ?_
        refine g_iload_n 1 dX6_segmentsAt_22 rfl rfl ?_
        refine g_icmp_ne 30 dX6_segmentsAt_23 (by decide) (fun h_23 => ?_) (fun h_23 => ?_)
        · refine gN_iconst 0 dX6_segmentsAt_30 (by decide) ?_
          exact g_ei (nI (b01 (z (79 + 22 * s + 1) = t))) (congrArg nI (show 0 = b01 (z (79 + 22 * s + 1) = t) from by first | exact (b01_t h_23).symm | exact (b01_f h_23).symm)) K_31
        · refine gN_iconst 1 dX6_segmentsAt_26 (by decide) ?_
          refine g_goto 31 dX6_segmentsAt_27 (by decide) ?_
          exact g_ei (nI (b01 (z (79 + 22 * s + 1) = t))) (congrArg nI (show 1 = b01 (z (79 + 22 * s + 1) = t) from by first | exact (b01_t h_23).symm | exact (b01_f h_23).symm)) K_31
set_option maxRecDepth 100000 in
theorem cn_X6_segmentsAt (g : Gp) (cs : Nat × Nat) {m : Mm} {S B c : Nat} {z : Nat → Int32} (hS : StT m S) (hR : Rp m B S z) (hz : ZOk c z) (t : Int32) : Dn g (MX6_segmentsAt cs) [.ref (S), .int (t)] m (some (.int (nI (sm (stF z t) (nv (z 0)))))) (m) := by
  have hz0 := hz.n0.hi
  have hz1 := hz.n1.hi
  refine Cn.of pn_X6 (Nat.le_of_ble_eq_true rfl) rfl ?_
  refine gN_iconst 0 dX6_segmentsAt_0 (by decide) ?_
  refine g_istore_n 2 [(2, .int (nI (0))), (0, .ref (S)), (1, .int (t))] dX6_segmentsAt_1 rfl (Nat.le_of_ble_eq_true rfl) rfl ?_
  refine gN_iconst 0 dX6_segmentsAt_2 (by decide) ?_
  refine g_istore_n 3 [(3, .int (nI (0))), (2, .int (nI (0))), (0, .ref (S)), (1, .int (t))] dX6_segmentsAt_3 rfl (Nat.le_of_ble_eq_true rfl) rfl ?_
  refine g_pick [0, 1, 2, 3] rfl ?_
  exact lp_X6_segmentsAt g cs hS hR hz t _ 0 (Nat.zero_add _)
set_option maxRecDepth 100000 in
theorem lp_X6_assignedTo (g : Gp) (cs : Nat × Nat) {m : Mm} {S B c : Nat} {z : Nat → Int32} (hS : StT m S) (hR : Rp m B S z) (hz : ZOk c z) (t : Int32) : ∀ d s : Nat, s + d = nv (z 0) → G g (MX6_assignedTo cs) (dQ (some (.int (nI (sm (asF z t) (nv (z 0)))))) m) 4 [(3, .int (nI (s))), (2, .int (nI (sm (asF z t) s))), (0, .ref (S)), (1, .int (t))] [] (0, 0) m := by
  have hz0 := hz.n0.hi
  have hz1 := hz.n1.hi
  intro d
  induction d with
  | zero =>
    intro s hs
    obtain rfl : s = nv (z 0) := hs
    refine g_iload_n 3 dX6_assignedTo_4 rfl rfl ?_
    refine g_aload_n 0 dX6_assignedTo_5 rfl rfl ?_
    refine gN_getI flX6_39 rfl 0 (hS.t) dX6_assignedTo_6 ?_
    refine g_ei (nI (nv (z 0))) (hR.c0.trans hz.n0.e) ?_
    refine gN_icmp_ge 55 dX6_assignedTo_9 (by decide) (by first | omega | exact b01_lt _) (by first | omega | exact b01_lt _) (fun h_9 => ?_) (fun h_9 => ?_)
    · refine g_iload_n 2 dX6_assignedTo_55 rfl rfl ?_
      refine g_iret rfl dX6_assignedTo_56 ⟨Nat.zero_le _, Nat.zero_le _⟩ ?_
      exact ⟨rfl, rfl⟩
    · exfalso; omega
  | succ d ih =>
    intro s hs
    have hsn : s < nv (z 0) := by omega
    refine g_iload_n 3 dX6_assignedTo_4 rfl rfl ?_
    refine g_aload_n 0 dX6_assignedTo_5 rfl rfl ?_
    refine gN_getI flX6_39 rfl 0 (hS.t) dX6_assignedTo_6 ?_
    refine g_ei (nI (nv (z 0))) (hR.c0.trans hz.n0.e) ?_
    refine gN_icmp_ge 55 dX6_assignedTo_9 (by decide) (by first | omega | exact b01_lt _) (by first | omega | exact b01_lt _) (fun h_9 => ?_) (fun h_9 => ?_)
    · exfalso; omega
    · refine g_aload_n 0 dX6_assignedTo_12 rfl rfl ?_
      refine gN_getR (S + 5) flX6_35 (fun _ _ _ => rfl) 0 (hS.t) (hS.r4) dX6_assignedTo_13 ?_
      refine g_iload_n 3 dX6_assignedTo_16 rfl rfl ?_
      refine gN_aald 14 10 (S + 37 + s) (hS.t5) (by decide) (by first | omega | exact b01_lt _) (by first | omega | exact b01_lt _) (hS.rS (by omega)) dX6_assignedTo_17 ?_
      refine g_astore 4 [(4, .ref (S + 37 + s)), (3, .int (nI (s))), (2, .int (nI (sm (asF z t) s))), (0, .ref (S)), (1, .int (t))] dX6_assignedTo_18 (Nat.le_of_ble_eq_true rfl) rfl ?_
      refine g_iload_n 2 dX6_assignedTo_20 rfl rfl ?_
      refine g_join 44 (b01 (z (79 + 22 * s + 1) = 1 ∧ z (79 + 22 * s + 2) = t)) ?_ (fun K_44 => ?_)
      · refine gd_callSN _ _ _ _ (cn_X9_oneIf g (0, 0) (z (79 + 22 * s + 1) = 1 ∧ z (79 + 22 * s + 2) = t)) ⟨rfl, rfl⟩ (ok_X9_oneIf _) mlX6_182 st_X9_oneIf rfl ⟨Nat.le_of_ble_eq_true rfl, Nat.le_of_ble_eq_true rfl⟩ (by exact Nat.le_of_ble_eq_true rfl) ⟨Nat.zero_le _, Nat.zero_le _⟩ dX6_assignedTo_44 rfl ?_
        refine gN_iadd ((sm (asF z t) s) + (b01 (z (79 + 22 * s + 1) = 1 ∧ z (79 + 22 * s + 2) = t))) dX6_assignedTo_47 rfl ?_
        refine g_istore_n 2 [(2, .int (nI ((sm (asF z t) s) + (b01 (z (79 + 22 * s + 1) = 1 ∧ z (79 + 22 * s + 2) = t))))), (4, .ref (S + 37 + s)), (3, .int (nI (s))), (0, .ref (S)), (1, .int (t))] dX6_assignedTo_48 rfl (Nat.le_of_ble_eq_true rfl) rfl ?_
        refine g_iinc 3 (nI (s + 1)) 2 [(3, .int (nI (s + 1))), (2, .int (nI ((sm (asF z t) s) + (b01 (z (79 + 22 * s + 1) = 1 ∧ z (79 + 22 * s + 2) = t))))), (4, .ref (S + 37 + s)), (0, .ref (S)), (1, .int (t))] dX6_assignedTo_49 rfl (nI_add s 1) (Nat.le_of_ble_eq_true rfl) rfl ?_
        refine g_goto 4 dX6_assignedTo_52 (by decide) ?_
        refine g_pick [0, 1, 3, 4] rfl ?_
        exact ih (s + 1) (by omega)
      · refine g_aload 4 dX6_assignedTo_21 rfl ?_
        refine gN_getI flX6_113 rfl 0 (hS.tS (by omega)) dX6_assignedTo_23 ?_
        refine g_eI (z (79 + 22 * s + 1)) (hR.S1 (by omega)) ?_
        refine gN_iconst 1 dX6_assignedTo_26 (by decide) ?_
        refine g_icmp_ne 43 dX6_assignedTo_27 (by decide) (fun h_27 => ?_) (fun h_27 => ?_)
        · refine gN_iconst 0 dX6_assignedTo_43 (by decide) ?_
          exact g_ei (nI (b01 (z (79 + 22 * s + 1) = 1 ∧ z (79 + 22 * s + 2) = t))) (congrArg nI (show 0 = b01 (z (79 + 22 * s + 1) = 1 ∧ z (79 + 22 * s + 2) = t) from by first | exact (b01_t ⟨h_27, by have h_36 := h_36; unfold opn at h_36; rw [if_neg (by rw [h_27]; decide)] at h_36; exact h_36⟩).symm | exact (b01_f (fun q => by first | exact h_27 q.1 | (refine h_36 ?_; unfold opn; rw [if_neg (by rw [q.1]; decide)]; exact q.2))).symm)) K_44
        · refine g_aload 4 dX6_assignedTo_30 rfl ?_
          refine gN_getI flX6_107 rfl 0 (hS.tS (by omega)) dX6_assignedTo_32 ?_
          refine g_eI (opn (z (79 + 22 * s + 1)) (z (79 + 22 * s + 2))) (hR.S2 (by omega)) ?_
          refine g_iload_n 1 dX6_assignedTo_35 rfl rfl ?_
          refine g_icmp_ne 43 dX6_assignedTo_36 (by decide) (fun h_36 => ?_) (fun h_36 => ?_)
          · refine gN_iconst 0 dX6_assignedTo_43 (by decide) ?_
            exact g_ei (nI (b01 (z (79 + 22 * s + 1) = 1 ∧ z (79 + 22 * s + 2) = t))) (congrArg nI (show 0 = b01 (z (79 + 22 * s + 1) = 1 ∧ z (79 + 22 * s + 2) = t) from by first | exact (b01_t ⟨h_27, by have h_36 := h_36; unfold opn at h_36; rw [if_neg (by rw [h_27]; decide)] at h_36; exact h_36⟩).symm | exact (b01_f (fun q => by first | exact h_27 q.1 | (refine h_36 ?_; unfold opn; rw [if_neg (by rw [q.1]; decide)]; exact q.2))).symm)) K_44
          · refine gN_iconst 1 dX6_assignedTo_39 (by decide) ?_
            refine g_goto 44 dX6_assignedTo_40 (by decide) ?_
            exact g_ei (nI (b01 (z (79 + 22 * s + 1) = 1 ∧ z (79 + 22 * s + 2) = t))) (congrArg nI (show 1 = b01 (z (79 + 22 * s + 1) = 1 ∧ z (79 + 22 * s + 2) = t) from by first | exact (b01_t ⟨h_27, by have h_36 := h_36; unfold opn at h_36; rw [if_neg (by rw [h_27]; decide)] at h_36; exact h_36⟩).symm | exact (b01_f (fun q => by first | exact h_27 q.1 | (refine h_36 ?_; unfold opn; rw [if_neg (by rw [q.1]; decide)]; exact q.2))).symm)) K_44
set_option maxRecDepth 100000 in
theorem cn_X6_assignedTo (g : Gp) (cs : Nat × Nat) {m : Mm} {S B c : Nat} {z : Nat → Int32} (hS : StT m S) (hR : Rp m B S z) (hz : ZOk c z) (t : Int32) : Dn g (MX6_assignedTo cs) [.ref (S), .int (t)] m (some (.int (nI (sm (asF z t) (nv (z 0)))))) (m) := by
  have hz0 := hz.n0.hi
  have hz1 := hz.n1.hi
  refine Cn.of pn_X6 (Nat.le_of_ble_eq_true rfl) rfl ?_
  refine gN_iconst 0 dX6_assignedTo_0 (by decide) ?_
  refine g_istore_n 2 [(2, .int (nI (0))), (0, .ref (S)), (1, .int (t))] dX6_assignedTo_1 rfl (Nat.le_of_ble_eq_true rfl) rfl ?_
  refine gN_iconst 0 dX6_assignedTo_2 (by decide) ?_
  refine g_istore_n 3 [(3, .int (nI (0))), (2, .int (nI (0))), (0, .ref (S)), (1, .int (t))] dX6_assignedTo_3 rfl (Nat.le_of_ble_eq_true rfl) rfl ?_
  refine g_pick [0, 1, 2, 3] rfl ?_
  exact lp_X6_assignedTo g cs hS hR hz t _ 0 (Nat.zero_add _)
set_option maxRecDepth 100000 in
theorem lp_X6_wordsOfAll (g : Gp) (cs : Nat × Nat) {m : Mm} {S B c : Nat} {z : Nat → Int32} (hS : StT m S) (hR : Rp m B S z) (hz : ZOk c z) : ∀ d s : Nat, s + d = nv (z 0) → G g (MX6_wordsOfAll cs) (dQ (some (.int (nI (sm (wdF z) (nv (z 0)))))) m) 4 [(2, .int (nI (s))), (1, .int (nI (sm (wdF z) s))), (0, .ref (S))] [] (0, 0) m := by
  have hz0 := hz.n0.hi
  have hz1 := hz.n1.hi
  intro d
  induction d with
  | zero =>
    intro s hs
    obtain rfl : s = nv (z 0) := hs
    refine g_iload_n 2 dX6_wordsOfAll_4 rfl rfl ?_
    refine g_aload_n 0 dX6_wordsOfAll_5 rfl rfl ?_
    refine gN_getI flX6_39 rfl 0 (hS.t) dX6_wordsOfAll_6 ?_
    refine g_ei (nI (nv (z 0))) (hR.c0.trans hz.n0.e) ?_
    refine gN_icmp_ge 33 dX6_wordsOfAll_9 (by decide) (by first | omega | exact b01_lt _) (by first | omega | exact b01_lt _) (fun h_9 => ?_) (fun h_9 => ?_)
    · refine g_iload_n 1 dX6_wordsOfAll_33 rfl rfl ?_
      refine g_iret rfl dX6_wordsOfAll_34 ⟨Nat.zero_le _, Nat.zero_le _⟩ ?_
      exact ⟨rfl, rfl⟩
    · exfalso; omega
  | succ d ih =>
    intro s hs
    have hsn : s < nv (z 0) := by omega
    obtain ⟨q, hq1, hq2⟩ := hR.SR hsn
    have hq := hq2.2.2
    have hqn := hq.n
    refine g_iload_n 2 dX6_wordsOfAll_4 rfl rfl ?_
    refine g_aload_n 0 dX6_wordsOfAll_5 rfl rfl ?_
    refine gN_getI flX6_39 rfl 0 (hS.t) dX6_wordsOfAll_6 ?_
    refine g_ei (nI (nv (z 0))) (hR.c0.trans hz.n0.e) ?_
    refine gN_icmp_ge 33 dX6_wordsOfAll_9 (by decide) (by first | omega | exact b01_lt _) (by first | omega | exact b01_lt _) (fun h_9 => ?_) (fun h_9 => ?_)
    · exfalso; omega
    · refine g_iload_n 1 dX6_wordsOfAll_12 rfl rfl ?_
      refine g_aload_n 0 dX6_wordsOfAll_13 rfl rfl ?_
      refine gN_getR (S + 5) flX6_35 (fun _ _ _ => rfl) 0 (hS.t) (hS.r4) dX6_wordsOfAll_14 ?_
      refine g_iload_n 2 dX6_wordsOfAll_17 rfl rfl ?_
      refine gN_aald 14 10 (S + 37 + s) (hS.t5) (by decide) (by first | omega | exact b01_lt _) (by first | omega | exact b01_lt _) (hS.rS (by omega)) dX6_wordsOfAll_18 ?_
      refine gN_getR (q) flX6_88 (fun _ _ _ => rfl) 0 (hS.tS (by omega)) (hq1) dX6_wordsOfAll_19 ?_
      refine gN_getI flX6_110 rfl 0 (hq.t) dX6_wordsOfAll_22 ?_
      refine g_ei (nI (nv (z (79 + 22 * s)))) (hq.l) ?_
      refine gN_iadd ((sm (wdF z) s) + (nv (z (79 + 22 * s)))) dX6_wordsOfAll_25 rfl ?_
      refine g_istore_n 1 [(1, .int (nI ((sm (wdF z) s) + (nv (z (79 + 22 * s)))))), (2, .int (nI (s))), (0, .ref (S))] dX6_wordsOfAll_26 rfl (Nat.le_of_ble_eq_true rfl) rfl ?_
      refine g_iinc 2 (nI (s + 1)) 1 [(2, .int (nI (s + 1))), (1, .int (nI ((sm (wdF z) s) + (nv (z (79 + 22 * s)))))), (0, .ref (S))] dX6_wordsOfAll_27 rfl (nI_add s 1) (Nat.le_of_ble_eq_true rfl) rfl ?_
      refine g_goto 4 dX6_wordsOfAll_30 (by decide) ?_
      refine g_pick [0, 1, 2] rfl ?_
      exact ih (s + 1) (by omega)
set_option maxRecDepth 100000 in
theorem cn_X6_wordsOfAll (g : Gp) (cs : Nat × Nat) {m : Mm} {S B c : Nat} {z : Nat → Int32} (hS : StT m S) (hR : Rp m B S z) (hz : ZOk c z) : Dn g (MX6_wordsOfAll cs) [.ref (S)] m (some (.int (nI (sm (wdF z) (nv (z 0)))))) (m) := by
  have hz0 := hz.n0.hi
  have hz1 := hz.n1.hi
  refine Cn.of pn_X6 (Nat.le_of_ble_eq_true rfl) rfl ?_
  refine gN_iconst 0 dX6_wordsOfAll_0 (by decide) ?_
  refine g_istore_n 1 [(1, .int (nI (0))), (0, .ref (S))] dX6_wordsOfAll_1 rfl (Nat.le_of_ble_eq_true rfl) rfl ?_
  refine gN_iconst 0 dX6_wordsOfAll_2 (by decide) ?_
  refine g_istore_n 2 [(2, .int (nI (0))), (1, .int (nI (0))), (0, .ref (S))] dX6_wordsOfAll_3 rfl (Nat.le_of_ble_eq_true rfl) rfl ?_
  refine g_pick [0, 1, 2] rfl ?_
  exact lp_X6_wordsOfAll g cs hS hR hz _ 0 (Nat.zero_add _)
set_option maxRecDepth 100000 in
theorem lp_X6_occurrences (g : Gp) (cs : Nat × Nat) {m : Mm} {S B c : Nat} {z : Nat → Int32} (hS : StT m S) (hR : Rp m B S z) (hz : ZOk c z) {w : Nat} (hw : w < 8) : ∀ d s : Nat, s + d = nv (z 0) → G g (MX6_occurrences cs) (dQ (some (.int (nI (sm (ofF z (nI w)) (nv (z 0)))))) m) 4 [(3, .int (nI (s))), (2, .int (nI (sm (ofF z (nI w)) s))), (0, .ref (S)), (1, .int (nI (w)))] [] (0, 0) m := by
  have hz0 := hz.n0.hi
  have hz1 := hz.n1.hi
  intro d
  induction d with
  | zero =>
    intro s hs
    obtain rfl : s = nv (z 0) := hs
    refine g_iload_n 3 dX6_occurrences_4 rfl rfl ?_
    refine g_aload_n 0 dX6_occurrences_5 rfl rfl ?_
    refine gN_getI flX6_39 rfl 0 (hS.t) dX6_occurrences_6 ?_
    refine g_ei (nI (nv (z 0))) (hR.c0.trans hz.n0.e) ?_
    refine gN_icmp_ge 38 dX6_occurrences_9 (by decide) (by first | omega | exact b01_lt _) (by first | omega | exact b01_lt _) (fun h_9 => ?_) (fun h_9 => ?_)
    · refine g_iload_n 2 dX6_occurrences_38 rfl rfl ?_
      refine g_iret rfl dX6_occurrences_39 ⟨Nat.zero_le _, Nat.zero_le _⟩ ?_
      exact ⟨rfl, rfl⟩
    · exfalso; omega
  | succ d ih =>
    intro s hs
    have hsn : s < nv (z 0) := by omega
    obtain ⟨q, hq1, hq2⟩ := hR.SR hsn
    have hq := hq2.2.2
    have hqn := hq.n
    refine g_iload_n 3 dX6_occurrences_4 rfl rfl ?_
    refine g_aload_n 0 dX6_occurrences_5 rfl rfl ?_
    refine gN_getI flX6_39 rfl 0 (hS.t) dX6_occurrences_6 ?_
    refine g_ei (nI (nv (z 0))) (hR.c0.trans hz.n0.e) ?_
    refine gN_icmp_ge 38 dX6_occurrences_9 (by decide) (by first | omega | exact b01_lt _) (by first | omega | exact b01_lt _) (fun h_9 => ?_) (fun h_9 => ?_)
    · exfalso; omega
    · refine g_iload_n 2 dX6_occurrences_12 rfl rfl ?_
      refine g_aload_n 0 dX6_occurrences_13 rfl rfl ?_
      refine gN_getR (S + 5) flX6_35 (fun _ _ _ => rfl) 0 (hS.t) (hS.r4) dX6_occurrences_14 ?_
      refine g_iload_n 3 dX6_occurrences_17 rfl rfl ?_
      refine gN_aald 14 10 (S + 37 + s) (hS.t5) (by decide) (by first | omega | exact b01_lt _) (by first | omega | exact b01_lt _) (hS.rS (by omega)) dX6_occurrences_18 ?_
      refine gN_getR (q) flX6_88 (fun _ _ _ => rfl) 0 (hS.tS (by omega)) (hq1) dX6_occurrences_19 ?_
      refine gN_getR (q + 2) flX6_189 (fun _ _ _ => rfl) 0 (hq.t) (hq.r2) dX6_occurrences_22 ?_
      refine g_iload_n 1 dX6_occurrences_25 rfl rfl ?_
      refine gN_iald 8 (hq.t2) (by first | omega | exact b01_lt _) (by first | omega | exact b01_lt _) dX6_occurrences_26 ?_
      have hcb := rw_cb hq hw
      refine gd_callS _ _ _ _ (cn_J6_bitCount_0f7a4 g (0, 0) (x := im m (q + 2) w) hcb.2) ⟨rfl, rfl⟩ (ok_J6_bitCount_0f7a4 _) mlX6_192 st_J6_bitCount_0f7a4 rfl ⟨Nat.le_of_ble_eq_true rfl, Nat.le_of_ble_eq_true rfl⟩ (by exact Nat.le_of_ble_eq_true rfl) ⟨Nat.zero_le _, Nat.zero_le _⟩ dX6_occurrences_27 rfl ?_
      rw [hcb.1]
      refine gN_iadd ((sm (ofF z (nI w)) s) + (sm (fun e => b01 (z (79 + 22 * s + 10 + e) = nI w)) (nv (z (79 + 22 * s))))) dX6_occurrences_30 rfl ?_
      refine g_istore_n 2 [(2, .int (nI ((sm (ofF z (nI w)) s) + (sm (fun e => b01 (z (79 + 22 * s + 10 + e) = nI w)) (nv (z (79 + 22 * s))))))), (3, .int (nI (s))), (0, .ref (S)), (1, .int (nI (w)))] dX6_occurrences_31 rfl (Nat.le_of_ble_eq_true rfl) rfl ?_
      refine g_iinc 3 (nI (s + 1)) 1 [(3, .int (nI (s + 1))), (2, .int (nI ((sm (ofF z (nI w)) s) + (sm (fun e => b01 (z (79 + 22 * s + 10 + e) = nI w)) (nv (z (79 + 22 * s))))))), (0, .ref (S)), (1, .int (nI (w)))] dX6_occurrences_32 rfl (nI_add s 1) (Nat.le_of_ble_eq_true rfl) rfl ?_
      refine g_goto 4 dX6_occurrences_35 (by decide) ?_
      refine g_pick [0, 1, 2, 3] rfl ?_
      exact ih (s + 1) (by omega)
set_option maxRecDepth 100000 in
theorem cn_X6_occurrences (g : Gp) (cs : Nat × Nat) {m : Mm} {S B c : Nat} {z : Nat → Int32} (hS : StT m S) (hR : Rp m B S z) (hz : ZOk c z) {w : Nat} (hw : w < 8) : Dn g (MX6_occurrences cs) [.ref (S), .int (nI (w))] m (some (.int (nI (sm (ofF z (nI w)) (nv (z 0)))))) (m) := by
  have hz0 := hz.n0.hi
  have hz1 := hz.n1.hi
  refine Cn.of pn_X6 (Nat.le_of_ble_eq_true rfl) rfl ?_
  refine gN_iconst 0 dX6_occurrences_0 (by decide) ?_
  refine g_istore_n 2 [(2, .int (nI (0))), (0, .ref (S)), (1, .int (nI (w)))] dX6_occurrences_1 rfl (Nat.le_of_ble_eq_true rfl) rfl ?_
  refine gN_iconst 0 dX6_occurrences_2 (by decide) ?_
  refine g_istore_n 3 [(3, .int (nI (0))), (2, .int (nI (0))), (0, .ref (S)), (1, .int (nI (w)))] dX6_occurrences_3 rfl (Nat.le_of_ble_eq_true rfl) rfl ?_
  refine g_pick [0, 1, 2, 3] rfl ?_
  exact lp_X6_occurrences g cs hS hR hz hw _ 0 (Nat.zero_add _)
set_option maxRecDepth 100000 in
theorem lp_X6_savedPercents (g : Gp) (cs : Nat × Nat) {m : Mm} {S B c : Nat} {z : Nat → Int32} (hS : StT m S) (hR : Rp m B S z) (hz : ZOk c z) (hC : CsT g m) : ∀ d s : Nat, s + d = nv (z 0) → G g (MX6_savedPercents cs) (dQ (some (.int (nI (sm (svF z) (nv (z 0)))))) m) 4 [(2, .int (nI (s))), (1, .int (nI (sm (svF z) s))), (0, .ref (S))] [] (0, 0) m := by
  have hz0 := hz.n0.hi
  have hz1 := hz.n1.hi
  intro d
  induction d with
  | zero =>
    intro s hs
    obtain rfl : s = nv (z 0) := hs
    refine g_iload_n 2 dX6_savedPercents_4 rfl rfl ?_
    refine g_aload_n 0 dX6_savedPercents_5 rfl rfl ?_
    refine gN_getI flX6_39 rfl 0 (hS.t) dX6_savedPercents_6 ?_
    refine g_ei (nI (nv (z 0))) (hR.c0.trans hz.n0.e) ?_
    refine gN_icmp_ge 44 dX6_savedPercents_9 (by decide) (by first | omega | exact b01_lt _) (by first | omega | exact b01_lt _) (fun h_9 => ?_) (fun h_9 => ?_)
    · refine g_iload_n 1 dX6_savedPercents_44 rfl rfl ?_
      refine g_iret rfl dX6_savedPercents_45 ⟨Nat.zero_le _, Nat.zero_le _⟩ ?_
      exact ⟨rfl, rfl⟩
    · exfalso; omega
  | succ d ih =>
    intro s hs
    have hsn : s < nv (z 0) := by omega
    obtain ⟨q, hq1, hq2⟩ := hR.SR hsn
    have hq := hq2.2.2
    have hqn := hq.n
    refine g_iload_n 2 dX6_savedPercents_4 rfl rfl ?_
    refine g_aload_n 0 dX6_savedPercents_5 rfl rfl ?_
    refine gN_getI flX6_39 rfl 0 (hS.t) dX6_savedPercents_6 ?_
    refine g_ei (nI (nv (z 0))) (hR.c0.trans hz.n0.e) ?_
    refine gN_icmp_ge 44 dX6_savedPercents_9 (by decide) (by first | omega | exact b01_lt _) (by first | omega | exact b01_lt _) (fun h_9 => ?_) (fun h_9 => ?_)
    · exfalso; omega
    · refine g_aload_n 0 dX6_savedPercents_12 rfl rfl ?_
      refine gN_getR (S + 5) flX6_35 (fun _ _ _ => rfl) 0 (hS.t) (hS.r4) dX6_savedPercents_13 ?_
      refine g_iload_n 2 dX6_savedPercents_16 rfl rfl ?_
      refine gN_aald 14 10 (S + 37 + s) (hS.t5) (by decide) (by first | omega | exact b01_lt _) (by first | omega | exact b01_lt _) (hS.rS (by omega)) dX6_savedPercents_17 ?_
      refine gN_getR (q) flX6_88 (fun _ _ _ => rfl) 0 (hS.tS (by omega)) (hq1) dX6_savedPercents_18 ?_
      refine g_astore_n 3 [(3, .ref (q)), (2, .int (nI (s))), (1, .int (nI (sm (svF z) s))), (0, .ref (S))] dX6_savedPercents_21 rfl (Nat.le_of_ble_eq_true rfl) rfl ?_
      refine g_iload_n 1 dX6_savedPercents_22 rfl rfl ?_
      refine g_aload_n 3 dX6_savedPercents_23 rfl rfl ?_
      refine gN_getI flX6_110 rfl 0 (hq.t) dX6_savedPercents_24 ?_
      refine g_ei (nI (nv (z (79 + 22 * s)))) (hq.l) ?_
      refine gN_bipush 100 dX6_savedPercents_27 (by decide) ?_
      refine g_aload_n 0 dX6_savedPercents_29 rfl rfl ?_
      refine g_aload_n 3 dX6_savedPercents_30 rfl rfl ?_
      have hb5 := hz.B0 (p := bandOf (mtc z (79 + 22 * s))) (Nat.lt_of_le_of_lt (bandOf_le _) (by decide))
      have hb6 := hb5.hi
      refine gd_callV _ _ _ _ (cn_X6_percentNow g (0, 0) hS hR hz hC hq) ⟨rfl, rfl⟩ (ok_X6_percentNow _) mlX6_172 in_X6_percentNow se_X6_percentNow 6 0 (hS.t) rfl rfl rfl ⟨Nat.le_of_ble_eq_true rfl, Nat.le_of_ble_eq_true rfl⟩ (by exact Nat.le_of_ble_eq_true rfl) ⟨Nat.zero_le _, Nat.zero_le _⟩ dX6_savedPercents_31 rfl ?_
      refine g_ei (nI (nv (z (64 + 3 * bandOf (mtc z (79 + 22 * s)))))) hb5.e ?_
      refine gN_isub (100 - (nv (z (64 + 3 * bandOf (mtc z (79 + 22 * s)))))) dX6_savedPercents_34 (by first | omega | exact b01_lt _) rfl ?_
      refine gN_imul ((nv (z (79 + 22 * s))) * (100 - (nv (z (64 + 3 * bandOf (mtc z (79 + 22 * s))))))) dX6_savedPercents_35 rfl ?_
      refine gN_iadd ((sm (svF z) s) + ((nv (z (79 + 22 * s))) * (100 - (nv (z (64 + 3 * bandOf (mtc z (79 + 22 * s)))))))) dX6_savedPercents_36 rfl ?_
      refine g_istore_n 1 [(1, .int (nI ((sm (svF z) s) + ((nv (z (79 + 22 * s))) * (100 - (nv (z (64 + 3 * bandOf (mtc z (79 + 22 * s)))))))))), (3, .ref (q)), (2, .int (nI (s))), (0, .ref (S))] dX6_savedPercents_37 rfl (Nat.le_of_ble_eq_true rfl) rfl ?_
      refine g_iinc 2 (nI (s + 1)) 2 [(2, .int (nI (s + 1))), (1, .int (nI ((sm (svF z) s) + ((nv (z (79 + 22 * s))) * (100 - (nv (z (64 + 3 * bandOf (mtc z (79 + 22 * s)))))))))), (3, .ref (q)), (0, .ref (S))] dX6_savedPercents_38 rfl (nI_add s 1) (Nat.le_of_ble_eq_true rfl) rfl ?_
      refine g_goto 4 dX6_savedPercents_41 (by decide) ?_
      refine g_pick [0, 1, 3] rfl ?_
      exact ih (s + 1) (by omega)
set_option maxRecDepth 100000 in
theorem cn_X6_savedPercents (g : Gp) (cs : Nat × Nat) {m : Mm} {S B c : Nat} {z : Nat → Int32} (hS : StT m S) (hR : Rp m B S z) (hz : ZOk c z) (hC : CsT g m) : Dn g (MX6_savedPercents cs) [.ref (S)] m (some (.int (nI (sm (svF z) (nv (z 0)))))) (m) := by
  have hz0 := hz.n0.hi
  have hz1 := hz.n1.hi
  refine Cn.of pn_X6 (Nat.le_of_ble_eq_true rfl) rfl ?_
  refine gN_iconst 0 dX6_savedPercents_0 (by decide) ?_
  refine g_istore_n 1 [(1, .int (nI (0))), (0, .ref (S))] dX6_savedPercents_1 rfl (Nat.le_of_ble_eq_true rfl) rfl ?_
  refine gN_iconst 0 dX6_savedPercents_2 (by decide) ?_
  refine g_istore_n 2 [(2, .int (nI (0))), (1, .int (nI (0))), (0, .ref (S))] dX6_savedPercents_3 rfl (Nat.le_of_ble_eq_true rfl) rfl ?_
  refine g_pick [0, 1, 2] rfl ?_
  exact lp_X6_savedPercents g cs hS hR hz hC _ 0 (Nat.zero_add _)
set_option maxRecDepth 100000 in
theorem lp_X6_proposalsOf (g : Gp) (cs : Nat × Nat) {m : Mm} {S B c : Nat} {z : Nat → Int32} (hS : StT m S) (hR : Rp m B S z) (hz : ZOk c z) {t : Nat} (ht : t < 4) : ∀ d w : Nat, w + d = 8 → G g (MX6_proposalsOf cs) (dQ (some (.int (nI (sm (prF z t) 8)))) m) 14 [(5, .int (nI (w))), (4, .int (nI (8))), (3, .ref (S + 4)), (2, .int (nI (sm (prF z t) w))), (0, .ref (S)), (1, .int (nI (t)))] [] (0, 0) m := by
  intro d
  induction d with
  | zero =>
    intro w hw
    obtain rfl : w = 8 := hw
    refine g_iload 5 dX6_proposalsOf_14 rfl ?_
    refine g_iload 4 dX6_proposalsOf_16 rfl ?_
    refine gN_icmp_ge 55 dX6_proposalsOf_18 (by decide) (by first | omega | exact b01_lt _) (by first | omega | exact b01_lt _) (fun h_18 => ?_) (fun h_18 => ?_)
    · refine g_iload_n 2 dX6_proposalsOf_55 rfl rfl ?_
      refine g_iret rfl dX6_proposalsOf_56 ⟨Nat.zero_le _, Nat.zero_le _⟩ ?_
      exact ⟨rfl, rfl⟩
    · exact absurd h_18 (by decide)
  | succ d ih =>
    intro w hw
    refine g_iload 5 dX6_proposalsOf_14 rfl ?_
    refine g_iload 4 dX6_proposalsOf_16 rfl ?_
    refine gN_icmp_ge 55 dX6_proposalsOf_18 (by decide) (by first | omega | exact b01_lt _) (by first | omega | exact b01_lt _) (fun h_18 => ?_) (fun h_18 => ?_)
    · exfalso; omega
    · refine g_aload_n 3 dX6_proposalsOf_21 rfl rfl ?_
      refine g_iload 5 dX6_proposalsOf_22 rfl ?_
      refine gN_aald 16 8 (S + 21 + 2 * w) (hS.t4) (by decide) (by first | omega | exact b01_lt _) (by first | omega | exact b01_lt _) (hS.rW (by omega)) dX6_proposalsOf_24 ?_
      refine g_astore 6 [(6, .ref (S + 21 + 2 * w)), (5, .int (nI (w))), (4, .int (nI (8))), (3, .ref (S + 4)), (2, .int (nI (sm (prF z t) w))), (0, .ref (S)), (1, .int (nI (t)))] dX6_proposalsOf_25 (Nat.le_of_ble_eq_true rfl) rfl ?_
      refine g_iload_n 2 dX6_proposalsOf_27 rfl rfl ?_
      refine g_join 44 (b01 (¬ z (24 + 4 * w + t) = -1)) ?_ (fun K_44 => ?_)
      · refine gd_callSN _ _ _ _ (cn_X9_oneIf g (0, 0) (¬ z (24 + 4 * w + t) = -1)) ⟨rfl, rfl⟩ (ok_X9_oneIf _) mlX6_182 st_X9_oneIf rfl ⟨Nat.le_of_ble_eq_true rfl, Nat.le_of_ble_eq_true rfl⟩ (by exact Nat.le_of_ble_eq_true rfl) ⟨Nat.zero_le _, Nat.zero_le _⟩ dX6_proposalsOf_44 rfl ?_
        refine gN_iadd ((sm (prF z t) w) + (b01 (¬ z (24 + 4 * w + t) = -1))) dX6_proposalsOf_47 rfl ?_
        refine g_istore_n 2 [(2, .int (nI ((sm (prF z t) w) + (b01 (¬ z (24 + 4 * w + t) = -1))))), (6, .ref (S + 21 + 2 * w)), (5, .int (nI (w))), (4, .int (nI (8))), (3, .ref (S + 4)), (0, .ref (S)), (1, .int (nI (t)))] dX6_proposalsOf_48 rfl (Nat.le_of_ble_eq_true rfl) rfl ?_
        refine g_iinc 5 (nI (w + 1)) 2 [(5, .int (nI (w + 1))), (2, .int (nI ((sm (prF z t) w) + (b01 (¬ z (24 + 4 * w + t) = -1))))), (6, .ref (S + 21 + 2 * w)), (4, .int (nI (8))), (3, .ref (S + 4)), (0, .ref (S)), (1, .int (nI (t)))] dX6_proposalsOf_49 rfl (nI_add w 1) (Nat.le_of_ble_eq_true rfl) rfl ?_
        refine g_goto 14 dX6_proposalsOf_52 (by decide) ?_
        refine g_pick [0, 3, 4, 1, 5, 6] rfl ?_
        exact ih (w + 1) (by omega)
      · refine g_aload 6 dX6_proposalsOf_28 rfl ?_
        refine gN_getR (S + 22 + 2 * w) flX6_186 (fun _ _ _ => rfl) 0 (hS.tW (by omega)) (hS.rP (by omega)) dX6_proposalsOf_30 ?_
        refine g_iload_n 1 dX6_proposalsOf_33 rfl rfl ?_
        refine gN_iald 4 (hS.tP (by omega)) (by first | omega | exact b01_lt _) (by first | omega | exact b01_lt _) dX6_proposalsOf_34 ?_
        refine g_eI (z (24 + 4 * w + t)) (hR.W (by omega) (by omega)) ?_
        refine g_iconst (-1) dX6_proposalsOf_35 (by decide) ?_
        refine g_icmp_eq 43 dX6_proposalsOf_36 (by decide) (fun h_36 => ?_) (fun h_36 => ?_)
        · refine gN_iconst 0 dX6_proposalsOf_43 (by decide) ?_
          exact g_ei (nI (b01 (¬ z (24 + 4 * w + t) = -1))) (congrArg nI (show 0 = b01 (¬ z (24 + 4 * w + t) = -1) from by first | exact (b01_t h_36).symm | exact (b01_f (fun q => q h_36)).symm)) K_44
        · refine gN_iconst 1 dX6_proposalsOf_39 (by decide) ?_
          refine g_goto 44 dX6_proposalsOf_40 (by decide) ?_
          exact g_ei (nI (b01 (¬ z (24 + 4 * w + t) = -1))) (congrArg nI (show 1 = b01 (¬ z (24 + 4 * w + t) = -1) from by first | exact (b01_t h_36).symm | exact (b01_f (fun q => q h_36)).symm)) K_44
set_option maxRecDepth 100000 in
theorem cn_X6_proposalsOf (g : Gp) (cs : Nat × Nat) {m : Mm} {S B c : Nat} {z : Nat → Int32} (hS : StT m S) (hR : Rp m B S z) (hz : ZOk c z) {t : Nat} (ht : t < 4) : Dn g (MX6_proposalsOf cs) [.ref (S), .int (nI (t))] m (some (.int (nI (sm (prF z t) 8)))) (m) := by
  refine Cn.of pn_X6 (Nat.le_of_ble_eq_true rfl) rfl ?_
  refine gN_iconst 0 dX6_proposalsOf_0 (by decide) ?_
  refine g_istore_n 2 [(2, .int (nI (0))), (0, .ref (S)), (1, .int (nI (t)))] dX6_proposalsOf_1 rfl (Nat.le_of_ble_eq_true rfl) rfl ?_
  refine g_aload_n 0 dX6_proposalsOf_2 rfl rfl ?_
  refine gN_getR (S + 4) flX6_29 (fun _ _ _ => rfl) 0 (hS.t) (hS.r3) dX6_proposalsOf_3 ?_
  refine g_astore_n 3 [(3, .ref (S + 4)), (2, .int (nI (0))), (0, .ref (S)), (1, .int (nI (t)))] dX6_proposalsOf_6 rfl (Nat.le_of_ble_eq_true rfl) rfl ?_
  refine g_aload_n 3 dX6_proposalsOf_7 rfl rfl ?_
  refine gN_alen 16 8 (hS.t4) (by decide) dX6_proposalsOf_8 ?_
  refine g_istore 4 [(4, .int (nI (8))), (3, .ref (S + 4)), (2, .int (nI (0))), (0, .ref (S)), (1, .int (nI (t)))] dX6_proposalsOf_9 (Nat.le_of_ble_eq_true rfl) rfl ?_
  refine gN_iconst 0 dX6_proposalsOf_11 (by decide) ?_
  refine g_istore 5 [(5, .int (nI (0))), (4, .int (nI (8))), (3, .ref (S + 4)), (2, .int (nI (0))), (0, .ref (S)), (1, .int (nI (t)))] dX6_proposalsOf_12 (Nat.le_of_ble_eq_true rfl) rfl ?_
  refine g_pick [0, 1, 2, 3, 4, 5] rfl ?_
  exact lp_X6_proposalsOf g cs hS hR hz ht 8 0 rfl
set_option maxRecDepth 100000 in
theorem lp_X6_disputedWords (g : Gp) (cs : Nat × Nat) {m : Mm} {S B c : Nat} {z : Nat → Int32} (hS : StT m S) (hR : Rp m B S z) (hz : ZOk c z) : ∀ d w : Nat, w + d = 8 → G g (MX6_disputedWords cs) (dQ (some (.int (nI (sm (dsF z) 8)))) m) 13 [(4, .int (nI (w))), (3, .int (nI (8))), (2, .ref (S + 4)), (1, .int (nI (sm (dsF z) w))), (0, .ref (S))] [] (0, 0) m := by
  intro d
  induction d with
  | zero =>
    intro w hw
    obtain rfl : w = 8 := hw
    refine g_iload 4 dX6_disputedWords_13 rfl ?_
    refine g_iload_n 3 dX6_disputedWords_15 rfl rfl ?_
    refine gN_icmp_ge 42 dX6_disputedWords_16 (by decide) (by first | omega | exact b01_lt _) (by first | omega | exact b01_lt _) (fun h_16 => ?_) (fun h_16 => ?_)
    · refine g_iload_n 1 dX6_disputedWords_42 rfl rfl ?_
      refine g_iret rfl dX6_disputedWords_43 ⟨Nat.zero_le _, Nat.zero_le _⟩ ?_
      exact ⟨rfl, rfl⟩
    · exact absurd h_16 (by decide)
  | succ d ih =>
    intro w hw
    refine g_iload 4 dX6_disputedWords_13 rfl ?_
    refine g_iload_n 3 dX6_disputedWords_15 rfl rfl ?_
    refine gN_icmp_ge 42 dX6_disputedWords_16 (by decide) (by first | omega | exact b01_lt _) (by first | omega | exact b01_lt _) (fun h_16 => ?_) (fun h_16 => ?_)
    · exfalso; omega
    · refine g_aload_n 2 dX6_disputedWords_19 rfl rfl ?_
      refine g_iload 4 dX6_disputedWords_20 rfl ?_
      refine gN_aald 16 8 (S + 21 + 2 * w) (hS.t4) (by decide) (by first | omega | exact b01_lt _) (by first | omega | exact b01_lt _) (hS.rW (by omega)) dX6_disputedWords_22 ?_
      refine g_astore 5 [(5, .ref (S + 21 + 2 * w)), (4, .int (nI (w))), (3, .int (nI (8))), (2, .ref (S + 4)), (1, .int (nI (sm (dsF z) w))), (0, .ref (S))] dX6_disputedWords_23 (Nat.le_of_ble_eq_true rfl) rfl ?_
      refine g_iload_n 1 dX6_disputedWords_25 rfl rfl ?_
      refine g_aload 5 dX6_disputedWords_26 rfl ?_
      refine gd_callV _ _ _ _ (cn_SD g (0, 0) hS hR hz (w := w) (by omega)) ⟨rfl, rfl⟩ (ok_X7_isDisputed _) mlX6_178 in_X7_isDisputed se_X7_isDisputed 7 0 (hS.tW (by omega)) rfl rfl rfl ⟨Nat.le_of_ble_eq_true rfl, Nat.le_of_ble_eq_true rfl⟩ (by exact Nat.le_of_ble_eq_true rfl) ⟨Nat.zero_le _, Nat.zero_le _⟩ dX6_disputedWords_28 rfl ?_
      refine gd_callSN _ _ _ _ (cn_X9_oneIf g (0, 0) (dsp z w)) ⟨rfl, rfl⟩ (ok_X9_oneIf _) mlX6_182 st_X9_oneIf rfl ⟨Nat.le_of_ble_eq_true rfl, Nat.le_of_ble_eq_true rfl⟩ (by exact Nat.le_of_ble_eq_true rfl) ⟨Nat.zero_le _, Nat.zero_le _⟩ dX6_disputedWords_31 rfl ?_
      refine gN_iadd ((sm (dsF z) w) + (b01 (dsp z w))) dX6_disputedWords_34 rfl ?_
      refine g_istore_n 1 [(1, .int (nI ((sm (dsF z) w) + (b01 (dsp z w))))), (5, .ref (S + 21 + 2 * w)), (4, .int (nI (w))), (3, .int (nI (8))), (2, .ref (S + 4)), (0, .ref (S))] dX6_disputedWords_35 rfl (Nat.le_of_ble_eq_true rfl) rfl ?_
      refine g_iinc 4 (nI (w + 1)) 2 [(4, .int (nI (w + 1))), (1, .int (nI ((sm (dsF z) w) + (b01 (dsp z w))))), (5, .ref (S + 21 + 2 * w)), (3, .int (nI (8))), (2, .ref (S + 4)), (0, .ref (S))] dX6_disputedWords_36 rfl (nI_add w 1) (Nat.le_of_ble_eq_true rfl) rfl ?_
      refine g_goto 13 dX6_disputedWords_39 (by decide) ?_
      refine g_pick [0, 3, 4, 1, 5] rfl ?_
      exact ih (w + 1) (by omega)
set_option maxRecDepth 100000 in
theorem cn_X6_disputedWords (g : Gp) (cs : Nat × Nat) {m : Mm} {S B c : Nat} {z : Nat → Int32} (hS : StT m S) (hR : Rp m B S z) (hz : ZOk c z) : Dn g (MX6_disputedWords cs) [.ref (S)] m (some (.int (nI (sm (dsF z) 8)))) (m) := by
  refine Cn.of pn_X6 (Nat.le_of_ble_eq_true rfl) rfl ?_
  refine gN_iconst 0 dX6_disputedWords_0 (by decide) ?_
  refine g_istore_n 1 [(1, .int (nI (0))), (0, .ref (S))] dX6_disputedWords_1 rfl (Nat.le_of_ble_eq_true rfl) rfl ?_
  refine g_aload_n 0 dX6_disputedWords_2 rfl rfl ?_
  refine gN_getR (S + 4) flX6_29 (fun _ _ _ => rfl) 0 (hS.t) (hS.r3) dX6_disputedWords_3 ?_
  refine g_astore_n 2 [(2, .ref (S + 4)), (1, .int (nI (0))), (0, .ref (S))] dX6_disputedWords_6 rfl (Nat.le_of_ble_eq_true rfl) rfl ?_
  refine g_aload_n 2 dX6_disputedWords_7 rfl rfl ?_
  refine gN_alen 16 8 (hS.t4) (by decide) dX6_disputedWords_8 ?_
  refine g_istore_n 3 [(3, .int (nI (8))), (2, .ref (S + 4)), (1, .int (nI (0))), (0, .ref (S))] dX6_disputedWords_9 rfl (Nat.le_of_ble_eq_true rfl) rfl ?_
  refine gN_iconst 0 dX6_disputedWords_10 (by decide) ?_
  refine g_istore 4 [(4, .int (nI (0))), (3, .int (nI (8))), (2, .ref (S + 4)), (1, .int (nI (0))), (0, .ref (S))] dX6_disputedWords_11 (Nat.le_of_ble_eq_true rfl) rfl ?_
  refine g_pick [0, 1, 2, 3, 4] rfl ?_
  exact lp_X6_disputedWords g cs hS hR hz 8 0 rfl
set_option maxRecDepth 100000 in
theorem lp_X6_ruledWords (g : Gp) (cs : Nat × Nat) {m : Mm} {S B c : Nat} {z : Nat → Int32} (hS : StT m S) (hR : Rp m B S z) (hz : ZOk c z) : ∀ d w : Nat, w + d = 8 → G g (MX6_ruledWords cs) (dQ (some (.int (nI (sm (rlF z) 8)))) m) 13 [(4, .int (nI (w))), (3, .int (nI (8))), (2, .ref (S + 4)), (1, .int (nI (sm (rlF z) w))), (0, .ref (S))] [] (0, 0) m := by
  intro d
  induction d with
  | zero =>
    intro w hw
    obtain rfl : w = 8 := hw
    refine g_iload 4 dX6_ruledWords_13 rfl ?_
    refine g_iload_n 3 dX6_ruledWords_15 rfl rfl ?_
    refine gN_icmp_ge 51 dX6_ruledWords_16 (by decide) (by first | omega | exact b01_lt _) (by first | omega | exact b01_lt _) (fun h_16 => ?_) (fun h_16 => ?_)
    · refine g_iload_n 1 dX6_ruledWords_51 rfl rfl ?_
      refine g_iret rfl dX6_ruledWords_52 ⟨Nat.zero_le _, Nat.zero_le _⟩ ?_
      exact ⟨rfl, rfl⟩
    · exact absurd h_16 (by decide)
  | succ d ih =>
    intro w hw
    refine g_iload 4 dX6_ruledWords_13 rfl ?_
    refine g_iload_n 3 dX6_ruledWords_15 rfl rfl ?_
    refine gN_icmp_ge 51 dX6_ruledWords_16 (by decide) (by first | omega | exact b01_lt _) (by first | omega | exact b01_lt _) (fun h_16 => ?_) (fun h_16 => ?_)
    · exfalso; omega
    · refine g_aload_n 2 dX6_ruledWords_19 rfl rfl ?_
      refine g_iload 4 dX6_ruledWords_20 rfl ?_
      refine gN_aald 16 8 (S + 21 + 2 * w) (hS.t4) (by decide) (by first | omega | exact b01_lt _) (by first | omega | exact b01_lt _) (hS.rW (by omega)) dX6_ruledWords_22 ?_
      refine g_astore 5 [(5, .ref (S + 21 + 2 * w)), (4, .int (nI (w))), (3, .int (nI (8))), (2, .ref (S + 4)), (1, .int (nI (sm (rlF z) w))), (0, .ref (S))] dX6_ruledWords_23 (Nat.le_of_ble_eq_true rfl) rfl ?_
      refine g_iload_n 1 dX6_ruledWords_25 rfl rfl ?_
      refine g_join 40 (b01 (¬ z (56 + w) = -1)) ?_ (fun K_40 => ?_)
      · refine gd_callSN _ _ _ _ (cn_X9_oneIf g (0, 0) (¬ z (56 + w) = -1)) ⟨rfl, rfl⟩ (ok_X9_oneIf _) mlX6_182 st_X9_oneIf rfl ⟨Nat.le_of_ble_eq_true rfl, Nat.le_of_ble_eq_true rfl⟩ (by exact Nat.le_of_ble_eq_true rfl) ⟨Nat.zero_le _, Nat.zero_le _⟩ dX6_ruledWords_40 rfl ?_
        refine gN_iadd ((sm (rlF z) w) + (b01 (¬ z (56 + w) = -1))) dX6_ruledWords_43 rfl ?_
        refine g_istore_n 1 [(1, .int (nI ((sm (rlF z) w) + (b01 (¬ z (56 + w) = -1))))), (5, .ref (S + 21 + 2 * w)), (4, .int (nI (w))), (3, .int (nI (8))), (2, .ref (S + 4)), (0, .ref (S))] dX6_ruledWords_44 rfl (Nat.le_of_ble_eq_true rfl) rfl ?_
        refine g_iinc 4 (nI (w + 1)) 2 [(4, .int (nI (w + 1))), (1, .int (nI ((sm (rlF z) w) + (b01 (¬ z (56 + w) = -1))))), (5, .ref (S + 21 + 2 * w)), (3, .int (nI (8))), (2, .ref (S + 4)), (0, .ref (S))] dX6_ruledWords_45 rfl (nI_add w 1) (Nat.le_of_ble_eq_true rfl) rfl ?_
        refine g_goto 13 dX6_ruledWords_48 (by decide) ?_
        refine g_pick [0, 3, 4, 1, 5] rfl ?_
        exact ih (w + 1) (by omega)
      · refine g_aload 5 dX6_ruledWords_26 rfl ?_
        refine gN_getI flX6_197 rfl 0 (hS.tW (by omega)) dX6_ruledWords_28 ?_
        refine g_eI (z (56 + w)) (hR.W1 (by omega)) ?_
        refine g_iconst (-1) dX6_ruledWords_31 (by decide) ?_
        refine g_icmp_eq 39 dX6_ruledWords_32 (by decide) (fun h_32 => ?_) (fun h_32 => ?_)
        · refine gN_iconst 0 dX6_ruledWords_39 (by decide) ?_
          exact g_ei (nI (b01 (¬ z (56 + w) = -1))) (congrArg nI (show 0 = b01 (¬ z (56 + w) = -1) from by first | exact (b01_t h_32).symm | exact (b01_f (fun q => q h_32)).symm)) K_40
        · refine gN_iconst 1 dX6_ruledWords_35 (by decide) ?_
          refine g_goto 40 dX6_ruledWords_36 (by decide) ?_
          exact g_ei (nI (b01 (¬ z (56 + w) = -1))) (congrArg nI (show 1 = b01 (¬ z (56 + w) = -1) from by first | exact (b01_t h_32).symm | exact (b01_f (fun q => q h_32)).symm)) K_40
set_option maxRecDepth 100000 in
theorem cn_X6_ruledWords (g : Gp) (cs : Nat × Nat) {m : Mm} {S B c : Nat} {z : Nat → Int32} (hS : StT m S) (hR : Rp m B S z) (hz : ZOk c z) : Dn g (MX6_ruledWords cs) [.ref (S)] m (some (.int (nI (sm (rlF z) 8)))) (m) := by
  refine Cn.of pn_X6 (Nat.le_of_ble_eq_true rfl) rfl ?_
  refine gN_iconst 0 dX6_ruledWords_0 (by decide) ?_
  refine g_istore_n 1 [(1, .int (nI (0))), (0, .ref (S))] dX6_ruledWords_1 rfl (Nat.le_of_ble_eq_true rfl) rfl ?_
  refine g_aload_n 0 dX6_ruledWords_2 rfl rfl ?_
  refine gN_getR (S + 4) flX6_29 (fun _ _ _ => rfl) 0 (hS.t) (hS.r3) dX6_ruledWords_3 ?_
  refine g_astore_n 2 [(2, .ref (S + 4)), (1, .int (nI (0))), (0, .ref (S))] dX6_ruledWords_6 rfl (Nat.le_of_ble_eq_true rfl) rfl ?_
  refine g_aload_n 2 dX6_ruledWords_7 rfl rfl ?_
  refine gN_alen 16 8 (hS.t4) (by decide) dX6_ruledWords_8 ?_
  refine g_istore_n 3 [(3, .int (nI (8))), (2, .ref (S + 4)), (1, .int (nI (0))), (0, .ref (S))] dX6_ruledWords_9 rfl (Nat.le_of_ble_eq_true rfl) rfl ?_
  refine gN_iconst 0 dX6_ruledWords_10 (by decide) ?_
  refine g_istore 4 [(4, .int (nI (0))), (3, .int (nI (8))), (2, .ref (S + 4)), (1, .int (nI (0))), (0, .ref (S))] dX6_ruledWords_11 (Nat.le_of_ble_eq_true rfl) rfl ?_
  refine g_pick [0, 1, 2, 3, 4] rfl ?_
  exact lp_X6_ruledWords g cs hS hR hz 8 0 rfl
set_option maxRecDepth 100000 in
theorem lp_X6_deliveredWords (g : Gp) (cs : Nat × Nat) {m : Mm} {S B c : Nat} {z : Nat → Int32} (hS : StT m S) (hR : Rp m B S z) (hz : ZOk c z) : ∀ d p : Nat, p + d = 4 → ∀ x, x = ppl z 2 p → G g (MX6_deliveredWords cs) (dQ (some (.int (ppl z 2 4))) m) 13 [(4, .int (nI (p))), (3, .int (nI (4))), (2, .ref (S + 2)), (1, .int (x)), (0, .ref (S))] [] (0, 0) m := by
  intro d
  induction d with
  | zero =>
    intro p hp x hx
    obtain rfl : p = 4 := hp
    refine g_iload 4 dX6_deliveredWords_13 rfl ?_
    refine g_iload_n 3 dX6_deliveredWords_15 rfl rfl ?_
    refine gN_icmp_ge 39 dX6_deliveredWords_16 (by decide) (by first | omega | exact b01_lt _) (by first | omega | exact b01_lt _) (fun h_16 => ?_) (fun h_16 => ?_)
    · refine g_iload_n 1 dX6_deliveredWords_39 rfl rfl ?_
      refine g_iret rfl dX6_deliveredWords_40 ⟨Nat.zero_le _, Nat.zero_le _⟩ ?_
      exact ⟨vI hx, rfl⟩
    · exact absurd h_16 (by decide)
  | succ d ih =>
    intro p hp x hx
    refine g_iload 4 dX6_deliveredWords_13 rfl ?_
    refine g_iload_n 3 dX6_deliveredWords_15 rfl rfl ?_
    refine gN_icmp_ge 39 dX6_deliveredWords_16 (by decide) (by first | omega | exact b01_lt _) (by first | omega | exact b01_lt _) (fun h_16 => ?_) (fun h_16 => ?_)
    · exfalso; omega
    · refine g_aload_n 2 dX6_deliveredWords_19 rfl rfl ?_
      refine g_iload 4 dX6_deliveredWords_20 rfl ?_
      refine gN_aald 17 4 (S + 12 + p) (hS.t2) (by decide) (by first | omega | exact b01_lt _) (by first | omega | exact b01_lt _) (hS.rT (by omega)) dX6_deliveredWords_22 ?_
      refine g_astore 5 [(5, .ref (S + 12 + p)), (4, .int (nI (p))), (3, .int (nI (4))), (2, .ref (S + 2)), (1, .int (x)), (0, .ref (S))] dX6_deliveredWords_23 (Nat.le_of_ble_eq_true rfl) rfl ?_
      refine g_iload_n 1 dX6_deliveredWords_25 rfl rfl ?_
      refine g_aload 5 dX6_deliveredWords_26 rfl ?_
      refine gN_getI flX6_128 rfl 0 (hS.tT (by omega)) dX6_deliveredWords_28 ?_
      refine g_eI (z (4 + 5 * p + 2)) (hR.T2 (by omega)) ?_
      refine g_iadd dX6_deliveredWords_31 ?_
      refine g_topi (fun y ey => ?_)
      refine g_istore_n 1 [(1, .int (y)), (5, .ref (S + 12 + p)), (4, .int (nI (p))), (3, .int (nI (4))), (2, .ref (S + 2)), (0, .ref (S))] dX6_deliveredWords_32 rfl (Nat.le_of_ble_eq_true rfl) rfl ?_
      refine g_iinc 4 (nI (p + 1)) 2 [(4, .int (nI (p + 1))), (1, .int (y)), (5, .ref (S + 12 + p)), (3, .int (nI (4))), (2, .ref (S + 2)), (0, .ref (S))] dX6_deliveredWords_33 rfl (nI_add p 1) (Nat.le_of_ble_eq_true rfl) rfl ?_
      refine g_goto 13 dX6_deliveredWords_36 (by decide) ?_
      refine g_pick [0, 3, 4, 1, 5] rfl ?_
      exact ih (p + 1) (by omega) _ (by rw [ey, hx]; rfl)
set_option maxRecDepth 100000 in
theorem cn_X6_deliveredWords (g : Gp) (cs : Nat × Nat) {m : Mm} {S B c : Nat} {z : Nat → Int32} (hS : StT m S) (hR : Rp m B S z) (hz : ZOk c z) : Dn g (MX6_deliveredWords cs) [.ref (S)] m (some (.int (ppl z 2 4))) (m) := by
  refine Cn.of pn_X6 (Nat.le_of_ble_eq_true rfl) rfl ?_
  refine gN_iconst 0 dX6_deliveredWords_0 (by decide) ?_
  refine g_istore_n 1 [(1, .int (nI (0))), (0, .ref (S))] dX6_deliveredWords_1 rfl (Nat.le_of_ble_eq_true rfl) rfl ?_
  refine g_aload_n 0 dX6_deliveredWords_2 rfl rfl ?_
  refine gN_getR (S + 2) flX6_17 (fun _ _ _ => rfl) 0 (hS.t) (hS.r1) dX6_deliveredWords_3 ?_
  refine g_astore_n 2 [(2, .ref (S + 2)), (1, .int (nI (0))), (0, .ref (S))] dX6_deliveredWords_6 rfl (Nat.le_of_ble_eq_true rfl) rfl ?_
  refine g_aload_n 2 dX6_deliveredWords_7 rfl rfl ?_
  refine gN_alen 17 4 (hS.t2) (by decide) dX6_deliveredWords_8 ?_
  refine g_istore_n 3 [(3, .int (nI (4))), (2, .ref (S + 2)), (1, .int (nI (0))), (0, .ref (S))] dX6_deliveredWords_9 rfl (Nat.le_of_ble_eq_true rfl) rfl ?_
  refine gN_iconst 0 dX6_deliveredWords_10 (by decide) ?_
  refine g_istore 4 [(4, .int (nI (0))), (3, .int (nI (4))), (2, .ref (S + 2)), (1, .int (nI (0))), (0, .ref (S))] dX6_deliveredWords_11 (Nat.le_of_ble_eq_true rfl) rfl ?_
  refine g_pick [0, 1, 2, 3, 4] rfl ?_
  exact lp_X6_deliveredWords g cs hS hR hz 4 0 rfl _ rfl
set_option maxRecDepth 100000 in
theorem lp_X6_earnedByAll (g : Gp) (cs : Nat × Nat) {m : Mm} {S B c : Nat} {z : Nat → Int32} (hS : StT m S) (hR : Rp m B S z) (hz : ZOk c z) : ∀ d p : Nat, p + d = 4 → ∀ x, x = ppl z 1 p → G g (MX6_earnedByAll cs) (dQ (some (.int (ppl z 1 4))) m) 13 [(4, .int (nI (p))), (3, .int (nI (4))), (2, .ref (S + 2)), (1, .int (x)), (0, .ref (S))] [] (0, 0) m := by
  intro d
  induction d with
  | zero =>
    intro p hp x hx
    obtain rfl : p = 4 := hp
    refine g_iload 4 dX6_earnedByAll_13 rfl ?_
    refine g_iload_n 3 dX6_earnedByAll_15 rfl rfl ?_
    refine gN_icmp_ge 39 dX6_earnedByAll_16 (by decide) (by first | omega | exact b01_lt _) (by first | omega | exact b01_lt _) (fun h_16 => ?_) (fun h_16 => ?_)
    · refine g_iload_n 1 dX6_earnedByAll_39 rfl rfl ?_
      refine g_iret rfl dX6_earnedByAll_40 ⟨Nat.zero_le _, Nat.zero_le _⟩ ?_
      exact ⟨vI hx, rfl⟩
    · exact absurd h_16 (by decide)
  | succ d ih =>
    intro p hp x hx
    refine g_iload 4 dX6_earnedByAll_13 rfl ?_
    refine g_iload_n 3 dX6_earnedByAll_15 rfl rfl ?_
    refine gN_icmp_ge 39 dX6_earnedByAll_16 (by decide) (by first | omega | exact b01_lt _) (by first | omega | exact b01_lt _) (fun h_16 => ?_) (fun h_16 => ?_)
    · exfalso; omega
    · refine g_aload_n 2 dX6_earnedByAll_19 rfl rfl ?_
      refine g_iload 4 dX6_earnedByAll_20 rfl ?_
      refine gN_aald 17 4 (S + 12 + p) (hS.t2) (by decide) (by first | omega | exact b01_lt _) (by first | omega | exact b01_lt _) (hS.rT (by omega)) dX6_earnedByAll_22 ?_
      refine g_astore 5 [(5, .ref (S + 12 + p)), (4, .int (nI (p))), (3, .int (nI (4))), (2, .ref (S + 2)), (1, .int (x)), (0, .ref (S))] dX6_earnedByAll_23 (Nat.le_of_ble_eq_true rfl) rfl ?_
      refine g_iload_n 1 dX6_earnedByAll_25 rfl rfl ?_
      refine g_aload 5 dX6_earnedByAll_26 rfl ?_
      refine gN_getI flX6_125 rfl 0 (hS.tT (by omega)) dX6_earnedByAll_28 ?_
      refine g_eI (z (4 + 5 * p + 1)) (hR.T1 (by omega)) ?_
      refine g_iadd dX6_earnedByAll_31 ?_
      refine g_topi (fun y ey => ?_)
      refine g_istore_n 1 [(1, .int (y)), (5, .ref (S + 12 + p)), (4, .int (nI (p))), (3, .int (nI (4))), (2, .ref (S + 2)), (0, .ref (S))] dX6_earnedByAll_32 rfl (Nat.le_of_ble_eq_true rfl) rfl ?_
      refine g_iinc 4 (nI (p + 1)) 2 [(4, .int (nI (p + 1))), (1, .int (y)), (5, .ref (S + 12 + p)), (3, .int (nI (4))), (2, .ref (S + 2)), (0, .ref (S))] dX6_earnedByAll_33 rfl (nI_add p 1) (Nat.le_of_ble_eq_true rfl) rfl ?_
      refine g_goto 13 dX6_earnedByAll_36 (by decide) ?_
      refine g_pick [0, 3, 4, 1, 5] rfl ?_
      exact ih (p + 1) (by omega) _ (by rw [ey, hx]; rfl)
set_option maxRecDepth 100000 in
theorem cn_X6_earnedByAll (g : Gp) (cs : Nat × Nat) {m : Mm} {S B c : Nat} {z : Nat → Int32} (hS : StT m S) (hR : Rp m B S z) (hz : ZOk c z) : Dn g (MX6_earnedByAll cs) [.ref (S)] m (some (.int (ppl z 1 4))) (m) := by
  refine Cn.of pn_X6 (Nat.le_of_ble_eq_true rfl) rfl ?_
  refine gN_iconst 0 dX6_earnedByAll_0 (by decide) ?_
  refine g_istore_n 1 [(1, .int (nI (0))), (0, .ref (S))] dX6_earnedByAll_1 rfl (Nat.le_of_ble_eq_true rfl) rfl ?_
  refine g_aload_n 0 dX6_earnedByAll_2 rfl rfl ?_
  refine gN_getR (S + 2) flX6_17 (fun _ _ _ => rfl) 0 (hS.t) (hS.r1) dX6_earnedByAll_3 ?_
  refine g_astore_n 2 [(2, .ref (S + 2)), (1, .int (nI (0))), (0, .ref (S))] dX6_earnedByAll_6 rfl (Nat.le_of_ble_eq_true rfl) rfl ?_
  refine g_aload_n 2 dX6_earnedByAll_7 rfl rfl ?_
  refine gN_alen 17 4 (hS.t2) (by decide) dX6_earnedByAll_8 ?_
  refine g_istore_n 3 [(3, .int (nI (4))), (2, .ref (S + 2)), (1, .int (nI (0))), (0, .ref (S))] dX6_earnedByAll_9 rfl (Nat.le_of_ble_eq_true rfl) rfl ?_
  refine gN_iconst 0 dX6_earnedByAll_10 (by decide) ?_
  refine g_istore 4 [(4, .int (nI (0))), (3, .int (nI (4))), (2, .ref (S + 2)), (1, .int (nI (0))), (0, .ref (S))] dX6_earnedByAll_11 (Nat.le_of_ble_eq_true rfl) rfl ?_
  refine g_pick [0, 1, 2, 3, 4] rfl ?_
  exact lp_X6_earnedByAll g cs hS hR hz 4 0 rfl _ rfl
