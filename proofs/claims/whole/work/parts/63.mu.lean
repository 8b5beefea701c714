theorem g_locN {g : Gp} {M : MI} {Q : Rs → Mm → Prop} {pc : Nat} {L : List (Nat × Value)} {st : List Value} {u : Nat × Nat} {m : Mm} {l : Nat} (a b : Nat) (h : a = b) (k : G g M Q pc ((l, .int (nI b)) :: L) st u m) : G g M Q pc ((l, .int (nI a)) :: L) st u m := by subst h; exact k
/-! THE CLASS: what changes a segment, the memory -/
/-- how long things are -/
def ZLn (z : Nat → Int32) : Prop := nv (z 0) ≤ 10 ∧ nv (z 1) ≤ 30 ∧ (∀ s, s < nv (z 0) → nv (z (79 + 22 * s)) ≤ 12) ∧ ∀ r, r < nv (z 1) → nv (z (299 + 13 * r)) ≤ 12
theorem ZOk.ln {c : Nat} {z : Nat → Int32} (h : ZOk c z) : ZLn z := ⟨h.n0.hi, h.n1.hi, fun _ hs => (h.row hs).1.hi, fun _ hr => (h.mem hr).1.hi⟩
theorem Rp.up {m : Mm} {B S : Nat} {z z' : Nat → Int32} {I : Nat → Nat → Int32} (hR : Rp m B S z) (hz : ZLn z) (hSB : S + 47 ≤ B) (hF : FrB m S (S + 47) I (rf m)) (e0 : z' 0 = z 0) (e1 : z' 1 = z 1) (h0 : Rp0 (wM m I (rf m)) S z') (hT : RpT (wM m I (rf m)) S z' 4) (hB : RpB (wM m I (rf m)) S z' 5) (hW : RpW (wM m I (rf m)) S z' 8) (hSg : ∀ s, s < nv (z 0) → SgI (wM m I (rf m)) (S + 37 + s) z' (79 + 22 * s))
    (hx : ∀ s, s < nv (z 0) → z' (79 + 22 * s) = z (79 + 22 * s) ∧ ∀ e, e < 12 → z' (79 + 22 * s + 10 + e) = z (79 + 22 * s + 10 + e)) (hM : ∀ j, 299 ≤ j → z' j = z j) : Rp (wM m I (rf m)) B S z' := by
  have hb : ∀ x, B ≤ x → x < fz m → agr m (wM m I (rf m)) x := fun x h1 h2 => ⟨rfl, (hF x (by omega)).1, rfl⟩
  refine ⟨h0, hT, hB, hW, fun s hs => ?_, fun r hr => ?_⟩
  · rw [e0] at hs
    have hn := hz.2.2.1 s hs
    obtain ⟨q, q1, q2⟩ := hR.SR hs
    exact ⟨hSg s hs, q, q1, (q2.fr (m1 := wM m I (rf m)) (Nat.le_refl _) hb).cg (by rw [(hx s hs).1]) (fun e he => (hx s hs).2 e (by omega))⟩
  · rw [e1] at hr
    obtain ⟨q, q1, q2⟩ := hR.M hr
    exact ⟨q, q1, (q2.fr (m1 := wM m I (rf m)) (Nat.le_refl _) hb).cg (by rw [hM _ (by omega)]) (fun e he => hM _ (by omega))⟩
theorem opn_t {t v : Int32} (h : ¬ t = 0) : opn t v = v := if_neg h
theorem opn_f {t v : Int32} (h : t = 0) : opn t v = -1 := if_pos h
set_option maxRecDepth 100000 in
theorem lp_X3_greatestMatchL (g : Gp) (cs : Nat × Nat) {m : Mm} {S B : Nat} {z : Nat → Int32} (hS : StT m S) (hc1 : im m (S + 10) 1 = z 1) (hn1 : NR (z 1) 0 30) (hM : RpM m B S z (nv (z 1))) {r n : Nat} {u : Nat → Int32} (hr : RowT m r u n) : ∀ d e : Nat, e + d = nv (z 1) → G g (MX3_greatestMatch cs) (dQ (some (.int (nI (gm (mfr z u n) (nv (z 1)))))) m) 5 [(4, .int (nI (e))), (3, .int (nI (gm (mfr z u n) e))), (0, .ref (S + 10)), (1, .ref (r)), (2, .int (nI (0)))] [] (0, 0) m := by
  have hz1 := hn1.hi
  intro d
  induction d with
  | zero =>
    intro e he
    obtain rfl : e = nv (z 1) := he
    refine g_iload 4 dX3_greatestMatch_5 rfl ?_
    refine g_aload_n 0 dX3_greatestMatch_7 rfl rfl ?_
    refine gN_getI flX3_17 rfl 0 (hS.t10) dX3_greatestMatch_8 ?_
    refine g_ei (nI (nv (z 1))) (hc1.trans hn1.e) ?_
    refine gN_icmp_ge 36 dX3_greatestMatch_11 (by decide) (by first | omega | exact b01_lt _) (by first | omega | exact b01_lt _) (fun h_11 => ?_) (fun h_11 => ?_)
    · refine g_iload_n 3 dX3_greatestMatch_36 rfl rfl ?_
      refine g_iret rfl dX3_greatestMatch_37 ⟨Nat.zero_le _, Nat.zero_le _⟩ ?_
      exact ⟨rfl, rfl⟩
    · exfalso; omega
  | succ d ih =>
    intro e he
    obtain ⟨q, hq1, hq2⟩ := hM e (by omega)
    have hq := hq2.2.2
    have hg := gm_le (mfr z u n) 100 e (fun t _ => mfr_le z u n t)
    have hf := mfr_le z u n e
    refine g_iload 4 dX3_greatestMatch_5 rfl ?_
    refine g_aload_n 0 dX3_greatestMatch_7 rfl rfl ?_
    refine gN_getI flX3_17 rfl 0 (hS.t10) dX3_greatestMatch_8 ?_
    refine g_ei (nI (nv (z 1))) (hc1.trans hn1.e) ?_
    refine gN_icmp_ge 36 dX3_greatestMatch_11 (by decide) (by first | omega | exact b01_lt _) (by first | omega | exact b01_lt _) (fun h_11 => ?_) (fun h_11 => ?_)
    · exfalso; omega
    · refine g_iload_n 3 dX3_greatestMatch_14 rfl rfl ?_
      refine g_aload_n 1 dX3_greatestMatch_15 rfl rfl ?_
      refine g_aload_n 0 dX3_greatestMatch_16 rfl rfl ?_
      refine gN_getR (S + 11) flX3_11 (fun _ _ _ => rfl) 0 (hS.t10) (hS.r10) dX3_greatestMatch_17 ?_
      refine g_iload 4 dX3_greatestMatch_20 rfl ?_
      refine gN_aald 13 30 (q) (hS.t11) (by decide) (by first | omega | exact b01_lt _) (by first | omega | exact b01_lt _) (hq1) dX3_greatestMatch_22 ?_
      refine gd_callV _ _ _ _ (cn_X4_matchWith g (0, 0) hr hq) ⟨rfl, rfl⟩ (ok_X4_matchWith _) mlX3_24 in_X4_matchWith se_X4_matchWith 4 0 (hr.t) rfl rfl rfl ⟨Nat.le_of_ble_eq_true rfl, Nat.le_of_ble_eq_true rfl⟩ (by exact Nat.le_of_ble_eq_true rfl) ⟨Nat.zero_le _, Nat.zero_le _⟩ dX3_greatestMatch_23 rfl ?_
      refine gd_callS _ _ _ _ (cn_J9_max_7cf53 g (0, 0) (a := gm (mfr z u n) e) (b := mfr z u n e) (by omega) (by omega)) ⟨rfl, rfl⟩ (ok_J9_max_7cf53 _) mlX3_28 st_J9_max_7cf53 rfl ⟨Nat.le_of_ble_eq_true rfl, Nat.le_of_ble_eq_true rfl⟩ (by exact Nat.le_of_ble_eq_true rfl) ⟨Nat.zero_le _, Nat.zero_le _⟩ dX3_greatestMatch_26 rfl ?_
      refine g_istore_n 3 [(3, .int (nI (max (gm (mfr z u n) e) (mfr z u n e)))), (4, .int (nI (e))), (0, .ref (S + 10)), (1, .ref (r)), (2, .int (nI (0)))] dX3_greatestMatch_29 rfl (Nat.le_of_ble_eq_true rfl) rfl ?_
      refine g_iinc 4 (nI (e + 1)) 1 [(4, .int (nI (e + 1))), (3, .int (nI (max (gm (mfr z u n) e) (mfr z u n e)))), (0, .ref (S + 10)), (1, .ref (r)), (2, .int (nI (0)))] dX3_greatestMatch_30 rfl (nI_add e 1) (Nat.le_of_ble_eq_true rfl) rfl ?_
      refine g_goto 5 dX3_greatestMatch_33 (by decide) ?_
      refine g_pick [0, 1, 2, 3, 4] rfl ?_
      exact ih (e + 1) (by omega)
set_option maxRecDepth 100000 in
theorem cn_X3_greatestMatchL (g : Gp) (cs : Nat × Nat) {m : Mm} {S B : Nat} {z : Nat → Int32} (hS : StT m S) (hc1 : im m (S + 10) 1 = z 1) (hn1 : NR (z 1) 0 30) (hM : RpM m B S z (nv (z 1))) {r n : Nat} {u : Nat → Int32} (hr : RowT m r u n) : Dn g (MX3_greatestMatch cs) [.ref (S + 10), .ref (r), .int (nI (0))] m (some (.int (nI (gm (mfr z u n) (nv (z 1)))))) (m) := by
  refine Cn.of pn_X3 (Nat.le_of_ble_eq_true rfl) rfl ?_
  refine gN_iconst 0 dX3_greatestMatch_0 (by decide) ?_
  refine g_istore_n 3 [(3, .int (nI (0))), (0, .ref (S + 10)), (1, .ref (r)), (2, .int (nI (0)))] dX3_greatestMatch_1 rfl (Nat.le_of_ble_eq_true rfl) rfl ?_
  refine g_iload_n 2 dX3_greatestMatch_2 rfl rfl ?_
  refine g_istore 4 [(4, .int (nI (0))), (3, .int (nI (0))), (0, .ref (S + 10)), (1, .ref (r)), (2, .int (nI (0)))] dX3_greatestMatch_3 (Nat.le_of_ble_eq_true rfl) rfl ?_
  refine g_pick [0, 1, 2, 3, 4] rfl ?_
  exact lp_X3_greatestMatchL g cs hS hc1 hn1 hM hr _ 0 (Nat.zero_add _)
set_option maxRecDepth 100000 in
theorem cn_X6_fixBand (g : Gp) (cs : Nat × Nat) {m : Mm} {S B : Nat} {z : Nat → Int32} (hS : StT m S) (hc1 : im m (S + 10) 1 = z 1) (hn1 : NR (z 1) 0 30) (hM : RpM m B S z (nv (z 1))) (hBd : RpB m S z 5) (hC : CsT g m) {s : Nat} {r n : Nat} {u : Nat → Int32} (hs : s < 10) (hsr : rf m (S + 37 + s) 0 = some r) (hr : RowT m r u n) : Dn g (MX6_fixBand cs) [.ref S, .ref (S + 37 + s)] m none (sI (sI m (S + 37 + s) 3 (nI (bandOf (gm (mfr z u n) (nv (z 1)))))) (S + 37 + s) 4 (z (64 + 3 * bandOf (gm (mfr z u n) (nv (z 1)))))) := by
  have hg := gm_le (mfr z u n) 100 (nv (z 1)) (fun t _ => mfr_le z u n t)
  have hb := bandOf_le (gm (mfr z u n) (nv (z 1)))
  refine Cn.of pn_X6 (Nat.le_of_ble_eq_true rfl) rfl ?_
  refine g_aload_n 1 dX6_fixBand_0 rfl rfl ?_
  refine g_aload_n 0 dX6_fixBand_1 rfl rfl ?_
  refine gN_getR (S + 10) flX6_53 (fun _ _ _ => rfl) 0 (hS.t) (hS.r5) dX6_fixBand_2 ?_
  refine g_aload_n 1 dX6_fixBand_5 rfl rfl ?_
  refine gN_getR (r) flX6_88 (fun _ _ _ => rfl) 0 (hS.tS (by omega)) (hsr) dX6_fixBand_6 ?_
  refine gN_iconst 0 dX6_fixBand_9 (by decide) ?_
  refine gd_callV _ _ _ _ (cn_X3_greatestMatchL g (0, 0) hS hc1 hn1 hM hr) ⟨rfl, rfl⟩ (ok_X3_greatestMatch _) mlX6_92 in_X3_greatestMatch se_X3_greatestMatch 3 0 (hS.t10) rfl rfl rfl ⟨Nat.le_of_ble_eq_true rfl, Nat.le_of_ble_eq_true rfl⟩ (by exact Nat.le_of_ble_eq_true rfl) ⟨Nat.zero_le _, Nat.zero_le _⟩ dX6_fixBand_10 rfl ?_
  refine gd_callS _ _ _ _ (cn_X6_bandOf g (0, 0) hC (t := gm (mfr z u n) (nv (z 1))) hg) ⟨rfl, rfl⟩ (ok_X6_bandOf _) mlX6_96 st_X6_bandOf rfl ⟨Nat.le_of_ble_eq_true rfl, Nat.le_of_ble_eq_true rfl⟩ (by exact Nat.le_of_ble_eq_true rfl) ⟨Nat.zero_le _, Nat.zero_le _⟩ dX6_fixBand_13 rfl ?_
  refine gN_putI fwX6_100 rfl 0 (hS.tS (by omega)) dX6_fixBand_16 ?_
  refine g_aload_n 1 dX6_fixBand_19 rfl rfl ?_
  refine g_aload_n 0 dX6_fixBand_20 rfl rfl ?_
  refine gN_getR (S + 3) flX6_23 (fun _ _ _ => rfl) 0 (hS.t) (hS.r2) dX6_fixBand_21 ?_
  refine g_aload_n 1 dX6_fixBand_24 rfl rfl ?_
  refine gN_getI flX6_100 rfl 0 (hS.tS (by omega)) dX6_fixBand_25 ?_
  refine g_ei (nI (bandOf (gm (mfr z u n) (nv (z 1))))) (u2_s _ _ _ _) ?_
  refine gN_aald 12 5 (S + 16 + (bandOf (gm (mfr z u n) (nv (z 1))))) (hS.t3) (by decide) (by first | omega | exact b01_lt _) (by first | omega | exact b01_lt _) (hS.rB (by omega)) dX6_fixBand_28 ?_
  refine gN_getI flX6_103 rfl 0 (hS.tB (by omega)) dX6_fixBand_29 ?_
  refine g_eI (z (64 + 3 * bandOf (gm (mfr z u n) (nv (z 1))))) (by rw [im_sI, u2_o _ _ _ _ (by omega)]; exact (hBd _ (by omega)).1) ?_
  refine gN_putI fwX6_106 rfl 0 (hS.tS (by omega)) dX6_fixBand_32 ?_
  refine g_vret rfl dX6_fixBand_35 ⟨Nat.zero_le _, Nat.zero_le _⟩ ?_
  exact ⟨rfl, rfl⟩
set_option maxRecDepth 100000 in
theorem cn_X5_reassign (g : Gp) (cs : Nat × Nat) {m : Mm} {A : Nat} (ht : tg m A = (5, 0)) : Dn g (MX5_reassign cs) [.ref A] m none (sI (sI (sI (sI (sI m A 1 (nI 1)) A 6 (im m A 6 + im m A 5)) A 5 (nI 0)) A 7 (-1)) A 8 (nI 0)) := by
  refine Cn.of pn_X5 (Nat.le_of_ble_eq_true rfl) rfl ?_
  refine g_aload_n 0 dX5_reassign_0 rfl rfl ?_
  refine gN_iconst 1 dX5_reassign_1 (by decide) ?_
  refine gN_putI fwX5_15 rfl 0 (ht) dX5_reassign_2 ?_
  refine g_aload_n 0 dX5_reassign_5 rfl rfl ?_
  refine g_dup dX5_reassign_6 rfl ?_
  refine gN_getI flX5_31 rfl 0 (ht) dX5_reassign_7 ?_
  refine g_eI (im m A 6) (by rw [im_sI, u2_n _ _ _ _ (by omega)]) ?_
  refine g_aload_n 0 dX5_reassign_10 rfl rfl ?_
  refine gN_getI flX5_28 rfl 0 (ht) dX5_reassign_11 ?_
  refine g_eI (im m A 5) (by rw [im_sI, u2_n _ _ _ _ (by omega)]) ?_
  refine g_iadd dX5_reassign_14 ?_
  refine gN_putI fwX5_31 rfl 0 (ht) dX5_reassign_15 ?_
  refine g_aload_n 0 dX5_reassign_18 rfl rfl ?_
  refine gN_iconst 0 dX5_reassign_19 (by decide) ?_
  refine gN_putI fwX5_28 rfl 0 (ht) dX5_reassign_20 ?_
  refine g_aload_n 0 dX5_reassign_23 rfl rfl ?_
  refine g_iconst (-1) dX5_reassign_24 (by decide) ?_
  refine gN_putI fwX5_34 rfl 0 (ht) dX5_reassign_25 ?_
  refine g_aload_n 0 dX5_reassign_28 rfl rfl ?_
  refine gN_iconst 0 dX5_reassign_29 (by decide) ?_
  refine gN_putI fwX5_37 rfl 0 (ht) dX5_reassign_30 ?_
  refine g_vret rfl dX5_reassign_33 ⟨Nat.zero_le _, Nat.zero_le _⟩ ?_
  exact ⟨rfl, rfl⟩
set_option maxRecDepth 100000 in
theorem cn_X5_beginWith (g : Gp) (cs : Nat × Nat) {m : Mm} {A r : Nat} (ht : tg m A = (5, 0)) : Dn g (MX5_beginWith cs) [.ref A, .ref r] m none (sI (sI (sI (sI (sI (sI (sI (sI (sR m A 0 (some r)) A 1 (nI 0)) A 2 (-1)) A 3 (-1)) A 4 (-1)) A 5 (nI 0)) A 6 (nI 0)) A 7 (-1)) A 8 (nI 0)) := by
  refine Cn.of pn_X5 (Nat.le_of_ble_eq_true rfl) rfl ?_
  refine g_aload_n 0 dX5_beginWith_0 rfl rfl ?_
  refine g_aload_n 1 dX5_beginWith_1 rfl rfl ?_
  refine gN_putR fwX5_9 rfl 0 (ht) dX5_beginWith_2 ?_
  refine g_aload_n 0 dX5_beginWith_5 rfl rfl ?_
  refine gN_iconst 0 dX5_beginWith_6 (by decide) ?_
  refine gN_putI fwX5_15 rfl 0 (ht) dX5_beginWith_7 ?_
  refine g_aload_n 0 dX5_beginWith_10 rfl rfl ?_
  refine g_iconst (-1) dX5_beginWith_11 (by decide) ?_
  refine gN_putI fwX5_19 rfl 0 (ht) dX5_beginWith_12 ?_
  refine g_aload_n 0 dX5_beginWith_15 rfl rfl ?_
  refine g_iconst (-1) dX5_beginWith_16 (by decide) ?_
  refine gN_putI fwX5_22 rfl 0 (ht) dX5_beginWith_17 ?_
  refine g_aload_n 0 dX5_beginWith_20 rfl rfl ?_
  refine g_iconst (-1) dX5_beginWith_21 (by decide) ?_
  refine gN_putI fwX5_25 rfl 0 (ht) dX5_beginWith_22 ?_
  refine g_aload_n 0 dX5_beginWith_25 rfl rfl ?_
  refine gN_iconst 0 dX5_beginWith_26 (by decide) ?_
  refine gN_putI fwX5_28 rfl 0 (ht) dX5_beginWith_27 ?_
  refine g_aload_n 0 dX5_beginWith_30 rfl rfl ?_
  refine gN_iconst 0 dX5_beginWith_31 (by decide) ?_
  refine gN_putI fwX5_31 rfl 0 (ht) dX5_beginWith_32 ?_
  refine g_aload_n 0 dX5_beginWith_35 rfl rfl ?_
  refine g_iconst (-1) dX5_beginWith_36 (by decide) ?_
  refine gN_putI fwX5_34 rfl 0 (ht) dX5_beginWith_37 ?_
  refine g_aload_n 0 dX5_beginWith_40 rfl rfl ?_
  refine gN_iconst 0 dX5_beginWith_41 (by decide) ?_
  refine gN_putI fwX5_37 rfl 0 (ht) dX5_beginWith_42 ?_
  refine g_vret rfl dX5_beginWith_45 ⟨Nat.zero_le _, Nat.zero_le _⟩ ?_
  exact ⟨rfl, rfl⟩
set_option maxRecDepth 100000 in
theorem lp_X3_dropFirst (g : Gp) (cs : Nat × Nat) {m : Mm} {S : Nat} (hS : StT m S) (hl : im m (S + 10) 1 = nI 30) (hq : ∀ j, j < 30 → ∃ q, rf m (S + 11) j = some q ∧ tg m q = (4, 0)) : ∀ d i : Nat, i + d = 29 → ∀ R, (∀ x, x ≠ S + 11 → R x = rf m x) → (∀ j, j < i → R (S + 11) j = rf m (S + 11) (j + 1)) → (∀ j, i ≤ j → R (S + 11) j = rf m (S + 11) j) → G g (MX3_dropFirst cs) (mQ m none (fun I R => I = u2 (im m) (S + 10) 1 (nI 29) ∧ (∀ x, x ≠ S + 11 → R x = rf m x) ∧ ∀ j, j < 29 → R (S + 11) j = rf m (S + 11) (j + 1))) 2 [(1, .int (nI (1 + i))), (0, .ref (S + 10))] [] (0, 0) (wM m (im m) R) := by
  intro d
  induction d with
  | zero =>
    intro i hi R h1 h2 h3
    obtain rfl : i = 29 := hi
    refine g_iload_n 1 dX3_dropFirst_2 rfl rfl ?_
    refine g_aload_n 0 dX3_dropFirst_3 rfl rfl ?_
    refine gN_getI flX3_17 rfl 0 (hS.t10) dX3_dropFirst_4 ?_
    refine g_ei (nI (30)) (hl) ?_
    refine gN_icmp_ge 30 dX3_dropFirst_7 (by decide) (by first | omega | exact b01_lt _) (by first | omega | exact b01_lt _) (fun h_7 => ?_) (fun h_7 => ?_)
    · refine g_aload_n 0 dX3_dropFirst_30 rfl rfl ?_
      refine g_dup dX3_dropFirst_31 rfl ?_
      refine gN_getI flX3_17 rfl 0 (hS.t10) dX3_dropFirst_32 ?_
      refine g_ei (nI (30)) (hl) ?_
      refine gN_iconst 1 dX3_dropFirst_35 (by decide) ?_
      refine gN_isub (29) dX3_dropFirst_36 (by first | omega | exact b01_lt _) rfl ?_
      refine gN_putI fwX3_17 rfl 0 (hS.t10) dX3_dropFirst_37 ?_
      refine g_vret rfl dX3_dropFirst_40 ⟨Nat.zero_le _, Nat.zero_le _⟩ ?_
      exact ⟨rfl, _, R, rfl, rfl, h1, h2⟩
    · exfalso; omega
  | succ d ih =>
    intro i hi R h1 h2 h3
    obtain ⟨q, q1, q2⟩ := hq (1 + i) (by omega)
    refine g_iload_n 1 dX3_dropFirst_2 rfl rfl ?_
    refine g_aload_n 0 dX3_dropFirst_3 rfl rfl ?_
    refine gN_getI flX3_17 rfl 0 (hS.t10) dX3_dropFirst_4 ?_
    refine g_ei (nI (30)) (hl) ?_
    refine gN_icmp_ge 30 dX3_dropFirst_7 (by decide) (by first | omega | exact b01_lt _) (by first | omega | exact b01_lt _) (fun h_7 => ?_) (fun h_7 => ?_)
    · exfalso; omega
    · refine g_aload_n 0 dX3_dropFirst_10 rfl rfl ?_
      refine gN_getR (S + 11) flX3_11 (fun _ _ _ => rfl) 0 (hS.t10) ((congrFun (h1 (S + 10) (by omega)) 0).trans hS.r10) dX3_dropFirst_11 ?_
      refine g_iload_n 1 dX3_dropFirst_14 rfl rfl ?_
      refine gN_iconst 1 dX3_dropFirst_15 (by decide) ?_
      refine gN_isub ((1 + i) - 1) dX3_dropFirst_16 (by first | omega | exact b01_lt _) rfl ?_
      refine g_aload_n 0 dX3_dropFirst_17 rfl rfl ?_
      refine gN_getR (S + 11) flX3_11 (fun _ _ _ => rfl) 0 (hS.t10) ((congrFun (h1 (S + 10) (by omega)) 0).trans hS.r10) dX3_dropFirst_18 ?_
      refine g_iload_n 1 dX3_dropFirst_21 rfl rfl ?_
      refine gN_aald 13 30 (q) (hS.t11) (by decide) (by first | omega | exact b01_lt _) (by first | omega | exact b01_lt _) ((h3 (1 + i) (by omega)).trans q1) dX3_dropFirst_22 ?_
      refine gN_aast 13 30 4 0 (hS.t11) (by decide) (by first | omega | exact b01_lt _) (by first | omega | exact b01_lt _) (q2) rfl rfl dX3_dropFirst_23 ?_
      refine g_iinc 1 (nI (1 + i + 1)) 0 [(1, .int (nI (1 + i + 1))), (0, .ref (S + 10))] dX3_dropFirst_24 rfl (nI_add (1 + i) 1) (Nat.le_of_ble_eq_true rfl) rfl ?_
      refine g_goto 2 dX3_dropFirst_27 (by decide) ?_
      refine g_mem (m1 := wM m (im m) (u2 R (S + 11) i (some q))) (by rw [show 1 + i - 1 = i by omega]; rfl) ?_
      refine g_pick [0, 1] rfl ?_
      refine g_locN (1 + i + 1) (1 + (i + 1)) (by omega) ?_
      refine ih (i + 1) (by omega) _ (fun x hx => ?_) (fun j hj => ?_) (fun j hj => ?_)
      · rw [u2_o _ _ _ _ hx]; exact h1 x hx
      · by_cases e : j = i
        · subst e; rw [u2_s, Nat.add_comm j 1]; exact q1.symm
        · rw [u2_n _ _ _ _ (by omega)]; exact h2 j (by omega)
      · rw [u2_n _ _ _ _ (by omega)]; exact h3 j (by omega)
set_option maxRecDepth 100000 in
theorem cn_X3_dropFirst (g : Gp) (cs : Nat × Nat) {m : Mm} {S : Nat} (hS : StT m S) (hl : im m (S + 10) 1 = nI 30) (hq : ∀ j, j < 30 → ∃ q, rf m (S + 11) j = some q ∧ tg m q = (4, 0)) : Mn g (MX3_dropFirst cs) [.ref (S + 10)] m none (fun I R => I = u2 (im m) (S + 10) 1 (nI 29) ∧ (∀ x, x ≠ S + 11 → R x = rf m x) ∧ ∀ j, j < 29 → R (S + 11) j = rf m (S + 11) (j + 1)) := by
  refine Cn.of pn_X3 (Nat.le_of_ble_eq_true rfl) rfl ?_
  refine gN_iconst 1 dX3_dropFirst_0 (by decide) ?_
  refine g_istore_n 1 [(1, .int (nI (1))), (0, .ref (S + 10))] dX3_dropFirst_1 rfl (Nat.le_of_ble_eq_true rfl) rfl ?_
  refine g_mem (m1 := wM m (im m) (rf m)) rfl ?_
  exact lp_X3_dropFirst g cs hS hl hq 29 0 rfl (rf m) (fun _ _ => rfl) (fun j hj => by omega) (fun _ _ => rfl)
set_option maxRecDepth 100000 in
theorem cn_X3_remember (g : Gp) (cs : Nat × Nat) {m : Mm} {S B : Nat} {z : Nat → Int32} (hS : StT m S) (hc1 : im m (S + 10) 1 = z 1) (hn1 : NR (z 1) 0 30) (hM : RpM m B S z (nv (z 1))) {r : Nat} (ht : tg m r = (4, 0)) : Mn g (MX3_remember cs) [.ref (S + 10), .ref r] m none (fun I R => I = u2 (im m) (S + 10) 1 (nI (lastR z + 1)) ∧ (∀ x, x ≠ S + 11 → R x = rf m x) ∧ (∀ j, j < lastR z → R (S + 11) j = rf m (S + 11) (j + dropR z)) ∧ R (S + 11) (lastR z) = some r) := by
  have hz1 := hn1.hi
  have hl0 := hc1.trans hn1.e
  unfold lastR dropR
  by_cases hk : nv (z 1) = 30
  · simp only [if_pos hk]
    refine Cn.of pn_X3 (Nat.le_of_ble_eq_true rfl) rfl ?_
    refine g_aload_n 0 dX3_remember_0 rfl rfl ?_
    refine gN_getI flX3_17 rfl 0 (hS.t10) dX3_remember_1 ?_
    refine g_ei (nI (nv (z 1))) (hl0) ?_
    refine gN_bipush 30 dX3_remember_4 (by decide) ?_
    refine gN_icmp_lt 13 dX3_remember_6 (by decide) (by first | omega | exact b01_lt _) (by first | omega | exact b01_lt _) (fun h_6 => ?_) (fun h_6 => ?_)
    · exfalso; omega
    · refine g_aload_n 0 dX3_remember_9 rfl rfl ?_
      refine gm_callV _ _ _ (cn_X3_dropFirst g (0, 0) (m := m) hS (by rw [hl0, hk]) (fun j hj => by obtain ⟨q, q1, q2⟩ := hM j (by omega); exact ⟨q, q1, q2.2.2.t⟩)) ⟨rfl, rfl⟩ (ok_X3_dropFirst _) mlX3_21 in_X3_dropFirst se_X3_dropFirst 3 0 (hS.t10) rfl rfl rfl ⟨Nat.le_of_ble_eq_true rfl, Nat.le_of_ble_eq_true rfl⟩ (by exact Nat.le_of_ble_eq_true rfl) ⟨Nat.zero_le _, Nat.zero_le _⟩ dX3_remember_10 rfl (fun I R hP => ?_)
      obtain ⟨rfl, h1, h2⟩ := hP
      refine g_aload_n 0 dX3_remember_13 rfl rfl ?_
      refine gN_getR (S + 11) flX3_11 (fun _ _ _ => rfl) 0 (hS.t10) ((congrFun (h1 (S + 10) (by omega)) 0).trans hS.r10) dX3_remember_14 ?_
      refine g_aload_n 0 dX3_remember_17 rfl rfl ?_
      refine gN_getI flX3_17 rfl 0 (hS.t10) dX3_remember_18 ?_
      refine g_ei (nI (29)) (u2_s _ _ _ _) ?_
      refine g_aload_n 1 dX3_remember_21 rfl rfl ?_
      refine gN_aast 13 30 4 0 (hS.t11) (by decide) (by first | omega | exact b01_lt _) (by first | omega | exact b01_lt _) (ht) rfl rfl dX3_remember_22 ?_
      refine g_aload_n 0 dX3_remember_23 rfl rfl ?_
      refine g_dup dX3_remember_24 rfl ?_
      refine gN_getI flX3_17 rfl 0 (hS.t10) dX3_remember_25 ?_
      refine g_ei (nI (29)) (u2_s _ _ _ _) ?_
      refine gN_iconst 1 dX3_remember_28 (by decide) ?_
      refine gN_iadd (30) dX3_remember_29 rfl ?_
      refine gN_putI fwX3_17 rfl 0 (hS.t10) dX3_remember_30 ?_
      refine g_vret rfl dX3_remember_33 ⟨Nat.zero_le _, Nat.zero_le _⟩ ?_
      refine ⟨rfl, _, _, rfl, ?_, fun x hx => ?_, fun j hj => ?_, ?_⟩
      · exact u2_uu _ _ _ _ _
      · rw [rf_sR, rf_wM, u2_o _ _ _ _ hx]; exact h1 x hx
      · rw [rf_sR, rf_wM, u2_n _ _ _ _ (by omega)]; exact h2 j hj
      · exact u2_s _ _ _ _
  · simp only [if_neg hk]
    refine Cn.of pn_X3 (Nat.le_of_ble_eq_true rfl) rfl ?_
    refine g_aload_n 0 dX3_remember_0 rfl rfl ?_
    refine gN_getI flX3_17 rfl 0 (hS.t10) dX3_remember_1 ?_
    refine g_ei (nI (nv (z 1))) (hl0) ?_
    refine gN_bipush 30 dX3_remember_4 (by decide) ?_
    refine gN_icmp_lt 13 dX3_remember_6 (by decide) (by first | omega | exact b01_lt _) (by first | omega | exact b01_lt _) (fun h_6 => ?_) (fun h_6 => ?_)
    · refine g_aload_n 0 dX3_remember_13 rfl rfl ?_
      refine gN_getR (S + 11) flX3_11 (fun _ _ _ => rfl) 0 (hS.t10) (hS.r10) dX3_remember_14 ?_
      refine g_aload_n 0 dX3_remember_17 rfl rfl ?_
      refine gN_getI flX3_17 rfl 0 (hS.t10) dX3_remember_18 ?_
      refine g_ei (nI (nv (z 1))) (hl0) ?_
      refine g_aload_n 1 dX3_remember_21 rfl rfl ?_
      refine gN_aast 13 30 4 0 (hS.t11) (by decide) (by first | omega | exact b01_lt _) (by first | omega | exact b01_lt _) (ht) rfl rfl dX3_remember_22 ?_
      refine g_aload_n 0 dX3_remember_23 rfl rfl ?_
      refine g_dup dX3_remember_24 rfl ?_
      refine gN_getI flX3_17 rfl 0 (hS.t10) dX3_remember_25 ?_
      refine g_ei (nI (nv (z 1))) (hl0) ?_
      refine gN_iconst 1 dX3_remember_28 (by decide) ?_
      refine gN_iadd ((nv (z 1)) + 1) dX3_remember_29 rfl ?_
      refine gN_putI fwX3_17 rfl 0 (hS.t10) dX3_remember_30 ?_
      refine g_vret rfl dX3_remember_33 ⟨Nat.zero_le _, Nat.zero_le _⟩ ?_
      refine ⟨rfl, _, _, rfl, rfl, fun x hx => ?_, fun j hj => ?_, ?_⟩
      · exact u2_o _ _ _ _ hx
      · exact u2_n _ _ _ _ (by omega)
      · exact u2_s _ _ _ _
    · exfalso; omega
/-- the state behind a remembering of its segment s -/
theorem Rp.rm {m : Mm} {B S s r : Nat} {z : Nat → Int32} {I : Nat → Nat → Int32} {R : Nat → Nat → Option Nat} (hR : Rp m B S z) (hz : ZLn z) (hSB : S + 47 ≤ B) (hs : s < nv (z 0)) (hr : RowA m B r (fun e => z (79 + 22 * s + 10 + e)) (nv (z (79 + 22 * s))))
    (hI : I = u2 (im m) (S + 10) 1 (nI (lastR z + 1))) (h1 : ∀ x, x ≠ S + 11 → R x = rf m x) (h2 : ∀ j, j < lastR z → R (S + 11) j = rf m (S + 11) (j + dropR z)) (h3 : R (S + 11) (lastR z) = some r) : Rp (wM m I R) B S (rmZ z s) := by
  have hz0 := hz.1
  have hz1 := hz.2.1
  have hl := lastR_le z hz1
  have hlo := fun y => rmZ_lo z s (y := y)
  have hb : ∀ x, B ≤ x → x < fz m → agr m (wM m I R) x := fun x h5 h6 => ⟨rfl, by rw [im_wM, hI, u2_o _ _ _ _ (by omega)], by rw [rf_wM, h1 x (by omega)]⟩
  have hi : ∀ x, x ≠ S + 10 → im (wM m I R) x = im m x := fun x hx => by rw [im_wM, hI, u2_o _ _ _ _ hx]
  obtain ⟨⟨c0, c1, c2, c3⟩, hT, hB, hW, hSg, hM⟩ := hR
  refine ⟨⟨?_, ?_, ?_, ?_⟩, fun p hp => ?_, fun p hp => ?_, fun p hp => ⟨fun t ht => ?_, ?_⟩, fun q hq => ?_, fun j hj => ?_⟩
  · rw [hi _ (by omega), hlo _ (by omega) (by omega)]; exact c0
  · rw [im_wM, hI, u2_s, rmZ_1]
  · rw [hi _ (by omega), hlo _ (by omega) (by omega)]; exact c2
  · rw [hi _ (by omega), hlo _ (by omega) (by omega)]; exact c3
  · rw [hi _ (by omega), hlo _ (by omega) (by omega), hlo _ (by omega) (by omega), hlo _ (by omega) (by omega), hlo _ (by omega) (by omega), hlo _ (by omega) (by omega)]; exact hT p hp
  · rw [hi _ (by omega), hlo _ (by omega) (by omega), hlo _ (by omega) (by omega), hlo _ (by omega) (by omega)]; exact hB p hp
  · rw [hi _ (by omega), hlo _ (by omega) (by omega)]; exact (hW p hp).1 t ht
  · rw [hi _ (by omega), hlo _ (by omega) (by omega)]; exact (hW p hp).2
  · rw [hlo _ (by omega) (by omega)] at hq
    have hn := hz.2.2.1 q hq
    obtain ⟨a1, q1, a2, a3⟩ := hSg q hq
    refine ⟨?_, q1, by rw [rf_wM, h1 _ (by omega)]; exact a2, (a3.fr (m1 := wM m I R) (Nat.le_refl _) hb).cg (by rw [hlo _ (by omega) (by omega)]) (fun e he => hlo _ (by omega) (by omega))⟩
    unfold SgI at a1 ⊢
    rw [hi _ (by omega), hlo _ (by omega) (by omega), hlo _ (by omega) (by omega), hlo _ (by omega) (by omega), hlo _ (by omega) (by omega), hlo _ (by omega) (by omega), hlo _ (by omega) (by omega), hlo _ (by omega) (by omega), hlo _ (by omega) (by omega), hlo _ (by omega) (by omega)]
    exact a1
  · rw [rmZ_nv1 z s hz1] at hj
    by_cases e : j = lastR z
    · subst e
      obtain ⟨e1, e2⟩ := rmZ_new z (s := s) (by omega)
      have hn := hz.2.2.1 s hs
      exact ⟨r, h3, (hr.fr (m1 := wM m I R) (Nat.le_refl _) hb).cg (by rw [e1]) (fun e he => e2 e (by omega))⟩
    · have hj2 : j + dropR z < nv (z 1) := by
        have hj3 : j < lastR z := by omega
        unfold lastR at hj3; unfold dropR
        split at hj3 <;> rename_i w <;> simp only [w, if_true, if_false] <;> omega
      have hn := hz.2.2.2 _ hj2
      obtain ⟨q, q1, q2⟩ := hM _ hj2
      refine ⟨q, by rw [rf_wM, h2 j (by omega)]; exact q1, (q2.fr (m1 := wM m I R) (Nat.le_refl _) hb).cg ?_ (fun e he => ?_)⟩
      · have := rmZ_old z (s := s) (r := j) (e := 0) hz1 (by omega) (by omega)
        rw [Nat.add_zero, Nat.add_zero] at this
        rw [this]
      · have := rmZ_old z (s := s) (r := j) (e := 1 + e) hz1 (by omega) (by omega)
        rw [← Nat.add_assoc, ← Nat.add_assoc] at this
        exact this
