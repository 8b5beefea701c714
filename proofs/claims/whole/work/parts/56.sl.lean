/-! THE CLASS: the memory's and the state's looks -/
/-- the match of a row of n words with the row r of the memory -/
def mfr (z : Nat → Int32) (u : Nat → Int32) (n r : Nat) : Nat := 200 * tt u (fun e => z (299 + 13 * r + 1 + e)) n (nv (z (299 + 13 * r))) 0 0 / (n + nv (z (299 + 13 * r)))
theorem mfr_mf (z : Nat → Int32) (p : Nat) : mfr z (fun e => z (p + 10 + e)) (nv (z p)) = mf z p := rfl
theorem mt_le (u v : Nat → Int32) (n k : Nat) : 200 * tt u v n k 0 0 / (n + k) ≤ 100 := by
  have h1 := lc_le u v n k n k
  have h2 := lc_le2 u v n k n k
  unfold tt
  rw [Nat.sub_zero, Nat.sub_zero]
  generalize lc _ _ _ _ _ _ = t at h1 h2 ⊢
  refine Nat.div_le_of_le_mul ?_
  omega
theorem mfr_le (z u : Nat → Int32) (n r : Nat) : mfr z u n r ≤ 100 := mt_le _ _ _ _
/-- the last place of G -/
def ltp (f : Nat → Nat) (G : Nat) : Nat → Int32
  | 0 => -1
  | n + 1 => if f n = G then nI n else ltp f G n
theorem ltp_lm (f : Nat → Nat) : ∀ n, ltp f (gm f n) n = lm f n := by
  have key : ∀ n G, gm f n < G → ltp f G n = -1 := by
    intro n
    induction n with
    | zero => intro G _; rfl
    | succ n ih =>
      intro G h
      have h' : max (gm f n) (f n) < G := h
      show (if f n = G then nI n else ltp f G n) = -1
      rw [if_neg (by omega)]
      exact ih G (by omega)
  intro n
  induction n with
  | zero => rfl
  | succ n ih =>
    show (if f n = max (gm f n) (f n) then nI n else ltp f (max (gm f n) (f n)) n) = if gm f n ≤ f n then nI n else lm f n
    by_cases h : gm f n ≤ f n
    · rw [if_pos h, if_pos (by omega)]
    · rw [if_neg h, if_neg (by omega), show max (gm f n) (f n) = gm f n by omega]; exact ih
theorem nI_eqN {a b : Nat} (ha : a < 2147483648) (hb : b < 2147483648) : nI a = nI b ↔ a = b := nI_eq ha hb
set_option maxRecDepth 100000 in
theorem lp_X3_greatestMatch (g : Gp) (cs : Nat × Nat) {m : Mm} {S B c : Nat} {z : Nat → Int32} (hS : StT m S) (hR : Rp m B S z) (hz : ZOk c z) {r n : Nat} {u : Nat → Int32} (hr : RowT m r u n) {i : Nat} (hi : i ≤ nv (z 1)) : ∀ d e : Nat, e + d = nv (z 1) - i → G g (MX3_greatestMatch cs) (dQ (some (.int (nI (gm (fun t => mfr z u n (i + t)) (nv (z 1) - i))))) m) 5 [(4, .int (nI (i + e))), (3, .int (nI (gm (fun t => mfr z u n (i + t)) e))), (0, .ref (S + 10)), (1, .ref (r)), (2, .int (nI (i)))] [] (0, 0) m := by
  have hz0 := hz.n0.hi
  have hz1 := hz.n1.hi
  intro d
  induction d with
  | zero =>
    intro e he
    obtain rfl : e = nv (z 1) - i := he
    refine g_iload 4 dX3_greatestMatch_5 rfl ?_
    refine g_aload_n 0 dX3_greatestMatch_7 rfl rfl ?_
    refine gN_getI flX3_17 rfl 0 (hS.t10) dX3_greatestMatch_8 ?_
    refine g_ei (nI (nv (z 1))) (hR.c1.trans hz.n1.e) ?_
    refine gN_icmp_ge 36 dX3_greatestMatch_11 (by decide) (by first | omega | exact b01_lt _) (by first | omega | exact b01_lt _) (fun h_11 => ?_) (fun h_11 => ?_)
    · refine g_iload_n 3 dX3_greatestMatch_36 rfl rfl ?_
      refine g_iret rfl dX3_greatestMatch_37 ⟨Nat.zero_le _, Nat.zero_le _⟩ ?_
      exact ⟨rfl, rfl⟩
    · exfalso; omega
  | succ d ih =>
    intro e he
    obtain ⟨q, hq1, hq2⟩ := hR.M (r := i + e) (by omega)
    have hq := hq2.2.2
    have hg := gm_le (fun t => mfr z u n (i + t)) 100 e (fun t _ => mfr_le z u n (i + t))
    have hf := mfr_le z u n (i + e)
    refine g_iload 4 dX3_greatestMatch_5 rfl ?_
    refine g_aload_n 0 dX3_greatestMatch_7 rfl rfl ?_
    refine gN_getI flX3_17 rfl 0 (hS.t10) dX3_greatestMatch_8 ?_
    refine g_ei (nI (nv (z 1))) (hR.c1.trans hz.n1.e) ?_
    refine gN_icmp_ge 36 dX3_greatestMatch_11 (by decide) (by first | omega | exact b01_lt _) (by first | omega | exact b01_lt _) (fun h_11 => ?_) (fun h_11 => ?_)
    · exfalso; omega
    · refine g_iload_n 3 dX3_greatestMatch_14 rfl rfl ?_
      refine g_aload_n 1 dX3_greatestMatch_15 rfl rfl ?_
      refine g_aload_n 0 dX3_greatestMatch_16 rfl rfl ?_
      refine gN_getR (S + 11) flX3_11 (fun _ _ _ => rfl) 0 (hS.t10) (hS.r10) dX3_greatestMatch_17 ?_
      refine g_iload 4 dX3_greatestMatch_20 rfl ?_
      refine gN_aald 13 30 (q) (hS.t11) (by decide) (by first | omega | exact b01_lt _) (by first | omega | exact b01_lt _) (hq1) dX3_greatestMatch_22 ?_
      refine gd_callV _ _ _ _ (cn_X4_matchWith g (0, 0) hr hq) ⟨rfl, rfl⟩ (ok_X4_matchWith _) mlX3_24 in_X4_matchWith se_X4_matchWith 4 0 (hr.t) rfl rfl rfl ⟨Nat.le_of_ble_eq_true rfl, Nat.le_of_ble_eq_true rfl⟩ (by exact Nat.le_of_ble_eq_true rfl) ⟨Nat.zero_le _, Nat.zero_le _⟩ dX3_greatestMatch_23 rfl ?_
      refine gd_callS _ _ _ _ (cn_J9_max_7cf53 g (0, 0) (a := gm (fun t => mfr z u n (i + t)) e) (b := mfr z u n (i + e)) (by omega) (by omega)) ⟨rfl, rfl⟩ (ok_J9_max_7cf53 _) mlX3_28 st_J9_max_7cf53 rfl ⟨Nat.le_of_ble_eq_true rfl, Nat.le_of_ble_eq_true rfl⟩ (by exact Nat.le_of_ble_eq_true rfl) ⟨Nat.zero_le _, Nat.zero_le _⟩ dX3_greatestMatch_26 rfl ?_
      refine g_istore_n 3 [(3, .int (nI (max (gm (fun t => mfr z u n (i + t)) e) (mfr z u n (i + e))))), (4, .int (nI (i + e))), (0, .ref (S + 10)), (1, .ref (r)), (2, .int (nI (i)))] dX3_greatestMatch_29 rfl (Nat.le_of_ble_eq_true rfl) rfl ?_
      refine g_iinc 4 (nI (i + e + 1)) 1 [(4, .int (nI (i + e + 1))), (3, .int (nI (max (gm (fun t => mfr z u n (i + t)) e) (mfr z u n (i + e))))), (0, .ref (S + 10)), (1, .ref (r)), (2, .int (nI (i)))] dX3_greatestMatch_30 rfl (nI_add (i + e) 1) (Nat.le_of_ble_eq_true rfl) rfl ?_
      refine g_goto 5 dX3_greatestMatch_33 (by decide) ?_
      refine g_pick [0, 1, 2, 3, 4] rfl ?_
      exact ih (e + 1) (by omega)
set_option maxRecDepth 100000 in
theorem cn_X3_greatestMatch (g : Gp) (cs : Nat × Nat) {m : Mm} {S B c : Nat} {z : Nat → Int32} (hS : StT m S) (hR : Rp m B S z) (hz : ZOk c z) {r n : Nat} {u : Nat → Int32} (hr : RowT m r u n) {i : Nat} (hi : i ≤ nv (z 1)) : Dn g (MX3_greatestMatch cs) [.ref (S + 10), .ref (r), .int (nI (i))] m (some (.int (nI (gm (fun t => mfr z u n (i + t)) (nv (z 1) - i))))) (m) := by
  have hz0 := hz.n0.hi
  have hz1 := hz.n1.hi
  refine Cn.of pn_X3 (Nat.le_of_ble_eq_true rfl) rfl ?_
  refine gN_iconst 0 dX3_greatestMatch_0 (by decide) ?_
  refine g_istore_n 3 [(3, .int (nI (0))), (0, .ref (S + 10)), (1, .ref (r)), (2, .int (nI (i)))] dX3_greatestMatch_1 rfl (Nat.le_of_ble_eq_true rfl) rfl ?_
  refine g_iload_n 2 dX3_greatestMatch_2 rfl rfl ?_
  refine g_istore 4 [(4, .int (nI (i))), (3, .int (nI (0))), (0, .ref (S + 10)), (1, .ref (r)), (2, .int (nI (i)))] dX3_greatestMatch_3 (Nat.le_of_ble_eq_true rfl) rfl ?_
  refine g_pick [0, 1, 2, 3, 4] rfl ?_
  exact lp_X3_greatestMatch g cs hS hR hz hr hi _ 0 (Nat.zero_add _)
theorem cn_X3_greatestMatch0 (g : Gp) (cs : Nat × Nat) {m : Mm} {S B c : Nat} {z : Nat → Int32} (hS : StT m S) (hR : Rp m B S z) (hz : ZOk c z) {r n : Nat} {u : Nat → Int32} (hr : RowT m r u n) : Dn g (MX3_greatestMatch cs) [.ref (S + 10), .ref r, .int (nI 0)] m (some (.int (nI (gm (mfr z u n) (nv (z 1)))))) m := by
  have h := cn_X3_greatestMatch g cs hS hR hz hr (i := 0) (Nat.zero_le _)
  rw [show (fun t => mfr z u n (0 + t)) = mfr z u n from funext fun t => by rw [Nat.zero_add], Nat.sub_zero] at h
  exact h
set_option maxRecDepth 100000 in
theorem lp_X3_bestRow (g : Gp) (cs : Nat × Nat) {m : Mm} {S B c : Nat} {z : Nat → Int32} (hS : StT m S) (hR : Rp m B S z) (hz : ZOk c z) {r n : Nat} {u : Nat → Int32} (hr : RowT m r u n) : ∀ d e : Nat, e + d = nv (z 1) → ∀ x, x = ltp (mfr z u n) (gm (mfr z u n) (nv (z 1))) e → G g (MX3_bestRow cs) (dQ (some (.int (lm (mfr z u n) (nv (z 1))))) m) 12 [(4, .int (nI (e))), (3, .int (x)), (2, .int (nI (gm (mfr z u n) (nv (z 1))))), (0, .ref (S + 10)), (1, .ref (r))] [] (0, 0) m := by
  have hz0 := hz.n0.hi
  have hz1 := hz.n1.hi
  have hg := gm_le (mfr z u n) 100 (nv (z 1)) (fun t _ => mfr_le z u n t)
  intro d
  induction d with
  | zero =>
    intro e he x hx
    obtain rfl : e = nv (z 1) := he
    refine g_iload 4 dX3_bestRow_12 rfl ?_
    refine g_aload_n 0 dX3_bestRow_14 rfl rfl ?_
    refine gN_getI flX3_17 rfl 0 (hS.t10) dX3_bestRow_15 ?_
    refine g_ei (nI (nv (z 1))) (hR.c1.trans hz.n1.e) ?_
    refine gN_icmp_ge 45 dX3_bestRow_18 (by decide) (by first | omega | exact b01_lt _) (by first | omega | exact b01_lt _) (fun h_18 => ?_) (fun h_18 => ?_)
    · refine g_iload_n 3 dX3_bestRow_45 rfl rfl ?_
      refine g_iret rfl dX3_bestRow_46 ⟨Nat.zero_le _, Nat.zero_le _⟩ ?_
      exact ⟨vI (hx.trans (ltp_lm _ _)), rfl⟩
    · exfalso; omega
  | succ d ih =>
    intro e he x hx
    obtain ⟨q, hq1, hq2⟩ := hR.M (r := e) (by omega)
    have hq := hq2.2.2
    have hf := mfr_le z u n e
    refine g_iload 4 dX3_bestRow_12 rfl ?_
    refine g_aload_n 0 dX3_bestRow_14 rfl rfl ?_
    refine gN_getI flX3_17 rfl 0 (hS.t10) dX3_bestRow_15 ?_
    refine g_ei (nI (nv (z 1))) (hR.c1.trans hz.n1.e) ?_
    refine gN_icmp_ge 45 dX3_bestRow_18 (by decide) (by first | omega | exact b01_lt _) (by first | omega | exact b01_lt _) (fun h_18 => ?_) (fun h_18 => ?_)
    · exfalso; omega
    · refine g_aload_n 1 dX3_bestRow_21 rfl rfl ?_
      refine g_aload_n 0 dX3_bestRow_22 rfl rfl ?_
      refine gN_getR (S + 11) flX3_11 (fun _ _ _ => rfl) 0 (hS.t10) (hS.r10) dX3_bestRow_23 ?_
      refine g_iload 4 dX3_bestRow_26 rfl ?_
      refine gN_aald 13 30 (q) (hS.t11) (by decide) (by first | omega | exact b01_lt _) (by first | omega | exact b01_lt _) (hq1) dX3_bestRow_28 ?_
      refine gd_callV _ _ _ _ (cn_X4_matchWith g (0, 0) hr hq) ⟨rfl, rfl⟩ (ok_X4_matchWith _) mlX3_24 in_X4_matchWith se_X4_matchWith 4 0 (hr.t) rfl rfl rfl ⟨Nat.le_of_ble_eq_true rfl, Nat.le_of_ble_eq_true rfl⟩ (by exact Nat.le_of_ble_eq_true rfl) ⟨Nat.zero_le _, Nat.zero_le _⟩ dX3_bestRow_29 rfl ?_
      refine g_ei (nI (mfr z u n e)) rfl ?_
      refine g_iload_n 2 dX3_bestRow_32 rfl rfl ?_
      refine gN_icmp_ne 39 dX3_bestRow_33 (by decide) (by first | omega | exact b01_lt _) (by first | omega | exact b01_lt _) (fun h_33 => ?_) (fun h_33 => ?_)
      · refine g_iinc 4 (nI (e + 1)) 0 [(4, .int (nI (e + 1))), (3, .int (x)), (2, .int (nI (gm (mfr z u n) (nv (z 1))))), (0, .ref (S + 10)), (1, .ref (r))] dX3_bestRow_39 rfl (nI_add e 1) (Nat.le_of_ble_eq_true rfl) rfl ?_
        refine g_goto 12 dX3_bestRow_42 (by decide) ?_
        refine g_pick [0, 1, 2, 3, 4] rfl ?_
        exact ih (e + 1) (by omega) _ (by show _ = (if mfr z u n e = _ then nI e else ltp _ _ e); first | (rw [if_pos h_33]; done) | (rw [if_neg h_33]; exact hx))
      · refine g_iload 4 dX3_bestRow_36 rfl ?_
        refine g_istore_n 3 [(3, .int (nI (e))), (4, .int (nI (e))), (2, .int (nI (gm (mfr z u n) (nv (z 1))))), (0, .ref (S + 10)), (1, .ref (r))] dX3_bestRow_38 rfl (Nat.le_of_ble_eq_true rfl) rfl ?_
        refine g_iinc 4 (nI (e + 1)) 1 [(4, .int (nI (e + 1))), (3, .int (nI (e))), (2, .int (nI (gm (mfr z u n) (nv (z 1))))), (0, .ref (S + 10)), (1, .ref (r))] dX3_bestRow_39 rfl (nI_add e 1) (Nat.le_of_ble_eq_true rfl) rfl ?_
        refine g_goto 12 dX3_bestRow_42 (by decide) ?_
        refine g_pick [0, 1, 2, 3, 4] rfl ?_
        exact ih (e + 1) (by omega) _ (by show _ = (if mfr z u n e = _ then nI e else ltp _ _ e); first | (rw [if_pos h_33]; done) | (rw [if_neg h_33]; exact hx))
set_option maxRecDepth 100000 in
theorem cn_X3_bestRow (g : Gp) (cs : Nat × Nat) {m : Mm} {S B c : Nat} {z : Nat → Int32} (hS : StT m S) (hR : Rp m B S z) (hz : ZOk c z) {r n : Nat} {u : Nat → Int32} (hr : RowT m r u n) : Dn g (MX3_bestRow cs) [.ref (S + 10), .ref (r)] m (some (.int (lm (mfr z u n) (nv (z 1))))) (m) := by
  have hz0 := hz.n0.hi
  have hz1 := hz.n1.hi
  refine Cn.of pn_X3 (Nat.le_of_ble_eq_true rfl) rfl ?_
  refine g_aload_n 0 dX3_bestRow_0 rfl rfl ?_
  refine g_aload_n 1 dX3_bestRow_1 rfl rfl ?_
  refine gN_iconst 0 dX3_bestRow_2 (by decide) ?_
  refine gd_callV _ _ _ _ (cn_X3_greatestMatch0 g (0, 0) hS hR hz hr) ⟨rfl, rfl⟩ (ok_X3_greatestMatch _) mlX3_34 in_X3_greatestMatch se_X3_greatestMatch 3 0 (hS.t10) rfl rfl rfl ⟨Nat.le_of_ble_eq_true rfl, Nat.le_of_ble_eq_true rfl⟩ (by exact Nat.le_of_ble_eq_true rfl) ⟨Nat.zero_le _, Nat.zero_le _⟩ dX3_bestRow_3 rfl ?_
  refine g_istore_n 2 [(2, .int (nI (gm (mfr z u n) (nv (z 1))))), (0, .ref (S + 10)), (1, .ref (r))] dX3_bestRow_6 rfl (Nat.le_of_ble_eq_true rfl) rfl ?_
  refine g_iconst (-1) dX3_bestRow_7 (by decide) ?_
  refine g_istore_n 3 [(3, .int (-1)), (2, .int (nI (gm (mfr z u n) (nv (z 1))))), (0, .ref (S + 10)), (1, .ref (r))] dX3_bestRow_8 rfl (Nat.le_of_ble_eq_true rfl) rfl ?_
  refine gN_iconst 0 dX3_bestRow_9 (by decide) ?_
  refine g_istore 4 [(4, .int (nI (0))), (3, .int (-1)), (2, .int (nI (gm (mfr z u n) (nv (z 1))))), (0, .ref (S + 10)), (1, .ref (r))] dX3_bestRow_10 (Nat.le_of_ble_eq_true rfl) rfl ?_
  refine g_pick [0, 1, 2, 3, 4] rfl ?_
  exact lp_X3_bestRow g cs hS hR hz hr _ 0 (Nat.zero_add _) _ rfl
/-- the match behind a delivery of the row v of k -/
def mfa (z u v : Nat → Int32) (n k : Nat) : Nat := max (gm (fun t => mfr z u n (dropR z + t)) (nv (z 1) - dropR z)) (200 * tt u v n k 0 0 / (n + k))
set_option maxRecDepth 100000 in
theorem cn_X3_greatestMatchAfter (g : Gp) (cs : Nat × Nat) {m : Mm} {S B c : Nat} {z : Nat → Int32} (hS : StT m S) (hR : Rp m B S z) (hz : ZOk c z) {r n : Nat} {u : Nat → Int32} (hr : RowT m r u n) {q k : Nat} {v : Nat → Int32} (hq : RowT m q v k) : Dn g (MX3_greatestMatchAfter cs) [.ref (S + 10), .ref (r), .ref (q)] m (some (.int (nI (mfa z u v n k)))) (m) := by
  have hz0 := hz.n0.hi
  have hz1 := hz.n1.hi
  have hd : dropR z ≤ nv (z 1) := by unfold dropR; split <;> omega
  have hg := gm_le (fun t => mfr z u n (dropR z + t)) 100 (nv (z 1) - dropR z) (fun t _ => mfr_le z u n _)
  have hm := mt_le u v n k
  have hdr : dropR z = if nv (z 1) = 30 then 1 else 0 := rfl
  refine Cn.of pn_X3 (Nat.le_of_ble_eq_true rfl) rfl ?_
  refine g_join 14 (dropR z) ?_ (fun K_14 => ?_)
  · refine g_istore_n 3 [(3, .int (nI (dropR z))), (0, .ref (S + 10)), (1, .ref (r)), (2, .ref (q))] dX3_greatestMatchAfter_14 rfl (Nat.le_of_ble_eq_true rfl) rfl ?_
    refine g_aload_n 0 dX3_greatestMatchAfter_15 rfl rfl ?_
    refine g_aload_n 1 dX3_greatestMatchAfter_16 rfl rfl ?_
    refine g_iload_n 3 dX3_greatestMatchAfter_17 rfl rfl ?_
    refine gd_callV _ _ _ _ (cn_X3_greatestMatch g (0, 0) hS hR hz hr (i := dropR z) hd) ⟨rfl, rfl⟩ (ok_X3_greatestMatch _) mlX3_34 in_X3_greatestMatch se_X3_greatestMatch 3 0 (hS.t10) rfl rfl rfl ⟨Nat.le_of_ble_eq_true rfl, Nat.le_of_ble_eq_true rfl⟩ (by exact Nat.le_of_ble_eq_true rfl) ⟨Nat.zero_le _, Nat.zero_le _⟩ dX3_greatestMatchAfter_18 rfl ?_
    refine g_aload_n 1 dX3_greatestMatchAfter_21 rfl rfl ?_
    refine g_aload_n 2 dX3_greatestMatchAfter_22 rfl rfl ?_
    refine gd_callV _ _ _ _ (cn_X4_matchWith g (0, 0) hr hq) ⟨rfl, rfl⟩ (ok_X4_matchWith _) mlX3_24 in_X4_matchWith se_X4_matchWith 4 0 (hr.t) rfl rfl rfl ⟨Nat.le_of_ble_eq_true rfl, Nat.le_of_ble_eq_true rfl⟩ (by exact Nat.le_of_ble_eq_true rfl) ⟨Nat.zero_le _, Nat.zero_le _⟩ dX3_greatestMatchAfter_23 rfl ?_
    refine gd_callS _ _ _ _ (cn_J9_max_7cf53 g (0, 0) (a := gm (fun t => mfr z u n (dropR z + t)) (nv (z 1) - dropR z)) (b := 200 * tt u v n k 0 0 / (n + k)) (by omega) (by omega)) ⟨rfl, rfl⟩ (ok_J9_max_7cf53 _) mlX3_28 st_J9_max_7cf53 rfl ⟨Nat.le_of_ble_eq_true rfl, Nat.le_of_ble_eq_true rfl⟩ (by exact Nat.le_of_ble_eq_true rfl) ⟨Nat.zero_le _, Nat.zero_le _⟩ dX3_greatestMatchAfter_26 rfl ?_
    refine g_iret rfl dX3_greatestMatchAfter_29 ⟨Nat.zero_le _, Nat.zero_le _⟩ ?_
    exact ⟨rfl, rfl⟩
  · refine g_aload_n 0 dX3_greatestMatchAfter_0 rfl rfl ?_
    refine gN_getI flX3_17 rfl 0 (hS.t10) dX3_greatestMatchAfter_1 ?_
    refine g_ei (nI (nv (z 1))) (hR.c1.trans hz.n1.e) ?_
    refine gN_bipush 30 dX3_greatestMatchAfter_4 (by decide) ?_
    refine gN_icmp_ne 13 dX3_greatestMatchAfter_6 (by decide) (by first | omega | exact b01_lt _) (by first | omega | exact b01_lt _) (fun h_6 => ?_) (fun h_6 => ?_)
    · refine gN_iconst 0 dX3_greatestMatchAfter_13 (by decide) ?_
      exact g_ei (nI (dropR z)) (congrArg nI (show 0 = dropR z from by first | (rw [hdr, if_pos h_6]) | (rw [hdr, if_neg h_6]))) K_14
    · refine gN_iconst 1 dX3_greatestMatchAfter_9 (by decide) ?_
      refine g_goto 14 dX3_greatestMatchAfter_10 (by decide) ?_
      exact g_ei (nI (dropR z)) (congrArg nI (show 1 = dropR z from by first | (rw [hdr, if_pos h_6]) | (rw [hdr, if_neg h_6]))) K_14
set_option maxRecDepth 100000 in
theorem cn_X6_percentOf (g : Gp) (cs : Nat × Nat) {m : Mm} {S B c : Nat} {z : Nat → Int32} (hS : StT m S) (hR : Rp m B S z) (hz : ZOk c z) (hC : CsT g m) {t : Nat} (ht : t ≤ 100) : Dn g (MX6_percentOf cs) [.ref (S), .int (nI (t))] m (some (.int (z (64 + 3 * bandOf t)))) (m) := by
  have hb := bandOf_le t
  refine Cn.of pn_X6 (Nat.le_of_ble_eq_true rfl) rfl ?_
  refine g_aload_n 0 dX6_percentOf_0 rfl rfl ?_
  refine gN_getR (S + 3) flX6_23 (fun _ _ _ => rfl) 0 (hS.t) (hS.r2) dX6_percentOf_1 ?_
  refine g_iload_n 1 dX6_percentOf_4 rfl rfl ?_
  refine gd_callS _ _ _ _ (cn_X6_bandOf g (0, 0) hC ht) ⟨rfl, rfl⟩ (ok_X6_bandOf _) mlX6_96 st_X6_bandOf rfl ⟨Nat.le_of_ble_eq_true rfl, Nat.le_of_ble_eq_true rfl⟩ (by exact Nat.le_of_ble_eq_true rfl) ⟨Nat.zero_le _, Nat.zero_le _⟩ dX6_percentOf_5 rfl ?_
  refine gN_aald 12 5 (S + 16 + (bandOf t)) (hS.t3) (by decide) (by first | omega | exact b01_lt _) (by first | omega | exact b01_lt _) (hS.rB (by omega)) dX6_percentOf_8 ?_
  refine gN_getI flX6_103 rfl 0 (hS.tB (by omega)) dX6_percentOf_9 ?_
  refine g_eI (z (64 + 3 * (bandOf t))) (hR.B0 (by omega)) ?_
  refine g_iret rfl dX6_percentOf_12 ⟨Nat.zero_le _, Nat.zero_le _⟩ ?_
  exact ⟨rfl, rfl⟩
set_option maxRecDepth 100000 in
theorem cn_X6_percentNow (g : Gp) (cs : Nat × Nat) {m : Mm} {S B c : Nat} {z : Nat → Int32} (hS : StT m S) (hR : Rp m B S z) (hz : ZOk c z) (hC : CsT g m) {r n : Nat} {u : Nat → Int32} (hr : RowT m r u n) : Dn g (MX6_percentNow cs) [.ref (S), .ref (r)] m (some (.int (z (64 + 3 * bandOf (gm (mfr z u n) (nv (z 1))))))) (m) := by
  have hg := gm_le (mfr z u n) 100 (nv (z 1)) (fun t _ => mfr_le z u n t)
  refine Cn.of pn_X6 (Nat.le_of_ble_eq_true rfl) rfl ?_
  refine g_aload_n 0 dX6_percentNow_0 rfl rfl ?_
  refine g_aload_n 0 dX6_percentNow_1 rfl rfl ?_
  refine gN_getR (S + 10) flX6_53 (fun _ _ _ => rfl) 0 (hS.t) (hS.r5) dX6_percentNow_2 ?_
  refine g_aload_n 1 dX6_percentNow_5 rfl rfl ?_
  refine gN_iconst 0 dX6_percentNow_6 (by decide) ?_
  refine gd_callV _ _ _ _ (cn_X3_greatestMatch0 g (0, 0) hS hR hz hr) ⟨rfl, rfl⟩ (ok_X3_greatestMatch _) mlX6_92 in_X3_greatestMatch se_X3_greatestMatch 3 0 (hS.t10) rfl rfl rfl ⟨Nat.le_of_ble_eq_true rfl, Nat.le_of_ble_eq_true rfl⟩ (by exact Nat.le_of_ble_eq_true rfl) ⟨Nat.zero_le _, Nat.zero_le _⟩ dX6_percentNow_7 rfl ?_
  refine gd_callV _ _ _ _ (cn_X6_percentOf g (0, 0) hS hR hz hC (t := gm (mfr z u n) (nv (z 1))) hg) ⟨rfl, rfl⟩ (ok_X6_percentOf _) mlX6_165 in_X6_percentOf se_X6_percentOf 6 0 (hS.t) rfl rfl rfl ⟨Nat.le_of_ble_eq_true rfl, Nat.le_of_ble_eq_true rfl⟩ (by exact Nat.le_of_ble_eq_true rfl) ⟨Nat.zero_le _, Nat.zero_le _⟩ dX6_percentNow_10 rfl ?_
  refine g_iret rfl dX6_percentNow_13 ⟨Nat.zero_le _, Nat.zero_le _⟩ ?_
  exact ⟨rfl, rfl⟩
set_option maxRecDepth 100000 in
theorem cn_X6_costInOrder (g : Gp) (cs : Nat × Nat) {m : Mm} {S B c : Nat} {z : Nat → Int32} (hS : StT m S) (hR : Rp m B S z) (hz : ZOk c z) (hC : CsT g m) {r n : Nat} {u : Nat → Int32} (hr : RowT m r u n) {q k : Nat} {v : Nat → Int32} (hq : RowT m q v k) : Dn g (MX6_costInOrder cs) [.ref (S), .ref (r), .ref (q)] m (some (.int (nI n * z (64 + 3 * bandOf (gm (mfr z u n) (nv (z 1)))) + nI k * z (64 + 3 * bandOf (mfa z v u k n))))) (m) := by
  have hg : mfa z v u k n ≤ 100 := by
    have h1 := gm_le (fun t => mfr z v k (dropR z + t)) 100 (nv (z 1) - dropR z) (fun t _ => mfr_le z v k _)
    have h2 := mt_le v u k n
    unfold mfa; omega
  refine Cn.of pn_X6 (Nat.le_of_ble_eq_true rfl) rfl ?_
  refine g_aload_n 0 dX6_costInOrder_0 rfl rfl ?_
  refine g_aload_n 0 dX6_costInOrder_1 rfl rfl ?_
  refine gN_getR (S + 10) flX6_53 (fun _ _ _ => rfl) 0 (hS.t) (hS.r5) dX6_costInOrder_2 ?_
  refine g_aload_n 2 dX6_costInOrder_5 rfl rfl ?_
  refine g_aload_n 1 dX6_costInOrder_6 rfl rfl ?_
  refine gd_callV _ _ _ _ (cn_X3_greatestMatchAfter g (0, 0) hS hR hz hq hr) ⟨rfl, rfl⟩ (ok_X3_greatestMatchAfter _) mlX6_168 in_X3_greatestMatchAfter se_X3_greatestMatchAfter 3 0 (hS.t10) rfl rfl rfl ⟨Nat.le_of_ble_eq_true rfl, Nat.le_of_ble_eq_true rfl⟩ (by exact Nat.le_of_ble_eq_true rfl) ⟨Nat.zero_le _, Nat.zero_le _⟩ dX6_costInOrder_7 rfl ?_
  refine gd_callV _ _ _ _ (cn_X6_percentOf g (0, 0) hS hR hz hC (t := mfa z v u k n) hg) ⟨rfl, rfl⟩ (ok_X6_percentOf _) mlX6_165 in_X6_percentOf se_X6_percentOf 6 0 (hS.t) rfl rfl rfl ⟨Nat.le_of_ble_eq_true rfl, Nat.le_of_ble_eq_true rfl⟩ (by exact Nat.le_of_ble_eq_true rfl) ⟨Nat.zero_le _, Nat.zero_le _⟩ dX6_costInOrder_10 rfl ?_
  refine g_topi (fun x ex => ?_)
  refine g_istore_n 3 [(3, .int (x)), (0, .ref (S)), (1, .ref (r)), (2, .ref (q))] dX6_costInOrder_13 rfl (Nat.le_of_ble_eq_true rfl) rfl ?_
  refine g_aload_n 1 dX6_costInOrder_14 rfl rfl ?_
  refine gN_getI flX6_110 rfl 0 (hr.t) dX6_costInOrder_15 ?_
  refine g_ei (nI (n)) (hr.l) ?_
  refine g_aload_n 0 dX6_costInOrder_18 rfl rfl ?_
  refine g_aload_n 1 dX6_costInOrder_19 rfl rfl ?_
  refine gd_callV _ _ _ _ (cn_X6_percentNow g (0, 0) hS hR hz hC hr) ⟨rfl, rfl⟩ (ok_X6_percentNow _) mlX6_172 in_X6_percentNow se_X6_percentNow 6 0 (hS.t) rfl rfl rfl ⟨Nat.le_of_ble_eq_true rfl, Nat.le_of_ble_eq_true rfl⟩ (by exact Nat.le_of_ble_eq_true rfl) ⟨Nat.zero_le _, Nat.zero_le _⟩ dX6_costInOrder_20 rfl ?_
  refine g_imul dX6_costInOrder_23 ?_
  refine g_aload_n 2 dX6_costInOrder_24 rfl rfl ?_
  refine gN_getI flX6_110 rfl 0 (hq.t) dX6_costInOrder_25 ?_
  refine g_ei (nI (k)) (hq.l) ?_
  refine g_iload_n 3 dX6_costInOrder_28 rfl rfl ?_
  refine g_imul dX6_costInOrder_29 ?_
  refine g_iadd dX6_costInOrder_30 ?_
  refine g_iret rfl dX6_costInOrder_31 ⟨Nat.zero_le _, Nat.zero_le _⟩ ?_
  refine ⟨vI ?_, rfl⟩
  rw [ex]
