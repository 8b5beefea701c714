set_option maxRecDepth 100000 in
theorem cn_X10_matchNow (g : Gp) (cs : Nat × Nat) {m : Mm} {a : Nat} (hM : MdOk m a) {n k : Nat} (hn : im m a 9 = nI n) (hk : im m a 10 = nI k) (hn1 : 1 ≤ n) (hn2 : n ≤ 12) (hk2 : k ≤ 12) {u v : Nat → Int32} (hu : ∀ e, e < n → im m (a + 5) e = u e) (hv : ∀ e, e < k → im m (a + 6) e = v e) : Dn g (MX10_matchNow cs) [.ref (a)] m (some (.int (nI (200 * tt u v n k 0 0 / (n + k))))) (wI m (cpI (im m) (a + 7) 0 169 (tb u v n k 0 0))) := by
  have l1 := tt_le u v n k 0 0
  refine Cn.of pn_X10 (Nat.le_of_ble_eq_true rfl) rfl ?_
  refine gN_sipush 200 dX10_matchNow_0 (by decide) ?_
  refine g_aload_n 0 dX10_matchNow_3 rfl rfl ?_
  refine gd_callV _ _ _ _ (cn_X10_longest g (0, 0) hM hn hk hn2 hk2 hu hv) ⟨rfl, rfl⟩ (ok_X10_longest _) mlX10_58 in_X10_longest se_X10_longest 10 0 (hM.t) rfl rfl rfl ⟨Nat.le_of_ble_eq_true rfl, Nat.le_of_ble_eq_true rfl⟩ (by exact Nat.le_of_ble_eq_true rfl) ⟨Nat.zero_le _, Nat.zero_le _⟩ dX10_matchNow_4 rfl ?_
  refine gN_imul (200 * (tt u v n k 0 0)) dX10_matchNow_7 rfl ?_
  refine g_aload_n 0 dX10_matchNow_8 rfl rfl ?_
  refine gN_getI flX10_49 rfl 0 (hM.t) dX10_matchNow_9 ?_
  refine g_ei (nI (n)) ((congrFun (im_tbo m (a + 7) u v n k 0 0 (by omega)) 9).trans hn) ?_
  refine g_aload_n 0 dX10_matchNow_12 rfl rfl ?_
  refine gN_getI flX10_52 rfl 0 (hM.t) dX10_matchNow_13 ?_
  refine g_ei (nI (k)) ((congrFun (im_tbo m (a + 7) u v n k 0 0 (by omega)) 10).trans hk) ?_
  refine gN_iadd (n + k) dX10_matchNow_16 rfl ?_
  refine gN_idiv ((200 * (tt u v n k 0 0)) / (n + k)) dX10_matchNow_17 (by first | omega | exact b01_lt _) (by first | omega | exact b01_lt _) (by first | omega | exact b01_lt _) rfl ?_
  refine g_iret rfl dX10_matchNow_18 ⟨Nat.zero_le _, Nat.zero_le _⟩ ?_
  exact ⟨rfl, rfl⟩
/-- between two turns of bestRow: the segment's own words lie in the notes -/
def brI (m : Mm) (a s : Nat) (I : Nat → Nat → Int32) : Prop := sc a (im m) I ∧ I a 9 = nI (nv (im m (a + 1) (79 + 22 * s))) ∧ ∀ e, e < nv (im m (a + 1) (79 + 22 * s)) → I (a + 5) e = im m (a + 1) (79 + 22 * s + 10 + e)
/-- the greatest so far: -1 ahead of the first -/
def mo (f : Nat → Nat) (r : Nat) : Int32 := if r = 0 then -1 else nI (gm f r)
theorem mo_ge (f : Nat → Nat) (r b : Nat) (hb : ∀ i, i ≤ r → f i < 2147483648) : ¬ nI (f r) < mo f r → (if gm f r ≤ f r then nI r else lm f r) = nI r ∧ mo f (r + 1) = nI (f r) := by
  intro h
  have hg : gm f r ≤ f r := by
    unfold mo at h
    by_cases z : r = 0
    · subst z; exact Nat.zero_le _
    · rw [if_neg z] at h
      have hgl : gm f r < 2147483648 := by
        have := gm_le f 2147483647 r (fun i hi => by have := hb i (by omega); omega)
        omega
      rw [nI_lt' (hb r (Nat.le_refl r)) hgl] at h
      omega
  refine ⟨if_pos hg, ?_⟩
  unfold mo
  rw [if_neg (by omega)]
  show nI (max (gm f r) (f r)) = _
  rw [Nat.max_eq_right hg]
theorem mo_lt (f : Nat → Nat) (r b : Nat) (hb : ∀ i, i ≤ r → f i < 2147483648) : nI (f r) < mo f r → (if gm f r ≤ f r then nI r else lm f r) = lm f r ∧ mo f (r + 1) = mo f r := by
  intro h
  unfold mo at h
  by_cases z : r = 0
  · rw [if_pos z] at h
    have := lt_tI.mp h
    rw [nI_tI' (hb r (Nat.le_refl r))] at this
    have e : (-1 : Int32).toInt = -1 := by decide
    omega
  · rw [if_neg z] at h
    have hgl : gm f r < 2147483648 := by
      have := gm_le f 2147483647 r (fun i hi => by have := hb i (by omega); omega)
      omega
    rw [nI_lt' (hb r (Nat.le_refl r)) hgl] at h
    refine ⟨if_neg (by omega), ?_⟩
    unfold mo
    rw [if_neg (by omega), if_neg z]
    show nI (max (gm f r) (f r)) = _
    rw [Nat.max_eq_left (by omega)]
theorem br_X10 {m : Mm} {a s r : Nat} {I : Nat → Nat → Int32} (hI : brI m a s I) : brI m a s (cpI (cpI (u2 I a 10 (nI (nv (im m (a + 1) (299 + 13 * r))))) (a + 6) 0 (nv (im m (a + 1) (299 + 13 * r))) (fun j => I (a + 1) (299 + 13 * r + 1 + j))) (a + 7) 0 169 (tb (fun e => im m (a + 1) (79 + 22 * s + 10 + e)) (fun e => im m (a + 1) (299 + 13 * r + 1 + e)) (nv (im m (a + 1) (79 + 22 * s))) (nv (im m (a + 1) (299 + 13 * r))) 0 0)) := by
  obtain ⟨h1, h2, h3⟩ := hI
  refine ⟨((h1.u2 _ (Or.inl ⟨rfl, Or.inr (Or.inl rfl)⟩)).cp _ (Or.inr (Or.inl rfl))).cp _ (Or.inr (Or.inr (Or.inl rfl))), ?_, fun e he => ?_⟩
  · rw [cpI_ne _ _ _ _ _ (by omega), cpI_ne _ _ _ _ _ (by omega), u2_n _ _ _ _ (by omega)]; exact h2
  · rw [cpI_ne _ _ _ _ _ (by omega), cpI_ne _ _ _ _ _ (by omega), u2_o _ _ _ _ (by omega)]; exact h3 e he
set_option maxRecDepth 100000 in
theorem lp_X10_bestRow (g : Gp) (cs : Nat × Nat) {m : Mm} {a : Nat} (hM : MdOk m a) {s : Nat} (hs : s < 10) (hn : NR (im m (a + 1) (79 + 22 * s)) 1 12) (hR : NR (im m (a + 1) 1) 0 30) (hrow : ∀ r, r < nv (im m (a + 1) 1) → NR (im m (a + 1) (299 + 13 * r)) 1 12) :
    ∀ d r : Nat, r + d = nv (im m (a + 1) 1) → ∀ I, brI m a s I → ∀ L0, L0 = [(4, Value.int (nI r)), (3, .int (mo (mf (im m (a + 1)) (79 + 22 * s)) r)), (2, .int (lm (mf (im m (a + 1)) (79 + 22 * s)) r)), (0, .ref a), (1, .int (nI s))] → G g (MX10_bestRow cs) (eQ m (some (.int (lm (mf (im m (a + 1)) (79 + 22 * s)) (nv (im m (a + 1) 1))))) (brI m a s)) 12 L0 [] (0, 0) (wI m I) := by
  intro d
  induction d with
  | zero =>
    intro r hr I hI L0 hL
    subst hL
    obtain rfl : r = nv (im m (a + 1) 1) := by omega
    have hR2 := hR.hi
    refine g_iload 4 dX10_bestRow_12 rfl ?_
    refine g_aload_n 0 dX10_bestRow_14 rfl rfl ?_
    refine gN_getR (a + 1) flX10_7 (fun _ _ _ => rfl) 0 (hM.t) (hM.r0) dX10_bestRow_15 ?_
    refine gN_iconst 1 dX10_bestRow_18 (by decide) ?_
    refine gN_iald 689 (hM.t1) (by first | omega | exact b01_lt _) (by first | omega | exact b01_lt _) dX10_bestRow_19 ?_
    refine g_ei (nI (nv (im m (a + 1) 1))) ((hI.1.zz 1).trans hR.e) ?_
    refine gN_icmp_ge 67 dX10_bestRow_20 (by decide) (by first | omega | exact b01_lt _) (by first | omega | exact b01_lt _) (fun h_20 => ?_) (fun h_20 => ?_)
    · refine g_iload_n 2 dX10_bestRow_67 rfl rfl ?_
      refine g_iret rfl dX10_bestRow_68 ⟨Nat.zero_le _, Nat.zero_le _⟩ ?_
      exact ⟨rfl, I, rfl, hI⟩
    · exfalso; omega
  | succ d ih =>
    intro r hr I hI L0 hL
    subst hL
    have hr1 : r < nv (im m (a + 1) 1) := by omega
    have hR2 := hR.hi
    have hk := hrow r hr1
    have hk1 := hk.lo
    have hk2 := hk.hi
    have hn1 := hn.lo
    have hn2 := hn.hi
    have hfb : ∀ i, i ≤ r → mf (im m (a + 1)) (79 + 22 * s) i < 2147483648 := fun i hi => Nat.lt_of_le_of_lt (mf_le (im m (a + 1)) (79 + 22 * s) i (by omega)) (by decide)

    refine g_iload 4 dX10_bestRow_12 rfl ?_
    refine g_aload_n 0 dX10_bestRow_14 rfl rfl ?_
    refine gN_getR (a + 1) flX10_7 (fun _ _ _ => rfl) 0 (hM.t) (hM.r0) dX10_bestRow_15 ?_
    refine gN_iconst 1 dX10_bestRow_18 (by decide) ?_
    refine gN_iald 689 (hM.t1) (by first | omega | exact b01_lt _) (by first | omega | exact b01_lt _) dX10_bestRow_19 ?_
    refine g_ei (nI (nv (im m (a + 1) 1))) ((hI.1.zz 1).trans hR.e) ?_
    refine gN_icmp_ge 67 dX10_bestRow_20 (by decide) (by first | omega | exact b01_lt _) (by first | omega | exact b01_lt _) (fun h_20 => ?_) (fun h_20 => ?_)
    · exfalso; omega
    · refine g_aload_n 0 dX10_bestRow_23 rfl rfl ?_
      refine g_iload 4 dX10_bestRow_24 rfl ?_
      refine gd_callV _ _ _ _ (cn_X10_layRow g (0, 0) (m := wI m I) hM (s := r) (n := nv (im m (a + 1) (299 + 13 * r))) (by omega) ((hI.1.zz _).trans hk.e) hk2) ⟨rfl, rfl⟩ (ok_X10_layRow _) mlX10_66 in_X10_layRow se_X10_layRow 10 0 (hM.t) rfl rfl rfl ⟨Nat.le_of_ble_eq_true rfl, Nat.le_of_ble_eq_true rfl⟩ (by exact Nat.le_of_ble_eq_true rfl) ⟨Nat.zero_le _, Nat.zero_le _⟩ dX10_bestRow_26 rfl ?_
      refine g_aload_n 0 dX10_bestRow_29 rfl rfl ?_
      have h9 : (cpI (u2 I a 10 (nI (nv (im m (a + 1) (299 + 13 * r))))) (a + 6) 0 (nv (im m (a + 1) (299 + 13 * r))) (fun j => I (a + 1) (299 + 13 * r + 1 + j))) a 9 = nI (nv (im m (a + 1) (79 + 22 * s))) := by rw [cpI_ne _ _ _ _ _ (by omega), u2_n _ _ _ _ (by omega)]; exact hI.2.1
      have h10 : (cpI (u2 I a 10 (nI (nv (im m (a + 1) (299 + 13 * r))))) (a + 6) 0 (nv (im m (a + 1) (299 + 13 * r))) (fun j => I (a + 1) (299 + 13 * r + 1 + j))) a 10 = nI (nv (im m (a + 1) (299 + 13 * r))) := by rw [cpI_ne _ _ _ _ _ (by omega), u2_s]
      have hu : ∀ e, e < nv (im m (a + 1) (79 + 22 * s)) → (cpI (u2 I a 10 (nI (nv (im m (a + 1) (299 + 13 * r))))) (a + 6) 0 (nv (im m (a + 1) (299 + 13 * r))) (fun j => I (a + 1) (299 + 13 * r + 1 + j))) (a + 5) e = (fun e => im m (a + 1) (79 + 22 * s + 10 + e)) e := fun e he => by rw [cpI_ne _ _ _ _ _ (by omega), u2_o _ _ _ _ (by omega)]; exact hI.2.2 e he
      have hv : ∀ e, e < nv (im m (a + 1) (299 + 13 * r)) → (cpI (u2 I a 10 (nI (nv (im m (a + 1) (299 + 13 * r))))) (a + 6) 0 (nv (im m (a + 1) (299 + 13 * r))) (fun j => I (a + 1) (299 + 13 * r + 1 + j))) (a + 6) e = (fun e => im m (a + 1) (299 + 13 * r + 1 + e)) e := fun e he => by rw [cpI_in _ _ _ _ _ (by omega) (by omega)]; exact hI.1.zz _
      refine gd_callV _ _ _ _ (cn_X10_matchNow g (0, 0) (m := wI m (cpI (u2 I a 10 (nI (nv (im m (a + 1) (299 + 13 * r))))) (a + 6) 0 (nv (im m (a + 1) (299 + 13 * r))) (fun j => I (a + 1) (299 + 13 * r + 1 + j)))) hM h9 h10 hn1 hn2 hk2 hu hv) ⟨rfl, rfl⟩ (ok_X10_matchNow _) mlX10_69 in_X10_matchNow se_X10_matchNow 10 0 (hM.t) rfl rfl rfl ⟨Nat.le_of_ble_eq_true rfl, Nat.le_of_ble_eq_true rfl⟩ (by exact Nat.le_of_ble_eq_true rfl) ⟨Nat.zero_le _, Nat.zero_le _⟩ dX10_bestRow_30 rfl ?_
      refine g_istore 5 [(5, .int (nI (mf (im m (a + 1)) (79 + 22 * s) r))), (4, .int (nI (r))), (3, .int (mo (mf (im m (a + 1)) (79 + 22 * s)) r)), (2, .int (lm (mf (im m (a + 1)) (79 + 22 * s)) r)), (0, .ref (a)), (1, .int (nI (s)))] dX10_bestRow_33 (Nat.le_of_ble_eq_true rfl) rfl ?_
      refine g_iload 5 dX10_bestRow_35 rfl ?_
      refine g_iload_n 3 dX10_bestRow_37 rfl rfl ?_
      refine g_icmp_lt 46 dX10_bestRow_38 (by decide) (fun h_38 => ?_) (fun h_38 => ?_)
      · refine g_iload_n 2 dX10_bestRow_46 rfl rfl ?_
        refine g_topi (fun v2_47 ev2_47 => ?_)
        refine g_istore_n 2 [(2, .int (v2_47)), (5, .int (nI (mf (im m (a + 1)) (79 + 22 * s) r))), (4, .int (nI (r))), (3, .int (mo (mf (im m (a + 1)) (79 + 22 * s)) r)), (0, .ref (a)), (1, .int (nI (s)))] dX10_bestRow_47 rfl (Nat.le_of_ble_eq_true rfl) rfl ?_
        refine g_iload 5 dX10_bestRow_48 rfl ?_
        refine g_iload_n 3 dX10_bestRow_50 rfl rfl ?_
        refine g_icmp_lt 59 dX10_bestRow_51 (by decide) (fun h_51 => ?_) (fun h_51 => ?_)
        · refine g_iload_n 3 dX10_bestRow_59 rfl rfl ?_
          refine g_topi (fun v3_60 ev3_60 => ?_)
          refine g_istore_n 3 [(3, .int (v3_60)), (2, .int (v2_47)), (5, .int (nI (mf (im m (a + 1)) (79 + 22 * s) r))), (4, .int (nI (r))), (0, .ref (a)), (1, .int (nI (s)))] dX10_bestRow_60 rfl (Nat.le_of_ble_eq_true rfl) rfl ?_
          refine g_iinc 4 (nI (r + 1)) 3 [(4, .int (nI (r + 1))), (3, .int (v3_60)), (2, .int (v2_47)), (5, .int (nI (mf (im m (a + 1)) (79 + 22 * s) r))), (0, .ref (a)), (1, .int (nI (s)))] dX10_bestRow_61 rfl (nI_add r 1) (Nat.le_of_ble_eq_true rfl) rfl ?_
          refine g_goto 12 dX10_bestRow_64 (by decide) ?_
          obtain ⟨q1, q2⟩ := mo_lt (mf (im m (a + 1)) (79 + 22 * s)) r 0 hfb h_38
          refine g_pick [0, 1, 2, 4, 5] rfl ?_
          exact ih (r + 1) (by omega) (cpI (cpI (u2 I a 10 (nI (nv (im m (a + 1) (299 + 13 * r))))) (a + 6) 0 (nv (im m (a + 1) (299 + 13 * r))) (fun j => I (a + 1) (299 + 13 * r + 1 + j))) (a + 7) 0 169 (tb (fun e => im m (a + 1) (79 + 22 * s + 10 + e)) (fun e => im m (a + 1) (299 + 13 * r + 1 + e)) (nv (im m (a + 1) (79 + 22 * s))) (nv (im m (a + 1) (299 + 13 * r))) 0 0)) (br_X10 hI) _ (by show _ = [(4, Value.int (nI (r + 1))), (3, .int (mo (mf (im m (a + 1)) (79 + 22 * s)) (r + 1))), (2, .int (if gm (mf (im m (a + 1)) (79 + 22 * s)) r ≤ mf (im m (a + 1)) (79 + 22 * s) r then nI r else lm (mf (im m (a + 1)) (79 + 22 * s)) r)), (0, .ref a), (1, .int (nI s))]; rw [q1, q2, ev2_47, ev3_60]; rfl)
        · exact absurd h_38 h_51
      · refine g_iload 4 dX10_bestRow_41 rfl ?_
        refine g_goto 47 dX10_bestRow_43 (by decide) ?_
        refine g_istore_n 2 [(2, .int (nI (r))), (5, .int (nI (mf (im m (a + 1)) (79 + 22 * s) r))), (4, .int (nI (r))), (3, .int (mo (mf (im m (a + 1)) (79 + 22 * s)) r)), (0, .ref (a)), (1, .int (nI (s)))] dX10_bestRow_47 rfl (Nat.le_of_ble_eq_true rfl) rfl ?_
        refine g_iload 5 dX10_bestRow_48 rfl ?_
        refine g_iload_n 3 dX10_bestRow_50 rfl rfl ?_
        refine g_icmp_lt 59 dX10_bestRow_51 (by decide) (fun h_51 => ?_) (fun h_51 => ?_)
        · exact absurd h_51 h_38
        · refine g_iload 5 dX10_bestRow_54 rfl ?_
          refine g_goto 60 dX10_bestRow_56 (by decide) ?_
          refine g_istore_n 3 [(3, .int (nI (mf (im m (a + 1)) (79 + 22 * s) r))), (2, .int (nI (r))), (5, .int (nI (mf (im m (a + 1)) (79 + 22 * s) r))), (4, .int (nI (r))), (0, .ref (a)), (1, .int (nI (s)))] dX10_bestRow_60 rfl (Nat.le_of_ble_eq_true rfl) rfl ?_
          refine g_iinc 4 (nI (r + 1)) 3 [(4, .int (nI (r + 1))), (3, .int (nI (mf (im m (a + 1)) (79 + 22 * s) r))), (2, .int (nI (r))), (5, .int (nI (mf (im m (a + 1)) (79 + 22 * s) r))), (0, .ref (a)), (1, .int (nI (s)))] dX10_bestRow_61 rfl (nI_add r 1) (Nat.le_of_ble_eq_true rfl) rfl ?_
          refine g_goto 12 dX10_bestRow_64 (by decide) ?_
          obtain ⟨q1, q2⟩ := mo_ge (mf (im m (a + 1)) (79 + 22 * s)) r 0 hfb h_38
          refine g_pick [0, 1, 2, 4, 5] rfl ?_
          exact ih (r + 1) (by omega) (cpI (cpI (u2 I a 10 (nI (nv (im m (a + 1) (299 + 13 * r))))) (a + 6) 0 (nv (im m (a + 1) (299 + 13 * r))) (fun j => I (a + 1) (299 + 13 * r + 1 + j))) (a + 7) 0 169 (tb (fun e => im m (a + 1) (79 + 22 * s + 10 + e)) (fun e => im m (a + 1) (299 + 13 * r + 1 + e)) (nv (im m (a + 1) (79 + 22 * s))) (nv (im m (a + 1) (299 + 13 * r))) 0 0)) (br_X10 hI) _ (by show _ = [(4, Value.int (nI (r + 1))), (3, .int (mo (mf (im m (a + 1)) (79 + 22 * s)) (r + 1))), (2, .int (if gm (mf (im m (a + 1)) (79 + 22 * s)) r ≤ mf (im m (a + 1)) (79 + 22 * s) r then nI r else lm (mf (im m (a + 1)) (79 + 22 * s)) r)), (0, .ref a), (1, .int (nI s))]; rw [q1, q2]; rfl)
theorem br_0 {m : Mm} {a s : Nat} : brI m a s (cpI (u2 (im m) a 9 (nI (nv (im m (a + 1) (79 + 22 * s))))) (a + 5) 0 (nv (im m (a + 1) (79 + 22 * s))) (fun j => im m (a + 1) (79 + 22 * s + 10 + j))) := by
  refine ⟨(sc.rf.u2 _ (Or.inl ⟨rfl, Or.inl rfl⟩)).cp _ (Or.inl rfl), ?_, fun e he => ?_⟩
  · rw [cpI_ne _ _ _ _ _ (by omega), u2_s]
  · rw [cpI_in _ _ _ _ _ (by omega) (by omega)]; rfl
set_option maxRecDepth 100000 in
theorem cn_X10_bestRow (g : Gp) (cs : Nat × Nat) {m : Mm} {a : Nat} (hM : MdOk m a) {s : Nat} (hs : s < 10) (hn : NR (im m (a + 1) (79 + 22 * s)) 1 12) (hR : NR (im m (a + 1) 1) 0 30) (hrow : ∀ r, r < nv (im m (a + 1) 1) → NR (im m (a + 1) (299 + 13 * r)) 1 12) : En g (MX10_bestRow cs) [.ref (a), .int (nI (s))] m (some (.int (lm (mf (im m (a + 1)) (79 + 22 * s)) (nv (im m (a + 1) 1))))) (brI m a s) := by
  refine Cn.of pn_X10 (Nat.le_of_ble_eq_true rfl) rfl ?_
  refine g_iconst (-1) dX10_bestRow_0 (by decide) ?_
  refine g_topi (fun v2_1 ev2_1 => ?_)
  refine g_istore_n 2 [(2, .int (v2_1)), (0, .ref (a)), (1, .int (nI (s)))] dX10_bestRow_1 rfl (Nat.le_of_ble_eq_true rfl) rfl ?_
  refine g_iconst (-1) dX10_bestRow_2 (by decide) ?_
  refine g_topi (fun v3_3 ev3_3 => ?_)
  refine g_istore_n 3 [(3, .int (v3_3)), (2, .int (v2_1)), (0, .ref (a)), (1, .int (nI (s)))] dX10_bestRow_3 rfl (Nat.le_of_ble_eq_true rfl) rfl ?_
  refine g_aload_n 0 dX10_bestRow_4 rfl rfl ?_
  refine g_iload_n 1 dX10_bestRow_5 rfl rfl ?_
  refine gd_callV _ _ _ _ (cn_X10_layOne g (0, 0) hM (n := nv (im m (a + 1) (79 + 22 * s))) hs hn.e hn.hi) ⟨rfl, rfl⟩ (ok_X10_layOne _) mlX10_62 in_X10_layOne se_X10_layOne 10 0 (hM.t) rfl rfl rfl ⟨Nat.le_of_ble_eq_true rfl, Nat.le_of_ble_eq_true rfl⟩ (by exact Nat.le_of_ble_eq_true rfl) ⟨Nat.zero_le _, Nat.zero_le _⟩ dX10_bestRow_6 rfl ?_
  refine gN_iconst 0 dX10_bestRow_9 (by decide) ?_
  refine g_istore 4 [(4, .int (nI (0))), (3, .int (v3_3)), (2, .int (v2_1)), (0, .ref (a)), (1, .int (nI (s)))] dX10_bestRow_10 (Nat.le_of_ble_eq_true rfl) rfl ?_
  refine g_pick [0, 1, 2, 3, 4] rfl ?_
  exact lp_X10_bestRow g cs hM hs hn hR hrow _ 0 (Nat.zero_add _) _ br_0 _ (by rw [ev2_1, ev3_3]; rfl)
theorem lm_X10 {f : Nat → Nat} {n : Nat} (hn : n ≤ 30) : (lm f n = -1 ∧ n = 0) ∨ ∃ b, b < n ∧ lm f n = nI b ∧ f b = gm f n := by
  rcases Nat.eq_zero_or_pos n with z | z
  · subst z; exact Or.inl ⟨rfl, rfl⟩
  · exact Or.inr (lm_spec f n z)
set_option maxRecDepth 100000 in
theorem cn_X10_matchOf (g : Gp) (cs : Nat × Nat) {m : Mm} {a : Nat} (hM : MdOk m a) {s : Nat} (hs : s < 10) (hn : NR (im m (a + 1) (79 + 22 * s)) 1 12) (hR : NR (im m (a + 1) 1) 0 30) (hrow : ∀ r, r < nv (im m (a + 1) 1) → NR (im m (a + 1) (299 + 13 * r)) 1 12) : En g (MX10_matchOf cs) [.ref a, .int (nI s)] m (some (.int (nI (mtc (im m (a + 1)) (79 + 22 * s))))) (sc a (im m)) := by
  have hR2 := hR.hi
  have hn1 := hn.lo
  have hn2 := hn.hi
  rcases lm_X10 (f := mf (im m (a + 1)) (79 + 22 * s)) (n := nv (im m (a + 1) 1)) hR2 with ⟨e1, e2⟩ | ⟨b, hb1, hb2, hb3⟩
  · refine Cn.of pn_X10 (Nat.le_of_ble_eq_true rfl) rfl ?_
    refine g_aload_n 0 dX10_matchOf_0 rfl rfl ?_
    refine g_iload_n 1 dX10_matchOf_1 rfl rfl ?_
    refine ge_callV _ _ _ (cn_X10_bestRow g (0, 0) hM hs hn hR hrow) ⟨rfl, rfl⟩ (ok_X10_bestRow _) mlX10_72 in_X10_bestRow se_X10_bestRow 10 0 (hM.t) rfl rfl rfl ⟨Nat.le_of_ble_eq_true rfl, Nat.le_of_ble_eq_true rfl⟩ (by exact Nat.le_of_ble_eq_true rfl) ⟨Nat.zero_le _, Nat.zero_le _⟩ dX10_matchOf_2 rfl (fun I1 hI1 => ?_)
    rw [e1]
    refine g_istore_n 2 [(2, .int (-1)), (0, .ref (a)), (1, .int (nI (s)))] dX10_matchOf_5 rfl (Nat.le_of_ble_eq_true rfl) rfl ?_
    refine g_iload_n 2 dX10_matchOf_6 rfl rfl ?_
    refine g_iconst (-1) dX10_matchOf_7 (by decide) ?_
    refine g_icmp_ne 13 dX10_matchOf_8 (by decide) (fun h_8 => ?_) (fun h_8 => ?_)
    · exact absurd rfl h_8
    · refine gN_iconst 0 dX10_matchOf_11 (by decide) ?_
      refine g_iret rfl dX10_matchOf_12 ⟨Nat.zero_le _, Nat.zero_le _⟩ ?_
      exact ⟨by unfold mtc; rw [e2]; rfl, I1, rfl, hI1.1⟩
  · refine Cn.of pn_X10 (Nat.le_of_ble_eq_true rfl) rfl ?_
    have hb9 : b < 2147483648 := by omega
    refine g_aload_n 0 dX10_matchOf_0 rfl rfl ?_
    refine g_iload_n 1 dX10_matchOf_1 rfl rfl ?_
    refine ge_callV _ _ _ (cn_X10_bestRow g (0, 0) hM hs hn hR hrow) ⟨rfl, rfl⟩ (ok_X10_bestRow _) mlX10_72 in_X10_bestRow se_X10_bestRow 10 0 (hM.t) rfl rfl rfl ⟨Nat.le_of_ble_eq_true rfl, Nat.le_of_ble_eq_true rfl⟩ (by exact Nat.le_of_ble_eq_true rfl) ⟨Nat.zero_le _, Nat.zero_le _⟩ dX10_matchOf_2 rfl (fun I1 hI1 => ?_)
    rw [hb2]
    refine g_istore_n 2 [(2, .int (nI (b))), (0, .ref (a)), (1, .int (nI (s)))] dX10_matchOf_5 rfl (Nat.le_of_ble_eq_true rfl) rfl ?_
    refine g_iload_n 2 dX10_matchOf_6 rfl rfl ?_
    refine g_iconst (-1) dX10_matchOf_7 (by decide) ?_
    refine g_icmp_ne 13 dX10_matchOf_8 (by decide) (fun h_8 => ?_) (fun h_8 => ?_)
    · refine g_aload_n 0 dX10_matchOf_13 rfl rfl ?_
      refine g_iload_n 2 dX10_matchOf_14 rfl rfl ?_
      refine gd_callV _ _ _ _ (cn_X10_layRow g (0, 0) (m := wI m I1) hM (s := b) (n := nv (im m (a + 1) (299 + 13 * b))) (by omega) ((hI1.1.zz _).trans (hrow b hb1).e) (hrow b hb1).hi) ⟨rfl, rfl⟩ (ok_X10_layRow _) mlX10_66 in_X10_layRow se_X10_layRow 10 0 (hM.t) rfl rfl rfl ⟨Nat.le_of_ble_eq_true rfl, Nat.le_of_ble_eq_true rfl⟩ (by exact Nat.le_of_ble_eq_true rfl) ⟨Nat.zero_le _, Nat.zero_le _⟩ dX10_matchOf_15 rfl ?_
      refine g_aload_n 0 dX10_matchOf_18 rfl rfl ?_
      have h9 : (cpI (u2 I1 a 10 (nI (nv (im m (a + 1) (299 + 13 * b))))) (a + 6) 0 (nv (im m (a + 1) (299 + 13 * b))) (fun j => I1 (a + 1) (299 + 13 * b + 1 + j))) a 9 = I1 a 9 := by rw [cpI_ne _ _ _ _ _ (by omega), u2_n _ _ _ _ (by omega)]
      have h10 : (cpI (u2 I1 a 10 (nI (nv (im m (a + 1) (299 + 13 * b))))) (a + 6) 0 (nv (im m (a + 1) (299 + 13 * b))) (fun j => I1 (a + 1) (299 + 13 * b + 1 + j))) a 10 = nI (nv (im m (a + 1) (299 + 13 * b))) := by rw [cpI_ne _ _ _ _ _ (by omega), u2_s]
      have hv : ∀ e, e < nv (im m (a + 1) (299 + 13 * b)) → (cpI (u2 I1 a 10 (nI (nv (im m (a + 1) (299 + 13 * b))))) (a + 6) 0 (nv (im m (a + 1) (299 + 13 * b))) (fun j => I1 (a + 1) (299 + 13 * b + 1 + j))) (a + 6) e = (fun e => im m (a + 1) (299 + 13 * b + 1 + e)) e := fun e he => by rw [cpI_in _ _ _ _ _ (by omega) (by omega)]; exact hI1.1.zz _
      refine gd_callV _ _ _ _ (cn_X10_matchNow g (0, 0) (m := wI m (cpI (u2 I1 a 10 (nI (nv (im m (a + 1) (299 + 13 * b))))) (a + 6) 0 (nv (im m (a + 1) (299 + 13 * b))) (fun j => I1 (a + 1) (299 + 13 * b + 1 + j)))) hM (h9.trans hI1.2.1) h10 hn1 hn2 (hrow b hb1).hi (u := (fun e => im m (a + 1) (79 + 22 * s + 10 + e))) (v := (fun e => im m (a + 1) (299 + 13 * b + 1 + e))) (fun e he => by rw [im_wI, cpI_ne _ _ _ _ _ (by omega), u2_o _ _ _ _ (by omega)]; exact hI1.2.2 e he) hv) ⟨rfl, rfl⟩ (ok_X10_matchNow _) mlX10_69 in_X10_matchNow se_X10_matchNow 10 0 (hM.t) rfl rfl rfl ⟨Nat.le_of_ble_eq_true rfl, Nat.le_of_ble_eq_true rfl⟩ (by exact Nat.le_of_ble_eq_true rfl) ⟨Nat.zero_le _, Nat.zero_le _⟩ dX10_matchOf_19 rfl ?_
      refine g_iret rfl dX10_matchOf_22 ⟨Nat.zero_le _, Nat.zero_le _⟩ ?_
      exact ⟨by unfold mtc; rw [← hb3]; rfl, _, rfl, (br_X10 hI1).1⟩
    · exact absurd h_8 (nI_m1 hb9)
set_option maxRecDepth 100000 in
theorem cn_X10_bandNow (g : Gp) (cs : Nat × Nat) {m : Mm} {a : Nat} (hM : MdOk m a) {s : Nat} (hs : s < 10) (hn : NR (im m (a + 1) (79 + 22 * s)) 1 12) (hR : NR (im m (a + 1) 1) 0 30) (hrow : ∀ r, r < nv (im m (a + 1) 1) → NR (im m (a + 1) (299 + 13 * r)) 1 12) : En g (MX10_bandNow cs) [.ref (a), .int (nI (s))] m (some (.int (nI (bandOf (mtc (im m (a + 1)) (79 + 22 * s)))))) (sc a (im m)) := by
  have hm := gm_le (mf (im m (a + 1)) (79 + 22 * s)) 100 (nv (im m (a + 1) 1)) (fun i _ => mf_le (im m (a + 1)) (79 + 22 * s) i (by have := hn.lo; omega))
  have hm2 : mtc (im m (a + 1)) (79 + 22 * s) ≤ 100 := hm
  refine Cn.of pn_X10 (Nat.le_of_ble_eq_true rfl) rfl ?_
  refine g_aload_n 0 dX10_bandNow_0 rfl rfl ?_
  refine g_iload_n 1 dX10_bandNow_1 rfl rfl ?_
  refine ge_callV _ _ _ (cn_X10_matchOf g (0, 0) hM hs hn hR hrow) ⟨rfl, rfl⟩ (ok_X10_matchOf _) mlX10_75 in_X10_matchOf se_X10_matchOf 10 0 (hM.t) rfl rfl rfl ⟨Nat.le_of_ble_eq_true rfl, Nat.le_of_ble_eq_true rfl⟩ (by exact Nat.le_of_ble_eq_true rfl) ⟨Nat.zero_le _, Nat.zero_le _⟩ dX10_bandNow_2 rfl (fun I1 hI1 => ?_)
  refine g_istore_n 2 [(2, .int (nI (mtc (im m (a + 1)) (79 + 22 * s)))), (0, .ref (a)), (1, .int (nI (s)))] dX10_bandNow_5 rfl (Nat.le_of_ble_eq_true rfl) rfl ?_
  refine g_iload_n 2 dX10_bandNow_6 rfl rfl ?_
  refine gN_bipush 100 dX10_bandNow_7 (by decide) ?_
  refine gN_icmp_ne 16 dX10_bandNow_9 (by decide) (by first | omega | exact b01_lt _) (by first | omega | exact b01_lt _) (fun h_9 => ?_) (fun h_9 => ?_)
  · refine g_iload_n 2 dX10_bandNow_16 rfl rfl ?_
    refine gN_bipush 85 dX10_bandNow_17 (by decide) ?_
    refine gN_icmp_lt 26 dX10_bandNow_19 (by decide) (by first | omega | exact b01_lt _) (by first | omega | exact b01_lt _) (fun h_19 => ?_) (fun h_19 => ?_)
    · refine g_iload_n 2 dX10_bandNow_26 rfl rfl ?_
      refine gN_bipush 70 dX10_bandNow_27 (by decide) ?_
      refine gN_icmp_lt 36 dX10_bandNow_29 (by decide) (by first | omega | exact b01_lt _) (by first | omega | exact b01_lt _) (fun h_29 => ?_) (fun h_29 => ?_)
      · refine g_iload_n 2 dX10_bandNow_36 rfl rfl ?_
        refine gN_bipush 50 dX10_bandNow_37 (by decide) ?_
        refine gN_icmp_lt 46 dX10_bandNow_39 (by decide) (by first | omega | exact b01_lt _) (by first | omega | exact b01_lt _) (fun h_39 => ?_) (fun h_39 => ?_)
        · refine gN_iconst 4 dX10_bandNow_46 (by decide) ?_
          refine g_iret rfl dX10_bandNow_47 ⟨Nat.zero_le _, Nat.zero_le _⟩ ?_
          exact ⟨by rw [show bandOf (mtc (im m (a + 1)) (79 + 22 * s)) = 4 from by unfold bandOf; split <;> (try split) <;> (try split) <;> (try split) <;> omega], I1, rfl, hI1⟩
        · refine gN_iconst 3 dX10_bandNow_42 (by decide) ?_
          refine g_goto 47 dX10_bandNow_43 (by decide) ?_
          refine g_iret rfl dX10_bandNow_47 ⟨Nat.zero_le _, Nat.zero_le _⟩ ?_
          exact ⟨by rw [show bandOf (mtc (im m (a + 1)) (79 + 22 * s)) = 3 from by unfold bandOf; split <;> (try split) <;> (try split) <;> (try split) <;> omega], I1, rfl, hI1⟩
      · refine gN_iconst 2 dX10_bandNow_32 (by decide) ?_
        refine g_goto 47 dX10_bandNow_33 (by decide) ?_
        refine g_iret rfl dX10_bandNow_47 ⟨Nat.zero_le _, Nat.zero_le _⟩ ?_
        exact ⟨by rw [show bandOf (mtc (im m (a + 1)) (79 + 22 * s)) = 2 from by unfold bandOf; split <;> (try split) <;> (try split) <;> (try split) <;> omega], I1, rfl, hI1⟩
    · refine gN_iconst 1 dX10_bandNow_22 (by decide) ?_
      refine g_goto 47 dX10_bandNow_23 (by decide) ?_
      refine g_iret rfl dX10_bandNow_47 ⟨Nat.zero_le _, Nat.zero_le _⟩ ?_
      exact ⟨by rw [show bandOf (mtc (im m (a + 1)) (79 + 22 * s)) = 1 from by unfold bandOf; split <;> (try split) <;> (try split) <;> (try split) <;> omega], I1, rfl, hI1⟩
  · refine gN_iconst 0 dX10_bandNow_12 (by decide) ?_
    refine g_goto 47 dX10_bandNow_13 (by decide) ?_
    refine g_iret rfl dX10_bandNow_47 ⟨Nat.zero_le _, Nat.zero_le _⟩ ?_
    exact ⟨by rw [show bandOf (mtc (im m (a + 1)) (79 + 22 * s)) = 0 from by unfold bandOf; split <;> (try split) <;> (try split) <;> (try split) <;> omega], I1, rfl, hI1⟩
set_option maxRecDepth 100000 in
theorem cn_X10_partNow (g : Gp) (cs : Nat × Nat) {m : Mm} {a : Nat} (hM : MdOk m a) {s : Nat} (hs : s < 10) (hn : NR (im m (a + 1) (79 + 22 * s)) 1 12) (hR : NR (im m (a + 1) 1) 0 30) (hrow : ∀ r, r < nv (im m (a + 1) 1) → NR (im m (a + 1) (299 + 13 * r)) 1 12) : En g (MX10_partNow cs) [.ref (a), .int (nI (s))] m (some (.int ((im m (a + 1)) (64 + 3 * bandOf (mtc (im m (a + 1)) (79 + 22 * s)))))) (sc a (im m)) := by
  have hb4 := bandOf_le (mtc (im m (a + 1)) (79 + 22 * s))
  refine Cn.of pn_X10 (Nat.le_of_ble_eq_true rfl) rfl ?_
  refine g_aload_n 0 dX10_partNow_0 rfl rfl ?_
  refine gN_getR (a + 1) flX10_7 (fun _ _ _ => rfl) 0 (hM.t) (hM.r0) dX10_partNow_1 ?_
  refine gN_bipush 64 dX10_partNow_4 (by decide) ?_
  refine gN_iconst 3 dX10_partNow_6 (by decide) ?_
  refine g_aload_n 0 dX10_partNow_7 rfl rfl ?_
  refine g_iload_n 1 dX10_partNow_8 rfl rfl ?_
  refine ge_callV _ _ _ (cn_X10_bandNow g (0, 0) hM hs hn hR hrow) ⟨rfl, rfl⟩ (ok_X10_bandNow _) mlX10_78 in_X10_bandNow se_X10_bandNow 10 0 (hM.t) rfl rfl rfl ⟨Nat.le_of_ble_eq_true rfl, Nat.le_of_ble_eq_true rfl⟩ (by exact Nat.le_of_ble_eq_true rfl) ⟨Nat.zero_le _, Nat.zero_le _⟩ dX10_partNow_9 rfl (fun I1 hI1 => ?_)
  refine gN_imul (3 * (bandOf (mtc (im m (a + 1)) (79 + 22 * s)))) dX10_partNow_12 rfl ?_
  refine gN_iadd (64 + (3 * (bandOf (mtc (im m (a + 1)) (79 + 22 * s))))) dX10_partNow_13 rfl ?_
  refine gN_iald 689 (hM.t1) (by first | omega | exact b01_lt _) (by first | omega | exact b01_lt _) dX10_partNow_14 ?_
  refine g_iret rfl dX10_partNow_15 ⟨Nat.zero_le _, Nat.zero_le _⟩ ?_
  exact ⟨congrArg (fun x => Sum.inl (some (Value.int x))) (hI1.zz _), I1, rfl, hI1⟩
theorem fx_X10 {a s b : Nat} {I J : Nat → Nat → Int32} (h : sc a I J) (hs : s < 10) (hb : b ≤ 4) : sc a (u2 (u2 I (a + 1) (79 + 22 * s + 3) (nI b)) (a + 1) (79 + 22 * s + 4) (I (a + 1) (64 + 3 * b))) (u2 (u2 J (a + 1) (79 + 22 * s + 3) (nI b)) (a + 1) (79 + 22 * s + 4) (u2 J (a + 1) (79 + 22 * s + 3) (nI b) (a + 1) (64 + 3 * b))) := by
  intro x y hxy
  have e1 : u2 J (a + 1) (79 + 22 * s + 3) (nI b) (a + 1) (64 + 3 * b) = I (a + 1) (64 + 3 * b) := by rw [u2_n _ _ _ _ (by omega)]; exact h.zz _
  rw [e1]
  unfold u2
  split
  · rfl
  · split
    · rfl
    · exact h x y hxy
set_option maxRecDepth 100000 in
theorem cn_X10_fix (g : Gp) (cs : Nat × Nat) {m : Mm} {a : Nat} (hM : MdOk m a) {s : Nat} (hs : s < 10) (hn : NR (im m (a + 1) (79 + 22 * s)) 1 12) (hR : NR (im m (a + 1) 1) 0 30) (hrow : ∀ r, r < nv (im m (a + 1) 1) → NR (im m (a + 1) (299 + 13 * r)) 1 12) : En g (MX10_fix cs) [.ref a, .int (nI s)] m none (sc a (u2 (u2 (im m) (a + 1) (79 + 22 * s + 3) (nI (bandOf (mtc (im m (a + 1)) (79 + 22 * s))))) (a + 1) (79 + 22 * s + 4) ((im m (a + 1)) (64 + 3 * bandOf (mtc (im m (a + 1)) (79 + 22 * s)))))) := by
  have hb4 := bandOf_le (mtc (im m (a + 1)) (79 + 22 * s))
  refine Cn.of pn_X10 (Nat.le_of_ble_eq_true rfl) rfl ?_
  refine g_aload_n 0 dX10_fix_0 rfl rfl ?_
  refine g_iload_n 1 dX10_fix_1 rfl rfl ?_
  refine ge_callV _ _ _ (cn_X10_bandNow g (0, 0) hM hs hn hR hrow) ⟨rfl, rfl⟩ (ok_X10_bandNow _) mlX10_78 in_X10_bandNow se_X10_bandNow 10 0 (hM.t) rfl rfl rfl ⟨Nat.le_of_ble_eq_true rfl, Nat.le_of_ble_eq_true rfl⟩ (by exact Nat.le_of_ble_eq_true rfl) ⟨Nat.zero_le _, Nat.zero_le _⟩ dX10_fix_2 rfl (fun I1 hI1 => ?_)
  refine g_istore_n 2 [(2, .int (nI (bandOf (mtc (im m (a + 1)) (79 + 22 * s))))), (0, .ref (a)), (1, .int (nI (s)))] dX10_fix_5 rfl (Nat.le_of_ble_eq_true rfl) rfl ?_
  refine g_aload_n 0 dX10_fix_6 rfl rfl ?_
  refine gN_getR (a + 1) flX10_7 (fun _ _ _ => rfl) 0 (hM.t) (hM.r0) dX10_fix_7 ?_
  refine g_iload_n 1 dX10_fix_10 rfl rfl ?_
  refine gd_callS _ _ _ _ (cn_X10_at g (0, 0) _ s) ⟨rfl, rfl⟩ (ok_X10_at _) mlX10_45 st_X10_at rfl ⟨Nat.le_of_ble_eq_true rfl, Nat.le_of_ble_eq_true rfl⟩ (by exact Nat.le_of_ble_eq_true rfl) ⟨Nat.zero_le _, Nat.zero_le _⟩ dX10_fix_11 rfl ?_
  refine gN_iconst 3 dX10_fix_14 (by decide) ?_
  refine gN_iadd ((79 + 22 * s) + 3) dX10_fix_15 rfl ?_
  refine g_iload_n 2 dX10_fix_16 rfl rfl ?_
  refine gN_iast 689 (hM.t1) (by first | omega | exact b01_lt _) (by first | omega | exact b01_lt _) dX10_fix_17 ?_
  refine g_aload_n 0 dX10_fix_18 rfl rfl ?_
  refine gN_getR (a + 1) flX10_7 (fun _ _ _ => rfl) 0 (hM.t) (hM.r0) dX10_fix_19 ?_
  refine g_iload_n 1 dX10_fix_22 rfl rfl ?_
  refine gd_callS _ _ _ _ (cn_X10_at g (0, 0) _ s) ⟨rfl, rfl⟩ (ok_X10_at _) mlX10_45 st_X10_at rfl ⟨Nat.le_of_ble_eq_true rfl, Nat.le_of_ble_eq_true rfl⟩ (by exact Nat.le_of_ble_eq_true rfl) ⟨Nat.zero_le _, Nat.zero_le _⟩ dX10_fix_23 rfl ?_
  refine gN_iconst 4 dX10_fix_26 (by decide) ?_
  refine gN_iadd ((79 + 22 * s) + 4) dX10_fix_27 rfl ?_
  refine g_aload_n 0 dX10_fix_28 rfl rfl ?_
  refine gN_getR (a + 1) flX10_7 (fun _ _ _ => rfl) 0 (hM.t) (hM.r0) dX10_fix_29 ?_
  refine gN_bipush 64 dX10_fix_32 (by decide) ?_
  refine gN_iconst 3 dX10_fix_34 (by decide) ?_
  refine g_iload_n 2 dX10_fix_35 rfl rfl ?_
  refine gN_imul (3 * (bandOf (mtc (im m (a + 1)) (79 + 22 * s)))) dX10_fix_36 rfl ?_
  refine gN_iadd (64 + (3 * (bandOf (mtc (im m (a + 1)) (79 + 22 * s))))) dX10_fix_37 rfl ?_
  refine gN_iald 689 (hM.t1) (by first | omega | exact b01_lt _) (by first | omega | exact b01_lt _) dX10_fix_38 ?_
  refine gN_iast 689 (hM.t1) (by first | omega | exact b01_lt _) (by first | omega | exact b01_lt _) dX10_fix_39 ?_
  refine g_vret rfl dX10_fix_40 ⟨Nat.zero_le _, Nat.zero_le _⟩ ?_
  refine ⟨rfl, _, rfl, fun x y hxy => ?_⟩
  exact fx_X10 hI1 hs hb4 x y hxy
