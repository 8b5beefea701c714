/-! NEAR, SAVED, WORDCOST -/
theorem g_hideI {g : Gp} {M : MI} {Q : Rs → Mm → Prop} {pc : Nat} {L : List (Nat × Value)} {st : List Value} {u : Nat × Nat} {m : Mm} {I : Nat → Nat → Int32} {P : (Nat → Nat → Int32) → Prop} (h : P I) (k : ∀ I, P I → G g M Q pc L st u (wI m I)) : G g M Q pc L st u (wI m I) := k I h
/-- the longest common row of the segment at p and the row r of the memory -/
abbrev lcz (z : Nat → Int32) (p r : Nat) : Nat := tt (fun e => z (p + 10 + e)) (fun e => z (299 + 13 * r + 1 + e)) (nv (z p)) (nv (z (299 + 13 * r))) 0 0
/-- the bits of the quotient of two numbers -/
def fqV (a b : Nat) : Int32 := (FP.fdiv (FP.i2f (nI a)) (FP.i2f (nI b))).toInt32
def nearV (z : Nat → Int32) (p r w : Nat) : Int32 := if w = 0 then nI (mf z p r) else if w = 1 then nI (lcz z p r) else fqV (2 * lcz z p r) (nv (z p) + nv (z (299 + 13 * r)))
set_option maxRecDepth 100000 in
theorem cn_X10_nearOf0 (g : Gp) (cs : Nat × Nat) {m : Mm} {a : Nat} (hM : MdOk m a) {s : Nat} (hs : s < 10) (hn : NR (im m (a + 1) (79 + 22 * s)) 1 12) (hR : NR (im m (a + 1) 1) 0 30) (hrow : ∀ r, r < nv (im m (a + 1) 1) → NR (im m (a + 1) (299 + 13 * r)) 1 12) {r : Nat} (hr1 : r < nv (im m (a + 1) 1)) : En g (MX10_nearOf cs) [.ref a, .int (nI s), .int (nI r), .int (nI 0)] m (some (.int (nI (mf (im m (a + 1)) (79 + 22 * s) r)))) (sc a (im m)) := by
  have hR2 := hR.hi
  have hk := hrow r hr1
  have hk1 := hk.lo
  have hk2 := hk.hi
  have hn1 := hn.lo
  have hn2 := hn.hi
  have hl : lcz (im m (a + 1)) (79 + 22 * s) r ≤ nv (im m (a + 1) (79 + 22 * s)) := tt_le _ _ _ _ _ _
  refine Cn.of pn_X10 (Nat.le_of_ble_eq_true rfl) rfl ?_
  refine g_aload_n 0 dX10_nearOf_0 rfl rfl ?_
  refine g_iload_n 1 dX10_nearOf_1 rfl rfl ?_
  refine gd_callV _ _ _ _ (cn_X10_layOne g (0, 0) hM (n := nv (im m (a + 1) (79 + 22 * s))) hs hn.e hn.hi) ⟨rfl, rfl⟩ (ok_X10_layOne _) mlX10_62 in_X10_layOne se_X10_layOne 10 0 (hM.t) rfl rfl rfl ⟨Nat.le_of_ble_eq_true rfl, Nat.le_of_ble_eq_true rfl⟩ (by exact Nat.le_of_ble_eq_true rfl) ⟨Nat.zero_le _, Nat.zero_le _⟩ dX10_nearOf_2 rfl ?_
  refine g_hideI (P := brI m a s) br_0 (fun I hI => ?_)
  refine g_aload_n 0 dX10_nearOf_5 rfl rfl ?_
  refine g_iload_n 2 dX10_nearOf_6 rfl rfl ?_
  refine gd_callV _ _ _ _ (cn_X10_layRow g (0, 0) (m := wI m I) hM (s := r) (n := nv (im m (a + 1) (299 + 13 * r))) (by omega) ((hI.1.zz _).trans hk.e) hk2) ⟨rfl, rfl⟩ (ok_X10_layRow _) mlX10_66 in_X10_layRow se_X10_layRow 10 0 (hM.t) rfl rfl rfl ⟨Nat.le_of_ble_eq_true rfl, Nat.le_of_ble_eq_true rfl⟩ (by exact Nat.le_of_ble_eq_true rfl) ⟨Nat.zero_le _, Nat.zero_le _⟩ dX10_nearOf_7 rfl ?_
  refine g_aload_n 0 dX10_nearOf_10 rfl rfl ?_
  have h9 : (cpI (u2 I a 10 (nI (nv (im m (a + 1) (299 + 13 * r))))) (a + 6) 0 (nv (im m (a + 1) (299 + 13 * r))) (fun j => I (a + 1) (299 + 13 * r + 1 + j))) a 9 = nI (nv (im m (a + 1) (79 + 22 * s))) := by rw [cpI_ne _ _ _ _ _ (by omega), u2_n _ _ _ _ (by omega)]; exact hI.2.1
  have h10 : (cpI (u2 I a 10 (nI (nv (im m (a + 1) (299 + 13 * r))))) (a + 6) 0 (nv (im m (a + 1) (299 + 13 * r))) (fun j => I (a + 1) (299 + 13 * r + 1 + j))) a 10 = nI (nv (im m (a + 1) (299 + 13 * r))) := by rw [cpI_ne _ _ _ _ _ (by omega), u2_s]
  have hu : ∀ e, e < nv (im m (a + 1) (79 + 22 * s)) → (cpI (u2 I a 10 (nI (nv (im m (a + 1) (299 + 13 * r))))) (a + 6) 0 (nv (im m (a + 1) (299 + 13 * r))) (fun j => I (a + 1) (299 + 13 * r + 1 + j))) (a + 5) e = (fun e => im m (a + 1) (79 + 22 * s + 10 + e)) e := fun e he => by rw [cpI_ne _ _ _ _ _ (by omega), u2_o _ _ _ _ (by omega)]; exact hI.2.2 e he
  have hv : ∀ e, e < nv (im m (a + 1) (299 + 13 * r)) → (cpI (u2 I a 10 (nI (nv (im m (a + 1) (299 + 13 * r))))) (a + 6) 0 (nv (im m (a + 1) (299 + 13 * r))) (fun j => I (a + 1) (299 + 13 * r + 1 + j))) (a + 6) e = (fun e => im m (a + 1) (299 + 13 * r + 1 + e)) e := fun e he => by rw [cpI_in _ _ _ _ _ (by omega) (by omega)]; exact hI.1.zz _
  refine gd_callV _ _ _ _ (cn_X10_longest g (0, 0) (m := wI m (cpI (u2 I a 10 (nI (nv (im m (a + 1) (299 + 13 * r))))) (a + 6) 0 (nv (im m (a + 1) (299 + 13 * r))) (fun j => I (a + 1) (299 + 13 * r + 1 + j)))) hM h9 h10 hn2 hk2 hu hv) ⟨rfl, rfl⟩ (ok_X10_longest _) mlX10_58 in_X10_longest se_X10_longest 10 0 (hM.t) rfl rfl rfl ⟨Nat.le_of_ble_eq_true rfl, Nat.le_of_ble_eq_true rfl⟩ (by exact Nat.le_of_ble_eq_true rfl) ⟨Nat.zero_le _, Nat.zero_le _⟩ dX10_nearOf_11 rfl ?_
  refine g_istore 4 [(4, .int (nI (lcz (im m (a + 1)) (79 + 22 * s) r))), (0, .ref (a)), (1, .int (nI (s))), (2, .int (nI (r))), (3, .int (nI (0)))] dX10_nearOf_14 (Nat.le_of_ble_eq_true rfl) rfl ?_
  refine g_iload_n 3 dX10_nearOf_16 rfl rfl ?_
  refine gN_iconst 2 dX10_nearOf_17 (by decide) ?_
  refine gN_icmp_ge 48 dX10_nearOf_18 (by decide) (by first | omega | exact b01_lt _) (by first | omega | exact b01_lt _) (fun h_18 => ?_) (fun h_18 => ?_)
  · exact absurd h_18 (by decide)
  · refine g_iload_n 3 dX10_nearOf_21 rfl rfl ?_
    refine gN_iconst 1 dX10_nearOf_22 (by decide) ?_
    refine gN_icmp_ne 31 dX10_nearOf_23 (by decide) (by first | omega | exact b01_lt _) (by first | omega | exact b01_lt _) (fun h_23 => ?_) (fun h_23 => ?_)
    · refine gN_sipush 200 dX10_nearOf_31 (by decide) ?_
      refine g_iload 4 dX10_nearOf_34 rfl ?_
      refine gN_imul (200 * (lcz (im m (a + 1)) (79 + 22 * s) r)) dX10_nearOf_36 rfl ?_
      refine g_aload_n 0 dX10_nearOf_37 rfl rfl ?_
      refine gN_getI flX10_49 rfl 0 (hM.t) dX10_nearOf_38 ?_
      refine g_ei (nI (nv (im m (a + 1) (79 + 22 * s)))) ((congrFun (im_tbo (wI m (cpI (u2 I a 10 (nI (nv (im m (a + 1) (299 + 13 * r))))) (a + 6) 0 (nv (im m (a + 1) (299 + 13 * r))) (fun j => I (a + 1) (299 + 13 * r + 1 + j)))) (a + 7) (fun e => im m (a + 1) (79 + 22 * s + 10 + e)) (fun e => im m (a + 1) (299 + 13 * r + 1 + e)) (nv (im m (a + 1) (79 + 22 * s))) (nv (im m (a + 1) (299 + 13 * r))) 0 0 (by omega)) 9).trans h9) ?_
      refine g_aload_n 0 dX10_nearOf_41 rfl rfl ?_
      refine gN_getI flX10_52 rfl 0 (hM.t) dX10_nearOf_42 ?_
      refine g_ei (nI (nv (im m (a + 1) (299 + 13 * r)))) ((congrFun (im_tbo (wI m (cpI (u2 I a 10 (nI (nv (im m (a + 1) (299 + 13 * r))))) (a + 6) 0 (nv (im m (a + 1) (299 + 13 * r))) (fun j => I (a + 1) (299 + 13 * r + 1 + j)))) (a + 7) (fun e => im m (a + 1) (79 + 22 * s + 10 + e)) (fun e => im m (a + 1) (299 + 13 * r + 1 + e)) (nv (im m (a + 1) (79 + 22 * s))) (nv (im m (a + 1) (299 + 13 * r))) 0 0 (by omega)) 10).trans h10) ?_
      refine gN_iadd ((nv (im m (a + 1) (79 + 22 * s))) + (nv (im m (a + 1) (299 + 13 * r)))) dX10_nearOf_45 rfl ?_
      refine gN_idiv ((200 * (lcz (im m (a + 1)) (79 + 22 * s) r)) / ((nv (im m (a + 1) (79 + 22 * s))) + (nv (im m (a + 1) (299 + 13 * r))))) dX10_nearOf_46 (by first | omega | exact b01_lt _) (by first | omega | exact b01_lt _) (by first | omega | exact b01_lt _) rfl ?_
      refine g_iret rfl dX10_nearOf_47 ⟨Nat.zero_le _, Nat.zero_le _⟩ ?_
      exact ⟨rfl, _, rfl, (br_X10 hI).1⟩
    · exact absurd h_23 (by decide)
set_option maxRecDepth 100000 in
theorem cn_X10_nearOf1 (g : Gp) (cs : Nat × Nat) {m : Mm} {a : Nat} (hM : MdOk m a) {s : Nat} (hs : s < 10) (hn : NR (im m (a + 1) (79 + 22 * s)) 1 12) (hR : NR (im m (a + 1) 1) 0 30) (hrow : ∀ r, r < nv (im m (a + 1) 1) → NR (im m (a + 1) (299 + 13 * r)) 1 12) {r : Nat} (hr1 : r < nv (im m (a + 1) 1)) : En g (MX10_nearOf cs) [.ref a, .int (nI s), .int (nI r), .int (nI 1)] m (some (.int (nI (lcz (im m (a + 1)) (79 + 22 * s) r)))) (sc a (im m)) := by
  have hR2 := hR.hi
  have hk := hrow r hr1
  have hk1 := hk.lo
  have hk2 := hk.hi
  have hn1 := hn.lo
  have hn2 := hn.hi
  have hl : lcz (im m (a + 1)) (79 + 22 * s) r ≤ nv (im m (a + 1) (79 + 22 * s)) := tt_le _ _ _ _ _ _
  refine Cn.of pn_X10 (Nat.le_of_ble_eq_true rfl) rfl ?_
  refine g_aload_n 0 dX10_nearOf_0 rfl rfl ?_
  refine g_iload_n 1 dX10_nearOf_1 rfl rfl ?_
  refine gd_callV _ _ _ _ (cn_X10_layOne g (0, 0) hM (n := nv (im m (a + 1) (79 + 22 * s))) hs hn.e hn.hi) ⟨rfl, rfl⟩ (ok_X10_layOne _) mlX10_62 in_X10_layOne se_X10_layOne 10 0 (hM.t) rfl rfl rfl ⟨Nat.le_of_ble_eq_true rfl, Nat.le_of_ble_eq_true rfl⟩ (by exact Nat.le_of_ble_eq_true rfl) ⟨Nat.zero_le _, Nat.zero_le _⟩ dX10_nearOf_2 rfl ?_
  refine g_hideI (P := brI m a s) br_0 (fun I hI => ?_)
  refine g_aload_n 0 dX10_nearOf_5 rfl rfl ?_
  refine g_iload_n 2 dX10_nearOf_6 rfl rfl ?_
  refine gd_callV _ _ _ _ (cn_X10_layRow g (0, 0) (m := wI m I) hM (s := r) (n := nv (im m (a + 1) (299 + 13 * r))) (by omega) ((hI.1.zz _).trans hk.e) hk2) ⟨rfl, rfl⟩ (ok_X10_layRow _) mlX10_66 in_X10_layRow se_X10_layRow 10 0 (hM.t) rfl rfl rfl ⟨Nat.le_of_ble_eq_true rfl, Nat.le_of_ble_eq_true rfl⟩ (by exact Nat.le_of_ble_eq_true rfl) ⟨Nat.zero_le _, Nat.zero_le _⟩ dX10_nearOf_7 rfl ?_
  refine g_aload_n 0 dX10_nearOf_10 rfl rfl ?_
  have h9 : (cpI (u2 I a 10 (nI (nv (im m (a + 1) (299 + 13 * r))))) (a + 6) 0 (nv (im m (a + 1) (299 + 13 * r))) (fun j => I (a + 1) (299 + 13 * r + 1 + j))) a 9 = nI (nv (im m (a + 1) (79 + 22 * s))) := by rw [cpI_ne _ _ _ _ _ (by omega), u2_n _ _ _ _ (by omega)]; exact hI.2.1
  have h10 : (cpI (u2 I a 10 (nI (nv (im m (a + 1) (299 + 13 * r))))) (a + 6) 0 (nv (im m (a + 1) (299 + 13 * r))) (fun j => I (a + 1) (299 + 13 * r + 1 + j))) a 10 = nI (nv (im m (a + 1) (299 + 13 * r))) := by rw [cpI_ne _ _ _ _ _ (by omega), u2_s]
  have hu : ∀ e, e < nv (im m (a + 1) (79 + 22 * s)) → (cpI (u2 I a 10 (nI (nv (im m (a + 1) (299 + 13 * r))))) (a + 6) 0 (nv (im m (a + 1) (299 + 13 * r))) (fun j => I (a + 1) (299 + 13 * r + 1 + j))) (a + 5) e = (fun e => im m (a + 1) (79 + 22 * s + 10 + e)) e := fun e he => by rw [cpI_ne _ _ _ _ _ (by omega), u2_o _ _ _ _ (by omega)]; exact hI.2.2 e he
  have hv : ∀ e, e < nv (im m (a + 1) (299 + 13 * r)) → (cpI (u2 I a 10 (nI (nv (im m (a + 1) (299 + 13 * r))))) (a + 6) 0 (nv (im m (a + 1) (299 + 13 * r))) (fun j => I (a + 1) (299 + 13 * r + 1 + j))) (a + 6) e = (fun e => im m (a + 1) (299 + 13 * r + 1 + e)) e := fun e he => by rw [cpI_in _ _ _ _ _ (by omega) (by omega)]; exact hI.1.zz _
  refine gd_callV _ _ _ _ (cn_X10_longest g (0, 0) (m := wI m (cpI (u2 I a 10 (nI (nv (im m (a + 1) (299 + 13 * r))))) (a + 6) 0 (nv (im m (a + 1) (299 + 13 * r))) (fun j => I (a + 1) (299 + 13 * r + 1 + j)))) hM h9 h10 hn2 hk2 hu hv) ⟨rfl, rfl⟩ (ok_X10_longest _) mlX10_58 in_X10_longest se_X10_longest 10 0 (hM.t) rfl rfl rfl ⟨Nat.le_of_ble_eq_true rfl, Nat.le_of_ble_eq_true rfl⟩ (by exact Nat.le_of_ble_eq_true rfl) ⟨Nat.zero_le _, Nat.zero_le _⟩ dX10_nearOf_11 rfl ?_
  refine g_istore 4 [(4, .int (nI (lcz (im m (a + 1)) (79 + 22 * s) r))), (0, .ref (a)), (1, .int (nI (s))), (2, .int (nI (r))), (3, .int (nI (1)))] dX10_nearOf_14 (Nat.le_of_ble_eq_true rfl) rfl ?_
  refine g_iload_n 3 dX10_nearOf_16 rfl rfl ?_
  refine gN_iconst 2 dX10_nearOf_17 (by decide) ?_
  refine gN_icmp_ge 48 dX10_nearOf_18 (by decide) (by first | omega | exact b01_lt _) (by first | omega | exact b01_lt _) (fun h_18 => ?_) (fun h_18 => ?_)
  · exact absurd h_18 (by decide)
  · refine g_iload_n 3 dX10_nearOf_21 rfl rfl ?_
    refine gN_iconst 1 dX10_nearOf_22 (by decide) ?_
    refine gN_icmp_ne 31 dX10_nearOf_23 (by decide) (by first | omega | exact b01_lt _) (by first | omega | exact b01_lt _) (fun h_23 => ?_) (fun h_23 => ?_)
    · exact absurd h_23 (by decide)
    · refine g_iload 4 dX10_nearOf_26 rfl ?_
      refine g_goto 47 dX10_nearOf_28 (by decide) ?_
      refine g_iret rfl dX10_nearOf_47 ⟨Nat.zero_le _, Nat.zero_le _⟩ ?_
      exact ⟨rfl, _, rfl, (br_X10 hI).1⟩
set_option maxRecDepth 100000 in
theorem cn_X10_nearOf2 (g : Gp) (cs : Nat × Nat) {m : Mm} {a : Nat} (hM : MdOk m a) {s : Nat} (hs : s < 10) (hn : NR (im m (a + 1) (79 + 22 * s)) 1 12) (hR : NR (im m (a + 1) 1) 0 30) (hrow : ∀ r, r < nv (im m (a + 1) 1) → NR (im m (a + 1) (299 + 13 * r)) 1 12) {r : Nat} (hr1 : r < nv (im m (a + 1) 1)) : En g (MX10_nearOf cs) [.ref a, .int (nI s), .int (nI r), .int (nI 2)] m (some (.int (fqV (2 * lcz (im m (a + 1)) (79 + 22 * s) r) (nv (im m (a + 1) (79 + 22 * s)) + nv (im m (a + 1) (299 + 13 * r)))))) (sc a (im m)) := by
  have hR2 := hR.hi
  have hk := hrow r hr1
  have hk1 := hk.lo
  have hk2 := hk.hi
  have hn1 := hn.lo
  have hn2 := hn.hi
  have hl : lcz (im m (a + 1)) (79 + 22 * s) r ≤ nv (im m (a + 1) (79 + 22 * s)) := tt_le _ _ _ _ _ _
  refine Cn.of pn_X10 (Nat.le_of_ble_eq_true rfl) rfl ?_
  refine g_aload_n 0 dX10_nearOf_0 rfl rfl ?_
  refine g_iload_n 1 dX10_nearOf_1 rfl rfl ?_
  refine gd_callV _ _ _ _ (cn_X10_layOne g (0, 0) hM (n := nv (im m (a + 1) (79 + 22 * s))) hs hn.e hn.hi) ⟨rfl, rfl⟩ (ok_X10_layOne _) mlX10_62 in_X10_layOne se_X10_layOne 10 0 (hM.t) rfl rfl rfl ⟨Nat.le_of_ble_eq_true rfl, Nat.le_of_ble_eq_true rfl⟩ (by exact Nat.le_of_ble_eq_true rfl) ⟨Nat.zero_le _, Nat.zero_le _⟩ dX10_nearOf_2 rfl ?_
  refine g_hideI (P := brI m a s) br_0 (fun I hI => ?_)
  refine g_aload_n 0 dX10_nearOf_5 rfl rfl ?_
  refine g_iload_n 2 dX10_nearOf_6 rfl rfl ?_
  refine gd_callV _ _ _ _ (cn_X10_layRow g (0, 0) (m := wI m I) hM (s := r) (n := nv (im m (a + 1) (299 + 13 * r))) (by omega) ((hI.1.zz _).trans hk.e) hk2) ⟨rfl, rfl⟩ (ok_X10_layRow _) mlX10_66 in_X10_layRow se_X10_layRow 10 0 (hM.t) rfl rfl rfl ⟨Nat.le_of_ble_eq_true rfl, Nat.le_of_ble_eq_true rfl⟩ (by exact Nat.le_of_ble_eq_true rfl) ⟨Nat.zero_le _, Nat.zero_le _⟩ dX10_nearOf_7 rfl ?_
  refine g_aload_n 0 dX10_nearOf_10 rfl rfl ?_
  have h9 : (cpI (u2 I a 10 (nI (nv (im m (a + 1) (299 + 13 * r))))) (a + 6) 0 (nv (im m (a + 1) (299 + 13 * r))) (fun j => I (a + 1) (299 + 13 * r + 1 + j))) a 9 = nI (nv (im m (a + 1) (79 + 22 * s))) := by rw [cpI_ne _ _ _ _ _ (by omega), u2_n _ _ _ _ (by omega)]; exact hI.2.1
  have h10 : (cpI (u2 I a 10 (nI (nv (im m (a + 1) (299 + 13 * r))))) (a + 6) 0 (nv (im m (a + 1) (299 + 13 * r))) (fun j => I (a + 1) (299 + 13 * r + 1 + j))) a 10 = nI (nv (im m (a + 1) (299 + 13 * r))) := by rw [cpI_ne _ _ _ _ _ (by omega), u2_s]
  have hu : ∀ e, e < nv (im m (a + 1) (79 + 22 * s)) → (cpI (u2 I a 10 (nI (nv (im m (a + 1) (299 + 13 * r))))) (a + 6) 0 (nv (im m (a + 1) (299 + 13 * r))) (fun j => I (a + 1) (299 + 13 * r + 1 + j))) (a + 5) e = (fun e => im m (a + 1) (79 + 22 * s + 10 + e)) e := fun e he => by rw [cpI_ne _ _ _ _ _ (by omega), u2_o _ _ _ _ (by omega)]; exact hI.2.2 e he
  have hv : ∀ e, e < nv (im m (a + 1) (299 + 13 * r)) → (cpI (u2 I a 10 (nI (nv (im m (a + 1) (299 + 13 * r))))) (a + 6) 0 (nv (im m (a + 1) (299 + 13 * r))) (fun j => I (a + 1) (299 + 13 * r + 1 + j))) (a + 6) e = (fun e => im m (a + 1) (299 + 13 * r + 1 + e)) e := fun e he => by rw [cpI_in _ _ _ _ _ (by omega) (by omega)]; exact hI.1.zz _
  refine gd_callV _ _ _ _ (cn_X10_longest g (0, 0) (m := wI m (cpI (u2 I a 10 (nI (nv (im m (a + 1) (299 + 13 * r))))) (a + 6) 0 (nv (im m (a + 1) (299 + 13 * r))) (fun j => I (a + 1) (299 + 13 * r + 1 + j)))) hM h9 h10 hn2 hk2 hu hv) ⟨rfl, rfl⟩ (ok_X10_longest _) mlX10_58 in_X10_longest se_X10_longest 10 0 (hM.t) rfl rfl rfl ⟨Nat.le_of_ble_eq_true rfl, Nat.le_of_ble_eq_true rfl⟩ (by exact Nat.le_of_ble_eq_true rfl) ⟨Nat.zero_le _, Nat.zero_le _⟩ dX10_nearOf_11 rfl ?_
  refine g_istore 4 [(4, .int (nI (lcz (im m (a + 1)) (79 + 22 * s) r))), (0, .ref (a)), (1, .int (nI (s))), (2, .int (nI (r))), (3, .int (nI (2)))] dX10_nearOf_14 (Nat.le_of_ble_eq_true rfl) rfl ?_
  refine g_iload_n 3 dX10_nearOf_16 rfl rfl ?_
  refine gN_iconst 2 dX10_nearOf_17 (by decide) ?_
  refine gN_icmp_ge 48 dX10_nearOf_18 (by decide) (by first | omega | exact b01_lt _) (by first | omega | exact b01_lt _) (fun h_18 => ?_) (fun h_18 => ?_)
  · refine gN_iconst 2 dX10_nearOf_48 (by decide) ?_
    refine g_iload 4 dX10_nearOf_49 rfl ?_
    refine gN_imul (2 * (lcz (im m (a + 1)) (79 + 22 * s) r)) dX10_nearOf_51 rfl ?_
    refine g_i2f dX10_nearOf_52 ?_
    refine g_aload_n 0 dX10_nearOf_53 rfl rfl ?_
    refine gN_getI flX10_49 rfl 0 (hM.t) dX10_nearOf_54 ?_
    refine g_ei (nI (nv (im m (a + 1) (79 + 22 * s)))) ((congrFun (im_tbo (wI m (cpI (u2 I a 10 (nI (nv (im m (a + 1) (299 + 13 * r))))) (a + 6) 0 (nv (im m (a + 1) (299 + 13 * r))) (fun j => I (a + 1) (299 + 13 * r + 1 + j)))) (a + 7) (fun e => im m (a + 1) (79 + 22 * s + 10 + e)) (fun e => im m (a + 1) (299 + 13 * r + 1 + e)) (nv (im m (a + 1) (79 + 22 * s))) (nv (im m (a + 1) (299 + 13 * r))) 0 0 (by omega)) 9).trans h9) ?_
    refine g_aload_n 0 dX10_nearOf_57 rfl rfl ?_
    refine gN_getI flX10_52 rfl 0 (hM.t) dX10_nearOf_58 ?_
    refine g_ei (nI (nv (im m (a + 1) (299 + 13 * r)))) ((congrFun (im_tbo (wI m (cpI (u2 I a 10 (nI (nv (im m (a + 1) (299 + 13 * r))))) (a + 6) 0 (nv (im m (a + 1) (299 + 13 * r))) (fun j => I (a + 1) (299 + 13 * r + 1 + j)))) (a + 7) (fun e => im m (a + 1) (79 + 22 * s + 10 + e)) (fun e => im m (a + 1) (299 + 13 * r + 1 + e)) (nv (im m (a + 1) (79 + 22 * s))) (nv (im m (a + 1) (299 + 13 * r))) 0 0 (by omega)) 10).trans h10) ?_
    refine gN_iadd ((nv (im m (a + 1) (79 + 22 * s))) + (nv (im m (a + 1) (299 + 13 * r)))) dX10_nearOf_61 rfl ?_
    refine g_i2f dX10_nearOf_62 ?_
    refine g_fdiv dX10_nearOf_63 ((okF_div (a := 2 * lcz (im m (a + 1)) (79 + 22 * s) r) (b := (nv (im m (a + 1) (79 + 22 * s)) + nv (im m (a + 1) (299 + 13 * r)))) (by omega) (by omega) (by omega)).vf) ?_
    refine gd_callS _ _ _ _ (cn_Jxf58ca_floatToIntBits_5c35a g (0, 0) (okF_div (a := 2 * lcz (im m (a + 1)) (79 + 22 * s) r) (b := (nv (im m (a + 1) (79 + 22 * s)) + nv (im m (a + 1) (299 + 13 * r)))) (by omega) (by omega) (by omega))) ⟨rfl, rfl⟩ (ok_Jxf58ca_floatToIntBits_5c35a _) mlX10_185 st_Jxf58ca_floatToIntBits_5c35a rfl ⟨Nat.le_of_ble_eq_true rfl, Nat.le_of_ble_eq_true rfl⟩ (by exact Nat.le_of_ble_eq_true rfl) ⟨Nat.zero_le _, Nat.zero_le _⟩ dX10_nearOf_64 rfl ?_
    refine g_iret rfl dX10_nearOf_67 ⟨Nat.zero_le _, Nat.zero_le _⟩ ?_
    exact ⟨rfl, _, rfl, (br_X10 hI).1⟩
  · exact absurd h_18 (by decide)
theorem cn_X10_nearOf (g : Gp) (cs : Nat × Nat) {m : Mm} {a : Nat} (hM : MdOk m a) {s : Nat} (hs : s < 10) (hn : NR (im m (a + 1) (79 + 22 * s)) 1 12) (hR : NR (im m (a + 1) 1) 0 30) (hrow : ∀ r, r < nv (im m (a + 1) 1) → NR (im m (a + 1) (299 + 13 * r)) 1 12) {r : Nat} (hr1 : r < nv (im m (a + 1) 1)) {w : Nat} (hw : w ≤ 2) : En g (MX10_nearOf cs) [.ref a, .int (nI s), .int (nI r), .int (nI w)] m (some (.int (nearV (im m (a + 1)) (79 + 22 * s) r w))) (sc a (im m)) := by
  rcases (show w = 0 ∨ w = 1 ∨ w = 2 by omega) with rfl | rfl | rfl
  · exact cn_X10_nearOf0 g cs hM hs hn hR hrow hr1
  · exact cn_X10_nearOf1 g cs hM hs hn hR hrow hr1
  · exact cn_X10_nearOf2 g cs hM hs hn hR hrow hr1
set_option maxRecDepth 100000 in
theorem cn_X10_near_1 (g : Gp) (cs : Nat × Nat) {m : Mm} {a : Nat} (hM : MdOk m a) {N : Nat} (hN : im m (a + 1) 0 = nI N) (hN9 : N ≤ 10) (hR : NR (im m (a + 1) 1) 0 30) {p x y : Int32} (h : ¬ (inb p N ∧ inb x (nv (im m (a + 1) 1)))) : En g (MX10_near cs) [.ref (a), .int (p), .int (x), .int (y)] m (some (.int (nI 0))) (sc a (th m a 1)) := by
  have hR2 := hR.hi
  refine Cn.of pn_X10 (Nat.le_of_ble_eq_true rfl) rfl ?_
  refine g_aload_n 0 dX10_near_0 rfl rfl ?_
  refine gN_iconst 0 dX10_near_1 (by decide) ?_
  refine gN_putI fwX10_34 rfl 0 (hM.t) dX10_near_2 ?_
  refine g_aload_n 0 dX10_near_5 rfl rfl ?_
  refine g_iload_n 1 dX10_near_6 rfl rfl ?_
  refine gd_callV _ _ _ _ (cn_X10_isSegment g (0, 0) (m := sI m a 6 (nI 0)) hM (N := N) ((th_z m a 0 0).trans hN) (by omega) (p)) ⟨rfl, rfl⟩ (ok_X10_isSegment _) mlX10_107 in_X10_isSegment se_X10_isSegment 10 0 (hM.t) rfl rfl rfl ⟨Nat.le_of_ble_eq_true rfl, Nat.le_of_ble_eq_true rfl⟩ (by exact Nat.le_of_ble_eq_true rfl) ⟨Nat.zero_le _, Nat.zero_le _⟩ dX10_near_7 rfl ?_
  refine gN_if_eq 29 dX10_near_10 (by decide) (by first | omega | exact b01_lt _) (fun h_10 => ?_) (fun h_10 => ?_)
  · refine g_aload_n 0 dX10_near_29 rfl rfl ?_
    refine gN_iconst 1 dX10_near_30 (by decide) ?_
    refine gd_callV _ _ _ _ (cn_X10_fails g (0, 0) (m := sI m a 6 (nI 0)) hM (nI (1))) ⟨rfl, rfl⟩ (ok_X10_fails _) mlX10_95 in_X10_fails se_X10_fails 10 0 (hM.t) rfl rfl rfl ⟨Nat.le_of_ble_eq_true rfl, Nat.le_of_ble_eq_true rfl⟩ (by exact Nat.le_of_ble_eq_true rfl) ⟨Nat.zero_le _, Nat.zero_le _⟩ dX10_near_31 rfl ?_
    refine g_iret rfl dX10_near_34 ⟨Nat.zero_le _, Nat.zero_le _⟩ ?_
    exact ⟨rfl, _, rfl, by rw [show im (sI m a 6 (nI 0)) = th m a 0 from rfl, th_th]; exact sc.rf⟩
  · refine g_iload_n 2 dX10_near_13 rfl rfl ?_
    refine gN_iconst 0 dX10_near_14 (by decide) ?_
    refine g_aload_n 0 dX10_near_15 rfl rfl ?_
    refine gN_getR (a + 1) flX10_7 (fun _ _ _ => rfl) 0 (hM.t) (hM.r0) dX10_near_16 ?_
    refine gN_iconst 1 dX10_near_19 (by decide) ?_
    refine gN_iald 689 (hM.t1) (by first | omega | exact b01_lt _) (by first | omega | exact b01_lt _) dX10_near_20 ?_
    refine g_ei (nI (nv (im m (a + 1) 1))) ((th_z m a 0 1).trans hR.e) ?_
    refine gN_iconst 1 dX10_near_21 (by decide) ?_
    refine g_isub dX10_near_22 ?_
    refine gd_callS _ _ _ _ (cn_X10_in g (0, 0) _ (x) (nI (0)) (nI (nv (im m (a + 1) 1)) - nI (1))) ⟨rfl, rfl⟩ (ok_X10_in _) mlX10_41 st_X10_in rfl ⟨Nat.le_of_ble_eq_true rfl, Nat.le_of_ble_eq_true rfl⟩ (by exact Nat.le_of_ble_eq_true rfl) ⟨Nat.zero_le _, Nat.zero_le _⟩ dX10_near_23 rfl ?_
    refine gN_if_ne 35 dX10_near_26 (by decide) (by first | omega | exact b01_lt _) (fun h_26 => ?_) (fun h_26 => ?_)
    · exact False.elim (h ⟨b01_n.mp h_10, (seg_in (by omega)).mp (b01_n.mp h_26)⟩)
    · refine g_aload_n 0 dX10_near_29 rfl rfl ?_
      refine gN_iconst 1 dX10_near_30 (by decide) ?_
      refine gd_callV _ _ _ _ (cn_X10_fails g (0, 0) (m := sI m a 6 (nI 0)) hM (nI (1))) ⟨rfl, rfl⟩ (ok_X10_fails _) mlX10_95 in_X10_fails se_X10_fails 10 0 (hM.t) rfl rfl rfl ⟨Nat.le_of_ble_eq_true rfl, Nat.le_of_ble_eq_true rfl⟩ (by exact Nat.le_of_ble_eq_true rfl) ⟨Nat.zero_le _, Nat.zero_le _⟩ dX10_near_31 rfl ?_
      refine g_iret rfl dX10_near_34 ⟨Nat.zero_le _, Nat.zero_le _⟩ ?_
      exact ⟨rfl, _, rfl, by rw [show im (sI m a 6 (nI 0)) = th m a 0 from rfl, th_th]; exact sc.rf⟩
set_option maxRecDepth 100000 in
theorem cn_X10_near_2 (g : Gp) (cs : Nat × Nat) {m : Mm} {a : Nat} (hM : MdOk m a) {N : Nat} (hN : im m (a + 1) 0 = nI N) (hN9 : N ≤ 10) {s : Nat} (hs : s < N) (hR : NR (im m (a + 1) 1) 0 30) {r : Nat} (hr1 : r < nv (im m (a + 1) 1)) {x : Int32} (h : ¬ inb x 3) : En g (MX10_near cs) [.ref (a), .int (nI (s)), .int (nI (r)), .int (x)] m (some (.int (nI 0))) (sc a (th m a 2)) := by
  have hR2 := hR.hi
  refine Cn.of pn_X10 (Nat.le_of_ble_eq_true rfl) rfl ?_
  refine g_aload_n 0 dX10_near_0 rfl rfl ?_
  refine gN_iconst 0 dX10_near_1 (by decide) ?_
  refine gN_putI fwX10_34 rfl 0 (hM.t) dX10_near_2 ?_
  refine g_aload_n 0 dX10_near_5 rfl rfl ?_
  refine g_iload_n 1 dX10_near_6 rfl rfl ?_
  refine gd_callV _ _ _ _ (cn_X10_isSegment g (0, 0) (m := sI m a 6 (nI 0)) hM (N := N) ((th_z m a 0 0).trans hN) (by omega) (nI (s))) ⟨rfl, rfl⟩ (ok_X10_isSegment _) mlX10_107 in_X10_isSegment se_X10_isSegment 10 0 (hM.t) rfl rfl rfl ⟨Nat.le_of_ble_eq_true rfl, Nat.le_of_ble_eq_true rfl⟩ (by exact Nat.le_of_ble_eq_true rfl) ⟨Nat.zero_le _, Nat.zero_le _⟩ dX10_near_7 rfl ?_
  refine gN_if_eq 29 dX10_near_10 (by decide) (by first | omega | exact b01_lt _) (fun h_10 => ?_) (fun h_10 => ?_)
  · exact False.elim (b01_z.mp h_10 ((inb_nI (by omega)).mpr hs))
  · refine g_iload_n 2 dX10_near_13 rfl rfl ?_
    refine gN_iconst 0 dX10_near_14 (by decide) ?_
    refine g_aload_n 0 dX10_near_15 rfl rfl ?_
    refine gN_getR (a + 1) flX10_7 (fun _ _ _ => rfl) 0 (hM.t) (hM.r0) dX10_near_16 ?_
    refine gN_iconst 1 dX10_near_19 (by decide) ?_
    refine gN_iald 689 (hM.t1) (by first | omega | exact b01_lt _) (by first | omega | exact b01_lt _) dX10_near_20 ?_
    refine g_ei (nI (nv (im m (a + 1) 1))) ((th_z m a 0 1).trans hR.e) ?_
    refine gN_iconst 1 dX10_near_21 (by decide) ?_
    refine g_isub dX10_near_22 ?_
    refine gd_callS _ _ _ _ (cn_X10_in g (0, 0) _ (nI (r)) (nI (0)) (nI (nv (im m (a + 1) 1)) - nI (1))) ⟨rfl, rfl⟩ (ok_X10_in _) mlX10_41 st_X10_in rfl ⟨Nat.le_of_ble_eq_true rfl, Nat.le_of_ble_eq_true rfl⟩ (by exact Nat.le_of_ble_eq_true rfl) ⟨Nat.zero_le _, Nat.zero_le _⟩ dX10_near_23 rfl ?_
    refine gN_if_ne 35 dX10_near_26 (by decide) (by first | omega | exact b01_lt _) (fun h_26 => ?_) (fun h_26 => ?_)
    · refine g_iload_n 3 dX10_near_35 rfl rfl ?_
      refine gN_iconst 0 dX10_near_36 (by decide) ?_
      refine gN_iconst 2 dX10_near_37 (by decide) ?_
      refine gd_callS _ _ _ _ (cn_X10_in g (0, 0) _ (x) (nI (0)) (nI (2))) ⟨rfl, rfl⟩ (ok_X10_in _) mlX10_41 st_X10_in rfl ⟨Nat.le_of_ble_eq_true rfl, Nat.le_of_ble_eq_true rfl⟩ (by exact Nat.le_of_ble_eq_true rfl) ⟨Nat.zero_le _, Nat.zero_le _⟩ dX10_near_38 rfl ?_
      refine gN_if_eq 54 dX10_near_41 (by decide) (by first | omega | exact b01_lt _) (fun h_41 => ?_) (fun h_41 => ?_)
      · refine g_aload_n 0 dX10_near_54 rfl rfl ?_
        refine gN_iconst 2 dX10_near_55 (by decide) ?_
        refine gd_callV _ _ _ _ (cn_X10_fails g (0, 0) (m := sI m a 6 (nI 0)) hM (nI (2))) ⟨rfl, rfl⟩ (ok_X10_fails _) mlX10_95 in_X10_fails se_X10_fails 10 0 (hM.t) rfl rfl rfl ⟨Nat.le_of_ble_eq_true rfl, Nat.le_of_ble_eq_true rfl⟩ (by exact Nat.le_of_ble_eq_true rfl) ⟨Nat.zero_le _, Nat.zero_le _⟩ dX10_near_56 rfl ?_
        refine g_iret rfl dX10_near_59 ⟨Nat.zero_le _, Nat.zero_le _⟩ ?_
        exact ⟨rfl, _, rfl, by rw [show im (sI m a 6 (nI 0)) = th m a 0 from rfl, th_th]; exact sc.rf⟩
      · exact False.elim (h ((in_inb (n := 2) (by decide)).mp (b01_n.mp h_41)))
    · exact False.elim (b01_z.mp h_26 ((seg_in (by omega)).mpr ((inb_nI (by omega)).mpr hr1)))
set_option maxRecDepth 100000 in
theorem cn_X10_near_0 (g : Gp) (cs : Nat × Nat) {m : Mm} {a : Nat} (hM : MdOk m a) {N : Nat} (hN : im m (a + 1) 0 = nI N) (hN9 : N ≤ 10) {s : Nat} (hs : s < N) (hR : NR (im m (a + 1) 1) 0 30) {r : Nat} (hr1 : r < nv (im m (a + 1) 1)) (hn : NR (im m (a + 1) (79 + 22 * s)) 1 12) (hrow : ∀ r, r < nv (im m (a + 1) 1) → NR (im m (a + 1) (299 + 13 * r)) 1 12) {w : Nat} (hw : w ≤ 2) : En g (MX10_near cs) [.ref (a), .int (nI (s)), .int (nI (r)), .int (nI (w))] m (some (.int (nearV (im m (a + 1)) (79 + 22 * s) r w))) (sc a (th m a 0)) := by
  have hR2 := hR.hi
  refine Cn.of pn_X10 (Nat.le_of_ble_eq_true rfl) rfl ?_
  refine g_aload_n 0 dX10_near_0 rfl rfl ?_
  refine gN_iconst 0 dX10_near_1 (by decide) ?_
  refine gN_putI fwX10_34 rfl 0 (hM.t) dX10_near_2 ?_
  refine g_aload_n 0 dX10_near_5 rfl rfl ?_
  refine g_iload_n 1 dX10_near_6 rfl rfl ?_
  refine gd_callV _ _ _ _ (cn_X10_isSegment g (0, 0) (m := sI m a 6 (nI 0)) hM (N := N) ((th_z m a 0 0).trans hN) (by omega) (nI (s))) ⟨rfl, rfl⟩ (ok_X10_isSegment _) mlX10_107 in_X10_isSegment se_X10_isSegment 10 0 (hM.t) rfl rfl rfl ⟨Nat.le_of_ble_eq_true rfl, Nat.le_of_ble_eq_true rfl⟩ (by exact Nat.le_of_ble_eq_true rfl) ⟨Nat.zero_le _, Nat.zero_le _⟩ dX10_near_7 rfl ?_
  refine gN_if_eq 29 dX10_near_10 (by decide) (by first | omega | exact b01_lt _) (fun h_10 => ?_) (fun h_10 => ?_)
  · exact False.elim (b01_z.mp h_10 ((inb_nI (by omega)).mpr hs))
  · refine g_iload_n 2 dX10_near_13 rfl rfl ?_
    refine gN_iconst 0 dX10_near_14 (by decide) ?_
    refine g_aload_n 0 dX10_near_15 rfl rfl ?_
    refine gN_getR (a + 1) flX10_7 (fun _ _ _ => rfl) 0 (hM.t) (hM.r0) dX10_near_16 ?_
    refine gN_iconst 1 dX10_near_19 (by decide) ?_
    refine gN_iald 689 (hM.t1) (by first | omega | exact b01_lt _) (by first | omega | exact b01_lt _) dX10_near_20 ?_
    refine g_ei (nI (nv (im m (a + 1) 1))) ((th_z m a 0 1).trans hR.e) ?_
    refine gN_iconst 1 dX10_near_21 (by decide) ?_
    refine g_isub dX10_near_22 ?_
    refine gd_callS _ _ _ _ (cn_X10_in g (0, 0) _ (nI (r)) (nI (0)) (nI (nv (im m (a + 1) 1)) - nI (1))) ⟨rfl, rfl⟩ (ok_X10_in _) mlX10_41 st_X10_in rfl ⟨Nat.le_of_ble_eq_true rfl, Nat.le_of_ble_eq_true rfl⟩ (by exact Nat.le_of_ble_eq_true rfl) ⟨Nat.zero_le _, Nat.zero_le _⟩ dX10_near_23 rfl ?_
    refine gN_if_ne 35 dX10_near_26 (by decide) (by first | omega | exact b01_lt _) (fun h_26 => ?_) (fun h_26 => ?_)
    · refine g_iload_n 3 dX10_near_35 rfl rfl ?_
      refine gN_iconst 0 dX10_near_36 (by decide) ?_
      refine gN_iconst 2 dX10_near_37 (by decide) ?_
      refine gd_callS _ _ _ _ (cn_X10_in g (0, 0) _ (nI (w)) (nI (0)) (nI (2))) ⟨rfl, rfl⟩ (ok_X10_in _) mlX10_41 st_X10_in rfl ⟨Nat.le_of_ble_eq_true rfl, Nat.le_of_ble_eq_true rfl⟩ (by exact Nat.le_of_ble_eq_true rfl) ⟨Nat.zero_le _, Nat.zero_le _⟩ dX10_near_38 rfl ?_
      refine gN_if_eq 54 dX10_near_41 (by decide) (by first | omega | exact b01_lt _) (fun h_41 => ?_) (fun h_41 => ?_)
      · exact False.elim (b01_z.mp h_41 ((in_inb (n := 2) (by decide)).mpr ((inb_nI (by omega)).mpr (by omega))))
      · refine g_aload_n 0 dX10_near_44 rfl rfl ?_
        refine g_iload_n 1 dX10_near_45 rfl rfl ?_
        refine g_iload_n 2 dX10_near_46 rfl rfl ?_
        refine g_iload_n 3 dX10_near_47 rfl rfl ?_
        refine ge_callV _ _ _ (cn_X10_nearOf g (0, 0) (m := sI m a 6 (nI 0)) hM (s := s) (by omega) (by rw [ze]; exact hn) (by rw [ze]; exact hR) (by rw [ze]; exact hrow) (r := r) (by rw [ze]; exact hr1) hw) ⟨rfl, rfl⟩ (ok_X10_nearOf _) mlX10_191 in_X10_nearOf se_X10_nearOf 10 0 (hM.t) rfl rfl rfl ⟨Nat.le_of_ble_eq_true rfl, Nat.le_of_ble_eq_true rfl⟩ (by exact Nat.le_of_ble_eq_true rfl) ⟨Nat.zero_le _, Nat.zero_le _⟩ dX10_near_48 rfl (fun I1 hI1 => ?_)
        refine g_goto 59 dX10_near_51 (by decide) ?_
        refine g_iret rfl dX10_near_59 ⟨Nat.zero_le _, Nat.zero_le _⟩ ?_
        exact ⟨vI (by rw [ze]), I1, rfl, hI1⟩
    · exact False.elim (b01_z.mp h_26 ((seg_in (by omega)).mpr ((inb_nI (by omega)).mpr hr1)))
/-- what is saved on the segment s, in words times percents -/
def svF (z : Nat → Int32) (s : Nat) : Nat := nv (z (79 + 22 * s)) * (100 - nv (z (64 + 3 * bandOf (mtc z (79 + 22 * s)))))
def savV (z : Nat → Int32) : Int32 := if nv (z 0) = 0 then 0 else fqV (sm (svF z) (nv (z 0))) (100 * sm (wdF z) (nv (z 0)))
theorem sm_ge (f : Nat → Nat) (b : Nat) : ∀ n, (∀ i, i < n → b ≤ f i) → n * b ≤ sm f n := by
  intro n
  induction n with
  | zero => intro _; rw [Nat.zero_mul]; exact Nat.zero_le _
  | succ n ih =>
    intro h
    show (n + 1) * b ≤ sm f n + f n
    have h1 := ih (fun i hi => h i (by omega))
    have h2 := h n (by omega)
    rw [Nat.succ_mul]; omega
theorem svF_le {z : Nat → Int32} {s : Nat} (h : NR (z (79 + 22 * s)) 1 12) (hb : ∀ b, b < 5 → NR (z (64 + 3 * b)) 0 100) : svF z s ≤ 1200 := by
  unfold svF
  have h1 := h.hi
  have h2 := (hb _ (Nat.lt_of_le_of_lt (bandOf_le (mtc z (79 + 22 * s))) (by decide))).hi
  calc _ ≤ 12 * 100 := Nat.mul_le_mul h1 (by omega)
    _ = 1200 := rfl
set_option maxRecDepth 100000 in
theorem lp_X10_savedOf (g : Gp) (cs : Nat × Nat) {m : Mm} {a : Nat} (hM : MdOk m a) (hN : NR (im m (a + 1) 0) 0 10) (hn : ∀ s, s < nv (im m (a + 1) 0) → NR (im m (a + 1) (79 + 22 * s)) 1 12) (hR : NR (im m (a + 1) 1) 0 30) (hrow : ∀ r, r < nv (im m (a + 1) 1) → NR (im m (a + 1) (299 + 13 * r)) 1 12) (hb : ∀ b, b < 5 → NR (im m (a + 1) (64 + 3 * b)) 0 100) : ∀ d s : Nat, s + d = nv (im m (a + 1) 0) → ∀ I, sc a (im m) I → G g (MX10_savedOf cs) (eQ m (some (.int (savV (im m (a + 1))))) (sc a (im m))) 4 [(2, .int (nI s)), (1, .int (nI (sm (svF (im m (a + 1))) s))), (0, .ref a)] [] (0, 0) (wI m I) := by
  have hN2 := hN.hi
  have hs1 := sm_le (svF (im m (a + 1))) 1200 (nv (im m (a + 1) 0)) (fun i hi => svF_le (hn i hi) hb)
  have hs2 := sm_le (wdF (im m (a + 1))) 12 (nv (im m (a + 1) 0)) (fun i hi => (hn i hi).hi)
  have hs3 := sm_ge (wdF (im m (a + 1))) 1 (nv (im m (a + 1) 0)) (fun i hi => (hn i hi).lo)
  intro d
  induction d with
  | zero =>
    intro s hs I hI
    obtain rfl : s = nv (im m (a + 1) 0) := hs
    refine g_iload_n 2 dX10_savedOf_4 rfl rfl ?_
    refine g_aload_n 0 dX10_savedOf_5 rfl rfl ?_
    refine gN_getR (a + 1) flX10_7 (fun _ _ _ => rfl) 0 (hM.t) (hM.r0) dX10_savedOf_6 ?_
    refine gN_iconst 0 dX10_savedOf_9 (by decide) ?_
    refine gN_iald 689 (hM.t1) (by first | omega | exact b01_lt _) (by first | omega | exact b01_lt _) dX10_savedOf_10 ?_
    refine g_ei (nI (nv (im m (a + 1) 0))) ((hI.zz 0).trans hN.e) ?_
    refine gN_icmp_ge 41 dX10_savedOf_11 (by decide) (by first | omega | exact b01_lt _) (by first | omega | exact b01_lt _) (fun h_11 => ?_) (fun h_11 => ?_)
    · refine g_aload_n 0 dX10_savedOf_41 rfl rfl ?_
      refine gN_getR (a + 1) flX10_7 (fun _ _ _ => rfl) 0 (hM.t) (hM.r0) dX10_savedOf_42 ?_
      refine gN_iconst 0 dX10_savedOf_45 (by decide) ?_
      refine gN_iald 689 (hM.t1) (by first | omega | exact b01_lt _) (by first | omega | exact b01_lt _) dX10_savedOf_46 ?_
      refine g_ei (nI (nv (im m (a + 1) 0))) ((hI.zz 0).trans hN.e) ?_
      refine gN_if_ne 54 dX10_savedOf_47 (by decide) (by first | omega | exact b01_lt _) (fun h_47 => ?_) (fun h_47 => ?_)
      · refine g_iload_n 1 dX10_savedOf_54 rfl rfl ?_
        refine g_i2f dX10_savedOf_55 ?_
        refine gN_bipush 100 dX10_savedOf_56 (by decide) ?_
        refine g_aload_n 0 dX10_savedOf_58 rfl rfl ?_
        refine gd_callV _ _ _ _ (cn_X10_wordsAll g (0, 0) (m := wI m I) hM (by rw [im_wI, hI.z]; exact hN) (by rw [im_wI, hI.z]; exact hn)) ⟨rfl, rfl⟩ (ok_X10_wordsAll _) mlX10_172 in_X10_wordsAll se_X10_wordsAll 10 0 (hM.t) rfl rfl rfl ⟨Nat.le_of_ble_eq_true rfl, Nat.le_of_ble_eq_true rfl⟩ (by exact Nat.le_of_ble_eq_true rfl) ⟨Nat.zero_le _, Nat.zero_le _⟩ dX10_savedOf_59 rfl ?_
        rw [im_wI, hI.z]
        refine gN_imul (100 * (sm (wdF (im m (a + 1))) (nv (im m (a + 1) 0)))) dX10_savedOf_62 rfl ?_
        refine g_i2f dX10_savedOf_63 ?_
        refine g_fdiv dX10_savedOf_64 ((okF_div (a := sm (svF (im m (a + 1))) (nv (im m (a + 1) 0))) (b := 100 * sm (wdF (im m (a + 1))) (nv (im m (a + 1) 0))) (by omega) (by omega) (by omega)).vf) ?_
        refine gd_callS _ _ _ _ (cn_Jxf58ca_floatToIntBits_5c35a g (0, 0) (okF_div (a := sm (svF (im m (a + 1))) (nv (im m (a + 1) 0))) (b := 100 * sm (wdF (im m (a + 1))) (nv (im m (a + 1) 0))) (by omega) (by omega) (by omega))) ⟨rfl, rfl⟩ (ok_Jxf58ca_floatToIntBits_5c35a _) mlX10_185 st_Jxf58ca_floatToIntBits_5c35a rfl ⟨Nat.le_of_ble_eq_true rfl, Nat.le_of_ble_eq_true rfl⟩ (by exact Nat.le_of_ble_eq_true rfl) ⟨Nat.zero_le _, Nat.zero_le _⟩ dX10_savedOf_65 rfl ?_
        refine g_iret rfl dX10_savedOf_68 ⟨Nat.zero_le _, Nat.zero_le _⟩ ?_
        refine ⟨vI ?_, I, rfl, hI⟩
        unfold savV
        first | (rw [if_neg h_47]; rfl) | (rw [if_pos h_47]; rfl)
      · refine g_fconst0 dX10_savedOf_50 ?_
        refine g_goto 65 dX10_savedOf_51 (by decide) ?_
        refine gd_callS _ _ _ _ (cn_Jxf58ca_floatToIntBits_5c35a g (0, 0) (Or.inl rfl)) ⟨rfl, rfl⟩ (ok_Jxf58ca_floatToIntBits_5c35a _) mlX10_185 st_Jxf58ca_floatToIntBits_5c35a rfl ⟨Nat.le_of_ble_eq_true rfl, Nat.le_of_ble_eq_true rfl⟩ (by exact Nat.le_of_ble_eq_true rfl) ⟨Nat.zero_le _, Nat.zero_le _⟩ dX10_savedOf_65 rfl ?_
        refine g_iret rfl dX10_savedOf_68 ⟨Nat.zero_le _, Nat.zero_le _⟩ ?_
        refine ⟨vI ?_, I, rfl, hI⟩
        unfold savV
        first | (rw [if_neg h_47]; rfl) | (rw [if_pos h_47]; rfl)
    · exfalso; omega
  | succ d ih =>
    intro s hs I hI
    have hsn : s < nv (im m (a + 1) 0) := by omega
    have hnn := hn s hsn
    have hpb := hb _ (Nat.lt_of_le_of_lt (bandOf_le (mtc (im m (a + 1)) (79 + 22 * s))) (by decide))
    have hp2 := hpb.hi
    refine g_iload_n 2 dX10_savedOf_4 rfl rfl ?_
    refine g_aload_n 0 dX10_savedOf_5 rfl rfl ?_
    refine gN_getR (a + 1) flX10_7 (fun _ _ _ => rfl) 0 (hM.t) (hM.r0) dX10_savedOf_6 ?_
    refine gN_iconst 0 dX10_savedOf_9 (by decide) ?_
    refine gN_iald 689 (hM.t1) (by first | omega | exact b01_lt _) (by first | omega | exact b01_lt _) dX10_savedOf_10 ?_
    refine g_ei (nI (nv (im m (a + 1) 0))) ((hI.zz 0).trans hN.e) ?_
    refine gN_icmp_ge 41 dX10_savedOf_11 (by decide) (by first | omega | exact b01_lt _) (by first | omega | exact b01_lt _) (fun h_11 => ?_) (fun h_11 => ?_)
    · exfalso; omega
    · refine g_iload_n 1 dX10_savedOf_14 rfl rfl ?_
      refine g_aload_n 0 dX10_savedOf_15 rfl rfl ?_
      refine gN_getR (a + 1) flX10_7 (fun _ _ _ => rfl) 0 (hM.t) (hM.r0) dX10_savedOf_16 ?_
      refine g_iload_n 2 dX10_savedOf_19 rfl rfl ?_
      refine gd_callS _ _ _ _ (cn_X10_at g (0, 0) _ s) ⟨rfl, rfl⟩ (ok_X10_at _) mlX10_45 st_X10_at rfl ⟨Nat.le_of_ble_eq_true rfl, Nat.le_of_ble_eq_true rfl⟩ (by exact Nat.le_of_ble_eq_true rfl) ⟨Nat.zero_le _, Nat.zero_le _⟩ dX10_savedOf_20 rfl ?_
      refine gN_iald 689 (hM.t1) (by first | omega | exact b01_lt _) (by first | omega | exact b01_lt _) dX10_savedOf_23 ?_
      refine g_ei (nI (nv (im m (a + 1) (79 + 22 * s)))) ((hI.zz _).trans hnn.e) ?_
      refine gN_bipush 100 dX10_savedOf_24 (by decide) ?_
      refine g_aload_n 0 dX10_savedOf_26 rfl rfl ?_
      refine g_iload_n 2 dX10_savedOf_27 rfl rfl ?_
      refine ge_callV _ _ _ (cn_X10_partNow g (0, 0) (m := wI m I) hM (s := s) (by omega) (by rw [im_wI, hI.z]; exact hnn) (by rw [im_wI, hI.z]; exact hR) (by rw [im_wI, hI.z]; exact hrow)) ⟨rfl, rfl⟩ (ok_X10_partNow _) mlX10_207 in_X10_partNow se_X10_partNow 10 0 (hM.t) rfl rfl rfl ⟨Nat.le_of_ble_eq_true rfl, Nat.le_of_ble_eq_true rfl⟩ (by exact Nat.le_of_ble_eq_true rfl) ⟨Nat.zero_le _, Nat.zero_le _⟩ dX10_savedOf_28 rfl (fun I1 hI1 => ?_)
      rw [im_wI, hI.z]
      refine g_ei (nI (nv (im m (a + 1) (64 + 3 * bandOf (mtc (im m (a + 1)) (79 + 22 * s)))))) hpb.e ?_
      rw [im_wI] at hI1
      refine gN_isub (100 - (nv (im m (a + 1) (64 + 3 * bandOf (mtc (im m (a + 1)) (79 + 22 * s)))))) dX10_savedOf_31 (by first | omega | exact b01_lt _) rfl ?_
      refine gN_imul ((nv (im m (a + 1) (79 + 22 * s))) * (100 - (nv (im m (a + 1) (64 + 3 * bandOf (mtc (im m (a + 1)) (79 + 22 * s))))))) dX10_savedOf_32 rfl ?_
      refine gN_iadd ((sm (svF (im m (a + 1))) s) + ((nv (im m (a + 1) (79 + 22 * s))) * (100 - (nv (im m (a + 1) (64 + 3 * bandOf (mtc (im m (a + 1)) (79 + 22 * s)))))))) dX10_savedOf_33 rfl ?_
      refine g_istore_n 1 [(1, .int (nI ((sm (svF (im m (a + 1))) s) + ((nv (im m (a + 1) (79 + 22 * s))) * (100 - (nv (im m (a + 1) (64 + 3 * bandOf (mtc (im m (a + 1)) (79 + 22 * s)))))))))), (2, .int (nI (s))), (0, .ref (a))] dX10_savedOf_34 rfl (Nat.le_of_ble_eq_true rfl) rfl ?_
      refine g_iinc 2 (nI (s + 1)) 1 [(2, .int (nI (s + 1))), (1, .int (nI ((sm (svF (im m (a + 1))) s) + ((nv (im m (a + 1) (79 + 22 * s))) * (100 - (nv (im m (a + 1) (64 + 3 * bandOf (mtc (im m (a + 1)) (79 + 22 * s)))))))))), (0, .ref (a))] dX10_savedOf_35 rfl (nI_add s 1) (Nat.le_of_ble_eq_true rfl) rfl ?_
      refine g_goto 4 dX10_savedOf_38 (by decide) ?_
      refine g_pick [0, 1, 2] rfl ?_
      exact ih (s + 1) (by omega) I1 (hI.tr hI1)
set_option maxRecDepth 100000 in
theorem cn_X10_savedOf (g : Gp) (cs : Nat × Nat) {m : Mm} {a : Nat} (hM : MdOk m a) (hN : NR (im m (a + 1) 0) 0 10) (hn : ∀ s, s < nv (im m (a + 1) 0) → NR (im m (a + 1) (79 + 22 * s)) 1 12) (hR : NR (im m (a + 1) 1) 0 30) (hrow : ∀ r, r < nv (im m (a + 1) 1) → NR (im m (a + 1) (299 + 13 * r)) 1 12) (hb : ∀ b, b < 5 → NR (im m (a + 1) (64 + 3 * b)) 0 100) : En g (MX10_savedOf cs) [.ref a] m (some (.int (savV (im m (a + 1))))) (sc a (im m)) := by
  refine Cn.of pn_X10 (Nat.le_of_ble_eq_true rfl) rfl ?_
  refine gN_iconst 0 dX10_savedOf_0 (by decide) ?_
  refine g_istore_n 1 [(1, .int (nI (0))), (0, .ref (a))] dX10_savedOf_1 rfl (Nat.le_of_ble_eq_true rfl) rfl ?_
  refine gN_iconst 0 dX10_savedOf_2 (by decide) ?_
  refine g_istore_n 2 [(2, .int (nI (0))), (1, .int (nI (0))), (0, .ref (a))] dX10_savedOf_3 rfl (Nat.le_of_ble_eq_true rfl) rfl ?_
  exact lp_X10_savedOf g cs hM hN hn hR hrow hb _ 0 (Nat.zero_add _) _ sc.rf
set_option maxRecDepth 100000 in
theorem cn_X10_saved (g : Gp) (cs : Nat × Nat) {m : Mm} {a : Nat} (hM : MdOk m a) (hN : NR (im m (a + 1) 0) 0 10) (hn : ∀ s, s < nv (im m (a + 1) 0) → NR (im m (a + 1) (79 + 22 * s)) 1 12) (hR : NR (im m (a + 1) 1) 0 30) (hrow : ∀ r, r < nv (im m (a + 1) 1) → NR (im m (a + 1) (299 + 13 * r)) 1 12) (hb : ∀ b, b < 5 → NR (im m (a + 1) (64 + 3 * b)) 0 100) : En g (MX10_saved cs) [.ref (a)] m (some (.int (savV (im m (a + 1))))) (sc a (th m a 0)) := by
  refine Cn.of pn_X10 (Nat.le_of_ble_eq_true rfl) rfl ?_
  refine g_aload_n 0 dX10_saved_0 rfl rfl ?_
  refine gN_iconst 0 dX10_saved_1 (by decide) ?_
  refine gN_putI fwX10_34 rfl 0 (hM.t) dX10_saved_2 ?_
  refine g_aload_n 0 dX10_saved_5 rfl rfl ?_
  refine ge_callV _ _ _ (cn_X10_savedOf g (0, 0) (m := sI m a 6 (nI 0)) hM (by rw [ze]; exact hN) (by rw [ze]; exact hn) (by rw [ze]; exact hR) (by rw [ze]; exact hrow) (by rw [ze]; exact hb)) ⟨rfl, rfl⟩ (ok_X10_savedOf _) mlX10_222 in_X10_savedOf se_X10_savedOf 10 0 (hM.t) rfl rfl rfl ⟨Nat.le_of_ble_eq_true rfl, Nat.le_of_ble_eq_true rfl⟩ (by exact Nat.le_of_ble_eq_true rfl) ⟨Nat.zero_le _, Nat.zero_le _⟩ dX10_saved_6 rfl (fun I1 hI1 => ?_)
  refine g_iret rfl dX10_saved_9 ⟨Nat.zero_le _, Nat.zero_le _⟩ ?_
  exact ⟨vI (by rw [ze]), I1, rfl, hI1⟩
theorem ppl_n {z : Nat → Int32} {w B : Nat} (h : ∀ p, p < 4 → NR (z (4 + 5 * p + w)) 0 B) : ∀ k, k ≤ 4 → ppl z w k = nI (sm (fun p => nv (z (4 + 5 * p + w))) k) := by
  intro k
  induction k with
  | zero => intro _; rfl
  | succ k ih =>
    intro hk
    show ppl z w k + z (4 + 5 * k + w) = nI (sm (fun p => nv (z (4 + 5 * p + w))) k + nv (z (4 + 5 * k + w)))
    rw [ih (by omega), ← nI_add]
    exact congrArg (fun q => nI (sm (fun p => nv (z (4 + 5 * p + w))) k) + q) (h k (by omega)).e
/-- the bits of a word's cost -/
def cstV (z : Nat → Int32) : UInt64 := if ppl z 2 4 = 0 then 0 else FP.ddiv (FP.i2d (ppl z 1 4)) (FP.i2d (ppl z 2 4))
def PplOk (z : Nat → Int32) : Prop := (∀ p, p < 4 → NR (z (4 + 5 * p + 1)) 0 1000000) ∧ (∀ p, p < 4 → NR (z (4 + 5 * p + 2)) 0 1000000)
theorem cst_div {z : Nat → Int32} (h : PplOk z) (h0 : ¬ ppl z 2 4 = 0) : okD (FP.ddiv (FP.i2d (ppl z 1 4)) (FP.i2d (ppl z 2 4))) := by
  have l1 := sm_le (fun p => nv (z (4 + 5 * p + 1))) 1000000 4 (fun i hi => (h.1 i hi).hi)
  have l2 := sm_le (fun p => nv (z (4 + 5 * p + 2))) 1000000 4 (fun i hi => (h.2 i hi).hi)
  rw [ppl_n h.2 4 (by decide)] at h0 ⊢
  rw [ppl_n h.1 4 (by decide)]
  rw [nI_z (by omega)] at h0
  exact okD_div (by omega) (by omega) (by omega)
theorem cst_ok {z : Nat → Int32} (h : PplOk z) : okD (cstV z) := by
  unfold cstV
  by_cases h0 : ppl z 2 4 = 0
  · rw [if_pos h0]; exact Or.inl rfl
  · rw [if_neg h0]; exact cst_div h h0
set_option maxRecDepth 100000 in
theorem cn_X10_costAll (g : Gp) (cs : Nat × Nat) {m : Mm} {a : Nat} (hM : MdOk m a) (hp : PplOk (im m (a + 1))) : Dn g (MX10_costAll cs) [.ref (a)] m (some (.double (cstV (im m (a + 1))))) (m) := by
  refine Cn.of pn_X10 (Nat.le_of_ble_eq_true rfl) rfl ?_
  refine g_aload_n 0 dX10_costAll_0 rfl rfl ?_
  refine gN_iconst 2 dX10_costAll_1 (by decide) ?_
  refine gd_callV _ _ _ _ (cn_X10_ofPeople g (0, 0) hM (w := 2) (by decide)) ⟨rfl, rfl⟩ (ok_X10_ofPeople _) mlX10_175 in_X10_ofPeople se_X10_ofPeople 10 0 (hM.t) rfl rfl rfl ⟨Nat.le_of_ble_eq_true rfl, Nat.le_of_ble_eq_true rfl⟩ (by exact Nat.le_of_ble_eq_true rfl) ⟨Nat.zero_le _, Nat.zero_le _⟩ dX10_costAll_2 rfl ?_
  refine g_if_ne 12 dX10_costAll_5 (by decide) (fun h_5 => ?_) (fun h_5 => ?_)
  · refine g_aload_n 0 dX10_costAll_12 rfl rfl ?_
    refine gN_iconst 1 dX10_costAll_13 (by decide) ?_
    refine gd_callV _ _ _ _ (cn_X10_ofPeople g (0, 0) hM (w := 1) (by decide)) ⟨rfl, rfl⟩ (ok_X10_ofPeople _) mlX10_175 in_X10_ofPeople se_X10_ofPeople 10 0 (hM.t) rfl rfl rfl ⟨Nat.le_of_ble_eq_true rfl, Nat.le_of_ble_eq_true rfl⟩ (by exact Nat.le_of_ble_eq_true rfl) ⟨Nat.zero_le _, Nat.zero_le _⟩ dX10_costAll_14 rfl ?_
    refine g_i2d dX10_costAll_17 ?_
    refine g_aload_n 0 dX10_costAll_18 rfl rfl ?_
    refine gN_iconst 2 dX10_costAll_19 (by decide) ?_
    refine gd_callV _ _ _ _ (cn_X10_ofPeople g (0, 0) hM (w := 2) (by decide)) ⟨rfl, rfl⟩ (ok_X10_ofPeople _) mlX10_175 in_X10_ofPeople se_X10_ofPeople 10 0 (hM.t) rfl rfl rfl ⟨Nat.le_of_ble_eq_true rfl, Nat.le_of_ble_eq_true rfl⟩ (by exact Nat.le_of_ble_eq_true rfl) ⟨Nat.zero_le _, Nat.zero_le _⟩ dX10_costAll_20 rfl ?_
    refine g_i2d dX10_costAll_23 ?_
    refine g_ddiv dX10_costAll_24 ((cst_div hp h_5).vf) ?_
    refine g_dret rfl dX10_costAll_25 ⟨Nat.zero_le _, Nat.zero_le _⟩ ?_
    refine ⟨congrArg (fun x => (Sum.inl (some (Value.double x)) : Rs)) ?_, rfl⟩
    unfold cstV
    first | (rw [if_neg h_5]; done) | (rw [if_pos h_5]; rfl)
  · refine g_dconst0 dX10_costAll_8 ?_
    refine g_goto 25 dX10_costAll_9 (by decide) ?_
    refine g_dret rfl dX10_costAll_25 ⟨Nat.zero_le _, Nat.zero_le _⟩ ?_
    refine ⟨congrArg (fun x => (Sum.inl (some (Value.double x)) : Rs)) ?_, rfl⟩
    unfold cstV
    first | (rw [if_neg h_5]; done) | (rw [if_pos h_5]; rfl)
set_option maxRecDepth 100000 in
theorem cn_X10_wordCost (g : Gp) (cs : Nat × Nat) {m : Mm} {a : Nat} (hM : MdOk m a) (hp : PplOk (im m (a + 1))) : En g (MX10_wordCost cs) [.ref (a)] m (some (.double (cstV (im m (a + 1))))) (sc a (th m a 0)) := by
  refine Cn.of pn_X10 (Nat.le_of_ble_eq_true rfl) rfl ?_
  refine g_aload_n 0 dX10_wordCost_0 rfl rfl ?_
  refine gN_iconst 0 dX10_wordCost_1 (by decide) ?_
  refine gN_putI fwX10_34 rfl 0 (hM.t) dX10_wordCost_2 ?_
  refine g_aload_n 0 dX10_wordCost_5 rfl rfl ?_
  refine gd_callV _ _ _ _ (cn_X10_costAll g (0, 0) (m := sI m a 6 (nI 0)) hM (by rw [ze]; exact hp)) ⟨rfl, rfl⟩ (ok_X10_costAll _) mlX10_225 in_X10_costAll se_X10_costAll 10 0 (hM.t) rfl rfl rfl ⟨Nat.le_of_ble_eq_true rfl, Nat.le_of_ble_eq_true rfl⟩ (by exact Nat.le_of_ble_eq_true rfl) ⟨Nat.zero_le _, Nat.zero_le _⟩ dX10_wordCost_6 rfl ?_
  refine g_dret rfl dX10_wordCost_9 ⟨Nat.zero_le _, Nat.zero_le _⟩ ?_
  exact ⟨congrArg (fun x => (Sum.inl (some (Value.double x)) : Rs)) (by rw [ze]), _, rfl, sc.rf⟩
