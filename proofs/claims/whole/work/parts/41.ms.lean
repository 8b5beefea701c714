theorem sc.b2 {a : Nat} {I J : Nat → Nat → Int32} (h : sc a I J) : J (a + 2) = I (a + 2) := by
  funext y; exact h _ _ (by unfold scr; omega)
theorem sc.at3 {a : Nat} {I J : Nat → Nat → Int32} (h : sc a I J) : J a 3 = I a 3 := h _ _ (by unfold scr; omega)
theorem sc_svB {a : Nat} {I J : Nat → Nat → Int32} (h : sc a I J) (k : Nat) : sc a (svB I a k) (svB J a k) := by
  intro x y n
  unfold svB u2 cpI
  rw [h.z, h x y n]
theorem sc_svA {a : Nat} {I J : Nat → Nat → Int32} (h : sc a I J) : sc a (svA I a) (svA J a) := by
  intro x y n
  unfold svA u2 cpI
  rw [h.b2, h x y n]
theorem sc_svI {a : Nat} {I J : Nat → Nat → Int32} (h : sc a I J) (n : Nat) : sc a (svI I a n) (svI J a n) := by
  unfold svI
  split
  · exact sc_svB (sc_svA h) 5
  · exact sc_svB h n
theorem sc_rz {a : Nat} {I J : Nat → Nat → Int32} (h : sc a I J) (z : Nat → Int32) : sc a (rz I (a + 1) z) (rz J (a + 1) z) := by
  intro x y n
  unfold rz
  rw [h x y n]
theorem sc_u {a : Nat} {I J : Nat → Nat → Int32} (h : sc a I J) (x y : Nat) (v : Int32) : sc a (u2 I x y v) (u2 J x y v) := by
  intro p q n
  unfold u2
  rw [h p q n]
/-- the words of the row t of the text laid at the segment s -/
noncomputable def txZ (z : Nat → Int32) (s : Nat) (f : Nat → Int32) (k t : Nat) : Nat → Int32 := cpz (u1 z (79 + 22 * s) (nI (ln f k t))) (79 + 22 * s + 10) 12 (txF f (ps f k t) (ln f k t))
/-- a place made anew -/
def opZ (z : Nat → Int32) (s : Nat) : Nat → Int32 := u1 (cpz z (79 + 22 * s) 22 (fun _ => nI 0)) (79 + 22 * s + 7) (-1)
/-- t rows of the text added behind N segments -/
noncomputable def adZ (N : Nat) (z : Nat → Int32) (f : Nat → Int32) (k : Nat) : Nat → Nat → Int32
  | 0 => z
  | t + 1 => u1 (txZ (opZ (adZ N z f k t) (N + t)) (N + t) f k t) 0 (nI (N + t + 1))
theorem adZ_0 {N : Nat} {z : Nat → Int32} (hz : z 0 = nI N) (f : Nat → Int32) (k t : Nat) : adZ N z f k t 0 = nI (N + t) := by
  cases t with
  | zero => exact hz
  | succ t => exact u1_s _ _ _
theorem opZ_0 (z : Nat → Int32) (s : Nat) : opZ z s 0 = z 0 := by
  unfold opZ cpz
  rw [u1_n _ _ _ (by omega), if_neg (by omega)]
theorem txZ_0 (z : Nat → Int32) (s : Nat) (f : Nat → Int32) (k t : Nat) : txZ z s f k t 0 = z 0 := by
  unfold txZ cpz
  rw [if_neg (by omega), u1_n _ _ _ (by omega)]
theorem tx_z (m : Mm) (I : Nat → Nat → Int32) (b : Nat) (z : Nat → Int32) (p d n : Nat) (v : Int32) (f : Nat → Int32) : wI (wI m (rz I b z)) (cpI (u2 (im (wI m (rz I b z))) b p v) b d n f) = wI m (rz I b (cpz (u1 z p v) d n f)) := by
  rw [im_wI, rz_u, rz_c]; rfl
theorem op_z (m : Mm) (I : Nat → Nat → Int32) (b : Nat) (z : Nat → Int32) (d n : Nat) (f : Nat → Int32) : wI m (cpI (rz I b z) b d n f) = wI m (rz I b (cpz z d n f)) := by
  rw [rz_c]
set_option maxRecDepth 100000 in
theorem lp_X10_addB (g : Gp) (cs : Nat × Nat) {m : Mm} {a : Nat} (hM : MdOk m a) {I0 : Nat → Nat → Int32} {t s : Nat} (hs : s < 10) {Q : Rs → Mm → Prop} (K : G g (MX10_add cs) Q 87 [(3, .int (nI (22))), (2, .int (nI (79 + 22 * s))), (1, .int (nI (t))), (0, .ref (a))] [] (0, 0) (wI m (cpI (I0) (a + 1) (79 + 22 * s) (22) (fun _ => nI 0)))) :
    ∀ d j : Nat, j + d = 22 → G g (MX10_add cs) Q 66 [(3, .int (nI (j))), (2, .int (nI (79 + 22 * s))), (1, .int (nI (t))), (0, .ref (a))] [] (0, 0) (wI m (cpI (I0) (a + 1) (79 + 22 * s) j (fun _ => nI 0))) := by
  intro d
  induction d with
  | zero =>
    intro j hj
    obtain rfl : j = 22 := hj
    refine g_iload_n 3 dX10_add_66 rfl rfl ?_
    refine gN_bipush 22 dX10_add_67 (by decide) ?_
    refine gN_icmp_ge 87 dX10_add_69 (by decide) (by first | omega | exact b01_lt _) (by first | omega | exact b01_lt _) (fun h_69 => ?_) (fun h_69 => ?_)
    · exact K
    · exact absurd h_69 (by decide)
  | succ d ih =>
    intro j hj
    refine g_iload_n 3 dX10_add_66 rfl rfl ?_
    refine gN_bipush 22 dX10_add_67 (by decide) ?_
    refine gN_icmp_ge 87 dX10_add_69 (by decide) (by first | omega | exact b01_lt _) (by first | omega | exact b01_lt _) (fun h_69 => ?_) (fun h_69 => ?_)
    · exfalso; omega
    · refine g_aload_n 0 dX10_add_72 rfl rfl ?_
      refine gN_getR (a + 1) flX10_7 (fun _ _ _ => rfl) 0 (hM.t) (hM.r0) dX10_add_73 ?_
      refine g_iload_n 2 dX10_add_76 rfl rfl ?_
      refine g_iload_n 3 dX10_add_77 rfl rfl ?_
      refine gN_iadd ((79 + 22 * s) + j) dX10_add_78 rfl ?_
      refine gN_iconst 0 dX10_add_79 (by decide) ?_
      refine gN_iast 689 (hM.t1) (by first | omega | exact b01_lt _) (by first | omega | exact b01_lt _) dX10_add_80 ?_
      refine g_iinc 3 (nI (j + 1)) 0 [(3, .int (nI (j + 1))), (2, .int (nI (79 + 22 * s))), (1, .int (nI (t))), (0, .ref (a))] dX10_add_81 rfl (nI_add j 1) (Nat.le_of_ble_eq_true rfl) rfl ?_
      refine g_goto 66 dX10_add_84 (by decide) ?_
      refine g_mem (m1 := wI m (cpI (I0) (a + 1) (79 + 22 * s) (j + 1) (fun _ => nI 0))) (wI_cp _ _ _ _ _ _ _ _ (by omega) (rfl)) ?_
      refine g_pick [0, 1, 2, 3] rfl ?_
      exact ih (j + 1) (by omega)
set_option maxRecDepth 100000 in
theorem lp_X10_add (g : Gp) (cs : Nat × Nat) {m : Mm} {a : Nat} (hM : MdOk m a) {I : Nat → Nat → Int32} {f : Nat → Int32} (hf : I (a + 4) = f) {k : Nat} (hk : I a 5 = nI k) (hk6 : k ≤ 60) (hok : okT f k) (h13 : I a 13 = nI (lastT f k + 1)) (h8 : ∀ j, j ≤ lastT f k → I (a + 8) j = nI (ps f k j)) {z : Nat → Int32} {N : Nat} (hz0 : z 0 = nI N) (hN : N + (lastT f k + 1) ≤ 10) {Q : Rs → Mm → Prop} (K : G g (MX10_add cs) Q 124 [(1, .int (nI (lastT f k + 1))), (0, .ref a)] [] (0, 0) (wI m (rz I (a + 1) (adZ N z f k (lastT f k + 1))))) : ∀ d t : Nat, t + d = lastT f k + 1 → G g (MX10_add cs) Q 46 [(1, .int (nI t)), (0, .ref a)] [] (0, 0) (wI m (rz I (a + 1) (adZ N z f k t))) := by
  intro d
  induction d with
  | zero =>
    intro t ht
    obtain rfl : t = lastT f k + 1 := ht
    refine g_iload_n 1 dX10_add_46 rfl rfl ?_
    refine g_aload_n 0 dX10_add_47 rfl rfl ?_
    refine gN_getI flX10_131 rfl 0 (hM.t) dX10_add_48 ?_
    refine g_ei (nI (lastT f k + 1)) (by rw [im_wI, rz_n _ _ _ (by omega)]; exact h13) ?_
    refine gN_icmp_ge 124 dX10_add_51 (by decide) (by first | omega | exact b01_lt _) (by first | omega | exact b01_lt _) (fun h_51 => ?_) (fun h_51 => ?_)
    · exact K
    · exfalso; omega
  | succ d ih =>
    intro t ht
    refine g_iload_n 1 dX10_add_46 rfl rfl ?_
    refine g_aload_n 0 dX10_add_47 rfl rfl ?_
    refine gN_getI flX10_131 rfl 0 (hM.t) dX10_add_48 ?_
    refine g_ei (nI (lastT f k + 1)) (by rw [im_wI, rz_n _ _ _ (by omega)]; exact h13) ?_
    refine gN_icmp_ge 124 dX10_add_51 (by decide) (by first | omega | exact b01_lt _) (by first | omega | exact b01_lt _) (fun h_51 => ?_) (fun h_51 => ?_)
    · exfalso; omega
    · refine g_aload_n 0 dX10_add_54 rfl rfl ?_
      refine gN_getR (a + 1) flX10_7 (fun _ _ _ => rfl) 0 (hM.t) (hM.r0) dX10_add_55 ?_
      refine gN_iconst 0 dX10_add_58 (by decide) ?_
      refine gN_iald 689 (hM.t1) (by first | omega | exact b01_lt _) (by first | omega | exact b01_lt _) dX10_add_59 ?_
      refine g_ei (nI (N + t)) (by rw [im_wI, rz_b]; exact adZ_0 hz0 f k t) ?_
      refine gd_callS _ _ _ _ (cn_X10_at g (0, 0) _ (N + t)) ⟨rfl, rfl⟩ (ok_X10_at _) mlX10_45 st_X10_at rfl ⟨Nat.le_of_ble_eq_true rfl, Nat.le_of_ble_eq_true rfl⟩ (by exact Nat.le_of_ble_eq_true rfl) ⟨Nat.zero_le _, Nat.zero_le _⟩ dX10_add_60 rfl ?_
      refine g_istore_n 2 [(2, .int (nI (79 + 22 * (N + t)))), (1, .int (nI (t))), (0, .ref (a))] dX10_add_63 rfl (Nat.le_of_ble_eq_true rfl) rfl ?_
      refine gN_iconst 0 dX10_add_64 (by decide) ?_
      refine g_istore_n 3 [(3, .int (nI (0))), (2, .int (nI (79 + 22 * (N + t)))), (1, .int (nI (t))), (0, .ref (a))] dX10_add_65 rfl (Nat.le_of_ble_eq_true rfl) rfl ?_
      refine g_mem (m1 := wI m (cpI (rz I (a + 1) (adZ N z f k t)) (a + 1) (79 + 22 * (N + t)) 0 (fun _ => nI 0))) (by rw [cpI_0]) ?_
      refine g_pick [0, 1, 2, 3] rfl ?_
      refine lp_X10_addB g cs hM (by omega) ?_ 22 0 rfl
      refine g_mem (op_z _ _ _ _ _ _ _) ?_
      refine g_aload_n 0 dX10_add_87 rfl rfl ?_
      refine gN_getR (a + 1) flX10_7 (fun _ _ _ => rfl) 0 (hM.t) (hM.r0) dX10_add_88 ?_
      refine g_iload_n 2 dX10_add_91 rfl rfl ?_
      refine gN_bipush 7 dX10_add_92 (by decide) ?_
      refine gN_iadd ((79 + 22 * (N + t)) + 7) dX10_add_94 rfl ?_
      refine g_iconst (-1) dX10_add_95 (by decide) ?_
      refine gN_iast 689 (hM.t1) (by first | omega | exact b01_lt _) (by first | omega | exact b01_lt _) dX10_add_96 ?_
      refine g_mem (m1 := wI m (rz I (a + 1) (opZ (adZ N z f k t) (N + t)))) (sz_u _ _ _ _ _ _) ?_
      refine g_aload_n 0 dX10_add_97 rfl rfl ?_
      refine g_aload_n 0 dX10_add_98 rfl rfl ?_
      refine gN_getR (a + 1) flX10_7 (fun _ _ _ => rfl) 0 (hM.t) (hM.r0) dX10_add_99 ?_
      refine gN_iconst 0 dX10_add_102 (by decide) ?_
      refine gN_iald 689 (hM.t1) (by first | omega | exact b01_lt _) (by first | omega | exact b01_lt _) dX10_add_103 ?_
      refine g_ei (nI (N + t)) (by rw [im_wI, rz_b, opZ_0]; exact adZ_0 hz0 f k t) ?_
      refine g_iload_n 1 dX10_add_104 rfl rfl ?_
      refine gd_callV _ _ _ _ (cn_X10_layText g (0, 0) (m := wI m (rz I (a + 1) (opZ (adZ N z f k t) (N + t)))) hM (f := f) (by rw [im_wI, rz_n _ _ _ (by omega)]; exact hf) (k := k) (by rw [im_wI, rz_n _ _ _ (by omega)]; exact hk) hk6 hok (by rw [im_wI, rz_n _ _ _ (by omega)]; exact h13) (fun j hj => by rw [im_wI, rz_n _ _ _ (by omega)]; exact h8 j hj) (s := N + t) (by omega) (t := t) (by omega)) ⟨rfl, rfl⟩ (ok_X10_layText _) mlX10_144 in_X10_layText se_X10_layText 10 0 (hM.t) rfl rfl rfl ⟨Nat.le_of_ble_eq_true rfl, Nat.le_of_ble_eq_true rfl⟩ (by exact Nat.le_of_ble_eq_true rfl) ⟨Nat.zero_le _, Nat.zero_le _⟩ dX10_add_105 rfl ?_
      refine g_mem (tx_z _ _ _ _ _ _ _ _ _) ?_
      refine g_aload_n 0 dX10_add_108 rfl rfl ?_
      refine gN_getR (a + 1) flX10_7 (fun _ _ _ => rfl) 0 (hM.t) (hM.r0) dX10_add_109 ?_
      refine gN_iconst 0 dX10_add_112 (by decide) ?_
      refine g_dup2_11 dX10_add_113 rfl rfl ?_
      refine gN_iald 689 (hM.t1) (by first | omega | exact b01_lt _) (by first | omega | exact b01_lt _) dX10_add_114 ?_
      refine g_ei (nI (N + t)) (by rw [im_wI, rz_b]; exact (txZ_0 _ _ f k t).trans ((opZ_0 _ _).trans (adZ_0 hz0 f k t))) ?_
      refine gN_iconst 1 dX10_add_115 (by decide) ?_
      refine gN_iadd ((N + t) + 1) dX10_add_116 rfl ?_
      refine gN_iast 689 (hM.t1) (by first | omega | exact b01_lt _) (by first | omega | exact b01_lt _) dX10_add_117 ?_
      refine g_iinc 1 (nI (t + 1)) 2 [(1, .int (nI (t + 1))), (3, .int (nI (22))), (2, .int (nI (79 + 22 * (N + t)))), (0, .ref (a))] dX10_add_118 rfl (nI_add t 1) (Nat.le_of_ble_eq_true rfl) rfl ?_
      refine g_goto 46 dX10_add_121 (by decide) ?_
      refine g_mem (sz_u _ _ _ _ _ _) ?_
      refine g_pick [0, 3] rfl ?_
      exact ih (t + 1) (by omega)
set_option maxRecDepth 100000 in
theorem cn_X10_add_1 (g : Gp) (cs : Nat × Nat) {m : Mm} {a : Nat} (hM : MdOk m a) {f : Nat → Int32} (hf : im m (a + 4) = f) {k : Nat} (hk : im m a 5 = nI k) (hk6 : k ≤ 60) (h : ¬ okT f k) : En g (MX10_add cs) [.ref (a)] m (some (.int (nI 0))) (sc a (th m a 1)) := by
  refine Cn.of pn_X10 (Nat.le_of_ble_eq_true rfl) rfl ?_
  refine g_aload_n 0 dX10_add_0 rfl rfl ?_
  refine gN_iconst 0 dX10_add_1 (by decide) ?_
  refine gN_putI fwX10_34 rfl 0 (hM.t) dX10_add_2 ?_
  refine g_aload_n 0 dX10_add_5 rfl rfl ?_
  refine ge_callV _ _ _ (cn_X10_areRows g (0, 0) (m := sI m a 6 (nI 0)) hM (f := f) ((u2_o _ _ _ _ (by omega)).trans hf) (k := k) ((th_a m a 0 5 (by omega)).trans hk) hk6) ⟨rfl, rfl⟩ (ok_X10_areRows _) mlX10_141 in_X10_areRows se_X10_areRows 10 0 (hM.t) rfl rfl rfl ⟨Nat.le_of_ble_eq_true rfl, Nat.le_of_ble_eq_true rfl⟩ (by exact Nat.le_of_ble_eq_true rfl) ⟨Nat.zero_le _, Nat.zero_le _⟩ dX10_add_6 rfl (fun I1 hI1 => ?_)
  refine gN_if_ne 18 dX10_add_9 (by decide) (by first | omega | exact b01_lt _) (fun h_9 => ?_) (fun h_9 => ?_)
  · exact False.elim (h (b01_n.mp h_9))
  · refine g_aload_n 0 dX10_add_12 rfl rfl ?_
    refine gN_iconst 1 dX10_add_13 (by decide) ?_
    refine gd_callV _ _ _ _ (cn_X10_fails g (0, 0) (m := wI (sI m a 6 (nI 0)) I1) hM (nI (1))) ⟨rfl, rfl⟩ (ok_X10_fails _) mlX10_95 in_X10_fails se_X10_fails 10 0 (hM.t) rfl rfl rfl ⟨Nat.le_of_ble_eq_true rfl, Nat.le_of_ble_eq_true rfl⟩ (by exact Nat.le_of_ble_eq_true rfl) ⟨Nat.zero_le _, Nat.zero_le _⟩ dX10_add_14 rfl ?_
    refine g_iret rfl dX10_add_17 ⟨Nat.zero_le _, Nat.zero_le _⟩ ?_
    exact ⟨rfl, _, rfl, th_sc hI1.1 1⟩
set_option maxRecDepth 100000 in
theorem cn_X10_add_2 (g : Gp) (cs : Nat × Nat) {m : Mm} {a : Nat} (hM : MdOk m a) {f : Nat → Int32} (hf : im m (a + 4) = f) {k : Nat} (hk : im m a 5 = nI k) (hk6 : k ≤ 60) {N : Nat} (hN : im m (a + 1) 0 = nI N) (hN9 : N ≤ 10) (h : okT f k) (h2 : 10 < N + (lastT f k + 1)) : En g (MX10_add cs) [.ref (a)] m (some (.int (nI 0))) (sc a (th m a 2)) := by
  have hT30 : lastT f k ≤ 30 := last_30 hk6
  have hto := ok_to h
  refine Cn.of pn_X10 (Nat.le_of_ble_eq_true rfl) rfl ?_
  refine g_aload_n 0 dX10_add_0 rfl rfl ?_
  refine gN_iconst 0 dX10_add_1 (by decide) ?_
  refine gN_putI fwX10_34 rfl 0 (hM.t) dX10_add_2 ?_
  refine g_aload_n 0 dX10_add_5 rfl rfl ?_
  refine ge_callV _ _ _ (cn_X10_areRows g (0, 0) (m := sI m a 6 (nI 0)) hM (f := f) ((u2_o _ _ _ _ (by omega)).trans hf) (k := k) ((th_a m a 0 5 (by omega)).trans hk) hk6) ⟨rfl, rfl⟩ (ok_X10_areRows _) mlX10_141 in_X10_areRows se_X10_areRows 10 0 (hM.t) rfl rfl rfl ⟨Nat.le_of_ble_eq_true rfl, Nat.le_of_ble_eq_true rfl⟩ (by exact Nat.le_of_ble_eq_true rfl) ⟨Nat.zero_le _, Nat.zero_le _⟩ dX10_add_6 rfl (fun I1 hI1 => ?_)
  refine gN_if_ne 18 dX10_add_9 (by decide) (by first | omega | exact b01_lt _) (fun h_9 => ?_) (fun h_9 => ?_)
  · refine g_aload_n 0 dX10_add_18 rfl rfl ?_
    refine gN_getR (a + 1) flX10_7 (fun _ _ _ => rfl) 0 (hM.t) (hM.r0) dX10_add_19 ?_
    refine gN_iconst 0 dX10_add_22 (by decide) ?_
    refine gN_iald 689 (hM.t1) (by first | omega | exact b01_lt _) (by first | omega | exact b01_lt _) dX10_add_23 ?_
    refine g_ei (nI (N)) ((hI1.1.zz 0).trans ((th_z m a 0 0).trans hN)) ?_
    refine g_aload_n 0 dX10_add_24 rfl rfl ?_
    refine gN_getI flX10_131 rfl 0 (hM.t) dX10_add_25 ?_
    refine g_ei (nI (toN f k)) (hI1.2.2.1) ?_
    refine gN_iadd (N + (toN f k)) dX10_add_28 rfl ?_
    refine gN_bipush 10 dX10_add_29 (by decide) ?_
    refine gN_icmp_le 40 dX10_add_31 (by decide) (by first | omega | exact b01_lt _) (by first | omega | exact b01_lt _) (fun h_31 => ?_) (fun h_31 => ?_)
    · exfalso; omega
    · refine g_aload_n 0 dX10_add_34 rfl rfl ?_
      refine gN_iconst 2 dX10_add_35 (by decide) ?_
      refine gd_callV _ _ _ _ (cn_X10_fails g (0, 0) (m := wI (sI m a 6 (nI 0)) I1) hM (nI (2))) ⟨rfl, rfl⟩ (ok_X10_fails _) mlX10_95 in_X10_fails se_X10_fails 10 0 (hM.t) rfl rfl rfl ⟨Nat.le_of_ble_eq_true rfl, Nat.le_of_ble_eq_true rfl⟩ (by exact Nat.le_of_ble_eq_true rfl) ⟨Nat.zero_le _, Nat.zero_le _⟩ dX10_add_36 rfl ?_
      refine g_iret rfl dX10_add_39 ⟨Nat.zero_le _, Nat.zero_le _⟩ ?_
      exact ⟨rfl, _, rfl, th_sc hI1.1 2⟩
  · exact False.elim (b01_z.mp h_9 h)
set_option maxRecDepth 100000 in
theorem cn_X10_add_0 (g : Gp) (cs : Nat × Nat) {m : Mm} {a : Nat} (hM : MdOk m a) {f : Nat → Int32} (hf : im m (a + 4) = f) {k : Nat} (hk : im m a 5 = nI k) (hk6 : k ≤ 60) {N : Nat} (hN : im m (a + 1) 0 = nI N) (hN9 : N ≤ 10) {n : Nat} (hn : im m a 3 = nI n) (hn6 : n ≤ 6) (hok : okT f k) (h2 : N + (lastT f k + 1) ≤ 10) : En g (MX10_add cs) [.ref (a)] m (some (.int (nI (N + (lastT f k + 1))))) (sc a (u2 (rz (svI (th m a 0) a n) (a + 1) (adZ N (im m (a + 1)) f k (lastT f k + 1))) a 5 (nI 0))) := by
  have hT30 : lastT f k ≤ 30 := last_30 hk6
  have hto := ok_to hok
  refine Cn.of pn_X10 (Nat.le_of_ble_eq_true rfl) rfl ?_
  refine g_aload_n 0 dX10_add_0 rfl rfl ?_
  refine gN_iconst 0 dX10_add_1 (by decide) ?_
  refine gN_putI fwX10_34 rfl 0 (hM.t) dX10_add_2 ?_
  refine g_aload_n 0 dX10_add_5 rfl rfl ?_
  refine ge_callV _ _ _ (cn_X10_areRows g (0, 0) (m := sI m a 6 (nI 0)) hM (f := f) ((u2_o _ _ _ _ (by omega)).trans hf) (k := k) ((th_a m a 0 5 (by omega)).trans hk) hk6) ⟨rfl, rfl⟩ (ok_X10_areRows _) mlX10_141 in_X10_areRows se_X10_areRows 10 0 (hM.t) rfl rfl rfl ⟨Nat.le_of_ble_eq_true rfl, Nat.le_of_ble_eq_true rfl⟩ (by exact Nat.le_of_ble_eq_true rfl) ⟨Nat.zero_le _, Nat.zero_le _⟩ dX10_add_6 rfl (fun I1 hI1 => ?_)
  refine gN_if_ne 18 dX10_add_9 (by decide) (by first | omega | exact b01_lt _) (fun h_9 => ?_) (fun h_9 => ?_)
  · refine g_aload_n 0 dX10_add_18 rfl rfl ?_
    refine gN_getR (a + 1) flX10_7 (fun _ _ _ => rfl) 0 (hM.t) (hM.r0) dX10_add_19 ?_
    refine gN_iconst 0 dX10_add_22 (by decide) ?_
    refine gN_iald 689 (hM.t1) (by first | omega | exact b01_lt _) (by first | omega | exact b01_lt _) dX10_add_23 ?_
    refine g_ei (nI (N)) ((hI1.1.zz 0).trans ((th_z m a 0 0).trans hN)) ?_
    refine g_aload_n 0 dX10_add_24 rfl rfl ?_
    refine gN_getI flX10_131 rfl 0 (hM.t) dX10_add_25 ?_
    refine g_ei (nI (toN f k)) (hI1.2.2.1) ?_
    refine gN_iadd (N + (toN f k)) dX10_add_28 rfl ?_
    refine gN_bipush 10 dX10_add_29 (by decide) ?_
    refine gN_icmp_le 40 dX10_add_31 (by decide) (by first | omega | exact b01_lt _) (by first | omega | exact b01_lt _) (fun h_31 => ?_) (fun h_31 => ?_)
    · refine g_aload_n 0 dX10_add_40 rfl rfl ?_
      refine gd_callV _ _ _ _ (cn_X10_save g (0, 0) (m := wI (sI m a 6 (nI 0)) I1) hM (n := n) (hI1.1.at3.trans ((th_a m a 0 3 (by omega)).trans hn)) hn6) ⟨rfl, rfl⟩ (ok_X10_save _) mlX10_98 in_X10_save se_X10_save 10 0 (hM.t) rfl rfl rfl ⟨Nat.le_of_ble_eq_true rfl, Nat.le_of_ble_eq_true rfl⟩ (by exact Nat.le_of_ble_eq_true rfl) ⟨Nat.zero_le _, Nat.zero_le _⟩ dX10_add_41 rfl ?_
      refine gN_iconst 0 dX10_add_44 (by decide) ?_
      refine g_istore_n 1 [(1, .int (nI (0))), (0, .ref (a))] dX10_add_45 rfl (Nat.le_of_ble_eq_true rfl) rfl ?_
      have hz1 : svI I1 a n (a + 1) = im m (a + 1) := by rw [svI_ne _ _ _ (by omega) (by omega), hI1.1.z]; funext y; exact th_z m a 0 y
      refine g_mem (m1 := wI m (rz (svI I1 a n) (a + 1) (adZ N (im m (a + 1)) f k 0))) (congrArg (wI m) (rz_l _ _ _ hz1).symm) ?_
      have e4 : svI I1 a n (a + 4) = f := by rw [svI_ne _ _ _ (by omega) (by omega), hI1.1.b4]; exact (u2_o _ _ _ _ (by omega)).trans hf
      have e5 : svI I1 a n a 5 = nI k := by rw [svI_a _ _ _ (by omega), hI1.1.at5]; exact (th_a m a 0 5 (by omega)).trans hk
      have e13 : svI I1 a n a 13 = nI (lastT f k + 1) := by rw [svI_a _ _ _ (by omega), hI1.2.2.1]; exact congrArg nI hto
      have e8 : ∀ j, j ≤ lastT f k → svI I1 a n (a + 8) j = nI (ps f k j) := fun j hj => by rw [svI_ne _ _ _ (by omega) (by omega)]; exact hI1.2.2.2 j hj
      refine lp_X10_add g cs hM e4 e5 hk6 hok e13 e8 hN (by omega) ?_ (lastT f k + 1) 0 (Nat.zero_add _)
      refine g_aload_n 0 dX10_add_124 rfl rfl ?_
      refine gN_iconst 0 dX10_add_125 (by decide) ?_
      refine gN_putI fwX10_125 rfl 0 (hM.t) dX10_add_126 ?_
      refine g_aload_n 0 dX10_add_129 rfl rfl ?_
      refine gN_getR (a + 1) flX10_7 (fun _ _ _ => rfl) 0 (hM.t) (hM.r0) dX10_add_130 ?_
      refine gN_iconst 0 dX10_add_133 (by decide) ?_
      refine gN_iald 689 (hM.t1) (by first | omega | exact b01_lt _) (by first | omega | exact b01_lt _) dX10_add_134 ?_
      refine g_ei (nI (N + (lastT f k + 1))) (by rw [show im (sI (wI m (rz (svI I1 a n) (a + 1) (adZ N (im m (a + 1)) f k (lastT f k + 1)))) a 5 (nI 0)) (a + 1) = _ from (u2_o _ _ _ _ (by omega)).trans (rz_b _ _ _)]; exact adZ_0 hN f k _) ?_
      refine g_iret rfl dX10_add_135 ⟨Nat.zero_le _, Nat.zero_le _⟩ ?_
      exact ⟨rfl, _, rfl, sc_u (sc_rz (sc_svI hI1.1 n) _) a 5 (nI 0)⟩
    · exfalso; omega
  · exact False.elim (b01_z.mp h_9 hok)
