theorem txZ_lo (z : Nat → Int32) (s : Nat) (f : Nat → Int32) (k t : Nat) {y : Nat} (h : y ≠ 79 + 22 * s) (h2 : y < 79 + 22 * s + 10 ∨ 79 + 22 * s + 22 ≤ y) : txZ z s f k t y = z y := by
  unfold txZ cpz
  rw [if_neg (by omega), u1_n _ _ _ h]
theorem txZ_p (z : Nat → Int32) (s : Nat) (f : Nat → Int32) (k t : Nat) : txZ z s f k t (79 + 22 * s) = nI (ln f k t) := by
  unfold txZ cpz
  rw [if_neg (by omega), u1_s]
theorem txZ_w (z : Nat → Int32) (s : Nat) (f : Nat → Int32) (k t : Nat) {e : Nat} (h : e < 12) : txZ z s f k t (79 + 22 * s + 10 + e) = txF f (ps f k t) (ln f k t) e := by
  unfold txZ cpz
  rw [if_pos (by omega), show 79 + 22 * s + 10 + e - (79 + 22 * s + 10) = e by omega]
theorem u2_rz (I : Nat → Nat → Int32) (b : Nat) (z : Nat → Int32) {x : Nat} (h : x ≠ b) (y : Nat) (v : Int32) : u2 (rz I b z) x y v = rz (u2 I x y v) b z := by
  funext p q
  show (if p = x ∧ q = y then v else (if p = b then z q else I p q)) = if p = b then z q else (if p = x ∧ q = y then v else I p q)
  by_cases e : p = b
  · rw [if_neg (fun q2 => h (q2.1.symm.trans e)), if_pos e, if_pos e]
  · rw [if_neg e, if_neg e]
/-- back to its translator -/
def rsZ (z : Nat → Int32) (s : Nat) : Nat → Int32 :=
  let z1 := u1 z (79 + 22 * s + 6) (z (79 + 22 * s + 6) + z (79 + 22 * s + 5))
  let z2 := u1 z1 (79 + 22 * s + 5) (nI 0)
  let z3 := u1 z2 (79 + 22 * s + 7) (-1)
  let z4 := u1 z3 (79 + 22 * s + 8) (nI 0)
  u1 z4 (79 + 22 * s + 1) (nI 1)
theorem rsZ_lo (z : Nat → Int32) (s : Nat) {y : Nat} (h : y < 79 + 22 * s + 1 ∨ 79 + 22 * s + 8 < y) : rsZ z s y = z y := by
  unfold rsZ
  rw [u1_n _ _ _ (by omega), u1_n _ _ _ (by omega), u1_n _ _ _ (by omega), u1_n _ _ _ (by omega), u1_n _ _ _ (by omega)]
theorem rsZ_1 (z : Nat → Int32) (s : Nat) : rsZ z s (79 + 22 * s + 1) = nI 1 := u1_s _ _ _
theorem fxZ_1 (z : Nat → Int32) (s : Nat) : fxZ z s (79 + 22 * s + 1) = z (79 + 22 * s + 1) := by
  unfold fxZ
  rw [u1_n _ _ _ (by omega), u1_n _ _ _ (by omega)]
set_option maxRecDepth 100000 in
theorem cn_X10_change_1 (g : Gp) (cs : Nat × Nat) {m : Mm} {a : Nat} (hM : MdOk m a) {N : Nat} (hN : im m (a + 1) 0 = nI N) (hN9 : N ≤ 10) {p : Int32} (h : ¬ inb p N) : En g (MX10_change cs) [.ref (a), .int (p)] m (some (.int (nI 0))) (sc a (th m a 1)) := by
  refine Cn.of pn_X10 (Nat.le_of_ble_eq_true rfl) rfl ?_
  refine g_aload_n 0 dX10_change_0 rfl rfl ?_
  refine gN_iconst 0 dX10_change_1 (by decide) ?_
  refine gN_putI fwX10_34 rfl 0 (hM.t) dX10_change_2 ?_
  refine g_aload_n 0 dX10_change_5 rfl rfl ?_
  refine g_iload_n 1 dX10_change_6 rfl rfl ?_
  refine gd_callV _ _ _ _ (cn_X10_isSegment g (0, 0) (m := sI m a 6 (nI 0)) hM (N := N) ((th_z m a 0 0).trans hN) (by omega) (p)) ⟨rfl, rfl⟩ (ok_X10_isSegment _) mlX10_107 in_X10_isSegment se_X10_isSegment 10 0 (hM.t) rfl rfl rfl ⟨Nat.le_of_ble_eq_true rfl, Nat.le_of_ble_eq_true rfl⟩ (by exact Nat.le_of_ble_eq_true rfl) ⟨Nat.zero_le _, Nat.zero_le _⟩ dX10_change_7 rfl ?_
  refine gN_if_ne 19 dX10_change_10 (by decide) (by first | omega | exact b01_lt _) (fun h_10 => ?_) (fun h_10 => ?_)
  · exact False.elim (h (b01_n.mp h_10))
  · refine g_aload_n 0 dX10_change_13 rfl rfl ?_
    refine gN_iconst 1 dX10_change_14 (by decide) ?_
    refine gd_callV _ _ _ _ (cn_X10_fails g (0, 0) (m := sI m a 6 (nI 0)) hM (nI (1))) ⟨rfl, rfl⟩ (ok_X10_fails _) mlX10_95 in_X10_fails se_X10_fails 10 0 (hM.t) rfl rfl rfl ⟨Nat.le_of_ble_eq_true rfl, Nat.le_of_ble_eq_true rfl⟩ (by exact Nat.le_of_ble_eq_true rfl) ⟨Nat.zero_le _, Nat.zero_le _⟩ dX10_change_15 rfl ?_
    refine g_iret rfl dX10_change_18 ⟨Nat.zero_le _, Nat.zero_le _⟩ ?_
    exact ⟨rfl, _, rfl, by rw [show im (sI m a 6 (nI 0)) = th m a 0 from rfl, th_th]; exact sc.rf⟩
set_option maxRecDepth 100000 in
theorem cn_X10_change_2 (g : Gp) (cs : Nat × Nat) {m : Mm} {a : Nat} (hM : MdOk m a) {f : Nat → Int32} (hf : im m (a + 4) = f) {k : Nat} (hk : im m a 5 = nI k) (hk6 : k ≤ 60) {N : Nat} (hN : im m (a + 1) 0 = nI N) (hN9 : N ≤ 10) {s : Nat} (hs : s < N) (h : ¬ (okT f k ∧ lastT f k = 0)) : En g (MX10_change cs) [.ref (a), .int (nI (s))] m (some (.int (nI 0))) (sc a (th m a 2)) := by
  have hT30 : lastT f k ≤ 30 := last_30 hk6
  have hto : toN f k ≤ lastT f k + 1 := by unfold toN; have := b01_le (0 < ln f k (lastT f k)); omega
  refine Cn.of pn_X10 (Nat.le_of_ble_eq_true rfl) rfl ?_
  refine g_aload_n 0 dX10_change_0 rfl rfl ?_
  refine gN_iconst 0 dX10_change_1 (by decide) ?_
  refine gN_putI fwX10_34 rfl 0 (hM.t) dX10_change_2 ?_
  refine g_aload_n 0 dX10_change_5 rfl rfl ?_
  refine g_iload_n 1 dX10_change_6 rfl rfl ?_
  refine gd_callV _ _ _ _ (cn_X10_isSegment g (0, 0) (m := sI m a 6 (nI 0)) hM (N := N) ((th_z m a 0 0).trans hN) (by omega) (nI (s))) ⟨rfl, rfl⟩ (ok_X10_isSegment _) mlX10_107 in_X10_isSegment se_X10_isSegment 10 0 (hM.t) rfl rfl rfl ⟨Nat.le_of_ble_eq_true rfl, Nat.le_of_ble_eq_true rfl⟩ (by exact Nat.le_of_ble_eq_true rfl) ⟨Nat.zero_le _, Nat.zero_le _⟩ dX10_change_7 rfl ?_
  refine gN_if_ne 19 dX10_change_10 (by decide) (by first | omega | exact b01_lt _) (fun h_10 => ?_) (fun h_10 => ?_)
  · refine g_aload_n 0 dX10_change_19 rfl rfl ?_
    refine ge_callV _ _ _ (cn_X10_areRows g (0, 0) (m := sI m a 6 (nI 0)) hM (f := f) ((u2_o _ _ _ _ (by omega)).trans hf) (k := k) ((th_a m a 0 5 (by omega)).trans hk) hk6) ⟨rfl, rfl⟩ (ok_X10_areRows _) mlX10_141 in_X10_areRows se_X10_areRows 10 0 (hM.t) rfl rfl rfl ⟨Nat.le_of_ble_eq_true rfl, Nat.le_of_ble_eq_true rfl⟩ (by exact Nat.le_of_ble_eq_true rfl) ⟨Nat.zero_le _, Nat.zero_le _⟩ dX10_change_20 rfl (fun I1 hI1 => ?_)
    refine gN_if_eq 34 dX10_change_23 (by decide) (by first | omega | exact b01_lt _) (fun h_23 => ?_) (fun h_23 => ?_)
    · refine g_aload_n 0 dX10_change_34 rfl rfl ?_
      refine gN_iconst 2 dX10_change_35 (by decide) ?_
      refine gd_callV _ _ _ _ (cn_X10_fails g (0, 0) (m := wI (sI m a 6 (nI 0)) I1) hM (nI (2))) ⟨rfl, rfl⟩ (ok_X10_fails _) mlX10_95 in_X10_fails se_X10_fails 10 0 (hM.t) rfl rfl rfl ⟨Nat.le_of_ble_eq_true rfl, Nat.le_of_ble_eq_true rfl⟩ (by exact Nat.le_of_ble_eq_true rfl) ⟨Nat.zero_le _, Nat.zero_le _⟩ dX10_change_36 rfl ?_
      refine g_iret rfl dX10_change_39 ⟨Nat.zero_le _, Nat.zero_le _⟩ ?_
      exact ⟨rfl, _, rfl, th_sc hI1.1 2⟩
    · refine g_aload_n 0 dX10_change_26 rfl rfl ?_
      refine gN_getI flX10_131 rfl 0 (hM.t) dX10_change_27 ?_
      refine g_ei (nI (toN f k)) (hI1.2.2.1) ?_
      refine gN_iconst 1 dX10_change_30 (by decide) ?_
      refine gN_icmp_eq 40 dX10_change_31 (by decide) (by first | omega | exact b01_lt _) (by first | omega | exact b01_lt _) (fun h_31 => ?_) (fun h_31 => ?_)
      · exact False.elim (h ⟨b01_n.mp h_23, by have := ok_to (b01_n.mp h_23); omega⟩)
      · refine g_aload_n 0 dX10_change_34 rfl rfl ?_
        refine gN_iconst 2 dX10_change_35 (by decide) ?_
        refine gd_callV _ _ _ _ (cn_X10_fails g (0, 0) (m := wI (sI m a 6 (nI 0)) I1) hM (nI (2))) ⟨rfl, rfl⟩ (ok_X10_fails _) mlX10_95 in_X10_fails se_X10_fails 10 0 (hM.t) rfl rfl rfl ⟨Nat.le_of_ble_eq_true rfl, Nat.le_of_ble_eq_true rfl⟩ (by exact Nat.le_of_ble_eq_true rfl) ⟨Nat.zero_le _, Nat.zero_le _⟩ dX10_change_36 rfl ?_
        refine g_iret rfl dX10_change_39 ⟨Nat.zero_le _, Nat.zero_le _⟩ ?_
        exact ⟨rfl, _, rfl, th_sc hI1.1 2⟩
  · exact False.elim (b01_z.mp h_10 ((inb_nI (by omega)).mpr hs))
theorem ch_z (m : Mm) {I : Nat → Nat → Int32} {a : Nat} {z : Nat → Int32} (h : I (a + 1) = z) (s : Nat) (f : Nat → Int32) (k : Nat) : wI (wI m I) (cpI (u2 (im (wI m I)) (a + 1) (79 + 22 * s) (nI (ln f k 0))) (a + 1) (79 + 22 * s + 10) 12 (txF f (ps f k 0) (ln f k 0))) = wI m (rz I (a + 1) (txZ z s f k 0)) := by
  rw [im_wI, rz_uu I (a + 1) z h, rz_c]; rfl
set_option maxRecDepth 100000 in
theorem cn_X10_change_00 (g : Gp) (cs : Nat × Nat) {m : Mm} {a : Nat} (hM : MdOk m a) {f : Nat → Int32} (hf : im m (a + 4) = f) {k : Nat} (hk : im m a 5 = nI k) (hk6 : k ≤ 60) {N : Nat} (hN : im m (a + 1) 0 = nI N) (hN9 : N ≤ 10) {s : Nat} (hs : s < N) {n : Nat} (hn : im m a 3 = nI n) (hn6 : n ≤ 6) (hok : okT f k) (hT : lastT f k = 0) (hst : NR (im m (a + 1) (79 + 22 * s + 1)) 0 3) (h0 : nv ((im m (a + 1)) (79 + 22 * s + 1)) = 0) : En g (MX10_change cs) [.ref (a), .int (nI (s))] m (some (.int (nI 0))) (sc a (u2 (rz (svI (th m a 0) a n) (a + 1) (txZ (im m (a + 1)) s f k 0)) a 5 (nI 0))) := by
  have hT30 : lastT f k ≤ 30 := last_30 hk6
  have hto := ok_to hok
  have hl1 : 0 < ln f k 0 := by have := hok.1; rw [hT] at this; exact this
  have hl2 := ln_12 f k 0
  have hst2 := hst.hi
  refine Cn.of pn_X10 (Nat.le_of_ble_eq_true rfl) rfl ?_
  refine g_aload_n 0 dX10_change_0 rfl rfl ?_
  refine gN_iconst 0 dX10_change_1 (by decide) ?_
  refine gN_putI fwX10_34 rfl 0 (hM.t) dX10_change_2 ?_
  refine g_aload_n 0 dX10_change_5 rfl rfl ?_
  refine g_iload_n 1 dX10_change_6 rfl rfl ?_
  refine gd_callV _ _ _ _ (cn_X10_isSegment g (0, 0) (m := sI m a 6 (nI 0)) hM (N := N) ((th_z m a 0 0).trans hN) (by omega) (nI (s))) ⟨rfl, rfl⟩ (ok_X10_isSegment _) mlX10_107 in_X10_isSegment se_X10_isSegment 10 0 (hM.t) rfl rfl rfl ⟨Nat.le_of_ble_eq_true rfl, Nat.le_of_ble_eq_true rfl⟩ (by exact Nat.le_of_ble_eq_true rfl) ⟨Nat.zero_le _, Nat.zero_le _⟩ dX10_change_7 rfl ?_
  refine gN_if_ne 19 dX10_change_10 (by decide) (by first | omega | exact b01_lt _) (fun h_10 => ?_) (fun h_10 => ?_)
  · refine g_aload_n 0 dX10_change_19 rfl rfl ?_
    refine ge_callV _ _ _ (cn_X10_areRows g (0, 0) (m := sI m a 6 (nI 0)) hM (f := f) ((u2_o _ _ _ _ (by omega)).trans hf) (k := k) ((th_a m a 0 5 (by omega)).trans hk) hk6) ⟨rfl, rfl⟩ (ok_X10_areRows _) mlX10_141 in_X10_areRows se_X10_areRows 10 0 (hM.t) rfl rfl rfl ⟨Nat.le_of_ble_eq_true rfl, Nat.le_of_ble_eq_true rfl⟩ (by exact Nat.le_of_ble_eq_true rfl) ⟨Nat.zero_le _, Nat.zero_le _⟩ dX10_change_20 rfl (fun I1 hI1 => ?_)
    refine gN_if_eq 34 dX10_change_23 (by decide) (by first | omega | exact b01_lt _) (fun h_23 => ?_) (fun h_23 => ?_)
    · exact False.elim (b01_z.mp h_23 hok)
    · refine g_aload_n 0 dX10_change_26 rfl rfl ?_
      refine gN_getI flX10_131 rfl 0 (hM.t) dX10_change_27 ?_
      refine g_ei (nI (toN f k)) (hI1.2.2.1) ?_
      refine gN_iconst 1 dX10_change_30 (by decide) ?_
      refine gN_icmp_eq 40 dX10_change_31 (by decide) (by first | omega | exact b01_lt _) (by first | omega | exact b01_lt _) (fun h_31 => ?_) (fun h_31 => ?_)
      · refine g_aload_n 0 dX10_change_40 rfl rfl ?_
        refine gd_callV _ _ _ _ (cn_X10_save g (0, 0) (m := wI (sI m a 6 (nI 0)) I1) hM (n := n) (hI1.1.at3.trans ((th_a m a 0 3 (by omega)).trans hn)) hn6) ⟨rfl, rfl⟩ (ok_X10_save _) mlX10_98 in_X10_save se_X10_save 10 0 (hM.t) rfl rfl rfl ⟨Nat.le_of_ble_eq_true rfl, Nat.le_of_ble_eq_true rfl⟩ (by exact Nat.le_of_ble_eq_true rfl) ⟨Nat.zero_le _, Nat.zero_le _⟩ dX10_change_41 rfl ?_
        refine g_iload_n 1 dX10_change_44 rfl rfl ?_
        refine gd_callS _ _ _ _ (cn_X10_at g (0, 0) _ s) ⟨rfl, rfl⟩ (ok_X10_at _) mlX10_45 st_X10_at rfl ⟨Nat.le_of_ble_eq_true rfl, Nat.le_of_ble_eq_true rfl⟩ (by exact Nat.le_of_ble_eq_true rfl) ⟨Nat.zero_le _, Nat.zero_le _⟩ dX10_change_45 rfl ?_
        refine g_istore_n 2 [(2, .int (nI (79 + 22 * s))), (0, .ref (a)), (1, .int (nI (s)))] dX10_change_48 rfl (Nat.le_of_ble_eq_true rfl) rfl ?_
        refine g_aload_n 0 dX10_change_49 rfl rfl ?_
        refine g_iload_n 1 dX10_change_50 rfl rfl ?_
        refine gN_iconst 0 dX10_change_51 (by decide) ?_
        have hz1 : svI I1 a n (a + 1) = im m (a + 1) := by rw [svI_ne _ _ _ (by omega) (by omega), hI1.1.z]; funext y; exact th_z m a 0 y
        have e4 : svI I1 a n (a + 4) = f := by rw [svI_ne _ _ _ (by omega) (by omega), hI1.1.b4]; exact (u2_o _ _ _ _ (by omega)).trans hf
        have e5 : svI I1 a n a 5 = nI k := by rw [svI_a _ _ _ (by omega), hI1.1.at5]; exact (th_a m a 0 5 (by omega)).trans hk
        have e13 : svI I1 a n a 13 = nI (lastT f k + 1) := by rw [svI_a _ _ _ (by omega), hI1.2.2.1]; exact congrArg nI hto
        have e8 : ∀ j, j ≤ lastT f k → svI I1 a n (a + 8) j = nI (ps f k j) := fun j hj => by rw [svI_ne _ _ _ (by omega) (by omega)]; exact hI1.2.2.2 j hj
        refine gd_callV _ _ _ _ (cn_X10_layText g (0, 0) (m := wI m (svI I1 a n)) hM (f := f) e4 (k := k) e5 hk6 hok e13 e8 (s := s) (by omega) (t := 0) (by omega)) ⟨rfl, rfl⟩ (ok_X10_layText _) mlX10_144 in_X10_layText se_X10_layText 10 0 (hM.t) rfl rfl rfl ⟨Nat.le_of_ble_eq_true rfl, Nat.le_of_ble_eq_true rfl⟩ (by exact Nat.le_of_ble_eq_true rfl) ⟨Nat.zero_le _, Nat.zero_le _⟩ dX10_change_52 rfl ?_
        refine g_mem (m1 := wI m (rz (svI I1 a n) (a + 1) (txZ (im m (a + 1)) s f k 0))) (ch_z m hz1 s f k) ?_
        refine g_aload_n 0 dX10_change_55 rfl rfl ?_
        refine gN_getR (a + 1) flX10_7 (fun _ _ _ => rfl) 0 (hM.t) (hM.r0) dX10_change_56 ?_
        refine g_iload_n 2 dX10_change_59 rfl rfl ?_
        refine gN_iconst 1 dX10_change_60 (by decide) ?_
        refine gN_iadd ((79 + 22 * s) + 1) dX10_change_61 rfl ?_
        refine gN_iald 689 (hM.t1) (by first | omega | exact b01_lt _) (by first | omega | exact b01_lt _) dX10_change_62 ?_
        refine g_eI ((txZ (im m (a + 1)) s f k 0) ((79 + 22 * s) + 1)) (iz _ _ _ _ _) ?_
        refine g_ei (nI (nv ((im m (a + 1)) (79 + 22 * s + 1)))) (by rw [txZ_lo _ _ _ _ _ (by omega) (by omega)]; exact hst.e) ?_
        refine gN_iconst 1 dX10_change_63 (by decide) ?_
        refine gN_icmp_le 125 dX10_change_64 (by decide) (by first | omega | exact b01_lt _) (by first | omega | exact b01_lt _) (fun h_64 => ?_) (fun h_64 => ?_)
        · refine g_aload_n 0 dX10_change_125 rfl rfl ?_
          refine gN_getR (a + 1) flX10_7 (fun _ _ _ => rfl) 0 (hM.t) (hM.r0) dX10_change_126 ?_
          refine g_iload_n 2 dX10_change_129 rfl rfl ?_
          refine gN_iconst 1 dX10_change_130 (by decide) ?_
          refine gN_iadd ((79 + 22 * s) + 1) dX10_change_131 rfl ?_
          refine gN_iald 689 (hM.t1) (by first | omega | exact b01_lt _) (by first | omega | exact b01_lt _) dX10_change_132 ?_
          refine g_eI ((txZ (im m (a + 1)) s f k 0) ((79 + 22 * s) + 1)) (iz _ _ _ _ _) ?_
          refine g_ei (nI (nv ((im m (a + 1)) (79 + 22 * s + 1)))) (by rw [txZ_lo _ _ _ _ _ (by omega) (by omega)]; exact hst.e) ?_
          refine gN_iconst 1 dX10_change_133 (by decide) ?_
          refine gN_icmp_ne 142 dX10_change_134 (by decide) (by first | omega | exact b01_lt _) (by first | omega | exact b01_lt _) (fun h_134 => ?_) (fun h_134 => ?_)
          · refine g_aload_n 0 dX10_change_142 rfl rfl ?_
            refine gN_iconst 0 dX10_change_143 (by decide) ?_
            refine gN_putI fwX10_125 rfl 0 (hM.t) dX10_change_144 ?_
            refine g_mem (m1 := wI m (rz (u2 (svI I1 a n) a 5 (nI 0)) (a + 1) (txZ (im m (a + 1)) s f k 0))) (congrArg (wI m) (u2_rz _ _ _ (by omega) _ _)) ?_
            refine g_aload_n 0 dX10_change_147 rfl rfl ?_
            refine gN_getR (a + 1) flX10_7 (fun _ _ _ => rfl) 0 (hM.t) (hM.r0) dX10_change_148 ?_
            refine g_iload_n 2 dX10_change_151 rfl rfl ?_
            refine gN_iconst 1 dX10_change_152 (by decide) ?_
            refine gN_iadd ((79 + 22 * s) + 1) dX10_change_153 rfl ?_
            refine gN_iald 689 (hM.t1) (by first | omega | exact b01_lt _) (by first | omega | exact b01_lt _) dX10_change_154 ?_
            refine g_eI ((txZ (im m (a + 1)) s f k 0) ((79 + 22 * s) + 1)) (iz _ _ _ _ _) ?_
            refine g_ei (nI (0)) ((txZ_lo _ _ _ _ _ (by omega) (by omega)).trans (hst.e.trans (congrArg nI h0))) ?_
            refine g_iret rfl dX10_change_155 ⟨Nat.zero_le _, Nat.zero_le _⟩ ?_
            refine ⟨rfl, _, rfl, ?_⟩
            rw [← u2_rz _ _ _ (show a ≠ a + 1 by omega)]
            exact sc_u (sc_rz (sc_svI hI1.1 n) _) a 5 (nI 0)
          · exfalso; omega
        · exfalso; omega
      · exfalso; omega
  · exact False.elim (b01_z.mp h_10 ((inb_nI (by omega)).mpr hs))
set_option maxRecDepth 100000 in
theorem cn_X10_change_01 (g : Gp) (cs : Nat × Nat) {m : Mm} {a : Nat} (hM : MdOk m a) {f : Nat → Int32} (hf : im m (a + 4) = f) {k : Nat} (hk : im m a 5 = nI k) (hk6 : k ≤ 60) {N : Nat} (hN : im m (a + 1) 0 = nI N) (hN9 : N ≤ 10) {s : Nat} (hs : s < N) {n : Nat} (hn : im m a 3 = nI n) (hn6 : n ≤ 6) (hok : okT f k) (hT : lastT f k = 0) (hst : NR (im m (a + 1) (79 + 22 * s + 1)) 0 3) (hR : NR (im m (a + 1) 1) 0 30) (hrow : ∀ r, r < nv (im m (a + 1) 1) → NR (im m (a + 1) (299 + 13 * r)) 1 12) (h0 : nv ((im m (a + 1)) (79 + 22 * s + 1)) = 1) : En g (MX10_change cs) [.ref (a), .int (nI (s))] m (some (.int (nI 1))) (sc a (u2 (rz (svI (th m a 0) a n) (a + 1) (fxZ (txZ (im m (a + 1)) s f k 0) s)) a 5 (nI 0))) := by
  have hT30 : lastT f k ≤ 30 := last_30 hk6
  have hto := ok_to hok
  have hl1 : 0 < ln f k 0 := by have := hok.1; rw [hT] at this; exact this
  have hl2 := ln_12 f k 0
  have hst2 := hst.hi
  refine Cn.of pn_X10 (Nat.le_of_ble_eq_true rfl) rfl ?_
  refine g_aload_n 0 dX10_change_0 rfl rfl ?_
  refine gN_iconst 0 dX10_change_1 (by decide) ?_
  refine gN_putI fwX10_34 rfl 0 (hM.t) dX10_change_2 ?_
  refine g_aload_n 0 dX10_change_5 rfl rfl ?_
  refine g_iload_n 1 dX10_change_6 rfl rfl ?_
  refine gd_callV _ _ _ _ (cn_X10_isSegment g (0, 0) (m := sI m a 6 (nI 0)) hM (N := N) ((th_z m a 0 0).trans hN) (by omega) (nI (s))) ⟨rfl, rfl⟩ (ok_X10_isSegment _) mlX10_107 in_X10_isSegment se_X10_isSegment 10 0 (hM.t) rfl rfl rfl ⟨Nat.le_of_ble_eq_true rfl, Nat.le_of_ble_eq_true rfl⟩ (by exact Nat.le_of_ble_eq_true rfl) ⟨Nat.zero_le _, Nat.zero_le _⟩ dX10_change_7 rfl ?_
  refine gN_if_ne 19 dX10_change_10 (by decide) (by first | omega | exact b01_lt _) (fun h_10 => ?_) (fun h_10 => ?_)
  · refine g_aload_n 0 dX10_change_19 rfl rfl ?_
    refine ge_callV _ _ _ (cn_X10_areRows g (0, 0) (m := sI m a 6 (nI 0)) hM (f := f) ((u2_o _ _ _ _ (by omega)).trans hf) (k := k) ((th_a m a 0 5 (by omega)).trans hk) hk6) ⟨rfl, rfl⟩ (ok_X10_areRows _) mlX10_141 in_X10_areRows se_X10_areRows 10 0 (hM.t) rfl rfl rfl ⟨Nat.le_of_ble_eq_true rfl, Nat.le_of_ble_eq_true rfl⟩ (by exact Nat.le_of_ble_eq_true rfl) ⟨Nat.zero_le _, Nat.zero_le _⟩ dX10_change_20 rfl (fun I1 hI1 => ?_)
    refine gN_if_eq 34 dX10_change_23 (by decide) (by first | omega | exact b01_lt _) (fun h_23 => ?_) (fun h_23 => ?_)
    · exact False.elim (b01_z.mp h_23 hok)
    · refine g_aload_n 0 dX10_change_26 rfl rfl ?_
      refine gN_getI flX10_131 rfl 0 (hM.t) dX10_change_27 ?_
      refine g_ei (nI (toN f k)) (hI1.2.2.1) ?_
      refine gN_iconst 1 dX10_change_30 (by decide) ?_
      refine gN_icmp_eq 40 dX10_change_31 (by decide) (by first | omega | exact b01_lt _) (by first | omega | exact b01_lt _) (fun h_31 => ?_) (fun h_31 => ?_)
      · refine g_aload_n 0 dX10_change_40 rfl rfl ?_
        refine gd_callV _ _ _ _ (cn_X10_save g (0, 0) (m := wI (sI m a 6 (nI 0)) I1) hM (n := n) (hI1.1.at3.trans ((th_a m a 0 3 (by omega)).trans hn)) hn6) ⟨rfl, rfl⟩ (ok_X10_save _) mlX10_98 in_X10_save se_X10_save 10 0 (hM.t) rfl rfl rfl ⟨Nat.le_of_ble_eq_true rfl, Nat.le_of_ble_eq_true rfl⟩ (by exact Nat.le_of_ble_eq_true rfl) ⟨Nat.zero_le _, Nat.zero_le _⟩ dX10_change_41 rfl ?_
        refine g_iload_n 1 dX10_change_44 rfl rfl ?_
        refine gd_callS _ _ _ _ (cn_X10_at g (0, 0) _ s) ⟨rfl, rfl⟩ (ok_X10_at _) mlX10_45 st_X10_at rfl ⟨Nat.le_of_ble_eq_true rfl, Nat.le_of_ble_eq_true rfl⟩ (by exact Nat.le_of_ble_eq_true rfl) ⟨Nat.zero_le _, Nat.zero_le _⟩ dX10_change_45 rfl ?_
        refine g_istore_n 2 [(2, .int (nI (79 + 22 * s))), (0, .ref (a)), (1, .int (nI (s)))] dX10_change_48 rfl (Nat.le_of_ble_eq_true rfl) rfl ?_
        refine g_aload_n 0 dX10_change_49 rfl rfl ?_
        refine g_iload_n 1 dX10_change_50 rfl rfl ?_
        refine gN_iconst 0 dX10_change_51 (by decide) ?_
        have hz1 : svI I1 a n (a + 1) = im m (a + 1) := by rw [svI_ne _ _ _ (by omega) (by omega), hI1.1.z]; funext y; exact th_z m a 0 y
        have e4 : svI I1 a n (a + 4) = f := by rw [svI_ne _ _ _ (by omega) (by omega), hI1.1.b4]; exact (u2_o _ _ _ _ (by omega)).trans hf
        have e5 : svI I1 a n a 5 = nI k := by rw [svI_a _ _ _ (by omega), hI1.1.at5]; exact (th_a m a 0 5 (by omega)).trans hk
        have e13 : svI I1 a n a 13 = nI (lastT f k + 1) := by rw [svI_a _ _ _ (by omega), hI1.2.2.1]; exact congrArg nI hto
        have e8 : ∀ j, j ≤ lastT f k → svI I1 a n (a + 8) j = nI (ps f k j) := fun j hj => by rw [svI_ne _ _ _ (by omega) (by omega)]; exact hI1.2.2.2 j hj
        refine gd_callV _ _ _ _ (cn_X10_layText g (0, 0) (m := wI m (svI I1 a n)) hM (f := f) e4 (k := k) e5 hk6 hok e13 e8 (s := s) (by omega) (t := 0) (by omega)) ⟨rfl, rfl⟩ (ok_X10_layText _) mlX10_144 in_X10_layText se_X10_layText 10 0 (hM.t) rfl rfl rfl ⟨Nat.le_of_ble_eq_true rfl, Nat.le_of_ble_eq_true rfl⟩ (by exact Nat.le_of_ble_eq_true rfl) ⟨Nat.zero_le _, Nat.zero_le _⟩ dX10_change_52 rfl ?_
        refine g_mem (m1 := wI m (rz (svI I1 a n) (a + 1) (txZ (im m (a + 1)) s f k 0))) (ch_z m hz1 s f k) ?_
        refine g_aload_n 0 dX10_change_55 rfl rfl ?_
        refine gN_getR (a + 1) flX10_7 (fun _ _ _ => rfl) 0 (hM.t) (hM.r0) dX10_change_56 ?_
        refine g_iload_n 2 dX10_change_59 rfl rfl ?_
        refine gN_iconst 1 dX10_change_60 (by decide) ?_
        refine gN_iadd ((79 + 22 * s) + 1) dX10_change_61 rfl ?_
        refine gN_iald 689 (hM.t1) (by first | omega | exact b01_lt _) (by first | omega | exact b01_lt _) dX10_change_62 ?_
        refine g_eI ((txZ (im m (a + 1)) s f k 0) ((79 + 22 * s) + 1)) (iz _ _ _ _ _) ?_
        refine g_ei (nI (nv ((im m (a + 1)) (79 + 22 * s + 1)))) (by rw [txZ_lo _ _ _ _ _ (by omega) (by omega)]; exact hst.e) ?_
        refine gN_iconst 1 dX10_change_63 (by decide) ?_
        refine gN_icmp_le 125 dX10_change_64 (by decide) (by first | omega | exact b01_lt _) (by first | omega | exact b01_lt _) (fun h_64 => ?_) (fun h_64 => ?_)
        · refine g_aload_n 0 dX10_change_125 rfl rfl ?_
          refine gN_getR (a + 1) flX10_7 (fun _ _ _ => rfl) 0 (hM.t) (hM.r0) dX10_change_126 ?_
          refine g_iload_n 2 dX10_change_129 rfl rfl ?_
          refine gN_iconst 1 dX10_change_130 (by decide) ?_
          refine gN_iadd ((79 + 22 * s) + 1) dX10_change_131 rfl ?_
          refine gN_iald 689 (hM.t1) (by first | omega | exact b01_lt _) (by first | omega | exact b01_lt _) dX10_change_132 ?_
          refine g_eI ((txZ (im m (a + 1)) s f k 0) ((79 + 22 * s) + 1)) (iz _ _ _ _ _) ?_
          refine g_ei (nI (nv ((im m (a + 1)) (79 + 22 * s + 1)))) (by rw [txZ_lo _ _ _ _ _ (by omega) (by omega)]; exact hst.e) ?_
          refine gN_iconst 1 dX10_change_133 (by decide) ?_
          refine gN_icmp_ne 142 dX10_change_134 (by decide) (by first | omega | exact b01_lt _) (by first | omega | exact b01_lt _) (fun h_134 => ?_) (fun h_134 => ?_)
          · exfalso; omega
          · refine g_aload_n 0 dX10_change_137 rfl rfl ?_
            refine g_iload_n 1 dX10_change_138 rfl rfl ?_
            refine ge_callV _ _ _ (fx' g (0, 0) (m := wI m (rz (svI I1 a n) (a + 1) (txZ (im m (a + 1)) s f k 0))) hM (z := txZ (im m (a + 1)) s f k 0) (rz_b _ _ _) (s := s) (by omega) (by rw [txZ_p]; exact NR_nI (by omega) (by omega) (by omega)) (by rw [txZ_lo _ _ _ _ _ (by omega) (by omega)]; exact hR) (fun r hr2 => by rw [txZ_lo _ _ _ _ _ (by omega) (by omega)] at hr2 ⊢; exact hrow r hr2)) ⟨rfl, rfl⟩ (ok_X10_fix _) mlX10_110 in_X10_fix se_X10_fix 10 0 (hM.t) rfl rfl rfl ⟨Nat.le_of_ble_eq_true rfl, Nat.le_of_ble_eq_true rfl⟩ (by exact Nat.le_of_ble_eq_true rfl) ⟨Nat.zero_le _, Nat.zero_le _⟩ dX10_change_139 rfl (fun I2 hI2 => ?_)
            have hI3 : sc a (rz (svI (th m a 0) a n) (a + 1) (fxZ (txZ (im m (a + 1)) s f k 0) s)) I2 := by
              have h9 := hI2
              rw [im_wI, rz_rz] at h9
              exact (sc_rz (sc_svI hI1.1 n) _).tr h9
            refine g_aload_n 0 dX10_change_142 rfl rfl ?_
            refine gN_iconst 0 dX10_change_143 (by decide) ?_
            refine gN_putI fwX10_125 rfl 0 (hM.t) dX10_change_144 ?_
            refine g_aload_n 0 dX10_change_147 rfl rfl ?_
            refine gN_getR (a + 1) flX10_7 (fun _ _ _ => rfl) 0 (hM.t) (hM.r0) dX10_change_148 ?_
            refine g_iload_n 2 dX10_change_151 rfl rfl ?_
            refine gN_iconst 1 dX10_change_152 (by decide) ?_
            refine gN_iadd ((79 + 22 * s) + 1) dX10_change_153 rfl ?_
            refine gN_iald 689 (hM.t1) (by first | omega | exact b01_lt _) (by first | omega | exact b01_lt _) dX10_change_154 ?_
            refine g_ei (nI (1)) (by show u2 I2 a 5 (nI 0) (a + 1) _ = _; rw [u2_o _ _ _ _ (by omega), hI3.z, rz_b, fxZ_1]; exact (txZ_lo _ _ _ _ _ (by omega) (by omega)).trans (hst.e.trans (congrArg nI h0))) ?_
            refine g_iret rfl dX10_change_155 ⟨Nat.zero_le _, Nat.zero_le _⟩ ?_
            exact ⟨rfl, _, rfl, sc_u hI3 a 5 (nI 0)⟩
        · exfalso; omega
      · exfalso; omega
  · exact False.elim (b01_z.mp h_10 ((inb_nI (by omega)).mpr hs))
set_option maxRecDepth 100000 in
theorem cn_X10_change_02 (g : Gp) (cs : Nat × Nat) {m : Mm} {a : Nat} (hM : MdOk m a) {f : Nat → Int32} (hf : im m (a + 4) = f) {k : Nat} (hk : im m a 5 = nI k) (hk6 : k ≤ 60) {N : Nat} (hN : im m (a + 1) 0 = nI N) (hN9 : N ≤ 10) {s : Nat} (hs : s < N) {n : Nat} (hn : im m a 3 = nI n) (hn6 : n ≤ 6) (hok : okT f k) (hT : lastT f k = 0) (hst : NR (im m (a + 1) (79 + 22 * s + 1)) 0 3) (hR : NR (im m (a + 1) 1) 0 30) (hrow : ∀ r, r < nv (im m (a + 1) 1) → NR (im m (a + 1) (299 + 13 * r)) 1 12) (h0 : 2 ≤ nv ((im m (a + 1)) (79 + 22 * s + 1))) : En g (MX10_change cs) [.ref (a), .int (nI (s))] m (some (.int (nI 1))) (sc a (u2 (rz (svI (th m a 0) a n) (a + 1) (fxZ (rsZ (txZ (im m (a + 1)) s f k 0) s) s)) a 5 (nI 0))) := by
  have hT30 : lastT f k ≤ 30 := last_30 hk6
  have hto := ok_to hok
  have hl1 : 0 < ln f k 0 := by have := hok.1; rw [hT] at this; exact this
  have hl2 := ln_12 f k 0
  have hst2 := hst.hi
  refine Cn.of pn_X10 (Nat.le_of_ble_eq_true rfl) rfl ?_
  refine g_aload_n 0 dX10_change_0 rfl rfl ?_
  refine gN_iconst 0 dX10_change_1 (by decide) ?_
  refine gN_putI fwX10_34 rfl 0 (hM.t) dX10_change_2 ?_
  refine g_aload_n 0 dX10_change_5 rfl rfl ?_
  refine g_iload_n 1 dX10_change_6 rfl rfl ?_
  refine gd_callV _ _ _ _ (cn_X10_isSegment g (0, 0) (m := sI m a 6 (nI 0)) hM (N := N) ((th_z m a 0 0).trans hN) (by omega) (nI (s))) ⟨rfl, rfl⟩ (ok_X10_isSegment _) mlX10_107 in_X10_isSegment se_X10_isSegment 10 0 (hM.t) rfl rfl rfl ⟨Nat.le_of_ble_eq_true rfl, Nat.le_of_ble_eq_true rfl⟩ (by exact Nat.le_of_ble_eq_true rfl) ⟨Nat.zero_le _, Nat.zero_le _⟩ dX10_change_7 rfl ?_
  refine gN_if_ne 19 dX10_change_10 (by decide) (by first | omega | exact b01_lt _) (fun h_10 => ?_) (fun h_10 => ?_)
  · refine g_aload_n 0 dX10_change_19 rfl rfl ?_
    refine ge_callV _ _ _ (cn_X10_areRows g (0, 0) (m := sI m a 6 (nI 0)) hM (f := f) ((u2_o _ _ _ _ (by omega)).trans hf) (k := k) ((th_a m a 0 5 (by omega)).trans hk) hk6) ⟨rfl, rfl⟩ (ok_X10_areRows _) mlX10_141 in_X10_areRows se_X10_areRows 10 0 (hM.t) rfl rfl rfl ⟨Nat.le_of_ble_eq_true rfl, Nat.le_of_ble_eq_true rfl⟩ (by exact Nat.le_of_ble_eq_true rfl) ⟨Nat.zero_le _, Nat.zero_le _⟩ dX10_change_20 rfl (fun I1 hI1 => ?_)
    refine gN_if_eq 34 dX10_change_23 (by decide) (by first | omega | exact b01_lt _) (fun h_23 => ?_) (fun h_23 => ?_)
    · exact False.elim (b01_z.mp h_23 hok)
    · refine g_aload_n 0 dX10_change_26 rfl rfl ?_
      refine gN_getI flX10_131 rfl 0 (hM.t) dX10_change_27 ?_
      refine g_ei (nI (toN f k)) (hI1.2.2.1) ?_
      refine gN_iconst 1 dX10_change_30 (by decide) ?_
      refine gN_icmp_eq 40 dX10_change_31 (by decide) (by first | omega | exact b01_lt _) (by first | omega | exact b01_lt _) (fun h_31 => ?_) (fun h_31 => ?_)
      · refine g_aload_n 0 dX10_change_40 rfl rfl ?_
        refine gd_callV _ _ _ _ (cn_X10_save g (0, 0) (m := wI (sI m a 6 (nI 0)) I1) hM (n := n) (hI1.1.at3.trans ((th_a m a 0 3 (by omega)).trans hn)) hn6) ⟨rfl, rfl⟩ (ok_X10_save _) mlX10_98 in_X10_save se_X10_save 10 0 (hM.t) rfl rfl rfl ⟨Nat.le_of_ble_eq_true rfl, Nat.le_of_ble_eq_true rfl⟩ (by exact Nat.le_of_ble_eq_true rfl) ⟨Nat.zero_le _, Nat.zero_le _⟩ dX10_change_41 rfl ?_
        refine g_iload_n 1 dX10_change_44 rfl rfl ?_
        refine gd_callS _ _ _ _ (cn_X10_at g (0, 0) _ s) ⟨rfl, rfl⟩ (ok_X10_at _) mlX10_45 st_X10_at rfl ⟨Nat.le_of_ble_eq_true rfl, Nat.le_of_ble_eq_true rfl⟩ (by exact Nat.le_of_ble_eq_true rfl) ⟨Nat.zero_le _, Nat.zero_le _⟩ dX10_change_45 rfl ?_
        refine g_istore_n 2 [(2, .int (nI (79 + 22 * s))), (0, .ref (a)), (1, .int (nI (s)))] dX10_change_48 rfl (Nat.le_of_ble_eq_true rfl) rfl ?_
        refine g_aload_n 0 dX10_change_49 rfl rfl ?_
        refine g_iload_n 1 dX10_change_50 rfl rfl ?_
        refine gN_iconst 0 dX10_change_51 (by decide) ?_
        have hz1 : svI I1 a n (a + 1) = im m (a + 1) := by rw [svI_ne _ _ _ (by omega) (by omega), hI1.1.z]; funext y; exact th_z m a 0 y
        have e4 : svI I1 a n (a + 4) = f := by rw [svI_ne _ _ _ (by omega) (by omega), hI1.1.b4]; exact (u2_o _ _ _ _ (by omega)).trans hf
        have e5 : svI I1 a n a 5 = nI k := by rw [svI_a _ _ _ (by omega), hI1.1.at5]; exact (th_a m a 0 5 (by omega)).trans hk
        have e13 : svI I1 a n a 13 = nI (lastT f k + 1) := by rw [svI_a _ _ _ (by omega), hI1.2.2.1]; exact congrArg nI hto
        have e8 : ∀ j, j ≤ lastT f k → svI I1 a n (a + 8) j = nI (ps f k j) := fun j hj => by rw [svI_ne _ _ _ (by omega) (by omega)]; exact hI1.2.2.2 j hj
        refine gd_callV _ _ _ _ (cn_X10_layText g (0, 0) (m := wI m (svI I1 a n)) hM (f := f) e4 (k := k) e5 hk6 hok e13 e8 (s := s) (by omega) (t := 0) (by omega)) ⟨rfl, rfl⟩ (ok_X10_layText _) mlX10_144 in_X10_layText se_X10_layText 10 0 (hM.t) rfl rfl rfl ⟨Nat.le_of_ble_eq_true rfl, Nat.le_of_ble_eq_true rfl⟩ (by exact Nat.le_of_ble_eq_true rfl) ⟨Nat.zero_le _, Nat.zero_le _⟩ dX10_change_52 rfl ?_
        refine g_mem (m1 := wI m (rz (svI I1 a n) (a + 1) (txZ (im m (a + 1)) s f k 0))) (ch_z m hz1 s f k) ?_
        refine g_aload_n 0 dX10_change_55 rfl rfl ?_
        refine gN_getR (a + 1) flX10_7 (fun _ _ _ => rfl) 0 (hM.t) (hM.r0) dX10_change_56 ?_
        refine g_iload_n 2 dX10_change_59 rfl rfl ?_
        refine gN_iconst 1 dX10_change_60 (by decide) ?_
        refine gN_iadd ((79 + 22 * s) + 1) dX10_change_61 rfl ?_
        refine gN_iald 689 (hM.t1) (by first | omega | exact b01_lt _) (by first | omega | exact b01_lt _) dX10_change_62 ?_
        refine g_eI ((txZ (im m (a + 1)) s f k 0) ((79 + 22 * s) + 1)) (iz _ _ _ _ _) ?_
        refine g_ei (nI (nv ((im m (a + 1)) (79 + 22 * s + 1)))) (by rw [txZ_lo _ _ _ _ _ (by omega) (by omega)]; exact hst.e) ?_
        refine gN_iconst 1 dX10_change_63 (by decide) ?_
        refine gN_icmp_le 125 dX10_change_64 (by decide) (by first | omega | exact b01_lt _) (by first | omega | exact b01_lt _) (fun h_64 => ?_) (fun h_64 => ?_)
        · exfalso; omega
        · refine g_aload_n 0 dX10_change_67 rfl rfl ?_
          refine gN_getR (a + 1) flX10_7 (fun _ _ _ => rfl) 0 (hM.t) (hM.r0) dX10_change_68 ?_
          refine g_iload_n 2 dX10_change_71 rfl rfl ?_
          refine gN_bipush 6 dX10_change_72 (by decide) ?_
          refine gN_iadd ((79 + 22 * s) + 6) dX10_change_74 rfl ?_
          refine g_dup2_11 dX10_change_75 rfl rfl ?_
          refine gN_iald 689 (hM.t1) (by first | omega | exact b01_lt _) (by first | omega | exact b01_lt _) dX10_change_76 ?_
          refine g_eI ((txZ (im m (a + 1)) s f k 0) ((79 + 22 * s) + 6)) (iz _ _ _ _ _) ?_
          refine g_aload_n 0 dX10_change_77 rfl rfl ?_
          refine gN_getR (a + 1) flX10_7 (fun _ _ _ => rfl) 0 (hM.t) (hM.r0) dX10_change_78 ?_
          refine g_iload_n 2 dX10_change_81 rfl rfl ?_
          refine gN_iconst 5 dX10_change_82 (by decide) ?_
          refine gN_iadd ((79 + 22 * s) + 5) dX10_change_83 rfl ?_
          refine gN_iald 689 (hM.t1) (by first | omega | exact b01_lt _) (by first | omega | exact b01_lt _) dX10_change_84 ?_
          refine g_eI ((txZ (im m (a + 1)) s f k 0) ((79 + 22 * s) + 5)) (iz _ _ _ _ _) ?_
          refine g_iadd dX10_change_85 ?_
          refine gN_iast 689 (hM.t1) (by first | omega | exact b01_lt _) (by first | omega | exact b01_lt _) dX10_change_86 ?_
          refine g_zset (fun Z86 eZ86 => ?_)
          refine g_aload_n 0 dX10_change_87 rfl rfl ?_
          refine gN_getR (a + 1) flX10_7 (fun _ _ _ => rfl) 0 (hM.t) (hM.r0) dX10_change_88 ?_
          refine g_iload_n 2 dX10_change_91 rfl rfl ?_
          refine gN_iconst 5 dX10_change_92 (by decide) ?_
          refine gN_iadd ((79 + 22 * s) + 5) dX10_change_93 rfl ?_
          refine gN_iconst 0 dX10_change_94 (by decide) ?_
          refine gN_iast 689 (hM.t1) (by first | omega | exact b01_lt _) (by first | omega | exact b01_lt _) dX10_change_95 ?_
          refine g_zset (fun Z95 eZ95 => ?_)
          refine g_aload_n 0 dX10_change_96 rfl rfl ?_
          refine gN_getR (a + 1) flX10_7 (fun _ _ _ => rfl) 0 (hM.t) (hM.r0) dX10_change_97 ?_
          refine g_iload_n 2 dX10_change_100 rfl rfl ?_
          refine gN_bipush 7 dX10_change_101 (by decide) ?_
          refine gN_iadd ((79 + 22 * s) + 7) dX10_change_103 rfl ?_
          refine g_iconst (-1) dX10_change_104 (by decide) ?_
          refine gN_iast 689 (hM.t1) (by first | omega | exact b01_lt _) (by first | omega | exact b01_lt _) dX10_change_105 ?_
          refine g_zset (fun Z105 eZ105 => ?_)
          refine g_aload_n 0 dX10_change_106 rfl rfl ?_
          refine gN_getR (a + 1) flX10_7 (fun _ _ _ => rfl) 0 (hM.t) (hM.r0) dX10_change_107 ?_
          refine g_iload_n 2 dX10_change_110 rfl rfl ?_
          refine gN_bipush 8 dX10_change_111 (by decide) ?_
          refine gN_iadd ((79 + 22 * s) + 8) dX10_change_113 rfl ?_
          refine gN_iconst 0 dX10_change_114 (by decide) ?_
          refine gN_iast 689 (hM.t1) (by first | omega | exact b01_lt _) (by first | omega | exact b01_lt _) dX10_change_115 ?_
          refine g_zset (fun Z115 eZ115 => ?_)
          refine g_aload_n 0 dX10_change_116 rfl rfl ?_
          refine gN_getR (a + 1) flX10_7 (fun _ _ _ => rfl) 0 (hM.t) (hM.r0) dX10_change_117 ?_
          refine g_iload_n 2 dX10_change_120 rfl rfl ?_
          refine gN_iconst 1 dX10_change_121 (by decide) ?_
          refine gN_iadd ((79 + 22 * s) + 1) dX10_change_122 rfl ?_
          refine gN_iconst 1 dX10_change_123 (by decide) ?_
          refine gN_iast 689 (hM.t1) (by first | omega | exact b01_lt _) (by first | omega | exact b01_lt _) dX10_change_124 ?_
          refine g_zset (fun Z124 eZ124 => ?_)
          refine g_aload_n 0 dX10_change_125 rfl rfl ?_
          refine gN_getR (a + 1) flX10_7 (fun _ _ _ => rfl) 0 (hM.t) (hM.r0) dX10_change_126 ?_
          refine g_iload_n 2 dX10_change_129 rfl rfl ?_
          refine gN_iconst 1 dX10_change_130 (by decide) ?_
          refine gN_iadd ((79 + 22 * s) + 1) dX10_change_131 rfl ?_
          refine gN_iald 689 (hM.t1) (by first | omega | exact b01_lt _) (by first | omega | exact b01_lt _) dX10_change_132 ?_
          refine g_eI (Z124 ((79 + 22 * s) + 1)) (iz _ _ _ _ _) ?_
          refine g_ei (nI (1)) (by rw [eZ124, u1_s]) ?_
          refine gN_iconst 1 dX10_change_133 (by decide) ?_
          refine gN_icmp_ne 142 dX10_change_134 (by decide) (by first | omega | exact b01_lt _) (by first | omega | exact b01_lt _) (fun h_134 => ?_) (fun h_134 => ?_)
          · exact absurd h_134 (by decide)
          · refine g_aload_n 0 dX10_change_137 rfl rfl ?_
            refine g_iload_n 1 dX10_change_138 rfl rfl ?_
            have ez9 : Z124 = rsZ (txZ (im m (a + 1)) s f k 0) s := by
              rw [eZ124]; unfold rsZ; rw [eZ115, eZ105, eZ95, eZ86]
            refine g_mem (congrArg (fun q => wI m (rz (svI I1 a n) (a + 1) q)) ez9) ?_
            refine ge_callV _ _ _ (fx' g (0, 0) (m := wI m (rz (svI I1 a n) (a + 1) (rsZ (txZ (im m (a + 1)) s f k 0) s))) hM (z := rsZ (txZ (im m (a + 1)) s f k 0) s) (rz_b _ _ _) (s := s) (by omega) (by rw [rsZ_lo _ _ (by omega), txZ_p]; exact NR_nI (by omega) (by omega) (by omega)) (by rw [rsZ_lo _ _ (by omega), txZ_lo _ _ _ _ _ (by omega) (by omega)]; exact hR) (fun r hr2 => by rw [rsZ_lo _ _ (by omega), txZ_lo _ _ _ _ _ (by omega) (by omega)] at hr2 ⊢; exact hrow r hr2)) ⟨rfl, rfl⟩ (ok_X10_fix _) mlX10_110 in_X10_fix se_X10_fix 10 0 (hM.t) rfl rfl rfl ⟨Nat.le_of_ble_eq_true rfl, Nat.le_of_ble_eq_true rfl⟩ (by exact Nat.le_of_ble_eq_true rfl) ⟨Nat.zero_le _, Nat.zero_le _⟩ dX10_change_139 rfl (fun I2 hI2 => ?_)
            have hI3 : sc a (rz (svI (th m a 0) a n) (a + 1) (fxZ (rsZ (txZ (im m (a + 1)) s f k 0) s) s)) I2 := by
              have h9 := hI2
              rw [im_wI, rz_rz] at h9
              exact (sc_rz (sc_svI hI1.1 n) _).tr h9
            refine g_aload_n 0 dX10_change_142 rfl rfl ?_
            refine gN_iconst 0 dX10_change_143 (by decide) ?_
            refine gN_putI fwX10_125 rfl 0 (hM.t) dX10_change_144 ?_
            refine g_aload_n 0 dX10_change_147 rfl rfl ?_
            refine gN_getR (a + 1) flX10_7 (fun _ _ _ => rfl) 0 (hM.t) (hM.r0) dX10_change_148 ?_
            refine g_iload_n 2 dX10_change_151 rfl rfl ?_
            refine gN_iconst 1 dX10_change_152 (by decide) ?_
            refine gN_iadd ((79 + 22 * s) + 1) dX10_change_153 rfl ?_
            refine gN_iald 689 (hM.t1) (by first | omega | exact b01_lt _) (by first | omega | exact b01_lt _) dX10_change_154 ?_
            refine g_ei (nI (1)) (by show u2 I2 a 5 (nI 0) (a + 1) _ = _; rw [u2_o _ _ _ _ (by omega), hI3.z, rz_b, fxZ_1]; exact rsZ_1 _ _) ?_
            refine g_iret rfl dX10_change_155 ⟨Nat.zero_le _, Nat.zero_le _⟩ ?_
            exact ⟨rfl, _, rfl, sc_u hI3 a 5 (nI 0)⟩
      · exfalso; omega
  · exact False.elim (b01_z.mp h_10 ((inb_nI (by omega)).mpr hs))
