theorem fx' (g : Gp) (cs : Nat × Nat) {m : Mm} {a : Nat} (hM : MdOk m a) {z : Nat → Int32} (hz : im m (a + 1) = z) {s : Nat} (hs : s < 10) (hn : NR (z (79 + 22 * s)) 1 12) (hR : NR (z 1) 0 30) (hrow : ∀ r, r < nv (z 1) → NR (z (299 + 13 * r)) 1 12) : En g (MX10_fix cs) [.ref a, .int (nI s)] m none (sc a (rz (im m) (a + 1) (fxZ z s))) := by
  subst hz
  have h := cn_X10_fix g cs hM hs hn hR hrow
  rw [rz_uu (im m) (a + 1) _ rfl, rz_u] at h
  exact h
theorem rm' (g : Gp) (cs : Nat × Nat) {m : Mm} {a : Nat} (hM : MdOk m a) {I : Nat → Nat → Int32} {z : Nat → Int32} {s : Nat} (hs : s < 10) (hR : NR (z 1) 0 30) : Dn g (MX10_remember cs) [.ref a, .int (nI s)] (wI m (rz I (a + 1) z)) none (wI m (rz I (a + 1) (rmZ z s))) := by
  have h := cn_X10_remember g cs (m := wI m (rz I (a + 1) z)) hM hs (by rw [im_wI, rz_b]; exact hR)
  rw [im_wI, rmI_z] at h
  exact h
theorem g_zset {g : Gp} {M : MI} {Q : Rs → Mm → Prop} {pc : Nat} {L : List (Nat × Value)} {st : List Value} {u : Nat × Nat} {m : Mm} {I : Nat → Nat → Int32} {b i : Nat} {z : Nat → Int32} {v : Int32} (k : ∀ z', z' = u1 z i v → G g M Q pc L st u (wI m (rz I b z'))) : G g M Q pc L st u (sI (wI m (rz I b z)) b i v) := by
  rw [sz_u]; exact k _ rfl
set_option maxRecDepth 100000 in
theorem cn_X10_assign_1 (g : Gp) (cs : Nat × Nat) {m : Mm} {a : Nat} (hM : MdOk m a) {N : Nat} (hN : im m (a + 1) 0 = nI N) (hN9 : N ≤ 10) {p x : Int32} (h : ¬ (inb p N ∧ inb x 4)) : En g (MX10_assign cs) [.ref (a), .int (p), .int (x)] m (some (.int (nI 0))) (sc a (th m a 1)) := by
  refine Cn.of pn_X10 (Nat.le_of_ble_eq_true rfl) rfl ?_
  refine g_aload_n 0 dX10_assign_0 rfl rfl ?_
  refine gN_iconst 0 dX10_assign_1 (by decide) ?_
  refine gN_putI fwX10_34 rfl 0 (hM.t) dX10_assign_2 ?_
  refine g_aload_n 0 dX10_assign_5 rfl rfl ?_
  refine g_iload_n 1 dX10_assign_6 rfl rfl ?_
  refine gd_callV _ _ _ _ (cn_X10_isSegment g (0, 0) (m := sI m a 6 (nI 0)) hM (N := N) ((th_z m a 0 0).trans hN) (by omega) (p)) ⟨rfl, rfl⟩ (ok_X10_isSegment _) mlX10_107 in_X10_isSegment se_X10_isSegment 10 0 (hM.t) rfl rfl rfl ⟨Nat.le_of_ble_eq_true rfl, Nat.le_of_ble_eq_true rfl⟩ (by exact Nat.le_of_ble_eq_true rfl) ⟨Nat.zero_le _, Nat.zero_le _⟩ dX10_assign_7 rfl ?_
  refine gN_if_eq 20 dX10_assign_10 (by decide) (by first | omega | exact b01_lt _) (fun h_10 => ?_) (fun h_10 => ?_)
  · refine g_aload_n 0 dX10_assign_20 rfl rfl ?_
    refine gN_iconst 1 dX10_assign_21 (by decide) ?_
    refine gd_callV _ _ _ _ (cn_X10_fails g (0, 0) (m := sI m a 6 (nI 0)) hM (nI (1))) ⟨rfl, rfl⟩ (ok_X10_fails _) mlX10_95 in_X10_fails se_X10_fails 10 0 (hM.t) rfl rfl rfl ⟨Nat.le_of_ble_eq_true rfl, Nat.le_of_ble_eq_true rfl⟩ (by exact Nat.le_of_ble_eq_true rfl) ⟨Nat.zero_le _, Nat.zero_le _⟩ dX10_assign_22 rfl ?_
    refine g_iret rfl dX10_assign_25 ⟨Nat.zero_le _, Nat.zero_le _⟩ ?_
    exact ⟨rfl, _, rfl, by rw [show im (sI m a 6 (nI 0)) = th m a 0 from rfl, th_th]; exact sc.rf⟩
  · refine g_iload_n 2 dX10_assign_13 rfl rfl ?_
    refine gd_callS _ _ _ _ (cn_X10_isPerson g (0, 0) (x)) ⟨rfl, rfl⟩ (ok_X10_isPerson _) mlX10_92 st_X10_isPerson rfl ⟨Nat.le_of_ble_eq_true rfl, Nat.le_of_ble_eq_true rfl⟩ (by exact Nat.le_of_ble_eq_true rfl) ⟨Nat.zero_le _, Nat.zero_le _⟩ dX10_assign_14 rfl ?_
    refine gN_if_ne 26 dX10_assign_17 (by decide) (by first | omega | exact b01_lt _) (fun h_17 => ?_) (fun h_17 => ?_)
    · exact False.elim (h ⟨b01_n.mp h_10, b01_n.mp h_17⟩)
    · refine g_aload_n 0 dX10_assign_20 rfl rfl ?_
      refine gN_iconst 1 dX10_assign_21 (by decide) ?_
      refine gd_callV _ _ _ _ (cn_X10_fails g (0, 0) (m := sI m a 6 (nI 0)) hM (nI (1))) ⟨rfl, rfl⟩ (ok_X10_fails _) mlX10_95 in_X10_fails se_X10_fails 10 0 (hM.t) rfl rfl rfl ⟨Nat.le_of_ble_eq_true rfl, Nat.le_of_ble_eq_true rfl⟩ (by exact Nat.le_of_ble_eq_true rfl) ⟨Nat.zero_le _, Nat.zero_le _⟩ dX10_assign_22 rfl ?_
      refine g_iret rfl dX10_assign_25 ⟨Nat.zero_le _, Nat.zero_le _⟩ ?_
      exact ⟨rfl, _, rfl, by rw [show im (sI m a 6 (nI 0)) = th m a 0 from rfl, th_th]; exact sc.rf⟩
set_option maxRecDepth 100000 in
theorem cn_X10_assign_2 (g : Gp) (cs : Nat × Nat) {m : Mm} {a : Nat} (hM : MdOk m a) {N : Nat} (hN : im m (a + 1) 0 = nI N) (hN9 : N ≤ 10) {s : Nat} (hs : s < N) {t : Nat} (ht : t < 4) (h : ¬ (im m (a + 1)) (79 + 22 * s + 1) = 0) : En g (MX10_assign cs) [.ref (a), .int (nI (s)), .int (nI (t))] m (some (.int (nI 0))) (sc a (th m a 2)) := by
  refine Cn.of pn_X10 (Nat.le_of_ble_eq_true rfl) rfl ?_
  refine g_aload_n 0 dX10_assign_0 rfl rfl ?_
  refine gN_iconst 0 dX10_assign_1 (by decide) ?_
  refine gN_putI fwX10_34 rfl 0 (hM.t) dX10_assign_2 ?_
  refine g_aload_n 0 dX10_assign_5 rfl rfl ?_
  refine g_iload_n 1 dX10_assign_6 rfl rfl ?_
  refine gd_callV _ _ _ _ (cn_X10_isSegment g (0, 0) (m := sI m a 6 (nI 0)) hM (N := N) ((th_z m a 0 0).trans hN) (by omega) (nI (s))) ⟨rfl, rfl⟩ (ok_X10_isSegment _) mlX10_107 in_X10_isSegment se_X10_isSegment 10 0 (hM.t) rfl rfl rfl ⟨Nat.le_of_ble_eq_true rfl, Nat.le_of_ble_eq_true rfl⟩ (by exact Nat.le_of_ble_eq_true rfl) ⟨Nat.zero_le _, Nat.zero_le _⟩ dX10_assign_7 rfl ?_
  refine gN_if_eq 20 dX10_assign_10 (by decide) (by first | omega | exact b01_lt _) (fun h_10 => ?_) (fun h_10 => ?_)
  · exact False.elim (b01_z.mp h_10 ((inb_nI (by omega)).mpr hs))
  · refine g_iload_n 2 dX10_assign_13 rfl rfl ?_
    refine gd_callS _ _ _ _ (cn_X10_isPerson g (0, 0) (nI (t))) ⟨rfl, rfl⟩ (ok_X10_isPerson _) mlX10_92 st_X10_isPerson rfl ⟨Nat.le_of_ble_eq_true rfl, Nat.le_of_ble_eq_true rfl⟩ (by exact Nat.le_of_ble_eq_true rfl) ⟨Nat.zero_le _, Nat.zero_le _⟩ dX10_assign_14 rfl ?_
    refine gN_if_ne 26 dX10_assign_17 (by decide) (by first | omega | exact b01_lt _) (fun h_17 => ?_) (fun h_17 => ?_)
    · refine g_aload_n 0 dX10_assign_26 rfl rfl ?_
      refine gN_getR (a + 1) flX10_7 (fun _ _ _ => rfl) 0 (hM.t) (hM.r0) dX10_assign_27 ?_
      refine g_iload_n 1 dX10_assign_30 rfl rfl ?_
      refine gd_callS _ _ _ _ (cn_X10_at g (0, 0) _ s) ⟨rfl, rfl⟩ (ok_X10_at _) mlX10_45 st_X10_at rfl ⟨Nat.le_of_ble_eq_true rfl, Nat.le_of_ble_eq_true rfl⟩ (by exact Nat.le_of_ble_eq_true rfl) ⟨Nat.zero_le _, Nat.zero_le _⟩ dX10_assign_31 rfl ?_
      refine gN_iconst 1 dX10_assign_34 (by decide) ?_
      refine gN_iadd ((79 + 22 * s) + 1) dX10_assign_35 rfl ?_
      refine gN_iald 689 (hM.t1) (by first | omega | exact b01_lt _) (by first | omega | exact b01_lt _) dX10_assign_36 ?_
      refine g_if_eq 46 dX10_assign_37 (by decide) (fun h_37 => ?_) (fun h_37 => ?_)
      · exact False.elim (h ((th_z m a 0 _).symm.trans h_37))
      · refine g_aload_n 0 dX10_assign_40 rfl rfl ?_
        refine gN_iconst 2 dX10_assign_41 (by decide) ?_
        refine gd_callV _ _ _ _ (cn_X10_fails g (0, 0) (m := sI m a 6 (nI 0)) hM (nI (2))) ⟨rfl, rfl⟩ (ok_X10_fails _) mlX10_95 in_X10_fails se_X10_fails 10 0 (hM.t) rfl rfl rfl ⟨Nat.le_of_ble_eq_true rfl, Nat.le_of_ble_eq_true rfl⟩ (by exact Nat.le_of_ble_eq_true rfl) ⟨Nat.zero_le _, Nat.zero_le _⟩ dX10_assign_42 rfl ?_
        refine g_iret rfl dX10_assign_45 ⟨Nat.zero_le _, Nat.zero_le _⟩ ?_
        exact ⟨rfl, _, rfl, by rw [show im (sI m a 6 (nI 0)) = th m a 0 from rfl, th_th]; exact sc.rf⟩
    · exact False.elim (b01_z.mp h_17 ((inb_nI (by omega)).mpr ht))
set_option maxRecDepth 100000 in
theorem cn_X10_assign_0 (g : Gp) (cs : Nat × Nat) {m : Mm} {a : Nat} (hM : MdOk m a) {N : Nat} (hN : im m (a + 1) 0 = nI N) (hN9 : N ≤ 10) {s : Nat} (hs : s < N) (hr : RwOk (im m (a + 1)) (79 + 22 * s) 10) (hR : NR (im m (a + 1) 1) 0 30) (hrow : ∀ r, r < nv (im m (a + 1) 1) → NR (im m (a + 1) (299 + 13 * r)) 1 12) {n : Nat} (hn : im m a 3 = nI n) (hn6 : n ≤ 6) {t : Nat} (ht : t < 4) (h : (im m (a + 1)) (79 + 22 * s + 1) = 0) : En g (MX10_assign cs) [.ref (a), .int (nI (s)), .int (nI (t))] m (some (.int (nI (bandOf (mtc (u1 (u1 (im m (a + 1)) (79 + 22 * s + 1) (nI 1)) (79 + 22 * s + 2) (nI t)) (79 + 22 * s)))))) (sc a (rz (svI (th m a 0) a n) (a + 1) (asZ (im m (a + 1)) s t))) := by
  refine Cn.of pn_X10 (Nat.le_of_ble_eq_true rfl) rfl ?_
  refine g_aload_n 0 dX10_assign_0 rfl rfl ?_
  refine gN_iconst 0 dX10_assign_1 (by decide) ?_
  refine gN_putI fwX10_34 rfl 0 (hM.t) dX10_assign_2 ?_
  refine g_aload_n 0 dX10_assign_5 rfl rfl ?_
  refine g_iload_n 1 dX10_assign_6 rfl rfl ?_
  refine gd_callV _ _ _ _ (cn_X10_isSegment g (0, 0) (m := sI m a 6 (nI 0)) hM (N := N) ((th_z m a 0 0).trans hN) (by omega) (nI (s))) ⟨rfl, rfl⟩ (ok_X10_isSegment _) mlX10_107 in_X10_isSegment se_X10_isSegment 10 0 (hM.t) rfl rfl rfl ⟨Nat.le_of_ble_eq_true rfl, Nat.le_of_ble_eq_true rfl⟩ (by exact Nat.le_of_ble_eq_true rfl) ⟨Nat.zero_le _, Nat.zero_le _⟩ dX10_assign_7 rfl ?_
  refine gN_if_eq 20 dX10_assign_10 (by decide) (by first | omega | exact b01_lt _) (fun h_10 => ?_) (fun h_10 => ?_)
  · exact False.elim (b01_z.mp h_10 ((inb_nI (by omega)).mpr hs))
  · refine g_iload_n 2 dX10_assign_13 rfl rfl ?_
    refine gd_callS _ _ _ _ (cn_X10_isPerson g (0, 0) (nI (t))) ⟨rfl, rfl⟩ (ok_X10_isPerson _) mlX10_92 st_X10_isPerson rfl ⟨Nat.le_of_ble_eq_true rfl, Nat.le_of_ble_eq_true rfl⟩ (by exact Nat.le_of_ble_eq_true rfl) ⟨Nat.zero_le _, Nat.zero_le _⟩ dX10_assign_14 rfl ?_
    refine gN_if_ne 26 dX10_assign_17 (by decide) (by first | omega | exact b01_lt _) (fun h_17 => ?_) (fun h_17 => ?_)
    · refine g_aload_n 0 dX10_assign_26 rfl rfl ?_
      refine gN_getR (a + 1) flX10_7 (fun _ _ _ => rfl) 0 (hM.t) (hM.r0) dX10_assign_27 ?_
      refine g_iload_n 1 dX10_assign_30 rfl rfl ?_
      refine gd_callS _ _ _ _ (cn_X10_at g (0, 0) _ s) ⟨rfl, rfl⟩ (ok_X10_at _) mlX10_45 st_X10_at rfl ⟨Nat.le_of_ble_eq_true rfl, Nat.le_of_ble_eq_true rfl⟩ (by exact Nat.le_of_ble_eq_true rfl) ⟨Nat.zero_le _, Nat.zero_le _⟩ dX10_assign_31 rfl ?_
      refine gN_iconst 1 dX10_assign_34 (by decide) ?_
      refine gN_iadd ((79 + 22 * s) + 1) dX10_assign_35 rfl ?_
      refine gN_iald 689 (hM.t1) (by first | omega | exact b01_lt _) (by first | omega | exact b01_lt _) dX10_assign_36 ?_
      refine g_if_eq 46 dX10_assign_37 (by decide) (fun h_37 => ?_) (fun h_37 => ?_)
      · refine g_aload_n 0 dX10_assign_46 rfl rfl ?_
        refine gd_callV _ _ _ _ (cn_X10_save g (0, 0) (m := sI m a 6 (nI 0)) hM (n := n) ((th_a m a 0 3 (by omega)).trans hn) hn6) ⟨rfl, rfl⟩ (ok_X10_save _) mlX10_98 in_X10_save se_X10_save 10 0 (hM.t) rfl rfl rfl ⟨Nat.le_of_ble_eq_true rfl, Nat.le_of_ble_eq_true rfl⟩ (by exact Nat.le_of_ble_eq_true rfl) ⟨Nat.zero_le _, Nat.zero_le _⟩ dX10_assign_47 rfl ?_
        refine g_mem (sz_0 m (svI (th m a 0) a n) (a + 1) (im m (a + 1)) (svz m a 0 n)) ?_
        refine g_aload_n 0 dX10_assign_50 rfl rfl ?_
        refine gN_getR (a + 1) flX10_7 (fun _ _ _ => rfl) 0 (hM.t) (hM.r0) dX10_assign_51 ?_
        refine g_iload_n 1 dX10_assign_54 rfl rfl ?_
        refine gd_callS _ _ _ _ (cn_X10_at g (0, 0) _ s) ⟨rfl, rfl⟩ (ok_X10_at _) mlX10_45 st_X10_at rfl ⟨Nat.le_of_ble_eq_true rfl, Nat.le_of_ble_eq_true rfl⟩ (by exact Nat.le_of_ble_eq_true rfl) ⟨Nat.zero_le _, Nat.zero_le _⟩ dX10_assign_55 rfl ?_
        refine gN_iconst 1 dX10_assign_58 (by decide) ?_
        refine gN_iadd ((79 + 22 * s) + 1) dX10_assign_59 rfl ?_
        refine gN_iconst 1 dX10_assign_60 (by decide) ?_
        refine gN_iast 689 (hM.t1) (by first | omega | exact b01_lt _) (by first | omega | exact b01_lt _) dX10_assign_61 ?_
        refine g_mem (sz_u _ _ _ _ _ _) ?_
        refine g_aload_n 0 dX10_assign_62 rfl rfl ?_
        refine gN_getR (a + 1) flX10_7 (fun _ _ _ => rfl) 0 (hM.t) (hM.r0) dX10_assign_63 ?_
        refine g_iload_n 1 dX10_assign_66 rfl rfl ?_
        refine gd_callS _ _ _ _ (cn_X10_at g (0, 0) _ s) ⟨rfl, rfl⟩ (ok_X10_at _) mlX10_45 st_X10_at rfl ⟨Nat.le_of_ble_eq_true rfl, Nat.le_of_ble_eq_true rfl⟩ (by exact Nat.le_of_ble_eq_true rfl) ⟨Nat.zero_le _, Nat.zero_le _⟩ dX10_assign_67 rfl ?_
        refine gN_iconst 2 dX10_assign_70 (by decide) ?_
        refine gN_iadd ((79 + 22 * s) + 2) dX10_assign_71 rfl ?_
        refine g_iload_n 2 dX10_assign_72 rfl rfl ?_
        refine gN_iast 689 (hM.t1) (by first | omega | exact b01_lt _) (by first | omega | exact b01_lt _) dX10_assign_73 ?_
        refine g_mem (sz_u _ _ _ _ _ _) ?_
        refine g_aload_n 0 dX10_assign_74 rfl rfl ?_
        refine g_iload_n 1 dX10_assign_75 rfl rfl ?_
        refine ge_callV _ _ _ (fx' g (0, 0) (m := wI m (rz (svI (th m a 0) a n) (a + 1) (u1 (u1 (im m (a + 1)) (79 + 22 * s + 1) (nI 1)) (79 + 22 * s + 2) (nI t)))) hM (z := u1 (u1 (im m (a + 1)) (79 + 22 * s + 1) (nI 1)) (79 + 22 * s + 2) (nI t)) (rz_b _ _ _) (s := s) (by omega) (by rw [u1_n _ _ _ (by omega), u1_n _ _ _ (by omega)]; exact hr.1) (by rw [u1_n _ _ _ (by omega), u1_n _ _ _ (by omega)]; exact hR) (fun r hr2 => by rw [u1_n _ _ _ (by omega), u1_n _ _ _ (by omega)] at hr2 ⊢; exact hrow r hr2)) ⟨rfl, rfl⟩ (ok_X10_fix _) mlX10_110 in_X10_fix se_X10_fix 10 0 (hM.t) rfl rfl rfl ⟨Nat.le_of_ble_eq_true rfl, Nat.le_of_ble_eq_true rfl⟩ (by exact Nat.le_of_ble_eq_true rfl) ⟨Nat.zero_le _, Nat.zero_le _⟩ dX10_assign_76 rfl (fun I1 hI1 => ?_)
        have hz1 : I1 (a + 1) = asZ (im m (a + 1)) s t := by rw [hI1.z, rz_b]; rfl
        refine g_aload_n 0 dX10_assign_79 rfl rfl ?_
        refine gN_getR (a + 1) flX10_7 (fun _ _ _ => rfl) 0 (hM.t) (hM.r0) dX10_assign_80 ?_
        refine g_iload_n 1 dX10_assign_83 rfl rfl ?_
        refine gd_callS _ _ _ _ (cn_X10_at g (0, 0) _ s) ⟨rfl, rfl⟩ (ok_X10_at _) mlX10_45 st_X10_at rfl ⟨Nat.le_of_ble_eq_true rfl, Nat.le_of_ble_eq_true rfl⟩ (by exact Nat.le_of_ble_eq_true rfl) ⟨Nat.zero_le _, Nat.zero_le _⟩ dX10_assign_84 rfl ?_
        refine gN_iconst 3 dX10_assign_87 (by decide) ?_
        refine gN_iadd ((79 + 22 * s) + 3) dX10_assign_88 rfl ?_
        refine gN_iald 689 (hM.t1) (by first | omega | exact b01_lt _) (by first | omega | exact b01_lt _) dX10_assign_89 ?_
        refine g_iret rfl dX10_assign_90 ⟨Nat.zero_le _, Nat.zero_le _⟩ ?_
        refine ⟨vI ?_, I1, rfl, ?_⟩
        · show I1 (a + 1) _ = _
          rw [hz1]
          unfold asZ fxZ
          rw [u1_n _ _ _ (by omega), u1_s]
        · intro x y hxy
          have h9 := hI1 x y hxy
          rw [im_wI, rz_rz] at h9
          exact h9
      · exact False.elim (h_37 ((th_z m a 0 _).trans h))
    · exact False.elim (b01_z.mp h_17 ((inb_nI (by omega)).mpr ht))
set_option maxRecDepth 100000 in
theorem cn_X10_deliver_1 (g : Gp) (cs : Nat × Nat) {m : Mm} {a : Nat} (hM : MdOk m a) {N : Nat} (hN : im m (a + 1) 0 = nI N) (hN9 : N ≤ 10) {p : Int32} (h : ¬ inb p N) : En g (MX10_deliver cs) [.ref (a), .int (p)] m (some (.int (nI 0))) (sc a (th m a 1)) := by
  refine Cn.of pn_X10 (Nat.le_of_ble_eq_true rfl) rfl ?_
  refine g_aload_n 0 dX10_deliver_0 rfl rfl ?_
  refine gN_iconst 0 dX10_deliver_1 (by decide) ?_
  refine gN_putI fwX10_34 rfl 0 (hM.t) dX10_deliver_2 ?_
  refine g_aload_n 0 dX10_deliver_5 rfl rfl ?_
  refine g_iload_n 1 dX10_deliver_6 rfl rfl ?_
  refine gd_callV _ _ _ _ (cn_X10_isSegment g (0, 0) (m := sI m a 6 (nI 0)) hM (N := N) ((th_z m a 0 0).trans hN) (by omega) (p)) ⟨rfl, rfl⟩ (ok_X10_isSegment _) mlX10_107 in_X10_isSegment se_X10_isSegment 10 0 (hM.t) rfl rfl rfl ⟨Nat.le_of_ble_eq_true rfl, Nat.le_of_ble_eq_true rfl⟩ (by exact Nat.le_of_ble_eq_true rfl) ⟨Nat.zero_le _, Nat.zero_le _⟩ dX10_deliver_7 rfl ?_
  refine gN_if_ne 19 dX10_deliver_10 (by decide) (by first | omega | exact b01_lt _) (fun h_10 => ?_) (fun h_10 => ?_)
  · exact False.elim (h (b01_n.mp h_10))
  · refine g_aload_n 0 dX10_deliver_13 rfl rfl ?_
    refine gN_iconst 1 dX10_deliver_14 (by decide) ?_
    refine gd_callV _ _ _ _ (cn_X10_fails g (0, 0) (m := sI m a 6 (nI 0)) hM (nI (1))) ⟨rfl, rfl⟩ (ok_X10_fails _) mlX10_95 in_X10_fails se_X10_fails 10 0 (hM.t) rfl rfl rfl ⟨Nat.le_of_ble_eq_true rfl, Nat.le_of_ble_eq_true rfl⟩ (by exact Nat.le_of_ble_eq_true rfl) ⟨Nat.zero_le _, Nat.zero_le _⟩ dX10_deliver_15 rfl ?_
    refine g_iret rfl dX10_deliver_18 ⟨Nat.zero_le _, Nat.zero_le _⟩ ?_
    exact ⟨rfl, _, rfl, by rw [show im (sI m a 6 (nI 0)) = th m a 0 from rfl, th_th]; exact sc.rf⟩
set_option maxRecDepth 100000 in
theorem cn_X10_deliver_2 (g : Gp) (cs : Nat × Nat) {m : Mm} {a : Nat} (hM : MdOk m a) {N : Nat} (hN : im m (a + 1) 0 = nI N) (hN9 : N ≤ 10) {s : Nat} (hs : s < N) (hr : RwOk (im m (a + 1)) (79 + 22 * s) 10) (hR : NR (im m (a + 1) 1) 0 30) (hrow : ∀ r, r < nv (im m (a + 1) 1) → NR (im m (a + 1) (299 + 13 * r)) 1 12) (h : ¬ ((im m (a + 1)) (79 + 22 * s + 1) = nI 1 ∧ ¬ hdp (im m (a + 1)) (79 + 22 * s))) : En g (MX10_deliver cs) [.ref (a), .int (nI (s))] m (some (.int (nI 0))) (sc a (th m a 2)) := by
  refine Cn.of pn_X10 (Nat.le_of_ble_eq_true rfl) rfl ?_
  refine g_aload_n 0 dX10_deliver_0 rfl rfl ?_
  refine gN_iconst 0 dX10_deliver_1 (by decide) ?_
  refine gN_putI fwX10_34 rfl 0 (hM.t) dX10_deliver_2 ?_
  refine g_aload_n 0 dX10_deliver_5 rfl rfl ?_
  refine g_iload_n 1 dX10_deliver_6 rfl rfl ?_
  refine gd_callV _ _ _ _ (cn_X10_isSegment g (0, 0) (m := sI m a 6 (nI 0)) hM (N := N) ((th_z m a 0 0).trans hN) (by omega) (nI (s))) ⟨rfl, rfl⟩ (ok_X10_isSegment _) mlX10_107 in_X10_isSegment se_X10_isSegment 10 0 (hM.t) rfl rfl rfl ⟨Nat.le_of_ble_eq_true rfl, Nat.le_of_ble_eq_true rfl⟩ (by exact Nat.le_of_ble_eq_true rfl) ⟨Nat.zero_le _, Nat.zero_le _⟩ dX10_deliver_7 rfl ?_
  refine gN_if_ne 19 dX10_deliver_10 (by decide) (by first | omega | exact b01_lt _) (fun h_10 => ?_) (fun h_10 => ?_)
  · refine g_iload_n 1 dX10_deliver_19 rfl rfl ?_
    refine gd_callS _ _ _ _ (cn_X10_at g (0, 0) _ s) ⟨rfl, rfl⟩ (ok_X10_at _) mlX10_45 st_X10_at rfl ⟨Nat.le_of_ble_eq_true rfl, Nat.le_of_ble_eq_true rfl⟩ (by exact Nat.le_of_ble_eq_true rfl) ⟨Nat.zero_le _, Nat.zero_le _⟩ dX10_deliver_20 rfl ?_
    refine g_istore_n 2 [(2, .int (nI (79 + 22 * s))), (0, .ref (a)), (1, .int (nI (s)))] dX10_deliver_23 rfl (Nat.le_of_ble_eq_true rfl) rfl ?_
    refine g_aload_n 0 dX10_deliver_24 rfl rfl ?_
    refine gN_getR (a + 1) flX10_7 (fun _ _ _ => rfl) 0 (hM.t) (hM.r0) dX10_deliver_25 ?_
    refine g_iload_n 2 dX10_deliver_28 rfl rfl ?_
    refine gN_iconst 1 dX10_deliver_29 (by decide) ?_
    refine gN_iadd ((79 + 22 * s) + 1) dX10_deliver_30 rfl ?_
    refine gN_iald 689 (hM.t1) (by first | omega | exact b01_lt _) (by first | omega | exact b01_lt _) dX10_deliver_31 ?_
    refine gN_iconst 1 dX10_deliver_32 (by decide) ?_
    refine g_icmp_ne 44 dX10_deliver_33 (by decide) (fun h_33 => ?_) (fun h_33 => ?_)
    · refine g_aload_n 0 dX10_deliver_44 rfl rfl ?_
      refine gN_iconst 2 dX10_deliver_45 (by decide) ?_
      refine gd_callV _ _ _ _ (cn_X10_fails g (0, 0) (m := sI m a 6 (nI 0)) hM (nI (2))) ⟨rfl, rfl⟩ (ok_X10_fails _) mlX10_95 in_X10_fails se_X10_fails 10 0 (hM.t) rfl rfl rfl ⟨Nat.le_of_ble_eq_true rfl, Nat.le_of_ble_eq_true rfl⟩ (by exact Nat.le_of_ble_eq_true rfl) ⟨Nat.zero_le _, Nat.zero_le _⟩ dX10_deliver_46 rfl ?_
      refine g_iret rfl dX10_deliver_49 ⟨Nat.zero_le _, Nat.zero_le _⟩ ?_
      exact ⟨rfl, _, rfl, by rw [show im (sI m a 6 (nI 0)) = th m a 0 from rfl, th_th]; exact sc.rf⟩
    · refine g_aload_n 0 dX10_deliver_36 rfl rfl ?_
      refine g_iload_n 1 dX10_deliver_37 rfl rfl ?_
      refine gd_callV _ _ _ _ (cn_X10_hasDisputed g (0, 0) (m := sI m a 6 (nI 0)) hM (s := s) (by omega) (by rw [ze]; exact hr)) ⟨rfl, rfl⟩ (ok_X10_hasDisputed _) mlX10_113 in_X10_hasDisputed se_X10_hasDisputed 10 0 (hM.t) rfl rfl rfl ⟨Nat.le_of_ble_eq_true rfl, Nat.le_of_ble_eq_true rfl⟩ (by exact Nat.le_of_ble_eq_true rfl) ⟨Nat.zero_le _, Nat.zero_le _⟩ dX10_deliver_38 rfl ?_
      refine gN_if_eq 50 dX10_deliver_41 (by decide) (by first | omega | exact b01_lt _) (fun h_41 => ?_) (fun h_41 => ?_)
      · exact False.elim (h ⟨(th_z m a 0 _).symm.trans h_33, by rw [ze] at h_41; exact b01_z.mp h_41⟩)
      · refine g_aload_n 0 dX10_deliver_44 rfl rfl ?_
        refine gN_iconst 2 dX10_deliver_45 (by decide) ?_
        refine gd_callV _ _ _ _ (cn_X10_fails g (0, 0) (m := sI m a 6 (nI 0)) hM (nI (2))) ⟨rfl, rfl⟩ (ok_X10_fails _) mlX10_95 in_X10_fails se_X10_fails 10 0 (hM.t) rfl rfl rfl ⟨Nat.le_of_ble_eq_true rfl, Nat.le_of_ble_eq_true rfl⟩ (by exact Nat.le_of_ble_eq_true rfl) ⟨Nat.zero_le _, Nat.zero_le _⟩ dX10_deliver_46 rfl ?_
        refine g_iret rfl dX10_deliver_49 ⟨Nat.zero_le _, Nat.zero_le _⟩ ?_
        exact ⟨rfl, _, rfl, by rw [show im (sI m a 6 (nI 0)) = th m a 0 from rfl, th_th]; exact sc.rf⟩
  · exact False.elim (b01_z.mp h_10 ((inb_nI (by omega)).mpr hs))
set_option maxRecDepth 100000 in
theorem cn_X10_deliver_0 (g : Gp) (cs : Nat × Nat) {m : Mm} {a : Nat} (hM : MdOk m a) {N : Nat} (hN : im m (a + 1) 0 = nI N) (hN9 : N ≤ 10) {s : Nat} (hs : s < N) (hr : RwOk (im m (a + 1)) (79 + 22 * s) 10) (hR : NR (im m (a + 1) 1) 0 30) (hrow : ∀ r, r < nv (im m (a + 1) 1) → NR (im m (a + 1) (299 + 13 * r)) 1 12) {n : Nat} (hn : im m a 3 = nI n) (hn6 : n ≤ 6) (h1 : (im m (a + 1)) (79 + 22 * s + 1) = nI 1) (h2 : ¬ hdp (im m (a + 1)) (79 + 22 * s)) (hby : NR ((im m (a + 1)) (79 + 22 * s + 2)) 0 3) (hbd : NR ((im m (a + 1)) (79 + 22 * s + 3)) 0 4) : En g (MX10_deliver cs) [.ref (a), .int (nI (s))] m (some (.int (payV (im m (a + 1)) (79 + 22 * s) (nv ((im m (a + 1)) (79 + 22 * s + 2))) ((im m (a + 1)) (79 + 22 * s + 4))))) (sc a (rz (svI (th m a 0) a n) (a + 1) (dlZ (im m (a + 1)) s (nv ((im m (a + 1)) (79 + 22 * s + 2))) (nv ((im m (a + 1)) (79 + 22 * s + 3))) (payV (im m (a + 1)) (79 + 22 * s) (nv ((im m (a + 1)) (79 + 22 * s + 2))) ((im m (a + 1)) (79 + 22 * s + 4)))))) := by
  have hby2 := hby.hi
  have hbd2 := hbd.hi
  refine Cn.of pn_X10 (Nat.le_of_ble_eq_true rfl) rfl ?_
  refine g_aload_n 0 dX10_deliver_0 rfl rfl ?_
  refine gN_iconst 0 dX10_deliver_1 (by decide) ?_
  refine gN_putI fwX10_34 rfl 0 (hM.t) dX10_deliver_2 ?_
  refine g_aload_n 0 dX10_deliver_5 rfl rfl ?_
  refine g_iload_n 1 dX10_deliver_6 rfl rfl ?_
  refine gd_callV _ _ _ _ (cn_X10_isSegment g (0, 0) (m := sI m a 6 (nI 0)) hM (N := N) ((th_z m a 0 0).trans hN) (by omega) (nI (s))) ⟨rfl, rfl⟩ (ok_X10_isSegment _) mlX10_107 in_X10_isSegment se_X10_isSegment 10 0 (hM.t) rfl rfl rfl ⟨Nat.le_of_ble_eq_true rfl, Nat.le_of_ble_eq_true rfl⟩ (by exact Nat.le_of_ble_eq_true rfl) ⟨Nat.zero_le _, Nat.zero_le _⟩ dX10_deliver_7 rfl ?_
  refine gN_if_ne 19 dX10_deliver_10 (by decide) (by first | omega | exact b01_lt _) (fun h_10 => ?_) (fun h_10 => ?_)
  · refine g_iload_n 1 dX10_deliver_19 rfl rfl ?_
    refine gd_callS _ _ _ _ (cn_X10_at g (0, 0) _ s) ⟨rfl, rfl⟩ (ok_X10_at _) mlX10_45 st_X10_at rfl ⟨Nat.le_of_ble_eq_true rfl, Nat.le_of_ble_eq_true rfl⟩ (by exact Nat.le_of_ble_eq_true rfl) ⟨Nat.zero_le _, Nat.zero_le _⟩ dX10_deliver_20 rfl ?_
    refine g_istore_n 2 [(2, .int (nI (79 + 22 * s))), (0, .ref (a)), (1, .int (nI (s)))] dX10_deliver_23 rfl (Nat.le_of_ble_eq_true rfl) rfl ?_
    refine g_aload_n 0 dX10_deliver_24 rfl rfl ?_
    refine gN_getR (a + 1) flX10_7 (fun _ _ _ => rfl) 0 (hM.t) (hM.r0) dX10_deliver_25 ?_
    refine g_iload_n 2 dX10_deliver_28 rfl rfl ?_
    refine gN_iconst 1 dX10_deliver_29 (by decide) ?_
    refine gN_iadd ((79 + 22 * s) + 1) dX10_deliver_30 rfl ?_
    refine gN_iald 689 (hM.t1) (by first | omega | exact b01_lt _) (by first | omega | exact b01_lt _) dX10_deliver_31 ?_
    refine gN_iconst 1 dX10_deliver_32 (by decide) ?_
    refine g_icmp_ne 44 dX10_deliver_33 (by decide) (fun h_33 => ?_) (fun h_33 => ?_)
    · exact False.elim (h_33 ((th_z m a 0 _).trans h1))
    · refine g_aload_n 0 dX10_deliver_36 rfl rfl ?_
      refine g_iload_n 1 dX10_deliver_37 rfl rfl ?_
      refine gd_callV _ _ _ _ (cn_X10_hasDisputed g (0, 0) (m := sI m a 6 (nI 0)) hM (s := s) (by omega) (by rw [ze]; exact hr)) ⟨rfl, rfl⟩ (ok_X10_hasDisputed _) mlX10_113 in_X10_hasDisputed se_X10_hasDisputed 10 0 (hM.t) rfl rfl rfl ⟨Nat.le_of_ble_eq_true rfl, Nat.le_of_ble_eq_true rfl⟩ (by exact Nat.le_of_ble_eq_true rfl) ⟨Nat.zero_le _, Nat.zero_le _⟩ dX10_deliver_38 rfl ?_
      refine gN_if_eq 50 dX10_deliver_41 (by decide) (by first | omega | exact b01_lt _) (fun h_41 => ?_) (fun h_41 => ?_)
      · refine g_aload_n 0 dX10_deliver_50 rfl rfl ?_
        refine gd_callV _ _ _ _ (cn_X10_save g (0, 0) (m := sI m a 6 (nI 0)) hM (n := n) ((th_a m a 0 3 (by omega)).trans hn) hn6) ⟨rfl, rfl⟩ (ok_X10_save _) mlX10_98 in_X10_save se_X10_save 10 0 (hM.t) rfl rfl rfl ⟨Nat.le_of_ble_eq_true rfl, Nat.le_of_ble_eq_true rfl⟩ (by exact Nat.le_of_ble_eq_true rfl) ⟨Nat.zero_le _, Nat.zero_le _⟩ dX10_deliver_51 rfl ?_
        refine g_mem (sz_0 m (svI (th m a 0) a n) (a + 1) (im m (a + 1)) (svz m a 0 n)) ?_
        refine g_aload_n 0 dX10_deliver_54 rfl rfl ?_
        refine gN_getR (a + 1) flX10_7 (fun _ _ _ => rfl) 0 (hM.t) (hM.r0) dX10_deliver_55 ?_
        refine g_iload_n 2 dX10_deliver_58 rfl rfl ?_
        refine gN_iconst 2 dX10_deliver_59 (by decide) ?_
        refine gN_iadd ((79 + 22 * s) + 2) dX10_deliver_60 rfl ?_
        refine gN_iald 689 (hM.t1) (by first | omega | exact b01_lt _) (by first | omega | exact b01_lt _) dX10_deliver_61 ?_
        refine g_eI (((im m (a + 1))) ((79 + 22 * s) + 2)) (iz _ _ _ _ _) ?_
        refine g_ei (nI (nv ((im m (a + 1)) (79 + 22 * s + 2)))) (by exact hby.e) ?_
        refine gd_callS _ _ _ _ (cn_X10_person g (0, 0) _ (nv ((im m (a + 1)) (79 + 22 * s + 2)))) ⟨rfl, rfl⟩ (ok_X10_person _) mlX10_101 st_X10_person rfl ⟨Nat.le_of_ble_eq_true rfl, Nat.le_of_ble_eq_true rfl⟩ (by exact Nat.le_of_ble_eq_true rfl) ⟨Nat.zero_le _, Nat.zero_le _⟩ dX10_deliver_62 rfl ?_
        refine g_istore_n 3 [(3, .int (nI (4 + 5 * (nv ((im m (a + 1)) (79 + 22 * s + 2)))))), (2, .int (nI (79 + 22 * s))), (0, .ref (a)), (1, .int (nI (s)))] dX10_deliver_65 rfl (Nat.le_of_ble_eq_true rfl) rfl ?_
        refine g_aload_n 0 dX10_deliver_66 rfl rfl ?_
        refine gN_getR (a + 1) flX10_7 (fun _ _ _ => rfl) 0 (hM.t) (hM.r0) dX10_deliver_67 ?_
        refine g_iload_n 2 dX10_deliver_70 rfl rfl ?_
        refine gN_iald 689 (hM.t1) (by first | omega | exact b01_lt _) (by first | omega | exact b01_lt _) dX10_deliver_71 ?_
        refine g_eI (((im m (a + 1))) (79 + 22 * s)) (iz _ _ _ _ _) ?_
        refine g_aload_n 0 dX10_deliver_72 rfl rfl ?_
        refine gN_getR (a + 1) flX10_7 (fun _ _ _ => rfl) 0 (hM.t) (hM.r0) dX10_deliver_73 ?_
        refine g_iload_n 3 dX10_deliver_76 rfl rfl ?_
        refine gN_iald 689 (hM.t1) (by first | omega | exact b01_lt _) (by first | omega | exact b01_lt _) dX10_deliver_77 ?_
        refine g_eI (((im m (a + 1))) (4 + 5 * (nv ((im m (a + 1)) (79 + 22 * s + 2))))) (iz _ _ _ _ _) ?_
        refine g_imul dX10_deliver_78 ?_
        refine g_aload_n 0 dX10_deliver_79 rfl rfl ?_
        refine gN_getR (a + 1) flX10_7 (fun _ _ _ => rfl) 0 (hM.t) (hM.r0) dX10_deliver_80 ?_
        refine g_iload_n 2 dX10_deliver_83 rfl rfl ?_
        refine gN_iconst 4 dX10_deliver_84 (by decide) ?_
        refine gN_iadd ((79 + 22 * s) + 4) dX10_deliver_85 rfl ?_
        refine gN_iald 689 (hM.t1) (by first | omega | exact b01_lt _) (by first | omega | exact b01_lt _) dX10_deliver_86 ?_
        refine g_eI (((im m (a + 1))) ((79 + 22 * s) + 4)) (iz _ _ _ _ _) ?_
        refine g_imul dX10_deliver_87 ?_
        refine gN_bipush 100 dX10_deliver_88 (by decide) ?_
        refine g_idiv dX10_deliver_90 (by decide) ?_
        refine g_topi (fun v ev => ?_)
        refine g_istore 4 [(4, .int (v)), (3, .int (nI (4 + 5 * (nv ((im m (a + 1)) (79 + 22 * s + 2)))))), (2, .int (nI (79 + 22 * s))), (0, .ref (a)), (1, .int (nI (s)))] dX10_deliver_91 (Nat.le_of_ble_eq_true rfl) rfl ?_
        refine g_aload_n 0 dX10_deliver_93 rfl rfl ?_
        refine gN_getR (a + 1) flX10_7 (fun _ _ _ => rfl) 0 (hM.t) (hM.r0) dX10_deliver_94 ?_
        refine g_iload_n 2 dX10_deliver_97 rfl rfl ?_
        refine gN_iconst 1 dX10_deliver_98 (by decide) ?_
        refine gN_iadd ((79 + 22 * s) + 1) dX10_deliver_99 rfl ?_
        refine gN_iconst 2 dX10_deliver_100 (by decide) ?_
        refine gN_iast 689 (hM.t1) (by first | omega | exact b01_lt _) (by first | omega | exact b01_lt _) dX10_deliver_101 ?_
        refine g_zset (fun Z101 eZ101 => ?_)
        refine g_aload_n 0 dX10_deliver_102 rfl rfl ?_
        refine gN_getR (a + 1) flX10_7 (fun _ _ _ => rfl) 0 (hM.t) (hM.r0) dX10_deliver_103 ?_
        refine g_iload_n 2 dX10_deliver_106 rfl rfl ?_
        refine gN_iconst 5 dX10_deliver_107 (by decide) ?_
        refine gN_iadd ((79 + 22 * s) + 5) dX10_deliver_108 rfl ?_
        refine g_iload 4 dX10_deliver_109 rfl ?_
        refine gN_iast 689 (hM.t1) (by first | omega | exact b01_lt _) (by first | omega | exact b01_lt _) dX10_deliver_111 ?_
        refine g_zset (fun Z111 eZ111 => ?_)
        refine g_aload_n 0 dX10_deliver_112 rfl rfl ?_
        refine gN_getR (a + 1) flX10_7 (fun _ _ _ => rfl) 0 (hM.t) (hM.r0) dX10_deliver_113 ?_
        refine g_iload_n 2 dX10_deliver_116 rfl rfl ?_
        refine gN_bipush 9 dX10_deliver_117 (by decide) ?_
        refine gN_iadd ((79 + 22 * s) + 9) dX10_deliver_119 rfl ?_
        refine g_aload_n 0 dX10_deliver_120 rfl rfl ?_
        refine gN_getR (a + 1) flX10_7 (fun _ _ _ => rfl) 0 (hM.t) (hM.r0) dX10_deliver_121 ?_
        refine g_iload_n 3 dX10_deliver_124 rfl rfl ?_
        refine gN_iald 689 (hM.t1) (by first | omega | exact b01_lt _) (by first | omega | exact b01_lt _) dX10_deliver_125 ?_
        refine g_eI (Z111 (4 + 5 * (nv ((im m (a + 1)) (79 + 22 * s + 2))))) (iz _ _ _ _ _) ?_
        refine gN_iast 689 (hM.t1) (by first | omega | exact b01_lt _) (by first | omega | exact b01_lt _) dX10_deliver_126 ?_
        refine g_zset (fun Z126 eZ126 => ?_)
        refine g_aload_n 0 dX10_deliver_127 rfl rfl ?_
        refine gN_getR (a + 1) flX10_7 (fun _ _ _ => rfl) 0 (hM.t) (hM.r0) dX10_deliver_128 ?_
        refine g_iload_n 3 dX10_deliver_131 rfl rfl ?_
        refine gN_iconst 1 dX10_deliver_132 (by decide) ?_
        refine gN_iadd ((4 + 5 * (nv ((im m (a + 1)) (79 + 22 * s + 2)))) + 1) dX10_deliver_133 rfl ?_
        refine g_dup2_11 dX10_deliver_134 rfl rfl ?_
        refine gN_iald 689 (hM.t1) (by first | omega | exact b01_lt _) (by first | omega | exact b01_lt _) dX10_deliver_135 ?_
        refine g_eI (Z126 ((4 + 5 * (nv ((im m (a + 1)) (79 + 22 * s + 2)))) + 1)) (iz _ _ _ _ _) ?_
        refine g_iload 4 dX10_deliver_136 rfl ?_
        refine g_iadd dX10_deliver_138 ?_
        refine gN_iast 689 (hM.t1) (by first | omega | exact b01_lt _) (by first | omega | exact b01_lt _) dX10_deliver_139 ?_
        refine g_zset (fun Z139 eZ139 => ?_)
        refine g_aload_n 0 dX10_deliver_140 rfl rfl ?_
        refine gN_getR (a + 1) flX10_7 (fun _ _ _ => rfl) 0 (hM.t) (hM.r0) dX10_deliver_141 ?_
        refine g_iload_n 3 dX10_deliver_144 rfl rfl ?_
        refine gN_iconst 2 dX10_deliver_145 (by decide) ?_
        refine gN_iadd ((4 + 5 * (nv ((im m (a + 1)) (79 + 22 * s + 2)))) + 2) dX10_deliver_146 rfl ?_
        refine g_dup2_11 dX10_deliver_147 rfl rfl ?_
        refine gN_iald 689 (hM.t1) (by first | omega | exact b01_lt _) (by first | omega | exact b01_lt _) dX10_deliver_148 ?_
        refine g_eI (Z139 ((4 + 5 * (nv ((im m (a + 1)) (79 + 22 * s + 2)))) + 2)) (iz _ _ _ _ _) ?_
        refine g_aload_n 0 dX10_deliver_149 rfl rfl ?_
        refine gN_getR (a + 1) flX10_7 (fun _ _ _ => rfl) 0 (hM.t) (hM.r0) dX10_deliver_150 ?_
        refine g_iload_n 2 dX10_deliver_153 rfl rfl ?_
        refine gN_iald 689 (hM.t1) (by first | omega | exact b01_lt _) (by first | omega | exact b01_lt _) dX10_deliver_154 ?_
        refine g_eI (Z139 (79 + 22 * s)) (iz _ _ _ _ _) ?_
        refine g_iadd dX10_deliver_155 ?_
        refine gN_iast 689 (hM.t1) (by first | omega | exact b01_lt _) (by first | omega | exact b01_lt _) dX10_deliver_156 ?_
        refine g_zset (fun Z156 eZ156 => ?_)
        refine g_aload_n 0 dX10_deliver_157 rfl rfl ?_
        refine gN_getR (a + 1) flX10_7 (fun _ _ _ => rfl) 0 (hM.t) (hM.r0) dX10_deliver_158 ?_
        refine gN_bipush 64 dX10_deliver_161 (by decide) ?_
        refine gN_iconst 3 dX10_deliver_163 (by decide) ?_
        refine g_aload_n 0 dX10_deliver_164 rfl rfl ?_
        refine gN_getR (a + 1) flX10_7 (fun _ _ _ => rfl) 0 (hM.t) (hM.r0) dX10_deliver_165 ?_
        refine g_iload_n 2 dX10_deliver_168 rfl rfl ?_
        refine gN_iconst 3 dX10_deliver_169 (by decide) ?_
        refine gN_iadd ((79 + 22 * s) + 3) dX10_deliver_170 rfl ?_
        refine gN_iald 689 (hM.t1) (by first | omega | exact b01_lt _) (by first | omega | exact b01_lt _) dX10_deliver_171 ?_
        refine g_eI (Z156 ((79 + 22 * s) + 3)) (iz _ _ _ _ _) ?_
        refine g_ei (nI (nv ((im m (a + 1)) (79 + 22 * s + 3)))) (by rw [eZ156, u1_n _ _ _ (by omega)]; rw [eZ139, u1_n _ _ _ (by omega)]; rw [eZ126, u1_n _ _ _ (by omega)]; rw [eZ111, u1_n _ _ _ (by omega)]; rw [eZ101, u1_n _ _ _ (by omega)]; exact hbd.e) ?_
        refine gN_imul (3 * (nv ((im m (a + 1)) (79 + 22 * s + 3)))) dX10_deliver_172 rfl ?_
        refine gN_iadd (64 + (3 * (nv ((im m (a + 1)) (79 + 22 * s + 3))))) dX10_deliver_173 rfl ?_
        refine gN_iconst 1 dX10_deliver_174 (by decide) ?_
        refine gN_iadd ((64 + (3 * (nv ((im m (a + 1)) (79 + 22 * s + 3))))) + 1) dX10_deliver_175 rfl ?_
        refine g_dup2_11 dX10_deliver_176 rfl rfl ?_
        refine gN_iald 689 (hM.t1) (by first | omega | exact b01_lt _) (by first | omega | exact b01_lt _) dX10_deliver_177 ?_
        refine g_eI (Z156 ((64 + (3 * (nv ((im m (a + 1)) (79 + 22 * s + 3))))) + 1)) (iz _ _ _ _ _) ?_
        refine g_aload_n 0 dX10_deliver_178 rfl rfl ?_
        refine gN_getR (a + 1) flX10_7 (fun _ _ _ => rfl) 0 (hM.t) (hM.r0) dX10_deliver_179 ?_
        refine g_iload_n 2 dX10_deliver_182 rfl rfl ?_
        refine gN_iald 689 (hM.t1) (by first | omega | exact b01_lt _) (by first | omega | exact b01_lt _) dX10_deliver_183 ?_
        refine g_eI (Z156 (79 + 22 * s)) (iz _ _ _ _ _) ?_
        refine g_iadd dX10_deliver_184 ?_
        refine gN_iast 689 (hM.t1) (by first | omega | exact b01_lt _) (by first | omega | exact b01_lt _) dX10_deliver_185 ?_
        refine g_zset (fun Z185 eZ185 => ?_)
        refine g_aload_n 0 dX10_deliver_186 rfl rfl ?_
        refine gN_getR (a + 1) flX10_7 (fun _ _ _ => rfl) 0 (hM.t) (hM.r0) dX10_deliver_187 ?_
        refine gN_bipush 64 dX10_deliver_190 (by decide) ?_
        refine gN_iconst 3 dX10_deliver_192 (by decide) ?_
        refine g_aload_n 0 dX10_deliver_193 rfl rfl ?_
        refine gN_getR (a + 1) flX10_7 (fun _ _ _ => rfl) 0 (hM.t) (hM.r0) dX10_deliver_194 ?_
        refine g_iload_n 2 dX10_deliver_197 rfl rfl ?_
        refine gN_iconst 3 dX10_deliver_198 (by decide) ?_
        refine gN_iadd ((79 + 22 * s) + 3) dX10_deliver_199 rfl ?_
        refine gN_iald 689 (hM.t1) (by first | omega | exact b01_lt _) (by first | omega | exact b01_lt _) dX10_deliver_200 ?_
        refine g_eI (Z185 ((79 + 22 * s) + 3)) (iz _ _ _ _ _) ?_
        refine g_ei (nI (nv ((im m (a + 1)) (79 + 22 * s + 3)))) (by rw [eZ185, u1_n _ _ _ (by omega)]; rw [eZ156, u1_n _ _ _ (by omega)]; rw [eZ139, u1_n _ _ _ (by omega)]; rw [eZ126, u1_n _ _ _ (by omega)]; rw [eZ111, u1_n _ _ _ (by omega)]; rw [eZ101, u1_n _ _ _ (by omega)]; exact hbd.e) ?_
        refine gN_imul (3 * (nv ((im m (a + 1)) (79 + 22 * s + 3)))) dX10_deliver_201 rfl ?_
        refine gN_iadd (64 + (3 * (nv ((im m (a + 1)) (79 + 22 * s + 3))))) dX10_deliver_202 rfl ?_
        refine gN_iconst 2 dX10_deliver_203 (by decide) ?_
        refine gN_iadd ((64 + (3 * (nv ((im m (a + 1)) (79 + 22 * s + 3))))) + 2) dX10_deliver_204 rfl ?_
        refine g_dup2_11 dX10_deliver_205 rfl rfl ?_
        refine gN_iald 689 (hM.t1) (by first | omega | exact b01_lt _) (by first | omega | exact b01_lt _) dX10_deliver_206 ?_
        refine g_eI (Z185 ((64 + (3 * (nv ((im m (a + 1)) (79 + 22 * s + 3))))) + 2)) (iz _ _ _ _ _) ?_
        refine g_iload 4 dX10_deliver_207 rfl ?_
        refine g_iadd dX10_deliver_209 ?_
        refine gN_iast 689 (hM.t1) (by first | omega | exact b01_lt _) (by first | omega | exact b01_lt _) dX10_deliver_210 ?_
        refine g_zset (fun Z210 eZ210 => ?_)
        refine g_aload_n 0 dX10_deliver_211 rfl rfl ?_
        refine g_iload_n 1 dX10_deliver_212 rfl rfl ?_
        refine gd_callV _ _ _ _ (rm' g (0, 0) hM (z := Z210) (s := s) (by omega) (by rw [eZ210, u1_n _ _ _ (by omega)]; rw [eZ185, u1_n _ _ _ (by omega)]; rw [eZ156, u1_n _ _ _ (by omega)]; rw [eZ139, u1_n _ _ _ (by omega)]; rw [eZ126, u1_n _ _ _ (by omega)]; rw [eZ111, u1_n _ _ _ (by omega)]; rw [eZ101, u1_n _ _ _ (by omega)]; exact hR)) ⟨rfl, rfl⟩ (ok_X10_remember _) mlX10_116 in_X10_remember se_X10_remember 10 0 (hM.t) rfl rfl rfl ⟨Nat.le_of_ble_eq_true rfl, Nat.le_of_ble_eq_true rfl⟩ (by exact Nat.le_of_ble_eq_true rfl) ⟨Nat.zero_le _, Nat.zero_le _⟩ dX10_deliver_213 rfl ?_
        refine g_iload 4 dX10_deliver_216 rfl ?_
        refine g_iret rfl dX10_deliver_218 ⟨Nat.zero_le _, Nat.zero_le _⟩ ?_
        refine ⟨vI ?_, _, rfl, ?_⟩
        · exact ev
        · have e9 : rmZ Z210 s = dlZ (im m (a + 1)) s (nv ((im m (a + 1)) (79 + 22 * s + 2))) (nv ((im m (a + 1)) (79 + 22 * s + 3))) (payV (im m (a + 1)) (79 + 22 * s) (nv ((im m (a + 1)) (79 + 22 * s + 2))) ((im m (a + 1)) (79 + 22 * s + 4))) := by
            rw [← show v = payV (im m (a + 1)) (79 + 22 * s) (nv ((im m (a + 1)) (79 + 22 * s + 2))) ((im m (a + 1)) (79 + 22 * s + 4)) from ev]
            rw [eZ210]
            unfold dlZ
            rw [eZ185, eZ156, eZ139, eZ126, eZ111, eZ101]
          rw [← e9]
          exact sc.rf
      · exact False.elim (h_41 (b01_f (by rw [ze]; exact h2)))
  · exact False.elim (b01_z.mp h_10 ((inb_nI (by omega)).mpr hs))
