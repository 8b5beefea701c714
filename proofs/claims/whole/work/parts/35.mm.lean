theorem pn' (g : Gp) (cs : Nat × Nat) {m : Mm} {a : Nat} (hM : MdOk m a) {z : Nat → Int32} (hz : im m (a + 1) = z) {s : Nat} (hs : s < 10) (hn : NR (z (79 + 22 * s)) 1 12) (hR : NR (z 1) 0 30) (hrow : ∀ r, r < nv (z 1) → NR (z (299 + 13 * r)) 1 12) : En g (MX10_partNow cs) [.ref a, .int (nI s)] m (some (.int (z (64 + 3 * bandOf (mtc z (79 + 22 * s)))))) (sc a (im m)) := by
  subst hz
  exact cn_X10_partNow g cs hM hs hn hR hrow
theorem rmN (g : Gp) (cs : Nat × Nat) {m : Mm} {a : Nat} (hM : MdOk m a) {z : Nat → Int32} (hz : im m (a + 1) = z) {s : Nat} (hs : s < 10) (hR : NR (z 1) 0 30) : Dn g (MX10_remember cs) [.ref a, .int (nI s)] m none (wI m (rz (im m) (a + 1) (rmZ z s))) := by
  subst hz
  have h := rm' g cs (m := m) (I := im m) (z := im m (a + 1)) hM hs hR
  rw [rz_0] at h
  exact h
set_option maxRecDepth 100000 in
theorem cn_X10_costOf (g : Gp) (cs : Nat × Nat) {m : Mm} {a : Nat} (hM : MdOk m a) {f s : Nat} (hf : f < 10) (hs : s < 10) (hlf : NR (im m (a + 1) (79 + 22 * f)) 1 12) (hls : NR (im m (a + 1) (79 + 22 * s)) 1 12) (hR : NR (im m (a + 1) 1) 0 30) (hrow : ∀ r, r < nv (im m (a + 1) 1) → NR (im m (a + 1) (299 + 13 * r)) 1 12) : En g (MX10_costOf cs) [.ref a, .int (nI f), .int (nI s)] m (some (.int (csV (im m (a + 1)) f s))) (scB a (im m)) := by
  obtain ⟨q1, q2⟩ := rmZ_rows (im m (a + 1)) hf hR hlf hrow
  have q3 : NR (rmZ (im m (a + 1)) f (79 + 22 * s)) 1 12 := by rw [rmZ_lo _ _ (by omega) (by omega)]; exact hls
  refine Cn.of pn_X10 (Nat.le_of_ble_eq_true rfl) rfl ?_
  refine g_aload_n 0 dX10_costOf_0 rfl rfl ?_
  refine gd_callV _ _ _ _ (cn_X10_putAside g (0, 0) hM) ⟨rfl, rfl⟩ (ok_X10_putAside _) mlX10_213 in_X10_putAside se_X10_putAside 10 0 (hM.t) rfl rfl rfl ⟨Nat.le_of_ble_eq_true rfl, Nat.le_of_ble_eq_true rfl⟩ (by exact Nat.le_of_ble_eq_true rfl) ⟨Nat.zero_le _, Nat.zero_le _⟩ dX10_costOf_1 rfl ?_
  refine g_aload_n 0 dX10_costOf_4 rfl rfl ?_
  refine gN_getR (a + 1) flX10_7 (fun _ _ _ => rfl) 0 (hM.t) (hM.r0) dX10_costOf_5 ?_
  refine g_iload_n 1 dX10_costOf_8 rfl rfl ?_
  refine gd_callS _ _ _ _ (cn_X10_at g (0, 0) _ f) ⟨rfl, rfl⟩ (ok_X10_at _) mlX10_45 st_X10_at rfl ⟨Nat.le_of_ble_eq_true rfl, Nat.le_of_ble_eq_true rfl⟩ (by exact Nat.le_of_ble_eq_true rfl) ⟨Nat.zero_le _, Nat.zero_le _⟩ dX10_costOf_9 rfl ?_
  refine gN_iald 689 (hM.t1) (by first | omega | exact b01_lt _) (by first | omega | exact b01_lt _) dX10_costOf_12 ?_
  refine g_aload_n 0 dX10_costOf_13 rfl rfl ?_
  refine g_iload_n 1 dX10_costOf_14 rfl rfl ?_
  refine ge_callV _ _ _ (pn' g (0, 0) (m := wI m (cpI (im m) (a + 3) 0 689 (fun j => im m (a + 1) j))) hM (z := (im m (a + 1))) (by rw [im_wI, cpI_ne _ _ _ _ _ (by omega)]) hf hlf hR hrow) ⟨rfl, rfl⟩ (ok_X10_partNow _) mlX10_207 in_X10_partNow se_X10_partNow 10 0 (hM.t) rfl rfl rfl ⟨Nat.le_of_ble_eq_true rfl, Nat.le_of_ble_eq_true rfl⟩ (by exact Nat.le_of_ble_eq_true rfl) ⟨Nat.zero_le _, Nat.zero_le _⟩ dX10_costOf_15 rfl (fun I1 hI1 => ?_)
  have hz1 : I1 (a + 1) = (im m (a + 1)) := by rw [hI1.z, im_wI, cpI_ne _ _ _ _ _ (by omega)]
  refine g_imul dX10_costOf_18 ?_
  refine g_topi (fun c1 ec1 => ?_)
  refine g_istore_n 3 [(3, .int (c1)), (0, .ref (a)), (1, .int (nI (f))), (2, .int (nI (s)))] dX10_costOf_19 rfl (Nat.le_of_ble_eq_true rfl) rfl ?_
  refine g_aload_n 0 dX10_costOf_20 rfl rfl ?_
  refine g_iload_n 1 dX10_costOf_21 rfl rfl ?_
  refine gd_callV _ _ _ _ (rmN g (0, 0) (m := wI m I1) hM (z := (im m (a + 1))) hz1 hf hR) ⟨rfl, rfl⟩ (ok_X10_remember _) mlX10_116 in_X10_remember se_X10_remember 10 0 (hM.t) rfl rfl rfl ⟨Nat.le_of_ble_eq_true rfl, Nat.le_of_ble_eq_true rfl⟩ (by exact Nat.le_of_ble_eq_true rfl) ⟨Nat.zero_le _, Nat.zero_le _⟩ dX10_costOf_22 rfl ?_
  refine g_iload_n 3 dX10_costOf_25 rfl rfl ?_
  refine g_aload_n 0 dX10_costOf_26 rfl rfl ?_
  refine gN_getR (a + 1) flX10_7 (fun _ _ _ => rfl) 0 (hM.t) (hM.r0) dX10_costOf_27 ?_
  refine g_iload_n 2 dX10_costOf_30 rfl rfl ?_
  refine gd_callS _ _ _ _ (cn_X10_at g (0, 0) _ s) ⟨rfl, rfl⟩ (ok_X10_at _) mlX10_45 st_X10_at rfl ⟨Nat.le_of_ble_eq_true rfl, Nat.le_of_ble_eq_true rfl⟩ (by exact Nat.le_of_ble_eq_true rfl) ⟨Nat.zero_le _, Nat.zero_le _⟩ dX10_costOf_31 rfl ?_
  refine gN_iald 689 (hM.t1) (by first | omega | exact b01_lt _) (by first | omega | exact b01_lt _) dX10_costOf_34 ?_
  refine g_aload_n 0 dX10_costOf_35 rfl rfl ?_
  refine g_iload_n 2 dX10_costOf_36 rfl rfl ?_
  refine ge_callV _ _ _ (pn' g (0, 0) (m := wI m (rz I1 (a + 1) (rmZ (im m (a + 1)) f))) hM (z := rmZ (im m (a + 1)) f) (rz_b _ _ _) hs q3 q1 q2) ⟨rfl, rfl⟩ (ok_X10_partNow _) mlX10_207 in_X10_partNow se_X10_partNow 10 0 (hM.t) rfl rfl rfl ⟨Nat.le_of_ble_eq_true rfl, Nat.le_of_ble_eq_true rfl⟩ (by exact Nat.le_of_ble_eq_true rfl) ⟨Nat.zero_le _, Nat.zero_le _⟩ dX10_costOf_37 rfl (fun I2 hI2 => ?_)
  refine g_imul dX10_costOf_40 ?_
  refine g_iadd dX10_costOf_41 ?_
  refine g_topi (fun c2 ec2 => ?_)
  refine g_istore_n 3 [(3, .int (c2)), (0, .ref (a)), (1, .int (nI (f))), (2, .int (nI (s)))] dX10_costOf_42 rfl (Nat.le_of_ble_eq_true rfl) rfl ?_
  refine g_aload_n 0 dX10_costOf_43 rfl rfl ?_
  refine gd_callV _ _ _ _ (cn_X10_putBack g (0, 0) (m := wI m I2) hM) ⟨rfl, rfl⟩ (ok_X10_putBack _) mlX10_216 in_X10_putBack se_X10_putBack 10 0 (hM.t) rfl rfl rfl ⟨Nat.le_of_ble_eq_true rfl, Nat.le_of_ble_eq_true rfl⟩ (by exact Nat.le_of_ble_eq_true rfl) ⟨Nat.zero_le _, Nat.zero_le _⟩ dX10_costOf_44 rfl ?_
  refine g_iload_n 3 dX10_costOf_47 rfl rfl ?_
  refine g_iret rfl dX10_costOf_48 ⟨Nat.zero_le _, Nat.zero_le _⟩ ?_
  refine ⟨vI ?_, _, rfl, co_X10 hI1 hI2 (fun y hy => rmZ_hi _ _ hR.hi hy)⟩
  rw [ec2, ec1]
  unfold csV
  show im (wI m (cpI (im m) (a + 3) 0 689 (fun j => im m (a + 1) j))) (a + 1) _ * _ + (rz I1 (a + 1) (rmZ (im m (a + 1)) f)) (a + 1) _ * _ = _
  rw [im_wI, cpI_ne _ _ _ _ _ (by omega), rz_b]
