/-! THE CLASS: the looks with floats, and the digest -/
theorem bits_32 (n : Nat) : (Int64.ofInt (n : Int)).toInt32 = (UInt32.ofNat n).toInt32 := by
  rw [Int64.toInt32_ofInt, Int32.ofInt_eq_ofNat]; rfl
theorem bits_64 (n : Nat) : Int64.ofInt (n : Int) = (UInt64.ofNat n).toInt64 := by
  rw [Int64.ofInt_eq_ofNat]; rfl
set_option maxRecDepth 100000 in
theorem cn_X9_floatBits (g : Gp) (cs : Nat × Nat) {m : Mm} {x : UInt32} (h : okF x) : Dn g (MX9_floatBits cs) [.float x] m (some (.int x.toInt32)) m := by
  rcases h with rfl | ⟨E, T, h1, h2, h3, rfl⟩
  · refine Cn.of pn_X9 (Nat.le_of_ble_eq_true rfl) rfl ?_
    refine g_fload_n 0 dX9_floatBits_0 rfl rfl ?_
    refine g_f2d dX9_floatBits_1 (by rw [f_wide0]; exact vf_d0) ?_
    refine g_eD (0) (f_wide0) ?_
    refine gN_bipush 127 dX9_floatBits_2 (by decide) ?_
    refine gN_bipush 23 dX9_floatBits_4 (by decide) ?_
    refine gd_callS _ _ _ _ (cn_X9_bitsOf230 g (0, 0)) ⟨rfl, rfl⟩ (ok_X9_bitsOf _) mlX9_324 st_X9_bitsOf rfl ⟨Nat.le_of_ble_eq_true rfl, Nat.le_of_ble_eq_true rfl⟩ (by exact Nat.le_of_ble_eq_true rfl) ⟨Nat.zero_le _, Nat.zero_le _⟩ dX9_floatBits_6 rfl ?_
    refine g_l2i dX9_floatBits_9 ?_
    refine g_iret rfl dX9_floatBits_10 ⟨Nat.zero_le _, Nat.zero_le _⟩ ?_
    exact ⟨vI (by decide), rfl⟩
  · refine Cn.of pn_X9 (Nat.le_of_ble_eq_true rfl) rfl ?_
    refine g_fload_n 0 dX9_floatBits_0 rfl rfl ?_
    refine g_f2d dX9_floatBits_1 (by rw [f_wide (by omega) (by omega) h3]; exact vf_dE (by omega) (by omega) (by omega)) ?_
    refine g_eD (dE (E + 896) (T * 536870912)) (f_wide (by omega) (by omega) h3) ?_
    refine gN_bipush 127 dX9_floatBits_2 (by decide) ?_
    refine gN_bipush 23 dX9_floatBits_4 (by decide) ?_
    refine gd_callS _ _ _ _ (cn_X9_bitsOf23 g (0, 0) (E := E + 896) (T := T * 536870912) (by omega) (by omega) (by omega) (by omega) (by omega) (by omega)) ⟨rfl, rfl⟩ (ok_X9_bitsOf _) mlX9_324 st_X9_bitsOf rfl ⟨Nat.le_of_ble_eq_true rfl, Nat.le_of_ble_eq_true rfl⟩ (by exact Nat.le_of_ble_eq_true rfl) ⟨Nat.zero_le _, Nat.zero_le _⟩ dX9_floatBits_6 rfl ?_
    refine g_l2i dX9_floatBits_9 ?_
    refine g_iret rfl dX9_floatBits_10 ⟨Nat.zero_le _, Nat.zero_le _⟩ ?_
    refine ⟨vI ?_, rfl⟩
    rw [show ((127 : Int) + ((E + 896 : Nat) : Int) - 1023) * 8388608 + ((T * 536870912 / 2 ^ 29 : Nat) : Int) = ((E * 8388608 + T : Nat) : Int) by omega]
    exact bits_32 _
set_option maxRecDepth 100000 in
theorem cn_X9_bitsOfD (g : Gp) (cs : Nat × Nat) {m : Mm} {x : UInt64} (h : okD x) : Dn g (MX9_bitsOf cs) [.double x, .int (nI 1023), .int (nI 52)] m (some (.long x.toInt64)) m := by
  rcases h with rfl | ⟨E, T, h1, h2, h3, rfl⟩
  · exact cn_X9_bitsOf520 g cs
  · have h := cn_X9_bitsOf52 g cs (m := m) (E := E) (T := T) (by omega) (by omega) h3 (Nat.mod_one _) (by omega) (by omega)
    rw [show ((1023 : Int) + E - 1023) * 4503599627370496 + ((T / 2 ^ 0 : Nat) : Int) = ((E * 4503599627370496 + T : Nat) : Int) by omega, bits_64] at h
    exact h
set_option maxRecDepth 100000 in
theorem cn_X9_near00 (g : Gp) (cs : Nat × Nat) {m : Mm} {d B c : Nat} {z : Nat → Int32} (hD : DkT m d) (hR : Rp m B (d + 1) z) (hz : ZOk c z) {s : Nat} (hs : s < nv (z 0)) {r : Nat} (hr : r < nv (z 1)) : Dn g (MX9_near cs) [.ref (d), .int (nI (s)), .int (nI (r)), .int (nI (0))] m (some (.int (nearV z (79 + 22 * s) r 0))) m := by
  have hz0 := hz.n0.hi
  have hz1 := hz.n1.hi
  obtain ⟨q, hq1, hqa⟩ := hR.SR (s := s) hs
  have hq := hqa.2.2
  obtain ⟨q2, hq3, hqb⟩ := hR.M (r := r) hr
  have hq2 := hqb.2.2
  have hn1 := (hz.row hs).1.lo
  have hn2 := (hz.row hs).1.hi
  have hk1 := (hz.mem hr).1.lo
  have hk2 := (hz.mem hr).1.hi
  have hl : lcz z (79 + 22 * s) r ≤ nv (z (79 + 22 * s)) := tt_le _ _ _ _ _ _
  refine Cn.of pn_X9 (Nat.le_of_ble_eq_true rfl) rfl ?_
  refine g_iload_n 1 dX9_near_0 rfl rfl ?_
  refine g_aload_n 0 dX9_near_1 rfl rfl ?_
  refine gN_getR (d + 1) flX9_10 (fun _ _ _ => rfl) 0 (hD.t) (hD.r0) dX9_near_2 ?_
  refine gN_getI flX9_68 rfl 0 (hD.s.t) dX9_near_5 ?_
  refine g_ei (nI (nv (z 0))) (hR.c0.trans hz.n0.e) ?_
  refine gd_callS _ _ _ _ (cn_X9_checkNumber g (0, 0) (j := s) (N := nv (z 0)) (by omega) (by omega)) ⟨rfl, rfl⟩ (ok_X9_checkNumber _) mlX9_30 st_X9_checkNumber rfl ⟨Nat.le_of_ble_eq_true rfl, Nat.le_of_ble_eq_true rfl⟩ (by exact Nat.le_of_ble_eq_true rfl) ⟨Nat.zero_le _, Nat.zero_le _⟩ dX9_near_8 rfl ?_
  refine g_iload_n 2 dX9_near_11 rfl rfl ?_
  refine g_aload_n 0 dX9_near_12 rfl rfl ?_
  refine gN_getR (d + 1) flX9_10 (fun _ _ _ => rfl) 0 (hD.t) (hD.r0) dX9_near_13 ?_
  refine gN_getR (d + 1 + 10) flX9_176 (fun _ _ _ => rfl) 0 (hD.s.t) (hD.s.r5) dX9_near_16 ?_
  refine gN_getI flX9_207 rfl 0 (hD.s.t10) dX9_near_19 ?_
  refine g_ei (nI (nv (z 1))) (hR.c1.trans hz.n1.e) ?_
  refine gd_callS _ _ _ _ (cn_X9_checkNumber g (0, 0) (j := r) (N := nv (z 1)) (by omega) (by omega)) ⟨rfl, rfl⟩ (ok_X9_checkNumber _) mlX9_30 st_X9_checkNumber rfl ⟨Nat.le_of_ble_eq_true rfl, Nat.le_of_ble_eq_true rfl⟩ (by exact Nat.le_of_ble_eq_true rfl) ⟨Nat.zero_le _, Nat.zero_le _⟩ dX9_near_22 rfl ?_
  refine g_iload_n 3 dX9_near_25 rfl rfl ?_
  refine gN_iconst 0 dX9_near_26 (by decide) ?_
  refine gN_iconst 2 dX9_near_27 (by decide) ?_
  refine gd_callS _ _ _ _ (cn_X9_checkRange g (0, 0) ((in_inb (n := 2) (by decide)).mpr ((inb_nI (by omega)).mpr (by omega)))) ⟨rfl, rfl⟩ (ok_X9_checkRange _) mlX9_34 st_X9_checkRange rfl ⟨Nat.le_of_ble_eq_true rfl, Nat.le_of_ble_eq_true rfl⟩ (by exact Nat.le_of_ble_eq_true rfl) ⟨Nat.zero_le _, Nat.zero_le _⟩ dX9_near_28 rfl ?_
  refine g_aload_n 0 dX9_near_31 rfl rfl ?_
  refine gN_getR (d + 1) flX9_10 (fun _ _ _ => rfl) 0 (hD.t) (hD.r0) dX9_near_32 ?_
  refine gN_getR (d + 1 + 5) flX9_71 (fun _ _ _ => rfl) 0 (hD.s.t) (hD.s.r4) dX9_near_35 ?_
  refine g_iload_n 1 dX9_near_38 rfl rfl ?_
  refine gN_aald 14 10 (d + 1 + 37 + s) (hD.s.t5) (by decide) (by first | omega | exact b01_lt _) (by first | omega | exact b01_lt _) (hD.s.rS (by omega)) dX9_near_39 ?_
  refine gN_getR (q) flX9_98 (fun _ _ _ => rfl) 0 (hD.s.tS (by omega)) (hq1) dX9_near_40 ?_
  refine g_astore 4 [(4, .ref (q)), (0, .ref (d)), (1, .int (nI (s))), (2, .int (nI (r))), (3, .int (nI (0)))] dX9_near_43 (Nat.le_of_ble_eq_true rfl) rfl ?_
  refine g_aload_n 0 dX9_near_45 rfl rfl ?_
  refine gN_getR (d + 1) flX9_10 (fun _ _ _ => rfl) 0 (hD.t) (hD.r0) dX9_near_46 ?_
  refine gN_getR (d + 1 + 10) flX9_176 (fun _ _ _ => rfl) 0 (hD.s.t) (hD.s.r5) dX9_near_49 ?_
  refine gN_getR (d + 1 + 11) flX9_208 (fun _ _ _ => rfl) 0 (hD.s.t10) (hD.s.r10) dX9_near_52 ?_
  refine g_iload_n 2 dX9_near_55 rfl rfl ?_
  refine gN_aald 13 30 (q2) (hD.s.t11) (by decide) (by first | omega | exact b01_lt _) (by first | omega | exact b01_lt _) (hq3) dX9_near_56 ?_
  refine g_astore 5 [(5, .ref (q2)), (4, .ref (q)), (0, .ref (d)), (1, .int (nI (s))), (2, .int (nI (r))), (3, .int (nI (0)))] dX9_near_57 (Nat.le_of_ble_eq_true rfl) rfl ?_
  refine g_iload_n 3 dX9_near_59 rfl rfl ?_
  refine g_lookup (off := 28) 88 dX9_near_60 (by decide) (by decide) (by decide) ?_
  refine g_aload 4 dX9_near_88 rfl ?_
  refine g_aload 5 dX9_near_90 rfl ?_
  refine gd_callV _ _ _ _ (cn_X4_matchWith g (0, 0) hq hq2) ⟨rfl, rfl⟩ (ok_X4_matchWith _) mlX9_260 in_X4_matchWith se_X4_matchWith 4 0 (hq.t) rfl rfl rfl ⟨Nat.le_of_ble_eq_true rfl, Nat.le_of_ble_eq_true rfl⟩ (by exact Nat.le_of_ble_eq_true rfl) ⟨Nat.zero_le _, Nat.zero_le _⟩ dX9_near_92 rfl ?_
  refine g_iret rfl dX9_near_95 ⟨Nat.zero_le _, Nat.zero_le _⟩ ?_
  exact ⟨rfl, rfl⟩
set_option maxRecDepth 100000 in
theorem cn_X9_near01 (g : Gp) (cs : Nat × Nat) {m : Mm} {d B c : Nat} {z : Nat → Int32} (hD : DkT m d) (hR : Rp m B (d + 1) z) (hz : ZOk c z) {s : Nat} (hs : s < nv (z 0)) {r : Nat} (hr : r < nv (z 1)) : Dn g (MX9_near cs) [.ref (d), .int (nI (s)), .int (nI (r)), .int (nI (1))] m (some (.int (nearV z (79 + 22 * s) r 1))) m := by
  have hz0 := hz.n0.hi
  have hz1 := hz.n1.hi
  obtain ⟨q, hq1, hqa⟩ := hR.SR (s := s) hs
  have hq := hqa.2.2
  obtain ⟨q2, hq3, hqb⟩ := hR.M (r := r) hr
  have hq2 := hqb.2.2
  have hn1 := (hz.row hs).1.lo
  have hn2 := (hz.row hs).1.hi
  have hk1 := (hz.mem hr).1.lo
  have hk2 := (hz.mem hr).1.hi
  have hl : lcz z (79 + 22 * s) r ≤ nv (z (79 + 22 * s)) := tt_le _ _ _ _ _ _
  refine Cn.of pn_X9 (Nat.le_of_ble_eq_true rfl) rfl ?_
  refine g_iload_n 1 dX9_near_0 rfl rfl ?_
  refine g_aload_n 0 dX9_near_1 rfl rfl ?_
  refine gN_getR (d + 1) flX9_10 (fun _ _ _ => rfl) 0 (hD.t) (hD.r0) dX9_near_2 ?_
  refine gN_getI flX9_68 rfl 0 (hD.s.t) dX9_near_5 ?_
  refine g_ei (nI (nv (z 0))) (hR.c0.trans hz.n0.e) ?_
  refine gd_callS _ _ _ _ (cn_X9_checkNumber g (0, 0) (j := s) (N := nv (z 0)) (by omega) (by omega)) ⟨rfl, rfl⟩ (ok_X9_checkNumber _) mlX9_30 st_X9_checkNumber rfl ⟨Nat.le_of_ble_eq_true rfl, Nat.le_of_ble_eq_true rfl⟩ (by exact Nat.le_of_ble_eq_true rfl) ⟨Nat.zero_le _, Nat.zero_le _⟩ dX9_near_8 rfl ?_
  refine g_iload_n 2 dX9_near_11 rfl rfl ?_
  refine g_aload_n 0 dX9_near_12 rfl rfl ?_
  refine gN_getR (d + 1) flX9_10 (fun _ _ _ => rfl) 0 (hD.t) (hD.r0) dX9_near_13 ?_
  refine gN_getR (d + 1 + 10) flX9_176 (fun _ _ _ => rfl) 0 (hD.s.t) (hD.s.r5) dX9_near_16 ?_
  refine gN_getI flX9_207 rfl 0 (hD.s.t10) dX9_near_19 ?_
  refine g_ei (nI (nv (z 1))) (hR.c1.trans hz.n1.e) ?_
  refine gd_callS _ _ _ _ (cn_X9_checkNumber g (0, 0) (j := r) (N := nv (z 1)) (by omega) (by omega)) ⟨rfl, rfl⟩ (ok_X9_checkNumber _) mlX9_30 st_X9_checkNumber rfl ⟨Nat.le_of_ble_eq_true rfl, Nat.le_of_ble_eq_true rfl⟩ (by exact Nat.le_of_ble_eq_true rfl) ⟨Nat.zero_le _, Nat.zero_le _⟩ dX9_near_22 rfl ?_
  refine g_iload_n 3 dX9_near_25 rfl rfl ?_
  refine gN_iconst 0 dX9_near_26 (by decide) ?_
  refine gN_iconst 2 dX9_near_27 (by decide) ?_
  refine gd_callS _ _ _ _ (cn_X9_checkRange g (0, 0) ((in_inb (n := 2) (by decide)).mpr ((inb_nI (by omega)).mpr (by omega)))) ⟨rfl, rfl⟩ (ok_X9_checkRange _) mlX9_34 st_X9_checkRange rfl ⟨Nat.le_of_ble_eq_true rfl, Nat.le_of_ble_eq_true rfl⟩ (by exact Nat.le_of_ble_eq_true rfl) ⟨Nat.zero_le _, Nat.zero_le _⟩ dX9_near_28 rfl ?_
  refine g_aload_n 0 dX9_near_31 rfl rfl ?_
  refine gN_getR (d + 1) flX9_10 (fun _ _ _ => rfl) 0 (hD.t) (hD.r0) dX9_near_32 ?_
  refine gN_getR (d + 1 + 5) flX9_71 (fun _ _ _ => rfl) 0 (hD.s.t) (hD.s.r4) dX9_near_35 ?_
  refine g_iload_n 1 dX9_near_38 rfl rfl ?_
  refine gN_aald 14 10 (d + 1 + 37 + s) (hD.s.t5) (by decide) (by first | omega | exact b01_lt _) (by first | omega | exact b01_lt _) (hD.s.rS (by omega)) dX9_near_39 ?_
  refine gN_getR (q) flX9_98 (fun _ _ _ => rfl) 0 (hD.s.tS (by omega)) (hq1) dX9_near_40 ?_
  refine g_astore 4 [(4, .ref (q)), (0, .ref (d)), (1, .int (nI (s))), (2, .int (nI (r))), (3, .int (nI (1)))] dX9_near_43 (Nat.le_of_ble_eq_true rfl) rfl ?_
  refine g_aload_n 0 dX9_near_45 rfl rfl ?_
  refine gN_getR (d + 1) flX9_10 (fun _ _ _ => rfl) 0 (hD.t) (hD.r0) dX9_near_46 ?_
  refine gN_getR (d + 1 + 10) flX9_176 (fun _ _ _ => rfl) 0 (hD.s.t) (hD.s.r5) dX9_near_49 ?_
  refine gN_getR (d + 1 + 11) flX9_208 (fun _ _ _ => rfl) 0 (hD.s.t10) (hD.s.r10) dX9_near_52 ?_
  refine g_iload_n 2 dX9_near_55 rfl rfl ?_
  refine gN_aald 13 30 (q2) (hD.s.t11) (by decide) (by first | omega | exact b01_lt _) (by first | omega | exact b01_lt _) (hq3) dX9_near_56 ?_
  refine g_astore 5 [(5, .ref (q2)), (4, .ref (q)), (0, .ref (d)), (1, .int (nI (s))), (2, .int (nI (r))), (3, .int (nI (1)))] dX9_near_57 (Nat.le_of_ble_eq_true rfl) rfl ?_
  refine g_iload_n 3 dX9_near_59 rfl rfl ?_
  refine g_lookup (off := 36) 96 dX9_near_60 (by decide) (by decide) (by decide) ?_
  refine g_aload 4 dX9_near_96 rfl ?_
  refine gN_iconst 0 dX9_near_98 (by decide) ?_
  refine g_aload 5 dX9_near_99 rfl ?_
  refine gN_iconst 0 dX9_near_101 (by decide) ?_
  refine gd_callV _ _ _ _ (cn_X4_commonLength g (0, 0) hq hq2 (i := 0) (j := 0) (Nat.zero_le _) (Nat.zero_le _)) ⟨rfl, rfl⟩ (ok_X4_commonLength _) mlX9_263 in_X4_commonLength se_X4_commonLength 4 0 (hq.t) rfl rfl rfl ⟨Nat.le_of_ble_eq_true rfl, Nat.le_of_ble_eq_true rfl⟩ (by exact Nat.le_of_ble_eq_true rfl) ⟨Nat.zero_le _, Nat.zero_le _⟩ dX9_near_102 rfl ?_
  refine g_iret rfl dX9_near_105 ⟨Nat.zero_le _, Nat.zero_le _⟩ ?_
  exact ⟨rfl, rfl⟩
set_option maxRecDepth 100000 in
theorem cn_X9_near02 (g : Gp) (cs : Nat × Nat) {m : Mm} {d B c : Nat} {z : Nat → Int32} (hD : DkT m d) (hR : Rp m B (d + 1) z) (hz : ZOk c z) {s : Nat} (hs : s < nv (z 0)) {r : Nat} (hr : r < nv (z 1)) : Dn g (MX9_near cs) [.ref (d), .int (nI (s)), .int (nI (r)), .int (nI (2))] m (some (.int (nearV z (79 + 22 * s) r 2))) m := by
  have hz0 := hz.n0.hi
  have hz1 := hz.n1.hi
  obtain ⟨q, hq1, hqa⟩ := hR.SR (s := s) hs
  have hq := hqa.2.2
  obtain ⟨q2, hq3, hqb⟩ := hR.M (r := r) hr
  have hq2 := hqb.2.2
  have hn1 := (hz.row hs).1.lo
  have hn2 := (hz.row hs).1.hi
  have hk1 := (hz.mem hr).1.lo
  have hk2 := (hz.mem hr).1.hi
  have hl : lcz z (79 + 22 * s) r ≤ nv (z (79 + 22 * s)) := tt_le _ _ _ _ _ _
  refine Cn.of pn_X9 (Nat.le_of_ble_eq_true rfl) rfl ?_
  refine g_iload_n 1 dX9_near_0 rfl rfl ?_
  refine g_aload_n 0 dX9_near_1 rfl rfl ?_
  refine gN_getR (d + 1) flX9_10 (fun _ _ _ => rfl) 0 (hD.t) (hD.r0) dX9_near_2 ?_
  refine gN_getI flX9_68 rfl 0 (hD.s.t) dX9_near_5 ?_
  refine g_ei (nI (nv (z 0))) (hR.c0.trans hz.n0.e) ?_
  refine gd_callS _ _ _ _ (cn_X9_checkNumber g (0, 0) (j := s) (N := nv (z 0)) (by omega) (by omega)) ⟨rfl, rfl⟩ (ok_X9_checkNumber _) mlX9_30 st_X9_checkNumber rfl ⟨Nat.le_of_ble_eq_true rfl, Nat.le_of_ble_eq_true rfl⟩ (by exact Nat.le_of_ble_eq_true rfl) ⟨Nat.zero_le _, Nat.zero_le _⟩ dX9_near_8 rfl ?_
  refine g_iload_n 2 dX9_near_11 rfl rfl ?_
  refine g_aload_n 0 dX9_near_12 rfl rfl ?_
  refine gN_getR (d + 1) flX9_10 (fun _ _ _ => rfl) 0 (hD.t) (hD.r0) dX9_near_13 ?_
  refine gN_getR (d + 1 + 10) flX9_176 (fun _ _ _ => rfl) 0 (hD.s.t) (hD.s.r5) dX9_near_16 ?_
  refine gN_getI flX9_207 rfl 0 (hD.s.t10) dX9_near_19 ?_
  refine g_ei (nI (nv (z 1))) (hR.c1.trans hz.n1.e) ?_
  refine gd_callS _ _ _ _ (cn_X9_checkNumber g (0, 0) (j := r) (N := nv (z 1)) (by omega) (by omega)) ⟨rfl, rfl⟩ (ok_X9_checkNumber _) mlX9_30 st_X9_checkNumber rfl ⟨Nat.le_of_ble_eq_true rfl, Nat.le_of_ble_eq_true rfl⟩ (by exact Nat.le_of_ble_eq_true rfl) ⟨Nat.zero_le _, Nat.zero_le _⟩ dX9_near_22 rfl ?_
  refine g_iload_n 3 dX9_near_25 rfl rfl ?_
  refine gN_iconst 0 dX9_near_26 (by decide) ?_
  refine gN_iconst 2 dX9_near_27 (by decide) ?_
  refine gd_callS _ _ _ _ (cn_X9_checkRange g (0, 0) ((in_inb (n := 2) (by decide)).mpr ((inb_nI (by omega)).mpr (by omega)))) ⟨rfl, rfl⟩ (ok_X9_checkRange _) mlX9_34 st_X9_checkRange rfl ⟨Nat.le_of_ble_eq_true rfl, Nat.le_of_ble_eq_true rfl⟩ (by exact Nat.le_of_ble_eq_true rfl) ⟨Nat.zero_le _, Nat.zero_le _⟩ dX9_near_28 rfl ?_
  refine g_aload_n 0 dX9_near_31 rfl rfl ?_
  refine gN_getR (d + 1) flX9_10 (fun _ _ _ => rfl) 0 (hD.t) (hD.r0) dX9_near_32 ?_
  refine gN_getR (d + 1 + 5) flX9_71 (fun _ _ _ => rfl) 0 (hD.s.t) (hD.s.r4) dX9_near_35 ?_
  refine g_iload_n 1 dX9_near_38 rfl rfl ?_
  refine gN_aald 14 10 (d + 1 + 37 + s) (hD.s.t5) (by decide) (by first | omega | exact b01_lt _) (by first | omega | exact b01_lt _) (hD.s.rS (by omega)) dX9_near_39 ?_
  refine gN_getR (q) flX9_98 (fun _ _ _ => rfl) 0 (hD.s.tS (by omega)) (hq1) dX9_near_40 ?_
  refine g_astore 4 [(4, .ref (q)), (0, .ref (d)), (1, .int (nI (s))), (2, .int (nI (r))), (3, .int (nI (2)))] dX9_near_43 (Nat.le_of_ble_eq_true rfl) rfl ?_
  refine g_aload_n 0 dX9_near_45 rfl rfl ?_
  refine gN_getR (d + 1) flX9_10 (fun _ _ _ => rfl) 0 (hD.t) (hD.r0) dX9_near_46 ?_
  refine gN_getR (d + 1 + 10) flX9_176 (fun _ _ _ => rfl) 0 (hD.s.t) (hD.s.r5) dX9_near_49 ?_
  refine gN_getR (d + 1 + 11) flX9_208 (fun _ _ _ => rfl) 0 (hD.s.t10) (hD.s.r10) dX9_near_52 ?_
  refine g_iload_n 2 dX9_near_55 rfl rfl ?_
  refine gN_aald 13 30 (q2) (hD.s.t11) (by decide) (by first | omega | exact b01_lt _) (by first | omega | exact b01_lt _) (hq3) dX9_near_56 ?_
  refine g_astore 5 [(5, .ref (q2)), (4, .ref (q)), (0, .ref (d)), (1, .int (nI (s))), (2, .int (nI (r))), (3, .int (nI (2)))] dX9_near_57 (Nat.le_of_ble_eq_true rfl) rfl ?_
  refine g_iload_n 3 dX9_near_59 rfl rfl ?_
  refine g_lookup (off := 46) 106 dX9_near_60 (by decide) (by decide) (by decide) ?_
  refine g_aload 4 dX9_near_106 rfl ?_
  refine g_aload 5 dX9_near_108 rfl ?_
  refine gd_callV _ _ _ _ (cn_X4_likenessTo g (0, 0) hq hq2 hn1) ⟨rfl, rfl⟩ (ok_X4_likenessTo _) mlX9_267 in_X4_likenessTo se_X4_likenessTo 4 0 (hq.t) rfl rfl rfl ⟨Nat.le_of_ble_eq_true rfl, Nat.le_of_ble_eq_true rfl⟩ (by exact Nat.le_of_ble_eq_true rfl) ⟨Nat.zero_le _, Nat.zero_le _⟩ dX9_near_110 rfl ?_
  refine gd_callS _ _ _ _ (cn_X9_floatBits g (0, 0) (okF_div (a := 2 * lcz z (79 + 22 * s) r) (b := (nv (z (79 + 22 * s)) + nv (z (299 + 13 * r)))) (by omega) (by omega) (by omega))) ⟨rfl, rfl⟩ (ok_X9_floatBits _) mlX9_271 st_X9_floatBits rfl ⟨Nat.le_of_ble_eq_true rfl, Nat.le_of_ble_eq_true rfl⟩ (by exact Nat.le_of_ble_eq_true rfl) ⟨Nat.zero_le _, Nat.zero_le _⟩ dX9_near_113 rfl ?_
  refine g_iret rfl dX9_near_116 ⟨Nat.zero_le _, Nat.zero_le _⟩ ?_
  exact ⟨rfl, rfl⟩
theorem cn_X9_near (g : Gp) (cs : Nat × Nat) {m : Mm} {d B c : Nat} {z : Nat → Int32} (hD : DkT m d) (hR : Rp m B (d + 1) z) (hz : ZOk c z) {s : Nat} (hs : s < nv (z 0)) {r : Nat} (hr : r < nv (z 1)) {w : Nat} (hw : w ≤ 2) : Dn g (MX9_near cs) [.ref d, .int (nI s), .int (nI r), .int (nI w)] m (some (.int (nearV z (79 + 22 * s) r w))) m := by
  rcases (show w = 0 ∨ w = 1 ∨ w = 2 by omega) with rfl | rfl | rfl
  · exact cn_X9_near00 g cs hD hR hz hs hr
  · exact cn_X9_near01 g cs hD hR hz hs hr
  · exact cn_X9_near02 g cs hD hR hz hs hr
set_option maxRecDepth 100000 in
theorem cn_X9_saved (g : Gp) (cs : Nat × Nat) {m : Mm} {d B c : Nat} {z : Nat → Int32} (hD : DkT m d) (hR : Rp m B (d + 1) z) (hz : ZOk c z) (hC : CsT g m) : Dn g (MX9_saved cs) [.ref (d)] m (some (.int (savV z))) m := by
  have hz0 := hz.n0.hi
  have hz1 := hz.n1.hi
  have hs1 := sm_le (svF z) 1200 (nv (z 0)) (fun i hi => svF_le (hz.row hi).1 (fun b hb => hz.B0 hb))
  have hs2 := sm_le (wdF z) 12 (nv (z 0)) (fun i hi => (hz.row hi).1.hi)
  have hs3 := sm_ge (wdF z) 1 (nv (z 0)) (fun i hi => (hz.row hi).1.lo)
  refine Cn.of pn_X9 (Nat.le_of_ble_eq_true rfl) rfl ?_
  refine g_aload_n 0 dX9_saved_0 rfl rfl ?_
  refine gN_getR (d + 1) flX9_10 (fun _ _ _ => rfl) 0 (hD.t) (hD.r0) dX9_saved_1 ?_
  refine gd_callV _ _ _ _ (cn_X6_wordsOfAll g (0, 0) hD.s hR hz) ⟨rfl, rfl⟩ (ok_X6_wordsOfAll _) mlX9_246 in_X6_wordsOfAll se_X6_wordsOfAll 6 0 (hD.s.t) rfl rfl rfl ⟨Nat.le_of_ble_eq_true rfl, Nat.le_of_ble_eq_true rfl⟩ (by exact Nat.le_of_ble_eq_true rfl) ⟨Nat.zero_le _, Nat.zero_le _⟩ dX9_saved_4 rfl ?_
  refine g_istore_n 1 [(1, .int (nI (sm (wdF z) (nv (z 0))))), (0, .ref (d))] dX9_saved_7 rfl (Nat.le_of_ble_eq_true rfl) rfl ?_
  refine g_iload_n 1 dX9_saved_8 rfl rfl ?_
  refine gN_if_ne 17 dX9_saved_9 (by decide) (by first | omega | exact b01_lt _) (fun h_9 => ?_) (fun h_9 => ?_)
  · refine g_aload_n 0 dX9_saved_17 rfl rfl ?_
    refine gN_getR (d + 1) flX9_10 (fun _ _ _ => rfl) 0 (hD.t) (hD.r0) dX9_saved_18 ?_
    refine gd_callV _ _ _ _ (cn_X6_savedPercents g (0, 0) hD.s hR hz hC) ⟨rfl, rfl⟩ (ok_X6_savedPercents _) mlX9_285 in_X6_savedPercents se_X6_savedPercents 6 0 (hD.s.t) rfl rfl rfl ⟨Nat.le_of_ble_eq_true rfl, Nat.le_of_ble_eq_true rfl⟩ (by exact Nat.le_of_ble_eq_true rfl) ⟨Nat.zero_le _, Nat.zero_le _⟩ dX9_saved_21 rfl ?_
    refine g_i2f dX9_saved_24 ?_
    refine gN_bipush 100 dX9_saved_25 (by decide) ?_
    refine g_iload_n 1 dX9_saved_27 rfl rfl ?_
    refine gN_imul (100 * (sm (wdF z) (nv (z 0)))) dX9_saved_28 rfl ?_
    refine g_i2f dX9_saved_29 ?_
    refine g_fdiv dX9_saved_30 ((okF_div (a := sm (svF z) (nv (z 0))) (b := 100 * sm (wdF z) (nv (z 0))) (by omega) (by omega) (by omega)).vf) ?_
    refine gd_callS _ _ _ _ (cn_X9_floatBits g (0, 0) (okF_div (a := sm (svF z) (nv (z 0))) (b := 100 * sm (wdF z) (nv (z 0))) (by omega) (by omega) (by omega))) ⟨rfl, rfl⟩ (ok_X9_floatBits _) mlX9_271 st_X9_floatBits rfl ⟨Nat.le_of_ble_eq_true rfl, Nat.le_of_ble_eq_true rfl⟩ (by exact Nat.le_of_ble_eq_true rfl) ⟨Nat.zero_le _, Nat.zero_le _⟩ dX9_saved_31 rfl ?_
    refine g_iret rfl dX9_saved_34 ⟨Nat.zero_le _, Nat.zero_le _⟩ ?_
    refine ⟨vI ?_, rfl⟩
    unfold savV
    first | (rw [if_neg (by omega)]; rfl) | (rw [if_pos (by omega)]; rfl)
  · refine g_fconst0 dX9_saved_12 ?_
    refine gd_callS _ _ _ _ (cn_X9_floatBits g (0, 0) (Or.inl rfl)) ⟨rfl, rfl⟩ (ok_X9_floatBits _) mlX9_271 st_X9_floatBits rfl ⟨Nat.le_of_ble_eq_true rfl, Nat.le_of_ble_eq_true rfl⟩ (by exact Nat.le_of_ble_eq_true rfl) ⟨Nat.zero_le _, Nat.zero_le _⟩ dX9_saved_13 rfl ?_
    refine g_iret rfl dX9_saved_16 ⟨Nat.zero_le _, Nat.zero_le _⟩ ?_
    refine ⟨vI ?_, rfl⟩
    unfold savV
    first | (rw [if_neg (by omega)]; rfl) | (rw [if_pos (by omega)]; rfl)
set_option maxRecDepth 100000 in
theorem cn_X9_wordCost (g : Gp) (cs : Nat × Nat) {m : Mm} {d B c : Nat} {z : Nat → Int32} (hD : DkT m d) (hR : Rp m B (d + 1) z) (hz : ZOk c z) (hp : PplOk z) : Dn g (MX9_wordCost cs) [.ref (d)] m (some (.double (cstV z))) m := by
  have hz0 := hz.n0.hi
  have hz1 := hz.n1.hi
  refine Cn.of pn_X9 (Nat.le_of_ble_eq_true rfl) rfl ?_
  refine g_aload_n 0 dX9_wordCost_0 rfl rfl ?_
  refine gN_getR (d + 1) flX9_10 (fun _ _ _ => rfl) 0 (hD.t) (hD.r0) dX9_wordCost_1 ?_
  refine gd_callV _ _ _ _ (cn_X6_deliveredWords g (0, 0) hD.s hR hz) ⟨rfl, rfl⟩ (ok_X6_deliveredWords _) mlX9_249 in_X6_deliveredWords se_X6_deliveredWords 6 0 (hD.s.t) rfl rfl rfl ⟨Nat.le_of_ble_eq_true rfl, Nat.le_of_ble_eq_true rfl⟩ (by exact Nat.le_of_ble_eq_true rfl) ⟨Nat.zero_le _, Nat.zero_le _⟩ dX9_wordCost_4 rfl ?_
  refine g_istore_n 1 [(1, .int (ppl z 2 4)), (0, .ref (d))] dX9_wordCost_7 rfl (Nat.le_of_ble_eq_true rfl) rfl ?_
  refine g_iload_n 1 dX9_wordCost_8 rfl rfl ?_
  refine g_if_ne 14 dX9_wordCost_9 (by decide) (fun h_9 => ?_) (fun h_9 => ?_)
  · refine g_aload_n 0 dX9_wordCost_14 rfl rfl ?_
    refine gN_getR (d + 1) flX9_10 (fun _ _ _ => rfl) 0 (hD.t) (hD.r0) dX9_wordCost_15 ?_
    refine gd_callV _ _ _ _ (cn_X6_earnedByAll g (0, 0) hD.s hR hz) ⟨rfl, rfl⟩ (ok_X6_earnedByAll _) mlX9_251 in_X6_earnedByAll se_X6_earnedByAll 6 0 (hD.s.t) rfl rfl rfl ⟨Nat.le_of_ble_eq_true rfl, Nat.le_of_ble_eq_true rfl⟩ (by exact Nat.le_of_ble_eq_true rfl) ⟨Nat.zero_le _, Nat.zero_le _⟩ dX9_wordCost_18 rfl ?_
    refine g_i2d dX9_wordCost_21 ?_
    refine g_iload_n 1 dX9_wordCost_22 rfl rfl ?_
    refine g_i2d dX9_wordCost_23 ?_
    refine g_ddiv dX9_wordCost_24 ((cst_div hp h_9).vf) ?_
    refine g_dret rfl dX9_wordCost_25 ⟨Nat.zero_le _, Nat.zero_le _⟩ ?_
    refine ⟨congrArg (fun x => (Sum.inl (some (Value.double x)) : Rs)) ?_, rfl⟩
    unfold cstV
    first | (rw [if_neg h_9]; done) | (rw [if_pos h_9]; rfl)
  · refine g_dconst0 dX9_wordCost_12 ?_
    refine g_dret rfl dX9_wordCost_13 ⟨Nat.zero_le _, Nat.zero_le _⟩ ?_
    refine ⟨congrArg (fun x => (Sum.inl (some (Value.double x)) : Rs)) ?_, rfl⟩
    unfold cstV
    first | (rw [if_neg h_9]; done) | (rw [if_pos h_9]; rfl)
set_option maxRecDepth 100000 in
theorem cn_X9_mix (g : Gp) (cs : Nat × Nat) {m : Mm} {h v : Int64} : Dn g (MX9_mix cs) [.long h, .long v] m (some (.long (mx h v))) m := by
  refine Cn.of pn_X9 (Nat.le_of_ble_eq_true rfl) rfl ?_
  refine g_ldc2 dX9_mix_0 kcX9_331 ?_
  refine g_lload_n 0 dX9_mix_3 rfl rfl ?_
  refine g_lmul dX9_mix_4 ?_
  refine g_lload_n 2 dX9_mix_5 rfl rfl ?_
  refine g_ladd dX9_mix_6 ?_
  refine g_lret rfl dX9_mix_7 ⟨Nat.zero_le _, Nat.zero_le _⟩ ?_
  exact ⟨rfl, rfl⟩
set_option maxRecDepth 100000 in
theorem lp_X9_mixTranslatorsi (g : Gp) (cs : Nat × Nat) {m : Mm} {d B c : Nat} {z : Nat → Int32} (hD : DkT m d) (hR : Rp m B (d + 1) z) (hz : ZOk c z) {p : Nat} (hp : p < 4) {Q : Rs → Mm → Prop} (h0 : Int64) (K : G g (MX9_mixTranslators cs) Q 41 [(6, .int (nI (7))), (3, .long (mxs h0 (fun k => perV z (k / 7) (k % 7)) (7 * p + 7))), (5, .int (nI (p))), (0, .ref (d))] [] (0, 0) m) : ∀ j k : Nat, k + j = 7 → G g (MX9_mixTranslators cs) Q 14 [(6, .int (nI (k))), (3, .long (mxs h0 (fun k => perV z (k / 7) (k % 7)) (7 * p + k))), (5, .int (nI (p))), (0, .ref (d))] [] (0, 0) m := by
  have hz0 := hz.n0.hi
  have hz1 := hz.n1.hi
  intro j
  induction j with
  | zero =>
    intro k hkd
    obtain rfl : k = 7 := hkd
    refine g_iload 6 dX9_mixTranslators_14 rfl ?_
    refine gN_bipush 6 dX9_mixTranslators_16 (by decide) ?_
    refine gN_icmp_gt 41 dX9_mixTranslators_18 (by decide) (by first | omega | exact b01_lt _) (by first | omega | exact b01_lt _) (fun h_18 => ?_) (fun h_18 => ?_)
    · refine g_pick [0, 1, 2, 3] rfl ?_
      exact K
    · exact absurd h_18 (by decide)
  | succ j ih =>
    intro k hkd
    refine g_iload 6 dX9_mixTranslators_14 rfl ?_
    refine gN_bipush 6 dX9_mixTranslators_16 (by decide) ?_
    refine gN_icmp_gt 41 dX9_mixTranslators_18 (by decide) (by first | omega | exact b01_lt _) (by first | omega | exact b01_lt _) (fun h_18 => ?_) (fun h_18 => ?_)
    · exfalso; omega
    · refine g_lload_n 3 dX9_mixTranslators_21 rfl rfl ?_
      refine g_aload_n 0 dX9_mixTranslators_22 rfl rfl ?_
      refine g_iload 5 dX9_mixTranslators_23 rfl ?_
      refine g_iload 6 dX9_mixTranslators_25 rfl ?_
      refine gd_callV _ _ _ _ (cn_X9_translator g (0, 0) hD hR hz hp (w := k) (by omega)) ⟨rfl, rfl⟩ (ok_X9_translator _) mlX9_333 in_X9_translator se_X9_translator 9 0 (hD.t) rfl rfl rfl ⟨Nat.le_of_ble_eq_true rfl, Nat.le_of_ble_eq_true rfl⟩ (by exact Nat.le_of_ble_eq_true rfl) ⟨Nat.zero_le _, Nat.zero_le _⟩ dX9_mixTranslators_27 rfl ?_
      refine g_eI ((fun k => perV z (k / 7) (k % 7)) (7 * p + k)) (by show perV z p k = _; simp only [show (7 * p + k) / 7 = p by omega, show (7 * p + k) % 7 = k by omega]) ?_
      refine g_i2l dX9_mixTranslators_30 ?_
      refine gd_callS _ _ _ _ (cn_X9_mix g (0, 0)) ⟨rfl, rfl⟩ (ok_X9_mix _) mlX9_293 st_X9_mix rfl ⟨Nat.le_of_ble_eq_true rfl, Nat.le_of_ble_eq_true rfl⟩ (by exact Nat.le_of_ble_eq_true rfl) ⟨Nat.zero_le _, Nat.zero_le _⟩ dX9_mixTranslators_31 rfl ?_
      refine g_eJ (mxs h0 (fun k => perV z (k / 7) (k % 7)) (7 * p + (k + 1))) (rfl) ?_
      refine g_lstore_n 3 [(3, .long (mxs h0 (fun k => perV z (k / 7) (k % 7)) (7 * p + (k + 1)))), (6, .int (nI (k))), (5, .int (nI (p))), (0, .ref (d))] dX9_mixTranslators_34 rfl (Nat.le_of_ble_eq_true rfl) rfl ?_
      refine g_iinc 6 (nI (k + 1)) 1 [(6, .int (nI (k + 1))), (3, .long (mxs h0 (fun k => perV z (k / 7) (k % 7)) (7 * p + (k + 1)))), (5, .int (nI (p))), (0, .ref (d))] dX9_mixTranslators_35 rfl (nI_add k 1) (Nat.le_of_ble_eq_true rfl) rfl ?_
      refine g_goto 14 dX9_mixTranslators_38 (by decide) ?_
      refine g_pick [0, 1, 2, 3] rfl ?_
      exact ih (k + 1) (by omega)
set_option maxRecDepth 100000 in
theorem lp_X9_mixTranslatorso (g : Gp) (cs : Nat × Nat) {m : Mm} {d B c : Nat} {z : Nat → Int32} (hD : DkT m d) (hR : Rp m B (d + 1) z) (hz : ZOk c z) {Q : Rs → Mm → Prop} (h0 : Int64) (K : G g (MX9_mixTranslators cs) Q 47 [(5, .int (nI (4))), (3, .long (mxs h0 (fun k => perV z (k / 7) (k % 7)) (7 * 4))), (0, .ref (d))] [] (0, 0) m) : ∀ j k : Nat, k + j = 4 → G g (MX9_mixTranslators cs) Q 5 [(5, .int (nI (k))), (3, .long (mxs h0 (fun k => perV z (k / 7) (k % 7)) (7 * k))), (0, .ref (d))] [] (0, 0) m := by
  have hz0 := hz.n0.hi
  have hz1 := hz.n1.hi
  intro j
  induction j with
  | zero =>
    intro k hkd
    obtain rfl : k = 4 := hkd
    refine g_iload 5 dX9_mixTranslators_5 rfl ?_
    refine gN_iconst 4 dX9_mixTranslators_7 (by decide) ?_
    refine gN_icmp_ge 47 dX9_mixTranslators_8 (by decide) (by first | omega | exact b01_lt _) (by first | omega | exact b01_lt _) (fun h_8 => ?_) (fun h_8 => ?_)
    · refine g_pick [0, 1, 2] rfl ?_
      exact K
    · exact absurd h_8 (by decide)
  | succ j ih =>
    intro k hkd
    refine g_iload 5 dX9_mixTranslators_5 rfl ?_
    refine gN_iconst 4 dX9_mixTranslators_7 (by decide) ?_
    refine gN_icmp_ge 47 dX9_mixTranslators_8 (by decide) (by first | omega | exact b01_lt _) (by first | omega | exact b01_lt _) (fun h_8 => ?_) (fun h_8 => ?_)
    · exfalso; omega
    · refine gN_iconst 0 dX9_mixTranslators_11 (by decide) ?_
      refine g_istore 6 [(6, .int (nI (0))), (5, .int (nI (k))), (3, .long (mxs h0 (fun k => perV z (k / 7) (k % 7)) (7 * k))), (0, .ref (d))] dX9_mixTranslators_12 (Nat.le_of_ble_eq_true rfl) rfl ?_
      refine g_pick [0, 2, 1, 3] rfl ?_
      refine lp_X9_mixTranslatorsi g cs hD hR hz (p := k) (by omega) h0 ?_ 7 0 (by omega)
      refine g_iinc 5 (nI (k + 1)) 2 [(5, .int (nI (k + 1))), (6, .int (nI (7))), (3, .long (mxs h0 (fun k => perV z (k / 7) (k % 7)) (7 * k + 7))), (0, .ref (d))] dX9_mixTranslators_41 rfl (nI_add k 1) (Nat.le_of_ble_eq_true rfl) rfl ?_
      refine g_goto 5 dX9_mixTranslators_44 (by decide) ?_
      refine g_pick [0, 2, 3] rfl ?_
      exact ih (k + 1) (by omega)
set_option maxRecDepth 100000 in
theorem cn_X9_mixTranslators (g : Gp) (cs : Nat × Nat) {m : Mm} {d B c : Nat} {z : Nat → Int32} (hD : DkT m d) (hR : Rp m B (d + 1) z) (hz : ZOk c z) (h : Int64) : Dn g (MX9_mixTranslators cs) [.ref d, .long h] m (some (.long (mxs h (fun k => perV z (k / 7) (k % 7)) 28))) m := by
  refine Cn.of pn_X9 (Nat.le_of_ble_eq_true rfl) rfl ?_
  refine g_lload_n 1 dX9_mixTranslators_0 rfl rfl ?_
  refine g_lstore_n 3 [(3, .long (h)), (0, .ref (d)), (1, .long (h))] dX9_mixTranslators_1 rfl (Nat.le_of_ble_eq_true rfl) rfl ?_
  refine gN_iconst 0 dX9_mixTranslators_2 (by decide) ?_
  refine g_istore 5 [(5, .int (nI (0))), (3, .long (h)), (0, .ref (d)), (1, .long (h))] dX9_mixTranslators_3 (Nat.le_of_ble_eq_true rfl) rfl ?_
  refine g_pick [0, 1, 2] rfl ?_
  refine lp_X9_mixTranslatorso g cs hD hR hz h ?_ 4 0 (Nat.zero_add _)
  refine g_lload_n 3 dX9_mixTranslators_47 rfl rfl ?_
  refine g_lret rfl dX9_mixTranslators_48 ⟨Nat.zero_le _, Nat.zero_le _⟩ ?_
  exact ⟨rfl, rfl⟩
set_option maxRecDepth 100000 in
theorem lp_X9_mixTermsi (g : Gp) (cs : Nat × Nat) {m : Mm} {d B c : Nat} {z : Nat → Int32} (hD : DkT m d) (hR : Rp m B (d + 1) z) (hz : ZOk c z) {p : Nat} (hp : p < 8) {Q : Rs → Mm → Prop} (h0 : Int64) (K : G g (MX9_mixTerms cs) Q 42 [(6, .int (nI (8))), (3, .long (mxs h0 (fun k => terV z (k / 8) (k % 8)) (8 * p + 8))), (5, .int (nI (p))), (0, .ref (d))] [] (0, 0) m) : ∀ j k : Nat, k + j = 8 → G g (MX9_mixTerms cs) Q 15 [(6, .int (nI (k))), (3, .long (mxs h0 (fun k => terV z (k / 8) (k % 8)) (8 * p + k))), (5, .int (nI (p))), (0, .ref (d))] [] (0, 0) m := by
  have hz0 := hz.n0.hi
  have hz1 := hz.n1.hi
  intro j
  induction j with
  | zero =>
    intro k hkd
    obtain rfl : k = 8 := hkd
    refine g_iload 6 dX9_mixTerms_15 rfl ?_
    refine gN_bipush 7 dX9_mixTerms_17 (by decide) ?_
    refine gN_icmp_gt 42 dX9_mixTerms_19 (by decide) (by first | omega | exact b01_lt _) (by first | omega | exact b01_lt _) (fun h_19 => ?_) (fun h_19 => ?_)
    · refine g_pick [0, 1, 2, 3] rfl ?_
      exact K
    · exact absurd h_19 (by decide)
  | succ j ih =>
    intro k hkd
    refine g_iload 6 dX9_mixTerms_15 rfl ?_
    refine gN_bipush 7 dX9_mixTerms_17 (by decide) ?_
    refine gN_icmp_gt 42 dX9_mixTerms_19 (by decide) (by first | omega | exact b01_lt _) (by first | omega | exact b01_lt _) (fun h_19 => ?_) (fun h_19 => ?_)
    · exfalso; omega
    · refine g_lload_n 3 dX9_mixTerms_22 rfl rfl ?_
      refine g_aload_n 0 dX9_mixTerms_23 rfl rfl ?_
      refine g_iload 5 dX9_mixTerms_24 rfl ?_
      refine g_iload 6 dX9_mixTerms_26 rfl ?_
      refine gd_callV _ _ _ _ (cn_X9_term g (0, 0) hD hR hz hp (w := k) (by omega)) ⟨rfl, rfl⟩ (ok_X9_term _) mlX9_336 in_X9_term se_X9_term 9 0 (hD.t) rfl rfl rfl ⟨Nat.le_of_ble_eq_true rfl, Nat.le_of_ble_eq_true rfl⟩ (by exact Nat.le_of_ble_eq_true rfl) ⟨Nat.zero_le _, Nat.zero_le _⟩ dX9_mixTerms_28 rfl ?_
      refine g_eI ((fun k => terV z (k / 8) (k % 8)) (8 * p + k)) (by show terV z p k = _; simp only [show (8 * p + k) / 8 = p by omega, show (8 * p + k) % 8 = k by omega]) ?_
      refine g_i2l dX9_mixTerms_31 ?_
      refine gd_callS _ _ _ _ (cn_X9_mix g (0, 0)) ⟨rfl, rfl⟩ (ok_X9_mix _) mlX9_293 st_X9_mix rfl ⟨Nat.le_of_ble_eq_true rfl, Nat.le_of_ble_eq_true rfl⟩ (by exact Nat.le_of_ble_eq_true rfl) ⟨Nat.zero_le _, Nat.zero_le _⟩ dX9_mixTerms_32 rfl ?_
      refine g_eJ (mxs h0 (fun k => terV z (k / 8) (k % 8)) (8 * p + (k + 1))) (rfl) ?_
      refine g_lstore_n 3 [(3, .long (mxs h0 (fun k => terV z (k / 8) (k % 8)) (8 * p + (k + 1)))), (6, .int (nI (k))), (5, .int (nI (p))), (0, .ref (d))] dX9_mixTerms_35 rfl (Nat.le_of_ble_eq_true rfl) rfl ?_
      refine g_iinc 6 (nI (k + 1)) 1 [(6, .int (nI (k + 1))), (3, .long (mxs h0 (fun k => terV z (k / 8) (k % 8)) (8 * p + (k + 1)))), (5, .int (nI (p))), (0, .ref (d))] dX9_mixTerms_36 rfl (nI_add k 1) (Nat.le_of_ble_eq_true rfl) rfl ?_
      refine g_goto 15 dX9_mixTerms_39 (by decide) ?_
      refine g_pick [0, 1, 2, 3] rfl ?_
      exact ih (k + 1) (by omega)
set_option maxRecDepth 100000 in
theorem lp_X9_mixTermso (g : Gp) (cs : Nat × Nat) {m : Mm} {d B c : Nat} {z : Nat → Int32} (hD : DkT m d) (hR : Rp m B (d + 1) z) (hz : ZOk c z) {Q : Rs → Mm → Prop} (h0 : Int64) (K : G g (MX9_mixTerms cs) Q 48 [(5, .int (nI (8))), (3, .long (mxs h0 (fun k => terV z (k / 8) (k % 8)) (8 * 8))), (0, .ref (d))] [] (0, 0) m) : ∀ j k : Nat, k + j = 8 → G g (MX9_mixTerms cs) Q 5 [(5, .int (nI (k))), (3, .long (mxs h0 (fun k => terV z (k / 8) (k % 8)) (8 * k))), (0, .ref (d))] [] (0, 0) m := by
  have hz0 := hz.n0.hi
  have hz1 := hz.n1.hi
  intro j
  induction j with
  | zero =>
    intro k hkd
    obtain rfl : k = 8 := hkd
    refine g_iload 5 dX9_mixTerms_5 rfl ?_
    refine gN_bipush 8 dX9_mixTerms_7 (by decide) ?_
    refine gN_icmp_ge 48 dX9_mixTerms_9 (by decide) (by first | omega | exact b01_lt _) (by first | omega | exact b01_lt _) (fun h_9 => ?_) (fun h_9 => ?_)
    · refine g_pick [0, 1, 2] rfl ?_
      exact K
    · exact absurd h_9 (by decide)
  | succ j ih =>
    intro k hkd
    refine g_iload 5 dX9_mixTerms_5 rfl ?_
    refine gN_bipush 8 dX9_mixTerms_7 (by decide) ?_
    refine gN_icmp_ge 48 dX9_mixTerms_9 (by decide) (by first | omega | exact b01_lt _) (by first | omega | exact b01_lt _) (fun h_9 => ?_) (fun h_9 => ?_)
    · exfalso; omega
    · refine gN_iconst 0 dX9_mixTerms_12 (by decide) ?_
      refine g_istore 6 [(6, .int (nI (0))), (5, .int (nI (k))), (3, .long (mxs h0 (fun k => terV z (k / 8) (k % 8)) (8 * k))), (0, .ref (d))] dX9_mixTerms_13 (Nat.le_of_ble_eq_true rfl) rfl ?_
      refine g_pick [0, 2, 1, 3] rfl ?_
      refine lp_X9_mixTermsi g cs hD hR hz (p := k) (by omega) h0 ?_ 8 0 (by omega)
      refine g_iinc 5 (nI (k + 1)) 2 [(5, .int (nI (k + 1))), (6, .int (nI (8))), (3, .long (mxs h0 (fun k => terV z (k / 8) (k % 8)) (8 * k + 8))), (0, .ref (d))] dX9_mixTerms_42 rfl (nI_add k 1) (Nat.le_of_ble_eq_true rfl) rfl ?_
      refine g_goto 5 dX9_mixTerms_45 (by decide) ?_
      refine g_pick [0, 2, 3] rfl ?_
      exact ih (k + 1) (by omega)
set_option maxRecDepth 100000 in
theorem cn_X9_mixTerms (g : Gp) (cs : Nat × Nat) {m : Mm} {d B c : Nat} {z : Nat → Int32} (hD : DkT m d) (hR : Rp m B (d + 1) z) (hz : ZOk c z) (h : Int64) : Dn g (MX9_mixTerms cs) [.ref d, .long h] m (some (.long (mxs h (fun k => terV z (k / 8) (k % 8)) 64))) m := by
  refine Cn.of pn_X9 (Nat.le_of_ble_eq_true rfl) rfl ?_
  refine g_lload_n 1 dX9_mixTerms_0 rfl rfl ?_
  refine g_lstore_n 3 [(3, .long (h)), (0, .ref (d)), (1, .long (h))] dX9_mixTerms_1 rfl (Nat.le_of_ble_eq_true rfl) rfl ?_
  refine gN_iconst 0 dX9_mixTerms_2 (by decide) ?_
  refine g_istore 5 [(5, .int (nI (0))), (3, .long (h)), (0, .ref (d)), (1, .long (h))] dX9_mixTerms_3 (Nat.le_of_ble_eq_true rfl) rfl ?_
  refine g_pick [0, 1, 2] rfl ?_
  refine lp_X9_mixTermso g cs hD hR hz h ?_ 8 0 (Nat.zero_add _)
  refine g_lload_n 3 dX9_mixTerms_48 rfl rfl ?_
  refine g_lret rfl dX9_mixTerms_49 ⟨Nat.zero_le _, Nat.zero_le _⟩ ?_
  exact ⟨rfl, rfl⟩
set_option maxRecDepth 100000 in
theorem lp_X9_mixBandsi (g : Gp) (cs : Nat × Nat) {m : Mm} {d B c : Nat} {z : Nat → Int32} (hD : DkT m d) (hR : Rp m B (d + 1) z) (hz : ZOk c z) {p : Nat} (hp : p < 5) {Q : Rs → Mm → Prop} (h0 : Int64) (K : G g (MX9_mixBands cs) Q 40 [(6, .int (nI (3))), (3, .long (mxs h0 (fun k => z (64 + k)) (3 * p + 3))), (5, .int (nI (p))), (0, .ref (d))] [] (0, 0) m) : ∀ j k : Nat, k + j = 3 → G g (MX9_mixBands cs) Q 14 [(6, .int (nI (k))), (3, .long (mxs h0 (fun k => z (64 + k)) (3 * p + k))), (5, .int (nI (p))), (0, .ref (d))] [] (0, 0) m := by
  have hz0 := hz.n0.hi
  have hz1 := hz.n1.hi
  intro j
  induction j with
  | zero =>
    intro k hkd
    obtain rfl : k = 3 := hkd
    refine g_iload 6 dX9_mixBands_14 rfl ?_
    refine gN_iconst 2 dX9_mixBands_16 (by decide) ?_
    refine gN_icmp_gt 40 dX9_mixBands_17 (by decide) (by first | omega | exact b01_lt _) (by first | omega | exact b01_lt _) (fun h_17 => ?_) (fun h_17 => ?_)
    · refine g_pick [0, 1, 2, 3] rfl ?_
      exact K
    · exact absurd h_17 (by decide)
  | succ j ih =>
    intro k hkd
    refine g_iload 6 dX9_mixBands_14 rfl ?_
    refine gN_iconst 2 dX9_mixBands_16 (by decide) ?_
    refine gN_icmp_gt 40 dX9_mixBands_17 (by decide) (by first | omega | exact b01_lt _) (by first | omega | exact b01_lt _) (fun h_17 => ?_) (fun h_17 => ?_)
    · exfalso; omega
    · refine g_lload_n 3 dX9_mixBands_20 rfl rfl ?_
      refine g_aload_n 0 dX9_mixBands_21 rfl rfl ?_
      refine g_iload 5 dX9_mixBands_22 rfl ?_
      refine g_iload 6 dX9_mixBands_24 rfl ?_
      refine gd_callV _ _ _ _ (cn_X9_band g (0, 0) hD hR hz hp (w := k) (by omega)) ⟨rfl, rfl⟩ (ok_X9_band _) mlX9_339 in_X9_band se_X9_band 9 0 (hD.t) rfl rfl rfl ⟨Nat.le_of_ble_eq_true rfl, Nat.le_of_ble_eq_true rfl⟩ (by exact Nat.le_of_ble_eq_true rfl) ⟨Nat.zero_le _, Nat.zero_le _⟩ dX9_mixBands_26 rfl ?_
      refine g_eI ((fun k => z (64 + k)) (3 * p + k)) (by show z (64 + 3 * p + k) = z (64 + (3 * p + k)); rw [Nat.add_assoc]) ?_
      refine g_i2l dX9_mixBands_29 ?_
      refine gd_callS _ _ _ _ (cn_X9_mix g (0, 0)) ⟨rfl, rfl⟩ (ok_X9_mix _) mlX9_293 st_X9_mix rfl ⟨Nat.le_of_ble_eq_true rfl, Nat.le_of_ble_eq_true rfl⟩ (by exact Nat.le_of_ble_eq_true rfl) ⟨Nat.zero_le _, Nat.zero_le _⟩ dX9_mixBands_30 rfl ?_
      refine g_eJ (mxs h0 (fun k => z (64 + k)) (3 * p + (k + 1))) (rfl) ?_
      refine g_lstore_n 3 [(3, .long (mxs h0 (fun k => z (64 + k)) (3 * p + (k + 1)))), (6, .int (nI (k))), (5, .int (nI (p))), (0, .ref (d))] dX9_mixBands_33 rfl (Nat.le_of_ble_eq_true rfl) rfl ?_
      refine g_iinc 6 (nI (k + 1)) 1 [(6, .int (nI (k + 1))), (3, .long (mxs h0 (fun k => z (64 + k)) (3 * p + (k + 1)))), (5, .int (nI (p))), (0, .ref (d))] dX9_mixBands_34 rfl (nI_add k 1) (Nat.le_of_ble_eq_true rfl) rfl ?_
      refine g_goto 14 dX9_mixBands_37 (by decide) ?_
      refine g_pick [0, 1, 2, 3] rfl ?_
      exact ih (k + 1) (by omega)
set_option maxRecDepth 100000 in
theorem lp_X9_mixBandso (g : Gp) (cs : Nat × Nat) {m : Mm} {d B c : Nat} {z : Nat → Int32} (hD : DkT m d) (hR : Rp m B (d + 1) z) (hz : ZOk c z) {Q : Rs → Mm → Prop} (h0 : Int64) (K : G g (MX9_mixBands cs) Q 46 [(5, .int (nI (5))), (3, .long (mxs h0 (fun k => z (64 + k)) (3 * 5))), (0, .ref (d))] [] (0, 0) m) : ∀ j k : Nat, k + j = 5 → G g (MX9_mixBands cs) Q 5 [(5, .int (nI (k))), (3, .long (mxs h0 (fun k => z (64 + k)) (3 * k))), (0, .ref (d))] [] (0, 0) m := by
  have hz0 := hz.n0.hi
  have hz1 := hz.n1.hi
  intro j
  induction j with
  | zero =>
    intro k hkd
    obtain rfl : k = 5 := hkd
    refine g_iload 5 dX9_mixBands_5 rfl ?_
    refine gN_iconst 5 dX9_mixBands_7 (by decide) ?_
    refine gN_icmp_ge 46 dX9_mixBands_8 (by decide) (by first | omega | exact b01_lt _) (by first | omega | exact b01_lt _) (fun h_8 => ?_) (fun h_8 => ?_)
    · refine g_pick [0, 1, 2] rfl ?_
      exact K
    · exact absurd h_8 (by decide)
  | succ j ih =>
    intro k hkd
    refine g_iload 5 dX9_mixBands_5 rfl ?_
    refine gN_iconst 5 dX9_mixBands_7 (by decide) ?_
    refine gN_icmp_ge 46 dX9_mixBands_8 (by decide) (by first | omega | exact b01_lt _) (by first | omega | exact b01_lt _) (fun h_8 => ?_) (fun h_8 => ?_)
    · exfalso; omega
    · refine gN_iconst 0 dX9_mixBands_11 (by decide) ?_
      refine g_istore 6 [(6, .int (nI (0))), (5, .int (nI (k))), (3, .long (mxs h0 (fun k => z (64 + k)) (3 * k))), (0, .ref (d))] dX9_mixBands_12 (Nat.le_of_ble_eq_true rfl) rfl ?_
      refine g_pick [0, 2, 1, 3] rfl ?_
      refine lp_X9_mixBandsi g cs hD hR hz (p := k) (by omega) h0 ?_ 3 0 (by omega)
      refine g_iinc 5 (nI (k + 1)) 2 [(5, .int (nI (k + 1))), (6, .int (nI (3))), (3, .long (mxs h0 (fun k => z (64 + k)) (3 * k + 3))), (0, .ref (d))] dX9_mixBands_40 rfl (nI_add k 1) (Nat.le_of_ble_eq_true rfl) rfl ?_
      refine g_goto 5 dX9_mixBands_43 (by decide) ?_
      refine g_pick [0, 2, 3] rfl ?_
      exact ih (k + 1) (by omega)
set_option maxRecDepth 100000 in
theorem cn_X9_mixBands (g : Gp) (cs : Nat × Nat) {m : Mm} {d B c : Nat} {z : Nat → Int32} (hD : DkT m d) (hR : Rp m B (d + 1) z) (hz : ZOk c z) (h : Int64) : Dn g (MX9_mixBands cs) [.ref d, .long h] m (some (.long (mxs h (fun k => z (64 + k)) 15))) m := by
  refine Cn.of pn_X9 (Nat.le_of_ble_eq_true rfl) rfl ?_
  refine g_lload_n 1 dX9_mixBands_0 rfl rfl ?_
  refine g_lstore_n 3 [(3, .long (h)), (0, .ref (d)), (1, .long (h))] dX9_mixBands_1 rfl (Nat.le_of_ble_eq_true rfl) rfl ?_
  refine gN_iconst 0 dX9_mixBands_2 (by decide) ?_
  refine g_istore 5 [(5, .int (nI (0))), (3, .long (h)), (0, .ref (d)), (1, .long (h))] dX9_mixBands_3 (Nat.le_of_ble_eq_true rfl) rfl ?_
  refine g_pick [0, 1, 2] rfl ?_
  refine lp_X9_mixBandso g cs hD hR hz h ?_ 5 0 (Nat.zero_add _)
  refine g_lload_n 3 dX9_mixBands_46 rfl rfl ?_
  refine g_lret rfl dX9_mixBands_47 ⟨Nat.zero_le _, Nat.zero_le _⟩ ?_
  exact ⟨rfl, rfl⟩
set_option maxRecDepth 100000 in
theorem lp_X9_mixRow (g : Gp) (cs : Nat × Nat) {m : Mm} {q : Nat} {v : Nat → Int32} {n : Nat} (hq : RowT m q v n) {Q : Rs → Mm → Prop} (h0 : Int64) (K : G g (MX9_mixRow cs) Q 44 [(7, .int (nI (n))), (3, .long (mxs h0 (v) (n))), (6, .int (nI (n))), (5, .ref (q + 1)), (2, .ref (q))] [] (0, 0) m) : ∀ j k : Nat, k + j = n → G g (MX9_mixRow cs) Q 16 [(7, .int (nI (k))), (3, .long (mxs h0 (v) (k))), (6, .int (nI (n))), (5, .ref (q + 1)), (2, .ref (q))] [] (0, 0) m := by
  have hn : n ≤ 12 := RowT.n hq
  intro j
  induction j with
  | zero =>
    intro k hkd
    obtain rfl : k = n := hkd
    refine g_iload 7 dX9_mixRow_16 rfl ?_
    refine g_iload 6 dX9_mixRow_18 rfl ?_
    refine gN_icmp_ge 44 dX9_mixRow_20 (by decide) (by first | omega | exact b01_lt _) (by first | omega | exact b01_lt _) (fun h_20 => ?_) (fun h_20 => ?_)
    · refine g_pick [0, 1, 2, 3, 4] rfl ?_
      exact K
    · exfalso; omega
  | succ j ih =>
    intro k hkd
    refine g_iload 7 dX9_mixRow_16 rfl ?_
    refine g_iload 6 dX9_mixRow_18 rfl ?_
    refine gN_icmp_ge 44 dX9_mixRow_20 (by decide) (by first | omega | exact b01_lt _) (by first | omega | exact b01_lt _) (fun h_20 => ?_) (fun h_20 => ?_)
    · exfalso; omega
    · refine g_aload 5 dX9_mixRow_23 rfl ?_
      refine g_iload 7 dX9_mixRow_25 rfl ?_
      refine gN_iald n (hq.t1) (by first | omega | exact b01_lt _) (by first | omega | exact b01_lt _) dX9_mixRow_27 ?_
      refine g_eI (v k) (hq.w (by omega)) ?_
      refine g_istore 8 [(8, .int (v k)), (7, .int (nI (k))), (3, .long (mxs h0 (v) (k))), (6, .int (nI (n))), (5, .ref (q + 1)), (2, .ref (q))] dX9_mixRow_28 (Nat.le_of_ble_eq_true rfl) rfl ?_
      refine g_lload_n 3 dX9_mixRow_30 rfl rfl ?_
      refine g_iload 8 dX9_mixRow_31 rfl ?_
      refine g_i2l dX9_mixRow_33 ?_
      refine gd_callS _ _ _ _ (cn_X9_mix g (0, 0)) ⟨rfl, rfl⟩ (ok_X9_mix _) mlX9_293 st_X9_mix rfl ⟨Nat.le_of_ble_eq_true rfl, Nat.le_of_ble_eq_true rfl⟩ (by exact Nat.le_of_ble_eq_true rfl) ⟨Nat.zero_le _, Nat.zero_le _⟩ dX9_mixRow_34 rfl ?_
      refine g_eJ (mxs h0 (v) ((k + 1))) (rfl) ?_
      refine g_lstore_n 3 [(3, .long (mxs h0 (v) ((k + 1)))), (8, .int (v k)), (7, .int (nI (k))), (6, .int (nI (n))), (5, .ref (q + 1)), (2, .ref (q))] dX9_mixRow_37 rfl (Nat.le_of_ble_eq_true rfl) rfl ?_
      refine g_iinc 7 (nI (k + 1)) 2 [(7, .int (nI (k + 1))), (3, .long (mxs h0 (v) ((k + 1)))), (8, .int (v k)), (6, .int (nI (n))), (5, .ref (q + 1)), (2, .ref (q))] dX9_mixRow_38 rfl (nI_add k 1) (Nat.le_of_ble_eq_true rfl) rfl ?_
      refine g_goto 16 dX9_mixRow_41 (by decide) ?_
      refine g_pick [0, 1, 3, 4, 5] rfl ?_
      exact ih (k + 1) (by omega)
theorem mxs_cg (h : Int64) {f f' : Nat → Int32} : ∀ n, (∀ k, k < n → f k = f' k) → mxs h f n = mxs h f' n := by
  intro n
  induction n with
  | zero => intro _; rfl
  | succ n ih => intro H; show mx (mxs h f n) (f n).toInt64 = mx (mxs h f' n) (f' n).toInt64; rw [ih (fun k hk => H k (by omega)), H n (by omega)]
set_option maxRecDepth 100000 in
theorem cn_X9_mixRow (g : Gp) (cs : Nat × Nat) {m : Mm} {q : Nat} {v : Nat → Int32} {n : Nat} (hq : RowT m q v n) (h : Int64) : Dn g (MX9_mixRow cs) [.long (h), .ref (q)] m (some (.long (mxs h v n))) m := by
  have hn : n ≤ 12 := RowT.n hq
  refine Cn.of pn_X9 (Nat.le_of_ble_eq_true rfl) rfl ?_
  refine g_lload_n 0 dX9_mixRow_0 rfl rfl ?_
  refine g_lstore_n 3 [(3, .long (h)), (0, .long (h)), (2, .ref (q))] dX9_mixRow_1 rfl (Nat.le_of_ble_eq_true rfl) rfl ?_
  refine g_aload_n 2 dX9_mixRow_2 rfl rfl ?_
  refine gN_getR (q + 1) flX9_358 (fun _ _ _ => rfl) 0 (hq.t) (hq.r1) dX9_mixRow_3 ?_
  refine g_astore 5 [(5, .ref (q + 1)), (3, .long (h)), (0, .long (h)), (2, .ref (q))] dX9_mixRow_6 (Nat.le_of_ble_eq_true rfl) rfl ?_
  refine g_aload 5 dX9_mixRow_8 rfl ?_
  refine gN_alen 11 n (hq.t1) (by decide) dX9_mixRow_10 ?_
  refine g_istore 6 [(6, .int (nI (n))), (5, .ref (q + 1)), (3, .long (h)), (0, .long (h)), (2, .ref (q))] dX9_mixRow_11 (Nat.le_of_ble_eq_true rfl) rfl ?_
  refine gN_iconst 0 dX9_mixRow_13 (by decide) ?_
  refine g_istore 7 [(7, .int (nI (0))), (6, .int (nI (n))), (5, .ref (q + 1)), (3, .long (h)), (0, .long (h)), (2, .ref (q))] dX9_mixRow_14 (Nat.le_of_ble_eq_true rfl) rfl ?_
  refine g_pick [0, 3, 1, 2, 5] rfl ?_
  refine lp_X9_mixRow g cs hq h ?_ n 0 (Nat.zero_add _)
  refine g_lload_n 3 dX9_mixRow_44 rfl rfl ?_
  refine g_lret rfl dX9_mixRow_45 ⟨Nat.zero_le _, Nat.zero_le _⟩ ?_
  exact ⟨rfl, rfl⟩
set_option maxRecDepth 100000 in
theorem lp_ks1 (g : Gp) (cs : Nat × Nat) {m : Mm} {d B c : Nat} {z : Nat → Int32} (hD : DkT m d) (hR : Rp m B (d + 1) z) (hz : ZOk c z) (hC : CsT g m) {s : Nat} (hs : s < nv (z 0)) {Q : Rs → Mm → Prop} (h0 : Int64) (K : G g (MX9_mixSegment cs) Q 34 [(6, .int (nI (12))), (4, .long (mxs h0 (fun w => segV z s w) (12))), (3, .int (nI (s))), (0, .ref (d))] [] (0, 0) m) : ∀ j k : Nat, k + j = 12 → G g (MX9_mixSegment cs) Q 6 [(6, .int (nI (k))), (4, .long (mxs h0 (fun w => segV z s w) (k))), (3, .int (nI (s))), (0, .ref (d))] [] (0, 0) m := by
  have hz0 := hz.n0.hi
  have hz1 := hz.n1.hi
  intro j
  induction j with
  | zero =>
    intro k hkd
    obtain rfl : k = 12 := hkd
    refine g_iload 6 dX9_mixSegment_6 rfl ?_
    refine gN_bipush 11 dX9_mixSegment_8 (by decide) ?_
    refine gN_icmp_gt 34 dX9_mixSegment_10 (by decide) (by first | omega | exact b01_lt _) (by first | omega | exact b01_lt _) (fun h_10 => ?_) (fun h_10 => ?_)
    · refine g_pick [0, 1, 2, 3] rfl ?_
      exact K
    · exact absurd h_10 (by decide)
  | succ j ih =>
    intro k hkd
    refine g_iload 6 dX9_mixSegment_6 rfl ?_
    refine gN_bipush 11 dX9_mixSegment_8 (by decide) ?_
    refine gN_icmp_gt 34 dX9_mixSegment_10 (by decide) (by first | omega | exact b01_lt _) (by first | omega | exact b01_lt _) (fun h_10 => ?_) (fun h_10 => ?_)
    · exfalso; omega
    · refine g_lload 4 dX9_mixSegment_13 rfl ?_
      refine g_aload_n 0 dX9_mixSegment_15 rfl rfl ?_
      refine g_iload_n 3 dX9_mixSegment_16 rfl rfl ?_
      refine g_iload 6 dX9_mixSegment_17 rfl ?_
      refine gd_callV _ _ _ _ (cn_X9_segment g (0, 0) hD hR hz hs (w := k) (by omega)) ⟨rfl, rfl⟩ (ok_X9_segment _) mlX9_341 in_X9_segment se_X9_segment 9 0 (hD.t) rfl rfl rfl ⟨Nat.le_of_ble_eq_true rfl, Nat.le_of_ble_eq_true rfl⟩ (by exact Nat.le_of_ble_eq_true rfl) ⟨Nat.zero_le _, Nat.zero_le _⟩ dX9_mixSegment_19 rfl ?_
      refine g_i2l dX9_mixSegment_22 ?_
      refine gd_callS _ _ _ _ (cn_X9_mix g (0, 0)) ⟨rfl, rfl⟩ (ok_X9_mix _) mlX9_293 st_X9_mix rfl ⟨Nat.le_of_ble_eq_true rfl, Nat.le_of_ble_eq_true rfl⟩ (by exact Nat.le_of_ble_eq_true rfl) ⟨Nat.zero_le _, Nat.zero_le _⟩ dX9_mixSegment_23 rfl ?_
      refine g_eJ (mxs h0 (fun w => segV z s w) ((k + 1))) (rfl) ?_
      refine g_lstore 4 [(4, .long (mxs h0 (fun w => segV z s w) ((k + 1)))), (6, .int (nI (k))), (3, .int (nI (s))), (0, .ref (d))] dX9_mixSegment_26 (Nat.le_of_ble_eq_true rfl) rfl ?_
      refine g_iinc 6 (nI (k + 1)) 1 [(6, .int (nI (k + 1))), (4, .long (mxs h0 (fun w => segV z s w) ((k + 1)))), (3, .int (nI (s))), (0, .ref (d))] dX9_mixSegment_28 rfl (nI_add k 1) (Nat.le_of_ble_eq_true rfl) rfl ?_
      refine g_goto 6 dX9_mixSegment_31 (by decide) ?_
      refine g_pick [0, 1, 2, 3] rfl ?_
      exact ih (k + 1) (by omega)
set_option maxRecDepth 100000 in
theorem lp_ks3 (g : Gp) (cs : Nat × Nat) {m : Mm} {d B c : Nat} {z : Nat → Int32} (hD : DkT m d) (hR : Rp m B (d + 1) z) (hz : ZOk c z) (hC : CsT g m) {s : Nat} (hs : s < nv (z 0)) {Q : Rs → Mm → Prop} (h0 : Int64) (K : G g (MX9_mixSegment cs) Q 83 [(6, .int (nI (4))), (4, .long (mxs h0 (fun t => payV z (79 + 22 * s) t (pctV z (79 + 22 * s))) (4))), (3, .int (nI (s))), (0, .ref (d))] [] (0, 0) m) : ∀ j k : Nat, k + j = 4 → G g (MX9_mixSegment cs) Q 56 [(6, .int (nI (k))), (4, .long (mxs h0 (fun t => payV z (79 + 22 * s) t (pctV z (79 + 22 * s))) (k))), (3, .int (nI (s))), (0, .ref (d))] [] (0, 0) m := by
  have hz0 := hz.n0.hi
  have hz1 := hz.n1.hi
  intro j
  induction j with
  | zero =>
    intro k hkd
    obtain rfl : k = 4 := hkd
    refine g_iload 6 dX9_mixSegment_56 rfl ?_
    refine gN_iconst 4 dX9_mixSegment_58 (by decide) ?_
    refine gN_icmp_ge 83 dX9_mixSegment_59 (by decide) (by first | omega | exact b01_lt _) (by first | omega | exact b01_lt _) (fun h_59 => ?_) (fun h_59 => ?_)
    · refine g_pick [0, 1, 2, 3] rfl ?_
      exact K
    · exact absurd h_59 (by decide)
  | succ j ih =>
    intro k hkd
    refine g_iload 6 dX9_mixSegment_56 rfl ?_
    refine gN_iconst 4 dX9_mixSegment_58 (by decide) ?_
    refine gN_icmp_ge 83 dX9_mixSegment_59 (by decide) (by first | omega | exact b01_lt _) (by first | omega | exact b01_lt _) (fun h_59 => ?_) (fun h_59 => ?_)
    · exfalso; omega
    · refine g_lload 4 dX9_mixSegment_62 rfl ?_
      refine g_aload_n 0 dX9_mixSegment_64 rfl rfl ?_
      refine g_iload_n 3 dX9_mixSegment_65 rfl rfl ?_
      refine g_iload 6 dX9_mixSegment_66 rfl ?_
      refine gd_callV _ _ _ _ (cn_X9_ifPaid g (0, 0) hD hR hz hs hC (t := k) (by omega)) ⟨rfl, rfl⟩ (ok_X9_ifPaid _) mlX9_348 in_X9_ifPaid se_X9_ifPaid 9 0 (hD.t) rfl rfl rfl ⟨Nat.le_of_ble_eq_true rfl, Nat.le_of_ble_eq_true rfl⟩ (by exact Nat.le_of_ble_eq_true rfl) ⟨Nat.zero_le _, Nat.zero_le _⟩ dX9_mixSegment_68 rfl ?_
      refine g_i2l dX9_mixSegment_71 ?_
      refine gd_callS _ _ _ _ (cn_X9_mix g (0, 0)) ⟨rfl, rfl⟩ (ok_X9_mix _) mlX9_293 st_X9_mix rfl ⟨Nat.le_of_ble_eq_true rfl, Nat.le_of_ble_eq_true rfl⟩ (by exact Nat.le_of_ble_eq_true rfl) ⟨Nat.zero_le _, Nat.zero_le _⟩ dX9_mixSegment_72 rfl ?_
      refine g_eJ (mxs h0 (fun t => payV z (79 + 22 * s) t (pctV z (79 + 22 * s))) ((k + 1))) (rfl) ?_
      refine g_lstore 4 [(4, .long (mxs h0 (fun t => payV z (79 + 22 * s) t (pctV z (79 + 22 * s))) ((k + 1)))), (6, .int (nI (k))), (3, .int (nI (s))), (0, .ref (d))] dX9_mixSegment_75 (Nat.le_of_ble_eq_true rfl) rfl ?_
      refine g_iinc 6 (nI (k + 1)) 1 [(6, .int (nI (k + 1))), (4, .long (mxs h0 (fun t => payV z (79 + 22 * s) t (pctV z (79 + 22 * s))) ((k + 1)))), (3, .int (nI (s))), (0, .ref (d))] dX9_mixSegment_77 rfl (nI_add k 1) (Nat.le_of_ble_eq_true rfl) rfl ?_
      refine g_goto 56 dX9_mixSegment_80 (by decide) ?_
      refine g_pick [0, 1, 2, 3] rfl ?_
      exact ih (k + 1) (by omega)
set_option maxRecDepth 100000 in
theorem lp_ks4 (g : Gp) (cs : Nat × Nat) {m : Mm} {d B c : Nat} {z : Nat → Int32} (hD : DkT m d) (hR : Rp m B (d + 1) z) (hz : ZOk c z) (hC : CsT g m) {s : Nat} (hs : s < nv (z 0)) {Q : Rs → Mm → Prop} (h0 : Int64) (K : G g (MX9_mixSegment cs) Q 114 [(6, .int (nI (3))), (4, .long (mxs h0 (fun t => comV z (79 + 22 * s) (79 + 22 * 0) t) (3))), (3, .int (nI (s))), (0, .ref (d))] [] (0, 0) m) : ∀ j k : Nat, k + j = 3 → G g (MX9_mixSegment cs) Q 86 [(6, .int (nI (k))), (4, .long (mxs h0 (fun t => comV z (79 + 22 * s) (79 + 22 * 0) t) (k))), (3, .int (nI (s))), (0, .ref (d))] [] (0, 0) m := by
  have hz0 := hz.n0.hi
  have hz1 := hz.n1.hi
  intro j
  induction j with
  | zero =>
    intro k hkd
    obtain rfl : k = 3 := hkd
    refine g_iload 6 dX9_mixSegment_86 rfl ?_
    refine gN_iconst 3 dX9_mixSegment_88 (by decide) ?_
    refine gN_icmp_ge 114 dX9_mixSegment_89 (by decide) (by first | omega | exact b01_lt _) (by first | omega | exact b01_lt _) (fun h_89 => ?_) (fun h_89 => ?_)
    · refine g_pick [0, 1, 2, 3] rfl ?_
      exact K
    · exact absurd h_89 (by decide)
  | succ j ih =>
    intro k hkd
    refine g_iload 6 dX9_mixSegment_86 rfl ?_
    refine gN_iconst 3 dX9_mixSegment_88 (by decide) ?_
    refine gN_icmp_ge 114 dX9_mixSegment_89 (by decide) (by first | omega | exact b01_lt _) (by first | omega | exact b01_lt _) (fun h_89 => ?_) (fun h_89 => ?_)
    · exfalso; omega
    · refine g_lload 4 dX9_mixSegment_92 rfl ?_
      refine g_aload_n 0 dX9_mixSegment_94 rfl rfl ?_
      refine g_iload_n 3 dX9_mixSegment_95 rfl rfl ?_
      refine gN_iconst 0 dX9_mixSegment_96 (by decide) ?_
      refine g_iload 6 dX9_mixSegment_97 rfl ?_
      refine gd_callV _ _ _ _ (cn_X9_common g (0, 0) hD hR hz hs (t := 0) (by omega) (w := k) (by omega)) ⟨rfl, rfl⟩ (ok_X9_common _) mlX9_351 in_X9_common se_X9_common 9 0 (hD.t) rfl rfl rfl ⟨Nat.le_of_ble_eq_true rfl, Nat.le_of_ble_eq_true rfl⟩ (by exact Nat.le_of_ble_eq_true rfl) ⟨Nat.zero_le _, Nat.zero_le _⟩ dX9_mixSegment_99 rfl ?_
      refine g_i2l dX9_mixSegment_102 ?_
      refine gd_callS _ _ _ _ (cn_X9_mix g (0, 0)) ⟨rfl, rfl⟩ (ok_X9_mix _) mlX9_293 st_X9_mix rfl ⟨Nat.le_of_ble_eq_true rfl, Nat.le_of_ble_eq_true rfl⟩ (by exact Nat.le_of_ble_eq_true rfl) ⟨Nat.zero_le _, Nat.zero_le _⟩ dX9_mixSegment_103 rfl ?_
      refine g_eJ (mxs h0 (fun t => comV z (79 + 22 * s) (79 + 22 * 0) t) ((k + 1))) (rfl) ?_
      refine g_lstore 4 [(4, .long (mxs h0 (fun t => comV z (79 + 22 * s) (79 + 22 * 0) t) ((k + 1)))), (6, .int (nI (k))), (3, .int (nI (s))), (0, .ref (d))] dX9_mixSegment_106 (Nat.le_of_ble_eq_true rfl) rfl ?_
      refine g_iinc 6 (nI (k + 1)) 1 [(6, .int (nI (k + 1))), (4, .long (mxs h0 (fun t => comV z (79 + 22 * s) (79 + 22 * 0) t) ((k + 1)))), (3, .int (nI (s))), (0, .ref (d))] dX9_mixSegment_108 rfl (nI_add k 1) (Nat.le_of_ble_eq_true rfl) rfl ?_
      refine g_goto 86 dX9_mixSegment_111 (by decide) ?_
      refine g_pick [0, 1, 2, 3] rfl ?_
      exact ih (k + 1) (by omega)
set_option maxRecDepth 100000 in
theorem cn_X9_mixSegment (g : Gp) (cs : Nat × Nat) {m : Mm} {d B c : Nat} {z : Nat → Int32} (hD : DkT m d) (hR : Rp m B (d + 1) z) (hz : ZOk c z) (hC : CsT g m) {s : Nat} (hs : s < nv (z 0)) (h : Int64) : Dn g (MX9_mixSegment cs) [.ref (d), .long (h), .int (nI (s))] m (some (.long (msV z h s))) m := by
  have hz0 := hz.n0.hi
  have hz1 := hz.n1.hi
  obtain ⟨q, hq1, hqa⟩ := hR.SR (s := s) hs
  have hq := hqa.2.2
  refine Cn.of pn_X9 (Nat.le_of_ble_eq_true rfl) rfl ?_
  refine g_lload_n 1 dX9_mixSegment_0 rfl rfl ?_
  refine g_lstore 4 [(4, .long (h)), (0, .ref (d)), (1, .long (h)), (3, .int (nI (s)))] dX9_mixSegment_1 (Nat.le_of_ble_eq_true rfl) rfl ?_
  refine gN_iconst 0 dX9_mixSegment_3 (by decide) ?_
  refine g_istore 6 [(6, .int (nI (0))), (4, .long (h)), (0, .ref (d)), (1, .long (h)), (3, .int (nI (s)))] dX9_mixSegment_4 (Nat.le_of_ble_eq_true rfl) rfl ?_
  refine g_pick [0, 1, 4, 2] rfl ?_
  refine lp_ks1 g cs hD hR hz hC hs h ?_ 12 0 (Nat.zero_add _)
  refine g_lload 4 dX9_mixSegment_34 rfl ?_
  refine g_aload_n 0 dX9_mixSegment_36 rfl rfl ?_
  refine gN_getR (d + 1) flX9_10 (fun _ _ _ => rfl) 0 (hD.t) (hD.r0) dX9_mixSegment_37 ?_
  refine gN_getR (d + 1 + 5) flX9_71 (fun _ _ _ => rfl) 0 (hD.s.t) (hD.s.r4) dX9_mixSegment_40 ?_
  refine g_iload_n 3 dX9_mixSegment_43 rfl rfl ?_
  refine gN_aald 14 10 (d + 1 + 37 + s) (hD.s.t5) (by decide) (by first | omega | exact b01_lt _) (by first | omega | exact b01_lt _) (hD.s.rS (by omega)) dX9_mixSegment_44 ?_
  refine gN_getR (q) flX9_98 (fun _ _ _ => rfl) 0 (hD.s.tS (by omega)) (hq1) dX9_mixSegment_45 ?_
  refine gd_callS _ _ _ _ (cn_X9_mixRow g (0, 0) hq _) ⟨rfl, rfl⟩ (ok_X9_mixRow _) mlX9_344 st_X9_mixRow rfl ⟨Nat.le_of_ble_eq_true rfl, Nat.le_of_ble_eq_true rfl⟩ (by exact Nat.le_of_ble_eq_true rfl) ⟨Nat.zero_le _, Nat.zero_le _⟩ dX9_mixSegment_48 rfl ?_
  refine g_eJ (mxs (mxs h (fun w => segV z s w) 12) (fun k => wrdV z (79 + 22 * s) k) (nv (z (79 + 22 * s)))) (mxs_cg _ _ (fun k hk => (if_pos hk).symm)) ?_
  refine g_lstore 4 [(4, .long (mxs (mxs h (fun w => segV z s w) 12) (fun k => wrdV z (79 + 22 * s) k) (nv (z (79 + 22 * s))))), (6, .int (nI (12))), (3, .int (nI (s))), (0, .ref (d))] dX9_mixSegment_51 (Nat.le_of_ble_eq_true rfl) rfl ?_
  refine gN_iconst 0 dX9_mixSegment_53 (by decide) ?_
  refine g_istore 6 [(6, .int (nI (0))), (4, .long (mxs (mxs h (fun w => segV z s w) 12) (fun k => wrdV z (79 + 22 * s) k) (nv (z (79 + 22 * s))))), (3, .int (nI (s))), (0, .ref (d))] dX9_mixSegment_54 (Nat.le_of_ble_eq_true rfl) rfl ?_
  refine g_pick [0, 1, 2, 3] rfl ?_
  refine lp_ks3 g cs hD hR hz hC hs (mxs (mxs h (fun w => segV z s w) 12) (fun k => wrdV z (79 + 22 * s) k) (nv (z (79 + 22 * s)))) ?_ 4 0 (Nat.zero_add _)
  refine gN_iconst 0 dX9_mixSegment_83 (by decide) ?_
  refine g_istore 6 [(6, .int (nI (0))), (4, .long (mxs (mxs (mxs h (fun w => segV z s w) 12) (fun k => wrdV z (79 + 22 * s) k) (nv (z (79 + 22 * s)))) (fun t => payV z (79 + 22 * s) t (pctV z (79 + 22 * s))) 4)), (3, .int (nI (s))), (0, .ref (d))] dX9_mixSegment_84 (Nat.le_of_ble_eq_true rfl) rfl ?_
  refine g_pick [0, 1, 2, 3] rfl ?_
  refine lp_ks4 g cs hD hR hz hC hs (mxs (mxs (mxs h (fun w => segV z s w) 12) (fun k => wrdV z (79 + 22 * s) k) (nv (z (79 + 22 * s)))) (fun t => payV z (79 + 22 * s) t (pctV z (79 + 22 * s))) 4) ?_ 3 0 (Nat.zero_add _)
  refine g_lload 4 dX9_mixSegment_114 rfl ?_
  refine g_lret rfl dX9_mixSegment_116 ⟨Nat.zero_le _, Nat.zero_le _⟩ ?_
  exact ⟨rfl, rfl⟩
set_option maxRecDepth 100000 in
theorem lp_km2 (g : Gp) (cs : Nat × Nat) {m : Mm} {d B c : Nat} {z : Nat → Int32} (hD : DkT m d) (hR : Rp m B (d + 1) z) (hz : ZOk c z) (hC : CsT g m) (h0n : 0 < nv (z 0)) {r : Nat} (hr : r < nv (z 1)) {Q : Rs → Mm → Prop} (h0 : Int64) (K : G g (MX9_mixRemembered cs) Q 49 [(6, .int (nI (3))), (4, .long (mxs h0 (fun w => nearV z (79 + 22 * 0) r w) (3))), (3, .int (nI (r))), (0, .ref (d))] [] (0, 0) m) : ∀ j k : Nat, k + j = 3 → G g (MX9_mixRemembered cs) Q 21 [(6, .int (nI (k))), (4, .long (mxs h0 (fun w => nearV z (79 + 22 * 0) r w) (k))), (3, .int (nI (r))), (0, .ref (d))] [] (0, 0) m := by
  have hz0 := hz.n0.hi
  have hz1 := hz.n1.hi
  intro j
  induction j with
  | zero =>
    intro k hkd
    obtain rfl : k = 3 := hkd
    refine g_iload 6 dX9_mixRemembered_21 rfl ?_
    refine gN_iconst 2 dX9_mixRemembered_23 (by decide) ?_
    refine gN_icmp_gt 49 dX9_mixRemembered_24 (by decide) (by first | omega | exact b01_lt _) (by first | omega | exact b01_lt _) (fun h_24 => ?_) (fun h_24 => ?_)
    · refine g_pick [0, 1, 2, 3] rfl ?_
      exact K
    · exact absurd h_24 (by decide)
  | succ j ih =>
    intro k hkd
    refine g_iload 6 dX9_mixRemembered_21 rfl ?_
    refine gN_iconst 2 dX9_mixRemembered_23 (by decide) ?_
    refine gN_icmp_gt 49 dX9_mixRemembered_24 (by decide) (by first | omega | exact b01_lt _) (by first | omega | exact b01_lt _) (fun h_24 => ?_) (fun h_24 => ?_)
    · exfalso; omega
    · refine g_lload 4 dX9_mixRemembered_27 rfl ?_
      refine g_aload_n 0 dX9_mixRemembered_29 rfl rfl ?_
      refine gN_iconst 0 dX9_mixRemembered_30 (by decide) ?_
      refine g_iload_n 3 dX9_mixRemembered_31 rfl rfl ?_
      refine g_iload 6 dX9_mixRemembered_32 rfl ?_
      refine gd_callV _ _ _ _ (cn_X9_near g (0, 0) hD hR hz (s := 0) h0n hr (w := k) (by omega)) ⟨rfl, rfl⟩ (ok_X9_near _) mlX9_355 in_X9_near se_X9_near 9 0 (hD.t) rfl rfl rfl ⟨Nat.le_of_ble_eq_true rfl, Nat.le_of_ble_eq_true rfl⟩ (by exact Nat.le_of_ble_eq_true rfl) ⟨Nat.zero_le _, Nat.zero_le _⟩ dX9_mixRemembered_34 rfl ?_
      refine g_i2l dX9_mixRemembered_37 ?_
      refine gd_callS _ _ _ _ (cn_X9_mix g (0, 0)) ⟨rfl, rfl⟩ (ok_X9_mix _) mlX9_293 st_X9_mix rfl ⟨Nat.le_of_ble_eq_true rfl, Nat.le_of_ble_eq_true rfl⟩ (by exact Nat.le_of_ble_eq_true rfl) ⟨Nat.zero_le _, Nat.zero_le _⟩ dX9_mixRemembered_38 rfl ?_
      refine g_eJ (mxs h0 (fun w => nearV z (79 + 22 * 0) r w) ((k + 1))) (rfl) ?_
      refine g_lstore 4 [(4, .long (mxs h0 (fun w => nearV z (79 + 22 * 0) r w) ((k + 1)))), (6, .int (nI (k))), (3, .int (nI (r))), (0, .ref (d))] dX9_mixRemembered_41 (Nat.le_of_ble_eq_true rfl) rfl ?_
      refine g_iinc 6 (nI (k + 1)) 1 [(6, .int (nI (k + 1))), (4, .long (mxs h0 (fun w => nearV z (79 + 22 * 0) r w) ((k + 1)))), (3, .int (nI (r))), (0, .ref (d))] dX9_mixRemembered_43 rfl (nI_add k 1) (Nat.le_of_ble_eq_true rfl) rfl ?_
      refine g_goto 21 dX9_mixRemembered_46 (by decide) ?_
      refine g_pick [0, 1, 2, 3] rfl ?_
      exact ih (k + 1) (by omega)
set_option maxRecDepth 100000 in
theorem cn_X9_mixRemembered (g : Gp) (cs : Nat × Nat) {m : Mm} {d B c : Nat} {z : Nat → Int32} (hD : DkT m d) (hR : Rp m B (d + 1) z) (hz : ZOk c z) (hC : CsT g m) (h0n : 0 < nv (z 0)) {r : Nat} (hr : r < nv (z 1)) (h : Int64) : Dn g (MX9_mixRemembered cs) [.ref (d), .long (h), .int (nI (r))] m (some (.long (mrV z h r))) m := by
  have hz0 := hz.n0.hi
  have hz1 := hz.n1.hi
  obtain ⟨q, hq1, hqa⟩ := hR.M (r := r) hr
  have hq := hqa.2.2
  refine Cn.of pn_X9 (Nat.le_of_ble_eq_true rfl) rfl ?_
  refine g_lload_n 1 dX9_mixRemembered_0 rfl rfl ?_
  refine g_aload_n 0 dX9_mixRemembered_1 rfl rfl ?_
  refine gN_getR (d + 1) flX9_10 (fun _ _ _ => rfl) 0 (hD.t) (hD.r0) dX9_mixRemembered_2 ?_
  refine gN_getR (d + 1 + 10) flX9_176 (fun _ _ _ => rfl) 0 (hD.s.t) (hD.s.r5) dX9_mixRemembered_5 ?_
  refine gN_getR (d + 1 + 11) flX9_208 (fun _ _ _ => rfl) 0 (hD.s.t10) (hD.s.r10) dX9_mixRemembered_8 ?_
  refine g_iload_n 3 dX9_mixRemembered_11 rfl rfl ?_
  refine gN_aald 13 30 (q) (hD.s.t11) (by decide) (by first | omega | exact b01_lt _) (by first | omega | exact b01_lt _) (hq1) dX9_mixRemembered_12 ?_
  refine gd_callS _ _ _ _ (cn_X9_mixRow g (0, 0) hq _) ⟨rfl, rfl⟩ (ok_X9_mixRow _) mlX9_344 st_X9_mixRow rfl ⟨Nat.le_of_ble_eq_true rfl, Nat.le_of_ble_eq_true rfl⟩ (by exact Nat.le_of_ble_eq_true rfl) ⟨Nat.zero_le _, Nat.zero_le _⟩ dX9_mixRemembered_13 rfl ?_
  refine g_eJ (mxs h (fun k => z (299 + 13 * r + 1 + k)) (nv (z (299 + 13 * r)))) (rfl) ?_
  refine g_lstore 4 [(4, .long (mxs h (fun k => z (299 + 13 * r + 1 + k)) (nv (z (299 + 13 * r))))), (0, .ref (d)), (1, .long (h)), (3, .int (nI (r)))] dX9_mixRemembered_16 (Nat.le_of_ble_eq_true rfl) rfl ?_
  refine gN_iconst 0 dX9_mixRemembered_18 (by decide) ?_
  refine g_istore 6 [(6, .int (nI (0))), (4, .long (mxs h (fun k => z (299 + 13 * r + 1 + k)) (nv (z (299 + 13 * r))))), (0, .ref (d)), (1, .long (h)), (3, .int (nI (r)))] dX9_mixRemembered_19 (Nat.le_of_ble_eq_true rfl) rfl ?_
  refine g_pick [0, 1, 4, 2] rfl ?_
  refine lp_km2 g cs hD hR hz hC h0n hr (mxs h (fun k => z (299 + 13 * r + 1 + k)) (nv (z (299 + 13 * r)))) ?_ 3 0 (Nat.zero_add _)
  refine g_lload 4 dX9_mixRemembered_49 rfl ?_
  refine g_lret rfl dX9_mixRemembered_51 ⟨Nat.zero_le _, Nat.zero_le _⟩ ?_
  exact ⟨rfl, rfl⟩
set_option maxRecDepth 100000 in
theorem lp_X9_mixBuffer (g : Gp) (cs : Nat × Nat) {m : Mm} {d kb : Nat} {f : Nat → Int32} (hD : DkT m d) (hl : im m (d + 332) 1 = nI kb) (hk6 : kb ≤ 60) (hf : ∀ e, e < kb → im m (d + 333) e = f e) {Q : Rs → Mm → Prop} (h0 : Int64) (K : G g (MX9_mixBuffer cs) Q 50 [(5, .int (nI (kb))), (3, .long (mxs h0 (f) (kb))), (0, .ref (d))] [] (0, 0) m) : ∀ j k : Nat, k + j = kb → G g (MX9_mixBuffer cs) Q 16 [(5, .int (nI (k))), (3, .long (mxs h0 (f) (k))), (0, .ref (d))] [] (0, 0) m := by
  intro j
  induction j with
  | zero =>
    intro k hkd
    obtain rfl : kb = k := hkd.symm
    refine g_iload 5 dX9_mixBuffer_16 rfl ?_
    refine g_aload_n 0 dX9_mixBuffer_18 rfl rfl ?_
    refine gN_getR (d + 332) flX9_26 (fun _ _ _ => rfl) 0 (hD.t) (hD.r2) dX9_mixBuffer_19 ?_
    refine gN_getI flX9_140 rfl 0 (hD.tb) dX9_mixBuffer_22 ?_
    refine g_ei (nI (kb)) (hl) ?_
    refine gN_icmp_ge 50 dX9_mixBuffer_25 (by decide) (by first | omega | exact b01_lt _) (by first | omega | exact b01_lt _) (fun h_25 => ?_) (fun h_25 => ?_)
    · refine g_pick [0, 1, 2] rfl ?_
      exact K
    · exfalso; omega
  | succ j ih =>
    intro k hkd
    refine g_iload 5 dX9_mixBuffer_16 rfl ?_
    refine g_aload_n 0 dX9_mixBuffer_18 rfl rfl ?_
    refine gN_getR (d + 332) flX9_26 (fun _ _ _ => rfl) 0 (hD.t) (hD.r2) dX9_mixBuffer_19 ?_
    refine gN_getI flX9_140 rfl 0 (hD.tb) dX9_mixBuffer_22 ?_
    refine g_ei (nI (kb)) (hl) ?_
    refine gN_icmp_ge 50 dX9_mixBuffer_25 (by decide) (by first | omega | exact b01_lt _) (by first | omega | exact b01_lt _) (fun h_25 => ?_) (fun h_25 => ?_)
    · exfalso; omega
    · refine g_lload_n 3 dX9_mixBuffer_28 rfl rfl ?_
      refine g_aload_n 0 dX9_mixBuffer_29 rfl rfl ?_
      refine gN_getR (d + 332) flX9_26 (fun _ _ _ => rfl) 0 (hD.t) (hD.r2) dX9_mixBuffer_30 ?_
      refine gN_getR (d + 333) flX9_141 (fun _ _ _ => rfl) 0 (hD.tb) (hD.rb) dX9_mixBuffer_33 ?_
      refine g_iload 5 dX9_mixBuffer_36 rfl ?_
      refine gN_iald 60 (hD.tc) (by first | omega | exact b01_lt _) (by first | omega | exact b01_lt _) dX9_mixBuffer_38 ?_
      refine g_eI (f k) (hf _ (by omega)) ?_
      refine g_i2l dX9_mixBuffer_39 ?_
      refine gd_callS _ _ _ _ (cn_X9_mix g (0, 0)) ⟨rfl, rfl⟩ (ok_X9_mix _) mlX9_293 st_X9_mix rfl ⟨Nat.le_of_ble_eq_true rfl, Nat.le_of_ble_eq_true rfl⟩ (by exact Nat.le_of_ble_eq_true rfl) ⟨Nat.zero_le _, Nat.zero_le _⟩ dX9_mixBuffer_40 rfl ?_
      refine g_eJ (mxs h0 (f) ((k + 1))) (rfl) ?_
      refine g_lstore_n 3 [(3, .long (mxs h0 (f) ((k + 1)))), (5, .int (nI (k))), (0, .ref (d))] dX9_mixBuffer_43 rfl (Nat.le_of_ble_eq_true rfl) rfl ?_
      refine g_iinc 5 (nI (k + 1)) 1 [(5, .int (nI (k + 1))), (3, .long (mxs h0 (f) ((k + 1)))), (0, .ref (d))] dX9_mixBuffer_44 rfl (nI_add k 1) (Nat.le_of_ble_eq_true rfl) rfl ?_
      refine g_goto 16 dX9_mixBuffer_47 (by decide) ?_
      refine g_pick [0, 1, 2] rfl ?_
      exact ih (k + 1) (by omega)
set_option maxRecDepth 100000 in
theorem cn_X9_mixBuffer (g : Gp) (cs : Nat × Nat) {m : Mm} {d kb : Nat} {f : Nat → Int32} (hD : DkT m d) (hl : im m (d + 332) 1 = nI kb) (hk6 : kb ≤ 60) (hf : ∀ e, e < kb → im m (d + 333) e = f e) (h : Int64) : Dn g (MX9_mixBuffer cs) [.ref (d), .long (h)] m (some (.long (mxs (mx h (nI kb).toInt64) f kb))) m := by
  refine Cn.of pn_X9 (Nat.le_of_ble_eq_true rfl) rfl ?_
  refine g_lload_n 1 dX9_mixBuffer_0 rfl rfl ?_
  refine g_aload_n 0 dX9_mixBuffer_1 rfl rfl ?_
  refine gN_getR (d + 332) flX9_26 (fun _ _ _ => rfl) 0 (hD.t) (hD.r2) dX9_mixBuffer_2 ?_
  refine gN_getI flX9_140 rfl 0 (hD.tb) dX9_mixBuffer_5 ?_
  refine g_ei (nI (kb)) (hl) ?_
  refine g_i2l dX9_mixBuffer_8 ?_
  refine gd_callS _ _ _ _ (cn_X9_mix g (0, 0)) ⟨rfl, rfl⟩ (ok_X9_mix _) mlX9_293 st_X9_mix rfl ⟨Nat.le_of_ble_eq_true rfl, Nat.le_of_ble_eq_true rfl⟩ (by exact Nat.le_of_ble_eq_true rfl) ⟨Nat.zero_le _, Nat.zero_le _⟩ dX9_mixBuffer_9 rfl ?_
  refine g_eJ (mx h (nI kb).toInt64) (rfl) ?_
  refine g_lstore_n 3 [(3, .long (mx h (nI kb).toInt64)), (0, .ref (d)), (1, .long (h))] dX9_mixBuffer_12 rfl (Nat.le_of_ble_eq_true rfl) rfl ?_
  refine gN_iconst 0 dX9_mixBuffer_13 (by decide) ?_
  refine g_istore 5 [(5, .int (nI (0))), (3, .long (mx h (nI kb).toInt64)), (0, .ref (d)), (1, .long (h))] dX9_mixBuffer_14 (Nat.le_of_ble_eq_true rfl) rfl ?_
  refine g_pick [0, 1, 2] rfl ?_
  refine lp_X9_mixBuffer g cs hD hl hk6 hf (mx h (nI kb).toInt64) ?_ kb 0 (Nat.zero_add _)
  refine g_lload_n 3 dX9_mixBuffer_50 rfl rfl ?_
  refine g_lret rfl dX9_mixBuffer_51 ⟨Nat.zero_le _, Nat.zero_le _⟩ ?_
  exact ⟨rfl, rfl⟩
set_option maxRecDepth 100000 in
theorem lp_kd1 (g : Gp) (cs : Nat × Nat) {m : Mm} {d B c : Nat} {z : Nat → Int32} (hD : DkT m d) (hR : Rp m B (d + 1) z) (hz : ZOk c z) (hC : CsT g m) {k9 kb : Nat} {f : Nat → Int32} (hk : im m (d + 48) 2 = nI k9) (hl : im m (d + 332) 1 = nI kb) (hk6 : kb ≤ 60) (hf : ∀ e, e < kb → im m (d + 333) e = f e) (hp : PplOk z) (hm0 : 0 < nv (z 1) → 0 < nv (z 0)) {Q : Rs → Mm → Prop} (h0 : Int64) (K : G g (MX9_digest cs) Q 29 [(3, .int (nI (12))), (1, .long (mxs h0 (fun w => cntV z (nI k9) w) (12))), (0, .ref (d))] [] (0, 0) m) : ∀ j k : Nat, k + j = 12 → G g (MX9_digest cs) Q 6 [(3, .int (nI (k))), (1, .long (mxs h0 (fun w => cntV z (nI k9) w) (k))), (0, .ref (d))] [] (0, 0) m := by
  have hz0 := hz.n0.hi
  have hz1 := hz.n1.hi
  intro j
  induction j with
  | zero =>
    intro k hkd
    obtain rfl : k = 12 := hkd
    refine g_iload_n 3 dX9_digest_6 rfl rfl ?_
    refine gN_bipush 11 dX9_digest_7 (by decide) ?_
    refine gN_icmp_gt 29 dX9_digest_9 (by decide) (by first | omega | exact b01_lt _) (by first | omega | exact b01_lt _) (fun h_9 => ?_) (fun h_9 => ?_)
    · refine g_pick [0, 1, 2] rfl ?_
      exact K
    · exact absurd h_9 (by decide)
  | succ j ih =>
    intro k hkd
    refine g_iload_n 3 dX9_digest_6 rfl rfl ?_
    refine gN_bipush 11 dX9_digest_7 (by decide) ?_
    refine gN_icmp_gt 29 dX9_digest_9 (by decide) (by first | omega | exact b01_lt _) (by first | omega | exact b01_lt _) (fun h_9 => ?_) (fun h_9 => ?_)
    · exfalso; omega
    · refine g_lload_n 1 dX9_digest_12 rfl rfl ?_
      refine g_aload_n 0 dX9_digest_13 rfl rfl ?_
      refine g_iload_n 3 dX9_digest_14 rfl rfl ?_
      refine gd_callV _ _ _ _ (cn_X9_count g (0, 0) hD hR hz hk (w := k) (by omega)) ⟨rfl, rfl⟩ (ok_X9_count _) mlX9_290 in_X9_count se_X9_count 9 0 (hD.t) rfl rfl rfl ⟨Nat.le_of_ble_eq_true rfl, Nat.le_of_ble_eq_true rfl⟩ (by exact Nat.le_of_ble_eq_true rfl) ⟨Nat.zero_le _, Nat.zero_le _⟩ dX9_digest_15 rfl ?_
      refine g_i2l dX9_digest_18 ?_
      refine gd_callS _ _ _ _ (cn_X9_mix g (0, 0)) ⟨rfl, rfl⟩ (ok_X9_mix _) mlX9_293 st_X9_mix rfl ⟨Nat.le_of_ble_eq_true rfl, Nat.le_of_ble_eq_true rfl⟩ (by exact Nat.le_of_ble_eq_true rfl) ⟨Nat.zero_le _, Nat.zero_le _⟩ dX9_digest_19 rfl ?_
      refine g_eJ (mxs h0 (fun w => cntV z (nI k9) w) ((k + 1))) (rfl) ?_
      refine g_lstore_n 1 [(1, .long (mxs h0 (fun w => cntV z (nI k9) w) ((k + 1)))), (3, .int (nI (k))), (0, .ref (d))] dX9_digest_22 rfl (Nat.le_of_ble_eq_true rfl) rfl ?_
      refine g_iinc 3 (nI (k + 1)) 1 [(3, .int (nI (k + 1))), (1, .long (mxs h0 (fun w => cntV z (nI k9) w) ((k + 1)))), (0, .ref (d))] dX9_digest_23 rfl (nI_add k 1) (Nat.le_of_ble_eq_true rfl) rfl ?_
      refine g_goto 6 dX9_digest_26 (by decide) ?_
      refine g_pick [0, 1, 2] rfl ?_
      exact ih (k + 1) (by omega)
set_option maxRecDepth 100000 in
theorem lp_kd2 (g : Gp) (cs : Nat × Nat) {m : Mm} {d B c : Nat} {z : Nat → Int32} (hD : DkT m d) (hR : Rp m B (d + 1) z) (hz : ZOk c z) (hC : CsT g m) {k9 kb : Nat} {f : Nat → Int32} (hk : im m (d + 48) 2 = nI k9) (hl : im m (d + 332) 1 = nI kb) (hk6 : kb ≤ 60) (hf : ∀ e, e < kb → im m (d + 333) e = f e) (hp : PplOk z) (hm0 : 0 < nv (z 1) → 0 < nv (z 0)) {Q : Rs → Mm → Prop} (h0 : Int64) (K : G g (MX9_digest cs) Q 53 [(3, .int (nI (2))), (1, .long (mxs h0 (fun k => z (2 + k)) (2))), (0, .ref (d))] [] (0, 0) m) : ∀ j k : Nat, k + j = 2 → G g (MX9_digest cs) Q 31 [(3, .int (nI (k))), (1, .long (mxs h0 (fun k => z (2 + k)) (k))), (0, .ref (d))] [] (0, 0) m := by
  have hz0 := hz.n0.hi
  have hz1 := hz.n1.hi
  intro j
  induction j with
  | zero =>
    intro k hkd
    obtain rfl : k = 2 := hkd
    refine g_iload_n 3 dX9_digest_31 rfl rfl ?_
    refine gN_iconst 2 dX9_digest_32 (by decide) ?_
    refine gN_icmp_ge 53 dX9_digest_33 (by decide) (by first | omega | exact b01_lt _) (by first | omega | exact b01_lt _) (fun h_33 => ?_) (fun h_33 => ?_)
    · refine g_pick [0, 1, 2] rfl ?_
      exact K
    · exact absurd h_33 (by decide)
  | succ j ih =>
    intro k hkd
    refine g_iload_n 3 dX9_digest_31 rfl rfl ?_
    refine gN_iconst 2 dX9_digest_32 (by decide) ?_
    refine gN_icmp_ge 53 dX9_digest_33 (by decide) (by first | omega | exact b01_lt _) (by first | omega | exact b01_lt _) (fun h_33 => ?_) (fun h_33 => ?_)
    · exfalso; omega
    · refine g_lload_n 1 dX9_digest_36 rfl rfl ?_
      refine g_aload_n 0 dX9_digest_37 rfl rfl ?_
      refine g_iload_n 3 dX9_digest_38 rfl rfl ?_
      refine gd_callV _ _ _ _ (cn_X9_setting g (0, 0) hD hR hz (w := k) (by omega)) ⟨rfl, rfl⟩ (ok_X9_setting _) mlX9_297 in_X9_setting se_X9_setting 9 0 (hD.t) rfl rfl rfl ⟨Nat.le_of_ble_eq_true rfl, Nat.le_of_ble_eq_true rfl⟩ (by exact Nat.le_of_ble_eq_true rfl) ⟨Nat.zero_le _, Nat.zero_le _⟩ dX9_digest_39 rfl ?_
      refine g_i2l dX9_digest_42 ?_
      refine gd_callS _ _ _ _ (cn_X9_mix g (0, 0)) ⟨rfl, rfl⟩ (ok_X9_mix _) mlX9_293 st_X9_mix rfl ⟨Nat.le_of_ble_eq_true rfl, Nat.le_of_ble_eq_true rfl⟩ (by exact Nat.le_of_ble_eq_true rfl) ⟨Nat.zero_le _, Nat.zero_le _⟩ dX9_digest_43 rfl ?_
      refine g_eJ (mxs h0 (fun k => z (2 + k)) ((k + 1))) (rfl) ?_
      refine g_lstore_n 1 [(1, .long (mxs h0 (fun k => z (2 + k)) ((k + 1)))), (3, .int (nI (k))), (0, .ref (d))] dX9_digest_46 rfl (Nat.le_of_ble_eq_true rfl) rfl ?_
      refine g_iinc 3 (nI (k + 1)) 1 [(3, .int (nI (k + 1))), (1, .long (mxs h0 (fun k => z (2 + k)) ((k + 1)))), (0, .ref (d))] dX9_digest_47 rfl (nI_add k 1) (Nat.le_of_ble_eq_true rfl) rfl ?_
      refine g_goto 31 dX9_digest_50 (by decide) ?_
      refine g_pick [0, 1, 2] rfl ?_
      exact ih (k + 1) (by omega)
set_option maxRecDepth 100000 in
theorem lp_kd3 (g : Gp) (cs : Nat × Nat) {m : Mm} {d B c : Nat} {z : Nat → Int32} (hD : DkT m d) (hR : Rp m B (d + 1) z) (hz : ZOk c z) (hC : CsT g m) {k9 kb : Nat} {f : Nat → Int32} (hk : im m (d + 48) 2 = nI k9) (hl : im m (d + 332) 1 = nI kb) (hk6 : kb ≤ 60) (hf : ∀ e, e < kb → im m (d + 333) e = f e) (hp : PplOk z) (hm0 : 0 < nv (z 1) → 0 < nv (z 0)) {Q : Rs → Mm → Prop} (h0 : Int64) (K : G g (MX9_digest cs) Q 97 [(3, .int (nI ((nv (z 0))))), (1, .long (msF z h0 (nv (z 0)))), (0, .ref (d))] [] (0, 0) m) : ∀ j k : Nat, k + j = (nv (z 0)) → G g (MX9_digest cs) Q 73 [(3, .int (nI (k))), (1, .long (msF z h0 k)), (0, .ref (d))] [] (0, 0) m := by
  have hz0 := hz.n0.hi
  have hz1 := hz.n1.hi
  intro j
  induction j with
  | zero =>
    intro k hkd
    obtain rfl : k = (nv (z 0)) := hkd
    refine g_iload_n 3 dX9_digest_73 rfl rfl ?_
    refine g_aload_n 0 dX9_digest_74 rfl rfl ?_
    refine gN_getR (d + 1) flX9_10 (fun _ _ _ => rfl) 0 (hD.t) (hD.r0) dX9_digest_75 ?_
    refine gN_getI flX9_68 rfl 0 (hD.s.t) dX9_digest_78 ?_
    refine g_ei (nI (nv (z 0))) (hR.c0.trans hz.n0.e) ?_
    refine gN_icmp_ge 97 dX9_digest_81 (by decide) (by first | omega | exact b01_lt _) (by first | omega | exact b01_lt _) (fun h_81 => ?_) (fun h_81 => ?_)
    · refine g_pick [0, 1, 2] rfl ?_
      exact K
    · exfalso; omega
  | succ j ih =>
    intro k hkd
    refine g_iload_n 3 dX9_digest_73 rfl rfl ?_
    refine g_aload_n 0 dX9_digest_74 rfl rfl ?_
    refine gN_getR (d + 1) flX9_10 (fun _ _ _ => rfl) 0 (hD.t) (hD.r0) dX9_digest_75 ?_
    refine gN_getI flX9_68 rfl 0 (hD.s.t) dX9_digest_78 ?_
    refine g_ei (nI (nv (z 0))) (hR.c0.trans hz.n0.e) ?_
    refine gN_icmp_ge 97 dX9_digest_81 (by decide) (by first | omega | exact b01_lt _) (by first | omega | exact b01_lt _) (fun h_81 => ?_) (fun h_81 => ?_)
    · exfalso; omega
    · refine g_aload_n 0 dX9_digest_84 rfl rfl ?_
      refine g_lload_n 1 dX9_digest_85 rfl rfl ?_
      refine g_iload_n 3 dX9_digest_86 rfl rfl ?_
      refine gd_callV _ _ _ _ (cn_X9_mixSegment g (0, 0) hD hR hz hC (s := k) (by omega) _) ⟨rfl, rfl⟩ (ok_X9_mixSegment _) mlX9_310 in_X9_mixSegment se_X9_mixSegment 9 0 (hD.t) rfl rfl rfl ⟨Nat.le_of_ble_eq_true rfl, Nat.le_of_ble_eq_true rfl⟩ (by exact Nat.le_of_ble_eq_true rfl) ⟨Nat.zero_le _, Nat.zero_le _⟩ dX9_digest_87 rfl ?_
      refine g_eJ (msF z h0 (k + 1)) (rfl) ?_
      refine g_lstore_n 1 [(1, .long (msF z h0 (k + 1))), (3, .int (nI (k))), (0, .ref (d))] dX9_digest_90 rfl (Nat.le_of_ble_eq_true rfl) rfl ?_
      refine g_iinc 3 (nI (k + 1)) 1 [(3, .int (nI (k + 1))), (1, .long (msF z h0 (k + 1))), (0, .ref (d))] dX9_digest_91 rfl (nI_add k 1) (Nat.le_of_ble_eq_true rfl) rfl ?_
      refine g_goto 73 dX9_digest_94 (by decide) ?_
      refine g_pick [0, 1, 2] rfl ?_
      exact ih (k + 1) (by omega)
set_option maxRecDepth 100000 in
theorem lp_kd4 (g : Gp) (cs : Nat × Nat) {m : Mm} {d B c : Nat} {z : Nat → Int32} (hD : DkT m d) (hR : Rp m B (d + 1) z) (hz : ZOk c z) (hC : CsT g m) {k9 kb : Nat} {f : Nat → Int32} (hk : im m (d + 48) 2 = nI k9) (hl : im m (d + 332) 1 = nI kb) (hk6 : kb ≤ 60) (hf : ∀ e, e < kb → im m (d + 333) e = f e) (hp : PplOk z) (hm0 : 0 < nv (z 1) → 0 < nv (z 0)) {Q : Rs → Mm → Prop} (h0 : Int64) (K : G g (MX9_digest cs) Q 126 [(3, .int (nI ((nv (z 1))))), (1, .long (mrF z h0 (nv (z 1)))), (0, .ref (d))] [] (0, 0) m) : ∀ j k : Nat, k + j = (nv (z 1)) → G g (MX9_digest cs) Q 99 [(3, .int (nI (k))), (1, .long (mrF z h0 k)), (0, .ref (d))] [] (0, 0) m := by
  have hz0 := hz.n0.hi
  have hz1 := hz.n1.hi
  intro j
  induction j with
  | zero =>
    intro k hkd
    obtain rfl : k = (nv (z 1)) := hkd
    refine g_iload_n 3 dX9_digest_99 rfl rfl ?_
    refine g_aload_n 0 dX9_digest_100 rfl rfl ?_
    refine gN_getR (d + 1) flX9_10 (fun _ _ _ => rfl) 0 (hD.t) (hD.r0) dX9_digest_101 ?_
    refine gN_getR (d + 1 + 10) flX9_176 (fun _ _ _ => rfl) 0 (hD.s.t) (hD.s.r5) dX9_digest_104 ?_
    refine gN_getI flX9_207 rfl 0 (hD.s.t10) dX9_digest_107 ?_
    refine g_ei (nI (nv (z 1))) (hR.c1.trans hz.n1.e) ?_
    refine gN_icmp_ge 126 dX9_digest_110 (by decide) (by first | omega | exact b01_lt _) (by first | omega | exact b01_lt _) (fun h_110 => ?_) (fun h_110 => ?_)
    · refine g_pick [0, 1, 2] rfl ?_
      exact K
    · exfalso; omega
  | succ j ih =>
    intro k hkd
    refine g_iload_n 3 dX9_digest_99 rfl rfl ?_
    refine g_aload_n 0 dX9_digest_100 rfl rfl ?_
    refine gN_getR (d + 1) flX9_10 (fun _ _ _ => rfl) 0 (hD.t) (hD.r0) dX9_digest_101 ?_
    refine gN_getR (d + 1 + 10) flX9_176 (fun _ _ _ => rfl) 0 (hD.s.t) (hD.s.r5) dX9_digest_104 ?_
    refine gN_getI flX9_207 rfl 0 (hD.s.t10) dX9_digest_107 ?_
    refine g_ei (nI (nv (z 1))) (hR.c1.trans hz.n1.e) ?_
    refine gN_icmp_ge 126 dX9_digest_110 (by decide) (by first | omega | exact b01_lt _) (by first | omega | exact b01_lt _) (fun h_110 => ?_) (fun h_110 => ?_)
    · exfalso; omega
    · refine g_aload_n 0 dX9_digest_113 rfl rfl ?_
      refine g_lload_n 1 dX9_digest_114 rfl rfl ?_
      refine g_iload_n 3 dX9_digest_115 rfl rfl ?_
      refine gd_callV _ _ _ _ (cn_X9_mixRemembered g (0, 0) hD hR hz hC (hm0 (by omega)) (r := k) (by omega) _) ⟨rfl, rfl⟩ (ok_X9_mixRemembered _) mlX9_314 in_X9_mixRemembered se_X9_mixRemembered 9 0 (hD.t) rfl rfl rfl ⟨Nat.le_of_ble_eq_true rfl, Nat.le_of_ble_eq_true rfl⟩ (by exact Nat.le_of_ble_eq_true rfl) ⟨Nat.zero_le _, Nat.zero_le _⟩ dX9_digest_116 rfl ?_
      refine g_eJ (mrF z h0 (k + 1)) (rfl) ?_
      refine g_lstore_n 1 [(1, .long (mrF z h0 (k + 1))), (3, .int (nI (k))), (0, .ref (d))] dX9_digest_119 rfl (Nat.le_of_ble_eq_true rfl) rfl ?_
      refine g_iinc 3 (nI (k + 1)) 1 [(3, .int (nI (k + 1))), (1, .long (mrF z h0 (k + 1))), (0, .ref (d))] dX9_digest_120 rfl (nI_add k 1) (Nat.le_of_ble_eq_true rfl) rfl ?_
      refine g_goto 99 dX9_digest_123 (by decide) ?_
      refine g_pick [0, 1, 2] rfl ?_
      exact ih (k + 1) (by omega)
set_option maxRecDepth 100000 in
theorem cn_X9_digest (g : Gp) (cs : Nat × Nat) {m : Mm} {d B c : Nat} {z : Nat → Int32} (hD : DkT m d) (hR : Rp m B (d + 1) z) (hz : ZOk c z) (hC : CsT g m) {k9 kb : Nat} {f : Nat → Int32} (hk : im m (d + 48) 2 = nI k9) (hl : im m (d + 332) 1 = nI kb) (hk6 : kb ≤ 60) (hf : ∀ e, e < kb → im m (d + 333) e = f e) (hp : PplOk z) (hm0 : 0 < nv (z 1) → 0 < nv (z 0)) : Dn g (MX9_digest cs) [.ref (d)] m (some (.long (digV z (nI k9) f kb))) m := by
  have hz0 := hz.n0.hi
  have hz1 := hz.n1.hi
  refine Cn.of pn_X9 (Nat.le_of_ble_eq_true rfl) rfl ?_
  refine g_ldc2 dX9_digest_0 kcX9_288 ?_
  refine g_lstore_n 1 [(1, .long (2531)), (0, .ref (d))] dX9_digest_3 rfl (Nat.le_of_ble_eq_true rfl) rfl ?_
  refine gN_iconst 0 dX9_digest_4 (by decide) ?_
  refine g_istore_n 3 [(3, .int (nI (0))), (1, .long (2531)), (0, .ref (d))] dX9_digest_5 rfl (Nat.le_of_ble_eq_true rfl) rfl ?_
  refine g_pick [0, 1, 2] rfl ?_
  refine lp_kd1 g cs hD hR hz hC hk hl hk6 hf hp hm0 2531 ?_ 12 0 (Nat.zero_add _)
  refine gN_iconst 0 dX9_digest_29 (by decide) ?_
  refine g_istore_n 3 [(3, .int (nI (0))), (1, .long (mxs 2531 (fun w => cntV z (nI k9) w) 12)), (0, .ref (d))] dX9_digest_30 rfl (Nat.le_of_ble_eq_true rfl) rfl ?_
  refine g_pick [0, 1, 2] rfl ?_
  refine lp_kd2 g cs hD hR hz hC hk hl hk6 hf hp hm0 (mxs 2531 (fun w => cntV z (nI k9) w) 12) ?_ 2 0 (Nat.zero_add _)
  refine g_aload_n 0 dX9_digest_53 rfl rfl ?_
  refine g_lload_n 1 dX9_digest_54 rfl rfl ?_
  refine gd_callV _ _ _ _ (cn_X9_mixTranslators g (0, 0) hD hR hz _) ⟨rfl, rfl⟩ (ok_X9_mixTranslators _) mlX9_300 in_X9_mixTranslators se_X9_mixTranslators 9 0 (hD.t) rfl rfl rfl ⟨Nat.le_of_ble_eq_true rfl, Nat.le_of_ble_eq_true rfl⟩ (by exact Nat.le_of_ble_eq_true rfl) ⟨Nat.zero_le _, Nat.zero_le _⟩ dX9_digest_55 rfl ?_
  refine g_eJ (mxs (dg1 z (nI k9)) (fun k => perV z (k / 7) (k % 7)) 28) (rfl) ?_
  refine g_lstore_n 1 [(1, .long (mxs (dg1 z (nI k9)) (fun k => perV z (k / 7) (k % 7)) 28)), (3, .int (nI (2))), (0, .ref (d))] dX9_digest_58 rfl (Nat.le_of_ble_eq_true rfl) rfl ?_
  refine g_aload_n 0 dX9_digest_59 rfl rfl ?_
  refine g_lload_n 1 dX9_digest_60 rfl rfl ?_
  refine gd_callV _ _ _ _ (cn_X9_mixTerms g (0, 0) hD hR hz _) ⟨rfl, rfl⟩ (ok_X9_mixTerms _) mlX9_304 in_X9_mixTerms se_X9_mixTerms 9 0 (hD.t) rfl rfl rfl ⟨Nat.le_of_ble_eq_true rfl, Nat.le_of_ble_eq_true rfl⟩ (by exact Nat.le_of_ble_eq_true rfl) ⟨Nat.zero_le _, Nat.zero_le _⟩ dX9_digest_61 rfl ?_
  refine g_eJ (mxs (mxs (dg1 z (nI k9)) (fun k => perV z (k / 7) (k % 7)) 28) (fun k => terV z (k / 8) (k % 8)) 64) (rfl) ?_
  refine g_lstore_n 1 [(1, .long (mxs (mxs (dg1 z (nI k9)) (fun k => perV z (k / 7) (k % 7)) 28) (fun k => terV z (k / 8) (k % 8)) 64)), (3, .int (nI (2))), (0, .ref (d))] dX9_digest_64 rfl (Nat.le_of_ble_eq_true rfl) rfl ?_
  refine g_aload_n 0 dX9_digest_65 rfl rfl ?_
  refine g_lload_n 1 dX9_digest_66 rfl rfl ?_
  refine gd_callV _ _ _ _ (cn_X9_mixBands g (0, 0) hD hR hz _) ⟨rfl, rfl⟩ (ok_X9_mixBands _) mlX9_307 in_X9_mixBands se_X9_mixBands 9 0 (hD.t) rfl rfl rfl ⟨Nat.le_of_ble_eq_true rfl, Nat.le_of_ble_eq_true rfl⟩ (by exact Nat.le_of_ble_eq_true rfl) ⟨Nat.zero_le _, Nat.zero_le _⟩ dX9_digest_67 rfl ?_
  refine g_eJ (dg2 z (nI k9)) (rfl) ?_
  refine g_lstore_n 1 [(1, .long (dg2 z (nI k9))), (3, .int (nI (2))), (0, .ref (d))] dX9_digest_70 rfl (Nat.le_of_ble_eq_true rfl) rfl ?_
  refine gN_iconst 0 dX9_digest_71 (by decide) ?_
  refine g_istore_n 3 [(3, .int (nI (0))), (1, .long (dg2 z (nI k9))), (0, .ref (d))] dX9_digest_72 rfl (Nat.le_of_ble_eq_true rfl) rfl ?_
  refine g_pick [0, 1, 2] rfl ?_
  refine lp_kd3 g cs hD hR hz hC hk hl hk6 hf hp hm0 (dg2 z (nI k9)) ?_ (nv (z 0)) 0 (Nat.zero_add _)
  refine gN_iconst 0 dX9_digest_97 (by decide) ?_
  refine g_istore_n 3 [(3, .int (nI (0))), (1, .long (msF z (dg2 z (nI k9)) (nv (z 0)))), (0, .ref (d))] dX9_digest_98 rfl (Nat.le_of_ble_eq_true rfl) rfl ?_
  refine g_pick [0, 1, 2] rfl ?_
  refine lp_kd4 g cs hD hR hz hC hk hl hk6 hf hp hm0 (msF z (dg2 z (nI k9)) (nv (z 0))) ?_ (nv (z 1)) 0 (Nat.zero_add _)
  refine g_lload_n 1 dX9_digest_126 rfl rfl ?_
  refine g_aload_n 0 dX9_digest_127 rfl rfl ?_
  refine gd_callV _ _ _ _ (cn_X9_saved g (0, 0) hD hR hz hC) ⟨rfl, rfl⟩ (ok_X9_saved _) mlX9_317 in_X9_saved se_X9_saved 9 0 (hD.t) rfl rfl rfl ⟨Nat.le_of_ble_eq_true rfl, Nat.le_of_ble_eq_true rfl⟩ (by exact Nat.le_of_ble_eq_true rfl) ⟨Nat.zero_le _, Nat.zero_le _⟩ dX9_digest_128 rfl ?_
  refine g_i2l dX9_digest_131 ?_
  refine gd_callS _ _ _ _ (cn_X9_mix g (0, 0)) ⟨rfl, rfl⟩ (ok_X9_mix _) mlX9_293 st_X9_mix rfl ⟨Nat.le_of_ble_eq_true rfl, Nat.le_of_ble_eq_true rfl⟩ (by exact Nat.le_of_ble_eq_true rfl) ⟨Nat.zero_le _, Nat.zero_le _⟩ dX9_digest_132 rfl ?_
  refine g_eJ (mx (dg3 z (nI k9)) (savV z).toInt64) (rfl) ?_
  refine g_lstore_n 1 [(1, .long (mx (dg3 z (nI k9)) (savV z).toInt64)), (3, .int (nI ((nv (z 1))))), (0, .ref (d))] dX9_digest_135 rfl (Nat.le_of_ble_eq_true rfl) rfl ?_
  refine g_lload_n 1 dX9_digest_136 rfl rfl ?_
  refine g_aload_n 0 dX9_digest_137 rfl rfl ?_
  refine gd_callV _ _ _ _ (cn_X9_wordCost g (0, 0) hD hR hz hp) ⟨rfl, rfl⟩ (ok_X9_wordCost _) mlX9_320 in_X9_wordCost se_X9_wordCost 9 0 (hD.t) rfl rfl rfl ⟨Nat.le_of_ble_eq_true rfl, Nat.le_of_ble_eq_true rfl⟩ (by exact Nat.le_of_ble_eq_true rfl) ⟨Nat.zero_le _, Nat.zero_le _⟩ dX9_digest_138 rfl ?_
  refine gN_sipush 1023 dX9_digest_141 (by decide) ?_
  refine gN_bipush 52 dX9_digest_144 (by decide) ?_
  refine gd_callS _ _ _ _ (cn_X9_bitsOfD g (0, 0) (cst_ok hp)) ⟨rfl, rfl⟩ (ok_X9_bitsOf _) mlX9_324 st_X9_bitsOf rfl ⟨Nat.le_of_ble_eq_true rfl, Nat.le_of_ble_eq_true rfl⟩ (by exact Nat.le_of_ble_eq_true rfl) ⟨Nat.zero_le _, Nat.zero_le _⟩ dX9_digest_146 rfl ?_
  refine gd_callS _ _ _ _ (cn_X9_mix g (0, 0)) ⟨rfl, rfl⟩ (ok_X9_mix _) mlX9_293 st_X9_mix rfl ⟨Nat.le_of_ble_eq_true rfl, Nat.le_of_ble_eq_true rfl⟩ (by exact Nat.le_of_ble_eq_true rfl) ⟨Nat.zero_le _, Nat.zero_le _⟩ dX9_digest_149 rfl ?_
  refine g_eJ (mx (mx (dg3 z (nI k9)) (savV z).toInt64) (cstV z).toInt64) (rfl) ?_
  refine g_lstore_n 1 [(1, .long (mx (mx (dg3 z (nI k9)) (savV z).toInt64) (cstV z).toInt64)), (3, .int (nI ((nv (z 1))))), (0, .ref (d))] dX9_digest_152 rfl (Nat.le_of_ble_eq_true rfl) rfl ?_
  refine g_aload_n 0 dX9_digest_153 rfl rfl ?_
  refine g_lload_n 1 dX9_digest_154 rfl rfl ?_
  refine gd_callV _ _ _ _ (cn_X9_mixBuffer g (0, 0) hD hl hk6 hf _) ⟨rfl, rfl⟩ (ok_X9_mixBuffer _) mlX9_328 in_X9_mixBuffer se_X9_mixBuffer 9 0 (hD.t) rfl rfl rfl ⟨Nat.le_of_ble_eq_true rfl, Nat.le_of_ble_eq_true rfl⟩ (by exact Nat.le_of_ble_eq_true rfl) ⟨Nat.zero_le _, Nat.zero_le _⟩ dX9_digest_155 rfl ?_
  refine g_eJ (digV z (nI k9) f kb) (rfl) ?_
  refine g_lret rfl dX9_digest_158 ⟨Nat.zero_le _, Nat.zero_le _⟩ ?_
  exact ⟨rfl, rfl⟩
