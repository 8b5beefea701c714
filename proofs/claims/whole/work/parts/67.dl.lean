theorem iz_IOOBE : Cond.initialized "java/lang/IndexOutOfBoundsException" ∈ wA := wA_i 70 (by decide +kernel) rfl
theorem iz_IAE : Cond.initialized "java/lang/IllegalArgumentException" ∈ wA := wA_i 71 (by decide +kernel) rfl
theorem iz_ISE : Cond.initialized "java/lang/IllegalStateException" ∈ wA := wA_i 73 (by decide +kernel) rfl
/-! THE CLASS: checks, and the looks of a desk -/
set_option maxRecDepth 100000 in
theorem cn_X9_checkNumber (g : Gp) (cs : Nat × Nat) {m : Mm} {j N : Nat} (hj : j < N) (hN : N < 2147483648) : Dn g (MX9_checkNumber cs) [.int (nI (j)), .int (nI (N))] m (none) (m) := by
  refine Cn.of pn_X9 (Nat.le_of_ble_eq_true rfl) rfl ?_
  refine g_iload_n 0 dX9_checkNumber_0 rfl rfl ?_
  refine gN_if_lt 9 dX9_checkNumber_1 (by decide) (by first | omega | exact b01_lt _) ?_
  refine g_iload_n 0 dX9_checkNumber_4 rfl rfl ?_
  refine g_iload_n 1 dX9_checkNumber_5 rfl rfl ?_
  refine gN_icmp_lt 20 dX9_checkNumber_6 (by decide) (by first | omega | exact b01_lt _) (by first | omega | exact b01_lt _) (fun h_6 => ?_) (fun h_6 => ?_)
  · refine g_vret rfl dX9_checkNumber_20 ⟨Nat.zero_le _, Nat.zero_le _⟩ ?_
    exact ⟨rfl, rfl⟩
  · exfalso; omega
set_option maxRecDepth 100000 in
theorem cx_X9_checkNumber (g : Gp) (cs : Nat × Nat) {m : Mm} {x : Int32} {N : Nat} (hN : N < 2147483648) (h : ¬ inb x N) : Xn g (MX9_checkNumber (1, 6)) [.int (x), .int (nI (N))] m "java/lang/IndexOutOfBoundsException" := by
  refine Cn.of pn_X9 (Nat.le_of_ble_eq_true rfl) rfl ?_
  refine g_iload_n 0 dX9_checkNumber_0 rfl rfl ?_
  refine g_if_lt 9 dX9_checkNumber_1 (by decide) (fun h_1 => ?_) (fun h_1 => ?_)
  · refine g_throw (ik := 360) (is := 362) (ic := 364) (cls := "java/lang/IndexOutOfBoundsException") (text := "there is nothing with this number") (by decide) klX9_360 iz_IOOBE (fun s H hB => hB.2.2.2.1) fm_atO (fun w hw => List.all_eq_true.mp (by decide +kernel : (Cond.classLink RX9 360 "java/lang/IndexOutOfBoundsException" :: Cond.initialized "java/lang/IndexOutOfBoundsException" :: vx_atS RX9 364 "java/lang/IndexOutOfBoundsException" fm_exn).all vx_ot = true) w hw) dX9_checkNumber_9 dX9_checkNumber_12 dX9_checkNumber_13 dX9_checkNumber_16 dX9_checkNumber_19 (Nat.le_of_ble_eq_true rfl) (by exact Nat.le_of_ble_eq_true rfl) ⟨Nat.le_of_ble_eq_true rfl, Nat.le_of_ble_eq_true rfl⟩ (fun n hn => ⟨rfl, n, hn, rfl⟩)
  · refine g_iload_n 0 dX9_checkNumber_4 rfl rfl ?_
    refine g_iload_n 1 dX9_checkNumber_5 rfl rfl ?_
    refine g_icmp_lt 20 dX9_checkNumber_6 (by decide) (fun h_6 => ?_) (fun h_6 => ?_)
    · exact absurd ⟨by have := Int32.not_lt.mp h_1; rw [le_tI] at this; exact this, by rw [lt_tI, nI_tI' hN] at h_6; exact h_6⟩ h
    · refine g_throw (ik := 360) (is := 362) (ic := 364) (cls := "java/lang/IndexOutOfBoundsException") (text := "there is nothing with this number") (by decide) klX9_360 iz_IOOBE (fun s H hB => hB.2.2.2.1) fm_atO (fun w hw => List.all_eq_true.mp (by decide +kernel : (Cond.classLink RX9 360 "java/lang/IndexOutOfBoundsException" :: Cond.initialized "java/lang/IndexOutOfBoundsException" :: vx_atS RX9 364 "java/lang/IndexOutOfBoundsException" fm_exn).all vx_ot = true) w hw) dX9_checkNumber_9 dX9_checkNumber_12 dX9_checkNumber_13 dX9_checkNumber_16 dX9_checkNumber_19 (Nat.le_of_ble_eq_true rfl) (by exact Nat.le_of_ble_eq_true rfl) ⟨Nat.le_of_ble_eq_true rfl, Nat.le_of_ble_eq_true rfl⟩ (fun n hn => ⟨rfl, n, hn, rfl⟩)
set_option maxRecDepth 100000 in
theorem cn_X9_checkRange (g : Gp) (cs : Nat × Nat) {m : Mm} {x a b : Int32} (h : a ≤ x ∧ x ≤ b) : Dn g (MX9_checkRange cs) [.int x, .int a, .int b] m none m := by
  refine Cn.of pn_X9 (Nat.le_of_ble_eq_true rfl) rfl ?_
  refine g_iload_n 0 dX9_checkRange_0 rfl rfl ?_
  refine g_iload_n 1 dX9_checkRange_1 rfl rfl ?_
  refine g_icmp_lt 10 dX9_checkRange_2 (by decide) (fun h_2 => ?_) (fun h_2 => ?_)
  · exact absurd h.1 (Int32.not_le.mpr h_2)
  · refine g_iload_n 0 dX9_checkRange_5 rfl rfl ?_
    refine g_iload_n 2 dX9_checkRange_6 rfl rfl ?_
    refine g_icmp_le 21 dX9_checkRange_7 (by decide) (fun h_7 => ?_) (fun h_7 => ?_)
    · refine g_vret rfl dX9_checkRange_21 ⟨Nat.zero_le _, Nat.zero_le _⟩ ?_
      exact ⟨rfl, rfl⟩
    · exact absurd h.2 h_7
set_option maxRecDepth 100000 in
theorem cx_X9_checkRange (g : Gp) (cs : Nat × Nat) {m : Mm} {x a b : Int32} (h : ¬ (a ≤ x ∧ x ≤ b)) : Xn g (MX9_checkRange (1, 6)) [.int (x), .int (a), .int (b)] m "java/lang/IllegalArgumentException" := by
  refine Cn.of pn_X9 (Nat.le_of_ble_eq_true rfl) rfl ?_
  refine g_iload_n 0 dX9_checkRange_0 rfl rfl ?_
  refine g_iload_n 1 dX9_checkRange_1 rfl rfl ?_
  refine g_icmp_lt 10 dX9_checkRange_2 (by decide) (fun h_2 => ?_) (fun h_2 => ?_)
  · refine g_throw (ik := 367) (is := 369) (ic := 371) (cls := "java/lang/IllegalArgumentException") (text := "the value is out of range") (by decide) klX9_367 iz_IAE (fun s H hB => hB.2.2.2.2.1) fm_atA (fun w hw => List.all_eq_true.mp (by decide +kernel : (Cond.classLink RX9 367 "java/lang/IllegalArgumentException" :: Cond.initialized "java/lang/IllegalArgumentException" :: vx_atS RX9 371 "java/lang/IllegalArgumentException" fm_exn).all vx_ot = true) w hw) dX9_checkRange_10 dX9_checkRange_13 dX9_checkRange_14 dX9_checkRange_17 dX9_checkRange_20 (Nat.le_of_ble_eq_true rfl) (by exact Nat.le_of_ble_eq_true rfl) ⟨Nat.le_of_ble_eq_true rfl, Nat.le_of_ble_eq_true rfl⟩ (fun n hn => ⟨rfl, n, hn, rfl⟩)
  · refine g_iload_n 0 dX9_checkRange_5 rfl rfl ?_
    refine g_iload_n 2 dX9_checkRange_6 rfl rfl ?_
    refine g_icmp_le 21 dX9_checkRange_7 (by decide) (fun h_7 => ?_) (fun h_7 => ?_)
    · exact absurd ⟨Int32.not_lt.mp h_2, h_7⟩ h
    · refine g_throw (ik := 367) (is := 369) (ic := 371) (cls := "java/lang/IllegalArgumentException") (text := "the value is out of range") (by decide) klX9_367 iz_IAE (fun s H hB => hB.2.2.2.2.1) fm_atA (fun w hw => List.all_eq_true.mp (by decide +kernel : (Cond.classLink RX9 367 "java/lang/IllegalArgumentException" :: Cond.initialized "java/lang/IllegalArgumentException" :: vx_atS RX9 371 "java/lang/IllegalArgumentException" fm_exn).all vx_ot = true) w hw) dX9_checkRange_10 dX9_checkRange_13 dX9_checkRange_14 dX9_checkRange_17 dX9_checkRange_20 (Nat.le_of_ble_eq_true rfl) (by exact Nat.le_of_ble_eq_true rfl) ⟨Nat.le_of_ble_eq_true rfl, Nat.le_of_ble_eq_true rfl⟩ (fun n hn => ⟨rfl, n, hn, rfl⟩)
set_option maxRecDepth 100000 in
theorem cn_X9_checkArgument (g : Gp) (cs : Nat × Nat) {m : Mm} {p : Prop} (h : p) : Dn g (MX9_checkArgument cs) [.int (nI (b01 p))] m none m := by
  have hp := b01_t h
  refine Cn.of pn_X9 (Nat.le_of_ble_eq_true rfl) rfl ?_
  refine g_iload_n 0 dX9_checkArgument_0 rfl rfl ?_
  refine gN_if_ne 15 dX9_checkArgument_1 (by decide) (by first | omega | exact b01_lt _) (fun h_1 => ?_) (fun h_1 => ?_)
  · refine g_vret rfl dX9_checkArgument_15 ⟨Nat.zero_le _, Nat.zero_le _⟩ ?_
    exact ⟨rfl, rfl⟩
  · exfalso; omega
set_option maxRecDepth 100000 in
theorem cx_X9_checkArgument (g : Gp) (cs : Nat × Nat) {m : Mm} {p : Prop} (h : ¬ p) : Xn g (MX9_checkArgument (1, 6)) [.int (nI (b01 p))] m "java/lang/IllegalArgumentException" := by
  have hp := b01_f h
  refine Cn.of pn_X9 (Nat.le_of_ble_eq_true rfl) rfl ?_
  refine g_iload_n 0 dX9_checkArgument_0 rfl rfl ?_
  refine gN_if_ne 15 dX9_checkArgument_1 (by decide) (by first | omega | exact b01_lt _) (fun h_1 => ?_) (fun h_1 => ?_)
  · exfalso; omega
  · refine g_throw (ik := 367) (is := 372) (ic := 371) (cls := "java/lang/IllegalArgumentException") (text := "the argument or the buffer does not fit") (by decide) klX9_367 iz_IAE (fun s H hB => hB.2.2.2.2.2.1) fm_atA (fun w hw => List.all_eq_true.mp (by decide +kernel : (Cond.classLink RX9 367 "java/lang/IllegalArgumentException" :: Cond.initialized "java/lang/IllegalArgumentException" :: vx_atS RX9 371 "java/lang/IllegalArgumentException" fm_exn).all vx_ot = true) w hw) dX9_checkArgument_4 dX9_checkArgument_7 dX9_checkArgument_8 dX9_checkArgument_11 dX9_checkArgument_14 (Nat.le_of_ble_eq_true rfl) (by exact Nat.le_of_ble_eq_true rfl) ⟨Nat.le_of_ble_eq_true rfl, Nat.le_of_ble_eq_true rfl⟩ (fun n hn => ⟨rfl, n, hn, rfl⟩)
set_option maxRecDepth 100000 in
theorem cn_X9_checkState (g : Gp) (cs : Nat × Nat) {m : Mm} {p : Prop} (h : p) : Dn g (MX9_checkState cs) [.int (nI (b01 p))] m none m := by
  have hp := b01_t h
  refine Cn.of pn_X9 (Nat.le_of_ble_eq_true rfl) rfl ?_
  refine g_iload_n 0 dX9_checkState_0 rfl rfl ?_
  refine gN_if_ne 15 dX9_checkState_1 (by decide) (by first | omega | exact b01_lt _) (fun h_1 => ?_) (fun h_1 => ?_)
  · refine g_vret rfl dX9_checkState_15 ⟨Nat.zero_le _, Nat.zero_le _⟩ ?_
    exact ⟨rfl, rfl⟩
  · exfalso; omega
set_option maxRecDepth 100000 in
theorem cx_X9_checkState (g : Gp) (cs : Nat × Nat) {m : Mm} {p : Prop} (h : ¬ p) : Xn g (MX9_checkState (1, 6)) [.int (nI (b01 p))] m "java/lang/IllegalStateException" := by
  have hp := b01_f h
  refine Cn.of pn_X9 (Nat.le_of_ble_eq_true rfl) rfl ?_
  refine g_iload_n 0 dX9_checkState_0 rfl rfl ?_
  refine gN_if_ne 15 dX9_checkState_1 (by decide) (by first | omega | exact b01_lt _) (fun h_1 => ?_) (fun h_1 => ?_)
  · exfalso; omega
  · refine g_throw (ik := 374) (is := 376) (ic := 378) (cls := "java/lang/IllegalStateException") (text := "the state does not allow this call") (by decide) klX9_374 iz_ISE (fun s H hB => hB.2.2.2.2.2.2.1) fm_atS2 (fun w hw => List.all_eq_true.mp (by decide +kernel : (Cond.classLink RX9 374 "java/lang/IllegalStateException" :: Cond.initialized "java/lang/IllegalStateException" :: vx_atS RX9 378 "java/lang/IllegalStateException" fm_exn).all vx_ot = true) w hw) dX9_checkState_4 dX9_checkState_7 dX9_checkState_8 dX9_checkState_11 dX9_checkState_14 (Nat.le_of_ble_eq_true rfl) (by exact Nat.le_of_ble_eq_true rfl) ⟨Nat.le_of_ble_eq_true rfl, Nat.le_of_ble_eq_true rfl⟩ (fun n hn => ⟨rfl, n, hn, rfl⟩)
/-- the desk at d: where its cells lie -/
def DkT (m : Mm) (d : Nat) : Prop := ((tg m d = (9, 0) ∧ rf m d 0 = some (d + 1) ∧ rf m d 1 = some (d + 48) ∧ rf m d 2 = some (d + 332)) ∧ (tg m (d + 332) = (1, 0) ∧ rf m (d + 332) 0 = some (d + 333) ∧ tg m (d + 333) = (11, 60))) ∧ StT m (d + 1) ∧ HsT m (d + 48)
theorem DkT.t {m : Mm} {d : Nat} (h : DkT m d) : tg m d = (9, 0) := h.1.1.1
theorem DkT.r0 {m : Mm} {d : Nat} (h : DkT m d) : rf m d 0 = some (d + 1) := h.1.1.2.1
theorem DkT.r1 {m : Mm} {d : Nat} (h : DkT m d) : rf m d 1 = some (d + 48) := h.1.1.2.2.1
theorem DkT.r2 {m : Mm} {d : Nat} (h : DkT m d) : rf m d 2 = some (d + 332) := h.1.1.2.2.2
theorem DkT.tb {m : Mm} {d : Nat} (h : DkT m d) : tg m (d + 332) = (1, 0) := h.1.2.1
theorem DkT.rb {m : Mm} {d : Nat} (h : DkT m d) : rf m (d + 332) 0 = some (d + 333) := h.1.2.2.1
theorem DkT.tc {m : Mm} {d : Nat} (h : DkT m d) : tg m (d + 333) = (11, 60) := h.1.2.2.2
theorem DkT.s {m : Mm} {d : Nat} (h : DkT m d) : StT m (d + 1) := h.2.1
theorem DkT.h {m : Mm} {d : Nat} (h : DkT m d) : HsT m (d + 48) := h.2.2
set_option maxRecDepth 100000 in
theorem cx_X9_segment_1 (g : Gp) (cs : Nat × Nat) {m : Mm} {d B c : Nat} {z : Nat → Int32} (hD : DkT m d) (hR : Rp m B (d + 1) z) (hz : ZOk c z) {p x : Int32} (h : ¬ inb p (nv (z 0))) : Xn g (MX9_segment (1, 6)) [.ref (d), .int (p), .int (x)] m "java/lang/IndexOutOfBoundsException" := by
  have hz0 := hz.n0.hi
  have hz1 := hz.n1.hi
  refine Cn.of pn_X9 (Nat.le_of_ble_eq_true rfl) rfl ?_
  refine g_iload_n 1 dX9_segment_0 rfl rfl ?_
  refine g_aload_n 0 dX9_segment_1 rfl rfl ?_
  refine gN_getR (d + 1) flX9_10 (fun _ _ _ => rfl) 0 (hD.t) (hD.r0) dX9_segment_2 ?_
  refine gN_getI flX9_68 rfl 0 (hD.s.t) dX9_segment_5 ?_
  refine g_ei (nI (nv (z 0))) (hR.c0.trans hz.n0.e) ?_
  exact gx_callS _ _ (cx_X9_checkNumber g (0, 0) (N := nv (z 0)) (by omega) (h)) (ok_X9_checkNumber _) mlX9_30 st_X9_checkNumber rfl ⟨Nat.le_of_ble_eq_true rfl, Nat.le_of_ble_eq_true rfl⟩ (by exact Nat.le_of_ble_eq_true rfl) ⟨Nat.le_of_ble_eq_true rfl, Nat.le_of_ble_eq_true rfl⟩ dX9_segment_8 rfl (fun n hn => ⟨rfl, n, hn, rfl⟩)
set_option maxRecDepth 100000 in
theorem cx_X9_segment_2 (g : Gp) (cs : Nat × Nat) {m : Mm} {d B c : Nat} {z : Nat → Int32} (hD : DkT m d) (hR : Rp m B (d + 1) z) (hz : ZOk c z) {s : Nat} (hs : s < nv (z 0)) {x : Int32} (h : ¬ inb x 12) : Xn g (MX9_segment (1, 6)) [.ref (d), .int (nI (s)), .int (x)] m "java/lang/IllegalArgumentException" := by
  have hz0 := hz.n0.hi
  have hz1 := hz.n1.hi
  refine Cn.of pn_X9 (Nat.le_of_ble_eq_true rfl) rfl ?_
  refine g_iload_n 1 dX9_segment_0 rfl rfl ?_
  refine g_aload_n 0 dX9_segment_1 rfl rfl ?_
  refine gN_getR (d + 1) flX9_10 (fun _ _ _ => rfl) 0 (hD.t) (hD.r0) dX9_segment_2 ?_
  refine gN_getI flX9_68 rfl 0 (hD.s.t) dX9_segment_5 ?_
  refine g_ei (nI (nv (z 0))) (hR.c0.trans hz.n0.e) ?_
  refine gd_callS _ _ _ _ (cn_X9_checkNumber g (0, 0) (j := s) (N := nv (z 0)) (by omega) (by omega)) ⟨rfl, rfl⟩ (ok_X9_checkNumber _) mlX9_30 st_X9_checkNumber rfl ⟨Nat.le_of_ble_eq_true rfl, Nat.le_of_ble_eq_true rfl⟩ (by exact Nat.le_of_ble_eq_true rfl) ⟨Nat.zero_le _, Nat.zero_le _⟩ dX9_segment_8 rfl ?_
  refine g_iload_n 2 dX9_segment_11 rfl rfl ?_
  refine gN_iconst 0 dX9_segment_12 (by decide) ?_
  refine gN_bipush 11 dX9_segment_13 (by decide) ?_
  exact gx_callS _ _ (cx_X9_checkRange g (0, 0) (fun q => h ((in_inb (n := 11) (by decide)).mp q))) (ok_X9_checkRange _) mlX9_34 st_X9_checkRange rfl ⟨Nat.le_of_ble_eq_true rfl, Nat.le_of_ble_eq_true rfl⟩ (by exact Nat.le_of_ble_eq_true rfl) ⟨Nat.le_of_ble_eq_true rfl, Nat.le_of_ble_eq_true rfl⟩ dX9_segment_15 rfl (fun n hn => ⟨rfl, n, hn, rfl⟩)
set_option maxRecDepth 100000 in
theorem cn_X9_segment00 (g : Gp) (cs : Nat × Nat) {m : Mm} {d B c : Nat} {z : Nat → Int32} (hD : DkT m d) (hR : Rp m B (d + 1) z) (hz : ZOk c z) {s : Nat} (hs : s < nv (z 0)) : Dn g (MX9_segment cs) [.ref (d), .int (nI (s)), .int (nI (0))] m (some (.int (segV z s 0))) m := by
  have hz0 := hz.n0.hi
  have hz1 := hz.n1.hi
  obtain ⟨q, hq1, hqa⟩ := hR.SR (s := s) hs
  have hq := hqa.2.2
  refine Cn.of pn_X9 (Nat.le_of_ble_eq_true rfl) rfl ?_
  refine g_iload_n 1 dX9_segment_0 rfl rfl ?_
  refine g_aload_n 0 dX9_segment_1 rfl rfl ?_
  refine gN_getR (d + 1) flX9_10 (fun _ _ _ => rfl) 0 (hD.t) (hD.r0) dX9_segment_2 ?_
  refine gN_getI flX9_68 rfl 0 (hD.s.t) dX9_segment_5 ?_
  refine g_ei (nI (nv (z 0))) (hR.c0.trans hz.n0.e) ?_
  refine gd_callS _ _ _ _ (cn_X9_checkNumber g (0, 0) (j := s) (N := nv (z 0)) (by omega) (by omega)) ⟨rfl, rfl⟩ (ok_X9_checkNumber _) mlX9_30 st_X9_checkNumber rfl ⟨Nat.le_of_ble_eq_true rfl, Nat.le_of_ble_eq_true rfl⟩ (by exact Nat.le_of_ble_eq_true rfl) ⟨Nat.zero_le _, Nat.zero_le _⟩ dX9_segment_8 rfl ?_
  refine g_iload_n 2 dX9_segment_11 rfl rfl ?_
  refine gN_iconst 0 dX9_segment_12 (by decide) ?_
  refine gN_bipush 11 dX9_segment_13 (by decide) ?_
  refine gd_callS _ _ _ _ (cn_X9_checkRange g (0, 0) ((in_inb (n := 11) (by decide)).mpr ((inb_nI (by omega)).mpr (by omega)))) ⟨rfl, rfl⟩ (ok_X9_checkRange _) mlX9_34 st_X9_checkRange rfl ⟨Nat.le_of_ble_eq_true rfl, Nat.le_of_ble_eq_true rfl⟩ (by exact Nat.le_of_ble_eq_true rfl) ⟨Nat.zero_le _, Nat.zero_le _⟩ dX9_segment_15 rfl ?_
  refine g_aload_n 0 dX9_segment_18 rfl rfl ?_
  refine gN_getR (d + 1) flX9_10 (fun _ _ _ => rfl) 0 (hD.t) (hD.r0) dX9_segment_19 ?_
  refine gN_getR (d + 1 + 5) flX9_71 (fun _ _ _ => rfl) 0 (hD.s.t) (hD.s.r4) dX9_segment_22 ?_
  refine g_iload_n 1 dX9_segment_25 rfl rfl ?_
  refine gN_aald 14 10 (d + 1 + 37 + s) (hD.s.t5) (by decide) (by first | omega | exact b01_lt _) (by first | omega | exact b01_lt _) (hD.s.rS (by omega)) dX9_segment_26 ?_
  refine g_astore_n 3 [(3, .ref (d + 1 + 37 + s)), (0, .ref (d)), (1, .int (nI (s))), (2, .int (nI (0)))] dX9_segment_27 rfl (Nat.le_of_ble_eq_true rfl) rfl ?_
  refine g_iload_n 2 dX9_segment_28 rfl rfl ?_
  refine g_tableIn (off := 59) 88 dX9_segment_29 (by decide) (by decide) (by decide) (by decide) ?_
  refine g_aload_n 3 dX9_segment_88 rfl rfl ?_
  refine gN_getR (q) flX9_98 (fun _ _ _ => rfl) 0 (hD.s.tS (by omega)) (hq1) dX9_segment_89 ?_
  refine gN_getI flX9_112 rfl 0 (hq.t) dX9_segment_92 ?_
  refine g_eI (z (79 + 22 * s)) (hq.l.trans (hz.row hs).1.e.symm) ?_
  refine g_iret rfl dX9_segment_95 ⟨Nat.zero_le _, Nat.zero_le _⟩ ?_
  exact ⟨rfl, rfl⟩
set_option maxRecDepth 100000 in
theorem cn_X9_segment01 (g : Gp) (cs : Nat × Nat) {m : Mm} {d B c : Nat} {z : Nat → Int32} (hD : DkT m d) (hR : Rp m B (d + 1) z) (hz : ZOk c z) {s : Nat} (hs : s < nv (z 0)) : Dn g (MX9_segment cs) [.ref (d), .int (nI (s)), .int (nI (1))] m (some (.int (segV z s 1))) m := by
  have hz0 := hz.n0.hi
  have hz1 := hz.n1.hi
  obtain ⟨q, hq1, hqa⟩ := hR.SR (s := s) hs
  have hq := hqa.2.2
  refine Cn.of pn_X9 (Nat.le_of_ble_eq_true rfl) rfl ?_
  refine g_iload_n 1 dX9_segment_0 rfl rfl ?_
  refine g_aload_n 0 dX9_segment_1 rfl rfl ?_
  refine gN_getR (d + 1) flX9_10 (fun _ _ _ => rfl) 0 (hD.t) (hD.r0) dX9_segment_2 ?_
  refine gN_getI flX9_68 rfl 0 (hD.s.t) dX9_segment_5 ?_
  refine g_ei (nI (nv (z 0))) (hR.c0.trans hz.n0.e) ?_
  refine gd_callS _ _ _ _ (cn_X9_checkNumber g (0, 0) (j := s) (N := nv (z 0)) (by omega) (by omega)) ⟨rfl, rfl⟩ (ok_X9_checkNumber _) mlX9_30 st_X9_checkNumber rfl ⟨Nat.le_of_ble_eq_true rfl, Nat.le_of_ble_eq_true rfl⟩ (by exact Nat.le_of_ble_eq_true rfl) ⟨Nat.zero_le _, Nat.zero_le _⟩ dX9_segment_8 rfl ?_
  refine g_iload_n 2 dX9_segment_11 rfl rfl ?_
  refine gN_iconst 0 dX9_segment_12 (by decide) ?_
  refine gN_bipush 11 dX9_segment_13 (by decide) ?_
  refine gd_callS _ _ _ _ (cn_X9_checkRange g (0, 0) ((in_inb (n := 11) (by decide)).mpr ((inb_nI (by omega)).mpr (by omega)))) ⟨rfl, rfl⟩ (ok_X9_checkRange _) mlX9_34 st_X9_checkRange rfl ⟨Nat.le_of_ble_eq_true rfl, Nat.le_of_ble_eq_true rfl⟩ (by exact Nat.le_of_ble_eq_true rfl) ⟨Nat.zero_le _, Nat.zero_le _⟩ dX9_segment_15 rfl ?_
  refine g_aload_n 0 dX9_segment_18 rfl rfl ?_
  refine gN_getR (d + 1) flX9_10 (fun _ _ _ => rfl) 0 (hD.t) (hD.r0) dX9_segment_19 ?_
  refine gN_getR (d + 1 + 5) flX9_71 (fun _ _ _ => rfl) 0 (hD.s.t) (hD.s.r4) dX9_segment_22 ?_
  refine g_iload_n 1 dX9_segment_25 rfl rfl ?_
  refine gN_aald 14 10 (d + 1 + 37 + s) (hD.s.t5) (by decide) (by first | omega | exact b01_lt _) (by first | omega | exact b01_lt _) (hD.s.rS (by omega)) dX9_segment_26 ?_
  refine g_astore_n 3 [(3, .ref (d + 1 + 37 + s)), (0, .ref (d)), (1, .int (nI (s))), (2, .int (nI (1)))] dX9_segment_27 rfl (Nat.le_of_ble_eq_true rfl) rfl ?_
  refine g_iload_n 2 dX9_segment_28 rfl rfl ?_
  refine g_tableIn (off := 67) 96 dX9_segment_29 (by decide) (by decide) (by decide) (by decide) ?_
  refine g_aload_n 3 dX9_segment_96 rfl rfl ?_
  refine gN_getI flX9_75 rfl 0 (hD.s.tS (by omega)) dX9_segment_97 ?_
  refine g_eI (z (79 + 22 * s + 1)) (hR.S1 (by omega)) ?_
  refine g_iret rfl dX9_segment_100 ⟨Nat.zero_le _, Nat.zero_le _⟩ ?_
  exact ⟨rfl, rfl⟩
set_option maxRecDepth 100000 in
theorem cn_X9_segment02 (g : Gp) (cs : Nat × Nat) {m : Mm} {d B c : Nat} {z : Nat → Int32} (hD : DkT m d) (hR : Rp m B (d + 1) z) (hz : ZOk c z) {s : Nat} (hs : s < nv (z 0)) : Dn g (MX9_segment cs) [.ref (d), .int (nI (s)), .int (nI (2))] m (some (.int (segV z s 2))) m := by
  have hz0 := hz.n0.hi
  have hz1 := hz.n1.hi
  obtain ⟨q, hq1, hqa⟩ := hR.SR (s := s) hs
  have hq := hqa.2.2
  refine Cn.of pn_X9 (Nat.le_of_ble_eq_true rfl) rfl ?_
  refine g_iload_n 1 dX9_segment_0 rfl rfl ?_
  refine g_aload_n 0 dX9_segment_1 rfl rfl ?_
  refine gN_getR (d + 1) flX9_10 (fun _ _ _ => rfl) 0 (hD.t) (hD.r0) dX9_segment_2 ?_
  refine gN_getI flX9_68 rfl 0 (hD.s.t) dX9_segment_5 ?_
  refine g_ei (nI (nv (z 0))) (hR.c0.trans hz.n0.e) ?_
  refine gd_callS _ _ _ _ (cn_X9_checkNumber g (0, 0) (j := s) (N := nv (z 0)) (by omega) (by omega)) ⟨rfl, rfl⟩ (ok_X9_checkNumber _) mlX9_30 st_X9_checkNumber rfl ⟨Nat.le_of_ble_eq_true rfl, Nat.le_of_ble_eq_true rfl⟩ (by exact Nat.le_of_ble_eq_true rfl) ⟨Nat.zero_le _, Nat.zero_le _⟩ dX9_segment_8 rfl ?_
  refine g_iload_n 2 dX9_segment_11 rfl rfl ?_
  refine gN_iconst 0 dX9_segment_12 (by decide) ?_
  refine gN_bipush 11 dX9_segment_13 (by decide) ?_
  refine gd_callS _ _ _ _ (cn_X9_checkRange g (0, 0) ((in_inb (n := 11) (by decide)).mpr ((inb_nI (by omega)).mpr (by omega)))) ⟨rfl, rfl⟩ (ok_X9_checkRange _) mlX9_34 st_X9_checkRange rfl ⟨Nat.le_of_ble_eq_true rfl, Nat.le_of_ble_eq_true rfl⟩ (by exact Nat.le_of_ble_eq_true rfl) ⟨Nat.zero_le _, Nat.zero_le _⟩ dX9_segment_15 rfl ?_
  refine g_aload_n 0 dX9_segment_18 rfl rfl ?_
  refine gN_getR (d + 1) flX9_10 (fun _ _ _ => rfl) 0 (hD.t) (hD.r0) dX9_segment_19 ?_
  refine gN_getR (d + 1 + 5) flX9_71 (fun _ _ _ => rfl) 0 (hD.s.t) (hD.s.r4) dX9_segment_22 ?_
  refine g_iload_n 1 dX9_segment_25 rfl rfl ?_
  refine gN_aald 14 10 (d + 1 + 37 + s) (hD.s.t5) (by decide) (by first | omega | exact b01_lt _) (by first | omega | exact b01_lt _) (hD.s.rS (by omega)) dX9_segment_26 ?_
  refine g_astore_n 3 [(3, .ref (d + 1 + 37 + s)), (0, .ref (d)), (1, .int (nI (s))), (2, .int (nI (2)))] dX9_segment_27 rfl (Nat.le_of_ble_eq_true rfl) rfl ?_
  refine g_iload_n 2 dX9_segment_28 rfl rfl ?_
  refine g_tableIn (off := 72) 101 dX9_segment_29 (by decide) (by decide) (by decide) (by decide) ?_
  refine g_aload_n 3 dX9_segment_101 rfl rfl ?_
  refine gN_getI flX9_84 rfl 0 (hD.s.tS (by omega)) dX9_segment_102 ?_
  refine g_eI (opn (z (79 + 22 * s + 1)) (z (79 + 22 * s + 2))) (hR.S2 (by omega)) ?_
  refine g_iret rfl dX9_segment_105 ⟨Nat.zero_le _, Nat.zero_le _⟩ ?_
  exact ⟨rfl, rfl⟩
set_option maxRecDepth 100000 in
theorem cn_X9_segment03 (g : Gp) (cs : Nat × Nat) {m : Mm} {d B c : Nat} {z : Nat → Int32} (hD : DkT m d) (hR : Rp m B (d + 1) z) (hz : ZOk c z) {s : Nat} (hs : s < nv (z 0)) : Dn g (MX9_segment cs) [.ref (d), .int (nI (s)), .int (nI (3))] m (some (.int (segV z s 3))) m := by
  have hz0 := hz.n0.hi
  have hz1 := hz.n1.hi
  obtain ⟨q, hq1, hqa⟩ := hR.SR (s := s) hs
  have hq := hqa.2.2
  refine Cn.of pn_X9 (Nat.le_of_ble_eq_true rfl) rfl ?_
  refine g_iload_n 1 dX9_segment_0 rfl rfl ?_
  refine g_aload_n 0 dX9_segment_1 rfl rfl ?_
  refine gN_getR (d + 1) flX9_10 (fun _ _ _ => rfl) 0 (hD.t) (hD.r0) dX9_segment_2 ?_
  refine gN_getI flX9_68 rfl 0 (hD.s.t) dX9_segment_5 ?_
  refine g_ei (nI (nv (z 0))) (hR.c0.trans hz.n0.e) ?_
  refine gd_callS _ _ _ _ (cn_X9_checkNumber g (0, 0) (j := s) (N := nv (z 0)) (by omega) (by omega)) ⟨rfl, rfl⟩ (ok_X9_checkNumber _) mlX9_30 st_X9_checkNumber rfl ⟨Nat.le_of_ble_eq_true rfl, Nat.le_of_ble_eq_true rfl⟩ (by exact Nat.le_of_ble_eq_true rfl) ⟨Nat.zero_le _, Nat.zero_le _⟩ dX9_segment_8 rfl ?_
  refine g_iload_n 2 dX9_segment_11 rfl rfl ?_
  refine gN_iconst 0 dX9_segment_12 (by decide) ?_
  refine gN_bipush 11 dX9_segment_13 (by decide) ?_
  refine gd_callS _ _ _ _ (cn_X9_checkRange g (0, 0) ((in_inb (n := 11) (by decide)).mpr ((inb_nI (by omega)).mpr (by omega)))) ⟨rfl, rfl⟩ (ok_X9_checkRange _) mlX9_34 st_X9_checkRange rfl ⟨Nat.le_of_ble_eq_true rfl, Nat.le_of_ble_eq_true rfl⟩ (by exact Nat.le_of_ble_eq_true rfl) ⟨Nat.zero_le _, Nat.zero_le _⟩ dX9_segment_15 rfl ?_
  refine g_aload_n 0 dX9_segment_18 rfl rfl ?_
  refine gN_getR (d + 1) flX9_10 (fun _ _ _ => rfl) 0 (hD.t) (hD.r0) dX9_segment_19 ?_
  refine gN_getR (d + 1 + 5) flX9_71 (fun _ _ _ => rfl) 0 (hD.s.t) (hD.s.r4) dX9_segment_22 ?_
  refine g_iload_n 1 dX9_segment_25 rfl rfl ?_
  refine gN_aald 14 10 (d + 1 + 37 + s) (hD.s.t5) (by decide) (by first | omega | exact b01_lt _) (by first | omega | exact b01_lt _) (hD.s.rS (by omega)) dX9_segment_26 ?_
  refine g_astore_n 3 [(3, .ref (d + 1 + 37 + s)), (0, .ref (d)), (1, .int (nI (s))), (2, .int (nI (3)))] dX9_segment_27 rfl (Nat.le_of_ble_eq_true rfl) rfl ?_
  refine g_iload_n 2 dX9_segment_28 rfl rfl ?_
  refine g_tableIn (off := 77) 106 dX9_segment_29 (by decide) (by decide) (by decide) (by decide) ?_
  refine g_aload_n 0 dX9_segment_106 rfl rfl ?_
  refine gN_getR (d + 1) flX9_10 (fun _ _ _ => rfl) 0 (hD.t) (hD.r0) dX9_segment_107 ?_
  refine gN_getR (d + 1 + 10) flX9_176 (fun _ _ _ => rfl) 0 (hD.s.t) (hD.s.r5) dX9_segment_110 ?_
  refine g_aload_n 3 dX9_segment_113 rfl rfl ?_
  refine gN_getR (q) flX9_98 (fun _ _ _ => rfl) 0 (hD.s.tS (by omega)) (hq1) dX9_segment_114 ?_
  refine gN_iconst 0 dX9_segment_117 (by decide) ?_
  refine gd_callV _ _ _ _ (cn_X3_greatestMatch0 g (0, 0) hD.s hR hz hq) ⟨rfl, rfl⟩ (ok_X3_greatestMatch _) mlX9_180 in_X3_greatestMatch se_X3_greatestMatch 3 0 (hD.s.t10) rfl rfl rfl ⟨Nat.le_of_ble_eq_true rfl, Nat.le_of_ble_eq_true rfl⟩ (by exact Nat.le_of_ble_eq_true rfl) ⟨Nat.zero_le _, Nat.zero_le _⟩ dX9_segment_118 rfl ?_
  refine g_iret rfl dX9_segment_121 ⟨Nat.zero_le _, Nat.zero_le _⟩ ?_
  exact ⟨rfl, rfl⟩
set_option maxRecDepth 100000 in
theorem cn_X9_segment04 (g : Gp) (cs : Nat × Nat) {m : Mm} {d B c : Nat} {z : Nat → Int32} (hD : DkT m d) (hR : Rp m B (d + 1) z) (hz : ZOk c z) {s : Nat} (hs : s < nv (z 0)) : Dn g (MX9_segment cs) [.ref (d), .int (nI (s)), .int (nI (4))] m (some (.int (segV z s 4))) m := by
  have hz0 := hz.n0.hi
  have hz1 := hz.n1.hi
  obtain ⟨q, hq1, hqa⟩ := hR.SR (s := s) hs
  have hq := hqa.2.2
  refine Cn.of pn_X9 (Nat.le_of_ble_eq_true rfl) rfl ?_
  refine g_iload_n 1 dX9_segment_0 rfl rfl ?_
  refine g_aload_n 0 dX9_segment_1 rfl rfl ?_
  refine gN_getR (d + 1) flX9_10 (fun _ _ _ => rfl) 0 (hD.t) (hD.r0) dX9_segment_2 ?_
  refine gN_getI flX9_68 rfl 0 (hD.s.t) dX9_segment_5 ?_
  refine g_ei (nI (nv (z 0))) (hR.c0.trans hz.n0.e) ?_
  refine gd_callS _ _ _ _ (cn_X9_checkNumber g (0, 0) (j := s) (N := nv (z 0)) (by omega) (by omega)) ⟨rfl, rfl⟩ (ok_X9_checkNumber _) mlX9_30 st_X9_checkNumber rfl ⟨Nat.le_of_ble_eq_true rfl, Nat.le_of_ble_eq_true rfl⟩ (by exact Nat.le_of_ble_eq_true rfl) ⟨Nat.zero_le _, Nat.zero_le _⟩ dX9_segment_8 rfl ?_
  refine g_iload_n 2 dX9_segment_11 rfl rfl ?_
  refine gN_iconst 0 dX9_segment_12 (by decide) ?_
  refine gN_bipush 11 dX9_segment_13 (by decide) ?_
  refine gd_callS _ _ _ _ (cn_X9_checkRange g (0, 0) ((in_inb (n := 11) (by decide)).mpr ((inb_nI (by omega)).mpr (by omega)))) ⟨rfl, rfl⟩ (ok_X9_checkRange _) mlX9_34 st_X9_checkRange rfl ⟨Nat.le_of_ble_eq_true rfl, Nat.le_of_ble_eq_true rfl⟩ (by exact Nat.le_of_ble_eq_true rfl) ⟨Nat.zero_le _, Nat.zero_le _⟩ dX9_segment_15 rfl ?_
  refine g_aload_n 0 dX9_segment_18 rfl rfl ?_
  refine gN_getR (d + 1) flX9_10 (fun _ _ _ => rfl) 0 (hD.t) (hD.r0) dX9_segment_19 ?_
  refine gN_getR (d + 1 + 5) flX9_71 (fun _ _ _ => rfl) 0 (hD.s.t) (hD.s.r4) dX9_segment_22 ?_
  refine g_iload_n 1 dX9_segment_25 rfl rfl ?_
  refine gN_aald 14 10 (d + 1 + 37 + s) (hD.s.t5) (by decide) (by first | omega | exact b01_lt _) (by first | omega | exact b01_lt _) (hD.s.rS (by omega)) dX9_segment_26 ?_
  refine g_astore_n 3 [(3, .ref (d + 1 + 37 + s)), (0, .ref (d)), (1, .int (nI (s))), (2, .int (nI (4)))] dX9_segment_27 rfl (Nat.le_of_ble_eq_true rfl) rfl ?_
  refine g_iload_n 2 dX9_segment_28 rfl rfl ?_
  refine g_tableIn (off := 93) 122 dX9_segment_29 (by decide) (by decide) (by decide) (by decide) ?_
  refine g_aload_n 0 dX9_segment_122 rfl rfl ?_
  refine gN_getR (d + 1) flX9_10 (fun _ _ _ => rfl) 0 (hD.t) (hD.r0) dX9_segment_123 ?_
  refine gN_getR (d + 1 + 10) flX9_176 (fun _ _ _ => rfl) 0 (hD.s.t) (hD.s.r5) dX9_segment_126 ?_
  refine g_aload_n 3 dX9_segment_129 rfl rfl ?_
  refine gN_getR (q) flX9_98 (fun _ _ _ => rfl) 0 (hD.s.tS (by omega)) (hq1) dX9_segment_130 ?_
  refine gd_callV _ _ _ _ (cn_X3_bestRow g (0, 0) hD.s hR hz hq) ⟨rfl, rfl⟩ (ok_X3_bestRow _) mlX9_186 in_X3_bestRow se_X3_bestRow 3 0 (hD.s.t10) rfl rfl rfl ⟨Nat.le_of_ble_eq_true rfl, Nat.le_of_ble_eq_true rfl⟩ (by exact Nat.le_of_ble_eq_true rfl) ⟨Nat.zero_le _, Nat.zero_le _⟩ dX9_segment_133 rfl ?_
  refine g_iret rfl dX9_segment_136 ⟨Nat.zero_le _, Nat.zero_le _⟩ ?_
  exact ⟨rfl, rfl⟩
set_option maxRecDepth 100000 in
theorem cn_X9_segment05 (g : Gp) (cs : Nat × Nat) {m : Mm} {d B c : Nat} {z : Nat → Int32} (hD : DkT m d) (hR : Rp m B (d + 1) z) (hz : ZOk c z) {s : Nat} (hs : s < nv (z 0)) : Dn g (MX9_segment cs) [.ref (d), .int (nI (s)), .int (nI (5))] m (some (.int (segV z s 5))) m := by
  have hz0 := hz.n0.hi
  have hz1 := hz.n1.hi
  obtain ⟨q, hq1, hqa⟩ := hR.SR (s := s) hs
  have hq := hqa.2.2
  refine Cn.of pn_X9 (Nat.le_of_ble_eq_true rfl) rfl ?_
  refine g_iload_n 1 dX9_segment_0 rfl rfl ?_
  refine g_aload_n 0 dX9_segment_1 rfl rfl ?_
  refine gN_getR (d + 1) flX9_10 (fun _ _ _ => rfl) 0 (hD.t) (hD.r0) dX9_segment_2 ?_
  refine gN_getI flX9_68 rfl 0 (hD.s.t) dX9_segment_5 ?_
  refine g_ei (nI (nv (z 0))) (hR.c0.trans hz.n0.e) ?_
  refine gd_callS _ _ _ _ (cn_X9_checkNumber g (0, 0) (j := s) (N := nv (z 0)) (by omega) (by omega)) ⟨rfl, rfl⟩ (ok_X9_checkNumber _) mlX9_30 st_X9_checkNumber rfl ⟨Nat.le_of_ble_eq_true rfl, Nat.le_of_ble_eq_true rfl⟩ (by exact Nat.le_of_ble_eq_true rfl) ⟨Nat.zero_le _, Nat.zero_le _⟩ dX9_segment_8 rfl ?_
  refine g_iload_n 2 dX9_segment_11 rfl rfl ?_
  refine gN_iconst 0 dX9_segment_12 (by decide) ?_
  refine gN_bipush 11 dX9_segment_13 (by decide) ?_
  refine gd_callS _ _ _ _ (cn_X9_checkRange g (0, 0) ((in_inb (n := 11) (by decide)).mpr ((inb_nI (by omega)).mpr (by omega)))) ⟨rfl, rfl⟩ (ok_X9_checkRange _) mlX9_34 st_X9_checkRange rfl ⟨Nat.le_of_ble_eq_true rfl, Nat.le_of_ble_eq_true rfl⟩ (by exact Nat.le_of_ble_eq_true rfl) ⟨Nat.zero_le _, Nat.zero_le _⟩ dX9_segment_15 rfl ?_
  refine g_aload_n 0 dX9_segment_18 rfl rfl ?_
  refine gN_getR (d + 1) flX9_10 (fun _ _ _ => rfl) 0 (hD.t) (hD.r0) dX9_segment_19 ?_
  refine gN_getR (d + 1 + 5) flX9_71 (fun _ _ _ => rfl) 0 (hD.s.t) (hD.s.r4) dX9_segment_22 ?_
  refine g_iload_n 1 dX9_segment_25 rfl rfl ?_
  refine gN_aald 14 10 (d + 1 + 37 + s) (hD.s.t5) (by decide) (by first | omega | exact b01_lt _) (by first | omega | exact b01_lt _) (hD.s.rS (by omega)) dX9_segment_26 ?_
  refine g_astore_n 3 [(3, .ref (d + 1 + 37 + s)), (0, .ref (d)), (1, .int (nI (s))), (2, .int (nI (5)))] dX9_segment_27 rfl (Nat.le_of_ble_eq_true rfl) rfl ?_
  refine g_iload_n 2 dX9_segment_28 rfl rfl ?_
  refine g_tableIn (off := 108) 137 dX9_segment_29 (by decide) (by decide) (by decide) (by decide) ?_
  refine g_aload_n 3 dX9_segment_137 rfl rfl ?_
  refine gN_getI flX9_91 rfl 0 (hD.s.tS (by omega)) dX9_segment_138 ?_
  refine g_eI (opn (z (79 + 22 * s + 1)) (z (79 + 22 * s + 3))) (hR.S3 (by omega)) ?_
  refine g_iret rfl dX9_segment_141 ⟨Nat.zero_le _, Nat.zero_le _⟩ ?_
  exact ⟨rfl, rfl⟩
set_option maxRecDepth 100000 in
theorem cn_X9_segment06 (g : Gp) (cs : Nat × Nat) {m : Mm} {d B c : Nat} {z : Nat → Int32} (hD : DkT m d) (hR : Rp m B (d + 1) z) (hz : ZOk c z) {s : Nat} (hs : s < nv (z 0)) : Dn g (MX9_segment cs) [.ref (d), .int (nI (s)), .int (nI (6))] m (some (.int (segV z s 6))) m := by
  have hz0 := hz.n0.hi
  have hz1 := hz.n1.hi
  obtain ⟨q, hq1, hqa⟩ := hR.SR (s := s) hs
  have hq := hqa.2.2
  refine Cn.of pn_X9 (Nat.le_of_ble_eq_true rfl) rfl ?_
  refine g_iload_n 1 dX9_segment_0 rfl rfl ?_
  refine g_aload_n 0 dX9_segment_1 rfl rfl ?_
  refine gN_getR (d + 1) flX9_10 (fun _ _ _ => rfl) 0 (hD.t) (hD.r0) dX9_segment_2 ?_
  refine gN_getI flX9_68 rfl 0 (hD.s.t) dX9_segment_5 ?_
  refine g_ei (nI (nv (z 0))) (hR.c0.trans hz.n0.e) ?_
  refine gd_callS _ _ _ _ (cn_X9_checkNumber g (0, 0) (j := s) (N := nv (z 0)) (by omega) (by omega)) ⟨rfl, rfl⟩ (ok_X9_checkNumber _) mlX9_30 st_X9_checkNumber rfl ⟨Nat.le_of_ble_eq_true rfl, Nat.le_of_ble_eq_true rfl⟩ (by exact Nat.le_of_ble_eq_true rfl) ⟨Nat.zero_le _, Nat.zero_le _⟩ dX9_segment_8 rfl ?_
  refine g_iload_n 2 dX9_segment_11 rfl rfl ?_
  refine gN_iconst 0 dX9_segment_12 (by decide) ?_
  refine gN_bipush 11 dX9_segment_13 (by decide) ?_
  refine gd_callS _ _ _ _ (cn_X9_checkRange g (0, 0) ((in_inb (n := 11) (by decide)).mpr ((inb_nI (by omega)).mpr (by omega)))) ⟨rfl, rfl⟩ (ok_X9_checkRange _) mlX9_34 st_X9_checkRange rfl ⟨Nat.le_of_ble_eq_true rfl, Nat.le_of_ble_eq_true rfl⟩ (by exact Nat.le_of_ble_eq_true rfl) ⟨Nat.zero_le _, Nat.zero_le _⟩ dX9_segment_15 rfl ?_
  refine g_aload_n 0 dX9_segment_18 rfl rfl ?_
  refine gN_getR (d + 1) flX9_10 (fun _ _ _ => rfl) 0 (hD.t) (hD.r0) dX9_segment_19 ?_
  refine gN_getR (d + 1 + 5) flX9_71 (fun _ _ _ => rfl) 0 (hD.s.t) (hD.s.r4) dX9_segment_22 ?_
  refine g_iload_n 1 dX9_segment_25 rfl rfl ?_
  refine gN_aald 14 10 (d + 1 + 37 + s) (hD.s.t5) (by decide) (by first | omega | exact b01_lt _) (by first | omega | exact b01_lt _) (hD.s.rS (by omega)) dX9_segment_26 ?_
  refine g_astore_n 3 [(3, .ref (d + 1 + 37 + s)), (0, .ref (d)), (1, .int (nI (s))), (2, .int (nI (6)))] dX9_segment_27 rfl (Nat.le_of_ble_eq_true rfl) rfl ?_
  refine g_iload_n 2 dX9_segment_28 rfl rfl ?_
  refine g_tableIn (off := 113) 142 dX9_segment_29 (by decide) (by decide) (by decide) (by decide) ?_
  refine g_aload_n 3 dX9_segment_142 rfl rfl ?_
  refine gN_getI flX9_190 rfl 0 (hD.s.tS (by omega)) dX9_segment_143 ?_
  refine g_eI (opn (z (79 + 22 * s + 1)) (z (79 + 22 * s + 4))) (hR.S4 (by omega)) ?_
  refine g_iret rfl dX9_segment_146 ⟨Nat.zero_le _, Nat.zero_le _⟩ ?_
  exact ⟨rfl, rfl⟩
set_option maxRecDepth 100000 in
theorem cn_X9_segment07 (g : Gp) (cs : Nat × Nat) {m : Mm} {d B c : Nat} {z : Nat → Int32} (hD : DkT m d) (hR : Rp m B (d + 1) z) (hz : ZOk c z) {s : Nat} (hs : s < nv (z 0)) : Dn g (MX9_segment cs) [.ref (d), .int (nI (s)), .int (nI (7))] m (some (.int (segV z s 7))) m := by
  have hz0 := hz.n0.hi
  have hz1 := hz.n1.hi
  obtain ⟨q, hq1, hqa⟩ := hR.SR (s := s) hs
  have hq := hqa.2.2
  refine Cn.of pn_X9 (Nat.le_of_ble_eq_true rfl) rfl ?_
  refine g_iload_n 1 dX9_segment_0 rfl rfl ?_
  refine g_aload_n 0 dX9_segment_1 rfl rfl ?_
  refine gN_getR (d + 1) flX9_10 (fun _ _ _ => rfl) 0 (hD.t) (hD.r0) dX9_segment_2 ?_
  refine gN_getI flX9_68 rfl 0 (hD.s.t) dX9_segment_5 ?_
  refine g_ei (nI (nv (z 0))) (hR.c0.trans hz.n0.e) ?_
  refine gd_callS _ _ _ _ (cn_X9_checkNumber g (0, 0) (j := s) (N := nv (z 0)) (by omega) (by omega)) ⟨rfl, rfl⟩ (ok_X9_checkNumber _) mlX9_30 st_X9_checkNumber rfl ⟨Nat.le_of_ble_eq_true rfl, Nat.le_of_ble_eq_true rfl⟩ (by exact Nat.le_of_ble_eq_true rfl) ⟨Nat.zero_le _, Nat.zero_le _⟩ dX9_segment_8 rfl ?_
  refine g_iload_n 2 dX9_segment_11 rfl rfl ?_
  refine gN_iconst 0 dX9_segment_12 (by decide) ?_
  refine gN_bipush 11 dX9_segment_13 (by decide) ?_
  refine gd_callS _ _ _ _ (cn_X9_checkRange g (0, 0) ((in_inb (n := 11) (by decide)).mpr ((inb_nI (by omega)).mpr (by omega)))) ⟨rfl, rfl⟩ (ok_X9_checkRange _) mlX9_34 st_X9_checkRange rfl ⟨Nat.le_of_ble_eq_true rfl, Nat.le_of_ble_eq_true rfl⟩ (by exact Nat.le_of_ble_eq_true rfl) ⟨Nat.zero_le _, Nat.zero_le _⟩ dX9_segment_15 rfl ?_
  refine g_aload_n 0 dX9_segment_18 rfl rfl ?_
  refine gN_getR (d + 1) flX9_10 (fun _ _ _ => rfl) 0 (hD.t) (hD.r0) dX9_segment_19 ?_
  refine gN_getR (d + 1 + 5) flX9_71 (fun _ _ _ => rfl) 0 (hD.s.t) (hD.s.r4) dX9_segment_22 ?_
  refine g_iload_n 1 dX9_segment_25 rfl rfl ?_
  refine gN_aald 14 10 (d + 1 + 37 + s) (hD.s.t5) (by decide) (by first | omega | exact b01_lt _) (by first | omega | exact b01_lt _) (hD.s.rS (by omega)) dX9_segment_26 ?_
  refine g_astore_n 3 [(3, .ref (d + 1 + 37 + s)), (0, .ref (d)), (1, .int (nI (s))), (2, .int (nI (7)))] dX9_segment_27 rfl (Nat.le_of_ble_eq_true rfl) rfl ?_
  refine g_iload_n 2 dX9_segment_28 rfl rfl ?_
  refine g_tableIn (off := 118) 147 dX9_segment_29 (by decide) (by decide) (by decide) (by decide) ?_
  refine g_aload_n 3 dX9_segment_147 rfl rfl ?_
  refine gN_getI flX9_109 rfl 0 (hD.s.tS (by omega)) dX9_segment_148 ?_
  refine g_eI (z (79 + 22 * s + 5)) (hR.S5 (by omega)) ?_
  refine g_iret rfl dX9_segment_151 ⟨Nat.zero_le _, Nat.zero_le _⟩ ?_
  exact ⟨rfl, rfl⟩
set_option maxRecDepth 100000 in
theorem cn_X9_segment08 (g : Gp) (cs : Nat × Nat) {m : Mm} {d B c : Nat} {z : Nat → Int32} (hD : DkT m d) (hR : Rp m B (d + 1) z) (hz : ZOk c z) {s : Nat} (hs : s < nv (z 0)) : Dn g (MX9_segment cs) [.ref (d), .int (nI (s)), .int (nI (8))] m (some (.int (segV z s 8))) m := by
  have hz0 := hz.n0.hi
  have hz1 := hz.n1.hi
  obtain ⟨q, hq1, hqa⟩ := hR.SR (s := s) hs
  have hq := hqa.2.2
  refine Cn.of pn_X9 (Nat.le_of_ble_eq_true rfl) rfl ?_
  refine g_iload_n 1 dX9_segment_0 rfl rfl ?_
  refine g_aload_n 0 dX9_segment_1 rfl rfl ?_
  refine gN_getR (d + 1) flX9_10 (fun _ _ _ => rfl) 0 (hD.t) (hD.r0) dX9_segment_2 ?_
  refine gN_getI flX9_68 rfl 0 (hD.s.t) dX9_segment_5 ?_
  refine g_ei (nI (nv (z 0))) (hR.c0.trans hz.n0.e) ?_
  refine gd_callS _ _ _ _ (cn_X9_checkNumber g (0, 0) (j := s) (N := nv (z 0)) (by omega) (by omega)) ⟨rfl, rfl⟩ (ok_X9_checkNumber _) mlX9_30 st_X9_checkNumber rfl ⟨Nat.le_of_ble_eq_true rfl, Nat.le_of_ble_eq_true rfl⟩ (by exact Nat.le_of_ble_eq_true rfl) ⟨Nat.zero_le _, Nat.zero_le _⟩ dX9_segment_8 rfl ?_
  refine g_iload_n 2 dX9_segment_11 rfl rfl ?_
  refine gN_iconst 0 dX9_segment_12 (by decide) ?_
  refine gN_bipush 11 dX9_segment_13 (by decide) ?_
  refine gd_callS _ _ _ _ (cn_X9_checkRange g (0, 0) ((in_inb (n := 11) (by decide)).mpr ((inb_nI (by omega)).mpr (by omega)))) ⟨rfl, rfl⟩ (ok_X9_checkRange _) mlX9_34 st_X9_checkRange rfl ⟨Nat.le_of_ble_eq_true rfl, Nat.le_of_ble_eq_true rfl⟩ (by exact Nat.le_of_ble_eq_true rfl) ⟨Nat.zero_le _, Nat.zero_le _⟩ dX9_segment_15 rfl ?_
  refine g_aload_n 0 dX9_segment_18 rfl rfl ?_
  refine gN_getR (d + 1) flX9_10 (fun _ _ _ => rfl) 0 (hD.t) (hD.r0) dX9_segment_19 ?_
  refine gN_getR (d + 1 + 5) flX9_71 (fun _ _ _ => rfl) 0 (hD.s.t) (hD.s.r4) dX9_segment_22 ?_
  refine g_iload_n 1 dX9_segment_25 rfl rfl ?_
  refine gN_aald 14 10 (d + 1 + 37 + s) (hD.s.t5) (by decide) (by first | omega | exact b01_lt _) (by first | omega | exact b01_lt _) (hD.s.rS (by omega)) dX9_segment_26 ?_
  refine g_astore_n 3 [(3, .ref (d + 1 + 37 + s)), (0, .ref (d)), (1, .int (nI (s))), (2, .int (nI (8)))] dX9_segment_27 rfl (Nat.le_of_ble_eq_true rfl) rfl ?_
  refine g_iload_n 2 dX9_segment_28 rfl rfl ?_
  refine g_tableIn (off := 123) 152 dX9_segment_29 (by decide) (by decide) (by decide) (by decide) ?_
  refine g_aload_n 3 dX9_segment_152 rfl rfl ?_
  refine gN_getI flX9_191 rfl 0 (hD.s.tS (by omega)) dX9_segment_153 ?_
  refine g_eI (z (79 + 22 * s + 6)) (hR.S6 (by omega)) ?_
  refine g_iret rfl dX9_segment_156 ⟨Nat.zero_le _, Nat.zero_le _⟩ ?_
  exact ⟨rfl, rfl⟩
set_option maxRecDepth 100000 in
theorem cn_X9_segment09 (g : Gp) (cs : Nat × Nat) {m : Mm} {d B c : Nat} {z : Nat → Int32} (hD : DkT m d) (hR : Rp m B (d + 1) z) (hz : ZOk c z) {s : Nat} (hs : s < nv (z 0)) : Dn g (MX9_segment cs) [.ref (d), .int (nI (s)), .int (nI (9))] m (some (.int (segV z s 9))) m := by
  have hz0 := hz.n0.hi
  have hz1 := hz.n1.hi
  obtain ⟨q, hq1, hqa⟩ := hR.SR (s := s) hs
  have hq := hqa.2.2
  refine Cn.of pn_X9 (Nat.le_of_ble_eq_true rfl) rfl ?_
  refine g_iload_n 1 dX9_segment_0 rfl rfl ?_
  refine g_aload_n 0 dX9_segment_1 rfl rfl ?_
  refine gN_getR (d + 1) flX9_10 (fun _ _ _ => rfl) 0 (hD.t) (hD.r0) dX9_segment_2 ?_
  refine gN_getI flX9_68 rfl 0 (hD.s.t) dX9_segment_5 ?_
  refine g_ei (nI (nv (z 0))) (hR.c0.trans hz.n0.e) ?_
  refine gd_callS _ _ _ _ (cn_X9_checkNumber g (0, 0) (j := s) (N := nv (z 0)) (by omega) (by omega)) ⟨rfl, rfl⟩ (ok_X9_checkNumber _) mlX9_30 st_X9_checkNumber rfl ⟨Nat.le_of_ble_eq_true rfl, Nat.le_of_ble_eq_true rfl⟩ (by exact Nat.le_of_ble_eq_true rfl) ⟨Nat.zero_le _, Nat.zero_le _⟩ dX9_segment_8 rfl ?_
  refine g_iload_n 2 dX9_segment_11 rfl rfl ?_
  refine gN_iconst 0 dX9_segment_12 (by decide) ?_
  refine gN_bipush 11 dX9_segment_13 (by decide) ?_
  refine gd_callS _ _ _ _ (cn_X9_checkRange g (0, 0) ((in_inb (n := 11) (by decide)).mpr ((inb_nI (by omega)).mpr (by omega)))) ⟨rfl, rfl⟩ (ok_X9_checkRange _) mlX9_34 st_X9_checkRange rfl ⟨Nat.le_of_ble_eq_true rfl, Nat.le_of_ble_eq_true rfl⟩ (by exact Nat.le_of_ble_eq_true rfl) ⟨Nat.zero_le _, Nat.zero_le _⟩ dX9_segment_15 rfl ?_
  refine g_aload_n 0 dX9_segment_18 rfl rfl ?_
  refine gN_getR (d + 1) flX9_10 (fun _ _ _ => rfl) 0 (hD.t) (hD.r0) dX9_segment_19 ?_
  refine gN_getR (d + 1 + 5) flX9_71 (fun _ _ _ => rfl) 0 (hD.s.t) (hD.s.r4) dX9_segment_22 ?_
  refine g_iload_n 1 dX9_segment_25 rfl rfl ?_
  refine gN_aald 14 10 (d + 1 + 37 + s) (hD.s.t5) (by decide) (by first | omega | exact b01_lt _) (by first | omega | exact b01_lt _) (hD.s.rS (by omega)) dX9_segment_26 ?_
  refine g_astore_n 3 [(3, .ref (d + 1 + 37 + s)), (0, .ref (d)), (1, .int (nI (s))), (2, .int (nI (9)))] dX9_segment_27 rfl (Nat.le_of_ble_eq_true rfl) rfl ?_
  refine g_iload_n 2 dX9_segment_28 rfl rfl ?_
  refine g_tableIn (off := 128) 157 dX9_segment_29 (by decide) (by decide) (by decide) (by decide) ?_
  refine g_aload_n 3 dX9_segment_157 rfl rfl ?_
  refine gN_getI flX9_194 rfl 0 (hD.s.tS (by omega)) dX9_segment_158 ?_
  refine g_eI (z (79 + 22 * s + 7)) (hR.S7 (by omega)) ?_
  refine g_iret rfl dX9_segment_161 ⟨Nat.zero_le _, Nat.zero_le _⟩ ?_
  exact ⟨rfl, rfl⟩
set_option maxRecDepth 100000 in
theorem cn_X9_segment010 (g : Gp) (cs : Nat × Nat) {m : Mm} {d B c : Nat} {z : Nat → Int32} (hD : DkT m d) (hR : Rp m B (d + 1) z) (hz : ZOk c z) {s : Nat} (hs : s < nv (z 0)) : Dn g (MX9_segment cs) [.ref (d), .int (nI (s)), .int (nI (10))] m (some (.int (segV z s 10))) m := by
  have hz0 := hz.n0.hi
  have hz1 := hz.n1.hi
  obtain ⟨q, hq1, hqa⟩ := hR.SR (s := s) hs
  have hq := hqa.2.2
  refine Cn.of pn_X9 (Nat.le_of_ble_eq_true rfl) rfl ?_
  refine g_iload_n 1 dX9_segment_0 rfl rfl ?_
  refine g_aload_n 0 dX9_segment_1 rfl rfl ?_
  refine gN_getR (d + 1) flX9_10 (fun _ _ _ => rfl) 0 (hD.t) (hD.r0) dX9_segment_2 ?_
  refine gN_getI flX9_68 rfl 0 (hD.s.t) dX9_segment_5 ?_
  refine g_ei (nI (nv (z 0))) (hR.c0.trans hz.n0.e) ?_
  refine gd_callS _ _ _ _ (cn_X9_checkNumber g (0, 0) (j := s) (N := nv (z 0)) (by omega) (by omega)) ⟨rfl, rfl⟩ (ok_X9_checkNumber _) mlX9_30 st_X9_checkNumber rfl ⟨Nat.le_of_ble_eq_true rfl, Nat.le_of_ble_eq_true rfl⟩ (by exact Nat.le_of_ble_eq_true rfl) ⟨Nat.zero_le _, Nat.zero_le _⟩ dX9_segment_8 rfl ?_
  refine g_iload_n 2 dX9_segment_11 rfl rfl ?_
  refine gN_iconst 0 dX9_segment_12 (by decide) ?_
  refine gN_bipush 11 dX9_segment_13 (by decide) ?_
  refine gd_callS _ _ _ _ (cn_X9_checkRange g (0, 0) ((in_inb (n := 11) (by decide)).mpr ((inb_nI (by omega)).mpr (by omega)))) ⟨rfl, rfl⟩ (ok_X9_checkRange _) mlX9_34 st_X9_checkRange rfl ⟨Nat.le_of_ble_eq_true rfl, Nat.le_of_ble_eq_true rfl⟩ (by exact Nat.le_of_ble_eq_true rfl) ⟨Nat.zero_le _, Nat.zero_le _⟩ dX9_segment_15 rfl ?_
  refine g_aload_n 0 dX9_segment_18 rfl rfl ?_
  refine gN_getR (d + 1) flX9_10 (fun _ _ _ => rfl) 0 (hD.t) (hD.r0) dX9_segment_19 ?_
  refine gN_getR (d + 1 + 5) flX9_71 (fun _ _ _ => rfl) 0 (hD.s.t) (hD.s.r4) dX9_segment_22 ?_
  refine g_iload_n 1 dX9_segment_25 rfl rfl ?_
  refine gN_aald 14 10 (d + 1 + 37 + s) (hD.s.t5) (by decide) (by first | omega | exact b01_lt _) (by first | omega | exact b01_lt _) (hD.s.rS (by omega)) dX9_segment_26 ?_
  refine g_astore_n 3 [(3, .ref (d + 1 + 37 + s)), (0, .ref (d)), (1, .int (nI (s))), (2, .int (nI (10)))] dX9_segment_27 rfl (Nat.le_of_ble_eq_true rfl) rfl ?_
  refine g_iload_n 2 dX9_segment_28 rfl rfl ?_
  refine g_tableIn (off := 133) 162 dX9_segment_29 (by decide) (by decide) (by decide) (by decide) ?_
  refine g_aload_n 3 dX9_segment_162 rfl rfl ?_
  refine gN_getI flX9_197 rfl 0 (hD.s.tS (by omega)) dX9_segment_163 ?_
  refine g_eI (z (79 + 22 * s + 8)) (hR.S8 (by omega)) ?_
  refine g_iret rfl dX9_segment_166 ⟨Nat.zero_le _, Nat.zero_le _⟩ ?_
  exact ⟨rfl, rfl⟩
set_option maxRecDepth 100000 in
theorem cn_X9_segment011 (g : Gp) (cs : Nat × Nat) {m : Mm} {d B c : Nat} {z : Nat → Int32} (hD : DkT m d) (hR : Rp m B (d + 1) z) (hz : ZOk c z) {s : Nat} (hs : s < nv (z 0)) : Dn g (MX9_segment cs) [.ref (d), .int (nI (s)), .int (nI (11))] m (some (.int (segV z s 11))) m := by
  have hz0 := hz.n0.hi
  have hz1 := hz.n1.hi
  obtain ⟨q, hq1, hqa⟩ := hR.SR (s := s) hs
  have hq := hqa.2.2
  refine Cn.of pn_X9 (Nat.le_of_ble_eq_true rfl) rfl ?_
  refine g_iload_n 1 dX9_segment_0 rfl rfl ?_
  refine g_aload_n 0 dX9_segment_1 rfl rfl ?_
  refine gN_getR (d + 1) flX9_10 (fun _ _ _ => rfl) 0 (hD.t) (hD.r0) dX9_segment_2 ?_
  refine gN_getI flX9_68 rfl 0 (hD.s.t) dX9_segment_5 ?_
  refine g_ei (nI (nv (z 0))) (hR.c0.trans hz.n0.e) ?_
  refine gd_callS _ _ _ _ (cn_X9_checkNumber g (0, 0) (j := s) (N := nv (z 0)) (by omega) (by omega)) ⟨rfl, rfl⟩ (ok_X9_checkNumber _) mlX9_30 st_X9_checkNumber rfl ⟨Nat.le_of_ble_eq_true rfl, Nat.le_of_ble_eq_true rfl⟩ (by exact Nat.le_of_ble_eq_true rfl) ⟨Nat.zero_le _, Nat.zero_le _⟩ dX9_segment_8 rfl ?_
  refine g_iload_n 2 dX9_segment_11 rfl rfl ?_
  refine gN_iconst 0 dX9_segment_12 (by decide) ?_
  refine gN_bipush 11 dX9_segment_13 (by decide) ?_
  refine gd_callS _ _ _ _ (cn_X9_checkRange g (0, 0) ((in_inb (n := 11) (by decide)).mpr ((inb_nI (by omega)).mpr (by omega)))) ⟨rfl, rfl⟩ (ok_X9_checkRange _) mlX9_34 st_X9_checkRange rfl ⟨Nat.le_of_ble_eq_true rfl, Nat.le_of_ble_eq_true rfl⟩ (by exact Nat.le_of_ble_eq_true rfl) ⟨Nat.zero_le _, Nat.zero_le _⟩ dX9_segment_15 rfl ?_
  refine g_aload_n 0 dX9_segment_18 rfl rfl ?_
  refine gN_getR (d + 1) flX9_10 (fun _ _ _ => rfl) 0 (hD.t) (hD.r0) dX9_segment_19 ?_
  refine gN_getR (d + 1 + 5) flX9_71 (fun _ _ _ => rfl) 0 (hD.s.t) (hD.s.r4) dX9_segment_22 ?_
  refine g_iload_n 1 dX9_segment_25 rfl rfl ?_
  refine gN_aald 14 10 (d + 1 + 37 + s) (hD.s.t5) (by decide) (by first | omega | exact b01_lt _) (by first | omega | exact b01_lt _) (hD.s.rS (by omega)) dX9_segment_26 ?_
  refine g_astore_n 3 [(3, .ref (d + 1 + 37 + s)), (0, .ref (d)), (1, .int (nI (s))), (2, .int (nI (11)))] dX9_segment_27 rfl (Nat.le_of_ble_eq_true rfl) rfl ?_
  refine g_iload_n 2 dX9_segment_28 rfl rfl ?_
  refine g_tableOut 167 dX9_segment_29 (by decide) (by decide) ?_
  refine g_aload_n 0 dX9_segment_167 rfl rfl ?_
  refine gN_getR (d + 1) flX9_10 (fun _ _ _ => rfl) 0 (hD.t) (hD.r0) dX9_segment_168 ?_
  refine g_aload_n 3 dX9_segment_171 rfl rfl ?_
  refine gN_getR (q) flX9_98 (fun _ _ _ => rfl) 0 (hD.s.tS (by omega)) (hq1) dX9_segment_172 ?_
  refine gd_callV _ _ _ _ (cn_X6_hasDispute g (0, 0) hD.s hR hz hq) ⟨rfl, rfl⟩ (ok_X6_hasDispute _) mlX9_102 in_X6_hasDispute se_X6_hasDispute 6 0 (hD.s.t) rfl rfl rfl ⟨Nat.le_of_ble_eq_true rfl, Nat.le_of_ble_eq_true rfl⟩ (by exact Nat.le_of_ble_eq_true rfl) ⟨Nat.zero_le _, Nat.zero_le _⟩ dX9_segment_175 rfl ?_
  refine gd_callS _ _ _ _ (cn_X9_oneIf g (0, 0) (hdp z (79 + 22 * s))) ⟨rfl, rfl⟩ (ok_X9_oneIf _) mlX9_200 st_X9_oneIf rfl ⟨Nat.le_of_ble_eq_true rfl, Nat.le_of_ble_eq_true rfl⟩ (by exact Nat.le_of_ble_eq_true rfl) ⟨Nat.zero_le _, Nat.zero_le _⟩ dX9_segment_178 rfl ?_
  refine g_iret rfl dX9_segment_181 ⟨Nat.zero_le _, Nat.zero_le _⟩ ?_
  exact ⟨rfl, rfl⟩
theorem cn_X9_segment (g : Gp) (cs : Nat × Nat) {m : Mm} {d B c : Nat} {z : Nat → Int32} (hD : DkT m d) (hR : Rp m B (d + 1) z) (hz : ZOk c z) {s : Nat} (hs : s < nv (z 0)) {w : Nat} (hw : w ≤ 11) : Dn g (MX9_segment cs) [.ref d, .int (nI s), .int (nI w)] m (some (.int (segV z s w))) m := by
  rcases (show w = 0 ∨ w = 1 ∨ w = 2 ∨ w = 3 ∨ w = 4 ∨ w = 5 ∨ w = 6 ∨ w = 7 ∨ w = 8 ∨ w = 9 ∨ w = 10 ∨ w = 11 by omega) with rfl | rfl | rfl | rfl | rfl | rfl | rfl | rfl | rfl | rfl | rfl | rfl
  · exact cn_X9_segment00 g cs hD hR hz hs
  · exact cn_X9_segment01 g cs hD hR hz hs
  · exact cn_X9_segment02 g cs hD hR hz hs
  · exact cn_X9_segment03 g cs hD hR hz hs
  · exact cn_X9_segment04 g cs hD hR hz hs
  · exact cn_X9_segment05 g cs hD hR hz hs
  · exact cn_X9_segment06 g cs hD hR hz hs
  · exact cn_X9_segment07 g cs hD hR hz hs
  · exact cn_X9_segment08 g cs hD hR hz hs
  · exact cn_X9_segment09 g cs hD hR hz hs
  · exact cn_X9_segment010 g cs hD hR hz hs
  · exact cn_X9_segment011 g cs hD hR hz hs
set_option maxRecDepth 100000 in
theorem cx_X9_word_1 (g : Gp) (cs : Nat × Nat) {m : Mm} {d B c : Nat} {z : Nat → Int32} (hD : DkT m d) (hR : Rp m B (d + 1) z) (hz : ZOk c z) {p x : Int32} (h : ¬ inb p (nv (z 0))) : Xn g (MX9_word (1, 6)) [.ref (d), .int (p), .int (x)] m "java/lang/IndexOutOfBoundsException" := by
  have hz0 := hz.n0.hi
  have hz1 := hz.n1.hi
  refine Cn.of pn_X9 (Nat.le_of_ble_eq_true rfl) rfl ?_
  refine g_iload_n 1 dX9_word_0 rfl rfl ?_
  refine g_aload_n 0 dX9_word_1 rfl rfl ?_
  refine gN_getR (d + 1) flX9_10 (fun _ _ _ => rfl) 0 (hD.t) (hD.r0) dX9_word_2 ?_
  refine gN_getI flX9_68 rfl 0 (hD.s.t) dX9_word_5 ?_
  refine g_ei (nI (nv (z 0))) (hR.c0.trans hz.n0.e) ?_
  exact gx_callS _ _ (cx_X9_checkNumber g (0, 0) (N := nv (z 0)) (by omega) (h)) (ok_X9_checkNumber _) mlX9_30 st_X9_checkNumber rfl ⟨Nat.le_of_ble_eq_true rfl, Nat.le_of_ble_eq_true rfl⟩ (by exact Nat.le_of_ble_eq_true rfl) ⟨Nat.le_of_ble_eq_true rfl, Nat.le_of_ble_eq_true rfl⟩ dX9_word_8 rfl (fun n hn => ⟨rfl, n, hn, rfl⟩)
set_option maxRecDepth 100000 in
theorem cx_X9_word_2 (g : Gp) (cs : Nat × Nat) {m : Mm} {d B c : Nat} {z : Nat → Int32} (hD : DkT m d) (hR : Rp m B (d + 1) z) (hz : ZOk c z) {s : Nat} (hs : s < nv (z 0)) {x : Int32} (h : ¬ inb x 12) : Xn g (MX9_word (1, 6)) [.ref (d), .int (nI (s)), .int (x)] m "java/lang/IllegalArgumentException" := by
  have hz0 := hz.n0.hi
  have hz1 := hz.n1.hi
  refine Cn.of pn_X9 (Nat.le_of_ble_eq_true rfl) rfl ?_
  refine g_iload_n 1 dX9_word_0 rfl rfl ?_
  refine g_aload_n 0 dX9_word_1 rfl rfl ?_
  refine gN_getR (d + 1) flX9_10 (fun _ _ _ => rfl) 0 (hD.t) (hD.r0) dX9_word_2 ?_
  refine gN_getI flX9_68 rfl 0 (hD.s.t) dX9_word_5 ?_
  refine g_ei (nI (nv (z 0))) (hR.c0.trans hz.n0.e) ?_
  refine gd_callS _ _ _ _ (cn_X9_checkNumber g (0, 0) (j := s) (N := nv (z 0)) (by omega) (by omega)) ⟨rfl, rfl⟩ (ok_X9_checkNumber _) mlX9_30 st_X9_checkNumber rfl ⟨Nat.le_of_ble_eq_true rfl, Nat.le_of_ble_eq_true rfl⟩ (by exact Nat.le_of_ble_eq_true rfl) ⟨Nat.zero_le _, Nat.zero_le _⟩ dX9_word_8 rfl ?_
  refine g_iload_n 2 dX9_word_11 rfl rfl ?_
  refine gN_iconst 0 dX9_word_12 (by decide) ?_
  refine gN_bipush 11 dX9_word_13 (by decide) ?_
  exact gx_callS _ _ (cx_X9_checkRange g (0, 0) (fun q => h ((in_inb (n := 11) (by decide)).mp q))) (ok_X9_checkRange _) mlX9_34 st_X9_checkRange rfl ⟨Nat.le_of_ble_eq_true rfl, Nat.le_of_ble_eq_true rfl⟩ (by exact Nat.le_of_ble_eq_true rfl) ⟨Nat.le_of_ble_eq_true rfl, Nat.le_of_ble_eq_true rfl⟩ dX9_word_15 rfl (fun n hn => ⟨rfl, n, hn, rfl⟩)
set_option maxRecDepth 100000 in
theorem cn_X9_word (g : Gp) (cs : Nat × Nat) {m : Mm} {d B c : Nat} {z : Nat → Int32} (hD : DkT m d) (hR : Rp m B (d + 1) z) (hz : ZOk c z) {s : Nat} (hs : s < nv (z 0)) {w : Nat} (hw : w ≤ 11) : Dn g (MX9_word cs) [.ref (d), .int (nI (s)), .int (nI (w))] m (some (.int (wrdV z (79 + 22 * s) w))) m := by
  have hz0 := hz.n0.hi
  have hz1 := hz.n1.hi
  obtain ⟨q, hq1, hqa⟩ := hR.SR (s := s) hs
  have hq := hqa.2.2
  refine Cn.of pn_X9 (Nat.le_of_ble_eq_true rfl) rfl ?_
  refine g_iload_n 1 dX9_word_0 rfl rfl ?_
  refine g_aload_n 0 dX9_word_1 rfl rfl ?_
  refine gN_getR (d + 1) flX9_10 (fun _ _ _ => rfl) 0 (hD.t) (hD.r0) dX9_word_2 ?_
  refine gN_getI flX9_68 rfl 0 (hD.s.t) dX9_word_5 ?_
  refine g_ei (nI (nv (z 0))) (hR.c0.trans hz.n0.e) ?_
  refine gd_callS _ _ _ _ (cn_X9_checkNumber g (0, 0) (j := s) (N := nv (z 0)) (by omega) (by omega)) ⟨rfl, rfl⟩ (ok_X9_checkNumber _) mlX9_30 st_X9_checkNumber rfl ⟨Nat.le_of_ble_eq_true rfl, Nat.le_of_ble_eq_true rfl⟩ (by exact Nat.le_of_ble_eq_true rfl) ⟨Nat.zero_le _, Nat.zero_le _⟩ dX9_word_8 rfl ?_
  refine g_iload_n 2 dX9_word_11 rfl rfl ?_
  refine gN_iconst 0 dX9_word_12 (by decide) ?_
  refine gN_bipush 11 dX9_word_13 (by decide) ?_
  refine gd_callS _ _ _ _ (cn_X9_checkRange g (0, 0) ((in_inb (n := 11) (by decide)).mpr ((inb_nI (by omega)).mpr (by omega)))) ⟨rfl, rfl⟩ (ok_X9_checkRange _) mlX9_34 st_X9_checkRange rfl ⟨Nat.le_of_ble_eq_true rfl, Nat.le_of_ble_eq_true rfl⟩ (by exact Nat.le_of_ble_eq_true rfl) ⟨Nat.zero_le _, Nat.zero_le _⟩ dX9_word_15 rfl ?_
  refine g_aload_n 0 dX9_word_18 rfl rfl ?_
  refine gN_getR (d + 1) flX9_10 (fun _ _ _ => rfl) 0 (hD.t) (hD.r0) dX9_word_19 ?_
  refine gN_getR (d + 1 + 5) flX9_71 (fun _ _ _ => rfl) 0 (hD.s.t) (hD.s.r4) dX9_word_22 ?_
  refine g_iload_n 1 dX9_word_25 rfl rfl ?_
  refine gN_aald 14 10 (d + 1 + 37 + s) (hD.s.t5) (by decide) (by first | omega | exact b01_lt _) (by first | omega | exact b01_lt _) (hD.s.rS (by omega)) dX9_word_26 ?_
  refine gN_getR (q) flX9_98 (fun _ _ _ => rfl) 0 (hD.s.tS (by omega)) (hq1) dX9_word_27 ?_
  refine g_iload_n 2 dX9_word_30 rfl rfl ?_
  refine gd_callV _ _ _ _ (cn_X4_wordAt g (0, 0) hq (p := w) (by omega)) ⟨rfl, rfl⟩ (ok_X4_wordAt _) mlX9_204 in_X4_wordAt se_X4_wordAt 4 0 (hq.t) rfl rfl rfl ⟨Nat.le_of_ble_eq_true rfl, Nat.le_of_ble_eq_true rfl⟩ (by exact Nat.le_of_ble_eq_true rfl) ⟨Nat.zero_le _, Nat.zero_le _⟩ dX9_word_31 rfl ?_
  refine g_iret rfl dX9_word_34 ⟨Nat.zero_le _, Nat.zero_le _⟩ ?_
  exact ⟨rfl, rfl⟩
set_option maxRecDepth 100000 in
theorem cx_X9_remembered_1 (g : Gp) (cs : Nat × Nat) {m : Mm} {d B c : Nat} {z : Nat → Int32} (hD : DkT m d) (hR : Rp m B (d + 1) z) (hz : ZOk c z) {p x : Int32} (h : ¬ inb p (nv (z 1))) : Xn g (MX9_remembered (1, 6)) [.ref (d), .int (p), .int (x)] m "java/lang/IndexOutOfBoundsException" := by
  have hz0 := hz.n0.hi
  have hz1 := hz.n1.hi
  refine Cn.of pn_X9 (Nat.le_of_ble_eq_true rfl) rfl ?_
  refine g_iload_n 1 dX9_remembered_0 rfl rfl ?_
  refine g_aload_n 0 dX9_remembered_1 rfl rfl ?_
  refine gN_getR (d + 1) flX9_10 (fun _ _ _ => rfl) 0 (hD.t) (hD.r0) dX9_remembered_2 ?_
  refine gN_getR (d + 1 + 10) flX9_176 (fun _ _ _ => rfl) 0 (hD.s.t) (hD.s.r5) dX9_remembered_5 ?_
  refine gN_getI flX9_207 rfl 0 (hD.s.t10) dX9_remembered_8 ?_
  refine g_ei (nI (nv (z 1))) (hR.c1.trans hz.n1.e) ?_
  exact gx_callS _ _ (cx_X9_checkNumber g (0, 0) (N := nv (z 1)) (by omega) (h)) (ok_X9_checkNumber _) mlX9_30 st_X9_checkNumber rfl ⟨Nat.le_of_ble_eq_true rfl, Nat.le_of_ble_eq_true rfl⟩ (by exact Nat.le_of_ble_eq_true rfl) ⟨Nat.le_of_ble_eq_true rfl, Nat.le_of_ble_eq_true rfl⟩ dX9_remembered_11 rfl (fun n hn => ⟨rfl, n, hn, rfl⟩)
set_option maxRecDepth 100000 in
theorem cx_X9_remembered_2 (g : Gp) (cs : Nat × Nat) {m : Mm} {d B c : Nat} {z : Nat → Int32} (hD : DkT m d) (hR : Rp m B (d + 1) z) (hz : ZOk c z) {r : Nat} (hr : r < nv (z 1)) {x : Int32} (h : ¬ inb x 12) : Xn g (MX9_remembered (1, 6)) [.ref (d), .int (nI (r)), .int (x)] m "java/lang/IllegalArgumentException" := by
  have hz0 := hz.n0.hi
  have hz1 := hz.n1.hi
  refine Cn.of pn_X9 (Nat.le_of_ble_eq_true rfl) rfl ?_
  refine g_iload_n 1 dX9_remembered_0 rfl rfl ?_
  refine g_aload_n 0 dX9_remembered_1 rfl rfl ?_
  refine gN_getR (d + 1) flX9_10 (fun _ _ _ => rfl) 0 (hD.t) (hD.r0) dX9_remembered_2 ?_
  refine gN_getR (d + 1 + 10) flX9_176 (fun _ _ _ => rfl) 0 (hD.s.t) (hD.s.r5) dX9_remembered_5 ?_
  refine gN_getI flX9_207 rfl 0 (hD.s.t10) dX9_remembered_8 ?_
  refine g_ei (nI (nv (z 1))) (hR.c1.trans hz.n1.e) ?_
  refine gd_callS _ _ _ _ (cn_X9_checkNumber g (0, 0) (j := r) (N := nv (z 1)) (by omega) (by omega)) ⟨rfl, rfl⟩ (ok_X9_checkNumber _) mlX9_30 st_X9_checkNumber rfl ⟨Nat.le_of_ble_eq_true rfl, Nat.le_of_ble_eq_true rfl⟩ (by exact Nat.le_of_ble_eq_true rfl) ⟨Nat.zero_le _, Nat.zero_le _⟩ dX9_remembered_11 rfl ?_
  refine g_iload_n 2 dX9_remembered_14 rfl rfl ?_
  refine gN_iconst 0 dX9_remembered_15 (by decide) ?_
  refine gN_bipush 11 dX9_remembered_16 (by decide) ?_
  exact gx_callS _ _ (cx_X9_checkRange g (0, 0) (fun q => h ((in_inb (n := 11) (by decide)).mp q))) (ok_X9_checkRange _) mlX9_34 st_X9_checkRange rfl ⟨Nat.le_of_ble_eq_true rfl, Nat.le_of_ble_eq_true rfl⟩ (by exact Nat.le_of_ble_eq_true rfl) ⟨Nat.le_of_ble_eq_true rfl, Nat.le_of_ble_eq_true rfl⟩ dX9_remembered_18 rfl (fun n hn => ⟨rfl, n, hn, rfl⟩)
set_option maxRecDepth 100000 in
theorem cn_X9_remembered (g : Gp) (cs : Nat × Nat) {m : Mm} {d B c : Nat} {z : Nat → Int32} (hD : DkT m d) (hR : Rp m B (d + 1) z) (hz : ZOk c z) {r : Nat} (hr : r < nv (z 1)) {w : Nat} (hw : w ≤ 11) : Dn g (MX9_remembered cs) [.ref (d), .int (nI (r)), .int (nI (w))] m (some (.int (remV z r w))) m := by
  have hz0 := hz.n0.hi
  have hz1 := hz.n1.hi
  obtain ⟨q, hq1, hqa⟩ := hR.M (r := r) hr
  have hq := hqa.2.2
  refine Cn.of pn_X9 (Nat.le_of_ble_eq_true rfl) rfl ?_
  refine g_iload_n 1 dX9_remembered_0 rfl rfl ?_
  refine g_aload_n 0 dX9_remembered_1 rfl rfl ?_
  refine gN_getR (d + 1) flX9_10 (fun _ _ _ => rfl) 0 (hD.t) (hD.r0) dX9_remembered_2 ?_
  refine gN_getR (d + 1 + 10) flX9_176 (fun _ _ _ => rfl) 0 (hD.s.t) (hD.s.r5) dX9_remembered_5 ?_
  refine gN_getI flX9_207 rfl 0 (hD.s.t10) dX9_remembered_8 ?_
  refine g_ei (nI (nv (z 1))) (hR.c1.trans hz.n1.e) ?_
  refine gd_callS _ _ _ _ (cn_X9_checkNumber g (0, 0) (j := r) (N := nv (z 1)) (by omega) (by omega)) ⟨rfl, rfl⟩ (ok_X9_checkNumber _) mlX9_30 st_X9_checkNumber rfl ⟨Nat.le_of_ble_eq_true rfl, Nat.le_of_ble_eq_true rfl⟩ (by exact Nat.le_of_ble_eq_true rfl) ⟨Nat.zero_le _, Nat.zero_le _⟩ dX9_remembered_11 rfl ?_
  refine g_iload_n 2 dX9_remembered_14 rfl rfl ?_
  refine gN_iconst 0 dX9_remembered_15 (by decide) ?_
  refine gN_bipush 11 dX9_remembered_16 (by decide) ?_
  refine gd_callS _ _ _ _ (cn_X9_checkRange g (0, 0) ((in_inb (n := 11) (by decide)).mpr ((inb_nI (by omega)).mpr (by omega)))) ⟨rfl, rfl⟩ (ok_X9_checkRange _) mlX9_34 st_X9_checkRange rfl ⟨Nat.le_of_ble_eq_true rfl, Nat.le_of_ble_eq_true rfl⟩ (by exact Nat.le_of_ble_eq_true rfl) ⟨Nat.zero_le _, Nat.zero_le _⟩ dX9_remembered_18 rfl ?_
  refine g_aload_n 0 dX9_remembered_21 rfl rfl ?_
  refine gN_getR (d + 1) flX9_10 (fun _ _ _ => rfl) 0 (hD.t) (hD.r0) dX9_remembered_22 ?_
  refine gN_getR (d + 1 + 10) flX9_176 (fun _ _ _ => rfl) 0 (hD.s.t) (hD.s.r5) dX9_remembered_25 ?_
  refine gN_getR (d + 1 + 11) flX9_208 (fun _ _ _ => rfl) 0 (hD.s.t10) (hD.s.r10) dX9_remembered_28 ?_
  refine g_iload_n 1 dX9_remembered_31 rfl rfl ?_
  refine gN_aald 13 30 (q) (hD.s.t11) (by decide) (by first | omega | exact b01_lt _) (by first | omega | exact b01_lt _) (hq1) dX9_remembered_32 ?_
  refine g_iload_n 2 dX9_remembered_33 rfl rfl ?_
  refine gd_callV _ _ _ _ (cn_X4_wordAt g (0, 0) hq (p := w) (by omega)) ⟨rfl, rfl⟩ (ok_X4_wordAt _) mlX9_204 in_X4_wordAt se_X4_wordAt 4 0 (hq.t) rfl rfl rfl ⟨Nat.le_of_ble_eq_true rfl, Nat.le_of_ble_eq_true rfl⟩ (by exact Nat.le_of_ble_eq_true rfl) ⟨Nat.zero_le _, Nat.zero_le _⟩ dX9_remembered_34 rfl ?_
  refine g_iret rfl dX9_remembered_37 ⟨Nat.zero_le _, Nat.zero_le _⟩ ?_
  exact ⟨rfl, rfl⟩
set_option maxRecDepth 100000 in
theorem cx_X9_translator_1 (g : Gp) (cs : Nat × Nat) {m : Mm} {d B c : Nat} {z : Nat → Int32} (hD : DkT m d) (hR : Rp m B (d + 1) z) (hz : ZOk c z) {p x : Int32} (h : ¬ inb p 4) : Xn g (MX9_translator (1, 6)) [.ref (d), .int (p), .int (x)] m "java/lang/IndexOutOfBoundsException" := by
  have hz0 := hz.n0.hi
  have hz1 := hz.n1.hi
  refine Cn.of pn_X9 (Nat.le_of_ble_eq_true rfl) rfl ?_
  refine g_iload_n 1 dX9_translator_0 rfl rfl ?_
  refine gN_iconst 4 dX9_translator_1 (by decide) ?_
  exact gx_callS _ _ (cx_X9_checkNumber g (0, 0) (N := 4) (by omega) (h)) (ok_X9_checkNumber _) mlX9_30 st_X9_checkNumber rfl ⟨Nat.le_of_ble_eq_true rfl, Nat.le_of_ble_eq_true rfl⟩ (by exact Nat.le_of_ble_eq_true rfl) ⟨Nat.le_of_ble_eq_true rfl, Nat.le_of_ble_eq_true rfl⟩ dX9_translator_2 rfl (fun n hn => ⟨rfl, n, hn, rfl⟩)
set_option maxRecDepth 100000 in
theorem cx_X9_translator_2 (g : Gp) (cs : Nat × Nat) {m : Mm} {d B c : Nat} {z : Nat → Int32} (hD : DkT m d) (hR : Rp m B (d + 1) z) (hz : ZOk c z) {j : Nat} (hj : j < 4) {x : Int32} (h : ¬ inb x 7) : Xn g (MX9_translator (1, 6)) [.ref (d), .int (nI (j)), .int (x)] m "java/lang/IllegalArgumentException" := by
  have hz0 := hz.n0.hi
  have hz1 := hz.n1.hi
  refine Cn.of pn_X9 (Nat.le_of_ble_eq_true rfl) rfl ?_
  refine g_iload_n 1 dX9_translator_0 rfl rfl ?_
  refine gN_iconst 4 dX9_translator_1 (by decide) ?_
  refine gd_callS _ _ _ _ (cn_X9_checkNumber g (0, 0) (j := j) (N := 4) (by omega) (by omega)) ⟨rfl, rfl⟩ (ok_X9_checkNumber _) mlX9_30 st_X9_checkNumber rfl ⟨Nat.le_of_ble_eq_true rfl, Nat.le_of_ble_eq_true rfl⟩ (by exact Nat.le_of_ble_eq_true rfl) ⟨Nat.zero_le _, Nat.zero_le _⟩ dX9_translator_2 rfl ?_
  refine g_iload_n 2 dX9_translator_5 rfl rfl ?_
  refine gN_iconst 0 dX9_translator_6 (by decide) ?_
  refine gN_bipush 6 dX9_translator_7 (by decide) ?_
  exact gx_callS _ _ (cx_X9_checkRange g (0, 0) (fun q => h ((in_inb (n := 6) (by decide)).mp q))) (ok_X9_checkRange _) mlX9_34 st_X9_checkRange rfl ⟨Nat.le_of_ble_eq_true rfl, Nat.le_of_ble_eq_true rfl⟩ (by exact Nat.le_of_ble_eq_true rfl) ⟨Nat.le_of_ble_eq_true rfl, Nat.le_of_ble_eq_true rfl⟩ dX9_translator_9 rfl (fun n hn => ⟨rfl, n, hn, rfl⟩)
set_option maxRecDepth 100000 in
theorem cn_X9_translator00 (g : Gp) (cs : Nat × Nat) {m : Mm} {d B c : Nat} {z : Nat → Int32} (hD : DkT m d) (hR : Rp m B (d + 1) z) (hz : ZOk c z) {j : Nat} (hj : j < 4) : Dn g (MX9_translator cs) [.ref (d), .int (nI (j)), .int (nI (0))] m (some (.int (perV z j 0))) m := by
  have hz0 := hz.n0.hi
  have hz1 := hz.n1.hi
  refine Cn.of pn_X9 (Nat.le_of_ble_eq_true rfl) rfl ?_
  refine g_iload_n 1 dX9_translator_0 rfl rfl ?_
  refine gN_iconst 4 dX9_translator_1 (by decide) ?_
  refine gd_callS _ _ _ _ (cn_X9_checkNumber g (0, 0) (j := j) (N := 4) (by omega) (by omega)) ⟨rfl, rfl⟩ (ok_X9_checkNumber _) mlX9_30 st_X9_checkNumber rfl ⟨Nat.le_of_ble_eq_true rfl, Nat.le_of_ble_eq_true rfl⟩ (by exact Nat.le_of_ble_eq_true rfl) ⟨Nat.zero_le _, Nat.zero_le _⟩ dX9_translator_2 rfl ?_
  refine g_iload_n 2 dX9_translator_5 rfl rfl ?_
  refine gN_iconst 0 dX9_translator_6 (by decide) ?_
  refine gN_bipush 6 dX9_translator_7 (by decide) ?_
  refine gd_callS _ _ _ _ (cn_X9_checkRange g (0, 0) ((in_inb (n := 6) (by decide)).mpr ((inb_nI (by omega)).mpr (by omega)))) ⟨rfl, rfl⟩ (ok_X9_checkRange _) mlX9_34 st_X9_checkRange rfl ⟨Nat.le_of_ble_eq_true rfl, Nat.le_of_ble_eq_true rfl⟩ (by exact Nat.le_of_ble_eq_true rfl) ⟨Nat.zero_le _, Nat.zero_le _⟩ dX9_translator_9 rfl ?_
  refine g_aload_n 0 dX9_translator_12 rfl rfl ?_
  refine gN_getR (d + 1) flX9_10 (fun _ _ _ => rfl) 0 (hD.t) (hD.r0) dX9_translator_13 ?_
  refine gN_getR (d + 1 + 2) flX9_42 (fun _ _ _ => rfl) 0 (hD.s.t) (hD.s.r1) dX9_translator_16 ?_
  refine g_iload_n 1 dX9_translator_19 rfl rfl ?_
  refine gN_aald 17 4 (d + 1 + 12 + j) (hD.s.t2) (by decide) (by first | omega | exact b01_lt _) (by first | omega | exact b01_lt _) (hD.s.rT (by omega)) dX9_translator_20 ?_
  refine g_astore_n 3 [(3, .ref (d + 1 + 12 + j)), (0, .ref (d)), (1, .int (nI (j))), (2, .int (nI (0)))] dX9_translator_21 rfl (Nat.le_of_ble_eq_true rfl) rfl ?_
  refine g_iload_n 2 dX9_translator_22 rfl rfl ?_
  refine g_tableIn (off := 37) 60 dX9_translator_23 (by decide) (by decide) (by decide) (by decide) ?_
  refine g_aload_n 3 dX9_translator_60 rfl rfl ?_
  refine gN_getI flX9_46 rfl 0 (hD.s.tT (by omega)) dX9_translator_61 ?_
  refine g_eI (z (4 + 5 * j)) (hR.T0 (by omega)) ?_
  refine g_iret rfl dX9_translator_64 ⟨Nat.zero_le _, Nat.zero_le _⟩ ?_
  exact ⟨rfl, rfl⟩
set_option maxRecDepth 100000 in
theorem cn_X9_translator01 (g : Gp) (cs : Nat × Nat) {m : Mm} {d B c : Nat} {z : Nat → Int32} (hD : DkT m d) (hR : Rp m B (d + 1) z) (hz : ZOk c z) {j : Nat} (hj : j < 4) : Dn g (MX9_translator cs) [.ref (d), .int (nI (j)), .int (nI (1))] m (some (.int (perV z j 1))) m := by
  have hz0 := hz.n0.hi
  have hz1 := hz.n1.hi
  refine Cn.of pn_X9 (Nat.le_of_ble_eq_true rfl) rfl ?_
  refine g_iload_n 1 dX9_translator_0 rfl rfl ?_
  refine gN_iconst 4 dX9_translator_1 (by decide) ?_
  refine gd_callS _ _ _ _ (cn_X9_checkNumber g (0, 0) (j := j) (N := 4) (by omega) (by omega)) ⟨rfl, rfl⟩ (ok_X9_checkNumber _) mlX9_30 st_X9_checkNumber rfl ⟨Nat.le_of_ble_eq_true rfl, Nat.le_of_ble_eq_true rfl⟩ (by exact Nat.le_of_ble_eq_true rfl) ⟨Nat.zero_le _, Nat.zero_le _⟩ dX9_translator_2 rfl ?_
  refine g_iload_n 2 dX9_translator_5 rfl rfl ?_
  refine gN_iconst 0 dX9_translator_6 (by decide) ?_
  refine gN_bipush 6 dX9_translator_7 (by decide) ?_
  refine gd_callS _ _ _ _ (cn_X9_checkRange g (0, 0) ((in_inb (n := 6) (by decide)).mpr ((inb_nI (by omega)).mpr (by omega)))) ⟨rfl, rfl⟩ (ok_X9_checkRange _) mlX9_34 st_X9_checkRange rfl ⟨Nat.le_of_ble_eq_true rfl, Nat.le_of_ble_eq_true rfl⟩ (by exact Nat.le_of_ble_eq_true rfl) ⟨Nat.zero_le _, Nat.zero_le _⟩ dX9_translator_9 rfl ?_
  refine g_aload_n 0 dX9_translator_12 rfl rfl ?_
  refine gN_getR (d + 1) flX9_10 (fun _ _ _ => rfl) 0 (hD.t) (hD.r0) dX9_translator_13 ?_
  refine gN_getR (d + 1 + 2) flX9_42 (fun _ _ _ => rfl) 0 (hD.s.t) (hD.s.r1) dX9_translator_16 ?_
  refine g_iload_n 1 dX9_translator_19 rfl rfl ?_
  refine gN_aald 17 4 (d + 1 + 12 + j) (hD.s.t2) (by decide) (by first | omega | exact b01_lt _) (by first | omega | exact b01_lt _) (hD.s.rT (by omega)) dX9_translator_20 ?_
  refine g_astore_n 3 [(3, .ref (d + 1 + 12 + j)), (0, .ref (d)), (1, .int (nI (j))), (2, .int (nI (1)))] dX9_translator_21 rfl (Nat.le_of_ble_eq_true rfl) rfl ?_
  refine g_iload_n 2 dX9_translator_22 rfl rfl ?_
  refine g_tableIn (off := 42) 65 dX9_translator_23 (by decide) (by decide) (by decide) (by decide) ?_
  refine g_aload_n 3 dX9_translator_65 rfl rfl ?_
  refine gN_getI flX9_212 rfl 0 (hD.s.tT (by omega)) dX9_translator_66 ?_
  refine g_eI (z (4 + 5 * j + 1)) (hR.T1 (by omega)) ?_
  refine g_iret rfl dX9_translator_69 ⟨Nat.zero_le _, Nat.zero_le _⟩ ?_
  exact ⟨rfl, rfl⟩
set_option maxRecDepth 100000 in
theorem cn_X9_translator02 (g : Gp) (cs : Nat × Nat) {m : Mm} {d B c : Nat} {z : Nat → Int32} (hD : DkT m d) (hR : Rp m B (d + 1) z) (hz : ZOk c z) {j : Nat} (hj : j < 4) : Dn g (MX9_translator cs) [.ref (d), .int (nI (j)), .int (nI (2))] m (some (.int (perV z j 2))) m := by
  have hz0 := hz.n0.hi
  have hz1 := hz.n1.hi
  refine Cn.of pn_X9 (Nat.le_of_ble_eq_true rfl) rfl ?_
  refine g_iload_n 1 dX9_translator_0 rfl rfl ?_
  refine gN_iconst 4 dX9_translator_1 (by decide) ?_
  refine gd_callS _ _ _ _ (cn_X9_checkNumber g (0, 0) (j := j) (N := 4) (by omega) (by omega)) ⟨rfl, rfl⟩ (ok_X9_checkNumber _) mlX9_30 st_X9_checkNumber rfl ⟨Nat.le_of_ble_eq_true rfl, Nat.le_of_ble_eq_true rfl⟩ (by exact Nat.le_of_ble_eq_true rfl) ⟨Nat.zero_le _, Nat.zero_le _⟩ dX9_translator_2 rfl ?_
  refine g_iload_n 2 dX9_translator_5 rfl rfl ?_
  refine gN_iconst 0 dX9_translator_6 (by decide) ?_
  refine gN_bipush 6 dX9_translator_7 (by decide) ?_
  refine gd_callS _ _ _ _ (cn_X9_checkRange g (0, 0) ((in_inb (n := 6) (by decide)).mpr ((inb_nI (by omega)).mpr (by omega)))) ⟨rfl, rfl⟩ (ok_X9_checkRange _) mlX9_34 st_X9_checkRange rfl ⟨Nat.le_of_ble_eq_true rfl, Nat.le_of_ble_eq_true rfl⟩ (by exact Nat.le_of_ble_eq_true rfl) ⟨Nat.zero_le _, Nat.zero_le _⟩ dX9_translator_9 rfl ?_
  refine g_aload_n 0 dX9_translator_12 rfl rfl ?_
  refine gN_getR (d + 1) flX9_10 (fun _ _ _ => rfl) 0 (hD.t) (hD.r0) dX9_translator_13 ?_
  refine gN_getR (d + 1 + 2) flX9_42 (fun _ _ _ => rfl) 0 (hD.s.t) (hD.s.r1) dX9_translator_16 ?_
  refine g_iload_n 1 dX9_translator_19 rfl rfl ?_
  refine gN_aald 17 4 (d + 1 + 12 + j) (hD.s.t2) (by decide) (by first | omega | exact b01_lt _) (by first | omega | exact b01_lt _) (hD.s.rT (by omega)) dX9_translator_20 ?_
  refine g_astore_n 3 [(3, .ref (d + 1 + 12 + j)), (0, .ref (d)), (1, .int (nI (j))), (2, .int (nI (2)))] dX9_translator_21 rfl (Nat.le_of_ble_eq_true rfl) rfl ?_
  refine g_iload_n 2 dX9_translator_22 rfl rfl ?_
  refine g_tableIn (off := 47) 70 dX9_translator_23 (by decide) (by decide) (by decide) (by decide) ?_
  refine g_aload_n 0 dX9_translator_70 rfl rfl ?_
  refine gN_getR (d + 1) flX9_10 (fun _ _ _ => rfl) 0 (hD.t) (hD.r0) dX9_translator_71 ?_
  refine g_iload_n 1 dX9_translator_74 rfl rfl ?_
  refine gd_callV _ _ _ _ (cn_X6_assignedTo g (0, 0) hD.s hR hz (nI j)) ⟨rfl, rfl⟩ (ok_X6_assignedTo _) mlX9_215 in_X6_assignedTo se_X6_assignedTo 6 0 (hD.s.t) rfl rfl rfl ⟨Nat.le_of_ble_eq_true rfl, Nat.le_of_ble_eq_true rfl⟩ (by exact Nat.le_of_ble_eq_true rfl) ⟨Nat.zero_le _, Nat.zero_le _⟩ dX9_translator_75 rfl ?_
  refine g_iret rfl dX9_translator_78 ⟨Nat.zero_le _, Nat.zero_le _⟩ ?_
  exact ⟨rfl, rfl⟩
set_option maxRecDepth 100000 in
theorem cn_X9_translator03 (g : Gp) (cs : Nat × Nat) {m : Mm} {d B c : Nat} {z : Nat → Int32} (hD : DkT m d) (hR : Rp m B (d + 1) z) (hz : ZOk c z) {j : Nat} (hj : j < 4) : Dn g (MX9_translator cs) [.ref (d), .int (nI (j)), .int (nI (3))] m (some (.int (perV z j 3))) m := by
  have hz0 := hz.n0.hi
  have hz1 := hz.n1.hi
  refine Cn.of pn_X9 (Nat.le_of_ble_eq_true rfl) rfl ?_
  refine g_iload_n 1 dX9_translator_0 rfl rfl ?_
  refine gN_iconst 4 dX9_translator_1 (by decide) ?_
  refine gd_callS _ _ _ _ (cn_X9_checkNumber g (0, 0) (j := j) (N := 4) (by omega) (by omega)) ⟨rfl, rfl⟩ (ok_X9_checkNumber _) mlX9_30 st_X9_checkNumber rfl ⟨Nat.le_of_ble_eq_true rfl, Nat.le_of_ble_eq_true rfl⟩ (by exact Nat.le_of_ble_eq_true rfl) ⟨Nat.zero_le _, Nat.zero_le _⟩ dX9_translator_2 rfl ?_
  refine g_iload_n 2 dX9_translator_5 rfl rfl ?_
  refine gN_iconst 0 dX9_translator_6 (by decide) ?_
  refine gN_bipush 6 dX9_translator_7 (by decide) ?_
  refine gd_callS _ _ _ _ (cn_X9_checkRange g (0, 0) ((in_inb (n := 6) (by decide)).mpr ((inb_nI (by omega)).mpr (by omega)))) ⟨rfl, rfl⟩ (ok_X9_checkRange _) mlX9_34 st_X9_checkRange rfl ⟨Nat.le_of_ble_eq_true rfl, Nat.le_of_ble_eq_true rfl⟩ (by exact Nat.le_of_ble_eq_true rfl) ⟨Nat.zero_le _, Nat.zero_le _⟩ dX9_translator_9 rfl ?_
  refine g_aload_n 0 dX9_translator_12 rfl rfl ?_
  refine gN_getR (d + 1) flX9_10 (fun _ _ _ => rfl) 0 (hD.t) (hD.r0) dX9_translator_13 ?_
  refine gN_getR (d + 1 + 2) flX9_42 (fun _ _ _ => rfl) 0 (hD.s.t) (hD.s.r1) dX9_translator_16 ?_
  refine g_iload_n 1 dX9_translator_19 rfl rfl ?_
  refine gN_aald 17 4 (d + 1 + 12 + j) (hD.s.t2) (by decide) (by first | omega | exact b01_lt _) (by first | omega | exact b01_lt _) (hD.s.rT (by omega)) dX9_translator_20 ?_
  refine g_astore_n 3 [(3, .ref (d + 1 + 12 + j)), (0, .ref (d)), (1, .int (nI (j))), (2, .int (nI (3)))] dX9_translator_21 rfl (Nat.le_of_ble_eq_true rfl) rfl ?_
  refine g_iload_n 2 dX9_translator_22 rfl rfl ?_
  refine g_tableIn (off := 56) 79 dX9_translator_23 (by decide) (by decide) (by decide) (by decide) ?_
  refine g_aload_n 3 dX9_translator_79 rfl rfl ?_
  refine gN_getI flX9_218 rfl 0 (hD.s.tT (by omega)) dX9_translator_80 ?_
  refine g_eI (z (4 + 5 * j + 2)) (hR.T2 (by omega)) ?_
  refine g_iret rfl dX9_translator_83 ⟨Nat.zero_le _, Nat.zero_le _⟩ ?_
  exact ⟨rfl, rfl⟩
set_option maxRecDepth 100000 in
theorem cn_X9_translator04 (g : Gp) (cs : Nat × Nat) {m : Mm} {d B c : Nat} {z : Nat → Int32} (hD : DkT m d) (hR : Rp m B (d + 1) z) (hz : ZOk c z) {j : Nat} (hj : j < 4) : Dn g (MX9_translator cs) [.ref (d), .int (nI (j)), .int (nI (4))] m (some (.int (perV z j 4))) m := by
  have hz0 := hz.n0.hi
  have hz1 := hz.n1.hi
  refine Cn.of pn_X9 (Nat.le_of_ble_eq_true rfl) rfl ?_
  refine g_iload_n 1 dX9_translator_0 rfl rfl ?_
  refine gN_iconst 4 dX9_translator_1 (by decide) ?_
  refine gd_callS _ _ _ _ (cn_X9_checkNumber g (0, 0) (j := j) (N := 4) (by omega) (by omega)) ⟨rfl, rfl⟩ (ok_X9_checkNumber _) mlX9_30 st_X9_checkNumber rfl ⟨Nat.le_of_ble_eq_true rfl, Nat.le_of_ble_eq_true rfl⟩ (by exact Nat.le_of_ble_eq_true rfl) ⟨Nat.zero_le _, Nat.zero_le _⟩ dX9_translator_2 rfl ?_
  refine g_iload_n 2 dX9_translator_5 rfl rfl ?_
  refine gN_iconst 0 dX9_translator_6 (by decide) ?_
  refine gN_bipush 6 dX9_translator_7 (by decide) ?_
  refine gd_callS _ _ _ _ (cn_X9_checkRange g (0, 0) ((in_inb (n := 6) (by decide)).mpr ((inb_nI (by omega)).mpr (by omega)))) ⟨rfl, rfl⟩ (ok_X9_checkRange _) mlX9_34 st_X9_checkRange rfl ⟨Nat.le_of_ble_eq_true rfl, Nat.le_of_ble_eq_true rfl⟩ (by exact Nat.le_of_ble_eq_true rfl) ⟨Nat.zero_le _, Nat.zero_le _⟩ dX9_translator_9 rfl ?_
  refine g_aload_n 0 dX9_translator_12 rfl rfl ?_
  refine gN_getR (d + 1) flX9_10 (fun _ _ _ => rfl) 0 (hD.t) (hD.r0) dX9_translator_13 ?_
  refine gN_getR (d + 1 + 2) flX9_42 (fun _ _ _ => rfl) 0 (hD.s.t) (hD.s.r1) dX9_translator_16 ?_
  refine g_iload_n 1 dX9_translator_19 rfl rfl ?_
  refine gN_aald 17 4 (d + 1 + 12 + j) (hD.s.t2) (by decide) (by first | omega | exact b01_lt _) (by first | omega | exact b01_lt _) (hD.s.rT (by omega)) dX9_translator_20 ?_
  refine g_astore_n 3 [(3, .ref (d + 1 + 12 + j)), (0, .ref (d)), (1, .int (nI (j))), (2, .int (nI (4)))] dX9_translator_21 rfl (Nat.le_of_ble_eq_true rfl) rfl ?_
  refine g_iload_n 2 dX9_translator_22 rfl rfl ?_
  refine g_tableIn (off := 61) 84 dX9_translator_23 (by decide) (by decide) (by decide) (by decide) ?_
  refine g_aload_n 3 dX9_translator_84 rfl rfl ?_
  refine gN_getI flX9_221 rfl 0 (hD.s.tT (by omega)) dX9_translator_85 ?_
  refine g_eI (z (4 + 5 * j + 3)) (hR.T3 (by omega)) ?_
  refine g_iret rfl dX9_translator_88 ⟨Nat.zero_le _, Nat.zero_le _⟩ ?_
  exact ⟨rfl, rfl⟩
set_option maxRecDepth 100000 in
theorem cn_X9_translator05 (g : Gp) (cs : Nat × Nat) {m : Mm} {d B c : Nat} {z : Nat → Int32} (hD : DkT m d) (hR : Rp m B (d + 1) z) (hz : ZOk c z) {j : Nat} (hj : j < 4) : Dn g (MX9_translator cs) [.ref (d), .int (nI (j)), .int (nI (5))] m (some (.int (perV z j 5))) m := by
  have hz0 := hz.n0.hi
  have hz1 := hz.n1.hi
  refine Cn.of pn_X9 (Nat.le_of_ble_eq_true rfl) rfl ?_
  refine g_iload_n 1 dX9_translator_0 rfl rfl ?_
  refine gN_iconst 4 dX9_translator_1 (by decide) ?_
  refine gd_callS _ _ _ _ (cn_X9_checkNumber g (0, 0) (j := j) (N := 4) (by omega) (by omega)) ⟨rfl, rfl⟩ (ok_X9_checkNumber _) mlX9_30 st_X9_checkNumber rfl ⟨Nat.le_of_ble_eq_true rfl, Nat.le_of_ble_eq_true rfl⟩ (by exact Nat.le_of_ble_eq_true rfl) ⟨Nat.zero_le _, Nat.zero_le _⟩ dX9_translator_2 rfl ?_
  refine g_iload_n 2 dX9_translator_5 rfl rfl ?_
  refine gN_iconst 0 dX9_translator_6 (by decide) ?_
  refine gN_bipush 6 dX9_translator_7 (by decide) ?_
  refine gd_callS _ _ _ _ (cn_X9_checkRange g (0, 0) ((in_inb (n := 6) (by decide)).mpr ((inb_nI (by omega)).mpr (by omega)))) ⟨rfl, rfl⟩ (ok_X9_checkRange _) mlX9_34 st_X9_checkRange rfl ⟨Nat.le_of_ble_eq_true rfl, Nat.le_of_ble_eq_true rfl⟩ (by exact Nat.le_of_ble_eq_true rfl) ⟨Nat.zero_le _, Nat.zero_le _⟩ dX9_translator_9 rfl ?_
  refine g_aload_n 0 dX9_translator_12 rfl rfl ?_
  refine gN_getR (d + 1) flX9_10 (fun _ _ _ => rfl) 0 (hD.t) (hD.r0) dX9_translator_13 ?_
  refine gN_getR (d + 1 + 2) flX9_42 (fun _ _ _ => rfl) 0 (hD.s.t) (hD.s.r1) dX9_translator_16 ?_
  refine g_iload_n 1 dX9_translator_19 rfl rfl ?_
  refine gN_aald 17 4 (d + 1 + 12 + j) (hD.s.t2) (by decide) (by first | omega | exact b01_lt _) (by first | omega | exact b01_lt _) (hD.s.rT (by omega)) dX9_translator_20 ?_
  refine g_astore_n 3 [(3, .ref (d + 1 + 12 + j)), (0, .ref (d)), (1, .int (nI (j))), (2, .int (nI (5)))] dX9_translator_21 rfl (Nat.le_of_ble_eq_true rfl) rfl ?_
  refine g_iload_n 2 dX9_translator_22 rfl rfl ?_
  refine g_tableIn (off := 66) 89 dX9_translator_23 (by decide) (by decide) (by decide) (by decide) ?_
  refine g_aload_n 3 dX9_translator_89 rfl rfl ?_
  refine gN_getI flX9_222 rfl 0 (hD.s.tT (by omega)) dX9_translator_90 ?_
  refine g_eI (z (4 + 5 * j + 4)) (hR.T4 (by omega)) ?_
  refine g_iret rfl dX9_translator_93 ⟨Nat.zero_le _, Nat.zero_le _⟩ ?_
  exact ⟨rfl, rfl⟩
set_option maxRecDepth 100000 in
theorem cn_X9_translator06 (g : Gp) (cs : Nat × Nat) {m : Mm} {d B c : Nat} {z : Nat → Int32} (hD : DkT m d) (hR : Rp m B (d + 1) z) (hz : ZOk c z) {j : Nat} (hj : j < 4) : Dn g (MX9_translator cs) [.ref (d), .int (nI (j)), .int (nI (6))] m (some (.int (perV z j 6))) m := by
  have hz0 := hz.n0.hi
  have hz1 := hz.n1.hi
  refine Cn.of pn_X9 (Nat.le_of_ble_eq_true rfl) rfl ?_
  refine g_iload_n 1 dX9_translator_0 rfl rfl ?_
  refine gN_iconst 4 dX9_translator_1 (by decide) ?_
  refine gd_callS _ _ _ _ (cn_X9_checkNumber g (0, 0) (j := j) (N := 4) (by omega) (by omega)) ⟨rfl, rfl⟩ (ok_X9_checkNumber _) mlX9_30 st_X9_checkNumber rfl ⟨Nat.le_of_ble_eq_true rfl, Nat.le_of_ble_eq_true rfl⟩ (by exact Nat.le_of_ble_eq_true rfl) ⟨Nat.zero_le _, Nat.zero_le _⟩ dX9_translator_2 rfl ?_
  refine g_iload_n 2 dX9_translator_5 rfl rfl ?_
  refine gN_iconst 0 dX9_translator_6 (by decide) ?_
  refine gN_bipush 6 dX9_translator_7 (by decide) ?_
  refine gd_callS _ _ _ _ (cn_X9_checkRange g (0, 0) ((in_inb (n := 6) (by decide)).mpr ((inb_nI (by omega)).mpr (by omega)))) ⟨rfl, rfl⟩ (ok_X9_checkRange _) mlX9_34 st_X9_checkRange rfl ⟨Nat.le_of_ble_eq_true rfl, Nat.le_of_ble_eq_true rfl⟩ (by exact Nat.le_of_ble_eq_true rfl) ⟨Nat.zero_le _, Nat.zero_le _⟩ dX9_translator_9 rfl ?_
  refine g_aload_n 0 dX9_translator_12 rfl rfl ?_
  refine gN_getR (d + 1) flX9_10 (fun _ _ _ => rfl) 0 (hD.t) (hD.r0) dX9_translator_13 ?_
  refine gN_getR (d + 1 + 2) flX9_42 (fun _ _ _ => rfl) 0 (hD.s.t) (hD.s.r1) dX9_translator_16 ?_
  refine g_iload_n 1 dX9_translator_19 rfl rfl ?_
  refine gN_aald 17 4 (d + 1 + 12 + j) (hD.s.t2) (by decide) (by first | omega | exact b01_lt _) (by first | omega | exact b01_lt _) (hD.s.rT (by omega)) dX9_translator_20 ?_
  refine g_astore_n 3 [(3, .ref (d + 1 + 12 + j)), (0, .ref (d)), (1, .int (nI (j))), (2, .int (nI (6)))] dX9_translator_21 rfl (Nat.le_of_ble_eq_true rfl) rfl ?_
  refine g_iload_n 2 dX9_translator_22 rfl rfl ?_
  refine g_tableOut 94 dX9_translator_23 (by decide) (by decide) ?_
  refine g_aload_n 0 dX9_translator_94 rfl rfl ?_
  refine gN_getR (d + 1) flX9_10 (fun _ _ _ => rfl) 0 (hD.t) (hD.r0) dX9_translator_95 ?_
  refine g_iload_n 1 dX9_translator_98 rfl rfl ?_
  refine gd_callV _ _ _ _ (cn_X6_proposalsOf g (0, 0) hD.s hR hz hj) ⟨rfl, rfl⟩ (ok_X6_proposalsOf _) mlX9_225 in_X6_proposalsOf se_X6_proposalsOf 6 0 (hD.s.t) rfl rfl rfl ⟨Nat.le_of_ble_eq_true rfl, Nat.le_of_ble_eq_true rfl⟩ (by exact Nat.le_of_ble_eq_true rfl) ⟨Nat.zero_le _, Nat.zero_le _⟩ dX9_translator_99 rfl ?_
  refine g_iret rfl dX9_translator_102 ⟨Nat.zero_le _, Nat.zero_le _⟩ ?_
  exact ⟨rfl, rfl⟩
theorem cn_X9_translator (g : Gp) (cs : Nat × Nat) {m : Mm} {d B c : Nat} {z : Nat → Int32} (hD : DkT m d) (hR : Rp m B (d + 1) z) (hz : ZOk c z) {j : Nat} (hj : j < 4) {w : Nat} (hw : w ≤ 6) : Dn g (MX9_translator cs) [.ref d, .int (nI j), .int (nI w)] m (some (.int (perV z j w))) m := by
  rcases (show w = 0 ∨ w = 1 ∨ w = 2 ∨ w = 3 ∨ w = 4 ∨ w = 5 ∨ w = 6 by omega) with rfl | rfl | rfl | rfl | rfl | rfl | rfl
  · exact cn_X9_translator00 g cs hD hR hz hj
  · exact cn_X9_translator01 g cs hD hR hz hj
  · exact cn_X9_translator02 g cs hD hR hz hj
  · exact cn_X9_translator03 g cs hD hR hz hj
  · exact cn_X9_translator04 g cs hD hR hz hj
  · exact cn_X9_translator05 g cs hD hR hz hj
  · exact cn_X9_translator06 g cs hD hR hz hj
set_option maxRecDepth 100000 in
theorem cx_X9_term_1 (g : Gp) (cs : Nat × Nat) {m : Mm} {d B c : Nat} {z : Nat → Int32} (hD : DkT m d) (hR : Rp m B (d + 1) z) (hz : ZOk c z) {p x : Int32} (h : ¬ inb p 8) : Xn g (MX9_term (1, 6)) [.ref (d), .int (p), .int (x)] m "java/lang/IndexOutOfBoundsException" := by
  have hz0 := hz.n0.hi
  have hz1 := hz.n1.hi
  refine Cn.of pn_X9 (Nat.le_of_ble_eq_true rfl) rfl ?_
  refine g_iload_n 1 dX9_term_0 rfl rfl ?_
  refine gN_bipush 8 dX9_term_1 (by decide) ?_
  exact gx_callS _ _ (cx_X9_checkNumber g (0, 0) (N := 8) (by omega) (h)) (ok_X9_checkNumber _) mlX9_30 st_X9_checkNumber rfl ⟨Nat.le_of_ble_eq_true rfl, Nat.le_of_ble_eq_true rfl⟩ (by exact Nat.le_of_ble_eq_true rfl) ⟨Nat.le_of_ble_eq_true rfl, Nat.le_of_ble_eq_true rfl⟩ dX9_term_3 rfl (fun n hn => ⟨rfl, n, hn, rfl⟩)
set_option maxRecDepth 100000 in
theorem cx_X9_term_2 (g : Gp) (cs : Nat × Nat) {m : Mm} {d B c : Nat} {z : Nat → Int32} (hD : DkT m d) (hR : Rp m B (d + 1) z) (hz : ZOk c z) {j : Nat} (hj : j < 8) {x : Int32} (h : ¬ inb x 8) : Xn g (MX9_term (1, 6)) [.ref (d), .int (nI (j)), .int (x)] m "java/lang/IllegalArgumentException" := by
  have hz0 := hz.n0.hi
  have hz1 := hz.n1.hi
  refine Cn.of pn_X9 (Nat.le_of_ble_eq_true rfl) rfl ?_
  refine g_iload_n 1 dX9_term_0 rfl rfl ?_
  refine gN_bipush 8 dX9_term_1 (by decide) ?_
  refine gd_callS _ _ _ _ (cn_X9_checkNumber g (0, 0) (j := j) (N := 8) (by omega) (by omega)) ⟨rfl, rfl⟩ (ok_X9_checkNumber _) mlX9_30 st_X9_checkNumber rfl ⟨Nat.le_of_ble_eq_true rfl, Nat.le_of_ble_eq_true rfl⟩ (by exact Nat.le_of_ble_eq_true rfl) ⟨Nat.zero_le _, Nat.zero_le _⟩ dX9_term_3 rfl ?_
  refine g_iload_n 2 dX9_term_6 rfl rfl ?_
  refine gN_iconst 0 dX9_term_7 (by decide) ?_
  refine gN_bipush 7 dX9_term_8 (by decide) ?_
  exact gx_callS _ _ (cx_X9_checkRange g (0, 0) (fun q => h ((in_inb (n := 7) (by decide)).mp q))) (ok_X9_checkRange _) mlX9_34 st_X9_checkRange rfl ⟨Nat.le_of_ble_eq_true rfl, Nat.le_of_ble_eq_true rfl⟩ (by exact Nat.le_of_ble_eq_true rfl) ⟨Nat.le_of_ble_eq_true rfl, Nat.le_of_ble_eq_true rfl⟩ dX9_term_10 rfl (fun n hn => ⟨rfl, n, hn, rfl⟩)
set_option maxRecDepth 100000 in
theorem cn_X9_term00 (g : Gp) (cs : Nat × Nat) {m : Mm} {d B c : Nat} {z : Nat → Int32} (hD : DkT m d) (hR : Rp m B (d + 1) z) (hz : ZOk c z) {j : Nat} (hj : j < 8) : Dn g (MX9_term cs) [.ref (d), .int (nI (j)), .int (nI (0))] m (some (.int (terV z j 0))) m := by
  have hz0 := hz.n0.hi
  have hz1 := hz.n1.hi
  refine Cn.of pn_X9 (Nat.le_of_ble_eq_true rfl) rfl ?_
  refine g_iload_n 1 dX9_term_0 rfl rfl ?_
  refine gN_bipush 8 dX9_term_1 (by decide) ?_
  refine gd_callS _ _ _ _ (cn_X9_checkNumber g (0, 0) (j := j) (N := 8) (by omega) (by omega)) ⟨rfl, rfl⟩ (ok_X9_checkNumber _) mlX9_30 st_X9_checkNumber rfl ⟨Nat.le_of_ble_eq_true rfl, Nat.le_of_ble_eq_true rfl⟩ (by exact Nat.le_of_ble_eq_true rfl) ⟨Nat.zero_le _, Nat.zero_le _⟩ dX9_term_3 rfl ?_
  refine g_iload_n 2 dX9_term_6 rfl rfl ?_
  refine gN_iconst 0 dX9_term_7 (by decide) ?_
  refine gN_bipush 7 dX9_term_8 (by decide) ?_
  refine gd_callS _ _ _ _ (cn_X9_checkRange g (0, 0) ((in_inb (n := 7) (by decide)).mpr ((inb_nI (by omega)).mpr (by omega)))) ⟨rfl, rfl⟩ (ok_X9_checkRange _) mlX9_34 st_X9_checkRange rfl ⟨Nat.le_of_ble_eq_true rfl, Nat.le_of_ble_eq_true rfl⟩ (by exact Nat.le_of_ble_eq_true rfl) ⟨Nat.zero_le _, Nat.zero_le _⟩ dX9_term_10 rfl ?_
  refine g_aload_n 0 dX9_term_13 rfl rfl ?_
  refine gN_getR (d + 1) flX9_10 (fun _ _ _ => rfl) 0 (hD.t) (hD.r0) dX9_term_14 ?_
  refine gN_getR (d + 1 + 4) flX9_121 (fun _ _ _ => rfl) 0 (hD.s.t) (hD.s.r3) dX9_term_17 ?_
  refine g_iload_n 1 dX9_term_20 rfl rfl ?_
  refine gN_aald 16 8 (d + 1 + 21 + 2 * j) (hD.s.t4) (by decide) (by first | omega | exact b01_lt _) (by first | omega | exact b01_lt _) (hD.s.rW (by omega)) dX9_term_21 ?_
  refine g_astore_n 3 [(3, .ref (d + 1 + 21 + 2 * j)), (0, .ref (d)), (1, .int (nI (j))), (2, .int (nI (0)))] dX9_term_22 rfl (Nat.le_of_ble_eq_true rfl) rfl ?_
  refine g_iload_n 2 dX9_term_23 rfl rfl ?_
  refine gN_iconst 4 dX9_term_24 (by decide) ?_
  refine gN_icmp_ge 35 dX9_term_25 (by decide) (by first | omega | exact b01_lt _) (by first | omega | exact b01_lt _) (fun h_25 => ?_) (fun h_25 => ?_)
  · exact absurd h_25 (by decide)
  · refine g_aload_n 3 dX9_term_28 rfl rfl ?_
    refine gN_getR (d + 1 + 22 + 2 * j) flX9_130 (fun _ _ _ => rfl) 0 (hD.s.tW (by omega)) (hD.s.rP (by omega)) dX9_term_29 ?_
    refine g_iload_n 2 dX9_term_32 rfl rfl ?_
    refine gN_iald 4 (hD.s.tP (by omega)) (by first | omega | exact b01_lt _) (by first | omega | exact b01_lt _) dX9_term_33 ?_
    refine g_eI (z (24 + 4 * j + 0)) (hR.W (by omega) (by omega)) ?_
    refine g_iret rfl dX9_term_34 ⟨Nat.zero_le _, Nat.zero_le _⟩ ?_
    exact ⟨rfl, rfl⟩
set_option maxRecDepth 100000 in
theorem cn_X9_term01 (g : Gp) (cs : Nat × Nat) {m : Mm} {d B c : Nat} {z : Nat → Int32} (hD : DkT m d) (hR : Rp m B (d + 1) z) (hz : ZOk c z) {j : Nat} (hj : j < 8) : Dn g (MX9_term cs) [.ref (d), .int (nI (j)), .int (nI (1))] m (some (.int (terV z j 1))) m := by
  have hz0 := hz.n0.hi
  have hz1 := hz.n1.hi
  refine Cn.of pn_X9 (Nat.le_of_ble_eq_true rfl) rfl ?_
  refine g_iload_n 1 dX9_term_0 rfl rfl ?_
  refine gN_bipush 8 dX9_term_1 (by decide) ?_
  refine gd_callS _ _ _ _ (cn_X9_checkNumber g (0, 0) (j := j) (N := 8) (by omega) (by omega)) ⟨rfl, rfl⟩ (ok_X9_checkNumber _) mlX9_30 st_X9_checkNumber rfl ⟨Nat.le_of_ble_eq_true rfl, Nat.le_of_ble_eq_true rfl⟩ (by exact Nat.le_of_ble_eq_true rfl) ⟨Nat.zero_le _, Nat.zero_le _⟩ dX9_term_3 rfl ?_
  refine g_iload_n 2 dX9_term_6 rfl rfl ?_
  refine gN_iconst 0 dX9_term_7 (by decide) ?_
  refine gN_bipush 7 dX9_term_8 (by decide) ?_
  refine gd_callS _ _ _ _ (cn_X9_checkRange g (0, 0) ((in_inb (n := 7) (by decide)).mpr ((inb_nI (by omega)).mpr (by omega)))) ⟨rfl, rfl⟩ (ok_X9_checkRange _) mlX9_34 st_X9_checkRange rfl ⟨Nat.le_of_ble_eq_true rfl, Nat.le_of_ble_eq_true rfl⟩ (by exact Nat.le_of_ble_eq_true rfl) ⟨Nat.zero_le _, Nat.zero_le _⟩ dX9_term_10 rfl ?_
  refine g_aload_n 0 dX9_term_13 rfl rfl ?_
  refine gN_getR (d + 1) flX9_10 (fun _ _ _ => rfl) 0 (hD.t) (hD.r0) dX9_term_14 ?_
  refine gN_getR (d + 1 + 4) flX9_121 (fun _ _ _ => rfl) 0 (hD.s.t) (hD.s.r3) dX9_term_17 ?_
  refine g_iload_n 1 dX9_term_20 rfl rfl ?_
  refine gN_aald 16 8 (d + 1 + 21 + 2 * j) (hD.s.t4) (by decide) (by first | omega | exact b01_lt _) (by first | omega | exact b01_lt _) (hD.s.rW (by omega)) dX9_term_21 ?_
  refine g_astore_n 3 [(3, .ref (d + 1 + 21 + 2 * j)), (0, .ref (d)), (1, .int (nI (j))), (2, .int (nI (1)))] dX9_term_22 rfl (Nat.le_of_ble_eq_true rfl) rfl ?_
  refine g_iload_n 2 dX9_term_23 rfl rfl ?_
  refine gN_iconst 4 dX9_term_24 (by decide) ?_
  refine gN_icmp_ge 35 dX9_term_25 (by decide) (by first | omega | exact b01_lt _) (by first | omega | exact b01_lt _) (fun h_25 => ?_) (fun h_25 => ?_)
  · exact absurd h_25 (by decide)
  · refine g_aload_n 3 dX9_term_28 rfl rfl ?_
    refine gN_getR (d + 1 + 22 + 2 * j) flX9_130 (fun _ _ _ => rfl) 0 (hD.s.tW (by omega)) (hD.s.rP (by omega)) dX9_term_29 ?_
    refine g_iload_n 2 dX9_term_32 rfl rfl ?_
    refine gN_iald 4 (hD.s.tP (by omega)) (by first | omega | exact b01_lt _) (by first | omega | exact b01_lt _) dX9_term_33 ?_
    refine g_eI (z (24 + 4 * j + 1)) (hR.W (by omega) (by omega)) ?_
    refine g_iret rfl dX9_term_34 ⟨Nat.zero_le _, Nat.zero_le _⟩ ?_
    exact ⟨rfl, rfl⟩
set_option maxRecDepth 100000 in
theorem cn_X9_term02 (g : Gp) (cs : Nat × Nat) {m : Mm} {d B c : Nat} {z : Nat → Int32} (hD : DkT m d) (hR : Rp m B (d + 1) z) (hz : ZOk c z) {j : Nat} (hj : j < 8) : Dn g (MX9_term cs) [.ref (d), .int (nI (j)), .int (nI (2))] m (some (.int (terV z j 2))) m := by
  have hz0 := hz.n0.hi
  have hz1 := hz.n1.hi
  refine Cn.of pn_X9 (Nat.le_of_ble_eq_true rfl) rfl ?_
  refine g_iload_n 1 dX9_term_0 rfl rfl ?_
  refine gN_bipush 8 dX9_term_1 (by decide) ?_
  refine gd_callS _ _ _ _ (cn_X9_checkNumber g (0, 0) (j := j) (N := 8) (by omega) (by omega)) ⟨rfl, rfl⟩ (ok_X9_checkNumber _) mlX9_30 st_X9_checkNumber rfl ⟨Nat.le_of_ble_eq_true rfl, Nat.le_of_ble_eq_true rfl⟩ (by exact Nat.le_of_ble_eq_true rfl) ⟨Nat.zero_le _, Nat.zero_le _⟩ dX9_term_3 rfl ?_
  refine g_iload_n 2 dX9_term_6 rfl rfl ?_
  refine gN_iconst 0 dX9_term_7 (by decide) ?_
  refine gN_bipush 7 dX9_term_8 (by decide) ?_
  refine gd_callS _ _ _ _ (cn_X9_checkRange g (0, 0) ((in_inb (n := 7) (by decide)).mpr ((inb_nI (by omega)).mpr (by omega)))) ⟨rfl, rfl⟩ (ok_X9_checkRange _) mlX9_34 st_X9_checkRange rfl ⟨Nat.le_of_ble_eq_true rfl, Nat.le_of_ble_eq_true rfl⟩ (by exact Nat.le_of_ble_eq_true rfl) ⟨Nat.zero_le _, Nat.zero_le _⟩ dX9_term_10 rfl ?_
  refine g_aload_n 0 dX9_term_13 rfl rfl ?_
  refine gN_getR (d + 1) flX9_10 (fun _ _ _ => rfl) 0 (hD.t) (hD.r0) dX9_term_14 ?_
  refine gN_getR (d + 1 + 4) flX9_121 (fun _ _ _ => rfl) 0 (hD.s.t) (hD.s.r3) dX9_term_17 ?_
  refine g_iload_n 1 dX9_term_20 rfl rfl ?_
  refine gN_aald 16 8 (d + 1 + 21 + 2 * j) (hD.s.t4) (by decide) (by first | omega | exact b01_lt _) (by first | omega | exact b01_lt _) (hD.s.rW (by omega)) dX9_term_21 ?_
  refine g_astore_n 3 [(3, .ref (d + 1 + 21 + 2 * j)), (0, .ref (d)), (1, .int (nI (j))), (2, .int (nI (2)))] dX9_term_22 rfl (Nat.le_of_ble_eq_true rfl) rfl ?_
  refine g_iload_n 2 dX9_term_23 rfl rfl ?_
  refine gN_iconst 4 dX9_term_24 (by decide) ?_
  refine gN_icmp_ge 35 dX9_term_25 (by decide) (by first | omega | exact b01_lt _) (by first | omega | exact b01_lt _) (fun h_25 => ?_) (fun h_25 => ?_)
  · exact absurd h_25 (by decide)
  · refine g_aload_n 3 dX9_term_28 rfl rfl ?_
    refine gN_getR (d + 1 + 22 + 2 * j) flX9_130 (fun _ _ _ => rfl) 0 (hD.s.tW (by omega)) (hD.s.rP (by omega)) dX9_term_29 ?_
    refine g_iload_n 2 dX9_term_32 rfl rfl ?_
    refine gN_iald 4 (hD.s.tP (by omega)) (by first | omega | exact b01_lt _) (by first | omega | exact b01_lt _) dX9_term_33 ?_
    refine g_eI (z (24 + 4 * j + 2)) (hR.W (by omega) (by omega)) ?_
    refine g_iret rfl dX9_term_34 ⟨Nat.zero_le _, Nat.zero_le _⟩ ?_
    exact ⟨rfl, rfl⟩
set_option maxRecDepth 100000 in
theorem cn_X9_term03 (g : Gp) (cs : Nat × Nat) {m : Mm} {d B c : Nat} {z : Nat → Int32} (hD : DkT m d) (hR : Rp m B (d + 1) z) (hz : ZOk c z) {j : Nat} (hj : j < 8) : Dn g (MX9_term cs) [.ref (d), .int (nI (j)), .int (nI (3))] m (some (.int (terV z j 3))) m := by
  have hz0 := hz.n0.hi
  have hz1 := hz.n1.hi
  refine Cn.of pn_X9 (Nat.le_of_ble_eq_true rfl) rfl ?_
  refine g_iload_n 1 dX9_term_0 rfl rfl ?_
  refine gN_bipush 8 dX9_term_1 (by decide) ?_
  refine gd_callS _ _ _ _ (cn_X9_checkNumber g (0, 0) (j := j) (N := 8) (by omega) (by omega)) ⟨rfl, rfl⟩ (ok_X9_checkNumber _) mlX9_30 st_X9_checkNumber rfl ⟨Nat.le_of_ble_eq_true rfl, Nat.le_of_ble_eq_true rfl⟩ (by exact Nat.le_of_ble_eq_true rfl) ⟨Nat.zero_le _, Nat.zero_le _⟩ dX9_term_3 rfl ?_
  refine g_iload_n 2 dX9_term_6 rfl rfl ?_
  refine gN_iconst 0 dX9_term_7 (by decide) ?_
  refine gN_bipush 7 dX9_term_8 (by decide) ?_
  refine gd_callS _ _ _ _ (cn_X9_checkRange g (0, 0) ((in_inb (n := 7) (by decide)).mpr ((inb_nI (by omega)).mpr (by omega)))) ⟨rfl, rfl⟩ (ok_X9_checkRange _) mlX9_34 st_X9_checkRange rfl ⟨Nat.le_of_ble_eq_true rfl, Nat.le_of_ble_eq_true rfl⟩ (by exact Nat.le_of_ble_eq_true rfl) ⟨Nat.zero_le _, Nat.zero_le _⟩ dX9_term_10 rfl ?_
  refine g_aload_n 0 dX9_term_13 rfl rfl ?_
  refine gN_getR (d + 1) flX9_10 (fun _ _ _ => rfl) 0 (hD.t) (hD.r0) dX9_term_14 ?_
  refine gN_getR (d + 1 + 4) flX9_121 (fun _ _ _ => rfl) 0 (hD.s.t) (hD.s.r3) dX9_term_17 ?_
  refine g_iload_n 1 dX9_term_20 rfl rfl ?_
  refine gN_aald 16 8 (d + 1 + 21 + 2 * j) (hD.s.t4) (by decide) (by first | omega | exact b01_lt _) (by first | omega | exact b01_lt _) (hD.s.rW (by omega)) dX9_term_21 ?_
  refine g_astore_n 3 [(3, .ref (d + 1 + 21 + 2 * j)), (0, .ref (d)), (1, .int (nI (j))), (2, .int (nI (3)))] dX9_term_22 rfl (Nat.le_of_ble_eq_true rfl) rfl ?_
  refine g_iload_n 2 dX9_term_23 rfl rfl ?_
  refine gN_iconst 4 dX9_term_24 (by decide) ?_
  refine gN_icmp_ge 35 dX9_term_25 (by decide) (by first | omega | exact b01_lt _) (by first | omega | exact b01_lt _) (fun h_25 => ?_) (fun h_25 => ?_)
  · exact absurd h_25 (by decide)
  · refine g_aload_n 3 dX9_term_28 rfl rfl ?_
    refine gN_getR (d + 1 + 22 + 2 * j) flX9_130 (fun _ _ _ => rfl) 0 (hD.s.tW (by omega)) (hD.s.rP (by omega)) dX9_term_29 ?_
    refine g_iload_n 2 dX9_term_32 rfl rfl ?_
    refine gN_iald 4 (hD.s.tP (by omega)) (by first | omega | exact b01_lt _) (by first | omega | exact b01_lt _) dX9_term_33 ?_
    refine g_eI (z (24 + 4 * j + 3)) (hR.W (by omega) (by omega)) ?_
    refine g_iret rfl dX9_term_34 ⟨Nat.zero_le _, Nat.zero_le _⟩ ?_
    exact ⟨rfl, rfl⟩
set_option maxRecDepth 100000 in
theorem cn_X9_term04 (g : Gp) (cs : Nat × Nat) {m : Mm} {d B c : Nat} {z : Nat → Int32} (hD : DkT m d) (hR : Rp m B (d + 1) z) (hz : ZOk c z) {j : Nat} (hj : j < 8) : Dn g (MX9_term cs) [.ref (d), .int (nI (j)), .int (nI (4))] m (some (.int (terV z j 4))) m := by
  have hz0 := hz.n0.hi
  have hz1 := hz.n1.hi
  refine Cn.of pn_X9 (Nat.le_of_ble_eq_true rfl) rfl ?_
  refine g_iload_n 1 dX9_term_0 rfl rfl ?_
  refine gN_bipush 8 dX9_term_1 (by decide) ?_
  refine gd_callS _ _ _ _ (cn_X9_checkNumber g (0, 0) (j := j) (N := 8) (by omega) (by omega)) ⟨rfl, rfl⟩ (ok_X9_checkNumber _) mlX9_30 st_X9_checkNumber rfl ⟨Nat.le_of_ble_eq_true rfl, Nat.le_of_ble_eq_true rfl⟩ (by exact Nat.le_of_ble_eq_true rfl) ⟨Nat.zero_le _, Nat.zero_le _⟩ dX9_term_3 rfl ?_
  refine g_iload_n 2 dX9_term_6 rfl rfl ?_
  refine gN_iconst 0 dX9_term_7 (by decide) ?_
  refine gN_bipush 7 dX9_term_8 (by decide) ?_
  refine gd_callS _ _ _ _ (cn_X9_checkRange g (0, 0) ((in_inb (n := 7) (by decide)).mpr ((inb_nI (by omega)).mpr (by omega)))) ⟨rfl, rfl⟩ (ok_X9_checkRange _) mlX9_34 st_X9_checkRange rfl ⟨Nat.le_of_ble_eq_true rfl, Nat.le_of_ble_eq_true rfl⟩ (by exact Nat.le_of_ble_eq_true rfl) ⟨Nat.zero_le _, Nat.zero_le _⟩ dX9_term_10 rfl ?_
  refine g_aload_n 0 dX9_term_13 rfl rfl ?_
  refine gN_getR (d + 1) flX9_10 (fun _ _ _ => rfl) 0 (hD.t) (hD.r0) dX9_term_14 ?_
  refine gN_getR (d + 1 + 4) flX9_121 (fun _ _ _ => rfl) 0 (hD.s.t) (hD.s.r3) dX9_term_17 ?_
  refine g_iload_n 1 dX9_term_20 rfl rfl ?_
  refine gN_aald 16 8 (d + 1 + 21 + 2 * j) (hD.s.t4) (by decide) (by first | omega | exact b01_lt _) (by first | omega | exact b01_lt _) (hD.s.rW (by omega)) dX9_term_21 ?_
  refine g_astore_n 3 [(3, .ref (d + 1 + 21 + 2 * j)), (0, .ref (d)), (1, .int (nI (j))), (2, .int (nI (4)))] dX9_term_22 rfl (Nat.le_of_ble_eq_true rfl) rfl ?_
  refine g_iload_n 2 dX9_term_23 rfl rfl ?_
  refine gN_iconst 4 dX9_term_24 (by decide) ?_
  refine gN_icmp_ge 35 dX9_term_25 (by decide) (by first | omega | exact b01_lt _) (by first | omega | exact b01_lt _) (fun h_25 => ?_) (fun h_25 => ?_)
  · refine g_iload_n 2 dX9_term_35 rfl rfl ?_
    refine g_tableIn (off := 28) 64 dX9_term_36 (by decide) (by decide) (by decide) (by decide) ?_
    refine g_aload_n 3 dX9_term_64 rfl rfl ?_
    refine gN_getI flX9_125 rfl 0 (hD.s.tW (by omega)) dX9_term_65 ?_
    refine g_eI (z (56 + j)) (hR.W1 (by omega)) ?_
    refine g_iret rfl dX9_term_68 ⟨Nat.zero_le _, Nat.zero_le _⟩ ?_
    exact ⟨rfl, rfl⟩
  · exact absurd h_25 (by decide)
set_option maxRecDepth 100000 in
theorem cn_X9_term05 (g : Gp) (cs : Nat × Nat) {m : Mm} {d B c : Nat} {z : Nat → Int32} (hD : DkT m d) (hR : Rp m B (d + 1) z) (hz : ZOk c z) {j : Nat} (hj : j < 8) : Dn g (MX9_term cs) [.ref (d), .int (nI (j)), .int (nI (5))] m (some (.int (terV z j 5))) m := by
  have hz0 := hz.n0.hi
  have hz1 := hz.n1.hi
  refine Cn.of pn_X9 (Nat.le_of_ble_eq_true rfl) rfl ?_
  refine g_iload_n 1 dX9_term_0 rfl rfl ?_
  refine gN_bipush 8 dX9_term_1 (by decide) ?_
  refine gd_callS _ _ _ _ (cn_X9_checkNumber g (0, 0) (j := j) (N := 8) (by omega) (by omega)) ⟨rfl, rfl⟩ (ok_X9_checkNumber _) mlX9_30 st_X9_checkNumber rfl ⟨Nat.le_of_ble_eq_true rfl, Nat.le_of_ble_eq_true rfl⟩ (by exact Nat.le_of_ble_eq_true rfl) ⟨Nat.zero_le _, Nat.zero_le _⟩ dX9_term_3 rfl ?_
  refine g_iload_n 2 dX9_term_6 rfl rfl ?_
  refine gN_iconst 0 dX9_term_7 (by decide) ?_
  refine gN_bipush 7 dX9_term_8 (by decide) ?_
  refine gd_callS _ _ _ _ (cn_X9_checkRange g (0, 0) ((in_inb (n := 7) (by decide)).mpr ((inb_nI (by omega)).mpr (by omega)))) ⟨rfl, rfl⟩ (ok_X9_checkRange _) mlX9_34 st_X9_checkRange rfl ⟨Nat.le_of_ble_eq_true rfl, Nat.le_of_ble_eq_true rfl⟩ (by exact Nat.le_of_ble_eq_true rfl) ⟨Nat.zero_le _, Nat.zero_le _⟩ dX9_term_10 rfl ?_
  refine g_aload_n 0 dX9_term_13 rfl rfl ?_
  refine gN_getR (d + 1) flX9_10 (fun _ _ _ => rfl) 0 (hD.t) (hD.r0) dX9_term_14 ?_
  refine gN_getR (d + 1 + 4) flX9_121 (fun _ _ _ => rfl) 0 (hD.s.t) (hD.s.r3) dX9_term_17 ?_
  refine g_iload_n 1 dX9_term_20 rfl rfl ?_
  refine gN_aald 16 8 (d + 1 + 21 + 2 * j) (hD.s.t4) (by decide) (by first | omega | exact b01_lt _) (by first | omega | exact b01_lt _) (hD.s.rW (by omega)) dX9_term_21 ?_
  refine g_astore_n 3 [(3, .ref (d + 1 + 21 + 2 * j)), (0, .ref (d)), (1, .int (nI (j))), (2, .int (nI (5)))] dX9_term_22 rfl (Nat.le_of_ble_eq_true rfl) rfl ?_
  refine g_iload_n 2 dX9_term_23 rfl rfl ?_
  refine gN_iconst 4 dX9_term_24 (by decide) ?_
  refine gN_icmp_ge 35 dX9_term_25 (by decide) (by first | omega | exact b01_lt _) (by first | omega | exact b01_lt _) (fun h_25 => ?_) (fun h_25 => ?_)
  · refine g_iload_n 2 dX9_term_35 rfl rfl ?_
    refine g_tableIn (off := 33) 69 dX9_term_36 (by decide) (by decide) (by decide) (by decide) ?_
    refine g_aload_n 3 dX9_term_69 rfl rfl ?_
    refine gd_callV _ _ _ _ (cn_SD g (0, 0) hD.s hR hz hj) ⟨rfl, rfl⟩ (ok_X7_isDisputed _) mlX9_228 in_X7_isDisputed se_X7_isDisputed 7 0 (hD.s.tW (by omega)) rfl rfl rfl ⟨Nat.le_of_ble_eq_true rfl, Nat.le_of_ble_eq_true rfl⟩ (by exact Nat.le_of_ble_eq_true rfl) ⟨Nat.zero_le _, Nat.zero_le _⟩ dX9_term_70 rfl ?_
    refine gd_callS _ _ _ _ (cn_X9_oneIf g (0, 0) (dsp z j)) ⟨rfl, rfl⟩ (ok_X9_oneIf _) mlX9_200 st_X9_oneIf rfl ⟨Nat.le_of_ble_eq_true rfl, Nat.le_of_ble_eq_true rfl⟩ (by exact Nat.le_of_ble_eq_true rfl) ⟨Nat.zero_le _, Nat.zero_le _⟩ dX9_term_73 rfl ?_
    refine g_iret rfl dX9_term_76 ⟨Nat.zero_le _, Nat.zero_le _⟩ ?_
    exact ⟨rfl, rfl⟩
  · exact absurd h_25 (by decide)
set_option maxRecDepth 100000 in
theorem cn_X9_term06 (g : Gp) (cs : Nat × Nat) {m : Mm} {d B c : Nat} {z : Nat → Int32} (hD : DkT m d) (hR : Rp m B (d + 1) z) (hz : ZOk c z) {j : Nat} (hj : j < 8) : Dn g (MX9_term cs) [.ref (d), .int (nI (j)), .int (nI (6))] m (some (.int (terV z j 6))) m := by
  have hz0 := hz.n0.hi
  have hz1 := hz.n1.hi
  refine Cn.of pn_X9 (Nat.le_of_ble_eq_true rfl) rfl ?_
  refine g_iload_n 1 dX9_term_0 rfl rfl ?_
  refine gN_bipush 8 dX9_term_1 (by decide) ?_
  refine gd_callS _ _ _ _ (cn_X9_checkNumber g (0, 0) (j := j) (N := 8) (by omega) (by omega)) ⟨rfl, rfl⟩ (ok_X9_checkNumber _) mlX9_30 st_X9_checkNumber rfl ⟨Nat.le_of_ble_eq_true rfl, Nat.le_of_ble_eq_true rfl⟩ (by exact Nat.le_of_ble_eq_true rfl) ⟨Nat.zero_le _, Nat.zero_le _⟩ dX9_term_3 rfl ?_
  refine g_iload_n 2 dX9_term_6 rfl rfl ?_
  refine gN_iconst 0 dX9_term_7 (by decide) ?_
  refine gN_bipush 7 dX9_term_8 (by decide) ?_
  refine gd_callS _ _ _ _ (cn_X9_checkRange g (0, 0) ((in_inb (n := 7) (by decide)).mpr ((inb_nI (by omega)).mpr (by omega)))) ⟨rfl, rfl⟩ (ok_X9_checkRange _) mlX9_34 st_X9_checkRange rfl ⟨Nat.le_of_ble_eq_true rfl, Nat.le_of_ble_eq_true rfl⟩ (by exact Nat.le_of_ble_eq_true rfl) ⟨Nat.zero_le _, Nat.zero_le _⟩ dX9_term_10 rfl ?_
  refine g_aload_n 0 dX9_term_13 rfl rfl ?_
  refine gN_getR (d + 1) flX9_10 (fun _ _ _ => rfl) 0 (hD.t) (hD.r0) dX9_term_14 ?_
  refine gN_getR (d + 1 + 4) flX9_121 (fun _ _ _ => rfl) 0 (hD.s.t) (hD.s.r3) dX9_term_17 ?_
  refine g_iload_n 1 dX9_term_20 rfl rfl ?_
  refine gN_aald 16 8 (d + 1 + 21 + 2 * j) (hD.s.t4) (by decide) (by first | omega | exact b01_lt _) (by first | omega | exact b01_lt _) (hD.s.rW (by omega)) dX9_term_21 ?_
  refine g_astore_n 3 [(3, .ref (d + 1 + 21 + 2 * j)), (0, .ref (d)), (1, .int (nI (j))), (2, .int (nI (6)))] dX9_term_22 rfl (Nat.le_of_ble_eq_true rfl) rfl ?_
  refine g_iload_n 2 dX9_term_23 rfl rfl ?_
  refine gN_iconst 4 dX9_term_24 (by decide) ?_
  refine gN_icmp_ge 35 dX9_term_25 (by decide) (by first | omega | exact b01_lt _) (by first | omega | exact b01_lt _) (fun h_25 => ?_) (fun h_25 => ?_)
  · refine g_iload_n 2 dX9_term_35 rfl rfl ?_
    refine g_tableIn (off := 41) 77 dX9_term_36 (by decide) (by decide) (by decide) (by decide) ?_
    refine g_aload_n 3 dX9_term_77 rfl rfl ?_
    refine gd_callV _ _ _ _ (cn_SU g (0, 0) hD.s hR hz hj) ⟨rfl, rfl⟩ (ok_X7_unlikeProposals _) mlX9_231 in_X7_unlikeProposals se_X7_unlikeProposals 7 0 (hD.s.tW (by omega)) rfl rfl rfl ⟨Nat.le_of_ble_eq_true rfl, Nat.le_of_ble_eq_true rfl⟩ (by exact Nat.le_of_ble_eq_true rfl) ⟨Nat.zero_le _, Nat.zero_le _⟩ dX9_term_78 rfl ?_
    refine g_iret rfl dX9_term_81 ⟨Nat.zero_le _, Nat.zero_le _⟩ ?_
    exact ⟨rfl, rfl⟩
  · exact absurd h_25 (by decide)
set_option maxRecDepth 100000 in
theorem cn_X9_term07 (g : Gp) (cs : Nat × Nat) {m : Mm} {d B c : Nat} {z : Nat → Int32} (hD : DkT m d) (hR : Rp m B (d + 1) z) (hz : ZOk c z) {j : Nat} (hj : j < 8) : Dn g (MX9_term cs) [.ref (d), .int (nI (j)), .int (nI (7))] m (some (.int (terV z j 7))) m := by
  have hz0 := hz.n0.hi
  have hz1 := hz.n1.hi
  refine Cn.of pn_X9 (Nat.le_of_ble_eq_true rfl) rfl ?_
  refine g_iload_n 1 dX9_term_0 rfl rfl ?_
  refine gN_bipush 8 dX9_term_1 (by decide) ?_
  refine gd_callS _ _ _ _ (cn_X9_checkNumber g (0, 0) (j := j) (N := 8) (by omega) (by omega)) ⟨rfl, rfl⟩ (ok_X9_checkNumber _) mlX9_30 st_X9_checkNumber rfl ⟨Nat.le_of_ble_eq_true rfl, Nat.le_of_ble_eq_true rfl⟩ (by exact Nat.le_of_ble_eq_true rfl) ⟨Nat.zero_le _, Nat.zero_le _⟩ dX9_term_3 rfl ?_
  refine g_iload_n 2 dX9_term_6 rfl rfl ?_
  refine gN_iconst 0 dX9_term_7 (by decide) ?_
  refine gN_bipush 7 dX9_term_8 (by decide) ?_
  refine gd_callS _ _ _ _ (cn_X9_checkRange g (0, 0) ((in_inb (n := 7) (by decide)).mpr ((inb_nI (by omega)).mpr (by omega)))) ⟨rfl, rfl⟩ (ok_X9_checkRange _) mlX9_34 st_X9_checkRange rfl ⟨Nat.le_of_ble_eq_true rfl, Nat.le_of_ble_eq_true rfl⟩ (by exact Nat.le_of_ble_eq_true rfl) ⟨Nat.zero_le _, Nat.zero_le _⟩ dX9_term_10 rfl ?_
  refine g_aload_n 0 dX9_term_13 rfl rfl ?_
  refine gN_getR (d + 1) flX9_10 (fun _ _ _ => rfl) 0 (hD.t) (hD.r0) dX9_term_14 ?_
  refine gN_getR (d + 1 + 4) flX9_121 (fun _ _ _ => rfl) 0 (hD.s.t) (hD.s.r3) dX9_term_17 ?_
  refine g_iload_n 1 dX9_term_20 rfl rfl ?_
  refine gN_aald 16 8 (d + 1 + 21 + 2 * j) (hD.s.t4) (by decide) (by first | omega | exact b01_lt _) (by first | omega | exact b01_lt _) (hD.s.rW (by omega)) dX9_term_21 ?_
  refine g_astore_n 3 [(3, .ref (d + 1 + 21 + 2 * j)), (0, .ref (d)), (1, .int (nI (j))), (2, .int (nI (7)))] dX9_term_22 rfl (Nat.le_of_ble_eq_true rfl) rfl ?_
  refine g_iload_n 2 dX9_term_23 rfl rfl ?_
  refine gN_iconst 4 dX9_term_24 (by decide) ?_
  refine gN_icmp_ge 35 dX9_term_25 (by decide) (by first | omega | exact b01_lt _) (by first | omega | exact b01_lt _) (fun h_25 => ?_) (fun h_25 => ?_)
  · refine g_iload_n 2 dX9_term_35 rfl rfl ?_
    refine g_tableOut 82 dX9_term_36 (by decide) (by decide) ?_
    refine g_aload_n 0 dX9_term_82 rfl rfl ?_
    refine gN_getR (d + 1) flX9_10 (fun _ _ _ => rfl) 0 (hD.t) (hD.r0) dX9_term_83 ?_
    refine g_iload_n 1 dX9_term_86 rfl rfl ?_
    refine gd_callV _ _ _ _ (cn_X6_occurrences g (0, 0) hD.s hR hz hj) ⟨rfl, rfl⟩ (ok_X6_occurrences _) mlX9_234 in_X6_occurrences se_X6_occurrences 6 0 (hD.s.t) rfl rfl rfl ⟨Nat.le_of_ble_eq_true rfl, Nat.le_of_ble_eq_true rfl⟩ (by exact Nat.le_of_ble_eq_true rfl) ⟨Nat.zero_le _, Nat.zero_le _⟩ dX9_term_87 rfl ?_
    refine g_iret rfl dX9_term_90 ⟨Nat.zero_le _, Nat.zero_le _⟩ ?_
    exact ⟨rfl, rfl⟩
  · exact absurd h_25 (by decide)
theorem cn_X9_term (g : Gp) (cs : Nat × Nat) {m : Mm} {d B c : Nat} {z : Nat → Int32} (hD : DkT m d) (hR : Rp m B (d + 1) z) (hz : ZOk c z) {j : Nat} (hj : j < 8) {w : Nat} (hw : w ≤ 7) : Dn g (MX9_term cs) [.ref d, .int (nI j), .int (nI w)] m (some (.int (terV z j w))) m := by
  rcases (show w = 0 ∨ w = 1 ∨ w = 2 ∨ w = 3 ∨ w = 4 ∨ w = 5 ∨ w = 6 ∨ w = 7 by omega) with rfl | rfl | rfl | rfl | rfl | rfl | rfl | rfl
  · exact cn_X9_term00 g cs hD hR hz hj
  · exact cn_X9_term01 g cs hD hR hz hj
  · exact cn_X9_term02 g cs hD hR hz hj
  · exact cn_X9_term03 g cs hD hR hz hj
  · exact cn_X9_term04 g cs hD hR hz hj
  · exact cn_X9_term05 g cs hD hR hz hj
  · exact cn_X9_term06 g cs hD hR hz hj
  · exact cn_X9_term07 g cs hD hR hz hj
set_option maxRecDepth 100000 in
theorem cx_X9_band_1 (g : Gp) (cs : Nat × Nat) {m : Mm} {d B c : Nat} {z : Nat → Int32} (hD : DkT m d) (hR : Rp m B (d + 1) z) (hz : ZOk c z) {p x : Int32} (h : ¬ inb p 5) : Xn g (MX9_band (1, 6)) [.ref (d), .int (p), .int (x)] m "java/lang/IndexOutOfBoundsException" := by
  have hz0 := hz.n0.hi
  have hz1 := hz.n1.hi
  refine Cn.of pn_X9 (Nat.le_of_ble_eq_true rfl) rfl ?_
  refine g_iload_n 1 dX9_band_0 rfl rfl ?_
  refine gN_iconst 5 dX9_band_1 (by decide) ?_
  exact gx_callS _ _ (cx_X9_checkNumber g (0, 0) (N := 5) (by omega) (h)) (ok_X9_checkNumber _) mlX9_30 st_X9_checkNumber rfl ⟨Nat.le_of_ble_eq_true rfl, Nat.le_of_ble_eq_true rfl⟩ (by exact Nat.le_of_ble_eq_true rfl) ⟨Nat.le_of_ble_eq_true rfl, Nat.le_of_ble_eq_true rfl⟩ dX9_band_2 rfl (fun n hn => ⟨rfl, n, hn, rfl⟩)
set_option maxRecDepth 100000 in
theorem cx_X9_band_2 (g : Gp) (cs : Nat × Nat) {m : Mm} {d B c : Nat} {z : Nat → Int32} (hD : DkT m d) (hR : Rp m B (d + 1) z) (hz : ZOk c z) {j : Nat} (hj : j < 5) {x : Int32} (h : ¬ inb x 3) : Xn g (MX9_band (1, 6)) [.ref (d), .int (nI (j)), .int (x)] m "java/lang/IllegalArgumentException" := by
  have hz0 := hz.n0.hi
  have hz1 := hz.n1.hi
  refine Cn.of pn_X9 (Nat.le_of_ble_eq_true rfl) rfl ?_
  refine g_iload_n 1 dX9_band_0 rfl rfl ?_
  refine gN_iconst 5 dX9_band_1 (by decide) ?_
  refine gd_callS _ _ _ _ (cn_X9_checkNumber g (0, 0) (j := j) (N := 5) (by omega) (by omega)) ⟨rfl, rfl⟩ (ok_X9_checkNumber _) mlX9_30 st_X9_checkNumber rfl ⟨Nat.le_of_ble_eq_true rfl, Nat.le_of_ble_eq_true rfl⟩ (by exact Nat.le_of_ble_eq_true rfl) ⟨Nat.zero_le _, Nat.zero_le _⟩ dX9_band_2 rfl ?_
  refine g_iload_n 2 dX9_band_5 rfl rfl ?_
  refine gN_iconst 0 dX9_band_6 (by decide) ?_
  refine gN_iconst 2 dX9_band_7 (by decide) ?_
  exact gx_callS _ _ (cx_X9_checkRange g (0, 0) (fun q => h ((in_inb (n := 2) (by decide)).mp q))) (ok_X9_checkRange _) mlX9_34 st_X9_checkRange rfl ⟨Nat.le_of_ble_eq_true rfl, Nat.le_of_ble_eq_true rfl⟩ (by exact Nat.le_of_ble_eq_true rfl) ⟨Nat.le_of_ble_eq_true rfl, Nat.le_of_ble_eq_true rfl⟩ dX9_band_8 rfl (fun n hn => ⟨rfl, n, hn, rfl⟩)
set_option maxRecDepth 100000 in
theorem cn_X9_band00 (g : Gp) (cs : Nat × Nat) {m : Mm} {d B c : Nat} {z : Nat → Int32} (hD : DkT m d) (hR : Rp m B (d + 1) z) (hz : ZOk c z) {j : Nat} (hj : j < 5) : Dn g (MX9_band cs) [.ref (d), .int (nI (j)), .int (nI (0))] m (some (.int (z (64 + 3 * j + 0)))) m := by
  have hz0 := hz.n0.hi
  have hz1 := hz.n1.hi
  refine Cn.of pn_X9 (Nat.le_of_ble_eq_true rfl) rfl ?_
  refine g_iload_n 1 dX9_band_0 rfl rfl ?_
  refine gN_iconst 5 dX9_band_1 (by decide) ?_
  refine gd_callS _ _ _ _ (cn_X9_checkNumber g (0, 0) (j := j) (N := 5) (by omega) (by omega)) ⟨rfl, rfl⟩ (ok_X9_checkNumber _) mlX9_30 st_X9_checkNumber rfl ⟨Nat.le_of_ble_eq_true rfl, Nat.le_of_ble_eq_true rfl⟩ (by exact Nat.le_of_ble_eq_true rfl) ⟨Nat.zero_le _, Nat.zero_le _⟩ dX9_band_2 rfl ?_
  refine g_iload_n 2 dX9_band_5 rfl rfl ?_
  refine gN_iconst 0 dX9_band_6 (by decide) ?_
  refine gN_iconst 2 dX9_band_7 (by decide) ?_
  refine gd_callS _ _ _ _ (cn_X9_checkRange g (0, 0) ((in_inb (n := 2) (by decide)).mpr ((inb_nI (by omega)).mpr (by omega)))) ⟨rfl, rfl⟩ (ok_X9_checkRange _) mlX9_34 st_X9_checkRange rfl ⟨Nat.le_of_ble_eq_true rfl, Nat.le_of_ble_eq_true rfl⟩ (by exact Nat.le_of_ble_eq_true rfl) ⟨Nat.zero_le _, Nat.zero_le _⟩ dX9_band_8 rfl ?_
  refine g_aload_n 0 dX9_band_11 rfl rfl ?_
  refine gN_getR (d + 1) flX9_10 (fun _ _ _ => rfl) 0 (hD.t) (hD.r0) dX9_band_12 ?_
  refine gN_getR (d + 1 + 3) flX9_52 (fun _ _ _ => rfl) 0 (hD.s.t) (hD.s.r2) dX9_band_15 ?_
  refine g_iload_n 1 dX9_band_18 rfl rfl ?_
  refine gN_aald 12 5 (d + 1 + 16 + j) (hD.s.t3) (by decide) (by first | omega | exact b01_lt _) (by first | omega | exact b01_lt _) (hD.s.rB (by omega)) dX9_band_19 ?_
  refine g_astore_n 3 [(3, .ref (d + 1 + 16 + j)), (0, .ref (d)), (1, .int (nI (j))), (2, .int (nI (0)))] dX9_band_20 rfl (Nat.le_of_ble_eq_true rfl) rfl ?_
  refine g_iload_n 2 dX9_band_21 rfl rfl ?_
  refine g_lookup (off := 26) 48 dX9_band_22 (by decide) (by decide) (by decide) ?_
  refine g_aload_n 3 dX9_band_48 rfl rfl ?_
  refine gN_getI flX9_56 rfl 0 (hD.s.tB (by omega)) dX9_band_49 ?_
  refine g_eI (z (64 + 3 * j)) (hR.B0 (by omega)) ?_
  refine g_iret rfl dX9_band_52 ⟨Nat.zero_le _, Nat.zero_le _⟩ ?_
  exact ⟨rfl, rfl⟩
set_option maxRecDepth 100000 in
theorem cn_X9_band01 (g : Gp) (cs : Nat × Nat) {m : Mm} {d B c : Nat} {z : Nat → Int32} (hD : DkT m d) (hR : Rp m B (d + 1) z) (hz : ZOk c z) {j : Nat} (hj : j < 5) : Dn g (MX9_band cs) [.ref (d), .int (nI (j)), .int (nI (1))] m (some (.int (z (64 + 3 * j + 1)))) m := by
  have hz0 := hz.n0.hi
  have hz1 := hz.n1.hi
  refine Cn.of pn_X9 (Nat.le_of_ble_eq_true rfl) rfl ?_
  refine g_iload_n 1 dX9_band_0 rfl rfl ?_
  refine gN_iconst 5 dX9_band_1 (by decide) ?_
  refine gd_callS _ _ _ _ (cn_X9_checkNumber g (0, 0) (j := j) (N := 5) (by omega) (by omega)) ⟨rfl, rfl⟩ (ok_X9_checkNumber _) mlX9_30 st_X9_checkNumber rfl ⟨Nat.le_of_ble_eq_true rfl, Nat.le_of_ble_eq_true rfl⟩ (by exact Nat.le_of_ble_eq_true rfl) ⟨Nat.zero_le _, Nat.zero_le _⟩ dX9_band_2 rfl ?_
  refine g_iload_n 2 dX9_band_5 rfl rfl ?_
  refine gN_iconst 0 dX9_band_6 (by decide) ?_
  refine gN_iconst 2 dX9_band_7 (by decide) ?_
  refine gd_callS _ _ _ _ (cn_X9_checkRange g (0, 0) ((in_inb (n := 2) (by decide)).mpr ((inb_nI (by omega)).mpr (by omega)))) ⟨rfl, rfl⟩ (ok_X9_checkRange _) mlX9_34 st_X9_checkRange rfl ⟨Nat.le_of_ble_eq_true rfl, Nat.le_of_ble_eq_true rfl⟩ (by exact Nat.le_of_ble_eq_true rfl) ⟨Nat.zero_le _, Nat.zero_le _⟩ dX9_band_8 rfl ?_
  refine g_aload_n 0 dX9_band_11 rfl rfl ?_
  refine gN_getR (d + 1) flX9_10 (fun _ _ _ => rfl) 0 (hD.t) (hD.r0) dX9_band_12 ?_
  refine gN_getR (d + 1 + 3) flX9_52 (fun _ _ _ => rfl) 0 (hD.s.t) (hD.s.r2) dX9_band_15 ?_
  refine g_iload_n 1 dX9_band_18 rfl rfl ?_
  refine gN_aald 12 5 (d + 1 + 16 + j) (hD.s.t3) (by decide) (by first | omega | exact b01_lt _) (by first | omega | exact b01_lt _) (hD.s.rB (by omega)) dX9_band_19 ?_
  refine g_astore_n 3 [(3, .ref (d + 1 + 16 + j)), (0, .ref (d)), (1, .int (nI (j))), (2, .int (nI (1)))] dX9_band_20 rfl (Nat.le_of_ble_eq_true rfl) rfl ?_
  refine g_iload_n 2 dX9_band_21 rfl rfl ?_
  refine g_lookup (off := 31) 53 dX9_band_22 (by decide) (by decide) (by decide) ?_
  refine g_aload_n 3 dX9_band_53 rfl rfl ?_
  refine gN_getI flX9_237 rfl 0 (hD.s.tB (by omega)) dX9_band_54 ?_
  refine g_eI (z (64 + 3 * j + 1)) (hR.B1 (by omega)) ?_
  refine g_iret rfl dX9_band_57 ⟨Nat.zero_le _, Nat.zero_le _⟩ ?_
  exact ⟨rfl, rfl⟩
set_option maxRecDepth 100000 in
theorem cn_X9_band02 (g : Gp) (cs : Nat × Nat) {m : Mm} {d B c : Nat} {z : Nat → Int32} (hD : DkT m d) (hR : Rp m B (d + 1) z) (hz : ZOk c z) {j : Nat} (hj : j < 5) : Dn g (MX9_band cs) [.ref (d), .int (nI (j)), .int (nI (2))] m (some (.int (z (64 + 3 * j + 2)))) m := by
  have hz0 := hz.n0.hi
  have hz1 := hz.n1.hi
  refine Cn.of pn_X9 (Nat.le_of_ble_eq_true rfl) rfl ?_
  refine g_iload_n 1 dX9_band_0 rfl rfl ?_
  refine gN_iconst 5 dX9_band_1 (by decide) ?_
  refine gd_callS _ _ _ _ (cn_X9_checkNumber g (0, 0) (j := j) (N := 5) (by omega) (by omega)) ⟨rfl, rfl⟩ (ok_X9_checkNumber _) mlX9_30 st_X9_checkNumber rfl ⟨Nat.le_of_ble_eq_true rfl, Nat.le_of_ble_eq_true rfl⟩ (by exact Nat.le_of_ble_eq_true rfl) ⟨Nat.zero_le _, Nat.zero_le _⟩ dX9_band_2 rfl ?_
  refine g_iload_n 2 dX9_band_5 rfl rfl ?_
  refine gN_iconst 0 dX9_band_6 (by decide) ?_
  refine gN_iconst 2 dX9_band_7 (by decide) ?_
  refine gd_callS _ _ _ _ (cn_X9_checkRange g (0, 0) ((in_inb (n := 2) (by decide)).mpr ((inb_nI (by omega)).mpr (by omega)))) ⟨rfl, rfl⟩ (ok_X9_checkRange _) mlX9_34 st_X9_checkRange rfl ⟨Nat.le_of_ble_eq_true rfl, Nat.le_of_ble_eq_true rfl⟩ (by exact Nat.le_of_ble_eq_true rfl) ⟨Nat.zero_le _, Nat.zero_le _⟩ dX9_band_8 rfl ?_
  refine g_aload_n 0 dX9_band_11 rfl rfl ?_
  refine gN_getR (d + 1) flX9_10 (fun _ _ _ => rfl) 0 (hD.t) (hD.r0) dX9_band_12 ?_
  refine gN_getR (d + 1 + 3) flX9_52 (fun _ _ _ => rfl) 0 (hD.s.t) (hD.s.r2) dX9_band_15 ?_
  refine g_iload_n 1 dX9_band_18 rfl rfl ?_
  refine gN_aald 12 5 (d + 1 + 16 + j) (hD.s.t3) (by decide) (by first | omega | exact b01_lt _) (by first | omega | exact b01_lt _) (hD.s.rB (by omega)) dX9_band_19 ?_
  refine g_astore_n 3 [(3, .ref (d + 1 + 16 + j)), (0, .ref (d)), (1, .int (nI (j))), (2, .int (nI (2)))] dX9_band_20 rfl (Nat.le_of_ble_eq_true rfl) rfl ?_
  refine g_iload_n 2 dX9_band_21 rfl rfl ?_
  refine g_lookup (off := 36) 58 dX9_band_22 (by decide) (by decide) (by decide) ?_
  refine g_aload_n 3 dX9_band_58 rfl rfl ?_
  refine gN_getI flX9_240 rfl 0 (hD.s.tB (by omega)) dX9_band_59 ?_
  refine g_eI (z (64 + 3 * j + 2)) (hR.B2 (by omega)) ?_
  refine g_iret rfl dX9_band_62 ⟨Nat.zero_le _, Nat.zero_le _⟩ ?_
  exact ⟨rfl, rfl⟩
theorem cn_X9_band (g : Gp) (cs : Nat × Nat) {m : Mm} {d B c : Nat} {z : Nat → Int32} (hD : DkT m d) (hR : Rp m B (d + 1) z) (hz : ZOk c z) {j : Nat} (hj : j < 5) {w : Nat} (hw : w ≤ 2) : Dn g (MX9_band cs) [.ref d, .int (nI j), .int (nI w)] m (some (.int (z (64 + 3 * j + w)))) m := by
  rcases (show w = 0 ∨ w = 1 ∨ w = 2 by omega) with rfl | rfl | rfl
  · exact cn_X9_band00 g cs hD hR hz hj
  · exact cn_X9_band01 g cs hD hR hz hj
  · exact cn_X9_band02 g cs hD hR hz hj
set_option maxRecDepth 100000 in
theorem cx_X9_count_1 (g : Gp) (cs : Nat × Nat) {m : Mm} {d B c : Nat} {z : Nat → Int32} (hD : DkT m d) (hR : Rp m B (d + 1) z) (hz : ZOk c z) {x : Int32} (h : ¬ inb x 12) : Xn g (MX9_count (1, 6)) [.ref (d), .int (x)] m "java/lang/IllegalArgumentException" := by
  have hz0 := hz.n0.hi
  have hz1 := hz.n1.hi
  refine Cn.of pn_X9 (Nat.le_of_ble_eq_true rfl) rfl ?_
  refine g_iload_n 1 dX9_count_0 rfl rfl ?_
  refine gN_iconst 0 dX9_count_1 (by decide) ?_
  refine gN_bipush 11 dX9_count_2 (by decide) ?_
  exact gx_callS _ _ (cx_X9_checkRange g (0, 0) (fun q => h ((in_inb (n := 11) (by decide)).mp q))) (ok_X9_checkRange _) mlX9_34 st_X9_checkRange rfl ⟨Nat.le_of_ble_eq_true rfl, Nat.le_of_ble_eq_true rfl⟩ (by exact Nat.le_of_ble_eq_true rfl) ⟨Nat.le_of_ble_eq_true rfl, Nat.le_of_ble_eq_true rfl⟩ dX9_count_4 rfl (fun n hn => ⟨rfl, n, hn, rfl⟩)
set_option maxRecDepth 100000 in
theorem cn_X9_count00 (g : Gp) (cs : Nat × Nat) {m : Mm} {d B c : Nat} {z : Nat → Int32} (hD : DkT m d) (hR : Rp m B (d + 1) z) (hz : ZOk c z) {k : Nat} (hk : im m (d + 48) 2 = nI k) : Dn g (MX9_count cs) [.ref (d), .int (nI (0))] m (some (.int (cntV z (nI k) 0))) m := by
  have hz0 := hz.n0.hi
  have hz1 := hz.n1.hi
  refine Cn.of pn_X9 (Nat.le_of_ble_eq_true rfl) rfl ?_
  refine g_iload_n 1 dX9_count_0 rfl rfl ?_
  refine gN_iconst 0 dX9_count_1 (by decide) ?_
  refine gN_bipush 11 dX9_count_2 (by decide) ?_
  refine gd_callS _ _ _ _ (cn_X9_checkRange g (0, 0) ((in_inb (n := 11) (by decide)).mpr ((inb_nI (by omega)).mpr (by omega)))) ⟨rfl, rfl⟩ (ok_X9_checkRange _) mlX9_34 st_X9_checkRange rfl ⟨Nat.le_of_ble_eq_true rfl, Nat.le_of_ble_eq_true rfl⟩ (by exact Nat.le_of_ble_eq_true rfl) ⟨Nat.zero_le _, Nat.zero_le _⟩ dX9_count_4 rfl ?_
  refine g_iload_n 1 dX9_count_7 rfl rfl ?_
  refine g_tableIn (off := 60) 68 dX9_count_8 (by decide) (by decide) (by decide) (by decide) ?_
  refine g_aload_n 0 dX9_count_68 rfl rfl ?_
  refine gN_getR (d + 1) flX9_10 (fun _ _ _ => rfl) 0 (hD.t) (hD.r0) dX9_count_69 ?_
  refine gN_getI flX9_68 rfl 0 (hD.s.t) dX9_count_72 ?_
  refine g_eI (z 0) (hR.c0) ?_
  refine g_iret rfl dX9_count_75 ⟨Nat.zero_le _, Nat.zero_le _⟩ ?_
  exact ⟨rfl, rfl⟩
set_option maxRecDepth 100000 in
theorem cn_X9_count01 (g : Gp) (cs : Nat × Nat) {m : Mm} {d B c : Nat} {z : Nat → Int32} (hD : DkT m d) (hR : Rp m B (d + 1) z) (hz : ZOk c z) {k : Nat} (hk : im m (d + 48) 2 = nI k) : Dn g (MX9_count cs) [.ref (d), .int (nI (1))] m (some (.int (cntV z (nI k) 1))) m := by
  have hz0 := hz.n0.hi
  have hz1 := hz.n1.hi
  refine Cn.of pn_X9 (Nat.le_of_ble_eq_true rfl) rfl ?_
  refine g_iload_n 1 dX9_count_0 rfl rfl ?_
  refine gN_iconst 0 dX9_count_1 (by decide) ?_
  refine gN_bipush 11 dX9_count_2 (by decide) ?_
  refine gd_callS _ _ _ _ (cn_X9_checkRange g (0, 0) ((in_inb (n := 11) (by decide)).mpr ((inb_nI (by omega)).mpr (by omega)))) ⟨rfl, rfl⟩ (ok_X9_checkRange _) mlX9_34 st_X9_checkRange rfl ⟨Nat.le_of_ble_eq_true rfl, Nat.le_of_ble_eq_true rfl⟩ (by exact Nat.le_of_ble_eq_true rfl) ⟨Nat.zero_le _, Nat.zero_le _⟩ dX9_count_4 rfl ?_
  refine g_iload_n 1 dX9_count_7 rfl rfl ?_
  refine g_tableIn (off := 68) 76 dX9_count_8 (by decide) (by decide) (by decide) (by decide) ?_
  refine g_aload_n 0 dX9_count_76 rfl rfl ?_
  refine gN_getR (d + 1) flX9_10 (fun _ _ _ => rfl) 0 (hD.t) (hD.r0) dX9_count_77 ?_
  refine gN_iconst 0 dX9_count_80 (by decide) ?_
  refine gd_callV _ _ _ _ (cn_X6_segmentsAt g (0, 0) hD.s hR hz (nI 0)) ⟨rfl, rfl⟩ (ok_X6_segmentsAt _) mlX9_243 in_X6_segmentsAt se_X6_segmentsAt 6 0 (hD.s.t) rfl rfl rfl ⟨Nat.le_of_ble_eq_true rfl, Nat.le_of_ble_eq_true rfl⟩ (by exact Nat.le_of_ble_eq_true rfl) ⟨Nat.zero_le _, Nat.zero_le _⟩ dX9_count_81 rfl ?_
  refine g_iret rfl dX9_count_84 ⟨Nat.zero_le _, Nat.zero_le _⟩ ?_
  exact ⟨rfl, rfl⟩
set_option maxRecDepth 100000 in
theorem cn_X9_count02 (g : Gp) (cs : Nat × Nat) {m : Mm} {d B c : Nat} {z : Nat → Int32} (hD : DkT m d) (hR : Rp m B (d + 1) z) (hz : ZOk c z) {k : Nat} (hk : im m (d + 48) 2 = nI k) : Dn g (MX9_count cs) [.ref (d), .int (nI (2))] m (some (.int (cntV z (nI k) 2))) m := by
  have hz0 := hz.n0.hi
  have hz1 := hz.n1.hi
  refine Cn.of pn_X9 (Nat.le_of_ble_eq_true rfl) rfl ?_
  refine g_iload_n 1 dX9_count_0 rfl rfl ?_
  refine gN_iconst 0 dX9_count_1 (by decide) ?_
  refine gN_bipush 11 dX9_count_2 (by decide) ?_
  refine gd_callS _ _ _ _ (cn_X9_checkRange g (0, 0) ((in_inb (n := 11) (by decide)).mpr ((inb_nI (by omega)).mpr (by omega)))) ⟨rfl, rfl⟩ (ok_X9_checkRange _) mlX9_34 st_X9_checkRange rfl ⟨Nat.le_of_ble_eq_true rfl, Nat.le_of_ble_eq_true rfl⟩ (by exact Nat.le_of_ble_eq_true rfl) ⟨Nat.zero_le _, Nat.zero_le _⟩ dX9_count_4 rfl ?_
  refine g_iload_n 1 dX9_count_7 rfl rfl ?_
  refine g_tableIn (off := 77) 85 dX9_count_8 (by decide) (by decide) (by decide) (by decide) ?_
  refine g_aload_n 0 dX9_count_85 rfl rfl ?_
  refine gN_getR (d + 1) flX9_10 (fun _ _ _ => rfl) 0 (hD.t) (hD.r0) dX9_count_86 ?_
  refine gN_iconst 1 dX9_count_89 (by decide) ?_
  refine gd_callV _ _ _ _ (cn_X6_segmentsAt g (0, 0) hD.s hR hz (nI 1)) ⟨rfl, rfl⟩ (ok_X6_segmentsAt _) mlX9_243 in_X6_segmentsAt se_X6_segmentsAt 6 0 (hD.s.t) rfl rfl rfl ⟨Nat.le_of_ble_eq_true rfl, Nat.le_of_ble_eq_true rfl⟩ (by exact Nat.le_of_ble_eq_true rfl) ⟨Nat.zero_le _, Nat.zero_le _⟩ dX9_count_90 rfl ?_
  refine g_iret rfl dX9_count_93 ⟨Nat.zero_le _, Nat.zero_le _⟩ ?_
  exact ⟨rfl, rfl⟩
set_option maxRecDepth 100000 in
theorem cn_X9_count03 (g : Gp) (cs : Nat × Nat) {m : Mm} {d B c : Nat} {z : Nat → Int32} (hD : DkT m d) (hR : Rp m B (d + 1) z) (hz : ZOk c z) {k : Nat} (hk : im m (d + 48) 2 = nI k) : Dn g (MX9_count cs) [.ref (d), .int (nI (3))] m (some (.int (cntV z (nI k) 3))) m := by
  have hz0 := hz.n0.hi
  have hz1 := hz.n1.hi
  refine Cn.of pn_X9 (Nat.le_of_ble_eq_true rfl) rfl ?_
  refine g_iload_n 1 dX9_count_0 rfl rfl ?_
  refine gN_iconst 0 dX9_count_1 (by decide) ?_
  refine gN_bipush 11 dX9_count_2 (by decide) ?_
  refine gd_callS _ _ _ _ (cn_X9_checkRange g (0, 0) ((in_inb (n := 11) (by decide)).mpr ((inb_nI (by omega)).mpr (by omega)))) ⟨rfl, rfl⟩ (ok_X9_checkRange _) mlX9_34 st_X9_checkRange rfl ⟨Nat.le_of_ble_eq_true rfl, Nat.le_of_ble_eq_true rfl⟩ (by exact Nat.le_of_ble_eq_true rfl) ⟨Nat.zero_le _, Nat.zero_le _⟩ dX9_count_4 rfl ?_
  refine g_iload_n 1 dX9_count_7 rfl rfl ?_
  refine g_tableIn (off := 86) 94 dX9_count_8 (by decide) (by decide) (by decide) (by decide) ?_
  refine g_aload_n 0 dX9_count_94 rfl rfl ?_
  refine gN_getR (d + 1) flX9_10 (fun _ _ _ => rfl) 0 (hD.t) (hD.r0) dX9_count_95 ?_
  refine gN_iconst 2 dX9_count_98 (by decide) ?_
  refine gd_callV _ _ _ _ (cn_X6_segmentsAt g (0, 0) hD.s hR hz (nI 2)) ⟨rfl, rfl⟩ (ok_X6_segmentsAt _) mlX9_243 in_X6_segmentsAt se_X6_segmentsAt 6 0 (hD.s.t) rfl rfl rfl ⟨Nat.le_of_ble_eq_true rfl, Nat.le_of_ble_eq_true rfl⟩ (by exact Nat.le_of_ble_eq_true rfl) ⟨Nat.zero_le _, Nat.zero_le _⟩ dX9_count_99 rfl ?_
  refine g_iret rfl dX9_count_102 ⟨Nat.zero_le _, Nat.zero_le _⟩ ?_
  exact ⟨rfl, rfl⟩
set_option maxRecDepth 100000 in
theorem cn_X9_count04 (g : Gp) (cs : Nat × Nat) {m : Mm} {d B c : Nat} {z : Nat → Int32} (hD : DkT m d) (hR : Rp m B (d + 1) z) (hz : ZOk c z) {k : Nat} (hk : im m (d + 48) 2 = nI k) : Dn g (MX9_count cs) [.ref (d), .int (nI (4))] m (some (.int (cntV z (nI k) 4))) m := by
  have hz0 := hz.n0.hi
  have hz1 := hz.n1.hi
  refine Cn.of pn_X9 (Nat.le_of_ble_eq_true rfl) rfl ?_
  refine g_iload_n 1 dX9_count_0 rfl rfl ?_
  refine gN_iconst 0 dX9_count_1 (by decide) ?_
  refine gN_bipush 11 dX9_count_2 (by decide) ?_
  refine gd_callS _ _ _ _ (cn_X9_checkRange g (0, 0) ((in_inb (n := 11) (by decide)).mpr ((inb_nI (by omega)).mpr (by omega)))) ⟨rfl, rfl⟩ (ok_X9_checkRange _) mlX9_34 st_X9_checkRange rfl ⟨Nat.le_of_ble_eq_true rfl, Nat.le_of_ble_eq_true rfl⟩ (by exact Nat.le_of_ble_eq_true rfl) ⟨Nat.zero_le _, Nat.zero_le _⟩ dX9_count_4 rfl ?_
  refine g_iload_n 1 dX9_count_7 rfl rfl ?_
  refine g_tableIn (off := 95) 103 dX9_count_8 (by decide) (by decide) (by decide) (by decide) ?_
  refine g_aload_n 0 dX9_count_103 rfl rfl ?_
  refine gN_getR (d + 1) flX9_10 (fun _ _ _ => rfl) 0 (hD.t) (hD.r0) dX9_count_104 ?_
  refine gN_iconst 3 dX9_count_107 (by decide) ?_
  refine gd_callV _ _ _ _ (cn_X6_segmentsAt g (0, 0) hD.s hR hz (nI 3)) ⟨rfl, rfl⟩ (ok_X6_segmentsAt _) mlX9_243 in_X6_segmentsAt se_X6_segmentsAt 6 0 (hD.s.t) rfl rfl rfl ⟨Nat.le_of_ble_eq_true rfl, Nat.le_of_ble_eq_true rfl⟩ (by exact Nat.le_of_ble_eq_true rfl) ⟨Nat.zero_le _, Nat.zero_le _⟩ dX9_count_108 rfl ?_
  refine g_iret rfl dX9_count_111 ⟨Nat.zero_le _, Nat.zero_le _⟩ ?_
  exact ⟨rfl, rfl⟩
set_option maxRecDepth 100000 in
theorem cn_X9_count05 (g : Gp) (cs : Nat × Nat) {m : Mm} {d B c : Nat} {z : Nat → Int32} (hD : DkT m d) (hR : Rp m B (d + 1) z) (hz : ZOk c z) {k : Nat} (hk : im m (d + 48) 2 = nI k) : Dn g (MX9_count cs) [.ref (d), .int (nI (5))] m (some (.int (cntV z (nI k) 5))) m := by
  have hz0 := hz.n0.hi
  have hz1 := hz.n1.hi
  refine Cn.of pn_X9 (Nat.le_of_ble_eq_true rfl) rfl ?_
  refine g_iload_n 1 dX9_count_0 rfl rfl ?_
  refine gN_iconst 0 dX9_count_1 (by decide) ?_
  refine gN_bipush 11 dX9_count_2 (by decide) ?_
  refine gd_callS _ _ _ _ (cn_X9_checkRange g (0, 0) ((in_inb (n := 11) (by decide)).mpr ((inb_nI (by omega)).mpr (by omega)))) ⟨rfl, rfl⟩ (ok_X9_checkRange _) mlX9_34 st_X9_checkRange rfl ⟨Nat.le_of_ble_eq_true rfl, Nat.le_of_ble_eq_true rfl⟩ (by exact Nat.le_of_ble_eq_true rfl) ⟨Nat.zero_le _, Nat.zero_le _⟩ dX9_count_4 rfl ?_
  refine g_iload_n 1 dX9_count_7 rfl rfl ?_
  refine g_tableIn (off := 104) 112 dX9_count_8 (by decide) (by decide) (by decide) (by decide) ?_
  refine g_aload_n 0 dX9_count_112 rfl rfl ?_
  refine gN_getR (d + 1) flX9_10 (fun _ _ _ => rfl) 0 (hD.t) (hD.r0) dX9_count_113 ?_
  refine gN_getR (d + 1 + 10) flX9_176 (fun _ _ _ => rfl) 0 (hD.s.t) (hD.s.r5) dX9_count_116 ?_
  refine gN_getI flX9_207 rfl 0 (hD.s.t10) dX9_count_119 ?_
  refine g_eI (z 1) (hR.c1) ?_
  refine g_iret rfl dX9_count_122 ⟨Nat.zero_le _, Nat.zero_le _⟩ ?_
  exact ⟨rfl, rfl⟩
set_option maxRecDepth 100000 in
theorem cn_X9_count06 (g : Gp) (cs : Nat × Nat) {m : Mm} {d B c : Nat} {z : Nat → Int32} (hD : DkT m d) (hR : Rp m B (d + 1) z) (hz : ZOk c z) {k : Nat} (hk : im m (d + 48) 2 = nI k) : Dn g (MX9_count cs) [.ref (d), .int (nI (6))] m (some (.int (cntV z (nI k) 6))) m := by
  have hz0 := hz.n0.hi
  have hz1 := hz.n1.hi
  refine Cn.of pn_X9 (Nat.le_of_ble_eq_true rfl) rfl ?_
  refine g_iload_n 1 dX9_count_0 rfl rfl ?_
  refine gN_iconst 0 dX9_count_1 (by decide) ?_
  refine gN_bipush 11 dX9_count_2 (by decide) ?_
  refine gd_callS _ _ _ _ (cn_X9_checkRange g (0, 0) ((in_inb (n := 11) (by decide)).mpr ((inb_nI (by omega)).mpr (by omega)))) ⟨rfl, rfl⟩ (ok_X9_checkRange _) mlX9_34 st_X9_checkRange rfl ⟨Nat.le_of_ble_eq_true rfl, Nat.le_of_ble_eq_true rfl⟩ (by exact Nat.le_of_ble_eq_true rfl) ⟨Nat.zero_le _, Nat.zero_le _⟩ dX9_count_4 rfl ?_
  refine g_iload_n 1 dX9_count_7 rfl rfl ?_
  refine g_tableIn (off := 115) 123 dX9_count_8 (by decide) (by decide) (by decide) (by decide) ?_
  refine g_aload_n 0 dX9_count_123 rfl rfl ?_
  refine gN_getR (d + 1) flX9_10 (fun _ _ _ => rfl) 0 (hD.t) (hD.r0) dX9_count_124 ?_
  refine gd_callV _ _ _ _ (cn_X6_wordsOfAll g (0, 0) hD.s hR hz) ⟨rfl, rfl⟩ (ok_X6_wordsOfAll _) mlX9_246 in_X6_wordsOfAll se_X6_wordsOfAll 6 0 (hD.s.t) rfl rfl rfl ⟨Nat.le_of_ble_eq_true rfl, Nat.le_of_ble_eq_true rfl⟩ (by exact Nat.le_of_ble_eq_true rfl) ⟨Nat.zero_le _, Nat.zero_le _⟩ dX9_count_127 rfl ?_
  refine g_iret rfl dX9_count_130 ⟨Nat.zero_le _, Nat.zero_le _⟩ ?_
  exact ⟨rfl, rfl⟩
set_option maxRecDepth 100000 in
theorem cn_X9_count07 (g : Gp) (cs : Nat × Nat) {m : Mm} {d B c : Nat} {z : Nat → Int32} (hD : DkT m d) (hR : Rp m B (d + 1) z) (hz : ZOk c z) {k : Nat} (hk : im m (d + 48) 2 = nI k) : Dn g (MX9_count cs) [.ref (d), .int (nI (7))] m (some (.int (cntV z (nI k) 7))) m := by
  have hz0 := hz.n0.hi
  have hz1 := hz.n1.hi
  refine Cn.of pn_X9 (Nat.le_of_ble_eq_true rfl) rfl ?_
  refine g_iload_n 1 dX9_count_0 rfl rfl ?_
  refine gN_iconst 0 dX9_count_1 (by decide) ?_
  refine gN_bipush 11 dX9_count_2 (by decide) ?_
  refine gd_callS _ _ _ _ (cn_X9_checkRange g (0, 0) ((in_inb (n := 11) (by decide)).mpr ((inb_nI (by omega)).mpr (by omega)))) ⟨rfl, rfl⟩ (ok_X9_checkRange _) mlX9_34 st_X9_checkRange rfl ⟨Nat.le_of_ble_eq_true rfl, Nat.le_of_ble_eq_true rfl⟩ (by exact Nat.le_of_ble_eq_true rfl) ⟨Nat.zero_le _, Nat.zero_le _⟩ dX9_count_4 rfl ?_
  refine g_iload_n 1 dX9_count_7 rfl rfl ?_
  refine g_tableIn (off := 123) 131 dX9_count_8 (by decide) (by decide) (by decide) (by decide) ?_
  refine g_aload_n 0 dX9_count_131 rfl rfl ?_
  refine gN_getR (d + 1) flX9_10 (fun _ _ _ => rfl) 0 (hD.t) (hD.r0) dX9_count_132 ?_
  refine gd_callV _ _ _ _ (cn_X6_deliveredWords g (0, 0) hD.s hR hz) ⟨rfl, rfl⟩ (ok_X6_deliveredWords _) mlX9_249 in_X6_deliveredWords se_X6_deliveredWords 6 0 (hD.s.t) rfl rfl rfl ⟨Nat.le_of_ble_eq_true rfl, Nat.le_of_ble_eq_true rfl⟩ (by exact Nat.le_of_ble_eq_true rfl) ⟨Nat.zero_le _, Nat.zero_le _⟩ dX9_count_135 rfl ?_
  refine g_iret rfl dX9_count_138 ⟨Nat.zero_le _, Nat.zero_le _⟩ ?_
  exact ⟨rfl, rfl⟩
set_option maxRecDepth 100000 in
theorem cn_X9_count08 (g : Gp) (cs : Nat × Nat) {m : Mm} {d B c : Nat} {z : Nat → Int32} (hD : DkT m d) (hR : Rp m B (d + 1) z) (hz : ZOk c z) {k : Nat} (hk : im m (d + 48) 2 = nI k) : Dn g (MX9_count cs) [.ref (d), .int (nI (8))] m (some (.int (cntV z (nI k) 8))) m := by
  have hz0 := hz.n0.hi
  have hz1 := hz.n1.hi
  refine Cn.of pn_X9 (Nat.le_of_ble_eq_true rfl) rfl ?_
  refine g_iload_n 1 dX9_count_0 rfl rfl ?_
  refine gN_iconst 0 dX9_count_1 (by decide) ?_
  refine gN_bipush 11 dX9_count_2 (by decide) ?_
  refine gd_callS _ _ _ _ (cn_X9_checkRange g (0, 0) ((in_inb (n := 11) (by decide)).mpr ((inb_nI (by omega)).mpr (by omega)))) ⟨rfl, rfl⟩ (ok_X9_checkRange _) mlX9_34 st_X9_checkRange rfl ⟨Nat.le_of_ble_eq_true rfl, Nat.le_of_ble_eq_true rfl⟩ (by exact Nat.le_of_ble_eq_true rfl) ⟨Nat.zero_le _, Nat.zero_le _⟩ dX9_count_4 rfl ?_
  refine g_iload_n 1 dX9_count_7 rfl rfl ?_
  refine g_tableIn (off := 131) 139 dX9_count_8 (by decide) (by decide) (by decide) (by decide) ?_
  refine g_aload_n 0 dX9_count_139 rfl rfl ?_
  refine gN_getR (d + 1) flX9_10 (fun _ _ _ => rfl) 0 (hD.t) (hD.r0) dX9_count_140 ?_
  refine gd_callV _ _ _ _ (cn_X6_earnedByAll g (0, 0) hD.s hR hz) ⟨rfl, rfl⟩ (ok_X6_earnedByAll _) mlX9_251 in_X6_earnedByAll se_X6_earnedByAll 6 0 (hD.s.t) rfl rfl rfl ⟨Nat.le_of_ble_eq_true rfl, Nat.le_of_ble_eq_true rfl⟩ (by exact Nat.le_of_ble_eq_true rfl) ⟨Nat.zero_le _, Nat.zero_le _⟩ dX9_count_143 rfl ?_
  refine g_iret rfl dX9_count_146 ⟨Nat.zero_le _, Nat.zero_le _⟩ ?_
  exact ⟨rfl, rfl⟩
set_option maxRecDepth 100000 in
theorem cn_X9_count09 (g : Gp) (cs : Nat × Nat) {m : Mm} {d B c : Nat} {z : Nat → Int32} (hD : DkT m d) (hR : Rp m B (d + 1) z) (hz : ZOk c z) {k : Nat} (hk : im m (d + 48) 2 = nI k) : Dn g (MX9_count cs) [.ref (d), .int (nI (9))] m (some (.int (cntV z (nI k) 9))) m := by
  have hz0 := hz.n0.hi
  have hz1 := hz.n1.hi
  refine Cn.of pn_X9 (Nat.le_of_ble_eq_true rfl) rfl ?_
  refine g_iload_n 1 dX9_count_0 rfl rfl ?_
  refine gN_iconst 0 dX9_count_1 (by decide) ?_
  refine gN_bipush 11 dX9_count_2 (by decide) ?_
  refine gd_callS _ _ _ _ (cn_X9_checkRange g (0, 0) ((in_inb (n := 11) (by decide)).mpr ((inb_nI (by omega)).mpr (by omega)))) ⟨rfl, rfl⟩ (ok_X9_checkRange _) mlX9_34 st_X9_checkRange rfl ⟨Nat.le_of_ble_eq_true rfl, Nat.le_of_ble_eq_true rfl⟩ (by exact Nat.le_of_ble_eq_true rfl) ⟨Nat.zero_le _, Nat.zero_le _⟩ dX9_count_4 rfl ?_
  refine g_iload_n 1 dX9_count_7 rfl rfl ?_
  refine g_tableIn (off := 139) 147 dX9_count_8 (by decide) (by decide) (by decide) (by decide) ?_
  refine g_aload_n 0 dX9_count_147 rfl rfl ?_
  refine gN_getR (d + 1) flX9_10 (fun _ _ _ => rfl) 0 (hD.t) (hD.r0) dX9_count_148 ?_
  refine gd_callV _ _ _ _ (cn_X6_disputedWords g (0, 0) hD.s hR hz) ⟨rfl, rfl⟩ (ok_X6_disputedWords _) mlX9_254 in_X6_disputedWords se_X6_disputedWords 6 0 (hD.s.t) rfl rfl rfl ⟨Nat.le_of_ble_eq_true rfl, Nat.le_of_ble_eq_true rfl⟩ (by exact Nat.le_of_ble_eq_true rfl) ⟨Nat.zero_le _, Nat.zero_le _⟩ dX9_count_151 rfl ?_
  refine g_iret rfl dX9_count_154 ⟨Nat.zero_le _, Nat.zero_le _⟩ ?_
  exact ⟨rfl, rfl⟩
set_option maxRecDepth 100000 in
theorem cn_X9_count010 (g : Gp) (cs : Nat × Nat) {m : Mm} {d B c : Nat} {z : Nat → Int32} (hD : DkT m d) (hR : Rp m B (d + 1) z) (hz : ZOk c z) {k : Nat} (hk : im m (d + 48) 2 = nI k) : Dn g (MX9_count cs) [.ref (d), .int (nI (10))] m (some (.int (cntV z (nI k) 10))) m := by
  have hz0 := hz.n0.hi
  have hz1 := hz.n1.hi
  refine Cn.of pn_X9 (Nat.le_of_ble_eq_true rfl) rfl ?_
  refine g_iload_n 1 dX9_count_0 rfl rfl ?_
  refine gN_iconst 0 dX9_count_1 (by decide) ?_
  refine gN_bipush 11 dX9_count_2 (by decide) ?_
  refine gd_callS _ _ _ _ (cn_X9_checkRange g (0, 0) ((in_inb (n := 11) (by decide)).mpr ((inb_nI (by omega)).mpr (by omega)))) ⟨rfl, rfl⟩ (ok_X9_checkRange _) mlX9_34 st_X9_checkRange rfl ⟨Nat.le_of_ble_eq_true rfl, Nat.le_of_ble_eq_true rfl⟩ (by exact Nat.le_of_ble_eq_true rfl) ⟨Nat.zero_le _, Nat.zero_le _⟩ dX9_count_4 rfl ?_
  refine g_iload_n 1 dX9_count_7 rfl rfl ?_
  refine g_tableIn (off := 147) 155 dX9_count_8 (by decide) (by decide) (by decide) (by decide) ?_
  refine g_aload_n 0 dX9_count_155 rfl rfl ?_
  refine gN_getR (d + 1) flX9_10 (fun _ _ _ => rfl) 0 (hD.t) (hD.r0) dX9_count_156 ?_
  refine gd_callV _ _ _ _ (cn_X6_ruledWords g (0, 0) hD.s hR hz) ⟨rfl, rfl⟩ (ok_X6_ruledWords _) mlX9_257 in_X6_ruledWords se_X6_ruledWords 6 0 (hD.s.t) rfl rfl rfl ⟨Nat.le_of_ble_eq_true rfl, Nat.le_of_ble_eq_true rfl⟩ (by exact Nat.le_of_ble_eq_true rfl) ⟨Nat.zero_le _, Nat.zero_le _⟩ dX9_count_159 rfl ?_
  refine g_iret rfl dX9_count_162 ⟨Nat.zero_le _, Nat.zero_le _⟩ ?_
  exact ⟨rfl, rfl⟩
set_option maxRecDepth 100000 in
theorem cn_X9_count011 (g : Gp) (cs : Nat × Nat) {m : Mm} {d B c : Nat} {z : Nat → Int32} (hD : DkT m d) (hR : Rp m B (d + 1) z) (hz : ZOk c z) {k : Nat} (hk : im m (d + 48) 2 = nI k) : Dn g (MX9_count cs) [.ref (d), .int (nI (11))] m (some (.int (cntV z (nI k) 11))) m := by
  have hz0 := hz.n0.hi
  have hz1 := hz.n1.hi
  refine Cn.of pn_X9 (Nat.le_of_ble_eq_true rfl) rfl ?_
  refine g_iload_n 1 dX9_count_0 rfl rfl ?_
  refine gN_iconst 0 dX9_count_1 (by decide) ?_
  refine gN_bipush 11 dX9_count_2 (by decide) ?_
  refine gd_callS _ _ _ _ (cn_X9_checkRange g (0, 0) ((in_inb (n := 11) (by decide)).mpr ((inb_nI (by omega)).mpr (by omega)))) ⟨rfl, rfl⟩ (ok_X9_checkRange _) mlX9_34 st_X9_checkRange rfl ⟨Nat.le_of_ble_eq_true rfl, Nat.le_of_ble_eq_true rfl⟩ (by exact Nat.le_of_ble_eq_true rfl) ⟨Nat.zero_le _, Nat.zero_le _⟩ dX9_count_4 rfl ?_
  refine g_iload_n 1 dX9_count_7 rfl rfl ?_
  refine g_tableOut 163 dX9_count_8 (by decide) (by decide) ?_
  refine g_aload_n 0 dX9_count_163 rfl rfl ?_
  refine gN_getR (d + 48) flX9_19 (fun _ _ _ => rfl) 0 (hD.t) (hD.r1) dX9_count_164 ?_
  refine gN_getI flX9_172 rfl 0 (hD.h.t) dX9_count_167 ?_
  refine g_eI (nI k) (hk) ?_
  refine g_iret rfl dX9_count_170 ⟨Nat.zero_le _, Nat.zero_le _⟩ ?_
  exact ⟨rfl, rfl⟩
theorem cn_X9_count (g : Gp) (cs : Nat × Nat) {m : Mm} {d B c : Nat} {z : Nat → Int32} (hD : DkT m d) (hR : Rp m B (d + 1) z) (hz : ZOk c z) {k : Nat} (hk : im m (d + 48) 2 = nI k) {w : Nat} (hw : w ≤ 11) : Dn g (MX9_count cs) [.ref d, .int (nI w)] m (some (.int (cntV z (nI k) w))) m := by
  rcases (show w = 0 ∨ w = 1 ∨ w = 2 ∨ w = 3 ∨ w = 4 ∨ w = 5 ∨ w = 6 ∨ w = 7 ∨ w = 8 ∨ w = 9 ∨ w = 10 ∨ w = 11 by omega) with rfl | rfl | rfl | rfl | rfl | rfl | rfl | rfl | rfl | rfl | rfl | rfl
  · exact cn_X9_count00 g cs hD hR hz hk
  · exact cn_X9_count01 g cs hD hR hz hk
  · exact cn_X9_count02 g cs hD hR hz hk
  · exact cn_X9_count03 g cs hD hR hz hk
  · exact cn_X9_count04 g cs hD hR hz hk
  · exact cn_X9_count05 g cs hD hR hz hk
  · exact cn_X9_count06 g cs hD hR hz hk
  · exact cn_X9_count07 g cs hD hR hz hk
  · exact cn_X9_count08 g cs hD hR hz hk
  · exact cn_X9_count09 g cs hD hR hz hk
  · exact cn_X9_count010 g cs hD hR hz hk
  · exact cn_X9_count011 g cs hD hR hz hk
set_option maxRecDepth 100000 in
theorem cx_X9_setting_1 (g : Gp) (cs : Nat × Nat) {m : Mm} {d B c : Nat} {z : Nat → Int32} (hD : DkT m d) (hR : Rp m B (d + 1) z) (hz : ZOk c z) {x : Int32} (h : ¬ inb x 2) : Xn g (MX9_setting (1, 6)) [.ref (d), .int (x)] m "java/lang/IndexOutOfBoundsException" := by
  have hz0 := hz.n0.hi
  have hz1 := hz.n1.hi
  refine Cn.of pn_X9 (Nat.le_of_ble_eq_true rfl) rfl ?_
  refine g_iload_n 1 dX9_setting_0 rfl rfl ?_
  refine gN_iconst 2 dX9_setting_1 (by decide) ?_
  exact gx_callS _ _ (cx_X9_checkNumber g (0, 0) (N := 2) (by omega) (h)) (ok_X9_checkNumber _) mlX9_30 st_X9_checkNumber rfl ⟨Nat.le_of_ble_eq_true rfl, Nat.le_of_ble_eq_true rfl⟩ (by exact Nat.le_of_ble_eq_true rfl) ⟨Nat.le_of_ble_eq_true rfl, Nat.le_of_ble_eq_true rfl⟩ dX9_setting_2 rfl (fun n hn => ⟨rfl, n, hn, rfl⟩)
set_option maxRecDepth 100000 in
theorem cn_X9_setting (g : Gp) (cs : Nat × Nat) {m : Mm} {d B c : Nat} {z : Nat → Int32} (hD : DkT m d) (hR : Rp m B (d + 1) z) (hz : ZOk c z) {w : Nat} (hw : w ≤ 1) : Dn g (MX9_setting cs) [.ref (d), .int (nI (w))] m (some (.int (z (2 + w)))) m := by
  have hz0 := hz.n0.hi
  have hz1 := hz.n1.hi
  refine Cn.of pn_X9 (Nat.le_of_ble_eq_true rfl) rfl ?_
  refine g_iload_n 1 dX9_setting_0 rfl rfl ?_
  refine gN_iconst 2 dX9_setting_1 (by decide) ?_
  refine gd_callS _ _ _ _ (cn_X9_checkNumber g (0, 0) (j := w) (N := 2) (by omega) (by omega)) ⟨rfl, rfl⟩ (ok_X9_checkNumber _) mlX9_30 st_X9_checkNumber rfl ⟨Nat.le_of_ble_eq_true rfl, Nat.le_of_ble_eq_true rfl⟩ (by exact Nat.le_of_ble_eq_true rfl) ⟨Nat.zero_le _, Nat.zero_le _⟩ dX9_setting_2 rfl ?_
  refine g_aload_n 0 dX9_setting_5 rfl rfl ?_
  refine gN_getR (d + 1) flX9_10 (fun _ _ _ => rfl) 0 (hD.t) (hD.r0) dX9_setting_6 ?_
  refine gN_getR (d + 1 + 1) flX9_65 (fun _ _ _ => rfl) 0 (hD.s.t) (hD.s.r0) dX9_setting_9 ?_
  refine g_iload_n 1 dX9_setting_12 rfl rfl ?_
  refine gN_iald 2 (hD.s.t1) (by first | omega | exact b01_lt _) (by first | omega | exact b01_lt _) dX9_setting_13 ?_
  refine g_eI (z (2 + w)) (hR.c23 (by omega)) ?_
  refine g_iret rfl dX9_setting_14 ⟨Nat.zero_le _, Nat.zero_le _⟩ ?_
  exact ⟨rfl, rfl⟩
set_option maxRecDepth 100000 in
theorem cx_X9_common_1 (g : Gp) (cs : Nat × Nat) {m : Mm} {d B c : Nat} {z : Nat → Int32} (hD : DkT m d) (hR : Rp m B (d + 1) z) (hz : ZOk c z) {p x y : Int32} (h : ¬ inb p (nv (z 0))) : Xn g (MX9_common (1, 6)) [.ref (d), .int (p), .int (x), .int (y)] m "java/lang/IndexOutOfBoundsException" := by
  have hz0 := hz.n0.hi
  have hz1 := hz.n1.hi
  refine Cn.of pn_X9 (Nat.le_of_ble_eq_true rfl) rfl ?_
  refine g_iload_n 1 dX9_common_0 rfl rfl ?_
  refine g_aload_n 0 dX9_common_1 rfl rfl ?_
  refine gN_getR (d + 1) flX9_10 (fun _ _ _ => rfl) 0 (hD.t) (hD.r0) dX9_common_2 ?_
  refine gN_getI flX9_68 rfl 0 (hD.s.t) dX9_common_5 ?_
  refine g_ei (nI (nv (z 0))) (hR.c0.trans hz.n0.e) ?_
  exact gx_callS _ _ (cx_X9_checkNumber g (0, 0) (N := nv (z 0)) (by omega) (h)) (ok_X9_checkNumber _) mlX9_30 st_X9_checkNumber rfl ⟨Nat.le_of_ble_eq_true rfl, Nat.le_of_ble_eq_true rfl⟩ (by exact Nat.le_of_ble_eq_true rfl) ⟨Nat.le_of_ble_eq_true rfl, Nat.le_of_ble_eq_true rfl⟩ dX9_common_8 rfl (fun n hn => ⟨rfl, n, hn, rfl⟩)
set_option maxRecDepth 100000 in
theorem cx_X9_common_11 (g : Gp) (cs : Nat × Nat) {m : Mm} {d B c : Nat} {z : Nat → Int32} (hD : DkT m d) (hR : Rp m B (d + 1) z) (hz : ZOk c z) {s : Nat} (hs : s < nv (z 0)) {x y : Int32} (h : ¬ inb x (nv (z 0))) : Xn g (MX9_common (1, 6)) [.ref (d), .int (nI (s)), .int (x), .int (y)] m "java/lang/IndexOutOfBoundsException" := by
  have hz0 := hz.n0.hi
  have hz1 := hz.n1.hi
  refine Cn.of pn_X9 (Nat.le_of_ble_eq_true rfl) rfl ?_
  refine g_iload_n 1 dX9_common_0 rfl rfl ?_
  refine g_aload_n 0 dX9_common_1 rfl rfl ?_
  refine gN_getR (d + 1) flX9_10 (fun _ _ _ => rfl) 0 (hD.t) (hD.r0) dX9_common_2 ?_
  refine gN_getI flX9_68 rfl 0 (hD.s.t) dX9_common_5 ?_
  refine g_ei (nI (nv (z 0))) (hR.c0.trans hz.n0.e) ?_
  refine gd_callS _ _ _ _ (cn_X9_checkNumber g (0, 0) (j := s) (N := nv (z 0)) (by omega) (by omega)) ⟨rfl, rfl⟩ (ok_X9_checkNumber _) mlX9_30 st_X9_checkNumber rfl ⟨Nat.le_of_ble_eq_true rfl, Nat.le_of_ble_eq_true rfl⟩ (by exact Nat.le_of_ble_eq_true rfl) ⟨Nat.zero_le _, Nat.zero_le _⟩ dX9_common_8 rfl ?_
  refine g_iload_n 2 dX9_common_11 rfl rfl ?_
  refine g_aload_n 0 dX9_common_12 rfl rfl ?_
  refine gN_getR (d + 1) flX9_10 (fun _ _ _ => rfl) 0 (hD.t) (hD.r0) dX9_common_13 ?_
  refine gN_getI flX9_68 rfl 0 (hD.s.t) dX9_common_16 ?_
  refine g_ei (nI (nv (z 0))) (hR.c0.trans hz.n0.e) ?_
  exact gx_callS _ _ (cx_X9_checkNumber g (0, 0) (N := nv (z 0)) (by omega) (h)) (ok_X9_checkNumber _) mlX9_30 st_X9_checkNumber rfl ⟨Nat.le_of_ble_eq_true rfl, Nat.le_of_ble_eq_true rfl⟩ (by exact Nat.le_of_ble_eq_true rfl) ⟨Nat.le_of_ble_eq_true rfl, Nat.le_of_ble_eq_true rfl⟩ dX9_common_19 rfl (fun n hn => ⟨rfl, n, hn, rfl⟩)
set_option maxRecDepth 100000 in
theorem cx_X9_common_2 (g : Gp) (cs : Nat × Nat) {m : Mm} {d B c : Nat} {z : Nat → Int32} (hD : DkT m d) (hR : Rp m B (d + 1) z) (hz : ZOk c z) {s : Nat} (hs : s < nv (z 0)) {t : Nat} (ht : t < nv (z 0)) {y : Int32} (h : ¬ inb y 12) : Xn g (MX9_common (1, 6)) [.ref (d), .int (nI (s)), .int (nI (t)), .int (y)] m "java/lang/IllegalArgumentException" := by
  have hz0 := hz.n0.hi
  have hz1 := hz.n1.hi
  refine Cn.of pn_X9 (Nat.le_of_ble_eq_true rfl) rfl ?_
  refine g_iload_n 1 dX9_common_0 rfl rfl ?_
  refine g_aload_n 0 dX9_common_1 rfl rfl ?_
  refine gN_getR (d + 1) flX9_10 (fun _ _ _ => rfl) 0 (hD.t) (hD.r0) dX9_common_2 ?_
  refine gN_getI flX9_68 rfl 0 (hD.s.t) dX9_common_5 ?_
  refine g_ei (nI (nv (z 0))) (hR.c0.trans hz.n0.e) ?_
  refine gd_callS _ _ _ _ (cn_X9_checkNumber g (0, 0) (j := s) (N := nv (z 0)) (by omega) (by omega)) ⟨rfl, rfl⟩ (ok_X9_checkNumber _) mlX9_30 st_X9_checkNumber rfl ⟨Nat.le_of_ble_eq_true rfl, Nat.le_of_ble_eq_true rfl⟩ (by exact Nat.le_of_ble_eq_true rfl) ⟨Nat.zero_le _, Nat.zero_le _⟩ dX9_common_8 rfl ?_
  refine g_iload_n 2 dX9_common_11 rfl rfl ?_
  refine g_aload_n 0 dX9_common_12 rfl rfl ?_
  refine gN_getR (d + 1) flX9_10 (fun _ _ _ => rfl) 0 (hD.t) (hD.r0) dX9_common_13 ?_
  refine gN_getI flX9_68 rfl 0 (hD.s.t) dX9_common_16 ?_
  refine g_ei (nI (nv (z 0))) (hR.c0.trans hz.n0.e) ?_
  refine gd_callS _ _ _ _ (cn_X9_checkNumber g (0, 0) (j := t) (N := nv (z 0)) (by omega) (by omega)) ⟨rfl, rfl⟩ (ok_X9_checkNumber _) mlX9_30 st_X9_checkNumber rfl ⟨Nat.le_of_ble_eq_true rfl, Nat.le_of_ble_eq_true rfl⟩ (by exact Nat.le_of_ble_eq_true rfl) ⟨Nat.zero_le _, Nat.zero_le _⟩ dX9_common_19 rfl ?_
  refine g_iload_n 3 dX9_common_22 rfl rfl ?_
  refine gN_iconst 0 dX9_common_23 (by decide) ?_
  refine gN_bipush 11 dX9_common_24 (by decide) ?_
  exact gx_callS _ _ (cx_X9_checkRange g (0, 0) (fun q => h ((in_inb (n := 11) (by decide)).mp q))) (ok_X9_checkRange _) mlX9_34 st_X9_checkRange rfl ⟨Nat.le_of_ble_eq_true rfl, Nat.le_of_ble_eq_true rfl⟩ (by exact Nat.le_of_ble_eq_true rfl) ⟨Nat.le_of_ble_eq_true rfl, Nat.le_of_ble_eq_true rfl⟩ dX9_common_26 rfl (fun n hn => ⟨rfl, n, hn, rfl⟩)
set_option maxRecDepth 100000 in
theorem cn_X9_common (g : Gp) (cs : Nat × Nat) {m : Mm} {d B c : Nat} {z : Nat → Int32} (hD : DkT m d) (hR : Rp m B (d + 1) z) (hz : ZOk c z) {s : Nat} (hs : s < nv (z 0)) {t : Nat} (ht : t < nv (z 0)) {w : Nat} (hw : w ≤ 11) : Dn g (MX9_common cs) [.ref (d), .int (nI (s)), .int (nI (t)), .int (nI (w))] m (some (.int (comV z (79 + 22 * s) (79 + 22 * t) w))) m := by
  have hz0 := hz.n0.hi
  have hz1 := hz.n1.hi
  obtain ⟨q, hq1, hqa⟩ := hR.SR (s := s) hs
  have hq := hqa.2.2
  obtain ⟨q2, hq3, hqb⟩ := hR.SR (s := t) ht
  have hq2 := hqb.2.2
  refine Cn.of pn_X9 (Nat.le_of_ble_eq_true rfl) rfl ?_
  refine g_iload_n 1 dX9_common_0 rfl rfl ?_
  refine g_aload_n 0 dX9_common_1 rfl rfl ?_
  refine gN_getR (d + 1) flX9_10 (fun _ _ _ => rfl) 0 (hD.t) (hD.r0) dX9_common_2 ?_
  refine gN_getI flX9_68 rfl 0 (hD.s.t) dX9_common_5 ?_
  refine g_ei (nI (nv (z 0))) (hR.c0.trans hz.n0.e) ?_
  refine gd_callS _ _ _ _ (cn_X9_checkNumber g (0, 0) (j := s) (N := nv (z 0)) (by omega) (by omega)) ⟨rfl, rfl⟩ (ok_X9_checkNumber _) mlX9_30 st_X9_checkNumber rfl ⟨Nat.le_of_ble_eq_true rfl, Nat.le_of_ble_eq_true rfl⟩ (by exact Nat.le_of_ble_eq_true rfl) ⟨Nat.zero_le _, Nat.zero_le _⟩ dX9_common_8 rfl ?_
  refine g_iload_n 2 dX9_common_11 rfl rfl ?_
  refine g_aload_n 0 dX9_common_12 rfl rfl ?_
  refine gN_getR (d + 1) flX9_10 (fun _ _ _ => rfl) 0 (hD.t) (hD.r0) dX9_common_13 ?_
  refine gN_getI flX9_68 rfl 0 (hD.s.t) dX9_common_16 ?_
  refine g_ei (nI (nv (z 0))) (hR.c0.trans hz.n0.e) ?_
  refine gd_callS _ _ _ _ (cn_X9_checkNumber g (0, 0) (j := t) (N := nv (z 0)) (by omega) (by omega)) ⟨rfl, rfl⟩ (ok_X9_checkNumber _) mlX9_30 st_X9_checkNumber rfl ⟨Nat.le_of_ble_eq_true rfl, Nat.le_of_ble_eq_true rfl⟩ (by exact Nat.le_of_ble_eq_true rfl) ⟨Nat.zero_le _, Nat.zero_le _⟩ dX9_common_19 rfl ?_
  refine g_iload_n 3 dX9_common_22 rfl rfl ?_
  refine gN_iconst 0 dX9_common_23 (by decide) ?_
  refine gN_bipush 11 dX9_common_24 (by decide) ?_
  refine gd_callS _ _ _ _ (cn_X9_checkRange g (0, 0) ((in_inb (n := 11) (by decide)).mpr ((inb_nI (by omega)).mpr (by omega)))) ⟨rfl, rfl⟩ (ok_X9_checkRange _) mlX9_34 st_X9_checkRange rfl ⟨Nat.le_of_ble_eq_true rfl, Nat.le_of_ble_eq_true rfl⟩ (by exact Nat.le_of_ble_eq_true rfl) ⟨Nat.zero_le _, Nat.zero_le _⟩ dX9_common_26 rfl ?_
  refine g_aload_n 0 dX9_common_29 rfl rfl ?_
  refine gN_getR (d + 1) flX9_10 (fun _ _ _ => rfl) 0 (hD.t) (hD.r0) dX9_common_30 ?_
  refine gN_getR (d + 1 + 5) flX9_71 (fun _ _ _ => rfl) 0 (hD.s.t) (hD.s.r4) dX9_common_33 ?_
  refine g_iload_n 1 dX9_common_36 rfl rfl ?_
  refine gN_aald 14 10 (d + 1 + 37 + s) (hD.s.t5) (by decide) (by first | omega | exact b01_lt _) (by first | omega | exact b01_lt _) (hD.s.rS (by omega)) dX9_common_37 ?_
  refine gN_getR (q) flX9_98 (fun _ _ _ => rfl) 0 (hD.s.tS (by omega)) (hq1) dX9_common_38 ?_
  refine g_aload_n 0 dX9_common_41 rfl rfl ?_
  refine gN_getR (d + 1) flX9_10 (fun _ _ _ => rfl) 0 (hD.t) (hD.r0) dX9_common_42 ?_
  refine gN_getR (d + 1 + 5) flX9_71 (fun _ _ _ => rfl) 0 (hD.s.t) (hD.s.r4) dX9_common_45 ?_
  refine g_iload_n 2 dX9_common_48 rfl rfl ?_
  refine gN_aald 14 10 (d + 1 + 37 + t) (hD.s.t5) (by decide) (by first | omega | exact b01_lt _) (by first | omega | exact b01_lt _) (hD.s.rS (by omega)) dX9_common_49 ?_
  refine gN_getR (q2) flX9_98 (fun _ _ _ => rfl) 0 (hD.s.tS (by omega)) (hq3) dX9_common_50 ?_
  refine g_iload_n 3 dX9_common_53 rfl rfl ?_
  refine gd_callV _ _ _ _ (cn_X4_commonWord g (0, 0) hq hq2 (p := w) (by omega)) ⟨rfl, rfl⟩ (ok_X4_commonWord _) mlX9_275 in_X4_commonWord se_X4_commonWord 4 0 (hq.t) rfl rfl rfl ⟨Nat.le_of_ble_eq_true rfl, Nat.le_of_ble_eq_true rfl⟩ (by exact Nat.le_of_ble_eq_true rfl) ⟨Nat.zero_le _, Nat.zero_le _⟩ dX9_common_54 rfl ?_
  refine g_iret rfl dX9_common_57 ⟨Nat.zero_le _, Nat.zero_le _⟩ ?_
  exact ⟨rfl, rfl⟩
set_option maxRecDepth 100000 in
theorem cx_X9_ifPaid_1 (g : Gp) (cs : Nat × Nat) {m : Mm} {d B c : Nat} {z : Nat → Int32} (hD : DkT m d) (hR : Rp m B (d + 1) z) (hz : ZOk c z) {p x : Int32} (h : ¬ inb p (nv (z 0))) : Xn g (MX9_ifPaid (1, 6)) [.ref (d), .int (p), .int (x)] m "java/lang/IndexOutOfBoundsException" := by
  have hz0 := hz.n0.hi
  have hz1 := hz.n1.hi
  refine Cn.of pn_X9 (Nat.le_of_ble_eq_true rfl) rfl ?_
  refine g_iload_n 1 dX9_ifPaid_0 rfl rfl ?_
  refine g_aload_n 0 dX9_ifPaid_1 rfl rfl ?_
  refine gN_getR (d + 1) flX9_10 (fun _ _ _ => rfl) 0 (hD.t) (hD.r0) dX9_ifPaid_2 ?_
  refine gN_getI flX9_68 rfl 0 (hD.s.t) dX9_ifPaid_5 ?_
  refine g_ei (nI (nv (z 0))) (hR.c0.trans hz.n0.e) ?_
  exact gx_callS _ _ (cx_X9_checkNumber g (0, 0) (N := nv (z 0)) (by omega) (h)) (ok_X9_checkNumber _) mlX9_30 st_X9_checkNumber rfl ⟨Nat.le_of_ble_eq_true rfl, Nat.le_of_ble_eq_true rfl⟩ (by exact Nat.le_of_ble_eq_true rfl) ⟨Nat.le_of_ble_eq_true rfl, Nat.le_of_ble_eq_true rfl⟩ dX9_ifPaid_8 rfl (fun n hn => ⟨rfl, n, hn, rfl⟩)
set_option maxRecDepth 100000 in
theorem cx_X9_ifPaid_11 (g : Gp) (cs : Nat × Nat) {m : Mm} {d B c : Nat} {z : Nat → Int32} (hD : DkT m d) (hR : Rp m B (d + 1) z) (hz : ZOk c z) {s : Nat} (hs : s < nv (z 0)) {x : Int32} (h : ¬ inb x 4) : Xn g (MX9_ifPaid (1, 6)) [.ref (d), .int (nI (s)), .int (x)] m "java/lang/IndexOutOfBoundsException" := by
  have hz0 := hz.n0.hi
  have hz1 := hz.n1.hi
  refine Cn.of pn_X9 (Nat.le_of_ble_eq_true rfl) rfl ?_
  refine g_iload_n 1 dX9_ifPaid_0 rfl rfl ?_
  refine g_aload_n 0 dX9_ifPaid_1 rfl rfl ?_
  refine gN_getR (d + 1) flX9_10 (fun _ _ _ => rfl) 0 (hD.t) (hD.r0) dX9_ifPaid_2 ?_
  refine gN_getI flX9_68 rfl 0 (hD.s.t) dX9_ifPaid_5 ?_
  refine g_ei (nI (nv (z 0))) (hR.c0.trans hz.n0.e) ?_
  refine gd_callS _ _ _ _ (cn_X9_checkNumber g (0, 0) (j := s) (N := nv (z 0)) (by omega) (by omega)) ⟨rfl, rfl⟩ (ok_X9_checkNumber _) mlX9_30 st_X9_checkNumber rfl ⟨Nat.le_of_ble_eq_true rfl, Nat.le_of_ble_eq_true rfl⟩ (by exact Nat.le_of_ble_eq_true rfl) ⟨Nat.zero_le _, Nat.zero_le _⟩ dX9_ifPaid_8 rfl ?_
  refine g_iload_n 2 dX9_ifPaid_11 rfl rfl ?_
  refine gN_iconst 4 dX9_ifPaid_12 (by decide) ?_
  exact gx_callS _ _ (cx_X9_checkNumber g (0, 0) (N := 4) (by omega) (h)) (ok_X9_checkNumber _) mlX9_30 st_X9_checkNumber rfl ⟨Nat.le_of_ble_eq_true rfl, Nat.le_of_ble_eq_true rfl⟩ (by exact Nat.le_of_ble_eq_true rfl) ⟨Nat.le_of_ble_eq_true rfl, Nat.le_of_ble_eq_true rfl⟩ dX9_ifPaid_13 rfl (fun n hn => ⟨rfl, n, hn, rfl⟩)
set_option maxRecDepth 100000 in
theorem cn_X9_ifPaid (g : Gp) (cs : Nat × Nat) {m : Mm} {d B c : Nat} {z : Nat → Int32} (hD : DkT m d) (hR : Rp m B (d + 1) z) (hz : ZOk c z) {s : Nat} (hs : s < nv (z 0)) (hC : CsT g m) {t : Nat} (ht : t < 4) : Dn g (MX9_ifPaid cs) [.ref (d), .int (nI (s)), .int (nI (t))] m (some (.int (payV z (79 + 22 * s) t (pctV z (79 + 22 * s))))) m := by
  have hz0 := hz.n0.hi
  have hz1 := hz.n1.hi
  obtain ⟨q, hq1, hqa⟩ := hR.SR (s := s) hs
  have hq := hqa.2.2
  refine Cn.of pn_X9 (Nat.le_of_ble_eq_true rfl) rfl ?_
  refine g_iload_n 1 dX9_ifPaid_0 rfl rfl ?_
  refine g_aload_n 0 dX9_ifPaid_1 rfl rfl ?_
  refine gN_getR (d + 1) flX9_10 (fun _ _ _ => rfl) 0 (hD.t) (hD.r0) dX9_ifPaid_2 ?_
  refine gN_getI flX9_68 rfl 0 (hD.s.t) dX9_ifPaid_5 ?_
  refine g_ei (nI (nv (z 0))) (hR.c0.trans hz.n0.e) ?_
  refine gd_callS _ _ _ _ (cn_X9_checkNumber g (0, 0) (j := s) (N := nv (z 0)) (by omega) (by omega)) ⟨rfl, rfl⟩ (ok_X9_checkNumber _) mlX9_30 st_X9_checkNumber rfl ⟨Nat.le_of_ble_eq_true rfl, Nat.le_of_ble_eq_true rfl⟩ (by exact Nat.le_of_ble_eq_true rfl) ⟨Nat.zero_le _, Nat.zero_le _⟩ dX9_ifPaid_8 rfl ?_
  refine g_iload_n 2 dX9_ifPaid_11 rfl rfl ?_
  refine gN_iconst 4 dX9_ifPaid_12 (by decide) ?_
  refine gd_callS _ _ _ _ (cn_X9_checkNumber g (0, 0) (j := t) (N := 4) (by omega) (by omega)) ⟨rfl, rfl⟩ (ok_X9_checkNumber _) mlX9_30 st_X9_checkNumber rfl ⟨Nat.le_of_ble_eq_true rfl, Nat.le_of_ble_eq_true rfl⟩ (by exact Nat.le_of_ble_eq_true rfl) ⟨Nat.zero_le _, Nat.zero_le _⟩ dX9_ifPaid_13 rfl ?_
  refine g_aload_n 0 dX9_ifPaid_16 rfl rfl ?_
  refine gN_getR (d + 1) flX9_10 (fun _ _ _ => rfl) 0 (hD.t) (hD.r0) dX9_ifPaid_17 ?_
  refine gN_getR (d + 1 + 5) flX9_71 (fun _ _ _ => rfl) 0 (hD.s.t) (hD.s.r4) dX9_ifPaid_20 ?_
  refine g_iload_n 1 dX9_ifPaid_23 rfl rfl ?_
  refine gN_aald 14 10 (d + 1 + 37 + s) (hD.s.t5) (by decide) (by first | omega | exact b01_lt _) (by first | omega | exact b01_lt _) (hD.s.rS (by omega)) dX9_ifPaid_24 ?_
  refine g_astore_n 3 [(3, .ref (d + 1 + 37 + s)), (0, .ref (d)), (1, .int (nI (s))), (2, .int (nI (t)))] dX9_ifPaid_25 rfl (Nat.le_of_ble_eq_true rfl) rfl ?_
  refine g_aload_n 3 dX9_ifPaid_26 rfl rfl ?_
  refine gN_getI flX9_75 rfl 0 (hD.s.tS (by omega)) dX9_ifPaid_27 ?_
  refine g_eI (z (79 + 22 * s + 1)) (hR.S1 (by omega)) ?_
  refine g_if_ne 47 dX9_ifPaid_30 (by decide) (fun h_30 => ?_) (fun h_30 => ?_)
  · refine g_aload_n 3 dX9_ifPaid_47 rfl rfl ?_
    refine gN_getI flX9_190 rfl 0 (hD.s.tS (by omega)) dX9_ifPaid_48 ?_
    refine g_eI (opn (z (79 + 22 * s + 1)) (z (79 + 22 * s + 4))) (hR.S4 (by omega)) ?_
    refine g_topi (fun y ey => ?_)
    refine g_istore 4 [(4, .int (y)), (3, .ref (d + 1 + 37 + s)), (0, .ref (d)), (1, .int (nI (s))), (2, .int (nI (t)))] dX9_ifPaid_51 (Nat.le_of_ble_eq_true rfl) rfl ?_
    refine g_aload_n 3 dX9_ifPaid_53 rfl rfl ?_
    refine gN_getR (q) flX9_98 (fun _ _ _ => rfl) 0 (hD.s.tS (by omega)) (hq1) dX9_ifPaid_54 ?_
    refine gN_getI flX9_112 rfl 0 (hq.t) dX9_ifPaid_57 ?_
    refine g_eI (z (79 + 22 * s)) (hq.l.trans (hz.row hs).1.e.symm) ?_
    refine g_aload_n 0 dX9_ifPaid_60 rfl rfl ?_
    refine gN_getR (d + 1) flX9_10 (fun _ _ _ => rfl) 0 (hD.t) (hD.r0) dX9_ifPaid_61 ?_
    refine gN_getR (d + 1 + 2) flX9_42 (fun _ _ _ => rfl) 0 (hD.s.t) (hD.s.r1) dX9_ifPaid_64 ?_
    refine g_iload_n 2 dX9_ifPaid_67 rfl rfl ?_
    refine gN_aald 17 4 (d + 1 + 12 + t) (hD.s.t2) (by decide) (by first | omega | exact b01_lt _) (by first | omega | exact b01_lt _) (hD.s.rT (by omega)) dX9_ifPaid_68 ?_
    refine gN_getI flX9_46 rfl 0 (hD.s.tT (by omega)) dX9_ifPaid_69 ?_
    refine g_eI (z (4 + 5 * t)) (hR.T0 (by omega)) ?_
    refine g_imul dX9_ifPaid_72 ?_
    refine g_iload 4 dX9_ifPaid_73 rfl ?_
    refine g_imul dX9_ifPaid_75 ?_
    refine gN_bipush 100 dX9_ifPaid_76 (by decide) ?_
    refine g_idiv dX9_ifPaid_78 (by decide) ?_
    refine g_iret rfl dX9_ifPaid_79 ⟨Nat.zero_le _, Nat.zero_le _⟩ ?_
    refine ⟨vI ?_, rfl⟩
    rw [ey]
    unfold payV pctV
    first | (rw [if_pos h_30]; first | done | rfl) | (rw [if_neg h_30]; unfold opn; rw [if_neg h_30])
  · refine g_aload_n 0 dX9_ifPaid_33 rfl rfl ?_
    refine gN_getR (d + 1) flX9_10 (fun _ _ _ => rfl) 0 (hD.t) (hD.r0) dX9_ifPaid_34 ?_
    refine g_aload_n 3 dX9_ifPaid_37 rfl rfl ?_
    refine gN_getR (q) flX9_98 (fun _ _ _ => rfl) 0 (hD.s.tS (by omega)) (hq1) dX9_ifPaid_38 ?_
    refine gd_callV _ _ _ _ (cn_X6_percentNow g (0, 0) hD.s hR hz hC hq) ⟨rfl, rfl⟩ (ok_X6_percentNow _) mlX9_278 in_X6_percentNow se_X6_percentNow 6 0 (hD.s.t) rfl rfl rfl ⟨Nat.le_of_ble_eq_true rfl, Nat.le_of_ble_eq_true rfl⟩ (by exact Nat.le_of_ble_eq_true rfl) ⟨Nat.zero_le _, Nat.zero_le _⟩ dX9_ifPaid_41 rfl ?_
    refine g_goto 51 dX9_ifPaid_44 (by decide) ?_
    refine g_topi (fun y ey => ?_)
    refine g_istore 4 [(4, .int (y)), (3, .ref (d + 1 + 37 + s)), (0, .ref (d)), (1, .int (nI (s))), (2, .int (nI (t)))] dX9_ifPaid_51 (Nat.le_of_ble_eq_true rfl) rfl ?_
    refine g_aload_n 3 dX9_ifPaid_53 rfl rfl ?_
    refine gN_getR (q) flX9_98 (fun _ _ _ => rfl) 0 (hD.s.tS (by omega)) (hq1) dX9_ifPaid_54 ?_
    refine gN_getI flX9_112 rfl 0 (hq.t) dX9_ifPaid_57 ?_
    refine g_eI (z (79 + 22 * s)) (hq.l.trans (hz.row hs).1.e.symm) ?_
    refine g_aload_n 0 dX9_ifPaid_60 rfl rfl ?_
    refine gN_getR (d + 1) flX9_10 (fun _ _ _ => rfl) 0 (hD.t) (hD.r0) dX9_ifPaid_61 ?_
    refine gN_getR (d + 1 + 2) flX9_42 (fun _ _ _ => rfl) 0 (hD.s.t) (hD.s.r1) dX9_ifPaid_64 ?_
    refine g_iload_n 2 dX9_ifPaid_67 rfl rfl ?_
    refine gN_aald 17 4 (d + 1 + 12 + t) (hD.s.t2) (by decide) (by first | omega | exact b01_lt _) (by first | omega | exact b01_lt _) (hD.s.rT (by omega)) dX9_ifPaid_68 ?_
    refine gN_getI flX9_46 rfl 0 (hD.s.tT (by omega)) dX9_ifPaid_69 ?_
    refine g_eI (z (4 + 5 * t)) (hR.T0 (by omega)) ?_
    refine g_imul dX9_ifPaid_72 ?_
    refine g_iload 4 dX9_ifPaid_73 rfl ?_
    refine g_imul dX9_ifPaid_75 ?_
    refine gN_bipush 100 dX9_ifPaid_76 (by decide) ?_
    refine g_idiv dX9_ifPaid_78 (by decide) ?_
    refine g_iret rfl dX9_ifPaid_79 ⟨Nat.zero_le _, Nat.zero_le _⟩ ?_
    refine ⟨vI ?_, rfl⟩
    rw [ey]
    unfold payV pctV
    first | (rw [if_pos h_30]; first | done | rfl) | (rw [if_neg h_30]; unfold opn; rw [if_neg h_30])
set_option maxRecDepth 100000 in
theorem cx_X9_orderMatters_1 (g : Gp) (cs : Nat × Nat) {m : Mm} {d B c : Nat} {z : Nat → Int32} (hD : DkT m d) (hR : Rp m B (d + 1) z) (hz : ZOk c z) {p x : Int32} (h : ¬ inb p (nv (z 0))) : Xn g (MX9_orderMatters (1, 6)) [.ref (d), .int (p), .int (x)] m "java/lang/IndexOutOfBoundsException" := by
  have hz0 := hz.n0.hi
  have hz1 := hz.n1.hi
  refine Cn.of pn_X9 (Nat.le_of_ble_eq_true rfl) rfl ?_
  refine g_iload_n 1 dX9_orderMatters_0 rfl rfl ?_
  refine g_aload_n 0 dX9_orderMatters_1 rfl rfl ?_
  refine gN_getR (d + 1) flX9_10 (fun _ _ _ => rfl) 0 (hD.t) (hD.r0) dX9_orderMatters_2 ?_
  refine gN_getI flX9_68 rfl 0 (hD.s.t) dX9_orderMatters_5 ?_
  refine g_ei (nI (nv (z 0))) (hR.c0.trans hz.n0.e) ?_
  exact gx_callS _ _ (cx_X9_checkNumber g (0, 0) (N := nv (z 0)) (by omega) (h)) (ok_X9_checkNumber _) mlX9_30 st_X9_checkNumber rfl ⟨Nat.le_of_ble_eq_true rfl, Nat.le_of_ble_eq_true rfl⟩ (by exact Nat.le_of_ble_eq_true rfl) ⟨Nat.le_of_ble_eq_true rfl, Nat.le_of_ble_eq_true rfl⟩ dX9_orderMatters_8 rfl (fun n hn => ⟨rfl, n, hn, rfl⟩)
set_option maxRecDepth 100000 in
theorem cx_X9_orderMatters_11 (g : Gp) (cs : Nat × Nat) {m : Mm} {d B c : Nat} {z : Nat → Int32} (hD : DkT m d) (hR : Rp m B (d + 1) z) (hz : ZOk c z) {s : Nat} (hs : s < nv (z 0)) {x : Int32} (h : ¬ inb x (nv (z 0))) : Xn g (MX9_orderMatters (1, 6)) [.ref (d), .int (nI (s)), .int (x)] m "java/lang/IndexOutOfBoundsException" := by
  have hz0 := hz.n0.hi
  have hz1 := hz.n1.hi
  refine Cn.of pn_X9 (Nat.le_of_ble_eq_true rfl) rfl ?_
  refine g_iload_n 1 dX9_orderMatters_0 rfl rfl ?_
  refine g_aload_n 0 dX9_orderMatters_1 rfl rfl ?_
  refine gN_getR (d + 1) flX9_10 (fun _ _ _ => rfl) 0 (hD.t) (hD.r0) dX9_orderMatters_2 ?_
  refine gN_getI flX9_68 rfl 0 (hD.s.t) dX9_orderMatters_5 ?_
  refine g_ei (nI (nv (z 0))) (hR.c0.trans hz.n0.e) ?_
  refine gd_callS _ _ _ _ (cn_X9_checkNumber g (0, 0) (j := s) (N := nv (z 0)) (by omega) (by omega)) ⟨rfl, rfl⟩ (ok_X9_checkNumber _) mlX9_30 st_X9_checkNumber rfl ⟨Nat.le_of_ble_eq_true rfl, Nat.le_of_ble_eq_true rfl⟩ (by exact Nat.le_of_ble_eq_true rfl) ⟨Nat.zero_le _, Nat.zero_le _⟩ dX9_orderMatters_8 rfl ?_
  refine g_iload_n 2 dX9_orderMatters_11 rfl rfl ?_
  refine g_aload_n 0 dX9_orderMatters_12 rfl rfl ?_
  refine gN_getR (d + 1) flX9_10 (fun _ _ _ => rfl) 0 (hD.t) (hD.r0) dX9_orderMatters_13 ?_
  refine gN_getI flX9_68 rfl 0 (hD.s.t) dX9_orderMatters_16 ?_
  refine g_ei (nI (nv (z 0))) (hR.c0.trans hz.n0.e) ?_
  exact gx_callS _ _ (cx_X9_checkNumber g (0, 0) (N := nv (z 0)) (by omega) (h)) (ok_X9_checkNumber _) mlX9_30 st_X9_checkNumber rfl ⟨Nat.le_of_ble_eq_true rfl, Nat.le_of_ble_eq_true rfl⟩ (by exact Nat.le_of_ble_eq_true rfl) ⟨Nat.le_of_ble_eq_true rfl, Nat.le_of_ble_eq_true rfl⟩ dX9_orderMatters_19 rfl (fun n hn => ⟨rfl, n, hn, rfl⟩)
set_option maxRecDepth 100000 in
theorem cx_X9_orderMatters_2 (g : Gp) (cs : Nat × Nat) {m : Mm} {d B c : Nat} {z : Nat → Int32} (hD : DkT m d) (hR : Rp m B (d + 1) z) (hz : ZOk c z) {s : Nat} (hs : s < nv (z 0)) : Xn g (MX9_orderMatters (1, 6)) [.ref (d), .int (nI (s)), .int (nI (s))] m "java/lang/IllegalArgumentException" := by
  have hz0 := hz.n0.hi
  have hz1 := hz.n1.hi
  refine Cn.of pn_X9 (Nat.le_of_ble_eq_true rfl) rfl ?_
  refine g_iload_n 1 dX9_orderMatters_0 rfl rfl ?_
  refine g_aload_n 0 dX9_orderMatters_1 rfl rfl ?_
  refine gN_getR (d + 1) flX9_10 (fun _ _ _ => rfl) 0 (hD.t) (hD.r0) dX9_orderMatters_2 ?_
  refine gN_getI flX9_68 rfl 0 (hD.s.t) dX9_orderMatters_5 ?_
  refine g_ei (nI (nv (z 0))) (hR.c0.trans hz.n0.e) ?_
  refine gd_callS _ _ _ _ (cn_X9_checkNumber g (0, 0) (j := s) (N := nv (z 0)) (by omega) (by omega)) ⟨rfl, rfl⟩ (ok_X9_checkNumber _) mlX9_30 st_X9_checkNumber rfl ⟨Nat.le_of_ble_eq_true rfl, Nat.le_of_ble_eq_true rfl⟩ (by exact Nat.le_of_ble_eq_true rfl) ⟨Nat.zero_le _, Nat.zero_le _⟩ dX9_orderMatters_8 rfl ?_
  refine g_iload_n 2 dX9_orderMatters_11 rfl rfl ?_
  refine g_aload_n 0 dX9_orderMatters_12 rfl rfl ?_
  refine gN_getR (d + 1) flX9_10 (fun _ _ _ => rfl) 0 (hD.t) (hD.r0) dX9_orderMatters_13 ?_
  refine gN_getI flX9_68 rfl 0 (hD.s.t) dX9_orderMatters_16 ?_
  refine g_ei (nI (nv (z 0))) (hR.c0.trans hz.n0.e) ?_
  refine gd_callS _ _ _ _ (cn_X9_checkNumber g (0, 0) (j := s) (N := nv (z 0)) (by omega) (by omega)) ⟨rfl, rfl⟩ (ok_X9_checkNumber _) mlX9_30 st_X9_checkNumber rfl ⟨Nat.le_of_ble_eq_true rfl, Nat.le_of_ble_eq_true rfl⟩ (by exact Nat.le_of_ble_eq_true rfl) ⟨Nat.zero_le _, Nat.zero_le _⟩ dX9_orderMatters_19 rfl ?_
  refine g_join 32 (b01 (¬ s = s)) ?_ (fun K_32 => ?_)
  · exact gx_callS _ _ (cx_X9_checkArgument g (0, 0) (p := ¬ s = s) (fun q => q rfl)) (ok_X9_checkArgument _) mlX9_152 st_X9_checkArgument rfl ⟨Nat.le_of_ble_eq_true rfl, Nat.le_of_ble_eq_true rfl⟩ (by exact Nat.le_of_ble_eq_true rfl) ⟨Nat.le_of_ble_eq_true rfl, Nat.le_of_ble_eq_true rfl⟩ dX9_orderMatters_32 rfl (fun n hn => ⟨rfl, n, hn, rfl⟩)
  · refine g_iload_n 1 dX9_orderMatters_22 rfl rfl ?_
    refine g_iload_n 2 dX9_orderMatters_23 rfl rfl ?_
    refine gN_icmp_eq 31 dX9_orderMatters_24 (by decide) (by first | omega | exact b01_lt _) (by first | omega | exact b01_lt _) (fun h_24 => ?_) (fun h_24 => ?_)
    · refine gN_iconst 0 dX9_orderMatters_31 (by decide) ?_
      exact g_ei (nI (b01 (¬ s = s))) (congrArg nI (show 0 = b01 (¬ s = s) from by first | exact (b01_f (fun q => q h_24)).symm | exact absurd rfl h_24)) K_32
    · refine gN_iconst 1 dX9_orderMatters_27 (by decide) ?_
      refine g_goto 32 dX9_orderMatters_28 (by decide) ?_
      exact g_ei (nI (b01 (¬ s = s))) (congrArg nI (show 1 = b01 (¬ s = s) from by first | exact (b01_f (fun q => q h_24)).symm | exact absurd rfl h_24)) K_32
set_option maxRecDepth 100000 in
theorem cx_X9_orderMatters_3 (g : Gp) (cs : Nat × Nat) {m : Mm} {d B c : Nat} {z : Nat → Int32} (hD : DkT m d) (hR : Rp m B (d + 1) z) (hz : ZOk c z) {s : Nat} (hs : s < nv (z 0)) {t : Nat} (ht : t < nv (z 0)) (hne : ¬ s = t) (h : ¬ (z (79 + 22 * s + 1) = 0 ∧ z (79 + 22 * t + 1) = 0)) : Xn g (MX9_orderMatters (1, 6)) [.ref (d), .int (nI (s)), .int (nI (t))] m "java/lang/IllegalStateException" := by
  have hz0 := hz.n0.hi
  have hz1 := hz.n1.hi
  refine Cn.of pn_X9 (Nat.le_of_ble_eq_true rfl) rfl ?_
  refine g_iload_n 1 dX9_orderMatters_0 rfl rfl ?_
  refine g_aload_n 0 dX9_orderMatters_1 rfl rfl ?_
  refine gN_getR (d + 1) flX9_10 (fun _ _ _ => rfl) 0 (hD.t) (hD.r0) dX9_orderMatters_2 ?_
  refine gN_getI flX9_68 rfl 0 (hD.s.t) dX9_orderMatters_5 ?_
  refine g_ei (nI (nv (z 0))) (hR.c0.trans hz.n0.e) ?_
  refine gd_callS _ _ _ _ (cn_X9_checkNumber g (0, 0) (j := s) (N := nv (z 0)) (by omega) (by omega)) ⟨rfl, rfl⟩ (ok_X9_checkNumber _) mlX9_30 st_X9_checkNumber rfl ⟨Nat.le_of_ble_eq_true rfl, Nat.le_of_ble_eq_true rfl⟩ (by exact Nat.le_of_ble_eq_true rfl) ⟨Nat.zero_le _, Nat.zero_le _⟩ dX9_orderMatters_8 rfl ?_
  refine g_iload_n 2 dX9_orderMatters_11 rfl rfl ?_
  refine g_aload_n 0 dX9_orderMatters_12 rfl rfl ?_
  refine gN_getR (d + 1) flX9_10 (fun _ _ _ => rfl) 0 (hD.t) (hD.r0) dX9_orderMatters_13 ?_
  refine gN_getI flX9_68 rfl 0 (hD.s.t) dX9_orderMatters_16 ?_
  refine g_ei (nI (nv (z 0))) (hR.c0.trans hz.n0.e) ?_
  refine gd_callS _ _ _ _ (cn_X9_checkNumber g (0, 0) (j := t) (N := nv (z 0)) (by omega) (by omega)) ⟨rfl, rfl⟩ (ok_X9_checkNumber _) mlX9_30 st_X9_checkNumber rfl ⟨Nat.le_of_ble_eq_true rfl, Nat.le_of_ble_eq_true rfl⟩ (by exact Nat.le_of_ble_eq_true rfl) ⟨Nat.zero_le _, Nat.zero_le _⟩ dX9_orderMatters_19 rfl ?_
  refine g_join 32 (b01 (¬ s = t)) ?_ (fun K_32 => ?_)
  · refine gd_callS _ _ _ _ (cn_X9_checkArgument g (0, 0) (p := ¬ s = t) (hne)) ⟨rfl, rfl⟩ (ok_X9_checkArgument _) mlX9_152 st_X9_checkArgument rfl ⟨Nat.le_of_ble_eq_true rfl, Nat.le_of_ble_eq_true rfl⟩ (by exact Nat.le_of_ble_eq_true rfl) ⟨Nat.zero_le _, Nat.zero_le _⟩ dX9_orderMatters_32 rfl ?_
    refine g_aload_n 0 dX9_orderMatters_35 rfl rfl ?_
    refine gN_getR (d + 1) flX9_10 (fun _ _ _ => rfl) 0 (hD.t) (hD.r0) dX9_orderMatters_36 ?_
    refine gN_getR (d + 1 + 5) flX9_71 (fun _ _ _ => rfl) 0 (hD.s.t) (hD.s.r4) dX9_orderMatters_39 ?_
    refine g_iload_n 1 dX9_orderMatters_42 rfl rfl ?_
    refine gN_aald 14 10 (d + 1 + 37 + s) (hD.s.t5) (by decide) (by first | omega | exact b01_lt _) (by first | omega | exact b01_lt _) (hD.s.rS (by omega)) dX9_orderMatters_43 ?_
    refine g_astore_n 3 [(3, .ref (d + 1 + 37 + s)), (0, .ref (d)), (1, .int (nI (s))), (2, .int (nI (t)))] dX9_orderMatters_44 rfl (Nat.le_of_ble_eq_true rfl) rfl ?_
    refine g_aload_n 0 dX9_orderMatters_45 rfl rfl ?_
    refine gN_getR (d + 1) flX9_10 (fun _ _ _ => rfl) 0 (hD.t) (hD.r0) dX9_orderMatters_46 ?_
    refine gN_getR (d + 1 + 5) flX9_71 (fun _ _ _ => rfl) 0 (hD.s.t) (hD.s.r4) dX9_orderMatters_49 ?_
    refine g_iload_n 2 dX9_orderMatters_52 rfl rfl ?_
    refine gN_aald 14 10 (d + 1 + 37 + t) (hD.s.t5) (by decide) (by first | omega | exact b01_lt _) (by first | omega | exact b01_lt _) (hD.s.rS (by omega)) dX9_orderMatters_53 ?_
    refine g_astore 4 [(4, .ref (d + 1 + 37 + t)), (3, .ref (d + 1 + 37 + s)), (0, .ref (d)), (1, .int (nI (s))), (2, .int (nI (t)))] dX9_orderMatters_54 (Nat.le_of_ble_eq_true rfl) rfl ?_
    refine g_join 76 (b01 (z (79 + 22 * s + 1) = 0 ∧ z (79 + 22 * t + 1) = 0)) ?_ (fun K_76 => ?_)
    · exact gx_callS _ _ (cx_X9_checkState g (0, 0) (p := z (79 + 22 * s + 1) = 0 ∧ z (79 + 22 * t + 1) = 0) h) (ok_X9_checkState _) mlX9_80 st_X9_checkState rfl ⟨Nat.le_of_ble_eq_true rfl, Nat.le_of_ble_eq_true rfl⟩ (by exact Nat.le_of_ble_eq_true rfl) ⟨Nat.le_of_ble_eq_true rfl, Nat.le_of_ble_eq_true rfl⟩ dX9_orderMatters_76 rfl (fun n hn => ⟨rfl, n, hn, rfl⟩)
    · refine g_aload_n 3 dX9_orderMatters_56 rfl rfl ?_
      refine gN_getI flX9_75 rfl 0 (hD.s.tS (by omega)) dX9_orderMatters_57 ?_
      refine g_eI (z (79 + 22 * s + 1)) (hR.S1 (by omega)) ?_
      refine g_if_ne 75 dX9_orderMatters_60 (by decide) (fun h_60 => ?_) (fun h_60 => ?_)
      · refine gN_iconst 0 dX9_orderMatters_75 (by decide) ?_
        exact g_ei (nI (b01 (z (79 + 22 * s + 1) = 0 ∧ z (79 + 22 * t + 1) = 0))) (congrArg nI (show 0 = b01 (z (79 + 22 * s + 1) = 0 ∧ z (79 + 22 * t + 1) = 0) from by first | exact (b01_t ⟨h_60, h_68⟩).symm | exact (b01_f (fun q => by first | exact h_60 q.1 | exact h_68 q.2)).symm)) K_76
      · refine g_aload 4 dX9_orderMatters_63 rfl ?_
        refine gN_getI flX9_75 rfl 0 (hD.s.tS (by omega)) dX9_orderMatters_65 ?_
        refine g_eI (z (79 + 22 * t + 1)) (hR.S1 (by omega)) ?_
        refine g_if_ne 75 dX9_orderMatters_68 (by decide) (fun h_68 => ?_) (fun h_68 => ?_)
        · refine gN_iconst 0 dX9_orderMatters_75 (by decide) ?_
          exact g_ei (nI (b01 (z (79 + 22 * s + 1) = 0 ∧ z (79 + 22 * t + 1) = 0))) (congrArg nI (show 0 = b01 (z (79 + 22 * s + 1) = 0 ∧ z (79 + 22 * t + 1) = 0) from by first | exact (b01_t ⟨h_60, h_68⟩).symm | exact (b01_f (fun q => by first | exact h_60 q.1 | exact h_68 q.2)).symm)) K_76
        · refine gN_iconst 1 dX9_orderMatters_71 (by decide) ?_
          refine g_goto 76 dX9_orderMatters_72 (by decide) ?_
          exact g_ei (nI (b01 (z (79 + 22 * s + 1) = 0 ∧ z (79 + 22 * t + 1) = 0))) (congrArg nI (show 1 = b01 (z (79 + 22 * s + 1) = 0 ∧ z (79 + 22 * t + 1) = 0) from by first | exact (b01_t ⟨h_60, h_68⟩).symm | exact (b01_f (fun q => by first | exact h_60 q.1 | exact h_68 q.2)).symm)) K_76
  · refine g_iload_n 1 dX9_orderMatters_22 rfl rfl ?_
    refine g_iload_n 2 dX9_orderMatters_23 rfl rfl ?_
    refine gN_icmp_eq 31 dX9_orderMatters_24 (by decide) (by first | omega | exact b01_lt _) (by first | omega | exact b01_lt _) (fun h_24 => ?_) (fun h_24 => ?_)
    · refine gN_iconst 0 dX9_orderMatters_31 (by decide) ?_
      exact g_ei (nI (b01 (¬ s = t))) (congrArg nI (show 0 = b01 (¬ s = t) from by first | exact (b01_t h_24).symm | exact (b01_f (fun q => q h_24)).symm)) K_32
    · refine gN_iconst 1 dX9_orderMatters_27 (by decide) ?_
      refine g_goto 32 dX9_orderMatters_28 (by decide) ?_
      exact g_ei (nI (b01 (¬ s = t))) (congrArg nI (show 1 = b01 (¬ s = t) from by first | exact (b01_t h_24).symm | exact (b01_f (fun q => q h_24)).symm)) K_32
/-- what the segment f and then s would cost -/
def csC (z : Nat → Int32) (f s : Nat) : Int32 := nI (nv (z (79 + 22 * f))) * z (64 + 3 * bandOf (gm (mfr z (fun e => z (79 + 22 * f + 10 + e)) (nv (z (79 + 22 * f)))) (nv (z 1)))) + nI (nv (z (79 + 22 * s))) * z (64 + 3 * bandOf (mfa z (fun e => z (79 + 22 * s + 10 + e)) (fun e => z (79 + 22 * f + 10 + e)) (nv (z (79 + 22 * s))) (nv (z (79 + 22 * f)))))
theorem csC_V {c : Nat} {z : Nat → Int32} (hz : ZOk c z) {f s : Nat} (hf : f < nv (z 0)) (hs : s < nv (z 0)) : csC z f s = csV z f s := by
  have hz0 := hz.n0.hi
  have hz1 := hz.n1.hi
  have hl := lastR_le z hz1
  have e1 : ∀ y, y < 299 → y ≠ 1 → rmZ z f y = z y := fun y h1 h2 => rmZ_lo z f h1 h2
  have hm : mtc (rmZ z f) (79 + 22 * s) = mfa z (fun e => z (79 + 22 * s + 10 + e)) (fun e => z (79 + 22 * f + 10 + e)) (nv (z (79 + 22 * s))) (nv (z (79 + 22 * f))) := by
    show gm (mf (rmZ z f) (79 + 22 * s)) (nv (rmZ z f 1)) = _
    rw [rmZ_nv1 z f hz1]
    obtain ⟨n1, n2⟩ := rmZ_new z (s := f) (by omega)
    have hfl := (hz.row hf).1.hi
    have hsl := (hz.row hs).1.hi
    show max (gm (mf (rmZ z f) (79 + 22 * s)) (lastR z)) (mf (rmZ z f) (79 + 22 * s) (lastR z)) = _
    unfold mfa
    have h1 : gm (mf (rmZ z f) (79 + 22 * s)) (lastR z) = gm (fun t => mfr z (fun e => z (79 + 22 * s + 10 + e)) (nv (z (79 + 22 * s))) (dropR z + t)) (nv (z 1) - dropR z) := by
      have e : nv (z 1) - dropR z = lastR z := by unfold dropR lastR; split <;> omega
      rw [e]
      refine gm_cg _ (fun r hr => ?_)
      have ho := fun (e : Nat) (he : e < 13) => rmZ_old z (s := f) (r := r) (e := e) hz1 hr he
      have hr2 : r + dropR z < nv (z 1) := by
        unfold lastR at hr; unfold dropR
        split at hr <;> rename_i w <;> simp only [w, if_true, if_false] <;> omega
      have hrl := (hz.mem hr2).1.hi
      have o0 : rmZ z f (299 + 13 * r) = z (299 + 13 * (r + dropR z)) := ho 0 (by omega)
      unfold mf mfr tt
      rw [o0, e1 (79 + 22 * s) (by omega) (by omega), Nat.add_comm (dropR z) r]
      rw [lc_congr (u := fun e => rmZ z f (79 + 22 * s + 10 + e)) (u' := fun e => z (79 + 22 * s + 10 + e)) (v := fun e => rmZ z f (299 + 13 * r + 1 + e)) (v' := fun e => z (299 + 13 * (r + dropR z) + 1 + e)) (fun e he => e1 _ (by omega) (by omega)) (fun e he => by
        have := ho (1 + e) (by omega)
        rw [← Nat.add_assoc, ← Nat.add_assoc] at this
        exact this) _ _ (Nat.sub_le _ _) (Nat.sub_le _ _)]
    have h2 : mf (rmZ z f) (79 + 22 * s) (lastR z) = 200 * tt (fun e => z (79 + 22 * s + 10 + e)) (fun e => z (79 + 22 * f + 10 + e)) (nv (z (79 + 22 * s))) (nv (z (79 + 22 * f))) 0 0 / (nv (z (79 + 22 * s)) + nv (z (79 + 22 * f))) := by
      unfold mf tt
      rw [n1, e1 (79 + 22 * s) (by omega) (by omega)]
      rw [lc_congr (u := fun e => rmZ z f (79 + 22 * s + 10 + e)) (u' := fun e => z (79 + 22 * s + 10 + e)) (v := fun e => rmZ z f (299 + 13 * lastR z + 1 + e)) (v' := fun e => z (79 + 22 * f + 10 + e)) (fun e he => e1 _ (by omega) (by omega)) (fun e he => n2 e (by omega)) _ _ (Nat.sub_le _ _) (Nat.sub_le _ _)]
    rw [h1, h2]
  unfold csC csV
  rw [hm, e1 (79 + 22 * s) (by omega) (by omega), e1 (64 + 3 * bandOf _) (by have := bandOf_le (mfa z (fun e => z (79 + 22 * s + 10 + e)) (fun e => z (79 + 22 * f + 10 + e)) (nv (z (79 + 22 * s))) (nv (z (79 + 22 * f)))); omega) (by omega), ← (hz.row hf).1.e, ← (hz.row hs).1.e]
  rfl
set_option maxRecDepth 100000 in
theorem cn_X9_orderMatters (g : Gp) (cs : Nat × Nat) {m : Mm} {d B c : Nat} {z : Nat → Int32} (hD : DkT m d) (hR : Rp m B (d + 1) z) (hz : ZOk c z) {s : Nat} (hs : s < nv (z 0)) {t : Nat} (ht : t < nv (z 0)) (hC : CsT g m) (hne : ¬ s = t) (h : z (79 + 22 * s + 1) = 0 ∧ z (79 + 22 * t + 1) = 0) : Dn g (MX9_orderMatters cs) [.ref (d), .int (nI (s)), .int (nI (t))] m (some (.int (csV z s t - csV z t s))) m := by
  have hz0 := hz.n0.hi
  have hz1 := hz.n1.hi
  obtain ⟨q, hq1, hqa⟩ := hR.SR (s := s) hs
  have hq := hqa.2.2
  obtain ⟨q2, hq3, hqb⟩ := hR.SR (s := t) ht
  have hq2 := hqb.2.2
  refine Cn.of pn_X9 (Nat.le_of_ble_eq_true rfl) rfl ?_
  refine g_iload_n 1 dX9_orderMatters_0 rfl rfl ?_
  refine g_aload_n 0 dX9_orderMatters_1 rfl rfl ?_
  refine gN_getR (d + 1) flX9_10 (fun _ _ _ => rfl) 0 (hD.t) (hD.r0) dX9_orderMatters_2 ?_
  refine gN_getI flX9_68 rfl 0 (hD.s.t) dX9_orderMatters_5 ?_
  refine g_ei (nI (nv (z 0))) (hR.c0.trans hz.n0.e) ?_
  refine gd_callS _ _ _ _ (cn_X9_checkNumber g (0, 0) (j := s) (N := nv (z 0)) (by omega) (by omega)) ⟨rfl, rfl⟩ (ok_X9_checkNumber _) mlX9_30 st_X9_checkNumber rfl ⟨Nat.le_of_ble_eq_true rfl, Nat.le_of_ble_eq_true rfl⟩ (by exact Nat.le_of_ble_eq_true rfl) ⟨Nat.zero_le _, Nat.zero_le _⟩ dX9_orderMatters_8 rfl ?_
  refine g_iload_n 2 dX9_orderMatters_11 rfl rfl ?_
  refine g_aload_n 0 dX9_orderMatters_12 rfl rfl ?_
  refine gN_getR (d + 1) flX9_10 (fun _ _ _ => rfl) 0 (hD.t) (hD.r0) dX9_orderMatters_13 ?_
  refine gN_getI flX9_68 rfl 0 (hD.s.t) dX9_orderMatters_16 ?_
  refine g_ei (nI (nv (z 0))) (hR.c0.trans hz.n0.e) ?_
  refine gd_callS _ _ _ _ (cn_X9_checkNumber g (0, 0) (j := t) (N := nv (z 0)) (by omega) (by omega)) ⟨rfl, rfl⟩ (ok_X9_checkNumber _) mlX9_30 st_X9_checkNumber rfl ⟨Nat.le_of_ble_eq_true rfl, Nat.le_of_ble_eq_true rfl⟩ (by exact Nat.le_of_ble_eq_true rfl) ⟨Nat.zero_le _, Nat.zero_le _⟩ dX9_orderMatters_19 rfl ?_
  refine g_join 32 (b01 (¬ s = t)) ?_ (fun K_32 => ?_)
  · refine gd_callS _ _ _ _ (cn_X9_checkArgument g (0, 0) (p := ¬ s = t) (hne)) ⟨rfl, rfl⟩ (ok_X9_checkArgument _) mlX9_152 st_X9_checkArgument rfl ⟨Nat.le_of_ble_eq_true rfl, Nat.le_of_ble_eq_true rfl⟩ (by exact Nat.le_of_ble_eq_true rfl) ⟨Nat.zero_le _, Nat.zero_le _⟩ dX9_orderMatters_32 rfl ?_
    refine g_aload_n 0 dX9_orderMatters_35 rfl rfl ?_
    refine gN_getR (d + 1) flX9_10 (fun _ _ _ => rfl) 0 (hD.t) (hD.r0) dX9_orderMatters_36 ?_
    refine gN_getR (d + 1 + 5) flX9_71 (fun _ _ _ => rfl) 0 (hD.s.t) (hD.s.r4) dX9_orderMatters_39 ?_
    refine g_iload_n 1 dX9_orderMatters_42 rfl rfl ?_
    refine gN_aald 14 10 (d + 1 + 37 + s) (hD.s.t5) (by decide) (by first | omega | exact b01_lt _) (by first | omega | exact b01_lt _) (hD.s.rS (by omega)) dX9_orderMatters_43 ?_
    refine g_astore_n 3 [(3, .ref (d + 1 + 37 + s)), (0, .ref (d)), (1, .int (nI (s))), (2, .int (nI (t)))] dX9_orderMatters_44 rfl (Nat.le_of_ble_eq_true rfl) rfl ?_
    refine g_aload_n 0 dX9_orderMatters_45 rfl rfl ?_
    refine gN_getR (d + 1) flX9_10 (fun _ _ _ => rfl) 0 (hD.t) (hD.r0) dX9_orderMatters_46 ?_
    refine gN_getR (d + 1 + 5) flX9_71 (fun _ _ _ => rfl) 0 (hD.s.t) (hD.s.r4) dX9_orderMatters_49 ?_
    refine g_iload_n 2 dX9_orderMatters_52 rfl rfl ?_
    refine gN_aald 14 10 (d + 1 + 37 + t) (hD.s.t5) (by decide) (by first | omega | exact b01_lt _) (by first | omega | exact b01_lt _) (hD.s.rS (by omega)) dX9_orderMatters_53 ?_
    refine g_astore 4 [(4, .ref (d + 1 + 37 + t)), (3, .ref (d + 1 + 37 + s)), (0, .ref (d)), (1, .int (nI (s))), (2, .int (nI (t)))] dX9_orderMatters_54 (Nat.le_of_ble_eq_true rfl) rfl ?_
    refine g_join 76 (b01 (z (79 + 22 * s + 1) = 0 ∧ z (79 + 22 * t + 1) = 0)) ?_ (fun K_76 => ?_)
    · refine gd_callS _ _ _ _ (cn_X9_checkState g (0, 0) (p := z (79 + 22 * s + 1) = 0 ∧ z (79 + 22 * t + 1) = 0) (h)) ⟨rfl, rfl⟩ (ok_X9_checkState _) mlX9_80 st_X9_checkState rfl ⟨Nat.le_of_ble_eq_true rfl, Nat.le_of_ble_eq_true rfl⟩ (by exact Nat.le_of_ble_eq_true rfl) ⟨Nat.zero_le _, Nat.zero_le _⟩ dX9_orderMatters_76 rfl ?_
      refine g_aload_n 0 dX9_orderMatters_79 rfl rfl ?_
      refine gN_getR (d + 1) flX9_10 (fun _ _ _ => rfl) 0 (hD.t) (hD.r0) dX9_orderMatters_80 ?_
      refine g_aload_n 3 dX9_orderMatters_83 rfl rfl ?_
      refine gN_getR (q) flX9_98 (fun _ _ _ => rfl) 0 (hD.s.tS (by omega)) (hq1) dX9_orderMatters_84 ?_
      refine g_aload 4 dX9_orderMatters_87 rfl ?_
      refine gN_getR (q2) flX9_98 (fun _ _ _ => rfl) 0 (hD.s.tS (by omega)) (hq3) dX9_orderMatters_89 ?_
      refine gd_callV _ _ _ _ (cn_X6_costInOrder g (0, 0) hD.s hR hz hC hq hq2) ⟨rfl, rfl⟩ (ok_X6_costInOrder _) mlX9_281 in_X6_costInOrder se_X6_costInOrder 6 0 (hD.s.t) rfl rfl rfl ⟨Nat.le_of_ble_eq_true rfl, Nat.le_of_ble_eq_true rfl⟩ (by exact Nat.le_of_ble_eq_true rfl) ⟨Nat.zero_le _, Nat.zero_le _⟩ dX9_orderMatters_92 rfl ?_
      refine g_aload_n 0 dX9_orderMatters_95 rfl rfl ?_
      refine gN_getR (d + 1) flX9_10 (fun _ _ _ => rfl) 0 (hD.t) (hD.r0) dX9_orderMatters_96 ?_
      refine g_aload 4 dX9_orderMatters_99 rfl ?_
      refine gN_getR (q2) flX9_98 (fun _ _ _ => rfl) 0 (hD.s.tS (by omega)) (hq3) dX9_orderMatters_101 ?_
      refine g_aload_n 3 dX9_orderMatters_104 rfl rfl ?_
      refine gN_getR (q) flX9_98 (fun _ _ _ => rfl) 0 (hD.s.tS (by omega)) (hq1) dX9_orderMatters_105 ?_
      refine gd_callV _ _ _ _ (cn_X6_costInOrder g (0, 0) hD.s hR hz hC hq2 hq) ⟨rfl, rfl⟩ (ok_X6_costInOrder _) mlX9_281 in_X6_costInOrder se_X6_costInOrder 6 0 (hD.s.t) rfl rfl rfl ⟨Nat.le_of_ble_eq_true rfl, Nat.le_of_ble_eq_true rfl⟩ (by exact Nat.le_of_ble_eq_true rfl) ⟨Nat.zero_le _, Nat.zero_le _⟩ dX9_orderMatters_108 rfl ?_
      refine g_isub dX9_orderMatters_111 ?_
      refine g_iret rfl dX9_orderMatters_112 ⟨Nat.zero_le _, Nat.zero_le _⟩ ?_
      exact ⟨vI (by rw [← csC_V hz hs ht, ← csC_V hz ht hs]; rfl), rfl⟩
    · refine g_aload_n 3 dX9_orderMatters_56 rfl rfl ?_
      refine gN_getI flX9_75 rfl 0 (hD.s.tS (by omega)) dX9_orderMatters_57 ?_
      refine g_eI (z (79 + 22 * s + 1)) (hR.S1 (by omega)) ?_
      refine g_if_ne 75 dX9_orderMatters_60 (by decide) (fun h_60 => ?_) (fun h_60 => ?_)
      · refine gN_iconst 0 dX9_orderMatters_75 (by decide) ?_
        exact g_ei (nI (b01 (z (79 + 22 * s + 1) = 0 ∧ z (79 + 22 * t + 1) = 0))) (congrArg nI (show 0 = b01 (z (79 + 22 * s + 1) = 0 ∧ z (79 + 22 * t + 1) = 0) from by first | exact (b01_t ⟨h_60, h_68⟩).symm | exact (b01_f (fun q => by first | exact h_60 q.1 | exact h_68 q.2)).symm)) K_76
      · refine g_aload 4 dX9_orderMatters_63 rfl ?_
        refine gN_getI flX9_75 rfl 0 (hD.s.tS (by omega)) dX9_orderMatters_65 ?_
        refine g_eI (z (79 + 22 * t + 1)) (hR.S1 (by omega)) ?_
        refine g_if_ne 75 dX9_orderMatters_68 (by decide) (fun h_68 => ?_) (fun h_68 => ?_)
        · refine gN_iconst 0 dX9_orderMatters_75 (by decide) ?_
          exact g_ei (nI (b01 (z (79 + 22 * s + 1) = 0 ∧ z (79 + 22 * t + 1) = 0))) (congrArg nI (show 0 = b01 (z (79 + 22 * s + 1) = 0 ∧ z (79 + 22 * t + 1) = 0) from by first | exact (b01_t ⟨h_60, h_68⟩).symm | exact (b01_f (fun q => by first | exact h_60 q.1 | exact h_68 q.2)).symm)) K_76
        · refine gN_iconst 1 dX9_orderMatters_71 (by decide) ?_
          refine g_goto 76 dX9_orderMatters_72 (by decide) ?_
          exact g_ei (nI (b01 (z (79 + 22 * s + 1) = 0 ∧ z (79 + 22 * t + 1) = 0))) (congrArg nI (show 1 = b01 (z (79 + 22 * s + 1) = 0 ∧ z (79 + 22 * t + 1) = 0) from by first | exact (b01_t ⟨h_60, h_68⟩).symm | exact (b01_f (fun q => by first | exact h_60 q.1 | exact h_68 q.2)).symm)) K_76
  · refine g_iload_n 1 dX9_orderMatters_22 rfl rfl ?_
    refine g_iload_n 2 dX9_orderMatters_23 rfl rfl ?_
    refine gN_icmp_eq 31 dX9_orderMatters_24 (by decide) (by first | omega | exact b01_lt _) (by first | omega | exact b01_lt _) (fun h_24 => ?_) (fun h_24 => ?_)
    · refine gN_iconst 0 dX9_orderMatters_31 (by decide) ?_
      exact g_ei (nI (b01 (¬ s = t))) (congrArg nI (show 0 = b01 (¬ s = t) from by first | exact (b01_t h_24).symm | exact (b01_f (fun q => q h_24)).symm)) K_32
    · refine gN_iconst 1 dX9_orderMatters_27 (by decide) ?_
      refine g_goto 32 dX9_orderMatters_28 (by decide) ?_
      exact g_ei (nI (b01 (¬ s = t))) (congrArg nI (show 1 = b01 (¬ s = t) from by first | exact (b01_t h_24).symm | exact (b01_f (fun q => q h_24)).symm)) K_32
set_option maxRecDepth 100000 in
theorem cx_X9_near_1 (g : Gp) (cs : Nat × Nat) {m : Mm} {d B c : Nat} {z : Nat → Int32} (hD : DkT m d) (hR : Rp m B (d + 1) z) (hz : ZOk c z) {p x y : Int32} (h : ¬ inb p (nv (z 0))) : Xn g (MX9_near (1, 6)) [.ref (d), .int (p), .int (x), .int (y)] m "java/lang/IndexOutOfBoundsException" := by
  have hz0 := hz.n0.hi
  have hz1 := hz.n1.hi
  refine Cn.of pn_X9 (Nat.le_of_ble_eq_true rfl) rfl ?_
  refine g_iload_n 1 dX9_near_0 rfl rfl ?_
  refine g_aload_n 0 dX9_near_1 rfl rfl ?_
  refine gN_getR (d + 1) flX9_10 (fun _ _ _ => rfl) 0 (hD.t) (hD.r0) dX9_near_2 ?_
  refine gN_getI flX9_68 rfl 0 (hD.s.t) dX9_near_5 ?_
  refine g_ei (nI (nv (z 0))) (hR.c0.trans hz.n0.e) ?_
  exact gx_callS _ _ (cx_X9_checkNumber g (0, 0) (N := nv (z 0)) (by omega) (h)) (ok_X9_checkNumber _) mlX9_30 st_X9_checkNumber rfl ⟨Nat.le_of_ble_eq_true rfl, Nat.le_of_ble_eq_true rfl⟩ (by exact Nat.le_of_ble_eq_true rfl) ⟨Nat.le_of_ble_eq_true rfl, Nat.le_of_ble_eq_true rfl⟩ dX9_near_8 rfl (fun n hn => ⟨rfl, n, hn, rfl⟩)
set_option maxRecDepth 100000 in
theorem cx_X9_near_11 (g : Gp) (cs : Nat × Nat) {m : Mm} {d B c : Nat} {z : Nat → Int32} (hD : DkT m d) (hR : Rp m B (d + 1) z) (hz : ZOk c z) {s : Nat} (hs : s < nv (z 0)) {x y : Int32} (h : ¬ inb x (nv (z 1))) : Xn g (MX9_near (1, 6)) [.ref (d), .int (nI (s)), .int (x), .int (y)] m "java/lang/IndexOutOfBoundsException" := by
  have hz0 := hz.n0.hi
  have hz1 := hz.n1.hi
  refine Cn.of pn_X9 (Nat.le_of_ble_eq_true rfl) rfl ?_
  refine g_iload_n 1 dX9_near_0 rfl rfl ?_
  refine g_aload_n 0 dX9_near_1 rfl rfl ?_
  refine gN_getR (d + 1) flX9_10 (fun _ _ _ => rfl) 0 (hD.t) (hD.r0) dX9_near_2 ?_
  refine gN_getI flX9_68 rfl 0 (hD.s.t) dX9_near_5 ?_
  refine g_ei (nI (nv (z 0))) (hR.c0.trans hz.n0.e) ?_
  refine gd_callS _ _ _ _ (cn_X9_checkNumber g (0, 0) (j := s) (N := nv (z 0)) (by omega) (by omega)) ⟨rfl, rfl⟩ (ok_X9_checkNumber _) mlX9_30 st_X9_checkNumber rfl ⟨Nat.le_of_ble_eq_true rfl, Nat.le_of_ble_eq_true rfl⟩ (by exact Nat.le_of_ble_eq_true rfl) ⟨Nat.zero_le _, Nat.zero_le _⟩ dX9_near_8 rfl ?_
  refine g_iload_n 2 dX9_near_11 rfl rfl ?_
  refine g_aload_n 0 dX9_near_12 rfl rfl ?_
  refine gN_getR (d + 1) flX9_10 (fun _ _ _ => rfl) 0 (hD.t) (hD.r0) dX9_near_13 ?_
  refine gN_getR (d + 1 + 10) flX9_176 (fun _ _ _ => rfl) 0 (hD.s.t) (hD.s.r5) dX9_near_16 ?_
  refine gN_getI flX9_207 rfl 0 (hD.s.t10) dX9_near_19 ?_
  refine g_ei (nI (nv (z 1))) (hR.c1.trans hz.n1.e) ?_
  exact gx_callS _ _ (cx_X9_checkNumber g (0, 0) (N := nv (z 1)) (by omega) (h)) (ok_X9_checkNumber _) mlX9_30 st_X9_checkNumber rfl ⟨Nat.le_of_ble_eq_true rfl, Nat.le_of_ble_eq_true rfl⟩ (by exact Nat.le_of_ble_eq_true rfl) ⟨Nat.le_of_ble_eq_true rfl, Nat.le_of_ble_eq_true rfl⟩ dX9_near_22 rfl (fun n hn => ⟨rfl, n, hn, rfl⟩)
set_option maxRecDepth 100000 in
theorem cx_X9_near_2 (g : Gp) (cs : Nat × Nat) {m : Mm} {d B c : Nat} {z : Nat → Int32} (hD : DkT m d) (hR : Rp m B (d + 1) z) (hz : ZOk c z) {s : Nat} (hs : s < nv (z 0)) {r : Nat} (hr : r < nv (z 1)) {y : Int32} (h : ¬ inb y 3) : Xn g (MX9_near (1, 6)) [.ref (d), .int (nI (s)), .int (nI (r)), .int (y)] m "java/lang/IllegalArgumentException" := by
  have hz0 := hz.n0.hi
  have hz1 := hz.n1.hi
  refine Cn.of pn_X9 (Nat.le_of_ble_eq_true rfl) rfl ?_
  refine g_iload_n 1 dX9_near_0 rfl rfl ?_
  refine g_aload_n 0 dX9_near_1 rfl rfl ?_
  refine gN_getR (d + 1) flX9_10 (fun _ _ _ => rfl) 0 (hD.t) (hD.r0) dX9_near_2 ?_
  refine gN_getI flX9_68 rfl 0 (hD.s.t) dX9_near_5 ?_
  refine g_ei (nI (nv (z 0))) (hR.c0.trans hz.n0.e) ?_
  refine gd_callS _ _ _ _ (cn_X9_checkNumber g (0, 0) (j := s) (N := nv (z 0)) (by omega) (by omega)) ⟨rfl, rfl⟩ (ok_X9_checkNumber _) mlX9_30 st_X9_checkNumber rfl ⟨Nat.le_of_ble_eq_true rfl, Nat.le_of_ble_eq_true rfl⟩ (by exact Nat.le_of_ble_eq_true rfl) ⟨Nat.zero_le _, Nat.zero_le _⟩ dX9_near_8 rfl ?_
  refine g_iload_n 2 dX9_near_11 rfl rfl ?_
  refine g_aload_n 0 dX9_near_12 rfl rfl ?_
  refine gN_getR (d + 1) flX9_10 (fun _ _ _ => rfl) 0 (hD.t) (hD.r0) dX9_near_13 ?_
  refine gN_getR (d + 1 + 10) flX9_176 (fun _ _ _ => rfl) 0 (hD.s.t) (hD.s.r5) dX9_near_16 ?_
  refine gN_getI flX9_207 rfl 0 (hD.s.t10) dX9_near_19 ?_
  refine g_ei (nI (nv (z 1))) (hR.c1.trans hz.n1.e) ?_
  refine gd_callS _ _ _ _ (cn_X9_checkNumber g (0, 0) (j := r) (N := nv (z 1)) (by omega) (by omega)) ⟨rfl, rfl⟩ (ok_X9_checkNumber _) mlX9_30 st_X9_checkNumber rfl ⟨Nat.le_of_ble_eq_true rfl, Nat.le_of_ble_eq_true rfl⟩ (by exact Nat.le_of_ble_eq_true rfl) ⟨Nat.zero_le _, Nat.zero_le _⟩ dX9_near_22 rfl ?_
  refine g_iload_n 3 dX9_near_25 rfl rfl ?_
  refine gN_iconst 0 dX9_near_26 (by decide) ?_
  refine gN_iconst 2 dX9_near_27 (by decide) ?_
  exact gx_callS _ _ (cx_X9_checkRange g (0, 0) (fun q => h ((in_inb (n := 2) (by decide)).mp q))) (ok_X9_checkRange _) mlX9_34 st_X9_checkRange rfl ⟨Nat.le_of_ble_eq_true rfl, Nat.le_of_ble_eq_true rfl⟩ (by exact Nat.le_of_ble_eq_true rfl) ⟨Nat.le_of_ble_eq_true rfl, Nat.le_of_ble_eq_true rfl⟩ dX9_near_28 rfl (fun n hn => ⟨rfl, n, hn, rfl⟩)
set_option maxRecDepth 100000 in
theorem cn_X9_firstError (g : Gp) (cs : Nat × Nat) {m : Mm} {d kb : Nat} {f : Nat → Int32} (hD : DkT m d) (hl : im m (d + 332) 1 = nI kb) (hk6 : kb ≤ 60) (hf : ∀ e, e < kb → im m (d + 333) e = f e) : Dn g (MX9_firstError cs) [.ref d] m (some (.int (nI (plc f kb)))) m := by
  refine Cn.of pn_X9 (Nat.le_of_ble_eq_true rfl) rfl ?_
  refine g_aload_n 0 dX9_firstError_0 rfl rfl ?_
  refine gN_getR (d + 332) flX9_26 (fun _ _ _ => rfl) 0 (hD.t) (hD.r2) dX9_firstError_1 ?_
  refine gd_callV _ _ _ _ (cn_X1_firstFault g (0, 0) hD.tb hD.tc hD.rb hl hk6 hf) ⟨rfl, rfl⟩ (ok_X1_firstFault _) mlX9_144 in_X1_firstFault se_X1_firstFault 1 0 (hD.tb) rfl rfl rfl ⟨Nat.le_of_ble_eq_true rfl, Nat.le_of_ble_eq_true rfl⟩ (by exact Nat.le_of_ble_eq_true rfl) ⟨Nat.zero_le _, Nat.zero_le _⟩ dX9_firstError_4 rfl ?_
  refine g_iret rfl dX9_firstError_7 ⟨Nat.zero_le _, Nat.zero_le _⟩ ?_
  exact ⟨rfl, rfl⟩
