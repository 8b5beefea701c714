set_option maxRecDepth 100000 in
theorem lp_dg1 (g : Gp) (cs : Nat × Nat) {m : Mm} {a : Nat} (hM : MdOk m a) (h0 : NR (im m (a + 1) 0) 0 10) (hs : ∀ s, s < nv (im m (a + 1) 0) → RwOk (im m (a + 1)) (79 + 22 * s) 10) (hR : NR (im m (a + 1) 1) 0 30) (hrow : ∀ r, r < nv (im m (a + 1) 1) → NR (im m (a + 1) (299 + 13 * r)) 1 12) (hb : ∀ b, b < 5 → NR (im m (a + 1) (64 + 3 * b)) 0 100) (hp : PplOk (im m (a + 1))) (hm0 : 0 < nv (im m (a + 1) 1) → 0 < nv (im m (a + 1) 0)) {kb : Nat} (hk : im m a 5 = nI kb) (hk6 : kb ≤ 60) {Q : Rs → Mm → Prop} (h9 : Int64) (K : ∀ I, sc a (im m) I → G g (MX10_digest cs) Q 36 [(1, .int (nI (12))), (0, .ref (a))] [] (0, 0) (sJ (wI m I) a 15 (mxs h9 (fun w => cntV (im m (a + 1)) (im m a 3) w) (12)))) : ∀ d k : Nat, k + d = 12 → ∀ I, sc a (im m) I → G g (MX10_digest cs) Q 14 [(1, .int (nI (k))), (0, .ref (a))] [] (0, 0) (sJ (wI m I) a 15 (mxs h9 (fun w => cntV (im m (a + 1)) (im m a 3) w) k)) := by
  have hN2 := h0.hi
  have hR2 := hR.hi
  intro d
  induction d with
  | zero =>
    intro k hkd I hI
    obtain rfl : 12 = k := hkd.symm
    refine g_iload_n 1 dX10_digest_14 rfl rfl ?_
    refine gN_bipush 12 dX10_digest_15 (by decide) ?_
    refine gN_icmp_ge 36 dX10_digest_17 (by decide) (by first | omega | exact b01_lt _) (by first | omega | exact b01_lt _) (fun h_17 => ?_) (fun h_17 => ?_)
    · exact K I hI
    · exact absurd h_17 (by decide)
  | succ d ih =>
    intro k hkd I hI
    refine g_iload_n 1 dX10_digest_14 rfl rfl ?_
    refine gN_bipush 12 dX10_digest_15 (by decide) ?_
    refine gN_icmp_ge 36 dX10_digest_17 (by decide) (by first | omega | exact b01_lt _) (by first | omega | exact b01_lt _) (fun h_17 => ?_) (fun h_17 => ?_)
    · exfalso; omega
    · refine g_aload_n 0 dX10_digest_20 rfl rfl ?_
      refine g_aload_n 0 dX10_digest_21 rfl rfl ?_
      refine g_iload_n 1 dX10_digest_22 rfl rfl ?_
      refine gd_callV _ _ _ _ (cn_X10_counted g (0, 0) (m := sJ (wI m I) a 15 (mxs h9 (fun w => cntV (im m (a + 1)) (im m a 3) w) k)) hM (by rw [jz hI]; exact h0) (by rw [jz hI]; exact (fun s h => (hs s h).1)) (w := k) (by omega)) ⟨rfl, rfl⟩ (ok_X10_counted _) mlX10_182 in_X10_counted se_X10_counted 10 0 (hM.t) rfl rfl rfl ⟨Nat.le_of_ble_eq_true rfl, Nat.le_of_ble_eq_true rfl⟩ (by exact Nat.le_of_ble_eq_true rfl) ⟨Nat.zero_le _, Nat.zero_le _⟩ dX10_digest_23 rfl ?_
      rw [jz hI, show im (sJ (wI m I) a 15 (mxs h9 (fun w => cntV (im m (a + 1)) (im m a 3) w) k)) a 3 = im m a 3 from hI.at3]
      refine g_i2l dX10_digest_26 ?_
      refine gd_callV _ _ [.long (((fun w => cntV (im m (a + 1)) (im m a 3) w) k).toInt64)] [] (cn_X10_mix g (0, 0) (m := sJ (wI m I) a 15 (mxs h9 (fun w => cntV (im m (a + 1)) (im m a 3) w) k)) hM (((fun w => cntV (im m (a + 1)) (im m a 3) w) k).toInt64)) ⟨rfl, rfl⟩ (ok_X10_mix _) mlX10_235 in_X10_mix se_X10_mix 10 0 (hM.t) rfl rfl rfl ⟨Nat.le_of_ble_eq_true rfl, Nat.le_of_ble_eq_true rfl⟩ (by exact Nat.le_of_ble_eq_true rfl) ⟨Nat.zero_le _, Nat.zero_le _⟩ dX10_digest_27 rfl ?_
      refine g_mem (m1 := sJ (wI m I) a 15 (mxs h9 (fun w => cntV (im m (a + 1)) (im m a 3) w) (k + 1))) (mxm _ _ _ _) ?_
      refine g_iinc 1 (nI (k + 1)) 0 [(1, .int (nI (k + 1))), (0, .ref (a))] dX10_digest_30 rfl (nI_add k 1) (Nat.le_of_ble_eq_true rfl) rfl ?_
      refine g_goto 14 dX10_digest_33 (by decide) ?_
      refine g_pick [0, 1] rfl ?_
      exact ih (k + 1) (by omega) I hI
set_option maxRecDepth 100000 in
theorem lp_dg2 (g : Gp) (cs : Nat × Nat) {m : Mm} {a : Nat} (hM : MdOk m a) (h0 : NR (im m (a + 1) 0) 0 10) (hs : ∀ s, s < nv (im m (a + 1) 0) → RwOk (im m (a + 1)) (79 + 22 * s) 10) (hR : NR (im m (a + 1) 1) 0 30) (hrow : ∀ r, r < nv (im m (a + 1) 1) → NR (im m (a + 1) (299 + 13 * r)) 1 12) (hb : ∀ b, b < 5 → NR (im m (a + 1) (64 + 3 * b)) 0 100) (hp : PplOk (im m (a + 1))) (hm0 : 0 < nv (im m (a + 1) 1) → 0 < nv (im m (a + 1) 0)) {kb : Nat} (hk : im m a 5 = nI kb) (hk6 : kb ≤ 60) {Q : Rs → Mm → Prop} (h9 : Int64) (K : ∀ I, sc a (im m) I → G g (MX10_digest cs) Q 89 [(1, .int (nI (28))), (0, .ref (a))] [] (0, 0) (sJ (wI m I) a 15 (mxs h9 (fun k => perV (im m (a + 1)) (k / 7) (k % 7)) (28)))) : ∀ d k : Nat, k + d = 28 → ∀ I, sc a (im m) I → G g (MX10_digest cs) Q 60 [(1, .int (nI (k))), (0, .ref (a))] [] (0, 0) (sJ (wI m I) a 15 (mxs h9 (fun k => perV (im m (a + 1)) (k / 7) (k % 7)) k)) := by
  have hN2 := h0.hi
  have hR2 := hR.hi
  intro d
  induction d with
  | zero =>
    intro k hkd I hI
    obtain rfl : 28 = k := hkd.symm
    refine g_iload_n 1 dX10_digest_60 rfl rfl ?_
    refine gN_bipush 28 dX10_digest_61 (by decide) ?_
    refine gN_icmp_ge 89 dX10_digest_63 (by decide) (by first | omega | exact b01_lt _) (by first | omega | exact b01_lt _) (fun h_63 => ?_) (fun h_63 => ?_)
    · exact K I hI
    · exact absurd h_63 (by decide)
  | succ d ih =>
    intro k hkd I hI
    refine g_iload_n 1 dX10_digest_60 rfl rfl ?_
    refine gN_bipush 28 dX10_digest_61 (by decide) ?_
    refine gN_icmp_ge 89 dX10_digest_63 (by decide) (by first | omega | exact b01_lt _) (by first | omega | exact b01_lt _) (fun h_63 => ?_) (fun h_63 => ?_)
    · exfalso; omega
    · refine g_aload_n 0 dX10_digest_66 rfl rfl ?_
      refine g_aload_n 0 dX10_digest_67 rfl rfl ?_
      refine g_iload_n 1 dX10_digest_68 rfl rfl ?_
      refine gN_bipush 7 dX10_digest_69 (by decide) ?_
      refine gN_idiv (k / 7) dX10_digest_71 (by first | omega | exact b01_lt _) (by first | omega | exact b01_lt _) (by first | omega | exact b01_lt _) rfl ?_
      refine g_iload_n 1 dX10_digest_72 rfl rfl ?_
      refine gN_bipush 7 dX10_digest_73 (by decide) ?_
      refine gN_irem (k % 7) dX10_digest_75 (by first | omega | exact b01_lt _) (by first | omega | exact b01_lt _) (by first | omega | exact b01_lt _) rfl ?_
      refine gd_callV _ _ _ _ (cn_X10_personOf g (0, 0) (m := sJ (wI m I) a 15 (mxs h9 (fun k => perV (im m (a + 1)) (k / 7) (k % 7)) k)) hM (by rw [jz hI]; exact h0) (by rw [jz hI]; exact (fun s h => (hs s h).1)) (p := k / 7) (by omega) (w := k % 7) (by omega)) ⟨rfl, rfl⟩ (ok_X10_personOf _) mlX10_160 in_X10_personOf se_X10_personOf 10 0 (hM.t) rfl rfl rfl ⟨Nat.le_of_ble_eq_true rfl, Nat.le_of_ble_eq_true rfl⟩ (by exact Nat.le_of_ble_eq_true rfl) ⟨Nat.zero_le _, Nat.zero_le _⟩ dX10_digest_76 rfl ?_
      rw [jz hI]
      refine g_i2l dX10_digest_79 ?_
      refine gd_callV _ _ [.long (((fun k => perV (im m (a + 1)) (k / 7) (k % 7)) k).toInt64)] [] (cn_X10_mix g (0, 0) (m := sJ (wI m I) a 15 (mxs h9 (fun k => perV (im m (a + 1)) (k / 7) (k % 7)) k)) hM (((fun k => perV (im m (a + 1)) (k / 7) (k % 7)) k).toInt64)) ⟨rfl, rfl⟩ (ok_X10_mix _) mlX10_235 in_X10_mix se_X10_mix 10 0 (hM.t) rfl rfl rfl ⟨Nat.le_of_ble_eq_true rfl, Nat.le_of_ble_eq_true rfl⟩ (by exact Nat.le_of_ble_eq_true rfl) ⟨Nat.zero_le _, Nat.zero_le _⟩ dX10_digest_80 rfl ?_
      refine g_mem (m1 := sJ (wI m I) a 15 (mxs h9 (fun k => perV (im m (a + 1)) (k / 7) (k % 7)) (k + 1))) (mxm _ _ _ _) ?_
      refine g_iinc 1 (nI (k + 1)) 0 [(1, .int (nI (k + 1))), (0, .ref (a))] dX10_digest_83 rfl (nI_add k 1) (Nat.le_of_ble_eq_true rfl) rfl ?_
      refine g_goto 60 dX10_digest_86 (by decide) ?_
      refine g_pick [0, 1] rfl ?_
      exact ih (k + 1) (by omega) I hI
set_option maxRecDepth 100000 in
theorem lp_dg3 (g : Gp) (cs : Nat × Nat) {m : Mm} {a : Nat} (hM : MdOk m a) (h0 : NR (im m (a + 1) 0) 0 10) (hs : ∀ s, s < nv (im m (a + 1) 0) → RwOk (im m (a + 1)) (79 + 22 * s) 10) (hR : NR (im m (a + 1) 1) 0 30) (hrow : ∀ r, r < nv (im m (a + 1) 1) → NR (im m (a + 1) (299 + 13 * r)) 1 12) (hb : ∀ b, b < 5 → NR (im m (a + 1) (64 + 3 * b)) 0 100) (hp : PplOk (im m (a + 1))) (hm0 : 0 < nv (im m (a + 1) 1) → 0 < nv (im m (a + 1) 0)) {kb : Nat} (hk : im m a 5 = nI kb) (hk6 : kb ≤ 60) {Q : Rs → Mm → Prop} (h9 : Int64) (K : ∀ I, sc a (im m) I → G g (MX10_digest cs) Q 120 [(1, .int (nI (64))), (0, .ref (a))] [] (0, 0) (sJ (wI m I) a 15 (mxs h9 (fun k => terV (im m (a + 1)) (k / 8) (k % 8)) (64)))) : ∀ d k : Nat, k + d = 64 → ∀ I, sc a (im m) I → G g (MX10_digest cs) Q 91 [(1, .int (nI (k))), (0, .ref (a))] [] (0, 0) (sJ (wI m I) a 15 (mxs h9 (fun k => terV (im m (a + 1)) (k / 8) (k % 8)) k)) := by
  have hN2 := h0.hi
  have hR2 := hR.hi
  intro d
  induction d with
  | zero =>
    intro k hkd I hI
    obtain rfl : 64 = k := hkd.symm
    refine g_iload_n 1 dX10_digest_91 rfl rfl ?_
    refine gN_bipush 64 dX10_digest_92 (by decide) ?_
    refine gN_icmp_ge 120 dX10_digest_94 (by decide) (by first | omega | exact b01_lt _) (by first | omega | exact b01_lt _) (fun h_94 => ?_) (fun h_94 => ?_)
    · exact K I hI
    · exact absurd h_94 (by decide)
  | succ d ih =>
    intro k hkd I hI
    refine g_iload_n 1 dX10_digest_91 rfl rfl ?_
    refine gN_bipush 64 dX10_digest_92 (by decide) ?_
    refine gN_icmp_ge 120 dX10_digest_94 (by decide) (by first | omega | exact b01_lt _) (by first | omega | exact b01_lt _) (fun h_94 => ?_) (fun h_94 => ?_)
    · exfalso; omega
    · refine g_aload_n 0 dX10_digest_97 rfl rfl ?_
      refine g_aload_n 0 dX10_digest_98 rfl rfl ?_
      refine g_iload_n 1 dX10_digest_99 rfl rfl ?_
      refine gN_bipush 8 dX10_digest_100 (by decide) ?_
      refine gN_idiv (k / 8) dX10_digest_102 (by first | omega | exact b01_lt _) (by first | omega | exact b01_lt _) (by first | omega | exact b01_lt _) rfl ?_
      refine g_iload_n 1 dX10_digest_103 rfl rfl ?_
      refine gN_bipush 8 dX10_digest_104 (by decide) ?_
      refine gN_irem (k % 8) dX10_digest_106 (by first | omega | exact b01_lt _) (by first | omega | exact b01_lt _) (by first | omega | exact b01_lt _) rfl ?_
      refine gd_callV _ _ _ _ (cn_X10_termOf g (0, 0) (m := sJ (wI m I) a 15 (mxs h9 (fun k => terV (im m (a + 1)) (k / 8) (k % 8)) k)) hM (by rw [jz hI]; exact h0) (by rw [jz hI]; exact (fun s h => (hs s h).1)) (v := k / 8) (by omega) (w := k % 8) (by omega)) ⟨rfl, rfl⟩ (ok_X10_termOf _) mlX10_166 in_X10_termOf se_X10_termOf 10 0 (hM.t) rfl rfl rfl ⟨Nat.le_of_ble_eq_true rfl, Nat.le_of_ble_eq_true rfl⟩ (by exact Nat.le_of_ble_eq_true rfl) ⟨Nat.zero_le _, Nat.zero_le _⟩ dX10_digest_107 rfl ?_
      rw [jz hI]
      refine g_i2l dX10_digest_110 ?_
      refine gd_callV _ _ [.long (((fun k => terV (im m (a + 1)) (k / 8) (k % 8)) k).toInt64)] [] (cn_X10_mix g (0, 0) (m := sJ (wI m I) a 15 (mxs h9 (fun k => terV (im m (a + 1)) (k / 8) (k % 8)) k)) hM (((fun k => terV (im m (a + 1)) (k / 8) (k % 8)) k).toInt64)) ⟨rfl, rfl⟩ (ok_X10_mix _) mlX10_235 in_X10_mix se_X10_mix 10 0 (hM.t) rfl rfl rfl ⟨Nat.le_of_ble_eq_true rfl, Nat.le_of_ble_eq_true rfl⟩ (by exact Nat.le_of_ble_eq_true rfl) ⟨Nat.zero_le _, Nat.zero_le _⟩ dX10_digest_111 rfl ?_
      refine g_mem (m1 := sJ (wI m I) a 15 (mxs h9 (fun k => terV (im m (a + 1)) (k / 8) (k % 8)) (k + 1))) (mxm _ _ _ _) ?_
      refine g_iinc 1 (nI (k + 1)) 0 [(1, .int (nI (k + 1))), (0, .ref (a))] dX10_digest_114 rfl (nI_add k 1) (Nat.le_of_ble_eq_true rfl) rfl ?_
      refine g_goto 91 dX10_digest_117 (by decide) ?_
      refine g_pick [0, 1] rfl ?_
      exact ih (k + 1) (by omega) I hI
set_option maxRecDepth 100000 in
theorem lp_dg4 (g : Gp) (cs : Nat × Nat) {m : Mm} {a : Nat} (hM : MdOk m a) (h0 : NR (im m (a + 1) 0) 0 10) (hs : ∀ s, s < nv (im m (a + 1) 0) → RwOk (im m (a + 1)) (79 + 22 * s) 10) (hR : NR (im m (a + 1) 1) 0 30) (hrow : ∀ r, r < nv (im m (a + 1) 1) → NR (im m (a + 1) (299 + 13 * r)) 1 12) (hb : ∀ b, b < 5 → NR (im m (a + 1) (64 + 3 * b)) 0 100) (hp : PplOk (im m (a + 1))) (hm0 : 0 < nv (im m (a + 1) 1) → 0 < nv (im m (a + 1) 0)) {kb : Nat} (hk : im m a 5 = nI kb) (hk6 : kb ≤ 60) {Q : Rs → Mm → Prop} (h9 : Int64) (K : ∀ I, sc a (im m) I → G g (MX10_digest cs) Q 148 [(1, .int (nI (15))), (0, .ref (a))] [] (0, 0) (sJ (wI m I) a 15 (mxs h9 (fun k => (im m (a + 1)) (64 + k)) (15)))) : ∀ d k : Nat, k + d = 15 → ∀ I, sc a (im m) I → G g (MX10_digest cs) Q 122 [(1, .int (nI (k))), (0, .ref (a))] [] (0, 0) (sJ (wI m I) a 15 (mxs h9 (fun k => (im m (a + 1)) (64 + k)) k)) := by
  have hN2 := h0.hi
  have hR2 := hR.hi
  intro d
  induction d with
  | zero =>
    intro k hkd I hI
    obtain rfl : 15 = k := hkd.symm
    refine g_iload_n 1 dX10_digest_122 rfl rfl ?_
    refine gN_bipush 15 dX10_digest_123 (by decide) ?_
    refine gN_icmp_ge 148 dX10_digest_125 (by decide) (by first | omega | exact b01_lt _) (by first | omega | exact b01_lt _) (fun h_125 => ?_) (fun h_125 => ?_)
    · exact K I hI
    · exact absurd h_125 (by decide)
  | succ d ih =>
    intro k hkd I hI
    refine g_iload_n 1 dX10_digest_122 rfl rfl ?_
    refine gN_bipush 15 dX10_digest_123 (by decide) ?_
    refine gN_icmp_ge 148 dX10_digest_125 (by decide) (by first | omega | exact b01_lt _) (by first | omega | exact b01_lt _) (fun h_125 => ?_) (fun h_125 => ?_)
    · exfalso; omega
    · refine g_aload_n 0 dX10_digest_128 rfl rfl ?_
      refine g_aload_n 0 dX10_digest_129 rfl rfl ?_
      refine gN_getR (a + 1) flX10_7 (fun _ _ _ => rfl) 0 (hM.t) (hM.r0) dX10_digest_130 ?_
      refine gN_bipush 64 dX10_digest_133 (by decide) ?_
      refine g_iload_n 1 dX10_digest_135 rfl rfl ?_
      refine gN_iadd (64 + k) dX10_digest_136 rfl ?_
      refine gN_iald 689 (hM.t1) (by first | omega | exact b01_lt _) (by first | omega | exact b01_lt _) dX10_digest_137 ?_
      refine g_eI (im m (a + 1) (64 + k)) (hI.zz _) ?_
      refine g_i2l dX10_digest_138 ?_
      refine gd_callV _ _ [.long (((fun k => (im m (a + 1)) (64 + k)) k).toInt64)] [] (cn_X10_mix g (0, 0) (m := sJ (wI m I) a 15 (mxs h9 (fun k => (im m (a + 1)) (64 + k)) k)) hM (((fun k => (im m (a + 1)) (64 + k)) k).toInt64)) ⟨rfl, rfl⟩ (ok_X10_mix _) mlX10_235 in_X10_mix se_X10_mix 10 0 (hM.t) rfl rfl rfl ⟨Nat.le_of_ble_eq_true rfl, Nat.le_of_ble_eq_true rfl⟩ (by exact Nat.le_of_ble_eq_true rfl) ⟨Nat.zero_le _, Nat.zero_le _⟩ dX10_digest_139 rfl ?_
      refine g_mem (m1 := sJ (wI m I) a 15 (mxs h9 (fun k => (im m (a + 1)) (64 + k)) (k + 1))) (mxm _ _ _ _) ?_
      refine g_iinc 1 (nI (k + 1)) 0 [(1, .int (nI (k + 1))), (0, .ref (a))] dX10_digest_142 rfl (nI_add k 1) (Nat.le_of_ble_eq_true rfl) rfl ?_
      refine g_goto 122 dX10_digest_145 (by decide) ?_
      refine g_pick [0, 1] rfl ?_
      exact ih (k + 1) (by omega) I hI
set_option maxRecDepth 100000 in
theorem lp_dg7 (g : Gp) (cs : Nat × Nat) {m : Mm} {a : Nat} (hM : MdOk m a) (h0 : NR (im m (a + 1) 0) 0 10) (hs : ∀ s, s < nv (im m (a + 1) 0) → RwOk (im m (a + 1)) (79 + 22 * s) 10) (hR : NR (im m (a + 1) 1) 0 30) (hrow : ∀ r, r < nv (im m (a + 1) 1) → NR (im m (a + 1) (299 + 13 * r)) 1 12) (hb : ∀ b, b < 5 → NR (im m (a + 1) (64 + 3 * b)) 0 100) (hp : PplOk (im m (a + 1))) (hm0 : 0 < nv (im m (a + 1) 1) → 0 < nv (im m (a + 1) 0)) {kb : Nat} (hk : im m a 5 = nI kb) (hk6 : kb ≤ 60) {Q : Rs → Mm → Prop} (h9 : Int64) (K : ∀ I, sc a (im m) I → G g (MX10_digest cs) Q 250 [(1, .int (nI (kb))), (0, .ref (a))] [] (0, 0) (sJ (wI m I) a 15 (mxs h9 (fun k => im m (a + 4) k) (kb)))) : ∀ d k : Nat, k + d = kb → ∀ I, sc a (im m) I → G g (MX10_digest cs) Q 225 [(1, .int (nI (k))), (0, .ref (a))] [] (0, 0) (sJ (wI m I) a 15 (mxs h9 (fun k => im m (a + 4) k) k)) := by
  have hN2 := h0.hi
  have hR2 := hR.hi
  intro d
  induction d with
  | zero =>
    intro k hkd I hI
    obtain rfl : kb = k := hkd.symm
    refine g_iload_n 1 dX10_digest_225 rfl rfl ?_
    refine g_aload_n 0 dX10_digest_226 rfl rfl ?_
    refine gN_getI flX10_125 rfl 0 (hM.t) dX10_digest_227 ?_
    refine g_ei (nI (kb)) (hI.at5.trans hk) ?_
    refine gN_icmp_ge 250 dX10_digest_230 (by decide) (by first | omega | exact b01_lt _) (by first | omega | exact b01_lt _) (fun h_230 => ?_) (fun h_230 => ?_)
    · exact K I hI
    · exfalso; omega
  | succ d ih =>
    intro k hkd I hI
    refine g_iload_n 1 dX10_digest_225 rfl rfl ?_
    refine g_aload_n 0 dX10_digest_226 rfl rfl ?_
    refine gN_getI flX10_125 rfl 0 (hM.t) dX10_digest_227 ?_
    refine g_ei (nI (kb)) (hI.at5.trans hk) ?_
    refine gN_icmp_ge 250 dX10_digest_230 (by decide) (by first | omega | exact b01_lt _) (by first | omega | exact b01_lt _) (fun h_230 => ?_) (fun h_230 => ?_)
    · exfalso; omega
    · refine g_aload_n 0 dX10_digest_233 rfl rfl ?_
      refine g_aload_n 0 dX10_digest_234 rfl rfl ?_
      refine gN_getR (a + 4) flX10_19 (fun _ _ _ => rfl) 0 (hM.t) (hM.r4) dX10_digest_235 ?_
      refine g_iload_n 1 dX10_digest_238 rfl rfl ?_
      refine gN_iald 60 (hM.t4) (by first | omega | exact b01_lt _) (by first | omega | exact b01_lt _) dX10_digest_239 ?_
      refine g_eI (im m (a + 4) k) (congrFun hI.b4 k) ?_
      refine g_i2l dX10_digest_240 ?_
      refine gd_callV _ _ [.long (((fun k => im m (a + 4) k) k).toInt64)] [] (cn_X10_mix g (0, 0) (m := sJ (wI m I) a 15 (mxs h9 (fun k => im m (a + 4) k) k)) hM (((fun k => im m (a + 4) k) k).toInt64)) ⟨rfl, rfl⟩ (ok_X10_mix _) mlX10_235 in_X10_mix se_X10_mix 10 0 (hM.t) rfl rfl rfl ⟨Nat.le_of_ble_eq_true rfl, Nat.le_of_ble_eq_true rfl⟩ (by exact Nat.le_of_ble_eq_true rfl) ⟨Nat.zero_le _, Nat.zero_le _⟩ dX10_digest_241 rfl ?_
      refine g_mem (m1 := sJ (wI m I) a 15 (mxs h9 (fun k => im m (a + 4) k) (k + 1))) (mxm _ _ _ _) ?_
      refine g_iinc 1 (nI (k + 1)) 0 [(1, .int (nI (k + 1))), (0, .ref (a))] dX10_digest_244 rfl (nI_add k 1) (Nat.le_of_ble_eq_true rfl) rfl ?_
      refine g_goto 225 dX10_digest_247 (by decide) ?_
      refine g_pick [0, 1] rfl ?_
      exact ih (k + 1) (by omega) I hI
theorem mxs_0 (h : Int64) (f : Nat → Int32) : mxs h f 0 = h := rfl
theorem sJsJ (m : Mm) (I J : Nat → Nat → Int32) (a : Nat) (h h' : Int64) : sJ (wI (sJ (wI m I) a 15 h) J) a 15 h' = sJ (wI m J) a 15 h' := by
  show (fz m, tg m, J, rf m, u2 (u2 (jm m) a 15 h) a 15 h') = (fz m, tg m, J, rf m, u2 (jm m) a 15 h')
  rw [u2_uu]
set_option maxRecDepth 100000 in
theorem lp_dg5 (g : Gp) (cs : Nat × Nat) {m : Mm} {a : Nat} (hM : MdOk m a) (h0 : NR (im m (a + 1) 0) 0 10) (hs : ∀ s, s < nv (im m (a + 1) 0) → RwOk (im m (a + 1)) (79 + 22 * s) 10) (hR : NR (im m (a + 1) 1) 0 30) (hrow : ∀ r, r < nv (im m (a + 1) 1) → NR (im m (a + 1) (299 + 13 * r)) 1 12) (hb : ∀ b, b < 5 → NR (im m (a + 1) (64 + 3 * b)) 0 100) (hp : PplOk (im m (a + 1))) (hm0 : 0 < nv (im m (a + 1) 1) → 0 < nv (im m (a + 1) 0)) {kb : Nat} (hk : im m a 5 = nI kb) (hk6 : kb ≤ 60) {Q : Rs → Mm → Prop} (h9 : Int64) (K : ∀ I, sc a (im m) I → G g (MX10_digest cs) Q 171 [(1, .int (nI (nv (im m (a + 1) 0)))), (0, .ref (a))] [] (0, 0) (sJ (wI m I) a 15 (msF (im m (a + 1)) h9 (nv (im m (a + 1) 0))))) : ∀ d k : Nat, k + d = nv (im m (a + 1) 0) → ∀ I, sc a (im m) I → G g (MX10_digest cs) Q 150 [(1, .int (nI (k))), (0, .ref (a))] [] (0, 0) (sJ (wI m I) a 15 (msF (im m (a + 1)) h9 k)) := by
  have hN2 := h0.hi
  have hR2 := hR.hi
  intro d
  induction d with
  | zero =>
    intro k hk_ I hI
    obtain rfl : k = nv (im m (a + 1) 0) := hk_
    refine g_iload_n 1 dX10_digest_150 rfl rfl ?_
    refine g_aload_n 0 dX10_digest_151 rfl rfl ?_
    refine gN_getR (a + 1) flX10_7 (fun _ _ _ => rfl) 0 (hM.t) (hM.r0) dX10_digest_152 ?_
    refine gN_iconst 0 dX10_digest_155 (by decide) ?_
    refine gN_iald 689 (hM.t1) (by first | omega | exact b01_lt _) (by first | omega | exact b01_lt _) dX10_digest_156 ?_
    refine g_ei (nI (nv (im m (a + 1) 0))) ((hI.zz _).trans h0.e) ?_
    refine gN_icmp_ge 171 dX10_digest_157 (by decide) (by first | omega | exact b01_lt _) (by first | omega | exact b01_lt _) (fun h_157 => ?_) (fun h_157 => ?_)
    · exact K I hI
    · exfalso; omega
  | succ d ih =>
    intro k hk_ I hI
    have hkn : k < nv (im m (a + 1) 0) := by omega
    refine g_iload_n 1 dX10_digest_150 rfl rfl ?_
    refine g_aload_n 0 dX10_digest_151 rfl rfl ?_
    refine gN_getR (a + 1) flX10_7 (fun _ _ _ => rfl) 0 (hM.t) (hM.r0) dX10_digest_152 ?_
    refine gN_iconst 0 dX10_digest_155 (by decide) ?_
    refine gN_iald 689 (hM.t1) (by first | omega | exact b01_lt _) (by first | omega | exact b01_lt _) dX10_digest_156 ?_
    refine g_ei (nI (nv (im m (a + 1) 0))) ((hI.zz _).trans h0.e) ?_
    refine gN_icmp_ge 171 dX10_digest_157 (by decide) (by first | omega | exact b01_lt _) (by first | omega | exact b01_lt _) (fun h_157 => ?_) (fun h_157 => ?_)
    · exfalso; omega
    · refine g_aload_n 0 dX10_digest_160 rfl rfl ?_
      refine g_iload_n 1 dX10_digest_161 rfl rfl ?_
      refine gj_callV _ _ _ (cn_X10_mixSegment g (0, 0) (m := sJ (wI m I) a 15 (msF (im m (a + 1)) h9 k)) hM (s := k) (by omega) (by rw [jz hI]; exact (hs k hkn)) (by rw [jz hI]; exact (hs 0 (by omega)).1) (by rw [jz hI]; exact hR) (by rw [jz hI]; exact hrow) (by rw [jz hI]; exact hb)) ⟨rfl, rfl⟩ (ok_X10_mixSegment _) mlX10_241 in_X10_mixSegment se_X10_mixSegment 10 0 (hM.t) rfl rfl rfl ⟨Nat.le_of_ble_eq_true rfl, Nat.le_of_ble_eq_true rfl⟩ (by exact Nat.le_of_ble_eq_true rfl) ⟨Nat.zero_le _, Nat.zero_le _⟩ dX10_digest_162 rfl (fun I1 hI1 => ?_)
      have hI2 := hI.tr hI1
      rw [jz hI, show jm (sJ (wI m I) a 15 (msF (im m (a + 1)) h9 k)) a 15 = msF (im m (a + 1)) h9 k from u2_s _ _ _ _]
      refine g_mem (m1 := sJ (wI m I1) a 15 (msF (im m (a + 1)) h9 (k + 1))) (sJsJ _ _ _ _ _ _) ?_
      refine g_iinc 1 (nI (k + 1)) 0 [(1, .int (nI (k + 1))), (0, .ref (a))] dX10_digest_165 rfl (nI_add k 1) (Nat.le_of_ble_eq_true rfl) rfl ?_
      refine g_goto 150 dX10_digest_168 (by decide) ?_
      refine g_pick [0, 1] rfl ?_
      exact ih (k + 1) (by omega) I1 hI2
set_option maxRecDepth 100000 in
theorem lp_dg6 (g : Gp) (cs : Nat × Nat) {m : Mm} {a : Nat} (hM : MdOk m a) (h0 : NR (im m (a + 1) 0) 0 10) (hs : ∀ s, s < nv (im m (a + 1) 0) → RwOk (im m (a + 1)) (79 + 22 * s) 10) (hR : NR (im m (a + 1) 1) 0 30) (hrow : ∀ r, r < nv (im m (a + 1) 1) → NR (im m (a + 1) (299 + 13 * r)) 1 12) (hb : ∀ b, b < 5 → NR (im m (a + 1) (64 + 3 * b)) 0 100) (hp : PplOk (im m (a + 1))) (hm0 : 0 < nv (im m (a + 1) 1) → 0 < nv (im m (a + 1) 0)) {kb : Nat} (hk : im m a 5 = nI kb) (hk6 : kb ≤ 60) {Q : Rs → Mm → Prop} (h9 : Int64) (K : ∀ I, sc a (im m) I → G g (MX10_digest cs) Q 194 [(1, .int (nI (nv (im m (a + 1) 1)))), (0, .ref (a))] [] (0, 0) (sJ (wI m I) a 15 (mrF (im m (a + 1)) h9 (nv (im m (a + 1) 1))))) : ∀ d k : Nat, k + d = nv (im m (a + 1) 1) → ∀ I, sc a (im m) I → G g (MX10_digest cs) Q 173 [(1, .int (nI (k))), (0, .ref (a))] [] (0, 0) (sJ (wI m I) a 15 (mrF (im m (a + 1)) h9 k)) := by
  have hN2 := h0.hi
  have hR2 := hR.hi
  intro d
  induction d with
  | zero =>
    intro k hk_ I hI
    obtain rfl : k = nv (im m (a + 1) 1) := hk_
    refine g_iload_n 1 dX10_digest_173 rfl rfl ?_
    refine g_aload_n 0 dX10_digest_174 rfl rfl ?_
    refine gN_getR (a + 1) flX10_7 (fun _ _ _ => rfl) 0 (hM.t) (hM.r0) dX10_digest_175 ?_
    refine gN_iconst 1 dX10_digest_178 (by decide) ?_
    refine gN_iald 689 (hM.t1) (by first | omega | exact b01_lt _) (by first | omega | exact b01_lt _) dX10_digest_179 ?_
    refine g_ei (nI (nv (im m (a + 1) 1))) ((hI.zz _).trans hR.e) ?_
    refine gN_icmp_ge 194 dX10_digest_180 (by decide) (by first | omega | exact b01_lt _) (by first | omega | exact b01_lt _) (fun h_180 => ?_) (fun h_180 => ?_)
    · exact K I hI
    · exfalso; omega
  | succ d ih =>
    intro k hk_ I hI
    have hkn : k < nv (im m (a + 1) 1) := by omega
    refine g_iload_n 1 dX10_digest_173 rfl rfl ?_
    refine g_aload_n 0 dX10_digest_174 rfl rfl ?_
    refine gN_getR (a + 1) flX10_7 (fun _ _ _ => rfl) 0 (hM.t) (hM.r0) dX10_digest_175 ?_
    refine gN_iconst 1 dX10_digest_178 (by decide) ?_
    refine gN_iald 689 (hM.t1) (by first | omega | exact b01_lt _) (by first | omega | exact b01_lt _) dX10_digest_179 ?_
    refine g_ei (nI (nv (im m (a + 1) 1))) ((hI.zz _).trans hR.e) ?_
    refine gN_icmp_ge 194 dX10_digest_180 (by decide) (by first | omega | exact b01_lt _) (by first | omega | exact b01_lt _) (fun h_180 => ?_) (fun h_180 => ?_)
    · exfalso; omega
    · refine g_aload_n 0 dX10_digest_183 rfl rfl ?_
      refine g_iload_n 1 dX10_digest_184 rfl rfl ?_
      refine gj_callV _ _ _ (cn_X10_mixRow g (0, 0) (m := sJ (wI m I) a 15 (mrF (im m (a + 1)) h9 k)) hM (r := k) (by rw [jz hI]; exact hkn) (by rw [jz hI]; exact (hs 0 (hm0 (by omega))).1) (by rw [jz hI]; exact hR) (by rw [jz hI]; exact hrow)) ⟨rfl, rfl⟩ (ok_X10_mixRow _) mlX10_244 in_X10_mixRow se_X10_mixRow 10 0 (hM.t) rfl rfl rfl ⟨Nat.le_of_ble_eq_true rfl, Nat.le_of_ble_eq_true rfl⟩ (by exact Nat.le_of_ble_eq_true rfl) ⟨Nat.zero_le _, Nat.zero_le _⟩ dX10_digest_185 rfl (fun I1 hI1 => ?_)
      have hI2 := hI.tr hI1
      rw [jz hI, show jm (sJ (wI m I) a 15 (mrF (im m (a + 1)) h9 k)) a 15 = mrF (im m (a + 1)) h9 k from u2_s _ _ _ _]
      refine g_mem (m1 := sJ (wI m I1) a 15 (mrF (im m (a + 1)) h9 (k + 1))) (sJsJ _ _ _ _ _ _) ?_
      refine g_iinc 1 (nI (k + 1)) 0 [(1, .int (nI (k + 1))), (0, .ref (a))] dX10_digest_188 rfl (nI_add k 1) (Nat.le_of_ble_eq_true rfl) rfl ?_
      refine g_goto 173 dX10_digest_191 (by decide) ?_
      refine g_pick [0, 1] rfl ?_
      exact ih (k + 1) (by omega) I1 hI2
set_option maxRecDepth 100000 in
theorem dg_s7 (g : Gp) (cs : Nat × Nat) {m : Mm} {a : Nat} (hM : MdOk m a) (h0 : NR (im m (a + 1) 0) 0 10) (hs : ∀ s, s < nv (im m (a + 1) 0) → RwOk (im m (a + 1)) (79 + 22 * s) 10) (hR : NR (im m (a + 1) 1) 0 30) (hrow : ∀ r, r < nv (im m (a + 1) 1) → NR (im m (a + 1) (299 + 13 * r)) 1 12) (hb : ∀ b, b < 5 → NR (im m (a + 1) (64 + 3 * b)) 0 100) (hp : PplOk (im m (a + 1))) (hm0 : 0 < nv (im m (a + 1) 1) → 0 < nv (im m (a + 1) 0)) {kb : Nat} (hk : im m a 5 = nI kb) (hk6 : kb ≤ 60) (I : Nat → Nat → Int32) (hI : sc a (im m) I) : G g (MX10_digest cs) (jQ m a (some (.long (digV (im m (a + 1)) (im m a 3) (im m (a + 4)) kb))) (digV (im m (a + 1)) (im m a 3) (im m (a + 4)) kb)) 225 [(1, .int (nI 0)), (0, .ref a)] [] (0, 0) (sJ (wI m I) a 15 (mx (mx (mx (dg3 (im m (a + 1)) (im m a 3)) (savV (im m (a + 1))).toInt64) (cstV (im m (a + 1))).toInt64) (nI kb).toInt64)) := by
  refine g_mem (m1 := sJ (wI m I) a 15 (mxs (mx (mx (mx (dg3 (im m (a + 1)) (im m a 3)) (savV (im m (a + 1))).toInt64) (cstV (im m (a + 1))).toInt64) (nI kb).toInt64) (fun k => im m (a + 4) k) 0)) (congrArg (sJ (wI m I) a 15) (mxs_0 (mx (mx (mx (dg3 (im m (a + 1)) (im m a 3)) (savV (im m (a + 1))).toInt64) (cstV (im m (a + 1))).toInt64) (nI kb).toInt64) (fun k => im m (a + 4) k)).symm) ?_
  refine lp_dg7 g cs hM h0 hs hR hrow hb hp hm0 hk hk6 (mx (mx (mx (dg3 (im m (a + 1)) (im m a 3)) (savV (im m (a + 1))).toInt64) (cstV (im m (a + 1))).toInt64) (nI kb).toInt64) (fun I hI => ?_) (kb) 0 (Nat.zero_add _) I hI
  refine g_aload_n 0 dX10_digest_250 rfl rfl ?_
  refine gN_getJ flX10_231 rfl 0 (hM.t) dX10_digest_251 ?_
  refine g_lret rfl dX10_digest_254 ⟨Nat.zero_le _, Nat.zero_le _⟩ ?_
  exact ⟨congrArg (fun x => (Sum.inl (some (Value.long x)) : Rs)) (u2_s _ _ _ _), I, rfl, hI⟩
set_option maxRecDepth 100000 in
theorem dg_s6b (g : Gp) (cs : Nat × Nat) {m : Mm} {a : Nat} (hM : MdOk m a) (h0 : NR (im m (a + 1) 0) 0 10) (hs : ∀ s, s < nv (im m (a + 1) 0) → RwOk (im m (a + 1)) (79 + 22 * s) 10) (hR : NR (im m (a + 1) 1) 0 30) (hrow : ∀ r, r < nv (im m (a + 1) 1) → NR (im m (a + 1) (299 + 13 * r)) 1 12) (hb : ∀ b, b < 5 → NR (im m (a + 1) (64 + 3 * b)) 0 100) (hp : PplOk (im m (a + 1))) (hm0 : 0 < nv (im m (a + 1) 1) → 0 < nv (im m (a + 1) 0)) {kb : Nat} (hk : im m a 5 = nI kb) (hk6 : kb ≤ 60) (I : Nat → Nat → Int32) (hI : sc a (im m) I) : G g (MX10_digest cs) (jQ m a (some (.long (digV (im m (a + 1)) (im m a 3) (im m (a + 4)) kb))) (digV (im m (a + 1)) (im m a 3) (im m (a + 4)) kb)) 194 [(1, .int (nI (nv (im m (a + 1) 1)))), (0, .ref a)] [] (0, 0) (sJ (wI m I) a 15 (dg3 (im m (a + 1)) (im m a 3))) := by
  refine g_aload_n 0 dX10_digest_194 rfl rfl ?_
  refine g_aload_n 0 dX10_digest_195 rfl rfl ?_
  refine ge_callV _ _ _ (cn_X10_savedOf g (0, 0) (m := sJ (wI m I) a 15 (dg3 (im m (a + 1)) (im m a 3))) hM (by rw [jz hI]; exact h0) (by rw [jz hI]; exact (fun s h => (hs s h).1)) (by rw [jz hI]; exact hR) (by rw [jz hI]; exact hrow) (by rw [jz hI]; exact hb)) ⟨rfl, rfl⟩ (ok_X10_savedOf _) mlX10_222 in_X10_savedOf se_X10_savedOf 10 0 (hM.t) rfl rfl rfl ⟨Nat.le_of_ble_eq_true rfl, Nat.le_of_ble_eq_true rfl⟩ (by exact Nat.le_of_ble_eq_true rfl) ⟨Nat.zero_le _, Nat.zero_le _⟩ dX10_digest_196 rfl (fun I1 hI1 => ?_)
  have hI2 := hI.tr hI1
  rw [jz hI]
  refine g_mem (m1 := sJ (wI m I1) a 15 (dg3 (im m (a + 1)) (im m a 3))) rfl ?_
  refine g_i2l dX10_digest_199 ?_
  refine gd_callV _ _ [.long ((savV (im m (a + 1))).toInt64)] [] (cn_X10_mix g (0, 0) (m := sJ (wI m I1) a 15 (dg3 (im m (a + 1)) (im m a 3))) hM ((savV (im m (a + 1))).toInt64)) ⟨rfl, rfl⟩ (ok_X10_mix _) mlX10_235 in_X10_mix se_X10_mix 10 0 (hM.t) rfl rfl rfl ⟨Nat.le_of_ble_eq_true rfl, Nat.le_of_ble_eq_true rfl⟩ (by exact Nat.le_of_ble_eq_true rfl) ⟨Nat.zero_le _, Nat.zero_le _⟩ dX10_digest_200 rfl ?_
  refine g_mem (m1 := sJ (wI m I1) a 15 (mx (dg3 (im m (a + 1)) (im m a 3)) (savV (im m (a + 1))).toInt64)) (mxm _ _ _ _) ?_
  refine g_aload_n 0 dX10_digest_203 rfl rfl ?_
  refine g_aload_n 0 dX10_digest_204 rfl rfl ?_
  refine gd_callV _ _ _ _ (cn_X10_costAll g (0, 0) (m := sJ (wI m I1) a 15 (mx (dg3 (im m (a + 1)) (im m a 3)) (savV (im m (a + 1))).toInt64)) hM (by rw [jz hI2]; exact hp)) ⟨rfl, rfl⟩ (ok_X10_costAll _) mlX10_225 in_X10_costAll se_X10_costAll 10 0 (hM.t) rfl rfl rfl ⟨Nat.le_of_ble_eq_true rfl, Nat.le_of_ble_eq_true rfl⟩ (by exact Nat.le_of_ble_eq_true rfl) ⟨Nat.zero_le _, Nat.zero_le _⟩ dX10_digest_205 rfl ?_
  rw [jz hI2]
  refine gd_callS _ _ _ _ (cn_Jxe99ae_doubleToLongBits_ccdee g (0, 0) (m := sJ (wI m I1) a 15 (mx (dg3 (im m (a + 1)) (im m a 3)) (savV (im m (a + 1))).toInt64)) (cst_ok hp)) ⟨rfl, rfl⟩ (ok_Jxe99ae_doubleToLongBits_ccdee _) mlX10_247 st_Jxe99ae_doubleToLongBits_ccdee rfl ⟨Nat.le_of_ble_eq_true rfl, Nat.le_of_ble_eq_true rfl⟩ (by exact Nat.le_of_ble_eq_true rfl) ⟨Nat.zero_le _, Nat.zero_le _⟩ dX10_digest_208 rfl ?_
  refine gd_callV _ _ [.long ((cstV (im m (a + 1))).toInt64)] [] (cn_X10_mix g (0, 0) (m := sJ (wI m I1) a 15 (mx (dg3 (im m (a + 1)) (im m a 3)) (savV (im m (a + 1))).toInt64)) hM ((cstV (im m (a + 1))).toInt64)) ⟨rfl, rfl⟩ (ok_X10_mix _) mlX10_235 in_X10_mix se_X10_mix 10 0 (hM.t) rfl rfl rfl ⟨Nat.le_of_ble_eq_true rfl, Nat.le_of_ble_eq_true rfl⟩ (by exact Nat.le_of_ble_eq_true rfl) ⟨Nat.zero_le _, Nat.zero_le _⟩ dX10_digest_211 rfl ?_
  refine g_mem (m1 := sJ (wI m I1) a 15 (mx (mx (dg3 (im m (a + 1)) (im m a 3)) (savV (im m (a + 1))).toInt64) (cstV (im m (a + 1))).toInt64)) (mxm _ _ _ _) ?_
  refine g_aload_n 0 dX10_digest_214 rfl rfl ?_
  refine g_aload_n 0 dX10_digest_215 rfl rfl ?_
  refine gN_getI flX10_125 rfl 0 (hM.t) dX10_digest_216 ?_
  refine g_ei (nI (kb)) (hI2.at5.trans hk) ?_
  refine g_i2l dX10_digest_219 ?_
  refine gd_callV _ _ [.long ((nI kb).toInt64)] [] (cn_X10_mix g (0, 0) (m := sJ (wI m I1) a 15 (mx (mx (dg3 (im m (a + 1)) (im m a 3)) (savV (im m (a + 1))).toInt64) (cstV (im m (a + 1))).toInt64)) hM ((nI kb).toInt64)) ⟨rfl, rfl⟩ (ok_X10_mix _) mlX10_235 in_X10_mix se_X10_mix 10 0 (hM.t) rfl rfl rfl ⟨Nat.le_of_ble_eq_true rfl, Nat.le_of_ble_eq_true rfl⟩ (by exact Nat.le_of_ble_eq_true rfl) ⟨Nat.zero_le _, Nat.zero_le _⟩ dX10_digest_220 rfl ?_
  refine g_mem (m1 := sJ (wI m I1) a 15 (mx (mx (mx (dg3 (im m (a + 1)) (im m a 3)) (savV (im m (a + 1))).toInt64) (cstV (im m (a + 1))).toInt64) (nI kb).toInt64)) (mxm _ _ _ _) ?_
  refine gN_iconst 0 dX10_digest_223 (by decide) ?_
  refine g_istore_n 1 [(1, .int (nI (0))), (0, .ref (a))] dX10_digest_224 rfl (Nat.le_of_ble_eq_true rfl) rfl ?_
  exact dg_s7 g cs hM h0 hs hR hrow hb hp hm0 hk hk6 I1 hI2
set_option maxRecDepth 100000 in
theorem dg_s6 (g : Gp) (cs : Nat × Nat) {m : Mm} {a : Nat} (hM : MdOk m a) (h0 : NR (im m (a + 1) 0) 0 10) (hs : ∀ s, s < nv (im m (a + 1) 0) → RwOk (im m (a + 1)) (79 + 22 * s) 10) (hR : NR (im m (a + 1) 1) 0 30) (hrow : ∀ r, r < nv (im m (a + 1) 1) → NR (im m (a + 1) (299 + 13 * r)) 1 12) (hb : ∀ b, b < 5 → NR (im m (a + 1) (64 + 3 * b)) 0 100) (hp : PplOk (im m (a + 1))) (hm0 : 0 < nv (im m (a + 1) 1) → 0 < nv (im m (a + 1) 0)) {kb : Nat} (hk : im m a 5 = nI kb) (hk6 : kb ≤ 60) (I : Nat → Nat → Int32) (hI : sc a (im m) I) : G g (MX10_digest cs) (jQ m a (some (.long (digV (im m (a + 1)) (im m a 3) (im m (a + 4)) kb))) (digV (im m (a + 1)) (im m a 3) (im m (a + 4)) kb)) 173 [(1, .int (nI 0)), (0, .ref a)] [] (0, 0) (sJ (wI m I) a 15 (msF (im m (a + 1)) (dg2 (im m (a + 1)) (im m a 3)) (nv (im m (a + 1) 0)))) := by
  refine g_mem (m1 := sJ (wI m I) a 15 (mrF (im m (a + 1)) (msF (im m (a + 1)) (dg2 (im m (a + 1)) (im m a 3)) (nv (im m (a + 1) 0))) 0)) rfl ?_
  refine lp_dg6 g cs hM h0 hs hR hrow hb hp hm0 hk hk6 (msF (im m (a + 1)) (dg2 (im m (a + 1)) (im m a 3)) (nv (im m (a + 1) 0))) (fun I hI => ?_) (nv (im m (a + 1) 1)) 0 (Nat.zero_add _) I hI
  refine g_mem (m1 := sJ (wI m I) a 15 (dg3 (im m (a + 1)) (im m a 3))) rfl ?_
  exact dg_s6b g cs hM h0 hs hR hrow hb hp hm0 hk hk6 I hI
set_option maxRecDepth 100000 in
theorem dg_s5 (g : Gp) (cs : Nat × Nat) {m : Mm} {a : Nat} (hM : MdOk m a) (h0 : NR (im m (a + 1) 0) 0 10) (hs : ∀ s, s < nv (im m (a + 1) 0) → RwOk (im m (a + 1)) (79 + 22 * s) 10) (hR : NR (im m (a + 1) 1) 0 30) (hrow : ∀ r, r < nv (im m (a + 1) 1) → NR (im m (a + 1) (299 + 13 * r)) 1 12) (hb : ∀ b, b < 5 → NR (im m (a + 1) (64 + 3 * b)) 0 100) (hp : PplOk (im m (a + 1))) (hm0 : 0 < nv (im m (a + 1) 1) → 0 < nv (im m (a + 1) 0)) {kb : Nat} (hk : im m a 5 = nI kb) (hk6 : kb ≤ 60) (I : Nat → Nat → Int32) (hI : sc a (im m) I) : G g (MX10_digest cs) (jQ m a (some (.long (digV (im m (a + 1)) (im m a 3) (im m (a + 4)) kb))) (digV (im m (a + 1)) (im m a 3) (im m (a + 4)) kb)) 150 [(1, .int (nI 0)), (0, .ref a)] [] (0, 0) (sJ (wI m I) a 15 (dg2 (im m (a + 1)) (im m a 3))) := by
  refine g_mem (m1 := sJ (wI m I) a 15 (msF (im m (a + 1)) (dg2 (im m (a + 1)) (im m a 3)) 0)) rfl ?_
  refine lp_dg5 g cs hM h0 hs hR hrow hb hp hm0 hk hk6 (dg2 (im m (a + 1)) (im m a 3)) (fun I hI => ?_) (nv (im m (a + 1) 0)) 0 (Nat.zero_add _) I hI
  refine gN_iconst 0 dX10_digest_171 (by decide) ?_
  refine g_istore_n 1 [(1, .int (nI (0))), (0, .ref (a))] dX10_digest_172 rfl (Nat.le_of_ble_eq_true rfl) rfl ?_
  exact dg_s6 g cs hM h0 hs hR hrow hb hp hm0 hk hk6 I hI
set_option maxRecDepth 100000 in
theorem dg_s4 (g : Gp) (cs : Nat × Nat) {m : Mm} {a : Nat} (hM : MdOk m a) (h0 : NR (im m (a + 1) 0) 0 10) (hs : ∀ s, s < nv (im m (a + 1) 0) → RwOk (im m (a + 1)) (79 + 22 * s) 10) (hR : NR (im m (a + 1) 1) 0 30) (hrow : ∀ r, r < nv (im m (a + 1) 1) → NR (im m (a + 1) (299 + 13 * r)) 1 12) (hb : ∀ b, b < 5 → NR (im m (a + 1) (64 + 3 * b)) 0 100) (hp : PplOk (im m (a + 1))) (hm0 : 0 < nv (im m (a + 1) 1) → 0 < nv (im m (a + 1) 0)) {kb : Nat} (hk : im m a 5 = nI kb) (hk6 : kb ≤ 60) (I : Nat → Nat → Int32) (hI : sc a (im m) I) : G g (MX10_digest cs) (jQ m a (some (.long (digV (im m (a + 1)) (im m a 3) (im m (a + 4)) kb))) (digV (im m (a + 1)) (im m a 3) (im m (a + 4)) kb)) 122 [(1, .int (nI 0)), (0, .ref a)] [] (0, 0) (sJ (wI m I) a 15 (mxs (mxs (dg1 (im m (a + 1)) (im m a 3)) (fun k => perV (im m (a + 1)) (k / 7) (k % 7)) 28) (fun k => terV (im m (a + 1)) (k / 8) (k % 8)) 64)) := by
  refine g_mem (m1 := sJ (wI m I) a 15 (mxs (mxs (mxs (dg1 (im m (a + 1)) (im m a 3)) (fun k => perV (im m (a + 1)) (k / 7) (k % 7)) 28) (fun k => terV (im m (a + 1)) (k / 8) (k % 8)) 64) (fun k => (im m (a + 1)) (64 + k)) 0)) (congrArg (sJ (wI m I) a 15) (mxs_0 (mxs (mxs (dg1 (im m (a + 1)) (im m a 3)) (fun k => perV (im m (a + 1)) (k / 7) (k % 7)) 28) (fun k => terV (im m (a + 1)) (k / 8) (k % 8)) 64) (fun k => (im m (a + 1)) (64 + k))).symm) ?_
  refine lp_dg4 g cs hM h0 hs hR hrow hb hp hm0 hk hk6 (mxs (mxs (dg1 (im m (a + 1)) (im m a 3)) (fun k => perV (im m (a + 1)) (k / 7) (k % 7)) 28) (fun k => terV (im m (a + 1)) (k / 8) (k % 8)) 64) (fun I hI => ?_) (15) 0 (Nat.zero_add _) I hI
  refine gN_iconst 0 dX10_digest_148 (by decide) ?_
  refine g_istore_n 1 [(1, .int (nI (0))), (0, .ref (a))] dX10_digest_149 rfl (Nat.le_of_ble_eq_true rfl) rfl ?_
  refine g_mem (m1 := sJ (wI m I) a 15 (dg2 (im m (a + 1)) (im m a 3))) rfl ?_
  exact dg_s5 g cs hM h0 hs hR hrow hb hp hm0 hk hk6 I hI
set_option maxRecDepth 100000 in
theorem dg_s3 (g : Gp) (cs : Nat × Nat) {m : Mm} {a : Nat} (hM : MdOk m a) (h0 : NR (im m (a + 1) 0) 0 10) (hs : ∀ s, s < nv (im m (a + 1) 0) → RwOk (im m (a + 1)) (79 + 22 * s) 10) (hR : NR (im m (a + 1) 1) 0 30) (hrow : ∀ r, r < nv (im m (a + 1) 1) → NR (im m (a + 1) (299 + 13 * r)) 1 12) (hb : ∀ b, b < 5 → NR (im m (a + 1) (64 + 3 * b)) 0 100) (hp : PplOk (im m (a + 1))) (hm0 : 0 < nv (im m (a + 1) 1) → 0 < nv (im m (a + 1) 0)) {kb : Nat} (hk : im m a 5 = nI kb) (hk6 : kb ≤ 60) (I : Nat → Nat → Int32) (hI : sc a (im m) I) : G g (MX10_digest cs) (jQ m a (some (.long (digV (im m (a + 1)) (im m a 3) (im m (a + 4)) kb))) (digV (im m (a + 1)) (im m a 3) (im m (a + 4)) kb)) 91 [(1, .int (nI 0)), (0, .ref a)] [] (0, 0) (sJ (wI m I) a 15 (mxs (dg1 (im m (a + 1)) (im m a 3)) (fun k => perV (im m (a + 1)) (k / 7) (k % 7)) 28)) := by
  refine g_mem (m1 := sJ (wI m I) a 15 (mxs (mxs (dg1 (im m (a + 1)) (im m a 3)) (fun k => perV (im m (a + 1)) (k / 7) (k % 7)) 28) (fun k => terV (im m (a + 1)) (k / 8) (k % 8)) 0)) (congrArg (sJ (wI m I) a 15) (mxs_0 (mxs (dg1 (im m (a + 1)) (im m a 3)) (fun k => perV (im m (a + 1)) (k / 7) (k % 7)) 28) (fun k => terV (im m (a + 1)) (k / 8) (k % 8))).symm) ?_
  refine lp_dg3 g cs hM h0 hs hR hrow hb hp hm0 hk hk6 (mxs (dg1 (im m (a + 1)) (im m a 3)) (fun k => perV (im m (a + 1)) (k / 7) (k % 7)) 28) (fun I hI => ?_) (64) 0 (Nat.zero_add _) I hI
  refine gN_iconst 0 dX10_digest_120 (by decide) ?_
  refine g_istore_n 1 [(1, .int (nI (0))), (0, .ref (a))] dX10_digest_121 rfl (Nat.le_of_ble_eq_true rfl) rfl ?_
  exact dg_s4 g cs hM h0 hs hR hrow hb hp hm0 hk hk6 I hI
set_option maxRecDepth 100000 in
theorem dg_s2 (g : Gp) (cs : Nat × Nat) {m : Mm} {a : Nat} (hM : MdOk m a) (h0 : NR (im m (a + 1) 0) 0 10) (hs : ∀ s, s < nv (im m (a + 1) 0) → RwOk (im m (a + 1)) (79 + 22 * s) 10) (hR : NR (im m (a + 1) 1) 0 30) (hrow : ∀ r, r < nv (im m (a + 1) 1) → NR (im m (a + 1) (299 + 13 * r)) 1 12) (hb : ∀ b, b < 5 → NR (im m (a + 1) (64 + 3 * b)) 0 100) (hp : PplOk (im m (a + 1))) (hm0 : 0 < nv (im m (a + 1) 1) → 0 < nv (im m (a + 1) 0)) {kb : Nat} (hk : im m a 5 = nI kb) (hk6 : kb ≤ 60) (I : Nat → Nat → Int32) (hI : sc a (im m) I) : G g (MX10_digest cs) (jQ m a (some (.long (digV (im m (a + 1)) (im m a 3) (im m (a + 4)) kb))) (digV (im m (a + 1)) (im m a 3) (im m (a + 4)) kb)) 60 [(1, .int (nI 0)), (0, .ref a)] [] (0, 0) (sJ (wI m I) a 15 (dg1 (im m (a + 1)) (im m a 3))) := by
  refine g_mem (m1 := sJ (wI m I) a 15 (mxs (dg1 (im m (a + 1)) (im m a 3)) (fun k => perV (im m (a + 1)) (k / 7) (k % 7)) 0)) (congrArg (sJ (wI m I) a 15) (mxs_0 (dg1 (im m (a + 1)) (im m a 3)) (fun k => perV (im m (a + 1)) (k / 7) (k % 7))).symm) ?_
  refine lp_dg2 g cs hM h0 hs hR hrow hb hp hm0 hk hk6 (dg1 (im m (a + 1)) (im m a 3)) (fun I hI => ?_) (28) 0 (Nat.zero_add _) I hI
  refine gN_iconst 0 dX10_digest_89 (by decide) ?_
  refine g_istore_n 1 [(1, .int (nI (0))), (0, .ref (a))] dX10_digest_90 rfl (Nat.le_of_ble_eq_true rfl) rfl ?_
  exact dg_s3 g cs hM h0 hs hR hrow hb hp hm0 hk hk6 I hI
set_option maxRecDepth 100000 in
theorem dg_s1 (g : Gp) (cs : Nat × Nat) {m : Mm} {a : Nat} (hM : MdOk m a) (h0 : NR (im m (a + 1) 0) 0 10) (hs : ∀ s, s < nv (im m (a + 1) 0) → RwOk (im m (a + 1)) (79 + 22 * s) 10) (hR : NR (im m (a + 1) 1) 0 30) (hrow : ∀ r, r < nv (im m (a + 1) 1) → NR (im m (a + 1) (299 + 13 * r)) 1 12) (hb : ∀ b, b < 5 → NR (im m (a + 1) (64 + 3 * b)) 0 100) (hp : PplOk (im m (a + 1))) (hm0 : 0 < nv (im m (a + 1) 1) → 0 < nv (im m (a + 1) 0)) {kb : Nat} (hk : im m a 5 = nI kb) (hk6 : kb ≤ 60) (I : Nat → Nat → Int32) (hI : sc a (im m) I) : G g (MX10_digest cs) (jQ m a (some (.long (digV (im m (a + 1)) (im m a 3) (im m (a + 4)) kb))) (digV (im m (a + 1)) (im m a 3) (im m (a + 4)) kb)) 14 [(1, .int (nI 0)), (0, .ref a)] [] (0, 0) (sJ (wI m I) a 15 (2531)) := by
  refine g_mem (m1 := sJ (wI m I) a 15 (mxs 2531 (fun w => cntV (im m (a + 1)) (im m a 3) w) 0)) (congrArg (sJ (wI m I) a 15) (mxs_0 2531 (fun w => cntV (im m (a + 1)) (im m a 3) w)).symm) ?_
  refine lp_dg1 g cs hM h0 hs hR hrow hb hp hm0 hk hk6 (2531) (fun I hI => ?_) (12) 0 (Nat.zero_add _) I hI
  refine g_aload_n 0 dX10_digest_36 rfl rfl ?_
  refine g_aload_n 0 dX10_digest_37 rfl rfl ?_
  refine gN_getR (a + 1) flX10_7 (fun _ _ _ => rfl) 0 (hM.t) (hM.r0) dX10_digest_38 ?_
  refine gN_iconst 2 dX10_digest_41 (by decide) ?_
  refine gN_iald 689 (hM.t1) (by first | omega | exact b01_lt _) (by first | omega | exact b01_lt _) dX10_digest_42 ?_
  refine g_eI (im m (a + 1) 2) (hI.zz _) ?_
  refine g_i2l dX10_digest_43 ?_
  refine gd_callV _ _ [.long ((im m (a + 1) 2).toInt64)] [] (cn_X10_mix g (0, 0) (m := sJ (wI m I) a 15 (mxs 2531 (fun w => cntV (im m (a + 1)) (im m a 3) w) 12)) hM ((im m (a + 1) 2).toInt64)) ⟨rfl, rfl⟩ (ok_X10_mix _) mlX10_235 in_X10_mix se_X10_mix 10 0 (hM.t) rfl rfl rfl ⟨Nat.le_of_ble_eq_true rfl, Nat.le_of_ble_eq_true rfl⟩ (by exact Nat.le_of_ble_eq_true rfl) ⟨Nat.zero_le _, Nat.zero_le _⟩ dX10_digest_44 rfl ?_
  refine g_mem (m1 := sJ (wI m I) a 15 (mx (mxs 2531 (fun w => cntV (im m (a + 1)) (im m a 3) w) 12) (im m (a + 1) 2).toInt64)) (mxm _ _ _ _) ?_
  refine g_aload_n 0 dX10_digest_47 rfl rfl ?_
  refine g_aload_n 0 dX10_digest_48 rfl rfl ?_
  refine gN_getR (a + 1) flX10_7 (fun _ _ _ => rfl) 0 (hM.t) (hM.r0) dX10_digest_49 ?_
  refine gN_iconst 3 dX10_digest_52 (by decide) ?_
  refine gN_iald 689 (hM.t1) (by first | omega | exact b01_lt _) (by first | omega | exact b01_lt _) dX10_digest_53 ?_
  refine g_eI (im m (a + 1) 3) (hI.zz _) ?_
  refine g_i2l dX10_digest_54 ?_
  refine gd_callV _ _ [.long ((im m (a + 1) 3).toInt64)] [] (cn_X10_mix g (0, 0) (m := sJ (wI m I) a 15 (mx (mxs 2531 (fun w => cntV (im m (a + 1)) (im m a 3) w) 12) (im m (a + 1) 2).toInt64)) hM ((im m (a + 1) 3).toInt64)) ⟨rfl, rfl⟩ (ok_X10_mix _) mlX10_235 in_X10_mix se_X10_mix 10 0 (hM.t) rfl rfl rfl ⟨Nat.le_of_ble_eq_true rfl, Nat.le_of_ble_eq_true rfl⟩ (by exact Nat.le_of_ble_eq_true rfl) ⟨Nat.zero_le _, Nat.zero_le _⟩ dX10_digest_55 rfl ?_
  refine g_mem (m1 := sJ (wI m I) a 15 (dg1 (im m (a + 1)) (im m a 3))) (mxm _ _ _ _) ?_
  refine gN_iconst 0 dX10_digest_58 (by decide) ?_
  refine g_istore_n 1 [(1, .int (nI (0))), (0, .ref (a))] dX10_digest_59 rfl (Nat.le_of_ble_eq_true rfl) rfl ?_
  exact dg_s2 g cs hM h0 hs hR hrow hb hp hm0 hk hk6 I hI
set_option maxRecDepth 100000 in
theorem cn_X10_digest (g : Gp) (cs : Nat × Nat) {m : Mm} {a : Nat} (hM : MdOk m a) (h0 : NR (im m (a + 1) 0) 0 10) (hs : ∀ s, s < nv (im m (a + 1) 0) → RwOk (im m (a + 1)) (79 + 22 * s) 10) (hR : NR (im m (a + 1) 1) 0 30) (hrow : ∀ r, r < nv (im m (a + 1) 1) → NR (im m (a + 1) (299 + 13 * r)) 1 12) (hb : ∀ b, b < 5 → NR (im m (a + 1) (64 + 3 * b)) 0 100) (hp : PplOk (im m (a + 1))) (hm0 : 0 < nv (im m (a + 1) 1) → 0 < nv (im m (a + 1) 0)) {kb : Nat} (hk : im m a 5 = nI kb) (hk6 : kb ≤ 60) : Cn g (MX10_digest cs) [.ref a] m (jQ (sI m a 6 (nI 0)) a (some (.long (digV (im m (a + 1)) (im m a 3) (im m (a + 4)) kb))) (digV (im m (a + 1)) (im m a 3) (im m (a + 4)) kb)) := by
  refine Cn.of pn_X10 (Nat.le_of_ble_eq_true rfl) rfl ?_
  refine g_aload_n 0 dX10_digest_0 rfl rfl ?_
  refine gN_iconst 0 dX10_digest_1 (by decide) ?_
  refine gN_putI fwX10_34 rfl 0 (hM.t) dX10_digest_2 ?_
  refine g_aload_n 0 dX10_digest_5 rfl rfl ?_
  refine g_ldc2 dX10_digest_6 kcX10_239 ?_
  refine gN_putJ fwX10_231 rfl 0 (hM.t) dX10_digest_9 ?_
  refine gN_iconst 0 dX10_digest_12 (by decide) ?_
  refine g_istore_n 1 [(1, .int (nI (0))), (0, .ref (a))] dX10_digest_13 rfl (Nat.le_of_ble_eq_true rfl) rfl ?_
  have K := dg_s1 g cs (m := sI m a 6 (nI 0)) hM (by rw [ze]; exact h0) (by rw [ze]; exact hs) (by rw [ze]; exact hR) (by rw [ze]; exact hrow) (by rw [ze]; exact hb) (by rw [ze]; exact hp) (by rw [ze]; exact hm0) (kb := kb) ((th_a m a 0 5 (by omega)).trans hk) hk6 _ sc.rf
  rw [ze, show im (sI m a 6 (nI 0)) a 3 = im m a 3 from th_a m a 0 3 (by omega), show im (sI m a 6 (nI 0)) (a + 4) = im m (a + 4) from u2_o _ _ _ _ (by omega)] at K
  exact K
