/-! DIGEST -/
def mx (h v : Int64) : Int64 := 31 * h + v
def mxs (h : Int64) (f : Nat → Int32) : Nat → Int64
  | 0 => h
  | k + 1 => mx (mxs h f k) (f k).toInt64
theorem mxm (m : Mm) (a : Nat) (h v : Int64) : sJ (sJ m a 15 h) a 15 (mx (jm (sJ m a 15 h) a 15) v) = sJ m a 15 (mx h v) := by
  rw [jm_sJ, u2_s]
  show (fz m, tg m, im m, rf m, u2 (u2 (jm m) a 15 h) a 15 (mx h v)) = (fz m, tg m, im m, rf m, u2 (jm m) a 15 (mx h v))
  rw [u2_uu]
theorem sJ_0 (m : Mm) (a : Nat) : sJ m a 15 (jm m a 15) = m := by
  show (fz m, tg m, im m, rf m, u2 (jm m) a 15 (jm m a 15)) = m
  have e : u2 (jm m) a 15 (jm m a 15) = jm m := by
    funext x y
    show (if x = a ∧ y = 15 then jm m a 15 else jm m x y) = jm m x y
    by_cases h : x = a ∧ y = 15
    · rw [if_pos h, h.1, h.2]
    · rw [if_neg h]
  rw [e]; rfl
theorem jz {m : Mm} {a : Nat} {I : Nat → Nat → Int32} {h : Int64} (hI : sc a (im m) I) : im (sJ (wI m I) a 15 h) (a + 1) = im m (a + 1) := hI.z
/-- the memory with the digest h so far, but for the model's notes -/
def Jn (g : Gp) (M : MI) (av : List Value) (m : Mm) (a : Nat) (v : Option Value) (h : Int64) : Prop := Cn g M av m (fun r m1 => r = .inl v ∧ ∃ I, m1 = sJ (wI m I) a 15 h ∧ sc a (im m) I)
abbrev jQ (m : Mm) (a : Nat) (v : Option Value) (h : Int64) : Rs → Mm → Prop := fun r m1 => r = .inl v ∧ ∃ I, m1 = sJ (wI m I) a 15 h ∧ sc a (im m) I
theorem gj_callV {g : Gp} {M : MI} {Q : Rs → Mm → Prop} {pc : Nat} {L : List (Nat × Value)} {st : List Value} {u : Nat × Nat} {m : Mm} {i n q a : Nat} {My : MI} {r : vw_C} {h : Int64} (v : Option Value) (av rest : List Value) (hC : Jn g My (.ref q :: av) m a v h) (hz : fm_z My) (hM : fm_M My n) (hlk : Cond.methodLink (mY M).cls i (mY My) ∈ wA) (hin : Cond.instanceMethod (mY My) ∈ wA) (hse : Cond.selects (mY My).cls (mY My) (mY My) ∈ wA) (κ ln : Nat) (ht : tg m q = (κ, ln)) (hr : vwCl[κ]? = some r) (hre : r.1 = (mY My).cls) (hn : av.length = n) (hfit : fm_fit M My) (hrest : (rest.map fun v => v.category).sum ≤ 8) (hu : u.1 ≤ (mR M).cells ∧ u.2 ≤ (mR M).slots) (hdg : decode (mC M) pc = .ok (.invokevirtual i, 3)) (hstk : st = av.reverse ++ .ref q :: rest) (k : ∀ I, sc a (im m) I → G g M Q (pc + 3) L (v.toList ++ rest) u (sJ (wI m I) a 15 h)) : G g M Q pc L st u m :=
  g_callV av rest hC hM hlk hin hse (by rw [ht]; exact hr) hre hn hfit hrest (g_b0 hz hu) hdg hstk (fun v' m' h => by obtain ⟨h1, J, h2, h3⟩ := h; cases h1; cases h2; exact g_u0 hz (k J h3)) (fun E m' h => by cases h.1)
noncomputable def msV (z : Nat → Int32) (h : Int64) (s : Nat) : Int64 :=
  mxs (mxs (mxs (mxs h (fun w => segV z s w) 12) (fun k => wrdV z (79 + 22 * s) k) (nv (z (79 + 22 * s)))) (fun t => payV z (79 + 22 * s) t (pctV z (79 + 22 * s))) 4) (fun t => comV z (79 + 22 * s) (79 + 22 * 0) t) 3
def mrV (z : Nat → Int32) (h : Int64) (r : Nat) : Int64 :=
  mxs (mxs h (fun k => z (299 + 13 * r + 1 + k)) (nv (z (299 + 13 * r)))) (fun w => nearV z (79 + 22 * 0) r w) 3
noncomputable def msF (z : Nat → Int32) (h : Int64) : Nat → Int64
  | 0 => h
  | s + 1 => msV z (msF z h s) s
def mrF (z : Nat → Int32) (h : Int64) : Nat → Int64
  | 0 => h
  | r + 1 => mrV z (mrF z h r) r
noncomputable def dg1 (z : Nat → Int32) (sv : Int32) : Int64 := mx (mx (mxs 2531 (fun w => cntV z sv w) 12) (z 2).toInt64) (z 3).toInt64
noncomputable def dg2 (z : Nat → Int32) (sv : Int32) : Int64 := mxs (mxs (mxs (dg1 z sv) (fun k => perV z (k / 7) (k % 7)) 28) (fun k => terV z (k / 8) (k % 8)) 64) (fun k => z (64 + k)) 15
noncomputable def dg3 (z : Nat → Int32) (sv : Int32) : Int64 := mrF z (msF z (dg2 z sv) (nv (z 0))) (nv (z 1))
noncomputable def digV (z : Nat → Int32) (sv : Int32) (f : Nat → Int32) (k : Nat) : Int64 := mxs (mx (mx (mx (dg3 z sv) (savV z).toInt64) (cstV z).toInt64) (nI k).toInt64) f k
set_option maxRecDepth 100000 in
theorem cn_X10_mix (g : Gp) (cs : Nat × Nat) {m : Mm} {a : Nat} (hM : MdOk m a) (v : Int64) : Dn g (MX10_mix cs) [.ref a, .long v] m none (sJ m a 15 (mx (jm m a 15) v)) := by
  refine Cn.of pn_X10 (Nat.le_of_ble_eq_true rfl) rfl ?_
  refine g_aload_n 0 dX10_mix_0 rfl rfl ?_
  refine g_ldc2 dX10_mix_1 kcX10_229 ?_
  refine g_aload_n 0 dX10_mix_4 rfl rfl ?_
  refine gN_getJ flX10_231 rfl 0 (hM.t) dX10_mix_5 ?_
  refine g_lmul dX10_mix_8 ?_
  refine g_lload_n 1 dX10_mix_9 rfl rfl ?_
  refine g_ladd dX10_mix_10 ?_
  refine gN_putJ fwX10_231 rfl 0 (hM.t) dX10_mix_11 ?_
  refine g_vret rfl dX10_mix_14 ⟨Nat.zero_le _, Nat.zero_le _⟩ ?_
  exact ⟨rfl, rfl⟩
set_option maxRecDepth 100000 in
theorem lp_ms1 (g : Gp) (cs : Nat × Nat) {m : Mm} {a : Nat} (hM : MdOk m a) {s : Nat} (hs : s < 10) (hr : RwOk (im m (a + 1)) (79 + 22 * s) 10) (hk0 : NR (im m (a + 1) (79 + 22 * 0)) 1 12) (hR : NR (im m (a + 1) 1) 0 30) (hrow : ∀ r, r < nv (im m (a + 1) 1) → NR (im m (a + 1) (299 + 13 * r)) 1 12) (hb : ∀ b, b < 5 → NR (im m (a + 1) (64 + 3 * b)) 0 100) {Q : Rs → Mm → Prop} (h0 : Int64) (K : ∀ I, sc a (im m) I → G g (MX10_mixSegment cs) Q 25 [(2, .int (nI (12))), (0, .ref (a)), (1, .int (nI (s)))] [] (0, 0) (sJ (wI m I) a 15 (mxs h0 (fun w => segV (im m (a + 1)) s w) (12)))) : ∀ d k : Nat, k + d = 12 → ∀ I, sc a (im m) I → G g (MX10_mixSegment cs) Q 2 [(2, .int (nI (k))), (0, .ref (a)), (1, .int (nI (s)))] [] (0, 0) (sJ (wI m I) a 15 (mxs h0 (fun w => segV (im m (a + 1)) s w) k)) := by
  intro d
  induction d with
  | zero =>
    intro k hk I hI
    obtain rfl : k = 12 := hk
    refine g_iload_n 2 dX10_mixSegment_2 rfl rfl ?_
    refine gN_bipush 12 dX10_mixSegment_3 (by decide) ?_
    refine gN_icmp_ge 25 dX10_mixSegment_5 (by decide) (by first | omega | exact b01_lt _) (by first | omega | exact b01_lt _) (fun h_5 => ?_) (fun h_5 => ?_)
    · exact K I hI
    · exact absurd h_5 (by decide)
  | succ d ih =>
    intro k hk I hI
    refine g_iload_n 2 dX10_mixSegment_2 rfl rfl ?_
    refine gN_bipush 12 dX10_mixSegment_3 (by decide) ?_
    refine gN_icmp_ge 25 dX10_mixSegment_5 (by decide) (by first | omega | exact b01_lt _) (by first | omega | exact b01_lt _) (fun h_5 => ?_) (fun h_5 => ?_)
    · exfalso; omega
    · refine g_aload_n 0 dX10_mixSegment_8 rfl rfl ?_
      refine g_aload_n 0 dX10_mixSegment_9 rfl rfl ?_
      refine g_iload_n 1 dX10_mixSegment_10 rfl rfl ?_
      refine g_iload_n 2 dX10_mixSegment_11 rfl rfl ?_
      refine ge_callV _ _ _ (cn_X10_segmentOf g (0, 0) (m := sJ (wI m I) a 15 (mxs h0 (fun w => segV (im m (a + 1)) s w) k)) hM hs (by rw [jz hI]; exact hr) (by rw [jz hI]; exact hR) (by rw [jz hI]; exact hrow) (w := k) (by omega)) ⟨rfl, rfl⟩ (ok_X10_segmentOf _) mlX10_148 in_X10_segmentOf se_X10_segmentOf 10 0 (hM.t) rfl rfl rfl ⟨Nat.le_of_ble_eq_true rfl, Nat.le_of_ble_eq_true rfl⟩ (by exact Nat.le_of_ble_eq_true rfl) ⟨Nat.zero_le _, Nat.zero_le _⟩ dX10_mixSegment_12 rfl (fun I1 hI1 => ?_)
      have hI2 := hI.tr hI1
      rw [jz hI]
      refine g_mem (m1 := sJ (wI m I1) a 15 (mxs (h0) (fun w => segV (im m (a + 1)) s w) k)) rfl ?_
      refine g_i2l dX10_mixSegment_15 ?_
      refine gd_callV _ _ [.long (((fun w => segV (im m (a + 1)) s w) k).toInt64)] [] (cn_X10_mix g (0, 0) (m := sJ (wI m I1) a 15 (mxs (h0) (fun w => segV (im m (a + 1)) s w) k)) hM (((fun w => segV (im m (a + 1)) s w) k).toInt64)) ⟨rfl, rfl⟩ (ok_X10_mix _) mlX10_235 in_X10_mix se_X10_mix 10 0 (hM.t) rfl rfl rfl ⟨Nat.le_of_ble_eq_true rfl, Nat.le_of_ble_eq_true rfl⟩ (by exact Nat.le_of_ble_eq_true rfl) ⟨Nat.zero_le _, Nat.zero_le _⟩ dX10_mixSegment_16 rfl ?_
      refine g_mem (m1 := sJ (wI m I1) a 15 (mxs (h0) (fun w => segV (im m (a + 1)) s w) (k + 1))) (mxm _ _ _ _) ?_
      refine g_iinc 2 (nI (k + 1)) 0 [(2, .int (nI (k + 1))), (0, .ref (a)), (1, .int (nI (s)))] dX10_mixSegment_19 rfl (nI_add k 1) (Nat.le_of_ble_eq_true rfl) rfl ?_
      refine g_goto 2 dX10_mixSegment_22 (by decide) ?_
      refine g_pick [0, 1, 2] rfl ?_
      exact ih (k + 1) (by omega) I1 hI2
set_option maxRecDepth 100000 in
theorem lp_ms2 (g : Gp) (cs : Nat × Nat) {m : Mm} {a : Nat} (hM : MdOk m a) {s : Nat} (hs : s < 10) (hr : RwOk (im m (a + 1)) (79 + 22 * s) 10) (hk0 : NR (im m (a + 1) (79 + 22 * 0)) 1 12) (hR : NR (im m (a + 1) 1) 0 30) (hrow : ∀ r, r < nv (im m (a + 1) 1) → NR (im m (a + 1) (299 + 13 * r)) 1 12) (hb : ∀ b, b < 5 → NR (im m (a + 1) (64 + 3 * b)) 0 100) {Q : Rs → Mm → Prop} (h0 : Int64) (K : ∀ I, sc a (im m) I → G g (MX10_mixSegment cs) Q 57 [(2, .int (nI (nv (im m (a + 1) (79 + 22 * s))))), (0, .ref (a)), (1, .int (nI (s)))] [] (0, 0) (sJ (wI m I) a 15 (mxs h0 (fun k => wrdV (im m (a + 1)) (79 + 22 * s) k) (nv (im m (a + 1) (79 + 22 * s)))))) : ∀ d k : Nat, k + d = nv (im m (a + 1) (79 + 22 * s)) → ∀ I, sc a (im m) I → G g (MX10_mixSegment cs) Q 27 [(2, .int (nI (k))), (0, .ref (a)), (1, .int (nI (s)))] [] (0, 0) (sJ (wI m I) a 15 (mxs h0 (fun k => wrdV (im m (a + 1)) (79 + 22 * s) k) k)) := by
  have hn2 := hr.1.hi
  intro d
  induction d with
  | zero =>
    intro k hk I hI
    obtain rfl : k = nv (im m (a + 1) (79 + 22 * s)) := hk
    refine g_iload_n 2 dX10_mixSegment_27 rfl rfl ?_
    refine g_aload_n 0 dX10_mixSegment_28 rfl rfl ?_
    refine gN_getR (a + 1) flX10_7 (fun _ _ _ => rfl) 0 (hM.t) (hM.r0) dX10_mixSegment_29 ?_
    refine g_iload_n 1 dX10_mixSegment_32 rfl rfl ?_
    refine gd_callS _ _ _ _ (cn_X10_at g (0, 0) _ s) ⟨rfl, rfl⟩ (ok_X10_at _) mlX10_45 st_X10_at rfl ⟨Nat.le_of_ble_eq_true rfl, Nat.le_of_ble_eq_true rfl⟩ (by exact Nat.le_of_ble_eq_true rfl) ⟨Nat.zero_le _, Nat.zero_le _⟩ dX10_mixSegment_33 rfl ?_
    refine gN_iald 689 (hM.t1) (by first | omega | exact b01_lt _) (by first | omega | exact b01_lt _) dX10_mixSegment_36 ?_
    refine g_ei (nI (nv (im m (a + 1) (79 + 22 * s)))) ((hI.zz _).trans hr.1.e) ?_
    refine gN_icmp_ge 57 dX10_mixSegment_37 (by decide) (by first | omega | exact b01_lt _) (by first | omega | exact b01_lt _) (fun h_37 => ?_) (fun h_37 => ?_)
    · exact K I hI
    · exfalso; omega
  | succ d ih =>
    intro k hk I hI
    refine g_iload_n 2 dX10_mixSegment_27 rfl rfl ?_
    refine g_aload_n 0 dX10_mixSegment_28 rfl rfl ?_
    refine gN_getR (a + 1) flX10_7 (fun _ _ _ => rfl) 0 (hM.t) (hM.r0) dX10_mixSegment_29 ?_
    refine g_iload_n 1 dX10_mixSegment_32 rfl rfl ?_
    refine gd_callS _ _ _ _ (cn_X10_at g (0, 0) _ s) ⟨rfl, rfl⟩ (ok_X10_at _) mlX10_45 st_X10_at rfl ⟨Nat.le_of_ble_eq_true rfl, Nat.le_of_ble_eq_true rfl⟩ (by exact Nat.le_of_ble_eq_true rfl) ⟨Nat.zero_le _, Nat.zero_le _⟩ dX10_mixSegment_33 rfl ?_
    refine gN_iald 689 (hM.t1) (by first | omega | exact b01_lt _) (by first | omega | exact b01_lt _) dX10_mixSegment_36 ?_
    refine g_ei (nI (nv (im m (a + 1) (79 + 22 * s)))) ((hI.zz _).trans hr.1.e) ?_
    refine gN_icmp_ge 57 dX10_mixSegment_37 (by decide) (by first | omega | exact b01_lt _) (by first | omega | exact b01_lt _) (fun h_37 => ?_) (fun h_37 => ?_)
    · exfalso; omega
    · refine g_aload_n 0 dX10_mixSegment_40 rfl rfl ?_
      refine g_aload_n 0 dX10_mixSegment_41 rfl rfl ?_
      refine g_iload_n 1 dX10_mixSegment_42 rfl rfl ?_
      refine g_iload_n 2 dX10_mixSegment_43 rfl rfl ?_
      refine gd_callV _ _ _ _ (cn_X10_wordOf g (0, 0) (m := sJ (wI m I) a 15 (mxs h0 (fun k => wrdV (im m (a + 1)) (79 + 22 * s) k) k)) hM hs (by rw [jz hI]; exact hr.1) (k := k) (by have := hr.1.hi; omega)) ⟨rfl, rfl⟩ (ok_X10_wordOf _) mlX10_151 in_X10_wordOf se_X10_wordOf 10 0 (hM.t) rfl rfl rfl ⟨Nat.le_of_ble_eq_true rfl, Nat.le_of_ble_eq_true rfl⟩ (by exact Nat.le_of_ble_eq_true rfl) ⟨Nat.zero_le _, Nat.zero_le _⟩ dX10_mixSegment_44 rfl ?_
      rw [jz hI]
      refine g_i2l dX10_mixSegment_47 ?_
      refine gd_callV _ _ [.long (((fun k => wrdV (im m (a + 1)) (79 + 22 * s) k) k).toInt64)] [] (cn_X10_mix g (0, 0) (m := sJ (wI m I) a 15 (mxs (h0) (fun k => wrdV (im m (a + 1)) (79 + 22 * s) k) k)) hM (((fun k => wrdV (im m (a + 1)) (79 + 22 * s) k) k).toInt64)) ⟨rfl, rfl⟩ (ok_X10_mix _) mlX10_235 in_X10_mix se_X10_mix 10 0 (hM.t) rfl rfl rfl ⟨Nat.le_of_ble_eq_true rfl, Nat.le_of_ble_eq_true rfl⟩ (by exact Nat.le_of_ble_eq_true rfl) ⟨Nat.zero_le _, Nat.zero_le _⟩ dX10_mixSegment_48 rfl ?_
      refine g_mem (m1 := sJ (wI m I) a 15 (mxs (h0) (fun k => wrdV (im m (a + 1)) (79 + 22 * s) k) (k + 1))) (mxm _ _ _ _) ?_
      refine g_iinc 2 (nI (k + 1)) 0 [(2, .int (nI (k + 1))), (0, .ref (a)), (1, .int (nI (s)))] dX10_mixSegment_51 rfl (nI_add k 1) (Nat.le_of_ble_eq_true rfl) rfl ?_
      refine g_goto 27 dX10_mixSegment_54 (by decide) ?_
      refine g_pick [0, 1, 2] rfl ?_
      exact ih (k + 1) (by omega) I hI
set_option maxRecDepth 100000 in
theorem lp_ms3 (g : Gp) (cs : Nat × Nat) {m : Mm} {a : Nat} (hM : MdOk m a) {s : Nat} (hs : s < 10) (hr : RwOk (im m (a + 1)) (79 + 22 * s) 10) (hk0 : NR (im m (a + 1) (79 + 22 * 0)) 1 12) (hR : NR (im m (a + 1) 1) 0 30) (hrow : ∀ r, r < nv (im m (a + 1) 1) → NR (im m (a + 1) (299 + 13 * r)) 1 12) (hb : ∀ b, b < 5 → NR (im m (a + 1) (64 + 3 * b)) 0 100) {Q : Rs → Mm → Prop} (h0 : Int64) (K : ∀ I, sc a (im m) I → G g (MX10_mixSegment cs) Q 81 [(2, .int (nI (4))), (0, .ref (a)), (1, .int (nI (s)))] [] (0, 0) (sJ (wI m I) a 15 (mxs h0 (fun t => payV (im m (a + 1)) (79 + 22 * s) t (pctV (im m (a + 1)) (79 + 22 * s))) (4)))) : ∀ d k : Nat, k + d = 4 → ∀ I, sc a (im m) I → G g (MX10_mixSegment cs) Q 59 [(2, .int (nI (k))), (0, .ref (a)), (1, .int (nI (s)))] [] (0, 0) (sJ (wI m I) a 15 (mxs h0 (fun t => payV (im m (a + 1)) (79 + 22 * s) t (pctV (im m (a + 1)) (79 + 22 * s))) k)) := by
  intro d
  induction d with
  | zero =>
    intro k hk I hI
    obtain rfl : k = 4 := hk
    refine g_iload_n 2 dX10_mixSegment_59 rfl rfl ?_
    refine gN_iconst 4 dX10_mixSegment_60 (by decide) ?_
    refine gN_icmp_ge 81 dX10_mixSegment_61 (by decide) (by first | omega | exact b01_lt _) (by first | omega | exact b01_lt _) (fun h_61 => ?_) (fun h_61 => ?_)
    · exact K I hI
    · exact absurd h_61 (by decide)
  | succ d ih =>
    intro k hk I hI
    refine g_iload_n 2 dX10_mixSegment_59 rfl rfl ?_
    refine gN_iconst 4 dX10_mixSegment_60 (by decide) ?_
    refine gN_icmp_ge 81 dX10_mixSegment_61 (by decide) (by first | omega | exact b01_lt _) (by first | omega | exact b01_lt _) (fun h_61 => ?_) (fun h_61 => ?_)
    · exfalso; omega
    · refine g_aload_n 0 dX10_mixSegment_64 rfl rfl ?_
      refine g_aload_n 0 dX10_mixSegment_65 rfl rfl ?_
      refine g_iload_n 1 dX10_mixSegment_66 rfl rfl ?_
      refine g_iload_n 2 dX10_mixSegment_67 rfl rfl ?_
      refine ge_callV _ _ _ (cn_X10_paidOf g (0, 0) (m := sJ (wI m I) a 15 (mxs h0 (fun t => payV (im m (a + 1)) (79 + 22 * s) t (pctV (im m (a + 1)) (79 + 22 * s))) k)) hM hs (by rw [jz hI]; exact hr) (by rw [jz hI]; exact hR) (by rw [jz hI]; exact hrow) (by rw [jz hI]; exact hb) (t := k) (by omega)) ⟨rfl, rfl⟩ (ok_X10_paidOf _) mlX10_210 in_X10_paidOf se_X10_paidOf 10 0 (hM.t) rfl rfl rfl ⟨Nat.le_of_ble_eq_true rfl, Nat.le_of_ble_eq_true rfl⟩ (by exact Nat.le_of_ble_eq_true rfl) ⟨Nat.zero_le _, Nat.zero_le _⟩ dX10_mixSegment_68 rfl (fun I1 hI1 => ?_)
      have hI2 := hI.tr hI1
      rw [jz hI]
      refine g_mem (m1 := sJ (wI m I1) a 15 (mxs (h0) (fun t => payV (im m (a + 1)) (79 + 22 * s) t (pctV (im m (a + 1)) (79 + 22 * s))) k)) rfl ?_
      refine g_i2l dX10_mixSegment_71 ?_
      refine gd_callV _ _ [.long (((fun t => payV (im m (a + 1)) (79 + 22 * s) t (pctV (im m (a + 1)) (79 + 22 * s))) k).toInt64)] [] (cn_X10_mix g (0, 0) (m := sJ (wI m I1) a 15 (mxs (h0) (fun t => payV (im m (a + 1)) (79 + 22 * s) t (pctV (im m (a + 1)) (79 + 22 * s))) k)) hM (((fun t => payV (im m (a + 1)) (79 + 22 * s) t (pctV (im m (a + 1)) (79 + 22 * s))) k).toInt64)) ⟨rfl, rfl⟩ (ok_X10_mix _) mlX10_235 in_X10_mix se_X10_mix 10 0 (hM.t) rfl rfl rfl ⟨Nat.le_of_ble_eq_true rfl, Nat.le_of_ble_eq_true rfl⟩ (by exact Nat.le_of_ble_eq_true rfl) ⟨Nat.zero_le _, Nat.zero_le _⟩ dX10_mixSegment_72 rfl ?_
      refine g_mem (m1 := sJ (wI m I1) a 15 (mxs (h0) (fun t => payV (im m (a + 1)) (79 + 22 * s) t (pctV (im m (a + 1)) (79 + 22 * s))) (k + 1))) (mxm _ _ _ _) ?_
      refine g_iinc 2 (nI (k + 1)) 0 [(2, .int (nI (k + 1))), (0, .ref (a)), (1, .int (nI (s)))] dX10_mixSegment_75 rfl (nI_add k 1) (Nat.le_of_ble_eq_true rfl) rfl ?_
      refine g_goto 59 dX10_mixSegment_78 (by decide) ?_
      refine g_pick [0, 1, 2] rfl ?_
      exact ih (k + 1) (by omega) I1 hI2
set_option maxRecDepth 100000 in
theorem lp_ms4 (g : Gp) (cs : Nat × Nat) {m : Mm} {a : Nat} (hM : MdOk m a) {s : Nat} (hs : s < 10) (hr : RwOk (im m (a + 1)) (79 + 22 * s) 10) (hk0 : NR (im m (a + 1) (79 + 22 * 0)) 1 12) (hR : NR (im m (a + 1) 1) 0 30) (hrow : ∀ r, r < nv (im m (a + 1) 1) → NR (im m (a + 1) (299 + 13 * r)) 1 12) (hb : ∀ b, b < 5 → NR (im m (a + 1) (64 + 3 * b)) 0 100) {Q : Rs → Mm → Prop} (h0 : Int64) (K : ∀ I, sc a (im m) I → G g (MX10_mixSegment cs) Q 106 [(2, .int (nI (3))), (0, .ref (a)), (1, .int (nI (s)))] [] (0, 0) (sJ (wI m I) a 15 (mxs h0 (fun t => comV (im m (a + 1)) (79 + 22 * s) (79 + 22 * 0) t) (3)))) : ∀ d k : Nat, k + d = 3 → ∀ I, sc a (im m) I → G g (MX10_mixSegment cs) Q 83 [(2, .int (nI (k))), (0, .ref (a)), (1, .int (nI (s)))] [] (0, 0) (sJ (wI m I) a 15 (mxs h0 (fun t => comV (im m (a + 1)) (79 + 22 * s) (79 + 22 * 0) t) k)) := by
  intro d
  induction d with
  | zero =>
    intro k hk I hI
    obtain rfl : k = 3 := hk
    refine g_iload_n 2 dX10_mixSegment_83 rfl rfl ?_
    refine gN_iconst 3 dX10_mixSegment_84 (by decide) ?_
    refine gN_icmp_ge 106 dX10_mixSegment_85 (by decide) (by first | omega | exact b01_lt _) (by first | omega | exact b01_lt _) (fun h_85 => ?_) (fun h_85 => ?_)
    · exact K I hI
    · exact absurd h_85 (by decide)
  | succ d ih =>
    intro k hk I hI
    refine g_iload_n 2 dX10_mixSegment_83 rfl rfl ?_
    refine gN_iconst 3 dX10_mixSegment_84 (by decide) ?_
    refine gN_icmp_ge 106 dX10_mixSegment_85 (by decide) (by first | omega | exact b01_lt _) (by first | omega | exact b01_lt _) (fun h_85 => ?_) (fun h_85 => ?_)
    · exfalso; omega
    · refine g_aload_n 0 dX10_mixSegment_88 rfl rfl ?_
      refine g_aload_n 0 dX10_mixSegment_89 rfl rfl ?_
      refine g_iload_n 1 dX10_mixSegment_90 rfl rfl ?_
      refine gN_iconst 0 dX10_mixSegment_91 (by decide) ?_
      refine g_iload_n 2 dX10_mixSegment_92 rfl rfl ?_
      refine ge_callV _ _ _ (cn_X10_commonOf g (0, 0) (m := sJ (wI m I) a 15 (mxs h0 (fun t => comV (im m (a + 1)) (79 + 22 * s) (79 + 22 * 0) t) k)) hM (s := s) (r := 0) hs (by decide) (by rw [jz hI]; exact hr) (by rw [jz hI]; exact hk0) k (by omega)) ⟨rfl, rfl⟩ (ok_X10_commonOf _) mlX10_204 in_X10_commonOf se_X10_commonOf 10 0 (hM.t) rfl rfl rfl ⟨Nat.le_of_ble_eq_true rfl, Nat.le_of_ble_eq_true rfl⟩ (by exact Nat.le_of_ble_eq_true rfl) ⟨Nat.zero_le _, Nat.zero_le _⟩ dX10_mixSegment_93 rfl (fun I1 hI1 => ?_)
      have hI2 := hI.tr hI1
      rw [jz hI]
      refine g_mem (m1 := sJ (wI m I1) a 15 (mxs (h0) (fun t => comV (im m (a + 1)) (79 + 22 * s) (79 + 22 * 0) t) k)) rfl ?_
      refine g_i2l dX10_mixSegment_96 ?_
      refine gd_callV _ _ [.long (((fun t => comV (im m (a + 1)) (79 + 22 * s) (79 + 22 * 0) t) k).toInt64)] [] (cn_X10_mix g (0, 0) (m := sJ (wI m I1) a 15 (mxs (h0) (fun t => comV (im m (a + 1)) (79 + 22 * s) (79 + 22 * 0) t) k)) hM (((fun t => comV (im m (a + 1)) (79 + 22 * s) (79 + 22 * 0) t) k).toInt64)) ⟨rfl, rfl⟩ (ok_X10_mix _) mlX10_235 in_X10_mix se_X10_mix 10 0 (hM.t) rfl rfl rfl ⟨Nat.le_of_ble_eq_true rfl, Nat.le_of_ble_eq_true rfl⟩ (by exact Nat.le_of_ble_eq_true rfl) ⟨Nat.zero_le _, Nat.zero_le _⟩ dX10_mixSegment_97 rfl ?_
      refine g_mem (m1 := sJ (wI m I1) a 15 (mxs (h0) (fun t => comV (im m (a + 1)) (79 + 22 * s) (79 + 22 * 0) t) (k + 1))) (mxm _ _ _ _) ?_
      refine g_iinc 2 (nI (k + 1)) 0 [(2, .int (nI (k + 1))), (0, .ref (a)), (1, .int (nI (s)))] dX10_mixSegment_100 rfl (nI_add k 1) (Nat.le_of_ble_eq_true rfl) rfl ?_
      refine g_goto 83 dX10_mixSegment_103 (by decide) ?_
      refine g_pick [0, 1, 2] rfl ?_
      exact ih (k + 1) (by omega) I1 hI2
set_option maxRecDepth 100000 in
theorem cn_X10_mixSegment (g : Gp) (cs : Nat × Nat) {m : Mm} {a : Nat} (hM : MdOk m a) {s : Nat} (hs : s < 10) (hr : RwOk (im m (a + 1)) (79 + 22 * s) 10) (hk0 : NR (im m (a + 1) (79 + 22 * 0)) 1 12) (hR : NR (im m (a + 1) 1) 0 30) (hrow : ∀ r, r < nv (im m (a + 1) 1) → NR (im m (a + 1) (299 + 13 * r)) 1 12) (hb : ∀ b, b < 5 → NR (im m (a + 1) (64 + 3 * b)) 0 100) : Jn g (MX10_mixSegment cs) [.ref a, .int (nI s)] m a none (msV (im m (a + 1)) (jm m a 15) s) := by
  refine Cn.of pn_X10 (Nat.le_of_ble_eq_true rfl) rfl ?_
  refine gN_iconst 0 dX10_mixSegment_0 (by decide) ?_
  refine g_istore_n 2 [(2, .int (nI (0))), (0, .ref (a)), (1, .int (nI (s)))] dX10_mixSegment_1 rfl (Nat.le_of_ble_eq_true rfl) rfl ?_
  refine g_pick [0, 1, 2] rfl ?_
  refine g_mem (m1 := sJ (wI m (im m)) a 15 (mxs (jm m a 15) (fun w => segV (im m (a + 1)) s w) 0)) (sJ_0 m a).symm ?_
  refine lp_ms1 g cs hM hs hr hk0 hR hrow hb _ (fun I hI => ?_) _ 0 (Nat.zero_add _) _ sc.rf
  refine gN_iconst 0 dX10_mixSegment_25 (by decide) ?_
  refine g_istore_n 2 [(2, .int (nI (0))), (0, .ref (a)), (1, .int (nI (s)))] dX10_mixSegment_26 rfl (Nat.le_of_ble_eq_true rfl) rfl ?_
  refine g_pick [0, 1, 2] rfl ?_
  refine lp_ms2 g cs hM hs hr hk0 hR hrow hb _ (fun I hI => ?_) _ 0 (Nat.zero_add _) _ hI
  refine gN_iconst 0 dX10_mixSegment_57 (by decide) ?_
  refine g_istore_n 2 [(2, .int (nI (0))), (0, .ref (a)), (1, .int (nI (s)))] dX10_mixSegment_58 rfl (Nat.le_of_ble_eq_true rfl) rfl ?_
  refine g_pick [0, 1, 2] rfl ?_
  refine lp_ms3 g cs hM hs hr hk0 hR hrow hb _ (fun I hI => ?_) _ 0 (Nat.zero_add _) _ hI
  refine gN_iconst 0 dX10_mixSegment_81 (by decide) ?_
  refine g_istore_n 2 [(2, .int (nI (0))), (0, .ref (a)), (1, .int (nI (s)))] dX10_mixSegment_82 rfl (Nat.le_of_ble_eq_true rfl) rfl ?_
  refine g_pick [0, 1, 2] rfl ?_
  refine lp_ms4 g cs hM hs hr hk0 hR hrow hb _ (fun I hI => ?_) _ 0 (Nat.zero_add _) _ hI
  refine g_vret rfl dX10_mixSegment_106 ⟨Nat.zero_le _, Nat.zero_le _⟩ ?_
  exact ⟨rfl, I, rfl, hI⟩
set_option maxRecDepth 100000 in
theorem lp_mr1 (g : Gp) (cs : Nat × Nat) {m : Mm} {a : Nat} (hM : MdOk m a) {r : Nat} (hr1 : r < nv (im m (a + 1) 1)) (hn0 : NR (im m (a + 1) (79 + 22 * 0)) 1 12) (hR : NR (im m (a + 1) 1) 0 30) (hrow : ∀ r, r < nv (im m (a + 1) 1) → NR (im m (a + 1) (299 + 13 * r)) 1 12) {Q : Rs → Mm → Prop} (h0 : Int64) (K : ∀ I, sc a (im m) I → G g (MX10_mixRow cs) Q 39 [(2, .int (nI (nv (im m (a + 1) (299 + 13 * r))))), (0, .ref (a)), (1, .int (nI (r)))] [] (0, 0) (sJ (wI m I) a 15 (mxs h0 (fun k => (im m (a + 1)) (299 + 13 * r + 1 + k)) (nv (im m (a + 1) (299 + 13 * r)))))) : ∀ d k : Nat, k + d = nv (im m (a + 1) (299 + 13 * r)) → ∀ I, sc a (im m) I → G g (MX10_mixRow cs) Q 2 [(2, .int (nI (k))), (0, .ref (a)), (1, .int (nI (r)))] [] (0, 0) (sJ (wI m I) a 15 (mxs h0 (fun k => (im m (a + 1)) (299 + 13 * r + 1 + k)) k)) := by
  have hR2 := hR.hi
  have hn2 := (hrow r hr1).hi
  intro d
  induction d with
  | zero =>
    intro k hk I hI
    obtain rfl : k = nv (im m (a + 1) (299 + 13 * r)) := hk
    refine g_iload_n 2 dX10_mixRow_2 rfl rfl ?_
    refine g_aload_n 0 dX10_mixRow_3 rfl rfl ?_
    refine gN_getR (a + 1) flX10_7 (fun _ _ _ => rfl) 0 (hM.t) (hM.r0) dX10_mixRow_4 ?_
    refine g_iload_n 1 dX10_mixRow_7 rfl rfl ?_
    refine gd_callS _ _ _ _ (cn_X10_rowAt g (0, 0) _ r) ⟨rfl, rfl⟩ (ok_X10_rowAt _) mlX10_55 st_X10_rowAt rfl ⟨Nat.le_of_ble_eq_true rfl, Nat.le_of_ble_eq_true rfl⟩ (by exact Nat.le_of_ble_eq_true rfl) ⟨Nat.zero_le _, Nat.zero_le _⟩ dX10_mixRow_8 rfl ?_
    refine gN_iald 689 (hM.t1) (by first | omega | exact b01_lt _) (by first | omega | exact b01_lt _) dX10_mixRow_11 ?_
    refine g_ei (nI (nv (im m (a + 1) (299 + 13 * r)))) ((hI.zz _).trans (hrow r hr1).e) ?_
    refine gN_icmp_ge 39 dX10_mixRow_12 (by decide) (by first | omega | exact b01_lt _) (by first | omega | exact b01_lt _) (fun h_12 => ?_) (fun h_12 => ?_)
    · exact K I hI
    · exfalso; omega
  | succ d ih =>
    intro k hk I hI
    refine g_iload_n 2 dX10_mixRow_2 rfl rfl ?_
    refine g_aload_n 0 dX10_mixRow_3 rfl rfl ?_
    refine gN_getR (a + 1) flX10_7 (fun _ _ _ => rfl) 0 (hM.t) (hM.r0) dX10_mixRow_4 ?_
    refine g_iload_n 1 dX10_mixRow_7 rfl rfl ?_
    refine gd_callS _ _ _ _ (cn_X10_rowAt g (0, 0) _ r) ⟨rfl, rfl⟩ (ok_X10_rowAt _) mlX10_55 st_X10_rowAt rfl ⟨Nat.le_of_ble_eq_true rfl, Nat.le_of_ble_eq_true rfl⟩ (by exact Nat.le_of_ble_eq_true rfl) ⟨Nat.zero_le _, Nat.zero_le _⟩ dX10_mixRow_8 rfl ?_
    refine gN_iald 689 (hM.t1) (by first | omega | exact b01_lt _) (by first | omega | exact b01_lt _) dX10_mixRow_11 ?_
    refine g_ei (nI (nv (im m (a + 1) (299 + 13 * r)))) ((hI.zz _).trans (hrow r hr1).e) ?_
    refine gN_icmp_ge 39 dX10_mixRow_12 (by decide) (by first | omega | exact b01_lt _) (by first | omega | exact b01_lt _) (fun h_12 => ?_) (fun h_12 => ?_)
    · exfalso; omega
    · refine g_aload_n 0 dX10_mixRow_15 rfl rfl ?_
      refine g_aload_n 0 dX10_mixRow_16 rfl rfl ?_
      refine gN_getR (a + 1) flX10_7 (fun _ _ _ => rfl) 0 (hM.t) (hM.r0) dX10_mixRow_17 ?_
      refine g_iload_n 1 dX10_mixRow_20 rfl rfl ?_
      refine gd_callS _ _ _ _ (cn_X10_rowAt g (0, 0) _ r) ⟨rfl, rfl⟩ (ok_X10_rowAt _) mlX10_55 st_X10_rowAt rfl ⟨Nat.le_of_ble_eq_true rfl, Nat.le_of_ble_eq_true rfl⟩ (by exact Nat.le_of_ble_eq_true rfl) ⟨Nat.zero_le _, Nat.zero_le _⟩ dX10_mixRow_21 rfl ?_
      refine gN_iconst 1 dX10_mixRow_24 (by decide) ?_
      refine gN_iadd ((299 + 13 * r) + 1) dX10_mixRow_25 rfl ?_
      refine g_iload_n 2 dX10_mixRow_26 rfl rfl ?_
      refine gN_iadd (((299 + 13 * r) + 1) + k) dX10_mixRow_27 rfl ?_
      refine gN_iald 689 (hM.t1) (by first | omega | exact b01_lt _) (by first | omega | exact b01_lt _) dX10_mixRow_28 ?_
      refine g_eI (im m (a + 1) (299 + 13 * r + 1 + k)) (hI.zz _) ?_
      refine g_i2l dX10_mixRow_29 ?_
      refine gd_callV _ _ [.long (((fun k => (im m (a + 1)) (299 + 13 * r + 1 + k)) k).toInt64)] [] (cn_X10_mix g (0, 0) (m := sJ (wI m I) a 15 (mxs (h0) (fun k => (im m (a + 1)) (299 + 13 * r + 1 + k)) k)) hM (((fun k => (im m (a + 1)) (299 + 13 * r + 1 + k)) k).toInt64)) ⟨rfl, rfl⟩ (ok_X10_mix _) mlX10_235 in_X10_mix se_X10_mix 10 0 (hM.t) rfl rfl rfl ⟨Nat.le_of_ble_eq_true rfl, Nat.le_of_ble_eq_true rfl⟩ (by exact Nat.le_of_ble_eq_true rfl) ⟨Nat.zero_le _, Nat.zero_le _⟩ dX10_mixRow_30 rfl ?_
      refine g_mem (m1 := sJ (wI m I) a 15 (mxs (h0) (fun k => (im m (a + 1)) (299 + 13 * r + 1 + k)) (k + 1))) (mxm _ _ _ _) ?_
      refine g_iinc 2 (nI (k + 1)) 0 [(2, .int (nI (k + 1))), (0, .ref (a)), (1, .int (nI (r)))] dX10_mixRow_33 rfl (nI_add k 1) (Nat.le_of_ble_eq_true rfl) rfl ?_
      refine g_goto 2 dX10_mixRow_36 (by decide) ?_
      refine g_pick [0, 1, 2] rfl ?_
      exact ih (k + 1) (by omega) I hI
set_option maxRecDepth 100000 in
theorem lp_mr2 (g : Gp) (cs : Nat × Nat) {m : Mm} {a : Nat} (hM : MdOk m a) {r : Nat} (hr1 : r < nv (im m (a + 1) 1)) (hn0 : NR (im m (a + 1) (79 + 22 * 0)) 1 12) (hR : NR (im m (a + 1) 1) 0 30) (hrow : ∀ r, r < nv (im m (a + 1) 1) → NR (im m (a + 1) (299 + 13 * r)) 1 12) {Q : Rs → Mm → Prop} (h0 : Int64) (K : ∀ I, sc a (im m) I → G g (MX10_mixRow cs) Q 64 [(2, .int (nI (3))), (0, .ref (a)), (1, .int (nI (r)))] [] (0, 0) (sJ (wI m I) a 15 (mxs h0 (fun w => nearV (im m (a + 1)) (79 + 22 * 0) r w) (3)))) : ∀ d k : Nat, k + d = 3 → ∀ I, sc a (im m) I → G g (MX10_mixRow cs) Q 41 [(2, .int (nI (k))), (0, .ref (a)), (1, .int (nI (r)))] [] (0, 0) (sJ (wI m I) a 15 (mxs h0 (fun w => nearV (im m (a + 1)) (79 + 22 * 0) r w) k)) := by
  have hR2 := hR.hi
  intro d
  induction d with
  | zero =>
    intro k hk I hI
    obtain rfl : k = 3 := hk
    refine g_iload_n 2 dX10_mixRow_41 rfl rfl ?_
    refine gN_iconst 3 dX10_mixRow_42 (by decide) ?_
    refine gN_icmp_ge 64 dX10_mixRow_43 (by decide) (by first | omega | exact b01_lt _) (by first | omega | exact b01_lt _) (fun h_43 => ?_) (fun h_43 => ?_)
    · exact K I hI
    · exact absurd h_43 (by decide)
  | succ d ih =>
    intro k hk I hI
    refine g_iload_n 2 dX10_mixRow_41 rfl rfl ?_
    refine gN_iconst 3 dX10_mixRow_42 (by decide) ?_
    refine gN_icmp_ge 64 dX10_mixRow_43 (by decide) (by first | omega | exact b01_lt _) (by first | omega | exact b01_lt _) (fun h_43 => ?_) (fun h_43 => ?_)
    · exfalso; omega
    · refine g_aload_n 0 dX10_mixRow_46 rfl rfl ?_
      refine g_aload_n 0 dX10_mixRow_47 rfl rfl ?_
      refine gN_iconst 0 dX10_mixRow_48 (by decide) ?_
      refine g_iload_n 1 dX10_mixRow_49 rfl rfl ?_
      refine g_iload_n 2 dX10_mixRow_50 rfl rfl ?_
      refine ge_callV _ _ _ (cn_X10_nearOf g (0, 0) (m := sJ (wI m I) a 15 (mxs h0 (fun w => nearV (im m (a + 1)) (79 + 22 * 0) r w) k)) hM (s := 0) (by decide) (by rw [jz hI]; exact hn0) (by rw [jz hI]; exact hR) (by rw [jz hI]; exact hrow) (r := r) (by rw [jz hI]; exact hr1) (w := k) (by omega)) ⟨rfl, rfl⟩ (ok_X10_nearOf _) mlX10_191 in_X10_nearOf se_X10_nearOf 10 0 (hM.t) rfl rfl rfl ⟨Nat.le_of_ble_eq_true rfl, Nat.le_of_ble_eq_true rfl⟩ (by exact Nat.le_of_ble_eq_true rfl) ⟨Nat.zero_le _, Nat.zero_le _⟩ dX10_mixRow_51 rfl (fun I1 hI1 => ?_)
      have hI2 := hI.tr hI1
      rw [jz hI]
      refine g_mem (m1 := sJ (wI m I1) a 15 (mxs (h0) (fun w => nearV (im m (a + 1)) (79 + 22 * 0) r w) k)) rfl ?_
      refine g_i2l dX10_mixRow_54 ?_
      refine gd_callV _ _ [.long (((fun w => nearV (im m (a + 1)) (79 + 22 * 0) r w) k).toInt64)] [] (cn_X10_mix g (0, 0) (m := sJ (wI m I1) a 15 (mxs (h0) (fun w => nearV (im m (a + 1)) (79 + 22 * 0) r w) k)) hM (((fun w => nearV (im m (a + 1)) (79 + 22 * 0) r w) k).toInt64)) ⟨rfl, rfl⟩ (ok_X10_mix _) mlX10_235 in_X10_mix se_X10_mix 10 0 (hM.t) rfl rfl rfl ⟨Nat.le_of_ble_eq_true rfl, Nat.le_of_ble_eq_true rfl⟩ (by exact Nat.le_of_ble_eq_true rfl) ⟨Nat.zero_le _, Nat.zero_le _⟩ dX10_mixRow_55 rfl ?_
      refine g_mem (m1 := sJ (wI m I1) a 15 (mxs (h0) (fun w => nearV (im m (a + 1)) (79 + 22 * 0) r w) (k + 1))) (mxm _ _ _ _) ?_
      refine g_iinc 2 (nI (k + 1)) 0 [(2, .int (nI (k + 1))), (0, .ref (a)), (1, .int (nI (r)))] dX10_mixRow_58 rfl (nI_add k 1) (Nat.le_of_ble_eq_true rfl) rfl ?_
      refine g_goto 41 dX10_mixRow_61 (by decide) ?_
      refine g_pick [0, 1, 2] rfl ?_
      exact ih (k + 1) (by omega) I1 hI2
set_option maxRecDepth 100000 in
theorem cn_X10_mixRow (g : Gp) (cs : Nat × Nat) {m : Mm} {a : Nat} (hM : MdOk m a) {r : Nat} (hr1 : r < nv (im m (a + 1) 1)) (hn0 : NR (im m (a + 1) (79 + 22 * 0)) 1 12) (hR : NR (im m (a + 1) 1) 0 30) (hrow : ∀ r, r < nv (im m (a + 1) 1) → NR (im m (a + 1) (299 + 13 * r)) 1 12) : Jn g (MX10_mixRow cs) [.ref a, .int (nI r)] m a none (mrV (im m (a + 1)) (jm m a 15) r) := by
  refine Cn.of pn_X10 (Nat.le_of_ble_eq_true rfl) rfl ?_
  refine gN_iconst 0 dX10_mixRow_0 (by decide) ?_
  refine g_istore_n 2 [(2, .int (nI (0))), (0, .ref (a)), (1, .int (nI (r)))] dX10_mixRow_1 rfl (Nat.le_of_ble_eq_true rfl) rfl ?_
  refine g_pick [0, 1, 2] rfl ?_
  refine g_mem (m1 := sJ (wI m (im m)) a 15 (mxs (jm m a 15) (fun k => (im m (a + 1)) (299 + 13 * r + 1 + k)) 0)) (sJ_0 m a).symm ?_
  refine lp_mr1 g cs hM hr1 hn0 hR hrow _ (fun I hI => ?_) _ 0 (Nat.zero_add _) _ sc.rf
  refine gN_iconst 0 dX10_mixRow_39 (by decide) ?_
  refine g_istore_n 2 [(2, .int (nI (0))), (0, .ref (a)), (1, .int (nI (r)))] dX10_mixRow_40 rfl (Nat.le_of_ble_eq_true rfl) rfl ?_
  refine g_pick [0, 1, 2] rfl ?_
  refine lp_mr2 g cs hM hr1 hn0 hR hrow _ (fun I hI => ?_) _ 0 (Nat.zero_add _) _ hI
  refine g_vret rfl dX10_mixRow_64 ⟨Nat.zero_le _, Nat.zero_le _⟩ ?_
  exact ⟨rfl, I, rfl, hI⟩
