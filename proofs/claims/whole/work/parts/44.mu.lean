/-! FLOAT BITS -/
abbrev nF : MethodName := ⟨"java/lang/Float", "floatToRawIntBits", "(F)I"⟩
abbrev nD : MethodName := ⟨"java/lang/Double", "doubleToRawLongBits", "(D)J"⟩
theorem nF_l : Cond.methodLink RJxf58ca 74 nF ∈ wA := wA_i 1246 (by decide +kernel) rfl
theorem nF_s : Cond.static nF ∈ wA := wA_i 1247 (by decide +kernel) rfl
theorem nF_n : Cond.native nF ∈ wA := wA_i 1248 (by decide +kernel) rfl
theorem nF_i : Cond.initialized "java/lang/Float" ∈ wA := wA_i 75 (by decide +kernel) rfl
theorem nD_l : Cond.methodLink RJxe99ae 134 nD ∈ wA := wA_i 1338 (by decide +kernel) rfl
theorem nD_s : Cond.static nD ∈ wA := wA_i 1339 (by decide +kernel) rfl
theorem nD_n : Cond.native nD ∈ wA := wA_i 1340 (by decide +kernel) rfl
theorem nD_i : Cond.initialized "java/lang/Double" ∈ wA := wA_i 76 (by decide +kernel) rfl
section GF
variable {g : Gp} {M : MI} {Q : Rs → Mm → Prop} {pc : Nat} {L : List (Nat × Value)} {st : List Value} {u : Nat × Nat} {m : Mm}
theorem g_fcmp {x y : UInt32} {op : CmpOp} (hdg : decode (mC M) pc = .ok (.fcmp op, 1)) (k : G g M Q (pc + 1) L (.int (Op.cmpValue (FP.fcmp x y) op) :: st) u m) : G g M Q pc L (.float y :: .float x :: st) u m :=
  fun p l e s mm args below meth c H locs ls C hW hB hS hl => lv_fcmp C.1 C.2.1 hdg (k p l e s mm args below meth c H locs ls C hW hB hS hl)
theorem g_f2ib {i : Nat} {x : UInt32} (hlk : Cond.methodLink (mY M).cls i nF ∈ wA) (hfr : 1 ≤ (mR M).frames) (hlo : (st.map fun v => v.category).sum + 15 ≤ (mR M).locals) (hdg : decode (mC M) pc = .ok (.invokestatic i, 3)) (k : G g M Q (pc + 3) L (.int x.toInt32 :: st) u m) : G g M Q pc L (.float x :: st) u m :=
  fun p l e s mm args below meth c H locs ls C hW hB hS hl => vn_f2i C.1 C.2.1 (hl.1.trans C.2.2.2.1.symm).symm C.2.2.2.2.1 (cx_w C hlk) (cx_w C nF_n) (cx_w C nF_s) (cx_w C nF_i) hfr hlo hdg (k p l e s mm args below meth c H locs ls C hW hB hS hl)
theorem g_d2lb {i : Nat} {x : UInt64} (hlk : Cond.methodLink (mY M).cls i nD ∈ wA) (hfr : 1 ≤ (mR M).frames) (hlo : (st.map fun v => v.category).sum + 15 ≤ (mR M).locals) (hdg : decode (mC M) pc = .ok (.invokestatic i, 3)) (k : G g M Q (pc + 3) L (.long x.toInt64 :: st) u m) : G g M Q pc L (.double x :: st) u m :=
  fun p l e s mm args below meth c H locs ls C hW hB hS hl => vn_d2l C.1 C.2.1 (hl.1.trans C.2.2.2.1.symm).symm C.2.2.2.2.1 (cx_w C hlk) (cx_w C nD_n) (cx_w C nD_s) (cx_w C nD_i) hfr hlo hdg (k p l e s mm args below meth c H locs ls C hW hB hS hl)
end GF
theorem vf32_iff (r : UInt32) : vf_n32 r ↔ r.toNat % 2 ^ 31 ≤ 2139095040 := by
  unfold vf_n32
  rw [UInt32.le_iff_toNat_le, UInt32.toNat_and, show (0x7fffffff : UInt32).toNat = 2 ^ 31 - 1 by decide, Nat.and_two_pow_sub_one_eq_mod]
  exact Iff.rfl
theorem vf64_iff (r : UInt64) : vf_n64 r ↔ r.toNat % 2 ^ 63 ≤ 9218868437227405312 := by
  unfold vf_n64
  rw [UInt64.le_iff_toNat_le, UInt64.toNat_and, show (0x7fffffffffffffff : UInt64).toNat = 2 ^ 63 - 1 by decide, Nat.and_two_pow_sub_one_eq_mod]
  exact Iff.rfl
theorem order_self {d : Jvm.FP.Core.Datum} (h : d ≠ .nan) : Jvm.FP.Core.order d d = some .eq := by
  cases d with
  | nan => exact absurd rfl h
  | inf s => cases s <;> rfl
  | fin s c q => simp only [Jvm.FP.Core.order]; rw [show ∀ x : Int, compare x x = .eq from fun x => by simp [compare, compareOfLessAndEq]]
/-- nothing, or a float of middle size -/
def okF (x : UInt32) : Prop := x = 0 ∨ ∃ E T : Nat, 102 ≤ E ∧ E ≤ 152 ∧ T < 8388608 ∧ x = fE E T
def okD (x : UInt64) : Prop := x = 0 ∨ ∃ E T : Nat, 970 ≤ E ∧ E ≤ 1080 ∧ T < 4503599627370496 ∧ x = dE E T
theorem okF.vf {x : UInt32} (h : okF x) : vf_n32 x := by
  rw [vf32_iff]
  rcases h with rfl | ⟨E, T, h1, h2, h3, rfl⟩
  · decide
  · rw [fE_n (by omega) h3]
    show (E * 8388608 + T) % 2147483648 ≤ 2139095040
    omega
theorem okD.vf {x : UInt64} (h : okD x) : vf_n64 x := by
  rw [vf64_iff]
  rcases h with rfl | ⟨E, T, h1, h2, h3, rfl⟩
  · decide
  · rw [dE_n (by omega) h3]
    show (E * 4503599627370496 + T) % 9223372036854775808 ≤ 9218868437227405312
    omega
theorem okF.cmp {x : UInt32} (h : okF x) : FP.fcmp x x = some .eq := by
  refine order_self ?_
  rcases h with rfl | ⟨E, T, h1, h2, h3, rfl⟩
  · decide
  · rw [fE_d (by omega) (by omega) h3]
    exact fun q => by cases q
theorem okD.cmp {x : UInt64} (h : okD x) : FP.dcmp x x = some .eq := by
  refine order_self ?_
  rcases h with rfl | ⟨E, T, h1, h2, h3, rfl⟩
  · decide
  · rw [dE_d (by omega) (by omega) h3]
    exact fun q => by cases q
theorem vx_ofF {l : Launch} {y : MethodName} {ws ws' : List Cond} {rm : Room} {Pc : Array Value → State → Prop} {Qc : Array Value → State → Outcome → State → Prop} {XC : String → State → State → Prop} {mc ms : Nat} {free : Addr → Prop} {cc : ByteArray} {maxL : Nat} {ret : Option FieldType}
    (hy : plainFor y = true) (hw : ws = Cond.code y cc maxL ret :: ws')
    (body : ∀ p e s m args below meth c s₁, BodyLoose p l y (headSpec ws rm) cc maxL ret e s m args below meth c s₁ → c.maxLocals = maxL → (∀ x ∈ c.exceptionTable.toList, False) → Pc args s →
      W p l e (headSpec ws rm).room s m args below meth c s.heap [] 0 0 (vx_MQ below Qc XC args s mc ms free) (entryFrame m args maxL)) : vx_Met l y ws rm Pc Qc XC mc ms free := by
  refine MetFree.of_bodySF (code := cc) (maxLocals := maxL) (ret := ret) hy ?_ ?_
  · intro args s m h hn
    obtain ⟨meth, c, h1, h2, h3, h4, h5, h6, -, -⟩ := Cond.code_spec hn (atoms_spec (ws := ws) h _ (by rw [hw]; exact List.mem_cons_self))
    exact ⟨meth, c, h1, h2, h3, h4, h5, h6⟩
  · intro p e s m args below meth c s₁ B hml hP _
    have hh0 : s₁.heap = s.heap := by rw [B.state]; rfl
    have ht : ∀ x ∈ c.exceptionTable.toList, False := by
      obtain ⟨meth9, c9, h1, h2, -, -, -, -, h7, -⟩ := Cond.code_spec B.named (atoms_spec (ws := ws) B.pre _ (by rw [hw]; exact List.mem_cons_self))
      cases Option.some.inj (h1.symm.trans B.method)
      cases Option.some.inj (h2.symm.trans (Stand.of_body B).code)
      intro x hx
      rw [Array.isEmpty_iff.mp h7] at hx
      cases hx
    obtain ⟨t, a1, o, b1, b2, b3⟩ := body p e s m args below meth c s₁ B hml ht hP s₁ hh0 (Stand.of_body B)
    exact ⟨t, o, a1, b1, b2, b3⟩
theorem Cn.ofF {g : Gp} {M : MI} {av : List Value} {m : Mm} {Q : Rs → Mm → Prop} {L : List (Nat × Value)} (hy : plainFor (mY M) = true) (hn : (lg_sl av).length ≤ mL M) (hL : lv_args 0 av = L) (h : G g M Q 0 L [] (0, 0) m) : Cn g M av m Q := by
  intro l hl
  refine vx_ofF (cc := mC M) (maxL := mL M) (ret := mT M) (ws' := wA) hy rfl ?_
  intro p e s mm args below meth c s₁ B hml ht hv
  obtain ⟨rfl, hW, hB⟩ := hv
  have hts := atoms_spec (ws := mW M) B.pre
  have hl0 := lv_entry av (n := mL M) hn
  rw [hL] at hl0
  have e0 : entryFrame mm av.toArray (mL M) = F0 mm 0 ((lg_sl av ++ List.replicate (mL M - (lg_sl av).length) Slot.unset).toArray) [] := by rw [lg_entry_eq]
  rw [e0]
  exact h p l e s mm _ below meth c s.heap [] _ ⟨B.exec, B.bytes, B.returns, hml, findClass_of_methodNamed B.named, hts, B.notSynchronized, ht, (name_of_methodNamed B.named B.method).1, hl⟩ hW hB va_S.rf hl0
theorem pn_Jf1 : plainFor yJxf58ca_isNaN_12338 = true := by decide +kernel
theorem pn_Jf2 : plainFor yJxf58ca_floatToIntBits_5c35a = true := by decide +kernel
theorem pn_Jd1 : plainFor yJxe99ae_isNaN_b9ae7 = true := by decide +kernel
theorem pn_Jd2 : plainFor yJxe99ae_doubleToLongBits_ccdee = true := by decide +kernel
theorem pn_Jmx : plainFor yJ9_max_7cf53 = true := by decide +kernel
theorem pn_Jmn : plainFor yJ9_min_7cf53 = true := by decide +kernel
theorem pn_Jbc : plainFor yJ6_bitCount_0f7a4 = true := by decide +kernel
theorem okF_div {a b : Nat} (ha : a < 8388608) (hb : 0 < b) (hb2 : b < 8388608) : okF (FP.fdiv (FP.i2f (nI a)) (FP.i2f (nI b))) := by
  rcases Nat.eq_zero_or_pos a with z | z
  · subst z; exact Or.inl (f_quot0 (nI_tI' (by decide)) (nI_tI' (by omega)) hb hb2)
  · exact Or.inr (f_quot (nI_tI' (by omega)) (nI_tI' (by omega)) ha z hb hb2)
theorem okD_div {a b : Nat} (ha : a < 2147483648) (hb : 0 < b) (hb2 : b < 2147483648) : okD (FP.ddiv (FP.i2d (nI a)) (FP.i2d (nI b))) := by
  rcases Nat.eq_zero_or_pos a with z | z
  · subst z; exact Or.inl (d_quot0 (nI_tI' (by decide)) (nI_tI' (by omega)) hb)
  · exact Or.inr (d_quot (nI_tI' (by omega)) (nI_tI' (by omega)) z hb)

theorem cn_Jxf58ca_isNaN_12338 (g : Gp) (cs : Nat × Nat) {m : Mm} {x : UInt32} (h : okF x) : Dn g (MJxf58ca_isNaN_12338 cs) [.float x] m (some (.int (nI 0))) m := by
  refine Cn.ofF pn_Jf1 (Nat.le_of_ble_eq_true rfl) rfl ?_
  refine g_fload_n 0 dJxf58ca_isNaN_12338_0 rfl rfl ?_
  refine g_fload_n 0 dJxf58ca_isNaN_12338_1 rfl rfl ?_
  refine g_fcmp dJxf58ca_isNaN_12338_2 ?_
  rw [h.cmp]
  refine g_ei (nI 0) (by decide) ?_
  refine gN_if_eq 10 dJxf58ca_isNaN_12338_3 (by decide) (by decide) (fun _ => ?_) (fun q => absurd rfl q)
  refine gN_iconst 0 dJxf58ca_isNaN_12338_10 (by decide) ?_
  refine g_zret rfl rfl dJxf58ca_isNaN_12338_11 ⟨Nat.zero_le _, Nat.zero_le _⟩ ?_
  exact ⟨rfl, rfl⟩
theorem cn_Jxf58ca_floatToIntBits_5c35a (g : Gp) (cs : Nat × Nat) {m : Mm} {x : UInt32} (h : okF x) : Dn g (MJxf58ca_floatToIntBits_5c35a cs) [.float x] m (some (.int x.toInt32)) m := by
  refine Cn.ofF pn_Jf2 (Nat.le_of_ble_eq_true rfl) rfl ?_
  refine g_fload_n 0 dJxf58ca_floatToIntBits_5c35a_0 rfl rfl ?_
  refine gd_callS _ _ _ _ (cn_Jxf58ca_isNaN_12338 g (0, 0) h) ⟨rfl, rfl⟩ (ok_Jxf58ca_isNaN_12338 _) mlJxf58ca_59 st_Jxf58ca_isNaN_12338 rfl ⟨Nat.le_of_ble_eq_true rfl, Nat.le_of_ble_eq_true rfl⟩ (by exact Nat.le_of_ble_eq_true rfl) ⟨Nat.zero_le _, Nat.zero_le _⟩ dJxf58ca_floatToIntBits_5c35a_1 rfl ?_
  refine gN_if_ne 12 dJxf58ca_floatToIntBits_5c35a_4 (by decide) (by decide) (fun q => absurd rfl q) (fun _ => ?_)
  refine g_fload_n 0 dJxf58ca_floatToIntBits_5c35a_7 rfl rfl ?_
  refine g_f2ib nF_l (Nat.le_of_ble_eq_true rfl) (by exact Nat.le_of_ble_eq_true rfl) dJxf58ca_floatToIntBits_5c35a_8 ?_
  refine g_iret rfl dJxf58ca_floatToIntBits_5c35a_11 ⟨Nat.zero_le _, Nat.zero_le _⟩ ?_
  exact ⟨rfl, rfl⟩
theorem cn_Jxe99ae_isNaN_b9ae7 (g : Gp) (cs : Nat × Nat) {m : Mm} {x : UInt64} (h : okD x) : Dn g (MJxe99ae_isNaN_b9ae7 cs) [.double x] m (some (.int (nI 0))) m := by
  refine Cn.ofF pn_Jd1 (Nat.le_of_ble_eq_true rfl) rfl ?_
  refine g_dload_n 0 dJxe99ae_isNaN_b9ae7_0 rfl rfl ?_
  refine g_dload_n 0 dJxe99ae_isNaN_b9ae7_1 rfl rfl ?_
  refine g_dcmp dJxe99ae_isNaN_b9ae7_2 ?_
  rw [h.cmp]
  refine g_ei (nI 0) (by decide) ?_
  refine gN_if_eq 10 dJxe99ae_isNaN_b9ae7_3 (by decide) (by decide) (fun _ => ?_) (fun q => absurd rfl q)
  refine gN_iconst 0 dJxe99ae_isNaN_b9ae7_10 (by decide) ?_
  refine g_zret rfl rfl dJxe99ae_isNaN_b9ae7_11 ⟨Nat.zero_le _, Nat.zero_le _⟩ ?_
  exact ⟨rfl, rfl⟩
theorem cn_Jxe99ae_doubleToLongBits_ccdee (g : Gp) (cs : Nat × Nat) {m : Mm} {x : UInt64} (h : okD x) : Dn g (MJxe99ae_doubleToLongBits_ccdee cs) [.double x] m (some (.long x.toInt64)) m := by
  refine Cn.ofF pn_Jd2 (Nat.le_of_ble_eq_true rfl) rfl ?_
  refine g_dload_n 0 dJxe99ae_doubleToLongBits_ccdee_0 rfl rfl ?_
  refine gd_callS _ _ _ _ (cn_Jxe99ae_isNaN_b9ae7 g (0, 0) h) ⟨rfl, rfl⟩ (ok_Jxe99ae_isNaN_b9ae7 _) mlJxe99ae_122 st_Jxe99ae_isNaN_b9ae7 rfl ⟨Nat.le_of_ble_eq_true rfl, Nat.le_of_ble_eq_true rfl⟩ (by exact Nat.le_of_ble_eq_true rfl) ⟨Nat.zero_le _, Nat.zero_le _⟩ dJxe99ae_doubleToLongBits_ccdee_1 rfl ?_
  refine gN_if_ne 12 dJxe99ae_doubleToLongBits_ccdee_4 (by decide) (by decide) (fun q => absurd rfl q) (fun _ => ?_)
  refine g_dload_n 0 dJxe99ae_doubleToLongBits_ccdee_7 rfl rfl ?_
  refine g_d2lb nD_l (Nat.le_of_ble_eq_true rfl) (by exact Nat.le_of_ble_eq_true rfl) dJxe99ae_doubleToLongBits_ccdee_8 ?_
  refine g_lret rfl dJxe99ae_doubleToLongBits_ccdee_11 ⟨Nat.zero_le _, Nat.zero_le _⟩ ?_
  exact ⟨rfl, rfl⟩
