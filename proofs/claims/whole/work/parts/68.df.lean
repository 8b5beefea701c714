/-! THE CLASS: bits of floats and doubles -/
section GEE
variable {g : Gp} {M : MI} {Q : Rs → Mm → Prop} {pc : Nat} {L : List (Nat × Value)} {st : List Value} {u : Nat × Nat} {m : Mm}
theorem g_eD {x : UInt64} (y : UInt64) (h : x = y) (k : G g M Q pc L (.double y :: st) u m) : G g M Q pc L (.double x :: st) u m := by subst h; exact k
theorem g_eF {x : UInt32} (y : UInt32) (h : x = y) (k : G g M Q pc L (.float y :: st) u m) : G g M Q pc L (.float x :: st) u m := by subst h; exact k
theorem g_eJ {x : Int64} (y : Int64) (h : x = y) (k : G g M Q pc L (.long y :: st) u m) : G g M Q pc L (.long x :: st) u m := by subst h; exact k
end GEE
theorem vf_dE {E T : Nat} (h1 : 0 < E) (hE : E < 2047) (hT : T < 4503599627370496) : vf_n64 (dE E T) := by
  rw [vf64_iff, dE_n (by omega) hT]
  show (E * 4503599627370496 + T) % 9223372036854775808 ≤ 9218868437227405312
  omega
theorem vf_d0 : vf_n64 0 := by rw [vf64_iff]; decide
theorem e_one : FP.dconst1 = dE 1023 0 := by decide
theorem e_two : (4611686018427387904 : UInt64) = dE 1024 0 := by decide
theorem li_s (e : Int) : Int64.ofInt e - 1 = Int64.ofInt (e - 1) := by rw [Int64.ofInt_sub]; rfl
theorem li_a (e : Int) : Int64.ofInt e + 1 = Int64.ofInt (e + 1) := by rw [Int64.ofInt_add]; rfl
theorem vf_sub {T : Nat} (hT : T < 4503599627370496) : vf_n64 (FP.dsub (dE 1023 T) (dE 1023 0)) := by
  rcases Nat.eq_zero_or_pos T with z | z
  · subst z; rw [d_sub0]; exact vf_d0
  · obtain ⟨j, j1, j2, j3, j4⟩ := d_sub1 z hT
    rw [j4]; exact vf_dE (by omega) (by omega) (by omega)
theorem vf_mul {T F : Nat} (hT : T < 4503599627370496) (g1 : 1023 < F) (hF : F < 1100) : vf_n64 (FP.dmul (FP.dsub (dE 1023 T) (dE 1023 0)) (dE F 0)) := by
  rcases Nat.eq_zero_or_pos T with z | z
  · subst z; rw [d_sub0, d_mul0 (by omega) (by omega)]; exact vf_d0
  · obtain ⟨j, j1, j2, j3, j4⟩ := d_sub1 z hT
    rw [j4, d_mul2 (by omega) (by omega) (by omega) (by omega) (by omega) (by omega) (by omega)]; exact vf_dE (by omega) (by omega) (by omega)
theorem l2d_23 : FP.l2d (Int64.ofInt 8388608) = dE 1046 0 := by decide +kernel
theorem l2d_52 : FP.l2d (Int64.ofInt 4503599627370496) = dE 1075 0 := by decide +kernel
theorem sh_23 : (1 : Int64) <<< ((nI 23).toInt64 &&& 63) = Int64.ofInt 8388608 := by decide +kernel
theorem sh_52 : (1 : Int64) <<< ((nI 52).toInt64 &&& 63) = Int64.ofInt 4503599627370496 := by decide +kernel
set_option maxRecDepth 100000 in
theorem lp_X9_bitsOf23b (g : Gp) (cs : Nat × Nat) {m : Mm} {T : Nat} (hT : T < 4503599627370496) {Q : Rs → Mm → Prop} {e0 : Int} (K : ∀ i, G g (MX9_bitsOf cs) Q 89 [(8, .int (nI (i))), (6, .long (Int64.ofInt (e0))), (4, .double (dE 1023 T)), (2, .int (nI (127))), (3, .int (nI (23)))] [] (0, 0) m) : ∀ j i E : Nat, E = 1023 + j → E < 2047 → i + j ≤ 127 → ∀ e : Int, e + j = e0 → G g (MX9_bitsOf cs) Q 54 [(8, .int (nI (i))), (6, .long (Int64.ofInt (e))), (4, .double (dE E T)), (2, .int (nI (127))), (3, .int (nI (23)))] [] (0, 0) m := by
  intro j
  induction j with
  | zero =>
    intro i E hE hE2 hi e he
    subst hE
    obtain rfl : e = e0 := by omega
    refine g_iload 8 dX9_bitsOf_54 rfl ?_
    refine g_iload_n 2 dX9_bitsOf_56 rfl rfl ?_
    refine gN_icmp_ge 89 dX9_bitsOf_57 (by decide) (by first | omega | exact b01_lt _) (by first | omega | exact b01_lt _) (fun h_57 => ?_) (fun h_57 => ?_)
    · refine g_pick [0, 1, 2, 3, 4] rfl ?_
      exact K i
    · refine g_dload 4 dX9_bitsOf_60 rfl ?_
      refine g_ldc2d dX9_bitsOf_62 kcX9_379 ?_
      refine g_eD (dE 1024 0) (e_two) ?_
      refine g_dcmp dX9_bitsOf_65 ?_
      rw [d_cmp (by omega) (by omega) hT (by omega) (by omega), if_pos (by omega)]
      refine g_eI (-1) (by decide) ?_
      refine g_if_lt 89 dX9_bitsOf_66 (by decide) (fun h_66 => ?_) (fun h_66 => ?_)
      · refine g_pick [0, 1, 2, 3, 4] rfl ?_
        exact K i
      · exact absurd (by decide) h_66
  | succ j ih =>
    intro i E hE hE2 hi e he
    refine g_iload 8 dX9_bitsOf_54 rfl ?_
    refine g_iload_n 2 dX9_bitsOf_56 rfl rfl ?_
    refine gN_icmp_ge 89 dX9_bitsOf_57 (by decide) (by first | omega | exact b01_lt _) (by first | omega | exact b01_lt _) (fun h_57 => ?_) (fun h_57 => ?_)
    · exfalso; omega
    · refine g_dload 4 dX9_bitsOf_60 rfl ?_
      refine g_ldc2d dX9_bitsOf_62 kcX9_379 ?_
      refine g_eD (dE 1024 0) (e_two) ?_
      refine g_dcmp dX9_bitsOf_65 ?_
      rw [d_cmp (by omega) (by omega) hT (by omega) (by omega), if_neg (by omega)]
      refine g_eI (Op.cmpValue (if E = 1024 ∧ T = 0 then some .eq else some .gt) .l) rfl ?_
      refine g_if_lt 89 dX9_bitsOf_66 (by decide) (fun h_66 => ?_) (fun h_66 => ?_)
      · exfalso; revert h_66; split <;> decide
      · refine g_dload 4 dX9_bitsOf_69 rfl ?_
        refine g_ldc2d dX9_bitsOf_71 kcX9_379 ?_
        refine g_eD (dE 1024 0) (e_two) ?_
        refine g_ddiv dX9_bitsOf_74 (by rw [d_h2 (by omega) (by omega) hT]; exact vf_dE (by omega) (by omega) hT) ?_
        refine g_eD (dE (E - 1) T) (d_h2 (by omega) (by omega) hT) ?_
        refine g_dstore 4 [(4, .double (dE (E - 1) T)), (8, .int (nI (i))), (6, .long (Int64.ofInt (e))), (2, .int (nI (127))), (3, .int (nI (23)))] dX9_bitsOf_75 (Nat.le_of_ble_eq_true rfl) rfl ?_
        refine g_lload 6 dX9_bitsOf_77 rfl ?_
        refine g_lconst 1 dX9_bitsOf_79 (by decide) ?_
        refine g_ladd dX9_bitsOf_80 ?_
        refine g_eJ (Int64.ofInt (e + 1)) (li_a e) ?_
        refine g_lstore 6 [(6, .long (Int64.ofInt (e + 1))), (4, .double (dE (E - 1) T)), (8, .int (nI (i))), (2, .int (nI (127))), (3, .int (nI (23)))] dX9_bitsOf_81 (Nat.le_of_ble_eq_true rfl) rfl ?_
        refine g_iinc 8 (nI (i + 1)) 2 [(8, .int (nI (i + 1))), (6, .long (Int64.ofInt (e + 1))), (4, .double (dE (E - 1) T)), (2, .int (nI (127))), (3, .int (nI (23)))] dX9_bitsOf_83 rfl (nI_add i 1) (Nat.le_of_ble_eq_true rfl) rfl ?_
        refine g_goto 54 dX9_bitsOf_86 (by decide) ?_
        refine g_pick [0, 1, 2, 3, 4] rfl ?_
        exact ih (i + 1) (E - 1) (by omega) (by omega) (by omega) (e + 1) (by omega)
set_option maxRecDepth 100000 in
theorem lp_X9_bitsOf23a (g : Gp) (cs : Nat × Nat) {m : Mm} {T : Nat} (hT : T < 4503599627370496) {Q : Rs → Mm → Prop} {E0 : Nat} {e0 : Int} (hE0 : 1023 ≤ E0) (hE1 : E0 < 2047) (K : ∀ i, G g (MX9_bitsOf cs) Q 51 [(8, .int (nI (i))), (6, .long (Int64.ofInt (e0))), (4, .double (dE E0 T)), (2, .int (nI (127))), (3, .int (nI (23)))] [] (0, 0) m) : ∀ j i E : Nat, E + j = E0 → 0 < E → (0 < j → E0 = 1023) → i + j ≤ 127 → ∀ e : Int, e - j = e0 → G g (MX9_bitsOf cs) Q 18 [(8, .int (nI (i))), (6, .long (Int64.ofInt (e))), (4, .double (dE E T)), (2, .int (nI (127))), (3, .int (nI (23)))] [] (0, 0) m := by
  intro j
  induction j with
  | zero =>
    intro i E hE hE2 hj hi e he
    obtain rfl : E = E0 := hE
    obtain rfl : e = e0 := by omega
    refine g_iload 8 dX9_bitsOf_18 rfl ?_
    refine g_iload_n 2 dX9_bitsOf_20 rfl rfl ?_
    refine gN_icmp_ge 51 dX9_bitsOf_21 (by decide) (by first | omega | exact b01_lt _) (by first | omega | exact b01_lt _) (fun h_21 => ?_) (fun h_21 => ?_)
    · refine g_pick [0, 1, 2, 3, 4] rfl ?_
      exact K i
    · refine g_dload 4 dX9_bitsOf_24 rfl ?_
      refine g_dconst1 dX9_bitsOf_26 ?_
      refine g_eD (dE 1023 0) (e_one) ?_
      refine g_dcmp dX9_bitsOf_27 ?_
      rw [d_cmp (by omega) (by omega) hT (by omega) (by omega), if_neg (by omega)]
      refine g_eI (Op.cmpValue (if E = 1023 ∧ T = 0 then some .eq else some .gt) .g) rfl ?_
      refine g_if_ge 51 dX9_bitsOf_28 (by decide) (fun h_28 => ?_) (fun h_28 => ?_)
      · refine g_pick [0, 1, 2, 3, 4] rfl ?_
        exact K i
      · exfalso; revert h_28; split <;> decide
  | succ j ih =>
    intro i E hE hE2 hj hi e he
    have hj0 := hj (by omega)
    refine g_iload 8 dX9_bitsOf_18 rfl ?_
    refine g_iload_n 2 dX9_bitsOf_20 rfl rfl ?_
    refine gN_icmp_ge 51 dX9_bitsOf_21 (by decide) (by first | omega | exact b01_lt _) (by first | omega | exact b01_lt _) (fun h_21 => ?_) (fun h_21 => ?_)
    · exfalso; omega
    · refine g_dload 4 dX9_bitsOf_24 rfl ?_
      refine g_dconst1 dX9_bitsOf_26 ?_
      refine g_eD (dE 1023 0) (e_one) ?_
      refine g_dcmp dX9_bitsOf_27 ?_
      rw [d_cmp (by omega) (by omega) hT (by omega) (by omega), if_pos (by omega)]
      refine g_eI (-1) (by decide) ?_
      refine g_if_ge 51 dX9_bitsOf_28 (by decide) (fun h_28 => ?_) (fun h_28 => ?_)
      · exact absurd h_28 (by decide)
      · refine g_dload 4 dX9_bitsOf_31 rfl ?_
        refine g_ldc2d dX9_bitsOf_33 kcX9_379 ?_
        refine g_eD (dE 1024 0) (e_two) ?_
        refine g_dmul dX9_bitsOf_36 (by rw [d_x2 (by omega) (by omega) hT]; exact vf_dE (by omega) (by omega) hT) ?_
        refine g_eD (dE (E + 1) T) (d_x2 (by omega) (by omega) hT) ?_
        refine g_dstore 4 [(4, .double (dE (E + 1) T)), (8, .int (nI (i))), (6, .long (Int64.ofInt (e))), (2, .int (nI (127))), (3, .int (nI (23)))] dX9_bitsOf_37 (Nat.le_of_ble_eq_true rfl) rfl ?_
        refine g_lload 6 dX9_bitsOf_39 rfl ?_
        refine g_lconst 1 dX9_bitsOf_41 (by decide) ?_
        refine g_lsub dX9_bitsOf_42 ?_
        refine g_eJ (Int64.ofInt (e - 1)) (li_s e) ?_
        refine g_lstore 6 [(6, .long (Int64.ofInt (e - 1))), (4, .double (dE (E + 1) T)), (8, .int (nI (i))), (2, .int (nI (127))), (3, .int (nI (23)))] dX9_bitsOf_43 (Nat.le_of_ble_eq_true rfl) rfl ?_
        refine g_iinc 8 (nI (i + 1)) 2 [(8, .int (nI (i + 1))), (6, .long (Int64.ofInt (e - 1))), (4, .double (dE (E + 1) T)), (2, .int (nI (127))), (3, .int (nI (23)))] dX9_bitsOf_45 rfl (nI_add i 1) (Nat.le_of_ble_eq_true rfl) rfl ?_
        refine g_goto 18 dX9_bitsOf_48 (by decide) ?_
        refine g_pick [0, 1, 2, 3, 4] rfl ?_
        exact ih (i + 1) (E + 1) (by omega) (by omega) (by omega) (by omega) (e - 1) (by omega)
set_option maxRecDepth 100000 in
theorem cn_X9_bitsOf23 (g : Gp) (cs : Nat × Nat) {m : Mm} {E T : Nat} (h1 : 0 < E) (h2 : E < 2047) (hT : T < 4503599627370496) (hd : T % 2 ^ 29 = 0) (hl : 1023 < E + 127) (hh : E < 1023 + 127) : Dn g (MX9_bitsOf cs) [.double (dE E T), .int (nI 127), .int (nI 23)] m (some (.long (Int64.ofInt (((127 : Int) + E - 1023) * 8388608 + ((T / 2 ^ 29 : Nat) : Int))))) m := by
  refine Cn.of pn_X9 (Nat.le_of_ble_eq_true rfl) rfl ?_
  refine g_dload_n 0 dX9_bitsOf_0 rfl rfl ?_
  refine g_dconst0 dX9_bitsOf_1 ?_
  refine g_dcmp dX9_bitsOf_2 ?_
  rw [show FP.dconst0 = 0 from rfl, d_cmp0 (by omega) (by omega) hT]
  refine g_eI 1 (by decide) ?_
  refine g_if_gt 8 dX9_bitsOf_3 (by decide) (fun h_3 => ?_) (fun h_3 => ?_)
  · refine g_dload_n 0 dX9_bitsOf_8 rfl rfl ?_
    refine g_dstore 4 [(4, .double (dE E T)), (0, .double (dE E T)), (2, .int (nI (127))), (3, .int (nI (23)))] dX9_bitsOf_9 (Nat.le_of_ble_eq_true rfl) rfl ?_
    refine g_iload_n 2 dX9_bitsOf_11 rfl rfl ?_
    refine g_i2l dX9_bitsOf_12 ?_
    refine g_eJ (Int64.ofInt 127) (by decide) ?_
    refine g_lstore 6 [(6, .long (Int64.ofInt 127)), (4, .double (dE E T)), (0, .double (dE E T)), (2, .int (nI (127))), (3, .int (nI (23)))] dX9_bitsOf_13 (Nat.le_of_ble_eq_true rfl) rfl ?_
    refine gN_iconst 1 dX9_bitsOf_15 (by decide) ?_
    refine g_istore 8 [(8, .int (nI (1))), (6, .long (Int64.ofInt 127)), (4, .double (dE E T)), (0, .double (dE E T)), (2, .int (nI (127))), (3, .int (nI (23)))] dX9_bitsOf_16 (Nat.le_of_ble_eq_true rfl) rfl ?_
    have key : ∀ E0 : Nat, ∀ e0 : Int, 1023 ≤ E0 → E0 < 2047 → E0 < 1023 + 127 → (∀ i, G g (MX9_bitsOf cs) (dQ (some (.long (Int64.ofInt (((127 : Int) + E - 1023) * 8388608 + ((T / 2 ^ 29 : Nat) : Int))))) m) 51 [(8, .int (nI (i))), (6, .long (Int64.ofInt (e0))), (4, .double (dE E0 T)), (2, .int (nI (127))), (3, .int (nI (23)))] [] (0, 0) m) → E ≤ E0 → (E < E0 → E0 = 1023) → e0 = (127 : Int) + E - E0 → G g (MX9_bitsOf cs) (dQ (some (.long (Int64.ofInt (((127 : Int) + E - 1023) * 8388608 + ((T / 2 ^ 29 : Nat) : Int))))) m) 18 [(8, .int (nI (1))), (6, .long (Int64.ofInt (127))), (4, .double (dE E T)), (2, .int (nI (127))), (3, .int (nI (23)))] [] (0, 0) m := fun E0 e0 k1 k2 k3 K k4 k5 k6 => lp_X9_bitsOf23a g cs hT k1 k2 K (E0 - E) 1 E (by omega) h1 (fun _ => by omega) (by omega) _ (by omega)
    have fin : ∀ E0 : Nat, ∀ e0 : Int, 1023 ≤ E0 → E0 < 1023 + 127 → E0 < 2047 → e0 + E0 - 1023 = (127 : Int) + E - 1023 → ∀ i, G g (MX9_bitsOf cs) (dQ (some (.long (Int64.ofInt (((127 : Int) + E - 1023) * 8388608 + ((T / 2 ^ 29 : Nat) : Int))))) m) 51 [(8, .int (nI (i))), (6, .long (Int64.ofInt (e0))), (4, .double (dE E0 T)), (2, .int (nI (127))), (3, .int (nI (23)))] [] (0, 0) m := fun E0 e0 k1 k2 k3 k4 i => by
      refine gN_iconst 1 dX9_bitsOf_51 (by decide) ?_
      refine g_istore 8 [(8, .int (nI (1))), (6, .long (Int64.ofInt (e0))), (4, .double (dE E0 T)), (2, .int (nI (127))), (3, .int (nI (23)))] dX9_bitsOf_52 (Nat.le_of_ble_eq_true rfl) rfl ?_
      refine g_pick [0, 1, 2, 3, 4] rfl ?_
      refine lp_X9_bitsOf23b g cs hT (e0 := (127 : Int) + E - 1023) (fun i => ?_) (E0 - 1023) 1 E0 (by omega) k3 (by omega) e0 (by omega)
      refine g_lconst 1 dX9_bitsOf_89 (by decide) ?_
      refine g_iload_n 3 dX9_bitsOf_90 rfl rfl ?_
      refine g_lshl dX9_bitsOf_91 ?_
      refine g_eJ (Int64.ofInt 8388608) (sh_23) ?_
      refine g_lstore 8 [(8, .long (Int64.ofInt 8388608)), (6, .long (Int64.ofInt ((127 : Int) + E - 1023))), (4, .double (dE 1023 T)), (2, .int (nI (127))), (3, .int (nI (23)))] dX9_bitsOf_92 (Nat.le_of_ble_eq_true rfl) rfl ?_
      refine g_lload 6 dX9_bitsOf_94 rfl ?_
      refine g_lload 8 dX9_bitsOf_96 rfl ?_
      refine g_lmul dX9_bitsOf_98 ?_
      refine g_dload 4 dX9_bitsOf_99 rfl ?_
      refine g_dconst1 dX9_bitsOf_101 ?_
      refine g_eD (dE 1023 0) (e_one) ?_
      refine g_dsub dX9_bitsOf_102 (vf_sub hT) ?_
      refine g_lload 8 dX9_bitsOf_103 rfl ?_
      refine g_l2d dX9_bitsOf_105 ?_
      refine g_eD (dE 1046 0) (l2d_23) ?_
      refine g_dmul dX9_bitsOf_106 (vf_mul hT (by omega) (by omega)) ?_
      refine g_d2l dX9_bitsOf_107 ?_
      refine g_eJ (Int64.ofInt ((T / 2 ^ 29 : Nat) : Int)) (d_frac (fb := 23) hT (by omega) (by omega) hd) ?_
      refine g_ladd dX9_bitsOf_108 ?_
      refine g_lret rfl dX9_bitsOf_109 ⟨Nat.zero_le _, Nat.zero_le _⟩ ?_
      refine ⟨congrArg (fun x => (Sum.inl (some (Value.long x)) : Rs)) ?_, rfl⟩
      rw [← Int64.ofInt_mul, ← Int64.ofInt_add]
    refine g_pick [0, 1, 2, 4, 5] rfl ?_
    by_cases hE : E ≤ 1023
    · exact key 1023 ((127 : Int) + E - 1023) (by omega) (by omega) (by omega) (fin 1023 _ (by omega) (by omega) (by omega) (by omega)) hE (fun _ => rfl) (by omega)
    · exact key E (127 : Int) (by omega) h2 hh (fin E _ (by omega) hh h2 (by omega)) (Nat.le_refl _) (fun q => absurd q (Nat.lt_irrefl _)) (by omega)
  · exact absurd (by decide) h_3
set_option maxRecDepth 100000 in
theorem cn_X9_bitsOf230 (g : Gp) (cs : Nat × Nat) {m : Mm} : Dn g (MX9_bitsOf cs) [.double 0, .int (nI 127), .int (nI 23)] m (some (.long 0)) m := by
  refine Cn.of pn_X9 (Nat.le_of_ble_eq_true rfl) rfl ?_
  refine g_dload_n 0 dX9_bitsOf_0 rfl rfl ?_
  refine g_dconst0 dX9_bitsOf_1 ?_
  refine g_dcmp dX9_bitsOf_2 ?_
  refine g_eI 0 (by decide) ?_
  refine g_if_gt 8 dX9_bitsOf_3 (by decide) (fun h_3 => ?_) (fun h_3 => ?_)
  · exact absurd h_3 (by decide)
  · refine g_lconst 0 dX9_bitsOf_6 (by decide) ?_
    refine g_lret rfl dX9_bitsOf_7 ⟨Nat.zero_le _, Nat.zero_le _⟩ ?_
    exact ⟨rfl, rfl⟩
set_option maxRecDepth 100000 in
theorem lp_X9_bitsOf52b (g : Gp) (cs : Nat × Nat) {m : Mm} {T : Nat} (hT : T < 4503599627370496) {Q : Rs → Mm → Prop} {e0 : Int} (K : ∀ i, G g (MX9_bitsOf cs) Q 89 [(8, .int (nI (i))), (6, .long (Int64.ofInt (e0))), (4, .double (dE 1023 T)), (2, .int (nI (1023))), (3, .int (nI (52)))] [] (0, 0) m) : ∀ j i E : Nat, E = 1023 + j → E < 2047 → i + j ≤ 1023 → ∀ e : Int, e + j = e0 → G g (MX9_bitsOf cs) Q 54 [(8, .int (nI (i))), (6, .long (Int64.ofInt (e))), (4, .double (dE E T)), (2, .int (nI (1023))), (3, .int (nI (52)))] [] (0, 0) m := by
  intro j
  induction j with
  | zero =>
    intro i E hE hE2 hi e he
    subst hE
    obtain rfl : e = e0 := by omega
    refine g_iload 8 dX9_bitsOf_54 rfl ?_
    refine g_iload_n 2 dX9_bitsOf_56 rfl rfl ?_
    refine gN_icmp_ge 89 dX9_bitsOf_57 (by decide) (by first | omega | exact b01_lt _) (by first | omega | exact b01_lt _) (fun h_57 => ?_) (fun h_57 => ?_)
    · refine g_pick [0, 1, 2, 3, 4] rfl ?_
      exact K i
    · refine g_dload 4 dX9_bitsOf_60 rfl ?_
      refine g_ldc2d dX9_bitsOf_62 kcX9_379 ?_
      refine g_eD (dE 1024 0) (e_two) ?_
      refine g_dcmp dX9_bitsOf_65 ?_
      rw [d_cmp (by omega) (by omega) hT (by omega) (by omega), if_pos (by omega)]
      refine g_eI (-1) (by decide) ?_
      refine g_if_lt 89 dX9_bitsOf_66 (by decide) (fun h_66 => ?_) (fun h_66 => ?_)
      · refine g_pick [0, 1, 2, 3, 4] rfl ?_
        exact K i
      · exact absurd (by decide) h_66
  | succ j ih =>
    intro i E hE hE2 hi e he
    refine g_iload 8 dX9_bitsOf_54 rfl ?_
    refine g_iload_n 2 dX9_bitsOf_56 rfl rfl ?_
    refine gN_icmp_ge 89 dX9_bitsOf_57 (by decide) (by first | omega | exact b01_lt _) (by first | omega | exact b01_lt _) (fun h_57 => ?_) (fun h_57 => ?_)
    · exfalso; omega
    · refine g_dload 4 dX9_bitsOf_60 rfl ?_
      refine g_ldc2d dX9_bitsOf_62 kcX9_379 ?_
      refine g_eD (dE 1024 0) (e_two) ?_
      refine g_dcmp dX9_bitsOf_65 ?_
      rw [d_cmp (by omega) (by omega) hT (by omega) (by omega), if_neg (by omega)]
      refine g_eI (Op.cmpValue (if E = 1024 ∧ T = 0 then some .eq else some .gt) .l) rfl ?_
      refine g_if_lt 89 dX9_bitsOf_66 (by decide) (fun h_66 => ?_) (fun h_66 => ?_)
      · exfalso; revert h_66; split <;> decide
      · refine g_dload 4 dX9_bitsOf_69 rfl ?_
        refine g_ldc2d dX9_bitsOf_71 kcX9_379 ?_
        refine g_eD (dE 1024 0) (e_two) ?_
        refine g_ddiv dX9_bitsOf_74 (by rw [d_h2 (by omega) (by omega) hT]; exact vf_dE (by omega) (by omega) hT) ?_
        refine g_eD (dE (E - 1) T) (d_h2 (by omega) (by omega) hT) ?_
        refine g_dstore 4 [(4, .double (dE (E - 1) T)), (8, .int (nI (i))), (6, .long (Int64.ofInt (e))), (2, .int (nI (1023))), (3, .int (nI (52)))] dX9_bitsOf_75 (Nat.le_of_ble_eq_true rfl) rfl ?_
        refine g_lload 6 dX9_bitsOf_77 rfl ?_
        refine g_lconst 1 dX9_bitsOf_79 (by decide) ?_
        refine g_ladd dX9_bitsOf_80 ?_
        refine g_eJ (Int64.ofInt (e + 1)) (li_a e) ?_
        refine g_lstore 6 [(6, .long (Int64.ofInt (e + 1))), (4, .double (dE (E - 1) T)), (8, .int (nI (i))), (2, .int (nI (1023))), (3, .int (nI (52)))] dX9_bitsOf_81 (Nat.le_of_ble_eq_true rfl) rfl ?_
        refine g_iinc 8 (nI (i + 1)) 2 [(8, .int (nI (i + 1))), (6, .long (Int64.ofInt (e + 1))), (4, .double (dE (E - 1) T)), (2, .int (nI (1023))), (3, .int (nI (52)))] dX9_bitsOf_83 rfl (nI_add i 1) (Nat.le_of_ble_eq_true rfl) rfl ?_
        refine g_goto 54 dX9_bitsOf_86 (by decide) ?_
        refine g_pick [0, 1, 2, 3, 4] rfl ?_
        exact ih (i + 1) (E - 1) (by omega) (by omega) (by omega) (e + 1) (by omega)
set_option maxRecDepth 100000 in
theorem lp_X9_bitsOf52a (g : Gp) (cs : Nat × Nat) {m : Mm} {T : Nat} (hT : T < 4503599627370496) {Q : Rs → Mm → Prop} {E0 : Nat} {e0 : Int} (hE0 : 1023 ≤ E0) (hE1 : E0 < 2047) (K : ∀ i, G g (MX9_bitsOf cs) Q 51 [(8, .int (nI (i))), (6, .long (Int64.ofInt (e0))), (4, .double (dE E0 T)), (2, .int (nI (1023))), (3, .int (nI (52)))] [] (0, 0) m) : ∀ j i E : Nat, E + j = E0 → 0 < E → (0 < j → E0 = 1023) → i + j ≤ 1023 → ∀ e : Int, e - j = e0 → G g (MX9_bitsOf cs) Q 18 [(8, .int (nI (i))), (6, .long (Int64.ofInt (e))), (4, .double (dE E T)), (2, .int (nI (1023))), (3, .int (nI (52)))] [] (0, 0) m := by
  intro j
  induction j with
  | zero =>
    intro i E hE hE2 hj hi e he
    obtain rfl : E = E0 := hE
    obtain rfl : e = e0 := by omega
    refine g_iload 8 dX9_bitsOf_18 rfl ?_
    refine g_iload_n 2 dX9_bitsOf_20 rfl rfl ?_
    refine gN_icmp_ge 51 dX9_bitsOf_21 (by decide) (by first | omega | exact b01_lt _) (by first | omega | exact b01_lt _) (fun h_21 => ?_) (fun h_21 => ?_)
    · refine g_pick [0, 1, 2, 3, 4] rfl ?_
      exact K i
    · refine g_dload 4 dX9_bitsOf_24 rfl ?_
      refine g_dconst1 dX9_bitsOf_26 ?_
      refine g_eD (dE 1023 0) (e_one) ?_
      refine g_dcmp dX9_bitsOf_27 ?_
      rw [d_cmp (by omega) (by omega) hT (by omega) (by omega), if_neg (by omega)]
      refine g_eI (Op.cmpValue (if E = 1023 ∧ T = 0 then some .eq else some .gt) .g) rfl ?_
      refine g_if_ge 51 dX9_bitsOf_28 (by decide) (fun h_28 => ?_) (fun h_28 => ?_)
      · refine g_pick [0, 1, 2, 3, 4] rfl ?_
        exact K i
      · exfalso; revert h_28; split <;> decide
  | succ j ih =>
    intro i E hE hE2 hj hi e he
    have hj0 := hj (by omega)
    refine g_iload 8 dX9_bitsOf_18 rfl ?_
    refine g_iload_n 2 dX9_bitsOf_20 rfl rfl ?_
    refine gN_icmp_ge 51 dX9_bitsOf_21 (by decide) (by first | omega | exact b01_lt _) (by first | omega | exact b01_lt _) (fun h_21 => ?_) (fun h_21 => ?_)
    · exfalso; omega
    · refine g_dload 4 dX9_bitsOf_24 rfl ?_
      refine g_dconst1 dX9_bitsOf_26 ?_
      refine g_eD (dE 1023 0) (e_one) ?_
      refine g_dcmp dX9_bitsOf_27 ?_
      rw [d_cmp (by omega) (by omega) hT (by omega) (by omega), if_pos (by omega)]
      refine g_eI (-1) (by decide) ?_
      refine g_if_ge 51 dX9_bitsOf_28 (by decide) (fun h_28 => ?_) (fun h_28 => ?_)
      · exact absurd h_28 (by decide)
      · refine g_dload 4 dX9_bitsOf_31 rfl ?_
        refine g_ldc2d dX9_bitsOf_33 kcX9_379 ?_
        refine g_eD (dE 1024 0) (e_two) ?_
        refine g_dmul dX9_bitsOf_36 (by rw [d_x2 (by omega) (by omega) hT]; exact vf_dE (by omega) (by omega) hT) ?_
        refine g_eD (dE (E + 1) T) (d_x2 (by omega) (by omega) hT) ?_
        refine g_dstore 4 [(4, .double (dE (E + 1) T)), (8, .int (nI (i))), (6, .long (Int64.ofInt (e))), (2, .int (nI (1023))), (3, .int (nI (52)))] dX9_bitsOf_37 (Nat.le_of_ble_eq_true rfl) rfl ?_
        refine g_lload 6 dX9_bitsOf_39 rfl ?_
        refine g_lconst 1 dX9_bitsOf_41 (by decide) ?_
        refine g_lsub dX9_bitsOf_42 ?_
        refine g_eJ (Int64.ofInt (e - 1)) (li_s e) ?_
        refine g_lstore 6 [(6, .long (Int64.ofInt (e - 1))), (4, .double (dE (E + 1) T)), (8, .int (nI (i))), (2, .int (nI (1023))), (3, .int (nI (52)))] dX9_bitsOf_43 (Nat.le_of_ble_eq_true rfl) rfl ?_
        refine g_iinc 8 (nI (i + 1)) 2 [(8, .int (nI (i + 1))), (6, .long (Int64.ofInt (e - 1))), (4, .double (dE (E + 1) T)), (2, .int (nI (1023))), (3, .int (nI (52)))] dX9_bitsOf_45 rfl (nI_add i 1) (Nat.le_of_ble_eq_true rfl) rfl ?_
        refine g_goto 18 dX9_bitsOf_48 (by decide) ?_
        refine g_pick [0, 1, 2, 3, 4] rfl ?_
        exact ih (i + 1) (E + 1) (by omega) (by omega) (by omega) (by omega) (e - 1) (by omega)
set_option maxRecDepth 100000 in
theorem cn_X9_bitsOf52 (g : Gp) (cs : Nat × Nat) {m : Mm} {E T : Nat} (h1 : 0 < E) (h2 : E < 2047) (hT : T < 4503599627370496) (hd : T % 2 ^ 0 = 0) (hl : 1023 < E + 1023) (hh : E < 1023 + 1023) : Dn g (MX9_bitsOf cs) [.double (dE E T), .int (nI 1023), .int (nI 52)] m (some (.long (Int64.ofInt (((1023 : Int) + E - 1023) * 4503599627370496 + ((T / 2 ^ 0 : Nat) : Int))))) m := by
  refine Cn.of pn_X9 (Nat.le_of_ble_eq_true rfl) rfl ?_
  refine g_dload_n 0 dX9_bitsOf_0 rfl rfl ?_
  refine g_dconst0 dX9_bitsOf_1 ?_
  refine g_dcmp dX9_bitsOf_2 ?_
  rw [show FP.dconst0 = 0 from rfl, d_cmp0 (by omega) (by omega) hT]
  refine g_eI 1 (by decide) ?_
  refine g_if_gt 8 dX9_bitsOf_3 (by decide) (fun h_3 => ?_) (fun h_3 => ?_)
  · refine g_dload_n 0 dX9_bitsOf_8 rfl rfl ?_
    refine g_dstore 4 [(4, .double (dE E T)), (0, .double (dE E T)), (2, .int (nI (1023))), (3, .int (nI (52)))] dX9_bitsOf_9 (Nat.le_of_ble_eq_true rfl) rfl ?_
    refine g_iload_n 2 dX9_bitsOf_11 rfl rfl ?_
    refine g_i2l dX9_bitsOf_12 ?_
    refine g_eJ (Int64.ofInt 1023) (by decide) ?_
    refine g_lstore 6 [(6, .long (Int64.ofInt 1023)), (4, .double (dE E T)), (0, .double (dE E T)), (2, .int (nI (1023))), (3, .int (nI (52)))] dX9_bitsOf_13 (Nat.le_of_ble_eq_true rfl) rfl ?_
    refine gN_iconst 1 dX9_bitsOf_15 (by decide) ?_
    refine g_istore 8 [(8, .int (nI (1))), (6, .long (Int64.ofInt 1023)), (4, .double (dE E T)), (0, .double (dE E T)), (2, .int (nI (1023))), (3, .int (nI (52)))] dX9_bitsOf_16 (Nat.le_of_ble_eq_true rfl) rfl ?_
    have key : ∀ E0 : Nat, ∀ e0 : Int, 1023 ≤ E0 → E0 < 2047 → E0 < 1023 + 1023 → (∀ i, G g (MX9_bitsOf cs) (dQ (some (.long (Int64.ofInt (((1023 : Int) + E - 1023) * 4503599627370496 + ((T / 2 ^ 0 : Nat) : Int))))) m) 51 [(8, .int (nI (i))), (6, .long (Int64.ofInt (e0))), (4, .double (dE E0 T)), (2, .int (nI (1023))), (3, .int (nI (52)))] [] (0, 0) m) → E ≤ E0 → (E < E0 → E0 = 1023) → e0 = (1023 : Int) + E - E0 → G g (MX9_bitsOf cs) (dQ (some (.long (Int64.ofInt (((1023 : Int) + E - 1023) * 4503599627370496 + ((T / 2 ^ 0 : Nat) : Int))))) m) 18 [(8, .int (nI (1))), (6, .long (Int64.ofInt (1023))), (4, .double (dE E T)), (2, .int (nI (1023))), (3, .int (nI (52)))] [] (0, 0) m := fun E0 e0 k1 k2 k3 K k4 k5 k6 => lp_X9_bitsOf52a g cs hT k1 k2 K (E0 - E) 1 E (by omega) h1 (fun _ => by omega) (by omega) _ (by omega)
    have fin : ∀ E0 : Nat, ∀ e0 : Int, 1023 ≤ E0 → E0 < 1023 + 1023 → E0 < 2047 → e0 + E0 - 1023 = (1023 : Int) + E - 1023 → ∀ i, G g (MX9_bitsOf cs) (dQ (some (.long (Int64.ofInt (((1023 : Int) + E - 1023) * 4503599627370496 + ((T / 2 ^ 0 : Nat) : Int))))) m) 51 [(8, .int (nI (i))), (6, .long (Int64.ofInt (e0))), (4, .double (dE E0 T)), (2, .int (nI (1023))), (3, .int (nI (52)))] [] (0, 0) m := fun E0 e0 k1 k2 k3 k4 i => by
      refine gN_iconst 1 dX9_bitsOf_51 (by decide) ?_
      refine g_istore 8 [(8, .int (nI (1))), (6, .long (Int64.ofInt (e0))), (4, .double (dE E0 T)), (2, .int (nI (1023))), (3, .int (nI (52)))] dX9_bitsOf_52 (Nat.le_of_ble_eq_true rfl) rfl ?_
      refine g_pick [0, 1, 2, 3, 4] rfl ?_
      refine lp_X9_bitsOf52b g cs hT (e0 := (1023 : Int) + E - 1023) (fun i => ?_) (E0 - 1023) 1 E0 (by omega) k3 (by omega) e0 (by omega)
      refine g_lconst 1 dX9_bitsOf_89 (by decide) ?_
      refine g_iload_n 3 dX9_bitsOf_90 rfl rfl ?_
      refine g_lshl dX9_bitsOf_91 ?_
      refine g_eJ (Int64.ofInt 4503599627370496) (sh_52) ?_
      refine g_lstore 8 [(8, .long (Int64.ofInt 4503599627370496)), (6, .long (Int64.ofInt ((1023 : Int) + E - 1023))), (4, .double (dE 1023 T)), (2, .int (nI (1023))), (3, .int (nI (52)))] dX9_bitsOf_92 (Nat.le_of_ble_eq_true rfl) rfl ?_
      refine g_lload 6 dX9_bitsOf_94 rfl ?_
      refine g_lload 8 dX9_bitsOf_96 rfl ?_
      refine g_lmul dX9_bitsOf_98 ?_
      refine g_dload 4 dX9_bitsOf_99 rfl ?_
      refine g_dconst1 dX9_bitsOf_101 ?_
      refine g_eD (dE 1023 0) (e_one) ?_
      refine g_dsub dX9_bitsOf_102 (vf_sub hT) ?_
      refine g_lload 8 dX9_bitsOf_103 rfl ?_
      refine g_l2d dX9_bitsOf_105 ?_
      refine g_eD (dE 1075 0) (l2d_52) ?_
      refine g_dmul dX9_bitsOf_106 (vf_mul hT (by omega) (by omega)) ?_
      refine g_d2l dX9_bitsOf_107 ?_
      refine g_eJ (Int64.ofInt ((T / 2 ^ 0 : Nat) : Int)) (d_frac (fb := 52) hT (by omega) (by omega) hd) ?_
      refine g_ladd dX9_bitsOf_108 ?_
      refine g_lret rfl dX9_bitsOf_109 ⟨Nat.zero_le _, Nat.zero_le _⟩ ?_
      refine ⟨congrArg (fun x => (Sum.inl (some (Value.long x)) : Rs)) ?_, rfl⟩
      rw [← Int64.ofInt_mul, ← Int64.ofInt_add]
    refine g_pick [0, 1, 2, 4, 5] rfl ?_
    by_cases hE : E ≤ 1023
    · exact key 1023 ((1023 : Int) + E - 1023) (by omega) (by omega) (by omega) (fin 1023 _ (by omega) (by omega) (by omega) (by omega)) hE (fun _ => rfl) (by omega)
    · exact key E (1023 : Int) (by omega) h2 hh (fin E _ (by omega) hh h2 (by omega)) (Nat.le_refl _) (fun q => absurd q (Nat.lt_irrefl _)) (by omega)
  · exact absurd (by decide) h_3
set_option maxRecDepth 100000 in
theorem cn_X9_bitsOf520 (g : Gp) (cs : Nat × Nat) {m : Mm} : Dn g (MX9_bitsOf cs) [.double 0, .int (nI 1023), .int (nI 52)] m (some (.long 0)) m := by
  refine Cn.of pn_X9 (Nat.le_of_ble_eq_true rfl) rfl ?_
  refine g_dload_n 0 dX9_bitsOf_0 rfl rfl ?_
  refine g_dconst0 dX9_bitsOf_1 ?_
  refine g_dcmp dX9_bitsOf_2 ?_
  refine g_eI 0 (by decide) ?_
  refine g_if_gt 8 dX9_bitsOf_3 (by decide) (fun h_3 => ?_) (fun h_3 => ?_)
  · exact absurd h_3 (by decide)
  · refine g_lconst 0 dX9_bitsOf_6 (by decide) ?_
    refine g_lret rfl dX9_bitsOf_7 ⟨Nat.zero_le _, Nat.zero_le _⟩ ?_
    exact ⟨rfl, rfl⟩
