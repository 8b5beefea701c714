/-! FLOATS: rounding -/
theorem p2_add (a b : Nat) : 2 ^ a * 2 ^ b = 2 ^ (a + b) := (Nat.pow_add 2 a b).symm
theorem p2_pos (a : Nat) : 0 < 2 ^ a := Nat.two_pow_pos a
theorem le_mulr {a b : Nat} (h : a ≤ b) (c : Nat) : a * c ≤ b * c := Nat.mul_le_mul_right c h
theorem lt_mulr {a b c : Nat} (h : a < b) (hc : 0 < c) : a * c < b * c := Nat.mul_lt_mul_of_pos_right h hc
theorem ld_spec {n d : Nat} (hn : 0 < n) (hd : 0 < d) : d * 2 ^ (FP.Core.leading n d).toNat ≤ n * 2 ^ (-(FP.Core.leading n d)).toNat ∧ n * 2 ^ (-(FP.Core.leading n d)).toNat < 2 * (d * 2 ^ (FP.Core.leading n d).toNat) := by
  have a1 := Nat.log2_self_le (n := n) (by omega)
  have a2 := Nat.lt_log2_self (n := n)
  have b1 := Nat.log2_self_le (n := d) (by omega)
  have b2 := Nat.lt_log2_self (n := d)
  unfold FP.Core.leading
  generalize hA : n.log2 = A at *
  generalize hB : d.log2 = B at *
  rw [Nat.pow_succ] at a2 b2
  simp only []
  by_cases h : B ≤ A
  · obtain ⟨x, rfl⟩ := Nat.exists_eq_add_of_le h
    have e1 : ((B + x : Nat) : Int) - (B : Int) = (x : Int) := by omega
    rw [e1]
    have e2 : ((x : Int)).toNat = x := rfl
    have e3 : (-(x : Int)).toNat = 0 := by omega
    rw [e2, e3, Nat.pow_zero, Nat.mul_one]
    rw [← p2_add] at a1 a2
    split
    · rename_i h2
      rw [e2, e3, Nat.pow_zero, Nat.mul_one]
      refine ⟨h2, ?_⟩
      have := le_mulr b1 (2 ^ x)
      omega
    · rename_i h2
      cases x with
      | zero =>
        have e4 : ((0 : Nat) : Int) - 1 = -1 := rfl
        rw [e4]
        have e5 : (-1 : Int).toNat = 0 := rfl
        have e6 : (- -1 : Int).toNat = 1 := rfl
        rw [e5, e6]
        simp only [Nat.pow_zero, Nat.mul_one, Nat.pow_one] at *
        omega
      | succ x =>
        have e4 : ((x + 1 : Nat) : Int) - 1 = (x : Int) := by omega
        rw [e4]
        have e5 : (-(x : Int)).toNat = 0 := by omega
        have e6 : ((x : Int)).toNat = x := rfl
        rw [e5, e6, Nat.pow_zero, Nat.mul_one]
        rw [Nat.pow_succ] at h2 a1
        have h3 := lt_mulr b2 (p2_pos x)
        rw [Nat.mul_right_comm] at h3
        rw [← Nat.mul_assoc] at h2 a1
        omega
  · obtain ⟨y, hy⟩ := Nat.exists_eq_add_of_le (show A ≤ B by omega)
    subst hy
    have hy0 : 0 < y := by omega
    have e1 : (A : Int) - ((A + y : Nat) : Int) = -(y : Int) := by omega
    rw [e1]
    have e2 : (-(y : Int)).toNat = 0 := by omega
    have e3 : (- -(y : Int)).toNat = y := by omega
    rw [e2, e3, Nat.pow_zero, Nat.mul_one]
    rw [← p2_add] at b1 b2
    split
    · rename_i h2
      rw [e2, e3, Nat.pow_zero, Nat.mul_one]
      refine ⟨h2, ?_⟩
      have h3 := lt_mulr a2 (p2_pos y)
      rw [Nat.mul_right_comm] at h3
      omega
    · rename_i h2
      have e4 : (-(y : Int) - 1).toNat = 0 := by omega
      have e5 : (-(-(y : Int) - 1)).toNat = y + 1 := by omega
      rw [e4, e5, Nat.pow_zero, Nat.mul_one, Nat.pow_succ, ← Nat.mul_assoc]
      have h3 := le_mulr a1 (2 ^ y)
      omega
/-- n / d * 2 ^ -x is below 1 -/
def lt2 (n d : Nat) (x : Int) : Prop := n * 2 ^ (-x).toNat < d * 2 ^ x.toNat
theorem lt2_up {n d : Nat} (_hd : 0 < d) {x : Int} (h : lt2 n d x) : lt2 n d (x + 1) := by
  unfold lt2 at *
  by_cases hx : 0 ≤ x
  · have e1 : (-x).toNat = 0 := by omega
    have e2 : (-(x + 1)).toNat = 0 := by omega
    have e3 : (x + 1).toNat = x.toNat + 1 := by omega
    rw [e1] at h
    rw [e2, e3, Nat.pow_succ]
    have := Nat.mul_le_mul_left d (show 2 ^ x.toNat ≤ 2 ^ x.toNat * 2 by omega)
    omega
  · have e1 : (-x).toNat = (-(x + 1)).toNat + 1 := by omega
    have e2 : x.toNat = 0 := by omega
    have e3 : (x + 1).toNat = 0 := by omega
    rw [e1, e2, Nat.pow_succ, ← Nat.mul_assoc] at h
    rw [e3]
    omega
theorem lt2_ups {n d : Nat} (hd : 0 < d) {x : Int} (h : lt2 n d x) : ∀ t : Nat, lt2 n d (x + t) := by
  intro t
  induction t with
  | zero => simpa using h
  | succ t ih =>
    have := lt2_up hd ih
    rw [show x + ((t + 1 : Nat) : Int) = x + t + 1 by omega]
    exact this
theorem lt2_mono {n d : Nat} (hd : 0 < d) {x y : Int} (h : lt2 n d x) (hxy : x ≤ y) : lt2 n d y := by
  have := lt2_ups hd h (y - x).toNat
  rw [show x + ((y - x).toNat : Int) = y by omega] at this
  exact this
/-- a factor 2 ^ P taken out -/
theorem lt2_p {n d P : Nat} {x : Int} : lt2 n d (x + P) ↔ n * 2 ^ (-x).toNat < d * 2 ^ x.toNat * 2 ^ P := by
  unfold lt2
  by_cases hx : 0 ≤ x
  · have e1 : (-(x + P)).toNat = 0 := by omega
    have e2 : (-x).toNat = 0 := by omega
    have e3 : (x + P).toNat = x.toNat + P := by omega
    rw [e1, e2, e3, Nat.mul_assoc, p2_add]
  · by_cases h2 : 0 ≤ x + P
    · have e1 : (-(x + P)).toNat = 0 := by omega
      have e2 : x.toNat = 0 := by omega
      have e3 : P = (x + P).toNat + (-x).toNat := by omega
      rw [e1, e2]
      conv => rhs; rw [e3]
      rw [← p2_add, Nat.pow_zero, Nat.mul_one, Nat.mul_one, ← Nat.mul_assoc]
      exact ⟨fun h => lt_mulr h (p2_pos _), fun h => Nat.lt_of_mul_lt_mul_right h⟩
    · have e1 : (x + P).toNat = 0 := by omega
      have e2 : x.toNat = 0 := by omega
      have e3 : (-x).toNat = (-(x + P)).toNat + P := by omega
      rw [e1, e2, e3, ← p2_add, Nat.pow_zero, Nat.mul_one, ← Nat.mul_assoc]
      exact ⟨fun h => lt_mulr h (p2_pos _), fun h => Nat.lt_of_mul_lt_mul_right h⟩
theorem ld_lt2 {n d : Nat} (hn : 0 < n) (hd : 0 < d) : ¬ lt2 n d (FP.Core.leading n d) ∧ lt2 n d (FP.Core.leading n d + 1) := by
  obtain ⟨h1, h2⟩ := ld_spec hn hd
  refine ⟨fun h => ?_, ?_⟩
  · unfold lt2 at h; omega
  · have := (lt2_p (n := n) (d := d) (P := 1) (x := FP.Core.leading n d)).mpr (by rw [Nat.pow_one]; omega)
    exact this
theorem nr_le {A B M : Nat} (hB : 0 < B) (h : A ≤ M * B) : FP.Core.nearest A B ≤ M := by
  have e := Nat.div_add_mod A B
  have l := Nat.mod_lt A hB
  have h2 : A / B ≤ M := Nat.div_le_of_le_mul (by rw [Nat.mul_comm]; exact h)
  unfold FP.Core.nearest
  by_cases q : A / B = M
  · have h3 : A % B = 0 := by
      rw [q, Nat.mul_comm] at e
      omega
    rw [if_pos (by omega)]
    omega
  · split
    · omega
    · split
      · omega
      · omega
theorem nr_ge {A B M : Nat} (hB : 0 < B) (h : M * B ≤ A) : M ≤ FP.Core.nearest A B := by
  have h2 : M ≤ A / B := (Nat.le_div_iff_mul_le hB).mpr h
  unfold FP.Core.nearest
  split
  · exact h2
  · split <;> omega
theorem nr_eq {B M : Nat} (hB : 0 < B) : FP.Core.nearest (M * B) B = M := Nat.le_antisymm (nr_le hB (Nat.le_refl _)) (nr_ge hB (Nat.le_refl _))
/-- what a rounding keeps -/
theorem rr_c (f : FP.Core.Fmt) (hp : 1 ≤ f.p) {n d : Nat} (hn : 0 < n) (hd : 0 < d) (e : Int) :
    FP.Core.nearest (FP.Core.unitsNum n e (FP.Core.quantum f n d e)) (FP.Core.unitsDen d e (FP.Core.quantum f n d e)) ≤ 2 ^ f.p ∧ (FP.Core.quantum f n d e = f.qmin ∨ f.tails ≤ FP.Core.nearest (FP.Core.unitsNum n e (FP.Core.quantum f n d e)) (FP.Core.unitsDen d e (FP.Core.quantum f n d e))) := by
  obtain ⟨h1, h2⟩ := ld_lt2 hn hd
  have hq1 : FP.Core.leading n d + e - ((f.p : Int) - 1) ≤ FP.Core.quantum f n d e := by unfold FP.Core.quantum; omega
  have hq2 : FP.Core.quantum f n d e = f.qmin ∨ FP.Core.quantum f n d e = FP.Core.leading n d + e - ((f.p : Int) - 1) := by unfold FP.Core.quantum; omega
  generalize FP.Core.quantum f n d e = q at *
  have hB : 0 < FP.Core.unitsDen d e q := Nat.mul_pos hd (p2_pos _)
  have hneg : (e - q).toNat = (-(q - e)).toNat := by congr 1; omega
  constructor
  · refine nr_le hB ?_
    have h3 := lt2_p.mp (lt2_mono hd h2 (show FP.Core.leading n d + 1 ≤ (q - e) + (f.p : Nat) by omega))
    unfold FP.Core.unitsNum FP.Core.unitsDen
    rw [hneg, Nat.mul_comm (2 ^ f.p)]
    omega
  · rcases hq2 with h | h
    · exact Or.inl h
    · refine Or.inr (nr_ge hB ?_)
      have h3 : ¬ lt2 n d ((q - e) + ((f.p - 1 : Nat) : Int)) := by
        rw [show (q - e) + ((f.p - 1 : Nat) : Int) = FP.Core.leading n d by omega]; exact h1
      rw [lt2_p] at h3
      unfold FP.Core.unitsNum FP.Core.unitsDen FP.Core.Fmt.tails
      rw [hneg, Nat.mul_comm (2 ^ (f.p - 1))]
      omega
theorem rr_ex (f : FP.Core.Fmt) (hp : 1 ≤ f.p) (s : Bool) {n d c : Nat} {e q : Int} (hd : 0 < d) (hc1 : f.tails ≤ c) (hc2 : c < 2 ^ f.p) (hq1 : f.qmin ≤ q) (hq2 : q ≤ f.qmax) (hv : n * 2 ^ (e - q).toNat = c * (d * 2 ^ (q - e).toNat)) : FP.Core.roundRatio f s n d e = .fin s c q := by
  have ht : 0 < f.tails := p2_pos _
  have hD : 0 < d * 2 ^ (q - e).toNat := Nat.mul_pos hd (p2_pos _)
  have hn : 0 < n := by
    rcases Nat.eq_zero_or_pos n with z | z
    · rw [z, Nat.zero_mul] at hv
      have := Nat.mul_pos (show 0 < c by omega) hD
      omega
    · exact z
  obtain ⟨h1, h2⟩ := ld_lt2 hn hd
  have hneg : (e - q).toNat = (-(q - e)).toNat := by congr 1; omega
  have k1 : lt2 n d ((q - e) + (f.p : Nat)) := by
    rw [lt2_p, ← hneg, hv, Nat.mul_comm c]
    exact Nat.mul_lt_mul_of_pos_left hc2 hD
  have k2 : ¬ lt2 n d ((q - e) + ((f.p - 1 : Nat) : Int)) := by
    rw [lt2_p, ← hneg, hv, Nat.mul_comm c]
    exact Nat.not_lt.mpr (Nat.mul_le_mul_left _ hc1)
  have k3 : ¬ ((q - e) + (f.p : Int) ≤ FP.Core.leading n d) := fun z => h1 (lt2_mono hd k1 z)
  have k4 : ¬ (FP.Core.leading n d + 1 ≤ (q - e) + ((f.p - 1 : Nat) : Int)) := fun z => k2 (lt2_mono hd h2 z)
  have hq : FP.Core.quantum f n d e = q := by unfold FP.Core.quantum; omega
  unfold FP.Core.roundRatio
  rw [if_neg (by omega), hq]
  unfold FP.Core.roundAt FP.Core.unitsNum FP.Core.unitsDen
  rw [hv, nr_eq hD]
  unfold FP.Core.settle
  rw [if_pos hc2]
  unfold FP.Core.bound
  rw [if_pos hq2]
/-- the double of the fields E, T -/
abbrev dE (E T : Nat) : UInt64 := UInt64.ofNat (E * 4503599627370496 + T)
abbrev fE (E T : Nat) : UInt32 := UInt32.ofNat (E * 8388608 + T)
theorem dE_n {E T : Nat} (hE : E < 2048) (hT : T < 4503599627370496) : (dE E T).toNat = E * 4503599627370496 + T := UInt64.toNat_ofNat_of_lt (by show _ < 18446744073709551616; omega)
theorem fE_n {E T : Nat} (hE : E < 256) (hT : T < 8388608) : (fE E T).toNat = E * 8388608 + T := UInt32.toNat_ofNat_of_lt (by show _ < 4294967296; omega)
theorem dE_d {E T : Nat} (h1 : 0 < E) (hE : E < 2047) (hT : T < 4503599627370496) : FP.Core.decode FP.Core.b64 (dE E T).toNat = .fin false (4503599627370496 + T) ((E : Int) - 1075) := by
  rw [dE_n (by omega) hT]
  unfold FP.Core.decode FP.Core.fieldE FP.Core.fieldT FP.Core.fieldS
  rw [show FP.Core.b64.tails = 4503599627370496 by decide, show FP.Core.b64.exps = 2048 by decide, show FP.Core.b64.qmin = -1074 by decide]
  have e1 : (E * 4503599627370496 + T) / 4503599627370496 = E := by omega
  have e2 : (E * 4503599627370496 + T) % 4503599627370496 = T := by omega
  rw [e1, e2, Nat.mod_eq_of_lt (show E < 2048 by omega), if_neg (by omega), if_neg (by omega), show E / 2048 = 0 by omega]
  congr 1; omega
theorem fE_d {E T : Nat} (h1 : 0 < E) (hE : E < 255) (hT : T < 8388608) : FP.Core.decode FP.Core.b32 (fE E T).toNat = .fin false (8388608 + T) ((E : Int) - 150) := by
  rw [fE_n (by omega) hT]
  unfold FP.Core.decode FP.Core.fieldE FP.Core.fieldT FP.Core.fieldS
  rw [show FP.Core.b32.tails = 8388608 by decide, show FP.Core.b32.exps = 256 by decide, show FP.Core.b32.qmin = -149 by decide]
  have e1 : (E * 8388608 + T) / 8388608 = E := by omega
  have e2 : (E * 8388608 + T) % 8388608 = T := by omega
  rw [e1, e2, Nat.mod_eq_of_lt (show E < 256 by omega), if_neg (by omega), if_neg (by omega), show E / 256 = 0 by omega]
  congr 1; omega
theorem dE_e {c : Nat} {q : Int} (h1 : 4503599627370496 ≤ c) (hq : -1074 ≤ q) : UInt64.ofNat (FP.Core.encode FP.Core.b64 (.fin false c q)) = dE (q + 1075).toNat (c - 4503599627370496) := by
  show UInt64.ofNat (if c < FP.Core.b64.tails then _ else FP.Core.assemble FP.Core.b64 false ((q - FP.Core.b64.qmin).toNat + 1) (c - FP.Core.b64.tails)) = _
  unfold FP.Core.assemble
  rw [show FP.Core.b64.tails = 4503599627370496 by decide, show FP.Core.b64.exps = 2048 by decide, show FP.Core.b64.qmin = -1074 by decide, if_neg (by omega)]
  unfold dE
  congr 3
  show 0 * 2048 + _ = _
  omega
theorem fE_e {c : Nat} {q : Int} (h1 : 8388608 ≤ c) (hq : -149 ≤ q) : UInt32.ofNat (FP.Core.encode FP.Core.b32 (.fin false c q)) = fE (q + 150).toNat (c - 8388608) := by
  show UInt32.ofNat (if c < FP.Core.b32.tails then _ else FP.Core.assemble FP.Core.b32 false ((q - FP.Core.b32.qmin).toNat + 1) (c - FP.Core.b32.tails)) = _
  unfold FP.Core.assemble
  rw [show FP.Core.b32.tails = 8388608 by decide, show FP.Core.b32.exps = 256 by decide, show FP.Core.b32.qmin = -149 by decide, if_neg (by omega)]
  unfold fE
  congr 3
  show 0 * 256 + _ = _
  omega
theorem dE_0 : FP.Core.decode FP.Core.b64 (0 : UInt64).toNat = .fin false 0 (-1074) := by decide
theorem fE_0 : FP.Core.decode FP.Core.b32 (0 : UInt32).toNat = .fin false 0 (-149) := by decide
/-- twice -/
theorem d_x2 {E T : Nat} (h1 : 0 < E) (hE : E < 2046) (hT : T < 4503599627370496) : FP.dmul (dE E T) (dE 1024 0) = dE (E + 1) T := by
  show UInt64.ofNat (FP.Core.encode FP.Core.b64 (FP.Core.round FP.Core.b64 (FP.Core.exactProduct (FP.Core.decode FP.Core.b64 (dE E T).toNat) (FP.Core.decode FP.Core.b64 (dE 1024 0).toNat)))) = _
  rw [dE_d h1 (by omega) hT, dE_d (by omega) (by omega) (by omega)]
  show UInt64.ofNat (FP.Core.encode FP.Core.b64 (FP.Core.roundRatio FP.Core.b64 false ((4503599627370496 + T) * (4503599627370496 + 0)) 1 (((E : Int) - 1075) + ((1024 : Nat) - 1075)))) = _
  rw [rr_ex FP.Core.b64 (by decide) false (c := 4503599627370496 + T) (q := (E : Int) - 1074) (by decide) (by rw [show FP.Core.b64.tails = 4503599627370496 by decide]; omega) (by rw [show (2 : Nat) ^ FP.Core.b64.p = 9007199254740992 by decide]; omega) (by rw [show FP.Core.b64.qmin = -1074 by decide]; omega) (by rw [show FP.Core.b64.qmax = 971 by decide]; omega) ?_]
  · rw [dE_e (by omega) (by omega), show ((E : Int) - 1074 + 1075).toNat = E + 1 by omega, show 4503599627370496 + T - 4503599627370496 = T by omega]
  · rw [show ((((E : Int) - 1075) + ((1024 : Nat) - 1075)) - ((E : Int) - 1074)).toNat = 0 by omega, show (((E : Int) - 1074) - (((E : Int) - 1075) + ((1024 : Nat) - 1075))).toNat = 52 by omega]
    omega
theorem d_h2 {E T : Nat} (h1 : 1 < E) (hE : E < 2047) (hT : T < 4503599627370496) : FP.ddiv (dE E T) (dE 1024 0) = dE (E - 1) T := by
  show UInt64.ofNat (FP.Core.encode FP.Core.b64 (FP.Core.quotient FP.Core.b64 (FP.Core.decode FP.Core.b64 (dE E T).toNat) (FP.Core.decode FP.Core.b64 (dE 1024 0).toNat))) = _
  rw [dE_d (by omega) hE hT, dE_d (by omega) (by omega) (by omega)]
  show UInt64.ofNat (FP.Core.encode FP.Core.b64 (FP.Core.roundRatio FP.Core.b64 false (4503599627370496 + T) (4503599627370496 + 0) (((E : Int) - 1075) - ((1024 : Nat) - 1075)))) = _
  rw [rr_ex FP.Core.b64 (by decide) false (c := 4503599627370496 + T) (q := (E : Int) - 1076) (by decide) (by rw [show FP.Core.b64.tails = 4503599627370496 by decide]; omega) (by rw [show (2 : Nat) ^ FP.Core.b64.p = 9007199254740992 by decide]; omega) (by rw [show FP.Core.b64.qmin = -1074 by decide]; omega) (by rw [show FP.Core.b64.qmax = 971 by decide]; omega) ?_]
  · rw [dE_e (by omega) (by omega), show ((E : Int) - 1076 + 1075).toNat = E - 1 by omega, show 4503599627370496 + T - 4503599627370496 = T by omega]
  · rw [show ((((E : Int) - 1075) - ((1024 : Nat) - 1075)) - ((E : Int) - 1076)).toNat = 52 by omega, show (((E : Int) - 1076) - (((E : Int) - 1075) - ((1024 : Nat) - 1075))).toNat = 0 by omega]
/-- comparing with 1 and 2 -/
theorem cmp_nat (a b : Nat) : compare (a : Int) (b : Int) = if a < b then .lt else if a = b then .eq else .gt := by
  rw [show compare (a : Int) (b : Int) = if (a : Int) < b then .lt else if (a : Int) = b then .eq else .gt from rfl]
  by_cases h : a < b
  · rw [if_pos h, if_pos (by omega)]
  · by_cases h2 : a = b
    · rw [if_neg h, if_pos h2, if_neg (by omega), if_pos (by omega)]
    · rw [if_neg h, if_neg h2, if_neg (by omega), if_neg (by omega)]
theorem d_cmp {E T F : Nat} (h1 : 0 < E) (hE : E < 2047) (hT : T < 4503599627370496) (g1 : 0 < F) (hF : F < 2047) : FP.dcmp (dE E T) (dE F 0) = if E < F then some .lt else if E = F ∧ T = 0 then some .eq else some .gt := by
  show FP.Core.order (FP.Core.decode FP.Core.b64 (dE E T).toNat) (FP.Core.decode FP.Core.b64 (dE F 0).toNat) = _
  rw [dE_d h1 hE hT, dE_d g1 hF (by omega)]
  show some (compare (((4503599627370496 + T) * 2 ^ (((E : Int) - 1075) - min ((E : Int) - 1075) ((F : Int) - 1075)).toNat : Nat) : Int) (((4503599627370496 + 0) * 2 ^ (((F : Int) - 1075) - min ((E : Int) - 1075) ((F : Int) - 1075)).toNat : Nat) : Int)) = _
  rw [cmp_nat]
  by_cases h : E < F
  · obtain ⟨x, hx⟩ := Nat.exists_eq_add_of_lt h
    subst hx
    rw [show ((((E : Nat) : Int) - 1075) - min ((E : Int) - 1075) (((E + x + 1 : Nat) : Int) - 1075)).toNat = 0 by omega, show ((((E + x + 1 : Nat) : Int) - 1075) - min ((E : Int) - 1075) (((E + x + 1 : Nat) : Int) - 1075)).toNat = x + 1 by omega, Nat.pow_succ]
    have := p2_pos x
    rw [if_pos h, if_pos (by omega)]
  · rw [if_neg h]
    obtain ⟨x, hx⟩ := Nat.exists_eq_add_of_le (Nat.not_lt.mp h)
    subst hx
    rw [show ((((F + x : Nat) : Int) - 1075) - min (((F + x : Nat) : Int) - 1075) ((F : Int) - 1075)).toNat = x by omega, show (((F : Int) - 1075) - min (((F + x : Nat) : Int) - 1075) ((F : Int) - 1075)).toNat = 0 by omega, Nat.pow_zero]
    have hx1 := p2_pos x
    have h3 : (4503599627370496 + T) * 1 ≤ (4503599627370496 + T) * 2 ^ x := Nat.mul_le_mul_left _ hx1
    rw [if_neg (by omega)]
    by_cases h4 : F + x = F ∧ T = 0
    · obtain ⟨h5, rfl⟩ := h4
      obtain rfl : x = 0 := by omega
      rw [if_pos (by omega), if_pos ⟨h5, rfl⟩]
    · rw [if_neg h4, if_neg ?_]
      intro q
      rcases Nat.eq_zero_or_pos x with z | z
      · subst z
        rw [Nat.pow_zero] at q
        exact h4 ⟨rfl, by omega⟩
      · have h6 : 2 ≤ 2 ^ x := by
          have := Nat.pow_le_pow_right (show 0 < 2 by decide) z
          simpa using this
        have := Nat.mul_le_mul_left (4503599627370496 + T) h6
        omega
theorem d_cmp0 {E T : Nat} (h1 : 0 < E) (hE : E < 2047) (hT : T < 4503599627370496) : FP.dcmp (dE E T) 0 = some .gt := by
  show FP.Core.order (FP.Core.decode FP.Core.b64 (dE E T).toNat) (FP.Core.decode FP.Core.b64 (0 : UInt64).toNat) = _
  rw [dE_d h1 hE hT, dE_0]
  show some (compare (((4503599627370496 + T) * 2 ^ (((E : Int) - 1075) - min ((E : Int) - 1075) (-1074)).toNat : Nat) : Int) ((0 * 2 ^ ((-1074) - min ((E : Int) - 1075) (-1074)).toNat : Nat) : Int)) = _
  rw [cmp_nat]
  have hx1 := p2_pos (((E : Int) - 1075) - min ((E : Int) - 1075) (-1074)).toNat
  have h3 := Nat.mul_le_mul_left (4503599627370496 + T) hx1
  rw [if_neg (by omega), if_neg (by omega)]
/-- a value put into the format unchanged: T * 2 ^ e -/
theorem d_norm {T : Nat} (hT : 0 < T) (h2 : T < 9007199254740992) {e : Int} (he : -1022 ≤ e) (he2 : e ≤ 900) : ∃ j : Nat, j ≤ 52 ∧ 4503599627370496 ≤ T * 2 ^ j ∧ T * 2 ^ j < 9007199254740992 ∧ FP.Core.roundRatio FP.Core.b64 false T 1 e = .fin false (T * 2 ^ j) (e - j) := by
  have a1 := Nat.log2_self_le (n := T) (by omega)
  have a2 := Nat.lt_log2_self (n := T)
  have a3 : T.log2 < 53 := by
    refine Nat.lt_of_not_le fun q => ?_
    have := Nat.pow_le_pow_right (show 0 < 2 by decide) q
    have e1 : (2 : Nat) ^ 53 = 9007199254740992 := by decide
    omega
  have b1 := Nat.mul_le_mul_right (2 ^ (52 - T.log2)) a1
  have b2 := Nat.mul_lt_mul_of_pos_right a2 (p2_pos (52 - T.log2))
  rw [p2_add, show T.log2 + (52 - T.log2) = 52 by omega] at b1
  rw [p2_add, show T.log2 + 1 + (52 - T.log2) = 53 by omega] at b2
  have e1 : (2 : Nat) ^ 53 = 9007199254740992 := by decide
  have e2 : (2 : Nat) ^ 52 = 4503599627370496 := by decide
  refine ⟨52 - T.log2, by omega, by omega, by omega, ?_⟩
  refine rr_ex FP.Core.b64 (by decide) false (by decide) (by rw [show FP.Core.b64.tails = 4503599627370496 by decide]; omega) (by rw [show (2 : Nat) ^ FP.Core.b64.p = 9007199254740992 by decide]; omega) (by rw [show FP.Core.b64.qmin = -1074 by decide]; omega) (by rw [show FP.Core.b64.qmax = 971 by decide]; omega) ?_
  rw [show (e - (e - ((52 - T.log2 : Nat) : Int))).toNat = 52 - T.log2 by omega, show ((e - ((52 - T.log2 : Nat) : Int)) - e).toNat = 0 by omega, Nat.pow_zero, Nat.mul_one]
theorem f_norm {T : Nat} (hT : 0 < T) (h2 : T < 16777216) {e : Int} (he : -120 ≤ e) (he2 : e ≤ 100) : ∃ j : Nat, j ≤ 23 ∧ 8388608 ≤ T * 2 ^ j ∧ T * 2 ^ j < 16777216 ∧ FP.Core.roundRatio FP.Core.b32 false T 1 e = .fin false (T * 2 ^ j) (e - j) := by
  have a1 := Nat.log2_self_le (n := T) (by omega)
  have a2 := Nat.lt_log2_self (n := T)
  have a3 : T.log2 < 24 := by
    refine Nat.lt_of_not_le fun q => ?_
    have := Nat.pow_le_pow_right (show 0 < 2 by decide) q
    have e1 : (2 : Nat) ^ 24 = 16777216 := by decide
    omega
  have b1 := Nat.mul_le_mul_right (2 ^ (23 - T.log2)) a1
  have b2 := Nat.mul_lt_mul_of_pos_right a2 (p2_pos (23 - T.log2))
  rw [p2_add, show T.log2 + (23 - T.log2) = 23 by omega] at b1
  rw [p2_add, show T.log2 + 1 + (23 - T.log2) = 24 by omega] at b2
  have e1 : (2 : Nat) ^ 24 = 16777216 := by decide
  have e2 : (2 : Nat) ^ 23 = 8388608 := by decide
  refine ⟨23 - T.log2, by omega, by omega, by omega, ?_⟩
  refine rr_ex FP.Core.b32 (by decide) false (by decide) (by rw [show FP.Core.b32.tails = 8388608 by decide]; omega) (by rw [show (2 : Nat) ^ FP.Core.b32.p = 16777216 by decide]; omega) (by rw [show FP.Core.b32.qmin = -149 by decide]; omega) (by rw [show FP.Core.b32.qmax = 104 by decide]; omega) ?_
  rw [show (e - (e - ((23 - T.log2 : Nat) : Int))).toNat = 23 - T.log2 by omega, show ((e - ((23 - T.log2 : Nat) : Int)) - e).toNat = 0 by omega, Nat.pow_zero, Nat.mul_one]
theorem i2d_p {x : Int32} {a : Nat} (hx : x.toInt = (a : Int)) (h0 : 0 < a) : ∃ j : Nat, j ≤ 52 ∧ 4503599627370496 ≤ a * 2 ^ j ∧ a * 2 ^ j < 9007199254740992 ∧ FP.i2d x = dE (1075 - j) (a * 2 ^ j - 4503599627370496) := by
  have hb := x.toInt_lt
  obtain ⟨j, h1, h2, h3, h4⟩ := d_norm h0 (show a < 9007199254740992 by omega) (show (-1022 : Int) ≤ 0 by decide) (by decide)
  refine ⟨j, h1, h2, h3, ?_⟩
  show UInt64.ofNat (FP.Core.encode FP.Core.b64 (FP.Core.round FP.Core.b64 (FP.Core.ofInt x.toInt))) = _
  rw [hx]
  show UInt64.ofNat (FP.Core.encode FP.Core.b64 (FP.Core.roundRatio FP.Core.b64 (decide ((a : Int) < 0)) a 1 0)) = _
  rw [show decide ((a : Int) < 0) = false from decide_eq_false (by omega), h4, dE_e h2 (by omega), show (0 - (j : Int) + 1075).toNat = 1075 - j by omega]
theorem i2d_0 {x : Int32} (hx : x.toInt = 0) : FP.i2d x = 0 := by
  show UInt64.ofNat (FP.Core.encode FP.Core.b64 (FP.Core.round FP.Core.b64 (FP.Core.ofInt x.toInt))) = _
  rw [hx]; decide
theorem i2f_p {x : Int32} {a : Nat} (hx : x.toInt = (a : Int)) (h0 : 0 < a) (ha : a < 16777216) : ∃ j : Nat, j ≤ 23 ∧ 8388608 ≤ a * 2 ^ j ∧ a * 2 ^ j < 16777216 ∧ FP.i2f x = fE (150 - j) (a * 2 ^ j - 8388608) := by
  obtain ⟨j, h1, h2, h3, h4⟩ := f_norm h0 ha (show (-120 : Int) ≤ 0 by decide) (by decide)
  refine ⟨j, h1, h2, h3, ?_⟩
  show UInt32.ofNat (FP.Core.encode FP.Core.b32 (FP.Core.round FP.Core.b32 (FP.Core.ofInt x.toInt))) = _
  rw [hx]
  show UInt32.ofNat (FP.Core.encode FP.Core.b32 (FP.Core.roundRatio FP.Core.b32 (decide ((a : Int) < 0)) a 1 0)) = _
  rw [show decide ((a : Int) < 0) = false from decide_eq_false (by omega), h4, fE_e h2 (by omega), show (0 - (j : Int) + 150).toNat = 150 - j by omega]
theorem i2f_0 {x : Int32} (hx : x.toInt = 0) : FP.i2f x = 0 := by
  show UInt32.ofNat (FP.Core.encode FP.Core.b32 (FP.Core.round FP.Core.b32 (FP.Core.ofInt x.toInt))) = _
  rw [hx]; decide
/-- the leading digit of a quotient of two numbers of like size -/
theorem ld_q {c d : Nat} (hc : 0 < c) (hd : 0 < d) (h1 : c < 2 * d) (h2 : d < 2 * c) : FP.Core.leading c d = -1 ∨ FP.Core.leading c d = 0 := by
  obtain ⟨k1, k2⟩ := ld_lt2 hc hd
  have a1 : lt2 c d 1 := by
    show c * 2 ^ 0 < d * 2 ^ 1
    omega
  have a2 : ¬ lt2 c d (-1) := by
    show ¬ c * 2 ^ 1 < d * 2 ^ 0
    omega
  have b1 : ¬ 1 ≤ FP.Core.leading c d := fun q => k1 (lt2_mono hd a1 q)
  have b2 : ¬ FP.Core.leading c d + 1 ≤ -1 := fun q => a2 (lt2_mono hd k2 q)
  omega
theorem d_div {E1 T1 E2 T2 : Nat} (h1 : 900 ≤ E1) (h1' : E1 < 1200) (hT1 : T1 < 4503599627370496) (h2 : 900 ≤ E2) (h2' : E2 < 1200) (hT2 : T2 < 4503599627370496) : ∃ E T : Nat, E1 + 1022 ≤ E + E2 ∧ E + E2 ≤ E1 + 1024 ∧ T < 4503599627370496 ∧ FP.ddiv (dE E1 T1) (dE E2 T2) = dE E T := by
  have hr := rr_c FP.Core.b64 (by decide) (n := 4503599627370496 + T1) (d := 4503599627370496 + T2) (by omega) (by omega) (((E1 : Int) - 1075) - ((E2 : Int) - 1075))
  have hl := ld_q (c := 4503599627370496 + T1) (d := 4503599627370496 + T2) (by omega) (by omega) (by omega) (by omega)
  have hq : FP.Core.quantum FP.Core.b64 (4503599627370496 + T1) (4503599627370496 + T2) (((E1 : Int) - 1075) - ((E2 : Int) - 1075)) = FP.Core.leading (4503599627370496 + T1) (4503599627370496 + T2) + (((E1 : Int) - 1075) - ((E2 : Int) - 1075)) - 52 := by
    unfold FP.Core.quantum
    rw [show FP.Core.b64.qmin = -1074 by decide, show (FP.Core.b64.p : Int) = 53 by decide]
    omega
  have e : FP.ddiv (dE E1 T1) (dE E2 T2) = UInt64.ofNat (FP.Core.encode FP.Core.b64 (FP.Core.roundRatio FP.Core.b64 false (4503599627370496 + T1) (4503599627370496 + T2) (((E1 : Int) - 1075) - ((E2 : Int) - 1075)))) := by
    show UInt64.ofNat (FP.Core.encode FP.Core.b64 (FP.Core.quotient FP.Core.b64 (FP.Core.decode FP.Core.b64 (dE E1 T1).toNat) (FP.Core.decode FP.Core.b64 (dE E2 T2).toNat))) = _
    rw [dE_d (by omega) (by omega) hT1, dE_d (by omega) (by omega) hT2]
    show UInt64.ofNat (FP.Core.encode FP.Core.b64 (if 4503599627370496 + T2 = 0 then _ else FP.Core.roundRatio FP.Core.b64 false (4503599627370496 + T1) (4503599627370496 + T2) (((E1 : Int) - 1075) - ((E2 : Int) - 1075)))) = _
    rw [if_neg (by omega)]
  rw [e]
  unfold FP.Core.roundRatio
  rw [if_neg (by omega)]
  unfold FP.Core.roundAt
  rw [show FP.Core.b64.tails = 4503599627370496 by decide, show FP.Core.b64.qmin = -1074 by decide, show (2 : Nat) ^ FP.Core.b64.p = 9007199254740992 by decide] at hr
  generalize FP.Core.nearest _ _ = c at *
  generalize FP.Core.quantum _ _ _ _ = q at *
  generalize FP.Core.leading _ _ = k at *
  unfold FP.Core.settle FP.Core.bound
  rw [show FP.Core.b64.tails = 4503599627370496 by decide, show FP.Core.b64.qmax = 971 by decide, show (2 : Nat) ^ FP.Core.b64.p = 9007199254740992 by decide]
  by_cases h : c < 9007199254740992
  · rw [if_pos h, if_pos (by omega), dE_e (by omega) (by omega)]
    exact ⟨_, _, by omega, by omega, by omega, rfl⟩
  · rw [if_neg h, if_pos (by omega), dE_e (by omega) (by omega)]
    exact ⟨_, _, by omega, by omega, by omega, rfl⟩
theorem f_div {E1 T1 E2 T2 : Nat} (h1 : 100 ≤ E1) (h1' : E1 < 160) (hT1 : T1 < 8388608) (h2 : 100 ≤ E2) (h2' : E2 < 160) (hT2 : T2 < 8388608) : ∃ E T : Nat, E1 + 126 ≤ E + E2 ∧ E + E2 ≤ E1 + 128 ∧ T < 8388608 ∧ FP.fdiv (fE E1 T1) (fE E2 T2) = fE E T := by
  have hr := rr_c FP.Core.b32 (by decide) (n := 8388608 + T1) (d := 8388608 + T2) (by omega) (by omega) (((E1 : Int) - 150) - ((E2 : Int) - 150))
  have hl := ld_q (c := 8388608 + T1) (d := 8388608 + T2) (by omega) (by omega) (by omega) (by omega)
  have hq : FP.Core.quantum FP.Core.b32 (8388608 + T1) (8388608 + T2) (((E1 : Int) - 150) - ((E2 : Int) - 150)) = FP.Core.leading (8388608 + T1) (8388608 + T2) + (((E1 : Int) - 150) - ((E2 : Int) - 150)) - 23 := by
    unfold FP.Core.quantum
    rw [show FP.Core.b32.qmin = -149 by decide, show (FP.Core.b32.p : Int) = 24 by decide]
    omega
  have e : FP.fdiv (fE E1 T1) (fE E2 T2) = UInt32.ofNat (FP.Core.encode FP.Core.b32 (FP.Core.roundRatio FP.Core.b32 false (8388608 + T1) (8388608 + T2) (((E1 : Int) - 150) - ((E2 : Int) - 150)))) := by
    show UInt32.ofNat (FP.Core.encode FP.Core.b32 (FP.Core.quotient FP.Core.b32 (FP.Core.decode FP.Core.b32 (fE E1 T1).toNat) (FP.Core.decode FP.Core.b32 (fE E2 T2).toNat))) = _
    rw [fE_d (by omega) (by omega) hT1, fE_d (by omega) (by omega) hT2]
    show UInt32.ofNat (FP.Core.encode FP.Core.b32 (if 8388608 + T2 = 0 then _ else FP.Core.roundRatio FP.Core.b32 false (8388608 + T1) (8388608 + T2) (((E1 : Int) - 150) - ((E2 : Int) - 150)))) = _
    rw [if_neg (by omega)]
  rw [e]
  unfold FP.Core.roundRatio
  rw [if_neg (by omega)]
  unfold FP.Core.roundAt
  rw [show FP.Core.b32.tails = 8388608 by decide, show FP.Core.b32.qmin = -149 by decide, show (2 : Nat) ^ FP.Core.b32.p = 16777216 by decide] at hr
  generalize FP.Core.nearest _ _ = c at *
  generalize FP.Core.quantum _ _ _ _ = q at *
  generalize FP.Core.leading _ _ = k at *
  unfold FP.Core.settle FP.Core.bound
  rw [show FP.Core.b32.tails = 8388608 by decide, show FP.Core.b32.qmax = 104 by decide, show (2 : Nat) ^ FP.Core.b32.p = 16777216 by decide]
  by_cases h : c < 16777216
  · rw [if_pos h, if_pos (by omega), fE_e (by omega) (by omega)]
    exact ⟨_, _, by omega, by omega, by omega, rfl⟩
  · rw [if_neg h, if_pos (by omega), fE_e (by omega) (by omega)]
    exact ⟨_, _, by omega, by omega, by omega, rfl⟩
/-- nothing divided is nothing -/
theorem d_div0 {E T : Nat} (h1 : 0 < E) (hE : E < 2047) (hT : T < 4503599627370496) : FP.ddiv 0 (dE E T) = 0 := by
  show UInt64.ofNat (FP.Core.encode FP.Core.b64 (FP.Core.quotient FP.Core.b64 (FP.Core.decode FP.Core.b64 (0 : UInt64).toNat) (FP.Core.decode FP.Core.b64 (dE E T).toNat))) = _
  rw [dE_d h1 hE hT, dE_0]
  show UInt64.ofNat (FP.Core.encode FP.Core.b64 (if 4503599627370496 + T = 0 then _ else FP.Core.roundRatio FP.Core.b64 false 0 (4503599627370496 + T) ((-1074) - ((E : Int) - 1075)))) = _
  rw [if_neg (by omega)]
  unfold FP.Core.roundRatio
  rw [if_pos rfl]
  decide
theorem f_div0 {E T : Nat} (h1 : 0 < E) (hE : E < 255) (hT : T < 8388608) : FP.fdiv 0 (fE E T) = 0 := by
  show UInt32.ofNat (FP.Core.encode FP.Core.b32 (FP.Core.quotient FP.Core.b32 (FP.Core.decode FP.Core.b32 (0 : UInt32).toNat) (FP.Core.decode FP.Core.b32 (fE E T).toNat))) = _
  rw [fE_d h1 hE hT, fE_0]
  show UInt32.ofNat (FP.Core.encode FP.Core.b32 (if 8388608 + T = 0 then _ else FP.Core.roundRatio FP.Core.b32 false 0 (8388608 + T) ((-149) - ((E : Int) - 150)))) = _
  rw [if_neg (by omega)]
  unfold FP.Core.roundRatio
  rw [if_pos rfl]
  decide
theorem d_mul2 {E T F : Nat} (h1 : 0 < E) (hE : E < 2047) (hT : T < 4503599627370496) (g1 : 0 < F) (hF : F < 2047) (h2 : 1023 < E + F) (h3 : E + F < 3070) : FP.dmul (dE E T) (dE F 0) = dE (E + F - 1023) T := by
  show UInt64.ofNat (FP.Core.encode FP.Core.b64 (FP.Core.round FP.Core.b64 (FP.Core.exactProduct (FP.Core.decode FP.Core.b64 (dE E T).toNat) (FP.Core.decode FP.Core.b64 (dE F 0).toNat)))) = _
  rw [dE_d h1 hE hT, dE_d g1 hF (by omega)]
  show UInt64.ofNat (FP.Core.encode FP.Core.b64 (FP.Core.roundRatio FP.Core.b64 false ((4503599627370496 + T) * (4503599627370496 + 0)) 1 (((E : Int) - 1075) + ((F : Int) - 1075)))) = _
  rw [rr_ex FP.Core.b64 (by decide) false (c := 4503599627370496 + T) (q := (E : Int) + F - 2098) (by decide) (by rw [show FP.Core.b64.tails = 4503599627370496 by decide]; omega) (by rw [show (2 : Nat) ^ FP.Core.b64.p = 9007199254740992 by decide]; omega) (by rw [show FP.Core.b64.qmin = -1074 by decide]; omega) (by rw [show FP.Core.b64.qmax = 971 by decide]; omega) ?_]
  · rw [dE_e (by omega) (by omega), show ((E : Int) + F - 2098 + 1075).toNat = E + F - 1023 by omega, show 4503599627370496 + T - 4503599627370496 = T by omega]
  · rw [show ((((E : Int) - 1075) + ((F : Int) - 1075)) - ((E : Int) + F - 2098)).toNat = 0 by omega, show (((E : Int) + F - 2098) - (((E : Int) - 1075) + ((F : Int) - 1075))).toNat = 52 by omega]
    omega
theorem d_mul0 {F : Nat} (g1 : 0 < F) (hF : F < 2047) : FP.dmul 0 (dE F 0) = 0 := by
  show UInt64.ofNat (FP.Core.encode FP.Core.b64 (FP.Core.round FP.Core.b64 (FP.Core.exactProduct (FP.Core.decode FP.Core.b64 (0 : UInt64).toNat) (FP.Core.decode FP.Core.b64 (dE F 0).toNat)))) = _
  rw [dE_0, dE_d g1 hF (by omega)]
  show UInt64.ofNat (FP.Core.encode FP.Core.b64 (FP.Core.roundRatio FP.Core.b64 false (0 * (4503599627370496 + 0)) 1 ((-1074) + ((F : Int) - 1075)))) = _
  unfold FP.Core.roundRatio
  rw [Nat.zero_mul, if_pos rfl]
  decide
/-- what is above 1 -/
theorem d_sub1 {T : Nat} (h0 : 0 < T) (hT : T < 4503599627370496) : ∃ j : Nat, j ≤ 52 ∧ 4503599627370496 ≤ T * 2 ^ j ∧ T * 2 ^ j < 9007199254740992 ∧ FP.dsub (dE 1023 T) (dE 1023 0) = dE (1023 - j) (T * 2 ^ j - 4503599627370496) := by
  obtain ⟨j, h1, h2, h3, h4⟩ := d_norm h0 (show T < 9007199254740992 by omega) (show (-1022 : Int) ≤ -52 by decide) (by decide)
  refine ⟨j, h1, h2, h3, ?_⟩
  show UInt64.ofNat (FP.Core.encode FP.Core.b64 (FP.Core.round FP.Core.b64 (FP.Core.exactSum (FP.Core.decode FP.Core.b64 (dE 1023 T).toNat) (FP.Core.negate (FP.Core.decode FP.Core.b64 (dE 1023 0).toNat))))) = _
  rw [dE_d (by decide) (by decide) hT, dE_d (by decide) (by decide) (by decide)]
  have e : FP.Core.sumUnits false (4503599627370496 + T) (((1023 : Nat) : Int) - 1075) true (4503599627370496 + 0) (((1023 : Nat) : Int) - 1075) (min (((1023 : Nat) : Int) - 1075) (((1023 : Nat) : Int) - 1075)) = (T : Int) := by
    show (((4503599627370496 + T) * 1 : Nat) : Int) + -(((4503599627370496 + 0) * 1 : Nat) : Int) = T
    omega
  show UInt64.ofNat (FP.Core.encode FP.Core.b64 (FP.Core.round FP.Core.b64 (.fin (FP.Core.sumSign false true (FP.Core.sumUnits false (4503599627370496 + T) (((1023 : Nat) : Int) - 1075) true (4503599627370496 + 0) (((1023 : Nat) : Int) - 1075) (min (((1023 : Nat) : Int) - 1075) (((1023 : Nat) : Int) - 1075)))) (FP.Core.sumUnits false (4503599627370496 + T) (((1023 : Nat) : Int) - 1075) true (4503599627370496 + 0) (((1023 : Nat) : Int) - 1075) (min (((1023 : Nat) : Int) - 1075) (((1023 : Nat) : Int) - 1075))).natAbs (-52)))) = _
  rw [e]
  unfold FP.Core.sumSign
  rw [if_neg (by omega), decide_eq_false (by omega)]
  show UInt64.ofNat (FP.Core.encode FP.Core.b64 (FP.Core.roundRatio FP.Core.b64 false T 1 (-52))) = _
  rw [h4, dE_e h2 (by omega), show (-52 - (j : Int) + 1075).toNat = 1023 - j by omega]
theorem d_sub0 : FP.dsub (dE 1023 0) (dE 1023 0) = 0 := by decide
theorem d_long {E T : Nat} (h1 : 1000 ≤ E) (hE : E ≤ 1075) (hT : T < 4503599627370496) : FP.d2l (dE E T) = Int64.ofInt (((4503599627370496 + T) / 2 ^ (1075 - E) : Nat) : Int) := by
  show FP.Core.toL (FP.Core.decode FP.Core.b64 (dE E T).toNat) = _
  rw [dE_d (by omega) (by omega) hT]
  show Int64.ofInt (max (-2 ^ 63) (min (2 ^ 63 - 1) ((((4503599627370496 + T) * 2 ^ ((E : Int) - 1075).toNat / 2 ^ (-((E : Int) - 1075)).toNat : Nat) : Int)))) = _
  rw [show ((E : Int) - 1075).toNat = 0 by omega, show (-((E : Int) - 1075)).toNat = 1075 - E by omega, Nat.pow_zero, Nat.mul_one]
  have h2 : (4503599627370496 + T) / 2 ^ (1075 - E) ≤ 4503599627370496 + T := Nat.div_le_self _ _
  generalize (4503599627370496 + T) / 2 ^ (1075 - E) = c at *
  have e63 : (2 : Int) ^ 63 = 9223372036854775808 := by decide
  rw [e63, Int.min_eq_right (by omega), Int.max_eq_right (by omega)]
theorem d_long0 : FP.d2l 0 = 0 := by
  show FP.Core.toL (FP.Core.decode FP.Core.b64 (0 : UInt64).toNat) = _
  rw [dE_0]
  show Int64.ofInt (max (-2 ^ 63) (min (2 ^ 63 - 1) (((0 * 2 ^ (-1074 : Int).toNat / 2 ^ (-(-1074) : Int).toNat : Nat) : Int)))) = _
  rw [Nat.zero_mul, Nat.zero_div]
  decide
/-- the fraction as a whole number of fb bits -/
theorem d_frac {T fb : Nat} (hT : T < 4503599627370496) (hf : fb ≤ 52) (hf2 : 10 ≤ fb) (hd : T % 2 ^ (52 - fb) = 0) : FP.d2l (FP.dmul (FP.dsub (dE 1023 T) (dE 1023 0)) (dE (1023 + fb) 0)) = Int64.ofInt ((T / 2 ^ (52 - fb) : Nat) : Int) := by
  rcases Nat.eq_zero_or_pos T with z | z
  · subst z
    rw [d_sub0, d_mul0 (by omega) (by omega), d_long0, Nat.zero_div]
    rfl
  · obtain ⟨j, h1, h2, h3, h4⟩ := d_sub1 z hT
    rw [h4, d_mul2 (by omega) (by omega) (by omega) (by omega) (by omega) (by omega) (by omega)]
    have hj : 52 - fb ≤ 52 - j := by
      refine Nat.le_of_not_lt fun q => ?_
      have a1 : 2 ^ (52 - fb) ≤ T := Nat.le_of_dvd z (Nat.dvd_of_mod_eq_zero hd)
      have a2 : 2 ^ (53 - j) ≤ 2 ^ (52 - fb) := Nat.pow_le_pow_right (by decide) (by omega)
      have a3 := Nat.mul_le_mul_right (2 ^ j) (Nat.le_trans a2 a1)
      rw [p2_add, show 53 - j + j = 53 by omega] at a3
      have : (2 : Nat) ^ 53 = 9007199254740992 := by decide
      omega
    rw [d_long (by omega) (by omega) (by omega), show 4503599627370496 + (T * 2 ^ j - 4503599627370496) = T * 2 ^ j by omega, show 1075 - (1023 - j + (1023 + fb) - 1023) = j + (52 - fb) by omega, ← p2_add, Nat.mul_comm T, Nat.mul_div_mul_left _ _ (p2_pos j)]
/-- a float as a double -/
theorem f_wide {E T : Nat} (h1 : 0 < E) (hE : E < 255) (hT : T < 8388608) : FP.f2d (fE E T) = dE (E + 896) (T * 536870912) := by
  have hd := fE_d h1 hE hT
  unfold FP.f2d
  have hn : FP.Core.fIsNaN (fE E T) = false := by
    show decide (FP.Core.decode FP.Core.b32 (fE E T).toNat = .nan) = false
    rw [hd]; rfl
  rw [hn, if_neg (by decide)]
  show UInt64.ofNat (FP.Core.encode FP.Core.b64 (FP.Core.round FP.Core.b64 (FP.Core.decode FP.Core.b32 (fE E T).toNat))) = _
  rw [hd]
  show UInt64.ofNat (FP.Core.encode FP.Core.b64 (FP.Core.roundRatio FP.Core.b64 false (8388608 + T) 1 ((E : Int) - 150))) = _
  rw [rr_ex FP.Core.b64 (by decide) false (c := (8388608 + T) * 536870912) (q := (E : Int) - 179) (by decide) (by rw [show FP.Core.b64.tails = 4503599627370496 by decide]; omega) (by rw [show (2 : Nat) ^ FP.Core.b64.p = 9007199254740992 by decide]; omega) (by rw [show FP.Core.b64.qmin = -1074 by decide]; omega) (by rw [show FP.Core.b64.qmax = 971 by decide]; omega) ?_]
  · rw [dE_e (by omega) (by omega), show ((E : Int) - 179 + 1075).toNat = E + 896 by omega, show (8388608 + T) * 536870912 - 4503599627370496 = T * 536870912 by omega]
  · rw [show (((E : Int) - 150) - ((E : Int) - 179)).toNat = 29 by omega, show (((E : Int) - 179) - ((E : Int) - 150)).toNat = 0 by omega]
    omega
theorem f_wide0 : FP.f2d 0 = 0 := by decide
/-- near and saved: a whole number of at most 23 bits by another -/
theorem f_quot {x y : Int32} {a b : Nat} (hx : x.toInt = (a : Int)) (hy : y.toInt = (b : Int)) (ha : a < 8388608) (h0 : 0 < a) (hb : 0 < b) (hb2 : b < 8388608) : ∃ E T : Nat, 102 ≤ E ∧ E ≤ 152 ∧ T < 8388608 ∧ FP.fdiv (FP.i2f x) (FP.i2f y) = fE E T := by
  obtain ⟨j1, p1, p2, p3, p4⟩ := i2f_p hx h0 (by omega)
  obtain ⟨j2, q1, q2, q3, q4⟩ := i2f_p hy hb (by omega)
  obtain ⟨E, T, r1, r2, r3, r4⟩ := f_div (E1 := 150 - j1) (E2 := 150 - j2) (by omega) (by omega) (show a * 2 ^ j1 - 8388608 < 8388608 by omega) (by omega) (by omega) (show b * 2 ^ j2 - 8388608 < 8388608 by omega)
  rw [p4, q4, r4]
  exact ⟨E, T, by omega, by omega, r3, rfl⟩
theorem f_quot0 {x y : Int32} {b : Nat} (hx : x.toInt = 0) (hy : y.toInt = (b : Int)) (hb : 0 < b) (hb2 : b < 8388608) : FP.fdiv (FP.i2f x) (FP.i2f y) = 0 := by
  obtain ⟨j2, q1, q2, q3, q4⟩ := i2f_p hy hb (by omega)
  rw [i2f_0 hx, q4, f_div0 (by omega) (by omega) (by omega)]
theorem d_quot {x y : Int32} {a b : Nat} (hx : x.toInt = (a : Int)) (hy : y.toInt = (b : Int)) (h0 : 0 < a) (hb : 0 < b) : ∃ E T : Nat, 970 ≤ E ∧ E ≤ 1080 ∧ T < 4503599627370496 ∧ FP.ddiv (FP.i2d x) (FP.i2d y) = dE E T := by
  obtain ⟨j1, p1, p2, p3, p4⟩ := i2d_p hx h0
  obtain ⟨j2, q1, q2, q3, q4⟩ := i2d_p hy hb
  obtain ⟨E, T, r1, r2, r3, r4⟩ := d_div (E1 := 1075 - j1) (E2 := 1075 - j2) (by omega) (by omega) (show a * 2 ^ j1 - 4503599627370496 < 4503599627370496 by omega) (by omega) (by omega) (show b * 2 ^ j2 - 4503599627370496 < 4503599627370496 by omega)
  rw [p4, q4, r4]
  exact ⟨E, T, by omega, by omega, r3, rfl⟩
theorem d_quot0 {x y : Int32} {b : Nat} (hx : x.toInt = 0) (hy : y.toInt = (b : Int)) (hb : 0 < b) : FP.ddiv (FP.i2d x) (FP.i2d y) = 0 := by
  obtain ⟨j2, q1, q2, q3, q4⟩ := i2d_p hy hb
  rw [i2d_0 hx, q4, d_div0 (by omega) (by omega) (by omega)]
