/-! ROWS OF G over natural numbers, and calls whose answer is known. -/
def Dn (g : Gp) (M : MI) (av : List Value) (m : Mm) (v : Option Value) (m' : Mm) : Prop := Cn g M av m (fun r m1 => r = .inl v ∧ m1 = m')
def Xn (g : Gp) (M : MI) (av : List Value) (m : Mm) (E : String) : Prop := Cn g M av m (fun r m1 => r = .inr E ∧ ∃ n, fz m ≤ n ∧ m1 = gr m n)
abbrev dQ (v : Option Value) (m' : Mm) : Rs → Mm → Prop := fun r m1 => r = .inl v ∧ m1 = m'
abbrev xQ (m : Mm) (E : String) : Rs → Mm → Prop := fun r m1 => r = .inr E ∧ ∃ n, fz m ≤ n ∧ m1 = gr m n

section GN
variable {g : Gp} {M : MI} {Q : Rs → Mm → Prop} {pc : Nat} {L : List (Nat × Value)} {st : List Value} {u : Nat × Nat} {m : Mm} {a b : Nat}
theorem gN_iconst {n : Int} (v : Nat) (hdg : decode (mC M) pc = .ok (.iconst n, 1)) (hv : Int32.ofInt n = nI v) (k : G g M Q (pc + 1) L (.int (nI v) :: st) u m) : G g M Q pc L st u m := g_iconst _ hdg hv k
theorem gN_bipush {n : Int} (v : Nat) (hdg : decode (mC M) pc = .ok (.bipush n, 2)) (hv : (Int8.ofInt n).toInt32 = nI v) (k : G g M Q (pc + 2) L (.int (nI v) :: st) u m) : G g M Q pc L st u m := g_bipush _ hdg hv k
theorem gN_sipush {n : Int} (v : Nat) (hdg : decode (mC M) pc = .ok (.sipush n, 3)) (hv : (Int16.ofInt n).toInt32 = nI v) (k : G g M Q (pc + 3) L (.int (nI v) :: st) u m) : G g M Q pc L st u m := g_sipush _ hdg hv k
theorem gN_iadd (r : Nat) (hdg : decode (mC M) pc = .ok (.iadd, 1)) (hr : a + b = r) (k : G g M Q (pc + 1) L (.int (nI r) :: st) u m) : G g M Q pc L (.int (nI b) :: .int (nI a) :: st) u m := g_iadd hdg (by rw [nI_add, hr]; exact k)
theorem gN_imul (r : Nat) (hdg : decode (mC M) pc = .ok (.imul, 1)) (hr : a * b = r) (k : G g M Q (pc + 1) L (.int (nI r) :: st) u m) : G g M Q pc L (.int (nI b) :: .int (nI a) :: st) u m := g_imul hdg (by rw [pk_mul, hr]; exact k)
theorem gN_isub (r : Nat) (hdg : decode (mC M) pc = .ok (.isub, 1)) (hle : b ≤ a) (hr : a - b = r) (k : G g M Q (pc + 1) L (.int (nI r) :: st) u m) : G g M Q pc L (.int (nI b) :: .int (nI a) :: st) u m := g_isub hdg (by rw [pk_sub hle, hr]; exact k)
theorem nI_ne0' {n : Nat} (h0 : 0 < n) (h : n < 2147483648) : ¬ nI n = 0 := nI_ne0 h0 h
theorem gN_idiv (r : Nat) (hdg : decode (mC M) pc = .ok (.idiv, 1)) (ha : a < 2147483648) (h0 : 0 < b) (hb : b < 2147483648) (hr : a / b = r) (k : G g M Q (pc + 1) L (.int (nI r) :: st) u m) : G g M Q pc L (.int (nI b) :: .int (nI a) :: st) u m := g_idiv hdg (nI_ne0' h0 hb) (by rw [pk_div ha h0 hb, hr]; exact k)
theorem gN_irem (r : Nat) (hdg : decode (mC M) pc = .ok (.irem, 1)) (ha : a < 2147483648) (h0 : 0 < b) (hb : b < 2147483648) (hr : a % b = r) (k : G g M Q (pc + 1) L (.int (nI r) :: st) u m) : G g M Q pc L (.int (nI b) :: .int (nI a) :: st) u m := g_irem hdg (nI_ne0' h0 hb) (by rw [pk_rem ha h0 hb, hr]; exact k)
theorem nI_lt' {a b : Nat} (ha : a < 2147483648) (hb : b < 2147483648) : nI a < nI b ↔ a < b := nI_ltI ha hb
theorem nI_le' {a b : Nat} (ha : a < 2147483648) (hb : b < 2147483648) : nI a ≤ nI b ↔ a ≤ b := nI_leI ha hb
theorem nI_eq' {a b : Nat} (ha : a < 2147483648) (hb : b < 2147483648) : nI a = nI b ↔ a = b := nI_eq ha hb
theorem gN_icmp_eq {off : Int} (tgt : Nat) (hdg : decode (mC M) pc = .ok (.if_icmp .eq off, 3)) (ht : (pc : Int) + off = (tgt : Int)) (ha : a < 2147483648) (hb : b < 2147483648) (kt : a = b → G g M Q tgt L st u m) (kf : ¬ a = b → G g M Q (pc + 3) L st u m) : G g M Q pc L (.int (nI b) :: .int (nI a) :: st) u m :=
  g_icmp_eq tgt hdg ht (fun h => kt ((nI_eq' ha hb).mp h)) (fun h => kf (fun z => h ((nI_eq' ha hb).mpr z)))
theorem gN_icmp_ne {off : Int} (tgt : Nat) (hdg : decode (mC M) pc = .ok (.if_icmp .ne off, 3)) (ht : (pc : Int) + off = (tgt : Int)) (ha : a < 2147483648) (hb : b < 2147483648) (kt : ¬ a = b → G g M Q tgt L st u m) (kf : a = b → G g M Q (pc + 3) L st u m) : G g M Q pc L (.int (nI b) :: .int (nI a) :: st) u m :=
  g_icmp_ne tgt hdg ht (fun h => kt (fun z => h ((nI_eq' ha hb).mpr z))) (fun h => kf ((nI_eq' ha hb).mp h))
theorem gN_icmp_lt {off : Int} (tgt : Nat) (hdg : decode (mC M) pc = .ok (.if_icmp .lt off, 3)) (ht : (pc : Int) + off = (tgt : Int)) (ha : a < 2147483648) (hb : b < 2147483648) (kt : a < b → G g M Q tgt L st u m) (kf : b ≤ a → G g M Q (pc + 3) L st u m) : G g M Q pc L (.int (nI b) :: .int (nI a) :: st) u m :=
  g_icmp_lt tgt hdg ht (fun h => kt ((nI_lt' ha hb).mp h)) (fun h => kf (Nat.not_lt.mp fun z => h ((nI_lt' ha hb).mpr z)))
theorem gN_icmp_ge {off : Int} (tgt : Nat) (hdg : decode (mC M) pc = .ok (.if_icmp .ge off, 3)) (ht : (pc : Int) + off = (tgt : Int)) (ha : a < 2147483648) (hb : b < 2147483648) (kt : b ≤ a → G g M Q tgt L st u m) (kf : a < b → G g M Q (pc + 3) L st u m) : G g M Q pc L (.int (nI b) :: .int (nI a) :: st) u m :=
  g_icmp_ge tgt hdg ht (fun h => kt ((nI_le' hb ha).mp h)) (fun h => kf (Nat.not_le.mp fun z => h ((nI_le' hb ha).mpr z)))
theorem gN_icmp_gt {off : Int} (tgt : Nat) (hdg : decode (mC M) pc = .ok (.if_icmp .gt off, 3)) (ht : (pc : Int) + off = (tgt : Int)) (ha : a < 2147483648) (hb : b < 2147483648) (kt : b < a → G g M Q tgt L st u m) (kf : a ≤ b → G g M Q (pc + 3) L st u m) : G g M Q pc L (.int (nI b) :: .int (nI a) :: st) u m :=
  g_icmp_gt tgt hdg ht (fun h => kt ((nI_lt' hb ha).mp h)) (fun h => kf (Nat.not_lt.mp fun z => h ((nI_lt' hb ha).mpr z)))
theorem gN_icmp_le {off : Int} (tgt : Nat) (hdg : decode (mC M) pc = .ok (.if_icmp .le off, 3)) (ht : (pc : Int) + off = (tgt : Int)) (ha : a < 2147483648) (hb : b < 2147483648) (kt : a ≤ b → G g M Q tgt L st u m) (kf : b < a → G g M Q (pc + 3) L st u m) : G g M Q pc L (.int (nI b) :: .int (nI a) :: st) u m :=
  g_icmp_le tgt hdg ht (fun h => kt ((nI_le' ha hb).mp h)) (fun h => kf (Nat.not_le.mp fun z => h ((nI_le' ha hb).mpr z)))
theorem nI_z {a : Nat} (ha : a < 2147483648) : nI a = 0 ↔ a = 0 := by rw [← nI_0]; exact nI_eq' ha (by decide)
theorem gN_if_eq {off : Int} (tgt : Nat) (hdg : decode (mC M) pc = .ok (.ifCond .eq off, 3)) (ht : (pc : Int) + off = (tgt : Int)) (ha : a < 2147483648) (kt : a = 0 → G g M Q tgt L st u m) (kf : ¬ a = 0 → G g M Q (pc + 3) L st u m) : G g M Q pc L (.int (nI a) :: st) u m :=
  g_if_eq tgt hdg ht (fun h => kt ((nI_z ha).mp h)) (fun h => kf (fun z => h ((nI_z ha).mpr z)))
theorem gN_if_ne {off : Int} (tgt : Nat) (hdg : decode (mC M) pc = .ok (.ifCond .ne off, 3)) (ht : (pc : Int) + off = (tgt : Int)) (ha : a < 2147483648) (kt : ¬ a = 0 → G g M Q tgt L st u m) (kf : a = 0 → G g M Q (pc + 3) L st u m) : G g M Q pc L (.int (nI a) :: st) u m :=
  g_if_ne tgt hdg ht (fun h => kt (fun z => h ((nI_z ha).mpr z))) (fun h => kf ((nI_z ha).mp h))
theorem gN_if_gt {off : Int} (tgt : Nat) (hdg : decode (mC M) pc = .ok (.ifCond .gt off, 3)) (ht : (pc : Int) + off = (tgt : Int)) (ha : a < 2147483648) (kt : 0 < a → G g M Q tgt L st u m) (kf : a = 0 → G g M Q (pc + 3) L st u m) : G g M Q pc L (.int (nI a) :: st) u m :=
  g_if_gt tgt hdg ht (fun h => kt ((nI_lt' (by decide) ha).mp (by rw [nI_0]; exact h))) (fun h => kf (by have := (nI_le' (b := 0) ha (by decide)).mp (by rw [nI_0]; first | exact h | exact Int32.not_lt.mp h); omega))
theorem gN_if_le {off : Int} (tgt : Nat) (hdg : decode (mC M) pc = .ok (.ifCond .le off, 3)) (ht : (pc : Int) + off = (tgt : Int)) (ha : a < 2147483648) (kt : a = 0 → G g M Q tgt L st u m) (kf : 0 < a → G g M Q (pc + 3) L st u m) : G g M Q pc L (.int (nI a) :: st) u m :=
  g_if_le tgt hdg ht (fun h => kt (by have := (nI_le' (b := 0) ha (by decide)).mp (by rw [nI_0]; exact h); omega)) (fun h => kf (by
    rcases Nat.eq_zero_or_pos a with z | z
    · subst z; exact absurd (show nI 0 ≤ 0 from by decide) h
    · exact z))
theorem gN_if_lt {off : Int} (tgt : Nat) (hdg : decode (mC M) pc = .ok (.ifCond .lt off, 3)) (ht : (pc : Int) + off = (tgt : Int)) (ha : a < 2147483648) (kf : G g M Q (pc + 3) L st u m) : G g M Q pc L (.int (nI a) :: st) u m :=
  g_if_lt tgt hdg ht (fun h => absurd h (nI_pos ha)) (fun _ => kf)
theorem gN_if_ge {off : Int} (tgt : Nat) (hdg : decode (mC M) pc = .ok (.ifCond .ge off, 3)) (ht : (pc : Int) + off = (tgt : Int)) (ha : a < 2147483648) (kt : G g M Q tgt L st u m) : G g M Q pc L (.int (nI a) :: st) u m :=
  g_if_ge tgt hdg ht (fun _ => kt) (fun h => absurd (show (0 : Int32) ≤ nI a from nI_pos' ha) (by first | exact h | exact Int32.not_le.mpr h | exact fun z => absurd z h))
theorem nI_tI {j n : Nat} (hj : j < n) (hn : n ≤ 2147483648) : (nI j).toInt = (j : Int) := nI_toInt (Nat.lt_of_lt_of_le hj hn)
theorem gN_iald {q j : Nat} (n : Nat) (ht : tg m q = (11, n)) (hj : j < n) (hn : n ≤ 2147483648) (hdg : decode (mC M) pc = .ok (.iaload, 1)) (kk : G g M Q (pc + 1) L (.int (im m q j) :: st) u m) : G g M Q pc L (.int (nI j) :: .ref q :: st) u m :=
  g_iald j (by rw [ht]) (nI_tI hj hn) (by rw [ht]; exact hj) hdg kk
theorem gN_iald19 {q j : Nat} (n : Nat) (ht : tg m q = (19, n)) (hj : j < n) (hn : n ≤ 2147483648) (hdg : decode (mC M) pc = .ok (.iaload, 1)) (kk : G g M Q (pc + 1) L (.int (im m q j) :: st) u m) : G g M Q pc L (.int (nI j) :: .ref q :: st) u m :=
  g_iald19 j (by rw [ht]) (nI_tI hj hn) (by rw [ht]; exact hj) hdg kk
theorem gN_iast {q j : Nat} {x : Int32} (n : Nat) (ht : tg m q = (11, n)) (hj : j < n) (hn : n ≤ 2147483648) (hdg : decode (mC M) pc = .ok (.iastore, 1)) (kk : G g M Q (pc + 1) L st u (sI m q j x)) : G g M Q pc L (.int x :: .int (nI j) :: .ref q :: st) u m :=
  g_iast j (by rw [ht]) (nI_tI hj hn) (by rw [ht]; exact hj) hdg kk
theorem gN_aald {q j : Nat} (κ n r : Nat) (ht : tg m q = (κ, n)) (hκ : 11 < κ ∧ κ < 18) (hj : j < n) (hn : n ≤ 2147483648) (hr : rf m q j = some r) (hdg : decode (mC M) pc = .ok (.aaload, 1)) (kk : G g M Q (pc + 1) L (.ref r :: st) u m) : G g M Q pc L (.int (nI j) :: .ref q :: st) u m :=
  g_aald j r (by rw [ht]; exact hκ) (nI_tI hj hn) (by rw [ht]; exact hj) hr hdg kk
theorem gN_alen {q : Nat} (κ n : Nat) (ht : tg m q = (κ, n)) (hκ : 11 ≤ κ ∧ κ < 20) (hdg : decode (mC M) pc = .ok (.arraylength, 1)) (kk : G g M Q (pc + 1) L (.int (nI n) :: st) u m) : G g M Q pc L (.ref q :: st) u m :=
  g_alen (by rw [ht]; exact hκ) hdg (by rw [ht]; exact kk)
theorem gN_getI {q i c k : Nat} (fl : fm_FL (mY M).cls i c k) (hty : fm_ty c k = .int) (n : Nat) (ht : tg m q = (c, n)) (hdg : decode (mC M) pc = .ok (.getfield i, 3)) (kk : G g M Q (pc + 3) L (.int (im m q k) :: st) u m) : G g M Q pc L (.ref q :: st) u m := g_getI fl hty (by rw [ht]) hdg kk
theorem gN_getJ {q i c k : Nat} (fl : fm_FL (mY M).cls i c k) (hty : fm_ty c k = .long) (n : Nat) (ht : tg m q = (c, n)) (hdg : decode (mC M) pc = .ok (.getfield i, 3)) (kk : G g M Q (pc + 3) L (.long (jm m q k) :: st) u m) : G g M Q pc L (.ref q :: st) u m := g_getJ fl hty (by rw [ht]) hdg kk
theorem gN_getR {q i c k : Nat} (r : Nat) (fl : fm_FL (mY M).cls i c k) (hty : ∀ I R J, fm_fv (fm_ty c k) I R J k = va_rf (R k)) (n : Nat) (ht : tg m q = (c, n)) (hr : rf m q k = some r) (hdg : decode (mC M) pc = .ok (.getfield i, 3)) (kk : G g M Q (pc + 3) L (.ref r :: st) u m) : G g M Q pc L (.ref q :: st) u m := g_getR r fl hty (by rw [ht]) hr hdg kk
theorem gN_putI {q i c k : Nat} {x : Int32} (fw : fm_FW (mY M).cls i c k) (hty : fm_ty c k = .int) (n : Nat) (ht : tg m q = (c, n)) (hdg : decode (mC M) pc = .ok (.putfield i, 3)) (kk : G g M Q (pc + 3) L st u (sI m q k x)) : G g M Q pc L (.int x :: .ref q :: st) u m := g_putI fw hty (by rw [ht]) hdg kk
theorem gN_putJ {q i c k : Nat} {x : Int64} (fw : fm_FW (mY M).cls i c k) (hty : fm_ty c k = .long) (n : Nat) (ht : tg m q = (c, n)) (hdg : decode (mC M) pc = .ok (.putfield i, 3)) (kk : G g M Q (pc + 3) L st u (sJ m q k x)) : G g M Q pc L (.long x :: .ref q :: st) u m := g_putJ fw hty (by rw [ht]) hdg kk
theorem gN_putR {q i c k r : Nat} (fw : fm_FW (mY M).cls i c k) (hty : fm_rt (fm_ty c k) = true) (n : Nat) (ht : tg m q = (c, n)) (hdg : decode (mC M) pc = .ok (.putfield i, 3)) (kk : G g M Q (pc + 3) L st u (sR m q k (some r))) : G g M Q pc L (.ref r :: .ref q :: st) u m := g_putR fw hty (by rw [ht]) hdg kk
/-! calls whose answer is known, of methods that make nothing -/
abbrev fm_z (My : MI) : Prop := (mR My).cells = 0 ∧ (mR My).slots = 0
theorem g_u0 {My : MI} (hz : fm_z My) {v : Option Value} {rest : List Value} {m1 : Mm} (k : G g M Q pc L (v.toList ++ rest) u m1) : G g M Q pc L (v.toList ++ rest) (u.1 + (mR My).cells, u.2 + (mR My).slots) m1 := by
  rw [hz.1, hz.2]; exact k
theorem g_b0 {My : MI} (hz : fm_z My) (hu : u.1 ≤ (mR M).cells ∧ u.2 ≤ (mR M).slots) : u.1 + (mR My).cells ≤ (mR M).cells ∧ u.2 + (mR My).slots ≤ (mR M).slots := by
  rw [hz.1, hz.2]; exact hu
theorem gd_callS {i n : Nat} {My : MI} (v : Option Value) (m1 : Mm) (av rest : List Value) (hC : Dn g My av m v m1) (hz : fm_z My) (hM : fm_M My n) (hlk : Cond.methodLink (mY M).cls i (mY My) ∈ wA) (hst : Cond.static (mY My) ∈ wA) (hn : av.length = n) (hfit : fm_fit M My) (hrest : (rest.map fun v => v.category).sum ≤ 8) (hu : u.1 ≤ (mR M).cells ∧ u.2 ≤ (mR M).slots) (hdg : decode (mC M) pc = .ok (.invokestatic i, 3)) (hstk : st = av.reverse ++ rest) (k : G g M Q (pc + 3) L (v.toList ++ rest) u m1) : G g M Q pc L st u m :=
  g_callS av rest hC hM hlk hst hn hfit hrest (g_b0 hz hu) hdg hstk (fun v' m' h => by obtain ⟨h1, h2⟩ := h; cases h1; cases h2; exact g_u0 hz k) (fun E m' h => by cases h.1)
theorem gd_callSN {i n : Nat} {host : String} {My : MI} (v : Option Value) (m1 : Mm) (av rest : List Value) (hC : Dn g My av m v m1) (hz : fm_z My) (hM : fm_M My n) (hlk : Cond.methodLinkNest (mY M).cls i (mY My) host ∈ wN) (hst : Cond.static (mY My) ∈ wA) (hn : av.length = n) (hfit : fm_fit M My) (hrest : (rest.map fun v => v.category).sum ≤ 8) (hu : u.1 ≤ (mR M).cells ∧ u.2 ≤ (mR M).slots) (hdg : decode (mC M) pc = .ok (.invokestatic i, 3)) (hstk : st = av.reverse ++ rest) (k : G g M Q (pc + 3) L (v.toList ++ rest) u m1) : G g M Q pc L st u m :=
  g_callSN av rest hC hM hlk hst hn hfit hrest (g_b0 hz hu) hdg hstk (fun v' m' h => by obtain ⟨h1, h2⟩ := h; cases h1; cases h2; exact g_u0 hz k) (fun E m' h => by cases h.1)
theorem gd_callV {i n q : Nat} {My : MI} {r : vw_C} (v : Option Value) (m1 : Mm) (av rest : List Value) (hC : Dn g My (.ref q :: av) m v m1) (hz : fm_z My) (hM : fm_M My n) (hlk : Cond.methodLink (mY M).cls i (mY My) ∈ wA) (hin : Cond.instanceMethod (mY My) ∈ wA) (hse : Cond.selects (mY My).cls (mY My) (mY My) ∈ wA) (κ ln : Nat) (ht : tg m q = (κ, ln)) (hr : vwCl[κ]? = some r) (hre : r.1 = (mY My).cls) (hn : av.length = n) (hfit : fm_fit M My) (hrest : (rest.map fun v => v.category).sum ≤ 8) (hu : u.1 ≤ (mR M).cells ∧ u.2 ≤ (mR M).slots) (hdg : decode (mC M) pc = .ok (.invokevirtual i, 3)) (hstk : st = av.reverse ++ .ref q :: rest) (k : G g M Q (pc + 3) L (v.toList ++ rest) u m1) : G g M Q pc L st u m :=
  g_callV av rest hC hM hlk hin hse (by rw [ht]; exact hr) hre hn hfit hrest (g_b0 hz hu) hdg hstk (fun v' m' h => by obtain ⟨h1, h2⟩ := h; cases h1; cases h2; exact g_u0 hz k) (fun E m' h => by cases h.1)
/-! calls that throw -/
theorem gx_callS {i n : Nat} {My : MI} {E : String} (av rest : List Value) (hC : Xn g My av m E) (hM : fm_M My n) (hlk : Cond.methodLink (mY M).cls i (mY My) ∈ wA) (hst : Cond.static (mY My) ∈ wA) (hn : av.length = n) (hfit : fm_fit M My) (hrest : (rest.map fun v => v.category).sum ≤ 8) (hu : u.1 + (mR My).cells ≤ (mR M).cells ∧ u.2 + (mR My).slots ≤ (mR M).slots) (hdg : decode (mC M) pc = .ok (.invokestatic i, 3)) (hstk : st = av.reverse ++ rest) (k : ∀ n, fz m ≤ n → Q (.inr E) (gr m n)) : G g M Q pc L st u m :=
  g_callS av rest hC hM hlk hst hn hfit hrest hu hdg hstk (fun v' m' h => by cases h.1) (fun E m' h => by obtain ⟨h1, n, h2, h3⟩ := h; cases h1; cases h3; exact k n h2)
end GN
