/-! THE CLASS: counting bits, greater and less; a row of words -/
def usr (x : Int32) (k : Nat) : Int32 := (x.toUInt32 >>> ((nI k).toUInt32 &&& Int32.toUInt32 31)).toInt32
def jb1 (x : Int32) : Int32 := x - (usr x 1 &&& 1431655765)
def jb2 (x : Int32) : Int32 := (x &&& 858993459) + (usr x 2 &&& 858993459)
def jb3 (x : Int32) : Int32 := (x + usr x 4) &&& 252645135
def jb4 (x : Int32) : Int32 := x + usr x 8
def jb5 (x : Int32) : Int32 := x + usr x 16
theorem bc_ok0 : ∀ a, a < 64 → ∀ b, b < 64 → (jb5 (jb4 (jb3 (jb2 (jb1 (nI (64 * a + b))))))) &&& nI 63 = nI (cb (nI (64 * a + b)) 12) := by decide +kernel
theorem bc_ok (n : Nat) (h : n < 4096) : (jb5 (jb4 (jb3 (jb2 (jb1 (nI n)))))) &&& nI 63 = nI (cb (nI n) 12) := by
  have := bc_ok0 (n / 64) (by omega) (n % 64) (by omega)
  rwa [show 64 * (n / 64) + n % 64 = n by omega] at this
set_option maxRecDepth 100000 in
theorem cn_J6_bitCount_0f7a4 (g : Gp) (cs : Nat × Nat) {m : Mm} {x : Int32} (h : ∀ p, 12 ≤ p → bt x p = false) : Dn g (MJ6_bitCount_0f7a4 cs) [.int x] m (some (.int (nI (cb x 12)))) m := by
  obtain ⟨n, hn, rfl⟩ := b_small h
  refine Cn.ofF pn_Jbc (Nat.le_of_ble_eq_true rfl) rfl ?_
  refine g_iload_n 0 dJ6_bitCount_0f7a4_0 rfl rfl ?_
  refine g_iload_n 0 dJ6_bitCount_0f7a4_1 rfl rfl ?_
  refine gN_iconst 1 dJ6_bitCount_0f7a4_2 (by decide) ?_
  refine g_iushr dJ6_bitCount_0f7a4_3 ?_
  refine g_ldcw dJ6_bitCount_0f7a4_4 kcJ6_265 ?_
  refine g_iand dJ6_bitCount_0f7a4_7 ?_
  refine g_isub dJ6_bitCount_0f7a4_8 ?_
  refine g_topi (fun v0_9 ev0_9 => ?_)
  refine g_istore_n 0 [(0, .int (v0_9))] dJ6_bitCount_0f7a4_9 rfl (Nat.le_of_ble_eq_true rfl) rfl ?_
  refine g_iload_n 0 dJ6_bitCount_0f7a4_10 rfl rfl ?_
  refine g_ldcw dJ6_bitCount_0f7a4_11 kcJ6_266 ?_
  refine g_iand dJ6_bitCount_0f7a4_14 ?_
  refine g_iload_n 0 dJ6_bitCount_0f7a4_15 rfl rfl ?_
  refine gN_iconst 2 dJ6_bitCount_0f7a4_16 (by decide) ?_
  refine g_iushr dJ6_bitCount_0f7a4_17 ?_
  refine g_ldcw dJ6_bitCount_0f7a4_18 kcJ6_266 ?_
  refine g_iand dJ6_bitCount_0f7a4_21 ?_
  refine g_iadd dJ6_bitCount_0f7a4_22 ?_
  refine g_topi (fun v0_23 ev0_23 => ?_)
  refine g_istore_n 0 [(0, .int (v0_23))] dJ6_bitCount_0f7a4_23 rfl (Nat.le_of_ble_eq_true rfl) rfl ?_
  refine g_iload_n 0 dJ6_bitCount_0f7a4_24 rfl rfl ?_
  refine g_iload_n 0 dJ6_bitCount_0f7a4_25 rfl rfl ?_
  refine gN_iconst 4 dJ6_bitCount_0f7a4_26 (by decide) ?_
  refine g_iushr dJ6_bitCount_0f7a4_27 ?_
  refine g_iadd dJ6_bitCount_0f7a4_28 ?_
  refine g_ldcw dJ6_bitCount_0f7a4_29 kcJ6_267 ?_
  refine g_iand dJ6_bitCount_0f7a4_32 ?_
  refine g_topi (fun v0_33 ev0_33 => ?_)
  refine g_istore_n 0 [(0, .int (v0_33))] dJ6_bitCount_0f7a4_33 rfl (Nat.le_of_ble_eq_true rfl) rfl ?_
  refine g_iload_n 0 dJ6_bitCount_0f7a4_34 rfl rfl ?_
  refine g_iload_n 0 dJ6_bitCount_0f7a4_35 rfl rfl ?_
  refine gN_bipush 8 dJ6_bitCount_0f7a4_36 (by decide) ?_
  refine g_iushr dJ6_bitCount_0f7a4_38 ?_
  refine g_iadd dJ6_bitCount_0f7a4_39 ?_
  refine g_topi (fun v0_40 ev0_40 => ?_)
  refine g_istore_n 0 [(0, .int (v0_40))] dJ6_bitCount_0f7a4_40 rfl (Nat.le_of_ble_eq_true rfl) rfl ?_
  refine g_iload_n 0 dJ6_bitCount_0f7a4_41 rfl rfl ?_
  refine g_iload_n 0 dJ6_bitCount_0f7a4_42 rfl rfl ?_
  refine gN_bipush 16 dJ6_bitCount_0f7a4_43 (by decide) ?_
  refine g_iushr dJ6_bitCount_0f7a4_45 ?_
  refine g_iadd dJ6_bitCount_0f7a4_46 ?_
  refine g_topi (fun v0_47 ev0_47 => ?_)
  refine g_istore_n 0 [(0, .int (v0_47))] dJ6_bitCount_0f7a4_47 rfl (Nat.le_of_ble_eq_true rfl) rfl ?_
  refine g_iload_n 0 dJ6_bitCount_0f7a4_48 rfl rfl ?_
  refine gN_bipush 63 dJ6_bitCount_0f7a4_49 (by decide) ?_
  refine g_iand dJ6_bitCount_0f7a4_51 ?_
  refine g_iret rfl dJ6_bitCount_0f7a4_52 ⟨Nat.zero_le _, Nat.zero_le _⟩ ?_
  refine ⟨vI ?_, rfl⟩
  rw [ev0_47, ev0_40, ev0_33, ev0_23, ev0_9]
  exact bc_ok n hn
set_option maxRecDepth 100000 in
theorem cn_J9_max_7cf53 (g : Gp) (cs : Nat × Nat) {m : Mm} {a b : Nat} (ha : a < 2147483648) (hb : b < 2147483648) : Dn g (MJ9_max_7cf53 cs) [.int (nI a), .int (nI b)] m (some (.int (nI (max a b)))) m := by
  refine Cn.ofF pn_Jmx (Nat.le_of_ble_eq_true rfl) rfl ?_
  refine g_iload_n 0 dJ9_max_7cf53_0 rfl rfl ?_
  refine g_iload_n 1 dJ9_max_7cf53_1 rfl rfl ?_
  refine gN_icmp_lt 9 dJ9_max_7cf53_2 (by decide) (by first | omega | exact b01_lt _) (by first | omega | exact b01_lt _) (fun h_2 => ?_) (fun h_2 => ?_)
  · refine g_iload_n 1 dJ9_max_7cf53_9 rfl rfl ?_
    refine g_iret rfl dJ9_max_7cf53_10 ⟨Nat.zero_le _, Nat.zero_le _⟩ ?_
    exact ⟨vI (by rw [show max a b = b from by omega]), rfl⟩
  · refine g_iload_n 0 dJ9_max_7cf53_5 rfl rfl ?_
    refine g_goto 10 dJ9_max_7cf53_6 (by decide) ?_
    refine g_iret rfl dJ9_max_7cf53_10 ⟨Nat.zero_le _, Nat.zero_le _⟩ ?_
    exact ⟨vI (by rw [show max a b = a from by omega]), rfl⟩
set_option maxRecDepth 100000 in
theorem cn_J9_min_7cf53 (g : Gp) (cs : Nat × Nat) {m : Mm} {a b : Nat} (ha : a < 2147483648) (hb : b < 2147483648) : Dn g (MJ9_min_7cf53 cs) [.int (nI a), .int (nI b)] m (some (.int (nI (min a b)))) m := by
  refine Cn.ofF pn_Jmn (Nat.le_of_ble_eq_true rfl) rfl ?_
  refine g_iload_n 0 dJ9_min_7cf53_0 rfl rfl ?_
  refine g_iload_n 1 dJ9_min_7cf53_1 rfl rfl ?_
  refine gN_icmp_gt 9 dJ9_min_7cf53_2 (by decide) (by first | omega | exact b01_lt _) (by first | omega | exact b01_lt _) (fun h_2 => ?_) (fun h_2 => ?_)
  · refine g_iload_n 1 dJ9_min_7cf53_9 rfl rfl ?_
    refine g_iret rfl dJ9_min_7cf53_10 ⟨Nat.zero_le _, Nat.zero_le _⟩ ?_
    exact ⟨vI (by rw [show min a b = b from by omega]), rfl⟩
  · refine g_iload_n 0 dJ9_min_7cf53_5 rfl rfl ?_
    refine g_goto 10 dJ9_min_7cf53_6 (by decide) ?_
    refine g_iret rfl dJ9_min_7cf53_10 ⟨Nat.zero_le _, Nat.zero_le _⟩ ?_
    exact ⟨vI (by rw [show min a b = a from by omega]), rfl⟩
set_option maxRecDepth 100000 in
theorem cn_J9_min_7cf53I (g : Gp) (cs : Nat × Nat) {m : Mm} {a b : Int32} : Dn g (MJ9_min_7cf53 cs) [.int a, .int b] m (some (.int (if a ≤ b then a else b))) m := by
  refine Cn.ofF pn_Jmn (Nat.le_of_ble_eq_true rfl) rfl ?_
  refine g_iload_n 0 dJ9_min_7cf53_0 rfl rfl ?_
  refine g_iload_n 1 dJ9_min_7cf53_1 rfl rfl ?_
  refine g_icmp_gt 9 dJ9_min_7cf53_2 (by decide) (fun h_2 => ?_) (fun h_2 => ?_)
  · refine g_iload_n 1 dJ9_min_7cf53_9 rfl rfl ?_
    refine g_iret rfl dJ9_min_7cf53_10 ⟨Nat.zero_le _, Nat.zero_le _⟩ ?_
    refine ⟨vI ?_, rfl⟩
    first | rw [if_neg (Int32.not_le.mpr h_2)] | rw [if_pos (Int32.not_lt.mp h_2)]
  · refine g_iload_n 0 dJ9_min_7cf53_5 rfl rfl ?_
    refine g_goto 10 dJ9_min_7cf53_6 (by decide) ?_
    refine g_iret rfl dJ9_min_7cf53_10 ⟨Nat.zero_le _, Nat.zero_le _⟩ ?_
    refine ⟨vI ?_, rfl⟩
    first | rw [if_neg (Int32.not_le.mpr h_2)] | rw [if_pos (Int32.not_lt.mp h_2)]
theorem bt_1 (p : Nat) : bt (nI 1) p = decide (p = 0) := by
  by_cases h : p < 32
  · exact (by decide +kernel : ∀ p, p < 32 → bt (nI 1) p = decide (p = 0)) p h
  · rw [b_big (by omega)]; exact (decide_eq_false (by omega)).symm
/-- the row at r: its length, its words, for each word the bits of its places -/
def RowT (m : Mm) (r : Nat) (w : Nat → Int32) (n : Nat) : Prop :=
  (tg m r = (4, 0) ∧ tg m (r + 1) = (11, n) ∧ tg m (r + 2) = (11, 8)) ∧ (rf m r 1 = some (r + 1) ∧ rf m r 2 = some (r + 2)) ∧ (im m r 0 = nI n ∧ n ≤ 12) ∧
  (∀ e, e < n → im m (r + 1) e = w e ∧ NR (w e) 0 7) ∧ ∀ c, c < 8 → ∀ p, bt (im m (r + 2) c) p = decide (p < n ∧ w p = nI c)
theorem RowT.t {m : Mm} {r : Nat} {w : Nat → Int32} {n : Nat} (h : RowT m r w n) : tg m r = (4, 0) := h.1.1
theorem RowT.t1 {m : Mm} {r : Nat} {w : Nat → Int32} {n : Nat} (h : RowT m r w n) : tg m (r + 1) = (11, n) := h.1.2.1
theorem RowT.t2 {m : Mm} {r : Nat} {w : Nat → Int32} {n : Nat} (h : RowT m r w n) : tg m (r + 2) = (11, 8) := h.1.2.2
theorem RowT.r1 {m : Mm} {r : Nat} {w : Nat → Int32} {n : Nat} (h : RowT m r w n) : rf m r 1 = some (r + 1) := h.2.1.1
theorem RowT.r2 {m : Mm} {r : Nat} {w : Nat → Int32} {n : Nat} (h : RowT m r w n) : rf m r 2 = some (r + 2) := h.2.1.2
theorem RowT.l {m : Mm} {r : Nat} {w : Nat → Int32} {n : Nat} (h : RowT m r w n) : im m r 0 = nI n := h.2.2.1.1
theorem RowT.n {m : Mm} {r : Nat} {w : Nat → Int32} {n : Nat} (h : RowT m r w n) : n ≤ 12 := h.2.2.1.2
theorem RowT.w {m : Mm} {r : Nat} {w : Nat → Int32} {n : Nat} (h : RowT m r w n) {e : Nat} (he : e < n) : im m (r + 1) e = w e := (h.2.2.2.1 e he).1
theorem RowT.w7 {m : Mm} {r : Nat} {w : Nat → Int32} {n : Nat} (h : RowT m r w n) {e : Nat} (he : e < n) : NR (w e) 0 7 := (h.2.2.2.1 e he).2
theorem RowT.b {m : Mm} {r : Nat} {w : Nat → Int32} {n : Nat} (h : RowT m r w n) {c : Nat} (hc : c < 8) (p : Nat) : bt (im m (r + 2) c) p = decide (p < n ∧ w p = nI c) := h.2.2.2.2 c hc p
set_option maxRecDepth 100000 in
theorem cn_X4_wordAt (g : Gp) (cs : Nat × Nat) {m : Mm} {r : Nat} {u : Nat → Int32} {n : Nat} (hr : RowT m r u n) {p : Nat} (hp : p < 2147483648) : Dn g (MX4_wordAt cs) [.ref (r), .int (nI (p))] m (some (.int (if p < n then u p else -1))) (m) := by
  have hn := hr.n
  refine Cn.of pn_X4 (Nat.le_of_ble_eq_true rfl) rfl ?_
  refine g_iload_n 1 dX4_wordAt_0 rfl rfl ?_
  refine gN_if_lt 21 dX4_wordAt_1 (by decide) (by first | omega | exact b01_lt _) ?_
  refine g_iload_n 1 dX4_wordAt_4 rfl rfl ?_
  refine g_aload_n 0 dX4_wordAt_5 rfl rfl ?_
  refine gN_getI flX4_18 rfl 0 (hr.t) dX4_wordAt_6 ?_
  refine g_ei (nI (n)) (hr.l) ?_
  refine gN_icmp_ge 21 dX4_wordAt_9 (by decide) (by first | omega | exact b01_lt _) (by first | omega | exact b01_lt _) (fun h_9 => ?_) (fun h_9 => ?_)
  · refine g_iconst (-1) dX4_wordAt_21 (by decide) ?_
    refine g_iret rfl dX4_wordAt_22 ⟨Nat.zero_le _, Nat.zero_le _⟩ ?_
    refine ⟨vI ?_, rfl⟩
    first | (rw [if_pos h_9]; exact hr.w h_9) | (rw [if_neg (by omega)])
  · refine g_aload_n 0 dX4_wordAt_12 rfl rfl ?_
    refine gN_getR (r + 1) flX4_24 (fun _ _ _ => rfl) 0 (hr.t) (hr.r1) dX4_wordAt_13 ?_
    refine g_iload_n 1 dX4_wordAt_16 rfl rfl ?_
    refine gN_iald n (hr.t1) (by first | omega | exact b01_lt _) (by first | omega | exact b01_lt _) dX4_wordAt_17 ?_
    refine g_goto 22 dX4_wordAt_18 (by decide) ?_
    refine g_iret rfl dX4_wordAt_22 ⟨Nat.zero_le _, Nat.zero_le _⟩ ?_
    refine ⟨vI ?_, rfl⟩
    first | (rw [if_pos h_9]; exact hr.w h_9) | (rw [if_neg (by omega)])
set_option maxRecDepth 100000 in
theorem lp_X4_placeOf (g : Gp) (cs : Nat × Nat) {m : Mm} {r : Nat} {u : Nat → Int32} {n : Nat} (hr : RowT m r u n) (c : Int32) {i : Nat} (hi : i ≤ n) : ∀ d e : Nat, e + d = n → fs u c d e = fi u n c i → G g (MX4_placeOf cs) (dQ (some (.int (if fi u n c i < n then nI (fi u n c i) else -1))) m) 2 [(3, .int (nI e)), (0, .ref r), (1, .int c), (2, .int (nI i))] [] (0, 0) m := by
  have hn := hr.n
  intro d
  induction d with
  | zero =>
    intro e he hR
    obtain rfl : e = n := he
    have hR2 : e = fi u e c i := hR
    refine g_iload_n 3 dX4_placeOf_2 rfl rfl ?_
    refine g_aload_n 0 dX4_placeOf_3 rfl rfl ?_
    refine gN_getI flX4_18 rfl 0 (hr.t) dX4_placeOf_4 ?_
    refine g_ei (nI (e)) (hr.l) ?_
    refine gN_icmp_ge 28 dX4_placeOf_7 (by decide) (by first | omega | exact b01_lt _) (by first | omega | exact b01_lt _) (fun h_7 => ?_) (fun h_7 => ?_)
    · refine g_iconst (-1) dX4_placeOf_28 (by decide) ?_
      refine g_iret rfl dX4_placeOf_29 ⟨Nat.zero_le _, Nat.zero_le _⟩ ?_
      exact ⟨vI (by rw [if_neg (by omega)]), rfl⟩
    · exfalso; omega
  | succ d ih =>
    intro e he hR
    refine g_iload_n 3 dX4_placeOf_2 rfl rfl ?_
    refine g_aload_n 0 dX4_placeOf_3 rfl rfl ?_
    refine gN_getI flX4_18 rfl 0 (hr.t) dX4_placeOf_4 ?_
    refine g_ei (nI (n)) (hr.l) ?_
    refine gN_icmp_ge 28 dX4_placeOf_7 (by decide) (by first | omega | exact b01_lt _) (by first | omega | exact b01_lt _) (fun h_7 => ?_) (fun h_7 => ?_)
    · exfalso; omega
    · refine g_aload_n 0 dX4_placeOf_10 rfl rfl ?_
      refine gN_getR (r + 1) flX4_24 (fun _ _ _ => rfl) 0 (hr.t) (hr.r1) dX4_placeOf_11 ?_
      refine g_iload_n 3 dX4_placeOf_14 rfl rfl ?_
      refine gN_iald n (hr.t1) (by first | omega | exact b01_lt _) (by first | omega | exact b01_lt _) dX4_placeOf_15 ?_
      refine g_eI (u e) (hr.w (by omega)) ?_
      refine g_iload_n 1 dX4_placeOf_16 rfl rfl ?_
      refine g_icmp_ne 22 dX4_placeOf_17 (by decide) (fun h_17 => ?_) (fun h_17 => ?_)
      · refine g_iinc 3 (nI (e + 1)) 0 [(3, .int (nI (e + 1))), (0, .ref (r)), (1, .int (c)), (2, .int (nI (i)))] dX4_placeOf_22 rfl (nI_add e 1) (Nat.le_of_ble_eq_true rfl) rfl ?_
        refine g_goto 2 dX4_placeOf_25 (by decide) ?_
        refine g_pick [0, 1, 2, 3] rfl ?_
        exact ih (e + 1) (by omega) (by rw [← hR, fs_f h_17])
      · refine g_iload_n 3 dX4_placeOf_20 rfl rfl ?_
        refine g_iret rfl dX4_placeOf_21 ⟨Nat.zero_le _, Nat.zero_le _⟩ ?_
        exact ⟨vI (by rw [← hR, fs_t h_17, if_pos (by omega)]), rfl⟩
set_option maxRecDepth 100000 in
theorem cn_X4_placeOf (g : Gp) (cs : Nat × Nat) {m : Mm} {r : Nat} {u : Nat → Int32} {n : Nat} (hr : RowT m r u n) (c : Int32) {i : Nat} (hi : i ≤ n) : Dn g (MX4_placeOf cs) [.ref (r), .int (c), .int (nI (i))] m (some (.int (if fi u n c i < n then nI (fi u n c i) else -1))) (m) := by
  refine Cn.of pn_X4 (Nat.le_of_ble_eq_true rfl) rfl ?_
  refine g_iload_n 2 dX4_placeOf_0 rfl rfl ?_
  refine g_istore_n 3 [(3, .int (nI (i))), (0, .ref (r)), (1, .int (c)), (2, .int (nI (i)))] dX4_placeOf_1 rfl (Nat.le_of_ble_eq_true rfl) rfl ?_
  exact lp_X4_placeOf g cs hr c hi (n - i) i (by omega) rfl
set_option maxRecDepth 100000 in
theorem lp_X4_commonLength (g : Gp) (cs : Nat × Nat) {m : Mm} {r : Nat} {u : Nat → Int32} {n : Nat} (hr : RowT m r u n) {q : Nat} {v : Nat → Int32} {k : Nat} (hq : RowT m q v k) {i j : Nat} (hi : i ≤ n) (hj : j ≤ k) {al : Int32} (hal : al = nI 1 <<< (nI (n - i) &&& 31) - nI 1) : ∀ d e : Nat, e + d = k - j → ∀ x, fb (fun x => u (i + x)) (fun x => v (j + x)) (n - i) e x → G g (MX4_commonLength cs) (dQ (some (.int (nI (tt u v n k i j)))) m) 29 [(6, .int (nI (j + e))), (5, .int (x)), (4, .int (al)), (0, .ref (r)), (1, .int (nI (i))), (2, .ref (q)), (3, .int (nI (j)))] [] (0, 0) m := by
  have hn := hr.n
  have hk := hq.n
  intro d
  induction d with
  | zero =>
    intro e he x hx
    have hc1 := fb_n hx (n - i) (Nat.le_refl _)
    have hc2 : cb x 12 = cb x (n - i) := by
      have := cb_up hx.2 (12 - (n - i))
      rwa [show n - i + (12 - (n - i)) = 12 by omega] at this
    rw [show e = k - j by omega, pl_tt u v hi hj] at hc1
    refine g_iload 6 dX4_commonLength_29 rfl ?_
    refine g_aload_n 2 dX4_commonLength_31 rfl rfl ?_
    refine gN_getI flX4_18 rfl 0 (hq.t) dX4_commonLength_32 ?_
    refine g_ei (nI (k)) (hq.l) ?_
    refine gN_icmp_ge 81 dX4_commonLength_35 (by decide) (by first | omega | exact b01_lt _) (by first | omega | exact b01_lt _) (fun h_35 => ?_) (fun h_35 => ?_)
    · refine g_aload_n 0 dX4_commonLength_81 rfl rfl ?_
      refine gN_getI flX4_18 rfl 0 (hr.t) dX4_commonLength_82 ?_
      refine g_ei (nI (n)) (hr.l) ?_
      refine g_iload_n 1 dX4_commonLength_85 rfl rfl ?_
      refine gN_isub (n - i) dX4_commonLength_86 (by first | omega | exact b01_lt _) rfl ?_
      refine g_iload 5 dX4_commonLength_87 rfl ?_
      refine gd_callS _ _ _ _ (cn_J6_bitCount_0f7a4 g (0, 0) (x := x) (fun p hp => hx.2 p (by omega))) ⟨rfl, rfl⟩ (ok_J6_bitCount_0f7a4 _) mlX4_31 st_J6_bitCount_0f7a4 rfl ⟨Nat.le_of_ble_eq_true rfl, Nat.le_of_ble_eq_true rfl⟩ (by exact Nat.le_of_ble_eq_true rfl) ⟨Nat.zero_le _, Nat.zero_le _⟩ dX4_commonLength_89 rfl ?_
      refine gN_isub ((n - i) - (cb x 12)) dX4_commonLength_92 (by first | omega | exact b01_lt _) rfl ?_
      refine g_iret rfl dX4_commonLength_93 ⟨Nat.zero_le _, Nat.zero_le _⟩ ?_
      exact ⟨vI (congrArg nI (show n - i - cb x 12 = tt u v n k i j by omega)), rfl⟩
    · exfalso; omega
  | succ d ih =>
    intro e he x hx
    have hw := hq.w7 (e := j + e) (by omega)
    have hw7 := hw.hi
    refine g_iload 6 dX4_commonLength_29 rfl ?_
    refine g_aload_n 2 dX4_commonLength_31 rfl rfl ?_
    refine gN_getI flX4_18 rfl 0 (hq.t) dX4_commonLength_32 ?_
    refine g_ei (nI (k)) (hq.l) ?_
    refine gN_icmp_ge 81 dX4_commonLength_35 (by decide) (by first | omega | exact b01_lt _) (by first | omega | exact b01_lt _) (fun h_35 => ?_) (fun h_35 => ?_)
    · exfalso; omega
    · refine g_aload_n 0 dX4_commonLength_38 rfl rfl ?_
      refine gN_getR (r + 2) flX4_28 (fun _ _ _ => rfl) 0 (hr.t) (hr.r2) dX4_commonLength_39 ?_
      refine g_aload_n 2 dX4_commonLength_42 rfl rfl ?_
      refine gN_getR (q + 1) flX4_24 (fun _ _ _ => rfl) 0 (hq.t) (hq.r1) dX4_commonLength_43 ?_
      refine g_iload 6 dX4_commonLength_46 rfl ?_
      refine gN_iald k (hq.t1) (by first | omega | exact b01_lt _) (by first | omega | exact b01_lt _) dX4_commonLength_48 ?_
      refine g_ei (nI (nv (v (j + e)))) ((hq.w (by omega)).trans hw.e) ?_
      refine gN_iald 8 (hr.t2) (by first | omega | exact b01_lt _) (by first | omega | exact b01_lt _) dX4_commonLength_49 ?_
      refine g_iload_n 1 dX4_commonLength_50 rfl rfl ?_
      refine g_ishr dX4_commonLength_51 ?_
      refine g_topi (fun v7_52 ev7_52 => ?_)
      refine g_istore 7 [(7, .int (v7_52)), (6, .int (nI (j + e))), (5, .int (x)), (4, .int (al)), (0, .ref (r)), (1, .int (nI (i))), (2, .ref (q)), (3, .int (nI (j)))] dX4_commonLength_52 (Nat.le_of_ble_eq_true rfl) rfl ?_
      refine g_iload 5 dX4_commonLength_54 rfl ?_
      refine g_iload 5 dX4_commonLength_56 rfl ?_
      refine g_iload 7 dX4_commonLength_58 rfl ?_
      refine g_iand dX4_commonLength_60 ?_
      refine g_iadd dX4_commonLength_61 ?_
      refine g_iload 5 dX4_commonLength_62 rfl ?_
      refine g_iload 7 dX4_commonLength_64 rfl ?_
      refine g_iconst (-1) dX4_commonLength_66 (by decide) ?_
      refine g_ixor dX4_commonLength_67 ?_
      refine g_iand dX4_commonLength_68 ?_
      refine g_ior dX4_commonLength_69 ?_
      refine g_iload 4 dX4_commonLength_70 rfl ?_
      refine g_iand dX4_commonLength_72 ?_
      refine g_topi (fun v5_73 ev5_73 => ?_)
      refine g_istore 5 [(5, .int (v5_73)), (7, .int (v7_52)), (6, .int (nI (j + e))), (4, .int (al)), (0, .ref (r)), (1, .int (nI (i))), (2, .ref (q)), (3, .int (nI (j)))] dX4_commonLength_73 (Nat.le_of_ble_eq_true rfl) rfl ?_
      refine g_iinc 6 (nI (j + e + 1)) 2 [(6, .int (nI (j + e + 1))), (5, .int (v5_73)), (7, .int (v7_52)), (4, .int (al)), (0, .ref (r)), (1, .int (nI (i))), (2, .ref (q)), (3, .int (nI (j)))] dX4_commonLength_75 rfl (nI_add (j + e) 1) (Nat.le_of_ble_eq_true rfl) rfl ?_
      refine g_goto 29 dX4_commonLength_78 (by decide) ?_
      have hM : ∀ p, p < n - i → bt v7_52 p = decide ((fun x => u (i + x)) p = (fun x => v (j + x)) e) := fun p hp => by
        rw [ev7_52, b_sshr i (by omega) _ (by omega), if_pos (by omega), hr.b (by omega), ← hw.e]
        refine decide_eq_decide.mpr ⟨fun z => z.2, fun z => ⟨by omega, z⟩⟩
      refine g_pick [0, 1, 3, 4, 5, 6, 7] rfl ?_
      exact ih (e + 1) (by omega) _ (by rw [ev5_73, hal]; exact fb_s (by omega) hx hM)
set_option maxRecDepth 100000 in
theorem cn_X4_commonLength (g : Gp) (cs : Nat × Nat) {m : Mm} {r : Nat} {u : Nat → Int32} {n : Nat} (hr : RowT m r u n) {q : Nat} {v : Nat → Int32} {k : Nat} (hq : RowT m q v k) {i j : Nat} (hi : i ≤ n) (hj : j ≤ k) : Dn g (MX4_commonLength cs) [.ref (r), .int (nI (i)), .ref (q), .int (nI (j))] m (some (.int (nI (tt u v n k i j)))) (m) := by
  have hn := hr.n
  refine Cn.of pn_X4 (Nat.le_of_ble_eq_true rfl) rfl ?_
  refine g_iload_n 1 dX4_commonLength_0 rfl rfl ?_
  refine g_aload_n 0 dX4_commonLength_1 rfl rfl ?_
  refine gN_getI flX4_18 rfl 0 (hr.t) dX4_commonLength_2 ?_
  refine g_ei (nI (n)) (hr.l) ?_
  refine gN_icmp_lt 10 dX4_commonLength_5 (by decide) (by first | omega | exact b01_lt _) (by first | omega | exact b01_lt _) (fun h_5 => ?_) (fun h_5 => ?_)
  · refine gN_iconst 1 dX4_commonLength_10 (by decide) ?_
    refine g_aload_n 0 dX4_commonLength_11 rfl rfl ?_
    refine gN_getI flX4_18 rfl 0 (hr.t) dX4_commonLength_12 ?_
    refine g_ei (nI (n)) (hr.l) ?_
    refine g_iload_n 1 dX4_commonLength_15 rfl rfl ?_
    refine gN_isub (n - i) dX4_commonLength_16 (by first | omega | exact b01_lt _) rfl ?_
    refine g_ishl dX4_commonLength_17 ?_
    refine gN_iconst 1 dX4_commonLength_18 (by decide) ?_
    refine g_isub dX4_commonLength_19 ?_
    refine g_topi (fun v4_20 ev4_20 => ?_)
    refine g_istore 4 [(4, .int (v4_20)), (0, .ref (r)), (1, .int (nI (i))), (2, .ref (q)), (3, .int (nI (j)))] dX4_commonLength_20 (Nat.le_of_ble_eq_true rfl) rfl ?_
    refine g_iload 4 dX4_commonLength_22 rfl ?_
    refine g_topi (fun v5_24 ev5_24 => ?_)
    refine g_istore 5 [(5, .int (v5_24)), (4, .int (v4_20)), (0, .ref (r)), (1, .int (nI (i))), (2, .ref (q)), (3, .int (nI (j)))] dX4_commonLength_24 (Nat.le_of_ble_eq_true rfl) rfl ?_
    refine g_iload_n 3 dX4_commonLength_26 rfl rfl ?_
    refine g_istore 6 [(6, .int (nI (j))), (5, .int (v5_24)), (4, .int (v4_20)), (0, .ref (r)), (1, .int (nI (i))), (2, .ref (q)), (3, .int (nI (j)))] dX4_commonLength_27 (Nat.le_of_ble_eq_true rfl) rfl ?_
    refine g_pick [0, 1, 2, 3, 4, 5, 6] rfl ?_
    exact lp_X4_commonLength g cs hr hq hi hj (al := v4_20) ev4_20 (k - j) 0 (Nat.zero_add _) _ (by rw [ev5_24, ev4_20]; exact fb_0 _ _ (by omega))
  · refine gN_iconst 0 dX4_commonLength_8 (by decide) ?_
    refine g_iret rfl dX4_commonLength_9 ⟨Nat.zero_le _, Nat.zero_le _⟩ ?_
    exact ⟨vI (by rw [tt_n u v (by omega)]), rfl⟩
set_option maxRecDepth 100000 in
theorem cn_X4_matchWith (g : Gp) (cs : Nat × Nat) {m : Mm} {r : Nat} {u : Nat → Int32} {n : Nat} (hr : RowT m r u n) {q : Nat} {v : Nat → Int32} {k : Nat} (hq : RowT m q v k) : Dn g (MX4_matchWith cs) [.ref (r), .ref (q)] m (some (.int (nI (200 * tt u v n k 0 0 / (n + k))))) (m) := by
  have hn := hr.n
  have hk := hq.n
  have hl := tt_le u v n k 0 0
  refine Cn.of pn_X4 (Nat.le_of_ble_eq_true rfl) rfl ?_
  refine g_aload_n 0 dX4_matchWith_0 rfl rfl ?_
  refine gN_getI flX4_18 rfl 0 (hr.t) dX4_matchWith_1 ?_
  refine g_ei (nI (n)) (hr.l) ?_
  refine g_aload_n 1 dX4_matchWith_4 rfl rfl ?_
  refine gN_getI flX4_18 rfl 0 (hq.t) dX4_matchWith_5 ?_
  refine g_ei (nI (k)) (hq.l) ?_
  refine gN_iadd (n + k) dX4_matchWith_8 rfl ?_
  refine g_istore_n 2 [(2, .int (nI (n + k))), (0, .ref (r)), (1, .ref (q))] dX4_matchWith_9 rfl (Nat.le_of_ble_eq_true rfl) rfl ?_
  refine g_iload_n 2 dX4_matchWith_10 rfl rfl ?_
  refine gN_if_ne 18 dX4_matchWith_11 (by decide) (by first | omega | exact b01_lt _) (fun h_11 => ?_) (fun h_11 => ?_)
  · refine gN_sipush 200 dX4_matchWith_18 (by decide) ?_
    refine g_aload_n 0 dX4_matchWith_21 rfl rfl ?_
    refine gN_iconst 0 dX4_matchWith_22 (by decide) ?_
    refine g_aload_n 1 dX4_matchWith_23 rfl rfl ?_
    refine gN_iconst 0 dX4_matchWith_24 (by decide) ?_
    refine gd_callV _ _ _ _ (cn_X4_commonLength g (0, 0) hr hq (i := 0) (j := 0) (by omega) (by omega)) ⟨rfl, rfl⟩ (ok_X4_commonLength _) mlX4_37 in_X4_commonLength se_X4_commonLength 4 0 (hr.t) rfl rfl rfl ⟨Nat.le_of_ble_eq_true rfl, Nat.le_of_ble_eq_true rfl⟩ (by exact Nat.le_of_ble_eq_true rfl) ⟨Nat.zero_le _, Nat.zero_le _⟩ dX4_matchWith_25 rfl ?_
    refine gN_imul (200 * (tt u v n k 0 0)) dX4_matchWith_28 rfl ?_
    refine g_iload_n 2 dX4_matchWith_29 rfl rfl ?_
    refine gN_idiv ((200 * (tt u v n k 0 0)) / (n + k)) dX4_matchWith_30 (by first | omega | exact b01_lt _) (by first | omega | exact b01_lt _) (by first | omega | exact b01_lt _) rfl ?_
    refine g_iret rfl dX4_matchWith_31 ⟨Nat.zero_le _, Nat.zero_le _⟩ ?_
    exact ⟨rfl, rfl⟩
  · refine gN_iconst 0 dX4_matchWith_14 (by decide) ?_
    refine g_goto 31 dX4_matchWith_15 (by decide) ?_
    refine g_iret rfl dX4_matchWith_31 ⟨Nat.zero_le _, Nat.zero_le _⟩ ?_
    exact ⟨vI (by rw [show n + k = 0 from h_11, Nat.div_zero]), rfl⟩
set_option maxRecDepth 100000 in
theorem cn_X4_likenessTo (g : Gp) (cs : Nat × Nat) {m : Mm} {r : Nat} {u : Nat → Int32} {n : Nat} (hr : RowT m r u n) {q : Nat} {v : Nat → Int32} {k : Nat} (hq : RowT m q v k) (h1 : 1 ≤ n) : Dn g (MX4_likenessTo cs) [.ref (r), .ref (q)] m (some (.float (FP.fdiv (FP.i2f (nI (2 * tt u v n k 0 0))) (FP.i2f (nI (n + k)))))) (m) := by
  have hn := hr.n
  have hk := hq.n
  have hl := tt_le u v n k 0 0
  refine Cn.of pn_X4 (Nat.le_of_ble_eq_true rfl) rfl ?_
  refine g_aload_n 0 dX4_likenessTo_0 rfl rfl ?_
  refine gN_getI flX4_18 rfl 0 (hr.t) dX4_likenessTo_1 ?_
  refine g_ei (nI (n)) (hr.l) ?_
  refine g_aload_n 1 dX4_likenessTo_4 rfl rfl ?_
  refine gN_getI flX4_18 rfl 0 (hq.t) dX4_likenessTo_5 ?_
  refine g_ei (nI (k)) (hq.l) ?_
  refine gN_iadd (n + k) dX4_likenessTo_8 rfl ?_
  refine g_istore_n 2 [(2, .int (nI (n + k))), (0, .ref (r)), (1, .ref (q))] dX4_likenessTo_9 rfl (Nat.le_of_ble_eq_true rfl) rfl ?_
  refine g_iload_n 2 dX4_likenessTo_10 rfl rfl ?_
  refine gN_if_ne 18 dX4_likenessTo_11 (by decide) (by first | omega | exact b01_lt _) (fun h_11 => ?_) (fun h_11 => ?_)
  · refine gN_iconst 2 dX4_likenessTo_18 (by decide) ?_
    refine g_aload_n 0 dX4_likenessTo_19 rfl rfl ?_
    refine gN_iconst 0 dX4_likenessTo_20 (by decide) ?_
    refine g_aload_n 1 dX4_likenessTo_21 rfl rfl ?_
    refine gN_iconst 0 dX4_likenessTo_22 (by decide) ?_
    refine gd_callV _ _ _ _ (cn_X4_commonLength g (0, 0) hr hq (i := 0) (j := 0) (by omega) (by omega)) ⟨rfl, rfl⟩ (ok_X4_commonLength _) mlX4_37 in_X4_commonLength se_X4_commonLength 4 0 (hr.t) rfl rfl rfl ⟨Nat.le_of_ble_eq_true rfl, Nat.le_of_ble_eq_true rfl⟩ (by exact Nat.le_of_ble_eq_true rfl) ⟨Nat.zero_le _, Nat.zero_le _⟩ dX4_likenessTo_23 rfl ?_
    refine gN_imul (2 * (tt u v n k 0 0)) dX4_likenessTo_26 rfl ?_
    refine g_i2f dX4_likenessTo_27 ?_
    refine g_iload_n 2 dX4_likenessTo_28 rfl rfl ?_
    refine g_i2f dX4_likenessTo_29 ?_
    refine g_fdiv dX4_likenessTo_30 ((okF_div (a := 2 * tt u v n k 0 0) (b := n + k) (by omega) (by omega) (by omega)).vf) ?_
    refine g_fret rfl dX4_likenessTo_31 ⟨Nat.zero_le _, Nat.zero_le _⟩ ?_
    exact ⟨rfl, rfl⟩
  · exfalso; omega
set_option maxRecDepth 100000 in
theorem lp_X4_leastBeginning (g : Gp) (cs : Nat × Nat) {m : Mm} {r : Nat} {u : Nat → Int32} {n : Nat} (hr : RowT m r u n) {q : Nat} {v : Nat → Int32} {k : Nat} (hq : RowT m q v k) {i j l : Nat} (hi : i ≤ n) (hj : j ≤ k) (hl : tt u v n k i j = l) (h0 : 0 < l) (hW : cw u v n k i j < 8) : ∀ d w : Nat, w + d = 8 → lw (cwP u v n k i j) d w = cw u v n k i j → G g (MX4_leastBeginning cs) (dQ (some (.int (nI (cw u v n k i j)))) m) 3 [(5, .int (nI (w))), (0, .ref (r)), (1, .int (nI (i))), (2, .ref (q)), (3, .int (nI (j))), (4, .int (nI (l)))] [] (0, 0) m := by
  have hn := hr.n
  have hk := hq.n
  have hln := tt_le u v n k i j
  intro d
  induction d with
  | zero =>
    intro w hw hR
    have h8 : w = cw u v n k i j := hR
    omega
  | succ d ih =>
    intro w hw hR
    have f1 := fi_le u (nI w) hi
    have f2 := fi_le v (nI w) hj
    by_cases h1 : fi u n (nI w) i < n
    · by_cases h2 : fi v k (nI w) j < k
      · refine g_iload 5 dX4_leastBeginning_3 rfl ?_
        refine gN_bipush 8 dX4_leastBeginning_5 (by decide) ?_
        refine gN_icmp_ge 69 dX4_leastBeginning_7 (by decide) (by first | omega | (have := tt_le u v n k (fi u n (nI w) i + 1) (fi v k (nI w) j + 1); omega)) (by first | omega | (have := tt_le u v n k (fi u n (nI w) i + 1) (fi v k (nI w) j + 1); omega)) (fun h_7 => ?_) (fun h_7 => ?_)
        · exfalso; omega
        · refine g_aload_n 0 dX4_leastBeginning_10 rfl rfl ?_
          refine g_iload 5 dX4_leastBeginning_11 rfl ?_
          refine g_iload_n 1 dX4_leastBeginning_13 rfl rfl ?_
          refine gd_callV _ _ _ _ (cn_X4_placeOf g (0, 0) hr (nI w) hi) ⟨rfl, rfl⟩ (ok_X4_placeOf _) mlX4_45 in_X4_placeOf se_X4_placeOf 4 0 (hr.t) rfl rfl rfl ⟨Nat.le_of_ble_eq_true rfl, Nat.le_of_ble_eq_true rfl⟩ (by exact Nat.le_of_ble_eq_true rfl) ⟨Nat.zero_le _, Nat.zero_le _⟩ dX4_leastBeginning_14 rfl ?_
          rw [if_pos h1]
          refine g_istore 6 [(6, .int (nI (fi u n (nI w) i))), (5, .int (nI (w))), (0, .ref (r)), (1, .int (nI (i))), (2, .ref (q)), (3, .int (nI (j))), (4, .int (nI (l)))] dX4_leastBeginning_17 (Nat.le_of_ble_eq_true rfl) rfl ?_
          refine g_aload_n 2 dX4_leastBeginning_19 rfl rfl ?_
          refine g_iload 5 dX4_leastBeginning_20 rfl ?_
          refine g_iload_n 3 dX4_leastBeginning_22 rfl rfl ?_
          refine gd_callV _ _ _ _ (cn_X4_placeOf g (0, 0) hq (nI w) hj) ⟨rfl, rfl⟩ (ok_X4_placeOf _) mlX4_45 in_X4_placeOf se_X4_placeOf 4 0 (hq.t) rfl rfl rfl ⟨Nat.le_of_ble_eq_true rfl, Nat.le_of_ble_eq_true rfl⟩ (by exact Nat.le_of_ble_eq_true rfl) ⟨Nat.zero_le _, Nat.zero_le _⟩ dX4_leastBeginning_23 rfl ?_
          rw [if_pos h2]
          refine g_istore 7 [(7, .int (nI (fi v k (nI w) j))), (6, .int (nI (fi u n (nI w) i))), (5, .int (nI (w))), (0, .ref (r)), (1, .int (nI (i))), (2, .ref (q)), (3, .int (nI (j))), (4, .int (nI (l)))] dX4_leastBeginning_26 (Nat.le_of_ble_eq_true rfl) rfl ?_
          refine g_iload 6 dX4_leastBeginning_28 rfl ?_
          refine g_iconst (-1) dX4_leastBeginning_30 (by decide) ?_
          refine g_icmp_eq 63 dX4_leastBeginning_31 (by decide) (fun h_31 => ?_) (fun h_31 => ?_)
          · exact absurd h_31 (nI_m1 (by omega))
          · refine g_iload 7 dX4_leastBeginning_34 rfl ?_
            refine g_iconst (-1) dX4_leastBeginning_36 (by decide) ?_
            refine g_icmp_eq 63 dX4_leastBeginning_37 (by decide) (fun h_37 => ?_) (fun h_37 => ?_)
            · exact absurd h_37 (nI_m1 (by omega))
            · refine gN_iconst 1 dX4_leastBeginning_40 (by decide) ?_
              refine g_aload_n 0 dX4_leastBeginning_41 rfl rfl ?_
              refine g_iload 6 dX4_leastBeginning_42 rfl ?_
              refine gN_iconst 1 dX4_leastBeginning_44 (by decide) ?_
              refine gN_iadd ((fi u n (nI w) i) + 1) dX4_leastBeginning_45 rfl ?_
              refine g_aload_n 2 dX4_leastBeginning_46 rfl rfl ?_
              refine g_iload 7 dX4_leastBeginning_47 rfl ?_
              refine gN_iconst 1 dX4_leastBeginning_49 (by decide) ?_
              refine gN_iadd ((fi v k (nI w) j) + 1) dX4_leastBeginning_50 rfl ?_
              refine gd_callV _ _ _ _ (cn_X4_commonLength g (0, 0) hr hq (i := fi u n (nI w) i + 1) (j := fi v k (nI w) j + 1) (by omega) (by omega)) ⟨rfl, rfl⟩ (ok_X4_commonLength _) mlX4_37 in_X4_commonLength se_X4_commonLength 4 0 (hr.t) rfl rfl rfl ⟨Nat.le_of_ble_eq_true rfl, Nat.le_of_ble_eq_true rfl⟩ (by exact Nat.le_of_ble_eq_true rfl) ⟨Nat.zero_le _, Nat.zero_le _⟩ dX4_leastBeginning_51 rfl ?_
              refine gN_iadd (1 + (tt u v n k (fi u n (nI w) i + 1) (fi v k (nI w) j + 1))) dX4_leastBeginning_54 rfl ?_
              refine g_iload 4 dX4_leastBeginning_55 rfl ?_
              refine gN_icmp_ne 63 dX4_leastBeginning_57 (by decide) (by first | omega | (have := tt_le u v n k (fi u n (nI w) i + 1) (fi v k (nI w) j + 1); omega)) (by first | omega | (have := tt_le u v n k (fi u n (nI w) i + 1) (fi v k (nI w) j + 1); omega)) (fun h_57 => ?_) (fun h_57 => ?_)
              · refine g_iinc 5 (nI (w + 1)) 2 [(5, .int (nI (w + 1))), (7, .int (nI (fi v k (nI w) j))), (6, .int (nI (fi u n (nI w) i))), (0, .ref (r)), (1, .int (nI (i))), (2, .ref (q)), (3, .int (nI (j))), (4, .int (nI (l)))] dX4_leastBeginning_63 rfl (nI_add w 1) (Nat.le_of_ble_eq_true rfl) rfl ?_
                refine g_goto 3 dX4_leastBeginning_66 (by decide) ?_
                refine g_pick [0, 3, 4, 5, 6, 7] rfl ?_
                exact ih (w + 1) (by omega) (by rw [← hR, lw_f (fun z => by obtain ⟨z1, z2, z3⟩ := z; omega)])
              · refine g_iload 5 dX4_leastBeginning_60 rfl ?_
                refine g_iret rfl dX4_leastBeginning_62 ⟨Nat.zero_le _, Nat.zero_le _⟩ ?_
                exact ⟨vI (by rw [← hR, lw_t ⟨h1, h2, by omega⟩]), rfl⟩
      · refine g_iload 5 dX4_leastBeginning_3 rfl ?_
        refine gN_bipush 8 dX4_leastBeginning_5 (by decide) ?_
        refine gN_icmp_ge 69 dX4_leastBeginning_7 (by decide) (by first | omega | (have := tt_le u v n k (fi u n (nI w) i + 1) (fi v k (nI w) j + 1); omega)) (by first | omega | (have := tt_le u v n k (fi u n (nI w) i + 1) (fi v k (nI w) j + 1); omega)) (fun h_7 => ?_) (fun h_7 => ?_)
        · exfalso; omega
        · refine g_aload_n 0 dX4_leastBeginning_10 rfl rfl ?_
          refine g_iload 5 dX4_leastBeginning_11 rfl ?_
          refine g_iload_n 1 dX4_leastBeginning_13 rfl rfl ?_
          refine gd_callV _ _ _ _ (cn_X4_placeOf g (0, 0) hr (nI w) hi) ⟨rfl, rfl⟩ (ok_X4_placeOf _) mlX4_45 in_X4_placeOf se_X4_placeOf 4 0 (hr.t) rfl rfl rfl ⟨Nat.le_of_ble_eq_true rfl, Nat.le_of_ble_eq_true rfl⟩ (by exact Nat.le_of_ble_eq_true rfl) ⟨Nat.zero_le _, Nat.zero_le _⟩ dX4_leastBeginning_14 rfl ?_
          rw [if_pos h1]
          refine g_istore 6 [(6, .int (nI (fi u n (nI w) i))), (5, .int (nI (w))), (0, .ref (r)), (1, .int (nI (i))), (2, .ref (q)), (3, .int (nI (j))), (4, .int (nI (l)))] dX4_leastBeginning_17 (Nat.le_of_ble_eq_true rfl) rfl ?_
          refine g_aload_n 2 dX4_leastBeginning_19 rfl rfl ?_
          refine g_iload 5 dX4_leastBeginning_20 rfl ?_
          refine g_iload_n 3 dX4_leastBeginning_22 rfl rfl ?_
          refine gd_callV _ _ _ _ (cn_X4_placeOf g (0, 0) hq (nI w) hj) ⟨rfl, rfl⟩ (ok_X4_placeOf _) mlX4_45 in_X4_placeOf se_X4_placeOf 4 0 (hq.t) rfl rfl rfl ⟨Nat.le_of_ble_eq_true rfl, Nat.le_of_ble_eq_true rfl⟩ (by exact Nat.le_of_ble_eq_true rfl) ⟨Nat.zero_le _, Nat.zero_le _⟩ dX4_leastBeginning_23 rfl ?_
          rw [if_neg h2]
          refine g_istore 7 [(7, .int (-1)), (6, .int (nI (fi u n (nI w) i))), (5, .int (nI (w))), (0, .ref (r)), (1, .int (nI (i))), (2, .ref (q)), (3, .int (nI (j))), (4, .int (nI (l)))] dX4_leastBeginning_26 (Nat.le_of_ble_eq_true rfl) rfl ?_
          refine g_iload 6 dX4_leastBeginning_28 rfl ?_
          refine g_iconst (-1) dX4_leastBeginning_30 (by decide) ?_
          refine g_icmp_eq 63 dX4_leastBeginning_31 (by decide) (fun h_31 => ?_) (fun h_31 => ?_)
          · exact absurd h_31 (nI_m1 (by omega))
          · refine g_iload 7 dX4_leastBeginning_34 rfl ?_
            refine g_iconst (-1) dX4_leastBeginning_36 (by decide) ?_
            refine g_icmp_eq 63 dX4_leastBeginning_37 (by decide) (fun h_37 => ?_) (fun h_37 => ?_)
            · refine g_iinc 5 (nI (w + 1)) 2 [(5, .int (nI (w + 1))), (7, .int (-1)), (6, .int (nI (fi u n (nI w) i))), (0, .ref (r)), (1, .int (nI (i))), (2, .ref (q)), (3, .int (nI (j))), (4, .int (nI (l)))] dX4_leastBeginning_63 rfl (nI_add w 1) (Nat.le_of_ble_eq_true rfl) rfl ?_
              refine g_goto 3 dX4_leastBeginning_66 (by decide) ?_
              refine g_pick [0, 3, 4, 5, 6, 7] rfl ?_
              exact ih (w + 1) (by omega) (by rw [← hR, lw_f (fun z => h2 z.2.1)])
            · exact absurd rfl h_37
    · by_cases h2 : fi v k (nI w) j < k
      · refine g_iload 5 dX4_leastBeginning_3 rfl ?_
        refine gN_bipush 8 dX4_leastBeginning_5 (by decide) ?_
        refine gN_icmp_ge 69 dX4_leastBeginning_7 (by decide) (by first | omega | (have := tt_le u v n k (fi u n (nI w) i + 1) (fi v k (nI w) j + 1); omega)) (by first | omega | (have := tt_le u v n k (fi u n (nI w) i + 1) (fi v k (nI w) j + 1); omega)) (fun h_7 => ?_) (fun h_7 => ?_)
        · exfalso; omega
        · refine g_aload_n 0 dX4_leastBeginning_10 rfl rfl ?_
          refine g_iload 5 dX4_leastBeginning_11 rfl ?_
          refine g_iload_n 1 dX4_leastBeginning_13 rfl rfl ?_
          refine gd_callV _ _ _ _ (cn_X4_placeOf g (0, 0) hr (nI w) hi) ⟨rfl, rfl⟩ (ok_X4_placeOf _) mlX4_45 in_X4_placeOf se_X4_placeOf 4 0 (hr.t) rfl rfl rfl ⟨Nat.le_of_ble_eq_true rfl, Nat.le_of_ble_eq_true rfl⟩ (by exact Nat.le_of_ble_eq_true rfl) ⟨Nat.zero_le _, Nat.zero_le _⟩ dX4_leastBeginning_14 rfl ?_
          rw [if_neg h1]
          refine g_istore 6 [(6, .int (-1)), (5, .int (nI (w))), (0, .ref (r)), (1, .int (nI (i))), (2, .ref (q)), (3, .int (nI (j))), (4, .int (nI (l)))] dX4_leastBeginning_17 (Nat.le_of_ble_eq_true rfl) rfl ?_
          refine g_aload_n 2 dX4_leastBeginning_19 rfl rfl ?_
          refine g_iload 5 dX4_leastBeginning_20 rfl ?_
          refine g_iload_n 3 dX4_leastBeginning_22 rfl rfl ?_
          refine gd_callV _ _ _ _ (cn_X4_placeOf g (0, 0) hq (nI w) hj) ⟨rfl, rfl⟩ (ok_X4_placeOf _) mlX4_45 in_X4_placeOf se_X4_placeOf 4 0 (hq.t) rfl rfl rfl ⟨Nat.le_of_ble_eq_true rfl, Nat.le_of_ble_eq_true rfl⟩ (by exact Nat.le_of_ble_eq_true rfl) ⟨Nat.zero_le _, Nat.zero_le _⟩ dX4_leastBeginning_23 rfl ?_
          rw [if_pos h2]
          refine g_istore 7 [(7, .int (nI (fi v k (nI w) j))), (6, .int (-1)), (5, .int (nI (w))), (0, .ref (r)), (1, .int (nI (i))), (2, .ref (q)), (3, .int (nI (j))), (4, .int (nI (l)))] dX4_leastBeginning_26 (Nat.le_of_ble_eq_true rfl) rfl ?_
          refine g_iload 6 dX4_leastBeginning_28 rfl ?_
          refine g_iconst (-1) dX4_leastBeginning_30 (by decide) ?_
          refine g_icmp_eq 63 dX4_leastBeginning_31 (by decide) (fun h_31 => ?_) (fun h_31 => ?_)
          · refine g_iinc 5 (nI (w + 1)) 2 [(5, .int (nI (w + 1))), (7, .int (nI (fi v k (nI w) j))), (6, .int (-1)), (0, .ref (r)), (1, .int (nI (i))), (2, .ref (q)), (3, .int (nI (j))), (4, .int (nI (l)))] dX4_leastBeginning_63 rfl (nI_add w 1) (Nat.le_of_ble_eq_true rfl) rfl ?_
            refine g_goto 3 dX4_leastBeginning_66 (by decide) ?_
            refine g_pick [0, 3, 4, 5, 6, 7] rfl ?_
            exact ih (w + 1) (by omega) (by rw [← hR, lw_f (fun z => h1 z.1)])
          · exact absurd rfl h_31
      · refine g_iload 5 dX4_leastBeginning_3 rfl ?_
        refine gN_bipush 8 dX4_leastBeginning_5 (by decide) ?_
        refine gN_icmp_ge 69 dX4_leastBeginning_7 (by decide) (by first | omega | (have := tt_le u v n k (fi u n (nI w) i + 1) (fi v k (nI w) j + 1); omega)) (by first | omega | (have := tt_le u v n k (fi u n (nI w) i + 1) (fi v k (nI w) j + 1); omega)) (fun h_7 => ?_) (fun h_7 => ?_)
        · exfalso; omega
        · refine g_aload_n 0 dX4_leastBeginning_10 rfl rfl ?_
          refine g_iload 5 dX4_leastBeginning_11 rfl ?_
          refine g_iload_n 1 dX4_leastBeginning_13 rfl rfl ?_
          refine gd_callV _ _ _ _ (cn_X4_placeOf g (0, 0) hr (nI w) hi) ⟨rfl, rfl⟩ (ok_X4_placeOf _) mlX4_45 in_X4_placeOf se_X4_placeOf 4 0 (hr.t) rfl rfl rfl ⟨Nat.le_of_ble_eq_true rfl, Nat.le_of_ble_eq_true rfl⟩ (by exact Nat.le_of_ble_eq_true rfl) ⟨Nat.zero_le _, Nat.zero_le _⟩ dX4_leastBeginning_14 rfl ?_
          rw [if_neg h1]
          refine g_istore 6 [(6, .int (-1)), (5, .int (nI (w))), (0, .ref (r)), (1, .int (nI (i))), (2, .ref (q)), (3, .int (nI (j))), (4, .int (nI (l)))] dX4_leastBeginning_17 (Nat.le_of_ble_eq_true rfl) rfl ?_
          refine g_aload_n 2 dX4_leastBeginning_19 rfl rfl ?_
          refine g_iload 5 dX4_leastBeginning_20 rfl ?_
          refine g_iload_n 3 dX4_leastBeginning_22 rfl rfl ?_
          refine gd_callV _ _ _ _ (cn_X4_placeOf g (0, 0) hq (nI w) hj) ⟨rfl, rfl⟩ (ok_X4_placeOf _) mlX4_45 in_X4_placeOf se_X4_placeOf 4 0 (hq.t) rfl rfl rfl ⟨Nat.le_of_ble_eq_true rfl, Nat.le_of_ble_eq_true rfl⟩ (by exact Nat.le_of_ble_eq_true rfl) ⟨Nat.zero_le _, Nat.zero_le _⟩ dX4_leastBeginning_23 rfl ?_
          rw [if_neg h2]
          refine g_istore 7 [(7, .int (-1)), (6, .int (-1)), (5, .int (nI (w))), (0, .ref (r)), (1, .int (nI (i))), (2, .ref (q)), (3, .int (nI (j))), (4, .int (nI (l)))] dX4_leastBeginning_26 (Nat.le_of_ble_eq_true rfl) rfl ?_
          refine g_iload 6 dX4_leastBeginning_28 rfl ?_
          refine g_iconst (-1) dX4_leastBeginning_30 (by decide) ?_
          refine g_icmp_eq 63 dX4_leastBeginning_31 (by decide) (fun h_31 => ?_) (fun h_31 => ?_)
          · refine g_iinc 5 (nI (w + 1)) 2 [(5, .int (nI (w + 1))), (7, .int (-1)), (6, .int (-1)), (0, .ref (r)), (1, .int (nI (i))), (2, .ref (q)), (3, .int (nI (j))), (4, .int (nI (l)))] dX4_leastBeginning_63 rfl (nI_add w 1) (Nat.le_of_ble_eq_true rfl) rfl ?_
            refine g_goto 3 dX4_leastBeginning_66 (by decide) ?_
            refine g_pick [0, 3, 4, 5, 6, 7] rfl ?_
            exact ih (w + 1) (by omega) (by rw [← hR, lw_f (fun z => h1 z.1)])
          · exact absurd rfl h_31
set_option maxRecDepth 100000 in
theorem cn_X4_leastBeginning (g : Gp) (cs : Nat × Nat) {m : Mm} {r : Nat} {u : Nat → Int32} {n : Nat} (hr : RowT m r u n) {q : Nat} {v : Nat → Int32} {k : Nat} (hq : RowT m q v k) {i j l : Nat} (hi : i ≤ n) (hj : j ≤ k) (hl : tt u v n k i j = l) (h0 : 0 < l) : Dn g (MX4_leastBeginning cs) [.ref (r), .int (nI (i)), .ref (q), .int (nI (j)), .int (nI (l))] m (some (.int (nI (cw u v n k i j)))) (m) := by
  refine Cn.of pn_X4 (Nat.le_of_ble_eq_true rfl) rfl ?_
  refine gN_iconst 0 dX4_leastBeginning_0 (by decide) ?_
  refine g_istore 5 [(5, .int (nI (0))), (0, .ref (r)), (1, .int (nI (i))), (2, .ref (q)), (3, .int (nI (j))), (4, .int (nI (l)))] dX4_leastBeginning_1 (Nat.le_of_ble_eq_true rfl) rfl ?_
  exact lp_X4_leastBeginning g cs hr hq hi hj hl h0 (cw_ok (u := u) (v := v) (k := k) hi hj (fun e he => hr.w7 he) (by omega)).1 8 0 rfl rfl
set_option maxRecDepth 100000 in
theorem lp_X4_commonWord (g : Gp) (cs : Nat × Nat) {m : Mm} {r : Nat} {u : Nat → Int32} {n : Nat} (hr : RowT m r u n) {q : Nat} {v : Nat → Int32} {k : Nat} (hq : RowT m q v k) {p : Nat} (hp : p < 2147483648) : ∀ d t : Nat, t + d = p → t ≤ tt u v n k 0 0 → ∀ i j l, i = (cws u v n k t).1 → j = (cws u v n k t).2 → l + t = tt u v n k 0 0 → G g (MX4_commonWord cs) (dQ (some (.int (if p < tt u v n k 0 0 then nI (cwt u v n k p) else -1))) m) 17 [(6, .int (nI (t))), (5, .int (nI (l))), (4, .int (nI (j))), (3, .int (nI (i))), (0, .ref (r)), (1, .ref (q)), (2, .int (nI (p)))] [] (0, 0) m := by
  have hn := hr.n
  have hk := hq.n
  have hln := tt_le u v n k 0 0
  intro d
  induction d with
  | zero =>
    intro t ht htL i j l hi0 hj0 hl
    obtain rfl : t = p := ht
    obtain ⟨hi, hj, h3⟩ := cws_ok (u := u) (v := v) (k := k) (fun e he => hr.w7 (m := m) he) t (by omega)
    rw [← hi0] at hi
    rw [← hj0] at hj
    rw [← hi0, ← hj0] at h3
    refine g_iload 6 dX4_commonWord_17 rfl ?_
    refine g_iload_n 2 dX4_commonWord_19 rfl rfl ?_
    refine gN_icmp_ge 71 dX4_commonWord_20 (by decide) (by first | omega | exact b01_lt _) (by first | omega | exact b01_lt _) (fun h_20 => ?_) (fun h_20 => ?_)
    · refine g_iload 5 dX4_commonWord_71 rfl ?_
      refine gN_if_le 89 dX4_commonWord_73 (by decide) (by first | omega | exact b01_lt _) (fun h_73 => ?_) (fun h_73 => ?_)
      · refine g_iconst (-1) dX4_commonWord_89 (by decide) ?_
        refine g_iret rfl dX4_commonWord_90 ⟨Nat.zero_le _, Nat.zero_le _⟩ ?_
        refine ⟨vI ?_, rfl⟩
        first | (rw [if_neg (by omega)]; done) | (rw [if_pos (by omega), hi0, hj0])
      · refine g_aload_n 0 dX4_commonWord_76 rfl rfl ?_
        refine g_iload_n 3 dX4_commonWord_77 rfl rfl ?_
        refine g_aload_n 1 dX4_commonWord_78 rfl rfl ?_
        refine g_iload 4 dX4_commonWord_79 rfl ?_
        refine g_iload 5 dX4_commonWord_81 rfl ?_
        refine gd_callV _ _ _ _ (cn_X4_leastBeginning g (0, 0) hr hq (i := i) (j := j) (l := l) hi hj (by omega) (by omega)) ⟨rfl, rfl⟩ (ok_X4_leastBeginning _) mlX4_41 in_X4_leastBeginning se_X4_leastBeginning 4 0 (hr.t) rfl rfl rfl ⟨Nat.le_of_ble_eq_true rfl, Nat.le_of_ble_eq_true rfl⟩ (by exact Nat.le_of_ble_eq_true rfl) ⟨Nat.zero_le _, Nat.zero_le _⟩ dX4_commonWord_83 rfl ?_
        refine g_goto 90 dX4_commonWord_86 (by decide) ?_
        refine g_iret rfl dX4_commonWord_90 ⟨Nat.zero_le _, Nat.zero_le _⟩ ?_
        refine ⟨vI ?_, rfl⟩
        first | (rw [if_neg (by omega)]; done) | (rw [if_pos (by omega), hi0, hj0])
    · exfalso; omega
  | succ d ih =>
    intro t ht htL i j l hi0 hj0 hl
    obtain ⟨hi, hj, h3⟩ := cws_ok (u := u) (v := v) (k := k) (fun e he => hr.w7 (m := m) he) t (by omega)
    rw [← hi0] at hi
    rw [← hj0] at hj
    rw [← hi0, ← hj0] at h3
    refine g_iload 6 dX4_commonWord_17 rfl ?_
    refine g_iload_n 2 dX4_commonWord_19 rfl rfl ?_
    refine gN_icmp_ge 71 dX4_commonWord_20 (by decide) (by first | omega | exact Nat.lt_trans hW8 (by decide)) (by first | omega | exact Nat.lt_trans hW8 (by decide)) (fun h_20 => ?_) (fun h_20 => ?_)
    · exfalso; omega
    · refine g_iload 5 dX4_commonWord_23 rfl ?_
      refine gN_if_le 71 dX4_commonWord_25 (by decide) (by first | omega | exact Nat.lt_trans hW8 (by decide)) (fun h_25 => ?_) (fun h_25 => ?_)
      · refine g_iload 5 dX4_commonWord_71 rfl ?_
        refine gN_if_le 89 dX4_commonWord_73 (by decide) (by first | omega | exact Nat.lt_trans hW8 (by decide)) (fun h_73 => ?_) (fun h_73 => ?_)
        · refine g_iconst (-1) dX4_commonWord_89 (by decide) ?_
          refine g_iret rfl dX4_commonWord_90 ⟨Nat.zero_le _, Nat.zero_le _⟩ ?_
          exact ⟨vI (by rw [if_neg (by omega)]), rfl⟩
        · exfalso; omega
      · refine g_aload_n 0 dX4_commonWord_28 rfl rfl ?_
        refine g_iload_n 3 dX4_commonWord_29 rfl rfl ?_
        refine g_aload_n 1 dX4_commonWord_30 rfl rfl ?_
        refine g_iload 4 dX4_commonWord_31 rfl ?_
        refine g_iload 5 dX4_commonWord_33 rfl ?_
        refine gd_callV _ _ _ _ (cn_X4_leastBeginning g (0, 0) hr hq (i := i) (j := j) (l := l) hi hj (by omega) (by omega)) ⟨rfl, rfl⟩ (ok_X4_leastBeginning _) mlX4_41 in_X4_leastBeginning se_X4_leastBeginning 4 0 (hr.t) rfl rfl rfl ⟨Nat.le_of_ble_eq_true rfl, Nat.le_of_ble_eq_true rfl⟩ (by exact Nat.le_of_ble_eq_true rfl) ⟨Nat.zero_le _, Nat.zero_le _⟩ dX4_commonWord_35 rfl ?_
        refine g_istore 7 [(7, .int (nI (cw u v n k i j))), (6, .int (nI (t))), (5, .int (nI (l))), (4, .int (nI (j))), (3, .int (nI (i))), (0, .ref (r)), (1, .ref (q)), (2, .int (nI (p)))] dX4_commonWord_38 (Nat.le_of_ble_eq_true rfl) rfl ?_
        refine g_aload_n 0 dX4_commonWord_40 rfl rfl ?_
        refine g_iload 7 dX4_commonWord_41 rfl ?_
        refine g_iload_n 3 dX4_commonWord_43 rfl rfl ?_
        obtain ⟨hW8, hP1, hP2, hP3⟩ := cw_ok (u := u) (v := v) (k := k) hi hj (fun e he => hr.w7 (m := m) he) (by omega)
        refine gd_callV _ _ _ _ (cn_X4_placeOf g (0, 0) hr (nI (cw u v n k i j)) hi) ⟨rfl, rfl⟩ (ok_X4_placeOf _) mlX4_45 in_X4_placeOf se_X4_placeOf 4 0 (hr.t) rfl rfl rfl ⟨Nat.le_of_ble_eq_true rfl, Nat.le_of_ble_eq_true rfl⟩ (by exact Nat.le_of_ble_eq_true rfl) ⟨Nat.zero_le _, Nat.zero_le _⟩ dX4_commonWord_44 rfl ?_
        rw [if_pos hP1]
        refine gN_iconst 1 dX4_commonWord_47 (by decide) ?_
        refine gN_iadd ((fi u n (nI (cw u v n k i j)) i) + 1) dX4_commonWord_48 rfl ?_
        refine g_istore_n 3 [(3, .int (nI ((fi u n (nI (cw u v n k i j)) i) + 1))), (7, .int (nI (cw u v n k i j))), (6, .int (nI (t))), (5, .int (nI (l))), (4, .int (nI (j))), (0, .ref (r)), (1, .ref (q)), (2, .int (nI (p)))] dX4_commonWord_49 rfl (Nat.le_of_ble_eq_true rfl) rfl ?_
        refine g_aload_n 1 dX4_commonWord_50 rfl rfl ?_
        refine g_iload 7 dX4_commonWord_51 rfl ?_
        refine g_iload 4 dX4_commonWord_53 rfl ?_
        refine gd_callV _ _ _ _ (cn_X4_placeOf g (0, 0) hq (nI (cw u v n k i j)) hj) ⟨rfl, rfl⟩ (ok_X4_placeOf _) mlX4_45 in_X4_placeOf se_X4_placeOf 4 0 (hq.t) rfl rfl rfl ⟨Nat.le_of_ble_eq_true rfl, Nat.le_of_ble_eq_true rfl⟩ (by exact Nat.le_of_ble_eq_true rfl) ⟨Nat.zero_le _, Nat.zero_le _⟩ dX4_commonWord_55 rfl ?_
        rw [if_pos hP2]
        refine gN_iconst 1 dX4_commonWord_58 (by decide) ?_
        refine gN_iadd ((fi v k (nI (cw u v n k i j)) j) + 1) dX4_commonWord_59 rfl ?_
        refine g_istore 4 [(4, .int (nI ((fi v k (nI (cw u v n k i j)) j) + 1))), (3, .int (nI ((fi u n (nI (cw u v n k i j)) i) + 1))), (7, .int (nI (cw u v n k i j))), (6, .int (nI (t))), (5, .int (nI (l))), (0, .ref (r)), (1, .ref (q)), (2, .int (nI (p)))] dX4_commonWord_60 (Nat.le_of_ble_eq_true rfl) rfl ?_
        refine g_iinc 5 (nI (l - 1)) 4 [(5, .int (nI (l - 1))), (4, .int (nI ((fi v k (nI (cw u v n k i j)) j) + 1))), (3, .int (nI ((fi u n (nI (cw u v n k i j)) i) + 1))), (7, .int (nI (cw u v n k i j))), (6, .int (nI (t))), (0, .ref (r)), (1, .ref (q)), (2, .int (nI (p)))] dX4_commonWord_62 rfl (nI_dec1 (by first | omega | exact Nat.lt_trans hW8 (by decide))) (Nat.le_of_ble_eq_true rfl) rfl ?_
        refine g_iinc 6 (nI (t + 1)) 4 [(6, .int (nI (t + 1))), (5, .int (nI (l - 1))), (4, .int (nI ((fi v k (nI (cw u v n k i j)) j) + 1))), (3, .int (nI ((fi u n (nI (cw u v n k i j)) i) + 1))), (7, .int (nI (cw u v n k i j))), (0, .ref (r)), (1, .ref (q)), (2, .int (nI (p)))] dX4_commonWord_65 rfl (nI_add t 1) (Nat.le_of_ble_eq_true rfl) rfl ?_
        refine g_goto 17 dX4_commonWord_68 (by decide) ?_
        refine g_pick [0, 1, 2, 3, 5, 6, 7] rfl ?_
        exact ih (t + 1) (by omega) (by omega) _ _ _ (by rw [hi0, hj0]; rfl) (by rw [hi0, hj0]; rfl) (by omega)
set_option maxRecDepth 100000 in
theorem cn_X4_commonWord (g : Gp) (cs : Nat × Nat) {m : Mm} {r : Nat} {u : Nat → Int32} {n : Nat} (hr : RowT m r u n) {q : Nat} {v : Nat → Int32} {k : Nat} (hq : RowT m q v k) {p : Nat} (hp : p < 2147483648) : Dn g (MX4_commonWord cs) [.ref (r), .ref (q), .int (nI (p))] m (some (.int (if p < tt u v n k 0 0 then nI (cwt u v n k p) else -1))) (m) := by
  refine Cn.of pn_X4 (Nat.le_of_ble_eq_true rfl) rfl ?_
  refine gN_iconst 0 dX4_commonWord_0 (by decide) ?_
  refine g_istore_n 3 [(3, .int (nI (0))), (0, .ref (r)), (1, .ref (q)), (2, .int (nI (p)))] dX4_commonWord_1 rfl (Nat.le_of_ble_eq_true rfl) rfl ?_
  refine gN_iconst 0 dX4_commonWord_2 (by decide) ?_
  refine g_istore 4 [(4, .int (nI (0))), (3, .int (nI (0))), (0, .ref (r)), (1, .ref (q)), (2, .int (nI (p)))] dX4_commonWord_3 (Nat.le_of_ble_eq_true rfl) rfl ?_
  refine g_aload_n 0 dX4_commonWord_5 rfl rfl ?_
  refine gN_iconst 0 dX4_commonWord_6 (by decide) ?_
  refine g_aload_n 1 dX4_commonWord_7 rfl rfl ?_
  refine gN_iconst 0 dX4_commonWord_8 (by decide) ?_
  refine gd_callV _ _ _ _ (cn_X4_commonLength g (0, 0) hr hq (i := 0) (j := 0) (by omega) (by omega)) ⟨rfl, rfl⟩ (ok_X4_commonLength _) mlX4_37 in_X4_commonLength se_X4_commonLength 4 0 (hr.t) rfl rfl rfl ⟨Nat.le_of_ble_eq_true rfl, Nat.le_of_ble_eq_true rfl⟩ (by exact Nat.le_of_ble_eq_true rfl) ⟨Nat.zero_le _, Nat.zero_le _⟩ dX4_commonWord_9 rfl ?_
  refine g_istore 5 [(5, .int (nI (tt u v n k 0 0))), (4, .int (nI (0))), (3, .int (nI (0))), (0, .ref (r)), (1, .ref (q)), (2, .int (nI (p)))] dX4_commonWord_12 (Nat.le_of_ble_eq_true rfl) rfl ?_
  refine gN_iconst 0 dX4_commonWord_14 (by decide) ?_
  refine g_istore 6 [(6, .int (nI (0))), (5, .int (nI (tt u v n k 0 0))), (4, .int (nI (0))), (3, .int (nI (0))), (0, .ref (r)), (1, .ref (q)), (2, .int (nI (p)))] dX4_commonWord_15 (Nat.le_of_ble_eq_true rfl) rfl ?_
  refine g_pick [0, 1, 2, 3, 4, 5, 6] rfl ?_
  exact lp_X4_commonWord g cs hr hq hp p 0 (Nat.zero_add _) (Nat.zero_le _) _ _ _ rfl rfl rfl
