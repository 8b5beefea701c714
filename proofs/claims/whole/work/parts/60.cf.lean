/-! THE CLASS: copying a state -/
/-- ints and references set anew -/
def wM (m : Mm) (I : Nat → Nat → Int32) (R : Nat → Nat → Option Nat) : Mm := (fz m, tg m, I, R, jm m)
theorem wM_0 (m : Mm) : wM m (im m) (rf m) = m := rfl
theorem im_wM (m : Mm) (I : Nat → Nat → Int32) (R : Nat → Nat → Option Nat) : im (wM m I R) = I := rfl
theorem rf_wM (m : Mm) (I : Nat → Nat → Int32) (R : Nat → Nat → Option Nat) : rf (wM m I R) = R := rfl
theorem wM_cp (m : Mm) (I : Nat → Nat → Int32) (R : Nat → Nat → Option Nat) (b d n y : Nat) (f : Nat → Int32) (v : Int32) (hy : y = d + n) (hv : v = f n) : sI (wM m (cpI I b d n f) R) b y v = wM m (cpI I b d (n + 1) f) R := congrArg (fun q => wM m q R) (cpI_s I b d n y f v hy hv)
/-- nothing outside lo .. hi - 1 is changed -/
def FrB (m : Mm) (lo hi : Nat) (I : Nat → Nat → Int32) (R : Nat → Nat → Option Nat) : Prop := ∀ x, (x < lo ∨ hi ≤ x) → I x = im m x ∧ R x = rf m x
theorem FrB.rfl' (m : Mm) (lo hi : Nat) : FrB m lo hi (im m) (rf m) := fun _ _ => ⟨rfl, rfl⟩
theorem FrB.tr {m : Mm} {lo hi : Nat} {I J : Nat → Nat → Int32} {R Q : Nat → Nat → Option Nat} (h : FrB m lo hi I R) (k : FrB (wM m I R) lo hi J Q) : FrB m lo hi J Q := fun x q => ⟨(k x q).1.trans (h x q).1, (k x q).2.trans (h x q).2⟩
theorem FrB.up {m : Mm} {lo hi lo' hi' : Nat} {I : Nat → Nat → Int32} {R : Nat → Nat → Option Nat} (h : FrB m lo hi I R) (h1 : lo' ≤ lo) (h2 : hi ≤ hi') : FrB m lo' hi' I R := fun x q => h x (by omega)
theorem FrB.i {m : Mm} {lo hi : Nat} {I : Nat → Nat → Int32} {R : Nat → Nat → Option Nat} (h : FrB m lo hi I R) {a k : Nat} (v : Int32) (h1 : lo ≤ a) (h2 : a < hi) : FrB m lo hi (u2 I a k v) R := fun x q => ⟨by rw [u2_o _ _ _ _ (by omega)]; exact (h x q).1, (h x q).2⟩
theorem FrB.r {m : Mm} {lo hi : Nat} {I : Nat → Nat → Int32} {R : Nat → Nat → Option Nat} (h : FrB m lo hi I R) {a k : Nat} (v : Option Nat) (h1 : lo ≤ a) (h2 : a < hi) : FrB m lo hi I (u2 R a k v) := fun x q => ⟨(h x q).1, by rw [u2_o _ _ _ _ (by omega)]; exact (h x q).2⟩
theorem FrB.c {m : Mm} {lo hi : Nat} {I : Nat → Nat → Int32} {R : Nat → Nat → Option Nat} (h : FrB m lo hi I R) {a d n : Nat} (f : Nat → Int32) (h1 : lo ≤ a) (h2 : a < hi) : FrB m lo hi (cpI I a d n f) R := fun x q => ⟨by rw [cpI_ne _ _ _ _ _ (by omega)]; exact (h x q).1, (h x q).2⟩
theorem FrB.st {m : Mm} {lo hi S : Nat} {I : Nat → Nat → Int32} {R : Nat → Nat → Option Nat} (h : FrB m lo hi I R) (hd : S + 47 ≤ lo ∨ hi ≤ S) (hS : StT m S) : StT (wM m I R) S := hS.fr (fun _ _ _ => rfl) (fun x h1 h2 _ => (h x (by omega)).2)
theorem FrB.rp {m : Mm} {lo hi S B : Nat} {z : Nat → Int32} {I : Nat → Nat → Int32} {R : Nat → Nat → Option Nat} (h : FrB m lo hi I R) (hd : S + 47 ≤ lo ∨ hi ≤ S) (hB : hi ≤ B) (hR : Rp m B S z) (h0 : nv (z 0) ≤ 10) : Rp (wM m I R) B S z :=
  hR.fr h0 (fun x h1 h2 => h x (by omega)) (Nat.le_refl _) (fun x h1 h2 => ⟨rfl, (h x (by omega)).1, (h x (by omega)).2⟩)
theorem FrB.row {m : Mm} {lo hi r n B : Nat} {w : Nat → Int32} {I : Nat → Nat → Int32} {R : Nat → Nat → Option Nat} (h : FrB m lo hi I R) (hB : hi ≤ B) (hR : RowA m B r w n) : RowA (wM m I R) B r w n :=
  hR.fr (Nat.le_refl _) (fun x h1 h2 => ⟨rfl, (h x (by omega)).1, (h x (by omega)).2⟩)
/-- answers v, and what was changed is so -/
def Mn (g : Gp) (M : MI) (av : List Value) (m : Mm) (v : Option Value) (P : (Nat → Nat → Int32) → (Nat → Nat → Option Nat) → Prop) : Prop := Cn g M av m (fun r m1 => r = .inl v ∧ ∃ I R, m1 = wM m I R ∧ P I R)
abbrev mQ (m : Mm) (v : Option Value) (P : (Nat → Nat → Int32) → (Nat → Nat → Option Nat) → Prop) : Rs → Mm → Prop := fun r m1 => r = .inl v ∧ ∃ I R, m1 = wM m I R ∧ P I R
section GMM
variable {g : Gp} {M : MI} {Q : Rs → Mm → Prop} {pc : Nat} {L : List (Nat × Value)} {st : List Value} {u : Nat × Nat} {m : Mm}
theorem gm_callV {i n q : Nat} {My : MI} {r : vw_C} {P : (Nat → Nat → Int32) → (Nat → Nat → Option Nat) → Prop} (v : Option Value) (av rest : List Value) (hC : Mn g My (.ref q :: av) m v P) (hz : fm_z My) (hM : fm_M My n) (hlk : Cond.methodLink (mY M).cls i (mY My) ∈ wA) (hin : Cond.instanceMethod (mY My) ∈ wA) (hse : Cond.selects (mY My).cls (mY My) (mY My) ∈ wA) (κ ln : Nat) (ht : tg m q = (κ, ln)) (hr : vwCl[κ]? = some r) (hre : r.1 = (mY My).cls) (hn : av.length = n) (hfit : fm_fit M My) (hrest : (rest.map fun v => v.category).sum ≤ 8) (hu : u.1 ≤ (mR M).cells ∧ u.2 ≤ (mR M).slots) (hdg : decode (mC M) pc = .ok (.invokevirtual i, 3)) (hstk : st = av.reverse ++ .ref q :: rest) (k : ∀ I R, P I R → G g M Q (pc + 3) L (v.toList ++ rest) u (wM m I R)) : G g M Q pc L st u m :=
  g_callV av rest hC hM hlk hin hse (by rw [ht]; exact hr) hre hn hfit hrest (g_b0 hz hu) hdg hstk (fun v' m' h => by obtain ⟨h1, I, R, h2, h3⟩ := h; cases h1; cases h2; exact g_u0 hz (k I R h3)) (fun E m' h => by cases h.1)
end GMM
set_option maxRecDepth 100000 in
theorem cn_X8_copyFrom (g : Gp) (cs : Nat × Nat) {m : Mm} {A C : Nat} (hne : C ≠ A) (ht : tg m A = (8, 0)) (ht2 : tg m C = (8, 0)) : Dn g (MX8_copyFrom cs) [.ref A, .ref C] m none (wM m (cpI (im m) A 0 5 (fun j => im m C j)) (rf m)) := by
  refine Cn.of pn_X8 (Nat.le_of_ble_eq_true rfl) rfl ?_
  refine g_mem (m1 := wM m (cpI (im m) A 0 0 (fun j => im m C j)) (rf m)) (by rw [cpI_0]; rfl) ?_
  refine g_aload_n 0 dX8_copyFrom_0 rfl rfl ?_
  refine g_aload_n 1 dX8_copyFrom_1 rfl rfl ?_
  refine gN_getI flX8_9 rfl 0 (ht2) dX8_copyFrom_2 ?_
  refine g_eI (im m C 0) (by rw [im_wM, cpI_ne _ _ _ _ _ hne]) ?_
  refine gN_putI fwX8_9 rfl 0 (ht) dX8_copyFrom_5 ?_
  refine g_mem (m1 := wM m (cpI (im m) A 0 1 (fun j => im m C j)) (rf m)) (wM_cp _ _ _ _ _ _ _ _ _ rfl rfl) ?_
  refine g_aload_n 0 dX8_copyFrom_8 rfl rfl ?_
  refine g_aload_n 1 dX8_copyFrom_9 rfl rfl ?_
  refine gN_getI flX8_15 rfl 0 (ht2) dX8_copyFrom_10 ?_
  refine g_eI (im m C 1) (by rw [im_wM, cpI_ne _ _ _ _ _ hne]) ?_
  refine gN_putI fwX8_15 rfl 0 (ht) dX8_copyFrom_13 ?_
  refine g_mem (m1 := wM m (cpI (im m) A 0 2 (fun j => im m C j)) (rf m)) (wM_cp _ _ _ _ _ _ _ _ _ rfl rfl) ?_
  refine g_aload_n 0 dX8_copyFrom_16 rfl rfl ?_
  refine g_aload_n 1 dX8_copyFrom_17 rfl rfl ?_
  refine gN_getI flX8_18 rfl 0 (ht2) dX8_copyFrom_18 ?_
  refine g_eI (im m C 2) (by rw [im_wM, cpI_ne _ _ _ _ _ hne]) ?_
  refine gN_putI fwX8_18 rfl 0 (ht) dX8_copyFrom_21 ?_
  refine g_mem (m1 := wM m (cpI (im m) A 0 3 (fun j => im m C j)) (rf m)) (wM_cp _ _ _ _ _ _ _ _ _ rfl rfl) ?_
  refine g_aload_n 0 dX8_copyFrom_24 rfl rfl ?_
  refine g_aload_n 1 dX8_copyFrom_25 rfl rfl ?_
  refine gN_getI flX8_21 rfl 0 (ht2) dX8_copyFrom_26 ?_
  refine g_eI (im m C 3) (by rw [im_wM, cpI_ne _ _ _ _ _ hne]) ?_
  refine gN_putI fwX8_21 rfl 0 (ht) dX8_copyFrom_29 ?_
  refine g_mem (m1 := wM m (cpI (im m) A 0 4 (fun j => im m C j)) (rf m)) (wM_cp _ _ _ _ _ _ _ _ _ rfl rfl) ?_
  refine g_aload_n 0 dX8_copyFrom_32 rfl rfl ?_
  refine g_aload_n 1 dX8_copyFrom_33 rfl rfl ?_
  refine gN_getI flX8_24 rfl 0 (ht2) dX8_copyFrom_34 ?_
  refine g_eI (im m C 4) (by rw [im_wM, cpI_ne _ _ _ _ _ hne]) ?_
  refine gN_putI fwX8_24 rfl 0 (ht) dX8_copyFrom_37 ?_
  refine g_mem (m1 := wM m (cpI (im m) A 0 5 (fun j => im m C j)) (rf m)) (wM_cp _ _ _ _ _ _ _ _ _ rfl rfl) ?_
  refine g_vret rfl dX8_copyFrom_40 ⟨Nat.zero_le _, Nat.zero_le _⟩ ?_
  exact ⟨rfl, rfl⟩
set_option maxRecDepth 100000 in
theorem cn_X0_copyFrom (g : Gp) (cs : Nat × Nat) {m : Mm} {A C : Nat} (hne : C ≠ A) (ht : tg m A = (0, 0)) (ht2 : tg m C = (0, 0)) : Dn g (MX0_copyFrom cs) [.ref A, .ref C] m none (wM m (cpI (im m) A 0 3 (fun j => im m C j)) (rf m)) := by
  refine Cn.of pn_X0 (Nat.le_of_ble_eq_true rfl) rfl ?_
  refine g_mem (m1 := wM m (cpI (im m) A 0 0 (fun j => im m C j)) (rf m)) (by rw [cpI_0]; rfl) ?_
  refine g_aload_n 0 dX0_copyFrom_0 rfl rfl ?_
  refine g_aload_n 1 dX0_copyFrom_1 rfl rfl ?_
  refine gN_getI flX0_16 rfl 0 (ht2) dX0_copyFrom_2 ?_
  refine g_eI (im m C 0) (by rw [im_wM, cpI_ne _ _ _ _ _ hne]) ?_
  refine gN_putI fwX0_16 rfl 0 (ht) dX0_copyFrom_5 ?_
  refine g_mem (m1 := wM m (cpI (im m) A 0 1 (fun j => im m C j)) (rf m)) (wM_cp _ _ _ _ _ _ _ _ _ rfl rfl) ?_
  refine g_aload_n 0 dX0_copyFrom_8 rfl rfl ?_
  refine g_aload_n 1 dX0_copyFrom_9 rfl rfl ?_
  refine gN_getI flX0_7 rfl 0 (ht2) dX0_copyFrom_10 ?_
  refine g_eI (im m C 1) (by rw [im_wM, cpI_ne _ _ _ _ _ hne]) ?_
  refine gN_putI fwX0_7 rfl 0 (ht) dX0_copyFrom_13 ?_
  refine g_mem (m1 := wM m (cpI (im m) A 0 2 (fun j => im m C j)) (rf m)) (wM_cp _ _ _ _ _ _ _ _ _ rfl rfl) ?_
  refine g_aload_n 0 dX0_copyFrom_16 rfl rfl ?_
  refine g_aload_n 1 dX0_copyFrom_17 rfl rfl ?_
  refine gN_getI flX0_13 rfl 0 (ht2) dX0_copyFrom_18 ?_
  refine g_eI (im m C 2) (by rw [im_wM, cpI_ne _ _ _ _ _ hne]) ?_
  refine gN_putI fwX0_13 rfl 0 (ht) dX0_copyFrom_21 ?_
  refine g_mem (m1 := wM m (cpI (im m) A 0 3 (fun j => im m C j)) (rf m)) (wM_cp _ _ _ _ _ _ _ _ _ rfl rfl) ?_
  refine g_vret rfl dX0_copyFrom_24 ⟨Nat.zero_le _, Nat.zero_le _⟩ ?_
  exact ⟨rfl, rfl⟩
set_option maxRecDepth 100000 in
theorem cn_X7_copyFrom (g : Gp) (cs : Nat × Nat) {m : Mm} {A P C D : Nat} (hne : C ≠ P) (hne2 : C ≠ A) (ht : tg m A = (7, 0)) (hp : tg m P = (11, 4)) (hr : rf m A 0 = some P) (ht2 : tg m C = (7, 0)) (hp2 : tg m D = (11, 4)) (hr2 : rf m C 0 = some D) : Dn g (MX7_copyFrom cs) [.ref A, .ref C] m none (wM m (u2 (cpI (im m) P 0 4 (fun j => im m D j)) A 1 (im m C 1)) (rf m)) := by
  refine Cn.of pn_X7 (Nat.le_of_ble_eq_true rfl) rfl ?_
  refine g_aload_n 1 dX7_copyFrom_0 rfl rfl ?_
  refine gN_getR (D) flX7_9 (fun _ _ _ => rfl) 0 (ht2) (hr2) dX7_copyFrom_1 ?_
  refine gN_iconst 0 dX7_copyFrom_4 (by decide) ?_
  refine g_aload_n 0 dX7_copyFrom_5 rfl rfl ?_
  refine gN_getR (P) flX7_9 (fun _ _ _ => rfl) 0 (ht) (hr) dX7_copyFrom_6 ?_
  refine gN_iconst 0 dX7_copyFrom_9 (by decide) ?_
  refine gN_iconst 4 dX7_copyFrom_10 (by decide) ?_
  refine g_acopy 4 4 4 (hp2) (hp) (by decide) (by decide) (by decide) sy_l7 (by exact Nat.le_of_ble_eq_true rfl) (by exact Nat.le_of_ble_eq_true rfl) dX7_copyFrom_11 ?_
  refine g_aload_n 0 dX7_copyFrom_14 rfl rfl ?_
  refine g_aload_n 1 dX7_copyFrom_15 rfl rfl ?_
  refine gN_getI flX7_15 rfl 0 (ht2) dX7_copyFrom_16 ?_
  refine g_eI (im m C 1) (congrFun (cpI_ne _ _ _ _ _ hne) 1) ?_
  refine gN_putI fwX7_15 rfl 0 (ht) dX7_copyFrom_19 ?_
  refine g_vret rfl dX7_copyFrom_22 ⟨Nat.zero_le _, Nat.zero_le _⟩ ?_
  exact ⟨rfl, rfl⟩
set_option maxRecDepth 100000 in
theorem cn_X5_copyFrom (g : Gp) (cs : Nat × Nat) {m : Mm} {A C r : Nat} (hne : C ≠ A) (ht : tg m A = (5, 0)) (ht2 : tg m C = (5, 0)) (hr : rf m C 0 = some r) : Dn g (MX5_copyFrom cs) [.ref A, .ref C] m none (wM m (cpI (im m) A 1 9 (fun j => im m C (1 + j))) (u2 (rf m) A 0 (some r))) := by
  refine Cn.of pn_X5 (Nat.le_of_ble_eq_true rfl) rfl ?_
  refine g_aload_n 0 dX5_copyFrom_0 rfl rfl ?_
  refine g_aload_n 1 dX5_copyFrom_1 rfl rfl ?_
  refine gN_getR (r) flX5_9 (fun _ _ _ => rfl) 0 (ht2) (hr) dX5_copyFrom_2 ?_
  refine gN_putR fwX5_9 rfl 0 (ht) dX5_copyFrom_5 ?_
  refine g_mem (m1 := wM m (cpI (im m) A 1 0 (fun j => im m C (1 + j))) (u2 (rf m) A 0 (some r))) (by rw [cpI_0]; rfl) ?_
  refine g_aload_n 0 dX5_copyFrom_8 rfl rfl ?_
  refine g_aload_n 1 dX5_copyFrom_9 rfl rfl ?_
  refine gN_getI flX5_15 rfl 0 (ht2) dX5_copyFrom_10 ?_
  refine g_eI (im m C 1) (by rw [im_wM, cpI_ne _ _ _ _ _ hne]) ?_
  refine gN_putI fwX5_15 rfl 0 (ht) dX5_copyFrom_13 ?_
  refine g_mem (m1 := wM m (cpI (im m) A 1 1 (fun j => im m C (1 + j))) (u2 (rf m) A 0 (some r))) (wM_cp _ _ _ _ _ _ _ _ _ rfl rfl) ?_
  refine g_aload_n 0 dX5_copyFrom_16 rfl rfl ?_
  refine g_aload_n 1 dX5_copyFrom_17 rfl rfl ?_
  refine gN_getI flX5_19 rfl 0 (ht2) dX5_copyFrom_18 ?_
  refine g_eI (im m C 2) (by rw [im_wM, cpI_ne _ _ _ _ _ hne]) ?_
  refine gN_putI fwX5_19 rfl 0 (ht) dX5_copyFrom_21 ?_
  refine g_mem (m1 := wM m (cpI (im m) A 1 2 (fun j => im m C (1 + j))) (u2 (rf m) A 0 (some r))) (wM_cp _ _ _ _ _ _ _ _ _ rfl rfl) ?_
  refine g_aload_n 0 dX5_copyFrom_24 rfl rfl ?_
  refine g_aload_n 1 dX5_copyFrom_25 rfl rfl ?_
  refine gN_getI flX5_22 rfl 0 (ht2) dX5_copyFrom_26 ?_
  refine g_eI (im m C 3) (by rw [im_wM, cpI_ne _ _ _ _ _ hne]) ?_
  refine gN_putI fwX5_22 rfl 0 (ht) dX5_copyFrom_29 ?_
  refine g_mem (m1 := wM m (cpI (im m) A 1 3 (fun j => im m C (1 + j))) (u2 (rf m) A 0 (some r))) (wM_cp _ _ _ _ _ _ _ _ _ rfl rfl) ?_
  refine g_aload_n 0 dX5_copyFrom_32 rfl rfl ?_
  refine g_aload_n 1 dX5_copyFrom_33 rfl rfl ?_
  refine gN_getI flX5_25 rfl 0 (ht2) dX5_copyFrom_34 ?_
  refine g_eI (im m C 4) (by rw [im_wM, cpI_ne _ _ _ _ _ hne]) ?_
  refine gN_putI fwX5_25 rfl 0 (ht) dX5_copyFrom_37 ?_
  refine g_mem (m1 := wM m (cpI (im m) A 1 4 (fun j => im m C (1 + j))) (u2 (rf m) A 0 (some r))) (wM_cp _ _ _ _ _ _ _ _ _ rfl rfl) ?_
  refine g_aload_n 0 dX5_copyFrom_40 rfl rfl ?_
  refine g_aload_n 1 dX5_copyFrom_41 rfl rfl ?_
  refine gN_getI flX5_28 rfl 0 (ht2) dX5_copyFrom_42 ?_
  refine g_eI (im m C 5) (by rw [im_wM, cpI_ne _ _ _ _ _ hne]) ?_
  refine gN_putI fwX5_28 rfl 0 (ht) dX5_copyFrom_45 ?_
  refine g_mem (m1 := wM m (cpI (im m) A 1 5 (fun j => im m C (1 + j))) (u2 (rf m) A 0 (some r))) (wM_cp _ _ _ _ _ _ _ _ _ rfl rfl) ?_
  refine g_aload_n 0 dX5_copyFrom_48 rfl rfl ?_
  refine g_aload_n 1 dX5_copyFrom_49 rfl rfl ?_
  refine gN_getI flX5_31 rfl 0 (ht2) dX5_copyFrom_50 ?_
  refine g_eI (im m C 6) (by rw [im_wM, cpI_ne _ _ _ _ _ hne]) ?_
  refine gN_putI fwX5_31 rfl 0 (ht) dX5_copyFrom_53 ?_
  refine g_mem (m1 := wM m (cpI (im m) A 1 6 (fun j => im m C (1 + j))) (u2 (rf m) A 0 (some r))) (wM_cp _ _ _ _ _ _ _ _ _ rfl rfl) ?_
  refine g_aload_n 0 dX5_copyFrom_56 rfl rfl ?_
  refine g_aload_n 1 dX5_copyFrom_57 rfl rfl ?_
  refine gN_getI flX5_34 rfl 0 (ht2) dX5_copyFrom_58 ?_
  refine g_eI (im m C 7) (by rw [im_wM, cpI_ne _ _ _ _ _ hne]) ?_
  refine gN_putI fwX5_34 rfl 0 (ht) dX5_copyFrom_61 ?_
  refine g_mem (m1 := wM m (cpI (im m) A 1 7 (fun j => im m C (1 + j))) (u2 (rf m) A 0 (some r))) (wM_cp _ _ _ _ _ _ _ _ _ rfl rfl) ?_
  refine g_aload_n 0 dX5_copyFrom_64 rfl rfl ?_
  refine g_aload_n 1 dX5_copyFrom_65 rfl rfl ?_
  refine gN_getI flX5_37 rfl 0 (ht2) dX5_copyFrom_66 ?_
  refine g_eI (im m C 8) (by rw [im_wM, cpI_ne _ _ _ _ _ hne]) ?_
  refine gN_putI fwX5_37 rfl 0 (ht) dX5_copyFrom_69 ?_
  refine g_mem (m1 := wM m (cpI (im m) A 1 8 (fun j => im m C (1 + j))) (u2 (rf m) A 0 (some r))) (wM_cp _ _ _ _ _ _ _ _ _ rfl rfl) ?_
  refine g_aload_n 0 dX5_copyFrom_72 rfl rfl ?_
  refine g_aload_n 1 dX5_copyFrom_73 rfl rfl ?_
  refine gN_getI flX5_40 rfl 0 (ht2) dX5_copyFrom_74 ?_
  refine g_eI (im m C 9) (by rw [im_wM, cpI_ne _ _ _ _ _ hne]) ?_
  refine gN_putI fwX5_40 rfl 0 (ht) dX5_copyFrom_77 ?_
  refine g_mem (m1 := wM m (cpI (im m) A 1 9 (fun j => im m C (1 + j))) (u2 (rf m) A 0 (some r))) (wM_cp _ _ _ _ _ _ _ _ _ rfl rfl) ?_
  refine g_vret rfl dX5_copyFrom_80 ⟨Nat.zero_le _, Nat.zero_le _⟩ ?_
  exact ⟨rfl, rfl⟩
