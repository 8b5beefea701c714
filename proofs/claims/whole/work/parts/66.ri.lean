/-! new cells at a known address; a row is made -/
def nwA (m : Mm) (a : Nat) (t : Nat × Nat) : Mm := (a + 1, u1 (tg m) a t, u1 (im m) a (fun _ => 0), u1 (rf m) a (fun _ => none), u1 (jm m) a (fun _ => 0))
theorem nw_A {m : Mm} {a : Nat} (h : fz m = a) (t : Nat × Nat) : nw m t = nwA m a t := by subst h; rfl
theorem tg_nwA (m : Mm) (a : Nat) (t : Nat × Nat) : tg (nwA m a t) = u1 (tg m) a t := rfl
theorem im_nwA (m : Mm) (a : Nat) (t : Nat × Nat) : im (nwA m a t) = u1 (im m) a (fun _ => 0) := rfl
theorem rf_nwA (m : Mm) (a : Nat) (t : Nat × Nat) : rf (nwA m a t) = u1 (rf m) a (fun _ => none) := rfl
theorem jm_nwA (m : Mm) (a : Nat) (t : Nat × Nat) : jm (nwA m a t) = u1 (jm m) a (fun _ => 0) := rfl
section GNW
variable {g : Gp} {M : MI} {Q : Rs → Mm → Prop} {pc : Nat} {L : List (Nat × Value)} {st : List Value} {u : Nat × Nat} {m : Mm}
theorem g_newIA (a N : Nat) (ha : fz m = a) (hb : N < 100000) (hu : u.1 + 1 ≤ (mR M).cells ∧ u.2 + N ≤ (mR M).slots) (hdg : decode (mC M) pc = .ok (.newarray .int, 2)) (k : G g M Q (pc + 2) L (.ref a :: st) (u.1 + 1, u.2 + N) (nwA m a (11, N))) : G g M Q pc L (.int (nI N) :: st) u m := by
  refine g_newI N (nI_tI' (by omega)) (by omega) hu hdg ac_int ?_
  rw [nw_A ha, ha]; exact k
theorem g_newJA (a N : Nat) (ha : fz m = a) (hb : N < 100000) (hu : u.1 + 1 ≤ (mR M).cells ∧ u.2 + N ≤ (mR M).slots) (hdg : decode (mC M) pc = .ok (.newarray .long, 2)) (k : G g M Q (pc + 2) L (.ref a :: st) (u.1 + 1, u.2 + N) (nwA m a (18, N))) : G g M Q pc L (.int (nI N) :: st) u m := by
  refine g_newJ N (nI_tI' (by omega)) (by omega) hu hdg ac_long ?_
  rw [nw_A ha, ha]; exact k
theorem g_newQA {i : Nat} (κ a N : Nat) (hκ : 11 < κ ∧ κ < 18) (ha : fz m = a) (hb : N < 100000) (hu : u.1 + 1 ≤ (mR M).cells ∧ u.2 + N ≤ (mR M).slots) (hdg : decode (mC M) pc = .ok (.anewarray i, 3)) (hcl : Cond.classLink (mY M).cls i (fm_el κ) ∈ wA) (hA : Cond.arrayOver (.object (fm_el κ)) ∈ wN) (k : G g M Q (pc + 3) L (.ref a :: st) (u.1 + 1, u.2 + N) (nwA m a (κ, N))) : G g M Q pc L (.int (nI N) :: st) u m := by
  refine g_newQ κ N hκ (nI_tI' (by omega)) (by omega) hu hdg hcl hA ?_
  rw [nw_A ha, ha]; exact k
theorem g_newA {i c : Nat} {r : vw_C} (a : Nat) (ha : fz m = a) (hr : vwCl[c]? = some r) (hcl : Cond.classLink (mY M).cls i r.1 ∈ wA) (hin : Cond.instantiable r.1 r.2.2 ∈ wA) (hini : Cond.initialized r.1 ∈ wA) (hdf : ∀ j, j < r.2.2 → defaultValue (fm_ty c j) = fm_fv (fm_ty c j) (fun _ => 0) (fun _ => none) (fun _ => 0) j) (hu : u.1 + 1 ≤ (mR M).cells ∧ u.2 + r.2.2 ≤ (mR M).slots) (hdg : decode (mC M) pc = .ok (.new i, 3))
    (k : G g M Q (pc + 3) L (.ref a :: st) (u.1 + 1, u.2 + r.2.2) (nwA m a (c, 0))) : G g M Q pc L st u m := by
  refine g_new hr hcl hin hini hdf hu hdg ?_
  rw [nw_A ha, ha]; exact k
theorem g_u {u2 : Nat × Nat} (h : u = u2) (k : G g M Q pc L st u2 m) : G g M Q pc L st u m := by subst h; exact k
end GNW
theorem df_ok {c : Nat} {r : vw_C} (hr : vwCl[c]? = some r) : ∀ j, j < r.2.2 → defaultValue (fm_ty c j) = fm_fv (fm_ty c j) (fun _ => 0) (fun _ => none) (fun _ => 0) j := by
  match c, hr with
  | 0, h => cases h; decide
  | 1, h => cases h; decide
  | 2, h => cases h; decide
  | 3, h => cases h; decide
  | 4, h => cases h; decide
  | 5, h => cases h; decide
  | 6, h => cases h; decide
  | 7, h => cases h; decide
  | 8, h => cases h; decide
  | 9, h => cases h; decide
  | 10, h => cases h; decide
  | c + 11, h => simp [vwCl] at h
/-- what a making leaves: all ahead of q as it was -/
def Bfr (m m1 : Mm) (q : Nat) : Prop := ∀ x, x < q → tg m1 x = tg m x ∧ im m1 x = im m x ∧ rf m1 x = rf m x ∧ jm m1 x = jm m x
set_option maxRecDepth 100000 in
theorem lp_X4_init (g : Gp) (cs : Nat × Nat) {m : Mm} {q C b n : Nat} {f : Nat → Int32} (ht : tg m q = (4, 0)) (h1 : tg m (q + 1) = (11, n)) (h2 : tg m (q + 2) = (11, 8)) (r1 : rf m q 1 = some (q + 1)) (r2 : rf m q 2 = some (q + 2)) (hl : im m q 0 = nI n) (hC : tg m C = (11, 60)) (hCq : C < q) (hbn : b + n ≤ 60) (hn : n ≤ 12) (hf : ∀ e, e < n → im m C (b + e) = f (b + e)) (hw : ∀ e, e < n → NR (f (b + e) - nI 97) 0 7) {u9 : Nat × Nat} (hu9 : u9.1 ≤ (mR (MX4_init cs)).cells ∧ u9.2 ≤ (mR (MX4_init cs)).slots) {Q : Rs → Mm → Prop} (K : ∀ I, (∀ x, x ≠ q + 1 → x ≠ q + 2 → I x = im m x) → RowT (wI m I) q (fun e => f (b + e) - nI 97) n → Q (.inl none) (wI m I)) : ∀ d i : Nat, i + d = n → ∀ I, (∀ x, x ≠ q + 1 → x ≠ q + 2 → I x = im m x) → (∀ e, e < i → I (q + 1) e = f (b + e) - nI 97) → (∀ c, c < 8 → ∀ p, bt (I (q + 2) c) p = decide (p < i ∧ f (b + p) - nI 97 = nI c)) → G g (MX4_init cs) Q 49 [(5, .int (nI (i))), (0, .ref (q)), (1, .ref (C)), (2, .int (nI (b))), (3, .int (nI (b + n))), (4, .int (nI (b)))] [] u9 (wI m I) := by
  intro d
  induction d with
  | zero =>
    intro i hi I k1 k2 k3
    obtain rfl : i = n := hi
    refine g_iload 5 dX4_init_49 rfl ?_
    refine g_aload_n 0 dX4_init_51 rfl rfl ?_
    refine gN_getI flX4_18 rfl 0 (ht) dX4_init_52 ?_
    refine g_ei (nI (i)) ((congrFun (k1 q (by omega) (by omega)) 0).trans hl) ?_
    refine gN_icmp_ge 111 dX4_init_55 (by decide) (by first | omega | exact b01_lt _) (by first | omega | exact b01_lt _) (fun h_55 => ?_) (fun h_55 => ?_)
    · refine g_vret rfl dX4_init_111 hu9 ?_
      refine K I k1 ⟨⟨ht, h1, h2⟩, ⟨r1, r2⟩, ⟨(congrFun (k1 q (by omega) (by omega)) 0).trans hl, hn⟩, fun e he => ⟨k2 e he, hw e he⟩, k3⟩
    · exfalso; omega
  | succ d ih =>
    intro i hi I k1 k2 k3
    have hwi := hw i (by omega)
    have hwi7 := hwi.hi
    refine g_iload 5 dX4_init_49 rfl ?_
    refine g_aload_n 0 dX4_init_51 rfl rfl ?_
    refine gN_getI flX4_18 rfl 0 (ht) dX4_init_52 ?_
    refine g_ei (nI (n)) ((congrFun (k1 q (by omega) (by omega)) 0).trans hl) ?_
    refine gN_icmp_ge 111 dX4_init_55 (by decide) (by first | omega | exact b01_lt _) (by first | omega | exact b01_lt _) (fun h_55 => ?_) (fun h_55 => ?_)
    · exfalso; omega
    · refine g_aload_n 1 dX4_init_58 rfl rfl ?_
      refine g_iload 4 dX4_init_59 rfl ?_
      refine g_iload 5 dX4_init_61 rfl ?_
      refine gN_iadd (b + i) dX4_init_63 rfl ?_
      refine gN_iald 60 (hC) (by first | omega | exact b01_lt _) (by first | omega | exact b01_lt _) dX4_init_64 ?_
      refine g_eI (f (b + i)) ((congrFun (k1 C (by omega) (by omega)) _).trans (hf _ (by omega))) ?_
      refine gN_bipush 97 dX4_init_65 (by decide) ?_
      refine g_isub dX4_init_67 ?_
      refine g_ei (nI (nv (f (b + i) - nI 97))) (hwi.e) ?_
      refine g_istore 6 [(6, .int (nI (nv (f (b + i) - nI 97)))), (5, .int (nI (i))), (0, .ref (q)), (1, .ref (C)), (2, .int (nI (b))), (3, .int (nI (b + n))), (4, .int (nI (b)))] dX4_init_68 (Nat.le_of_ble_eq_true rfl) rfl ?_
      refine g_iload 6 dX4_init_70 rfl ?_
      refine gN_if_lt 105 dX4_init_72 (by decide) (by first | omega | exact b01_lt _) ?_
      refine g_iload 6 dX4_init_75 rfl ?_
      refine gN_bipush 8 dX4_init_77 (by decide) ?_
      refine gN_icmp_ge 105 dX4_init_79 (by decide) (by first | omega | exact b01_lt _) (by first | omega | exact b01_lt _) (fun h_79 => ?_) (fun h_79 => ?_)
      · exfalso; omega
      · refine g_aload_n 0 dX4_init_82 rfl rfl ?_
        refine gN_getR (q + 1) flX4_24 (fun _ _ _ => rfl) 0 (ht) (r1) dX4_init_83 ?_
        refine g_iload 5 dX4_init_86 rfl ?_
        refine g_iload 6 dX4_init_88 rfl ?_
        refine gN_iast n (h1) (by first | omega | exact b01_lt _) (by first | omega | exact b01_lt _) dX4_init_90 ?_
        refine g_aload_n 0 dX4_init_91 rfl rfl ?_
        refine gN_getR (q + 2) flX4_28 (fun _ _ _ => rfl) 0 (ht) (r2) dX4_init_92 ?_
        refine g_iload 6 dX4_init_95 rfl ?_
        refine g_dup2_11 dX4_init_97 rfl rfl ?_
        refine gN_iald 8 (h2) (by first | omega | exact b01_lt _) (by first | omega | exact b01_lt _) dX4_init_98 ?_
        refine g_eI (I (q + 2) (nv (f (b + i) - nI 97))) (by rw [im_sI, u2_o _ _ _ _ (by omega)]; rfl) ?_
        refine gN_iconst 1 dX4_init_99 (by decide) ?_
        refine g_iload 5 dX4_init_100 rfl ?_
        refine g_ishl dX4_init_102 ?_
        refine g_ior dX4_init_103 ?_
        refine gN_iast 8 (h2) (by first | omega | exact b01_lt _) (by first | omega | exact b01_lt _) dX4_init_104 ?_
        refine g_iinc 5 (nI (i + 1)) 1 [(5, .int (nI (i + 1))), (6, .int (nI (nv (f (b + i) - nI 97)))), (0, .ref (q)), (1, .ref (C)), (2, .int (nI (b))), (3, .int (nI (b + n))), (4, .int (nI (b)))] dX4_init_105 rfl (nI_add i 1) (Nat.le_of_ble_eq_true rfl) rfl ?_
        refine g_goto 49 dX4_init_108 (by decide) ?_
        refine g_pick [0, 2, 3, 4, 5, 6] rfl ?_
        refine g_mem (m1 := wI m (u2 (u2 I (q + 1) i (nI (nv (f (b + i) - nI 97)))) (q + 2) (nv (f (b + i) - nI 97)) (I (q + 2) (nv (f (b + i) - nI 97)) ||| nI 1 <<< (nI i &&& 31)))) rfl ?_
        refine ih (i + 1) (by omega) _ (fun x hx hx2 => ?_) (fun e he => ?_) (fun c hc p => ?_)
        · rw [u2_o _ _ _ _ hx2, u2_o _ _ _ _ hx]; exact k1 x hx hx2
        · rw [u2_o _ _ _ _ (by omega)]
          by_cases e1 : e = i
          · subst e1; rw [u2_s]; exact hwi.e.symm
          · rw [u2_n _ _ _ _ (by omega)]; exact k2 e (by omega)
        · have hbit : ∀ p, bt (nI 1 <<< (nI i &&& 31)) p = decide (p = i) := fun p => by
            by_cases hp : p < 32
            · rw [b_shl i (by omega) _ hp, bt_1]
              by_cases e1 : p = i
              · subst e1; simp
              · rw [decide_eq_false e1]
                by_cases e2 : i ≤ p
                · rw [decide_eq_false (show ¬ p - i = 0 by omega), Bool.and_false]
                · rw [decide_eq_false e2, Bool.false_and]
            · rw [b_big (by omega)]; exact (decide_eq_false (by omega)).symm
          by_cases e1 : c = nv (f (b + i) - nI 97)
          · subst e1
            rw [u2_s, b_or, k3 _ hc, hbit, ← hwi.e]
            by_cases e2 : p = i
            · subst e2; simp
            · rw [decide_eq_false e2, Bool.or_false]
              exact decide_eq_decide.mpr ⟨fun z => ⟨by omega, z.2⟩, fun z => ⟨by omega, z.2⟩⟩
          · rw [u2_n _ _ _ _ (by omega), u2_o _ _ _ _ (by omega), k3 c hc]
            refine decide_eq_decide.mpr ⟨fun z => ⟨by omega, z.2⟩, fun z => ⟨?_, z.2⟩⟩
            rcases Nat.lt_or_ge p i with q1 | q1
            · exact q1
            · exfalso
              obtain rfl : p = i := by omega
              have := z.2
              rw [hwi.e, nI_eq (by omega) (by omega)] at this
              exact e1 this.symm
set_option maxRecDepth 100000 in
theorem cn_X4_init (g : Gp) (cs : Nat × Nat) {m : Mm} {q C b n : Nat} {f : Nat → Int32} (ht : tg m q = (4, 0)) (hfz : fz m = q + 1) (hC : tg m C = (11, 60)) (hCq : C < q) (hbn : b + n ≤ 60) (hn : n ≤ 12) (hf : ∀ e, e < n → im m C (b + e) = f (b + e)) (hw : ∀ e, e < n → NR (f (b + e) - nI 97) 0 7) : Cn g (MX4_init (2, 20)) [.ref q, .ref C, .int (nI b), .int (nI (b + n))] m (fun r m1 => r = .inl none ∧ fz m1 = q + 3 ∧ RowT m1 q (fun e => f (b + e) - nI 97) n ∧ Bfr m m1 q) := by
  refine Cn.of pn_X4 (Nat.le_of_ble_eq_true rfl) rfl ?_
  refine g_aload_n 0 dX4_init_0 rfl rfl ?_
  refine g_objInit moX4_3 in_obj co_obj (Nat.le_of_ble_eq_true rfl) (by exact Nat.le_of_ble_eq_true rfl) dX4_init_1 ?_
  refine gN_iconst 0 dX4_init_4 (by decide) ?_
  refine g_iload_n 2 dX4_init_5 rfl rfl ?_
  refine gd_callS _ _ _ _ (cn_J9_max_7cf53 g (0, 0) (a := 0) (b := b) (by omega) (by omega)) ⟨rfl, rfl⟩ (ok_J9_max_7cf53 _) mlX4_9 st_J9_max_7cf53 rfl ⟨Nat.le_of_ble_eq_true rfl, Nat.le_of_ble_eq_true rfl⟩ (by exact Nat.le_of_ble_eq_true rfl) ⟨Nat.zero_le _, Nat.zero_le _⟩ dX4_init_6 rfl ?_
  refine g_ei (nI b) (congrArg nI (show max 0 b = b by omega)) ?_
  refine g_istore 4 [(4, .int (nI (b))), (0, .ref (q)), (1, .ref (C)), (2, .int (nI (b))), (3, .int (nI (b + n)))] dX4_init_9 (Nat.le_of_ble_eq_true rfl) rfl ?_
  refine g_aload_n 0 dX4_init_11 rfl rfl ?_
  refine gN_iconst 0 dX4_init_12 (by decide) ?_
  refine g_iload_n 3 dX4_init_13 rfl rfl ?_
  refine g_aload_n 1 dX4_init_14 rfl rfl ?_
  refine gN_alen 11 60 (hC) (by decide) dX4_init_15 ?_
  refine gd_callS _ _ _ _ (cn_J9_min_7cf53 g (0, 0) (a := b + n) (b := 60) (by omega) (by omega)) ⟨rfl, rfl⟩ (ok_J9_min_7cf53 _) mlX4_15 st_J9_min_7cf53 rfl ⟨Nat.le_of_ble_eq_true rfl, Nat.le_of_ble_eq_true rfl⟩ (by exact Nat.le_of_ble_eq_true rfl) ⟨Nat.zero_le _, Nat.zero_le _⟩ dX4_init_16 rfl ?_
  refine g_ei (nI (b + n)) (congrArg nI (show min (b + n) 60 = b + n by omega)) ?_
  refine g_iload 4 dX4_init_19 rfl ?_
  refine gN_isub ((b + n) - b) dX4_init_21 (by first | omega | exact b01_lt _) rfl ?_
  refine gd_callS _ _ _ _ (cn_J9_max_7cf53 g (0, 0) (a := 0) (b := b + n - b) (by omega) (by omega)) ⟨rfl, rfl⟩ (ok_J9_max_7cf53 _) mlX4_9 st_J9_max_7cf53 rfl ⟨Nat.le_of_ble_eq_true rfl, Nat.le_of_ble_eq_true rfl⟩ (by exact Nat.le_of_ble_eq_true rfl) ⟨Nat.zero_le _, Nat.zero_le _⟩ dX4_init_22 rfl ?_
  refine g_ei (nI n) (congrArg nI (show max 0 (b + n - b) = n by omega)) ?_
  refine g_putIF ffX4_18 rfl rfl 0 ht dX4_init_25 ?_
  refine g_aload_n 0 dX4_init_28 rfl rfl ?_
  refine g_aload_n 0 dX4_init_29 rfl rfl ?_
  refine gN_getI flX4_18 rfl 0 ht dX4_init_30 ?_
  refine g_ei (nI n) (u2_s _ _ _ _) ?_
  refine g_newIA (q + 1) n hfz (by omega) ⟨by show 0 + 1 ≤ 2; omega, by show 0 + n ≤ 20; omega⟩ dX4_init_33 ?_
  have t2 : tg (nwA (sI m q 0 (nI n)) (q + 1) (11, n)) q = (4, 0) := by rw [tg_nwA, u1_n _ _ _ (by omega)]; exact ht
  refine g_putRF ffX4_24 rfl rfl 0 t2 dX4_init_35 ?_
  refine g_aload_n 0 dX4_init_38 rfl rfl ?_
  refine gN_bipush 8 dX4_init_39 (by decide) ?_
  refine g_newIA (q + 2) 8 rfl (by omega) ⟨by show 0 + 1 + 1 ≤ 2; omega, by show 0 + n + 8 ≤ 20; omega⟩ dX4_init_41 ?_
  have t3 : tg (nwA (sR (nwA (sI m q 0 (nI n)) (q + 1) (11, n)) q 1 (some (q + 1))) (q + 2) (11, 8)) q = (4, 0) := by rw [tg_nwA, u1_n _ _ _ (by omega)]; exact t2
  refine g_putRF ffX4_28 rfl rfl 0 t3 dX4_init_43 ?_
  refine gN_iconst 0 dX4_init_46 (by decide) ?_
  refine g_istore 5 [(5, .int (nI (0))), (4, .int (nI (b))), (0, .ref (q)), (1, .ref (C)), (2, .int (nI (b))), (3, .int (nI (b + n)))] dX4_init_47 (Nat.le_of_ble_eq_true rfl) rfl ?_
  generalize hm3 : sR (nwA (sR (nwA (sI m q 0 (nI n)) (q + 1) (11, n)) q 1 (some (q + 1))) (q + 2) (11, 8)) q 2 (some (q + 2)) = m3
  have tC : tg m3 C = (11, 60) := by rw [← hm3]; show u1 (u1 (tg m) (q + 1) (11, n)) (q + 2) (11, 8) C = _; rw [u1_n _ _ _ (by omega), u1_n _ _ _ (by omega)]; exact hC
  have t31 : tg m3 (q + 1) = (11, n) := by rw [← hm3]; show u1 (u1 (tg m) (q + 1) (11, n)) (q + 2) (11, 8) (q + 1) = _; rw [u1_n _ _ _ (by omega), u1_s]
  have t32 : tg m3 (q + 2) = (11, 8) := by rw [← hm3]; exact u1_s _ _ _
  have iX : ∀ x, x < q + 1 → im m3 x = u2 (im m) q 0 (nI n) x := fun x hx => by rw [← hm3]; show u1 (u1 (u2 (im m) q 0 (nI n)) (q + 1) (fun _ => 0)) (q + 2) (fun _ => 0) x = _; rw [u1_n _ _ _ (by omega), u1_n _ _ _ (by omega)]
  have i2 : im m3 (q + 2) = fun _ => 0 := by rw [← hm3]; exact u1_s _ _ _
  refine g_mem (m1 := wI m3 (im m3)) rfl ?_
  refine g_pick [0, 2, 3, 4, 5, 1] rfl ?_
  refine lp_X4_init g (2, 20) (b := b) (n := n) (f := f) (C := C) (q := q) (m := m3) (by rw [← hm3]; exact t3) t31 t32 ?_ ?_ ?_ tC hCq hbn hn (fun e he => ?_) hw ⟨by show 0 + 1 + 1 ≤ 2; omega, by show 0 + n + 8 ≤ 20; omega⟩ (fun I k1 hR => ?_) n 0 (Nat.zero_add _) _ (fun _ _ _ => rfl) (fun e he => absurd he (Nat.not_lt_zero e)) (fun c hc p => ?_)
  · rw [← hm3, rf_sR, u2_n _ _ _ _ (by omega), rf_nwA, u1_n _ _ _ (by omega), rf_sR, u2_s]
  · rw [← hm3, rf_sR, u2_s]
  · rw [iX q (by omega), u2_s]
  · rw [iX C (by omega), u2_o _ _ _ _ (by omega)]; exact hf e he
  · refine ⟨rfl, by rw [← hm3]; rfl, hR, fun x hx => ⟨?_, ?_, ?_, ?_⟩⟩
    · rw [← hm3]; show u1 (u1 (tg m) (q + 1) (11, n)) (q + 2) (11, 8) x = _; rw [u1_n _ _ _ (by omega), u1_n _ _ _ (by omega)]
    · show I x = _
      rw [k1 x (by omega) (by omega), iX x (by omega), u2_o _ _ _ _ (by omega)]
    · rw [← hm3]; show u2 (u1 (u2 (u1 (rf m) (q + 1) (fun _ => none)) q 1 (some (q + 1))) (q + 2) (fun _ => none)) q 2 (some (q + 2)) x = _
      rw [u2_o _ _ _ _ (by omega), u1_n _ _ _ (by omega), u2_o _ _ _ _ (by omega), u1_n _ _ _ (by omega)]
    · rw [← hm3]; show u1 (u1 (jm m) (q + 1) (fun _ => 0)) (q + 2) (fun _ => 0) x = _; rw [u1_n _ _ _ (by omega), u1_n _ _ _ (by omega)]
  · rw [i2, b_0]; exact (decide_eq_false (by omega)).symm
