theorem prT_le (f : Nat → Int32) (k : Nat) : ∀ n i, i ≤ prT f k n i := by
  intro n
  induction n with
  | zero => intro i; exact Nat.le_refl i
  | succ n ih =>
    intro i
    by_cases h : cont f k i
    · rw [prT_t h]; have := ih (i + 1); omega
    · rw [prT_f h]; exact Nat.le_refl i
theorem prT_c (f : Nat → Int32) (k : Nat) : ∀ n i j, i ≤ j → j < prT f k n i → cont f k j := by
  intro n
  induction n with
  | zero => intro i j h1 h2; exact absurd (show j < i from h2) (by omega)
  | succ n ih =>
    intro i j h1 h2
    by_cases h : cont f k i
    · rw [prT_t h] at h2
      by_cases e : i = j
      · subst e; exact h
      · exact ih (i + 1) j (by omega) h2
    · rw [prT_f h] at h2; exact absurd h1 (by omega)
theorem last_c {f : Nat → Int32} {k j : Nat} (h : j < lastT f k) : cont f k j := prT_c f k 31 0 j (Nat.zero_le j) h
theorem last_k (f : Nat → Int32) (k : Nat) : ∀ j, j ≤ lastT f k → ps f k j ≤ k ∧ 2 * j ≤ ps f k j := by
  intro j
  induction j with
  | zero => intro _; exact ⟨Nat.zero_le k, Nat.zero_le _⟩
  | succ j ih =>
    intro h
    obtain ⟨h1, h2⟩ := ih (by omega)
    exact ⟨ps_k f k (last_c h), ps_2 f k (last_c h) h2⟩
theorem last_30 {f : Nat → Int32} {k : Nat} (h : k ≤ 60) : lastT f k ≤ 30 := by
  obtain ⟨h1, h2⟩ := last_k f k (lastT f k) (Nat.le_refl _)
  omega
theorem ln_k {f : Nat → Int32} {k j : Nat} (h : j ≤ lastT f k) : ps f k j + ln f k j ≤ k := rl_k f k 12 (ps f k j) (last_k f k j h).1
theorem ln_12 (f : Nat → Int32) (k j : Nat) : ln f k j ≤ 12 := rl_le f k 12 (ps f k j)
theorem ps_s (f : Nat → Int32) (k j : Nat) : ps f k (j + 1) = ps f k j + ln f k j + 1 := rfl
theorem ok_to {f : Nat → Int32} {k : Nat} (h : okT f k) : toN f k = lastT f k + 1 := by unfold toN; rw [b01_t h.1]
theorem ok_end {f : Nat → Int32} {k : Nat} (h : okT f k) : k = ps f k (lastT f k) + ln f k (lastT f k) := h.2.symm
/-- a word of a text, behind its row's words 0 -/
def txF (f : Nat → Int32) (b l e : Nat) : Int32 := if e < l then f (b + e) - nI 97 else nI 0
theorem th_sc {m : Mm} {a : Nat} {I : Nat → Nat → Int32} (h : sc a (th m a 0) I) (k : Nat) : sc a (th m a k) (u2 I a 6 (nI k)) := by
  intro x y n
  by_cases e : x = a ∧ y = 6
  · obtain ⟨rfl, rfl⟩ := e
    rw [u2_s]
    show _ = u2 _ _ _ _ _ _
    rw [u2_s]
  · rw [u2_n _ _ _ _ e]
    show _ = u2 _ _ _ _ _ _
    rw [u2_n _ _ _ _ e, h x y n]
    show u2 _ _ _ _ _ _ = _
    rw [u2_n _ _ _ _ e]
set_option maxRecDepth 100000 in
theorem cn_X10_firstError (g : Gp) (cs : Nat × Nat) {m : Mm} {a : Nat} (hM : MdOk m a) {f : Nat → Int32} (hf : im m (a + 4) = f) {k : Nat} (hk : im m a 5 = nI k) (hk6 : k ≤ 60) : En g (MX10_firstError cs) [.ref (a)] m (some (.int (nI (plc f k)))) (sc a (th m a 0)) := by
  refine Cn.of pn_X10 (Nat.le_of_ble_eq_true rfl) rfl ?_
  refine g_aload_n 0 dX10_firstError_0 rfl rfl ?_
  refine gN_iconst 0 dX10_firstError_1 (by decide) ?_
  refine gN_putI fwX10_34 rfl 0 (hM.t) dX10_firstError_2 ?_
  refine g_aload_n 0 dX10_firstError_5 rfl rfl ?_
  refine ge_callV _ _ _ (cn_X10_areRows g (0, 0) (m := sI m a 6 (nI 0)) hM (f := f) ((u2_o _ _ _ _ (by omega)).trans hf) (k := k) ((th_a m a 0 5 (by omega)).trans hk) hk6) ⟨rfl, rfl⟩ (ok_X10_areRows _) mlX10_141 in_X10_areRows se_X10_areRows 10 0 (hM.t) rfl rfl rfl ⟨Nat.le_of_ble_eq_true rfl, Nat.le_of_ble_eq_true rfl⟩ (by exact Nat.le_of_ble_eq_true rfl) ⟨Nat.zero_le _, Nat.zero_le _⟩ dX10_firstError_6 rfl (fun I1 hI1 => ?_)
  refine gN_if_eq 19 dX10_firstError_9 (by decide) (by first | omega | exact b01_lt _) (fun h_9 => ?_) (fun h_9 => ?_)
  · refine g_aload_n 0 dX10_firstError_19 rfl rfl ?_
    refine gN_getI flX10_128 rfl 0 (hM.t) dX10_firstError_20 ?_
    refine g_ei (nI (plc f k)) (hI1.2.1) ?_
    refine g_iret rfl dX10_firstError_23 ⟨Nat.zero_le _, Nat.zero_le _⟩ ?_
    refine ⟨vI ?_, I1, rfl, hI1.1⟩
    first | exact congrArg nI (b01_n.mp h_9).2.symm | rfl
  · refine g_aload_n 0 dX10_firstError_12 rfl rfl ?_
    refine gN_getI flX10_125 rfl 0 (hM.t) dX10_firstError_13 ?_
    refine g_ei (nI (k)) (hI1.1.at5.trans ((th_a m a 0 5 (by omega)).trans hk)) ?_
    refine g_goto 23 dX10_firstError_16 (by decide) ?_
    refine g_iret rfl dX10_firstError_23 ⟨Nat.zero_le _, Nat.zero_le _⟩ ?_
    refine ⟨vI ?_, I1, rfl, hI1.1⟩
    first | exact congrArg nI (b01_n.mp h_9).2.symm | rfl
set_option maxRecDepth 100000 in
theorem lp_X10_layText (g : Gp) (cs : Nat × Nat) {m : Mm} {a : Nat} (hM : MdOk m a) {f : Nat → Int32} (hf : im m (a + 4) = f) {k : Nat} (hk : im m a 5 = nI k) (hk6 : k ≤ 60) (hok : okT f k) (h13 : im m a 13 = nI (lastT f k + 1)) (h8 : ∀ j, j ≤ lastT f k → im m (a + 8) j = nI (ps f k j)) {s : Nat} (hs : s < 10) {t : Nat} (ht : t ≤ lastT f k) {Q : Rs → Mm → Prop} (K : G g (MX10_layText cs) Q 109 [(5, .int (nI (12))), (4, .int (nI (ps f k t + ln f k t))), (3, .int (nI (79 + 22 * s))), (0, .ref (a)), (1, .int (nI (s))), (2, .int (nI (t)))] [] (0, 0) (wI m (cpI (u2 (im m) (a + 1) (79 + 22 * s) (nI (ln f k t))) (a + 1) (79 + 22 * s + 10) (12) (txF f (ps f k t) (ln f k t))))) :
    ∀ d j : Nat, j + d = 12 → G g (MX10_layText cs) Q 52 [(5, .int (nI (j))), (4, .int (nI (ps f k t + ln f k t))), (3, .int (nI (79 + 22 * s))), (0, .ref (a)), (1, .int (nI (s))), (2, .int (nI (t)))] [] (0, 0) (wI m (cpI (u2 (im m) (a + 1) (79 + 22 * s) (nI (ln f k t))) (a + 1) (79 + 22 * s + 10) j (txF f (ps f k t) (ln f k t)))) := by
  have hl12 := ln_12 f k t
  have hlk := ln_k ht
  have hT30 : lastT f k ≤ 30 := last_30 hk6
  intro d
  induction d with
  | zero =>
    intro j hj
    obtain rfl : j = 12 := hj
    refine g_iload 5 dX10_layText_52 rfl ?_
    refine gN_bipush 12 dX10_layText_54 (by decide) ?_
    refine gN_icmp_ge 109 dX10_layText_56 (by decide) (by first | omega | exact b01_lt _) (by first | omega | exact b01_lt _) (fun h_56 => ?_) (fun h_56 => ?_)
    · exact K
    · exact absurd h_56 (by decide)
  | succ d ih =>
    intro j hj
    refine g_iload 5 dX10_layText_52 rfl ?_
    refine gN_bipush 12 dX10_layText_54 (by decide) ?_
    refine gN_icmp_ge 109 dX10_layText_56 (by decide) (by first | omega | exact b01_lt _) (by first | omega | exact b01_lt _) (fun h_56 => ?_) (fun h_56 => ?_)
    · exfalso; omega
    · refine g_aload_n 0 dX10_layText_59 rfl rfl ?_
      refine gN_getR (a + 1) flX10_7 (fun _ _ _ => rfl) 0 (hM.t) (hM.r0) dX10_layText_60 ?_
      refine g_iload_n 3 dX10_layText_63 rfl rfl ?_
      refine gN_bipush 10 dX10_layText_64 (by decide) ?_
      refine gN_iadd ((79 + 22 * s) + 10) dX10_layText_66 rfl ?_
      refine g_iload 5 dX10_layText_67 rfl ?_
      refine gN_iadd (((79 + 22 * s) + 10) + j) dX10_layText_69 rfl ?_
      refine g_iload 5 dX10_layText_70 rfl ?_
      refine g_aload_n 0 dX10_layText_72 rfl rfl ?_
      refine gN_getR (a + 1) flX10_7 (fun _ _ _ => rfl) 0 (hM.t) (hM.r0) dX10_layText_73 ?_
      refine g_iload_n 3 dX10_layText_76 rfl rfl ?_
      refine gN_iald 689 (hM.t1) (by first | omega | exact b01_lt _) (by first | omega | exact b01_lt _) dX10_layText_77 ?_
      refine g_ei (nI (ln f k t)) (by rw [im_wI, cpI_out _ _ _ _ _ (by omega)]; exact u2_s _ _ _ _) ?_
      refine gN_icmp_ge 101 dX10_layText_78 (by decide) (by first | omega | exact b01_lt _) (by first | omega | exact b01_lt _) (fun h_78 => ?_) (fun h_78 => ?_)
      · refine gN_iconst 0 dX10_layText_101 (by decide) ?_
        refine gN_iast 689 (hM.t1) (by first | omega | exact b01_lt _) (by first | omega | exact b01_lt _) dX10_layText_102 ?_
        refine g_iinc 5 (nI (j + 1)) 0 [(5, .int (nI (j + 1))), (4, .int (nI (ps f k t + ln f k t))), (3, .int (nI (79 + 22 * s))), (0, .ref (a)), (1, .int (nI (s))), (2, .int (nI (t)))] dX10_layText_103 rfl (nI_add j 1) (Nat.le_of_ble_eq_true rfl) rfl ?_
        refine g_goto 52 dX10_layText_106 (by decide) ?_
        refine g_mem (m1 := wI m (cpI (u2 (im m) (a + 1) (79 + 22 * s) (nI (ln f k t))) (a + 1) (79 + 22 * s + 10) (j + 1) (txF f (ps f k t) (ln f k t)))) (wI_cp _ _ _ _ _ _ _ _ (by omega) (by first | (rw [im_wI, cpI_ne _ _ _ _ _ (by omega), u2_o _ _ _ _ (by omega), hf]; exact (if_pos h_78).symm) | exact (if_neg (by omega)).symm)) ?_
        refine g_pick [0, 1, 2, 3, 4, 5] rfl ?_
        exact ih (j + 1) (by omega)
      · refine g_aload_n 0 dX10_layText_81 rfl rfl ?_
        refine gN_getR (a + 4) flX10_19 (fun _ _ _ => rfl) 0 (hM.t) (hM.r4) dX10_layText_82 ?_
        refine g_aload_n 0 dX10_layText_85 rfl rfl ?_
        refine gN_getR (a + 8) flX10_31 (fun _ _ _ => rfl) 0 (hM.t) (hM.r14) dX10_layText_86 ?_
        refine g_iload_n 2 dX10_layText_89 rfl rfl ?_
        refine gN_iald 31 (hM.t8) (by first | omega | exact b01_lt _) (by first | omega | exact b01_lt _) dX10_layText_90 ?_
        refine g_ei (nI (ps f k t)) (by rw [im_wI, cpI_ne _ _ _ _ _ (by omega), u2_o _ _ _ _ (by omega)]; exact h8 t ht) ?_
        refine g_iload 5 dX10_layText_91 rfl ?_
        refine gN_iadd ((ps f k t) + j) dX10_layText_93 rfl ?_
        refine gN_iald 60 (hM.t4) (by first | omega | exact b01_lt _) (by first | omega | exact b01_lt _) dX10_layText_94 ?_
        refine gN_bipush 97 dX10_layText_95 (by decide) ?_
        refine g_isub dX10_layText_97 ?_
        refine g_goto 102 dX10_layText_98 (by decide) ?_
        refine gN_iast 689 (hM.t1) (by first | omega | exact b01_lt _) (by first | omega | exact b01_lt _) dX10_layText_102 ?_
        refine g_iinc 5 (nI (j + 1)) 0 [(5, .int (nI (j + 1))), (4, .int (nI (ps f k t + ln f k t))), (3, .int (nI (79 + 22 * s))), (0, .ref (a)), (1, .int (nI (s))), (2, .int (nI (t)))] dX10_layText_103 rfl (nI_add j 1) (Nat.le_of_ble_eq_true rfl) rfl ?_
        refine g_goto 52 dX10_layText_106 (by decide) ?_
        refine g_mem (m1 := wI m (cpI (u2 (im m) (a + 1) (79 + 22 * s) (nI (ln f k t))) (a + 1) (79 + 22 * s + 10) (j + 1) (txF f (ps f k t) (ln f k t)))) (wI_cp _ _ _ _ _ _ _ _ (by omega) (by first | (rw [im_wI, cpI_ne _ _ _ _ _ (by omega), u2_o _ _ _ _ (by omega), hf]; exact (if_pos h_78).symm) | exact (if_neg (by omega)).symm)) ?_
        refine g_pick [0, 1, 2, 3, 4, 5] rfl ?_
        exact ih (j + 1) (by omega)
set_option maxRecDepth 100000 in
theorem cn_X10_layText (g : Gp) (cs : Nat × Nat) {m : Mm} {a : Nat} (hM : MdOk m a) {f : Nat → Int32} (hf : im m (a + 4) = f) {k : Nat} (hk : im m a 5 = nI k) (hk6 : k ≤ 60) (hok : okT f k) (h13 : im m a 13 = nI (lastT f k + 1)) (h8 : ∀ j, j ≤ lastT f k → im m (a + 8) j = nI (ps f k j)) {s : Nat} (hs : s < 10) {t : Nat} (ht : t ≤ lastT f k) : Dn g (MX10_layText cs) [.ref a, .int (nI s), .int (nI t)] m none (wI m (cpI (u2 (im m) (a + 1) (79 + 22 * s) (nI (ln f k t))) (a + 1) (79 + 22 * s + 10) 12 (txF f (ps f k t) (ln f k t)))) := by
  have hl12 := ln_12 f k t
  have hlk := ln_k ht
  have hT30 : lastT f k ≤ 30 := last_30 hk6
  refine Cn.of pn_X10 (Nat.le_of_ble_eq_true rfl) rfl ?_
  refine g_iload_n 1 dX10_layText_0 rfl rfl ?_
  refine gd_callS _ _ _ _ (cn_X10_at g (0, 0) _ s) ⟨rfl, rfl⟩ (ok_X10_at _) mlX10_45 st_X10_at rfl ⟨Nat.le_of_ble_eq_true rfl, Nat.le_of_ble_eq_true rfl⟩ (by exact Nat.le_of_ble_eq_true rfl) ⟨Nat.zero_le _, Nat.zero_le _⟩ dX10_layText_1 rfl ?_
  refine g_istore_n 3 [(3, .int (nI (79 + 22 * s))), (0, .ref (a)), (1, .int (nI (s))), (2, .int (nI (t)))] dX10_layText_4 rfl (Nat.le_of_ble_eq_true rfl) rfl ?_
  refine g_join 32 (ps f k t + ln f k t) ?_ (fun K_32 => ?_)
  · refine g_istore 4 [(4, .int (nI (ps f k t + ln f k t))), (3, .int (nI (79 + 22 * s))), (0, .ref (a)), (1, .int (nI (s))), (2, .int (nI (t)))] dX10_layText_32 (Nat.le_of_ble_eq_true rfl) rfl ?_
    refine g_aload_n 0 dX10_layText_34 rfl rfl ?_
    refine gN_getR (a + 1) flX10_7 (fun _ _ _ => rfl) 0 (hM.t) (hM.r0) dX10_layText_35 ?_
    refine g_iload_n 3 dX10_layText_38 rfl rfl ?_
    refine g_iload 4 dX10_layText_39 rfl ?_
    refine g_aload_n 0 dX10_layText_41 rfl rfl ?_
    refine gN_getR (a + 8) flX10_31 (fun _ _ _ => rfl) 0 (hM.t) (hM.r14) dX10_layText_42 ?_
    refine g_iload_n 2 dX10_layText_45 rfl rfl ?_
    refine gN_iald 31 (hM.t8) (by first | omega | exact b01_lt _ | (have e := ps_s f k t; omega) | (have e := (last_k f k (t + 1) (by omega)).1; omega)) (by first | omega | exact b01_lt _ | (have e := ps_s f k t; omega) | (have e := (last_k f k (t + 1) (by omega)).1; omega)) dX10_layText_46 ?_
    refine g_ei (nI (ps f k t)) (h8 t ht) ?_
    refine gN_isub ((ps f k t + ln f k t) - (ps f k t)) dX10_layText_47 (by first | omega | exact b01_lt _ | (have e := ps_s f k t; omega) | (have e := (last_k f k (t + 1) (by omega)).1; omega)) rfl ?_
    refine gN_iast 689 (hM.t1) (by first | omega | exact b01_lt _ | (have e := ps_s f k t; omega) | (have e := (last_k f k (t + 1) (by omega)).1; omega)) (by first | omega | exact b01_lt _ | (have e := ps_s f k t; omega) | (have e := (last_k f k (t + 1) (by omega)).1; omega)) dX10_layText_48 ?_
    refine gN_iconst 0 dX10_layText_49 (by decide) ?_
    refine g_istore 5 [(5, .int (nI (0))), (4, .int (nI (ps f k t + ln f k t))), (3, .int (nI (79 + 22 * s))), (0, .ref (a)), (1, .int (nI (s))), (2, .int (nI (t)))] dX10_layText_50 (Nat.le_of_ble_eq_true rfl) rfl ?_
    refine g_mem (m1 := wI m (cpI (u2 (im m) (a + 1) (79 + 22 * s) (nI (ln f k t))) (a + 1) (79 + 22 * s + 10) 0 (txF f (ps f k t) (ln f k t)))) (by rw [cpI_0, show ps f k t + ln f k t - ps f k t = ln f k t by omega]; rfl) ?_
    refine g_pick [0, 1, 2, 3, 4, 5] rfl ?_
    refine lp_X10_layText g cs hM hf hk hk6 hok h13 h8 hs ht ?_ 12 0 rfl
    refine g_vret rfl dX10_layText_109 ⟨Nat.zero_le _, Nat.zero_le _⟩ ?_
    exact ⟨rfl, rfl⟩
  · refine g_iload_n 2 dX10_layText_5 rfl rfl ?_
    refine gN_iconst 1 dX10_layText_6 (by decide) ?_
    refine gN_iadd (t + 1) dX10_layText_7 rfl ?_
    refine g_aload_n 0 dX10_layText_8 rfl rfl ?_
    refine gN_getI flX10_131 rfl 0 (hM.t) dX10_layText_9 ?_
    refine g_ei (nI (lastT f k + 1)) (h13) ?_
    refine gN_icmp_ge 28 dX10_layText_12 (by decide) (by first | omega | exact b01_lt _ | (have e := ps_s f k t; omega) | (have e := (last_k f k (t + 1) (by omega)).1; omega)) (by first | omega | exact b01_lt _ | (have e := ps_s f k t; omega) | (have e := (last_k f k (t + 1) (by omega)).1; omega)) (fun h_12 => ?_) (fun h_12 => ?_)
    · refine g_aload_n 0 dX10_layText_28 rfl rfl ?_
      refine gN_getI flX10_125 rfl 0 (hM.t) dX10_layText_29 ?_
      refine g_ei (nI (k)) (hk) ?_
      exact g_ei (nI (ps f k t + ln f k t)) (congrArg nI (show k = ps f k t + ln f k t from by first | (show ps f k (t + 1) - 1 = ps f k t + ln f k t; have e := ps_s f k t; omega) | (have e : t = lastT f k := (by omega); rw [e]; exact ok_end hok))) K_32
    · refine g_aload_n 0 dX10_layText_15 rfl rfl ?_
      refine gN_getR (a + 8) flX10_31 (fun _ _ _ => rfl) 0 (hM.t) (hM.r14) dX10_layText_16 ?_
      refine g_iload_n 2 dX10_layText_19 rfl rfl ?_
      refine gN_iconst 1 dX10_layText_20 (by decide) ?_
      refine gN_iadd (t + 1) dX10_layText_21 rfl ?_
      refine gN_iald 31 (hM.t8) (by first | omega | exact b01_lt _ | (have e := ps_s f k t; omega) | (have e := (last_k f k (t + 1) (by omega)).1; omega)) (by first | omega | exact b01_lt _ | (have e := ps_s f k t; omega) | (have e := (last_k f k (t + 1) (by omega)).1; omega)) dX10_layText_22 ?_
      refine g_ei (nI (ps f k (t + 1))) (h8 (t + 1) (by omega)) ?_
      refine gN_iconst 1 dX10_layText_23 (by decide) ?_
      refine gN_isub ((ps f k (t + 1)) - 1) dX10_layText_24 (by first | omega | exact b01_lt _ | (have e := ps_s f k t; omega) | (have e := (last_k f k (t + 1) (by omega)).1; omega)) rfl ?_
      refine g_goto 32 dX10_layText_25 (by decide) ?_
      exact g_ei (nI (ps f k t + ln f k t)) (congrArg nI (show (ps f k (t + 1)) - 1 = ps f k t + ln f k t from by first | (show ps f k (t + 1) - 1 = ps f k t + ln f k t; have e := ps_s f k t; omega) | (have e : t = lastT f k := (by omega); rw [e]; exact ok_end hok))) K_32
