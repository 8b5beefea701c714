/-- how many rows were told -/
noncomputable def toN (f : Nat → Int32) (k : Nat) : Nat := lastT f k + b01 (0 < ln f k (lastT f k))
/-- behind the reading of the row i -/
def arI (m : Mm) (a : Nat) (f : Nat → Int32) (k i : Nat) (I : Nat → Nat → Int32) : Prop := sc a (im m) I ∧ I a 12 = nI (ps f k i + ln f k i) ∧ I a 13 = nI (i + b01 (0 < ln f k i)) ∧ ∀ j, j ≤ i → I (a + 8) j = nI (ps f k j)
theorem sc.b4 {a : Nat} {I J : Nat → Nat → Int32} (h : sc a I J) : J (a + 4) = I (a + 4) := by
  funext y; exact h _ _ (by unfold scr; omega)
theorem sc.at5 {a : Nat} {I J : Nat → Nat → Int32} (h : sc a I J) : J a 5 = I a 5 := h _ _ (by unfold scr; omega)
theorem ps_k (f : Nat → Int32) (k : Nat) {i : Nat} (h : cont f k i) : ps f k (i + 1) ≤ k := by
  show ps f k i + ln f k i + 1 ≤ k
  have := h.2.1; omega
theorem ps_2 (f : Nat → Int32) (k : Nat) {i : Nat} (h : cont f k i) (h2 : 2 * i ≤ ps f k i) : 2 * (i + 1) ≤ ps f k (i + 1) := by
  show 2 * (i + 1) ≤ ps f k i + ln f k i + 1
  have := h.1; omega
theorem row' (g : Gp) (cs : Nat × Nat) {m : Mm} {a : Nat} (hM : MdOk m a) {f : Nat → Int32} (hf : im m (a + 4) = f) {k p t : Nat} (hk : im m a 5 = nI k) (hk6 : k ≤ 60) (hp : im m a 12 = nI p) (hp6 : p ≤ k) (ht : im m a 13 = nI t) (ht6 : t ≤ 30) : Dn g (MX10_row cs) [.ref a] m (some (.int (nI (b01 (0 < rl f k 12 p))))) (wI m (u2 (u2 (u2 (im m) (a + 8) t (nI p)) a 12 (nI (p + rl f k 12 p))) a 13 (nI (t + b01 (0 < rl f k 12 p))))) := by
  subst hf
  exact cn_X10_row g cs hM hk hk6 hp hp6 ht ht6
theorem ar_s {m : Mm} {a : Nat} {f : Nat → Int32} {k i : Nat} {I : Nat → Nat → Int32} (h : arI m a f k i I) (hc : 0 < ln f k i) : arI m a f k (i + 1) (u2 (u2 (u2 (u2 I a 12 (nI (ps f k i + ln f k i + 1))) (a + 8) (i + 1) (nI (ps f k (i + 1)))) a 12 (nI (ps f k (i + 1) + ln f k (i + 1)))) a 13 (nI (i + 1 + b01 (0 < ln f k (i + 1))))) := by
  obtain ⟨h1, h2, h3, h4⟩ := h
  refine ⟨(((h1.u2 _ (Or.inl ⟨rfl, Or.inr (Or.inr (Or.inl rfl))⟩)).u2 _ (Or.inr (Or.inr (Or.inr (Or.inr rfl))))).u2 _ (Or.inl ⟨rfl, Or.inr (Or.inr (Or.inl rfl))⟩)).u2 _ (Or.inl ⟨rfl, Or.inr (Or.inr (Or.inr rfl))⟩), ?_, ?_, fun j hj => ?_⟩
  · rw [u2_n _ _ _ _ (by omega), u2_s]
  · rw [u2_s]
  · rw [u2_n _ _ _ _ (by omega), u2_n _ _ _ _ (by omega)]
    by_cases e : j = i + 1
    · subst e; rw [u2_s]
    · rw [u2_n _ _ _ _ (by omega), u2_n _ _ _ _ (by omega)]; exact h4 j (by omega)
theorem ar_0 {m : Mm} {a k : Nat} {f : Nat → Int32} : arI m a f k 0 (u2 (u2 (u2 (u2 (u2 (im m) a 12 (nI 0)) a 13 (nI 0)) (a + 8) 0 (nI 0)) a 12 (nI (0 + rl f k 12 0))) a 13 (nI (0 + b01 (0 < rl f k 12 0)))) := by
  refine ⟨((((sc.rf.u2 _ (Or.inl ⟨rfl, Or.inr (Or.inr (Or.inl rfl))⟩)).u2 _ (Or.inl ⟨rfl, Or.inr (Or.inr (Or.inr rfl))⟩)).u2 _ (Or.inr (Or.inr (Or.inr (Or.inr rfl))))).u2 _ (Or.inl ⟨rfl, Or.inr (Or.inr (Or.inl rfl))⟩)).u2 _ (Or.inl ⟨rfl, Or.inr (Or.inr (Or.inr rfl))⟩), ?_, ?_, fun j hj => ?_⟩
  · rw [u2_n _ _ _ _ (by omega), u2_s]; rfl
  · rw [u2_s]; rfl
  · obtain rfl : j = 0 := by omega
    rw [u2_n _ _ _ _ (by omega), u2_n _ _ _ _ (by omega), u2_s]; rfl
set_option maxRecDepth 100000 in
theorem ar_end (g : Gp) (cs : Nat × Nat) {m : Mm} {a : Nat} (hM : MdOk m a) {f : Nat → Int32} {k i : Nat} (hk : im m a 5 = nI k) (hk6 : k ≤ 60) (hpk : ps f k i ≤ k) (I : Nat → Nat → Int32) (hI : arI m a f k i I) (hT2 : lastT f k = i) : G g (MX10_areRows cs) (eQ m (some (.int (nI (b01 (okT f k))))) (arI m a f k (lastT f k))) 62 [(1, .int (nI (b01 (0 < ln f k i)))), (0, .ref a)] [] (0, 0) (wI m I) := by
  have hle : ps f k i + ln f k i ≤ k := rl_k f k 12 (ps f k i) hpk
  refine g_join 82 (b01 (okT f k)) ?_ (fun K_82 => ?_)
  · refine g_zret rfl (by first | rfl | exact nar_b01 _) dX10_areRows_82 ⟨Nat.zero_le _, Nat.zero_le _⟩ ?_
    exact ⟨rfl, I, rfl, by rw [hT2]; exact hI⟩
  · refine g_iload_n 1 dX10_areRows_62 rfl rfl ?_
    refine gN_if_eq 81 dX10_areRows_63 (by decide) (by first | omega | exact b01_lt _) (fun h_63 => ?_) (fun h_63 => ?_)
    · refine gN_iconst 0 dX10_areRows_81 (by decide) ?_
      exact g_ei (nI (b01 (okT f k))) (congrArg nI (show 0 = b01 (okT f k) from by first | exact (b01_t ⟨by rw [hT2]; exact b01_n.mp h_63, by unfold plc; rw [hT2]; omega⟩).symm | exact (b01_f (fun q => by have q1 := q.1; rw [hT2] at q1; exact b01_z.mp h_63 q1)).symm | exact (b01_f (fun q => by have q1 := q.2; unfold plc at q1; rw [hT2] at q1; omega)).symm)) K_82
    · refine g_aload_n 0 dX10_areRows_66 rfl rfl ?_
      refine gN_getI flX10_128 rfl 0 (hM.t) dX10_areRows_67 ?_
      refine g_ei (nI (ps f k i + ln f k i)) (hI.2.1) ?_
      refine g_aload_n 0 dX10_areRows_70 rfl rfl ?_
      refine gN_getI flX10_125 rfl 0 (hM.t) dX10_areRows_71 ?_
      refine g_ei (nI (k)) (hI.1.at5.trans hk) ?_
      refine gN_icmp_ne 81 dX10_areRows_74 (by decide) (by first | omega | exact b01_lt _) (by first | omega | exact b01_lt _) (fun h_74 => ?_) (fun h_74 => ?_)
      · refine gN_iconst 0 dX10_areRows_81 (by decide) ?_
        exact g_ei (nI (b01 (okT f k))) (congrArg nI (show 0 = b01 (okT f k) from by first | exact (b01_t ⟨by rw [hT2]; exact b01_n.mp h_63, by unfold plc; rw [hT2]; omega⟩).symm | exact (b01_f (fun q => by have q1 := q.1; rw [hT2] at q1; exact b01_z.mp h_63 q1)).symm | exact (b01_f (fun q => by have q1 := q.2; unfold plc at q1; rw [hT2] at q1; omega)).symm)) K_82
      · refine gN_iconst 1 dX10_areRows_77 (by decide) ?_
        refine g_goto 82 dX10_areRows_78 (by decide) ?_
        exact g_ei (nI (b01 (okT f k))) (congrArg nI (show 1 = b01 (okT f k) from by first | exact (b01_t ⟨by rw [hT2]; exact b01_n.mp h_63, by unfold plc; rw [hT2]; omega⟩).symm | exact (b01_f (fun q => by have q1 := q.1; rw [hT2] at q1; exact b01_z.mp h_63 q1)).symm | exact (b01_f (fun q => by have q1 := q.2; unfold plc at q1; rw [hT2] at q1; omega)).symm)) K_82
set_option maxRecDepth 100000 in
theorem lp_X10_areRows (g : Gp) (cs : Nat × Nat) {m : Mm} {a : Nat} (hM : MdOk m a) {f : Nat → Int32} (hf : im m (a + 4) = f) {k : Nat} (hk : im m a 5 = nI k) (hk6 : k ≤ 60) : ∀ n i : Nat, i + n = 30 → 2 * i ≤ ps f k i → ps f k i ≤ k → prT f k (n + 1) i = lastT f k → ∀ I, arI m a f k i I → G g (MX10_areRows cs) (eQ m (some (.int (nI (b01 (okT f k))))) (arI m a f k (lastT f k))) 15 [(1, .int (nI (b01 (0 < ln f k i)))), (0, .ref a)] [] (0, 0) (wI m I) := by
  intro n
  induction n with
  | zero =>
    intro i hi h2 hpk hT I hI
    have hle : ps f k i + ln f k i ≤ k := rl_k f k 12 (ps f k i) hpk
    have hb := b01_le (0 < ln f k i)
    refine g_iload_n 1 dX10_areRows_15 rfl rfl ?_
    refine gN_if_eq 62 dX10_areRows_16 (by decide) (by first | omega | exact b01_lt _) (fun h_16 => ?_) (fun h_16 => ?_)
    · have hc : ¬ cont f k i := fun q => by
        obtain ⟨q1, q2, q3⟩ := q
        first
          | exact absurd q1 (b01_z.mp h_16)
          | omega
          | exact h_41 q3
      have hT2 : lastT f k = i := by rw [← hT]; exact prT_f hc
      exact ar_end g cs hM hk hk6 hpk I hI hT2
    · refine g_aload_n 0 dX10_areRows_19 rfl rfl ?_
      refine gN_getI flX10_128 rfl 0 (hM.t) dX10_areRows_20 ?_
      refine g_ei (nI (ps f k i + ln f k i)) (hI.2.1) ?_
      refine g_aload_n 0 dX10_areRows_23 rfl rfl ?_
      refine gN_getI flX10_125 rfl 0 (hM.t) dX10_areRows_24 ?_
      refine g_ei (nI (k)) (hI.1.at5.trans hk) ?_
      refine gN_icmp_ge 62 dX10_areRows_27 (by decide) (by first | omega | exact b01_lt _) (by first | omega | exact b01_lt _) (fun h_27 => ?_) (fun h_27 => ?_)
      · have hc : ¬ cont f k i := fun q => by
          obtain ⟨q1, q2, q3⟩ := q
          first
            | exact absurd q1 (b01_z.mp h_16)
            | omega
            | exact h_41 q3
        have hT2 : lastT f k = i := by rw [← hT]; exact prT_f hc
        exact ar_end g cs hM hk hk6 hpk I hI hT2
      · refine g_aload_n 0 dX10_areRows_30 rfl rfl ?_
        refine gN_getR (a + 4) flX10_19 (fun _ _ _ => rfl) 0 (hM.t) (hM.r4) dX10_areRows_31 ?_
        refine g_aload_n 0 dX10_areRows_34 rfl rfl ?_
        refine gN_getI flX10_128 rfl 0 (hM.t) dX10_areRows_35 ?_
        refine g_ei (nI (ps f k i + ln f k i)) (hI.2.1) ?_
        refine gN_iald 60 (hM.t4) (by first | omega | exact b01_lt _) (by first | omega | exact b01_lt _) dX10_areRows_38 ?_
        refine gN_bipush 59 dX10_areRows_39 (by decide) ?_
        rw [show im (wI m I) (a + 4) = f from hI.1.b4.trans hf]
        refine g_icmp_ne 62 dX10_areRows_41 (by decide) (fun h_41 => ?_) (fun h_41 => ?_)
        · have hc : ¬ cont f k i := fun q => by
            obtain ⟨q1, q2, q3⟩ := q
            first
              | exact absurd q1 (b01_z.mp h_16)
              | omega
              | exact h_41 q3
          have hT2 : lastT f k = i := by rw [← hT]; exact prT_f hc
          exact ar_end g cs hM hk hk6 hpk I hI hT2
        · have hc : cont f k i := ⟨b01_n.mp h_16, h_27, h_41⟩; have hc1 := hc.1; have hp2 := ps_2 f k hc h2; have hpk2 := ps_k f k hc; have hb1 : b01 (0 < ln f k i) = 1 := b01_t hc.1; exfalso; omega
  | succ n ih =>
    intro i hi h2 hpk hT I hI
    have hle : ps f k i + ln f k i ≤ k := rl_k f k 12 (ps f k i) hpk
    have hb := b01_le (0 < ln f k i)
    refine g_iload_n 1 dX10_areRows_15 rfl rfl ?_
    refine gN_if_eq 62 dX10_areRows_16 (by decide) (by first | omega | exact b01_lt _) (fun h_16 => ?_) (fun h_16 => ?_)
    · have hc : ¬ cont f k i := fun q => by
        obtain ⟨q1, q2, q3⟩ := q
        first
          | exact absurd q1 (b01_z.mp h_16)
          | omega
          | exact h_41 q3
      have hT2 : lastT f k = i := by rw [← hT]; exact prT_f hc
      exact ar_end g cs hM hk hk6 hpk I hI hT2
    · refine g_aload_n 0 dX10_areRows_19 rfl rfl ?_
      refine gN_getI flX10_128 rfl 0 (hM.t) dX10_areRows_20 ?_
      refine g_ei (nI (ps f k i + ln f k i)) (hI.2.1) ?_
      refine g_aload_n 0 dX10_areRows_23 rfl rfl ?_
      refine gN_getI flX10_125 rfl 0 (hM.t) dX10_areRows_24 ?_
      refine g_ei (nI (k)) (hI.1.at5.trans hk) ?_
      refine gN_icmp_ge 62 dX10_areRows_27 (by decide) (by first | omega | exact b01_lt _) (by first | omega | exact b01_lt _) (fun h_27 => ?_) (fun h_27 => ?_)
      · have hc : ¬ cont f k i := fun q => by
          obtain ⟨q1, q2, q3⟩ := q
          first
            | exact absurd q1 (b01_z.mp h_16)
            | omega
            | exact h_41 q3
        have hT2 : lastT f k = i := by rw [← hT]; exact prT_f hc
        exact ar_end g cs hM hk hk6 hpk I hI hT2
      · refine g_aload_n 0 dX10_areRows_30 rfl rfl ?_
        refine gN_getR (a + 4) flX10_19 (fun _ _ _ => rfl) 0 (hM.t) (hM.r4) dX10_areRows_31 ?_
        refine g_aload_n 0 dX10_areRows_34 rfl rfl ?_
        refine gN_getI flX10_128 rfl 0 (hM.t) dX10_areRows_35 ?_
        refine g_ei (nI (ps f k i + ln f k i)) (hI.2.1) ?_
        refine gN_iald 60 (hM.t4) (by first | omega | exact b01_lt _) (by first | omega | exact b01_lt _) dX10_areRows_38 ?_
        refine gN_bipush 59 dX10_areRows_39 (by decide) ?_
        rw [show im (wI m I) (a + 4) = f from hI.1.b4.trans hf]
        refine g_icmp_ne 62 dX10_areRows_41 (by decide) (fun h_41 => ?_) (fun h_41 => ?_)
        · have hc : ¬ cont f k i := fun q => by
            obtain ⟨q1, q2, q3⟩ := q
            first
              | exact absurd q1 (b01_z.mp h_16)
              | omega
              | exact h_41 q3
          have hT2 : lastT f k = i := by rw [← hT]; exact prT_f hc
          exact ar_end g cs hM hk hk6 hpk I hI hT2
        · have hc : cont f k i := ⟨b01_n.mp h_16, h_27, h_41⟩
          have hc1 := hc.1
          have hp2 := ps_2 f k hc h2
          have hpk2 := ps_k f k hc
          have hb1 : b01 (0 < ln f k i) = 1 := b01_t hc.1
          refine g_aload_n 0 dX10_areRows_44 rfl rfl ?_
          refine g_dup dX10_areRows_45 rfl ?_
          refine gN_getI flX10_128 rfl 0 (hM.t) dX10_areRows_46 ?_
          refine g_ei (nI (ps f k i + ln f k i)) (hI.2.1) ?_
          refine gN_iconst 1 dX10_areRows_49 (by decide) ?_
          refine gN_iadd ((ps f k i + ln f k i) + 1) dX10_areRows_50 rfl ?_
          refine gN_putI fwX10_128 rfl 0 (hM.t) dX10_areRows_51 ?_
          refine g_aload_n 0 dX10_areRows_54 rfl rfl ?_
          refine gd_callV _ _ _ _ (row' g (0, 0) (m := wI m (u2 I a 12 (nI (ps f k i + ln f k i + 1)))) hM (f := f) (by rw [im_wI, u2_o _ _ _ _ (by omega)]; exact hI.1.b4.trans hf) (k := k) (p := ps f k (i + 1)) (t := i + 1) (by rw [im_wI, u2_n _ _ _ _ (by omega)]; exact hI.1.at5.trans hk) hk6 (u2_s _ _ _ _) hpk2 (by rw [im_wI, u2_n _ _ _ _ (by omega), hI.2.2.1, hb1]) (by omega)) ⟨rfl, rfl⟩ (ok_X10_row _) mlX10_137 in_X10_row se_X10_row 10 0 (hM.t) rfl rfl rfl ⟨Nat.le_of_ble_eq_true rfl, Nat.le_of_ble_eq_true rfl⟩ (by exact Nat.le_of_ble_eq_true rfl) ⟨Nat.zero_le _, Nat.zero_le _⟩ dX10_areRows_55 rfl ?_
          refine g_istore_n 1 [(1, .int (nI (b01 (0 < ln f k (i + 1))))), (0, .ref (a))] dX10_areRows_58 rfl (Nat.le_of_ble_eq_true rfl) rfl ?_
          refine g_goto 15 dX10_areRows_59 (by decide) ?_
          refine g_pick [0, 1] rfl ?_
          exact ih (i + 1) (by omega) (ps_2 f k hc h2) (ps_k f k hc) (by rw [← hT]; exact (prT_t hc).symm) _ (ar_s hI hc.1)
set_option maxRecDepth 100000 in
theorem cn_X10_areRows (g : Gp) (cs : Nat × Nat) {m : Mm} {a : Nat} (hM : MdOk m a) {f : Nat → Int32} (hf : im m (a + 4) = f) {k : Nat} (hk : im m a 5 = nI k) (hk6 : k ≤ 60) : En g (MX10_areRows cs) [.ref a] m (some (.int (nI (b01 (okT f k))))) (arI m a f k (lastT f k)) := by
  refine Cn.of pn_X10 (Nat.le_of_ble_eq_true rfl) rfl ?_
  refine g_aload_n 0 dX10_areRows_0 rfl rfl ?_
  refine gN_iconst 0 dX10_areRows_1 (by decide) ?_
  refine gN_putI fwX10_128 rfl 0 (hM.t) dX10_areRows_2 ?_
  refine g_aload_n 0 dX10_areRows_5 rfl rfl ?_
  refine gN_iconst 0 dX10_areRows_6 (by decide) ?_
  refine gN_putI fwX10_131 rfl 0 (hM.t) dX10_areRows_7 ?_
  refine g_aload_n 0 dX10_areRows_10 rfl rfl ?_
  refine gd_callV _ _ _ _ (row' g (0, 0) (m := wI m (u2 (u2 (im m) a 12 (nI 0)) a 13 (nI 0))) hM (f := f) (by rw [im_wI, u2_o _ _ _ _ (by omega), u2_o _ _ _ _ (by omega)]; exact hf) (k := k) (p := 0) (t := 0) (by rw [im_wI, u2_n _ _ _ _ (by omega), u2_n _ _ _ _ (by omega)]; exact hk) hk6 (by rw [im_wI, u2_n _ _ _ _ (by omega), u2_s]) (by omega) (u2_s _ _ _ _) (by omega)) ⟨rfl, rfl⟩ (ok_X10_row _) mlX10_137 in_X10_row se_X10_row 10 0 (hM.t) rfl rfl rfl ⟨Nat.le_of_ble_eq_true rfl, Nat.le_of_ble_eq_true rfl⟩ (by exact Nat.le_of_ble_eq_true rfl) ⟨Nat.zero_le _, Nat.zero_le _⟩ dX10_areRows_11 rfl ?_
  refine g_istore_n 1 [(1, .int (nI (b01 (0 < ln f k 0)))), (0, .ref (a))] dX10_areRows_14 rfl (Nat.le_of_ble_eq_true rfl) rfl ?_
  refine g_pick [0, 1] rfl ?_
  exact lp_X10_areRows g cs hM hf hk hk6 30 0 rfl (Nat.le_refl 0) (Nat.zero_le k) rfl _ ar_0
