/-! THE CLASS: the saved states, in a ring of six blocks -/
def HsT (m : Mm) (H : Nat) : Prop := (tg m H = (2, 0) ∧ rf m H 0 = some (H + 1) ∧ tg m (H + 1) = (15, 6)) ∧ ∀ i, i < 6 → rf m (H + 1) i = some (H + 2 + 47 * i) ∧ StT m (H + 2 + 47 * i)
theorem HsT.t {m : Mm} {H : Nat} (h : HsT m H) : tg m H = (2, 0) := h.1.1
theorem HsT.r {m : Mm} {H : Nat} (h : HsT m H) : rf m H 0 = some (H + 1) := h.1.2.1
theorem HsT.t1 {m : Mm} {H : Nat} (h : HsT m H) : tg m (H + 1) = (15, 6) := h.1.2.2
theorem HsT.s {m : Mm} {H : Nat} (h : HsT m H) {i : Nat} (hi : i < 6) : StT m (H + 2 + 47 * i) := (h.2 i hi).2
theorem HsT.rs {m : Mm} {H : Nat} (h : HsT m H) {i : Nat} (hi : i < 6) : rf m (H + 1) i = some (H + 2 + 47 * i) := (h.2 i hi).1
theorem HsT.ts {m : Mm} {H : Nat} (h : HsT m H) {i : Nat} (hi : i < 6) : tg m (H + 2 + 47 * i) = (6, 0) := (h.s hi).t
/-- k states are saved, from the slot fst on -/
def HsV (m : Mm) (B H c fst k : Nat) (rows : Nat → Nat → Int32) : Prop := (fst < 6 ∧ im m H 1 = nI fst ∧ im m H 2 = nI k ∧ k ≤ 6) ∧ ∀ i, i < k → Rp m B (H + 2 + 47 * ((fst + i) % 6)) (rows i) ∧ ZOk c (rows i)
def svR (k : Nat) (z : Nat → Int32) (rows : Nat → Nat → Int32) (i : Nat) : Nat → Int32 := if k = 6 then (if i = 5 then z else rows (i + 1)) else (if i = k then z else rows i)
theorem HsT.w {m : Mm} {H D : Nat} (h : HsT m H) {I : Nat → Nat → Int32} {R : Nat → Nat → Option Nat} {j : Nat} (hj : j < 6) (hD : D = H + 2 + 47 * j) (hF : ∀ x, (x < D ∨ D + 47 ≤ x) → R x = rf m x) (hS : StT (wM m I R) D) : HsT (wM m I R) H := by
  refine ⟨⟨h.t, ?_, h.t1⟩, fun i hi => ⟨?_, ?_⟩⟩
  · rw [rf_wM, hF H (by omega)]; exact h.r
  · rw [rf_wM, hF _ (by omega)]; exact h.rs hi
  · by_cases e : i = j
    · subst e; rw [← hD]; exact hS
    · exact (h.s hi).fr (fun _ _ _ => rfl) (fun x h1 h2 _ => hF x (by omega))
theorem HsT.w0 {m : Mm} {H lo hi : Nat} (h : HsT m H) {I : Nat → Nat → Int32} {R : Nat → Nat → Option Nat} (hF : FrB m lo hi I R) (hd : H + 284 ≤ lo ∨ hi ≤ H) : HsT (wM m I R) H := by
  refine ⟨⟨h.t, ?_, h.t1⟩, fun i hi2 => ⟨?_, hF.st (by omega) (h.s hi2)⟩⟩
  · rw [rf_wM, (hF H (by omega)).2]; exact h.r
  · rw [rf_wM, (hF _ (by omega)).2]; exact h.rs hi2
theorem HsV.w0 {m : Mm} {B H c fst k lo hi : Nat} {rows : Nat → Nat → Int32} (h : HsV m B H c fst k rows) {I : Nat → Nat → Int32} {R : Nat → Nat → Option Nat} (hF : FrB m lo hi I R) (hd : H + 284 ≤ lo ∨ hi ≤ H) (hB : hi ≤ B) : HsV (wM m I R) B H c fst k rows := by
  obtain ⟨⟨h1, h2, h3, h4⟩, h5⟩ := h
  refine ⟨⟨h1, ?_, ?_, h4⟩, fun i hi2 => ⟨hF.rp (by omega) hB (h5 i hi2).1 (h5 i hi2).2.n0.hi, (h5 i hi2).2⟩⟩
  · rw [im_wM, (hF H (by omega)).1]; exact h2
  · rw [im_wM, (hF H (by omega)).1]; exact h3
set_option maxRecDepth 100000 in
theorem cn_X2_save (g : Gp) (cs : Nat × Nat) {m : Mm} {H S B c fst k : Nat} {z : Nat → Int32} {rows : Nat → Nat → Int32} (hH : HsT m H) (hV : HsV m B H c fst k rows) (hS : StT m S) (hR : Rp m B S z) (hz : ZOk c z) (hd : H = S + 47) (hB : H + 284 ≤ B) : Mn g (MX2_save cs) [.ref H, .ref S] m none (fun I R => FrB m H (H + 284) I R ∧ HsT (wM m I R) H ∧ ∃ fst2, HsV (wM m I R) B H c fst2 (if k = 6 then 6 else k + 1) (svR k z rows)) := by
  have hz0 := hz.n0.hi
  have hH0 := hH
  have hS0 := hS
  obtain ⟨⟨h1, h2, h3, h4⟩, h5⟩ := hV
  by_cases hk : k = 6
  · refine Cn.of pn_X2 (Nat.le_of_ble_eq_true rfl) rfl ?_
    refine g_aload_n 0 dX2_save_0 rfl rfl ?_
    refine gN_getI flX2_21 rfl 0 (hH.t) dX2_save_1 ?_
    refine g_ei (nI (k)) (h3) ?_
    refine gN_bipush 6 dX2_save_4 (by decide) ?_
    refine gN_icmp_ne 32 dX2_save_6 (by decide) (by first | omega | exact b01_lt _) (by first | omega | exact b01_lt _) (fun h_6 => ?_) (fun h_6 => ?_)
    · exact absurd hk h_6
    · refine g_aload_n 0 dX2_save_9 rfl rfl ?_
      refine g_aload_n 0 dX2_save_10 rfl rfl ?_
      refine gN_getI flX2_17 rfl 0 (hH.t) dX2_save_11 ?_
      refine g_ei (nI (fst)) (h2) ?_
      refine gN_iconst 1 dX2_save_14 (by decide) ?_
      refine gN_iadd (fst + 1) dX2_save_15 rfl ?_
      refine gN_bipush 6 dX2_save_16 (by decide) ?_
      refine gN_irem ((fst + 1) % 6) dX2_save_18 (by first | omega | exact b01_lt _) (by first | omega | exact b01_lt _) (by first | omega | exact b01_lt _) rfl ?_
      refine gN_putI fwX2_17 rfl 0 (hH.t) dX2_save_19 ?_
      refine g_aload_n 0 dX2_save_22 rfl rfl ?_
      refine g_dup dX2_save_23 rfl ?_
      refine gN_getI flX2_21 rfl 0 (hH.t) dX2_save_24 ?_
      refine g_ei (nI (k)) ((u2_n _ _ _ _ (by omega)).trans h3) ?_
      refine gN_iconst 1 dX2_save_27 (by decide) ?_
      refine gN_isub (k - 1) dX2_save_28 (by first | omega | exact b01_lt _) rfl ?_
      refine gN_putI fwX2_21 rfl 0 (hH.t) dX2_save_29 ?_
      have hF0 : FrB m H (H + 1) (u2 (u2 (im m) H 1 (nI ((fst + 1) % 6))) H 2 (nI 5)) (rf m) := ((FrB.rfl' m _ _).i _ (by omega) (by omega)).i _ (by omega) (by omega)
      refine g_mem (m1 := wM m (u2 (u2 (im m) H 1 (nI ((fst + 1) % 6))) H 2 (nI 5)) (rf m)) (by rw [show k - 1 = 5 by omega]; rfl) ?_
      refine g_aload_n 0 dX2_save_32 rfl rfl ?_
      refine gN_getR (H + 1) flX2_11 (fun _ _ _ => rfl) 0 (hH.t) (hH.r) dX2_save_33 ?_
      refine g_aload_n 0 dX2_save_36 rfl rfl ?_
      refine gN_getI flX2_17 rfl 0 (hH.t) dX2_save_37 ?_
      refine g_ei (nI ((fst + 1) % 6)) ((u2_n _ _ _ _ (by omega)).trans (u2_s _ _ _ _)) ?_
      refine g_aload_n 0 dX2_save_40 rfl rfl ?_
      refine gN_getI flX2_21 rfl 0 (hH.t) dX2_save_41 ?_
      refine g_ei (nI (5)) (u2_s _ _ _ _) ?_
      refine gN_iadd (((fst + 1) % 6) + 5) dX2_save_44 rfl ?_
      refine gN_bipush 6 dX2_save_45 (by decide) ?_
      refine gN_irem ((((fst + 1) % 6) + 5) % 6) dX2_save_47 (by first | omega | exact b01_lt _) (by first | omega | exact b01_lt _) (by first | omega | exact b01_lt _) rfl ?_
      refine gN_aald 15 6 (H + 2 + 47 * ((((fst + 1) % 6) + 5) % 6)) (hH.t1) (by decide) (by first | omega | exact b01_lt _) (by first | omega | exact b01_lt _) (hH.rs (by omega)) dX2_save_48 ?_
      refine g_aload_n 1 dX2_save_49 rfl rfl ?_
      refine gm_callV _ _ _ (cn_X6_copyFrom g (0, 0) (m := wM m (u2 (u2 (im m) H 1 (nI ((fst + 1) % 6))) H 2 (nI 5)) (rf m)) (S := H + 2 + 47 * (((fst + 1) % 6 + 5) % 6)) (T := S) (B := B) (c := c) (z := z) (hH.s (by omega)) hS (hF0.rp (by omega) (by omega) hR hz0) hz (by omega) (by omega)) ⟨rfl, rfl⟩ (ok_X6_copyFrom _) mlX2_25 in_X6_copyFrom se_X6_copyFrom 6 0 (hH.ts (by omega)) rfl rfl rfl ⟨Nat.le_of_ble_eq_true rfl, Nat.le_of_ble_eq_true rfl⟩ (by exact Nat.le_of_ble_eq_true rfl) ⟨Nat.zero_le _, Nat.zero_le _⟩ dX2_save_50 rfl (fun I R hP => ?_)
      obtain ⟨hF, hT2, hR2⟩ := hP
      refine g_aload_n 0 dX2_save_53 rfl rfl ?_
      refine g_dup dX2_save_54 rfl ?_
      refine gN_getI flX2_21 rfl 0 (hH.t) dX2_save_55 ?_
      refine g_ei (nI (5)) (by rw [im_wM, (hF H (by omega)).1, im_wM, u2_s]) ?_
      refine gN_iconst 1 dX2_save_58 (by decide) ?_
      refine gN_iadd (6) dX2_save_59 rfl ?_
      refine gN_putI fwX2_21 rfl 0 (hH.t) dX2_save_60 ?_
      refine g_vret rfl dX2_save_63 ⟨Nat.zero_le _, Nat.zero_le _⟩ ?_
      refine ⟨rfl, _, _, rfl, ?_, ?_, (fst + 1) % 6, ?_⟩
      · exact (((hF0.up (lo' := H) (hi' := H + 284) (by omega) (by omega)).tr (hF.up (by omega) (by omega)))).i _ (by omega) (by omega)
      · have h9 := hH0.w (I := u2 I H 2 (nI (5 + 1))) (R := R) (j := ((fst + 1) % 6 + 5) % 6) (by omega) rfl (fun x hx => (hF x hx).2) hT2
        exact h9
      · have hFx : FrB (wM (wM m (u2 (u2 (im m) H 1 (nI ((fst + 1) % 6))) H 2 (nI 5)) (rf m)) I R) H (H + 1) (u2 I H 2 (nI (5 + 1))) R := (FrB.rfl' (wM (wM m (u2 (u2 (im m) H 1 (nI ((fst + 1) % 6))) H 2 (nI 5)) (rf m)) I R) _ _).i _ (by omega) (by omega)
        refine ⟨⟨by omega, ?_, ?_, by rw [if_pos hk]; omega⟩, fun i hi => ?_⟩
        · rw [im_wM, u2_n _ _ _ _ (by omega), im_wM, (hF H (by omega)).1, im_wM, u2_n _ _ _ _ (by omega), u2_s]
        · rw [im_wM, u2_s, if_pos hk]
        · rw [if_pos hk] at hi
          unfold svR
          rw [if_pos hk]
          by_cases e : i = 5
          · rw [if_pos e, e]
            exact ⟨hFx.rp (by omega) (by omega) hR2 hz0, hz⟩
          · rw [if_neg e]
            have h6 := h5 (i + 1) (by omega)
            have e6 : (fst + (i + 1)) % 6 = ((fst + 1) % 6 + i) % 6 := by omega
            rw [e6] at h6
            refine ⟨hFx.rp (by omega) (by omega) (hF.rp (by omega) (by omega) (hF0.rp (by omega) (by omega) h6.1 h6.2.n0.hi) h6.2.n0.hi) h6.2.n0.hi, h6.2⟩
  · refine Cn.of pn_X2 (Nat.le_of_ble_eq_true rfl) rfl ?_
    refine g_aload_n 0 dX2_save_0 rfl rfl ?_
    refine gN_getI flX2_21 rfl 0 (hH.t) dX2_save_1 ?_
    refine g_ei (nI (k)) (h3) ?_
    refine gN_bipush 6 dX2_save_4 (by decide) ?_
    refine gN_icmp_ne 32 dX2_save_6 (by decide) (by first | omega | exact b01_lt _) (by first | omega | exact b01_lt _) (fun h_6 => ?_) (fun h_6 => ?_)
    · refine g_aload_n 0 dX2_save_32 rfl rfl ?_
      refine gN_getR (H + 1) flX2_11 (fun _ _ _ => rfl) 0 (hH.t) (hH.r) dX2_save_33 ?_
      refine g_aload_n 0 dX2_save_36 rfl rfl ?_
      refine gN_getI flX2_17 rfl 0 (hH.t) dX2_save_37 ?_
      refine g_ei (nI (fst)) (h2) ?_
      refine g_aload_n 0 dX2_save_40 rfl rfl ?_
      refine gN_getI flX2_21 rfl 0 (hH.t) dX2_save_41 ?_
      refine g_ei (nI (k)) (h3) ?_
      refine gN_iadd (fst + k) dX2_save_44 rfl ?_
      refine gN_bipush 6 dX2_save_45 (by decide) ?_
      refine gN_irem ((fst + k) % 6) dX2_save_47 (by first | omega | exact b01_lt _) (by first | omega | exact b01_lt _) (by first | omega | exact b01_lt _) rfl ?_
      refine gN_aald 15 6 (H + 2 + 47 * ((fst + k) % 6)) (hH.t1) (by decide) (by first | omega | exact b01_lt _) (by first | omega | exact b01_lt _) (hH.rs (by omega)) dX2_save_48 ?_
      refine g_aload_n 1 dX2_save_49 rfl rfl ?_
      refine gm_callV _ _ _ (cn_X6_copyFrom g (0, 0) (m := m) (S := H + 2 + 47 * ((fst + k) % 6)) (T := S) (B := B) (c := c) (z := z) (hH.s (by omega)) hS hR hz (by omega) (by omega)) ⟨rfl, rfl⟩ (ok_X6_copyFrom _) mlX2_25 in_X6_copyFrom se_X6_copyFrom 6 0 (hH.ts (by omega)) rfl rfl rfl ⟨Nat.le_of_ble_eq_true rfl, Nat.le_of_ble_eq_true rfl⟩ (by exact Nat.le_of_ble_eq_true rfl) ⟨Nat.zero_le _, Nat.zero_le _⟩ dX2_save_50 rfl (fun I R hP => ?_)
      obtain ⟨hF, hT2, hR2⟩ := hP
      refine g_aload_n 0 dX2_save_53 rfl rfl ?_
      refine g_dup dX2_save_54 rfl ?_
      refine gN_getI flX2_21 rfl 0 (hH.t) dX2_save_55 ?_
      refine g_ei (nI (k)) (by rw [im_wM, (hF H (by omega)).1]; exact h3) ?_
      refine gN_iconst 1 dX2_save_58 (by decide) ?_
      refine gN_iadd (k + 1) dX2_save_59 rfl ?_
      refine gN_putI fwX2_21 rfl 0 (hH.t) dX2_save_60 ?_
      refine g_vret rfl dX2_save_63 ⟨Nat.zero_le _, Nat.zero_le _⟩ ?_
      refine ⟨rfl, _, _, rfl, ?_, ?_, fst, ?_⟩
      · exact (hF.up (by omega) (by omega)).i _ (by omega) (by omega)
      · have h9 := hH0.w (I := u2 I H 2 (nI (k + 1))) (R := R) (j := (fst + k) % 6) (by omega) rfl (fun x hx => (hF x hx).2) hT2
        exact h9
      · have hFx : FrB (wM m I R) H (H + 1) (u2 I H 2 (nI (k + 1))) R := (FrB.rfl' (wM m I R) _ _).i _ (by omega) (by omega)
        refine ⟨⟨h1, ?_, ?_, by rw [if_neg hk]; omega⟩, fun i hi => ?_⟩
        · rw [im_wM, u2_n _ _ _ _ (by omega), im_wM, (hF H (by omega)).1]; exact h2
        · rw [im_wM, u2_s, if_neg hk]
        · rw [if_neg hk] at hi
          unfold svR
          rw [if_neg hk]
          by_cases e : i = k
          · rw [if_pos e, e]
            exact ⟨hFx.rp (by omega) (by omega) hR2 hz0, hz⟩
          · rw [if_neg e]
            have h6 := h5 i (by omega)
            refine ⟨hFx.rp (by omega) (by omega) (hF.rp (by omega) (by omega) h6.1 h6.2.n0.hi) h6.2.n0.hi, h6.2⟩
    · exact absurd h_6 hk
set_option maxRecDepth 100000 in
theorem cn_X2_restore (g : Gp) (cs : Nat × Nat) {m : Mm} {H S B c fst k : Nat} {rows : Nat → Nat → Int32} (hH : HsT m H) (hV : HsV m B H c fst (k + 1) rows) (hS : StT m S) (hd : H = S + 47) (hB : H + 284 ≤ B) : Mn g (MX2_restore cs) [.ref H, .ref S] m none (fun I R => FrB m S (S + 48) I R ∧ HsT (wM m I R) H ∧ HsV (wM m I R) B H c fst k rows ∧ StT (wM m I R) S ∧ Rp (wM m I R) B S (rows k) ∧ ZOk c (rows k)) := by
  have hH0 := hH
  have hS0 := hS
  have hV0 := hV
  obtain ⟨⟨h1, h2, h3, h4⟩, h5⟩ := hV
  obtain ⟨hR, hz⟩ := h5 k (by omega)
  have hz0 := hz.n0.hi
  refine Cn.of pn_X2 (Nat.le_of_ble_eq_true rfl) rfl ?_
  refine g_aload_n 0 dX2_restore_0 rfl rfl ?_
  refine g_dup dX2_restore_1 rfl ?_
  refine gN_getI flX2_21 rfl 0 (hH.t) dX2_restore_2 ?_
  refine g_ei (nI (k + 1)) (h3) ?_
  refine gN_iconst 1 dX2_restore_5 (by decide) ?_
  refine gN_isub ((k + 1) - 1) dX2_restore_6 (by first | omega | exact b01_lt _) rfl ?_
  refine gN_putI fwX2_21 rfl 0 (hH.t) dX2_restore_7 ?_
  have hF0 : FrB m H (H + 1) (u2 (im m) H 2 (nI k)) (rf m) := (FrB.rfl' m _ _).i _ (by omega) (by omega)
  refine g_mem (m1 := wM m (u2 (im m) H 2 (nI k)) (rf m)) (by rw [show k + 1 - 1 = k by omega]; rfl) ?_
  refine g_aload_n 1 dX2_restore_10 rfl rfl ?_
  refine g_aload_n 0 dX2_restore_11 rfl rfl ?_
  refine gN_getR (H + 1) flX2_11 (fun _ _ _ => rfl) 0 (hH.t) (hH.r) dX2_restore_12 ?_
  refine g_aload_n 0 dX2_restore_15 rfl rfl ?_
  refine gN_getI flX2_17 rfl 0 (hH.t) dX2_restore_16 ?_
  refine g_ei (nI (fst)) ((u2_n _ _ _ _ (by omega)).trans h2) ?_
  refine g_aload_n 0 dX2_restore_19 rfl rfl ?_
  refine gN_getI flX2_21 rfl 0 (hH.t) dX2_restore_20 ?_
  refine g_ei (nI (k)) (u2_s _ _ _ _) ?_
  refine gN_iadd (fst + k) dX2_restore_23 rfl ?_
  refine gN_bipush 6 dX2_restore_24 (by decide) ?_
  refine gN_irem ((fst + k) % 6) dX2_restore_26 (by first | omega | exact b01_lt _) (by first | omega | exact b01_lt _) (by first | omega | exact b01_lt _) rfl ?_
  refine gN_aald 15 6 (H + 2 + 47 * ((fst + k) % 6)) (hH.t1) (by decide) (by first | omega | exact b01_lt _) (by first | omega | exact b01_lt _) (hH.rs (by omega)) dX2_restore_27 ?_
  refine gm_callV _ _ _ (cn_X6_copyFrom g (0, 0) (m := wM m (u2 (im m) H 2 (nI k)) (rf m)) (S := S) (T := H + 2 + 47 * ((fst + k) % 6)) (B := B) (c := c) (z := rows k) hS (hH.s (by omega)) (hF0.rp (by omega) (by omega) hR hz0) hz (by omega) (by omega)) ⟨rfl, rfl⟩ (ok_X6_copyFrom _) mlX2_25 in_X6_copyFrom se_X6_copyFrom 6 0 (hS.t) rfl rfl rfl ⟨Nat.le_of_ble_eq_true rfl, Nat.le_of_ble_eq_true rfl⟩ (by exact Nat.le_of_ble_eq_true rfl) ⟨Nat.zero_le _, Nat.zero_le _⟩ dX2_restore_28 rfl (fun I R hP => ?_)
  obtain ⟨hF, hT2, hR2⟩ := hP
  refine g_vret rfl dX2_restore_31 ⟨Nat.zero_le _, Nat.zero_le _⟩ ?_
  refine ⟨rfl, I, R, rfl, (hF0.up (lo' := S) (hi' := S + 48) (by omega) (by omega)).tr (hF.up (by omega) (by omega)), ?_, ?_, hT2, hR2, hz⟩
  · exact HsT.w0 (m := wM m (u2 (im m) H 2 (nI k)) (rf m)) hH0 hF (by omega)
  · have h8 : HsV (wM m (u2 (im m) H 2 (nI k)) (rf m)) B H c fst k rows := ⟨⟨h1, by rw [im_wM, u2_n _ _ _ _ (by omega)]; exact h2, by rw [im_wM, u2_s], by omega⟩, fun i hi => ⟨hF0.rp (by omega) (by omega) (h5 i (by omega)).1 (h5 i (by omega)).2.n0.hi, (h5 i (by omega)).2⟩⟩
    exact h8.w0 hF (by omega) (by omega)
