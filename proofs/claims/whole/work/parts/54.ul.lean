/-! how many unlike proposals, counted by number -/
theorem sm_upd {g g' : Nat → Nat} {w e : Nat} (hw : g' w = g w + e) (ho : ∀ v, v ≠ w → g' v = g v) : ∀ n, sm g' n = sm g n + (if w < n then e else 0) := by
  intro n
  induction n with
  | zero => rfl
  | succ n ih =>
    show sm g' n + g' n = sm g n + g n + _
    rw [ih]
    by_cases h : n = w
    · subst h
      rw [hw, if_neg (by omega), if_pos (by omega)]; omega
    · rw [ho n h]
      by_cases h2 : w < n
      · rw [if_pos h2, if_pos (by omega)]; omega
      · rw [if_neg h2, if_neg (by omega)]; omega
theorem a1_bt (x : Int32) : x &&& 1 = 0 ↔ bt x 0 = false := by
  constructor
  · intro h
    have e : bt (x &&& 1) 0 = bt (0 : Int32) 0 := by rw [h]
    rw [b_and, b_0, show bt (1 : Int32) 0 = true from by decide, Bool.and_true] at e
    exact e
  · intro h
    refine b_ext fun i hi => ?_
    rw [b_and, b_0]
    by_cases hi0 : i = 0
    · subst hi0; rw [h]; rfl
    · rw [show (1 : Int32) = nI 1 from by decide, bt_1, decide_eq_false hi0, Bool.and_false]
theorem m1_ne {v : Nat} (hv : v < 2147483648) : ¬ (-1 : Int32) = nI v := fun q => nI_m1 hv q.symm
theorem ul_all {f : Nat → Int32} {K : Nat} (hf : ∀ t, t < K → -1 ≤ (f t).toInt ∧ (f t).toInt ≤ 9) : ∀ k, k ≤ K → (∀ v, v < 10 → (bt (ulF f k).1 v = true ↔ ∃ t, t < k ∧ f t = nI v)) ∧ sm (fun v => b01 (∃ t, t < k ∧ f t = nI v)) 10 = (ulF f k).2 := by
  intro k
  induction k with
  | zero =>
    intro _
    refine ⟨fun v hv => ⟨fun h => ?_, fun h => ?_⟩, ?_⟩
    · have : bt (nI 0) v = true := h
      rw [show nI 0 = (0 : Int32) from by decide, b_0] at this
      cases this
    · obtain ⟨t, h1, _⟩ := h; omega
    · have e : (fun v => b01 (∃ t, t < 0 ∧ f t = nI v)) = fun _ => 0 := by
        funext v; exact b01_f (fun q => by obtain ⟨t, h1, _⟩ := q; omega)
      rw [e]; rfl
  | succ k ih =>
    intro hk
    obtain ⟨h1, h2⟩ := ih (by omega)
    obtain ⟨l1, l2⟩ := hf k (by omega)
    have hD : ∀ v, (∃ t, t < k + 1 ∧ f t = nI v) ↔ (∃ t, t < k ∧ f t = nI v) ∨ f k = nI v := fun v => by
      constructor
      · rintro ⟨t, q1, q2⟩
        by_cases q : t = k
        · subst q; exact Or.inr q2
        · exact Or.inl ⟨t, by omega, q2⟩
      · rintro (⟨t, q1, q2⟩ | q)
        · exact ⟨t, by omega, q2⟩
        · exact ⟨k, by omega, q⟩
    by_cases e : f k = -1
    · have hD2 : ∀ v, v < 10 → ((∃ t, t < k + 1 ∧ f t = nI v) ↔ ∃ t, t < k ∧ f t = nI v) := fun v hv => by
        rw [hD v]
        exact ⟨fun q => q.elim id (fun q => absurd (e.symm.trans q) (m1_ne (by omega))), Or.inl⟩
      refine ⟨fun v hv => ?_, ?_⟩
      · rw [hD2 v hv, ← h1 v hv]
        show bt (ulS (ulF f k).1 (f k)) v = true ↔ _
        unfold ulS
        rw [if_pos e, b_or, b_0, Bool.or_false]
      · show _ = (ulF f k).2 + b01 _
        rw [b01_f (fun q => q.1 e), Nat.add_zero, ← h2]
        have hx := sm_c (f := fun v => b01 (∃ t, t < k + 1 ∧ f t = nI v)) (f' := fun v => b01 (∃ t, t < k ∧ f t = nI v)) 10 (fun v hv => b01_c (hD2 v hv))
        exact hx
    · obtain ⟨w, hw, hfw⟩ : ∃ w, w < 10 ∧ f k = nI w := by
        have : 0 ≤ (f k).toInt := by
          rcases Int.lt_or_le (f k).toInt 0 with q | q
          · exfalso; apply e; apply Int32.toInt_inj.mp
            have : (-1 : Int32).toInt = -1 := by decide
            omega
          · exact q
        exact inb_of (n := 10) ⟨this, by omega⟩ (by decide)
      have hbit : ∀ v, v < 10 → bt (ulS (ulF f k).1 (f k)) v = (bt (ulF f k).1 v || decide (v = w)) := fun v hv => by
        unfold ulS
        rw [if_neg e, b_or, hfw, b_shl w (by omega) _ (by omega), show (1 : Int32) = nI 1 from by decide, bt_1]
        congr 1
        by_cases q : v = w
        · subst q; simp
        · rw [decide_eq_false q]
          by_cases q2 : w ≤ v
          · rw [decide_eq_false (show ¬ v - w = 0 by omega), Bool.and_false]
          · rw [decide_eq_false q2, Bool.false_and]
      have hfk : ∀ v, v < 10 → (f k = nI v ↔ v = w) := fun v hv => by
        rw [hfw, nI_eq (by omega) (by omega)]; exact ⟨fun q => q.symm, fun q => q.symm⟩
      refine ⟨fun v hv => ?_, ?_⟩
      · show bt (ulS (ulF f k).1 (f k)) v = true ↔ _
        rw [hbit v hv, hD v, Bool.or_eq_true, h1 v hv, decide_eq_true_iff, hfk v hv]
      · have hc : b01 (¬ f k = -1 ∧ ((ulF f k).1 >>> (f k &&& 31)) &&& 1 = 0) = b01 (¬ ∃ t, t < k ∧ f t = nI w) := b01_c (by
          rw [a1_bt, hfw, b_sshr w (by omega) _ (by omega), if_pos (by omega), Nat.add_zero, ← h1 w hw]
          constructor
          · rintro ⟨_, q⟩; rw [q]; decide
          · intro q; exact ⟨fun z => nI_m1 (by omega) z, by cases hh : bt (ulF f k).1 w <;> simp_all⟩)
        show _ = (ulF f k).2 + b01 _
        rw [hc, ← h2]
        have hs := sm_upd (g := fun v => b01 (∃ t, t < k ∧ f t = nI v)) (g' := fun v => if v < 10 then b01 (∃ t, t < k + 1 ∧ f t = nI v) else b01 (∃ t, t < k ∧ f t = nI v)) (w := w) (e := b01 (¬ ∃ t, t < k ∧ f t = nI w)) (by
          show (if w < 10 then _ else _) = _
          rw [if_pos hw, b01_t ((hD w).mpr (Or.inr hfw))]
          by_cases q : ∃ t, t < k ∧ f t = nI w
          · rw [b01_t q, b01_f (fun z => z q)]
          · rw [b01_f q, b01_t q]) (fun v hv => by
          show (if v < 10 then _ else _) = _
          by_cases q : v < 10
          · rw [if_pos q]
            refine b01_c ?_
            rw [hD v]
            exact ⟨fun z => z.elim id (fun z => absurd ((hfk v q).mp z) hv), Or.inl⟩
          · rw [if_neg q]) 10
        rw [if_pos hw] at hs
        rw [← hs]
        have hx := sm_c (f := fun v => b01 (∃ t, t < k + 1 ∧ f t = nI v)) (f' := fun v => if v < 10 then b01 (∃ t, t < k + 1 ∧ f t = nI v) else b01 (∃ t, t < k ∧ f t = nI v)) 10 (fun v hv => (if_pos hv).symm)
        exact hx
theorem ul_n {z : Nat → Int32} {w : Nat} (hf : ∀ t, t < 4 → -1 ≤ (z (24 + 4 * w + t)).toInt ∧ (z (24 + 4 * w + t)).toInt ≤ 9) : sm (fun v => b01 (∃ t, t < 4 ∧ z (24 + 4 * w + t) = nI v)) 10 = unl z w := (ul_all (f := fun t => z (24 + 4 * w + t)) hf 4 (Nat.le_refl 4)).2
theorem hv_iff (z : Nat → Int32) (w : Nat) (p : Int32) : ∀ k, 0 < hv z w p k ↔ ∃ t, t < k ∧ z (24 + 4 * w + t) = p := by
  intro k
  induction k with
  | zero => exact ⟨fun h => absurd h (Nat.lt_irrefl 0), fun h => by obtain ⟨t, h1, _⟩ := h; omega⟩
  | succ k ih =>
    show 0 < hv z w p k + b01 (z (24 + 4 * w + k) = p) ↔ _
    by_cases e : z (24 + 4 * w + k) = p
    · rw [b01_t e]
      exact ⟨fun _ => ⟨k, by omega, e⟩, fun _ => by omega⟩
    · rw [b01_f e, Nat.add_zero, ih]
      constructor
      · rintro ⟨t, h1, h2⟩; exact ⟨t, by omega, h2⟩
      · rintro ⟨t, h1, h2⟩
        refine ⟨t, ?_, h2⟩
        rcases Nat.lt_or_ge t k with q | q
        · exact q
        · obtain rfl : t = k := by omega
          exact absurd h2 e
/-- those that have another proposal -/
theorem hv_oth (z : Nat → Int32) (w : Nat) {p : Int32} (hp : ¬ p = -1) : ∀ k, sm (fun t => b01 (¬ z (24 + 4 * w + t) = -1 ∧ ¬ z (24 + 4 * w + t) = p)) k + hv z w p k + hv z w (-1) k = k := by
  intro k
  induction k with
  | zero => rfl
  | succ k ih =>
    show sm _ k + b01 _ + (hv z w p k + b01 (z (24 + 4 * w + k) = p)) + (hv z w (-1) k + b01 (z (24 + 4 * w + k) = -1)) = k + 1
    by_cases e : z (24 + 4 * w + k) = p
    · rw [b01_f (fun q => q.2 e), b01_t e, b01_f (fun q => hp (e.symm.trans q))]; omega
    · by_cases e2 : z (24 + 4 * w + k) = -1
      · rw [b01_f (fun q => q.1 e2), b01_f e, b01_t e2]; omega
      · rw [b01_t ⟨e2, e⟩, b01_f e, b01_f e2]; omega
theorem hv_oI (z : Nat → Int32) (w : Nat) {p : Int32} (hp : ¬ p = -1) : nI 4 - nI (hv z w p 4) - nI (hv z w (-1) 4) = nI (sm (fun t => b01 (¬ z (24 + 4 * w + t) = -1 ∧ ¬ z (24 + 4 * w + t) = p)) 4) := by
  have h := hv_oth z w hp 4
  rw [pk_sub (show hv z w p 4 ≤ 4 by omega), pk_sub (by omega)]
  congr 1
  omega
