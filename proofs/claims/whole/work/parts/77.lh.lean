/-! THE LAW'S METHODS THAT CATCH: each calls the desk once -/
theorem pn_L : plainName RL = true := by decide +kernel
def ML_rate (cs : Nat × Nat) : MI := (yL_rate, cL_rate, 5, (some .int), { frames := 8, locals := 148, cells := cs.1, slots := cs.2 })
abbrev hhL_rate : List (Nat × Nat × Nat × Nat) := [(0, 10, 13, 13), (0, 10, 17, 15)]
theorem ok_L_rate (cs : Nat × Nat) : hm_M (ML_rate cs) hhL_rate 4 := ⟨show Cond.codeWith yL_rate cL_rate 5 (some .int) [(0, 10, 13, 13), (0, 10, 17, 15)] ∈ wA from wA_i 659 (by decide +kernel) rfl, show Cond.initialized RL ∈ wA from wA_i 54 (by decide +kernel) rfl, show (yL_rate.cls ≠ "java/lang/invoke/MethodHandle" ∧ yL_rate.cls ≠ "java/lang/invoke/VarHandle" ∧ (parseMethodDescriptor yL_rate.desc).map (fun d => d.parameters.length) = some 4) from by decide +kernel⟩
theorem st_L_rate : Cond.static yL_rate ∈ wA := wA_i 658 (by decide +kernel) rfl
theorem hL_rate_0 (g : Gp) (cs : Nat × Nat) {m : Mm} {d o : Nat} {x y : Int32} {v : Int32} {Qy : Rs → Mm → Prop} {P : Mm → Prop} (ht : tg m d = (9, 0)) (hC : Cn g (MX9_rate cs) [.ref d, .int x, .int y] m Qy) (hQ : ∀ r m1, Qy r m1 → r = .inl (some (.int v)) ∧ P m1) (ho : ∀ m1, P m1 → tg m1 o = (18, 1)) : Hn g (ML_rate cs) hhL_rate [.ref d, .int x, .int y, .ref o] m (fun r m1 => r = .inl (some (.int (nI 0))) ∧ ∃ m0, P m0 ∧ m1 = sJ m0 o 0 v.toInt64) := by
  refine Hn.of pn_L (Nat.le_of_ble_eq_true rfl) rfl ?_
  refine h_aload_n 3 dL_rate_0 rfl rfl ?_
  refine h_iconst (nI 0) dL_rate_1 (by decide) ?_
  refine h_aload_n 0 dL_rate_2 rfl rfl ?_
  refine h_iload_n 1 dL_rate_3 rfl rfl ?_
  refine h_iload_n 2 dL_rate_4 rfl rfl ?_
  refine h_callV _ _ hC (ok_X9_rate _) mlL_7 in_X9_rate se_X9_rate (by rw [ht]; rfl) rfl rfl ⟨Nat.le_of_ble_eq_true rfl, Nat.le_of_ble_eq_true rfl⟩ (by exact Nat.le_of_ble_eq_true rfl) ⟨Nat.le_of_eq (Nat.zero_add _), Nat.le_of_eq (Nat.zero_add _)⟩ dL_rate_5 rfl (fun v9 m1 h => ?_) (fun E m1 h => by cases (hQ _ _ h).1)
  obtain ⟨h1, h2⟩ := hQ _ _ h
  cases h1
  refine h_i2l dL_rate_8 ?_
  refine h_last 0 (by rw [ho _ h2]) (by decide) (by rw [ho _ h2]; decide) dL_rate_9 ?_
  refine h_goto 21 dL_rate_10 (by decide) ?_
  refine h_iconst (nI 0) dL_rate_21 (by decide) ?_
  exact h_iret rfl dL_rate_22 ⟨Nat.le_of_eq (Nat.zero_add _), Nat.le_of_eq (Nat.zero_add _)⟩ ⟨rfl, _, h2, rfl⟩
theorem hL_rate_x1 (g : Gp) {m : Mm} {d o : Nat} {x y : Int32} (ht : tg m d = (9, 0)) (hC : Xn g (MX9_rate (1, 6)) [.ref d, .int x, .int y] m "java/lang/IndexOutOfBoundsException") : Hn g (ML_rate (1, 6)) hhL_rate [.ref d, .int x, .int y, .ref o] m (fun r m1 => r = .inl (some (.int (nI 1))) ∧ ∃ n, fz m ≤ n ∧ m1 = gr m n) := by
  refine Hn.of pn_L (Nat.le_of_ble_eq_true rfl) rfl ?_
  refine h_aload_n 3 dL_rate_0 rfl rfl ?_
  refine h_iconst (nI 0) dL_rate_1 (by decide) ?_
  refine h_aload_n 0 dL_rate_2 rfl rfl ?_
  refine h_iload_n 1 dL_rate_3 rfl rfl ?_
  refine h_iload_n 2 dL_rate_4 rfl rfl ?_
  refine h_callV _ _ hC (ok_X9_rate _) mlL_7 in_X9_rate se_X9_rate (by rw [ht]; rfl) rfl rfl ⟨Nat.le_of_ble_eq_true rfl, Nat.le_of_ble_eq_true rfl⟩ (by exact Nat.le_of_ble_eq_true rfl) ⟨Nat.le_of_eq (Nat.zero_add _), Nat.le_of_eq (Nat.zero_add _)⟩ dL_rate_5 rfl (fun v9 m1 h => by cases h.1) (fun E m1 h => ?_)
  obtain ⟨h1, h2⟩ := h
  cases h1
  refine ⟨[], [⟨0, 10, 17, 15⟩], ⟨0, 10, 13, 13⟩, "java/lang/IndexOutOfBoundsException", rfl, fun z hz => ?_, rfl, by decide, klL_13, ca_IndexOutOfBoundsException, fun q => ?_⟩
  · cases hz
  · refine h_astore 4 ((4, Value.ref q) :: [(0, .ref d), (1, .int x), (2, .int y), (3, .ref o)]) dL_rate_13 (Nat.le_of_ble_eq_true rfl) rfl ?_
    refine h_iconst (nI 1) dL_rate_15 (by decide) ?_
    exact h_iret rfl dL_rate_16 ⟨Nat.le_of_eq (Nat.zero_add _), Nat.le_of_eq (Nat.zero_add _)⟩ ⟨rfl, h2⟩
theorem hL_rate_x2 (g : Gp) {m : Mm} {d o : Nat} {x y : Int32} (ht : tg m d = (9, 0)) (hC : Xn g (MX9_rate (1, 6)) [.ref d, .int x, .int y] m "java/lang/IllegalArgumentException") : Hn g (ML_rate (1, 6)) hhL_rate [.ref d, .int x, .int y, .ref o] m (fun r m1 => r = .inl (some (.int (nI 2))) ∧ ∃ n, fz m ≤ n ∧ m1 = gr m n) := by
  refine Hn.of pn_L (Nat.le_of_ble_eq_true rfl) rfl ?_
  refine h_aload_n 3 dL_rate_0 rfl rfl ?_
  refine h_iconst (nI 0) dL_rate_1 (by decide) ?_
  refine h_aload_n 0 dL_rate_2 rfl rfl ?_
  refine h_iload_n 1 dL_rate_3 rfl rfl ?_
  refine h_iload_n 2 dL_rate_4 rfl rfl ?_
  refine h_callV _ _ hC (ok_X9_rate _) mlL_7 in_X9_rate se_X9_rate (by rw [ht]; rfl) rfl rfl ⟨Nat.le_of_ble_eq_true rfl, Nat.le_of_ble_eq_true rfl⟩ (by exact Nat.le_of_ble_eq_true rfl) ⟨Nat.le_of_eq (Nat.zero_add _), Nat.le_of_eq (Nat.zero_add _)⟩ dL_rate_5 rfl (fun v9 m1 h => by cases h.1) (fun E m1 h => ?_)
  obtain ⟨h1, h2⟩ := h
  cases h1
  refine ⟨[⟨0, 10, 13, 13⟩], [], ⟨0, 10, 17, 15⟩, "java/lang/IllegalArgumentException", rfl, fun z hz => ?_, rfl, by decide, klL_15, ca_IllegalArgumentException, fun q => ?_⟩
  · rcases List.mem_cons.mp hz with rfl | hz
    · exact Or.inr ⟨by decide, "java/lang/IndexOutOfBoundsException", klL_13, Or.inl ⟨rfl, rfl⟩⟩
    cases hz
  · refine h_astore 4 ((4, Value.ref q) :: [(0, .ref d), (1, .int x), (2, .int y), (3, .ref o)]) dL_rate_17 (Nat.le_of_ble_eq_true rfl) rfl ?_
    refine h_iconst (nI 2) dL_rate_19 (by decide) ?_
    exact h_iret rfl dL_rate_20 ⟨Nat.le_of_eq (Nat.zero_add _), Nat.le_of_eq (Nat.zero_add _)⟩ ⟨rfl, h2⟩
def ML_pays (cs : Nat × Nat) : MI := (yL_pays, cL_pays, 5, (some .int), { frames := 8, locals := 148, cells := cs.1, slots := cs.2 })
abbrev hhL_pays : List (Nat × Nat × Nat × Nat) := [(0, 10, 13, 13), (0, 10, 17, 15)]
theorem ok_L_pays (cs : Nat × Nat) : hm_M (ML_pays cs) hhL_pays 4 := ⟨show Cond.codeWith yL_pays cL_pays 5 (some .int) [(0, 10, 13, 13), (0, 10, 17, 15)] ∈ wA from wA_i 700 (by decide +kernel) rfl, show Cond.initialized RL ∈ wA from wA_i 54 (by decide +kernel) rfl, show (yL_pays.cls ≠ "java/lang/invoke/MethodHandle" ∧ yL_pays.cls ≠ "java/lang/invoke/VarHandle" ∧ (parseMethodDescriptor yL_pays.desc).map (fun d => d.parameters.length) = some 4) from by decide +kernel⟩
theorem st_L_pays : Cond.static yL_pays ∈ wA := wA_i 699 (by decide +kernel) rfl
theorem hL_pays_0 (g : Gp) (cs : Nat × Nat) {m : Mm} {d o : Nat} {x y : Int32} {v : Int32} {Qy : Rs → Mm → Prop} {P : Mm → Prop} (ht : tg m d = (9, 0)) (hC : Cn g (MX9_pays cs) [.ref d, .int x, .int y] m Qy) (hQ : ∀ r m1, Qy r m1 → r = .inl (some (.int v)) ∧ P m1) (ho : ∀ m1, P m1 → tg m1 o = (18, 1)) : Hn g (ML_pays cs) hhL_pays [.ref d, .int x, .int y, .ref o] m (fun r m1 => r = .inl (some (.int (nI 0))) ∧ ∃ m0, P m0 ∧ m1 = sJ m0 o 0 v.toInt64) := by
  refine Hn.of pn_L (Nat.le_of_ble_eq_true rfl) rfl ?_
  refine h_aload_n 3 dL_pays_0 rfl rfl ?_
  refine h_iconst (nI 0) dL_pays_1 (by decide) ?_
  refine h_aload_n 0 dL_pays_2 rfl rfl ?_
  refine h_iload_n 1 dL_pays_3 rfl rfl ?_
  refine h_iload_n 2 dL_pays_4 rfl rfl ?_
  refine h_callV _ _ hC (ok_X9_pays _) mlL_17 in_X9_pays se_X9_pays (by rw [ht]; rfl) rfl rfl ⟨Nat.le_of_ble_eq_true rfl, Nat.le_of_ble_eq_true rfl⟩ (by exact Nat.le_of_ble_eq_true rfl) ⟨Nat.le_of_eq (Nat.zero_add _), Nat.le_of_eq (Nat.zero_add _)⟩ dL_pays_5 rfl (fun v9 m1 h => ?_) (fun E m1 h => by cases (hQ _ _ h).1)
  obtain ⟨h1, h2⟩ := hQ _ _ h
  cases h1
  refine h_i2l dL_pays_8 ?_
  refine h_last 0 (by rw [ho _ h2]) (by decide) (by rw [ho _ h2]; decide) dL_pays_9 ?_
  refine h_goto 21 dL_pays_10 (by decide) ?_
  refine h_iconst (nI 0) dL_pays_21 (by decide) ?_
  exact h_iret rfl dL_pays_22 ⟨Nat.le_of_eq (Nat.zero_add _), Nat.le_of_eq (Nat.zero_add _)⟩ ⟨rfl, _, h2, rfl⟩
theorem hL_pays_x1 (g : Gp) {m : Mm} {d o : Nat} {x y : Int32} (ht : tg m d = (9, 0)) (hC : Xn g (MX9_pays (1, 6)) [.ref d, .int x, .int y] m "java/lang/IndexOutOfBoundsException") : Hn g (ML_pays (1, 6)) hhL_pays [.ref d, .int x, .int y, .ref o] m (fun r m1 => r = .inl (some (.int (nI 1))) ∧ ∃ n, fz m ≤ n ∧ m1 = gr m n) := by
  refine Hn.of pn_L (Nat.le_of_ble_eq_true rfl) rfl ?_
  refine h_aload_n 3 dL_pays_0 rfl rfl ?_
  refine h_iconst (nI 0) dL_pays_1 (by decide) ?_
  refine h_aload_n 0 dL_pays_2 rfl rfl ?_
  refine h_iload_n 1 dL_pays_3 rfl rfl ?_
  refine h_iload_n 2 dL_pays_4 rfl rfl ?_
  refine h_callV _ _ hC (ok_X9_pays _) mlL_17 in_X9_pays se_X9_pays (by rw [ht]; rfl) rfl rfl ⟨Nat.le_of_ble_eq_true rfl, Nat.le_of_ble_eq_true rfl⟩ (by exact Nat.le_of_ble_eq_true rfl) ⟨Nat.le_of_eq (Nat.zero_add _), Nat.le_of_eq (Nat.zero_add _)⟩ dL_pays_5 rfl (fun v9 m1 h => by cases h.1) (fun E m1 h => ?_)
  obtain ⟨h1, h2⟩ := h
  cases h1
  refine ⟨[], [⟨0, 10, 17, 15⟩], ⟨0, 10, 13, 13⟩, "java/lang/IndexOutOfBoundsException", rfl, fun z hz => ?_, rfl, by decide, klL_13, ca_IndexOutOfBoundsException, fun q => ?_⟩
  · cases hz
  · refine h_astore 4 ((4, Value.ref q) :: [(0, .ref d), (1, .int x), (2, .int y), (3, .ref o)]) dL_pays_13 (Nat.le_of_ble_eq_true rfl) rfl ?_
    refine h_iconst (nI 1) dL_pays_15 (by decide) ?_
    exact h_iret rfl dL_pays_16 ⟨Nat.le_of_eq (Nat.zero_add _), Nat.le_of_eq (Nat.zero_add _)⟩ ⟨rfl, h2⟩
theorem hL_pays_x2 (g : Gp) {m : Mm} {d o : Nat} {x y : Int32} (ht : tg m d = (9, 0)) (hC : Xn g (MX9_pays (1, 6)) [.ref d, .int x, .int y] m "java/lang/IllegalArgumentException") : Hn g (ML_pays (1, 6)) hhL_pays [.ref d, .int x, .int y, .ref o] m (fun r m1 => r = .inl (some (.int (nI 2))) ∧ ∃ n, fz m ≤ n ∧ m1 = gr m n) := by
  refine Hn.of pn_L (Nat.le_of_ble_eq_true rfl) rfl ?_
  refine h_aload_n 3 dL_pays_0 rfl rfl ?_
  refine h_iconst (nI 0) dL_pays_1 (by decide) ?_
  refine h_aload_n 0 dL_pays_2 rfl rfl ?_
  refine h_iload_n 1 dL_pays_3 rfl rfl ?_
  refine h_iload_n 2 dL_pays_4 rfl rfl ?_
  refine h_callV _ _ hC (ok_X9_pays _) mlL_17 in_X9_pays se_X9_pays (by rw [ht]; rfl) rfl rfl ⟨Nat.le_of_ble_eq_true rfl, Nat.le_of_ble_eq_true rfl⟩ (by exact Nat.le_of_ble_eq_true rfl) ⟨Nat.le_of_eq (Nat.zero_add _), Nat.le_of_eq (Nat.zero_add _)⟩ dL_pays_5 rfl (fun v9 m1 h => by cases h.1) (fun E m1 h => ?_)
  obtain ⟨h1, h2⟩ := h
  cases h1
  refine ⟨[⟨0, 10, 13, 13⟩], [], ⟨0, 10, 17, 15⟩, "java/lang/IllegalArgumentException", rfl, fun z hz => ?_, rfl, by decide, klL_15, ca_IllegalArgumentException, fun q => ?_⟩
  · rcases List.mem_cons.mp hz with rfl | hz
    · exact Or.inr ⟨by decide, "java/lang/IndexOutOfBoundsException", klL_13, Or.inl ⟨rfl, rfl⟩⟩
    cases hz
  · refine h_astore 4 ((4, Value.ref q) :: [(0, .ref d), (1, .int x), (2, .int y), (3, .ref o)]) dL_pays_17 (Nat.le_of_ble_eq_true rfl) rfl ?_
    refine h_iconst (nI 2) dL_pays_19 (by decide) ?_
    exact h_iret rfl dL_pays_20 ⟨Nat.le_of_eq (Nat.zero_add _), Nat.le_of_eq (Nat.zero_add _)⟩ ⟨rfl, h2⟩
def ML_set (cs : Nat × Nat) : MI := (yL_set, cL_set, 5, (some .int), { frames := 8, locals := 147, cells := cs.1, slots := cs.2 })
abbrev hhL_set : List (Nat × Nat × Nat × Nat) := [(0, 10, 13, 13), (0, 10, 17, 15)]
theorem ok_L_set (cs : Nat × Nat) : hm_M (ML_set cs) hhL_set 4 := ⟨show Cond.codeWith yL_set cL_set 5 (some .int) [(0, 10, 13, 13), (0, 10, 17, 15)] ∈ wA from wA_i 707 (by decide +kernel) rfl, show Cond.initialized RL ∈ wA from wA_i 54 (by decide +kernel) rfl, show (yL_set.cls ≠ "java/lang/invoke/MethodHandle" ∧ yL_set.cls ≠ "java/lang/invoke/VarHandle" ∧ (parseMethodDescriptor yL_set.desc).map (fun d => d.parameters.length) = some 4) from by decide +kernel⟩
theorem st_L_set : Cond.static yL_set ∈ wA := wA_i 706 (by decide +kernel) rfl
theorem hL_set_0 (g : Gp) (cs : Nat × Nat) {m : Mm} {d o : Nat} {x y : Int32} {v : Int32} {Qy : Rs → Mm → Prop} {P : Mm → Prop} (ht : tg m d = (9, 0)) (hC : Cn g (MX9_set cs) [.ref d, .int x, .int y] m Qy) (hQ : ∀ r m1, Qy r m1 → r = .inl (some (.int v)) ∧ P m1) (ho : ∀ m1, P m1 → tg m1 o = (18, 1)) : Hn g (ML_set cs) hhL_set [.ref d, .int x, .int y, .ref o] m (fun r m1 => r = .inl (some (.int (nI 0))) ∧ ∃ m0, P m0 ∧ m1 = sJ m0 o 0 v.toInt64) := by
  refine Hn.of pn_L (Nat.le_of_ble_eq_true rfl) rfl ?_
  refine h_aload_n 3 dL_set_0 rfl rfl ?_
  refine h_iconst (nI 0) dL_set_1 (by decide) ?_
  refine h_aload_n 0 dL_set_2 rfl rfl ?_
  refine h_iload_n 1 dL_set_3 rfl rfl ?_
  refine h_iload_n 2 dL_set_4 rfl rfl ?_
  refine h_callV _ _ hC (ok_X9_set _) mlL_20 in_X9_set se_X9_set (by rw [ht]; rfl) rfl rfl ⟨Nat.le_of_ble_eq_true rfl, Nat.le_of_ble_eq_true rfl⟩ (by exact Nat.le_of_ble_eq_true rfl) ⟨Nat.le_of_eq (Nat.zero_add _), Nat.le_of_eq (Nat.zero_add _)⟩ dL_set_5 rfl (fun v9 m1 h => ?_) (fun E m1 h => by cases (hQ _ _ h).1)
  obtain ⟨h1, h2⟩ := hQ _ _ h
  cases h1
  refine h_i2l dL_set_8 ?_
  refine h_last 0 (by rw [ho _ h2]) (by decide) (by rw [ho _ h2]; decide) dL_set_9 ?_
  refine h_goto 21 dL_set_10 (by decide) ?_
  refine h_iconst (nI 0) dL_set_21 (by decide) ?_
  exact h_iret rfl dL_set_22 ⟨Nat.le_of_eq (Nat.zero_add _), Nat.le_of_eq (Nat.zero_add _)⟩ ⟨rfl, _, h2, rfl⟩
theorem hL_set_x1 (g : Gp) {m : Mm} {d o : Nat} {x y : Int32} (ht : tg m d = (9, 0)) (hC : Xn g (MX9_set (1, 6)) [.ref d, .int x, .int y] m "java/lang/IndexOutOfBoundsException") : Hn g (ML_set (1, 6)) hhL_set [.ref d, .int x, .int y, .ref o] m (fun r m1 => r = .inl (some (.int (nI 1))) ∧ ∃ n, fz m ≤ n ∧ m1 = gr m n) := by
  refine Hn.of pn_L (Nat.le_of_ble_eq_true rfl) rfl ?_
  refine h_aload_n 3 dL_set_0 rfl rfl ?_
  refine h_iconst (nI 0) dL_set_1 (by decide) ?_
  refine h_aload_n 0 dL_set_2 rfl rfl ?_
  refine h_iload_n 1 dL_set_3 rfl rfl ?_
  refine h_iload_n 2 dL_set_4 rfl rfl ?_
  refine h_callV _ _ hC (ok_X9_set _) mlL_20 in_X9_set se_X9_set (by rw [ht]; rfl) rfl rfl ⟨Nat.le_of_ble_eq_true rfl, Nat.le_of_ble_eq_true rfl⟩ (by exact Nat.le_of_ble_eq_true rfl) ⟨Nat.le_of_eq (Nat.zero_add _), Nat.le_of_eq (Nat.zero_add _)⟩ dL_set_5 rfl (fun v9 m1 h => by cases h.1) (fun E m1 h => ?_)
  obtain ⟨h1, h2⟩ := h
  cases h1
  refine ⟨[], [⟨0, 10, 17, 15⟩], ⟨0, 10, 13, 13⟩, "java/lang/IndexOutOfBoundsException", rfl, fun z hz => ?_, rfl, by decide, klL_13, ca_IndexOutOfBoundsException, fun q => ?_⟩
  · cases hz
  · refine h_astore 4 ((4, Value.ref q) :: [(0, .ref d), (1, .int x), (2, .int y), (3, .ref o)]) dL_set_13 (Nat.le_of_ble_eq_true rfl) rfl ?_
    refine h_iconst (nI 1) dL_set_15 (by decide) ?_
    exact h_iret rfl dL_set_16 ⟨Nat.le_of_eq (Nat.zero_add _), Nat.le_of_eq (Nat.zero_add _)⟩ ⟨rfl, h2⟩
theorem hL_set_x2 (g : Gp) {m : Mm} {d o : Nat} {x y : Int32} (ht : tg m d = (9, 0)) (hC : Xn g (MX9_set (1, 6)) [.ref d, .int x, .int y] m "java/lang/IllegalArgumentException") : Hn g (ML_set (1, 6)) hhL_set [.ref d, .int x, .int y, .ref o] m (fun r m1 => r = .inl (some (.int (nI 2))) ∧ ∃ n, fz m ≤ n ∧ m1 = gr m n) := by
  refine Hn.of pn_L (Nat.le_of_ble_eq_true rfl) rfl ?_
  refine h_aload_n 3 dL_set_0 rfl rfl ?_
  refine h_iconst (nI 0) dL_set_1 (by decide) ?_
  refine h_aload_n 0 dL_set_2 rfl rfl ?_
  refine h_iload_n 1 dL_set_3 rfl rfl ?_
  refine h_iload_n 2 dL_set_4 rfl rfl ?_
  refine h_callV _ _ hC (ok_X9_set _) mlL_20 in_X9_set se_X9_set (by rw [ht]; rfl) rfl rfl ⟨Nat.le_of_ble_eq_true rfl, Nat.le_of_ble_eq_true rfl⟩ (by exact Nat.le_of_ble_eq_true rfl) ⟨Nat.le_of_eq (Nat.zero_add _), Nat.le_of_eq (Nat.zero_add _)⟩ dL_set_5 rfl (fun v9 m1 h => by cases h.1) (fun E m1 h => ?_)
  obtain ⟨h1, h2⟩ := h
  cases h1
  refine ⟨[⟨0, 10, 13, 13⟩], [], ⟨0, 10, 17, 15⟩, "java/lang/IllegalArgumentException", rfl, fun z hz => ?_, rfl, by decide, klL_15, ca_IllegalArgumentException, fun q => ?_⟩
  · rcases List.mem_cons.mp hz with rfl | hz
    · exact Or.inr ⟨by decide, "java/lang/IndexOutOfBoundsException", klL_13, Or.inl ⟨rfl, rfl⟩⟩
    cases hz
  · refine h_astore 4 ((4, Value.ref q) :: [(0, .ref d), (1, .int x), (2, .int y), (3, .ref o)]) dL_set_17 (Nat.le_of_ble_eq_true rfl) rfl ?_
    refine h_iconst (nI 2) dL_set_19 (by decide) ?_
    exact h_iret rfl dL_set_20 ⟨Nat.le_of_eq (Nat.zero_add _), Nat.le_of_eq (Nat.zero_add _)⟩ ⟨rfl, h2⟩
def ML_assign (cs : Nat × Nat) : MI := (yL_assign, cL_assign, 5, (some .int), { frames := 8, locals := 147, cells := cs.1, slots := cs.2 })
abbrev hhL_assign : List (Nat × Nat × Nat × Nat) := [(0, 10, 13, 13), (0, 10, 17, 26)]
theorem ok_L_assign (cs : Nat × Nat) : hm_M (ML_assign cs) hhL_assign 4 := ⟨show Cond.codeWith yL_assign cL_assign 5 (some .int) [(0, 10, 13, 13), (0, 10, 17, 26)] ∈ wA from wA_i 716 (by decide +kernel) rfl, show Cond.initialized RL ∈ wA from wA_i 54 (by decide +kernel) rfl, show (yL_assign.cls ≠ "java/lang/invoke/MethodHandle" ∧ yL_assign.cls ≠ "java/lang/invoke/VarHandle" ∧ (parseMethodDescriptor yL_assign.desc).map (fun d => d.parameters.length) = some 4) from by decide +kernel⟩
theorem st_L_assign : Cond.static yL_assign ∈ wA := wA_i 715 (by decide +kernel) rfl
theorem hL_assign_0 (g : Gp) (cs : Nat × Nat) {m : Mm} {d o : Nat} {x y : Int32} {v : Int32} {Qy : Rs → Mm → Prop} {P : Mm → Prop} (ht : tg m d = (9, 0)) (hC : Cn g (MX9_assign cs) [.ref d, .int x, .int y] m Qy) (hQ : ∀ r m1, Qy r m1 → r = .inl (some (.int v)) ∧ P m1) (ho : ∀ m1, P m1 → tg m1 o = (18, 1)) : Hn g (ML_assign cs) hhL_assign [.ref d, .int x, .int y, .ref o] m (fun r m1 => r = .inl (some (.int (nI 0))) ∧ ∃ m0, P m0 ∧ m1 = sJ m0 o 0 v.toInt64) := by
  refine Hn.of pn_L (Nat.le_of_ble_eq_true rfl) rfl ?_
  refine h_aload_n 3 dL_assign_0 rfl rfl ?_
  refine h_iconst (nI 0) dL_assign_1 (by decide) ?_
  refine h_aload_n 0 dL_assign_2 rfl rfl ?_
  refine h_iload_n 1 dL_assign_3 rfl rfl ?_
  refine h_iload_n 2 dL_assign_4 rfl rfl ?_
  refine h_callV _ _ hC (ok_X9_assign _) mlL_23 in_X9_assign se_X9_assign (by rw [ht]; rfl) rfl rfl ⟨Nat.le_of_ble_eq_true rfl, Nat.le_of_ble_eq_true rfl⟩ (by exact Nat.le_of_ble_eq_true rfl) ⟨Nat.le_of_eq (Nat.zero_add _), Nat.le_of_eq (Nat.zero_add _)⟩ dL_assign_5 rfl (fun v9 m1 h => ?_) (fun E m1 h => by cases (hQ _ _ h).1)
  obtain ⟨h1, h2⟩ := hQ _ _ h
  cases h1
  refine h_i2l dL_assign_8 ?_
  refine h_last 0 (by rw [ho _ h2]) (by decide) (by rw [ho _ h2]; decide) dL_assign_9 ?_
  refine h_goto 21 dL_assign_10 (by decide) ?_
  refine h_iconst (nI 0) dL_assign_21 (by decide) ?_
  exact h_iret rfl dL_assign_22 ⟨Nat.le_of_eq (Nat.zero_add _), Nat.le_of_eq (Nat.zero_add _)⟩ ⟨rfl, _, h2, rfl⟩
theorem hL_assign_x1 (g : Gp) {m : Mm} {d o : Nat} {x y : Int32} (ht : tg m d = (9, 0)) (hC : Xn g (MX9_assign (1, 6)) [.ref d, .int x, .int y] m "java/lang/IndexOutOfBoundsException") : Hn g (ML_assign (1, 6)) hhL_assign [.ref d, .int x, .int y, .ref o] m (fun r m1 => r = .inl (some (.int (nI 1))) ∧ ∃ n, fz m ≤ n ∧ m1 = gr m n) := by
  refine Hn.of pn_L (Nat.le_of_ble_eq_true rfl) rfl ?_
  refine h_aload_n 3 dL_assign_0 rfl rfl ?_
  refine h_iconst (nI 0) dL_assign_1 (by decide) ?_
  refine h_aload_n 0 dL_assign_2 rfl rfl ?_
  refine h_iload_n 1 dL_assign_3 rfl rfl ?_
  refine h_iload_n 2 dL_assign_4 rfl rfl ?_
  refine h_callV _ _ hC (ok_X9_assign _) mlL_23 in_X9_assign se_X9_assign (by rw [ht]; rfl) rfl rfl ⟨Nat.le_of_ble_eq_true rfl, Nat.le_of_ble_eq_true rfl⟩ (by exact Nat.le_of_ble_eq_true rfl) ⟨Nat.le_of_eq (Nat.zero_add _), Nat.le_of_eq (Nat.zero_add _)⟩ dL_assign_5 rfl (fun v9 m1 h => by cases h.1) (fun E m1 h => ?_)
  obtain ⟨h1, h2⟩ := h
  cases h1
  refine ⟨[], [⟨0, 10, 17, 26⟩], ⟨0, 10, 13, 13⟩, "java/lang/IndexOutOfBoundsException", rfl, fun z hz => ?_, rfl, by decide, klL_13, ca_IndexOutOfBoundsException, fun q => ?_⟩
  · cases hz
  · refine h_astore 4 ((4, Value.ref q) :: [(0, .ref d), (1, .int x), (2, .int y), (3, .ref o)]) dL_assign_13 (Nat.le_of_ble_eq_true rfl) rfl ?_
    refine h_iconst (nI 1) dL_assign_15 (by decide) ?_
    exact h_iret rfl dL_assign_16 ⟨Nat.le_of_eq (Nat.zero_add _), Nat.le_of_eq (Nat.zero_add _)⟩ ⟨rfl, h2⟩
theorem hL_assign_x2 (g : Gp) {m : Mm} {d o : Nat} {x y : Int32} (ht : tg m d = (9, 0)) (hC : Xn g (MX9_assign (1, 6)) [.ref d, .int x, .int y] m "java/lang/IllegalStateException") : Hn g (ML_assign (1, 6)) hhL_assign [.ref d, .int x, .int y, .ref o] m (fun r m1 => r = .inl (some (.int (nI 2))) ∧ ∃ n, fz m ≤ n ∧ m1 = gr m n) := by
  refine Hn.of pn_L (Nat.le_of_ble_eq_true rfl) rfl ?_
  refine h_aload_n 3 dL_assign_0 rfl rfl ?_
  refine h_iconst (nI 0) dL_assign_1 (by decide) ?_
  refine h_aload_n 0 dL_assign_2 rfl rfl ?_
  refine h_iload_n 1 dL_assign_3 rfl rfl ?_
  refine h_iload_n 2 dL_assign_4 rfl rfl ?_
  refine h_callV _ _ hC (ok_X9_assign _) mlL_23 in_X9_assign se_X9_assign (by rw [ht]; rfl) rfl rfl ⟨Nat.le_of_ble_eq_true rfl, Nat.le_of_ble_eq_true rfl⟩ (by exact Nat.le_of_ble_eq_true rfl) ⟨Nat.le_of_eq (Nat.zero_add _), Nat.le_of_eq (Nat.zero_add _)⟩ dL_assign_5 rfl (fun v9 m1 h => by cases h.1) (fun E m1 h => ?_)
  obtain ⟨h1, h2⟩ := h
  cases h1
  refine ⟨[⟨0, 10, 13, 13⟩], [], ⟨0, 10, 17, 26⟩, "java/lang/IllegalStateException", rfl, fun z hz => ?_, rfl, by decide, klL_26, ca_IllegalStateException, fun q => ?_⟩
  · rcases List.mem_cons.mp hz with rfl | hz
    · exact Or.inr ⟨by decide, "java/lang/IndexOutOfBoundsException", klL_13, Or.inr (Or.inl ⟨rfl, rfl⟩)⟩
    cases hz
  · refine h_astore 4 ((4, Value.ref q) :: [(0, .ref d), (1, .int x), (2, .int y), (3, .ref o)]) dL_assign_17 (Nat.le_of_ble_eq_true rfl) rfl ?_
    refine h_iconst (nI 2) dL_assign_19 (by decide) ?_
    exact h_iret rfl dL_assign_20 ⟨Nat.le_of_eq (Nat.zero_add _), Nat.le_of_eq (Nat.zero_add _)⟩ ⟨rfl, h2⟩
def ML_deliver (cs : Nat × Nat) : MI := (yL_deliver, cL_deliver, 4, (some .int), { frames := 8, locals := 146, cells := cs.1, slots := cs.2 })
abbrev hhL_deliver : List (Nat × Nat × Nat × Nat) := [(0, 9, 12, 13), (0, 9, 15, 26)]
theorem ok_L_deliver (cs : Nat × Nat) : hm_M (ML_deliver cs) hhL_deliver 3 := ⟨show Cond.codeWith yL_deliver cL_deliver 4 (some .int) [(0, 9, 12, 13), (0, 9, 15, 26)] ∈ wA from wA_i 747 (by decide +kernel) rfl, show Cond.initialized RL ∈ wA from wA_i 54 (by decide +kernel) rfl, show (yL_deliver.cls ≠ "java/lang/invoke/MethodHandle" ∧ yL_deliver.cls ≠ "java/lang/invoke/VarHandle" ∧ (parseMethodDescriptor yL_deliver.desc).map (fun d => d.parameters.length) = some 3) from by decide +kernel⟩
theorem st_L_deliver : Cond.static yL_deliver ∈ wA := wA_i 746 (by decide +kernel) rfl
theorem hL_deliver_0 (g : Gp) (cs : Nat × Nat) {m : Mm} {d o : Nat} {x : Int32} {v : Int32} {Qy : Rs → Mm → Prop} {P : Mm → Prop} (ht : tg m d = (9, 0)) (hC : Cn g (MX9_deliver cs) [.ref d, .int x] m Qy) (hQ : ∀ r m1, Qy r m1 → r = .inl (some (.int v)) ∧ P m1) (ho : ∀ m1, P m1 → tg m1 o = (18, 1)) : Hn g (ML_deliver cs) hhL_deliver [.ref d, .int x, .ref o] m (fun r m1 => r = .inl (some (.int (nI 0))) ∧ ∃ m0, P m0 ∧ m1 = sJ m0 o 0 v.toInt64) := by
  refine Hn.of pn_L (Nat.le_of_ble_eq_true rfl) rfl ?_
  refine h_aload_n 2 dL_deliver_0 rfl rfl ?_
  refine h_iconst (nI 0) dL_deliver_1 (by decide) ?_
  refine h_aload_n 0 dL_deliver_2 rfl rfl ?_
  refine h_iload_n 1 dL_deliver_3 rfl rfl ?_
  refine h_callV _ _ hC (ok_X9_deliver _) mlL_28 in_X9_deliver se_X9_deliver (by rw [ht]; rfl) rfl rfl ⟨Nat.le_of_ble_eq_true rfl, Nat.le_of_ble_eq_true rfl⟩ (by exact Nat.le_of_ble_eq_true rfl) ⟨Nat.le_of_eq (Nat.zero_add _), Nat.le_of_eq (Nat.zero_add _)⟩ dL_deliver_4 rfl (fun v9 m1 h => ?_) (fun E m1 h => by cases (hQ _ _ h).1)
  obtain ⟨h1, h2⟩ := hQ _ _ h
  cases h1
  refine h_i2l dL_deliver_7 ?_
  refine h_last 0 (by rw [ho _ h2]) (by decide) (by rw [ho _ h2]; decide) dL_deliver_8 ?_
  refine h_goto 18 dL_deliver_9 (by decide) ?_
  refine h_iconst (nI 0) dL_deliver_18 (by decide) ?_
  exact h_iret rfl dL_deliver_19 ⟨Nat.le_of_eq (Nat.zero_add _), Nat.le_of_eq (Nat.zero_add _)⟩ ⟨rfl, _, h2, rfl⟩
theorem hL_deliver_x1 (g : Gp) {m : Mm} {d o : Nat} {x : Int32} (ht : tg m d = (9, 0)) (hC : Xn g (MX9_deliver (1, 6)) [.ref d, .int x] m "java/lang/IndexOutOfBoundsException") : Hn g (ML_deliver (1, 6)) hhL_deliver [.ref d, .int x, .ref o] m (fun r m1 => r = .inl (some (.int (nI 1))) ∧ ∃ n, fz m ≤ n ∧ m1 = gr m n) := by
  refine Hn.of pn_L (Nat.le_of_ble_eq_true rfl) rfl ?_
  refine h_aload_n 2 dL_deliver_0 rfl rfl ?_
  refine h_iconst (nI 0) dL_deliver_1 (by decide) ?_
  refine h_aload_n 0 dL_deliver_2 rfl rfl ?_
  refine h_iload_n 1 dL_deliver_3 rfl rfl ?_
  refine h_callV _ _ hC (ok_X9_deliver _) mlL_28 in_X9_deliver se_X9_deliver (by rw [ht]; rfl) rfl rfl ⟨Nat.le_of_ble_eq_true rfl, Nat.le_of_ble_eq_true rfl⟩ (by exact Nat.le_of_ble_eq_true rfl) ⟨Nat.le_of_eq (Nat.zero_add _), Nat.le_of_eq (Nat.zero_add _)⟩ dL_deliver_4 rfl (fun v9 m1 h => by cases h.1) (fun E m1 h => ?_)
  obtain ⟨h1, h2⟩ := h
  cases h1
  refine ⟨[], [⟨0, 9, 15, 26⟩], ⟨0, 9, 12, 13⟩, "java/lang/IndexOutOfBoundsException", rfl, fun z hz => ?_, rfl, by decide, klL_13, ca_IndexOutOfBoundsException, fun q => ?_⟩
  · cases hz
  · refine h_astore_n 3 ((3, Value.ref q) :: [(0, .ref d), (1, .int x), (2, .ref o)]) dL_deliver_12 rfl (Nat.le_of_ble_eq_true rfl) rfl ?_
    refine h_iconst (nI 1) dL_deliver_13 (by decide) ?_
    exact h_iret rfl dL_deliver_14 ⟨Nat.le_of_eq (Nat.zero_add _), Nat.le_of_eq (Nat.zero_add _)⟩ ⟨rfl, h2⟩
theorem hL_deliver_x2 (g : Gp) {m : Mm} {d o : Nat} {x : Int32} (ht : tg m d = (9, 0)) (hC : Xn g (MX9_deliver (1, 6)) [.ref d, .int x] m "java/lang/IllegalStateException") : Hn g (ML_deliver (1, 6)) hhL_deliver [.ref d, .int x, .ref o] m (fun r m1 => r = .inl (some (.int (nI 2))) ∧ ∃ n, fz m ≤ n ∧ m1 = gr m n) := by
  refine Hn.of pn_L (Nat.le_of_ble_eq_true rfl) rfl ?_
  refine h_aload_n 2 dL_deliver_0 rfl rfl ?_
  refine h_iconst (nI 0) dL_deliver_1 (by decide) ?_
  refine h_aload_n 0 dL_deliver_2 rfl rfl ?_
  refine h_iload_n 1 dL_deliver_3 rfl rfl ?_
  refine h_callV _ _ hC (ok_X9_deliver _) mlL_28 in_X9_deliver se_X9_deliver (by rw [ht]; rfl) rfl rfl ⟨Nat.le_of_ble_eq_true rfl, Nat.le_of_ble_eq_true rfl⟩ (by exact Nat.le_of_ble_eq_true rfl) ⟨Nat.le_of_eq (Nat.zero_add _), Nat.le_of_eq (Nat.zero_add _)⟩ dL_deliver_4 rfl (fun v9 m1 h => by cases h.1) (fun E m1 h => ?_)
  obtain ⟨h1, h2⟩ := h
  cases h1
  refine ⟨[⟨0, 9, 12, 13⟩], [], ⟨0, 9, 15, 26⟩, "java/lang/IllegalStateException", rfl, fun z hz => ?_, rfl, by decide, klL_26, ca_IllegalStateException, fun q => ?_⟩
  · rcases List.mem_cons.mp hz with rfl | hz
    · exact Or.inr ⟨by decide, "java/lang/IndexOutOfBoundsException", klL_13, Or.inr (Or.inl ⟨rfl, rfl⟩)⟩
    cases hz
  · refine h_astore_n 3 ((3, Value.ref q) :: [(0, .ref d), (1, .int x), (2, .ref o)]) dL_deliver_15 rfl (Nat.le_of_ble_eq_true rfl) rfl ?_
    refine h_iconst (nI 2) dL_deliver_16 (by decide) ?_
    exact h_iret rfl dL_deliver_17 ⟨Nat.le_of_eq (Nat.zero_add _), Nat.le_of_eq (Nat.zero_add _)⟩ ⟨rfl, h2⟩
def ML_revise (cs : Nat × Nat) : MI := (yL_revise, cL_revise, 6, (some .int), { frames := 8, locals := 148, cells := cs.1, slots := cs.2 })
abbrev hhL_revise : List (Nat × Nat × Nat × Nat) := [(0, 12, 15, 13), (0, 12, 19, 15), (0, 12, 23, 26)]
theorem ok_L_revise (cs : Nat × Nat) : hm_M (ML_revise cs) hhL_revise 5 := ⟨show Cond.codeWith yL_revise cL_revise 6 (some .int) [(0, 12, 15, 13), (0, 12, 19, 15), (0, 12, 23, 26)] ∈ wA from wA_i 770 (by decide +kernel) rfl, show Cond.initialized RL ∈ wA from wA_i 54 (by decide +kernel) rfl, show (yL_revise.cls ≠ "java/lang/invoke/MethodHandle" ∧ yL_revise.cls ≠ "java/lang/invoke/VarHandle" ∧ (parseMethodDescriptor yL_revise.desc).map (fun d => d.parameters.length) = some 5) from by decide +kernel⟩
theorem st_L_revise : Cond.static yL_revise ∈ wA := wA_i 769 (by decide +kernel) rfl
theorem hL_revise_0 (g : Gp) (cs : Nat × Nat) {m : Mm} {d o : Nat} {x y z : Int32} {v : Int32} {Qy : Rs → Mm → Prop} {P : Mm → Prop} (ht : tg m d = (9, 0)) (hC : Cn g (MX9_revise cs) [.ref d, .int x, .int y, .int z] m Qy) (hQ : ∀ r m1, Qy r m1 → r = .inl (some (.int v)) ∧ P m1) (ho : ∀ m1, P m1 → tg m1 o = (18, 1)) : Hn g (ML_revise cs) hhL_revise [.ref d, .int x, .int y, .int z, .ref o] m (fun r m1 => r = .inl (some (.int (nI 0))) ∧ ∃ m0, P m0 ∧ m1 = sJ m0 o 0 v.toInt64) := by
  refine Hn.of pn_L (Nat.le_of_ble_eq_true rfl) rfl ?_
  refine h_aload 4 dL_revise_0 rfl ?_
  refine h_iconst (nI 0) dL_revise_2 (by decide) ?_
  refine h_aload_n 0 dL_revise_3 rfl rfl ?_
  refine h_iload_n 1 dL_revise_4 rfl rfl ?_
  refine h_iload_n 2 dL_revise_5 rfl rfl ?_
  refine h_iload_n 3 dL_revise_6 rfl rfl ?_
  refine h_callV _ _ hC (ok_X9_revise _) mlL_32 in_X9_revise se_X9_revise (by rw [ht]; rfl) rfl rfl ⟨Nat.le_of_ble_eq_true rfl, Nat.le_of_ble_eq_true rfl⟩ (by exact Nat.le_of_ble_eq_true rfl) ⟨Nat.le_of_eq (Nat.zero_add _), Nat.le_of_eq (Nat.zero_add _)⟩ dL_revise_7 rfl (fun v9 m1 h => ?_) (fun E m1 h => by cases (hQ _ _ h).1)
  obtain ⟨h1, h2⟩ := hQ _ _ h
  cases h1
  refine h_i2l dL_revise_10 ?_
  refine h_last 0 (by rw [ho _ h2]) (by decide) (by rw [ho _ h2]; decide) dL_revise_11 ?_
  refine h_goto 27 dL_revise_12 (by decide) ?_
  refine h_iconst (nI 0) dL_revise_27 (by decide) ?_
  exact h_iret rfl dL_revise_28 ⟨Nat.le_of_eq (Nat.zero_add _), Nat.le_of_eq (Nat.zero_add _)⟩ ⟨rfl, _, h2, rfl⟩
theorem hL_revise_x1 (g : Gp) {m : Mm} {d o : Nat} {x y z : Int32} (ht : tg m d = (9, 0)) (hC : Xn g (MX9_revise (1, 6)) [.ref d, .int x, .int y, .int z] m "java/lang/IndexOutOfBoundsException") : Hn g (ML_revise (1, 6)) hhL_revise [.ref d, .int x, .int y, .int z, .ref o] m (fun r m1 => r = .inl (some (.int (nI 1))) ∧ ∃ n, fz m ≤ n ∧ m1 = gr m n) := by
  refine Hn.of pn_L (Nat.le_of_ble_eq_true rfl) rfl ?_
  refine h_aload 4 dL_revise_0 rfl ?_
  refine h_iconst (nI 0) dL_revise_2 (by decide) ?_
  refine h_aload_n 0 dL_revise_3 rfl rfl ?_
  refine h_iload_n 1 dL_revise_4 rfl rfl ?_
  refine h_iload_n 2 dL_revise_5 rfl rfl ?_
  refine h_iload_n 3 dL_revise_6 rfl rfl ?_
  refine h_callV _ _ hC (ok_X9_revise _) mlL_32 in_X9_revise se_X9_revise (by rw [ht]; rfl) rfl rfl ⟨Nat.le_of_ble_eq_true rfl, Nat.le_of_ble_eq_true rfl⟩ (by exact Nat.le_of_ble_eq_true rfl) ⟨Nat.le_of_eq (Nat.zero_add _), Nat.le_of_eq (Nat.zero_add _)⟩ dL_revise_7 rfl (fun v9 m1 h => by cases h.1) (fun E m1 h => ?_)
  obtain ⟨h1, h2⟩ := h
  cases h1
  refine ⟨[], [⟨0, 12, 19, 15⟩, ⟨0, 12, 23, 26⟩], ⟨0, 12, 15, 13⟩, "java/lang/IndexOutOfBoundsException", rfl, fun z hz => ?_, rfl, by decide, klL_13, ca_IndexOutOfBoundsException, fun q => ?_⟩
  · cases hz
  · refine h_astore 5 ((5, Value.ref q) :: [(0, .ref d), (1, .int x), (2, .int y), (3, .int z), (4, .ref o)]) dL_revise_15 (Nat.le_of_ble_eq_true rfl) rfl ?_
    refine h_iconst (nI 1) dL_revise_17 (by decide) ?_
    exact h_iret rfl dL_revise_18 ⟨Nat.le_of_eq (Nat.zero_add _), Nat.le_of_eq (Nat.zero_add _)⟩ ⟨rfl, h2⟩
theorem hL_revise_x2 (g : Gp) {m : Mm} {d o : Nat} {x y z : Int32} (ht : tg m d = (9, 0)) (hC : Xn g (MX9_revise (1, 6)) [.ref d, .int x, .int y, .int z] m "java/lang/IllegalArgumentException") : Hn g (ML_revise (1, 6)) hhL_revise [.ref d, .int x, .int y, .int z, .ref o] m (fun r m1 => r = .inl (some (.int (nI 2))) ∧ ∃ n, fz m ≤ n ∧ m1 = gr m n) := by
  refine Hn.of pn_L (Nat.le_of_ble_eq_true rfl) rfl ?_
  refine h_aload 4 dL_revise_0 rfl ?_
  refine h_iconst (nI 0) dL_revise_2 (by decide) ?_
  refine h_aload_n 0 dL_revise_3 rfl rfl ?_
  refine h_iload_n 1 dL_revise_4 rfl rfl ?_
  refine h_iload_n 2 dL_revise_5 rfl rfl ?_
  refine h_iload_n 3 dL_revise_6 rfl rfl ?_
  refine h_callV _ _ hC (ok_X9_revise _) mlL_32 in_X9_revise se_X9_revise (by rw [ht]; rfl) rfl rfl ⟨Nat.le_of_ble_eq_true rfl, Nat.le_of_ble_eq_true rfl⟩ (by exact Nat.le_of_ble_eq_true rfl) ⟨Nat.le_of_eq (Nat.zero_add _), Nat.le_of_eq (Nat.zero_add _)⟩ dL_revise_7 rfl (fun v9 m1 h => by cases h.1) (fun E m1 h => ?_)
  obtain ⟨h1, h2⟩ := h
  cases h1
  refine ⟨[⟨0, 12, 15, 13⟩], [⟨0, 12, 23, 26⟩], ⟨0, 12, 19, 15⟩, "java/lang/IllegalArgumentException", rfl, fun z hz => ?_, rfl, by decide, klL_15, ca_IllegalArgumentException, fun q => ?_⟩
  · rcases List.mem_cons.mp hz with rfl | hz
    · exact Or.inr ⟨by decide, "java/lang/IndexOutOfBoundsException", klL_13, Or.inl ⟨rfl, rfl⟩⟩
    cases hz
  · refine h_astore 5 ((5, Value.ref q) :: [(0, .ref d), (1, .int x), (2, .int y), (3, .int z), (4, .ref o)]) dL_revise_19 (Nat.le_of_ble_eq_true rfl) rfl ?_
    refine h_iconst (nI 2) dL_revise_21 (by decide) ?_
    exact h_iret rfl dL_revise_22 ⟨Nat.le_of_eq (Nat.zero_add _), Nat.le_of_eq (Nat.zero_add _)⟩ ⟨rfl, h2⟩
theorem hL_revise_x3 (g : Gp) {m : Mm} {d o : Nat} {x y z : Int32} (ht : tg m d = (9, 0)) (hC : Xn g (MX9_revise (1, 6)) [.ref d, .int x, .int y, .int z] m "java/lang/IllegalStateException") : Hn g (ML_revise (1, 6)) hhL_revise [.ref d, .int x, .int y, .int z, .ref o] m (fun r m1 => r = .inl (some (.int (nI 3))) ∧ ∃ n, fz m ≤ n ∧ m1 = gr m n) := by
  refine Hn.of pn_L (Nat.le_of_ble_eq_true rfl) rfl ?_
  refine h_aload 4 dL_revise_0 rfl ?_
  refine h_iconst (nI 0) dL_revise_2 (by decide) ?_
  refine h_aload_n 0 dL_revise_3 rfl rfl ?_
  refine h_iload_n 1 dL_revise_4 rfl rfl ?_
  refine h_iload_n 2 dL_revise_5 rfl rfl ?_
  refine h_iload_n 3 dL_revise_6 rfl rfl ?_
  refine h_callV _ _ hC (ok_X9_revise _) mlL_32 in_X9_revise se_X9_revise (by rw [ht]; rfl) rfl rfl ⟨Nat.le_of_ble_eq_true rfl, Nat.le_of_ble_eq_true rfl⟩ (by exact Nat.le_of_ble_eq_true rfl) ⟨Nat.le_of_eq (Nat.zero_add _), Nat.le_of_eq (Nat.zero_add _)⟩ dL_revise_7 rfl (fun v9 m1 h => by cases h.1) (fun E m1 h => ?_)
  obtain ⟨h1, h2⟩ := h
  cases h1
  refine ⟨[⟨0, 12, 15, 13⟩, ⟨0, 12, 19, 15⟩], [], ⟨0, 12, 23, 26⟩, "java/lang/IllegalStateException", rfl, fun z hz => ?_, rfl, by decide, klL_26, ca_IllegalStateException, fun q => ?_⟩
  · rcases List.mem_cons.mp hz with rfl | hz
    · exact Or.inr ⟨by decide, "java/lang/IndexOutOfBoundsException", klL_13, Or.inr (Or.inl ⟨rfl, rfl⟩)⟩
    rcases List.mem_cons.mp hz with rfl | hz
    · exact Or.inr ⟨by decide, "java/lang/IllegalArgumentException", klL_15, Or.inr (Or.inr ⟨rfl, rfl⟩)⟩
    cases hz
  · refine h_astore 5 ((5, Value.ref q) :: [(0, .ref d), (1, .int x), (2, .int y), (3, .int z), (4, .ref o)]) dL_revise_23 (Nat.le_of_ble_eq_true rfl) rfl ?_
    refine h_iconst (nI 3) dL_revise_25 (by decide) ?_
    exact h_iret rfl dL_revise_26 ⟨Nat.le_of_eq (Nat.zero_add _), Nat.le_of_eq (Nat.zero_add _)⟩ ⟨rfl, h2⟩
def ML_propose (cs : Nat × Nat) : MI := (yL_propose, cL_propose, 6, (some .int), { frames := 8, locals := 149, cells := cs.1, slots := cs.2 })
abbrev hhL_propose : List (Nat × Nat × Nat × Nat) := [(0, 12, 15, 13), (0, 12, 19, 15), (0, 12, 23, 26)]
theorem ok_L_propose (cs : Nat × Nat) : hm_M (ML_propose cs) hhL_propose 5 := ⟨show Cond.codeWith yL_propose cL_propose 6 (some .int) [(0, 12, 15, 13), (0, 12, 19, 15), (0, 12, 23, 26)] ∈ wA from wA_i 782 (by decide +kernel) rfl, show Cond.initialized RL ∈ wA from wA_i 54 (by decide +kernel) rfl, show (yL_propose.cls ≠ "java/lang/invoke/MethodHandle" ∧ yL_propose.cls ≠ "java/lang/invoke/VarHandle" ∧ (parseMethodDescriptor yL_propose.desc).map (fun d => d.parameters.length) = some 5) from by decide +kernel⟩
theorem st_L_propose : Cond.static yL_propose ∈ wA := wA_i 781 (by decide +kernel) rfl
theorem hL_propose_0 (g : Gp) (cs : Nat × Nat) {m : Mm} {d o : Nat} {x y z : Int32} {v : Int32} {Qy : Rs → Mm → Prop} {P : Mm → Prop} (ht : tg m d = (9, 0)) (hC : Cn g (MX9_propose cs) [.ref d, .int x, .int y, .int z] m Qy) (hQ : ∀ r m1, Qy r m1 → r = .inl (some (.int v)) ∧ P m1) (ho : ∀ m1, P m1 → tg m1 o = (18, 1)) : Hn g (ML_propose cs) hhL_propose [.ref d, .int x, .int y, .int z, .ref o] m (fun r m1 => r = .inl (some (.int (nI 0))) ∧ ∃ m0, P m0 ∧ m1 = sJ m0 o 0 v.toInt64) := by
  refine Hn.of pn_L (Nat.le_of_ble_eq_true rfl) rfl ?_
  refine h_aload 4 dL_propose_0 rfl ?_
  refine h_iconst (nI 0) dL_propose_2 (by decide) ?_
  refine h_aload_n 0 dL_propose_3 rfl rfl ?_
  refine h_iload_n 1 dL_propose_4 rfl rfl ?_
  refine h_iload_n 2 dL_propose_5 rfl rfl ?_
  refine h_iload_n 3 dL_propose_6 rfl rfl ?_
  refine h_callV _ _ hC (ok_X9_propose _) mlL_36 in_X9_propose se_X9_propose (by rw [ht]; rfl) rfl rfl ⟨Nat.le_of_ble_eq_true rfl, Nat.le_of_ble_eq_true rfl⟩ (by exact Nat.le_of_ble_eq_true rfl) ⟨Nat.le_of_eq (Nat.zero_add _), Nat.le_of_eq (Nat.zero_add _)⟩ dL_propose_7 rfl (fun v9 m1 h => ?_) (fun E m1 h => by cases (hQ _ _ h).1)
  obtain ⟨h1, h2⟩ := hQ _ _ h
  cases h1
  refine h_i2l dL_propose_10 ?_
  refine h_last 0 (by rw [ho _ h2]) (by decide) (by rw [ho _ h2]; decide) dL_propose_11 ?_
  refine h_goto 27 dL_propose_12 (by decide) ?_
  refine h_iconst (nI 0) dL_propose_27 (by decide) ?_
  exact h_iret rfl dL_propose_28 ⟨Nat.le_of_eq (Nat.zero_add _), Nat.le_of_eq (Nat.zero_add _)⟩ ⟨rfl, _, h2, rfl⟩
theorem hL_propose_x1 (g : Gp) {m : Mm} {d o : Nat} {x y z : Int32} (ht : tg m d = (9, 0)) (hC : Xn g (MX9_propose (1, 6)) [.ref d, .int x, .int y, .int z] m "java/lang/IndexOutOfBoundsException") : Hn g (ML_propose (1, 6)) hhL_propose [.ref d, .int x, .int y, .int z, .ref o] m (fun r m1 => r = .inl (some (.int (nI 1))) ∧ ∃ n, fz m ≤ n ∧ m1 = gr m n) := by
  refine Hn.of pn_L (Nat.le_of_ble_eq_true rfl) rfl ?_
  refine h_aload 4 dL_propose_0 rfl ?_
  refine h_iconst (nI 0) dL_propose_2 (by decide) ?_
  refine h_aload_n 0 dL_propose_3 rfl rfl ?_
  refine h_iload_n 1 dL_propose_4 rfl rfl ?_
  refine h_iload_n 2 dL_propose_5 rfl rfl ?_
  refine h_iload_n 3 dL_propose_6 rfl rfl ?_
  refine h_callV _ _ hC (ok_X9_propose _) mlL_36 in_X9_propose se_X9_propose (by rw [ht]; rfl) rfl rfl ⟨Nat.le_of_ble_eq_true rfl, Nat.le_of_ble_eq_true rfl⟩ (by exact Nat.le_of_ble_eq_true rfl) ⟨Nat.le_of_eq (Nat.zero_add _), Nat.le_of_eq (Nat.zero_add _)⟩ dL_propose_7 rfl (fun v9 m1 h => by cases h.1) (fun E m1 h => ?_)
  obtain ⟨h1, h2⟩ := h
  cases h1
  refine ⟨[], [⟨0, 12, 19, 15⟩, ⟨0, 12, 23, 26⟩], ⟨0, 12, 15, 13⟩, "java/lang/IndexOutOfBoundsException", rfl, fun z hz => ?_, rfl, by decide, klL_13, ca_IndexOutOfBoundsException, fun q => ?_⟩
  · cases hz
  · refine h_astore 5 ((5, Value.ref q) :: [(0, .ref d), (1, .int x), (2, .int y), (3, .int z), (4, .ref o)]) dL_propose_15 (Nat.le_of_ble_eq_true rfl) rfl ?_
    refine h_iconst (nI 1) dL_propose_17 (by decide) ?_
    exact h_iret rfl dL_propose_18 ⟨Nat.le_of_eq (Nat.zero_add _), Nat.le_of_eq (Nat.zero_add _)⟩ ⟨rfl, h2⟩
theorem hL_propose_x2 (g : Gp) {m : Mm} {d o : Nat} {x y z : Int32} (ht : tg m d = (9, 0)) (hC : Xn g (MX9_propose (1, 6)) [.ref d, .int x, .int y, .int z] m "java/lang/IllegalArgumentException") : Hn g (ML_propose (1, 6)) hhL_propose [.ref d, .int x, .int y, .int z, .ref o] m (fun r m1 => r = .inl (some (.int (nI 2))) ∧ ∃ n, fz m ≤ n ∧ m1 = gr m n) := by
  refine Hn.of pn_L (Nat.le_of_ble_eq_true rfl) rfl ?_
  refine h_aload 4 dL_propose_0 rfl ?_
  refine h_iconst (nI 0) dL_propose_2 (by decide) ?_
  refine h_aload_n 0 dL_propose_3 rfl rfl ?_
  refine h_iload_n 1 dL_propose_4 rfl rfl ?_
  refine h_iload_n 2 dL_propose_5 rfl rfl ?_
  refine h_iload_n 3 dL_propose_6 rfl rfl ?_
  refine h_callV _ _ hC (ok_X9_propose _) mlL_36 in_X9_propose se_X9_propose (by rw [ht]; rfl) rfl rfl ⟨Nat.le_of_ble_eq_true rfl, Nat.le_of_ble_eq_true rfl⟩ (by exact Nat.le_of_ble_eq_true rfl) ⟨Nat.le_of_eq (Nat.zero_add _), Nat.le_of_eq (Nat.zero_add _)⟩ dL_propose_7 rfl (fun v9 m1 h => by cases h.1) (fun E m1 h => ?_)
  obtain ⟨h1, h2⟩ := h
  cases h1
  refine ⟨[⟨0, 12, 15, 13⟩], [⟨0, 12, 23, 26⟩], ⟨0, 12, 19, 15⟩, "java/lang/IllegalArgumentException", rfl, fun z hz => ?_, rfl, by decide, klL_15, ca_IllegalArgumentException, fun q => ?_⟩
  · rcases List.mem_cons.mp hz with rfl | hz
    · exact Or.inr ⟨by decide, "java/lang/IndexOutOfBoundsException", klL_13, Or.inl ⟨rfl, rfl⟩⟩
    cases hz
  · refine h_astore 5 ((5, Value.ref q) :: [(0, .ref d), (1, .int x), (2, .int y), (3, .int z), (4, .ref o)]) dL_propose_19 (Nat.le_of_ble_eq_true rfl) rfl ?_
    refine h_iconst (nI 2) dL_propose_21 (by decide) ?_
    exact h_iret rfl dL_propose_22 ⟨Nat.le_of_eq (Nat.zero_add _), Nat.le_of_eq (Nat.zero_add _)⟩ ⟨rfl, h2⟩
theorem hL_propose_x3 (g : Gp) {m : Mm} {d o : Nat} {x y z : Int32} (ht : tg m d = (9, 0)) (hC : Xn g (MX9_propose (1, 6)) [.ref d, .int x, .int y, .int z] m "java/lang/IllegalStateException") : Hn g (ML_propose (1, 6)) hhL_propose [.ref d, .int x, .int y, .int z, .ref o] m (fun r m1 => r = .inl (some (.int (nI 3))) ∧ ∃ n, fz m ≤ n ∧ m1 = gr m n) := by
  refine Hn.of pn_L (Nat.le_of_ble_eq_true rfl) rfl ?_
  refine h_aload 4 dL_propose_0 rfl ?_
  refine h_iconst (nI 0) dL_propose_2 (by decide) ?_
  refine h_aload_n 0 dL_propose_3 rfl rfl ?_
  refine h_iload_n 1 dL_propose_4 rfl rfl ?_
  refine h_iload_n 2 dL_propose_5 rfl rfl ?_
  refine h_iload_n 3 dL_propose_6 rfl rfl ?_
  refine h_callV _ _ hC (ok_X9_propose _) mlL_36 in_X9_propose se_X9_propose (by rw [ht]; rfl) rfl rfl ⟨Nat.le_of_ble_eq_true rfl, Nat.le_of_ble_eq_true rfl⟩ (by exact Nat.le_of_ble_eq_true rfl) ⟨Nat.le_of_eq (Nat.zero_add _), Nat.le_of_eq (Nat.zero_add _)⟩ dL_propose_7 rfl (fun v9 m1 h => by cases h.1) (fun E m1 h => ?_)
  obtain ⟨h1, h2⟩ := h
  cases h1
  refine ⟨[⟨0, 12, 15, 13⟩, ⟨0, 12, 19, 15⟩], [], ⟨0, 12, 23, 26⟩, "java/lang/IllegalStateException", rfl, fun z hz => ?_, rfl, by decide, klL_26, ca_IllegalStateException, fun q => ?_⟩
  · rcases List.mem_cons.mp hz with rfl | hz
    · exact Or.inr ⟨by decide, "java/lang/IndexOutOfBoundsException", klL_13, Or.inr (Or.inl ⟨rfl, rfl⟩)⟩
    rcases List.mem_cons.mp hz with rfl | hz
    · exact Or.inr ⟨by decide, "java/lang/IllegalArgumentException", klL_15, Or.inr (Or.inr ⟨rfl, rfl⟩)⟩
    cases hz
  · refine h_astore 5 ((5, Value.ref q) :: [(0, .ref d), (1, .int x), (2, .int y), (3, .int z), (4, .ref o)]) dL_propose_23 (Nat.le_of_ble_eq_true rfl) rfl ?_
    refine h_iconst (nI 3) dL_propose_25 (by decide) ?_
    exact h_iret rfl dL_propose_26 ⟨Nat.le_of_eq (Nat.zero_add _), Nat.le_of_eq (Nat.zero_add _)⟩ ⟨rfl, h2⟩
def ML_rule (cs : Nat × Nat) : MI := (yL_rule, cL_rule, 5, (some .int), { frames := 8, locals := 147, cells := cs.1, slots := cs.2 })
abbrev hhL_rule : List (Nat × Nat × Nat × Nat) := [(0, 10, 13, 13), (0, 10, 17, 15), (0, 10, 21, 26)]
theorem ok_L_rule (cs : Nat × Nat) : hm_M (ML_rule cs) hhL_rule 4 := ⟨show Cond.codeWith yL_rule cL_rule 5 (some .int) [(0, 10, 13, 13), (0, 10, 17, 15), (0, 10, 21, 26)] ∈ wA from wA_i 789 (by decide +kernel) rfl, show Cond.initialized RL ∈ wA from wA_i 54 (by decide +kernel) rfl, show (yL_rule.cls ≠ "java/lang/invoke/MethodHandle" ∧ yL_rule.cls ≠ "java/lang/invoke/VarHandle" ∧ (parseMethodDescriptor yL_rule.desc).map (fun d => d.parameters.length) = some 4) from by decide +kernel⟩
theorem st_L_rule : Cond.static yL_rule ∈ wA := wA_i 788 (by decide +kernel) rfl
theorem hL_rule_0 (g : Gp) (cs : Nat × Nat) {m : Mm} {d o : Nat} {x y : Int32} {v : Int32} {Qy : Rs → Mm → Prop} {P : Mm → Prop} (ht : tg m d = (9, 0)) (hC : Cn g (MX9_rule cs) [.ref d, .int x, .int y] m Qy) (hQ : ∀ r m1, Qy r m1 → r = .inl (some (.int v)) ∧ P m1) (ho : ∀ m1, P m1 → tg m1 o = (18, 1)) : Hn g (ML_rule cs) hhL_rule [.ref d, .int x, .int y, .ref o] m (fun r m1 => r = .inl (some (.int (nI 0))) ∧ ∃ m0, P m0 ∧ m1 = sJ m0 o 0 v.toInt64) := by
  refine Hn.of pn_L (Nat.le_of_ble_eq_true rfl) rfl ?_
  refine h_aload_n 3 dL_rule_0 rfl rfl ?_
  refine h_iconst (nI 0) dL_rule_1 (by decide) ?_
  refine h_aload_n 0 dL_rule_2 rfl rfl ?_
  refine h_iload_n 1 dL_rule_3 rfl rfl ?_
  refine h_iload_n 2 dL_rule_4 rfl rfl ?_
  refine h_callV _ _ hC (ok_X9_rule _) mlL_39 in_X9_rule se_X9_rule (by rw [ht]; rfl) rfl rfl ⟨Nat.le_of_ble_eq_true rfl, Nat.le_of_ble_eq_true rfl⟩ (by exact Nat.le_of_ble_eq_true rfl) ⟨Nat.le_of_eq (Nat.zero_add _), Nat.le_of_eq (Nat.zero_add _)⟩ dL_rule_5 rfl (fun v9 m1 h => ?_) (fun E m1 h => by cases (hQ _ _ h).1)
  obtain ⟨h1, h2⟩ := hQ _ _ h
  cases h1
  refine h_i2l dL_rule_8 ?_
  refine h_last 0 (by rw [ho _ h2]) (by decide) (by rw [ho _ h2]; decide) dL_rule_9 ?_
  refine h_goto 25 dL_rule_10 (by decide) ?_
  refine h_iconst (nI 0) dL_rule_25 (by decide) ?_
  exact h_iret rfl dL_rule_26 ⟨Nat.le_of_eq (Nat.zero_add _), Nat.le_of_eq (Nat.zero_add _)⟩ ⟨rfl, _, h2, rfl⟩
theorem hL_rule_x1 (g : Gp) {m : Mm} {d o : Nat} {x y : Int32} (ht : tg m d = (9, 0)) (hC : Xn g (MX9_rule (1, 6)) [.ref d, .int x, .int y] m "java/lang/IndexOutOfBoundsException") : Hn g (ML_rule (1, 6)) hhL_rule [.ref d, .int x, .int y, .ref o] m (fun r m1 => r = .inl (some (.int (nI 1))) ∧ ∃ n, fz m ≤ n ∧ m1 = gr m n) := by
  refine Hn.of pn_L (Nat.le_of_ble_eq_true rfl) rfl ?_
  refine h_aload_n 3 dL_rule_0 rfl rfl ?_
  refine h_iconst (nI 0) dL_rule_1 (by decide) ?_
  refine h_aload_n 0 dL_rule_2 rfl rfl ?_
  refine h_iload_n 1 dL_rule_3 rfl rfl ?_
  refine h_iload_n 2 dL_rule_4 rfl rfl ?_
  refine h_callV _ _ hC (ok_X9_rule _) mlL_39 in_X9_rule se_X9_rule (by rw [ht]; rfl) rfl rfl ⟨Nat.le_of_ble_eq_true rfl, Nat.le_of_ble_eq_true rfl⟩ (by exact Nat.le_of_ble_eq_true rfl) ⟨Nat.le_of_eq (Nat.zero_add _), Nat.le_of_eq (Nat.zero_add _)⟩ dL_rule_5 rfl (fun v9 m1 h => by cases h.1) (fun E m1 h => ?_)
  obtain ⟨h1, h2⟩ := h
  cases h1
  refine ⟨[], [⟨0, 10, 17, 15⟩, ⟨0, 10, 21, 26⟩], ⟨0, 10, 13, 13⟩, "java/lang/IndexOutOfBoundsException", rfl, fun z hz => ?_, rfl, by decide, klL_13, ca_IndexOutOfBoundsException, fun q => ?_⟩
  · cases hz
  · refine h_astore 4 ((4, Value.ref q) :: [(0, .ref d), (1, .int x), (2, .int y), (3, .ref o)]) dL_rule_13 (Nat.le_of_ble_eq_true rfl) rfl ?_
    refine h_iconst (nI 1) dL_rule_15 (by decide) ?_
    exact h_iret rfl dL_rule_16 ⟨Nat.le_of_eq (Nat.zero_add _), Nat.le_of_eq (Nat.zero_add _)⟩ ⟨rfl, h2⟩
theorem hL_rule_x2 (g : Gp) {m : Mm} {d o : Nat} {x y : Int32} (ht : tg m d = (9, 0)) (hC : Xn g (MX9_rule (1, 6)) [.ref d, .int x, .int y] m "java/lang/IllegalArgumentException") : Hn g (ML_rule (1, 6)) hhL_rule [.ref d, .int x, .int y, .ref o] m (fun r m1 => r = .inl (some (.int (nI 2))) ∧ ∃ n, fz m ≤ n ∧ m1 = gr m n) := by
  refine Hn.of pn_L (Nat.le_of_ble_eq_true rfl) rfl ?_
  refine h_aload_n 3 dL_rule_0 rfl rfl ?_
  refine h_iconst (nI 0) dL_rule_1 (by decide) ?_
  refine h_aload_n 0 dL_rule_2 rfl rfl ?_
  refine h_iload_n 1 dL_rule_3 rfl rfl ?_
  refine h_iload_n 2 dL_rule_4 rfl rfl ?_
  refine h_callV _ _ hC (ok_X9_rule _) mlL_39 in_X9_rule se_X9_rule (by rw [ht]; rfl) rfl rfl ⟨Nat.le_of_ble_eq_true rfl, Nat.le_of_ble_eq_true rfl⟩ (by exact Nat.le_of_ble_eq_true rfl) ⟨Nat.le_of_eq (Nat.zero_add _), Nat.le_of_eq (Nat.zero_add _)⟩ dL_rule_5 rfl (fun v9 m1 h => by cases h.1) (fun E m1 h => ?_)
  obtain ⟨h1, h2⟩ := h
  cases h1
  refine ⟨[⟨0, 10, 13, 13⟩], [⟨0, 10, 21, 26⟩], ⟨0, 10, 17, 15⟩, "java/lang/IllegalArgumentException", rfl, fun z hz => ?_, rfl, by decide, klL_15, ca_IllegalArgumentException, fun q => ?_⟩
  · rcases List.mem_cons.mp hz with rfl | hz
    · exact Or.inr ⟨by decide, "java/lang/IndexOutOfBoundsException", klL_13, Or.inl ⟨rfl, rfl⟩⟩
    cases hz
  · refine h_astore 4 ((4, Value.ref q) :: [(0, .ref d), (1, .int x), (2, .int y), (3, .ref o)]) dL_rule_17 (Nat.le_of_ble_eq_true rfl) rfl ?_
    refine h_iconst (nI 2) dL_rule_19 (by decide) ?_
    exact h_iret rfl dL_rule_20 ⟨Nat.le_of_eq (Nat.zero_add _), Nat.le_of_eq (Nat.zero_add _)⟩ ⟨rfl, h2⟩
theorem hL_rule_x3 (g : Gp) {m : Mm} {d o : Nat} {x y : Int32} (ht : tg m d = (9, 0)) (hC : Xn g (MX9_rule (1, 6)) [.ref d, .int x, .int y] m "java/lang/IllegalStateException") : Hn g (ML_rule (1, 6)) hhL_rule [.ref d, .int x, .int y, .ref o] m (fun r m1 => r = .inl (some (.int (nI 3))) ∧ ∃ n, fz m ≤ n ∧ m1 = gr m n) := by
  refine Hn.of pn_L (Nat.le_of_ble_eq_true rfl) rfl ?_
  refine h_aload_n 3 dL_rule_0 rfl rfl ?_
  refine h_iconst (nI 0) dL_rule_1 (by decide) ?_
  refine h_aload_n 0 dL_rule_2 rfl rfl ?_
  refine h_iload_n 1 dL_rule_3 rfl rfl ?_
  refine h_iload_n 2 dL_rule_4 rfl rfl ?_
  refine h_callV _ _ hC (ok_X9_rule _) mlL_39 in_X9_rule se_X9_rule (by rw [ht]; rfl) rfl rfl ⟨Nat.le_of_ble_eq_true rfl, Nat.le_of_ble_eq_true rfl⟩ (by exact Nat.le_of_ble_eq_true rfl) ⟨Nat.le_of_eq (Nat.zero_add _), Nat.le_of_eq (Nat.zero_add _)⟩ dL_rule_5 rfl (fun v9 m1 h => by cases h.1) (fun E m1 h => ?_)
  obtain ⟨h1, h2⟩ := h
  cases h1
  refine ⟨[⟨0, 10, 13, 13⟩, ⟨0, 10, 17, 15⟩], [], ⟨0, 10, 21, 26⟩, "java/lang/IllegalStateException", rfl, fun z hz => ?_, rfl, by decide, klL_26, ca_IllegalStateException, fun q => ?_⟩
  · rcases List.mem_cons.mp hz with rfl | hz
    · exact Or.inr ⟨by decide, "java/lang/IndexOutOfBoundsException", klL_13, Or.inr (Or.inl ⟨rfl, rfl⟩)⟩
    rcases List.mem_cons.mp hz with rfl | hz
    · exact Or.inr ⟨by decide, "java/lang/IllegalArgumentException", klL_15, Or.inr (Or.inr ⟨rfl, rfl⟩)⟩
    cases hz
  · refine h_astore 4 ((4, Value.ref q) :: [(0, .ref d), (1, .int x), (2, .int y), (3, .ref o)]) dL_rule_21 (Nat.le_of_ble_eq_true rfl) rfl ?_
    refine h_iconst (nI 3) dL_rule_23 (by decide) ?_
    exact h_iret rfl dL_rule_24 ⟨Nat.le_of_eq (Nat.zero_add _), Nat.le_of_eq (Nat.zero_add _)⟩ ⟨rfl, h2⟩
def ML_append (cs : Nat × Nat) : MI := (yL_append, cL_append, 4, (some .int), { frames := 8, locals := 133, cells := cs.1, slots := cs.2 })
abbrev hhL_append : List (Nat × Nat × Nat × Nat) := [(0, 9, 12, 15), (0, 9, 15, 26)]
theorem ok_L_append (cs : Nat × Nat) : hm_M (ML_append cs) hhL_append 3 := ⟨show Cond.codeWith yL_append cL_append 4 (some .int) [(0, 9, 12, 15), (0, 9, 15, 26)] ∈ wA from wA_i 801 (by decide +kernel) rfl, show Cond.initialized RL ∈ wA from wA_i 54 (by decide +kernel) rfl, show (yL_append.cls ≠ "java/lang/invoke/MethodHandle" ∧ yL_append.cls ≠ "java/lang/invoke/VarHandle" ∧ (parseMethodDescriptor yL_append.desc).map (fun d => d.parameters.length) = some 3) from by decide +kernel⟩
theorem st_L_append : Cond.static yL_append ∈ wA := wA_i 800 (by decide +kernel) rfl
theorem hL_append_0 (g : Gp) (cs : Nat × Nat) {m : Mm} {d o : Nat} {x : Int32} {v : Int32} {Qy : Rs → Mm → Prop} {P : Mm → Prop} (ht : tg m d = (9, 0)) (hC : Cn g (MX9_append cs) [.ref d, .int x] m Qy) (hQ : ∀ r m1, Qy r m1 → r = .inl (some (.int v)) ∧ P m1) (ho : ∀ m1, P m1 → tg m1 o = (18, 1)) : Hn g (ML_append cs) hhL_append [.ref d, .int x, .ref o] m (fun r m1 => r = .inl (some (.int (nI 0))) ∧ ∃ m0, P m0 ∧ m1 = sJ m0 o 0 v.toInt64) := by
  refine Hn.of pn_L (Nat.le_of_ble_eq_true rfl) rfl ?_
  refine h_aload_n 2 dL_append_0 rfl rfl ?_
  refine h_iconst (nI 0) dL_append_1 (by decide) ?_
  refine h_aload_n 0 dL_append_2 rfl rfl ?_
  refine h_iload_n 1 dL_append_3 rfl rfl ?_
  refine h_callV _ _ hC (ok_X9_append _) mlL_42 in_X9_append se_X9_append (by rw [ht]; rfl) rfl rfl ⟨Nat.le_of_ble_eq_true rfl, Nat.le_of_ble_eq_true rfl⟩ (by exact Nat.le_of_ble_eq_true rfl) ⟨Nat.le_of_eq (Nat.zero_add _), Nat.le_of_eq (Nat.zero_add _)⟩ dL_append_4 rfl (fun v9 m1 h => ?_) (fun E m1 h => by cases (hQ _ _ h).1)
  obtain ⟨h1, h2⟩ := hQ _ _ h
  cases h1
  refine h_i2l dL_append_7 ?_
  refine h_last 0 (by rw [ho _ h2]) (by decide) (by rw [ho _ h2]; decide) dL_append_8 ?_
  refine h_goto 18 dL_append_9 (by decide) ?_
  refine h_iconst (nI 0) dL_append_18 (by decide) ?_
  exact h_iret rfl dL_append_19 ⟨Nat.le_of_eq (Nat.zero_add _), Nat.le_of_eq (Nat.zero_add _)⟩ ⟨rfl, _, h2, rfl⟩
theorem hL_append_x1 (g : Gp) {m : Mm} {d o : Nat} {x : Int32} (ht : tg m d = (9, 0)) (hC : Xn g (MX9_append (1, 6)) [.ref d, .int x] m "java/lang/IllegalArgumentException") : Hn g (ML_append (1, 6)) hhL_append [.ref d, .int x, .ref o] m (fun r m1 => r = .inl (some (.int (nI 1))) ∧ ∃ n, fz m ≤ n ∧ m1 = gr m n) := by
  refine Hn.of pn_L (Nat.le_of_ble_eq_true rfl) rfl ?_
  refine h_aload_n 2 dL_append_0 rfl rfl ?_
  refine h_iconst (nI 0) dL_append_1 (by decide) ?_
  refine h_aload_n 0 dL_append_2 rfl rfl ?_
  refine h_iload_n 1 dL_append_3 rfl rfl ?_
  refine h_callV _ _ hC (ok_X9_append _) mlL_42 in_X9_append se_X9_append (by rw [ht]; rfl) rfl rfl ⟨Nat.le_of_ble_eq_true rfl, Nat.le_of_ble_eq_true rfl⟩ (by exact Nat.le_of_ble_eq_true rfl) ⟨Nat.le_of_eq (Nat.zero_add _), Nat.le_of_eq (Nat.zero_add _)⟩ dL_append_4 rfl (fun v9 m1 h => by cases h.1) (fun E m1 h => ?_)
  obtain ⟨h1, h2⟩ := h
  cases h1
  refine ⟨[], [⟨0, 9, 15, 26⟩], ⟨0, 9, 12, 15⟩, "java/lang/IllegalArgumentException", rfl, fun z hz => ?_, rfl, by decide, klL_15, ca_IllegalArgumentException, fun q => ?_⟩
  · cases hz
  · refine h_astore_n 3 ((3, Value.ref q) :: [(0, .ref d), (1, .int x), (2, .ref o)]) dL_append_12 rfl (Nat.le_of_ble_eq_true rfl) rfl ?_
    refine h_iconst (nI 1) dL_append_13 (by decide) ?_
    exact h_iret rfl dL_append_14 ⟨Nat.le_of_eq (Nat.zero_add _), Nat.le_of_eq (Nat.zero_add _)⟩ ⟨rfl, h2⟩
theorem hL_append_x2 (g : Gp) {m : Mm} {d o : Nat} {x : Int32} (ht : tg m d = (9, 0)) (hC : Xn g (MX9_append (1, 6)) [.ref d, .int x] m "java/lang/IllegalStateException") : Hn g (ML_append (1, 6)) hhL_append [.ref d, .int x, .ref o] m (fun r m1 => r = .inl (some (.int (nI 2))) ∧ ∃ n, fz m ≤ n ∧ m1 = gr m n) := by
  refine Hn.of pn_L (Nat.le_of_ble_eq_true rfl) rfl ?_
  refine h_aload_n 2 dL_append_0 rfl rfl ?_
  refine h_iconst (nI 0) dL_append_1 (by decide) ?_
  refine h_aload_n 0 dL_append_2 rfl rfl ?_
  refine h_iload_n 1 dL_append_3 rfl rfl ?_
  refine h_callV _ _ hC (ok_X9_append _) mlL_42 in_X9_append se_X9_append (by rw [ht]; rfl) rfl rfl ⟨Nat.le_of_ble_eq_true rfl, Nat.le_of_ble_eq_true rfl⟩ (by exact Nat.le_of_ble_eq_true rfl) ⟨Nat.le_of_eq (Nat.zero_add _), Nat.le_of_eq (Nat.zero_add _)⟩ dL_append_4 rfl (fun v9 m1 h => by cases h.1) (fun E m1 h => ?_)
  obtain ⟨h1, h2⟩ := h
  cases h1
  refine ⟨[⟨0, 9, 12, 15⟩], [], ⟨0, 9, 15, 26⟩, "java/lang/IllegalStateException", rfl, fun z hz => ?_, rfl, by decide, klL_26, ca_IllegalStateException, fun q => ?_⟩
  · rcases List.mem_cons.mp hz with rfl | hz
    · exact Or.inr ⟨by decide, "java/lang/IllegalArgumentException", klL_15, Or.inr (Or.inr ⟨rfl, rfl⟩)⟩
    cases hz
  · refine h_astore_n 3 ((3, Value.ref q) :: [(0, .ref d), (1, .int x), (2, .ref o)]) dL_append_15 rfl (Nat.le_of_ble_eq_true rfl) rfl ?_
    refine h_iconst (nI 2) dL_append_16 (by decide) ?_
    exact h_iret rfl dL_append_17 ⟨Nat.le_of_eq (Nat.zero_add _), Nat.le_of_eq (Nat.zero_add _)⟩ ⟨rfl, h2⟩
def ML_add (cs : Nat × Nat) : MI := (yL_add, cL_add, 3, (some .int), { frames := 8, locals := 146, cells := cs.1, slots := cs.2 })
abbrev hhL_add : List (Nat × Nat × Nat × Nat) := [(0, 8, 11, 15), (0, 8, 14, 26)]
theorem ok_L_add (cs : Nat × Nat) : hm_M (ML_add cs) hhL_add 2 := ⟨show Cond.codeWith yL_add cL_add 3 (some .int) [(0, 8, 11, 15), (0, 8, 14, 26)] ∈ wA from wA_i 808 (by decide +kernel) rfl, show Cond.initialized RL ∈ wA from wA_i 54 (by decide +kernel) rfl, show (yL_add.cls ≠ "java/lang/invoke/MethodHandle" ∧ yL_add.cls ≠ "java/lang/invoke/VarHandle" ∧ (parseMethodDescriptor yL_add.desc).map (fun d => d.parameters.length) = some 2) from by decide +kernel⟩
theorem st_L_add : Cond.static yL_add ∈ wA := wA_i 807 (by decide +kernel) rfl
theorem hL_add_0 (g : Gp) (cs : Nat × Nat) {m : Mm} {d o : Nat} {v : Int32} {Qy : Rs → Mm → Prop} {P : Mm → Prop} (ht : tg m d = (9, 0)) (hC : Cn g (MX9_add cs) [.ref d] m Qy) (hQ : ∀ r m1, Qy r m1 → r = .inl (some (.int v)) ∧ P m1) (ho : ∀ m1, P m1 → tg m1 o = (18, 1)) : Hn g (ML_add cs) hhL_add [.ref d, .ref o] m (fun r m1 => r = .inl (some (.int (nI 0))) ∧ ∃ m0, P m0 ∧ m1 = sJ m0 o 0 v.toInt64) := by
  refine Hn.of pn_L (Nat.le_of_ble_eq_true rfl) rfl ?_
  refine h_aload_n 1 dL_add_0 rfl rfl ?_
  refine h_iconst (nI 0) dL_add_1 (by decide) ?_
  refine h_aload_n 0 dL_add_2 rfl rfl ?_
  refine h_callV _ _ hC (ok_X9_add _) mlL_45 in_X9_add se_X9_add (by rw [ht]; rfl) rfl rfl ⟨Nat.le_of_ble_eq_true rfl, Nat.le_of_ble_eq_true rfl⟩ (by exact Nat.le_of_ble_eq_true rfl) ⟨Nat.le_of_eq (Nat.zero_add _), Nat.le_of_eq (Nat.zero_add _)⟩ dL_add_3 rfl (fun v9 m1 h => ?_) (fun E m1 h => by cases (hQ _ _ h).1)
  obtain ⟨h1, h2⟩ := hQ _ _ h
  cases h1
  refine h_i2l dL_add_6 ?_
  refine h_last 0 (by rw [ho _ h2]) (by decide) (by rw [ho _ h2]; decide) dL_add_7 ?_
  refine h_goto 17 dL_add_8 (by decide) ?_
  refine h_iconst (nI 0) dL_add_17 (by decide) ?_
  exact h_iret rfl dL_add_18 ⟨Nat.le_of_eq (Nat.zero_add _), Nat.le_of_eq (Nat.zero_add _)⟩ ⟨rfl, _, h2, rfl⟩
theorem hL_add_x1 (g : Gp) {m : Mm} {d o : Nat} (ht : tg m d = (9, 0)) (hC : Xn g (MX9_add (1, 6)) [.ref d] m "java/lang/IllegalArgumentException") : Hn g (ML_add (1, 6)) hhL_add [.ref d, .ref o] m (fun r m1 => r = .inl (some (.int (nI 1))) ∧ ∃ n, fz m ≤ n ∧ m1 = gr m n) := by
  refine Hn.of pn_L (Nat.le_of_ble_eq_true rfl) rfl ?_
  refine h_aload_n 1 dL_add_0 rfl rfl ?_
  refine h_iconst (nI 0) dL_add_1 (by decide) ?_
  refine h_aload_n 0 dL_add_2 rfl rfl ?_
  refine h_callV _ _ hC (ok_X9_add _) mlL_45 in_X9_add se_X9_add (by rw [ht]; rfl) rfl rfl ⟨Nat.le_of_ble_eq_true rfl, Nat.le_of_ble_eq_true rfl⟩ (by exact Nat.le_of_ble_eq_true rfl) ⟨Nat.le_of_eq (Nat.zero_add _), Nat.le_of_eq (Nat.zero_add _)⟩ dL_add_3 rfl (fun v9 m1 h => by cases h.1) (fun E m1 h => ?_)
  obtain ⟨h1, h2⟩ := h
  cases h1
  refine ⟨[], [⟨0, 8, 14, 26⟩], ⟨0, 8, 11, 15⟩, "java/lang/IllegalArgumentException", rfl, fun z hz => ?_, rfl, by decide, klL_15, ca_IllegalArgumentException, fun q => ?_⟩
  · cases hz
  · refine h_astore_n 2 ((2, Value.ref q) :: [(0, .ref d), (1, .ref o)]) dL_add_11 rfl (Nat.le_of_ble_eq_true rfl) rfl ?_
    refine h_iconst (nI 1) dL_add_12 (by decide) ?_
    exact h_iret rfl dL_add_13 ⟨Nat.le_of_eq (Nat.zero_add _), Nat.le_of_eq (Nat.zero_add _)⟩ ⟨rfl, h2⟩
theorem hL_add_x2 (g : Gp) {m : Mm} {d o : Nat} (ht : tg m d = (9, 0)) (hC : Xn g (MX9_add (1, 6)) [.ref d] m "java/lang/IllegalStateException") : Hn g (ML_add (1, 6)) hhL_add [.ref d, .ref o] m (fun r m1 => r = .inl (some (.int (nI 2))) ∧ ∃ n, fz m ≤ n ∧ m1 = gr m n) := by
  refine Hn.of pn_L (Nat.le_of_ble_eq_true rfl) rfl ?_
  refine h_aload_n 1 dL_add_0 rfl rfl ?_
  refine h_iconst (nI 0) dL_add_1 (by decide) ?_
  refine h_aload_n 0 dL_add_2 rfl rfl ?_
  refine h_callV _ _ hC (ok_X9_add _) mlL_45 in_X9_add se_X9_add (by rw [ht]; rfl) rfl rfl ⟨Nat.le_of_ble_eq_true rfl, Nat.le_of_ble_eq_true rfl⟩ (by exact Nat.le_of_ble_eq_true rfl) ⟨Nat.le_of_eq (Nat.zero_add _), Nat.le_of_eq (Nat.zero_add _)⟩ dL_add_3 rfl (fun v9 m1 h => by cases h.1) (fun E m1 h => ?_)
  obtain ⟨h1, h2⟩ := h
  cases h1
  refine ⟨[⟨0, 8, 11, 15⟩], [], ⟨0, 8, 14, 26⟩, "java/lang/IllegalStateException", rfl, fun z hz => ?_, rfl, by decide, klL_26, ca_IllegalStateException, fun q => ?_⟩
  · rcases List.mem_cons.mp hz with rfl | hz
    · exact Or.inr ⟨by decide, "java/lang/IllegalArgumentException", klL_15, Or.inr (Or.inr ⟨rfl, rfl⟩)⟩
    cases hz
  · refine h_astore_n 2 ((2, Value.ref q) :: [(0, .ref d), (1, .ref o)]) dL_add_14 rfl (Nat.le_of_ble_eq_true rfl) rfl ?_
    refine h_iconst (nI 2) dL_add_15 (by decide) ?_
    exact h_iret rfl dL_add_16 ⟨Nat.le_of_eq (Nat.zero_add _), Nat.le_of_eq (Nat.zero_add _)⟩ ⟨rfl, h2⟩
def ML_change (cs : Nat × Nat) : MI := (yL_change, cL_change, 4, (some .int), { frames := 8, locals := 158, cells := cs.1, slots := cs.2 })
abbrev hhL_change : List (Nat × Nat × Nat × Nat) := [(0, 9, 12, 13), (0, 9, 15, 15)]
theorem ok_L_change (cs : Nat × Nat) : hm_M (ML_change cs) hhL_change 3 := ⟨show Cond.codeWith yL_change cL_change 4 (some .int) [(0, 9, 12, 13), (0, 9, 15, 15)] ∈ wA from wA_i 839 (by decide +kernel) rfl, show Cond.initialized RL ∈ wA from wA_i 54 (by decide +kernel) rfl, show (yL_change.cls ≠ "java/lang/invoke/MethodHandle" ∧ yL_change.cls ≠ "java/lang/invoke/VarHandle" ∧ (parseMethodDescriptor yL_change.desc).map (fun d => d.parameters.length) = some 3) from by decide +kernel⟩
theorem st_L_change : Cond.static yL_change ∈ wA := wA_i 838 (by decide +kernel) rfl
theorem hL_change_0 (g : Gp) (cs : Nat × Nat) {m : Mm} {d o : Nat} {x : Int32} {v : Int32} {Qy : Rs → Mm → Prop} {P : Mm → Prop} (ht : tg m d = (9, 0)) (hC : Cn g (MX9_change cs) [.ref d, .int x] m Qy) (hQ : ∀ r m1, Qy r m1 → r = .inl (some (.int v)) ∧ P m1) (ho : ∀ m1, P m1 → tg m1 o = (18, 1)) : Hn g (ML_change cs) hhL_change [.ref d, .int x, .ref o] m (fun r m1 => r = .inl (some (.int (nI 0))) ∧ ∃ m0, P m0 ∧ m1 = sJ m0 o 0 v.toInt64) := by
  refine Hn.of pn_L (Nat.le_of_ble_eq_true rfl) rfl ?_
  refine h_aload_n 2 dL_change_0 rfl rfl ?_
  refine h_iconst (nI 0) dL_change_1 (by decide) ?_
  refine h_aload_n 0 dL_change_2 rfl rfl ?_
  refine h_iload_n 1 dL_change_3 rfl rfl ?_
  refine h_callV _ _ hC (ok_X9_change _) mlL_49 in_X9_change se_X9_change (by rw [ht]; rfl) rfl rfl ⟨Nat.le_of_ble_eq_true rfl, Nat.le_of_ble_eq_true rfl⟩ (by exact Nat.le_of_ble_eq_true rfl) ⟨Nat.le_of_eq (Nat.zero_add _), Nat.le_of_eq (Nat.zero_add _)⟩ dL_change_4 rfl (fun v9 m1 h => ?_) (fun E m1 h => by cases (hQ _ _ h).1)
  obtain ⟨h1, h2⟩ := hQ _ _ h
  cases h1
  refine h_i2l dL_change_7 ?_
  refine h_last 0 (by rw [ho _ h2]) (by decide) (by rw [ho _ h2]; decide) dL_change_8 ?_
  refine h_goto 18 dL_change_9 (by decide) ?_
  refine h_iconst (nI 0) dL_change_18 (by decide) ?_
  exact h_iret rfl dL_change_19 ⟨Nat.le_of_eq (Nat.zero_add _), Nat.le_of_eq (Nat.zero_add _)⟩ ⟨rfl, _, h2, rfl⟩
theorem hL_change_x1 (g : Gp) {m : Mm} {d o : Nat} {x : Int32} (ht : tg m d = (9, 0)) (hC : Xn g (MX9_change (1, 6)) [.ref d, .int x] m "java/lang/IndexOutOfBoundsException") : Hn g (ML_change (1, 6)) hhL_change [.ref d, .int x, .ref o] m (fun r m1 => r = .inl (some (.int (nI 1))) ∧ ∃ n, fz m ≤ n ∧ m1 = gr m n) := by
  refine Hn.of pn_L (Nat.le_of_ble_eq_true rfl) rfl ?_
  refine h_aload_n 2 dL_change_0 rfl rfl ?_
  refine h_iconst (nI 0) dL_change_1 (by decide) ?_
  refine h_aload_n 0 dL_change_2 rfl rfl ?_
  refine h_iload_n 1 dL_change_3 rfl rfl ?_
  refine h_callV _ _ hC (ok_X9_change _) mlL_49 in_X9_change se_X9_change (by rw [ht]; rfl) rfl rfl ⟨Nat.le_of_ble_eq_true rfl, Nat.le_of_ble_eq_true rfl⟩ (by exact Nat.le_of_ble_eq_true rfl) ⟨Nat.le_of_eq (Nat.zero_add _), Nat.le_of_eq (Nat.zero_add _)⟩ dL_change_4 rfl (fun v9 m1 h => by cases h.1) (fun E m1 h => ?_)
  obtain ⟨h1, h2⟩ := h
  cases h1
  refine ⟨[], [⟨0, 9, 15, 15⟩], ⟨0, 9, 12, 13⟩, "java/lang/IndexOutOfBoundsException", rfl, fun z hz => ?_, rfl, by decide, klL_13, ca_IndexOutOfBoundsException, fun q => ?_⟩
  · cases hz
  · refine h_astore_n 3 ((3, Value.ref q) :: [(0, .ref d), (1, .int x), (2, .ref o)]) dL_change_12 rfl (Nat.le_of_ble_eq_true rfl) rfl ?_
    refine h_iconst (nI 1) dL_change_13 (by decide) ?_
    exact h_iret rfl dL_change_14 ⟨Nat.le_of_eq (Nat.zero_add _), Nat.le_of_eq (Nat.zero_add _)⟩ ⟨rfl, h2⟩
theorem hL_change_x2 (g : Gp) {m : Mm} {d o : Nat} {x : Int32} (ht : tg m d = (9, 0)) (hC : Xn g (MX9_change (1, 6)) [.ref d, .int x] m "java/lang/IllegalArgumentException") : Hn g (ML_change (1, 6)) hhL_change [.ref d, .int x, .ref o] m (fun r m1 => r = .inl (some (.int (nI 2))) ∧ ∃ n, fz m ≤ n ∧ m1 = gr m n) := by
  refine Hn.of pn_L (Nat.le_of_ble_eq_true rfl) rfl ?_
  refine h_aload_n 2 dL_change_0 rfl rfl ?_
  refine h_iconst (nI 0) dL_change_1 (by decide) ?_
  refine h_aload_n 0 dL_change_2 rfl rfl ?_
  refine h_iload_n 1 dL_change_3 rfl rfl ?_
  refine h_callV _ _ hC (ok_X9_change _) mlL_49 in_X9_change se_X9_change (by rw [ht]; rfl) rfl rfl ⟨Nat.le_of_ble_eq_true rfl, Nat.le_of_ble_eq_true rfl⟩ (by exact Nat.le_of_ble_eq_true rfl) ⟨Nat.le_of_eq (Nat.zero_add _), Nat.le_of_eq (Nat.zero_add _)⟩ dL_change_4 rfl (fun v9 m1 h => by cases h.1) (fun E m1 h => ?_)
  obtain ⟨h1, h2⟩ := h
  cases h1
  refine ⟨[⟨0, 9, 12, 13⟩], [], ⟨0, 9, 15, 15⟩, "java/lang/IllegalArgumentException", rfl, fun z hz => ?_, rfl, by decide, klL_15, ca_IllegalArgumentException, fun q => ?_⟩
  · rcases List.mem_cons.mp hz with rfl | hz
    · exact Or.inr ⟨by decide, "java/lang/IndexOutOfBoundsException", klL_13, Or.inl ⟨rfl, rfl⟩⟩
    cases hz
  · refine h_astore_n 3 ((3, Value.ref q) :: [(0, .ref d), (1, .int x), (2, .ref o)]) dL_change_15 rfl (Nat.le_of_ble_eq_true rfl) rfl ?_
    refine h_iconst (nI 2) dL_change_16 (by decide) ?_
    exact h_iret rfl dL_change_17 ⟨Nat.le_of_eq (Nat.zero_add _), Nat.le_of_eq (Nat.zero_add _)⟩ ⟨rfl, h2⟩
def ML_undo (cs : Nat × Nat) : MI := (yL_undo, cL_undo, 3, (some .int), { frames := 8, locals := 144, cells := cs.1, slots := cs.2 })
abbrev hhL_undo : List (Nat × Nat × Nat × Nat) := [(0, 8, 11, 26)]
theorem ok_L_undo (cs : Nat × Nat) : hm_M (ML_undo cs) hhL_undo 2 := ⟨show Cond.codeWith yL_undo cL_undo 3 (some .int) [(0, 8, 11, 26)] ∈ wA from wA_i 855 (by decide +kernel) rfl, show Cond.initialized RL ∈ wA from wA_i 54 (by decide +kernel) rfl, show (yL_undo.cls ≠ "java/lang/invoke/MethodHandle" ∧ yL_undo.cls ≠ "java/lang/invoke/VarHandle" ∧ (parseMethodDescriptor yL_undo.desc).map (fun d => d.parameters.length) = some 2) from by decide +kernel⟩
theorem st_L_undo : Cond.static yL_undo ∈ wA := wA_i 854 (by decide +kernel) rfl
theorem hL_undo_0 (g : Gp) (cs : Nat × Nat) {m : Mm} {d o : Nat} {v : Int32} {Qy : Rs → Mm → Prop} {P : Mm → Prop} (ht : tg m d = (9, 0)) (hC : Cn g (MX9_undo cs) [.ref d] m Qy) (hQ : ∀ r m1, Qy r m1 → r = .inl (some (.int v)) ∧ P m1) (ho : ∀ m1, P m1 → tg m1 o = (18, 1)) : Hn g (ML_undo cs) hhL_undo [.ref d, .ref o] m (fun r m1 => r = .inl (some (.int (nI 0))) ∧ ∃ m0, P m0 ∧ m1 = sJ m0 o 0 v.toInt64) := by
  refine Hn.of pn_L (Nat.le_of_ble_eq_true rfl) rfl ?_
  refine h_aload_n 1 dL_undo_0 rfl rfl ?_
  refine h_iconst (nI 0) dL_undo_1 (by decide) ?_
  refine h_aload_n 0 dL_undo_2 rfl rfl ?_
  refine h_callV _ _ hC (ok_X9_undo _) mlL_52 in_X9_undo se_X9_undo (by rw [ht]; rfl) rfl rfl ⟨Nat.le_of_ble_eq_true rfl, Nat.le_of_ble_eq_true rfl⟩ (by exact Nat.le_of_ble_eq_true rfl) ⟨Nat.le_of_eq (Nat.zero_add _), Nat.le_of_eq (Nat.zero_add _)⟩ dL_undo_3 rfl (fun v9 m1 h => ?_) (fun E m1 h => by cases (hQ _ _ h).1)
  obtain ⟨h1, h2⟩ := hQ _ _ h
  cases h1
  refine h_i2l dL_undo_6 ?_
  refine h_last 0 (by rw [ho _ h2]) (by decide) (by rw [ho _ h2]; decide) dL_undo_7 ?_
  refine h_goto 14 dL_undo_8 (by decide) ?_
  refine h_iconst (nI 0) dL_undo_14 (by decide) ?_
  exact h_iret rfl dL_undo_15 ⟨Nat.le_of_eq (Nat.zero_add _), Nat.le_of_eq (Nat.zero_add _)⟩ ⟨rfl, _, h2, rfl⟩
theorem hL_undo_x1 (g : Gp) {m : Mm} {d o : Nat} (ht : tg m d = (9, 0)) (hC : Xn g (MX9_undo (1, 6)) [.ref d] m "java/lang/IllegalStateException") : Hn g (ML_undo (1, 6)) hhL_undo [.ref d, .ref o] m (fun r m1 => r = .inl (some (.int (nI 1))) ∧ ∃ n, fz m ≤ n ∧ m1 = gr m n) := by
  refine Hn.of pn_L (Nat.le_of_ble_eq_true rfl) rfl ?_
  refine h_aload_n 1 dL_undo_0 rfl rfl ?_
  refine h_iconst (nI 0) dL_undo_1 (by decide) ?_
  refine h_aload_n 0 dL_undo_2 rfl rfl ?_
  refine h_callV _ _ hC (ok_X9_undo _) mlL_52 in_X9_undo se_X9_undo (by rw [ht]; rfl) rfl rfl ⟨Nat.le_of_ble_eq_true rfl, Nat.le_of_ble_eq_true rfl⟩ (by exact Nat.le_of_ble_eq_true rfl) ⟨Nat.le_of_eq (Nat.zero_add _), Nat.le_of_eq (Nat.zero_add _)⟩ dL_undo_3 rfl (fun v9 m1 h => by cases h.1) (fun E m1 h => ?_)
  obtain ⟨h1, h2⟩ := h
  cases h1
  refine ⟨[], [], ⟨0, 8, 11, 26⟩, "java/lang/IllegalStateException", rfl, fun z hz => ?_, rfl, by decide, klL_26, ca_IllegalStateException, fun q => ?_⟩
  · cases hz
  · refine h_astore_n 2 ((2, Value.ref q) :: [(0, .ref d), (1, .ref o)]) dL_undo_11 rfl (Nat.le_of_ble_eq_true rfl) rfl ?_
    refine h_iconst (nI 1) dL_undo_12 (by decide) ?_
    exact h_iret rfl dL_undo_13 ⟨Nat.le_of_eq (Nat.zero_add _), Nat.le_of_eq (Nat.zero_add _)⟩ ⟨rfl, h2⟩
def ML_segment (cs : Nat × Nat) : MI := (yL_segment, cL_segment, 5, (some .int), { frames := 8, locals := 140, cells := cs.1, slots := cs.2 })
abbrev hhL_segment : List (Nat × Nat × Nat × Nat) := [(0, 10, 13, 13), (0, 10, 17, 15)]
theorem ok_L_segment (cs : Nat × Nat) : hm_M (ML_segment cs) hhL_segment 4 := ⟨show Cond.codeWith yL_segment cL_segment 5 (some .int) [(0, 10, 13, 13), (0, 10, 17, 15)] ∈ wA from wA_i 866 (by decide +kernel) rfl, show Cond.initialized RL ∈ wA from wA_i 54 (by decide +kernel) rfl, show (yL_segment.cls ≠ "java/lang/invoke/MethodHandle" ∧ yL_segment.cls ≠ "java/lang/invoke/VarHandle" ∧ (parseMethodDescriptor yL_segment.desc).map (fun d => d.parameters.length) = some 4) from by decide +kernel⟩
theorem st_L_segment : Cond.static yL_segment ∈ wA := wA_i 865 (by decide +kernel) rfl
theorem hL_segment_0 (g : Gp) (cs : Nat × Nat) {m : Mm} {d o : Nat} {x y : Int32} {v : Int32} {Qy : Rs → Mm → Prop} {P : Mm → Prop} (ht : tg m d = (9, 0)) (hC : Cn g (MX9_segment cs) [.ref d, .int x, .int y] m Qy) (hQ : ∀ r m1, Qy r m1 → r = .inl (some (.int v)) ∧ P m1) (ho : ∀ m1, P m1 → tg m1 o = (18, 1)) : Hn g (ML_segment cs) hhL_segment [.ref d, .int x, .int y, .ref o] m (fun r m1 => r = .inl (some (.int (nI 0))) ∧ ∃ m0, P m0 ∧ m1 = sJ m0 o 0 v.toInt64) := by
  refine Hn.of pn_L (Nat.le_of_ble_eq_true rfl) rfl ?_
  refine h_aload_n 3 dL_segment_0 rfl rfl ?_
  refine h_iconst (nI 0) dL_segment_1 (by decide) ?_
  refine h_aload_n 0 dL_segment_2 rfl rfl ?_
  refine h_iload_n 1 dL_segment_3 rfl rfl ?_
  refine h_iload_n 2 dL_segment_4 rfl rfl ?_
  refine h_callV _ _ hC (ok_X9_segment _) mlL_55 in_X9_segment se_X9_segment (by rw [ht]; rfl) rfl rfl ⟨Nat.le_of_ble_eq_true rfl, Nat.le_of_ble_eq_true rfl⟩ (by exact Nat.le_of_ble_eq_true rfl) ⟨Nat.le_of_eq (Nat.zero_add _), Nat.le_of_eq (Nat.zero_add _)⟩ dL_segment_5 rfl (fun v9 m1 h => ?_) (fun E m1 h => by cases (hQ _ _ h).1)
  obtain ⟨h1, h2⟩ := hQ _ _ h
  cases h1
  refine h_i2l dL_segment_8 ?_
  refine h_last 0 (by rw [ho _ h2]) (by decide) (by rw [ho _ h2]; decide) dL_segment_9 ?_
  refine h_goto 21 dL_segment_10 (by decide) ?_
  refine h_iconst (nI 0) dL_segment_21 (by decide) ?_
  exact h_iret rfl dL_segment_22 ⟨Nat.le_of_eq (Nat.zero_add _), Nat.le_of_eq (Nat.zero_add _)⟩ ⟨rfl, _, h2, rfl⟩
theorem hL_segment_x1 (g : Gp) {m : Mm} {d o : Nat} {x y : Int32} (ht : tg m d = (9, 0)) (hC : Xn g (MX9_segment (1, 6)) [.ref d, .int x, .int y] m "java/lang/IndexOutOfBoundsException") : Hn g (ML_segment (1, 6)) hhL_segment [.ref d, .int x, .int y, .ref o] m (fun r m1 => r = .inl (some (.int (nI 1))) ∧ ∃ n, fz m ≤ n ∧ m1 = gr m n) := by
  refine Hn.of pn_L (Nat.le_of_ble_eq_true rfl) rfl ?_
  refine h_aload_n 3 dL_segment_0 rfl rfl ?_
  refine h_iconst (nI 0) dL_segment_1 (by decide) ?_
  refine h_aload_n 0 dL_segment_2 rfl rfl ?_
  refine h_iload_n 1 dL_segment_3 rfl rfl ?_
  refine h_iload_n 2 dL_segment_4 rfl rfl ?_
  refine h_callV _ _ hC (ok_X9_segment _) mlL_55 in_X9_segment se_X9_segment (by rw [ht]; rfl) rfl rfl ⟨Nat.le_of_ble_eq_true rfl, Nat.le_of_ble_eq_true rfl⟩ (by exact Nat.le_of_ble_eq_true rfl) ⟨Nat.le_of_eq (Nat.zero_add _), Nat.le_of_eq (Nat.zero_add _)⟩ dL_segment_5 rfl (fun v9 m1 h => by cases h.1) (fun E m1 h => ?_)
  obtain ⟨h1, h2⟩ := h
  cases h1
  refine ⟨[], [⟨0, 10, 17, 15⟩], ⟨0, 10, 13, 13⟩, "java/lang/IndexOutOfBoundsException", rfl, fun z hz => ?_, rfl, by decide, klL_13, ca_IndexOutOfBoundsException, fun q => ?_⟩
  · cases hz
  · refine h_astore 4 ((4, Value.ref q) :: [(0, .ref d), (1, .int x), (2, .int y), (3, .ref o)]) dL_segment_13 (Nat.le_of_ble_eq_true rfl) rfl ?_
    refine h_iconst (nI 1) dL_segment_15 (by decide) ?_
    exact h_iret rfl dL_segment_16 ⟨Nat.le_of_eq (Nat.zero_add _), Nat.le_of_eq (Nat.zero_add _)⟩ ⟨rfl, h2⟩
theorem hL_segment_x2 (g : Gp) {m : Mm} {d o : Nat} {x y : Int32} (ht : tg m d = (9, 0)) (hC : Xn g (MX9_segment (1, 6)) [.ref d, .int x, .int y] m "java/lang/IllegalArgumentException") : Hn g (ML_segment (1, 6)) hhL_segment [.ref d, .int x, .int y, .ref o] m (fun r m1 => r = .inl (some (.int (nI 2))) ∧ ∃ n, fz m ≤ n ∧ m1 = gr m n) := by
  refine Hn.of pn_L (Nat.le_of_ble_eq_true rfl) rfl ?_
  refine h_aload_n 3 dL_segment_0 rfl rfl ?_
  refine h_iconst (nI 0) dL_segment_1 (by decide) ?_
  refine h_aload_n 0 dL_segment_2 rfl rfl ?_
  refine h_iload_n 1 dL_segment_3 rfl rfl ?_
  refine h_iload_n 2 dL_segment_4 rfl rfl ?_
  refine h_callV _ _ hC (ok_X9_segment _) mlL_55 in_X9_segment se_X9_segment (by rw [ht]; rfl) rfl rfl ⟨Nat.le_of_ble_eq_true rfl, Nat.le_of_ble_eq_true rfl⟩ (by exact Nat.le_of_ble_eq_true rfl) ⟨Nat.le_of_eq (Nat.zero_add _), Nat.le_of_eq (Nat.zero_add _)⟩ dL_segment_5 rfl (fun v9 m1 h => by cases h.1) (fun E m1 h => ?_)
  obtain ⟨h1, h2⟩ := h
  cases h1
  refine ⟨[⟨0, 10, 13, 13⟩], [], ⟨0, 10, 17, 15⟩, "java/lang/IllegalArgumentException", rfl, fun z hz => ?_, rfl, by decide, klL_15, ca_IllegalArgumentException, fun q => ?_⟩
  · rcases List.mem_cons.mp hz with rfl | hz
    · exact Or.inr ⟨by decide, "java/lang/IndexOutOfBoundsException", klL_13, Or.inl ⟨rfl, rfl⟩⟩
    cases hz
  · refine h_astore 4 ((4, Value.ref q) :: [(0, .ref d), (1, .int x), (2, .int y), (3, .ref o)]) dL_segment_17 (Nat.le_of_ble_eq_true rfl) rfl ?_
    refine h_iconst (nI 2) dL_segment_19 (by decide) ?_
    exact h_iret rfl dL_segment_20 ⟨Nat.le_of_eq (Nat.zero_add _), Nat.le_of_eq (Nat.zero_add _)⟩ ⟨rfl, h2⟩
def ML_word (cs : Nat × Nat) : MI := (yL_word, cL_word, 5, (some .int), { frames := 8, locals := 134, cells := cs.1, slots := cs.2 })
abbrev hhL_word : List (Nat × Nat × Nat × Nat) := [(0, 10, 13, 13), (0, 10, 17, 15)]
theorem ok_L_word (cs : Nat × Nat) : hm_M (ML_word cs) hhL_word 4 := ⟨show Cond.codeWith yL_word cL_word 5 (some .int) [(0, 10, 13, 13), (0, 10, 17, 15)] ∈ wA from wA_i 870 (by decide +kernel) rfl, show Cond.initialized RL ∈ wA from wA_i 54 (by decide +kernel) rfl, show (yL_word.cls ≠ "java/lang/invoke/MethodHandle" ∧ yL_word.cls ≠ "java/lang/invoke/VarHandle" ∧ (parseMethodDescriptor yL_word.desc).map (fun d => d.parameters.length) = some 4) from by decide +kernel⟩
theorem st_L_word : Cond.static yL_word ∈ wA := wA_i 869 (by decide +kernel) rfl
theorem hL_word_0 (g : Gp) (cs : Nat × Nat) {m : Mm} {d o : Nat} {x y : Int32} {v : Int32} {Qy : Rs → Mm → Prop} {P : Mm → Prop} (ht : tg m d = (9, 0)) (hC : Cn g (MX9_word cs) [.ref d, .int x, .int y] m Qy) (hQ : ∀ r m1, Qy r m1 → r = .inl (some (.int v)) ∧ P m1) (ho : ∀ m1, P m1 → tg m1 o = (18, 1)) : Hn g (ML_word cs) hhL_word [.ref d, .int x, .int y, .ref o] m (fun r m1 => r = .inl (some (.int (nI 0))) ∧ ∃ m0, P m0 ∧ m1 = sJ m0 o 0 v.toInt64) := by
  refine Hn.of pn_L (Nat.le_of_ble_eq_true rfl) rfl ?_
  refine h_aload_n 3 dL_word_0 rfl rfl ?_
  refine h_iconst (nI 0) dL_word_1 (by decide) ?_
  refine h_aload_n 0 dL_word_2 rfl rfl ?_
  refine h_iload_n 1 dL_word_3 rfl rfl ?_
  refine h_iload_n 2 dL_word_4 rfl rfl ?_
  refine h_callV _ _ hC (ok_X9_word _) mlL_58 in_X9_word se_X9_word (by rw [ht]; rfl) rfl rfl ⟨Nat.le_of_ble_eq_true rfl, Nat.le_of_ble_eq_true rfl⟩ (by exact Nat.le_of_ble_eq_true rfl) ⟨Nat.le_of_eq (Nat.zero_add _), Nat.le_of_eq (Nat.zero_add _)⟩ dL_word_5 rfl (fun v9 m1 h => ?_) (fun E m1 h => by cases (hQ _ _ h).1)
  obtain ⟨h1, h2⟩ := hQ _ _ h
  cases h1
  refine h_i2l dL_word_8 ?_
  refine h_last 0 (by rw [ho _ h2]) (by decide) (by rw [ho _ h2]; decide) dL_word_9 ?_
  refine h_goto 21 dL_word_10 (by decide) ?_
  refine h_iconst (nI 0) dL_word_21 (by decide) ?_
  exact h_iret rfl dL_word_22 ⟨Nat.le_of_eq (Nat.zero_add _), Nat.le_of_eq (Nat.zero_add _)⟩ ⟨rfl, _, h2, rfl⟩
theorem hL_word_x1 (g : Gp) {m : Mm} {d o : Nat} {x y : Int32} (ht : tg m d = (9, 0)) (hC : Xn g (MX9_word (1, 6)) [.ref d, .int x, .int y] m "java/lang/IndexOutOfBoundsException") : Hn g (ML_word (1, 6)) hhL_word [.ref d, .int x, .int y, .ref o] m (fun r m1 => r = .inl (some (.int (nI 1))) ∧ ∃ n, fz m ≤ n ∧ m1 = gr m n) := by
  refine Hn.of pn_L (Nat.le_of_ble_eq_true rfl) rfl ?_
  refine h_aload_n 3 dL_word_0 rfl rfl ?_
  refine h_iconst (nI 0) dL_word_1 (by decide) ?_
  refine h_aload_n 0 dL_word_2 rfl rfl ?_
  refine h_iload_n 1 dL_word_3 rfl rfl ?_
  refine h_iload_n 2 dL_word_4 rfl rfl ?_
  refine h_callV _ _ hC (ok_X9_word _) mlL_58 in_X9_word se_X9_word (by rw [ht]; rfl) rfl rfl ⟨Nat.le_of_ble_eq_true rfl, Nat.le_of_ble_eq_true rfl⟩ (by exact Nat.le_of_ble_eq_true rfl) ⟨Nat.le_of_eq (Nat.zero_add _), Nat.le_of_eq (Nat.zero_add _)⟩ dL_word_5 rfl (fun v9 m1 h => by cases h.1) (fun E m1 h => ?_)
  obtain ⟨h1, h2⟩ := h
  cases h1
  refine ⟨[], [⟨0, 10, 17, 15⟩], ⟨0, 10, 13, 13⟩, "java/lang/IndexOutOfBoundsException", rfl, fun z hz => ?_, rfl, by decide, klL_13, ca_IndexOutOfBoundsException, fun q => ?_⟩
  · cases hz
  · refine h_astore 4 ((4, Value.ref q) :: [(0, .ref d), (1, .int x), (2, .int y), (3, .ref o)]) dL_word_13 (Nat.le_of_ble_eq_true rfl) rfl ?_
    refine h_iconst (nI 1) dL_word_15 (by decide) ?_
    exact h_iret rfl dL_word_16 ⟨Nat.le_of_eq (Nat.zero_add _), Nat.le_of_eq (Nat.zero_add _)⟩ ⟨rfl, h2⟩
theorem hL_word_x2 (g : Gp) {m : Mm} {d o : Nat} {x y : Int32} (ht : tg m d = (9, 0)) (hC : Xn g (MX9_word (1, 6)) [.ref d, .int x, .int y] m "java/lang/IllegalArgumentException") : Hn g (ML_word (1, 6)) hhL_word [.ref d, .int x, .int y, .ref o] m (fun r m1 => r = .inl (some (.int (nI 2))) ∧ ∃ n, fz m ≤ n ∧ m1 = gr m n) := by
  refine Hn.of pn_L (Nat.le_of_ble_eq_true rfl) rfl ?_
  refine h_aload_n 3 dL_word_0 rfl rfl ?_
  refine h_iconst (nI 0) dL_word_1 (by decide) ?_
  refine h_aload_n 0 dL_word_2 rfl rfl ?_
  refine h_iload_n 1 dL_word_3 rfl rfl ?_
  refine h_iload_n 2 dL_word_4 rfl rfl ?_
  refine h_callV _ _ hC (ok_X9_word _) mlL_58 in_X9_word se_X9_word (by rw [ht]; rfl) rfl rfl ⟨Nat.le_of_ble_eq_true rfl, Nat.le_of_ble_eq_true rfl⟩ (by exact Nat.le_of_ble_eq_true rfl) ⟨Nat.le_of_eq (Nat.zero_add _), Nat.le_of_eq (Nat.zero_add _)⟩ dL_word_5 rfl (fun v9 m1 h => by cases h.1) (fun E m1 h => ?_)
  obtain ⟨h1, h2⟩ := h
  cases h1
  refine ⟨[⟨0, 10, 13, 13⟩], [], ⟨0, 10, 17, 15⟩, "java/lang/IllegalArgumentException", rfl, fun z hz => ?_, rfl, by decide, klL_15, ca_IllegalArgumentException, fun q => ?_⟩
  · rcases List.mem_cons.mp hz with rfl | hz
    · exact Or.inr ⟨by decide, "java/lang/IndexOutOfBoundsException", klL_13, Or.inl ⟨rfl, rfl⟩⟩
    cases hz
  · refine h_astore 4 ((4, Value.ref q) :: [(0, .ref d), (1, .int x), (2, .int y), (3, .ref o)]) dL_word_17 (Nat.le_of_ble_eq_true rfl) rfl ?_
    refine h_iconst (nI 2) dL_word_19 (by decide) ?_
    exact h_iret rfl dL_word_20 ⟨Nat.le_of_eq (Nat.zero_add _), Nat.le_of_eq (Nat.zero_add _)⟩ ⟨rfl, h2⟩
def ML_remembered (cs : Nat × Nat) : MI := (yL_remembered, cL_remembered, 5, (some .int), { frames := 8, locals := 134, cells := cs.1, slots := cs.2 })
abbrev hhL_remembered : List (Nat × Nat × Nat × Nat) := [(0, 10, 13, 13), (0, 10, 17, 15)]
theorem ok_L_remembered (cs : Nat × Nat) : hm_M (ML_remembered cs) hhL_remembered 4 := ⟨show Cond.codeWith yL_remembered cL_remembered 5 (some .int) [(0, 10, 13, 13), (0, 10, 17, 15)] ∈ wA from wA_i 881 (by decide +kernel) rfl, show Cond.initialized RL ∈ wA from wA_i 54 (by decide +kernel) rfl, show (yL_remembered.cls ≠ "java/lang/invoke/MethodHandle" ∧ yL_remembered.cls ≠ "java/lang/invoke/VarHandle" ∧ (parseMethodDescriptor yL_remembered.desc).map (fun d => d.parameters.length) = some 4) from by decide +kernel⟩
theorem st_L_remembered : Cond.static yL_remembered ∈ wA := wA_i 880 (by decide +kernel) rfl
theorem hL_remembered_0 (g : Gp) (cs : Nat × Nat) {m : Mm} {d o : Nat} {x y : Int32} {v : Int32} {Qy : Rs → Mm → Prop} {P : Mm → Prop} (ht : tg m d = (9, 0)) (hC : Cn g (MX9_remembered cs) [.ref d, .int x, .int y] m Qy) (hQ : ∀ r m1, Qy r m1 → r = .inl (some (.int v)) ∧ P m1) (ho : ∀ m1, P m1 → tg m1 o = (18, 1)) : Hn g (ML_remembered cs) hhL_remembered [.ref d, .int x, .int y, .ref o] m (fun r m1 => r = .inl (some (.int (nI 0))) ∧ ∃ m0, P m0 ∧ m1 = sJ m0 o 0 v.toInt64) := by
  refine Hn.of pn_L (Nat.le_of_ble_eq_true rfl) rfl ?_
  refine h_aload_n 3 dL_remembered_0 rfl rfl ?_
  refine h_iconst (nI 0) dL_remembered_1 (by decide) ?_
  refine h_aload_n 0 dL_remembered_2 rfl rfl ?_
  refine h_iload_n 1 dL_remembered_3 rfl rfl ?_
  refine h_iload_n 2 dL_remembered_4 rfl rfl ?_
  refine h_callV _ _ hC (ok_X9_remembered _) mlL_61 in_X9_remembered se_X9_remembered (by rw [ht]; rfl) rfl rfl ⟨Nat.le_of_ble_eq_true rfl, Nat.le_of_ble_eq_true rfl⟩ (by exact Nat.le_of_ble_eq_true rfl) ⟨Nat.le_of_eq (Nat.zero_add _), Nat.le_of_eq (Nat.zero_add _)⟩ dL_remembered_5 rfl (fun v9 m1 h => ?_) (fun E m1 h => by cases (hQ _ _ h).1)
  obtain ⟨h1, h2⟩ := hQ _ _ h
  cases h1
  refine h_i2l dL_remembered_8 ?_
  refine h_last 0 (by rw [ho _ h2]) (by decide) (by rw [ho _ h2]; decide) dL_remembered_9 ?_
  refine h_goto 21 dL_remembered_10 (by decide) ?_
  refine h_iconst (nI 0) dL_remembered_21 (by decide) ?_
  exact h_iret rfl dL_remembered_22 ⟨Nat.le_of_eq (Nat.zero_add _), Nat.le_of_eq (Nat.zero_add _)⟩ ⟨rfl, _, h2, rfl⟩
theorem hL_remembered_x1 (g : Gp) {m : Mm} {d o : Nat} {x y : Int32} (ht : tg m d = (9, 0)) (hC : Xn g (MX9_remembered (1, 6)) [.ref d, .int x, .int y] m "java/lang/IndexOutOfBoundsException") : Hn g (ML_remembered (1, 6)) hhL_remembered [.ref d, .int x, .int y, .ref o] m (fun r m1 => r = .inl (some (.int (nI 1))) ∧ ∃ n, fz m ≤ n ∧ m1 = gr m n) := by
  refine Hn.of pn_L (Nat.le_of_ble_eq_true rfl) rfl ?_
  refine h_aload_n 3 dL_remembered_0 rfl rfl ?_
  refine h_iconst (nI 0) dL_remembered_1 (by decide) ?_
  refine h_aload_n 0 dL_remembered_2 rfl rfl ?_
  refine h_iload_n 1 dL_remembered_3 rfl rfl ?_
  refine h_iload_n 2 dL_remembered_4 rfl rfl ?_
  refine h_callV _ _ hC (ok_X9_remembered _) mlL_61 in_X9_remembered se_X9_remembered (by rw [ht]; rfl) rfl rfl ⟨Nat.le_of_ble_eq_true rfl, Nat.le_of_ble_eq_true rfl⟩ (by exact Nat.le_of_ble_eq_true rfl) ⟨Nat.le_of_eq (Nat.zero_add _), Nat.le_of_eq (Nat.zero_add _)⟩ dL_remembered_5 rfl (fun v9 m1 h => by cases h.1) (fun E m1 h => ?_)
  obtain ⟨h1, h2⟩ := h
  cases h1
  refine ⟨[], [⟨0, 10, 17, 15⟩], ⟨0, 10, 13, 13⟩, "java/lang/IndexOutOfBoundsException", rfl, fun z hz => ?_, rfl, by decide, klL_13, ca_IndexOutOfBoundsException, fun q => ?_⟩
  · cases hz
  · refine h_astore 4 ((4, Value.ref q) :: [(0, .ref d), (1, .int x), (2, .int y), (3, .ref o)]) dL_remembered_13 (Nat.le_of_ble_eq_true rfl) rfl ?_
    refine h_iconst (nI 1) dL_remembered_15 (by decide) ?_
    exact h_iret rfl dL_remembered_16 ⟨Nat.le_of_eq (Nat.zero_add _), Nat.le_of_eq (Nat.zero_add _)⟩ ⟨rfl, h2⟩
theorem hL_remembered_x2 (g : Gp) {m : Mm} {d o : Nat} {x y : Int32} (ht : tg m d = (9, 0)) (hC : Xn g (MX9_remembered (1, 6)) [.ref d, .int x, .int y] m "java/lang/IllegalArgumentException") : Hn g (ML_remembered (1, 6)) hhL_remembered [.ref d, .int x, .int y, .ref o] m (fun r m1 => r = .inl (some (.int (nI 2))) ∧ ∃ n, fz m ≤ n ∧ m1 = gr m n) := by
  refine Hn.of pn_L (Nat.le_of_ble_eq_true rfl) rfl ?_
  refine h_aload_n 3 dL_remembered_0 rfl rfl ?_
  refine h_iconst (nI 0) dL_remembered_1 (by decide) ?_
  refine h_aload_n 0 dL_remembered_2 rfl rfl ?_
  refine h_iload_n 1 dL_remembered_3 rfl rfl ?_
  refine h_iload_n 2 dL_remembered_4 rfl rfl ?_
  refine h_callV _ _ hC (ok_X9_remembered _) mlL_61 in_X9_remembered se_X9_remembered (by rw [ht]; rfl) rfl rfl ⟨Nat.le_of_ble_eq_true rfl, Nat.le_of_ble_eq_true rfl⟩ (by exact Nat.le_of_ble_eq_true rfl) ⟨Nat.le_of_eq (Nat.zero_add _), Nat.le_of_eq (Nat.zero_add _)⟩ dL_remembered_5 rfl (fun v9 m1 h => by cases h.1) (fun E m1 h => ?_)
  obtain ⟨h1, h2⟩ := h
  cases h1
  refine ⟨[⟨0, 10, 13, 13⟩], [], ⟨0, 10, 17, 15⟩, "java/lang/IllegalArgumentException", rfl, fun z hz => ?_, rfl, by decide, klL_15, ca_IllegalArgumentException, fun q => ?_⟩
  · rcases List.mem_cons.mp hz with rfl | hz
    · exact Or.inr ⟨by decide, "java/lang/IndexOutOfBoundsException", klL_13, Or.inl ⟨rfl, rfl⟩⟩
    cases hz
  · refine h_astore 4 ((4, Value.ref q) :: [(0, .ref d), (1, .int x), (2, .int y), (3, .ref o)]) dL_remembered_17 (Nat.le_of_ble_eq_true rfl) rfl ?_
    refine h_iconst (nI 2) dL_remembered_19 (by decide) ?_
    exact h_iret rfl dL_remembered_20 ⟨Nat.le_of_eq (Nat.zero_add _), Nat.le_of_eq (Nat.zero_add _)⟩ ⟨rfl, h2⟩
def ML_translator (cs : Nat × Nat) : MI := (yL_translator, cL_translator, 5, (some .int), { frames := 8, locals := 135, cells := cs.1, slots := cs.2 })
abbrev hhL_translator : List (Nat × Nat × Nat × Nat) := [(0, 10, 13, 13), (0, 10, 17, 15)]
theorem ok_L_translator (cs : Nat × Nat) : hm_M (ML_translator cs) hhL_translator 4 := ⟨show Cond.codeWith yL_translator cL_translator 5 (some .int) [(0, 10, 13, 13), (0, 10, 17, 15)] ∈ wA from wA_i 888 (by decide +kernel) rfl, show Cond.initialized RL ∈ wA from wA_i 54 (by decide +kernel) rfl, show (yL_translator.cls ≠ "java/lang/invoke/MethodHandle" ∧ yL_translator.cls ≠ "java/lang/invoke/VarHandle" ∧ (parseMethodDescriptor yL_translator.desc).map (fun d => d.parameters.length) = some 4) from by decide +kernel⟩
theorem st_L_translator : Cond.static yL_translator ∈ wA := wA_i 887 (by decide +kernel) rfl
theorem hL_translator_0 (g : Gp) (cs : Nat × Nat) {m : Mm} {d o : Nat} {x y : Int32} {v : Int32} {Qy : Rs → Mm → Prop} {P : Mm → Prop} (ht : tg m d = (9, 0)) (hC : Cn g (MX9_translator cs) [.ref d, .int x, .int y] m Qy) (hQ : ∀ r m1, Qy r m1 → r = .inl (some (.int v)) ∧ P m1) (ho : ∀ m1, P m1 → tg m1 o = (18, 1)) : Hn g (ML_translator cs) hhL_translator [.ref d, .int x, .int y, .ref o] m (fun r m1 => r = .inl (some (.int (nI 0))) ∧ ∃ m0, P m0 ∧ m1 = sJ m0 o 0 v.toInt64) := by
  refine Hn.of pn_L (Nat.le_of_ble_eq_true rfl) rfl ?_
  refine h_aload_n 3 dL_translator_0 rfl rfl ?_
  refine h_iconst (nI 0) dL_translator_1 (by decide) ?_
  refine h_aload_n 0 dL_translator_2 rfl rfl ?_
  refine h_iload_n 1 dL_translator_3 rfl rfl ?_
  refine h_iload_n 2 dL_translator_4 rfl rfl ?_
  refine h_callV _ _ hC (ok_X9_translator _) mlL_64 in_X9_translator se_X9_translator (by rw [ht]; rfl) rfl rfl ⟨Nat.le_of_ble_eq_true rfl, Nat.le_of_ble_eq_true rfl⟩ (by exact Nat.le_of_ble_eq_true rfl) ⟨Nat.le_of_eq (Nat.zero_add _), Nat.le_of_eq (Nat.zero_add _)⟩ dL_translator_5 rfl (fun v9 m1 h => ?_) (fun E m1 h => by cases (hQ _ _ h).1)
  obtain ⟨h1, h2⟩ := hQ _ _ h
  cases h1
  refine h_i2l dL_translator_8 ?_
  refine h_last 0 (by rw [ho _ h2]) (by decide) (by rw [ho _ h2]; decide) dL_translator_9 ?_
  refine h_goto 21 dL_translator_10 (by decide) ?_
  refine h_iconst (nI 0) dL_translator_21 (by decide) ?_
  exact h_iret rfl dL_translator_22 ⟨Nat.le_of_eq (Nat.zero_add _), Nat.le_of_eq (Nat.zero_add _)⟩ ⟨rfl, _, h2, rfl⟩
theorem hL_translator_x1 (g : Gp) {m : Mm} {d o : Nat} {x y : Int32} (ht : tg m d = (9, 0)) (hC : Xn g (MX9_translator (1, 6)) [.ref d, .int x, .int y] m "java/lang/IndexOutOfBoundsException") : Hn g (ML_translator (1, 6)) hhL_translator [.ref d, .int x, .int y, .ref o] m (fun r m1 => r = .inl (some (.int (nI 1))) ∧ ∃ n, fz m ≤ n ∧ m1 = gr m n) := by
  refine Hn.of pn_L (Nat.le_of_ble_eq_true rfl) rfl ?_
  refine h_aload_n 3 dL_translator_0 rfl rfl ?_
  refine h_iconst (nI 0) dL_translator_1 (by decide) ?_
  refine h_aload_n 0 dL_translator_2 rfl rfl ?_
  refine h_iload_n 1 dL_translator_3 rfl rfl ?_
  refine h_iload_n 2 dL_translator_4 rfl rfl ?_
  refine h_callV _ _ hC (ok_X9_translator _) mlL_64 in_X9_translator se_X9_translator (by rw [ht]; rfl) rfl rfl ⟨Nat.le_of_ble_eq_true rfl, Nat.le_of_ble_eq_true rfl⟩ (by exact Nat.le_of_ble_eq_true rfl) ⟨Nat.le_of_eq (Nat.zero_add _), Nat.le_of_eq (Nat.zero_add _)⟩ dL_translator_5 rfl (fun v9 m1 h => by cases h.1) (fun E m1 h => ?_)
  obtain ⟨h1, h2⟩ := h
  cases h1
  refine ⟨[], [⟨0, 10, 17, 15⟩], ⟨0, 10, 13, 13⟩, "java/lang/IndexOutOfBoundsException", rfl, fun z hz => ?_, rfl, by decide, klL_13, ca_IndexOutOfBoundsException, fun q => ?_⟩
  · cases hz
  · refine h_astore 4 ((4, Value.ref q) :: [(0, .ref d), (1, .int x), (2, .int y), (3, .ref o)]) dL_translator_13 (Nat.le_of_ble_eq_true rfl) rfl ?_
    refine h_iconst (nI 1) dL_translator_15 (by decide) ?_
    exact h_iret rfl dL_translator_16 ⟨Nat.le_of_eq (Nat.zero_add _), Nat.le_of_eq (Nat.zero_add _)⟩ ⟨rfl, h2⟩
theorem hL_translator_x2 (g : Gp) {m : Mm} {d o : Nat} {x y : Int32} (ht : tg m d = (9, 0)) (hC : Xn g (MX9_translator (1, 6)) [.ref d, .int x, .int y] m "java/lang/IllegalArgumentException") : Hn g (ML_translator (1, 6)) hhL_translator [.ref d, .int x, .int y, .ref o] m (fun r m1 => r = .inl (some (.int (nI 2))) ∧ ∃ n, fz m ≤ n ∧ m1 = gr m n) := by
  refine Hn.of pn_L (Nat.le_of_ble_eq_true rfl) rfl ?_
  refine h_aload_n 3 dL_translator_0 rfl rfl ?_
  refine h_iconst (nI 0) dL_translator_1 (by decide) ?_
  refine h_aload_n 0 dL_translator_2 rfl rfl ?_
  refine h_iload_n 1 dL_translator_3 rfl rfl ?_
  refine h_iload_n 2 dL_translator_4 rfl rfl ?_
  refine h_callV _ _ hC (ok_X9_translator _) mlL_64 in_X9_translator se_X9_translator (by rw [ht]; rfl) rfl rfl ⟨Nat.le_of_ble_eq_true rfl, Nat.le_of_ble_eq_true rfl⟩ (by exact Nat.le_of_ble_eq_true rfl) ⟨Nat.le_of_eq (Nat.zero_add _), Nat.le_of_eq (Nat.zero_add _)⟩ dL_translator_5 rfl (fun v9 m1 h => by cases h.1) (fun E m1 h => ?_)
  obtain ⟨h1, h2⟩ := h
  cases h1
  refine ⟨[⟨0, 10, 13, 13⟩], [], ⟨0, 10, 17, 15⟩, "java/lang/IllegalArgumentException", rfl, fun z hz => ?_, rfl, by decide, klL_15, ca_IllegalArgumentException, fun q => ?_⟩
  · rcases List.mem_cons.mp hz with rfl | hz
    · exact Or.inr ⟨by decide, "java/lang/IndexOutOfBoundsException", klL_13, Or.inl ⟨rfl, rfl⟩⟩
    cases hz
  · refine h_astore 4 ((4, Value.ref q) :: [(0, .ref d), (1, .int x), (2, .int y), (3, .ref o)]) dL_translator_17 (Nat.le_of_ble_eq_true rfl) rfl ?_
    refine h_iconst (nI 2) dL_translator_19 (by decide) ?_
    exact h_iret rfl dL_translator_20 ⟨Nat.le_of_eq (Nat.zero_add _), Nat.le_of_eq (Nat.zero_add _)⟩ ⟨rfl, h2⟩
def ML_term (cs : Nat × Nat) : MI := (yL_term, cL_term, 5, (some .int), { frames := 8, locals := 135, cells := cs.1, slots := cs.2 })
abbrev hhL_term : List (Nat × Nat × Nat × Nat) := [(0, 10, 13, 13), (0, 10, 17, 15)]
theorem ok_L_term (cs : Nat × Nat) : hm_M (ML_term cs) hhL_term 4 := ⟨show Cond.codeWith yL_term cL_term 5 (some .int) [(0, 10, 13, 13), (0, 10, 17, 15)] ∈ wA from wA_i 892 (by decide +kernel) rfl, show Cond.initialized RL ∈ wA from wA_i 54 (by decide +kernel) rfl, show (yL_term.cls ≠ "java/lang/invoke/MethodHandle" ∧ yL_term.cls ≠ "java/lang/invoke/VarHandle" ∧ (parseMethodDescriptor yL_term.desc).map (fun d => d.parameters.length) = some 4) from by decide +kernel⟩
theorem st_L_term : Cond.static yL_term ∈ wA := wA_i 891 (by decide +kernel) rfl
theorem hL_term_0 (g : Gp) (cs : Nat × Nat) {m : Mm} {d o : Nat} {x y : Int32} {v : Int32} {Qy : Rs → Mm → Prop} {P : Mm → Prop} (ht : tg m d = (9, 0)) (hC : Cn g (MX9_term cs) [.ref d, .int x, .int y] m Qy) (hQ : ∀ r m1, Qy r m1 → r = .inl (some (.int v)) ∧ P m1) (ho : ∀ m1, P m1 → tg m1 o = (18, 1)) : Hn g (ML_term cs) hhL_term [.ref d, .int x, .int y, .ref o] m (fun r m1 => r = .inl (some (.int (nI 0))) ∧ ∃ m0, P m0 ∧ m1 = sJ m0 o 0 v.toInt64) := by
  refine Hn.of pn_L (Nat.le_of_ble_eq_true rfl) rfl ?_
  refine h_aload_n 3 dL_term_0 rfl rfl ?_
  refine h_iconst (nI 0) dL_term_1 (by decide) ?_
  refine h_aload_n 0 dL_term_2 rfl rfl ?_
  refine h_iload_n 1 dL_term_3 rfl rfl ?_
  refine h_iload_n 2 dL_term_4 rfl rfl ?_
  refine h_callV _ _ hC (ok_X9_term _) mlL_67 in_X9_term se_X9_term (by rw [ht]; rfl) rfl rfl ⟨Nat.le_of_ble_eq_true rfl, Nat.le_of_ble_eq_true rfl⟩ (by exact Nat.le_of_ble_eq_true rfl) ⟨Nat.le_of_eq (Nat.zero_add _), Nat.le_of_eq (Nat.zero_add _)⟩ dL_term_5 rfl (fun v9 m1 h => ?_) (fun E m1 h => by cases (hQ _ _ h).1)
  obtain ⟨h1, h2⟩ := hQ _ _ h
  cases h1
  refine h_i2l dL_term_8 ?_
  refine h_last 0 (by rw [ho _ h2]) (by decide) (by rw [ho _ h2]; decide) dL_term_9 ?_
  refine h_goto 21 dL_term_10 (by decide) ?_
  refine h_iconst (nI 0) dL_term_21 (by decide) ?_
  exact h_iret rfl dL_term_22 ⟨Nat.le_of_eq (Nat.zero_add _), Nat.le_of_eq (Nat.zero_add _)⟩ ⟨rfl, _, h2, rfl⟩
theorem hL_term_x1 (g : Gp) {m : Mm} {d o : Nat} {x y : Int32} (ht : tg m d = (9, 0)) (hC : Xn g (MX9_term (1, 6)) [.ref d, .int x, .int y] m "java/lang/IndexOutOfBoundsException") : Hn g (ML_term (1, 6)) hhL_term [.ref d, .int x, .int y, .ref o] m (fun r m1 => r = .inl (some (.int (nI 1))) ∧ ∃ n, fz m ≤ n ∧ m1 = gr m n) := by
  refine Hn.of pn_L (Nat.le_of_ble_eq_true rfl) rfl ?_
  refine h_aload_n 3 dL_term_0 rfl rfl ?_
  refine h_iconst (nI 0) dL_term_1 (by decide) ?_
  refine h_aload_n 0 dL_term_2 rfl rfl ?_
  refine h_iload_n 1 dL_term_3 rfl rfl ?_
  refine h_iload_n 2 dL_term_4 rfl rfl ?_
  refine h_callV _ _ hC (ok_X9_term _) mlL_67 in_X9_term se_X9_term (by rw [ht]; rfl) rfl rfl ⟨Nat.le_of_ble_eq_true rfl, Nat.le_of_ble_eq_true rfl⟩ (by exact Nat.le_of_ble_eq_true rfl) ⟨Nat.le_of_eq (Nat.zero_add _), Nat.le_of_eq (Nat.zero_add _)⟩ dL_term_5 rfl (fun v9 m1 h => by cases h.1) (fun E m1 h => ?_)
  obtain ⟨h1, h2⟩ := h
  cases h1
  refine ⟨[], [⟨0, 10, 17, 15⟩], ⟨0, 10, 13, 13⟩, "java/lang/IndexOutOfBoundsException", rfl, fun z hz => ?_, rfl, by decide, klL_13, ca_IndexOutOfBoundsException, fun q => ?_⟩
  · cases hz
  · refine h_astore 4 ((4, Value.ref q) :: [(0, .ref d), (1, .int x), (2, .int y), (3, .ref o)]) dL_term_13 (Nat.le_of_ble_eq_true rfl) rfl ?_
    refine h_iconst (nI 1) dL_term_15 (by decide) ?_
    exact h_iret rfl dL_term_16 ⟨Nat.le_of_eq (Nat.zero_add _), Nat.le_of_eq (Nat.zero_add _)⟩ ⟨rfl, h2⟩
theorem hL_term_x2 (g : Gp) {m : Mm} {d o : Nat} {x y : Int32} (ht : tg m d = (9, 0)) (hC : Xn g (MX9_term (1, 6)) [.ref d, .int x, .int y] m "java/lang/IllegalArgumentException") : Hn g (ML_term (1, 6)) hhL_term [.ref d, .int x, .int y, .ref o] m (fun r m1 => r = .inl (some (.int (nI 2))) ∧ ∃ n, fz m ≤ n ∧ m1 = gr m n) := by
  refine Hn.of pn_L (Nat.le_of_ble_eq_true rfl) rfl ?_
  refine h_aload_n 3 dL_term_0 rfl rfl ?_
  refine h_iconst (nI 0) dL_term_1 (by decide) ?_
  refine h_aload_n 0 dL_term_2 rfl rfl ?_
  refine h_iload_n 1 dL_term_3 rfl rfl ?_
  refine h_iload_n 2 dL_term_4 rfl rfl ?_
  refine h_callV _ _ hC (ok_X9_term _) mlL_67 in_X9_term se_X9_term (by rw [ht]; rfl) rfl rfl ⟨Nat.le_of_ble_eq_true rfl, Nat.le_of_ble_eq_true rfl⟩ (by exact Nat.le_of_ble_eq_true rfl) ⟨Nat.le_of_eq (Nat.zero_add _), Nat.le_of_eq (Nat.zero_add _)⟩ dL_term_5 rfl (fun v9 m1 h => by cases h.1) (fun E m1 h => ?_)
  obtain ⟨h1, h2⟩ := h
  cases h1
  refine ⟨[⟨0, 10, 13, 13⟩], [], ⟨0, 10, 17, 15⟩, "java/lang/IllegalArgumentException", rfl, fun z hz => ?_, rfl, by decide, klL_15, ca_IllegalArgumentException, fun q => ?_⟩
  · rcases List.mem_cons.mp hz with rfl | hz
    · exact Or.inr ⟨by decide, "java/lang/IndexOutOfBoundsException", klL_13, Or.inl ⟨rfl, rfl⟩⟩
    cases hz
  · refine h_astore 4 ((4, Value.ref q) :: [(0, .ref d), (1, .int x), (2, .int y), (3, .ref o)]) dL_term_17 (Nat.le_of_ble_eq_true rfl) rfl ?_
    refine h_iconst (nI 2) dL_term_19 (by decide) ?_
    exact h_iret rfl dL_term_20 ⟨Nat.le_of_eq (Nat.zero_add _), Nat.le_of_eq (Nat.zero_add _)⟩ ⟨rfl, h2⟩
def ML_band (cs : Nat × Nat) : MI := (yL_band, cL_band, 5, (some .int), { frames := 8, locals := 135, cells := cs.1, slots := cs.2 })
abbrev hhL_band : List (Nat × Nat × Nat × Nat) := [(0, 10, 13, 13), (0, 10, 17, 15)]
theorem ok_L_band (cs : Nat × Nat) : hm_M (ML_band cs) hhL_band 4 := ⟨show Cond.codeWith yL_band cL_band 5 (some .int) [(0, 10, 13, 13), (0, 10, 17, 15)] ∈ wA from wA_i 896 (by decide +kernel) rfl, show Cond.initialized RL ∈ wA from wA_i 54 (by decide +kernel) rfl, show (yL_band.cls ≠ "java/lang/invoke/MethodHandle" ∧ yL_band.cls ≠ "java/lang/invoke/VarHandle" ∧ (parseMethodDescriptor yL_band.desc).map (fun d => d.parameters.length) = some 4) from by decide +kernel⟩
theorem st_L_band : Cond.static yL_band ∈ wA := wA_i 895 (by decide +kernel) rfl
theorem hL_band_0 (g : Gp) (cs : Nat × Nat) {m : Mm} {d o : Nat} {x y : Int32} {v : Int32} {Qy : Rs → Mm → Prop} {P : Mm → Prop} (ht : tg m d = (9, 0)) (hC : Cn g (MX9_band cs) [.ref d, .int x, .int y] m Qy) (hQ : ∀ r m1, Qy r m1 → r = .inl (some (.int v)) ∧ P m1) (ho : ∀ m1, P m1 → tg m1 o = (18, 1)) : Hn g (ML_band cs) hhL_band [.ref d, .int x, .int y, .ref o] m (fun r m1 => r = .inl (some (.int (nI 0))) ∧ ∃ m0, P m0 ∧ m1 = sJ m0 o 0 v.toInt64) := by
  refine Hn.of pn_L (Nat.le_of_ble_eq_true rfl) rfl ?_
  refine h_aload_n 3 dL_band_0 rfl rfl ?_
  refine h_iconst (nI 0) dL_band_1 (by decide) ?_
  refine h_aload_n 0 dL_band_2 rfl rfl ?_
  refine h_iload_n 1 dL_band_3 rfl rfl ?_
  refine h_iload_n 2 dL_band_4 rfl rfl ?_
  refine h_callV _ _ hC (ok_X9_band _) mlL_70 in_X9_band se_X9_band (by rw [ht]; rfl) rfl rfl ⟨Nat.le_of_ble_eq_true rfl, Nat.le_of_ble_eq_true rfl⟩ (by exact Nat.le_of_ble_eq_true rfl) ⟨Nat.le_of_eq (Nat.zero_add _), Nat.le_of_eq (Nat.zero_add _)⟩ dL_band_5 rfl (fun v9 m1 h => ?_) (fun E m1 h => by cases (hQ _ _ h).1)
  obtain ⟨h1, h2⟩ := hQ _ _ h
  cases h1
  refine h_i2l dL_band_8 ?_
  refine h_last 0 (by rw [ho _ h2]) (by decide) (by rw [ho _ h2]; decide) dL_band_9 ?_
  refine h_goto 21 dL_band_10 (by decide) ?_
  refine h_iconst (nI 0) dL_band_21 (by decide) ?_
  exact h_iret rfl dL_band_22 ⟨Nat.le_of_eq (Nat.zero_add _), Nat.le_of_eq (Nat.zero_add _)⟩ ⟨rfl, _, h2, rfl⟩
theorem hL_band_x1 (g : Gp) {m : Mm} {d o : Nat} {x y : Int32} (ht : tg m d = (9, 0)) (hC : Xn g (MX9_band (1, 6)) [.ref d, .int x, .int y] m "java/lang/IndexOutOfBoundsException") : Hn g (ML_band (1, 6)) hhL_band [.ref d, .int x, .int y, .ref o] m (fun r m1 => r = .inl (some (.int (nI 1))) ∧ ∃ n, fz m ≤ n ∧ m1 = gr m n) := by
  refine Hn.of pn_L (Nat.le_of_ble_eq_true rfl) rfl ?_
  refine h_aload_n 3 dL_band_0 rfl rfl ?_
  refine h_iconst (nI 0) dL_band_1 (by decide) ?_
  refine h_aload_n 0 dL_band_2 rfl rfl ?_
  refine h_iload_n 1 dL_band_3 rfl rfl ?_
  refine h_iload_n 2 dL_band_4 rfl rfl ?_
  refine h_callV _ _ hC (ok_X9_band _) mlL_70 in_X9_band se_X9_band (by rw [ht]; rfl) rfl rfl ⟨Nat.le_of_ble_eq_true rfl, Nat.le_of_ble_eq_true rfl⟩ (by exact Nat.le_of_ble_eq_true rfl) ⟨Nat.le_of_eq (Nat.zero_add _), Nat.le_of_eq (Nat.zero_add _)⟩ dL_band_5 rfl (fun v9 m1 h => by cases h.1) (fun E m1 h => ?_)
  obtain ⟨h1, h2⟩ := h
  cases h1
  refine ⟨[], [⟨0, 10, 17, 15⟩], ⟨0, 10, 13, 13⟩, "java/lang/IndexOutOfBoundsException", rfl, fun z hz => ?_, rfl, by decide, klL_13, ca_IndexOutOfBoundsException, fun q => ?_⟩
  · cases hz
  · refine h_astore 4 ((4, Value.ref q) :: [(0, .ref d), (1, .int x), (2, .int y), (3, .ref o)]) dL_band_13 (Nat.le_of_ble_eq_true rfl) rfl ?_
    refine h_iconst (nI 1) dL_band_15 (by decide) ?_
    exact h_iret rfl dL_band_16 ⟨Nat.le_of_eq (Nat.zero_add _), Nat.le_of_eq (Nat.zero_add _)⟩ ⟨rfl, h2⟩
theorem hL_band_x2 (g : Gp) {m : Mm} {d o : Nat} {x y : Int32} (ht : tg m d = (9, 0)) (hC : Xn g (MX9_band (1, 6)) [.ref d, .int x, .int y] m "java/lang/IllegalArgumentException") : Hn g (ML_band (1, 6)) hhL_band [.ref d, .int x, .int y, .ref o] m (fun r m1 => r = .inl (some (.int (nI 2))) ∧ ∃ n, fz m ≤ n ∧ m1 = gr m n) := by
  refine Hn.of pn_L (Nat.le_of_ble_eq_true rfl) rfl ?_
  refine h_aload_n 3 dL_band_0 rfl rfl ?_
  refine h_iconst (nI 0) dL_band_1 (by decide) ?_
  refine h_aload_n 0 dL_band_2 rfl rfl ?_
  refine h_iload_n 1 dL_band_3 rfl rfl ?_
  refine h_iload_n 2 dL_band_4 rfl rfl ?_
  refine h_callV _ _ hC (ok_X9_band _) mlL_70 in_X9_band se_X9_band (by rw [ht]; rfl) rfl rfl ⟨Nat.le_of_ble_eq_true rfl, Nat.le_of_ble_eq_true rfl⟩ (by exact Nat.le_of_ble_eq_true rfl) ⟨Nat.le_of_eq (Nat.zero_add _), Nat.le_of_eq (Nat.zero_add _)⟩ dL_band_5 rfl (fun v9 m1 h => by cases h.1) (fun E m1 h => ?_)
  obtain ⟨h1, h2⟩ := h
  cases h1
  refine ⟨[⟨0, 10, 13, 13⟩], [], ⟨0, 10, 17, 15⟩, "java/lang/IllegalArgumentException", rfl, fun z hz => ?_, rfl, by decide, klL_15, ca_IllegalArgumentException, fun q => ?_⟩
  · rcases List.mem_cons.mp hz with rfl | hz
    · exact Or.inr ⟨by decide, "java/lang/IndexOutOfBoundsException", klL_13, Or.inl ⟨rfl, rfl⟩⟩
    cases hz
  · refine h_astore 4 ((4, Value.ref q) :: [(0, .ref d), (1, .int x), (2, .int y), (3, .ref o)]) dL_band_17 (Nat.le_of_ble_eq_true rfl) rfl ?_
    refine h_iconst (nI 2) dL_band_19 (by decide) ?_
    exact h_iret rfl dL_band_20 ⟨Nat.le_of_eq (Nat.zero_add _), Nat.le_of_eq (Nat.zero_add _)⟩ ⟨rfl, h2⟩
def ML_count (cs : Nat × Nat) : MI := (yL_count, cL_count, 4, (some .int), { frames := 8, locals := 133, cells := cs.1, slots := cs.2 })
abbrev hhL_count : List (Nat × Nat × Nat × Nat) := [(0, 9, 12, 15)]
theorem ok_L_count (cs : Nat × Nat) : hm_M (ML_count cs) hhL_count 3 := ⟨show Cond.codeWith yL_count cL_count 4 (some .int) [(0, 9, 12, 15)] ∈ wA from wA_i 900 (by decide +kernel) rfl, show Cond.initialized RL ∈ wA from wA_i 54 (by decide +kernel) rfl, show (yL_count.cls ≠ "java/lang/invoke/MethodHandle" ∧ yL_count.cls ≠ "java/lang/invoke/VarHandle" ∧ (parseMethodDescriptor yL_count.desc).map (fun d => d.parameters.length) = some 3) from by decide +kernel⟩
theorem st_L_count : Cond.static yL_count ∈ wA := wA_i 899 (by decide +kernel) rfl
theorem hL_count_0 (g : Gp) (cs : Nat × Nat) {m : Mm} {d o : Nat} {x : Int32} {v : Int32} {Qy : Rs → Mm → Prop} {P : Mm → Prop} (ht : tg m d = (9, 0)) (hC : Cn g (MX9_count cs) [.ref d, .int x] m Qy) (hQ : ∀ r m1, Qy r m1 → r = .inl (some (.int v)) ∧ P m1) (ho : ∀ m1, P m1 → tg m1 o = (18, 1)) : Hn g (ML_count cs) hhL_count [.ref d, .int x, .ref o] m (fun r m1 => r = .inl (some (.int (nI 0))) ∧ ∃ m0, P m0 ∧ m1 = sJ m0 o 0 v.toInt64) := by
  refine Hn.of pn_L (Nat.le_of_ble_eq_true rfl) rfl ?_
  refine h_aload_n 2 dL_count_0 rfl rfl ?_
  refine h_iconst (nI 0) dL_count_1 (by decide) ?_
  refine h_aload_n 0 dL_count_2 rfl rfl ?_
  refine h_iload_n 1 dL_count_3 rfl rfl ?_
  refine h_callV _ _ hC (ok_X9_count _) mlL_73 in_X9_count se_X9_count (by rw [ht]; rfl) rfl rfl ⟨Nat.le_of_ble_eq_true rfl, Nat.le_of_ble_eq_true rfl⟩ (by exact Nat.le_of_ble_eq_true rfl) ⟨Nat.le_of_eq (Nat.zero_add _), Nat.le_of_eq (Nat.zero_add _)⟩ dL_count_4 rfl (fun v9 m1 h => ?_) (fun E m1 h => by cases (hQ _ _ h).1)
  obtain ⟨h1, h2⟩ := hQ _ _ h
  cases h1
  refine h_i2l dL_count_7 ?_
  refine h_last 0 (by rw [ho _ h2]) (by decide) (by rw [ho _ h2]; decide) dL_count_8 ?_
  refine h_goto 15 dL_count_9 (by decide) ?_
  refine h_iconst (nI 0) dL_count_15 (by decide) ?_
  exact h_iret rfl dL_count_16 ⟨Nat.le_of_eq (Nat.zero_add _), Nat.le_of_eq (Nat.zero_add _)⟩ ⟨rfl, _, h2, rfl⟩
theorem hL_count_x1 (g : Gp) {m : Mm} {d o : Nat} {x : Int32} (ht : tg m d = (9, 0)) (hC : Xn g (MX9_count (1, 6)) [.ref d, .int x] m "java/lang/IllegalArgumentException") : Hn g (ML_count (1, 6)) hhL_count [.ref d, .int x, .ref o] m (fun r m1 => r = .inl (some (.int (nI 1))) ∧ ∃ n, fz m ≤ n ∧ m1 = gr m n) := by
  refine Hn.of pn_L (Nat.le_of_ble_eq_true rfl) rfl ?_
  refine h_aload_n 2 dL_count_0 rfl rfl ?_
  refine h_iconst (nI 0) dL_count_1 (by decide) ?_
  refine h_aload_n 0 dL_count_2 rfl rfl ?_
  refine h_iload_n 1 dL_count_3 rfl rfl ?_
  refine h_callV _ _ hC (ok_X9_count _) mlL_73 in_X9_count se_X9_count (by rw [ht]; rfl) rfl rfl ⟨Nat.le_of_ble_eq_true rfl, Nat.le_of_ble_eq_true rfl⟩ (by exact Nat.le_of_ble_eq_true rfl) ⟨Nat.le_of_eq (Nat.zero_add _), Nat.le_of_eq (Nat.zero_add _)⟩ dL_count_4 rfl (fun v9 m1 h => by cases h.1) (fun E m1 h => ?_)
  obtain ⟨h1, h2⟩ := h
  cases h1
  refine ⟨[], [], ⟨0, 9, 12, 15⟩, "java/lang/IllegalArgumentException", rfl, fun z hz => ?_, rfl, by decide, klL_15, ca_IllegalArgumentException, fun q => ?_⟩
  · cases hz
  · refine h_astore_n 3 ((3, Value.ref q) :: [(0, .ref d), (1, .int x), (2, .ref o)]) dL_count_12 rfl (Nat.le_of_ble_eq_true rfl) rfl ?_
    refine h_iconst (nI 1) dL_count_13 (by decide) ?_
    exact h_iret rfl dL_count_14 ⟨Nat.le_of_eq (Nat.zero_add _), Nat.le_of_eq (Nat.zero_add _)⟩ ⟨rfl, h2⟩
def ML_setting (cs : Nat × Nat) : MI := (yL_setting, cL_setting, 4, (some .int), { frames := 8, locals := 132, cells := cs.1, slots := cs.2 })
abbrev hhL_setting : List (Nat × Nat × Nat × Nat) := [(0, 9, 12, 13)]
theorem ok_L_setting (cs : Nat × Nat) : hm_M (ML_setting cs) hhL_setting 3 := ⟨show Cond.codeWith yL_setting cL_setting 4 (some .int) [(0, 9, 12, 13)] ∈ wA from wA_i 904 (by decide +kernel) rfl, show Cond.initialized RL ∈ wA from wA_i 54 (by decide +kernel) rfl, show (yL_setting.cls ≠ "java/lang/invoke/MethodHandle" ∧ yL_setting.cls ≠ "java/lang/invoke/VarHandle" ∧ (parseMethodDescriptor yL_setting.desc).map (fun d => d.parameters.length) = some 3) from by decide +kernel⟩
theorem st_L_setting : Cond.static yL_setting ∈ wA := wA_i 903 (by decide +kernel) rfl
theorem hL_setting_0 (g : Gp) (cs : Nat × Nat) {m : Mm} {d o : Nat} {x : Int32} {v : Int32} {Qy : Rs → Mm → Prop} {P : Mm → Prop} (ht : tg m d = (9, 0)) (hC : Cn g (MX9_setting cs) [.ref d, .int x] m Qy) (hQ : ∀ r m1, Qy r m1 → r = .inl (some (.int v)) ∧ P m1) (ho : ∀ m1, P m1 → tg m1 o = (18, 1)) : Hn g (ML_setting cs) hhL_setting [.ref d, .int x, .ref o] m (fun r m1 => r = .inl (some (.int (nI 0))) ∧ ∃ m0, P m0 ∧ m1 = sJ m0 o 0 v.toInt64) := by
  refine Hn.of pn_L (Nat.le_of_ble_eq_true rfl) rfl ?_
  refine h_aload_n 2 dL_setting_0 rfl rfl ?_
  refine h_iconst (nI 0) dL_setting_1 (by decide) ?_
  refine h_aload_n 0 dL_setting_2 rfl rfl ?_
  refine h_iload_n 1 dL_setting_3 rfl rfl ?_
  refine h_callV _ _ hC (ok_X9_setting _) mlL_76 in_X9_setting se_X9_setting (by rw [ht]; rfl) rfl rfl ⟨Nat.le_of_ble_eq_true rfl, Nat.le_of_ble_eq_true rfl⟩ (by exact Nat.le_of_ble_eq_true rfl) ⟨Nat.le_of_eq (Nat.zero_add _), Nat.le_of_eq (Nat.zero_add _)⟩ dL_setting_4 rfl (fun v9 m1 h => ?_) (fun E m1 h => by cases (hQ _ _ h).1)
  obtain ⟨h1, h2⟩ := hQ _ _ h
  cases h1
  refine h_i2l dL_setting_7 ?_
  refine h_last 0 (by rw [ho _ h2]) (by decide) (by rw [ho _ h2]; decide) dL_setting_8 ?_
  refine h_goto 15 dL_setting_9 (by decide) ?_
  refine h_iconst (nI 0) dL_setting_15 (by decide) ?_
  exact h_iret rfl dL_setting_16 ⟨Nat.le_of_eq (Nat.zero_add _), Nat.le_of_eq (Nat.zero_add _)⟩ ⟨rfl, _, h2, rfl⟩
theorem hL_setting_x1 (g : Gp) {m : Mm} {d o : Nat} {x : Int32} (ht : tg m d = (9, 0)) (hC : Xn g (MX9_setting (1, 6)) [.ref d, .int x] m "java/lang/IndexOutOfBoundsException") : Hn g (ML_setting (1, 6)) hhL_setting [.ref d, .int x, .ref o] m (fun r m1 => r = .inl (some (.int (nI 1))) ∧ ∃ n, fz m ≤ n ∧ m1 = gr m n) := by
  refine Hn.of pn_L (Nat.le_of_ble_eq_true rfl) rfl ?_
  refine h_aload_n 2 dL_setting_0 rfl rfl ?_
  refine h_iconst (nI 0) dL_setting_1 (by decide) ?_
  refine h_aload_n 0 dL_setting_2 rfl rfl ?_
  refine h_iload_n 1 dL_setting_3 rfl rfl ?_
  refine h_callV _ _ hC (ok_X9_setting _) mlL_76 in_X9_setting se_X9_setting (by rw [ht]; rfl) rfl rfl ⟨Nat.le_of_ble_eq_true rfl, Nat.le_of_ble_eq_true rfl⟩ (by exact Nat.le_of_ble_eq_true rfl) ⟨Nat.le_of_eq (Nat.zero_add _), Nat.le_of_eq (Nat.zero_add _)⟩ dL_setting_4 rfl (fun v9 m1 h => by cases h.1) (fun E m1 h => ?_)
  obtain ⟨h1, h2⟩ := h
  cases h1
  refine ⟨[], [], ⟨0, 9, 12, 13⟩, "java/lang/IndexOutOfBoundsException", rfl, fun z hz => ?_, rfl, by decide, klL_13, ca_IndexOutOfBoundsException, fun q => ?_⟩
  · cases hz
  · refine h_astore_n 3 ((3, Value.ref q) :: [(0, .ref d), (1, .int x), (2, .ref o)]) dL_setting_12 rfl (Nat.le_of_ble_eq_true rfl) rfl ?_
    refine h_iconst (nI 1) dL_setting_13 (by decide) ?_
    exact h_iret rfl dL_setting_14 ⟨Nat.le_of_eq (Nat.zero_add _), Nat.le_of_eq (Nat.zero_add _)⟩ ⟨rfl, h2⟩
def ML_near (cs : Nat × Nat) : MI := (yL_near, cL_near, 6, (some .int), { frames := 8, locals := 137, cells := cs.1, slots := cs.2 })
abbrev hhL_near : List (Nat × Nat × Nat × Nat) := [(0, 12, 15, 13), (0, 12, 19, 15)]
theorem ok_L_near (cs : Nat × Nat) : hm_M (ML_near cs) hhL_near 5 := ⟨show Cond.codeWith yL_near cL_near 6 (some .int) [(0, 12, 15, 13), (0, 12, 19, 15)] ∈ wA from wA_i 908 (by decide +kernel) rfl, show Cond.initialized RL ∈ wA from wA_i 54 (by decide +kernel) rfl, show (yL_near.cls ≠ "java/lang/invoke/MethodHandle" ∧ yL_near.cls ≠ "java/lang/invoke/VarHandle" ∧ (parseMethodDescriptor yL_near.desc).map (fun d => d.parameters.length) = some 5) from by decide +kernel⟩
theorem st_L_near : Cond.static yL_near ∈ wA := wA_i 907 (by decide +kernel) rfl
theorem hL_near_0 (g : Gp) (cs : Nat × Nat) {m : Mm} {d o : Nat} {x y z : Int32} {v : Int32} {Qy : Rs → Mm → Prop} {P : Mm → Prop} (ht : tg m d = (9, 0)) (hC : Cn g (MX9_near cs) [.ref d, .int x, .int y, .int z] m Qy) (hQ : ∀ r m1, Qy r m1 → r = .inl (some (.int v)) ∧ P m1) (ho : ∀ m1, P m1 → tg m1 o = (18, 1)) : Hn g (ML_near cs) hhL_near [.ref d, .int x, .int y, .int z, .ref o] m (fun r m1 => r = .inl (some (.int (nI 0))) ∧ ∃ m0, P m0 ∧ m1 = sJ m0 o 0 v.toInt64) := by
  refine Hn.of pn_L (Nat.le_of_ble_eq_true rfl) rfl ?_
  refine h_aload 4 dL_near_0 rfl ?_
  refine h_iconst (nI 0) dL_near_2 (by decide) ?_
  refine h_aload_n 0 dL_near_3 rfl rfl ?_
  refine h_iload_n 1 dL_near_4 rfl rfl ?_
  refine h_iload_n 2 dL_near_5 rfl rfl ?_
  refine h_iload_n 3 dL_near_6 rfl rfl ?_
  refine h_callV _ _ hC (ok_X9_near _) mlL_79 in_X9_near se_X9_near (by rw [ht]; rfl) rfl rfl ⟨Nat.le_of_ble_eq_true rfl, Nat.le_of_ble_eq_true rfl⟩ (by exact Nat.le_of_ble_eq_true rfl) ⟨Nat.le_of_eq (Nat.zero_add _), Nat.le_of_eq (Nat.zero_add _)⟩ dL_near_7 rfl (fun v9 m1 h => ?_) (fun E m1 h => by cases (hQ _ _ h).1)
  obtain ⟨h1, h2⟩ := hQ _ _ h
  cases h1
  refine h_i2l dL_near_10 ?_
  refine h_last 0 (by rw [ho _ h2]) (by decide) (by rw [ho _ h2]; decide) dL_near_11 ?_
  refine h_goto 23 dL_near_12 (by decide) ?_
  refine h_iconst (nI 0) dL_near_23 (by decide) ?_
  exact h_iret rfl dL_near_24 ⟨Nat.le_of_eq (Nat.zero_add _), Nat.le_of_eq (Nat.zero_add _)⟩ ⟨rfl, _, h2, rfl⟩
theorem hL_near_x1 (g : Gp) {m : Mm} {d o : Nat} {x y z : Int32} (ht : tg m d = (9, 0)) (hC : Xn g (MX9_near (1, 6)) [.ref d, .int x, .int y, .int z] m "java/lang/IndexOutOfBoundsException") : Hn g (ML_near (1, 6)) hhL_near [.ref d, .int x, .int y, .int z, .ref o] m (fun r m1 => r = .inl (some (.int (nI 1))) ∧ ∃ n, fz m ≤ n ∧ m1 = gr m n) := by
  refine Hn.of pn_L (Nat.le_of_ble_eq_true rfl) rfl ?_
  refine h_aload 4 dL_near_0 rfl ?_
  refine h_iconst (nI 0) dL_near_2 (by decide) ?_
  refine h_aload_n 0 dL_near_3 rfl rfl ?_
  refine h_iload_n 1 dL_near_4 rfl rfl ?_
  refine h_iload_n 2 dL_near_5 rfl rfl ?_
  refine h_iload_n 3 dL_near_6 rfl rfl ?_
  refine h_callV _ _ hC (ok_X9_near _) mlL_79 in_X9_near se_X9_near (by rw [ht]; rfl) rfl rfl ⟨Nat.le_of_ble_eq_true rfl, Nat.le_of_ble_eq_true rfl⟩ (by exact Nat.le_of_ble_eq_true rfl) ⟨Nat.le_of_eq (Nat.zero_add _), Nat.le_of_eq (Nat.zero_add _)⟩ dL_near_7 rfl (fun v9 m1 h => by cases h.1) (fun E m1 h => ?_)
  obtain ⟨h1, h2⟩ := h
  cases h1
  refine ⟨[], [⟨0, 12, 19, 15⟩], ⟨0, 12, 15, 13⟩, "java/lang/IndexOutOfBoundsException", rfl, fun z hz => ?_, rfl, by decide, klL_13, ca_IndexOutOfBoundsException, fun q => ?_⟩
  · cases hz
  · refine h_astore 5 ((5, Value.ref q) :: [(0, .ref d), (1, .int x), (2, .int y), (3, .int z), (4, .ref o)]) dL_near_15 (Nat.le_of_ble_eq_true rfl) rfl ?_
    refine h_iconst (nI 1) dL_near_17 (by decide) ?_
    exact h_iret rfl dL_near_18 ⟨Nat.le_of_eq (Nat.zero_add _), Nat.le_of_eq (Nat.zero_add _)⟩ ⟨rfl, h2⟩
theorem hL_near_x2 (g : Gp) {m : Mm} {d o : Nat} {x y z : Int32} (ht : tg m d = (9, 0)) (hC : Xn g (MX9_near (1, 6)) [.ref d, .int x, .int y, .int z] m "java/lang/IllegalArgumentException") : Hn g (ML_near (1, 6)) hhL_near [.ref d, .int x, .int y, .int z, .ref o] m (fun r m1 => r = .inl (some (.int (nI 2))) ∧ ∃ n, fz m ≤ n ∧ m1 = gr m n) := by
  refine Hn.of pn_L (Nat.le_of_ble_eq_true rfl) rfl ?_
  refine h_aload 4 dL_near_0 rfl ?_
  refine h_iconst (nI 0) dL_near_2 (by decide) ?_
  refine h_aload_n 0 dL_near_3 rfl rfl ?_
  refine h_iload_n 1 dL_near_4 rfl rfl ?_
  refine h_iload_n 2 dL_near_5 rfl rfl ?_
  refine h_iload_n 3 dL_near_6 rfl rfl ?_
  refine h_callV _ _ hC (ok_X9_near _) mlL_79 in_X9_near se_X9_near (by rw [ht]; rfl) rfl rfl ⟨Nat.le_of_ble_eq_true rfl, Nat.le_of_ble_eq_true rfl⟩ (by exact Nat.le_of_ble_eq_true rfl) ⟨Nat.le_of_eq (Nat.zero_add _), Nat.le_of_eq (Nat.zero_add _)⟩ dL_near_7 rfl (fun v9 m1 h => by cases h.1) (fun E m1 h => ?_)
  obtain ⟨h1, h2⟩ := h
  cases h1
  refine ⟨[⟨0, 12, 15, 13⟩], [], ⟨0, 12, 19, 15⟩, "java/lang/IllegalArgumentException", rfl, fun z hz => ?_, rfl, by decide, klL_15, ca_IllegalArgumentException, fun q => ?_⟩
  · rcases List.mem_cons.mp hz with rfl | hz
    · exact Or.inr ⟨by decide, "java/lang/IndexOutOfBoundsException", klL_13, Or.inl ⟨rfl, rfl⟩⟩
    cases hz
  · refine h_astore 5 ((5, Value.ref q) :: [(0, .ref d), (1, .int x), (2, .int y), (3, .int z), (4, .ref o)]) dL_near_19 (Nat.le_of_ble_eq_true rfl) rfl ?_
    refine h_iconst (nI 2) dL_near_21 (by decide) ?_
    exact h_iret rfl dL_near_22 ⟨Nat.le_of_eq (Nat.zero_add _), Nat.le_of_eq (Nat.zero_add _)⟩ ⟨rfl, h2⟩
def ML_common (cs : Nat × Nat) : MI := (yL_common, cL_common, 6, (some .int), { frames := 8, locals := 135, cells := cs.1, slots := cs.2 })
abbrev hhL_common : List (Nat × Nat × Nat × Nat) := [(0, 12, 15, 13), (0, 12, 19, 15)]
theorem ok_L_common (cs : Nat × Nat) : hm_M (ML_common cs) hhL_common 5 := ⟨show Cond.codeWith yL_common cL_common 6 (some .int) [(0, 12, 15, 13), (0, 12, 19, 15)] ∈ wA from wA_i 912 (by decide +kernel) rfl, show Cond.initialized RL ∈ wA from wA_i 54 (by decide +kernel) rfl, show (yL_common.cls ≠ "java/lang/invoke/MethodHandle" ∧ yL_common.cls ≠ "java/lang/invoke/VarHandle" ∧ (parseMethodDescriptor yL_common.desc).map (fun d => d.parameters.length) = some 5) from by decide +kernel⟩
theorem st_L_common : Cond.static yL_common ∈ wA := wA_i 911 (by decide +kernel) rfl
theorem hL_common_0 (g : Gp) (cs : Nat × Nat) {m : Mm} {d o : Nat} {x y z : Int32} {v : Int32} {Qy : Rs → Mm → Prop} {P : Mm → Prop} (ht : tg m d = (9, 0)) (hC : Cn g (MX9_common cs) [.ref d, .int x, .int y, .int z] m Qy) (hQ : ∀ r m1, Qy r m1 → r = .inl (some (.int v)) ∧ P m1) (ho : ∀ m1, P m1 → tg m1 o = (18, 1)) : Hn g (ML_common cs) hhL_common [.ref d, .int x, .int y, .int z, .ref o] m (fun r m1 => r = .inl (some (.int (nI 0))) ∧ ∃ m0, P m0 ∧ m1 = sJ m0 o 0 v.toInt64) := by
  refine Hn.of pn_L (Nat.le_of_ble_eq_true rfl) rfl ?_
  refine h_aload 4 dL_common_0 rfl ?_
  refine h_iconst (nI 0) dL_common_2 (by decide) ?_
  refine h_aload_n 0 dL_common_3 rfl rfl ?_
  refine h_iload_n 1 dL_common_4 rfl rfl ?_
  refine h_iload_n 2 dL_common_5 rfl rfl ?_
  refine h_iload_n 3 dL_common_6 rfl rfl ?_
  refine h_callV _ _ hC (ok_X9_common _) mlL_82 in_X9_common se_X9_common (by rw [ht]; rfl) rfl rfl ⟨Nat.le_of_ble_eq_true rfl, Nat.le_of_ble_eq_true rfl⟩ (by exact Nat.le_of_ble_eq_true rfl) ⟨Nat.le_of_eq (Nat.zero_add _), Nat.le_of_eq (Nat.zero_add _)⟩ dL_common_7 rfl (fun v9 m1 h => ?_) (fun E m1 h => by cases (hQ _ _ h).1)
  obtain ⟨h1, h2⟩ := hQ _ _ h
  cases h1
  refine h_i2l dL_common_10 ?_
  refine h_last 0 (by rw [ho _ h2]) (by decide) (by rw [ho _ h2]; decide) dL_common_11 ?_
  refine h_goto 23 dL_common_12 (by decide) ?_
  refine h_iconst (nI 0) dL_common_23 (by decide) ?_
  exact h_iret rfl dL_common_24 ⟨Nat.le_of_eq (Nat.zero_add _), Nat.le_of_eq (Nat.zero_add _)⟩ ⟨rfl, _, h2, rfl⟩
theorem hL_common_x1 (g : Gp) {m : Mm} {d o : Nat} {x y z : Int32} (ht : tg m d = (9, 0)) (hC : Xn g (MX9_common (1, 6)) [.ref d, .int x, .int y, .int z] m "java/lang/IndexOutOfBoundsException") : Hn g (ML_common (1, 6)) hhL_common [.ref d, .int x, .int y, .int z, .ref o] m (fun r m1 => r = .inl (some (.int (nI 1))) ∧ ∃ n, fz m ≤ n ∧ m1 = gr m n) := by
  refine Hn.of pn_L (Nat.le_of_ble_eq_true rfl) rfl ?_
  refine h_aload 4 dL_common_0 rfl ?_
  refine h_iconst (nI 0) dL_common_2 (by decide) ?_
  refine h_aload_n 0 dL_common_3 rfl rfl ?_
  refine h_iload_n 1 dL_common_4 rfl rfl ?_
  refine h_iload_n 2 dL_common_5 rfl rfl ?_
  refine h_iload_n 3 dL_common_6 rfl rfl ?_
  refine h_callV _ _ hC (ok_X9_common _) mlL_82 in_X9_common se_X9_common (by rw [ht]; rfl) rfl rfl ⟨Nat.le_of_ble_eq_true rfl, Nat.le_of_ble_eq_true rfl⟩ (by exact Nat.le_of_ble_eq_true rfl) ⟨Nat.le_of_eq (Nat.zero_add _), Nat.le_of_eq (Nat.zero_add _)⟩ dL_common_7 rfl (fun v9 m1 h => by cases h.1) (fun E m1 h => ?_)
  obtain ⟨h1, h2⟩ := h
  cases h1
  refine ⟨[], [⟨0, 12, 19, 15⟩], ⟨0, 12, 15, 13⟩, "java/lang/IndexOutOfBoundsException", rfl, fun z hz => ?_, rfl, by decide, klL_13, ca_IndexOutOfBoundsException, fun q => ?_⟩
  · cases hz
  · refine h_astore 5 ((5, Value.ref q) :: [(0, .ref d), (1, .int x), (2, .int y), (3, .int z), (4, .ref o)]) dL_common_15 (Nat.le_of_ble_eq_true rfl) rfl ?_
    refine h_iconst (nI 1) dL_common_17 (by decide) ?_
    exact h_iret rfl dL_common_18 ⟨Nat.le_of_eq (Nat.zero_add _), Nat.le_of_eq (Nat.zero_add _)⟩ ⟨rfl, h2⟩
theorem hL_common_x2 (g : Gp) {m : Mm} {d o : Nat} {x y z : Int32} (ht : tg m d = (9, 0)) (hC : Xn g (MX9_common (1, 6)) [.ref d, .int x, .int y, .int z] m "java/lang/IllegalArgumentException") : Hn g (ML_common (1, 6)) hhL_common [.ref d, .int x, .int y, .int z, .ref o] m (fun r m1 => r = .inl (some (.int (nI 2))) ∧ ∃ n, fz m ≤ n ∧ m1 = gr m n) := by
  refine Hn.of pn_L (Nat.le_of_ble_eq_true rfl) rfl ?_
  refine h_aload 4 dL_common_0 rfl ?_
  refine h_iconst (nI 0) dL_common_2 (by decide) ?_
  refine h_aload_n 0 dL_common_3 rfl rfl ?_
  refine h_iload_n 1 dL_common_4 rfl rfl ?_
  refine h_iload_n 2 dL_common_5 rfl rfl ?_
  refine h_iload_n 3 dL_common_6 rfl rfl ?_
  refine h_callV _ _ hC (ok_X9_common _) mlL_82 in_X9_common se_X9_common (by rw [ht]; rfl) rfl rfl ⟨Nat.le_of_ble_eq_true rfl, Nat.le_of_ble_eq_true rfl⟩ (by exact Nat.le_of_ble_eq_true rfl) ⟨Nat.le_of_eq (Nat.zero_add _), Nat.le_of_eq (Nat.zero_add _)⟩ dL_common_7 rfl (fun v9 m1 h => by cases h.1) (fun E m1 h => ?_)
  obtain ⟨h1, h2⟩ := h
  cases h1
  refine ⟨[⟨0, 12, 15, 13⟩], [], ⟨0, 12, 19, 15⟩, "java/lang/IllegalArgumentException", rfl, fun z hz => ?_, rfl, by decide, klL_15, ca_IllegalArgumentException, fun q => ?_⟩
  · rcases List.mem_cons.mp hz with rfl | hz
    · exact Or.inr ⟨by decide, "java/lang/IndexOutOfBoundsException", klL_13, Or.inl ⟨rfl, rfl⟩⟩
    cases hz
  · refine h_astore 5 ((5, Value.ref q) :: [(0, .ref d), (1, .int x), (2, .int y), (3, .int z), (4, .ref o)]) dL_common_19 (Nat.le_of_ble_eq_true rfl) rfl ?_
    refine h_iconst (nI 2) dL_common_21 (by decide) ?_
    exact h_iret rfl dL_common_22 ⟨Nat.le_of_eq (Nat.zero_add _), Nat.le_of_eq (Nat.zero_add _)⟩ ⟨rfl, h2⟩
def ML_ifPaid (cs : Nat × Nat) : MI := (yL_ifPaid, cL_ifPaid, 5, (some .int), { frames := 8, locals := 138, cells := cs.1, slots := cs.2 })
abbrev hhL_ifPaid : List (Nat × Nat × Nat × Nat) := [(0, 10, 13, 13)]
theorem ok_L_ifPaid (cs : Nat × Nat) : hm_M (ML_ifPaid cs) hhL_ifPaid 4 := ⟨show Cond.codeWith yL_ifPaid cL_ifPaid 5 (some .int) [(0, 10, 13, 13)] ∈ wA from wA_i 916 (by decide +kernel) rfl, show Cond.initialized RL ∈ wA from wA_i 54 (by decide +kernel) rfl, show (yL_ifPaid.cls ≠ "java/lang/invoke/MethodHandle" ∧ yL_ifPaid.cls ≠ "java/lang/invoke/VarHandle" ∧ (parseMethodDescriptor yL_ifPaid.desc).map (fun d => d.parameters.length) = some 4) from by decide +kernel⟩
theorem st_L_ifPaid : Cond.static yL_ifPaid ∈ wA := wA_i 915 (by decide +kernel) rfl
theorem hL_ifPaid_0 (g : Gp) (cs : Nat × Nat) {m : Mm} {d o : Nat} {x y : Int32} {v : Int32} {Qy : Rs → Mm → Prop} {P : Mm → Prop} (ht : tg m d = (9, 0)) (hC : Cn g (MX9_ifPaid cs) [.ref d, .int x, .int y] m Qy) (hQ : ∀ r m1, Qy r m1 → r = .inl (some (.int v)) ∧ P m1) (ho : ∀ m1, P m1 → tg m1 o = (18, 1)) : Hn g (ML_ifPaid cs) hhL_ifPaid [.ref d, .int x, .int y, .ref o] m (fun r m1 => r = .inl (some (.int (nI 0))) ∧ ∃ m0, P m0 ∧ m1 = sJ m0 o 0 v.toInt64) := by
  refine Hn.of pn_L (Nat.le_of_ble_eq_true rfl) rfl ?_
  refine h_aload_n 3 dL_ifPaid_0 rfl rfl ?_
  refine h_iconst (nI 0) dL_ifPaid_1 (by decide) ?_
  refine h_aload_n 0 dL_ifPaid_2 rfl rfl ?_
  refine h_iload_n 1 dL_ifPaid_3 rfl rfl ?_
  refine h_iload_n 2 dL_ifPaid_4 rfl rfl ?_
  refine h_callV _ _ hC (ok_X9_ifPaid _) mlL_85 in_X9_ifPaid se_X9_ifPaid (by rw [ht]; rfl) rfl rfl ⟨Nat.le_of_ble_eq_true rfl, Nat.le_of_ble_eq_true rfl⟩ (by exact Nat.le_of_ble_eq_true rfl) ⟨Nat.le_of_eq (Nat.zero_add _), Nat.le_of_eq (Nat.zero_add _)⟩ dL_ifPaid_5 rfl (fun v9 m1 h => ?_) (fun E m1 h => by cases (hQ _ _ h).1)
  obtain ⟨h1, h2⟩ := hQ _ _ h
  cases h1
  refine h_i2l dL_ifPaid_8 ?_
  refine h_last 0 (by rw [ho _ h2]) (by decide) (by rw [ho _ h2]; decide) dL_ifPaid_9 ?_
  refine h_goto 17 dL_ifPaid_10 (by decide) ?_
  refine h_iconst (nI 0) dL_ifPaid_17 (by decide) ?_
  exact h_iret rfl dL_ifPaid_18 ⟨Nat.le_of_eq (Nat.zero_add _), Nat.le_of_eq (Nat.zero_add _)⟩ ⟨rfl, _, h2, rfl⟩
theorem hL_ifPaid_x1 (g : Gp) {m : Mm} {d o : Nat} {x y : Int32} (ht : tg m d = (9, 0)) (hC : Xn g (MX9_ifPaid (1, 6)) [.ref d, .int x, .int y] m "java/lang/IndexOutOfBoundsException") : Hn g (ML_ifPaid (1, 6)) hhL_ifPaid [.ref d, .int x, .int y, .ref o] m (fun r m1 => r = .inl (some (.int (nI 1))) ∧ ∃ n, fz m ≤ n ∧ m1 = gr m n) := by
  refine Hn.of pn_L (Nat.le_of_ble_eq_true rfl) rfl ?_
  refine h_aload_n 3 dL_ifPaid_0 rfl rfl ?_
  refine h_iconst (nI 0) dL_ifPaid_1 (by decide) ?_
  refine h_aload_n 0 dL_ifPaid_2 rfl rfl ?_
  refine h_iload_n 1 dL_ifPaid_3 rfl rfl ?_
  refine h_iload_n 2 dL_ifPaid_4 rfl rfl ?_
  refine h_callV _ _ hC (ok_X9_ifPaid _) mlL_85 in_X9_ifPaid se_X9_ifPaid (by rw [ht]; rfl) rfl rfl ⟨Nat.le_of_ble_eq_true rfl, Nat.le_of_ble_eq_true rfl⟩ (by exact Nat.le_of_ble_eq_true rfl) ⟨Nat.le_of_eq (Nat.zero_add _), Nat.le_of_eq (Nat.zero_add _)⟩ dL_ifPaid_5 rfl (fun v9 m1 h => by cases h.1) (fun E m1 h => ?_)
  obtain ⟨h1, h2⟩ := h
  cases h1
  refine ⟨[], [], ⟨0, 10, 13, 13⟩, "java/lang/IndexOutOfBoundsException", rfl, fun z hz => ?_, rfl, by decide, klL_13, ca_IndexOutOfBoundsException, fun q => ?_⟩
  · cases hz
  · refine h_astore 4 ((4, Value.ref q) :: [(0, .ref d), (1, .int x), (2, .int y), (3, .ref o)]) dL_ifPaid_13 (Nat.le_of_ble_eq_true rfl) rfl ?_
    refine h_iconst (nI 1) dL_ifPaid_15 (by decide) ?_
    exact h_iret rfl dL_ifPaid_16 ⟨Nat.le_of_eq (Nat.zero_add _), Nat.le_of_eq (Nat.zero_add _)⟩ ⟨rfl, h2⟩
def ML_orderMatters (cs : Nat × Nat) : MI := (yL_orderMatters, cL_orderMatters, 5, (some .int), { frames := 8, locals := 163, cells := cs.1, slots := cs.2 })
abbrev hhL_orderMatters : List (Nat × Nat × Nat × Nat) := [(0, 10, 13, 13), (0, 10, 17, 15), (0, 10, 21, 26)]
theorem ok_L_orderMatters (cs : Nat × Nat) : hm_M (ML_orderMatters cs) hhL_orderMatters 4 := ⟨show Cond.codeWith yL_orderMatters cL_orderMatters 5 (some .int) [(0, 10, 13, 13), (0, 10, 17, 15), (0, 10, 21, 26)] ∈ wA from wA_i 920 (by decide +kernel) rfl, show Cond.initialized RL ∈ wA from wA_i 54 (by decide +kernel) rfl, show (yL_orderMatters.cls ≠ "java/lang/invoke/MethodHandle" ∧ yL_orderMatters.cls ≠ "java/lang/invoke/VarHandle" ∧ (parseMethodDescriptor yL_orderMatters.desc).map (fun d => d.parameters.length) = some 4) from by decide +kernel⟩
theorem st_L_orderMatters : Cond.static yL_orderMatters ∈ wA := wA_i 919 (by decide +kernel) rfl
theorem hL_orderMatters_0 (g : Gp) (cs : Nat × Nat) {m : Mm} {d o : Nat} {x y : Int32} {v : Int32} {Qy : Rs → Mm → Prop} {P : Mm → Prop} (ht : tg m d = (9, 0)) (hC : Cn g (MX9_orderMatters cs) [.ref d, .int x, .int y] m Qy) (hQ : ∀ r m1, Qy r m1 → r = .inl (some (.int v)) ∧ P m1) (ho : ∀ m1, P m1 → tg m1 o = (18, 1)) : Hn g (ML_orderMatters cs) hhL_orderMatters [.ref d, .int x, .int y, .ref o] m (fun r m1 => r = .inl (some (.int (nI 0))) ∧ ∃ m0, P m0 ∧ m1 = sJ m0 o 0 v.toInt64) := by
  refine Hn.of pn_L (Nat.le_of_ble_eq_true rfl) rfl ?_
  refine h_aload_n 3 dL_orderMatters_0 rfl rfl ?_
  refine h_iconst (nI 0) dL_orderMatters_1 (by decide) ?_
  refine h_aload_n 0 dL_orderMatters_2 rfl rfl ?_
  refine h_iload_n 1 dL_orderMatters_3 rfl rfl ?_
  refine h_iload_n 2 dL_orderMatters_4 rfl rfl ?_
  refine h_callV _ _ hC (ok_X9_orderMatters _) mlL_88 in_X9_orderMatters se_X9_orderMatters (by rw [ht]; rfl) rfl rfl ⟨Nat.le_of_ble_eq_true rfl, Nat.le_of_ble_eq_true rfl⟩ (by exact Nat.le_of_ble_eq_true rfl) ⟨Nat.le_of_eq (Nat.zero_add _), Nat.le_of_eq (Nat.zero_add _)⟩ dL_orderMatters_5 rfl (fun v9 m1 h => ?_) (fun E m1 h => by cases (hQ _ _ h).1)
  obtain ⟨h1, h2⟩ := hQ _ _ h
  cases h1
  refine h_i2l dL_orderMatters_8 ?_
  refine h_last 0 (by rw [ho _ h2]) (by decide) (by rw [ho _ h2]; decide) dL_orderMatters_9 ?_
  refine h_goto 25 dL_orderMatters_10 (by decide) ?_
  refine h_iconst (nI 0) dL_orderMatters_25 (by decide) ?_
  exact h_iret rfl dL_orderMatters_26 ⟨Nat.le_of_eq (Nat.zero_add _), Nat.le_of_eq (Nat.zero_add _)⟩ ⟨rfl, _, h2, rfl⟩
theorem hL_orderMatters_x1 (g : Gp) {m : Mm} {d o : Nat} {x y : Int32} (ht : tg m d = (9, 0)) (hC : Xn g (MX9_orderMatters (1, 6)) [.ref d, .int x, .int y] m "java/lang/IndexOutOfBoundsException") : Hn g (ML_orderMatters (1, 6)) hhL_orderMatters [.ref d, .int x, .int y, .ref o] m (fun r m1 => r = .inl (some (.int (nI 1))) ∧ ∃ n, fz m ≤ n ∧ m1 = gr m n) := by
  refine Hn.of pn_L (Nat.le_of_ble_eq_true rfl) rfl ?_
  refine h_aload_n 3 dL_orderMatters_0 rfl rfl ?_
  refine h_iconst (nI 0) dL_orderMatters_1 (by decide) ?_
  refine h_aload_n 0 dL_orderMatters_2 rfl rfl ?_
  refine h_iload_n 1 dL_orderMatters_3 rfl rfl ?_
  refine h_iload_n 2 dL_orderMatters_4 rfl rfl ?_
  refine h_callV _ _ hC (ok_X9_orderMatters _) mlL_88 in_X9_orderMatters se_X9_orderMatters (by rw [ht]; rfl) rfl rfl ⟨Nat.le_of_ble_eq_true rfl, Nat.le_of_ble_eq_true rfl⟩ (by exact Nat.le_of_ble_eq_true rfl) ⟨Nat.le_of_eq (Nat.zero_add _), Nat.le_of_eq (Nat.zero_add _)⟩ dL_orderMatters_5 rfl (fun v9 m1 h => by cases h.1) (fun E m1 h => ?_)
  obtain ⟨h1, h2⟩ := h
  cases h1
  refine ⟨[], [⟨0, 10, 17, 15⟩, ⟨0, 10, 21, 26⟩], ⟨0, 10, 13, 13⟩, "java/lang/IndexOutOfBoundsException", rfl, fun z hz => ?_, rfl, by decide, klL_13, ca_IndexOutOfBoundsException, fun q => ?_⟩
  · cases hz
  · refine h_astore 4 ((4, Value.ref q) :: [(0, .ref d), (1, .int x), (2, .int y), (3, .ref o)]) dL_orderMatters_13 (Nat.le_of_ble_eq_true rfl) rfl ?_
    refine h_iconst (nI 1) dL_orderMatters_15 (by decide) ?_
    exact h_iret rfl dL_orderMatters_16 ⟨Nat.le_of_eq (Nat.zero_add _), Nat.le_of_eq (Nat.zero_add _)⟩ ⟨rfl, h2⟩
theorem hL_orderMatters_x2 (g : Gp) {m : Mm} {d o : Nat} {x y : Int32} (ht : tg m d = (9, 0)) (hC : Xn g (MX9_orderMatters (1, 6)) [.ref d, .int x, .int y] m "java/lang/IllegalArgumentException") : Hn g (ML_orderMatters (1, 6)) hhL_orderMatters [.ref d, .int x, .int y, .ref o] m (fun r m1 => r = .inl (some (.int (nI 2))) ∧ ∃ n, fz m ≤ n ∧ m1 = gr m n) := by
  refine Hn.of pn_L (Nat.le_of_ble_eq_true rfl) rfl ?_
  refine h_aload_n 3 dL_orderMatters_0 rfl rfl ?_
  refine h_iconst (nI 0) dL_orderMatters_1 (by decide) ?_
  refine h_aload_n 0 dL_orderMatters_2 rfl rfl ?_
  refine h_iload_n 1 dL_orderMatters_3 rfl rfl ?_
  refine h_iload_n 2 dL_orderMatters_4 rfl rfl ?_
  refine h_callV _ _ hC (ok_X9_orderMatters _) mlL_88 in_X9_orderMatters se_X9_orderMatters (by rw [ht]; rfl) rfl rfl ⟨Nat.le_of_ble_eq_true rfl, Nat.le_of_ble_eq_true rfl⟩ (by exact Nat.le_of_ble_eq_true rfl) ⟨Nat.le_of_eq (Nat.zero_add _), Nat.le_of_eq (Nat.zero_add _)⟩ dL_orderMatters_5 rfl (fun v9 m1 h => by cases h.1) (fun E m1 h => ?_)
  obtain ⟨h1, h2⟩ := h
  cases h1
  refine ⟨[⟨0, 10, 13, 13⟩], [⟨0, 10, 21, 26⟩], ⟨0, 10, 17, 15⟩, "java/lang/IllegalArgumentException", rfl, fun z hz => ?_, rfl, by decide, klL_15, ca_IllegalArgumentException, fun q => ?_⟩
  · rcases List.mem_cons.mp hz with rfl | hz
    · exact Or.inr ⟨by decide, "java/lang/IndexOutOfBoundsException", klL_13, Or.inl ⟨rfl, rfl⟩⟩
    cases hz
  · refine h_astore 4 ((4, Value.ref q) :: [(0, .ref d), (1, .int x), (2, .int y), (3, .ref o)]) dL_orderMatters_17 (Nat.le_of_ble_eq_true rfl) rfl ?_
    refine h_iconst (nI 2) dL_orderMatters_19 (by decide) ?_
    exact h_iret rfl dL_orderMatters_20 ⟨Nat.le_of_eq (Nat.zero_add _), Nat.le_of_eq (Nat.zero_add _)⟩ ⟨rfl, h2⟩
theorem hL_orderMatters_x3 (g : Gp) {m : Mm} {d o : Nat} {x y : Int32} (ht : tg m d = (9, 0)) (hC : Xn g (MX9_orderMatters (1, 6)) [.ref d, .int x, .int y] m "java/lang/IllegalStateException") : Hn g (ML_orderMatters (1, 6)) hhL_orderMatters [.ref d, .int x, .int y, .ref o] m (fun r m1 => r = .inl (some (.int (nI 3))) ∧ ∃ n, fz m ≤ n ∧ m1 = gr m n) := by
  refine Hn.of pn_L (Nat.le_of_ble_eq_true rfl) rfl ?_
  refine h_aload_n 3 dL_orderMatters_0 rfl rfl ?_
  refine h_iconst (nI 0) dL_orderMatters_1 (by decide) ?_
  refine h_aload_n 0 dL_orderMatters_2 rfl rfl ?_
  refine h_iload_n 1 dL_orderMatters_3 rfl rfl ?_
  refine h_iload_n 2 dL_orderMatters_4 rfl rfl ?_
  refine h_callV _ _ hC (ok_X9_orderMatters _) mlL_88 in_X9_orderMatters se_X9_orderMatters (by rw [ht]; rfl) rfl rfl ⟨Nat.le_of_ble_eq_true rfl, Nat.le_of_ble_eq_true rfl⟩ (by exact Nat.le_of_ble_eq_true rfl) ⟨Nat.le_of_eq (Nat.zero_add _), Nat.le_of_eq (Nat.zero_add _)⟩ dL_orderMatters_5 rfl (fun v9 m1 h => by cases h.1) (fun E m1 h => ?_)
  obtain ⟨h1, h2⟩ := h
  cases h1
  refine ⟨[⟨0, 10, 13, 13⟩, ⟨0, 10, 17, 15⟩], [], ⟨0, 10, 21, 26⟩, "java/lang/IllegalStateException", rfl, fun z hz => ?_, rfl, by decide, klL_26, ca_IllegalStateException, fun q => ?_⟩
  · rcases List.mem_cons.mp hz with rfl | hz
    · exact Or.inr ⟨by decide, "java/lang/IndexOutOfBoundsException", klL_13, Or.inr (Or.inl ⟨rfl, rfl⟩)⟩
    rcases List.mem_cons.mp hz with rfl | hz
    · exact Or.inr ⟨by decide, "java/lang/IllegalArgumentException", klL_15, Or.inr (Or.inr ⟨rfl, rfl⟩)⟩
    cases hz
  · refine h_astore 4 ((4, Value.ref q) :: [(0, .ref d), (1, .int x), (2, .int y), (3, .ref o)]) dL_orderMatters_21 (Nat.le_of_ble_eq_true rfl) rfl ?_
    refine h_iconst (nI 3) dL_orderMatters_23 (by decide) ?_
    exact h_iret rfl dL_orderMatters_24 ⟨Nat.le_of_eq (Nat.zero_add _), Nat.le_of_eq (Nat.zero_add _)⟩ ⟨rfl, h2⟩
