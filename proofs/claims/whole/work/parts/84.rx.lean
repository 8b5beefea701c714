set_option maxRecDepth 100000 in
theorem cx_X9_rate_1 (g : Gp) (cs : Nat × Nat) {m : Mm} {d B c : Nat} {z : Nat → Int32} (hD : DkT m d) (hR : Rp m B (d + 1) z) (hz : ZOk c z) {p x : Int32} (h : ¬ inb p 4) : Xn g (MX9_rate (1, 6)) [.ref (d), .int (p), .int (x)] m "java/lang/IndexOutOfBoundsException" := by
  have hz0 := hz.n0.hi
  have hz1 := hz.n1.hi
  refine Cn.of pn_X9 (Nat.le_of_ble_eq_true rfl) rfl ?_
  refine g_iload_n 1 dX9_rate_0 rfl rfl ?_
  refine gN_iconst 4 dX9_rate_1 (by decide) ?_
  exact gx_callS _ _ (cx_X9_checkNumber g (0, 0) (N := 4) (by omega) (h)) (ok_X9_checkNumber _) mlX9_30 st_X9_checkNumber rfl ⟨Nat.le_of_ble_eq_true rfl, Nat.le_of_ble_eq_true rfl⟩ (by exact Nat.le_of_ble_eq_true rfl) ⟨Nat.le_of_ble_eq_true rfl, Nat.le_of_ble_eq_true rfl⟩ dX9_rate_2 rfl (fun n hn => ⟨rfl, n, hn, rfl⟩)
set_option maxRecDepth 100000 in
theorem cx_X9_rate_2 (g : Gp) (cs : Nat × Nat) {m : Mm} {d B c : Nat} {z : Nat → Int32} (hD : DkT m d) (hR : Rp m B (d + 1) z) (hz : ZOk c z) {j : Nat} (hj : j < 4) {x : Int32} (h : ¬ (nI 1 ≤ x ∧ x ≤ nI 99)) : Xn g (MX9_rate (1, 6)) [.ref (d), .int (nI (j)), .int (x)] m "java/lang/IllegalArgumentException" := by
  have hz0 := hz.n0.hi
  have hz1 := hz.n1.hi
  refine Cn.of pn_X9 (Nat.le_of_ble_eq_true rfl) rfl ?_
  refine g_iload_n 1 dX9_rate_0 rfl rfl ?_
  refine gN_iconst 4 dX9_rate_1 (by decide) ?_
  refine gd_callS _ _ _ _ (cn_X9_checkNumber g (0, 0) (j := j) (N := 4) (by omega) (by omega)) ⟨rfl, rfl⟩ (ok_X9_checkNumber _) mlX9_30 st_X9_checkNumber rfl ⟨Nat.le_of_ble_eq_true rfl, Nat.le_of_ble_eq_true rfl⟩ (by exact Nat.le_of_ble_eq_true rfl) ⟨Nat.zero_le _, Nat.zero_le _⟩ dX9_rate_2 rfl ?_
  refine g_iload_n 2 dX9_rate_5 rfl rfl ?_
  refine gN_iconst 1 dX9_rate_6 (by decide) ?_
  refine gN_bipush 99 dX9_rate_7 (by decide) ?_
  exact gx_callS _ _ (cx_X9_checkRange g (0, 0) (h)) (ok_X9_checkRange _) mlX9_34 st_X9_checkRange rfl ⟨Nat.le_of_ble_eq_true rfl, Nat.le_of_ble_eq_true rfl⟩ (by exact Nat.le_of_ble_eq_true rfl) ⟨Nat.le_of_ble_eq_true rfl, Nat.le_of_ble_eq_true rfl⟩ dX9_rate_9 rfl (fun n hn => ⟨rfl, n, hn, rfl⟩)
set_option maxRecDepth 100000 in
theorem cx_X9_pays_1 (g : Gp) (cs : Nat × Nat) {m : Mm} {d B c : Nat} {z : Nat → Int32} (hD : DkT m d) (hR : Rp m B (d + 1) z) (hz : ZOk c z) {p x : Int32} (h : ¬ inb p 5) : Xn g (MX9_pays (1, 6)) [.ref (d), .int (p), .int (x)] m "java/lang/IndexOutOfBoundsException" := by
  have hz0 := hz.n0.hi
  have hz1 := hz.n1.hi
  refine Cn.of pn_X9 (Nat.le_of_ble_eq_true rfl) rfl ?_
  refine g_iload_n 1 dX9_pays_0 rfl rfl ?_
  refine gN_iconst 5 dX9_pays_1 (by decide) ?_
  exact gx_callS _ _ (cx_X9_checkNumber g (0, 0) (N := 5) (by omega) (h)) (ok_X9_checkNumber _) mlX9_30 st_X9_checkNumber rfl ⟨Nat.le_of_ble_eq_true rfl, Nat.le_of_ble_eq_true rfl⟩ (by exact Nat.le_of_ble_eq_true rfl) ⟨Nat.le_of_ble_eq_true rfl, Nat.le_of_ble_eq_true rfl⟩ dX9_pays_2 rfl (fun n hn => ⟨rfl, n, hn, rfl⟩)
set_option maxRecDepth 100000 in
theorem cx_X9_pays_2 (g : Gp) (cs : Nat × Nat) {m : Mm} {d B c : Nat} {z : Nat → Int32} (hD : DkT m d) (hR : Rp m B (d + 1) z) (hz : ZOk c z) {j : Nat} (hj : j < 5) {x : Int32} (h : ¬ (nI 0 ≤ x ∧ x ≤ nI 100)) : Xn g (MX9_pays (1, 6)) [.ref (d), .int (nI (j)), .int (x)] m "java/lang/IllegalArgumentException" := by
  have hz0 := hz.n0.hi
  have hz1 := hz.n1.hi
  refine Cn.of pn_X9 (Nat.le_of_ble_eq_true rfl) rfl ?_
  refine g_iload_n 1 dX9_pays_0 rfl rfl ?_
  refine gN_iconst 5 dX9_pays_1 (by decide) ?_
  refine gd_callS _ _ _ _ (cn_X9_checkNumber g (0, 0) (j := j) (N := 5) (by omega) (by omega)) ⟨rfl, rfl⟩ (ok_X9_checkNumber _) mlX9_30 st_X9_checkNumber rfl ⟨Nat.le_of_ble_eq_true rfl, Nat.le_of_ble_eq_true rfl⟩ (by exact Nat.le_of_ble_eq_true rfl) ⟨Nat.zero_le _, Nat.zero_le _⟩ dX9_pays_2 rfl ?_
  refine g_iload_n 2 dX9_pays_5 rfl rfl ?_
  refine gN_iconst 0 dX9_pays_6 (by decide) ?_
  refine gN_bipush 100 dX9_pays_7 (by decide) ?_
  exact gx_callS _ _ (cx_X9_checkRange g (0, 0) (h)) (ok_X9_checkRange _) mlX9_34 st_X9_checkRange rfl ⟨Nat.le_of_ble_eq_true rfl, Nat.le_of_ble_eq_true rfl⟩ (by exact Nat.le_of_ble_eq_true rfl) ⟨Nat.le_of_ble_eq_true rfl, Nat.le_of_ble_eq_true rfl⟩ dX9_pays_9 rfl (fun n hn => ⟨rfl, n, hn, rfl⟩)
set_option maxRecDepth 100000 in
theorem cx_X9_set_1 (g : Gp) (cs : Nat × Nat) {m : Mm} {d B c : Nat} {z : Nat → Int32} (hD : DkT m d) (hR : Rp m B (d + 1) z) (hz : ZOk c z) {p x : Int32} (h : ¬ inb p 2) : Xn g (MX9_set (1, 6)) [.ref (d), .int (p), .int (x)] m "java/lang/IndexOutOfBoundsException" := by
  have hz0 := hz.n0.hi
  have hz1 := hz.n1.hi
  refine Cn.of pn_X9 (Nat.le_of_ble_eq_true rfl) rfl ?_
  refine g_iload_n 1 dX9_set_0 rfl rfl ?_
  refine gN_iconst 2 dX9_set_1 (by decide) ?_
  exact gx_callS _ _ (cx_X9_checkNumber g (0, 0) (N := 2) (by omega) (h)) (ok_X9_checkNumber _) mlX9_30 st_X9_checkNumber rfl ⟨Nat.le_of_ble_eq_true rfl, Nat.le_of_ble_eq_true rfl⟩ (by exact Nat.le_of_ble_eq_true rfl) ⟨Nat.le_of_ble_eq_true rfl, Nat.le_of_ble_eq_true rfl⟩ dX9_set_2 rfl (fun n hn => ⟨rfl, n, hn, rfl⟩)
set_option maxRecDepth 100000 in
theorem cx_X9_set_20 (g : Gp) (cs : Nat × Nat) {m : Mm} {d B c : Nat} {z : Nat → Int32} (hD : DkT m d) (hR : Rp m B (d + 1) z) (hz : ZOk c z) (hC : CsT g m) {x : Int32} (h : ¬ (nI 0 ≤ x ∧ x ≤ nI 100)) : Xn g (MX9_set (1, 6)) [.ref (d), .int (nI (0)), .int (x)] m "java/lang/IllegalArgumentException" := by
  have hz0 := hz.n0.hi
  have hz1 := hz.n1.hi
  refine Cn.of pn_X9 (Nat.le_of_ble_eq_true rfl) rfl ?_
  refine g_iload_n 1 dX9_set_0 rfl rfl ?_
  refine gN_iconst 2 dX9_set_1 (by decide) ?_
  refine gd_callS _ _ _ _ (cn_X9_checkNumber g (0, 0) (j := 0) (N := 2) (by omega) (by omega)) ⟨rfl, rfl⟩ (ok_X9_checkNumber _) mlX9_30 st_X9_checkNumber rfl ⟨Nat.le_of_ble_eq_true rfl, Nat.le_of_ble_eq_true rfl⟩ (by exact Nat.le_of_ble_eq_true rfl) ⟨Nat.zero_le _, Nat.zero_le _⟩ dX9_set_2 rfl ?_
  refine g_iload_n 2 dX9_set_5 rfl rfl ?_
  refine gN_iconst 0 dX9_set_6 (by decide) ?_
  refine g_gets1 fhX9_61 dX9_set_7 ?_
  refine g_iload_n 1 dX9_set_10 rfl rfl ?_
  refine gN_iald19 2 (hC.2.1.1) (by first | omega | exact b01_lt _) (by first | omega | exact b01_lt _) dX9_set_11 ?_
  refine g_ei (nI (100)) (hC.2.1.2.1) ?_
  exact gx_callS _ _ (cx_X9_checkRange g (0, 0) (h)) (ok_X9_checkRange _) mlX9_34 st_X9_checkRange rfl ⟨Nat.le_of_ble_eq_true rfl, Nat.le_of_ble_eq_true rfl⟩ (by exact Nat.le_of_ble_eq_true rfl) ⟨Nat.le_of_ble_eq_true rfl, Nat.le_of_ble_eq_true rfl⟩ dX9_set_12 rfl (fun n hn => ⟨rfl, n, hn, rfl⟩)
set_option maxRecDepth 100000 in
theorem cx_X9_set_21 (g : Gp) (cs : Nat × Nat) {m : Mm} {d B c : Nat} {z : Nat → Int32} (hD : DkT m d) (hR : Rp m B (d + 1) z) (hz : ZOk c z) (hC : CsT g m) {x : Int32} (h : ¬ (nI 0 ≤ x ∧ x ≤ nI 200)) : Xn g (MX9_set (1, 6)) [.ref (d), .int (nI (1)), .int (x)] m "java/lang/IllegalArgumentException" := by
  have hz0 := hz.n0.hi
  have hz1 := hz.n1.hi
  refine Cn.of pn_X9 (Nat.le_of_ble_eq_true rfl) rfl ?_
  refine g_iload_n 1 dX9_set_0 rfl rfl ?_
  refine gN_iconst 2 dX9_set_1 (by decide) ?_
  refine gd_callS _ _ _ _ (cn_X9_checkNumber g (0, 0) (j := 1) (N := 2) (by omega) (by omega)) ⟨rfl, rfl⟩ (ok_X9_checkNumber _) mlX9_30 st_X9_checkNumber rfl ⟨Nat.le_of_ble_eq_true rfl, Nat.le_of_ble_eq_true rfl⟩ (by exact Nat.le_of_ble_eq_true rfl) ⟨Nat.zero_le _, Nat.zero_le _⟩ dX9_set_2 rfl ?_
  refine g_iload_n 2 dX9_set_5 rfl rfl ?_
  refine gN_iconst 0 dX9_set_6 (by decide) ?_
  refine g_gets1 fhX9_61 dX9_set_7 ?_
  refine g_iload_n 1 dX9_set_10 rfl rfl ?_
  refine gN_iald19 2 (hC.2.1.1) (by first | omega | exact b01_lt _) (by first | omega | exact b01_lt _) dX9_set_11 ?_
  refine g_ei (nI (200)) (hC.2.1.2.2) ?_
  exact gx_callS _ _ (cx_X9_checkRange g (0, 0) (h)) (ok_X9_checkRange _) mlX9_34 st_X9_checkRange rfl ⟨Nat.le_of_ble_eq_true rfl, Nat.le_of_ble_eq_true rfl⟩ (by exact Nat.le_of_ble_eq_true rfl) ⟨Nat.le_of_ble_eq_true rfl, Nat.le_of_ble_eq_true rfl⟩ dX9_set_12 rfl (fun n hn => ⟨rfl, n, hn, rfl⟩)
