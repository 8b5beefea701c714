/-! THE CLASS: adding and changing rows -/
theorem HsT.fr {m m1 : Mm} {H : Nat} (h : HsT m H) (ha : ∀ x, H ≤ x → x < H + 284 → agr m m1 x) : HsT m1 H := by
  refine ⟨⟨(ha _ (by omega) (by omega)).1.trans h.t, (congrFun (ha _ (by omega) (by omega)).2.2 0).trans h.r, (ha _ (by omega) (by omega)).1.trans h.t1⟩, fun i hi => ⟨(congrFun (ha _ (by omega) (by omega)).2.2 i).trans (h.rs hi), (h.s hi).fr (fun x h1 h2 => (ha x (by omega) (by omega)).1) (fun x h1 h2 _ => (ha x (by omega) (by omega)).2.2)⟩⟩
theorem HsV.fr {m m1 : Mm} {B H c fst k : Nat} {rows : Nat → Nat → Int32} (h : HsV m B H c fst k rows) (hz : fz m ≤ fz m1) (ha : ∀ x, H ≤ x → x < H + 284 → agr m m1 x) (hb : ∀ x, B ≤ x → x < fz m → agr m m1 x) : HsV m1 B H c fst k rows := by
  obtain ⟨⟨h1, h2, h3, h4⟩, h5⟩ := h
  refine ⟨⟨h1, (congrFun (ha _ (by omega) (by omega)).2.1 1).trans h2, (congrFun (ha _ (by omega) (by omega)).2.1 2).trans h3, h4⟩, fun i hi => ⟨(h5 i hi).1.fr (h5 i hi).2.n0.hi (fun x q1 q2 => (ha x (by omega) (by omega)).2) hz hb, (h5 i hi).2⟩⟩
theorem DkT.fr {m m1 : Mm} {d : Nat} (h : DkT m d) (ha : ∀ x, d ≤ x → x < d + 334 → agr m m1 x) : DkT m1 d := by
  have a0 := ha d (by omega) (by omega)
  have a1 := ha (d + 332) (by omega) (by omega)
  refine ⟨⟨⟨a0.1.trans h.t, (congrFun a0.2.2 0).trans h.r0, (congrFun a0.2.2 1).trans h.r1, (congrFun a0.2.2 2).trans h.r2⟩, a1.1.trans h.tb, (congrFun a1.2.2 0).trans h.rb, (ha _ (by omega) (by omega)).1.trans h.tc⟩, h.s.fr (fun x h1 h2 => (ha x (by omega) (by omega)).1) (fun x h1 h2 _ => (ha x (by omega) (by omega)).2.2), h.h.fr (fun x h1 h2 => ha x (by omega) (by omega))⟩
theorem DkV.fr {m m1 : Mm} {d B c k kb : Nat} {z : Nat → Int32} {rows : Nat → Nat → Int32} {f : Nat → Int32} (h : DkV m d B c k kb z rows f) (h0 : nv (z 0) ≤ 10) (hz : fz m ≤ fz m1) (ha : ∀ x, d ≤ x → x < d + 334 → agr m m1 x) (hb : ∀ x, B ≤ x → x < fz m → agr m m1 x) : DkV m1 d B c k kb z rows f := by
  obtain ⟨hD, hR, ⟨fst, hV⟩, hl, hk6, hf⟩ := h
  refine ⟨hD.fr ha, hR.fr h0 (fun x q1 q2 => (ha x (by omega) (by omega)).2) hz hb, ⟨fst, hV.fr hz (fun x q1 q2 => ha x (by omega) (by omega)) hb⟩, (congrFun (ha _ (by omega) (by omega)).2.1 1).trans hl, hk6, fun e he => (congrFun (ha _ (by omega) (by omega)).2.1 e).trans (hf e he)⟩
/-- a segment more -/
theorem Rp.ad {m m2 : Mm} {B S n : Nat} {z z' : Nat → Int32} (hR : Rp m B S z) (h0 : nv (z 0) = n) (hn : n < 10) (hz : ZLn z) (hfz : fz m ≤ fz m2) (hb : ∀ x, B ≤ x → x < fz m → agr m m2 x) (ha : ∀ x, S ≤ x → x < S + 47 → x ≠ S → x ≠ S + 37 + n → im m2 x = im m x ∧ rf m2 x = rf m x) (h6 : im m2 S 6 = z' 0) (e0 : z' 0 = nI (n + 1)) (hz' : ∀ j, j ≠ 0 → (j < 79 + 22 * n ∨ 79 + 22 * n + 22 ≤ j) → z' j = z j) (hg : SgI m2 (S + 37 + n) z' (79 + 22 * n)) (hsr : SgR m2 B (S + 37 + n) z' (79 + 22 * n)) : Rp m2 B S z' := by
  subst h0
  obtain ⟨⟨c0, c1, c2, c3⟩, hT, hB, hW, hSg, hM⟩ := hR
  have hm := fun x h1 h2 h3 h4 => (ha x h1 h2 h3 h4).1
  refine ⟨⟨h6, ?_, ?_, ?_⟩, fun p hp => ?_, fun p hp => ?_, fun p hp => ⟨fun t ht => ?_, ?_⟩, fun q hq => ?_, fun j hj => ?_⟩
  · rw [hm _ (by omega) (by omega) (by omega) (by omega), hz' _ (by omega) (by omega)]; exact c1
  · rw [hm _ (by omega) (by omega) (by omega) (by omega), hz' _ (by omega) (by omega)]; exact c2
  · rw [hm _ (by omega) (by omega) (by omega) (by omega), hz' _ (by omega) (by omega)]; exact c3
  · rw [hm _ (by omega) (by omega) (by omega) (by omega), hz' _ (by omega) (by omega), hz' _ (by omega) (by omega), hz' _ (by omega) (by omega), hz' _ (by omega) (by omega), hz' _ (by omega) (by omega)]; exact hT p hp
  · rw [hm _ (by omega) (by omega) (by omega) (by omega), hz' _ (by omega) (by omega), hz' _ (by omega) (by omega), hz' _ (by omega) (by omega)]; exact hB p hp
  · rw [hm _ (by omega) (by omega) (by omega) (by omega), hz' _ (by omega) (by omega)]; exact (hW p hp).1 t ht
  · rw [hm _ (by omega) (by omega) (by omega) (by omega), hz' _ (by omega) (by omega)]; exact (hW p hp).2
  · rw [e0, nv_nI (by omega)] at hq
    by_cases e : q = nv (z 0)
    · subst e; exact ⟨hg, hsr⟩
    · have hn2 := hz.2.2.1 q (by omega)
      obtain ⟨a1, q1, a2, a3⟩ := hSg q (by omega)
      refine ⟨?_, q1, by rw [(ha _ (by omega) (by omega) (by omega) (by omega)).2]; exact a2, (a3.fr (m1 := m2) hfz hb).cg (by rw [hz' _ (by omega) (by omega)]) (fun e he => hz' _ (by omega) (by omega))⟩
      unfold SgI at a1 ⊢
      rw [hm _ (by omega) (by omega) (by omega) (by omega), hz' _ (by omega) (by omega), hz' _ (by omega) (by omega), hz' _ (by omega) (by omega), hz' _ (by omega) (by omega), hz' _ (by omega) (by omega), hz' _ (by omega) (by omega), hz' _ (by omega) (by omega), hz' _ (by omega) (by omega), hz' _ (by omega) (by omega)]
      exact a1
  · rw [hz' _ (by omega) (by omega)] at hj
    have hn2 := hz.2.2.2 j hj
    obtain ⟨q, q1, q2⟩ := hM j hj
    exact ⟨q, by rw [(ha _ (by omega) (by omega) (by omega) (by omega)).2]; exact q1, (q2.fr (m1 := m2) hfz hb).cg (by rw [hz' _ (by omega) (by omega)]) (fun e he => hz' _ (by omega) (by omega))⟩
section ADZ
variable {N : Nat} {z f : Nat → Int32} {k t : Nat}
theorem adZ_s0 : adZ N z f k (t + 1) 0 = nI (N + t + 1) := u1_s _ _ _
theorem adZ_o {j : Nat} (h0 : j ≠ 0) (h : j < 79 + 22 * (N + t) ∨ 79 + 22 * (N + t) + 22 ≤ j) : adZ N z f k (t + 1) j = adZ N z f k t j := by
  show u1 (txZ (opZ (adZ N z f k t) (N + t)) (N + t) f k t) 0 (nI (N + t + 1)) j = _
  unfold txZ opZ cpz
  rw [u1_n _ _ _ h0, if_neg (by omega), u1_n _ _ _ (by omega), u1_n _ _ _ (by omega), if_neg (by omega)]
theorem adZ_p : adZ N z f k (t + 1) (79 + 22 * (N + t)) = nI (ln f k t) := by
  show u1 (txZ (opZ (adZ N z f k t) (N + t)) (N + t) f k t) 0 (nI (N + t + 1)) _ = _
  unfold txZ cpz
  rw [u1_n _ _ _ (by omega), if_neg (by omega), u1_s]
theorem adZ_k {i : Nat} (h1 : 1 ≤ i) (h2 : i < 10) (h7 : i ≠ 7) : adZ N z f k (t + 1) (79 + 22 * (N + t) + i) = nI 0 := by
  show u1 (txZ (opZ (adZ N z f k t) (N + t)) (N + t) f k t) 0 (nI (N + t + 1)) _ = _
  unfold txZ opZ cpz
  rw [u1_n _ _ _ (by omega), if_neg (by omega), u1_n _ _ _ (by omega), u1_n _ _ _ (by omega), if_pos (by omega)]
theorem adZ_7 : adZ N z f k (t + 1) (79 + 22 * (N + t) + 7) = -1 := by
  show u1 (txZ (opZ (adZ N z f k t) (N + t)) (N + t) f k t) 0 (nI (N + t + 1)) _ = _
  unfold txZ opZ cpz
  rw [u1_n _ _ _ (by omega), if_neg (by omega), u1_n _ _ _ (by omega), u1_s]
theorem adZ_w {e : Nat} (h : e < ln f k t) : adZ N z f k (t + 1) (79 + 22 * (N + t) + 10 + e) = f (ps f k t + e) - nI 97 := by
  have h12 := ln_12 f k t
  show u1 (txZ (opZ (adZ N z f k t) (N + t)) (N + t) f k t) 0 (nI (N + t + 1)) _ = _
  unfold txZ cpz
  rw [u1_n _ _ _ (by omega), if_pos (by omega)]
  unfold txF
  rw [show 79 + 22 * (N + t) + 10 + e - (79 + 22 * (N + t) + 10) = e by omega, if_pos h]
theorem adZ_ln (h0 : adZ N z f k t 0 = nI (N + t)) (hT : N + t < 10) (h : ZLn (adZ N z f k t)) : ZLn (adZ N z f k (t + 1)) := by
  obtain ⟨h1, h2, h3, h4⟩ := h
  rw [h0, nv_nI (by omega)] at h3
  have h12 := ln_12 f k t
  refine ⟨by rw [adZ_s0, nv_nI (by omega)]; omega, by rw [adZ_o (by omega) (by omega)]; exact h2, fun s hs => ?_, fun r hr => ?_⟩
  · rw [adZ_s0, nv_nI (by omega)] at hs
    by_cases e : s = N + t
    · rw [e, adZ_p, nv_nI (by omega)]; exact h12
    · rw [adZ_o (by omega) (by omega)]; exact h3 s (by omega)
  · rw [adZ_o (by omega) (by omega)] at hr ⊢
    exact h4 r hr
end ADZ
/-- a letter is a word -/
theorem isl_w {f : Nat → Int32} {k p : Nat} (h : isl f k p) : NR (f p - nI 97) 0 7 := by
  obtain ⟨j, hj, e⟩ := inb_of h.2 (by decide)
  rw [e]
  exact ⟨by rw [nv_nI (by omega)], Nat.zero_le _, by rw [nv_nI (by omega)]; omega⟩
theorem ps_kk {f : Nat → Int32} {k t : Nat} (hok : okT f k) (ht : t ≤ lastT f k) : 0 < ln f k t ∧ ps f k t < k := by
  have h1 := ln_k (f := f) (k := k) ht
  rcases Nat.lt_or_ge t (lastT f k) with q | q
  · have hc := last_c (f := f) (k := k) q
    exact ⟨hc.1, by have := hc.1; omega⟩
  · obtain rfl : t = lastT f k := by omega
    exact ⟨hok.1, by have := hok.1; omega⟩
set_option maxRecDepth 100000 in
theorem cx_X9_add_2 (g : Gp) (cs : Nat × Nat) {m : Mm} {d B c kb : Nat} {z f : Nat → Int32} (hD : DkT m d) (hR : Rp m B (d + 1) z) (hz : ZOk c z) (hl : im m (d + 332) 1 = nI kb) (hk6 : kb ≤ 60) (hf : ∀ e, e < kb → im m (d + 333) e = f e) (h : ¬ okT f kb) : Xn g (MX9_add (1, 6)) [.ref (d)] m "java/lang/IllegalArgumentException" := by
  have hz0 := hz.n0.hi
  have hz1 := hz.n1.hi
  refine Cn.of pn_X9 (Nat.le_of_ble_eq_true rfl) rfl ?_
  refine g_aload_n 0 dX9_add_0 rfl rfl ?_
  refine gN_getR (d + 332) flX9_26 (fun _ _ _ => rfl) 0 (hD.t) (hD.r2) dX9_add_1 ?_
  refine gd_callV _ _ _ _ (cn_X1_isComplete g (0, 0) hD.tb hD.tc hD.rb hl hk6 hf) ⟨rfl, rfl⟩ (ok_X1_isComplete _) mlX9_148 in_X1_isComplete se_X1_isComplete 1 0 (hD.tb) rfl rfl rfl ⟨Nat.le_of_ble_eq_true rfl, Nat.le_of_ble_eq_true rfl⟩ (by exact Nat.le_of_ble_eq_true rfl) ⟨Nat.zero_le _, Nat.zero_le _⟩ dX9_add_4 rfl ?_
  exact gx_callS _ _ (cx_X9_checkArgument g (0, 0) (p := okT f kb) h) (ok_X9_checkArgument _) mlX9_152 st_X9_checkArgument rfl ⟨Nat.le_of_ble_eq_true rfl, Nat.le_of_ble_eq_true rfl⟩ (by exact Nat.le_of_ble_eq_true rfl) ⟨Nat.le_of_ble_eq_true rfl, Nat.le_of_ble_eq_true rfl⟩ dX9_add_7 rfl (fun n hn => ⟨rfl, n, hn, rfl⟩)
set_option maxRecDepth 100000 in
theorem cx_X9_add_3 (g : Gp) (cs : Nat × Nat) {m : Mm} {d B c kb : Nat} {z f : Nat → Int32} (hD : DkT m d) (hR : Rp m B (d + 1) z) (hz : ZOk c z) (hl : im m (d + 332) 1 = nI kb) (hk6 : kb ≤ 60) (hf : ∀ e, e < kb → im m (d + 333) e = f e) (hok : okT f kb) (h : ¬ (nv (z 0) + (lastT f kb + 1) ≤ 10)) : Xn g (MX9_add (1, 6)) [.ref (d)] m "java/lang/IllegalStateException" := by
  have hz0 := hz.n0.hi
  have hz1 := hz.n1.hi
  have hsm9 := sm_le (fun e => b01 (f e = nI 59)) 1 kb (fun e _ => b01_le _)
  have hsk : sm (fun e => b01 (f e = nI 59)) kb = lastT f kb := sem_k hok
  refine Cn.of pn_X9 (Nat.le_of_ble_eq_true rfl) rfl ?_
  refine g_aload_n 0 dX9_add_0 rfl rfl ?_
  refine gN_getR (d + 332) flX9_26 (fun _ _ _ => rfl) 0 (hD.t) (hD.r2) dX9_add_1 ?_
  refine gd_callV _ _ _ _ (cn_X1_isComplete g (0, 0) hD.tb hD.tc hD.rb hl hk6 hf) ⟨rfl, rfl⟩ (ok_X1_isComplete _) mlX9_148 in_X1_isComplete se_X1_isComplete 1 0 (hD.tb) rfl rfl rfl ⟨Nat.le_of_ble_eq_true rfl, Nat.le_of_ble_eq_true rfl⟩ (by exact Nat.le_of_ble_eq_true rfl) ⟨Nat.zero_le _, Nat.zero_le _⟩ dX9_add_4 rfl ?_
  refine gd_callS _ _ _ _ (cn_X9_checkArgument g (0, 0) (p := okT f kb) (hok)) ⟨rfl, rfl⟩ (ok_X9_checkArgument _) mlX9_152 st_X9_checkArgument rfl ⟨Nat.le_of_ble_eq_true rfl, Nat.le_of_ble_eq_true rfl⟩ (by exact Nat.le_of_ble_eq_true rfl) ⟨Nat.zero_le _, Nat.zero_le _⟩ dX9_add_7 rfl ?_
  refine g_join 35 (b01 (nv (z 0) + (lastT f kb + 1) ≤ 10)) ?_ (fun K_35 => ?_)
  · exact gx_callS _ _ (cx_X9_checkState g (0, 0) (p := nv (z 0) + (lastT f kb + 1) ≤ 10) h) (ok_X9_checkState _) mlX9_80 st_X9_checkState rfl ⟨Nat.le_of_ble_eq_true rfl, Nat.le_of_ble_eq_true rfl⟩ (by exact Nat.le_of_ble_eq_true rfl) ⟨Nat.le_of_ble_eq_true rfl, Nat.le_of_ble_eq_true rfl⟩ dX9_add_35 rfl (fun n hn => ⟨rfl, n, hn, rfl⟩)
  · refine g_aload_n 0 dX9_add_10 rfl rfl ?_
    refine gN_getR (d + 1) flX9_10 (fun _ _ _ => rfl) 0 (hD.t) (hD.r0) dX9_add_11 ?_
    refine gN_getI flX9_68 rfl 0 (hD.s.t) dX9_add_14 ?_
    refine g_ei (nI (nv (z 0))) (hR.c0.trans hz.n0.e) ?_
    refine g_aload_n 0 dX9_add_17 rfl rfl ?_
    refine gN_getR (d + 332) flX9_26 (fun _ _ _ => rfl) 0 (hD.t) (hD.r2) dX9_add_18 ?_
    refine gd_callV _ _ _ _ (cn_X1_rowCount g (0, 0) hD.tb hD.tc hD.rb hl hk6 hf) ⟨rfl, rfl⟩ (ok_X1_rowCount _) mlX9_155 in_X1_rowCount se_X1_rowCount 1 0 (hD.tb) rfl rfl rfl ⟨Nat.le_of_ble_eq_true rfl, Nat.le_of_ble_eq_true rfl⟩ (by exact Nat.le_of_ble_eq_true rfl) ⟨Nat.zero_le _, Nat.zero_le _⟩ dX9_add_21 rfl ?_
    refine gN_iadd ((nv (z 0)) + (1 + sm (fun e => b01 (f e = nI 59)) kb)) dX9_add_24 rfl ?_
    refine gN_bipush 10 dX9_add_25 (by decide) ?_
    refine gN_icmp_gt 34 dX9_add_27 (by decide) (by first | omega | exact b01_lt _) (by first | omega | exact b01_lt _) (fun h_27 => ?_) (fun h_27 => ?_)
    · refine gN_iconst 0 dX9_add_34 (by decide) ?_
      exact g_ei (nI (b01 (nv (z 0) + (lastT f kb + 1) ≤ 10))) (congrArg nI (show 0 = b01 (nv (z 0) + (lastT f kb + 1) ≤ 10) from by have hsk := sem_k hok; first | exact (b01_t (by omega)).symm | exact (b01_f (by omega)).symm)) K_35
    · refine gN_iconst 1 dX9_add_30 (by decide) ?_
      refine g_goto 35 dX9_add_31 (by decide) ?_
      exact g_ei (nI (b01 (nv (z 0) + (lastT f kb + 1) ≤ 10))) (congrArg nI (show 1 = b01 (nv (z 0) + (lastT f kb + 1) ≤ 10) from by have hsk := sem_k hok; first | exact (b01_t (by omega)).symm | exact (b01_f (by omega)).symm)) K_35
set_option maxRecDepth 100000 in
theorem lp_X9_add (g : Gp) {m0 : Mm} {d B c k kb N : Nat} {z : Nat → Int32} {rows : Nat → Nat → Int32} {f : Nat → Int32} (hB : d + 344 ≤ B) (hz : ZOk c z) (hN : z 0 = nI N) (hok : okT f kb) (hT : N + (lastT f kb + 1) ≤ 10) (K : ∀ m, Hd m0 m d → DkV m d B c k kb (adZ N z f kb (lastT f kb + 1)) rows f → G g (MX9_add (30, 230)) (kQ m0 d B c k 0 (adZ N z f kb (lastT f kb + 1)) rows f (some (.int (nI (N + (lastT f kb + 1)))))) 137 [(1, .int (nI (ps f kb (lastT f kb + 1)))), (0, .ref d)] [] (3 * (lastT f kb + 1), 23 * (lastT f kb + 1)) m) : ∀ j t : Nat, t + j = lastT f kb + 1 → ∀ m, B ≤ fz m → Hd m0 m d → DkV m d B c k kb (adZ N z f kb t) rows f → ZLn (adZ N z f kb t) → G g (MX9_add (30, 230)) (kQ m0 d B c k 0 (adZ N z f kb (lastT f kb + 1)) rows f (some (.int (nI (N + (lastT f kb + 1)))))) 51 [(1, .int (nI (ps f kb t))), (0, .ref d)] [] (3 * t, 23 * t) m := by
  intro j
  induction j with
  | zero =>
    intro t ht m hBf hH hK hzn
    obtain rfl : t = lastT f kb + 1 := ht
    obtain ⟨hD, hR, hV, hl, hk6, hf⟩ := id hK
    have hps : ps f kb (lastT f kb + 1) = kb + 1 := by
      have h1 := hok.2
      show ps f kb (lastT f kb) + ln f kb (lastT f kb) + 1 = kb + 1
      unfold plc at h1; omega
    refine g_iload_n 1 dX9_add_51 rfl rfl ?_
    refine g_aload_n 0 dX9_add_52 rfl rfl ?_
    refine gN_getR (d + 332) flX9_26 (fun _ _ _ => rfl) 0 (hD.t) (hD.r2) dX9_add_53 ?_
    refine gN_getI flX9_140 rfl 0 (hD.tb) dX9_add_56 ?_
    refine g_ei (nI (kb)) (hl) ?_
    refine gN_icmp_ge 137 dX9_add_59 (by decide) (by first | omega | exact b01_lt _) (by first | omega | exact b01_lt _) (fun h_59 => ?_) (fun h_59 => ?_)
    · exact K m hH hK
    · exfalso; omega
  | succ j ih =>
    intro t ht m hBf hH hK hzn
    obtain ⟨hD, hR, hV, hl, hk6, hf⟩ := id hK
    have htl : t ≤ lastT f kb := by omega
    obtain ⟨hl1, hp1⟩ := ps_kk hok htl
    obtain ⟨he1, he2⟩ := row_e hok htl
    have hlk := ln_k (f := f) (k := kb) htl
    have hl12 := ln_12 f kb t
    have hc0 : im m (d + 1) 6 = nI (N + t) := hR.c0.trans (adZ_0 hN f kb t)
    have hn0 : nv (adZ N z f kb t 0) = N + t := by rw [adZ_0 hN]; exact nv_nI (by omega)
    obtain ⟨q, hq⟩ : ∃ q, q = fz m := ⟨_, rfl⟩
    refine g_iload_n 1 dX9_add_51 rfl rfl ?_
    refine g_aload_n 0 dX9_add_52 rfl rfl ?_
    refine gN_getR (d + 332) flX9_26 (fun _ _ _ => rfl) 0 (hD.t) (hD.r2) dX9_add_53 ?_
    refine gN_getI flX9_140 rfl 0 (hD.tb) dX9_add_56 ?_
    refine g_ei (nI (kb)) (hl) ?_
    refine gN_icmp_ge 137 dX9_add_59 (by decide) (by first | omega | exact b01_lt _) (by first | omega | exact b01_lt _) (fun h_59 => ?_) (fun h_59 => ?_)
    · exfalso; omega
    · refine g_aload_n 0 dX9_add_62 rfl rfl ?_
      refine gN_getR (d + 1) flX9_10 (fun _ _ _ => rfl) 0 (hD.t) (hD.r0) dX9_add_63 ?_
      refine gN_getI flX9_68 rfl 0 (hD.s.t) dX9_add_66 ?_
      refine g_ei (nI (N + t)) (hc0) ?_
      refine gN_bipush 10 dX9_add_69 (by decide) ?_
      refine gN_icmp_ge 137 dX9_add_71 (by decide) (by first | omega | exact b01_lt _) (by first | omega | exact b01_lt _) (fun h_71 => ?_) (fun h_71 => ?_)
      · exfalso; omega
      · refine g_aload_n 0 dX9_add_74 rfl rfl ?_
        refine gN_getR (d + 332) flX9_26 (fun _ _ _ => rfl) 0 (hD.t) (hD.r2) dX9_add_75 ?_
        refine g_iload_n 1 dX9_add_78 rfl rfl ?_
        refine gd_callV _ _ _ _ (cn_X1_endOfRow g (0, 0) hD.tb hD.tc hD.rb hl hk6 hf (b := ps f kb t) (n := ln f kb t) he1 he2) ⟨rfl, rfl⟩ (ok_X1_endOfRow _) mlX9_158 in_X1_endOfRow se_X1_endOfRow 1 0 (hD.tb) rfl rfl rfl ⟨Nat.le_of_ble_eq_true rfl, Nat.le_of_ble_eq_true rfl⟩ (by exact Nat.le_of_ble_eq_true rfl) ⟨by first | (show 3 * t ≤ 30; omega) | (show 3 * (t + 1) ≤ 30; omega), by first | (show 23 * t ≤ 230; omega) | (show 23 * (t + 1) ≤ 230; omega)⟩ dX9_add_79 rfl ?_
        refine g_istore_n 2 [(2, .int (nI (ps f kb t + ln f kb t))), (1, .int (nI (ps f kb t))), (0, .ref (d))] dX9_add_82 rfl (Nat.le_of_ble_eq_true rfl) rfl ?_
        refine g_aload_n 0 dX9_add_83 rfl rfl ?_
        refine gN_getR (d + 1) flX9_10 (fun _ _ _ => rfl) 0 (hD.t) (hD.r0) dX9_add_84 ?_
        refine gN_getR (d + 1 + 5) flX9_71 (fun _ _ _ => rfl) 0 (hD.s.t) (hD.s.r4) dX9_add_87 ?_
        refine g_aload_n 0 dX9_add_90 rfl rfl ?_
        refine gN_getR (d + 1) flX9_10 (fun _ _ _ => rfl) 0 (hD.t) (hD.r0) dX9_add_91 ?_
        refine gN_getI flX9_68 rfl 0 (hD.s.t) dX9_add_94 ?_
        refine g_ei (nI (N + t)) (hc0) ?_
        refine gN_aald 14 10 (d + 1 + 37 + (N + t)) (hD.s.t5) (by decide) (by first | omega | exact b01_lt _) (by first | omega | exact b01_lt _) (hD.s.rS (by omega)) dX9_add_97 ?_
        refine g_newA (c := 4) q hq.symm rfl klX9_113 ii_X4 iz_X4 (df_ok rfl) ⟨by show 3 * t + 1 ≤ 30; omega, by show 23 * t + 3 ≤ 230; omega⟩ dX9_add_98 ?_
        have hB3 : Bfr m (nwA m q (4, 0)) q := fun x hx => ⟨u1_n _ _ _ (by omega), u1_n _ _ _ (by omega), u1_n _ _ _ (by omega), u1_n _ _ _ (by omega)⟩
        have ht3 : tg (nwA m q (4, 0)) q = (4, 0) := u1_s _ _ _
        have hz3 : fz (nwA m q (4, 0)) = q + 1 := rfl
        generalize nwA m q (4, 0) = m3 at hB3 ht3 hz3 ⊢
        have hK3 : DkV m3 d B c k kb (adZ N z f kb t) rows f := hK.fr (by omega) (by omega) (fun x h1 h2 => ⟨(hB3 x (by omega)).1, (hB3 x (by omega)).2.1, (hB3 x (by omega)).2.2.1⟩) (fun x h1 h2 => ⟨(hB3 x (by omega)).1, (hB3 x (by omega)).2.1, (hB3 x (by omega)).2.2.1⟩)
        obtain ⟨hD, hR, hV, hl, _, hf⟩ := hK3
        refine g_dup dX9_add_101 rfl ?_
        refine g_aload_n 0 dX9_add_102 rfl rfl ?_
        refine gN_getR (d + 332) flX9_26 (fun _ _ _ => rfl) 0 (hD.t) (hD.r2) dX9_add_103 ?_
        refine gN_getR (d + 333) flX9_141 (fun _ _ _ => rfl) 0 (hD.tb) (hD.rb) dX9_add_106 ?_
        refine g_iload_n 1 dX9_add_109 rfl rfl ?_
        refine g_iload_n 2 dX9_add_110 rfl rfl ?_
        refine g_callI _ _ (cn_X4_init g (0, 0) (m := m3) (q := q) (C := d + 333) (b := ps f kb t) (n := ln f kb t) (f := f) ht3 hz3 hD.tc (by omega) (by omega) hl12 (fun e he => hf _ (by omega)) (fun e he => isl_w (rl_isl f kb 12 _ e he))) (ok_X4_init _) rfl rfl mlX9_161 in_X4_init rfl ⟨Nat.le_of_ble_eq_true rfl, Nat.le_of_ble_eq_true rfl⟩ (by exact Nat.le_of_ble_eq_true rfl) ⟨by show 3 * t + 1 + 2 ≤ 30; omega, by show 23 * t + 3 + 20 ≤ 230; omega⟩ dX9_add_111 rfl (fun v m4 h4 => ?_) (fun E m4 h4 => by cases h4.1)
        obtain ⟨h40, hz4, hr4, hb4⟩ := h4
        cases h40
        refine g_u (u2 := (3 * (t + 1), 23 * (t + 1))) (show ((3 * t + 1 + 2, 23 * t + 3 + 20) : Nat × Nat) = (3 * (t + 1), 23 * (t + 1)) from by rw [show 3 * t + 1 + 2 = 3 * (t + 1) by omega, show 23 * t + 3 + 20 = 23 * (t + 1) by omega]) ?_
        have hg4 : ∀ x, x < q → agr m m4 x := fun x hx => ⟨(hb4 x hx).1.trans (hB3 x hx).1, (hb4 x hx).2.1.trans (hB3 x hx).2.1, (hb4 x hx).2.2.1.trans (hB3 x hx).2.2.1⟩
        have hK4 : DkV m4 d B c k kb (adZ N z f kb t) rows f := hK.fr (by omega) (by omega) (fun x h1 h2 => hg4 x (by omega)) (fun x h1 h2 => hg4 x (by omega))
        have hH4 : Hd m0 m4 d := hH.tr ⟨by omega, fun x hx => ⟨⟨(hg4 x (by omega)).1, (hb4 x (by omega)).2.2.2.trans (hB3 x (by omega)).2.2.2⟩, fun _ => (hg4 x (by omega)).2⟩⟩
        obtain ⟨hD, hR, hV, hl, _, hf⟩ := id hK4
        refine gd_callV _ _ _ _ (cn_X5_beginWith g (0, 0) (m := m4) (A := d + 1 + 37 + (N + t)) (r := q) (hD.s.tS (by omega))) ⟨rfl, rfl⟩ (ok_X5_beginWith _) mlX9_164 in_X5_beginWith se_X5_beginWith 5 0 (hD.s.tS (by omega)) rfl rfl rfl ⟨Nat.le_of_ble_eq_true rfl, Nat.le_of_ble_eq_true rfl⟩ (by exact Nat.le_of_ble_eq_true rfl) ⟨by first | (show 3 * t ≤ 30; omega) | (show 3 * (t + 1) ≤ 30; omega), by first | (show 23 * t ≤ 230; omega) | (show 23 * (t + 1) ≤ 230; omega)⟩ dX9_add_114 rfl ?_
        have hc4 : im m4 (d + 1) 6 = nI (N + t) := hR.c0.trans (adZ_0 hN f kb t)
        refine g_aload_n 0 dX9_add_117 rfl rfl ?_
        refine gN_getR (d + 1) flX9_10 (fun _ _ _ => rfl) 0 (hD.t) ((show u2 (rf m4) (d + 1 + 37 + (N + t)) 0 (some q) d 0 = some (d + 1) from (congrFun (u2_o _ _ _ _ (by omega)) 0).trans hD.r0)) dX9_add_118 ?_
        refine g_dup dX9_add_121 rfl ?_
        refine gN_getI flX9_68 rfl 0 (hD.s.t) dX9_add_122 ?_
        refine g_ei (nI (N + t)) ((by simp (disch := omega) only [im_wM, im_sI, u2_n, u2_s, u1_n, u1_s]; exact hc4)) ?_
        refine gN_iconst 1 dX9_add_125 (by decide) ?_
        refine gN_iadd ((N + t) + 1) dX9_add_126 rfl ?_
        refine gN_putI fwX9_68 rfl 0 (hD.s.t) dX9_add_127 ?_
        refine g_iload_n 2 dX9_add_130 rfl rfl ?_
        refine gN_iconst 1 dX9_add_131 (by decide) ?_
        refine gN_iadd ((ps f kb t + ln f kb t) + 1) dX9_add_132 rfl ?_
        refine g_istore_n 1 [(1, .int (nI ((ps f kb t + ln f kb t) + 1))), (2, .int (nI (ps f kb t + ln f kb t))), (0, .ref (d))] dX9_add_133 rfl (Nat.le_of_ble_eq_true rfl) rfl ?_
        refine g_goto 51 dX9_add_134 (by decide) ?_
        refine g_pick [0, 2] rfl ?_
        refine g_mem (m1 := (wM m4 (u2 (u2 (u2 (u2 (u2 (u2 (u2 (u2 (u2 (im m4) (d + 1 + 37 + (N + t)) 1 (nI 0)) (d + 1 + 37 + (N + t)) 2 (-1)) (d + 1 + 37 + (N + t)) 3 (-1)) (d + 1 + 37 + (N + t)) 4 (-1)) (d + 1 + 37 + (N + t)) 5 (nI 0)) (d + 1 + 37 + (N + t)) 6 (nI 0)) (d + 1 + 37 + (N + t)) 7 (-1)) (d + 1 + 37 + (N + t)) 8 (nI 0)) (d + 1) 6 (nI (N + t + 1))) (u2 (rf m4) (d + 1 + 37 + (N + t)) 0 (some q)))) rfl ?_
        have hF5 : FrB m4 (d + 1) (d + 1 + 47) (u2 (u2 (u2 (u2 (u2 (u2 (u2 (u2 (u2 (im m4) (d + 1 + 37 + (N + t)) 1 (nI 0)) (d + 1 + 37 + (N + t)) 2 (-1)) (d + 1 + 37 + (N + t)) 3 (-1)) (d + 1 + 37 + (N + t)) 4 (-1)) (d + 1 + 37 + (N + t)) 5 (nI 0)) (d + 1 + 37 + (N + t)) 6 (nI 0)) (d + 1 + 37 + (N + t)) 7 (-1)) (d + 1 + 37 + (N + t)) 8 (nI 0)) (d + 1) 6 (nI (N + t + 1))) (u2 (rf m4) (d + 1 + 37 + (N + t)) 0 (some q)) := (((((((((((FrB.rfl' m4 (d + 1) (d + 1 + 47)).i _ (by omega) (by omega)).i _ (by omega) (by omega)).i _ (by omega) (by omega)).i _ (by omega) (by omega)).i _ (by omega) (by omega)).i _ (by omega) (by omega)).i _ (by omega) (by omega)).i _ (by omega) (by omega)).i _ (by omega) (by omega)).r _ (by omega) (by omega))
        have hS5 : StT (wM m4 (u2 (u2 (u2 (u2 (u2 (u2 (u2 (u2 (u2 (im m4) (d + 1 + 37 + (N + t)) 1 (nI 0)) (d + 1 + 37 + (N + t)) 2 (-1)) (d + 1 + 37 + (N + t)) 3 (-1)) (d + 1 + 37 + (N + t)) 4 (-1)) (d + 1 + 37 + (N + t)) 5 (nI 0)) (d + 1 + 37 + (N + t)) 6 (nI 0)) (d + 1 + 37 + (N + t)) 7 (-1)) (d + 1 + 37 + (N + t)) 8 (nI 0)) (d + 1) 6 (nI (N + t + 1))) (u2 (rf m4) (d + 1 + 37 + (N + t)) 0 (some q))) (d + 1) := hD.s.w (fun x h1 h2 => u2_o _ _ _ _ (by omega))
        have hr5 : RowT (wM m4 (u2 (u2 (u2 (u2 (u2 (u2 (u2 (u2 (u2 (im m4) (d + 1 + 37 + (N + t)) 1 (nI 0)) (d + 1 + 37 + (N + t)) 2 (-1)) (d + 1 + 37 + (N + t)) 3 (-1)) (d + 1 + 37 + (N + t)) 4 (-1)) (d + 1 + 37 + (N + t)) 5 (nI 0)) (d + 1 + 37 + (N + t)) 6 (nI 0)) (d + 1 + 37 + (N + t)) 7 (-1)) (d + 1 + 37 + (N + t)) 8 (nI 0)) (d + 1) 6 (nI (N + t + 1))) (u2 (rf m4) (d + 1 + 37 + (N + t)) 0 (some q))) q (fun e => f (ps f kb t + e) - nI 97) (ln f kb t) := hr4.fr ⟨rfl, (hF5 q (by omega)).1, (hF5 q (by omega)).2⟩ ⟨rfl, (hF5 (q + 1) (by omega)).1, (hF5 (q + 1) (by omega)).2⟩ ⟨rfl, (hF5 (q + 2) (by omega)).1, (hF5 (q + 2) (by omega)).2⟩
        have hR5 : Rp (wM m4 (u2 (u2 (u2 (u2 (u2 (u2 (u2 (u2 (u2 (im m4) (d + 1 + 37 + (N + t)) 1 (nI 0)) (d + 1 + 37 + (N + t)) 2 (-1)) (d + 1 + 37 + (N + t)) 3 (-1)) (d + 1 + 37 + (N + t)) 4 (-1)) (d + 1 + 37 + (N + t)) 5 (nI 0)) (d + 1 + 37 + (N + t)) 6 (nI 0)) (d + 1 + 37 + (N + t)) 7 (-1)) (d + 1 + 37 + (N + t)) 8 (nI 0)) (d + 1) 6 (nI (N + t + 1))) (u2 (rf m4) (d + 1 + 37 + (N + t)) 0 (some q))) B (d + 1) (adZ N z f kb (t + 1)) := by
          refine Rp.ad hR hn0 (by omega) hzn (Nat.le_refl _) (fun x h1 h2 => ⟨rfl, (hF5 x (by omega)).1, (hF5 x (by omega)).2⟩) (fun x h1 h2 h3 h4 => ?_) ?_ ?_ (fun j h1 h2 => adZ_o h1 h2) ?_ ⟨q, u2_s _ _ _ _, by omega, by show q + 2 < fz m4; omega, ?_⟩
          · rw [im_wM, rf_wM]
            exact ⟨by rw [u2_o _ _ _ _ h3, u2_o _ _ _ _ h4, u2_o _ _ _ _ h4, u2_o _ _ _ _ h4, u2_o _ _ _ _ h4, u2_o _ _ _ _ h4, u2_o _ _ _ _ h4, u2_o _ _ _ _ h4, u2_o _ _ _ _ h4], u2_o _ _ _ _ h4⟩
          · rw [adZ_s0]; exact u2_s _ _ _ _
          · exact adZ_s0
          · unfold SgI
            rw [adZ_k (i := 1) (by omega) (by omega) (by omega), adZ_k (i := 2) (by omega) (by omega) (by omega), adZ_k (i := 3) (by omega) (by omega) (by omega), adZ_k (i := 4) (by omega) (by omega) (by omega), adZ_k (i := 5) (by omega) (by omega) (by omega), adZ_k (i := 6) (by omega) (by omega) (by omega), adZ_7, adZ_k (i := 8) (by omega) (by omega) (by omega)]
            refine ⟨?_, ?_, ?_, ?_, ?_, ?_, ?_, ?_, fun h9 => absurd h9 (by decide)⟩
            all_goals (try simp (disch := omega) only [im_wM, im_sI, u2_n, u2_s, u1_n, u1_s])
            all_goals first | done | rfl | exact (opn_f rfl).symm
          · rw [adZ_p, nv_nI (by omega)]
            exact hr5.cg (fun e he => adZ_w he)
        refine ih (t + 1) (by omega) _ (by show B ≤ fz m4; omega) (hH4.fb (I := (u2 (u2 (u2 (u2 (u2 (u2 (u2 (u2 (u2 (im m4) (d + 1 + 37 + (N + t)) 1 (nI 0)) (d + 1 + 37 + (N + t)) 2 (-1)) (d + 1 + 37 + (N + t)) 3 (-1)) (d + 1 + 37 + (N + t)) 4 (-1)) (d + 1 + 37 + (N + t)) 5 (nI 0)) (d + 1 + 37 + (N + t)) 6 (nI 0)) (d + 1 + 37 + (N + t)) 7 (-1)) (d + 1 + 37 + (N + t)) 8 (nI 0)) (d + 1) 6 (nI (N + t + 1)))) (R := (u2 (rf m4) (d + 1 + 37 + (N + t)) 0 (some q))) hF5 (by omega) (by omega)) (DkV.nw (I := (u2 (u2 (u2 (u2 (u2 (u2 (u2 (u2 (u2 (im m4) (d + 1 + 37 + (N + t)) 1 (nI 0)) (d + 1 + 37 + (N + t)) 2 (-1)) (d + 1 + 37 + (N + t)) 3 (-1)) (d + 1 + 37 + (N + t)) 4 (-1)) (d + 1 + 37 + (N + t)) 5 (nI 0)) (d + 1 + 37 + (N + t)) 6 (nI 0)) (d + 1 + 37 + (N + t)) 7 (-1)) (d + 1 + 37 + (N + t)) 8 (nI 0)) (d + 1) 6 (nI (N + t + 1)))) (R := (u2 (rf m4) (d + 1 + 37 + (N + t)) 0 (some q))) hK4 hB hF5 hS5 hR5) (adZ_ln (adZ_0 hN f kb t) (by omega) hzn)
set_option maxRecDepth 100000 in
theorem cn_X9_add (g : Gp) {m : Mm} {d B c k kb : Nat} {z : Nat → Int32} {rows : Nat → Nat → Int32} {f : Nat → Int32} (hB : d + 344 ≤ B) (hG : KdT g m d) (hK : DkV m d B c k kb z rows f) (hz : ZOk c z) (hBf : B ≤ fz m) (hok : okT f kb) (h : nv (z 0) + (lastT f kb + 1) ≤ 10) : Cn g (MX9_add (30, 230)) [.ref d] m (kQ m d B c (sk k) 0 (adZ (nv (z 0)) z f kb (lastT f kb + 1)) (svR k z rows) f (some (.int (nI (nv (z 0) + (lastT f kb + 1)))))) := by
  have hz0 := hz.n0.hi
  have hz1 := hz.n1.hi
  have hSB : d + 1 + 47 ≤ B := by omega
  have hC := hG.1
  have hK0 := hK
  obtain ⟨hD, hR, ⟨fst, hV⟩, hl, hk6, hf⟩ := hK0
  have hsm9 := sm_le (fun e => b01 (f e = nI 59)) 1 kb (fun e _ => b01_le _)
  have hsk : sm (fun e => b01 (f e = nI 59)) kb = lastT f kb := sem_k hok
  refine Cn.of pn_X9 (Nat.le_of_ble_eq_true rfl) rfl ?_
  refine g_aload_n 0 dX9_add_0 rfl rfl ?_
  refine gN_getR (d + 332) flX9_26 (fun _ _ _ => rfl) 0 (hD.t) (hD.r2) dX9_add_1 ?_
  refine gd_callV _ _ _ _ (cn_X1_isComplete g (0, 0) hD.tb hD.tc hD.rb hl hk6 hf) ⟨rfl, rfl⟩ (ok_X1_isComplete _) mlX9_148 in_X1_isComplete se_X1_isComplete 1 0 (hD.tb) rfl rfl rfl ⟨Nat.le_of_ble_eq_true rfl, Nat.le_of_ble_eq_true rfl⟩ (by exact Nat.le_of_ble_eq_true rfl) ⟨Nat.zero_le _, Nat.zero_le _⟩ dX9_add_4 rfl ?_
  refine gd_callS _ _ _ _ (cn_X9_checkArgument g (0, 0) (p := okT f kb) (hok)) ⟨rfl, rfl⟩ (ok_X9_checkArgument _) mlX9_152 st_X9_checkArgument rfl ⟨Nat.le_of_ble_eq_true rfl, Nat.le_of_ble_eq_true rfl⟩ (by exact Nat.le_of_ble_eq_true rfl) ⟨Nat.zero_le _, Nat.zero_le _⟩ dX9_add_7 rfl ?_
  refine g_join 35 (b01 (nv (z 0) + (lastT f kb + 1) ≤ 10)) ?_ (fun K_35 => ?_)
  · refine gd_callS _ _ _ _ (cn_X9_checkState g (0, 0) (p := nv (z 0) + (lastT f kb + 1) ≤ 10) (h)) ⟨rfl, rfl⟩ (ok_X9_checkState _) mlX9_80 st_X9_checkState rfl ⟨Nat.le_of_ble_eq_true rfl, Nat.le_of_ble_eq_true rfl⟩ (by exact Nat.le_of_ble_eq_true rfl) ⟨Nat.zero_le _, Nat.zero_le _⟩ dX9_add_35 rfl ?_
    refine g_aload_n 0 dX9_add_38 rfl rfl ?_
    refine gN_getR (d + 48) flX9_19 (fun _ _ _ => rfl) 0 (hD.t) (hD.r1) dX9_add_39 ?_
    refine g_aload_n 0 dX9_add_42 rfl rfl ?_
    refine gN_getR (d + 1) flX9_10 (fun _ _ _ => rfl) 0 (hD.t) (hD.r0) dX9_add_43 ?_
    refine gm_callV _ _ _ (cn_X2_save g (0, 0) (m := m) (H := d + 48) (S := d + 1) (B := B) (c := c) (z := z) hD.h hV hD.s hR hz rfl (by omega)) ⟨rfl, rfl⟩ (ok_X2_save _) mlX9_38 in_X2_save se_X2_save 2 0 (hD.h.t) rfl rfl rfl ⟨Nat.le_of_ble_eq_true rfl, Nat.le_of_ble_eq_true rfl⟩ (by exact Nat.le_of_ble_eq_true rfl) ⟨Nat.zero_le _, Nat.zero_le _⟩ dX9_add_46 rfl (fun I R hP => ?_)
    obtain ⟨hF, hH2, fst2, hV2⟩ := hP
    have hK1 := DkV.sv hK hz0 hB hF hH2 hV2
    have hF1 := Hd.fb (Hd.rfl' m d) hF (by omega) (by omega)
    generalize wM m I R = m1 at hK1 hF1 ⊢
    clear hF hH2 hV2 hD hR hV hl hf hC
    have hG1 := hG.fd hF1
    have hC := hG1.1
    have hK2 := hK1
    obtain ⟨hD, hR, ⟨fst1, hV⟩, hl, _, hf⟩ := hK2
    
    refine gN_iconst 0 dX9_add_49 (by decide) ?_
    refine g_istore_n 1 [(1, .int (nI (0))), (0, .ref (d))] dX9_add_50 rfl (Nat.le_of_ble_eq_true rfl) rfl ?_
    refine g_pick [0, 1] rfl ?_
    refine lp_X9_add g hB hz hz.n0.e hok h (fun m9 hH9 hK9 => ?_) (lastT f kb + 1) 0 (Nat.zero_add _) m1 (Nat.le_trans hBf hF1.1) hF1 hK1 hz.ln
    obtain ⟨hD9, hR9, hV9, hl9, hk9, hf9⟩ := id hK9
    refine g_aload_n 0 dX9_add_137 rfl rfl ?_
    refine gN_getR (d + 332) flX9_26 (fun _ _ _ => rfl) 0 (hD9.t) (hD9.r2) dX9_add_138 ?_
    refine gN_iconst 0 dX9_add_141 (by decide) ?_
    refine gN_putI fwX9_140 rfl 0 (hD9.tb) dX9_add_142 ?_
    refine g_aload_n 0 dX9_add_145 rfl rfl ?_
    refine gN_getR (d + 1) flX9_10 (fun _ _ _ => rfl) 0 (hD9.t) (hD9.r0) dX9_add_146 ?_
    refine gN_getI flX9_68 rfl 0 (hD9.s.t) dX9_add_149 ?_
    refine g_ei (nI (nv (z 0) + (lastT f kb + 1))) (by rw [im_sI, u2_o _ _ _ _ (by omega)]; exact hR9.c0.trans adZ_s0) ?_
    refine g_iret rfl dX9_add_152 ⟨by show 3 * (lastT f kb + 1) ≤ 30; omega, by show 23 * (lastT f kb + 1) ≤ 230; omega⟩ ?_
    have hFa : FrB m9 (d + 332) (d + 334) (u2 (im m9) (d + 332) 1 (nI 0)) (rf m9) := ((FrB.rfl' _ _ _).i _ (by omega) (by omega))
    exact ⟨rfl, hH9.fb (I := (u2 (im m9) (d + 332) 1 (nI 0))) (R := rf m9) hFa (by omega) (by omega), DkV.bf (m := m9) (I := (u2 (im m9) (d + 332) 1 (nI 0))) hK9 (by rw [adZ_s0, nv_nI (by omega)]; omega) hB hFa (u2_s _ _ _ _) (by omega) (fun e he => absurd he (Nat.not_lt_zero _))⟩
  · refine g_aload_n 0 dX9_add_10 rfl rfl ?_
    refine gN_getR (d + 1) flX9_10 (fun _ _ _ => rfl) 0 (hD.t) (hD.r0) dX9_add_11 ?_
    refine gN_getI flX9_68 rfl 0 (hD.s.t) dX9_add_14 ?_
    refine g_ei (nI (nv (z 0))) (hR.c0.trans hz.n0.e) ?_
    refine g_aload_n 0 dX9_add_17 rfl rfl ?_
    refine gN_getR (d + 332) flX9_26 (fun _ _ _ => rfl) 0 (hD.t) (hD.r2) dX9_add_18 ?_
    refine gd_callV _ _ _ _ (cn_X1_rowCount g (0, 0) hD.tb hD.tc hD.rb hl hk6 hf) ⟨rfl, rfl⟩ (ok_X1_rowCount _) mlX9_155 in_X1_rowCount se_X1_rowCount 1 0 (hD.tb) rfl rfl rfl ⟨Nat.le_of_ble_eq_true rfl, Nat.le_of_ble_eq_true rfl⟩ (by exact Nat.le_of_ble_eq_true rfl) ⟨Nat.zero_le _, Nat.zero_le _⟩ dX9_add_21 rfl ?_
    refine gN_iadd ((nv (z 0)) + (1 + sm (fun e => b01 (f e = nI 59)) kb)) dX9_add_24 rfl ?_
    refine gN_bipush 10 dX9_add_25 (by decide) ?_
    refine gN_icmp_gt 34 dX9_add_27 (by decide) (by first | omega | exact b01_lt _) (by first | omega | exact b01_lt _) (fun h_27 => ?_) (fun h_27 => ?_)
    · refine gN_iconst 0 dX9_add_34 (by decide) ?_
      exact g_ei (nI (b01 (nv (z 0) + (lastT f kb + 1) ≤ 10))) (congrArg nI (show 0 = b01 (nv (z 0) + (lastT f kb + 1) ≤ 10) from by have hsk := sem_k hok; first | exact (b01_t (by omega)).symm | exact (b01_f (by omega)).symm)) K_35
    · refine gN_iconst 1 dX9_add_30 (by decide) ?_
      refine g_goto 35 dX9_add_31 (by decide) ?_
      exact g_ei (nI (b01 (nv (z 0) + (lastT f kb + 1) ≤ 10))) (congrArg nI (show 1 = b01 (nv (z 0) + (lastT f kb + 1) ≤ 10) from by have hsk := sem_k hok; first | exact (b01_t (by omega)).symm | exact (b01_f (by omega)).symm)) K_35
set_option maxRecDepth 100000 in
theorem cx_X9_change_1 (g : Gp) (cs : Nat × Nat) {m : Mm} {d B c kb : Nat} {z f : Nat → Int32} (hD : DkT m d) (hR : Rp m B (d + 1) z) (hz : ZOk c z) (hl : im m (d + 332) 1 = nI kb) (hk6 : kb ≤ 60) (hf : ∀ e, e < kb → im m (d + 333) e = f e) {p : Int32} (h : ¬ inb p (nv (z 0))) : Xn g (MX9_change (1, 6)) [.ref (d), .int (p)] m "java/lang/IndexOutOfBoundsException" := by
  have hz0 := hz.n0.hi
  have hz1 := hz.n1.hi
  refine Cn.of pn_X9 (Nat.le_of_ble_eq_true rfl) rfl ?_
  refine g_iload_n 1 dX9_change_0 rfl rfl ?_
  refine g_aload_n 0 dX9_change_1 rfl rfl ?_
  refine gN_getR (d + 1) flX9_10 (fun _ _ _ => rfl) 0 (hD.t) (hD.r0) dX9_change_2 ?_
  refine gN_getI flX9_68 rfl 0 (hD.s.t) dX9_change_5 ?_
  refine g_ei (nI (nv (z 0))) (hR.c0.trans hz.n0.e) ?_
  exact gx_callS _ _ (cx_X9_checkNumber g (0, 0) (N := nv (z 0)) (by omega) (h)) (ok_X9_checkNumber _) mlX9_30 st_X9_checkNumber rfl ⟨Nat.le_of_ble_eq_true rfl, Nat.le_of_ble_eq_true rfl⟩ (by exact Nat.le_of_ble_eq_true rfl) ⟨Nat.le_of_ble_eq_true rfl, Nat.le_of_ble_eq_true rfl⟩ dX9_change_8 rfl (fun n hn => ⟨rfl, n, hn, rfl⟩)
set_option maxRecDepth 100000 in
theorem cx_X9_change_2 (g : Gp) (cs : Nat × Nat) {m : Mm} {d B c kb : Nat} {z f : Nat → Int32} (hD : DkT m d) (hR : Rp m B (d + 1) z) (hz : ZOk c z) (hl : im m (d + 332) 1 = nI kb) (hk6 : kb ≤ 60) (hf : ∀ e, e < kb → im m (d + 333) e = f e) {s : Nat} (hs : s < nv (z 0)) (h : ¬ (okT f kb ∧ lastT f kb = 0)) : Xn g (MX9_change (1, 6)) [.ref (d), .int (nI (s))] m "java/lang/IllegalArgumentException" := by
  have hz0 := hz.n0.hi
  have hz1 := hz.n1.hi
  have hsm9 := sm_le (fun e => b01 (f e = nI 59)) 1 kb (fun e _ => b01_le _)
  refine Cn.of pn_X9 (Nat.le_of_ble_eq_true rfl) rfl ?_
  refine g_iload_n 1 dX9_change_0 rfl rfl ?_
  refine g_aload_n 0 dX9_change_1 rfl rfl ?_
  refine gN_getR (d + 1) flX9_10 (fun _ _ _ => rfl) 0 (hD.t) (hD.r0) dX9_change_2 ?_
  refine gN_getI flX9_68 rfl 0 (hD.s.t) dX9_change_5 ?_
  refine g_ei (nI (nv (z 0))) (hR.c0.trans hz.n0.e) ?_
  refine gd_callS _ _ _ _ (cn_X9_checkNumber g (0, 0) (j := s) (N := nv (z 0)) (by omega) (by omega)) ⟨rfl, rfl⟩ (ok_X9_checkNumber _) mlX9_30 st_X9_checkNumber rfl ⟨Nat.le_of_ble_eq_true rfl, Nat.le_of_ble_eq_true rfl⟩ (by exact Nat.le_of_ble_eq_true rfl) ⟨Nat.zero_le _, Nat.zero_le _⟩ dX9_change_8 rfl ?_
  refine g_join 37 (b01 (okT f kb ∧ lastT f kb = 0)) ?_ (fun K_37 => ?_)
  · exact gx_callS _ _ (cx_X9_checkArgument g (0, 0) (p := okT f kb ∧ lastT f kb = 0) h) (ok_X9_checkArgument _) mlX9_152 st_X9_checkArgument rfl ⟨Nat.le_of_ble_eq_true rfl, Nat.le_of_ble_eq_true rfl⟩ (by exact Nat.le_of_ble_eq_true rfl) ⟨Nat.le_of_ble_eq_true rfl, Nat.le_of_ble_eq_true rfl⟩ dX9_change_37 rfl (fun n hn => ⟨rfl, n, hn, rfl⟩)
  · refine g_aload_n 0 dX9_change_11 rfl rfl ?_
    refine gN_getR (d + 332) flX9_26 (fun _ _ _ => rfl) 0 (hD.t) (hD.r2) dX9_change_12 ?_
    refine gd_callV _ _ _ _ (cn_X1_isComplete g (0, 0) hD.tb hD.tc hD.rb hl hk6 hf) ⟨rfl, rfl⟩ (ok_X1_isComplete _) mlX9_148 in_X1_isComplete se_X1_isComplete 1 0 (hD.tb) rfl rfl rfl ⟨Nat.le_of_ble_eq_true rfl, Nat.le_of_ble_eq_true rfl⟩ (by exact Nat.le_of_ble_eq_true rfl) ⟨Nat.zero_le _, Nat.zero_le _⟩ dX9_change_15 rfl ?_
    refine gN_if_eq 36 dX9_change_18 (by decide) (by first | omega | exact b01_lt _) (fun h_18 => ?_) (fun h_18 => ?_)
    · refine gN_iconst 0 dX9_change_36 (by decide) ?_
      exact g_ei (nI (b01 (okT f kb ∧ lastT f kb = 0))) (congrArg nI (show 0 = b01 (okT f kb ∧ lastT f kb = 0) from by first | exact (b01_t ⟨b01_n.mp h_18, by have hq9 : sm (fun e => b01 (f e = nI 59)) kb = lastT f kb := sem_k (b01_n.mp h_18); omega⟩).symm | exact (b01_f (fun (q : okT f kb ∧ lastT f kb = 0) => by first | exact b01_z.mp h_18 q.1 | (have hq9 : sm (fun e => b01 (f e = nI 59)) kb = lastT f kb := sem_k q.1; have hq8 := q.2; omega))).symm)) K_37
    · refine g_aload_n 0 dX9_change_21 rfl rfl ?_
      refine gN_getR (d + 332) flX9_26 (fun _ _ _ => rfl) 0 (hD.t) (hD.r2) dX9_change_22 ?_
      refine gd_callV _ _ _ _ (cn_X1_rowCount g (0, 0) hD.tb hD.tc hD.rb hl hk6 hf) ⟨rfl, rfl⟩ (ok_X1_rowCount _) mlX9_155 in_X1_rowCount se_X1_rowCount 1 0 (hD.tb) rfl rfl rfl ⟨Nat.le_of_ble_eq_true rfl, Nat.le_of_ble_eq_true rfl⟩ (by exact Nat.le_of_ble_eq_true rfl) ⟨Nat.zero_le _, Nat.zero_le _⟩ dX9_change_25 rfl ?_
      refine gN_iconst 1 dX9_change_28 (by decide) ?_
      refine gN_icmp_ne 36 dX9_change_29 (by decide) (by first | omega | exact b01_lt _) (by first | omega | exact b01_lt _) (fun h_29 => ?_) (fun h_29 => ?_)
      · refine gN_iconst 0 dX9_change_36 (by decide) ?_
        exact g_ei (nI (b01 (okT f kb ∧ lastT f kb = 0))) (congrArg nI (show 0 = b01 (okT f kb ∧ lastT f kb = 0) from by first | exact (b01_t ⟨b01_n.mp h_18, by have hq9 : sm (fun e => b01 (f e = nI 59)) kb = lastT f kb := sem_k (b01_n.mp h_18); omega⟩).symm | exact (b01_f (fun (q : okT f kb ∧ lastT f kb = 0) => by first | exact b01_z.mp h_18 q.1 | (have hq9 : sm (fun e => b01 (f e = nI 59)) kb = lastT f kb := sem_k q.1; have hq8 := q.2; omega))).symm)) K_37
      · refine gN_iconst 1 dX9_change_32 (by decide) ?_
        refine g_goto 37 dX9_change_33 (by decide) ?_
        exact g_ei (nI (b01 (okT f kb ∧ lastT f kb = 0))) (congrArg nI (show 1 = b01 (okT f kb ∧ lastT f kb = 0) from by first | exact (b01_t ⟨b01_n.mp h_18, by have hq9 : sm (fun e => b01 (f e = nI 59)) kb = lastT f kb := sem_k (b01_n.mp h_18); omega⟩).symm | exact (b01_f (fun (q : okT f kb ∧ lastT f kb = 0) => by first | exact b01_z.mp h_18 q.1 | (have hq9 : sm (fun e => b01 (f e = nI 59)) kb = lastT f kb := sem_k q.1; have hq8 := q.2; omega))).symm)) K_37
set_option maxRecDepth 100000 in
theorem cn_X9_change0 (g : Gp) {m : Mm} {d B c k kb : Nat} {z : Nat → Int32} {rows : Nat → Nat → Int32} {f : Nat → Int32} (hB : d + 344 ≤ B) (hG : KdT g m d) (hK : DkV m d B c k kb z rows f) (hz : ZOk c z) (hBf : B ≤ fz m) {s : Nat} (hs : s < nv (z 0)) (h : okT f kb ∧ lastT f kb = 0) (h0 : z (79 + 22 * s + 1) = 0) : Cn g (MX9_change (3, 23)) [.ref d, .int (nI s)] m (kQ m d B c (sk k) 0 (txZ z s f kb 0) (svR k z rows) f (some (.int (nI 0)))) := by
  have hz0 := hz.n0.hi
  have hz1 := hz.n1.hi
  have hSB : d + 1 + 47 ≤ B := by omega
  have hC := hG.1
  have hK0 := hK
  obtain ⟨hD, hR, ⟨fst, hV⟩, hl, hk6, hf⟩ := hK0
  have hsm9 := sm_le (fun e => b01 (f e = nI 59)) 1 kb (fun e _ => b01_le _)
  have hln : ln f kb 0 = kb := by
    have h8 := h.1.2
    unfold plc at h8
    rw [h.2] at h8
    have h9 : 0 + ln f kb 0 = kb := h8
    omega
  have hk12 := ln_12 f kb 0
  have hil : ∀ e, e < kb → isl f kb (0 + e) := fun e he => rl_isl f kb 12 0 e (by have h7 : rl f kb 12 0 = kb := hln; omega)
  refine Cn.of pn_X9 (Nat.le_of_ble_eq_true rfl) rfl ?_
  refine g_iload_n 1 dX9_change_0 rfl rfl ?_
  refine g_aload_n 0 dX9_change_1 rfl rfl ?_
  refine gN_getR (d + 1) flX9_10 (fun _ _ _ => rfl) 0 (hD.t) (hD.r0) dX9_change_2 ?_
  refine gN_getI flX9_68 rfl 0 (hD.s.t) dX9_change_5 ?_
  refine g_ei (nI (nv (z 0))) (hR.c0.trans hz.n0.e) ?_
  refine gd_callS _ _ _ _ (cn_X9_checkNumber g (0, 0) (j := s) (N := nv (z 0)) (by omega) (by omega)) ⟨rfl, rfl⟩ (ok_X9_checkNumber _) mlX9_30 st_X9_checkNumber rfl ⟨Nat.le_of_ble_eq_true rfl, Nat.le_of_ble_eq_true rfl⟩ (by exact Nat.le_of_ble_eq_true rfl) ⟨Nat.zero_le _, Nat.zero_le _⟩ dX9_change_8 rfl ?_
  refine g_join 37 (b01 (okT f kb ∧ lastT f kb = 0)) ?_ (fun K_37 => ?_)
  · refine gd_callS _ _ _ _ (cn_X9_checkArgument g (0, 0) (p := okT f kb ∧ lastT f kb = 0) (h)) ⟨rfl, rfl⟩ (ok_X9_checkArgument _) mlX9_152 st_X9_checkArgument rfl ⟨Nat.le_of_ble_eq_true rfl, Nat.le_of_ble_eq_true rfl⟩ (by exact Nat.le_of_ble_eq_true rfl) ⟨Nat.zero_le _, Nat.zero_le _⟩ dX9_change_37 rfl ?_
    refine g_aload_n 0 dX9_change_40 rfl rfl ?_
    refine gN_getR (d + 48) flX9_19 (fun _ _ _ => rfl) 0 (hD.t) (hD.r1) dX9_change_41 ?_
    refine g_aload_n 0 dX9_change_44 rfl rfl ?_
    refine gN_getR (d + 1) flX9_10 (fun _ _ _ => rfl) 0 (hD.t) (hD.r0) dX9_change_45 ?_
    refine gm_callV _ _ _ (cn_X2_save g (0, 0) (m := m) (H := d + 48) (S := d + 1) (B := B) (c := c) (z := z) hD.h hV hD.s hR hz rfl (by omega)) ⟨rfl, rfl⟩ (ok_X2_save _) mlX9_38 in_X2_save se_X2_save 2 0 (hD.h.t) rfl rfl rfl ⟨Nat.le_of_ble_eq_true rfl, Nat.le_of_ble_eq_true rfl⟩ (by exact Nat.le_of_ble_eq_true rfl) ⟨Nat.zero_le _, Nat.zero_le _⟩ dX9_change_48 rfl (fun I R hP => ?_)
    obtain ⟨hF, hH2, fst2, hV2⟩ := hP
    have hK1 := DkV.sv hK hz0 hB hF hH2 hV2
    have hF1 := Hd.fb (Hd.rfl' m d) hF (by omega) (by omega)
    generalize wM m I R = m1 at hK1 hF1 ⊢
    clear hF hH2 hV2 hD hR hV hl hf hC
    have hG1 := hG.fd hF1
    have hC := hG1.1
    have hK2 := hK1
    obtain ⟨hD, hR, ⟨fst1, hV⟩, hl, _, hf⟩ := hK2
    
    refine g_aload_n 0 dX9_change_51 rfl rfl ?_
    refine gN_getR (d + 1) flX9_10 (fun _ _ _ => rfl) 0 (hD.t) (hD.r0) dX9_change_52 ?_
    refine gN_getR (d + 1 + 5) flX9_71 (fun _ _ _ => rfl) 0 (hD.s.t) (hD.s.r4) dX9_change_55 ?_
    refine g_iload_n 1 dX9_change_58 rfl rfl ?_
    refine gN_aald 14 10 (d + 1 + 37 + s) (hD.s.t5) (by decide) (by first | omega | exact b01_lt _) (by first | omega | exact b01_lt _) (hD.s.rS (by omega)) dX9_change_59 ?_
    refine g_astore_n 2 [(2, .ref (d + 1 + 37 + s)), (0, .ref (d)), (1, .int (nI (s)))] dX9_change_60 rfl (Nat.le_of_ble_eq_true rfl) rfl ?_
    refine g_aload_n 0 dX9_change_61 rfl rfl ?_
    refine gN_getR (d + 1) flX9_10 (fun _ _ _ => rfl) 0 (hD.t) (hD.r0) dX9_change_62 ?_
    refine g_aload_n 2 dX9_change_65 rfl rfl ?_
    obtain ⟨q, hq⟩ : ∃ q, q = fz m1 := ⟨_, rfl⟩
    have hq1b : B ≤ q := by have := hF1.1; omega
    refine g_newA (c := 4) q hq.symm rfl klX9_113 ii_X4 iz_X4 (df_ok rfl) ⟨Nat.le_of_ble_eq_true rfl, Nat.le_of_ble_eq_true rfl⟩ dX9_change_66 ?_
    have hB3 : Bfr m1 (nwA m1 q (4, 0)) q := fun x hx => ⟨u1_n _ _ _ (by omega), u1_n _ _ _ (by omega), u1_n _ _ _ (by omega), u1_n _ _ _ (by omega)⟩
    have ht3 : tg (nwA m1 q (4, 0)) q = (4, 0) := u1_s _ _ _
    have hz3 : fz (nwA m1 q (4, 0)) = q + 1 := rfl
    generalize nwA m1 q (4, 0) = m3 at hB3 ht3 hz3 ⊢
    have hK3 : DkV m3 d B c (sk k) kb z (svR k z rows) f := hK1.fr (by omega) (by omega) (fun x h1 h2 => ⟨(hB3 x (by omega)).1, (hB3 x (by omega)).2.1, (hB3 x (by omega)).2.2.1⟩) (fun x h1 h2 => ⟨(hB3 x (by omega)).1, (hB3 x (by omega)).2.1, (hB3 x (by omega)).2.2.1⟩)
    obtain ⟨hD, hR, hV, hl, _, hf⟩ := hK3
    refine g_dup dX9_change_69 rfl ?_
    refine g_aload_n 0 dX9_change_70 rfl rfl ?_
    refine gN_getR (d + 332) flX9_26 (fun _ _ _ => rfl) 0 (hD.t) (hD.r2) dX9_change_71 ?_
    refine gN_getR (d + 333) flX9_141 (fun _ _ _ => rfl) 0 (hD.tb) (hD.rb) dX9_change_74 ?_
    refine gN_iconst 0 dX9_change_77 (by decide) ?_
    refine g_aload_n 0 dX9_change_78 rfl rfl ?_
    refine gN_getR (d + 332) flX9_26 (fun _ _ _ => rfl) 0 (hD.t) (hD.r2) dX9_change_79 ?_
    refine gN_getI flX9_140 rfl 0 (hD.tb) dX9_change_82 ?_
    refine g_ei (nI (kb)) (hl) ?_
    have hci : Cn g (MX4_init (2, 20)) [.ref q, .ref (d + 333), .int (nI 0), .int (nI kb)] m3 (fun r m1 => r = .inl none ∧ fz m1 = q + 3 ∧ RowT m1 q (fun e => f (0 + e) - nI 97) kb ∧ Bfr m3 m1 q) := by
      have h9 := cn_X4_init g (0, 0) (m := m3) (q := q) (C := d + 333) (b := 0) (n := kb) (f := f) ht3 hz3 hD.tc (by omega) (by omega) (by omega) (fun e he => hf _ (by omega)) (fun e he => isl_w (hil e he))
      rw [Nat.zero_add] at h9
      exact h9
    refine g_callI _ _ hci (ok_X4_init _) rfl rfl mlX9_161 in_X4_init rfl ⟨Nat.le_of_ble_eq_true rfl, Nat.le_of_ble_eq_true rfl⟩ (by exact Nat.le_of_ble_eq_true rfl) ⟨Nat.le_of_ble_eq_true rfl, Nat.le_of_ble_eq_true rfl⟩ dX9_change_85 rfl (fun v m4 h4 => ?_) (fun E m4 h4 => by cases h4.1)
    obtain ⟨h40, hz4, hr4, hb4⟩ := h4
    cases h40
    refine g_u (u2 := (3, 23)) rfl ?_
    have hg4 : ∀ x, x < q → agr m1 m4 x := fun x hx => ⟨(hb4 x hx).1.trans (hB3 x hx).1, (hb4 x hx).2.1.trans (hB3 x hx).2.1, (hb4 x hx).2.2.1.trans (hB3 x hx).2.2.1⟩
    have hK4 : DkV m4 d B c (sk k) kb z (svR k z rows) f := hK1.fr (by omega) (by omega) (fun x h1 h2 => hg4 x (by omega)) (fun x h1 h2 => hg4 x (by omega))
    have hH4 : Hd m m4 d := hF1.tr ⟨by omega, fun x hx => ⟨⟨(hg4 x (by omega)).1, (hb4 x (by omega)).2.2.2.trans (hB3 x (by omega)).2.2.2⟩, fun _ => (hg4 x (by omega)).2⟩⟩
    have hG4 := hG.fd hH4
    have hr5 : RowA m4 B q (fun e => f (0 + e) - nI 97) kb := ⟨by omega, by omega, hr4⟩
    obtain ⟨hD, hR, hV, hl, _, hf⟩ := id hK4
    have hCx : ∀ I R, FrB m4 (d + 1 + 37) (d + 1 + 47) I R → CsT g (wM m4 I R) := fun I R hF => (hG4.fd (Hd.fb (Hd.rfl' m4 d) hF (by omega) (by omega))).1
    refine gm_callV _ _ _ (cn_X6_replaceSource0 g (0, 0) (m := m4) (B := B) (c := c) (zt := txZ z s f kb 0) hD.s hR hz hSB hs hr5 (by rw [txZ_p, hln]) (fun e he => by rw [txZ_w _ _ _ _ _ (by omega)]; unfold txF; rw [hln, if_pos he]; rfl) (fun j h1 h2 => txZ_lo _ _ _ _ _ h1 h2) h0) ⟨rfl, rfl⟩ (ok_X6_replaceSource _) mlX9_168 in_X6_replaceSource se_X6_replaceSource 6 0 (hD.s.t) rfl rfl rfl ⟨Nat.le_of_ble_eq_true rfl, Nat.le_of_ble_eq_true rfl⟩ (by exact Nat.le_of_ble_eq_true rfl) ⟨Nat.le_of_ble_eq_true rfl, Nat.le_of_ble_eq_true rfl⟩ dX9_change_88 rfl (fun I R hP => ?_)
    obtain ⟨hF, hS3, hR3, h1v⟩ := hP
    have hK5 := DkV.nw hK4 hB hF hS3 hR3
    have hH5 := hH4.fb hF (by omega) (by omega)
    have h1w : im (wM m4 I R) (d + 1 + 37 + s) 1 = nI 0 := h1v.trans ((txZ_lo _ _ _ _ _ (by omega) (by omega)).trans h0)
    have hz50 : nv ((txZ z s f kb 0) 0) ≤ 10 := by
      rw [show (txZ z s f kb 0) 0 = z 0 from by skip; exact txZ_lo _ _ _ _ _ (by omega) (by omega)]; exact hz0
    generalize wM m4 I R = m5 at hK5 hH5 h1w ⊢
    obtain ⟨hD, hR, hV, hl, _, hf⟩ := id hK5
    refine g_aload_n 0 dX9_change_91 rfl rfl ?_
    refine gN_getR (d + 332) flX9_26 (fun _ _ _ => rfl) 0 (hD.t) (hD.r2) dX9_change_92 ?_
    refine gN_iconst 0 dX9_change_95 (by decide) ?_
    refine gN_putI fwX9_140 rfl 0 (hD.tb) dX9_change_96 ?_
    refine g_aload_n 2 dX9_change_99 rfl rfl ?_
    refine gN_getI flX9_75 rfl 0 (hD.s.tS (by omega)) dX9_change_100 ?_
    refine g_eI (nI 0) (by rw [im_sI, u2_o _ _ _ _ (by omega)]; exact h1w) ?_
    refine g_iret rfl dX9_change_103 ⟨Nat.le_of_ble_eq_true rfl, Nat.le_of_ble_eq_true rfl⟩ ?_
    have hFa : FrB m5 (d + 332) (d + 334) (u2 (im m5) (d + 332) 1 (nI 0)) (rf m5) := ((FrB.rfl' _ _ _).i _ (by omega) (by omega))
    refine ⟨vI ?_, hH5.fb (I := (u2 (im m5) (d + 332) 1 (nI 0))) (R := rf m5) hFa (by omega) (by omega), DkV.bf (m := m5) (I := (u2 (im m5) (d + 332) 1 (nI 0))) hK5 hz50 hB hFa (u2_s _ _ _ _) (by omega) (fun e he => absurd he (Nat.not_lt_zero _))⟩
    rfl
  · refine g_aload_n 0 dX9_change_11 rfl rfl ?_
    refine gN_getR (d + 332) flX9_26 (fun _ _ _ => rfl) 0 (hD.t) (hD.r2) dX9_change_12 ?_
    refine gd_callV _ _ _ _ (cn_X1_isComplete g (0, 0) hD.tb hD.tc hD.rb hl hk6 hf) ⟨rfl, rfl⟩ (ok_X1_isComplete _) mlX9_148 in_X1_isComplete se_X1_isComplete 1 0 (hD.tb) rfl rfl rfl ⟨Nat.le_of_ble_eq_true rfl, Nat.le_of_ble_eq_true rfl⟩ (by exact Nat.le_of_ble_eq_true rfl) ⟨Nat.zero_le _, Nat.zero_le _⟩ dX9_change_15 rfl ?_
    refine gN_if_eq 36 dX9_change_18 (by decide) (by first | omega | exact b01_lt _) (fun h_18 => ?_) (fun h_18 => ?_)
    · refine gN_iconst 0 dX9_change_36 (by decide) ?_
      exact g_ei (nI (b01 (okT f kb ∧ lastT f kb = 0))) (congrArg nI (show 0 = b01 (okT f kb ∧ lastT f kb = 0) from by first | exact (b01_t ⟨b01_n.mp h_18, by have hq9 : sm (fun e => b01 (f e = nI 59)) kb = lastT f kb := sem_k (b01_n.mp h_18); omega⟩).symm | exact (b01_f (fun (q : okT f kb ∧ lastT f kb = 0) => by first | exact b01_z.mp h_18 q.1 | (have hq9 : sm (fun e => b01 (f e = nI 59)) kb = lastT f kb := sem_k q.1; have hq8 := q.2; omega))).symm)) K_37
    · refine g_aload_n 0 dX9_change_21 rfl rfl ?_
      refine gN_getR (d + 332) flX9_26 (fun _ _ _ => rfl) 0 (hD.t) (hD.r2) dX9_change_22 ?_
      refine gd_callV _ _ _ _ (cn_X1_rowCount g (0, 0) hD.tb hD.tc hD.rb hl hk6 hf) ⟨rfl, rfl⟩ (ok_X1_rowCount _) mlX9_155 in_X1_rowCount se_X1_rowCount 1 0 (hD.tb) rfl rfl rfl ⟨Nat.le_of_ble_eq_true rfl, Nat.le_of_ble_eq_true rfl⟩ (by exact Nat.le_of_ble_eq_true rfl) ⟨Nat.zero_le _, Nat.zero_le _⟩ dX9_change_25 rfl ?_
      refine gN_iconst 1 dX9_change_28 (by decide) ?_
      refine gN_icmp_ne 36 dX9_change_29 (by decide) (by first | omega | exact b01_lt _) (by first | omega | exact b01_lt _) (fun h_29 => ?_) (fun h_29 => ?_)
      · refine gN_iconst 0 dX9_change_36 (by decide) ?_
        exact g_ei (nI (b01 (okT f kb ∧ lastT f kb = 0))) (congrArg nI (show 0 = b01 (okT f kb ∧ lastT f kb = 0) from by first | exact (b01_t ⟨b01_n.mp h_18, by have hq9 : sm (fun e => b01 (f e = nI 59)) kb = lastT f kb := sem_k (b01_n.mp h_18); omega⟩).symm | exact (b01_f (fun (q : okT f kb ∧ lastT f kb = 0) => by first | exact b01_z.mp h_18 q.1 | (have hq9 : sm (fun e => b01 (f e = nI 59)) kb = lastT f kb := sem_k q.1; have hq8 := q.2; omega))).symm)) K_37
      · refine gN_iconst 1 dX9_change_32 (by decide) ?_
        refine g_goto 37 dX9_change_33 (by decide) ?_
        exact g_ei (nI (b01 (okT f kb ∧ lastT f kb = 0))) (congrArg nI (show 1 = b01 (okT f kb ∧ lastT f kb = 0) from by first | exact (b01_t ⟨b01_n.mp h_18, by have hq9 : sm (fun e => b01 (f e = nI 59)) kb = lastT f kb := sem_k (b01_n.mp h_18); omega⟩).symm | exact (b01_f (fun (q : okT f kb ∧ lastT f kb = 0) => by first | exact b01_z.mp h_18 q.1 | (have hq9 : sm (fun e => b01 (f e = nI 59)) kb = lastT f kb := sem_k q.1; have hq8 := q.2; omega))).symm)) K_37
set_option maxRecDepth 100000 in
theorem cn_X9_change1 (g : Gp) {m : Mm} {d B c k kb : Nat} {z : Nat → Int32} {rows : Nat → Nat → Int32} {f : Nat → Int32} (hB : d + 344 ≤ B) (hG : KdT g m d) (hK : DkV m d B c k kb z rows f) (hz : ZOk c z) (hBf : B ≤ fz m) {s : Nat} (hs : s < nv (z 0)) (h : okT f kb ∧ lastT f kb = 0) (h0 : z (79 + 22 * s + 1) = nI 1) (h5 : z (79 + 22 * s + 5) = nI 0 ∧ z (79 + 22 * s + 7) = -1 ∧ z (79 + 22 * s + 8) = nI 0) : Cn g (MX9_change (3, 23)) [.ref d, .int (nI s)] m (kQ m d B c (sk k) 0 (fxZ (txZ z s f kb 0) s) (svR k z rows) f (some (.int (nI 1)))) := by
  have hz0 := hz.n0.hi
  have hz1 := hz.n1.hi
  have hSB : d + 1 + 47 ≤ B := by omega
  have hC := hG.1
  have hK0 := hK
  obtain ⟨hD, hR, ⟨fst, hV⟩, hl, hk6, hf⟩ := hK0
  have hsm9 := sm_le (fun e => b01 (f e = nI 59)) 1 kb (fun e _ => b01_le _)
  have hln : ln f kb 0 = kb := by
    have h8 := h.1.2
    unfold plc at h8
    rw [h.2] at h8
    have h9 : 0 + ln f kb 0 = kb := h8
    omega
  have hk12 := ln_12 f kb 0
  have hil : ∀ e, e < kb → isl f kb (0 + e) := fun e he => rl_isl f kb 12 0 e (by have h7 : rl f kb 12 0 = kb := hln; omega)
  refine Cn.of pn_X9 (Nat.le_of_ble_eq_true rfl) rfl ?_
  refine g_iload_n 1 dX9_change_0 rfl rfl ?_
  refine g_aload_n 0 dX9_change_1 rfl rfl ?_
  refine gN_getR (d + 1) flX9_10 (fun _ _ _ => rfl) 0 (hD.t) (hD.r0) dX9_change_2 ?_
  refine gN_getI flX9_68 rfl 0 (hD.s.t) dX9_change_5 ?_
  refine g_ei (nI (nv (z 0))) (hR.c0.trans hz.n0.e) ?_
  refine gd_callS _ _ _ _ (cn_X9_checkNumber g (0, 0) (j := s) (N := nv (z 0)) (by omega) (by omega)) ⟨rfl, rfl⟩ (ok_X9_checkNumber _) mlX9_30 st_X9_checkNumber rfl ⟨Nat.le_of_ble_eq_true rfl, Nat.le_of_ble_eq_true rfl⟩ (by exact Nat.le_of_ble_eq_true rfl) ⟨Nat.zero_le _, Nat.zero_le _⟩ dX9_change_8 rfl ?_
  refine g_join 37 (b01 (okT f kb ∧ lastT f kb = 0)) ?_ (fun K_37 => ?_)
  · refine gd_callS _ _ _ _ (cn_X9_checkArgument g (0, 0) (p := okT f kb ∧ lastT f kb = 0) (h)) ⟨rfl, rfl⟩ (ok_X9_checkArgument _) mlX9_152 st_X9_checkArgument rfl ⟨Nat.le_of_ble_eq_true rfl, Nat.le_of_ble_eq_true rfl⟩ (by exact Nat.le_of_ble_eq_true rfl) ⟨Nat.zero_le _, Nat.zero_le _⟩ dX9_change_37 rfl ?_
    refine g_aload_n 0 dX9_change_40 rfl rfl ?_
    refine gN_getR (d + 48) flX9_19 (fun _ _ _ => rfl) 0 (hD.t) (hD.r1) dX9_change_41 ?_
    refine g_aload_n 0 dX9_change_44 rfl rfl ?_
    refine gN_getR (d + 1) flX9_10 (fun _ _ _ => rfl) 0 (hD.t) (hD.r0) dX9_change_45 ?_
    refine gm_callV _ _ _ (cn_X2_save g (0, 0) (m := m) (H := d + 48) (S := d + 1) (B := B) (c := c) (z := z) hD.h hV hD.s hR hz rfl (by omega)) ⟨rfl, rfl⟩ (ok_X2_save _) mlX9_38 in_X2_save se_X2_save 2 0 (hD.h.t) rfl rfl rfl ⟨Nat.le_of_ble_eq_true rfl, Nat.le_of_ble_eq_true rfl⟩ (by exact Nat.le_of_ble_eq_true rfl) ⟨Nat.zero_le _, Nat.zero_le _⟩ dX9_change_48 rfl (fun I R hP => ?_)
    obtain ⟨hF, hH2, fst2, hV2⟩ := hP
    have hK1 := DkV.sv hK hz0 hB hF hH2 hV2
    have hF1 := Hd.fb (Hd.rfl' m d) hF (by omega) (by omega)
    generalize wM m I R = m1 at hK1 hF1 ⊢
    clear hF hH2 hV2 hD hR hV hl hf hC
    have hG1 := hG.fd hF1
    have hC := hG1.1
    have hK2 := hK1
    obtain ⟨hD, hR, ⟨fst1, hV⟩, hl, _, hf⟩ := hK2
    
    refine g_aload_n 0 dX9_change_51 rfl rfl ?_
    refine gN_getR (d + 1) flX9_10 (fun _ _ _ => rfl) 0 (hD.t) (hD.r0) dX9_change_52 ?_
    refine gN_getR (d + 1 + 5) flX9_71 (fun _ _ _ => rfl) 0 (hD.s.t) (hD.s.r4) dX9_change_55 ?_
    refine g_iload_n 1 dX9_change_58 rfl rfl ?_
    refine gN_aald 14 10 (d + 1 + 37 + s) (hD.s.t5) (by decide) (by first | omega | exact b01_lt _) (by first | omega | exact b01_lt _) (hD.s.rS (by omega)) dX9_change_59 ?_
    refine g_astore_n 2 [(2, .ref (d + 1 + 37 + s)), (0, .ref (d)), (1, .int (nI (s)))] dX9_change_60 rfl (Nat.le_of_ble_eq_true rfl) rfl ?_
    refine g_aload_n 0 dX9_change_61 rfl rfl ?_
    refine gN_getR (d + 1) flX9_10 (fun _ _ _ => rfl) 0 (hD.t) (hD.r0) dX9_change_62 ?_
    refine g_aload_n 2 dX9_change_65 rfl rfl ?_
    obtain ⟨q, hq⟩ : ∃ q, q = fz m1 := ⟨_, rfl⟩
    have hq1b : B ≤ q := by have := hF1.1; omega
    refine g_newA (c := 4) q hq.symm rfl klX9_113 ii_X4 iz_X4 (df_ok rfl) ⟨Nat.le_of_ble_eq_true rfl, Nat.le_of_ble_eq_true rfl⟩ dX9_change_66 ?_
    have hB3 : Bfr m1 (nwA m1 q (4, 0)) q := fun x hx => ⟨u1_n _ _ _ (by omega), u1_n _ _ _ (by omega), u1_n _ _ _ (by omega), u1_n _ _ _ (by omega)⟩
    have ht3 : tg (nwA m1 q (4, 0)) q = (4, 0) := u1_s _ _ _
    have hz3 : fz (nwA m1 q (4, 0)) = q + 1 := rfl
    generalize nwA m1 q (4, 0) = m3 at hB3 ht3 hz3 ⊢
    have hK3 : DkV m3 d B c (sk k) kb z (svR k z rows) f := hK1.fr (by omega) (by omega) (fun x h1 h2 => ⟨(hB3 x (by omega)).1, (hB3 x (by omega)).2.1, (hB3 x (by omega)).2.2.1⟩) (fun x h1 h2 => ⟨(hB3 x (by omega)).1, (hB3 x (by omega)).2.1, (hB3 x (by omega)).2.2.1⟩)
    obtain ⟨hD, hR, hV, hl, _, hf⟩ := hK3
    refine g_dup dX9_change_69 rfl ?_
    refine g_aload_n 0 dX9_change_70 rfl rfl ?_
    refine gN_getR (d + 332) flX9_26 (fun _ _ _ => rfl) 0 (hD.t) (hD.r2) dX9_change_71 ?_
    refine gN_getR (d + 333) flX9_141 (fun _ _ _ => rfl) 0 (hD.tb) (hD.rb) dX9_change_74 ?_
    refine gN_iconst 0 dX9_change_77 (by decide) ?_
    refine g_aload_n 0 dX9_change_78 rfl rfl ?_
    refine gN_getR (d + 332) flX9_26 (fun _ _ _ => rfl) 0 (hD.t) (hD.r2) dX9_change_79 ?_
    refine gN_getI flX9_140 rfl 0 (hD.tb) dX9_change_82 ?_
    refine g_ei (nI (kb)) (hl) ?_
    have hci : Cn g (MX4_init (2, 20)) [.ref q, .ref (d + 333), .int (nI 0), .int (nI kb)] m3 (fun r m1 => r = .inl none ∧ fz m1 = q + 3 ∧ RowT m1 q (fun e => f (0 + e) - nI 97) kb ∧ Bfr m3 m1 q) := by
      have h9 := cn_X4_init g (0, 0) (m := m3) (q := q) (C := d + 333) (b := 0) (n := kb) (f := f) ht3 hz3 hD.tc (by omega) (by omega) (by omega) (fun e he => hf _ (by omega)) (fun e he => isl_w (hil e he))
      rw [Nat.zero_add] at h9
      exact h9
    refine g_callI _ _ hci (ok_X4_init _) rfl rfl mlX9_161 in_X4_init rfl ⟨Nat.le_of_ble_eq_true rfl, Nat.le_of_ble_eq_true rfl⟩ (by exact Nat.le_of_ble_eq_true rfl) ⟨Nat.le_of_ble_eq_true rfl, Nat.le_of_ble_eq_true rfl⟩ dX9_change_85 rfl (fun v m4 h4 => ?_) (fun E m4 h4 => by cases h4.1)
    obtain ⟨h40, hz4, hr4, hb4⟩ := h4
    cases h40
    refine g_u (u2 := (3, 23)) rfl ?_
    have hg4 : ∀ x, x < q → agr m1 m4 x := fun x hx => ⟨(hb4 x hx).1.trans (hB3 x hx).1, (hb4 x hx).2.1.trans (hB3 x hx).2.1, (hb4 x hx).2.2.1.trans (hB3 x hx).2.2.1⟩
    have hK4 : DkV m4 d B c (sk k) kb z (svR k z rows) f := hK1.fr (by omega) (by omega) (fun x h1 h2 => hg4 x (by omega)) (fun x h1 h2 => hg4 x (by omega))
    have hH4 : Hd m m4 d := hF1.tr ⟨by omega, fun x hx => ⟨⟨(hg4 x (by omega)).1, (hb4 x (by omega)).2.2.2.trans (hB3 x (by omega)).2.2.2⟩, fun _ => (hg4 x (by omega)).2⟩⟩
    have hG4 := hG.fd hH4
    have hr5 : RowA m4 B q (fun e => f (0 + e) - nI 97) kb := ⟨by omega, by omega, hr4⟩
    obtain ⟨hD, hR, hV, hl, _, hf⟩ := id hK4
    have hCx : ∀ I R, FrB m4 (d + 1 + 37) (d + 1 + 47) I R → CsT g (wM m4 I R) := fun I R hF => (hG4.fd (Hd.fb (Hd.rfl' m4 d) hF (by omega) (by omega))).1
    refine gm_callV _ _ _ (cn_X6_replaceSource1 g (0, 0) (m := m4) (B := B) (c := c) (zt := txZ z s f kb 0) hD.s hR hz hSB hs hr5 (by rw [txZ_p, hln]) (fun e he => by rw [txZ_w _ _ _ _ _ (by omega)]; unfold txF; rw [hln, if_pos he]; rfl) (fun j h1 h2 => txZ_lo _ _ _ _ _ h1 h2) hCx h0 h5) ⟨rfl, rfl⟩ (ok_X6_replaceSource _) mlX9_168 in_X6_replaceSource se_X6_replaceSource 6 0 (hD.s.t) rfl rfl rfl ⟨Nat.le_of_ble_eq_true rfl, Nat.le_of_ble_eq_true rfl⟩ (by exact Nat.le_of_ble_eq_true rfl) ⟨Nat.le_of_ble_eq_true rfl, Nat.le_of_ble_eq_true rfl⟩ dX9_change_88 rfl (fun I R hP => ?_)
    obtain ⟨hF, hS3, hR3, h1v⟩ := hP
    have hK5 := DkV.nw hK4 hB hF hS3 hR3
    have hH5 := hH4.fb hF (by omega) (by omega)
    have h1w : im (wM m4 I R) (d + 1 + 37 + s) 1 = nI 1 := h1v.trans ((fxZ_1 _ _).trans ((txZ_lo _ _ _ _ _ (by omega) (by omega)).trans h0))
    have hz50 : nv ((fxZ (txZ z s f kb 0) s) 0) ≤ 10 := by
      rw [show (fxZ (txZ z s f kb 0) s) 0 = z 0 from by unfold fxZ; rw [u1_n _ _ _ (by omega), u1_n _ _ _ (by omega)]; exact txZ_lo _ _ _ _ _ (by omega) (by omega)]; exact hz0
    generalize wM m4 I R = m5 at hK5 hH5 h1w ⊢
    obtain ⟨hD, hR, hV, hl, _, hf⟩ := id hK5
    refine g_aload_n 0 dX9_change_91 rfl rfl ?_
    refine gN_getR (d + 332) flX9_26 (fun _ _ _ => rfl) 0 (hD.t) (hD.r2) dX9_change_92 ?_
    refine gN_iconst 0 dX9_change_95 (by decide) ?_
    refine gN_putI fwX9_140 rfl 0 (hD.tb) dX9_change_96 ?_
    refine g_aload_n 2 dX9_change_99 rfl rfl ?_
    refine gN_getI flX9_75 rfl 0 (hD.s.tS (by omega)) dX9_change_100 ?_
    refine g_eI (nI 1) (by rw [im_sI, u2_o _ _ _ _ (by omega)]; exact h1w) ?_
    refine g_iret rfl dX9_change_103 ⟨Nat.le_of_ble_eq_true rfl, Nat.le_of_ble_eq_true rfl⟩ ?_
    have hFa : FrB m5 (d + 332) (d + 334) (u2 (im m5) (d + 332) 1 (nI 0)) (rf m5) := ((FrB.rfl' _ _ _).i _ (by omega) (by omega))
    refine ⟨vI ?_, hH5.fb (I := (u2 (im m5) (d + 332) 1 (nI 0))) (R := rf m5) hFa (by omega) (by omega), DkV.bf (m := m5) (I := (u2 (im m5) (d + 332) 1 (nI 0))) hK5 hz50 hB hFa (u2_s _ _ _ _) (by omega) (fun e he => absurd he (Nat.not_lt_zero _))⟩
    rfl
  · refine g_aload_n 0 dX9_change_11 rfl rfl ?_
    refine gN_getR (d + 332) flX9_26 (fun _ _ _ => rfl) 0 (hD.t) (hD.r2) dX9_change_12 ?_
    refine gd_callV _ _ _ _ (cn_X1_isComplete g (0, 0) hD.tb hD.tc hD.rb hl hk6 hf) ⟨rfl, rfl⟩ (ok_X1_isComplete _) mlX9_148 in_X1_isComplete se_X1_isComplete 1 0 (hD.tb) rfl rfl rfl ⟨Nat.le_of_ble_eq_true rfl, Nat.le_of_ble_eq_true rfl⟩ (by exact Nat.le_of_ble_eq_true rfl) ⟨Nat.zero_le _, Nat.zero_le _⟩ dX9_change_15 rfl ?_
    refine gN_if_eq 36 dX9_change_18 (by decide) (by first | omega | exact b01_lt _) (fun h_18 => ?_) (fun h_18 => ?_)
    · refine gN_iconst 0 dX9_change_36 (by decide) ?_
      exact g_ei (nI (b01 (okT f kb ∧ lastT f kb = 0))) (congrArg nI (show 0 = b01 (okT f kb ∧ lastT f kb = 0) from by first | exact (b01_t ⟨b01_n.mp h_18, by have hq9 : sm (fun e => b01 (f e = nI 59)) kb = lastT f kb := sem_k (b01_n.mp h_18); omega⟩).symm | exact (b01_f (fun (q : okT f kb ∧ lastT f kb = 0) => by first | exact b01_z.mp h_18 q.1 | (have hq9 : sm (fun e => b01 (f e = nI 59)) kb = lastT f kb := sem_k q.1; have hq8 := q.2; omega))).symm)) K_37
    · refine g_aload_n 0 dX9_change_21 rfl rfl ?_
      refine gN_getR (d + 332) flX9_26 (fun _ _ _ => rfl) 0 (hD.t) (hD.r2) dX9_change_22 ?_
      refine gd_callV _ _ _ _ (cn_X1_rowCount g (0, 0) hD.tb hD.tc hD.rb hl hk6 hf) ⟨rfl, rfl⟩ (ok_X1_rowCount _) mlX9_155 in_X1_rowCount se_X1_rowCount 1 0 (hD.tb) rfl rfl rfl ⟨Nat.le_of_ble_eq_true rfl, Nat.le_of_ble_eq_true rfl⟩ (by exact Nat.le_of_ble_eq_true rfl) ⟨Nat.zero_le _, Nat.zero_le _⟩ dX9_change_25 rfl ?_
      refine gN_iconst 1 dX9_change_28 (by decide) ?_
      refine gN_icmp_ne 36 dX9_change_29 (by decide) (by first | omega | exact b01_lt _) (by first | omega | exact b01_lt _) (fun h_29 => ?_) (fun h_29 => ?_)
      · refine gN_iconst 0 dX9_change_36 (by decide) ?_
        exact g_ei (nI (b01 (okT f kb ∧ lastT f kb = 0))) (congrArg nI (show 0 = b01 (okT f kb ∧ lastT f kb = 0) from by first | exact (b01_t ⟨b01_n.mp h_18, by have hq9 : sm (fun e => b01 (f e = nI 59)) kb = lastT f kb := sem_k (b01_n.mp h_18); omega⟩).symm | exact (b01_f (fun (q : okT f kb ∧ lastT f kb = 0) => by first | exact b01_z.mp h_18 q.1 | (have hq9 : sm (fun e => b01 (f e = nI 59)) kb = lastT f kb := sem_k q.1; have hq8 := q.2; omega))).symm)) K_37
      · refine gN_iconst 1 dX9_change_32 (by decide) ?_
        refine g_goto 37 dX9_change_33 (by decide) ?_
        exact g_ei (nI (b01 (okT f kb ∧ lastT f kb = 0))) (congrArg nI (show 1 = b01 (okT f kb ∧ lastT f kb = 0) from by first | exact (b01_t ⟨b01_n.mp h_18, by have hq9 : sm (fun e => b01 (f e = nI 59)) kb = lastT f kb := sem_k (b01_n.mp h_18); omega⟩).symm | exact (b01_f (fun (q : okT f kb ∧ lastT f kb = 0) => by first | exact b01_z.mp h_18 q.1 | (have hq9 : sm (fun e => b01 (f e = nI 59)) kb = lastT f kb := sem_k q.1; have hq8 := q.2; omega))).symm)) K_37
set_option maxRecDepth 100000 in
theorem cn_X9_change2 (g : Gp) {m : Mm} {d B c k kb : Nat} {z : Nat → Int32} {rows : Nat → Nat → Int32} {f : Nat → Int32} (hB : d + 344 ≤ B) (hG : KdT g m d) (hK : DkV m d B c k kb z rows f) (hz : ZOk c z) (hBf : B ≤ fz m) {s : Nat} (hs : s < nv (z 0)) (h : okT f kb ∧ lastT f kb = 0) (h0 : 2 ≤ nv (z (79 + 22 * s + 1))) : Cn g (MX9_change (3, 23)) [.ref d, .int (nI s)] m (kQ m d B c (sk k) 0 (fxZ (rsZ (txZ z s f kb 0) s) s) (svR k z rows) f (some (.int (nI 1)))) := by
  have hz0 := hz.n0.hi
  have hz1 := hz.n1.hi
  have hSB : d + 1 + 47 ≤ B := by omega
  have hC := hG.1
  have hK0 := hK
  obtain ⟨hD, hR, ⟨fst, hV⟩, hl, hk6, hf⟩ := hK0
  have hsm9 := sm_le (fun e => b01 (f e = nI 59)) 1 kb (fun e _ => b01_le _)
  have hln : ln f kb 0 = kb := by
    have h8 := h.1.2
    unfold plc at h8
    rw [h.2] at h8
    have h9 : 0 + ln f kb 0 = kb := h8
    omega
  have hk12 := ln_12 f kb 0
  have hil : ∀ e, e < kb → isl f kb (0 + e) := fun e he => rl_isl f kb 12 0 e (by have h7 : rl f kb 12 0 = kb := hln; omega)
  refine Cn.of pn_X9 (Nat.le_of_ble_eq_true rfl) rfl ?_
  refine g_iload_n 1 dX9_change_0 rfl rfl ?_
  refine g_aload_n 0 dX9_change_1 rfl rfl ?_
  refine gN_getR (d + 1) flX9_10 (fun _ _ _ => rfl) 0 (hD.t) (hD.r0) dX9_change_2 ?_
  refine gN_getI flX9_68 rfl 0 (hD.s.t) dX9_change_5 ?_
  refine g_ei (nI (nv (z 0))) (hR.c0.trans hz.n0.e) ?_
  refine gd_callS _ _ _ _ (cn_X9_checkNumber g (0, 0) (j := s) (N := nv (z 0)) (by omega) (by omega)) ⟨rfl, rfl⟩ (ok_X9_checkNumber _) mlX9_30 st_X9_checkNumber rfl ⟨Nat.le_of_ble_eq_true rfl, Nat.le_of_ble_eq_true rfl⟩ (by exact Nat.le_of_ble_eq_true rfl) ⟨Nat.zero_le _, Nat.zero_le _⟩ dX9_change_8 rfl ?_
  refine g_join 37 (b01 (okT f kb ∧ lastT f kb = 0)) ?_ (fun K_37 => ?_)
  · refine gd_callS _ _ _ _ (cn_X9_checkArgument g (0, 0) (p := okT f kb ∧ lastT f kb = 0) (h)) ⟨rfl, rfl⟩ (ok_X9_checkArgument _) mlX9_152 st_X9_checkArgument rfl ⟨Nat.le_of_ble_eq_true rfl, Nat.le_of_ble_eq_true rfl⟩ (by exact Nat.le_of_ble_eq_true rfl) ⟨Nat.zero_le _, Nat.zero_le _⟩ dX9_change_37 rfl ?_
    refine g_aload_n 0 dX9_change_40 rfl rfl ?_
    refine gN_getR (d + 48) flX9_19 (fun _ _ _ => rfl) 0 (hD.t) (hD.r1) dX9_change_41 ?_
    refine g_aload_n 0 dX9_change_44 rfl rfl ?_
    refine gN_getR (d + 1) flX9_10 (fun _ _ _ => rfl) 0 (hD.t) (hD.r0) dX9_change_45 ?_
    refine gm_callV _ _ _ (cn_X2_save g (0, 0) (m := m) (H := d + 48) (S := d + 1) (B := B) (c := c) (z := z) hD.h hV hD.s hR hz rfl (by omega)) ⟨rfl, rfl⟩ (ok_X2_save _) mlX9_38 in_X2_save se_X2_save 2 0 (hD.h.t) rfl rfl rfl ⟨Nat.le_of_ble_eq_true rfl, Nat.le_of_ble_eq_true rfl⟩ (by exact Nat.le_of_ble_eq_true rfl) ⟨Nat.zero_le _, Nat.zero_le _⟩ dX9_change_48 rfl (fun I R hP => ?_)
    obtain ⟨hF, hH2, fst2, hV2⟩ := hP
    have hK1 := DkV.sv hK hz0 hB hF hH2 hV2
    have hF1 := Hd.fb (Hd.rfl' m d) hF (by omega) (by omega)
    generalize wM m I R = m1 at hK1 hF1 ⊢
    clear hF hH2 hV2 hD hR hV hl hf hC
    have hG1 := hG.fd hF1
    have hC := hG1.1
    have hK2 := hK1
    obtain ⟨hD, hR, ⟨fst1, hV⟩, hl, _, hf⟩ := hK2
    
    refine g_aload_n 0 dX9_change_51 rfl rfl ?_
    refine gN_getR (d + 1) flX9_10 (fun _ _ _ => rfl) 0 (hD.t) (hD.r0) dX9_change_52 ?_
    refine gN_getR (d + 1 + 5) flX9_71 (fun _ _ _ => rfl) 0 (hD.s.t) (hD.s.r4) dX9_change_55 ?_
    refine g_iload_n 1 dX9_change_58 rfl rfl ?_
    refine gN_aald 14 10 (d + 1 + 37 + s) (hD.s.t5) (by decide) (by first | omega | exact b01_lt _) (by first | omega | exact b01_lt _) (hD.s.rS (by omega)) dX9_change_59 ?_
    refine g_astore_n 2 [(2, .ref (d + 1 + 37 + s)), (0, .ref (d)), (1, .int (nI (s)))] dX9_change_60 rfl (Nat.le_of_ble_eq_true rfl) rfl ?_
    refine g_aload_n 0 dX9_change_61 rfl rfl ?_
    refine gN_getR (d + 1) flX9_10 (fun _ _ _ => rfl) 0 (hD.t) (hD.r0) dX9_change_62 ?_
    refine g_aload_n 2 dX9_change_65 rfl rfl ?_
    obtain ⟨q, hq⟩ : ∃ q, q = fz m1 := ⟨_, rfl⟩
    have hq1b : B ≤ q := by have := hF1.1; omega
    refine g_newA (c := 4) q hq.symm rfl klX9_113 ii_X4 iz_X4 (df_ok rfl) ⟨Nat.le_of_ble_eq_true rfl, Nat.le_of_ble_eq_true rfl⟩ dX9_change_66 ?_
    have hB3 : Bfr m1 (nwA m1 q (4, 0)) q := fun x hx => ⟨u1_n _ _ _ (by omega), u1_n _ _ _ (by omega), u1_n _ _ _ (by omega), u1_n _ _ _ (by omega)⟩
    have ht3 : tg (nwA m1 q (4, 0)) q = (4, 0) := u1_s _ _ _
    have hz3 : fz (nwA m1 q (4, 0)) = q + 1 := rfl
    generalize nwA m1 q (4, 0) = m3 at hB3 ht3 hz3 ⊢
    have hK3 : DkV m3 d B c (sk k) kb z (svR k z rows) f := hK1.fr (by omega) (by omega) (fun x h1 h2 => ⟨(hB3 x (by omega)).1, (hB3 x (by omega)).2.1, (hB3 x (by omega)).2.2.1⟩) (fun x h1 h2 => ⟨(hB3 x (by omega)).1, (hB3 x (by omega)).2.1, (hB3 x (by omega)).2.2.1⟩)
    obtain ⟨hD, hR, hV, hl, _, hf⟩ := hK3
    refine g_dup dX9_change_69 rfl ?_
    refine g_aload_n 0 dX9_change_70 rfl rfl ?_
    refine gN_getR (d + 332) flX9_26 (fun _ _ _ => rfl) 0 (hD.t) (hD.r2) dX9_change_71 ?_
    refine gN_getR (d + 333) flX9_141 (fun _ _ _ => rfl) 0 (hD.tb) (hD.rb) dX9_change_74 ?_
    refine gN_iconst 0 dX9_change_77 (by decide) ?_
    refine g_aload_n 0 dX9_change_78 rfl rfl ?_
    refine gN_getR (d + 332) flX9_26 (fun _ _ _ => rfl) 0 (hD.t) (hD.r2) dX9_change_79 ?_
    refine gN_getI flX9_140 rfl 0 (hD.tb) dX9_change_82 ?_
    refine g_ei (nI (kb)) (hl) ?_
    have hci : Cn g (MX4_init (2, 20)) [.ref q, .ref (d + 333), .int (nI 0), .int (nI kb)] m3 (fun r m1 => r = .inl none ∧ fz m1 = q + 3 ∧ RowT m1 q (fun e => f (0 + e) - nI 97) kb ∧ Bfr m3 m1 q) := by
      have h9 := cn_X4_init g (0, 0) (m := m3) (q := q) (C := d + 333) (b := 0) (n := kb) (f := f) ht3 hz3 hD.tc (by omega) (by omega) (by omega) (fun e he => hf _ (by omega)) (fun e he => isl_w (hil e he))
      rw [Nat.zero_add] at h9
      exact h9
    refine g_callI _ _ hci (ok_X4_init _) rfl rfl mlX9_161 in_X4_init rfl ⟨Nat.le_of_ble_eq_true rfl, Nat.le_of_ble_eq_true rfl⟩ (by exact Nat.le_of_ble_eq_true rfl) ⟨Nat.le_of_ble_eq_true rfl, Nat.le_of_ble_eq_true rfl⟩ dX9_change_85 rfl (fun v m4 h4 => ?_) (fun E m4 h4 => by cases h4.1)
    obtain ⟨h40, hz4, hr4, hb4⟩ := h4
    cases h40
    refine g_u (u2 := (3, 23)) rfl ?_
    have hg4 : ∀ x, x < q → agr m1 m4 x := fun x hx => ⟨(hb4 x hx).1.trans (hB3 x hx).1, (hb4 x hx).2.1.trans (hB3 x hx).2.1, (hb4 x hx).2.2.1.trans (hB3 x hx).2.2.1⟩
    have hK4 : DkV m4 d B c (sk k) kb z (svR k z rows) f := hK1.fr (by omega) (by omega) (fun x h1 h2 => hg4 x (by omega)) (fun x h1 h2 => hg4 x (by omega))
    have hH4 : Hd m m4 d := hF1.tr ⟨by omega, fun x hx => ⟨⟨(hg4 x (by omega)).1, (hb4 x (by omega)).2.2.2.trans (hB3 x (by omega)).2.2.2⟩, fun _ => (hg4 x (by omega)).2⟩⟩
    have hG4 := hG.fd hH4
    have hr5 : RowA m4 B q (fun e => f (0 + e) - nI 97) kb := ⟨by omega, by omega, hr4⟩
    obtain ⟨hD, hR, hV, hl, _, hf⟩ := id hK4
    have hCx : ∀ I R, FrB m4 (d + 1 + 37) (d + 1 + 47) I R → CsT g (wM m4 I R) := fun I R hF => (hG4.fd (Hd.fb (Hd.rfl' m4 d) hF (by omega) (by omega))).1
    refine gm_callV _ _ _ (cn_X6_replaceSource2 g (0, 0) (m := m4) (B := B) (c := c) (zt := txZ z s f kb 0) hD.s hR hz hSB hs hr5 (by rw [txZ_p, hln]) (fun e he => by rw [txZ_w _ _ _ _ _ (by omega)]; unfold txF; rw [hln, if_pos he]; rfl) (fun j h1 h2 => txZ_lo _ _ _ _ _ h1 h2) hCx h0) ⟨rfl, rfl⟩ (ok_X6_replaceSource _) mlX9_168 in_X6_replaceSource se_X6_replaceSource 6 0 (hD.s.t) rfl rfl rfl ⟨Nat.le_of_ble_eq_true rfl, Nat.le_of_ble_eq_true rfl⟩ (by exact Nat.le_of_ble_eq_true rfl) ⟨Nat.le_of_ble_eq_true rfl, Nat.le_of_ble_eq_true rfl⟩ dX9_change_88 rfl (fun I R hP => ?_)
    obtain ⟨hF, hS3, hR3, h1v⟩ := hP
    have hK5 := DkV.nw hK4 hB hF hS3 hR3
    have hH5 := hH4.fb hF (by omega) (by omega)
    have h1w : im (wM m4 I R) (d + 1 + 37 + s) 1 = nI 1 := h1v.trans ((fxZ_1 _ _).trans (rsZ_1 _ _))
    have hz50 : nv ((fxZ (rsZ (txZ z s f kb 0) s) s) 0) ≤ 10 := by
      rw [show (fxZ (rsZ (txZ z s f kb 0) s) s) 0 = z 0 from by unfold fxZ; rw [u1_n _ _ _ (by omega), u1_n _ _ _ (by omega), rsZ_lo _ _ (by omega)]; exact txZ_lo _ _ _ _ _ (by omega) (by omega)]; exact hz0
    generalize wM m4 I R = m5 at hK5 hH5 h1w ⊢
    obtain ⟨hD, hR, hV, hl, _, hf⟩ := id hK5
    refine g_aload_n 0 dX9_change_91 rfl rfl ?_
    refine gN_getR (d + 332) flX9_26 (fun _ _ _ => rfl) 0 (hD.t) (hD.r2) dX9_change_92 ?_
    refine gN_iconst 0 dX9_change_95 (by decide) ?_
    refine gN_putI fwX9_140 rfl 0 (hD.tb) dX9_change_96 ?_
    refine g_aload_n 2 dX9_change_99 rfl rfl ?_
    refine gN_getI flX9_75 rfl 0 (hD.s.tS (by omega)) dX9_change_100 ?_
    refine g_eI (nI 1) (by rw [im_sI, u2_o _ _ _ _ (by omega)]; exact h1w) ?_
    refine g_iret rfl dX9_change_103 ⟨Nat.le_of_ble_eq_true rfl, Nat.le_of_ble_eq_true rfl⟩ ?_
    have hFa : FrB m5 (d + 332) (d + 334) (u2 (im m5) (d + 332) 1 (nI 0)) (rf m5) := ((FrB.rfl' _ _ _).i _ (by omega) (by omega))
    refine ⟨vI ?_, hH5.fb (I := (u2 (im m5) (d + 332) 1 (nI 0))) (R := rf m5) hFa (by omega) (by omega), DkV.bf (m := m5) (I := (u2 (im m5) (d + 332) 1 (nI 0))) hK5 hz50 hB hFa (u2_s _ _ _ _) (by omega) (fun e he => absurd he (Nat.not_lt_zero _))⟩
    rfl
  · refine g_aload_n 0 dX9_change_11 rfl rfl ?_
    refine gN_getR (d + 332) flX9_26 (fun _ _ _ => rfl) 0 (hD.t) (hD.r2) dX9_change_12 ?_
    refine gd_callV _ _ _ _ (cn_X1_isComplete g (0, 0) hD.tb hD.tc hD.rb hl hk6 hf) ⟨rfl, rfl⟩ (ok_X1_isComplete _) mlX9_148 in_X1_isComplete se_X1_isComplete 1 0 (hD.tb) rfl rfl rfl ⟨Nat.le_of_ble_eq_true rfl, Nat.le_of_ble_eq_true rfl⟩ (by exact Nat.le_of_ble_eq_true rfl) ⟨Nat.zero_le _, Nat.zero_le _⟩ dX9_change_15 rfl ?_
    refine gN_if_eq 36 dX9_change_18 (by decide) (by first | omega | exact b01_lt _) (fun h_18 => ?_) (fun h_18 => ?_)
    · refine gN_iconst 0 dX9_change_36 (by decide) ?_
      exact g_ei (nI (b01 (okT f kb ∧ lastT f kb = 0))) (congrArg nI (show 0 = b01 (okT f kb ∧ lastT f kb = 0) from by first | exact (b01_t ⟨b01_n.mp h_18, by have hq9 : sm (fun e => b01 (f e = nI 59)) kb = lastT f kb := sem_k (b01_n.mp h_18); omega⟩).symm | exact (b01_f (fun (q : okT f kb ∧ lastT f kb = 0) => by first | exact b01_z.mp h_18 q.1 | (have hq9 : sm (fun e => b01 (f e = nI 59)) kb = lastT f kb := sem_k q.1; have hq8 := q.2; omega))).symm)) K_37
    · refine g_aload_n 0 dX9_change_21 rfl rfl ?_
      refine gN_getR (d + 332) flX9_26 (fun _ _ _ => rfl) 0 (hD.t) (hD.r2) dX9_change_22 ?_
      refine gd_callV _ _ _ _ (cn_X1_rowCount g (0, 0) hD.tb hD.tc hD.rb hl hk6 hf) ⟨rfl, rfl⟩ (ok_X1_rowCount _) mlX9_155 in_X1_rowCount se_X1_rowCount 1 0 (hD.tb) rfl rfl rfl ⟨Nat.le_of_ble_eq_true rfl, Nat.le_of_ble_eq_true rfl⟩ (by exact Nat.le_of_ble_eq_true rfl) ⟨Nat.zero_le _, Nat.zero_le _⟩ dX9_change_25 rfl ?_
      refine gN_iconst 1 dX9_change_28 (by decide) ?_
      refine gN_icmp_ne 36 dX9_change_29 (by decide) (by first | omega | exact b01_lt _) (by first | omega | exact b01_lt _) (fun h_29 => ?_) (fun h_29 => ?_)
      · refine gN_iconst 0 dX9_change_36 (by decide) ?_
        exact g_ei (nI (b01 (okT f kb ∧ lastT f kb = 0))) (congrArg nI (show 0 = b01 (okT f kb ∧ lastT f kb = 0) from by first | exact (b01_t ⟨b01_n.mp h_18, by have hq9 : sm (fun e => b01 (f e = nI 59)) kb = lastT f kb := sem_k (b01_n.mp h_18); omega⟩).symm | exact (b01_f (fun (q : okT f kb ∧ lastT f kb = 0) => by first | exact b01_z.mp h_18 q.1 | (have hq9 : sm (fun e => b01 (f e = nI 59)) kb = lastT f kb := sem_k q.1; have hq8 := q.2; omega))).symm)) K_37
      · refine gN_iconst 1 dX9_change_32 (by decide) ?_
        refine g_goto 37 dX9_change_33 (by decide) ?_
        exact g_ei (nI (b01 (okT f kb ∧ lastT f kb = 0))) (congrArg nI (show 1 = b01 (okT f kb ∧ lastT f kb = 0) from by first | exact (b01_t ⟨b01_n.mp h_18, by have hq9 : sm (fun e => b01 (f e = nI 59)) kb = lastT f kb := sem_k (b01_n.mp h_18); omega⟩).symm | exact (b01_f (fun (q : okT f kb ∧ lastT f kb = 0) => by first | exact b01_z.mp h_18 q.1 | (have hq9 : sm (fun e => b01 (f e = nI 59)) kb = lastT f kb := sem_k q.1; have hq8 := q.2; omega))).symm)) K_37
