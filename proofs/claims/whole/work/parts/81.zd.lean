/-! WHAT EVERY STATE KEEPS: delivering, revising, texts -/
section ZD
variable {c : Nat} {z z' : Nat → Int32}
theorem zi_rm (h : ZI c z) {s : Nat} (hs : s < nv (z 0)) : ZI c (rmZ z s) := by
  have hz0 := h.1.n0.hi
  have hz1 := h.1.n1.hi
  have hl := lastR_le z hz1
  have e : ∀ j, j < 299 → j ≠ 1 → rmZ z s j = z j := fun j a b => rmZ_lo z s a b
  have e1 : nv (rmZ z s 1) = lastR z + 1 := rmZ_nv1 z s hz1
  obtain ⟨w0, w1⟩ := rmZ_new z (s := s) (by omega)
  refine ⟨⟨⟨by rw [e _ (by omega) (by omega)]; exact h.1.n0, by rw [rmZ_1]; exact nr_nI (Nat.zero_le _) (by omega) (by decide), by rw [e _ (by omega) (by omega)]; exact h.1.n2, by rw [e _ (by omega) (by omega)]; exact h.1.n3⟩, fun p hp => (h.1.t hp).cg (fun j a b => e j (by omega) (by omega)), fun p hp => (h.1.b hp).cg (fun j a b => e j (by omega) (by omega)), fun k hk => by rw [e _ (by omega) (by omega)]; exact h.1.P hk, fun q hq => ?_, fun r hr => ?_⟩, fun _ => by rw [e _ (by omega) (by omega)]; omega, fun q hq => ?_, fun p hp => ?_⟩
  · rw [e _ (by omega) (by omega)] at hq
    exact (h.1.sg hq).cg (fun j a b => e j (by omega) (by omega))
  · rw [e1] at hr
    by_cases q : r = lastR z
    · subst q
      have hr9 := h.1.row hs
      have hr8 := hr9.1.hi
      refine ⟨by rw [w0]; exact hr9.1, fun i hi => ?_⟩
      rw [w0] at hi
      rw [w1 i (by omega)]
      exact hr9.2 i hi
    · have hj : r + dropR z < nv (z 1) := by
        have hj3 : r < lastR z := by omega
        unfold lastR at hj3; unfold dropR
        split at hj3 <;> rename_i w <;> simp only [w, if_true, if_false] <;> omega
      have hm := h.1.mem hj
      have hm8 := hm.1.hi
      have o0 := rmZ_old z (s := s) (r := r) (e := 0) hz1 (by omega) (by omega)
      rw [Nat.add_zero, Nat.add_zero] at o0
      refine ⟨by rw [o0]; exact hm.1, fun i hi => ?_⟩
      rw [o0] at hi
      have o1 := rmZ_old z (s := s) (r := r) (e := 1 + i) hz1 (by omega) (by omega)
      rw [← Nat.add_assoc, ← Nat.add_assoc] at o1
      rw [o1]
      exact hm.2 i hi
  · rw [e _ (by omega) (by omega)] at hq
    exact (h.2.2.1 q hq).cg (fun j a b => e j (by omega) (by omega))
  · rw [e _ (by omega) (by omega), e _ (by omega) (by omega), sm_c (f := pdF (rmZ z s) p) (f' := pdF z p) _ (fun i hi => pdF_cg (fun j a b => e j (by omega) (by omega)))]
    exact h.2.2.2 p hp
theorem pay_r (h : ZI c z) {s t : Nat} (hs : s < nv (z 0)) (ht : t < 4) {x : Int32} (hx : NR x 0 100) : NR (payV z (79 + 22 * s) t x) 0 1188 :=
  ((h.1.row hs).1.z.mul3 (h.1.T0 ht).z hx (by decide)).up (by decide)
theorem zi_dl (h : ZI c z) (hc : 1188 * (c + 1) < 2147483648) {s t b : Nat} (hs : s < nv (z 0)) (ht : t < 4) (hb : b < 5) (h1 : z (79 + 22 * s + 1) = nI 1) (h2 : z (79 + 22 * s + 2) = nI t) {v : Int32} (hv : NR v 0 1188) : ZI (c + 1) (dlZ z s t b v) := by
  have hz0 := h.1.n0.hi
  have hw := (h.1.row hs).1.z
  rw [dlZ_Y z v ht hb]
  have d0 : dlY z s t b v 0 = z 0 := by simp (disch := omega) only [dlY, u1_n, u1_s]
  refine zi_rm ⟨h.1.up.ch d0 (by simp (disch := omega) only [dlY, u1_n, u1_s]) (by simp (disch := omega) only [dlY, u1_n, u1_s]; exact h.1.n2) (by simp (disch := omega) only [dlY, u1_n, u1_s]; exact h.1.n3) (fun p hp => ?_) (fun p hp => ?_) (fun k hk => by simp (disch := omega) only [dlY, u1_n, u1_s]; exact h.1.P hk) (fun q hq => ?_) (fun j hj => by simp (disch := omega) only [dlY, u1_n, u1_s]), h.2.seg hs d0 (by simp (disch := omega) only [dlY, u1_n, u1_s]) (fun q hq hne j a a2 => by simp (disch := omega) only [dlY, u1_n, u1_s]) (fun q => ?_) (fun p hp => ?_)⟩ (by rw [d0]; exact hs)
  · by_cases q : p = t
    · subst q
      obtain ⟨t0, t1, t2, t3⟩ := h.1.t hp
      have t3u := (h.1.t hp).up.2.2.2
      refine ⟨by simp (disch := omega) only [dlY, u1_n, u1_s]; exact t0, by simp (disch := omega) only [dlY, u1_n, u1_s]; rw [Nat.mul_add]; exact t1.add hv (by omega), by simp (disch := omega) only [dlY, u1_n, u1_s]; rw [Nat.mul_add]; exact t2.add hw (by omega), by simp (disch := omega) only [dlY, u1_n, u1_s]; exact t3u.1, by simp (disch := omega) only [dlY, u1_n, u1_s]; exact t3u.2⟩
    · exact (h.1.t hp).up.cg (fun j a a2 => by simp (disch := omega) only [dlY, u1_n, u1_s])
  · by_cases q : p = b
    · subst q
      obtain ⟨t0, t1, t2⟩ := h.1.b hp
      refine ⟨by simp (disch := omega) only [dlY, u1_n, u1_s]; exact t0, by simp (disch := omega) only [dlY, u1_n, u1_s]; rw [Nat.mul_add]; exact t1.add hw (by omega), by simp (disch := omega) only [dlY, u1_n, u1_s]; rw [Nat.mul_add]; exact t2.add hv (by omega)⟩
    · exact (h.1.b hp).up.cg (fun j a a2 => by simp (disch := omega) only [dlY, u1_n, u1_s])
  · by_cases k : q = s
    · subst k
      obtain ⟨s0, s1, s2, s3, s4, s5, s6, s7, s8, s9⟩ := (h.1.sg hs).up
      refine ⟨s0.cg (by simp (disch := omega) only [dlY, u1_n, u1_s]) (fun j a a2 => by simp (disch := omega) only [dlY, u1_n, u1_s]), ?_, ?_, ?_, ?_, ?_, ?_, ?_, ?_, ?_⟩
      · simp (disch := omega) only [dlY, u1_n, u1_s]; exact nr_nI (by omega) (by omega) (by decide)
      · simp (disch := omega) only [dlY, u1_n, u1_s]; exact s2
      · simp (disch := omega) only [dlY, u1_n, u1_s]; exact s3
      · simp (disch := omega) only [dlY, u1_n, u1_s]; exact s4
      · simp (disch := omega) only [dlY, u1_n, u1_s]; exact hv
      · simp (disch := omega) only [dlY, u1_n, u1_s]; exact s6
      · simp (disch := omega) only [dlY, u1_n, u1_s]; exact s7
      · simp (disch := omega) only [dlY, u1_n, u1_s]; exact s8
      · simp (disch := omega) only [dlY, u1_n, u1_s]; exact (h.1.T0 ht).z
    · exact (h.1.sg hq).up.cg (fun j a a2 => by simp (disch := omega) only [dlY, u1_n, u1_s])
  · exfalso
    rw [show dlY z s t b v (79 + 22 * s + 1) = nI 2 by simp (disch := omega) only [dlY, u1_n, u1_s]] at q
    exact absurd q (by decide)
  · rw [pdF_0 (z := z) (by rw [h1]; decide)]
    unfold pdF
    rw [show dlY z s t b v (79 + 22 * s + 2) = nI t by simp (disch := omega) only [dlY, u1_n, u1_s]; exact h2, show dlY z s t b v (79 + 22 * s + 5) = v by simp (disch := omega) only [dlY, u1_n, u1_s]]
    by_cases q : p = t
    · subst q
      rw [show dlY z s p b v (4 + 5 * p + 1) = z (4 + 5 * p + 1) + v by simp (disch := omega) only [dlY, u1_n, u1_s], (h.1.T1 hp).nv_add hv (by omega)]
      split <;> omega
    · rw [show dlY z s t b v (4 + 5 * p + 1) = z (4 + 5 * p + 1) by simp (disch := omega) only [dlY, u1_n, u1_s], if_neg (fun k => q ((nI_eq' (by omega) (by omega)).mp k.2).symm)]
      omega
theorem ls_r (h : ZI c z) {s : Nat} (hs : s < nv (z 0)) {y : Int32} (hy : NR y 0 12) : NR (lsV z (79 + 22 * s) y) 0 1188 ∧ nv (lsV z (79 + 22 * s) y) ≤ nv (z (79 + 22 * s + 5)) := by
  obtain ⟨s0, s1, s2, s3, s4, s5, s6, s7, s8, s9⟩ := h.1.sg hs
  have hm := hy.mul3 s9 h.1.n3 (by decide)
  have hm8 := hm.hi
  have hp8 := s5.hi
  unfold lsV
  split
  · rename_i q
    rw [hm.e, s5.e, nI_lt' (by omega) (by omega)] at q
    exact ⟨⟨hm.e, Nat.zero_le _, by omega⟩, by omega⟩
  · exact ⟨s5, Nat.le_refl _⟩
theorem zi_rv (h : ZI c z) (hc : 1188 * (c + 1) < 2147483648) {s t q0 : Nat} (hs : s < nv (z 0)) (ht : t < 4) (ho : q0 < 4) (hto : t ≠ q0) (h1 : z (79 + 22 * s + 1) = nI 2) (h2 : z (79 + 22 * s + 2) = nI q0) {y v : Int32} (hy : NR y 0 12) (hv : NR v 0 1188) (hvp : nv v ≤ nv (z (79 + 22 * s + 5))) : ZI (c + 1) (rvZ z s t q0 y v) := by
  have hz0 := h.1.n0.hi
  have hw := (h.1.row hs).1.z
  have hfee : NR (z (79 + 22 * s) * z (4 + 5 * t) * z 2 / nI 100) 0 1188 := (hw.mul3 (h.1.T0 ht).z h.1.n2 (by decide)).up (by decide)
  rw [rvZ_Y z y v ht ho hto]
  have hpd : pdF z q0 s = nv (z (79 + 22 * s + 5)) := if_pos ⟨h1, h2⟩
  have hE : nv v ≤ nv (z (4 + 5 * q0 + 1)) := by
    have a1 := sm_ge1 (pdF z q0) (nv (z 0)) hs
    have a2 := h.2.2.2 q0 ho
    omega
  have d0 : rvY z s t q0 y v 0 = z 0 := by simp (disch := omega) only [rvY, u1_n, u1_s]
  refine ⟨h.1.up.ch d0 (by simp (disch := omega) only [rvY, u1_n, u1_s]) (by simp (disch := omega) only [rvY, u1_n, u1_s]; exact h.1.n2) (by simp (disch := omega) only [rvY, u1_n, u1_s]; exact h.1.n3) (fun p hp => ?_) (fun p hp => (h.1.b hp).up.cg (fun j a a2 => by simp (disch := omega) only [rvY, u1_n, u1_s])) (fun k hk => by simp (disch := omega) only [rvY, u1_n, u1_s]; exact h.1.P hk) (fun q hq => ?_) (fun j hj => by simp (disch := omega) only [rvY, u1_n, u1_s]), h.2.seg hs d0 (by simp (disch := omega) only [rvY, u1_n, u1_s]) (fun q hq hne j a a2 => by simp (disch := omega) only [rvY, u1_n, u1_s]) (fun q => ?_) (fun p hp => ?_)⟩
  · obtain ⟨t0, t1, t2, t3, t4⟩ := h.1.t hp
    have tu := (h.1.t hp).up
    by_cases q : p = t
    · subst q
      refine ⟨by simp (disch := omega) only [rvY, u1_n, u1_s]; exact t0, by simp (disch := omega) only [rvY, u1_n, u1_s]; rw [Nat.mul_add]; exact t1.add hfee (by omega), by simp (disch := omega) only [rvY, u1_n, u1_s]; exact tu.2.2.1, by simp (disch := omega) only [rvY, u1_n, u1_s]; rw [Nat.mul_add]; exact t3.add hy (by omega), by simp (disch := omega) only [rvY, u1_n, u1_s]; exact tu.2.2.2.2⟩
    · by_cases q2 : p = q0
      · subst q2
        refine ⟨by simp (disch := omega) only [rvY, u1_n, u1_s]; exact t0, by simp (disch := omega) only [rvY, u1_n, u1_s]; exact (t1.sub hv hE (by omega)).up (by omega), by simp (disch := omega) only [rvY, u1_n, u1_s]; exact tu.2.2.1, by simp (disch := omega) only [rvY, u1_n, u1_s]; exact tu.2.2.2.1, by simp (disch := omega) only [rvY, u1_n, u1_s]; rw [Nat.mul_add]; exact t4.add hy (by omega)⟩
      · exact tu.cg (fun j a a2 => by simp (disch := omega) only [rvY, u1_n, u1_s])
  · by_cases k : q = s
    · subst k
      obtain ⟨s0, s1, s2, s3, s4, s5, s6, s7, s8, s9⟩ := (h.1.sg hs).up
      refine ⟨s0.cg (by simp (disch := omega) only [rvY, u1_n, u1_s]) (fun j a a2 => by simp (disch := omega) only [rvY, u1_n, u1_s]), ?_, ?_, ?_, ?_, ?_, ?_, ?_, ?_, ?_⟩
      · simp (disch := omega) only [rvY, u1_n, u1_s]; exact nr_nI (by omega) (by omega) (by decide)
      · simp (disch := omega) only [rvY, u1_n, u1_s]; exact s2
      · simp (disch := omega) only [rvY, u1_n, u1_s]; exact s3
      · simp (disch := omega) only [rvY, u1_n, u1_s]; exact s4
      · simp (disch := omega) only [rvY, u1_n, u1_s]; exact s5.sub hv hvp (by decide)
      · simp (disch := omega) only [rvY, u1_n, u1_s]; exact s6
      · simp (disch := omega) only [rvY, u1_n, u1_s]; rw [nI_tI' (by omega)]; omega
      · simp (disch := omega) only [rvY, u1_n, u1_s]; exact hy
      · simp (disch := omega) only [rvY, u1_n, u1_s]; exact s9
    · exact (h.1.sg hq).up.cg (fun j a a2 => by simp (disch := omega) only [rvY, u1_n, u1_s])
  · exfalso
    rw [show rvY z s t q0 y v (79 + 22 * s + 1) = nI 3 by simp (disch := omega) only [rvY, u1_n, u1_s]] at q
    exact absurd q (by decide)
  · rw [pdF_0 (z := rvY z s t q0 y v) (by rw [show rvY z s t q0 y v (79 + 22 * s + 1) = nI 3 by simp (disch := omega) only [rvY, u1_n, u1_s]]; decide)]
    by_cases q : p = t
    · subst q
      rw [show rvY z s p q0 y v (4 + 5 * p + 1) = z (4 + 5 * p + 1) + z (79 + 22 * s) * z (4 + 5 * p) * z 2 / nI 100 by simp (disch := omega) only [rvY, u1_n, u1_s], (h.1.T1 hp).nv_add hfee (by omega)]
      omega
    · by_cases q2 : p = q0
      · subst q2
        rw [show rvY z s t p y v (4 + 5 * p + 1) = z (4 + 5 * p + 1) - v by simp (disch := omega) only [rvY, u1_n, u1_s], (h.1.T1 hp).nv_sub hv hE (by omega), hpd]
        omega
      · rw [show rvY z s t q0 y v (4 + 5 * p + 1) = z (4 + 5 * p + 1) by simp (disch := omega) only [rvY, u1_n, u1_s]]
        omega
/-- a segment's words are laid anew -/
theorem zi_tx (h : ZI c z) {s : Nat} (hs : s < nv (z 0)) {f : Nat → Int32} {k t : Nat} (hok : okT f k) (ht : t ≤ lastT f k) : ZI c (txZ z s f k t) := by
  have hz0 := h.1.n0.hi
  obtain ⟨l1, l2⟩ := ps_kk hok ht
  have l3 := ln_12 f k t
  have e : ∀ j, j ≠ 79 + 22 * s → (j < 79 + 22 * s + 10 ∨ 79 + 22 * s + 22 ≤ j) → txZ z s f k t j = z j := fun j a b => txZ_lo z s f k t a b
  obtain ⟨s0, s1, s2, s3, s4, s5, s6, s7, s8, s9⟩ := h.1.sg hs
  refine h.seg hs (fun j hj => e j (by omega) (by omega)) ⟨⟨by rw [txZ_p]; exact nr_nI l1 l3 (by decide), fun i hi => ?_⟩, ?_⟩ (SX.cg (h.2.2.1 s hs) (fun j a b => e j (by omega) (by omega))) (fun p hp => Nat.le_of_eq (pdF_cg (fun j a b => e j (by omega) (by omega))))
  · rw [txZ_p, nv_nI (by omega)] at hi
    rw [txZ_w _ _ _ _ _ (by omega)]
    unfold txF
    rw [if_pos hi]
    exact isl_w (rl_isl f k 12 _ i hi)
  · rw [e _ (by omega) (by omega), e _ (by omega) (by omega), e _ (by omega) (by omega), e _ (by omega) (by omega), e _ (by omega) (by omega), e _ (by omega) (by omega), e _ (by omega) (by omega), e _ (by omega) (by omega), e _ (by omega) (by omega)]
    exact ⟨s1, s2, s3, s4, s5, s6, s7, s8, s9⟩
/-- rows are added -/
theorem zi_ad (h : ZI c z) {N : Nat} (hN : z 0 = nI N) {f : Nat → Int32} {k : Nat} (hok : okT f k) (hT : N + (lastT f k + 1) ≤ 10) : ∀ t, t ≤ lastT f k + 1 → ZI c (adZ N z f k t) := by
  intro t
  induction t with
  | zero => intro _; exact h
  | succ t ih =>
    intro ht
    have hi := ih (by omega)
    obtain ⟨l1, l2⟩ := ps_kk hok (t := t) (by omega)
    have l3 := ln_12 f k t
    have h0 : nv (adZ N z f k t 0) = N + t := by rw [adZ_0 hN, nv_nI (by omega)]
    have e := fun j (a : j ≠ 0) b => adZ_o (N := N) (z := z) (f := f) (k := k) (t := t) (j := j) a b
    obtain ⟨⟨n0, n1, n2, n3⟩, hTt, hBb, hP, hS, hM⟩ := hi.1
    refine ⟨⟨⟨?_, ?_, ?_, ?_⟩, fun p hp => TOk.cg (hTt p hp) (fun j a b => e j (by omega) (by omega)), fun p hp => BOk.cg (hBb p hp) (fun j a b => e j (by omega) (by omega)), fun i hi2 => ?_, fun s hs => ?_, fun r hr => ?_⟩, fun _ => ?_, fun s hs => ?_, fun p hp => ?_⟩
    · rw [adZ_s0]; exact nr_nI (Nat.zero_le _) (by omega) (by decide)
    · rw [e _ (by omega) (by omega)]; exact n1
    · rw [e _ (by omega) (by omega)]; exact n2
    · rw [e _ (by omega) (by omega)]; exact n3
    · rw [e _ (by omega) (by omega)]; exact hP i hi2
    · rw [adZ_s0, nv_nI (by omega)] at hs
      by_cases q : s = N + t
      · subst q
        refine ⟨⟨by rw [adZ_p]; exact nr_nI l1 l3 (by decide), fun i hi2 => ?_⟩, ?_⟩
        · rw [adZ_p, nv_nI (by omega)] at hi2
          rw [adZ_w hi2]
          exact isl_w (rl_isl f k 12 _ i hi2)
        · rw [adZ_k (i := 1) (by omega) (by omega) (by omega), adZ_k (i := 2) (by omega) (by omega) (by omega), adZ_k (i := 3) (by omega) (by omega) (by omega), adZ_k (i := 4) (by omega) (by omega) (by omega), adZ_k (i := 5) (by omega) (by omega) (by omega), adZ_k (i := 6) (by omega) (by omega) (by omega), adZ_7, adZ_k (i := 8) (by omega) (by omega) (by omega), adZ_k (i := 9) (by omega) (by omega) (by omega)]
          have z9 : ∀ b, b < 2147483648 → NR (nI 0) 0 b := fun b hb => nr_nI (Nat.le_refl _) (Nat.zero_le _) hb
          exact ⟨z9 _ (by decide), z9 _ (by decide), z9 _ (by decide), z9 _ (by decide), z9 _ (by decide), ⟨by rw [nv_nI (by decide)], Nat.zero_le _, by rw [nv_nI (by decide)]; exact Nat.zero_le _⟩, by decide, z9 _ (by decide), z9 _ (by decide)⟩
      · exact SOk.cg (hS s (by omega)) (fun j a b => e j (by omega) (by omega))
    · rw [e _ (by omega) (by omega)] at hr
      exact (hM r hr).cg (e _ (by omega) (by omega)) (fun j a b => e j (by omega) (by omega))
    · rw [adZ_s0, nv_nI (by omega)]; omega
    · rw [adZ_s0, nv_nI (by omega)] at hs
      by_cases q : s = N + t
      · subst q
        intro _
        exact ⟨adZ_k (by omega) (by omega) (by omega), adZ_7, adZ_k (by omega) (by omega) (by omega)⟩
      · exact (hi.2.2.1 s (by omega)).cg (fun j a b => e j (by omega) (by omega))
    · rw [adZ_s0, nv_nI (by omega), e _ (by omega) (by omega)]
      have hd := hi.2.2.2 p hp
      rw [h0] at hd
      show sm _ (N + t) + pdF _ p (N + t) ≤ _
      rw [pdF_0 (by rw [adZ_k (i := 1) (by omega) (by omega) (by omega)]; decide), sm_c (f := pdF (adZ N z f k (t + 1)) p) (f' := pdF (adZ N z f k t) p) _ (fun i hi2 => pdF_cg (fun j a b => e j (by omega) (by omega)))]
      exact hd
end ZD
