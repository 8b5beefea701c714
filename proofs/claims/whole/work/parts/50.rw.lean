/-! MORE ROWS OF G: final fields in constructors, arraycopy of ints, new objects, calls of constructors -/
section GRW
variable {g : Gp} {M : MI} {Q : Rs → Mm → Prop} {pc : Nat} {L : List (Nat × Value)} {st : List Value} {u : Nat × Nat} {m : Mm} {a : Nat}
theorem g_putvF {i c k : Nat} {v : Value} {m1 : Mm} (fw : fm_FF (mY M).cls i c k) (hinit : (mY M).name = "<init>") (ht : (tg m a).1 = c) (hn : narrow (fm_ty c k) v = v) (hfit : fits (fm_ty c k) v = true)
    (hm : ∀ j, fm_fv (fm_ty c j) (im m1 a) (rf m1 a) (jm m1 a) j = if j = k then v else fm_fv (fm_ty c j) (im m a) (rf m a) (jm m a) j)
    (ez : fz m1 = fz m) (et : tg m1 = tg m) (ei : ∀ q, q ≠ a → im m1 q = im m q) (er : ∀ q, q ≠ a → rf m1 q = rf m q) (ej : ∀ q, q ≠ a → jm m1 q = jm m q)
    (hdg : decode (mC M) pc = .ok (.putfield i, 3)) (kk : G g M Q (pc + 3) L st u m1) : G g M Q pc L (v :: .ref a :: st) u m := by
  intro p l e s mm args below meth c0 H locs ls C hW hB hS hl
  obtain ⟨r, hr, hk, hlk, hfin, hdecl⟩ := fw
  obtain ⟨hin, hty, hnm, hc⟩ := fm_C hr
  subst ht
  obtain ⟨r', cC, iS, cell, e1, hKn, e3, e4, e5, e6⟩ := (hW.2.2.2 a).1 hc
  cases Option.some.inj (e1.symm.trans hr)
  have hts : ∀ w ∈ wA, w.before args s = true := fun w h => cx_w C h
  have hap : ∀ x y, x < r.2.2 → y < r.2.2 → x ≠ y → iS x ≠ iS y := by
    intro x y hx hy hne
    obtain ⟨_, _, _, fa, hia, ea⟩ := hKn.1 x hx
    obtain ⟨_, _, _, fb, hib, eb⟩ := hKn.1 y hy
    rw [← ea, ← eb]
    refine u_apart (u_lays hts hin hx) (u_lays hts hin hy) hia hib ?_
    rw [(State.fieldFound?_type hia (hty x hx)).1, (State.fieldFound?_type hib (hty y hy)).1]
    exact hnm x hx y hy hne
  obtain ⟨cf, kf, fi, f, hi, hsl⟩ := hKn.1 k hk
  obtain ⟨hfc, kC, hkC, hkind⟩ := id hKn.2
  have hlay := hts _ (hin _ (u_in_lay hk))
  unfold u_lay at hlay
  rw [if_pos hfin] at hlay
  have hst := (u_facts hfc hkC (u_lays hts hin hk) hi).1
  have hcf : mm.cls = cf := by
    obtain ⟨_, _, c', _, _, _, -, -, hf', -, -, -, hown2, -⟩ := Cond.laysFinal_spec hlay
    have e1 : c' = cf := by have := hi.symm.trans hf'; simp at this; exact this.1.symm
    rw [hdecl] at hown2
    rw [← e1]; exact Option.some.inj (C.2.2.2.2.1.symm.trans hown2)
  have h6 := u_fits hfc hkC hkind (Or.inr hlay) hi (hty k hk) hn hfit
  refine W.putFinK C.1 C.2.1 C.2.2.2.2.1 (cx_w C hlk) hi hst hcf (C.2.2.2.2.2.2.2.2.1.trans hinit) (by rw [e4]; exact h6) e3 e5 (by rw [hsl]; exact k2_hasslot (e6 k hk)) rfl rfl hdg fun H' w1 w2 w3 => ?_
  refine kk p l e s mm args below meth c0 H' _ ls C (hW.set w2 w3 ez et ei er ej (fm_noO hc ⟨_, cC, iS, _, e1, hKn, w1, e4, e5, fun j hj => ?_⟩)) hB (hS.put w2 w3 (hW.2.2.1 a (by omega))) hl
  rw [hm j]
  have h9 := t_set e6 hap hk v j hj
  rw [hsl]
  exact h9
theorem g_putIF {i c k : Nat} {x : Int32} (fw : fm_FF (mY M).cls i c k) (hinit : (mY M).name = "<init>") (hty : fm_ty c k = .int) (n : Nat) (ht : tg m a = (c, n)) (hdg : decode (mC M) pc = .ok (.putfield i, 3)) (kk : G g M Q (pc + 3) L st u (sI m a k x)) : G g M Q pc L (.int x :: .ref a :: st) u m := by
  refine g_putvF (m1 := sI m a k x) fw hinit (by rw [ht]) (by rw [hty]; rfl) (by rw [hty]; rfl) (fun j => ?_) rfl rfl (fun q hq => u2_o _ _ _ _ hq) (fun _ _ => rfl) (fun _ _ => rfl) hdg kk
  by_cases h : j = k
  · subst h
    rw [if_pos rfl, hty]
    show Value.int (u2 (im m) a j x a j) = _
    rw [u2_s]
  · rw [if_neg h]
    show fm_fv (fm_ty c j) (u2 (im m) a k x a) (rf m a) (jm m a) j = _
    cases fm_ty c j <;> simp only [fm_fv]
    all_goals rw [u2_n _ _ _ _ (fun z => h z.2)]
theorem g_putRF {i c k q : Nat} (fw : fm_FF (mY M).cls i c k) (hinit : (mY M).name = "<init>") (hty : fm_rt (fm_ty c k) = true) (n : Nat) (ht : tg m a = (c, n)) (hdg : decode (mC M) pc = .ok (.putfield i, 3)) (kk : G g M Q (pc + 3) L st u (sR m a k (some q))) : G g M Q pc L (.ref q :: .ref a :: st) u m := by
  refine g_putvF (m1 := sR m a k (some q)) fw hinit (by rw [ht]) (by cases h : fm_ty c k <;> rw [h] at hty <;> first | rfl | cases hty) (by cases h : fm_ty c k <;> rw [h] at hty <;> first | rfl | cases hty) (fun j => ?_) rfl rfl (fun _ _ => rfl) (fun q hq => u2_o _ _ _ _ hq) (fun _ _ => rfl) hdg kk
  by_cases h : j = k
  · subst h
    rw [if_pos rfl]
    show fm_fv (fm_ty c j) (im m a) (u2 (rf m) a j (some q) a) (jm m a) j = _
    cases h : fm_ty c j <;> rw [h] at hty <;> first | (simp only [fm_fv]; rw [u2_s]; rfl) | cases hty
  · rw [if_neg h]
    show fm_fv (fm_ty c j) (im m a) (u2 (rf m) a k (some q) a) (jm m a) j = _
    cases fm_ty c j <;> simp only [fm_fv]
    all_goals rw [u2_n _ _ _ _ (fun z => h z.2)]
theorem gN_aast {j v : Nat} (κ n κ' n' : Nat) {r : vw_C} (ht : tg m a = (κ, n)) (hκ : 11 < κ ∧ κ < 18) (hj : j < n) (hn : n ≤ 2147483648) (hv : tg m v = (κ', n')) (hr : vwCl[κ']? = some r) (hre : r.1 = fm_el κ) (hdg : decode (mC M) pc = .ok (.aastore, 1)) (kk : G g M Q (pc + 1) L st u (sR m a j (some v))) : G g M Q pc L (.ref v :: .int (nI j) :: .ref a :: st) u m :=
  g_aast j (by rw [ht]; exact hκ) (nI_tI hj hn) (by rw [ht]; exact hj) (by rw [hv]; exact hr) (by rw [ht]; exact hre) hdg kk
theorem sy_l6 : Cond.methodLink RX6 66 arraycopyName ∈ wA := wA_i 674 (by decide +kernel) rfl
theorem sy_l7 : Cond.methodLink RX7 31 arraycopyName ∈ wA := wA_i 689 (by decide +kernel) rfl
theorem sy_s : Cond.static arraycopyName ∈ wA := wA_i 675 (by decide +kernel) rfl
theorem sy_n : Cond.native arraycopyName ∈ wA := wA_i 676 (by decide +kernel) rfl
theorem sy_i : Cond.initialized "java/lang/System" ∈ wA := wA_i 72 (by decide +kernel) rfl
theorem va_cpy_I (I : Nat → Nat → Int32) (a0 b n : Nat) : cpI I b 0 n (fun j => I a0 j) b = va_cpy (I a0) (I b) 0 0 n := by
  funext y
  show (if b = b ∧ 0 ≤ y ∧ y < 0 + n then I a0 (y - 0) else I b y) = if 0 ≤ y ∧ y < 0 + n then I a0 (0 + (y - 0)) else I b y
  by_cases h : 0 ≤ y ∧ y < 0 + n
  · rw [if_pos ⟨rfl, h⟩, if_pos h, Nat.zero_add]
  · rw [if_neg (fun z => h z.2), if_neg h]
theorem g_acopy {i a0 b : Nat} (n0 n1 n : Nat) (ht0 : tg m a0 = (11, n0)) (ht1 : tg m b = (11, n1)) (hn0 : n ≤ n0) (hn1 : n ≤ n1) (hnb : n < 2147483648) (hlk : Cond.methodLink (mY M).cls i arraycopyName ∈ wA) (hfr : 1 ≤ (mR M).frames) (hlo : (st.map fun v => v.category).sum + (nativeFrameWords "java/lang/System" "arraycopy" 5 + 11) ≤ (mR M).locals)
    (hdg : decode (mC M) pc = .ok (.invokestatic i, 3)) (k : G g M Q (pc + 3) L st u (wI m (cpI (im m) b 0 n (fun j => im m a0 j)))) : G g M Q pc L (.int (nI n) :: .int (nI 0) :: .ref b :: .int (nI 0) :: .ref a0 :: st) u m := by
  intro p l e s mm args below meth c H locs ls C hW hB hS hl
  intro T hT X
  obtain ⟨c0, hc0, hA0⟩ := (hW.2.2.2 a0).2.1 (by rw [ht0])
  obtain ⟨c1, hc1, hA1⟩ := (hW.2.2.2 b).2.1 (by rw [ht1])
  rw [ht0] at hc0
  rw [ht1] at hc1
  obtain ⟨-, k0, hk0, cm0, hkk0⟩ := hA0 n0 (fun j => .int (im m a0 j))
  obtain ⟨-, k1, hk1, cm1, hkk1⟩ := hA1 n1 (fun j => .int (im m b j))
  have z0 : (nI 0).toInt = 0 := by decide
  have zn : (nI n).toInt = (n : Int) := nI_tI' hnb
  have c0z : (nI 0).toNatClampNeg = 0 := by decide
  have cnz : (nI n).toNatClampNeg = n := by show (nI n).toInt.toNat = n; rw [zn]; rfl
  have l0 : ¬ nI 0 < 0 := by decide
  have ln : ¬ nI n < 0 := by rw [lt_tI, zn]; have : (0 : Int32).toInt = 0 := by decide
                             omega
  obtain ⟨vm', X', step⟩ := X.arraycopy C.1 C.2.2.2.2.1 (cx_w C hlk) (cx_w C sy_n) (cx_w C sy_s) (cx_w C sy_i) (src := a0) (dst := b) (cs := arrV c0 n0 (fun j => .int (im m a0 j))) (cd := arrV c1 n1 (fun j => .int (im m b j))) (srcPos := nI 0) (destPos := nI 0) (n := nI n) (by rw [hT]; exact hc0) (by rw [hT]; exact hc1)
    (fun _ h => by cases h) (fun _ h => by cases h) (fun h => by cases h) (fun h => by cases h) hk0 hk1 hkk0 hkk1 (by simp [refKind]) l0 l0 ln
    (by rw [z0, zn, arrV_size]; omega)
    (by rw [z0, zn, arrV_size]; omega)
    (fun vm₁ _ i hi => by
      rw [cnz] at hi
      have e : (arrV c0 n0 (fun j => .int (im m a0 j))).slots.getD ((nI 0).toNatClampNeg + i) .null = .int (im m a0 ((nI 0).toNatClampNeg + i)) := by
        rw [Array.getD_eq_getD_getElem?, arrV_read _ _ (by rw [c0z]; omega)]
        rfl
      refine ⟨?_, ?_⟩
      · rw [e]; rfl
      · rw [e]; exact trivial)
    (g := F0 mm pc ls (.int (nI n) :: .int (nI 0) :: .ref b :: .int (nI 0) :: .ref a0 :: st)) rfl (hl.1.trans C.2.2.2.1.symm) (rest := st) rfl (by rw [C.2.1]; exact hdg) hfr (by show 2 * 0 + _ + _ ≤ _; omega)
  have e1 : copied (arrV c0 n0 (fun j => .int (im m a0 j))) (arrV c1 n1 (fun j => .int (im m b j))) (nI 0) (nI 0) (nI n) = arrV c1 n1 (fun j => .int (va_cpy (im m a0) (im m b) 0 0 n j)) := by
    have h := va_copied (fun z : Int32 => Value.int z) c0 c1 (n0 := n0) (n1 := n1) (sp := (nI 0).toNatClampNeg) (dp := (nI 0).toNatClampNeg) (n := (nI n).toNatClampNeg) (im m a0) (im m b) (by rw [c0z, cnz]; omega)
    rw [c0z, cnz] at h
    unfold copied
    rw [c0z, cnz]
    exact h
  rw [e1] at X' step
  have hl1 : b < H.size := (Array.getElem?_eq_some_iff.mp hc1).1
  generalize hcell : arrV c1 n1 (fun j => .int (va_cpy (im m a0) (im m b) 0 0 n j)) = cell at X' step
  have hheap : ((T.setVm vm').setCell b cell).heap = H.setIfInBounds b cell := by rw [← hT]; rfl
  have oq : ∀ q : Nat, q ≠ b → (H.setIfInBounds b cell)[q]? = H[q]? := fun q hq => by simp [Array.getElem?_setIfInBounds, Ne.symm hq]
  have hbA : fm_A g b := hW.2.2.1 b (by rw [ht1]; exact (by decide : 11 < 19))
  have hW1 : fm_Wd g s (H.setIfInBounds b cell) (wI m (cpI (im m) b 0 n (fun j => im m a0 j))) := by
    refine hW.set (a := b) (by simp) oq rfl rfl (fun q hq => cpI_ne _ _ _ _ _ hq) (fun _ _ => rfl) (fun _ _ => rfl) ?_
    rw [ht1]
    refine fm_k11 ⟨c1, ?_, hA1⟩
    rw [im_wI, va_cpy_I]
    show (H.setIfInBounds b cell)[b]? = _
    rw [hcell]
    simp [Array.getElem?_setIfInBounds, hl1]
  obtain ⟨t, a1, b1⟩ := k p l e s mm args below meth c (H.setIfInBounds b cell) _ ls C hW1 hB ⟨by simp; exact hS.1, fun q g1 g2 => by
      rw [oq q (fun e => g2 (by rw [e]; exact hbA))]
      exact hS.2.1 q g1 g2, fun q hq => by
      rcases List.mem_append.mp hq with h | h
      · exact hS.2.2 q h
      · obtain ⟨z, -, hz⟩ := List.mem_map.mp h
        rw [← hz]
        exact hbA⟩ hl _ hheap X'
  exact ⟨t, step t a1, b1⟩
end GRW
