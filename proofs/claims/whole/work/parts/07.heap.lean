/-! ROWS OF G over the flat memory. -/
theorem cx_w {l : Launch} {M : MI} {p : Program} {s : State} {mm : MethodId} {args : Array Value} {meth : Method} {c : Code} (C : Cx l M p s mm args meth c) {w : Cond} (h : w ∈ wA) : w.before args s = true := C.2.2.2.2.2.1 _ (List.mem_cons_of_mem _ h)
theorem ix_in {i : Int32} {j n : Nat} (hi : i.toInt = (j : Int)) (hj : j < n) : ¬ (i < 0 ∨ n ≤ i.toNatClampNeg) ∧ i.toNatClampNeg = j := by
  have e : i.toNatClampNeg = j := by show i.toInt.toNat = j; omega
  refine ⟨fun q => ?_, e⟩
  rcases q with q | q
  · have := Int32.lt_iff_toInt_lt.mp q
    rw [hi] at this
    have h0 : (0 : Int32).toInt = 0 := rfl
    omega
  · omega
theorem fm_noO {s : State} {k : Nat × Nat} {I : Nat → Int32} {R : Nat → Option Nat} {J : Nat → Int64} {oc : Option Cell} (hk : k.1 < 11) (h : ∃ (r : vw_C) (cC : ClassId) (iS : Nat → Nat) (cell : Cell), vwCl[k.1]? = some r ∧ u_Kn s r.1 r.2.1 r.2.2 cC iS ∧ oc = some cell ∧ cell.cls = cC ∧ cell.vm = .none ∧ ∀ j, j < r.2.2 → cell.slots[iS j]? = some (fm_fv (fm_ty k.1 j) I R J j)) : fm_cell s k I R J oc :=
  ⟨fun _ => h, fun z => absurd z (by omega), fun z => absurd z (by omega), fun z => absurd z (by omega), fun z => absurd z (by omega)⟩
section GHEAP
variable {g : Gp} {M : MI} {Q : Rs → Mm → Prop} {pc : Nat} {L : List (Nat × Value)} {st : List Value} {u : Nat × Nat} {m : Mm} {a : Nat}
theorem g_getv {i c k : Nat} (fl : fm_FL (mY M).cls i c k) (ht : (tg m a).1 = c) (hdg : decode (mC M) pc = .ok (.getfield i, 3)) (kk : G g M Q (pc + 3) L (fm_fv (fm_ty c k) (im m a) (rf m a) (jm m a) k :: st) u m) : G g M Q pc L (.ref a :: st) u m := by
  intro p l e s mm args below meth c0 H locs ls C hW hB hS hl
  obtain ⟨r, hr, hk, hlk⟩ := fl
  obtain ⟨hin, hty, hnm, hc⟩ := fm_C hr
  subst ht
  obtain ⟨r', cC, iS, cell, e1, ⟨hSl, hcl⟩, e3, e4, e5, e6⟩ := (hW.2.2.2 a).1 hc
  cases Option.some.inj (e1.symm.trans hr)
  obtain ⟨cf, kf, fi, f, hi, hsl⟩ := hSl k hk
  obtain ⟨hfc, kC, hkC, hkind⟩ := hcl
  refine W.getf C.1 C.2.1 C.2.2.2.2.1 (cx_w C hlk) hi (u_facts hfc hkC (u_lays (fun w h => cx_w C h) hin hk) hi).1 e3 (by rw [e5]; exact fun h => by cases h) (v := fm_fv (fm_ty (tg m a).1 k) (im m a) (rf m a) (jm m a) k) ?_ rfl rfl hdg (kk p l e s mm args below meth c0 H locs ls C hW hB hS hl)
  rw [hsl]; exact e6 k hk
theorem g_getI {i c k : Nat} (fl : fm_FL (mY M).cls i c k) (hty : fm_ty c k = .int) (ht : (tg m a).1 = c) (hdg : decode (mC M) pc = .ok (.getfield i, 3)) (kk : G g M Q (pc + 3) L (.int (im m a k) :: st) u m) : G g M Q pc L (.ref a :: st) u m :=
  g_getv fl ht hdg (by rw [hty]; exact kk)
theorem g_getJ {i c k : Nat} (fl : fm_FL (mY M).cls i c k) (hty : fm_ty c k = .long) (ht : (tg m a).1 = c) (hdg : decode (mC M) pc = .ok (.getfield i, 3)) (kk : G g M Q (pc + 3) L (.long (jm m a k) :: st) u m) : G g M Q pc L (.ref a :: st) u m :=
  g_getv fl ht hdg (by rw [hty]; exact kk)
theorem g_getR {i c k : Nat} (q : Nat) (fl : fm_FL (mY M).cls i c k) (hty : ∀ I R J, fm_fv (fm_ty c k) I R J k = va_rf (R k)) (ht : (tg m a).1 = c) (hr : rf m a k = some q) (hdg : decode (mC M) pc = .ok (.getfield i, 3)) (kk : G g M Q (pc + 3) L (.ref q :: st) u m) : G g M Q pc L (.ref a :: st) u m :=
  g_getv fl ht hdg (by rw [hty, hr]; exact kk)
theorem g_putv {i c k : Nat} {v : Value} {m1 : Mm} (fw : fm_FW (mY M).cls i c k) (ht : (tg m a).1 = c) (hn : narrow (fm_ty c k) v = v) (hfit : fits (fm_ty c k) v = true)
    (hm : ∀ j, fm_fv (fm_ty c j) (im m1 a) (rf m1 a) (jm m1 a) j = if j = k then v else fm_fv (fm_ty c j) (im m a) (rf m a) (jm m a) j)
    (ez : fz m1 = fz m) (et : tg m1 = tg m) (ei : ∀ q, q ≠ a → im m1 q = im m q) (er : ∀ q, q ≠ a → rf m1 q = rf m q) (ej : ∀ q, q ≠ a → jm m1 q = jm m q)
    (hdg : decode (mC M) pc = .ok (.putfield i, 3)) (kk : G g M Q (pc + 3) L st u m1) : G g M Q pc L (v :: .ref a :: st) u m := by
  intro p l e s mm args below meth c0 H locs ls C hW hB hS hl
  obtain ⟨r, hr, hk, hlk, hfin⟩ := fw
  obtain ⟨hin, hty, hnm, hc⟩ := fm_C hr
  subst ht
  obtain ⟨r', cC, iS, cell, e1, hKn, e3, e4, e5, e6⟩ := (hW.2.2.2 a).1 hc
  cases Option.some.inj (e1.symm.trans hr)
  have hts : ∀ w ∈ wA, w.before args s = true := fun w h => cx_w C h
  have hap : ∀ x y, x < r.2.2 → y < r.2.2 → x ≠ y → iS x ≠ iS y := by
    intro x y hx hy hne
    obtain ⟨_, _, _, fa, hia, ea⟩ := hKn.1 x hx
    obtain ⟨_, _, _, fb, hib, eb⟩ := hKn.1 y hy
    rw [← ea, ← eb]
    refine u_apart (u_lays hts hin hx) (u_lays hts hin hy) hia hib ?_
    rw [(State.fieldFound?_type hia (hty x hx)).1, (State.fieldFound?_type hib (hty y hy)).1]
    exact hnm x hx y hy hne
  obtain ⟨cf, kf, fi, f, hi, hsl⟩ := hKn.1 k hk
  obtain ⟨hfc, kC, hkC, hkind⟩ := id hKn.2
  have hlay := hts _ (hin _ (u_in_lay hk))
  unfold u_lay at hlay
  rw [if_neg (by rw [hfin]; decide)] at hlay
  have hst := (u_facts hfc hkC (u_lays hts hin hk) hi).1
  have h6 := u_store hfc hkC hkind hlay hi (hty k hk) hn hfit
  refine W.putK C.1 C.2.1 (f := f) ⟨C.2.2.2.2.1, cx_w C hlk, ⟨_, _, _, hi⟩, hst⟩ (by rw [e4]; exact h6) e3 e5 (by rw [hsl]; exact k2_hasslot (e6 k hk)) rfl rfl hdg fun H' w1 w2 w3 => ?_
  refine kk p l e s mm args below meth c0 H' _ ls C (hW.set w2 w3 ez et ei er ej (fm_noO hc ⟨_, cC, iS, _, e1, hKn, w1, e4, e5, fun j hj => ?_⟩)) hB (hS.put w2 w3 (hW.2.2.1 a (by omega))) hl
  rw [hm j]
  have h9 := t_set e6 hap hk v j hj
  rw [hsl]
  exact h9
theorem g_putI {i c k : Nat} {x : Int32} (fw : fm_FW (mY M).cls i c k) (hty : fm_ty c k = .int) (ht : (tg m a).1 = c) (hdg : decode (mC M) pc = .ok (.putfield i, 3)) (kk : G g M Q (pc + 3) L st u (sI m a k x)) : G g M Q pc L (.int x :: .ref a :: st) u m := by
  refine g_putv (m1 := sI m a k x) fw ht (by rw [hty]; rfl) (by rw [hty]; rfl) (fun j => ?_) rfl rfl (fun q hq => u2_o _ _ _ _ hq) (fun _ _ => rfl) (fun _ _ => rfl) hdg kk
  by_cases h : j = k
  · subst h
    rw [if_pos rfl, hty]
    show Value.int (u2 (im m) a j x a j) = _
    rw [u2_s]
  · rw [if_neg h]
    show fm_fv (fm_ty c j) (u2 (im m) a k x a) (rf m a) (jm m a) j = _
    cases fm_ty c j <;> simp only [fm_fv]
    all_goals rw [u2_n _ _ _ _ (fun z => h z.2)]
theorem g_putJ {i c k : Nat} {x : Int64} (fw : fm_FW (mY M).cls i c k) (hty : fm_ty c k = .long) (ht : (tg m a).1 = c) (hdg : decode (mC M) pc = .ok (.putfield i, 3)) (kk : G g M Q (pc + 3) L st u (sJ m a k x)) : G g M Q pc L (.long x :: .ref a :: st) u m := by
  refine g_putv (m1 := sJ m a k x) fw ht (by rw [hty]; rfl) (by rw [hty]; rfl) (fun j => ?_) rfl rfl (fun _ _ => rfl) (fun _ _ => rfl) (fun q hq => u2_o _ _ _ _ hq) hdg kk
  by_cases h : j = k
  · subst h
    rw [if_pos rfl, hty]
    show Value.long (u2 (jm m) a j x a j) = _
    rw [u2_s]
  · rw [if_neg h]
    show fm_fv (fm_ty c j) (im m a) (rf m a) (u2 (jm m) a k x a) j = _
    cases fm_ty c j <;> simp only [fm_fv]
    all_goals rw [u2_n _ _ _ _ (fun z => h z.2)]
/-- a reference type -/
def fm_rt : FieldType → Bool
  | .object _ => true
  | .array _ => true
  | _ => false
theorem g_putR {i c k q : Nat} (fw : fm_FW (mY M).cls i c k) (hty : fm_rt (fm_ty c k) = true) (ht : (tg m a).1 = c) (hdg : decode (mC M) pc = .ok (.putfield i, 3)) (kk : G g M Q (pc + 3) L st u (sR m a k (some q))) : G g M Q pc L (.ref q :: .ref a :: st) u m := by
  refine g_putv (m1 := sR m a k (some q)) fw ht (by cases h : fm_ty c k <;> rw [h] at hty <;> first | rfl | cases hty) (by cases h : fm_ty c k <;> rw [h] at hty <;> first | rfl | cases hty) (fun j => ?_) rfl rfl (fun _ _ => rfl) (fun q hq => u2_o _ _ _ _ hq) (fun _ _ => rfl) hdg kk
  by_cases h : j = k
  · subst h
    rw [if_pos rfl]
    show fm_fv (fm_ty c j) (im m a) (u2 (rf m) a j (some q) a) (jm m a) j = _
    cases h : fm_ty c j <;> rw [h] at hty <;> first | (simp only [fm_fv]; rw [u2_s]; rfl) | cases hty
  · rw [if_neg h]
    show fm_fv (fm_ty c j) (im m a) (u2 (rf m) a k (some q) a) (jm m a) j = _
    cases fm_ty c j <;> simp only [fm_fv]
    all_goals rw [u2_n _ _ _ _ (fun z => h z.2)]
/-! ===== arrays ===== -/
theorem g_iald {i : Int32} (j : Nat) (ht : (tg m a).1 = 11) (hi : i.toInt = (j : Int)) (hj : j < (tg m a).2) (hdg : decode (mC M) pc = .ok (.iaload, 1)) (kk : G g M Q (pc + 1) L (.int (im m a j) :: st) u m) : G g M Q pc L (.int i :: .ref a :: st) u m := by
  intro p l e s mm args below meth c0 H locs ls C hW hB hS hl
  obtain ⟨cA, e1, e2⟩ := (hW.2.2.2 a).2.1 ht
  obtain ⟨h1, h2⟩ := ix_in hi hj
  exact W.iald (v := .int (im m a j)) C.1 C.2.1 e1 (e2 _ _) (fun q => by cases q) (by rw [arrV_size]; exact h1) (by rw [h2, arrV_read _ _ hj]) rfl rfl hdg (kk p l e s mm args below meth c0 H locs ls C hW hB hS hl)
theorem g_iald19 {i : Int32} (j : Nat) (ht : (tg m a).1 = 19) (hi : i.toInt = (j : Int)) (hj : j < (tg m a).2) (hdg : decode (mC M) pc = .ok (.iaload, 1)) (kk : G g M Q (pc + 1) L (.int (im m a j) :: st) u m) : G g M Q pc L (.int i :: .ref a :: st) u m := by
  intro p l e s mm args below meth c0 H locs ls C hW hB hS hl
  obtain ⟨scr, e1, e2, e3, e4, -, e5⟩ := (hW.2.2.2 a).2.2.2.2 ht
  obtain ⟨h1, h2⟩ := ix_in hi hj
  exact W.iald (v := .int (im m a j)) C.1 C.2.1 e1 e2 e3 (fun z => h1 (z.elim Or.inl (fun y => Or.inr (Nat.le_trans e4 y)))) (by rw [h2]; exact e5 j hj) rfl rfl hdg (kk p l e s mm args below meth c0 H locs ls C hW hB hS hl)
theorem g_lald {i : Int32} (j : Nat) (ht : (tg m a).1 = 18) (hi : i.toInt = (j : Int)) (hj : j < (tg m a).2) (hdg : decode (mC M) pc = .ok (.laload, 1)) (kk : G g M Q (pc + 1) L (.long (jm m a j) :: st) u m) : G g M Q pc L (.int i :: .ref a :: st) u m := by
  intro p l e s mm args below meth c0 H locs ls C hW hB hS hl
  obtain ⟨cA, e1, e2⟩ := (hW.2.2.2 a).2.2.1 ht
  obtain ⟨h1, h2⟩ := ix_in hi hj
  exact W.lald (v := .long (jm m a j)) C.1 C.2.1 e1 (e2 _ _) (fun q => by cases q) (by rw [arrV_size]; exact h1) (by rw [h2, arrV_read _ _ hj]) rfl rfl hdg (kk p l e s mm args below meth c0 H locs ls C hW hB hS hl)
theorem g_aald {i : Int32} (j q : Nat) (ht : 11 < (tg m a).1 ∧ (tg m a).1 < 18) (hi : i.toInt = (j : Int)) (hj : j < (tg m a).2) (hq : rf m a j = some q) (hdg : decode (mC M) pc = .ok (.aaload, 1)) (kk : G g M Q (pc + 1) L (.ref q :: st) u m) : G g M Q pc L (.int i :: .ref a :: st) u m := by
  intro p l e s mm args below meth c0 H locs ls C hW hB hS hl
  obtain ⟨cA, e1, e2, -⟩ := (hW.2.2.2 a).2.2.2.1 ht
  obtain ⟨h1, h2⟩ := ix_in hi hj
  exact W.aald (v := .ref q) (ty := .object (fm_el (tg m a).1)) C.1 C.2.1 e1 (e2 _ _) rfl (fun q => by cases q) (by rw [arrV_size]; exact h1) (by rw [h2, arrV_read _ _ hj, hq]; rfl) rfl rfl hdg (kk p l e s mm args below meth c0 H locs ls C hW hB hS hl)
theorem g_alen (ht : 11 ≤ (tg m a).1 ∧ (tg m a).1 < 20) (hdg : decode (mC M) pc = .ok (.arraylength, 1)) (kk : G g M Q (pc + 1) L (.int (nI (tg m a).2) :: st) u m) : G g M Q pc L (.ref a :: st) u m := by
  intro p l e s mm args below meth c0 H locs ls C hW hB hS hl
  have K := kk p l e s mm args below meth c0 H locs ls C hW hB hS hl
  obtain ⟨-, h2, h3, h4, h5⟩ := hW.2.2.2 a
  by_cases q2 : (tg m a).1 = 11
  · obtain ⟨cA, e1, e2⟩ := h2 q2
    exact W.alen (n := nI (tg m a).2) C.1 C.2.1 e1 (e2 _ _) (by rw [arrV_size]; rfl) rfl rfl hdg K
  · by_cases q3 : (tg m a).1 = 18
    · obtain ⟨cA, e1, e2⟩ := h3 q3
      exact W.alen (n := nI (tg m a).2) C.1 C.2.1 e1 (e2 _ _) (by rw [arrV_size]; rfl) rfl rfl hdg K
    · by_cases q4 : (tg m a).1 = 19
      · obtain ⟨scr, e1, e2, e3, -, e4, e5⟩ := h5 q4
        exact W.alen (n := nI (tg m a).2) C.1 C.2.1 e1 e2 (by rw [e4]; rfl) rfl rfl hdg K
      · obtain ⟨cA, e1, e2, -⟩ := h4 (by omega)
        exact W.alen (n := nI (tg m a).2) C.1 C.2.1 e1 (e2 _ _) (by rw [arrV_size]; rfl) rfl rfl hdg K
theorem g_iast {i x : Int32} (j : Nat) (ht : (tg m a).1 = 11) (hi : i.toInt = (j : Int)) (hj : j < (tg m a).2) (hdg : decode (mC M) pc = .ok (.iastore, 1)) (kk : G g M Q (pc + 1) L st u (sI m a j x)) : G g M Q pc L (.int x :: .int i :: .ref a :: st) u m := by
  intro p l e s mm args below meth c0 H locs ls C hW hB hS hl
  obtain ⟨cA, e1, e2⟩ := (hW.2.2.2 a).2.1 ht
  obtain ⟨h1, h2⟩ := ix_in hi hj
  refine W.iast C.1 C.2.1 e1 (e2 _ _) (fun q => by cases q) (by rw [arrV_size]; exact h1) rfl rfl hdg fun H1 w1 w2 w3 => ?_
  refine kk p l e s mm args below meth c0 H1 _ ls C (hW.set (m1 := sI m a j x) w2 w3 rfl rfl (fun q hq => u2_o _ _ _ _ hq) (fun _ _ => rfl) (fun _ _ => rfl) ⟨fun z => absurd z (by omega), fun _ => ⟨cA, ?_, e2⟩, fun z => absurd z (by omega), fun z => absurd z (by omega), fun z => absurd z (by omega)⟩) hB (hS.put w2 w3 (hW.2.2.1 a (by omega))) hl
  rw [w1, arrV_store, h2]
  congr 2
  funext q
  show updV _ j (.int x) q = .int (u2 (im m) a j x a q)
  by_cases hq : q = j
  · subst hq
    rw [u2_s]; simp [updV]
  · rw [u2_n _ _ _ _ (fun z => hq z.2)]; simp [updV, hq]
theorem g_last {i : Int32} {x : Int64} (j : Nat) (ht : (tg m a).1 = 18) (hi : i.toInt = (j : Int)) (hj : j < (tg m a).2) (hdg : decode (mC M) pc = .ok (.lastore, 1)) (kk : G g M Q (pc + 1) L st u (sJ m a j x)) : G g M Q pc L (.long x :: .int i :: .ref a :: st) u m := by
  intro p l e s mm args below meth c0 H locs ls C hW hB hS hl
  obtain ⟨cA, e1, e2⟩ := (hW.2.2.2 a).2.2.1 ht
  obtain ⟨h1, h2⟩ := ix_in hi hj
  refine W.last C.1 C.2.1 e1 (e2 _ _) (fun q => by cases q) (by rw [arrV_size]; exact h1) rfl rfl hdg fun H1 w1 w2 w3 => ?_
  refine kk p l e s mm args below meth c0 H1 _ ls C (hW.set (m1 := sJ m a j x) w2 w3 rfl rfl (fun _ _ => rfl) (fun _ _ => rfl) (fun q hq => u2_o _ _ _ _ hq) ⟨fun z => absurd z (by omega), fun z => absurd z (by omega), fun _ => ⟨cA, ?_, e2⟩, fun z => absurd z (by omega), fun z => absurd z (by omega)⟩) hB (hS.put w2 w3 (hW.2.2.1 a (by omega))) hl
  rw [w1, arrV_store, h2]
  congr 2
  funext q
  show updV _ j (.long x) q = .long (u2 (jm m) a j x a q)
  by_cases hq : q = j
  · subst hq
    rw [u2_s]; simp [updV]
  · rw [u2_n _ _ _ _ (fun z => hq z.2)]; simp [updV, hq]
theorem g_aast {i : Int32} {v : Nat} (j : Nat) {r : vw_C} (ht : 11 < (tg m a).1 ∧ (tg m a).1 < 18) (hi : i.toInt = (j : Int)) (hj : j < (tg m a).2) (hr : vwCl[(tg m v).1]? = some r) (hre : r.1 = fm_el (tg m a).1) (hdg : decode (mC M) pc = .ok (.aastore, 1)) (kk : G g M Q (pc + 1) L st u (sR m a j (some v))) : G g M Q pc L (.ref v :: .int i :: .ref a :: st) u m := by
  intro p l e s mm args below meth c0 H locs ls C hW hB hS hl
  obtain ⟨cA, e1, e2, kA, comp, k1, k2, k3, k4⟩ := (hW.2.2.2 a).2.2.2.1 ht
  obtain ⟨h1, h2⟩ := ix_in hi hj
  obtain ⟨-, -, -, hc⟩ := fm_C hr
  obtain ⟨r', cC, iS, cellV, q1, ⟨-, hcls⟩, q3, q4, q5, -⟩ := (hW.2.2.2 v).1 hc
  cases Option.some.inj (q1.symm.trans hr)
  have hcomp : comp = cC := Option.some.inj ((by rw [hre]; exact k3.symm : some comp = s.vm.findClass r.1).trans hcls.1)
  subst hcomp
  obtain ⟨kC, hkC, -⟩ := hcls.2
  refine W.aast C.1 C.2.1 e1 (fun q h => by cases h) (fun h => by cases h) k1 k2 rfl hkC ⟨fun z => h1 (Or.inl z), by rw [arrV_size, h2]; exact hj⟩ q3 (fun q h => by rw [q5] at h; cases h) (by rw [q4]; exact hkC) (by rw [q4]; exact va_assign hcls) rfl rfl hdg fun H1 w1 w2 w3 => ?_
  refine kk p l e s mm args below meth c0 H1 _ ls C (hW.set (m1 := sR m a j (some v)) w2 w3 rfl rfl (fun _ _ => rfl) (fun q hq => u2_o _ _ _ _ hq) (fun _ _ => rfl) ⟨fun z => absurd z (by omega), fun z => absurd z (by omega), fun z => absurd z (by omega), fun _ => ⟨cA, ?_, e2, kA, comp, k1, k2, k3, k4⟩, fun z => absurd z (by omega)⟩) hB (hS.put w2 w3 (hW.2.2.1 a (by omega))) hl
  rw [w1, arrV_store, h2]
  congr 2
  funext q
  show updV _ j (.ref v) q = va_rf (u2 (rf m) a j (some v) a q)
  by_cases hq : q = j
  · subst hq
    rw [u2_s]; simp [updV, va_rf]
  · rw [u2_n _ _ _ _ (fun z => hq z.2)]; simp [updV, hq]
end GHEAP
