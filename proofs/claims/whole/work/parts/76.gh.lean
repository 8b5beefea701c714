/-! METHODS THAT CATCH: the judgement GH, as G, of a body with handlers -/
def mWH (M : MI) (hh : List (Nat × Nat × Nat × Nat)) : List Cond := .codeWith (mY M) (mC M) (mL M) (mT M) hh :: wA
def Hn (g : Gp) (M : MI) (hh : List (Nat × Nat × Nat × Nat)) (av : List Value) (m : Mm) (Q : Rs → Mm → Prop) : Prop := ∀ l : Launch, l.stackTraces = false →
  vx_Met l (mY M) (mWH M hh) (mR M) (fm_Pc g av m) (fm_Qc g Q) (fm_Xc g Q) (mR M).cells (mR M).slots (fm_A g)
def CxH (l : Launch) (M : MI) (hh : List (Nat × Nat × Nat × Nat)) (p : Program) (s : State) (mm : MethodId) (args : Array Value) (meth : Method) (c : Code) : Prop :=
  p.tables.exec = Jvm.exec ∧ c.code = mC M ∧ meth.sig.returnType = mT M ∧ c.maxLocals = mL M ∧ s.vm.findClass (mY M).cls = some mm.cls ∧ (∀ w ∈ mWH M hh, w.before args s = true) ∧ meth.locks = false ∧ c.exceptionTable.toList = tableOf hh ∧ meth.name = (mY M).name ∧ l.stackTraces = false
theorem cxh_w {l : Launch} {M : MI} {hh : List (Nat × Nat × Nat × Nat)} {p : Program} {s : State} {mm : MethodId} {args : Array Value} {meth : Method} {c : Code} (C : CxH l M hh p s mm args meth c) {w : Cond} (h : w ∈ wA) : w.before args s = true := C.2.2.2.2.2.1 _ (List.mem_cons_of_mem _ h)
def GH (g : Gp) (M : MI) (hh : List (Nat × Nat × Nat × Nat)) (Q : Rs → Mm → Prop) (pc : Nat) (L : List (Nat × Value)) (st : List Value) (u : Nat × Nat) (m : Mm) : Prop :=
  ∀ (p : Program) (l : Launch) (e : Env) (s : State) (mm : MethodId) (args : Array Value) (below : List Frame) (meth : Method) (c : Code) (H : Heap) (locs : List Loc) (ls : Array Slot),
    CxH l M hh p s mm args meth c → fm_Wd g s H m → fm_B g s s.heap → va_S (fm_A g) s.heap H locs → lv_has ls (mL M) L →
    W p l e (mR M) s mm args below meth c H locs u.1 u.2 (vx_MQ below (fm_Qc g Q) (fm_Xc g Q) args s (mR M).cells (mR M).slots (fm_A g)) (F0 mm pc ls st)
theorem Hn.of {g : Gp} {M : MI} {hh : List (Nat × Nat × Nat × Nat)} {av : List Value} {m : Mm} {Q : Rs → Mm → Prop} {L : List (Nat × Value)} (hy : plainName (mY M).cls = true) (hn : (lg_sl av).length ≤ mL M) (hL : lv_args 0 av = L) (h : GH g M hh Q 0 L [] (0, 0) m) : Hn g M hh av m Q := by
  intro l hl
  refine vx_ofWH (cc := mC M) (maxL := mL M) (ret := mT M) (hh := hh) (ws' := wA) hy rfl ?_
  intro p e s mm args below meth c s₁ B hml hv
  obtain ⟨rfl, hW, hB⟩ := hv
  have hts := atoms_spec (ws := mWH M hh) B.pre
  have ht := vx_table (x := mY M) B (hts _ List.mem_cons_self)
  have hl0 := lv_entry av (n := mL M) hn
  rw [hL] at hl0
  have e0 : entryFrame mm av.toArray (mL M) = F0 mm 0 ((lg_sl av ++ List.replicate (mL M - (lg_sl av).length) Slot.unset).toArray) [] := by rw [lg_entry_eq]
  rw [e0]
  exact h p l e s mm _ below meth c s.heap [] _ ⟨B.exec, B.bytes, B.returns, hml, findClass_of_methodNamed B.named, hts, B.notSynchronized, ht, (name_of_methodNamed B.named B.method).1, hl⟩ hW hB va_S.rf hl0
section GHR
variable {g : Gp} {M : MI} {hh : List (Nat × Nat × Nat × Nat)} {Q : Rs → Mm → Prop} {pc : Nat} {L : List (Nat × Value)} {st : List Value} {u : Nat × Nat} {m : Mm} {a : Nat}
theorem h_i2l {x : Int32} (hdg : decode (mC M) pc = .ok (.i2l, 1)) (k : GH g M hh Q (pc + 1) L (.long x.toInt64 :: st) u m) : GH g M hh Q pc L (.int x :: st) u m :=
  fun p l e s mm args below meth c H locs ls C hW hB hS hl => lv_i2l C.1 C.2.1 hdg rfl (k p l e s mm args below meth c H locs ls C hW hB hS hl)
theorem h_iload_n {q : Fin 4} (i : Nat) {x : Int32} (hdg : decode (mC M) pc = .ok (.iload_n q, 1)) (hi : (q : Nat) = i) (hv : L.lookup i = some (.int x)) (k : GH g M hh Q (pc + 1) L (.int x :: st) u m) : GH g M hh Q pc L st u m :=
  fun p l e s mm args below meth c H locs ls C hW hB hS hl => lv_iload_n C.1 C.2.1 hdg hi (hl.2.2 _ (lk_mem hv)) (k p l e s mm args below meth c H locs ls C hW hB hS hl)
theorem h_iload (i : Nat) {x : Int32} (hdg : decode (mC M) pc = .ok (.iload i, 2)) (hv : L.lookup i = some (.int x)) (k : GH g M hh Q (pc + 2) L (.int x :: st) u m) : GH g M hh Q pc L st u m :=
  fun p l e s mm args below meth c H locs ls C hW hB hS hl => lv_iload C.1 C.2.1 hdg (hl.2.2 _ (lk_mem hv)) (k p l e s mm args below meth c H locs ls C hW hB hS hl)
theorem h_aload_n {q : Fin 4} (i : Nat) {x : Nat} (hdg : decode (mC M) pc = .ok (.aload_n q, 1)) (hi : (q : Nat) = i) (hv : L.lookup i = some (.ref x)) (k : GH g M hh Q (pc + 1) L (.ref x :: st) u m) : GH g M hh Q pc L st u m :=
  fun p l e s mm args below meth c H locs ls C hW hB hS hl => lv_aload_n C.1 C.2.1 hdg hi (hl.2.2 _ (lk_mem hv)) (k p l e s mm args below meth c H locs ls C hW hB hS hl)
theorem h_aload (i : Nat) {x : Nat} (hdg : decode (mC M) pc = .ok (.aload i, 2)) (hv : L.lookup i = some (.ref x)) (k : GH g M hh Q (pc + 2) L (.ref x :: st) u m) : GH g M hh Q pc L st u m :=
  fun p l e s mm args below meth c H locs ls C hW hB hS hl => lv_aload C.1 C.2.1 hdg (hl.2.2 _ (lk_mem hv)) (k p l e s mm args below meth c H locs ls C hW hB hS hl)
theorem h_goto {off : Int} (tgt : Nat) (hdg : decode (mC M) pc = .ok (.goto off, 3)) (ht : (pc : Int) + off = (tgt : Int)) (k : GH g M hh Q tgt L st u m) : GH g M hh Q pc L st u m :=
  fun p l e s mm args below meth c H locs ls C hW hB hS hl => lv_goto C.1 C.2.1 hdg ht (k p l e s mm args below meth c H locs ls C hW hB hS hl)
theorem h_astore_n {q : Fin 4} (i : Nat) {x : Nat} (L1 : List (Nat × Value)) (hdg : decode (mC M) pc = .ok (.astore_n q, 1)) (hi : (q : Nat) = i) (hn : i < mL M) (hL : (i, Value.ref x) :: L.filter (fun q => !(q.1 == i) && !(q.1 + 1 == i && q.2.category == 2)) = L1) (k : GH g M hh Q (pc + 1) L1 st u m) : GH g M hh Q pc L (.ref x :: st) u m :=
  fun p l e s mm args below meth c H locs ls C hW hB hS hl => lv_astore_n C.1 C.2.1 hdg hi hl hn hL (fun ls2 hl2 => k p l e s mm args below meth c H locs ls2 C hW hB hS hl2)
theorem h_astore (i : Nat) {x : Nat} (L1 : List (Nat × Value)) (hdg : decode (mC M) pc = .ok (.astore i, 2)) (hn : i < mL M) (hL : (i, Value.ref x) :: L.filter (fun q => !(q.1 == i) && !(q.1 + 1 == i && q.2.category == 2)) = L1) (k : GH g M hh Q (pc + 2) L1 st u m) : GH g M hh Q pc L (.ref x :: st) u m :=
  fun p l e s mm args below meth c H locs ls C hW hB hS hl => lv_astore C.1 C.2.1 hdg hl hn hL (fun ls2 hl2 => k p l e s mm args below meth c H locs ls2 C hW hB hS hl2)
theorem h_iret {v : Int32} (hT : mT M = some .int) (hdg : decode (mC M) pc = .ok (.ireturn, 1)) (hu : u.1 ≤ (mR M).cells ∧ u.2 ≤ (mR M).slots) (hq : Q (.inl (some (.int v))) m) : GH g M hh Q pc L [.int v] u m :=
  fun p l e s mm args below meth c H locs ls C hW hB hS hl => W.widen hu.1 hu.2 (vx_ret (W.iret C.1 C.2.1 (C.2.2.1.trans hT) (fun t ht hwm => ⟨_, m, rfl, hq, by rw [ht]; exact hW.moved hwm.alike, hS.F ht⟩) hS.2.2 hdg C.2.2.2.2.2.2.1))
theorem h_iconst {n : Int} (v : Int32) (hdg : decode (mC M) pc = .ok (.iconst n, 1)) (hv : Int32.ofInt n = v) (k : GH g M hh Q (pc + 1) L (.int v :: st) u m) : GH g M hh Q pc L (st) u m :=
  fun p l e s mm args below meth c H locs ls C hW hB hS hl => lv_iconst C.1 C.2.1 hdg hv  (k p l e s mm args below meth c H locs ls C hW hB hS hl)
theorem h_last {i : Int32} {x : Int64} (j : Nat) (ht : (tg m a).1 = 18) (hi : i.toInt = (j : Int)) (hj : j < (tg m a).2) (hdg : decode (mC M) pc = .ok (.lastore, 1)) (kk : GH g M hh Q (pc + 1) L st u (sJ m a j x)) : GH g M hh Q pc L (.long x :: .int i :: .ref a :: st) u m := by
  intro p l e s mm args below meth c0 H locs ls C hW hB hS hl
  obtain ⟨cA, e1, e2⟩ := (hW.2.2.2 a).2.2.1 ht
  obtain ⟨h1, h2⟩ := ix_in hi hj
  refine W.last C.1 C.2.1 e1 (e2 _ _) (fun q => by cases q) (by rw [arrV_size]; exact h1) rfl rfl hdg fun H1 w1 w2 w3 => ?_
  refine kk p l e s mm args below meth c0 H1 _ ls C (hW.set (m1 := sJ m a j x) w2 w3 rfl rfl (fun _ _ => rfl) (fun _ _ => rfl) (fun q hq => u2_o _ _ _ _ hq) ⟨fun z => absurd z (by omega), fun z => absurd z (by omega), fun _ => ⟨cA, ?_, e2⟩, fun z => absurd z (by omega), fun z => absurd z (by omega)⟩) hB (hS.put w2 w3 (hW.2.2.1 a (by omega))) hl
  rw [w1, arrV_store, h2]
  congr 2
  funext q
  show updV _ j (.long x) q = .long (u2 (jm m) a j x a q)
  by_cases hq : q = j
  · subst hq
    rw [u2_s]; simp [updV]
  · rw [u2_n _ _ _ _ (fun z => hq z.2)]; simp [updV, hq]
/-- the handler at x catches what E is -/
def GC (g : Gp) (M : MI) (hh : List (Nat × Nat × Nat × Nat)) (Q : Rs → Mm → Prop) (pc : Nat) (L : List (Nat × Value)) (E : String) (u : Nat × Nat) (m : Mm) : Prop :=
  ∃ (pre suf : List ExceptionTableEntry) (x : ExceptionTableEntry) (name : String), tableOf hh = pre ++ x :: suf ∧
    (∀ z ∈ pre, covers z pc = false ∨ (z.catchType ≠ 0 ∧ ∃ nm : String, Cond.classLink (mY M).cls z.catchType nm ∈ wA ∧ ((E = "java/lang/IllegalArgumentException" ∧ nm = "java/lang/IndexOutOfBoundsException") ∨ (E = "java/lang/IllegalStateException" ∧ nm = "java/lang/IndexOutOfBoundsException") ∨ (E = "java/lang/IllegalStateException" ∧ nm = "java/lang/IllegalArgumentException")))) ∧
    covers x pc = true ∧ x.catchType ≠ 0 ∧ Cond.classLink (mY M).cls x.catchType name ∈ wA ∧ Cond.castable E name ∈ wN ∧ ∀ q, GH g M hh Q x.handlerPc L [.ref q] u m
theorem h_callV {i n b : Nat} {My : MI} {Qy : Rs → Mm → Prop} {r : vw_C} (av rest : List Value) (hC : Cn g My (.ref b :: av) m Qy) (hM : fm_M My n) (hlk : Cond.methodLink (mY M).cls i (mY My) ∈ wA) (hin : Cond.instanceMethod (mY My) ∈ wA) (hse : Cond.selects (mY My).cls (mY My) (mY My) ∈ wA) (hr : vwCl[(tg m b).1]? = some r) (hre : r.1 = (mY My).cls) (hn : av.length = n) (hfit : fm_fit M My) (hrest : (rest.map fun v => v.category).sum ≤ 8)
    (hu : u.1 + (mR My).cells ≤ (mR M).cells ∧ u.2 + (mR My).slots ≤ (mR M).slots) (hdg : decode (mC M) pc = .ok (.invokevirtual i, 3)) (hstk : st = av.reverse ++ .ref b :: rest)
    (k : ∀ (v : Option Value) (m1 : Mm), Qy (.inl v) m1 → GH g M hh Q (pc + 3) L (v.toList ++ rest) (u.1 + (mR My).cells, u.2 + (mR My).slots) m1) (kx : ∀ (E : String) (m1 : Mm), Qy (.inr E) m1 → GC g M hh Q pc L E (u.1 + (mR My).cells, u.2 + (mR My).slots) m1) : GH g M hh Q pc L st u m := by
  intro p l e s mm args below meth c H locs ls C hW hB hS hl T hT X
  have hp := fm_PreS (av := .ref b :: av) hW (fm_Bat hB hS)
  have hgi : GoodIn (mWH M hh) (mW My) := by
    intro w hw
    rcases List.mem_cons.mp hw with rfl | hw
    · exact ⟨List.mem_cons_of_mem _ hM.1, good_of_word (wA_good hM.1)⟩
    · exact ⟨List.mem_cons_of_mem _ hw, good_of_word (wA_good hw)⟩
  have hr0 : vx_Run p l e (mR M) s mm args below meth c H locs u.1 u.2 (mR My).cells (mR My).slots (F0 mm pc ls st) rest (fm_Qc g Qy (Value.ref b :: av).toArray) (fm_Xc g Qy) (fm_A g) :=
    vx_runV (As := av) (b := b) (C := (mY My).cls) ⟨C.1, C.2.1, C.2.2.2.1, C.2.2.2.2.1, C.2.2.2.2.2.1⟩ (hC l C.2.2.2.2.2.2.2.2.2) ⟨callB_of n C.2.2.2.2.2.1 hgi rfl rfl rfl (cxh_w C hM.2.1) (cxh_w C hlk) hM.2.2 hfit, cxh_w C hin, cxh_w C hse⟩ ⟨hp.1, by rw [← hre]; exact fm_recv hW hr, hp.2⟩ rfl hn hl.1 hstk (lv_room hrest) hdg hu
  rcases hr0 T hT X with ⟨v, st₀, t, T', Lc, h0, X', hLc, e1, e2, ⟨v', m', hv, hq, hw', hF⟩, st'⟩ | ⟨q, st₀, t, T', Lc, E, ce, h0, X', hLc, e1, e2, ⟨m', hq, hw', hF⟩, hce, hcv, hcl, stp⟩
  · cases hv
    obtain ⟨k1, k2, k3⟩ := vx_keep h0 e1 hS (fun _ _ h => h) (fun _ h => h) hLc hF
    have hal : t.vm.Alike s.vm := by rw [← e2]; exact X'.warmed.alike.symm
    obtain ⟨t2, a1, b1⟩ := k v m' hq p l e s mm args below meth c T'.heap (locs ++ Lc) ls C (by rw [e1]; exact hw'.moved hal) hB k3 hl T' rfl X'
    exact ⟨t2, st' t2 a1, b1⟩
  · obtain ⟨k1, k2, k3⟩ := vx_keep h0 e1 hS (fun _ _ h => h) (fun _ h => h) hLc hF
    have hal : t.vm.Alike s.vm := by rw [← e2]; exact X'.warmed.alike.symm
    obtain ⟨pre, suf, x, name, hsp, hpass, hcov, hx0, hlx, hca, kq⟩ := kx E m' hq
    obtain ⟨⟨h9, n1, n2, n3⟩, hBr⟩ := id hB
    have K := vx_catch (p := p) (l := l) (e := e) (R := mR M) (s := s) (m := mm) (args := args) (below := below) (meth := meth) (c := c) (H := T'.heap) (locs := locs ++ Lc) (cells := u.1 + (mR My).cells) (slots := u.2 + (mR My).slots) (ls := ls) (rest := rest) (pc := pc) (E := E) (ce := ce) (q := q) (name := name)
      C.2.2.2.2.1 pre x suf (C.2.2.2.2.2.2.2.1.trans hsp) (fun z hz => by
        rcases hpass z hz with h | ⟨h1, nm, h2, h3⟩
        · exact Or.inl h
        · refine Or.inr ⟨h1, nm, cxh_w C h2, ?_⟩
          rcases h3 with ⟨rfl, rfl⟩ | ⟨rfl, rfl⟩ | ⟨rfl, rfl⟩
          · exact n1
          · exact n2
          · exact n3) hcov hx0 (cxh_w C hlx) (va_Nw.use rfl (hB.2.2.2.2.2.2.2.2.2.2 _ hca)) (by rw [e1]; exact hce) hcv hcl (kq q p l e s mm args below meth c T'.heap (locs ++ Lc) ls C (by rw [e1]; exact hw'.moved hal) hB k3 hl)
    obtain ⟨t2, a1, b1⟩ := K T' rfl X'
    exact ⟨t2, stp.trans a1, b1⟩
end GHR
def hm_M (My : MI) (hh : List (Nat × Nat × Nat × Nat)) (n : Nat) : Prop := Cond.codeWith (mY My) (mC My) (mL My) (mT My) hh ∈ wA ∧ Cond.initialized (mY My).cls ∈ wA ∧ ((mY My).cls ≠ "java/lang/invoke/MethodHandle" ∧ (mY My).cls ≠ "java/lang/invoke/VarHandle" ∧ (parseMethodDescriptor (mY My).desc).map (fun d => d.parameters.length) = some n)
section GHC
variable {g : Gp} {M : MI} {Q : Rs → Mm → Prop} {pc : Nat} {L : List (Nat × Value)} {st : List Value} {u : Nat × Nat} {m : Mm}
/-- a call of a method that catches -/
theorem g_callH {i n : Nat} {My : MI} {hh : List (Nat × Nat × Nat × Nat)} {Qy : Rs → Mm → Prop} (av rest : List Value) (hC : Hn g My hh av m Qy) (hM : hm_M My hh n) (hlk : Cond.methodLink (mY M).cls i (mY My) ∈ wA) (hst : Cond.static (mY My) ∈ wA) (hn : av.length = n) (hfit : fm_fit M My) (hrest : (rest.map fun v => v.category).sum ≤ 8)
    (hu : u.1 + (mR My).cells ≤ (mR M).cells ∧ u.2 + (mR My).slots ≤ (mR M).slots) (hdg : decode (mC M) pc = .ok (.invokestatic i, 3)) (hstk : st = av.reverse ++ rest)
    (k : ∀ (v : Option Value) (m1 : Mm), Qy (.inl v) m1 → G g M Q (pc + 3) L (v.toList ++ rest) (u.1 + (mR My).cells, u.2 + (mR My).slots) m1) (kx : ∀ (E : String) (m1 : Mm), Qy (.inr E) m1 → Q (.inr E) m1) : G g M Q pc L st u m := by
  refine g_run hu (av := av) (fun p l e s mm args below meth c H locs ls C hW hB hS hl => ?_) k kx
  have hgi : GoodIn (mW M) (mWH My hh) := by
    intro w hw
    rcases List.mem_cons.mp hw with rfl | hw
    · exact ⟨List.mem_cons_of_mem _ hM.1, good_of_word (wA_good hM.1)⟩
    · exact ⟨List.mem_cons_of_mem _ hw, good_of_word (wA_good hw)⟩
  exact vx_runSX (As := av) (hh := hh) ⟨C.1, C.2.1, C.2.2.2.1, C.2.2.2.2.1, C.2.2.2.2.2.1⟩ (hC l C.2.2.2.2.2.2.2.2.2)
    ⟨⟨rfl, rfl, hfit.1, hfit.2, pay_in C.2.2.2.2.2.1 hgi, List.mem_cons_self⟩, cx_w C hM.1, cx_w C hM.2.1, ⟨hM.2.2.1, hM.2.2.2.1⟩, fun sig h => by
      have h2 := hM.2.2.2.2
      rw [h] at h2
      exact (Option.some.inj h2).symm, cx_w C hlk, cx_w C hst⟩ (fm_PreS hW (fm_Bat hB hS)) rfl hn hl.1 hstk (lv_room hrest) hdg hu
end GHC
