/-! ROWS OF G: making cells, statics, calls, throws. -/
def fm_M (My : MI) (n : Nat) : Prop := Cond.code (mY My) (mC My) (mL My) (mT My) ∈ wA ∧ Cond.initialized (mY My).cls ∈ wA ∧ ((mY My).cls ≠ "java/lang/invoke/MethodHandle" ∧ (mY My).cls ≠ "java/lang/invoke/VarHandle" ∧ (parseMethodDescriptor (mY My).desc).map (fun d => d.parameters.length) = some n)
abbrev fm_fit (M My : MI) : Prop := (mR My).frames + 1 ≤ (mR M).frames ∧ 8 + (mL My + 11) + (mR My).locals ≤ (mR M).locals
theorem fm_blind (g : Gp) (av : List Value) (m : Mm) : FrameBlind (fm_Pc g av m) := fun _ U _ _ h => ⟨h.1, h.2.1.moved (Vm.Alike.refl U.vm), h.2.2.calling⟩
theorem fm_goodIn {M My : MI} (h : Cond.code (mY My) (mC My) (mL My) (mT My) ∈ wA) : GoodIn (mW M) (mW My) := by
  intro w hw
  rcases List.mem_cons.mp hw with rfl | hw
  · exact ⟨List.mem_cons_of_mem _ h, good_of_word (wA_good h)⟩
  · exact ⟨List.mem_cons_of_mem _ hw, good_of_word (wA_good hw)⟩
theorem fm_PreS {g : Gp} {av : List Value} {m : Mm} {s : State} {H : Heap} (hW : fm_Wd g s H m) (hB : fm_B g s H) : PreS s H (fm_Pc g av m) av :=
  ⟨fm_blind g av m, fun U hU hw => ⟨rfl, by rw [hU]; exact hW.moved hw.alike, by rw [hU]; exact hB.warm hw⟩⟩
theorem fm_Bat {g : Gp} {s : State} {H : Heap} {locs : List Loc} (hB : fm_B g s s.heap) (hS : va_S (fm_A g) s.heap H locs) : fm_B g s H := hB.kept hS.2.1
theorem fm_k11 {s : State} {N : Nat} {I : Nat → Int32} {R : Nat → Option Nat} {J : Nat → Int64} {oc : Option Cell} (h : ∃ cA : ClassId, oc = some (arrV cA N (fun j => .int (I j))) ∧ ArrOfT s cA .int) : fm_cell s (11, N) I R J oc :=
  ⟨fun z => absurd (show 11 < 11 from z) (by decide), fun _ => h, fun z => absurd (show 11 = 18 from z) (by decide), fun z => absurd (show 11 < 11 ∧ 11 < 18 from z) (by decide), fun z => absurd (show 11 = 19 from z) (by decide)⟩
theorem fm_k18 {s : State} {N : Nat} {I : Nat → Int32} {R : Nat → Option Nat} {J : Nat → Int64} {oc : Option Cell} (h : ∃ cA : ClassId, oc = some (arrV cA N (fun j => .long (J j))) ∧ ArrOfT s cA .long) : fm_cell s (18, N) I R J oc :=
  ⟨fun z => absurd (show 18 < 11 from z) (by decide), fun z => absurd (show 18 = 11 from z) (by decide), fun _ => h, fun z => absurd (show 11 < 18 ∧ 18 < 18 from z) (by decide), fun z => absurd (show 18 = 19 from z) (by decide)⟩
section GCALL
variable {g : Gp} {M : MI} {Q : Rs → Mm → Prop} {pc : Nat} {L : List (Nat × Value)} {st : List Value} {u : Nat × Nat} {m : Mm}
/-- behind a call's run -/
theorem g_run {My : MI} {av rest : List Value} {Qy : Rs → Mm → Prop} (hu : u.1 + (mR My).cells ≤ (mR M).cells ∧ u.2 + (mR My).slots ≤ (mR M).slots)
    (hr : ∀ (p : Program) (l : Launch) (e : Env) (s : State) (mm : MethodId) (args : Array Value) (below : List Frame) (meth : Method) (c : Code) (H : Heap) (locs : List Loc) (ls : Array Slot), Cx l M p s mm args meth c → fm_Wd g s H m → fm_B g s s.heap → va_S (fm_A g) s.heap H locs → lv_has ls (mL M) L →
      vx_Run p l e (mR M) s mm args below meth c H locs u.1 u.2 (mR My).cells (mR My).slots (F0 mm pc ls st) rest (fm_Qc g Qy av.toArray) (fm_Xc g Qy) (fm_A g))
    (k : ∀ (v : Option Value) (m1 : Mm), Qy (.inl v) m1 → G g M Q (pc + 3) L (v.toList ++ rest) (u.1 + (mR My).cells, u.2 + (mR My).slots) m1) (kx : ∀ (E : String) (m1 : Mm), Qy (.inr E) m1 → Q (.inr E) m1) : G g M Q pc L st u m := by
  intro p l e s mm args below meth c H locs ls C hW hB hS hl T hT X
  rcases hr p l e s mm args below meth c H locs ls C hW hB hS hl T hT X with ⟨v, st₀, t, T', Lc, h0, X', hLc, e1, e2, ⟨v', m', hv, hq, hw', hF⟩, st'⟩ | ⟨q, st₀, t, T', Lc, E, ce, h0, X', hLc, e1, e2, ⟨m', hq, hw', hF⟩, hce, hcv, hcl, stp⟩
  · cases hv
    obtain ⟨k1, k2, k3⟩ := vx_keep h0 e1 hS (fun _ _ h => h) (fun _ h => h) hLc hF
    have hal : t.vm.Alike s.vm := by rw [← e2]; exact X'.warmed.alike.symm
    obtain ⟨t2, a1, b1⟩ := k v m' hq p l e s mm args below meth c T'.heap (locs ++ Lc) ls C (by rw [e1]; exact hw'.moved hal) hB k3 hl T' rfl X'
    exact ⟨t2, st' t2 a1, b1⟩
  · obtain ⟨k1, k2, k3⟩ := vx_keep h0 e1 hS (fun _ _ h => h) (fun _ h => h) hLc hF
    have K := vx_out (p := p) (l := l) (e := e) (R := mR M) (s := s) (m := mm) (args := args) (below := below) (meth := meth) (c := c) (H := T'.heap) (locs := locs ++ Lc) (cells := u.1 + (mR My).cells) (slots := u.2 + (mR My).slots) (free := fm_A g) (ls := ls) (rest := rest) (Qc := fm_Qc g Q) (XC := fm_Xc g Q) (pc := pc) (E := E) (ce := ce) (q := q) (mc := (mR M).cells) (ms := (mR M).slots)
      (fun x hx => (C.2.2.2.2.2.2.2.1 x hx).elim) C.2.2.2.2.2.2.1 (by rw [e1]; exact hce) hcv hcl (fun t2 ht2 ha2 => ⟨m', kx E m' hq, by rw [ht2, e1]; exact hw'.moved (by rw [← e2]; exact X'.warmed.alike.symm.trans ha2), k3.F ht2⟩) k3.2.2 hu.1 hu.2
    obtain ⟨t2, a1, b1⟩ := K T' rfl X'
    exact ⟨t2, stp.trans a1, b1⟩
theorem g_callS {i n : Nat} {My : MI} {Qy : Rs → Mm → Prop} (av rest : List Value) (hC : Cn g My av m Qy) (hM : fm_M My n) (hlk : Cond.methodLink (mY M).cls i (mY My) ∈ wA) (hst : Cond.static (mY My) ∈ wA) (hn : av.length = n) (hfit : fm_fit M My) (hrest : (rest.map fun v => v.category).sum ≤ 8)
    (hu : u.1 + (mR My).cells ≤ (mR M).cells ∧ u.2 + (mR My).slots ≤ (mR M).slots) (hdg : decode (mC M) pc = .ok (.invokestatic i, 3)) (hstk : st = av.reverse ++ rest)
    (k : ∀ (v : Option Value) (m1 : Mm), Qy (.inl v) m1 → G g M Q (pc + 3) L (v.toList ++ rest) (u.1 + (mR My).cells, u.2 + (mR My).slots) m1) (kx : ∀ (E : String) (m1 : Mm), Qy (.inr E) m1 → Q (.inr E) m1) : G g M Q pc L st u m := by
  refine g_run hu (av := av) (fun p l e s mm args below meth c H locs ls C hW hB hS hl => ?_) k kx
  exact vx_runS (As := av) ⟨C.1, C.2.1, C.2.2.2.1, C.2.2.2.2.1, C.2.2.2.2.2.1⟩ (hC l C.2.2.2.2.2.2.2.2.2) ⟨callB_of n C.2.2.2.2.2.1 (fm_goodIn hM.1) rfl rfl rfl (cx_w C hM.2.1) (cx_w C hlk) hM.2.2 hfit, cx_w C hst⟩ (fm_PreS hW (fm_Bat hB hS)) rfl hn hl.1 hstk (lv_room hrest) hdg hu
theorem fm_recv {g : Gp} {s : State} {H : Heap} {m : Mm} {b : Nat} {r : vw_C} (hW : fm_Wd g s H m) (hr : vwCl[(tg m b).1]? = some r) : ∃ cellB : Cell, H[b]? = some cellB ∧ cellB.vm.isStatics = false ∧ s.vm.findClass r.1 = some cellB.cls := by
  obtain ⟨-, -, -, hc⟩ := fm_C hr
  obtain ⟨r', cC, iS, cellV, q1, ⟨-, hcls⟩, q3, q4, q5, -⟩ := (hW.2.2.2 b).1 hc
  cases Option.some.inj (q1.symm.trans hr)
  exact ⟨cellV, q3, by rw [q5]; rfl, by rw [q4]; exact hcls.1⟩
theorem g_callV {i n b : Nat} {My : MI} {Qy : Rs → Mm → Prop} {r : vw_C} (av rest : List Value) (hC : Cn g My (.ref b :: av) m Qy) (hM : fm_M My n) (hlk : Cond.methodLink (mY M).cls i (mY My) ∈ wA) (hin : Cond.instanceMethod (mY My) ∈ wA) (hse : Cond.selects (mY My).cls (mY My) (mY My) ∈ wA) (hr : vwCl[(tg m b).1]? = some r) (hre : r.1 = (mY My).cls) (hn : av.length = n) (hfit : fm_fit M My) (hrest : (rest.map fun v => v.category).sum ≤ 8)
    (hu : u.1 + (mR My).cells ≤ (mR M).cells ∧ u.2 + (mR My).slots ≤ (mR M).slots) (hdg : decode (mC M) pc = .ok (.invokevirtual i, 3)) (hstk : st = av.reverse ++ .ref b :: rest)
    (k : ∀ (v : Option Value) (m1 : Mm), Qy (.inl v) m1 → G g M Q (pc + 3) L (v.toList ++ rest) (u.1 + (mR My).cells, u.2 + (mR My).slots) m1) (kx : ∀ (E : String) (m1 : Mm), Qy (.inr E) m1 → Q (.inr E) m1) : G g M Q pc L st u m := by
  refine g_run hu (av := .ref b :: av) (fun p l e s mm args below meth c H locs ls C hW hB hS hl => ?_) k kx
  have hp := fm_PreS (av := .ref b :: av) hW (fm_Bat hB hS)
  exact vx_runV (As := av) (b := b) (C := (mY My).cls) ⟨C.1, C.2.1, C.2.2.2.1, C.2.2.2.2.1, C.2.2.2.2.2.1⟩ (hC l C.2.2.2.2.2.2.2.2.2) ⟨callB_of n C.2.2.2.2.2.1 (fm_goodIn hM.1) rfl rfl rfl (cx_w C hM.2.1) (cx_w C hlk) hM.2.2 hfit, cx_w C hin, cx_w C hse⟩ ⟨hp.1, by rw [← hre]; exact fm_recv hW hr, hp.2⟩ rfl hn hl.1 hstk (lv_room hrest) hdg hu
theorem g_callI {i n b : Nat} {My : MI} {Qy : Rs → Mm → Prop} (av rest : List Value) (hC : Cn g My (.ref b :: av) m Qy) (hM : fm_M My n) (hT : mT My = none) (hnm : (mY My).name = "<init>") (hlk : Cond.methodLink (mY M).cls i (mY My) ∈ wA) (hin : Cond.instanceMethod (mY My) ∈ wA) (hn : av.length = n) (hfit : fm_fit M My) (hrest : (rest.map fun v => v.category).sum ≤ 8)
    (hu : u.1 + (mR My).cells ≤ (mR M).cells ∧ u.2 + (mR My).slots ≤ (mR M).slots) (hdg : decode (mC M) pc = .ok (.invokespecial i, 3)) (hstk : st = av.reverse ++ .ref b :: rest)
    (k : ∀ (v : Option Value) (m1 : Mm), Qy (.inl v) m1 → G g M Q (pc + 3) L (v.toList ++ rest) (u.1 + (mR My).cells, u.2 + (mR My).slots) m1) (kx : ∀ (E : String) (m1 : Mm), Qy (.inr E) m1 → Q (.inr E) m1) : G g M Q pc L st u m := by
  refine g_run hu (av := .ref b :: av) (fun p l e s mm args below meth c H locs ls C hW hB hS hl => ?_) k kx
  exact vx_runI (As := av) (b := b) ⟨C.1, C.2.1, C.2.2.2.1, C.2.2.2.2.1, C.2.2.2.2.2.1⟩ (hC l C.2.2.2.2.2.2.2.2.2) ⟨callB_of n C.2.2.2.2.2.1 (fm_goodIn hM.1) (by unfold mW; rw [hT]) rfl rfl (cx_w C hM.2.1) (cx_w C hlk) hM.2.2 hfit, hnm, cx_w C hin⟩ (fm_PreS hW (fm_Bat hB hS)) rfl hn hl.1 hstk (lv_room hrest) hdg hu
theorem g_callIN {i n b : Nat} {host : String} {My : MI} {Qy : Rs → Mm → Prop} (av rest : List Value) (hC : Cn g My (.ref b :: av) m Qy) (hM : fm_M My n) (hT : mT My = none) (hnm : (mY My).name = "<init>") (hlk : Cond.methodLinkNest (mY M).cls i (mY My) host ∈ wN) (hin : Cond.instanceMethod (mY My) ∈ wA) (hn : av.length = n) (hfit : fm_fit M My) (hrest : (rest.map fun v => v.category).sum ≤ 8)
    (hu : u.1 + (mR My).cells ≤ (mR M).cells ∧ u.2 + (mR My).slots ≤ (mR M).slots) (hdg : decode (mC M) pc = .ok (.invokespecial i, 3)) (hstk : st = av.reverse ++ .ref b :: rest)
    (k : ∀ (v : Option Value) (m1 : Mm), Qy (.inl v) m1 → G g M Q (pc + 3) L (v.toList ++ rest) (u.1 + (mR My).cells, u.2 + (mR My).slots) m1) (kx : ∀ (E : String) (m1 : Mm), Qy (.inr E) m1 → Q (.inr E) m1) : G g M Q pc L st u m := by
  refine g_run hu (av := .ref b :: av) (fun p l e s mm args below meth c H locs ls C hW hB hS hl => ?_) k kx
  exact vx_runIN (As := av) (b := b) ⟨C.1, C.2.1, C.2.2.2.1, C.2.2.2.2.1, C.2.2.2.2.2.1⟩ (hC l C.2.2.2.2.2.2.2.2.2) ⟨va_cnB n C.2.2.2.2.2.1 (fm_goodIn hM.1) (by unfold mW; rw [hT]) rfl rfl (hB.2.2.2.2.2.2.2.2.2.2 _ hlk) (cx_w C hM.2.1) hM.2.2 hfit, hnm, cx_w C hin⟩ (fm_PreS hW (fm_Bat hB hS)) rfl hn hl.1 hstk (lv_room hrest) hdg hu
theorem g_callSN {i n : Nat} {host : String} {My : MI} {Qy : Rs → Mm → Prop} (av rest : List Value) (hC : Cn g My av m Qy) (hM : fm_M My n) (hlk : Cond.methodLinkNest (mY M).cls i (mY My) host ∈ wN) (hst : Cond.static (mY My) ∈ wA) (hn : av.length = n) (hfit : fm_fit M My) (hrest : (rest.map fun v => v.category).sum ≤ 8)
    (hu : u.1 + (mR My).cells ≤ (mR M).cells ∧ u.2 + (mR My).slots ≤ (mR M).slots) (hdg : decode (mC M) pc = .ok (.invokestatic i, 3)) (hstk : st = av.reverse ++ rest)
    (k : ∀ (v : Option Value) (m1 : Mm), Qy (.inl v) m1 → G g M Q (pc + 3) L (v.toList ++ rest) (u.1 + (mR My).cells, u.2 + (mR My).slots) m1) (kx : ∀ (E : String) (m1 : Mm), Qy (.inr E) m1 → Q (.inr E) m1) : G g M Q pc L st u m := by
  refine g_run hu (av := av) (fun p l e s mm args below meth c H locs ls C hW hB hS hl => ?_) k kx
  exact vx_runSN (As := av) ⟨C.1, C.2.1, C.2.2.2.1, C.2.2.2.2.1, C.2.2.2.2.2.1⟩ (hC l C.2.2.2.2.2.2.2.2.2) ⟨va_cnB n C.2.2.2.2.2.1 (fm_goodIn hM.1) rfl rfl rfl (hB.2.2.2.2.2.2.2.2.2.2 _ hlk) (cx_w C hM.2.1) hM.2.2 hfit, cx_w C hst, trivial⟩ (fm_PreS hW (fm_Bat hB hS)) rfl hn hl.1 hstk (lv_room hrest) hdg hu
theorem g_objInit {i a : Nat} (hlk : Cond.methodLink (mY M).cls i objectInit ∈ wA) (hin : Cond.instanceMethod objectInit ∈ wA) (hco : Cond.code objectInit ⟨#[0xb1]⟩ 1 none ∈ wA) (hfr : 1 ≤ (mR M).frames) (hlo : (st.map fun v => v.category).sum + 12 ≤ (mR M).locals) (hdg : decode (mC M) pc = .ok (.invokespecial i, 3)) (k : G g M Q (pc + 3) L st u m) : G g M Q pc L (.ref a :: st) u m :=
  fun p l e s mm args below meth c H locs ls C hW hB hS hl => W.objInit C.1 C.2.1 C.2.2.2.2.1 (cx_w C hlk) (cx_w C hin) (cx_w C hco) rfl (hl.1.trans C.2.2.2.1.symm) rfl hdg hfr (by show 2 * 0 + _ + 12 ≤ _; omega) (k p l e s mm args below meth c H locs ls C hW hB hS hl)
theorem g_new {i c : Nat} {r : vw_C} (hr : vwCl[c]? = some r) (hcl : Cond.classLink (mY M).cls i r.1 ∈ wA) (hin : Cond.instantiable r.1 r.2.2 ∈ wA) (hini : Cond.initialized r.1 ∈ wA) (hdf : ∀ j, j < r.2.2 → defaultValue (fm_ty c j) = fm_fv (fm_ty c j) (fun _ => 0) (fun _ => none) (fun _ => 0) j) (hu : u.1 + 1 ≤ (mR M).cells ∧ u.2 + r.2.2 ≤ (mR M).slots) (hdg : decode (mC M) pc = .ok (.new i, 3))
    (k : G g M Q (pc + 3) L (.ref (fz m) :: st) (u.1 + 1, u.2 + r.2.2) (nw m (c, 0))) : G g M Q pc L st u m := by
  intro p l e s mm args below meth c0 H locs ls C hW hB hS hl
  obtain ⟨hws, hty, hnm, hc⟩ := fm_C hr
  have hts : ∀ w ∈ wA, w.before args s = true := fun w h => cx_w C h
  obtain ⟨cC, iS, hKn⟩ := u_known hts hws (cx_w C hin)
  refine W.newcK C.1 C.2.1 C.2.2.2.2.1 (cx_w C hcl) (cx_w C hin) (cx_w C hini) rfl hdg hu.1 hu.2 hKn.2.1 rfl fun H1 kC hkC e1 z1 o1 => ?_
  have hB1 := u_born (fm_ty c) hts hws hKn hkC e1 hty
  obtain ⟨cell, b1, b2, b3, b4⟩ := hB1
  have K := k p l e s mm args below meth c0 H1 locs ls C (hW.new z1 o1 (fm_noO hc ⟨r, cC, iS, cell, hr, hKn, b1, b2, b3, fun j hj => (b4 j hj).trans (congrArg some (hdf j hj))⟩)) hB ⟨Nat.le_trans hS.1 (by omega), fun x h1 h2 => (o1 x (Nat.lt_of_lt_of_le h1 hS.1)).trans (hS.2.1 x h1 h2), hS.2.2⟩ hl
  rw [hW.2.1] at K
  exact K
theorem g_newI {n : Int32} (N : Nat) (hn : n.toInt = (N : Int)) (hb : N * 4 ≤ 536870912) (hu : u.1 + 1 ≤ (mR M).cells ∧ u.2 + N ≤ (mR M).slots) (hdg : decode (mC M) pc = .ok (.newarray .int, 2)) (hA : Cond.arrayClass .int ∈ wA)
    (k : G g M Q (pc + 2) L (.ref (fz m) :: st) (u.1 + 1, u.2 + N) (nw m (11, N))) : G g M Q pc L (.int n :: st) u m := by
  intro p l e s mm args below meth c0 H locs ls C hW hB hS hl
  obtain ⟨h1, h2⟩ := ix_in hn (Nat.lt_succ_self N)
  refine va_newaK (atype := .int) C.1 C.2.1 (cx_w C hA) rfl hdg rfl (fun z => h1 (Or.inl z)) h2 hb hu.1 hu.2 rfl fun H1 cA e1 z1 o1 hAr _ => ?_
  have K := k p l e s mm args below meth c0 H1 locs ls C (hW.new z1 o1 (fm_k11 ⟨cA, e1, hAr⟩)) hB ⟨Nat.le_trans hS.1 (by omega), fun x h1 h2 => (o1 x (Nat.lt_of_lt_of_le h1 hS.1)).trans (hS.2.1 x h1 h2), hS.2.2⟩ hl
  rw [hW.2.1] at K
  exact K
theorem g_newJ {n : Int32} (N : Nat) (hn : n.toInt = (N : Int)) (hb : N * 8 ≤ 536870912) (hu : u.1 + 1 ≤ (mR M).cells ∧ u.2 + N ≤ (mR M).slots) (hdg : decode (mC M) pc = .ok (.newarray .long, 2)) (hA : Cond.arrayClass .long ∈ wA)
    (k : G g M Q (pc + 2) L (.ref (fz m) :: st) (u.1 + 1, u.2 + N) (nw m (18, N))) : G g M Q pc L (.int n :: st) u m := by
  intro p l e s mm args below meth c0 H locs ls C hW hB hS hl
  obtain ⟨h1, h2⟩ := ix_in hn (Nat.lt_succ_self N)
  refine va_newaK (atype := .long) C.1 C.2.1 (cx_w C hA) rfl hdg rfl (fun z => h1 (Or.inl z)) h2 hb hu.1 hu.2 rfl fun H1 cA e1 z1 o1 hAr _ => ?_
  have K := k p l e s mm args below meth c0 H1 locs ls C (hW.new z1 o1 (fm_k18 ⟨cA, e1, hAr⟩)) hB ⟨Nat.le_trans hS.1 (by omega), fun x h1 h2 => (o1 x (Nat.lt_of_lt_of_le h1 hS.1)).trans (hS.2.1 x h1 h2), hS.2.2⟩ hl
  rw [hW.2.1] at K
  exact K
theorem g_newQ {i : Nat} {n : Int32} (κ N : Nat) (hκ : 11 < κ ∧ κ < 18) (hn : n.toInt = (N : Int)) (hb : N * 4 ≤ 536870912) (hu : u.1 + 1 ≤ (mR M).cells ∧ u.2 + N ≤ (mR M).slots) (hdg : decode (mC M) pc = .ok (.anewarray i, 3)) (hcl : Cond.classLink (mY M).cls i (fm_el κ) ∈ wA) (hA : Cond.arrayOver (.object (fm_el κ)) ∈ wN)
    (k : G g M Q (pc + 3) L (.ref (fz m) :: st) (u.1 + 1, u.2 + N) (nw m (κ, N))) : G g M Q pc L (.int n :: st) u m := by
  intro p l e s mm args below meth c0 H locs ls C hW hB hS hl
  obtain ⟨h1, h2⟩ := ix_in hn (Nat.lt_succ_self N)
  subst h2
  refine W.anew C.1 C.2.1 C.2.2.2.2.1 (cx_w C hcl) (va_AO.use (hB.2.2.2.2.2.2.2.2.2.2 _ hA)) rfl hdg rfl (fun z => h1 (Or.inl z)) hb hu.1 hu.2 fun cA kA comp f1 f2 f3 f4 => ?_
  generalize hH1 : H.push ({ cls := cA, slots := Array.replicate n.toNatClampNeg .null, vm := .none } : Cell) = H1
  have z1 : H1.size = H.size + 1 := by rw [← hH1, Array.size_push]
  have e1 : H1[H.size]? = some (arrV cA n.toNatClampNeg (fun _ => .null)) := by rw [← hH1, Array.getElem?_push_size, ← arrV_new]
  have o1 : ∀ q : Nat, q < H.size → H1[q]? = H[q]? := fun q hq => by rw [← hH1, Array.getElem?_push, if_neg (Nat.ne_of_lt hq)]
  have hAr : ArrOfT s cA (.object (fm_el κ)) := fun N z => ⟨(fun k h => by cases h), kA, f2, comp, f3⟩
  have K := k p l e s mm args below meth c0 H1 locs ls C (hW.new z1 o1 ⟨fun z => absurd z (by omega), fun z => absurd z (by omega), fun z => absurd z (by omega), fun _ => ⟨cA, e1, hAr, kA, comp, f2, f3, f4, f1⟩, fun z => absurd z (by omega)⟩) hB ⟨Nat.le_trans hS.1 (by omega), fun x h1 h2 => (o1 x (Nat.lt_of_lt_of_le h1 hS.1)).trans (hS.2.1 x h1 h2), hS.2.2⟩ hl
  rw [hW.2.1] at K
  exact K
/-- the three rows of constants -/
theorem g_gets0 {i : Nat} {host : String} (hlk : Cond.fieldLinkNest (mY M).cls i "MemoryDesk" "FIRST_PERCENTS" "[I" host ∈ wN) (hdg : decode (mC M) pc = .ok (.getstatic i, 3)) (k : G g M Q (pc + 3) L (.ref g.2.1 :: st) u m) : G g M Q pc L st u m :=
  fun p l e s mm args below meth c H locs ls C hW hB hS hl => va_getsN C.1 C.2.1 hB.2.2.2.2.2.2.2.1 hS C.2.2.2.2.1 (va_Nw.use rfl (hB.2.2.2.2.2.2.2.2.2.2 _ hlk)) (fun _ h => h) hdg (k p l e s mm args below meth c H locs ls C hW hB hS hl)
theorem g_gets1 {i : Nat} (hlk : Cond.fieldLink (mY M).cls i "MemoryDesk" "HIGHEST_SETTINGS" "[I" ∈ wA) (hdg : decode (mC M) pc = .ok (.getstatic i, 3)) (k : G g M Q (pc + 3) L (.ref g.2.2.1 :: st) u m) : G g M Q pc L st u m :=
  fun p l e s mm args below meth c H locs ls C hW hB hS hl => va_gets C.1 C.2.1 hB.2.2.2.2.2.2.2.2.1 hS C.2.2.2.2.1 (cx_w C hlk) (fun _ h => h) hdg (k p l e s mm args below meth c H locs ls C hW hB hS hl)
theorem g_gets2 {i : Nat} {host : String} (hlk : Cond.fieldLinkNest (mY M).cls i "MemoryDesk" "LOWEST_MATCHES" "[I" host ∈ wN) (hdg : decode (mC M) pc = .ok (.getstatic i, 3)) (k : G g M Q (pc + 3) L (.ref g.2.2.2 :: st) u m) : G g M Q pc L st u m :=
  fun p l e s mm args below meth c H locs ls C hW hB hS hl => va_getsN C.1 C.2.1 hB.2.2.2.2.2.2.2.2.2.1 hS C.2.2.2.2.1 (va_Nw.use rfl (hB.2.2.2.2.2.2.2.2.2.2 _ hlk)) (fun _ h => h) hdg (k p l e s mm args below meth c H locs ls C hW hB hS hl)
end GCALL
