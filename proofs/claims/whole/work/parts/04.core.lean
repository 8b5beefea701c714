/-! FLAT MEMORY: all our cells as functions of (address, place); the judgement G: a frame of a method over a flat memory. -/
def wA : List Cond := lw_tbl.filter goodWord
theorem wA_in {w : Cond} (h : w ∈ lw_tbl) (g : goodWord w = true) : w ∈ wA := List.mem_filter.mpr ⟨h, g⟩
theorem wA_i (i : Nat) {w : Cond} (h : lw_tbl[i]? = some w) (g : goodWord w = true) : w ∈ wA := wA_in (List.mem_of_getElem? h) g
theorem wA_good {w : Cond} (h : w ∈ wA) : goodWord w = true := (List.mem_filter.mp h).2
/-- size of the heap; kind and length by address; ints, references, longs by address and place -/
abbrev Mm : Type := Nat × (Nat → Nat × Nat) × (Nat → Nat → Int32) × (Nat → Nat → Option Nat) × (Nat → Nat → Int64)
def fz (m : Mm) : Nat := m.1
def tg (m : Mm) : Nat → Nat × Nat := m.2.1
def im (m : Mm) : Nat → Nat → Int32 := m.2.2.1
def rf (m : Mm) : Nat → Nat → Option Nat := m.2.2.2.1
def jm (m : Mm) : Nat → Nat → Int64 := m.2.2.2.2
def u2 {α : Type} (f : Nat → Nat → α) (a k : Nat) (v : α) : Nat → Nat → α := fun x y => if x = a ∧ y = k then v else f x y
def sI (m : Mm) (a k : Nat) (v : Int32) : Mm := (fz m, tg m, u2 (im m) a k v, rf m, jm m)
def sR (m : Mm) (a k : Nat) (v : Option Nat) : Mm := (fz m, tg m, im m, u2 (rf m) a k v, jm m)
def sJ (m : Mm) (a k : Nat) (v : Int64) : Mm := (fz m, tg m, im m, rf m, u2 (jm m) a k v)
def u1 {α : Type} (f : Nat → α) (a : Nat) (v : α) : Nat → α := fun x => if x = a then v else f x
/-- a new cell of a kind and length, at the heap's end -/
def nw (m : Mm) (t : Nat × Nat) : Mm := (fz m + 1, u1 (tg m) (fz m) t, u1 (im m) (fz m) (fun _ => 0), u1 (rf m) (fz m) (fun _ => none), u1 (jm m) (fz m) (fun _ => 0))
/-- the heap grew (a thrown object) -/
def gr (m : Mm) (n : Nat) : Mm := (n, tg m, im m, rf m, jm m)
theorem fz_sI (m : Mm) (a k : Nat) (v : Int32) : fz (sI m a k v) = fz m := rfl
theorem tg_sI (m : Mm) (a k : Nat) (v : Int32) : tg (sI m a k v) = tg m := rfl
theorem im_sI (m : Mm) (a k : Nat) (v : Int32) : im (sI m a k v) = u2 (im m) a k v := rfl
theorem rf_sI (m : Mm) (a k : Nat) (v : Int32) : rf (sI m a k v) = rf m := rfl
theorem jm_sI (m : Mm) (a k : Nat) (v : Int32) : jm (sI m a k v) = jm m := rfl
theorem fz_sR (m : Mm) (a k : Nat) (v : Option Nat) : fz (sR m a k v) = fz m := rfl
theorem tg_sR (m : Mm) (a k : Nat) (v : Option Nat) : tg (sR m a k v) = tg m := rfl
theorem im_sR (m : Mm) (a k : Nat) (v : Option Nat) : im (sR m a k v) = im m := rfl
theorem rf_sR (m : Mm) (a k : Nat) (v : Option Nat) : rf (sR m a k v) = u2 (rf m) a k v := rfl
theorem jm_sR (m : Mm) (a k : Nat) (v : Option Nat) : jm (sR m a k v) = jm m := rfl
theorem fz_sJ (m : Mm) (a k : Nat) (v : Int64) : fz (sJ m a k v) = fz m := rfl
theorem tg_sJ (m : Mm) (a k : Nat) (v : Int64) : tg (sJ m a k v) = tg m := rfl
theorem im_sJ (m : Mm) (a k : Nat) (v : Int64) : im (sJ m a k v) = im m := rfl
theorem rf_sJ (m : Mm) (a k : Nat) (v : Int64) : rf (sJ m a k v) = rf m := rfl
theorem jm_sJ (m : Mm) (a k : Nat) (v : Int64) : jm (sJ m a k v) = u2 (jm m) a k v := rfl
theorem u2_s {α : Type} (f : Nat → Nat → α) (a k : Nat) (v : α) : u2 f a k v a k = v := by simp [u2]
theorem u2_n {α : Type} (f : Nat → Nat → α) (a k : Nat) (v : α) {x y : Nat} (h : ¬ (x = a ∧ y = k)) : u2 f a k v x y = f x y := by simp only [u2, if_neg h]
theorem u2_o {α : Type} (f : Nat → Nat → α) (a k : Nat) (v : α) {x : Nat} (h : x ≠ a) : u2 f a k v x = f x := by funext y; simp [u2, h]
theorem u1_s {α : Type} (f : Nat → α) (a : Nat) (v : α) : u1 f a v a = v := by simp [u1]
theorem u1_n {α : Type} (f : Nat → α) (a : Nat) (v : α) {x : Nat} (h : x ≠ a) : u1 f a v x = f x := by simp [u1, h]
/-- the types of the fields, by kind -/
def fm_ty (c : Nat) : Nat → FieldType := match c with
  | 0 => tyX0 | 1 => tyX1 | 2 => tyX2 | 3 => tyX3 | 4 => tyX4 | 5 => tyX5 | 6 => tyX6 | 7 => tyX7 | 8 => tyX8 | 9 => tyX9 | _ => tyX10
/-- the element class of a kind of reference arrays -/
def fm_el (c : Nat) : String := match c with
  | 12 => RX0 | 13 => RX4 | 14 => RX5 | 15 => RX6 | 16 => RX7 | _ => RX8
def fm_fv (ty : FieldType) (I : Nat → Int32) (R : Nat → Option Nat) (J : Nat → Int64) (k : Nat) : Value := match ty with
  | .int => .int (I k)
  | .long => .long (J k)
  | _ => va_rf (R k)
def fm_cell (s : State) (k : Nat × Nat) (I : Nat → Int32) (R : Nat → Option Nat) (J : Nat → Int64) (oc : Option Cell) : Prop :=
  (k.1 < 11 → ∃ (r : vw_C) (cC : ClassId) (iS : Nat → Nat) (cell : Cell), vwCl[k.1]? = some r ∧ u_Kn s r.1 r.2.1 r.2.2 cC iS ∧ oc = some cell ∧ cell.cls = cC ∧ cell.vm = .none ∧ ∀ j, j < r.2.2 → cell.slots[iS j]? = some (fm_fv (fm_ty k.1 j) I R J j)) ∧
  (k.1 = 11 → ∃ cA : ClassId, oc = some (arrV cA k.2 (fun j => .int (I j))) ∧ ArrOfT s cA .int) ∧
  (k.1 = 18 → ∃ cA : ClassId, oc = some (arrV cA k.2 (fun j => .long (J j))) ∧ ArrOfT s cA .long) ∧
  (11 < k.1 ∧ k.1 < 18 → ∃ cA : ClassId, oc = some (arrV cA k.2 (fun j => va_rf (R j))) ∧ ArrOfT s cA (.object (fm_el k.1)) ∧ va_RA s cA (.object (fm_el k.1))) ∧
  (k.1 = 19 → ∃ scr : Cell, oc = some scr ∧ s.isArrayOf scr .int ∧ scr.vm ≠ .unknown ∧ k.2 ≤ scr.slots.size ∧ scr.slots.size.toInt32 = Int32.ofNat k.2 ∧ ∀ j : Nat, j < k.2 → scr.slots[j]? = some (.int (I j)))

theorem fm_cell.moved {s t : State} (hvm : s.vm.Alike t.vm) {k : Nat × Nat} {I : Nat → Int32} {R : Nat → Option Nat} {J : Nat → Int64} {oc : Option Cell} (h : fm_cell s k I R J oc) : fm_cell t k I R J oc := by
  obtain ⟨h1, h2, h3, h4, h5⟩ := h
  refine ⟨fun q => ?_, fun q => ?_, fun q => ?_, fun q => ?_, fun q => ?_⟩
  · obtain ⟨r, cC, iS, cell, e1, e2, e3⟩ := h1 q
    exact ⟨r, cC, iS, cell, e1, u_Kn_moved hvm e2, e3⟩
  · obtain ⟨cA, e1, e2⟩ := h2 q
    exact ⟨cA, e1, arrOfT_moved hvm e2⟩
  · obtain ⟨cA, e1, e2⟩ := h3 q
    exact ⟨cA, e1, arrOfT_moved hvm e2⟩
  · obtain ⟨cA, e1, e2, e3⟩ := h4 q
    exact ⟨cA, e1, arrOfT_moved hvm e2, e3.moved hvm⟩
  · obtain ⟨scr, e1, e2, e3⟩ := h5 q
    exact ⟨scr, e1, State.isArrayOf_alike hvm e2, e3⟩
theorem fm_cell.lt {s : State} {k : Nat × Nat} {I : Nat → Int32} {R : Nat → Option Nat} {J : Nat → Int64} {H : Heap} {a : Nat} (h : fm_cell s k I R J H[a]?) (hk : k.1 < 20) : a < H.size := by
  obtain ⟨h1, h2, h3, h4, h5⟩ := h
  have key : ∃ c : Cell, H[a]? = some c := by
    by_cases q1 : k.1 < 11
    · obtain ⟨r, cC, iS, cell, e1, e2, e3, -⟩ := h1 q1
      exact ⟨_, e3⟩
    · by_cases q2 : k.1 = 11
      · obtain ⟨cA, e1, -⟩ := h2 q2
        exact ⟨_, e1⟩
      · by_cases q3 : k.1 = 18
        · obtain ⟨cA, e1, -⟩ := h3 q3
          exact ⟨_, e1⟩
        · by_cases q4 : k.1 = 19
          · obtain ⟨scr, e1, -⟩ := h5 q4
            exact ⟨_, e1⟩
          · obtain ⟨cA, e1, -⟩ := h4 (by omega)
            exact ⟨_, e1⟩
  obtain ⟨c, hc⟩ := key
  exact (Array.getElem?_eq_some_iff.mp hc).1
/-- the words that keep by themselves under warming -/
def nWord : Cond → Bool
  | .fieldLinkNest .. => true
  | .methodLinkNest .. => true
  | .castable .. => true
  | .declares _ => true
  | .arrayOver (.object _) => true
  | _ => false
def wN : List Cond := lw_tbl.filter nWord
theorem wN_i (i : Nat) {w : Cond} (h : lw_tbl[i]? = some w) (g : nWord w = true) : w ∈ wN := List.mem_filter.mpr ⟨List.mem_of_getElem? h, g⟩
theorem nWord_warm {w : Cond} (hg : nWord w = true) {s U : State} (hW : s.WarmedH U.vm) (h : va_Nw w s) : va_Nw w U := by
  cases w <;> first | exact va_Nw.warmF hW h | exact va_Nw.warmM hW h | exact va_Nw.warmC hW h | exact va_Nw.warmD hW h | (rename_i ty; cases ty <;> first | exact va_AO.moved hW.alike h | (simp [nWord] at hg)) | (simp [nWord] at hg)
theorem nWord_same {w : Cond} (hg : nWord w = true) {s U : State} (e : s.vm = U.vm) (h : va_Nw w s) : va_Nw w U := by
  cases w <;> first | exact va_tabs rfl e h | (rename_i ty; cases ty <;> first | exact va_AO.moved (by rw [e]; exact Vm.Alike.refl U.vm) h | (simp [nWord] at hg)) | (simp [nWord] at hg)
/-- the first address of ours, and where the three rows of constants lie -/
abbrev Gp : Type := Nat × Nat × Nat × Nat
abbrev fm_A (g : Gp) : Nat → Prop := fun q : Nat => g.1 ≤ q
/-- what nobody writes: the throws' statics, the texts, where the three rows of constants lie -/
def fm_B (g : Gp) (s : State) (H : Heap) : Prop :=
  (0 < g.1 ∧ va_Nc "java/lang/IllegalArgumentException" "java/lang/IndexOutOfBoundsException" s ∧ va_Nc "java/lang/IllegalStateException" "java/lang/IndexOutOfBoundsException" s ∧ va_Nc "java/lang/IllegalStateException" "java/lang/IllegalArgumentException" s) ∧ vx_Zq Bundle.tN "UNASSIGNED_STACK" Bundle.steD (fm_A g) s H ∧ vx_Zq Bundle.tN "SUPPRESSED_SENTINEL" Bundle.listD (fm_A g) s H ∧
  (∃ sa, vk_R RX9 362 "there is nothing with this number" sa s) ∧ (∃ sa, vk_R RX9 369 "the value is out of range" sa s) ∧ (∃ sa, vk_R RX9 372 "the argument or the buffer does not fit" sa s) ∧ (∃ sa, vk_R RX9 376 "the state does not allow this call" sa s) ∧
  va_Z "MemoryDesk" "FIRST_PERCENTS" "[I" (.ref g.2.1) (fm_A g) s H ∧ va_Z "MemoryDesk" "HIGHEST_SETTINGS" "[I" (.ref g.2.2.1) (fm_A g) s H ∧ va_Z "MemoryDesk" "LOWEST_MATCHES" "[I" (.ref g.2.2.2) (fm_A g) s H ∧
  ∀ w ∈ wN, va_Nw w s
theorem fm_B.warm {g : Gp} {s U : State} {H : Heap} (hW : s.WarmedH U.vm) (h : fm_B g s H) : fm_B g U H := by
  obtain ⟨⟨h0, n1, n2, n3⟩, h1, h2, ⟨a3, h3⟩, ⟨a4, h4⟩, ⟨a5, h5⟩, ⟨a6, h6⟩, h7, h8, h9, h10⟩ := h
  exact ⟨⟨h0, n1.moved hW.alike, n2.moved hW.alike, n3.moved hW.alike⟩, h1.moved hW.alike, h2.moved hW.alike, ⟨a3, h3.warm hW⟩, ⟨a4, h4.warm hW⟩, ⟨a5, h5.warm hW⟩, ⟨a6, h6.warm hW⟩, h7.moved hW.alike, h8.moved hW.alike, h9.moved hW.alike, fun w hw => nWord_warm (List.mem_filter.mp hw).2 hW (h10 w hw)⟩
theorem fm_B.kept {g : Gp} {s : State} {H H1 : Heap} (h : fm_B g s H) (hq : ∀ a : Nat, a < H.size → ¬ fm_A g a → H1[a]? = H[a]?) : fm_B g s H1 := by
  obtain ⟨h0, h1, h2, h3, h4, h5, h6, h7, h8, h9, h10⟩ := h
  exact ⟨h0, h1.kept hq, h2.kept hq, h3, h4, h5, h6, h7.kept hq, h8.kept hq, h9.kept hq, h10⟩
theorem fm_B.calling {g : Gp} {U : State} {H : Heap} {f : JFrame} {mk : MethodId} {a : Array Value} (h : fm_B g U H) : fm_B g (U.calling f mk a) H := by
  obtain ⟨⟨h0, n1, n2, n3⟩, h1, h2, ⟨a3, h3⟩, ⟨a4, h4⟩, ⟨a5, h5⟩, ⟨a6, h6⟩, h7, h8, h9, h10⟩ := h
  have e : U.vm.Alike (U.calling f mk a).vm := Vm.Alike.refl U.vm
  have e2 : (U.calling f mk a).vm = U.vm := rfl
  exact ⟨⟨h0, n1.moved e, n2.moved e, n3.moved e⟩, h1.moved e, h2.moved e, ⟨a3, h3.same e2⟩, ⟨a4, h4.same e2⟩, ⟨a5, h5.same e2⟩, ⟨a6, h6.same e2⟩, h7.moved e, h8.moved e, h9.moved e, fun w hw => nWord_same (List.mem_filter.mp hw).2 e2.symm (h10 w hw)⟩
/-- the flat memory m is the heap's -/
def fm_Wd (g : Gp) (s : State) (H : Heap) (m : Mm) : Prop :=
  g.1 ≤ H.size ∧ fz m = H.size ∧ (∀ a, (tg m a).1 < 19 → g.1 ≤ a) ∧ ∀ a, fm_cell s (tg m a) (im m a) (rf m a) (jm m a) H[a]?
theorem fm_Wd.moved {g : Gp} {s t : State} (hvm : s.vm.Alike t.vm) {H : Heap} {m : Mm} (h : fm_Wd g s H m) : fm_Wd g t H m := ⟨h.1, h.2.1, h.2.2.1, fun a => (h.2.2.2 a).moved hvm⟩
theorem fm_Wd.lt {g : Gp} {s : State} {H : Heap} {m : Mm} (h : fm_Wd g s H m) {a : Nat} (ha : (tg m a).1 < 20) : a < H.size := (h.2.2.2 a).lt ha
theorem fm_Wd.set {g : Gp} {s : State} {H H1 : Heap} {m m1 : Mm} (h : fm_Wd g s H m) {a : Nat} (hz : H1.size = H.size) (ho : ∀ q, q ≠ a → H1[q]? = H[q]?) (ez : fz m1 = fz m) (et : tg m1 = tg m) (ei : ∀ q, q ≠ a → im m1 q = im m q) (er : ∀ q, q ≠ a → rf m1 q = rf m q) (ej : ∀ q, q ≠ a → jm m1 q = jm m q) (hc : fm_cell s (tg m a) (im m1 a) (rf m1 a) (jm m1 a) H1[a]?) : fm_Wd g s H1 m1 := by
  obtain ⟨h1, h2, h3, h4⟩ := h
  refine ⟨by omega, by rw [ez, hz, h2], fun q hq => h3 q (by rw [← et]; exact hq), fun q => ?_⟩
  by_cases hqa : q = a
  · subst hqa
    rw [et]; exact hc
  · rw [et, ei q hqa, er q hqa, ej q hqa, ho q hqa]; exact h4 q
theorem fm_Wd.grow {g : Gp} {s : State} {H H1 : Heap} {m : Mm} (h : fm_Wd g s H m) (hz : H.size ≤ H1.size) (ho : ∀ q, q < H.size → H1[q]? = H[q]?) : fm_Wd g s H1 (gr m H1.size) := by
  refine ⟨Nat.le_trans h.1 hz, rfl, h.2.2.1, fun q => ?_⟩
  show fm_cell s (tg m q) (im m q) (rf m q) (jm m q) H1[q]?
  by_cases hq : (tg m q).1 < 20
  · rw [ho q (h.lt hq)]; exact h.2.2.2 q
  · exact ⟨fun z => absurd z (by omega), fun z => absurd z (by omega), fun z => absurd z (by omega), fun z => absurd z (by omega), fun z => absurd z (by omega)⟩
theorem fm_Wd.new {g : Gp} {s : State} {H H1 : Heap} {m : Mm} (h : fm_Wd g s H m) {t : Nat × Nat} (hz : H1.size = H.size + 1) (ho : ∀ q, q < H.size → H1[q]? = H[q]?) (hc : fm_cell s t (fun _ => 0) (fun _ => none) (fun _ => 0) H1[H.size]?) : fm_Wd g s H1 (nw m t) := by
  have e := h.2.1
  refine ⟨by have := h.1; omega, by show fz m + 1 = _; omega, fun q hq => ?_, fun q => ?_⟩
  · by_cases hqa : q = fz m
    · have := h.1; omega
    · exact h.2.2.1 q (by rw [show tg (nw m t) q = tg m q from u1_n _ _ _ hqa] at hq; exact hq)
  · by_cases hqa : q = fz m
    · subst hqa
      show fm_cell s (u1 (tg m) (fz m) t (fz m)) (u1 (im m) (fz m) (fun _ => 0) (fz m)) (u1 (rf m) (fz m) (fun _ => none) (fz m)) (u1 (jm m) (fz m) (fun _ => 0) (fz m)) _
      rw [u1_s, u1_s, u1_s, u1_s, e]; exact hc
    · show fm_cell s (u1 (tg m) (fz m) t q) (u1 (im m) (fz m) (fun _ => 0) q) (u1 (rf m) (fz m) (fun _ => none) q) (u1 (jm m) (fz m) (fun _ => 0) q) _
      rw [u1_n _ _ _ hqa, u1_n _ _ _ hqa, u1_n _ _ _ hqa, u1_n _ _ _ hqa]
      by_cases hq : (tg m q).1 < 20
      · rw [ho q (h.lt hq)]; exact h.2.2.2 q
      · exact ⟨fun z => absurd z (by omega), fun z => absurd z (by omega), fun z => absurd z (by omega), fun z => absurd z (by omega), fun z => absurd z (by omega)⟩
/-! ===== methods: name, code, locals, what it returns, room ===== -/
abbrev MI : Type := MethodName × ByteArray × Nat × Option FieldType × Room
abbrev mY (M : MI) : MethodName := M.1
abbrev mC (M : MI) : ByteArray := M.2.1
abbrev mL (M : MI) : Nat := M.2.2.1
abbrev mT (M : MI) : Option FieldType := M.2.2.2.1
abbrev mR (M : MI) : Room := M.2.2.2.2
def mW (M : MI) : List Cond := .code (mY M) (mC M) (mL M) (mT M) :: wA
/-- how a method ends: with an answer, or with a throw of a class -/
abbrev Rs : Type := Option Value ⊕ String
def fm_Pc (g : Gp) (av : List Value) (m : Mm) : Array Value → State → Prop := fun a U => a = av.toArray ∧ fm_Wd g U U.heap m ∧ fm_B g U U.heap
def fm_Qc (g : Gp) (Q : Rs → Mm → Prop) : Array Value → State → Outcome → State → Prop := fun _ st o t => ∃ (v : Option Value) (m' : Mm), o = .returned v ∧ Q (.inl v) m' ∧ fm_Wd g t t.heap m' ∧ va_F (fm_A g) st t
def fm_Xc (g : Gp) (Q : Rs → Mm → Prop) : String → State → State → Prop := fun E st t => ∃ m' : Mm, Q (.inr E) m' ∧ fm_Wd g t t.heap m' ∧ va_F (fm_A g) st t
/-- a method's contract: from the memory m with these arguments it ends so -/
def Cn (g : Gp) (M : MI) (av : List Value) (m : Mm) (Q : Rs → Mm → Prop) : Prop := ∀ l : Launch, l.stackTraces = false →
  vx_Met l (mY M) (mW M) (mR M) (fm_Pc g av m) (fm_Qc g Q) (fm_Xc g Q) (mR M).cells (mR M).slots (fm_A g)
def Cx (l : Launch) (M : MI) (p : Program) (s : State) (mm : MethodId) (args : Array Value) (meth : Method) (c : Code) : Prop :=
  p.tables.exec = Jvm.exec ∧ c.code = mC M ∧ meth.sig.returnType = mT M ∧ c.maxLocals = mL M ∧ s.vm.findClass (mY M).cls = some mm.cls ∧ (∀ w ∈ mW M, w.before args s = true) ∧ meth.locks = false ∧ (∀ x ∈ c.exceptionTable.toList, False) ∧ meth.name = (mY M).name ∧ l.stackTraces = false
/-- the method M, at pc with these locals, this stack and the memory m, comes to an end with Q; u: the cells and slots that it has made -/
def G (g : Gp) (M : MI) (Q : Rs → Mm → Prop) (pc : Nat) (L : List (Nat × Value)) (st : List Value) (u : Nat × Nat) (m : Mm) : Prop :=
  ∀ (p : Program) (l : Launch) (e : Env) (s : State) (mm : MethodId) (args : Array Value) (below : List Frame) (meth : Method) (c : Code) (H : Heap) (locs : List Loc) (ls : Array Slot),
    Cx l M p s mm args meth c → fm_Wd g s H m → fm_B g s s.heap → va_S (fm_A g) s.heap H locs → lv_has ls (mL M) L →
    W p l e (mR M) s mm args below meth c H locs u.1 u.2 (vx_MQ below (fm_Qc g Q) (fm_Xc g Q) args s (mR M).cells (mR M).slots (fm_A g)) (F0 mm pc ls st)
theorem Cn.of {g : Gp} {M : MI} {av : List Value} {m : Mm} {Q : Rs → Mm → Prop} {L : List (Nat × Value)} (hy : plainName (mY M).cls = true) (hn : (lg_sl av).length ≤ mL M) (hL : lv_args 0 av = L) (h : G g M Q 0 L [] (0, 0) m) : Cn g M av m Q := by
  intro l hl
  refine vx_ofW (cc := mC M) (maxL := mL M) (ret := mT M) (ws' := wA) hy rfl ?_
  intro p e s mm args below meth c s₁ B hml ht hv
  obtain ⟨rfl, hW, hB⟩ := hv
  have hts := atoms_spec (ws := mW M) B.pre
  have hl0 := lv_entry av (n := mL M) hn
  rw [hL] at hl0
  have e0 : entryFrame mm av.toArray (mL M) = F0 mm 0 ((lg_sl av ++ List.replicate (mL M - (lg_sl av).length) Slot.unset).toArray) [] := by rw [lg_entry_eq]
  rw [e0]
  exact h p l e s mm _ below meth c s.heap [] _ ⟨B.exec, B.bytes, B.returns, hml, findClass_of_methodNamed B.named, hts, B.notSynchronized, ht, (name_of_methodNamed B.named B.method).1, hl⟩ hW hB va_S.rf hl0
