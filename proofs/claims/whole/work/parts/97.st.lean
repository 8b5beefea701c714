/-! THE START: the flat memory of the statement's start -/
theorem nWord_of {w : Cond} (hg : nWord w = true) {A : Array Value} {U : State} (h : w.before A U = true) : va_Nw w U := by
  cases w <;> first | exact va_Nw.of rfl h | (rename_i ty; cases ty <;> first | exact va_AO.of h | (simp [nWord] at hg)) | (simp [nWord] at hg)
/-- what the cell a holds at the place k, as an int -/
def st_I (H : Heap) (a k : Nat) : Int32 := match (H[a]?).bind (fun c => c.slots[k]?) with
  | some (.int v) => v
  | _ => 0
theorem st_I_of {H : Heap} {a k : Nat} {c : Cell} {v : Int32} (h1 : H[a]? = some c) (h2 : c.slots[k]? = some (.int v)) : st_I H a k = v := by
  unfold st_I
  rw [h1]
  show (match c.slots[k]? with | some (.int v) => v | _ => 0) = v
  rw [h2]
/-- kinds and lengths at the start: the script at b, the three rows of constants -/
def st_T (b L a1 a2 a3 : Nat) (a : Nat) : Nat × Nat := if a = b then (19, L) else if a = a1 then (19, 5) else if a = a2 then (19, 2) else if a = a3 then (19, 4) else (20, 0)
def st_m (H : Heap) (b L a1 a2 a3 : Nat) : Mm := (H.size, st_T b L a1 a2 a3, st_I H, fun _ _ => none, fun _ _ => 0)
/-- a row at a, of N ints at the least, its length N as the machine counts it -/
def st_R (s : State) (a N : Nat) (f : Nat → Int32) : Prop := ∃ cell : Cell, s.heap[a]? = some cell ∧ s.isArrayOf cell .int ∧ cell.vm ≠ .unknown ∧ N ≤ cell.slots.size ∧ cell.slots.size.toInt32 = Int32.ofNat N ∧ ∀ j : Nat, j < N → cell.slots[j]? = some (.int (f j))
theorem st_R.len {s : State} {a N N' : Nat} {f f' : Nat → Int32} (h : st_R s a N f) (h' : st_R s a N' f') (hN : N < 2147483648) (hN' : N' < 2147483648) : N = N' := by
  obtain ⟨c, h1, -, -, -, h2, -⟩ := h
  obtain ⟨c', h1', -, -, -, h2', -⟩ := h'
  cases h1.symm.trans h1'
  exact (nI_eq' hN hN').mp (h2.symm.trans h2')
theorem st_R.lt {s : State} {a N : Nat} {f : Nat → Int32} (h : st_R s a N f) : a < s.heap.size := by
  obtain ⟨c, h1, -⟩ := h
  exact (Array.getElem?_eq_some_iff.mp h1).1
theorem st_R.im {s : State} {a N : Nat} {f : Nat → Int32} (h : st_R s a N f) {j : Nat} (hj : j < N) : st_I s.heap a j = f j := by
  obtain ⟨c, h1, -, -, -, -, h2⟩ := h
  exact st_I_of h1 (h2 j hj)
theorem st_R.cell {s : State} {a N : Nat} {f : Nat → Int32} (h : st_R s a N f) {R : Nat → Option Nat} {J : Nat → Int64} : fm_cell s (19, N) (st_I s.heap a) R J s.heap[a]? := by
  refine ⟨fun z => absurd z (by omega), fun z => absurd z (by omega), fun z => absurd z (by omega), fun z => absurd z (by omega), fun _ => ?_⟩
  have hh := h
  obtain ⟨c, h1, h2, h3, h4, h5, h6⟩ := h
  exact ⟨c, h1, h2, h3, h4, h5, fun j hj => by rw [hh.im hj]; exact h6 j hj⟩
theorem st_Rof {args : Array Value} {s : State} {C n : String} {N : Nat} {f : Nat → Int32} (hN : N < 2 ^ 31) (harr : (Cond.arrayOf (.static C n "[I") .int).before args s = true) (hlen : (Cond.eq (.length (.static C n "[I")) (.int (Int32.ofNat N))).before args s = true) (hel : ∀ j : Nat, j < N → (Cond.eq (.elem (.static C n "[I") (.int (Int32.ofNat j))) (.int (f j))).before args s = true) : ∃ t : Nat, (Term.static C n "[I").eval args s none [] s = some (.ref t) ∧ st_R s t N f := by
  obtain ⟨t, ht, cell, h1, h2, h3, h4, h5, h6, -⟩ := va_Tof (f := fun j => .int (f j)) (A := fun q : Nat => s.heap.size ≤ q) hN harr (va_eqt hlen) (fun j hj => va_eqt (hel j hj)) (fun a ha => Nat.not_le.mpr ha)
  exact ⟨t, ht, cell, h1, h2, h3, h4, h5, h6⟩
def st_f1 : Nat → Int32 := fun j => match j with
  | 0 => 10 | 1 => 30 | 2 => 60 | 3 => 80 | _ => 100
def st_f2 : Nat → Int32 := fun j => match j with
  | 0 => 100 | _ => 200
def st_f3 : Nat → Int32 := fun j => match j with
  | 0 => 100 | 1 => 85 | 2 => 70 | _ => 50
theorem st_mem {s : State} {b L a1 a2 a3 : Nat} {xs : Nat → Int32} (hL : L ≤ 2048) (h0 : st_R s b L xs) (h1 : st_R s a1 5 st_f1) (h2 : st_R s a2 2 st_f2) (h3 : st_R s a3 4 st_f3) :
    fm_Wd (s.heap.size, a1, a2, a3) s s.heap (st_m s.heap b L a1 a2 a3) ∧ tg (st_m s.heap b L a1 a2 a3) b = (19, L) ∧ CsT (s.heap.size, a1, a2, a3) (st_m s.heap b L a1 a2 a3) := by
  have e0 : st_T b L a1 a2 a3 b = (19, L) := if_pos rfl
  have e1 : st_T b L a1 a2 a3 a1 = (19, 5) := by
    unfold st_T
    by_cases q : a1 = b
    · subst q
      rw [if_pos rfl, h0.len h1 (by omega) (by omega)]
    · rw [if_neg q, if_pos rfl]
  have e2 : st_T b L a1 a2 a3 a2 = (19, 2) := by
    unfold st_T
    by_cases q : a2 = b
    · subst q
      rw [if_pos rfl, h0.len h2 (by omega) (by omega)]
    · by_cases q1 : a2 = a1
      · subst q1
        exact absurd (h1.len h2 (by omega) (by omega)) (by decide)
      · rw [if_neg q, if_neg q1, if_pos rfl]
  have e3 : st_T b L a1 a2 a3 a3 = (19, 4) := by
    unfold st_T
    by_cases q : a3 = b
    · subst q
      rw [if_pos rfl, h0.len h3 (by omega) (by omega)]
    · by_cases q1 : a3 = a1
      · subst q1
        exact absurd (h1.len h3 (by omega) (by omega)) (by decide)
      · by_cases q2 : a3 = a2
        · subst q2
          exact absurd (h2.len h3 (by omega) (by omega)) (by decide)
        · rw [if_neg q, if_neg q1, if_neg q2, if_pos rfl]
  refine ⟨⟨Nat.le_refl _, rfl, fun a ha => ?_, fun a => ?_⟩, e0, ⟨e1, h1.im (by decide), h1.im (by decide), h1.im (by decide), h1.im (by decide), h1.im (by decide)⟩, ⟨e2, h2.im (by decide), h2.im (by decide)⟩, e3, h3.im (by decide), h3.im (by decide), h3.im (by decide), h3.im (by decide)⟩
  · exfalso
    have ha : (st_T b L a1 a2 a3 a).1 < 19 := ha
    unfold st_T at ha
    repeat' split at ha
    all_goals first | exact absurd ha (Nat.lt_irrefl 19) | exact absurd ha (show ¬ (20 : Nat) < 19 by decide)
  · show fm_cell s (st_T b L a1 a2 a3 a) (st_I s.heap a) (fun _ => none) (fun _ => 0) s.heap[a]?
    by_cases q0 : a = b
    · subst q0
      rw [e0]; exact h0.cell
    · by_cases q1 : a = a1
      · subst q1
        rw [e1]; exact h1.cell
      · by_cases q2 : a = a2
        · subst q2
          rw [e2]; exact h2.cell
        · by_cases q3 : a = a3
          · subst q3
            rw [e3]; exact h3.cell
          · unfold st_T
            rw [if_neg q0, if_neg q1, if_neg q2, if_neg q3]
            exact ⟨fun z => absurd z (by omega), fun z => absurd z (by omega), fun z => absurd z (by omega), fun z => absurd z (by omega), fun z => absurd z (by omega)⟩
/-- a word of what the Statement gives of the start, by its place -/
theorem st_w {args : Array Value} {s : State} (h : (Jvm.Cond.and given_1 narrow_1).before args s = true) (i : Nat) {w : Cond} (hi : (flatC (Jvm.Cond.and given_1 narrow_1))[i]? = some w) : w.before args s = true := flat_of_before _ h w (List.mem_of_getElem? hi)
theorem st_str {args : Array Value} {s : State} {k : Nat} {tx : String} (h1 : (Cond.stringRef "MemoryDesk" k tx).before args s = true) (h2 : (Cond.exactly (.string "MemoryDesk" k) "java/lang/String").before args s = true) : ∃ sa, vk_R "MemoryDesk" k tx sa s := by
  obtain ⟨a, c, cA, kA, q1, -⟩ := Cond.exactly_spec (args := args) (first := s) (o := none) (s := s) (idx := []) (t := .string "MemoryDesk" k) (cls := "java/lang/String") h2
  exact ⟨a, vk_R.of h1 q1⟩
set_option maxRecDepth 100000 in
theorem st_base {s : State} {b : Nat} (hb : b < s.heap.size) (hts : ∀ w ∈ lw_tbl, w.before #[Value.ref b] s = true) (h : (Jvm.Cond.and given_1 narrow_1).before #[Value.ref b] s = true) :
    ∃ a1 a2 a3 : Nat, st_R s a1 5 st_f1 ∧ st_R s a2 2 st_f2 ∧ st_R s a3 4 st_f3 ∧ fm_B (s.heap.size, a1, a2, a3) s s.heap := by
  have hA : ∀ a : Nat, a < s.heap.size → ¬ fm_A (s.heap.size, 0, 0, 0) a := fun a ha => Nat.not_le.mpr ha
  obtain ⟨a1, t1, r1⟩ := st_Rof (C := "MemoryDesk") (n := "FIRST_PERCENTS") (N := 5) (f := st_f1) (by decide) (st_w h 5 (by decide +kernel)) (st_w h 6 (by decide +kernel)) (fun j hj => by
    rcases (show j = 0 ∨ j = 1 ∨ j = 2 ∨ j = 3 ∨ j = 4 by omega) with rfl | rfl | rfl | rfl | rfl
    · exact st_w h 7 (by decide +kernel)
    · exact st_w h 8 (by decide +kernel)
    · exact st_w h 9 (by decide +kernel)
    · exact st_w h 10 (by decide +kernel)
    · exact st_w h 11 (by decide +kernel))
  obtain ⟨a3, t3, r3⟩ := st_Rof (C := "MemoryDesk") (n := "LOWEST_MATCHES") (N := 4) (f := st_f3) (by decide) (st_w h 13 (by decide +kernel)) (st_w h 14 (by decide +kernel)) (fun j hj => by
    rcases (show j = 0 ∨ j = 1 ∨ j = 2 ∨ j = 3 by omega) with rfl | rfl | rfl | rfl
    · exact st_w h 15 (by decide +kernel)
    · exact st_w h 16 (by decide +kernel)
    · exact st_w h 17 (by decide +kernel)
    · exact st_w h 18 (by decide +kernel))
  obtain ⟨a2, t2, r2⟩ := st_Rof (C := "MemoryDesk") (n := "HIGHEST_SETTINGS") (N := 2) (f := st_f2) (by decide) (st_w h 22 (by decide +kernel)) (st_w h 23 (by decide +kernel)) (fun j hj => by
    rcases (show j = 0 ∨ j = 1 by omega) with rfl | rfl
    · exact st_w h 24 (by decide +kernel)
    · exact st_w h 25 (by decide +kernel))
  have iD : (Cond.initialized "MemoryDesk").before #[Value.ref b] s = true := hts _ (List.mem_of_getElem? (i := 55) (by decide +kernel))
  have iT : (Cond.initialized Bundle.tN).before #[Value.ref b] s = true := hts _ (List.mem_of_getElem? (i := 67) (by decide +kernel))
  refine ⟨a1, a2, a3, r1, r2, r3, ⟨by show 0 < s.heap.size; omega, va_Nc.of (st_w h 37 (by decide +kernel)), va_Nc.of (st_w h 38 (by decide +kernel)), va_Nc.of (st_w h 51 (by decide +kernel))⟩,
    vx_Zqof (args := #[Value.ref b]) (hts _ (List.mem_of_getElem? (i := 459) (by decide +kernel))) iT (st_w h 19 (by decide +kernel)) hA,
    vx_Zqof (args := #[Value.ref b]) (hts _ (List.mem_of_getElem? (i := 461) (by decide +kernel))) iT (st_w h 20 (by decide +kernel)) hA,
    st_str (hts _ (List.mem_of_getElem? (i := 548) (by decide +kernel))) (st_w h 184 (by decide +kernel)),
    st_str (hts _ (List.mem_of_getElem? (i := 473) (by decide +kernel))) (st_w h 155 (by decide +kernel)),
    st_str (hts _ (List.mem_of_getElem? (i := 821) (by decide +kernel))) (st_w h 262 (by decide +kernel)),
    st_str (hts _ (List.mem_of_getElem? (i := 734) (by decide +kernel))) (st_w h 222 (by decide +kernel)),
    va_Zof (hts _ (List.mem_of_getElem? (i := 177) (by decide +kernel))) iD t1 hA,
    va_Zof (hts _ (List.mem_of_getElem? (i := 713) (by decide +kernel))) iD t2 hA,
    va_Zof (hts _ (List.mem_of_getElem? (i := 407) (by decide +kernel))) iD t3 hA,
    fun w hw => nWord_of (List.mem_filter.mp hw).2 (hts w (List.mem_filter.mp hw).1)⟩
