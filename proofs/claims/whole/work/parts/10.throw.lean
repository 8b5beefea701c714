/-! ROWS OF G: a throw of an exception that is made on the spot; arraycopy of ints. -/
abbrev fm_exn : List String := ["java/lang/RuntimeException", "java/lang/Exception"]
theorem fm_atS {own cls : String} {ic : Nat} (h : (vx_atS own ic cls fm_exn).all (fun w => decide (w ∈ lw_tbl) && (goodWord w || (nWord w && w.onTables))) = true) : ∀ w ∈ vx_atS own ic cls fm_exn, w ∈ wA ∨ (w ∈ wN ∧ w.onTables = true) := by
  intro w hw
  have h1 := List.all_eq_true.mp h w hw
  simp only [Bool.and_eq_true, Bool.or_eq_true, decide_eq_true_eq] at h1
  rcases h1.2 with h2 | h2
  · exact Or.inl (wA_in h1.1 h2)
  · exact Or.inr ⟨List.mem_filter.mpr ⟨h1.1, h2.1⟩, h2.2⟩
theorem fm_atO : ∀ w ∈ vx_atS RX9 364 "java/lang/IndexOutOfBoundsException" fm_exn, w ∈ wA ∨ (w ∈ wN ∧ w.onTables = true) := fm_atS (by decide +kernel)
theorem fm_atA : ∀ w ∈ vx_atS RX9 371 "java/lang/IllegalArgumentException" fm_exn, w ∈ wA ∨ (w ∈ wN ∧ w.onTables = true) := fm_atS (by decide +kernel)
theorem fm_atS2 : ∀ w ∈ vx_atS RX9 378 "java/lang/IllegalStateException" fm_exn, w ∈ wA ∨ (w ∈ wN ∧ w.onTables = true) := fm_atS (by decide +kernel)
section GTHROW
variable {g : Gp} {M : MI} {Q : Rs → Mm → Prop} {pc : Nat} {L : List (Nat × Value)} {st : List Value} {u : Nat × Nat} {m : Mm}
theorem g_throw {ik is ic : Nat} {cls text : String} (hcls : Bundle.fit cls = true) (hk : Cond.classLink (mY M).cls ik cls ∈ wA) (hini : Cond.initialized cls ∈ wA)
    (hstr : ∀ (s : State) (H : Heap), fm_B g s H → ∃ sa, vk_R (mY M).cls is text sa s) (hat : ∀ w ∈ vx_atS (mY M).cls ic cls fm_exn, w ∈ wA ∨ (w ∈ wN ∧ w.onTables = true))
    (hgood : ∀ w ∈ Cond.classLink (mY M).cls ik cls :: Cond.initialized cls :: vx_atS (mY M).cls ic cls fm_exn, vx_ot w = true)
    (d0 : decode (mC M) pc = .ok (.new ik, 3)) (d3 : decode (mC M) (pc + 3) = .ok (.dup, 1)) (d4 : decode (mC M) (pc + 4) = .ok (.ldc_w is, 3)) (d7 : decode (mC M) (pc + 7) = .ok (.invokespecial ic, 3)) (d10 : decode (mC M) (pc + 10) = .ok (.athrow, 1))
    (hfr : 5 < (mR M).frames) (hlo : (st.map fun v => v.category).sum + 82 ≤ (mR M).locals) (hu : u.1 + 1 ≤ (mR M).cells ∧ u.2 + 6 ≤ (mR M).slots)
    (hq : ∀ n, fz m ≤ n → Q (.inr cls) (gr m n)) : G g M Q pc L st u m := by
  intro p l e s mm args below meth c H locs ls C hW hB hS hl
  obtain ⟨sa, hsa⟩ := hstr s s.heap hB
  have hats : ∀ w ∈ vx_atS (mY M).cls ic cls fm_exn, w.before args s = true := by
    intro w hw
    rcases hat w hw with h | ⟨h, h2⟩
    · exact cx_w C h
    · exact va_Nw.use h2 (hB.2.2.2.2.2.2.2.2.2.2 w h)
  refine vx_throwSW (names := fm_exn) C.1 C.2.1 C.2.2.2.2.2.2.2.2.2 C.2.2.2.2.1 hcls (by decide) (cx_w C hk) (cx_w C hini) hsa hats hgood hB.2.1 hB.2.2.1 hS (hl.1.trans C.2.2.2.1.symm) d0 d3 d4 d7 d10 (fun x hx => (C.2.2.2.2.2.2.2.1 x hx).elim) hfr hlo hu.1 hu.2 C.2.2.2.2.2.2.1 (fun t ht h1 h2 => ?_) hS.2.2 hu.1 hu.2
  refine ⟨gr m t.heap.size, hq _ (by rw [hW.2.1]; exact h1), (hW.grow h1 h2).moved ht, Nat.le_trans hS.1 h1, fun q hq1 hq2 => ?_⟩
  rw [h2 q (Nat.lt_of_lt_of_le hq1 hS.1)]
  exact hS.2.1 q hq1 hq2
end GTHROW
