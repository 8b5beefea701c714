/-! THE DESK'S STATE: where its cells lie (a block of 47 from S on); what it is of a state z -/
def StT (m : Mm) (S : Nat) : Prop :=
  (tg m S = (6, 0) ∧ tg m (S + 1) = (11, 2) ∧ tg m (S + 2) = (17, 4) ∧ tg m (S + 3) = (12, 5) ∧ tg m (S + 4) = (16, 8) ∧ tg m (S + 5) = (14, 10) ∧ tg m (S + 10) = (3, 0) ∧ tg m (S + 11) = (13, 30)) ∧
  (rf m S 0 = some (S + 1) ∧ rf m S 1 = some (S + 2) ∧ rf m S 2 = some (S + 3) ∧ rf m S 3 = some (S + 4) ∧ rf m S 4 = some (S + 5) ∧ rf m S 5 = some (S + 10) ∧ rf m (S + 10) 0 = some (S + 11)) ∧
  (∀ p, p < 4 → tg m (S + 12 + p) = (8, 0) ∧ rf m (S + 2) p = some (S + 12 + p)) ∧
  (∀ p, p < 5 → tg m (S + 16 + p) = (0, 0) ∧ rf m (S + 3) p = some (S + 16 + p)) ∧
  (∀ p, p < 8 → tg m (S + 21 + 2 * p) = (7, 0) ∧ rf m (S + 4) p = some (S + 21 + 2 * p) ∧ tg m (S + 22 + 2 * p) = (11, 4) ∧ rf m (S + 21 + 2 * p) 0 = some (S + 22 + 2 * p)) ∧
  (∀ p, p < 10 → tg m (S + 37 + p) = (5, 0) ∧ rf m (S + 5) p = some (S + 37 + p))
section STT
variable {m : Mm} {S : Nat}
theorem StT.t (h : StT m S) : tg m S = (6, 0) := h.1.1
theorem StT.t1 (h : StT m S) : tg m (S + 1) = (11, 2) := h.1.2.1
theorem StT.t2 (h : StT m S) : tg m (S + 2) = (17, 4) := h.1.2.2.1
theorem StT.t3 (h : StT m S) : tg m (S + 3) = (12, 5) := h.1.2.2.2.1
theorem StT.t4 (h : StT m S) : tg m (S + 4) = (16, 8) := h.1.2.2.2.2.1
theorem StT.t5 (h : StT m S) : tg m (S + 5) = (14, 10) := h.1.2.2.2.2.2.1
theorem StT.t10 (h : StT m S) : tg m (S + 10) = (3, 0) := h.1.2.2.2.2.2.2.1
theorem StT.t11 (h : StT m S) : tg m (S + 11) = (13, 30) := h.1.2.2.2.2.2.2.2
theorem StT.r0 (h : StT m S) : rf m S 0 = some (S + 1) := h.2.1.1
theorem StT.r1 (h : StT m S) : rf m S 1 = some (S + 2) := h.2.1.2.1
theorem StT.r2 (h : StT m S) : rf m S 2 = some (S + 3) := h.2.1.2.2.1
theorem StT.r3 (h : StT m S) : rf m S 3 = some (S + 4) := h.2.1.2.2.2.1
theorem StT.r4 (h : StT m S) : rf m S 4 = some (S + 5) := h.2.1.2.2.2.2.1
theorem StT.r5 (h : StT m S) : rf m S 5 = some (S + 10) := h.2.1.2.2.2.2.2.1
theorem StT.r10 (h : StT m S) : rf m (S + 10) 0 = some (S + 11) := h.2.1.2.2.2.2.2.2
theorem StT.tT (h : StT m S) {p : Nat} (hp : p < 4) : tg m (S + 12 + p) = (8, 0) := (h.2.2.1 p hp).1
theorem StT.rT (h : StT m S) {p : Nat} (hp : p < 4) : rf m (S + 2) p = some (S + 12 + p) := (h.2.2.1 p hp).2
theorem StT.tB (h : StT m S) {p : Nat} (hp : p < 5) : tg m (S + 16 + p) = (0, 0) := (h.2.2.2.1 p hp).1
theorem StT.rB (h : StT m S) {p : Nat} (hp : p < 5) : rf m (S + 3) p = some (S + 16 + p) := (h.2.2.2.1 p hp).2
theorem StT.tW (h : StT m S) {p : Nat} (hp : p < 8) : tg m (S + 21 + 2 * p) = (7, 0) := (h.2.2.2.2.1 p hp).1
theorem StT.rW (h : StT m S) {p : Nat} (hp : p < 8) : rf m (S + 4) p = some (S + 21 + 2 * p) := (h.2.2.2.2.1 p hp).2.1
theorem StT.tP (h : StT m S) {p : Nat} (hp : p < 8) : tg m (S + 22 + 2 * p) = (11, 4) := (h.2.2.2.2.1 p hp).2.2.1
theorem StT.rP (h : StT m S) {p : Nat} (hp : p < 8) : rf m (S + 21 + 2 * p) 0 = some (S + 22 + 2 * p) := (h.2.2.2.2.1 p hp).2.2.2
theorem StT.tS (h : StT m S) {p : Nat} (hp : p < 10) : tg m (S + 37 + p) = (5, 0) := (h.2.2.2.2.2 p hp).1
theorem StT.rS (h : StT m S) {p : Nat} (hp : p < 10) : rf m (S + 5) p = some (S + 37 + p) := (h.2.2.2.2.2 p hp).2
end STT
/-- a row behind all that is made at the start -/
def RowA (m : Mm) (B r : Nat) (w : Nat → Int32) (n : Nat) : Prop := B ≤ r ∧ r + 2 < fz m ∧ RowT m r w n
/-- what a segment shows that isn't open: -1 while it is -/
def opn (t v : Int32) : Int32 := if t = 0 then -1 else v
/-- the numbers of a segment's object at A, of the state z, the segment at p -/
def SgI (m : Mm) (A : Nat) (z : Nat → Int32) (p : Nat) : Prop :=
  im m A 1 = z (p + 1) ∧ im m A 2 = opn (z (p + 1)) (z (p + 2)) ∧ im m A 3 = opn (z (p + 1)) (z (p + 3)) ∧ im m A 4 = opn (z (p + 1)) (z (p + 4)) ∧ im m A 5 = z (p + 5) ∧ im m A 6 = z (p + 6) ∧ im m A 7 = z (p + 7) ∧ im m A 8 = z (p + 8) ∧ (z (p + 1) = nI 2 → im m A 9 = z (p + 9))
def SgR (m : Mm) (B A : Nat) (z : Nat → Int32) (p : Nat) : Prop := ∃ r, rf m A 0 = some r ∧ RowA m B r (fun e => z (p + 10 + e)) (nv (z p))
def MrR (m : Mm) (B A : Nat) (z : Nat → Int32) (r : Nat) : Prop := ∃ q, rf m A r = some q ∧ RowA m B q (fun e => z (299 + 13 * r + 1 + e)) (nv (z (299 + 13 * r)))
def Rp0 (m : Mm) (S : Nat) (z : Nat → Int32) : Prop := im m S 6 = z 0 ∧ im m (S + 10) 1 = z 1 ∧ im m (S + 1) 0 = z 2 ∧ im m (S + 1) 1 = z 3
def RpT (m : Mm) (S : Nat) (z : Nat → Int32) (n : Nat) : Prop := ∀ p, p < n → im m (S + 12 + p) 0 = z (4 + 5 * p) ∧ im m (S + 12 + p) 1 = z (4 + 5 * p + 1) ∧ im m (S + 12 + p) 2 = z (4 + 5 * p + 2) ∧ im m (S + 12 + p) 3 = z (4 + 5 * p + 3) ∧ im m (S + 12 + p) 4 = z (4 + 5 * p + 4)
def RpB (m : Mm) (S : Nat) (z : Nat → Int32) (n : Nat) : Prop := ∀ p, p < n → im m (S + 16 + p) 0 = z (64 + 3 * p) ∧ im m (S + 16 + p) 1 = z (64 + 3 * p + 1) ∧ im m (S + 16 + p) 2 = z (64 + 3 * p + 2)
def RpW (m : Mm) (S : Nat) (z : Nat → Int32) (n : Nat) : Prop := ∀ p, p < n → (∀ t, t < 4 → im m (S + 22 + 2 * p) t = z (24 + 4 * p + t)) ∧ im m (S + 21 + 2 * p) 1 = z (56 + p)
def RpS (m : Mm) (B S : Nat) (z : Nat → Int32) (n : Nat) : Prop := ∀ s, s < n → SgI m (S + 37 + s) z (79 + 22 * s) ∧ SgR m B (S + 37 + s) z (79 + 22 * s)
def RpM (m : Mm) (B S : Nat) (z : Nat → Int32) (n : Nat) : Prop := ∀ r, r < n → MrR m B (S + 11) z r
/-- the block at S is the state z -/
def Rp (m : Mm) (B S : Nat) (z : Nat → Int32) : Prop := Rp0 m S z ∧ RpT m S z 4 ∧ RpB m S z 5 ∧ RpW m S z 8 ∧ RpS m B S z (nv (z 0)) ∧ RpM m B S z (nv (z 1))
section RPX
variable {m : Mm} {B S : Nat} {z : Nat → Int32}
theorem Rp.c0 (h : Rp m B S z) : im m S 6 = z 0 := h.1.1
theorem Rp.c1 (h : Rp m B S z) : im m (S + 10) 1 = z 1 := h.1.2.1
theorem Rp.c2 (h : Rp m B S z) : im m (S + 1) 0 = z 2 := h.1.2.2.1
theorem Rp.c3 (h : Rp m B S z) : im m (S + 1) 1 = z 3 := h.1.2.2.2
theorem Rp.c23 (h : Rp m B S z) {j : Nat} (hj : j < 2) : im m (S + 1) j = z (2 + j) := by
  rcases (show j = 0 ∨ j = 1 by omega) with rfl | rfl
  · exact h.c2
  · exact h.c3
theorem Rp.T0 (h : Rp m B S z) {p : Nat} (hp : p < 4) : im m (S + 12 + p) 0 = z (4 + 5 * p) := (h.2.1 p hp).1
theorem Rp.T1 (h : Rp m B S z) {p : Nat} (hp : p < 4) : im m (S + 12 + p) 1 = z (4 + 5 * p + 1) := (h.2.1 p hp).2.1
theorem Rp.T2 (h : Rp m B S z) {p : Nat} (hp : p < 4) : im m (S + 12 + p) 2 = z (4 + 5 * p + 2) := (h.2.1 p hp).2.2.1
theorem Rp.T3 (h : Rp m B S z) {p : Nat} (hp : p < 4) : im m (S + 12 + p) 3 = z (4 + 5 * p + 3) := (h.2.1 p hp).2.2.2.1
theorem Rp.T4 (h : Rp m B S z) {p : Nat} (hp : p < 4) : im m (S + 12 + p) 4 = z (4 + 5 * p + 4) := (h.2.1 p hp).2.2.2.2
theorem Rp.B0 (h : Rp m B S z) {p : Nat} (hp : p < 5) : im m (S + 16 + p) 0 = z (64 + 3 * p) := (h.2.2.1 p hp).1
theorem Rp.B1 (h : Rp m B S z) {p : Nat} (hp : p < 5) : im m (S + 16 + p) 1 = z (64 + 3 * p + 1) := (h.2.2.1 p hp).2.1
theorem Rp.B2 (h : Rp m B S z) {p : Nat} (hp : p < 5) : im m (S + 16 + p) 2 = z (64 + 3 * p + 2) := (h.2.2.1 p hp).2.2
theorem Rp.W (h : Rp m B S z) {p : Nat} (hp : p < 8) {t : Nat} (ht : t < 4) : im m (S + 22 + 2 * p) t = z (24 + 4 * p + t) := (h.2.2.2.1 p hp).1 t ht
theorem Rp.W1 (h : Rp m B S z) {p : Nat} (hp : p < 8) : im m (S + 21 + 2 * p) 1 = z (56 + p) := (h.2.2.2.1 p hp).2
theorem Rp.Sg (h : Rp m B S z) {s : Nat} (hs : s < nv (z 0)) : SgI m (S + 37 + s) z (79 + 22 * s) := (h.2.2.2.2.1 s hs).1
theorem Rp.S1 (h : Rp m B S z) {s : Nat} (hs : s < nv (z 0)) : im m (S + 37 + s) 1 = z (79 + 22 * s + 1) := (h.Sg hs).1
theorem Rp.S2 (h : Rp m B S z) {s : Nat} (hs : s < nv (z 0)) : im m (S + 37 + s) 2 = opn (z (79 + 22 * s + 1)) (z (79 + 22 * s + 2)) := (h.Sg hs).2.1
theorem Rp.S3 (h : Rp m B S z) {s : Nat} (hs : s < nv (z 0)) : im m (S + 37 + s) 3 = opn (z (79 + 22 * s + 1)) (z (79 + 22 * s + 3)) := (h.Sg hs).2.2.1
theorem Rp.S4 (h : Rp m B S z) {s : Nat} (hs : s < nv (z 0)) : im m (S + 37 + s) 4 = opn (z (79 + 22 * s + 1)) (z (79 + 22 * s + 4)) := (h.Sg hs).2.2.2.1
theorem Rp.S5 (h : Rp m B S z) {s : Nat} (hs : s < nv (z 0)) : im m (S + 37 + s) 5 = z (79 + 22 * s + 5) := (h.Sg hs).2.2.2.2.1
theorem Rp.S6 (h : Rp m B S z) {s : Nat} (hs : s < nv (z 0)) : im m (S + 37 + s) 6 = z (79 + 22 * s + 6) := (h.Sg hs).2.2.2.2.2.1
theorem Rp.S7 (h : Rp m B S z) {s : Nat} (hs : s < nv (z 0)) : im m (S + 37 + s) 7 = z (79 + 22 * s + 7) := (h.Sg hs).2.2.2.2.2.2.1
theorem Rp.S8 (h : Rp m B S z) {s : Nat} (hs : s < nv (z 0)) : im m (S + 37 + s) 8 = z (79 + 22 * s + 8) := (h.Sg hs).2.2.2.2.2.2.2.1
theorem Rp.S9 (h : Rp m B S z) {s : Nat} (hs : s < nv (z 0)) (h2 : z (79 + 22 * s + 1) = nI 2) : im m (S + 37 + s) 9 = z (79 + 22 * s + 9) := (h.Sg hs).2.2.2.2.2.2.2.2 h2
theorem Rp.SR (h : Rp m B S z) {s : Nat} (hs : s < nv (z 0)) : SgR m B (S + 37 + s) z (79 + 22 * s) := (h.2.2.2.2.1 s hs).2
theorem Rp.M (h : Rp m B S z) {r : Nat} (hr : r < nv (z 1)) : MrR m B (S + 11) z r := h.2.2.2.2.2 r hr
end RPX
/-! ===== what keeps it ===== -/
/-- x is the same in both -/
def agr (m m1 : Mm) (x : Nat) : Prop := tg m1 x = tg m x ∧ im m1 x = im m x ∧ rf m1 x = rf m x
theorem RowT.fr {m m1 : Mm} {r : Nat} {w : Nat → Int32} {n : Nat} (h : RowT m r w n) (a0 : agr m m1 r) (a1 : agr m m1 (r + 1)) (a2 : agr m m1 (r + 2)) : RowT m1 r w n := by
  obtain ⟨⟨h1, h2, h3⟩, ⟨h4, h5⟩, ⟨h6, h7⟩, h8, h9⟩ := h
  refine ⟨⟨a0.1.trans h1, a1.1.trans h2, a2.1.trans h3⟩, ⟨by rw [a0.2.2]; exact h4, by rw [a0.2.2]; exact h5⟩, ⟨by rw [a0.2.1]; exact h6, h7⟩, fun e he => ?_, fun c hc p => ?_⟩
  · rw [a1.2.1]; exact h8 e he
  · rw [a2.2.1]; exact h9 c hc p
theorem RowA.fr {m m1 : Mm} {B r : Nat} {w : Nat → Int32} {n : Nat} (h : RowA m B r w n) (hz : fz m ≤ fz m1) (ha : ∀ x, B ≤ x → x < fz m → agr m m1 x) : RowA m1 B r w n := by
  obtain ⟨h1, h2, h3⟩ := h
  exact ⟨h1, by omega, h3.fr (ha r h1 (by omega)) (ha _ (by omega) (by omega)) (ha _ (by omega) (by omega))⟩
theorem RowT.cg {m : Mm} {r : Nat} {w w' : Nat → Int32} {n : Nat} (h : RowT m r w n) (he : ∀ e, e < n → w' e = w e) : RowT m r w' n := by
  obtain ⟨h1, h2, h3, h8, h9⟩ := h
  refine ⟨h1, h2, h3, fun e q => by rw [he e q]; exact h8 e q, fun c hc p => ?_⟩
  rw [h9 c hc p]
  refine decide_eq_decide.mpr ⟨fun q => ⟨q.1, by rw [he p q.1]; exact q.2⟩, fun q => ⟨q.1, by rw [← he p q.1]; exact q.2⟩⟩
theorem RowA.cg {m : Mm} {B r : Nat} {w w' : Nat → Int32} {n n' : Nat} (h : RowA m B r w n) (hn : n' = n) (he : ∀ e, e < n → w' e = w e) : RowA m B r w' n' := by
  subst hn; exact ⟨h.1, h.2.1, h.2.2.cg he⟩
theorem StT.fr {m m1 : Mm} {S : Nat} (h : StT m S) (ht : ∀ x, S ≤ x → x < S + 47 → tg m1 x = tg m x) (hr : ∀ x, S ≤ x → x < S + 37 → x ≠ S + 11 → rf m1 x = rf m x) : StT m1 S := by
  obtain ⟨⟨t0, t1, t2, t3, t4, t5, t10, t11⟩, ⟨r0, r1, r2, r3, r4, r5, r10⟩, hT, hB, hW, hSg⟩ := h
  refine ⟨⟨?_, ?_, ?_, ?_, ?_, ?_, ?_, ?_⟩, ⟨?_, ?_, ?_, ?_, ?_, ?_, ?_⟩, fun p hp => ⟨?_, ?_⟩, fun p hp => ⟨?_, ?_⟩, fun p hp => ⟨?_, ?_, ?_, ?_⟩, fun p hp => ⟨?_, ?_⟩⟩
  all_goals first | rw [ht _ (by omega) (by omega)] | rw [hr _ (by omega) (by omega) (by omega)]
  all_goals first | assumption | exact (hT p hp).1 | exact (hT p hp).2 | exact (hB p hp).1 | exact (hB p hp).2 | exact (hW p hp).1 | exact (hW p hp).2.1 | exact (hW p hp).2.2.1 | exact (hW p hp).2.2.2 | exact (hSg p hp).1 | exact (hSg p hp).2
theorem SgI.fr {m m1 : Mm} {A : Nat} {z : Nat → Int32} {p : Nat} (h : SgI m A z p) (ha : im m1 A = im m A) : SgI m1 A z p := by
  unfold SgI; rw [ha]; exact h
theorem SgR.fr {m m1 : Mm} {B A : Nat} {z : Nat → Int32} {p : Nat} (h : SgR m B A z p) (ha : rf m1 A 0 = rf m A 0) (hz : fz m ≤ fz m1) (hb : ∀ x, B ≤ x → x < fz m → agr m m1 x) : SgR m1 B A z p := by
  obtain ⟨r, h1, h2⟩ := h
  exact ⟨r, ha.trans h1, h2.fr hz hb⟩
theorem MrR.fr {m m1 : Mm} {B A : Nat} {z : Nat → Int32} {r : Nat} (h : MrR m B A z r) (ha : rf m1 A r = rf m A r) (hz : fz m ≤ fz m1) (hb : ∀ x, B ≤ x → x < fz m → agr m m1 x) : MrR m1 B A z r := by
  obtain ⟨q, h1, h2⟩ := h
  exact ⟨q, ha.trans h1, h2.fr hz hb⟩
theorem Rp.fr {m m1 : Mm} {B S : Nat} {z : Nat → Int32} (h : Rp m B S z) (h0 : nv (z 0) ≤ 10) (ha : ∀ x, S ≤ x → x < S + 47 → im m1 x = im m x ∧ rf m1 x = rf m x) (hz : fz m ≤ fz m1) (hb : ∀ x, B ≤ x → x < fz m → agr m m1 x) : Rp m1 B S z := by
  obtain ⟨⟨c0, c1, c2, c3⟩, hT, hB, hW, hSg, hM⟩ := h
  refine ⟨⟨?_, ?_, ?_, ?_⟩, fun p hp => ?_, fun p hp => ?_, fun p hp => ⟨fun t ht => ?_, ?_⟩, fun s hs => ⟨?_, ?_⟩, fun r hr => ?_⟩
  · rw [(ha _ (by omega) (by omega)).1]; exact c0
  · rw [(ha _ (by omega) (by omega)).1]; exact c1
  · rw [(ha _ (by omega) (by omega)).1]; exact c2
  · rw [(ha _ (by omega) (by omega)).1]; exact c3
  · rw [(ha _ (by omega) (by omega)).1]; exact hT p hp
  · rw [(ha _ (by omega) (by omega)).1]; exact hB p hp
  · rw [(ha _ (by omega) (by omega)).1]; exact (hW p hp).1 t ht
  · rw [(ha _ (by omega) (by omega)).1]; exact (hW p hp).2
  · exact (hSg s hs).1.fr (ha _ (by omega) (by omega)).1
  · exact (hSg s hs).2.fr (by rw [(ha _ (by omega) (by omega)).2]) hz hb
  · exact (hM r hr).fr (by rw [(ha _ (by omega) (by omega)).2]) hz hb
/-- the numbers behind 689 don't count -/
theorem Rp.cg {m : Mm} {B S : Nat} {z z' : Nat → Int32} (h : Rp m B S z) (h0 : nv (z 0) ≤ 10) (h1 : nv (z 1) ≤ 30) (h9 : ∀ s, s < nv (z 0) → nv (z (79 + 22 * s)) ≤ 12) (h8 : ∀ r, r < nv (z 1) → nv (z (299 + 13 * r)) ≤ 12) (hz : ∀ j, j < 689 → z' j = z j) : Rp m B S z' := by
  obtain ⟨⟨c0, c1, c2, c3⟩, hT, hB, hW, hSg, hM⟩ := h
  refine ⟨⟨?_, ?_, ?_, ?_⟩, fun p hp => ?_, fun p hp => ?_, fun p hp => ⟨fun t ht => ?_, ?_⟩, fun s hs => ⟨?_, ?_⟩, fun r hr => ?_⟩
  · rw [hz _ (by omega)]; exact c0
  · rw [hz _ (by omega)]; exact c1
  · rw [hz _ (by omega)]; exact c2
  · rw [hz _ (by omega)]; exact c3
  · rw [hz _ (by omega), hz _ (by omega), hz _ (by omega), hz _ (by omega), hz _ (by omega)]; exact hT p hp
  · rw [hz _ (by omega), hz _ (by omega), hz _ (by omega)]; exact hB p hp
  · rw [hz _ (by omega)]; exact (hW p hp).1 t ht
  · rw [hz _ (by omega)]; exact (hW p hp).2
  · rw [hz _ (by omega)] at hs
    unfold SgI
    rw [hz _ (by omega), hz _ (by omega), hz _ (by omega), hz _ (by omega), hz _ (by omega), hz _ (by omega), hz _ (by omega), hz _ (by omega), hz _ (by omega)]
    exact (hSg s hs).1
  · rw [hz _ (by omega)] at hs
    obtain ⟨r, e1, e2⟩ := (hSg s hs).2
    have := h9 s hs
    exact ⟨r, e1, e2.cg (by rw [hz _ (by omega)]) (fun e he => hz _ (by omega))⟩
  · rw [hz _ (by omega)] at hr
    obtain ⟨q, e1, e2⟩ := hM r hr
    have := h8 r hr
    exact ⟨q, e1, e2.cg (by rw [hz _ (by omega)]) (fun e he => hz _ (by omega))⟩
/-! what is asked of a state, by its parts -/
section ZOX
variable {c : Nat} {z : Nat → Int32}
theorem ZOk.n0 (h : ZOk c z) : NR (z 0) 0 10 := h.1.1
theorem ZOk.n1 (h : ZOk c z) : NR (z 1) 0 30 := h.1.2.1
theorem ZOk.n2 (h : ZOk c z) : NR (z 2) 0 100 := h.1.2.2.1
theorem ZOk.n3 (h : ZOk c z) : NR (z 3) 0 200 := h.1.2.2.2
theorem ZOk.T0 (h : ZOk c z) {p : Nat} (hp : p < 4) : NR (z (4 + 5 * p)) 1 99 := (h.2.1 p hp).1
theorem ZOk.T1 (h : ZOk c z) {p : Nat} (hp : p < 4) : NR (z (4 + 5 * p + 1)) 0 (1188 * c) := (h.2.1 p hp).2.1
theorem ZOk.T2 (h : ZOk c z) {p : Nat} (hp : p < 4) : NR (z (4 + 5 * p + 2)) 0 (12 * c) := (h.2.1 p hp).2.2.1
theorem ZOk.B0 (h : ZOk c z) {p : Nat} (hp : p < 5) : NR (z (64 + 3 * p)) 0 100 := (h.2.2.1 p hp).1
theorem ZOk.P (h : ZOk c z) {k : Nat} (hk : k < 40) : -1 ≤ (z (24 + k)).toInt ∧ (z (24 + k)).toInt ≤ 9 := h.2.2.2.1 k hk
theorem ZOk.S1 (h : ZOk c z) {s : Nat} (hs : s < nv (z 0)) : NR (z (79 + 22 * s + 1)) 0 3 := (h.2.2.2.2.1 s hs).2.1
theorem ZOk.S2 (h : ZOk c z) {s : Nat} (hs : s < nv (z 0)) : NR (z (79 + 22 * s + 2)) 0 3 := (h.2.2.2.2.1 s hs).2.2.1
theorem ZOk.S3 (h : ZOk c z) {s : Nat} (hs : s < nv (z 0)) : NR (z (79 + 22 * s + 3)) 0 4 := (h.2.2.2.2.1 s hs).2.2.2.1
theorem ZOk.S4 (h : ZOk c z) {s : Nat} (hs : s < nv (z 0)) : NR (z (79 + 22 * s + 4)) 0 100 := (h.2.2.2.2.1 s hs).2.2.2.2.1
theorem ZOk.row (h : ZOk c z) {s : Nat} (hs : s < nv (z 0)) : RwOk z (79 + 22 * s) 10 := (h.2.2.2.2.1 s hs).1
theorem ZOk.mem (h : ZOk c z) {r : Nat} (hr : r < nv (z 1)) : RwOk z (299 + 13 * r) 1 := h.2.2.2.2.2 r hr
end ZOX
