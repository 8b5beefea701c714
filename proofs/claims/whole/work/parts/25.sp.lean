/-! sums, and the answers of the looks, of a state z -/
def sm (f : Nat → Nat) : Nat → Nat
  | 0 => 0
  | n + 1 => sm f n + f n
theorem sm_le (f : Nat → Nat) (b : Nat) : ∀ n, (∀ i, i < n → f i ≤ b) → sm f n ≤ n * b := by
  intro n
  induction n with
  | zero => intro _; exact Nat.zero_le _
  | succ n ih =>
    intro h
    show sm f n + f n ≤ (n + 1) * b
    have h1 := ih (fun i hi => h i (by omega))
    have h2 := h n (by omega)
    rw [Nat.succ_mul]; omega
theorem sm_c {f f' : Nat → Nat} : ∀ n, (∀ i, i < n → f i = f' i) → sm f n = sm f' n := by
  intro n
  induction n with
  | zero => intro _; rfl
  | succ n ih =>
    intro h
    show sm f n + f n = sm f' n + f' n
    rw [ih (fun i hi => h i (by omega)), h n (by omega)]
/-- segments at a stage -/
noncomputable abbrev stF (z : Nat → Int32) (t : Int32) : Nat → Nat := fun s => b01 (z (79 + 22 * s + 1) = t)
abbrev wdF (z : Nat → Int32) : Nat → Nat := fun s => nv (z (79 + 22 * s))
noncomputable abbrev asF (z : Nat → Int32) (p : Int32) : Nat → Nat := fun s => b01 (z (79 + 22 * s + 1) = 1 ∧ z (79 + 22 * s + 2) = p)
noncomputable abbrev prF (z : Nat → Int32) (t : Nat) : Nat → Nat := fun w => b01 (¬ z (24 + 4 * w + t) = -1)
noncomputable abbrev ofF (z : Nat → Int32) (w : Int32) : Nat → Nat := fun s => sm (fun e => b01 (z (79 + 22 * s + 10 + e) = w)) (nv (z (79 + 22 * s)))
noncomputable abbrev rlF (z : Nat → Int32) : Nat → Nat := fun w => b01 (¬ z (56 + w) = -1)
noncomputable abbrev dsF (z : Nat → Int32) : Nat → Nat := fun w => b01 (dsp z w)
/-- the sum of a number of all translators -/
def ppl (z : Nat → Int32) (w : Nat) : Nat → Int32
  | 0 => nI 0
  | k + 1 => ppl z w k + z (4 + 5 * k + w)
noncomputable def cntV (z : Nat → Int32) (sv : Int32) (w : Nat) : Int32 :=
  if w = 0 then z 0 else if w < 5 then nI (sm (stF z (nI (w - 1))) (nv (z 0))) else if w = 5 then z 1 else if w = 6 then nI (sm (wdF z) (nv (z 0))) else if w = 7 then ppl z 2 4 else if w = 8 then ppl z 1 4 else if w = 9 then nI (sm (dsF z) 8) else if w = 10 then nI (sm (rlF z) 8) else sv
noncomputable def perV (z : Nat → Int32) (p w : Nat) : Int32 :=
  if w = 2 then nI (sm (asF z (nI p)) (nv (z 0))) else if w = 6 then nI (sm (prF z p) 8) else if w < 2 then z (4 + 5 * p + w) else z (4 + 5 * p + (w - 1))
noncomputable def terV (z : Nat → Int32) (w t : Nat) : Int32 :=
  if t < 4 then z (24 + 4 * w + t) else if t = 4 then z (56 + w) else if t = 5 then nI (b01 (dsp z w)) else if t = 6 then nI (unl z w) else nI (sm (ofF z (nI w)) (nv (z 0)))
noncomputable def segV (z : Nat → Int32) (s w : Nat) : Int32 :=
  if w < 2 then z (79 + 22 * s + w) else if w = 2 then (if z (79 + 22 * s + 1) = 0 then -1 else z (79 + 22 * s + 2)) else if w = 3 then nI (mtc z (79 + 22 * s)) else if w = 4 then lm (mf z (79 + 22 * s)) (nv (z 1)) else if w < 7 then (if z (79 + 22 * s + 1) = 0 then -1 else z (79 + 22 * s + w - 2)) else if w < 11 then z (79 + 22 * s + w - 2) else nI (b01 (hdp z (79 + 22 * s)))
def wrdV (z : Nat → Int32) (p k : Nat) : Int32 := if k < nv (z p) then z (p + 10 + k) else -1
def remV (z : Nat → Int32) (r k : Nat) : Int32 := if k < nv (z (299 + 13 * r)) then z (299 + 13 * r + 1 + k) else -1
