/-! the row b set anew -/
def rz (I : Nat → Nat → Int32) (b : Nat) (z : Nat → Int32) : Nat → Nat → Int32 := fun x y => if x = b then z y else I x y
theorem rz_b (I : Nat → Nat → Int32) (b : Nat) (z : Nat → Int32) : rz I b z b = z := by funext y; exact if_pos rfl
theorem rz_n (I : Nat → Nat → Int32) (b : Nat) (z : Nat → Int32) {x : Nat} (h : x ≠ b) : rz I b z x = I x := by funext y; exact if_neg h
theorem rz_u (I : Nat → Nat → Int32) (b : Nat) (z : Nat → Int32) (i : Nat) (v : Int32) : u2 (rz I b z) b i v = rz I b (u1 z i v) := by
  funext x y
  show (if x = b ∧ y = i then v else if x = b then z y else I x y) = if x = b then (if y = i then v else z y) else I x y
  by_cases h : x = b
  · rw [if_pos h, if_pos h]
    by_cases h2 : y = i
    · rw [if_pos ⟨h, h2⟩, if_pos h2]
    · rw [if_neg (fun q => h2 q.2), if_neg h2]
  · rw [if_neg (fun q => h q.1), if_neg h, if_neg h]
theorem rz_0 (I : Nat → Nat → Int32) (b : Nat) : rz I b (I b) = I := by
  funext x y
  show (if x = b then I b y else I x y) = I x y
  by_cases h : x = b
  · rw [if_pos h, h]
  · rw [if_neg h]
/-- a stretch of places of one row set anew -/
def cpz (z : Nat → Int32) (d n : Nat) (f : Nat → Int32) : Nat → Int32 := fun y => if d ≤ y ∧ y < d + n then f (y - d) else z y
theorem rz_c (I : Nat → Nat → Int32) (b : Nat) (z : Nat → Int32) (d n : Nat) (f : Nat → Int32) : cpI (rz I b z) b d n f = rz I b (cpz z d n f) := by
  funext x y
  show (if x = b ∧ d ≤ y ∧ y < d + n then f (y - d) else if x = b then z y else I x y) = if x = b then (if d ≤ y ∧ y < d + n then f (y - d) else z y) else I x y
  by_cases h : x = b
  · rw [if_pos h, if_pos h]
    by_cases h2 : d ≤ y ∧ y < d + n
    · rw [if_pos ⟨h, h2⟩, if_pos h2]
    · rw [if_neg (fun q => h2 q.2), if_neg h2]
  · rw [if_neg (fun q => h q.1), if_neg h, if_neg h]
theorem rz_rz (I : Nat → Nat → Int32) (b : Nat) (z z' : Nat → Int32) : rz (rz I b z) b z' = rz I b z' := by
  funext x y
  show (if x = b then z' y else if x = b then z y else I x y) = if x = b then z' y else I x y
  by_cases h : x = b
  · rw [if_pos h, if_pos h]
  · rw [if_neg h, if_neg h, if_neg h]
/-- the words of a sale: the length at p, the rate of translator t, a percentage -/
def payV (z : Nat → Int32) (p t : Nat) (q : Int32) : Int32 := z p * z (4 + 5 * t) * q / nI 100
/-- the percentage that the segment at p has, or would have -/
def pctV (z : Nat → Int32) (p : Nat) : Int32 := if z (p + 1) = 0 then z (64 + 3 * bandOf (mtc z p)) else z (p + 4)
/-- the state with the segment s remembered -/
def rmZ (z : Nat → Int32) (s : Nat) : Nat → Int32 :=
  let z1 := if nv (z 1) = 30 then u1 (cpz z 299 377 (fun j => z (299 + j + 13))) 1 (nI 29) else z
  let r := if nv (z 1) = 30 then 29 else nv (z 1)
  let z2 := u1 z1 (299 + 13 * r) (z1 (79 + 22 * s))
  u1 (cpz z2 (299 + 13 * r + 1) 12 (fun j => z2 (79 + 22 * s + 10 + j))) 1 (nI (r + 1))
