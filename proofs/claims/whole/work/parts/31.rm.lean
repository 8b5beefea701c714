/-! the writes of the model, told of the state z alone -/
theorem u1_u2 (I : Nat → Nat → Int32) (b i : Nat) (v : Int32) : u2 I b i v b = u1 (I b) i v := by
  funext y
  show (if b = b ∧ y = i then v else I b y) = if y = i then v else I b y
  by_cases h : y = i
  · rw [if_pos ⟨rfl, h⟩, if_pos h]
  · rw [if_neg (fun q => h q.2), if_neg h]
theorem rmB_z (I : Nat → Nat → Int32) (a s r : Nat) (z : Nat → Int32) : rmB (rz I (a + 1) z) a s r = rz I (a + 1) (u1 (cpz (u1 z (299 + 13 * r) (z (79 + 22 * s))) (299 + 13 * r + 1) 12 (fun j => u1 z (299 + 13 * r) (z (79 + 22 * s)) (79 + 22 * s + 10 + j))) 1 (nI (r + 1))) := by
  unfold rmB
  rw [rz_b, rz_u, rz_b, rz_c, rz_u]
theorem rmA_z (I : Nat → Nat → Int32) (a : Nat) (z : Nat → Int32) : rmA (rz I (a + 1) z) a = rz I (a + 1) (u1 (cpz z 299 377 (fun j => z (299 + j + 13))) 1 (nI 29)) := by
  unfold rmA
  rw [rz_b, rz_c, rz_u]
theorem rmI_z (I : Nat → Nat → Int32) (a s : Nat) (z : Nat → Int32) : rmI (rz I (a + 1) z) a s = rz I (a + 1) (rmZ z s) := by
  unfold rmI rmZ
  rw [rz_b]
  by_cases h : nv (z 1) = 30
  · simp only [if_pos h]
    rw [rmA_z, rmB_z]
  · simp only [if_neg h]
    rw [rmB_z]
def fxZ (z : Nat → Int32) (s : Nat) : Nat → Int32 := u1 (u1 z (79 + 22 * s + 3) (nI (bandOf (mtc z (79 + 22 * s))))) (79 + 22 * s + 4) (z (64 + 3 * bandOf (mtc z (79 + 22 * s))))
/-- assigned to t -/
def asZ (z : Nat → Int32) (s t : Nat) : Nat → Int32 := fxZ (u1 (u1 z (79 + 22 * s + 1) (nI 1)) (79 + 22 * s + 2) (nI t)) s
/-- delivered, for the pay v -/
def dlZ (z : Nat → Int32) (s t b : Nat) (v : Int32) : Nat → Int32 :=
  let z1 := u1 z (79 + 22 * s + 1) (nI 2)
  let z2 := u1 z1 (79 + 22 * s + 5) v
  let z3 := u1 z2 (79 + 22 * s + 9) (z2 (4 + 5 * t))
  let z4 := u1 z3 (4 + 5 * t + 1) (z3 (4 + 5 * t + 1) + v)
  let z5 := u1 z4 (4 + 5 * t + 2) (z4 (4 + 5 * t + 2) + z4 (79 + 22 * s))
  let z6 := u1 z5 (64 + 3 * b + 1) (z5 (64 + 3 * b + 1) + z5 (79 + 22 * s))
  let z7 := u1 z6 (64 + 3 * b + 2) (z6 (64 + 3 * b + 2) + v)
  rmZ z7 s
/-- what is lost by c changed words -/
def lsV (z : Nat → Int32) (p : Nat) (c : Int32) : Int32 := if c * z (p + 9) * z 3 / nI 100 < z (p + 5) then c * z (p + 9) * z 3 / nI 100 else z (p + 5)
/-- revised by t (its own translator: o), c words changed, v lost -/
def rvZ (z : Nat → Int32) (s t o : Nat) (c v : Int32) : Nat → Int32 :=
  let z1 := u1 z (4 + 5 * t + 1) (z (4 + 5 * t + 1) + z (79 + 22 * s) * z (4 + 5 * t) * z 2 / nI 100)
  let z2 := u1 z1 (4 + 5 * t + 3) (z1 (4 + 5 * t + 3) + c)
  let z3 := u1 z2 (4 + 5 * o + 1) (z2 (4 + 5 * o + 1) - v)
  let z4 := u1 z3 (4 + 5 * o + 4) (z3 (4 + 5 * o + 4) + c)
  let z5 := u1 z4 (79 + 22 * s + 5) (z4 (79 + 22 * s + 5) - v)
  let z6 := u1 z5 (79 + 22 * s + 1) (nI 3)
  let z7 := u1 z6 (79 + 22 * s + 7) (nI t)
  u1 z7 (79 + 22 * s + 8) c
theorem rz_l (I : Nat → Nat → Int32) (b : Nat) (z : Nat → Int32) (h : I b = z) : rz I b z = I := by subst h; exact rz_0 I b
theorem rz_uu (I : Nat → Nat → Int32) (b : Nat) (z : Nat → Int32) (h : I b = z) (i : Nat) (v : Int32) : u2 I b i v = rz I b (u1 z i v) := by
  conv => lhs; rw [← rz_l I b z h]
  exact rz_u _ _ _ _ _
theorem svz (m : Mm) (a k n : Nat) : svI (th m a k) a n (a + 1) = im m (a + 1) := funext (sv_z m a k n)
theorem sz_u (m : Mm) (I : Nat → Nat → Int32) (b : Nat) (z : Nat → Int32) (i : Nat) (v : Int32) : sI (wI m (rz I b z)) b i v = wI m (rz I b (u1 z i v)) := congrArg (wI m) (rz_u I b z i v)
theorem sz_0 (m : Mm) (I : Nat → Nat → Int32) (b : Nat) (z : Nat → Int32) (h : I b = z) : wI m I = wI m (rz I b z) := congrArg (wI m) (rz_l I b z h).symm
theorem iz (m : Mm) (I : Nat → Nat → Int32) (b : Nat) (z : Nat → Int32) (i : Nat) : im (wI m (rz I b z)) b i = z i := congrFun (rz_b I b z) i
