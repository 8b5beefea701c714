/-! ROWS OF THE JUDGEMENT G, an instruction each (lifted from the kit's). -/
section GROWS
variable {g : Gp} {M : MI} {Q : Rs → Mm → Prop} {pc : Nat} {L : List (Nat × Value)} {st : List Value} {u : Nat × Nat} {m : Mm}

theorem g_iadd {x y : Int32} (hdg : decode (mC M) pc = .ok (.iadd, 1)) (k : G g M Q (pc + 1) L (.int (x + y) :: st) u m) : G g M Q pc L (.int y :: .int x :: st) u m :=
  fun p l e s mm args below meth c H locs ls C hW hB hS hl => lv_iadd C.1 C.2.1 hdg  (k p l e s mm args below meth c H locs ls C hW hB hS hl)
theorem g_isub {x y : Int32} (hdg : decode (mC M) pc = .ok (.isub, 1)) (k : G g M Q (pc + 1) L (.int (x - y) :: st) u m) : G g M Q pc L (.int y :: .int x :: st) u m :=
  fun p l e s mm args below meth c H locs ls C hW hB hS hl => lv_isub C.1 C.2.1 hdg  (k p l e s mm args below meth c H locs ls C hW hB hS hl)
theorem g_imul {x y : Int32} (hdg : decode (mC M) pc = .ok (.imul, 1)) (k : G g M Q (pc + 1) L (.int (x * y) :: st) u m) : G g M Q pc L (.int y :: .int x :: st) u m :=
  fun p l e s mm args below meth c H locs ls C hW hB hS hl => lv_imul C.1 C.2.1 hdg  (k p l e s mm args below meth c H locs ls C hW hB hS hl)
theorem g_iand {x y : Int32} (hdg : decode (mC M) pc = .ok (.iand, 1)) (k : G g M Q (pc + 1) L (.int (x &&& y) :: st) u m) : G g M Q pc L (.int y :: .int x :: st) u m :=
  fun p l e s mm args below meth c H locs ls C hW hB hS hl => lv_iand C.1 C.2.1 hdg  (k p l e s mm args below meth c H locs ls C hW hB hS hl)
theorem g_ior {x y : Int32} (hdg : decode (mC M) pc = .ok (.ior, 1)) (k : G g M Q (pc + 1) L (.int (x ||| y) :: st) u m) : G g M Q pc L (.int y :: .int x :: st) u m :=
  fun p l e s mm args below meth c H locs ls C hW hB hS hl => lv_ior C.1 C.2.1 hdg  (k p l e s mm args below meth c H locs ls C hW hB hS hl)
theorem g_ixor {x y : Int32} (hdg : decode (mC M) pc = .ok (.ixor, 1)) (k : G g M Q (pc + 1) L (.int (x ^^^ y) :: st) u m) : G g M Q pc L (.int y :: .int x :: st) u m :=
  fun p l e s mm args below meth c H locs ls C hW hB hS hl => lv_ixor C.1 C.2.1 hdg  (k p l e s mm args below meth c H locs ls C hW hB hS hl)
theorem g_ishl {x y : Int32} (hdg : decode (mC M) pc = .ok (.ishl, 1)) (k : G g M Q (pc + 1) L (.int (x <<< (y &&& 31)) :: st) u m) : G g M Q pc L (.int y :: .int x :: st) u m :=
  fun p l e s mm args below meth c H locs ls C hW hB hS hl => lv_ishl C.1 C.2.1 hdg  (k p l e s mm args below meth c H locs ls C hW hB hS hl)
theorem g_ishr {x y : Int32} (hdg : decode (mC M) pc = .ok (.ishr, 1)) (k : G g M Q (pc + 1) L (.int (x >>> (y &&& 31)) :: st) u m) : G g M Q pc L (.int y :: .int x :: st) u m :=
  fun p l e s mm args below meth c H locs ls C hW hB hS hl => lv_ishr C.1 C.2.1 hdg  (k p l e s mm args below meth c H locs ls C hW hB hS hl)
theorem g_idiv {x y : Int32} (hdg : decode (mC M) pc = .ok (.idiv, 1)) (hne : ¬ y = 0) (k : G g M Q (pc + 1) L (.int (x / y) :: st) u m) : G g M Q pc L (.int y :: .int x :: st) u m :=
  fun p l e s mm args below meth c H locs ls C hW hB hS hl => lv_idiv C.1 C.2.1 hdg hne  (k p l e s mm args below meth c H locs ls C hW hB hS hl)
theorem g_irem {x y : Int32} (hdg : decode (mC M) pc = .ok (.irem, 1)) (hne : ¬ y = 0) (k : G g M Q (pc + 1) L (.int (x - x / y * y) :: st) u m) : G g M Q pc L (.int y :: .int x :: st) u m :=
  fun p l e s mm args below meth c H locs ls C hW hB hS hl => lv_irem C.1 C.2.1 hdg hne  (k p l e s mm args below meth c H locs ls C hW hB hS hl)
theorem g_iushr {x y : Int32} (hdg : decode (mC M) pc = .ok (.iushr, 1)) (k : G g M Q (pc + 1) L (.int (x.toUInt32 >>> (y.toUInt32 &&& Int32.toUInt32 31)).toInt32 :: st) u m) : G g M Q pc L (.int y :: .int x :: st) u m :=
  fun p l e s mm args below meth c H locs ls C hW hB hS hl => lv_iushr C.1 C.2.1 hdg rfl (k p l e s mm args below meth c H locs ls C hW hB hS hl)
theorem g_ladd {x y : Int64} (hdg : decode (mC M) pc = .ok (.ladd, 1)) (k : G g M Q (pc + 1) L (.long (x + y) :: st) u m) : G g M Q pc L (.long y :: .long x :: st) u m :=
  fun p l e s mm args below meth c H locs ls C hW hB hS hl => lv_ladd C.1 C.2.1 hdg  (k p l e s mm args below meth c H locs ls C hW hB hS hl)
theorem g_lsub {x y : Int64} (hdg : decode (mC M) pc = .ok (.lsub, 1)) (k : G g M Q (pc + 1) L (.long (x - y) :: st) u m) : G g M Q pc L (.long y :: .long x :: st) u m :=
  fun p l e s mm args below meth c H locs ls C hW hB hS hl => lv_lsub C.1 C.2.1 hdg  (k p l e s mm args below meth c H locs ls C hW hB hS hl)
theorem g_lmul {x y : Int64} (hdg : decode (mC M) pc = .ok (.lmul, 1)) (k : G g M Q (pc + 1) L (.long (x * y) :: st) u m) : G g M Q pc L (.long y :: .long x :: st) u m :=
  fun p l e s mm args below meth c H locs ls C hW hB hS hl => lv_lmul C.1 C.2.1 hdg  (k p l e s mm args below meth c H locs ls C hW hB hS hl)
theorem g_lshl {x : Int64} {y : Int32} (hdg : decode (mC M) pc = .ok (.lshl, 1)) (k : G g M Q (pc + 1) L (.long (x <<< (y.toInt64 &&& 63)) :: st) u m) : G g M Q pc L (.int y :: .long x :: st) u m :=
  fun p l e s mm args below meth c H locs ls C hW hB hS hl => lv_lshl C.1 C.2.1 hdg rfl (k p l e s mm args below meth c H locs ls C hW hB hS hl)
theorem g_i2l {x : Int32} (hdg : decode (mC M) pc = .ok (.i2l, 1)) (k : G g M Q (pc + 1) L (.long x.toInt64 :: st) u m) : G g M Q pc L (.int x :: st) u m :=
  fun p l e s mm args below meth c H locs ls C hW hB hS hl => lv_i2l C.1 C.2.1 hdg rfl (k p l e s mm args below meth c H locs ls C hW hB hS hl)
theorem g_l2i {x : Int64} (hdg : decode (mC M) pc = .ok (.l2i, 1)) (k : G g M Q (pc + 1) L (.int x.toInt32 :: st) u m) : G g M Q pc L (.long x :: st) u m :=
  fun p l e s mm args below meth c H locs ls C hW hB hS hl => lv_l2i C.1 C.2.1 hdg rfl (k p l e s mm args below meth c H locs ls C hW hB hS hl)
theorem g_lcmp {x y : Int64} (hdg : decode (mC M) pc = .ok (.lcmp, 1)) (k : G g M Q (pc + 1) L (.int (lg_cmp x y) :: st) u m) : G g M Q pc L (.long y :: .long x :: st) u m :=
  fun p l e s mm args below meth c H locs ls C hW hB hS hl => W.lcmp C.1 C.2.1 hdg  (k p l e s mm args below meth c H locs ls C hW hB hS hl)
theorem g_dsub {x y : UInt64} (hdg : decode (mC M) pc = .ok (.dsub, 1)) (hne : vf_n64 (FP.dsub x y)) (k : G g M Q (pc + 1) L (.double (FP.dsub x y) :: st) u m) : G g M Q pc L (.double y :: .double x :: st) u m :=
  fun p l e s mm args below meth c H locs ls C hW hB hS hl => lv_dsub C.1 C.2.1 hdg hne  (k p l e s mm args below meth c H locs ls C hW hB hS hl)
theorem g_dmul {x y : UInt64} (hdg : decode (mC M) pc = .ok (.dmul, 1)) (hne : vf_n64 (FP.dmul x y)) (k : G g M Q (pc + 1) L (.double (FP.dmul x y) :: st) u m) : G g M Q pc L (.double y :: .double x :: st) u m :=
  fun p l e s mm args below meth c H locs ls C hW hB hS hl => lv_dmul C.1 C.2.1 hdg hne  (k p l e s mm args below meth c H locs ls C hW hB hS hl)
theorem g_ddiv {x y : UInt64} (hdg : decode (mC M) pc = .ok (.ddiv, 1)) (hne : vf_n64 (FP.ddiv x y)) (k : G g M Q (pc + 1) L (.double (FP.ddiv x y) :: st) u m) : G g M Q pc L (.double y :: .double x :: st) u m :=
  fun p l e s mm args below meth c H locs ls C hW hB hS hl => lv_ddiv C.1 C.2.1 hdg hne  (k p l e s mm args below meth c H locs ls C hW hB hS hl)
theorem g_fdiv {x y : UInt32} (hdg : decode (mC M) pc = .ok (.fdiv, 1)) (hne : vf_n32 (FP.fdiv x y)) (k : G g M Q (pc + 1) L (.float (FP.fdiv x y) :: st) u m) : G g M Q pc L (.float y :: .float x :: st) u m :=
  fun p l e s mm args below meth c H locs ls C hW hB hS hl => lv_fdiv C.1 C.2.1 hdg hne  (k p l e s mm args below meth c H locs ls C hW hB hS hl)
theorem g_i2f {x : Int32} (hdg : decode (mC M) pc = .ok (.i2f, 1)) (k : G g M Q (pc + 1) L (.float (FP.i2f x) :: st) u m) : G g M Q pc L (.int x :: st) u m :=
  fun p l e s mm args below meth c H locs ls C hW hB hS hl => lv_i2f C.1 C.2.1 hdg  (k p l e s mm args below meth c H locs ls C hW hB hS hl)
theorem g_i2d {x : Int32} (hdg : decode (mC M) pc = .ok (.i2d, 1)) (k : G g M Q (pc + 1) L (.double (FP.i2d x) :: st) u m) : G g M Q pc L (.int x :: st) u m :=
  fun p l e s mm args below meth c H locs ls C hW hB hS hl => lv_i2d C.1 C.2.1 hdg  (k p l e s mm args below meth c H locs ls C hW hB hS hl)
theorem g_l2d {x : Int64} (hdg : decode (mC M) pc = .ok (.l2d, 1)) (k : G g M Q (pc + 1) L (.double (FP.l2d x) :: st) u m) : G g M Q pc L (.long x :: st) u m :=
  fun p l e s mm args below meth c H locs ls C hW hB hS hl => lv_l2d C.1 C.2.1 hdg  (k p l e s mm args below meth c H locs ls C hW hB hS hl)
theorem g_d2l {x : UInt64} (hdg : decode (mC M) pc = .ok (.d2l, 1)) (k : G g M Q (pc + 1) L (.long (FP.d2l x) :: st) u m) : G g M Q pc L (.double x :: st) u m :=
  fun p l e s mm args below meth c H locs ls C hW hB hS hl => lv_d2l C.1 C.2.1 hdg  (k p l e s mm args below meth c H locs ls C hW hB hS hl)
theorem g_f2d {x : UInt32} (hdg : decode (mC M) pc = .ok (.f2d, 1)) (hne : vf_n64 (FP.f2d x)) (k : G g M Q (pc + 1) L (.double (FP.f2d x) :: st) u m) : G g M Q pc L (.float x :: st) u m :=
  fun p l e s mm args below meth c H locs ls C hW hB hS hl => lv_f2d C.1 C.2.1 hdg hne  (k p l e s mm args below meth c H locs ls C hW hB hS hl)
theorem g_dcmp {x y : UInt64} {op : CmpOp} (hdg : decode (mC M) pc = .ok (.dcmp op, 1)) (k : G g M Q (pc + 1) L (.int (Op.cmpValue (FP.dcmp x y) op) :: st) u m) : G g M Q pc L (.double y :: .double x :: st) u m :=
  fun p l e s mm args below meth c H locs ls C hW hB hS hl => lv_dcmp C.1 C.2.1 hdg  (k p l e s mm args below meth c H locs ls C hW hB hS hl)
theorem g_fconst0  (hdg : decode (mC M) pc = .ok (.fconst 0, 1)) (k : G g M Q (pc + 1) L (.float FP.fconst0 :: st) u m) : G g M Q pc L (st) u m :=
  fun p l e s mm args below meth c H locs ls C hW hB hS hl => lv_fconst0 C.1 C.2.1 hdg  (k p l e s mm args below meth c H locs ls C hW hB hS hl)
theorem g_dconst0  (hdg : decode (mC M) pc = .ok (.dconst 0, 1)) (k : G g M Q (pc + 1) L (.double FP.dconst0 :: st) u m) : G g M Q pc L (st) u m :=
  fun p l e s mm args below meth c H locs ls C hW hB hS hl => lv_dconst0 C.1 C.2.1 hdg  (k p l e s mm args below meth c H locs ls C hW hB hS hl)
theorem g_dconst1  (hdg : decode (mC M) pc = .ok (.dconst 1, 1)) (k : G g M Q (pc + 1) L (.double FP.dconst1 :: st) u m) : G g M Q pc L (st) u m :=
  fun p l e s mm args below meth c H locs ls C hW hB hS hl => lv_dconst1 C.1 C.2.1 hdg  (k p l e s mm args below meth c H locs ls C hW hB hS hl)
theorem g_iconst {n : Int} (v : Int32) (hdg : decode (mC M) pc = .ok (.iconst n, 1)) (hv : Int32.ofInt n = v) (k : G g M Q (pc + 1) L (.int v :: st) u m) : G g M Q pc L (st) u m :=
  fun p l e s mm args below meth c H locs ls C hW hB hS hl => lv_iconst C.1 C.2.1 hdg hv  (k p l e s mm args below meth c H locs ls C hW hB hS hl)
theorem g_bipush {n : Int} (v : Int32) (hdg : decode (mC M) pc = .ok (.bipush n, 2)) (hv : (Int8.ofInt n).toInt32 = v) (k : G g M Q (pc + 2) L (.int v :: st) u m) : G g M Q pc L (st) u m :=
  fun p l e s mm args below meth c H locs ls C hW hB hS hl => lv_bipush C.1 C.2.1 hdg hv  (k p l e s mm args below meth c H locs ls C hW hB hS hl)
theorem g_sipush {n : Int} (v : Int32) (hdg : decode (mC M) pc = .ok (.sipush n, 3)) (hv : (Int16.ofInt n).toInt32 = v) (k : G g M Q (pc + 3) L (.int v :: st) u m) : G g M Q pc L (st) u m :=
  fun p l e s mm args below meth c H locs ls C hW hB hS hl => lv_sipush C.1 C.2.1 hdg hv  (k p l e s mm args below meth c H locs ls C hW hB hS hl)
theorem g_lconst {n : Fin 2} (v : Int64) (hdg : decode (mC M) pc = .ok (.lconst n, 1)) (hv : Int64.ofNat (n : Nat) = v) (k : G g M Q (pc + 1) L (.long v :: st) u m) : G g M Q pc L (st) u m :=
  fun p l e s mm args below meth c H locs ls C hW hB hS hl => lv_lconst C.1 C.2.1 hdg hv  (k p l e s mm args below meth c H locs ls C hW hB hS hl)
theorem g_dup {va : Value} (hdg : decode (mC M) pc = .ok (.dup, 1)) (hva : va.category = 1) (k : G g M Q (pc + 1) L (va :: va :: st) u m) : G g M Q pc L (va :: st) u m :=
  fun p l e s mm args below meth c H locs ls C hW hB hS hl => lv_dup C.1 C.2.1 hdg hva  (k p l e s mm args below meth c H locs ls C hW hB hS hl)
theorem g_pop {va : Value} (hdg : decode (mC M) pc = .ok (.pop, 1)) (hva : va.category = 1) (k : G g M Q (pc + 1) L (st) u m) : G g M Q pc L (va :: st) u m :=
  fun p l e s mm args below meth c H locs ls C hW hB hS hl => lv_pop C.1 C.2.1 hdg hva  (k p l e s mm args below meth c H locs ls C hW hB hS hl)
theorem g_dup_x1 {va vb : Value} (hdg : decode (mC M) pc = .ok (.dup_x1, 1)) (hva : va.category = 1) (hvb : vb.category = 1) (k : G g M Q (pc + 1) L (va :: vb :: va :: st) u m) : G g M Q pc L (va :: vb :: st) u m :=
  fun p l e s mm args below meth c H locs ls C hW hB hS hl => lv_dup_x1 C.1 C.2.1 hdg hva hvb  (k p l e s mm args below meth c H locs ls C hW hB hS hl)
theorem g_dup2_11 {va vb : Value} (hdg : decode (mC M) pc = .ok (.dup2, 1)) (hva : va.category = 1) (hvb : vb.category = 1) (k : G g M Q (pc + 1) L (va :: vb :: va :: vb :: st) u m) : G g M Q pc L (va :: vb :: st) u m :=
  fun p l e s mm args below meth c H locs ls C hW hB hS hl => lv_dup2_11 C.1 C.2.1 hdg hva hvb  (k p l e s mm args below meth c H locs ls C hW hB hS hl)
theorem g_dup2_2 {va : Value} (hdg : decode (mC M) pc = .ok (.dup2, 1)) (hva : va.category = 2) (k : G g M Q (pc + 1) L (va :: va :: st) u m) : G g M Q pc L (va :: st) u m :=
  fun p l e s mm args below meth c H locs ls C hW hB hS hl => lv_dup2_2 C.1 C.2.1 hdg hva  (k p l e s mm args below meth c H locs ls C hW hB hS hl)
theorem g_ldc {index : Nat} {v : Int32} (hdg : decode (mC M) pc = .ok (.ldc index, 2)) (hc : Cond.constant (mY M).cls index v ∈ wA) (k : G g M Q (pc + 2) L (.int v :: st) u m) : G g M Q pc L (st) u m :=
  fun p l e s mm args below meth c H locs ls C hW hB hS hl => lv_ldc C.1 C.2.1 C.2.2.2.2.1 (C.2.2.2.2.2.1 _ (List.mem_cons_of_mem _ hc)) hdg (k p l e s mm args below meth c H locs ls C hW hB hS hl)
theorem g_ldc2 {index : Nat} {v : Int64} (hdg : decode (mC M) pc = .ok (.ldc2_w index, 3)) (hc : Cond.constantLong (mY M).cls index v ∈ wA) (k : G g M Q (pc + 3) L (.long v :: st) u m) : G g M Q pc L (st) u m :=
  fun p l e s mm args below meth c H locs ls C hW hB hS hl => lv_ldc2 C.1 C.2.1 C.2.2.2.2.1 (C.2.2.2.2.2.1 _ (List.mem_cons_of_mem _ hc)) hdg (k p l e s mm args below meth c H locs ls C hW hB hS hl)
theorem g_ldc2d {index : Nat} {v : UInt64} (hdg : decode (mC M) pc = .ok (.ldc2_w index, 3)) (hc : Cond.constantDouble (mY M).cls index v ∈ wA) (k : G g M Q (pc + 3) L (.double v :: st) u m) : G g M Q pc L (st) u m :=
  fun p l e s mm args below meth c H locs ls C hW hB hS hl => lv_ldc2d C.1 C.2.1 C.2.2.2.2.1 (C.2.2.2.2.2.1 _ (List.mem_cons_of_mem _ hc)) hdg (k p l e s mm args below meth c H locs ls C hW hB hS hl)
theorem g_ldcw {index : Nat} {v : Int32} (hdg : decode (mC M) pc = .ok (.ldc_w index, 3)) (hc : Cond.constant (mY M).cls index v ∈ wA) (k : G g M Q (pc + 3) L (.int v :: st) u m) : G g M Q pc L (st) u m :=
  fun p l e s mm args below meth c H locs ls C hW hB hS hl => lv_ldcw C.1 C.2.1 C.2.2.2.2.1 (C.2.2.2.2.2.1 _ (List.mem_cons_of_mem _ hc)) hdg (k p l e s mm args below meth c H locs ls C hW hB hS hl)
theorem lk_mem : ∀ {L : List (Nat × Value)} {i : Nat} {v : Value}, L.lookup i = some v → (i, v) ∈ L
  | [], _, _, h => by cases h
  | (j, w) :: r, i, v, h => by
    by_cases e : i = j
    · subst e
      rw [List.lookup_cons_self] at h
      cases h
      exact List.mem_cons_self
    · have e' : (i == j) = false := by simpa using e
      rw [List.lookup_cons, e'] at h
      exact List.mem_cons_of_mem _ (lk_mem h)
theorem g_iload_n {q : Fin 4} (i : Nat) {x : Int32} (hdg : decode (mC M) pc = .ok (.iload_n q, 1)) (hi : (q : Nat) = i) (hv : L.lookup i = some (.int x)) (k : G g M Q (pc + 1) L (.int x :: st) u m) : G g M Q pc L st u m :=
  fun p l e s mm args below meth c H locs ls C hW hB hS hl => lv_iload_n C.1 C.2.1 hdg hi (hl.2.2 _ (lk_mem hv)) (k p l e s mm args below meth c H locs ls C hW hB hS hl)
theorem g_iload (i : Nat) {x : Int32} (hdg : decode (mC M) pc = .ok (.iload i, 2)) (hv : L.lookup i = some (.int x)) (k : G g M Q (pc + 2) L (.int x :: st) u m) : G g M Q pc L st u m :=
  fun p l e s mm args below meth c H locs ls C hW hB hS hl => lv_iload C.1 C.2.1 hdg (hl.2.2 _ (lk_mem hv)) (k p l e s mm args below meth c H locs ls C hW hB hS hl)
theorem g_lload_n {q : Fin 4} (i : Nat) {x : Int64} (hdg : decode (mC M) pc = .ok (.lload_n q, 1)) (hi : (q : Nat) = i) (hv : L.lookup i = some (.long x)) (k : G g M Q (pc + 1) L (.long x :: st) u m) : G g M Q pc L st u m :=
  fun p l e s mm args below meth c H locs ls C hW hB hS hl => lv_lload_n C.1 C.2.1 hdg hi (hl.2.2 _ (lk_mem hv)) (k p l e s mm args below meth c H locs ls C hW hB hS hl)
theorem g_lload (i : Nat) {x : Int64} (hdg : decode (mC M) pc = .ok (.lload i, 2)) (hv : L.lookup i = some (.long x)) (k : G g M Q (pc + 2) L (.long x :: st) u m) : G g M Q pc L st u m :=
  fun p l e s mm args below meth c H locs ls C hW hB hS hl => lv_lload C.1 C.2.1 hdg (hl.2.2 _ (lk_mem hv)) (k p l e s mm args below meth c H locs ls C hW hB hS hl)
theorem g_aload_n {q : Fin 4} (i : Nat) {x : Nat} (hdg : decode (mC M) pc = .ok (.aload_n q, 1)) (hi : (q : Nat) = i) (hv : L.lookup i = some (.ref x)) (k : G g M Q (pc + 1) L (.ref x :: st) u m) : G g M Q pc L st u m :=
  fun p l e s mm args below meth c H locs ls C hW hB hS hl => lv_aload_n C.1 C.2.1 hdg hi (hl.2.2 _ (lk_mem hv)) (k p l e s mm args below meth c H locs ls C hW hB hS hl)
theorem g_aload (i : Nat) {x : Nat} (hdg : decode (mC M) pc = .ok (.aload i, 2)) (hv : L.lookup i = some (.ref x)) (k : G g M Q (pc + 2) L (.ref x :: st) u m) : G g M Q pc L st u m :=
  fun p l e s mm args below meth c H locs ls C hW hB hS hl => lv_aload C.1 C.2.1 hdg (hl.2.2 _ (lk_mem hv)) (k p l e s mm args below meth c H locs ls C hW hB hS hl)
theorem g_fload_n {q : Fin 4} (i : Nat) {x : UInt32} (hdg : decode (mC M) pc = .ok (.fload_n q, 1)) (hi : (q : Nat) = i) (hv : L.lookup i = some (.float x)) (k : G g M Q (pc + 1) L (.float x :: st) u m) : G g M Q pc L st u m :=
  fun p l e s mm args below meth c H locs ls C hW hB hS hl => lv_fload_n C.1 C.2.1 hdg hi (hl.2.2 _ (lk_mem hv)) (k p l e s mm args below meth c H locs ls C hW hB hS hl)
theorem g_fload (i : Nat) {x : UInt32} (hdg : decode (mC M) pc = .ok (.fload i, 2)) (hv : L.lookup i = some (.float x)) (k : G g M Q (pc + 2) L (.float x :: st) u m) : G g M Q pc L st u m :=
  fun p l e s mm args below meth c H locs ls C hW hB hS hl => lv_fload C.1 C.2.1 hdg (hl.2.2 _ (lk_mem hv)) (k p l e s mm args below meth c H locs ls C hW hB hS hl)
theorem g_dload_n {q : Fin 4} (i : Nat) {x : UInt64} (hdg : decode (mC M) pc = .ok (.dload_n q, 1)) (hi : (q : Nat) = i) (hv : L.lookup i = some (.double x)) (k : G g M Q (pc + 1) L (.double x :: st) u m) : G g M Q pc L st u m :=
  fun p l e s mm args below meth c H locs ls C hW hB hS hl => lv_dload_n C.1 C.2.1 hdg hi (hl.2.2 _ (lk_mem hv)) (k p l e s mm args below meth c H locs ls C hW hB hS hl)
theorem g_dload (i : Nat) {x : UInt64} (hdg : decode (mC M) pc = .ok (.dload i, 2)) (hv : L.lookup i = some (.double x)) (k : G g M Q (pc + 2) L (.double x :: st) u m) : G g M Q pc L st u m :=
  fun p l e s mm args below meth c H locs ls C hW hB hS hl => lv_dload C.1 C.2.1 hdg (hl.2.2 _ (lk_mem hv)) (k p l e s mm args below meth c H locs ls C hW hB hS hl)
theorem g_istore_n {q : Fin 4} (i : Nat) {x : Int32} (L1 : List (Nat × Value)) (hdg : decode (mC M) pc = .ok (.istore_n q, 1)) (hi : (q : Nat) = i) (hn : i < mL M) (hL : (i, Value.int x) :: L.filter (fun q => !(q.1 == i) && !(q.1 + 1 == i && q.2.category == 2)) = L1) (k : G g M Q (pc + 1) L1 st u m) : G g M Q pc L (.int x :: st) u m :=
  fun p l e s mm args below meth c H locs ls C hW hB hS hl => lv_istore_n C.1 C.2.1 hdg hi hl hn hL (fun ls2 hl2 => k p l e s mm args below meth c H locs ls2 C hW hB hS hl2)
theorem g_istore (i : Nat) {x : Int32} (L1 : List (Nat × Value)) (hdg : decode (mC M) pc = .ok (.istore i, 2)) (hn : i < mL M) (hL : (i, Value.int x) :: L.filter (fun q => !(q.1 == i) && !(q.1 + 1 == i && q.2.category == 2)) = L1) (k : G g M Q (pc + 2) L1 st u m) : G g M Q pc L (.int x :: st) u m :=
  fun p l e s mm args below meth c H locs ls C hW hB hS hl => lv_istore C.1 C.2.1 hdg hl hn hL (fun ls2 hl2 => k p l e s mm args below meth c H locs ls2 C hW hB hS hl2)
theorem g_astore_n {q : Fin 4} (i : Nat) {x : Nat} (L1 : List (Nat × Value)) (hdg : decode (mC M) pc = .ok (.astore_n q, 1)) (hi : (q : Nat) = i) (hn : i < mL M) (hL : (i, Value.ref x) :: L.filter (fun q => !(q.1 == i) && !(q.1 + 1 == i && q.2.category == 2)) = L1) (k : G g M Q (pc + 1) L1 st u m) : G g M Q pc L (.ref x :: st) u m :=
  fun p l e s mm args below meth c H locs ls C hW hB hS hl => lv_astore_n C.1 C.2.1 hdg hi hl hn hL (fun ls2 hl2 => k p l e s mm args below meth c H locs ls2 C hW hB hS hl2)
theorem g_astore (i : Nat) {x : Nat} (L1 : List (Nat × Value)) (hdg : decode (mC M) pc = .ok (.astore i, 2)) (hn : i < mL M) (hL : (i, Value.ref x) :: L.filter (fun q => !(q.1 == i) && !(q.1 + 1 == i && q.2.category == 2)) = L1) (k : G g M Q (pc + 2) L1 st u m) : G g M Q pc L (.ref x :: st) u m :=
  fun p l e s mm args below meth c H locs ls C hW hB hS hl => lv_astore C.1 C.2.1 hdg hl hn hL (fun ls2 hl2 => k p l e s mm args below meth c H locs ls2 C hW hB hS hl2)
theorem g_lstore_n {q : Fin 4} (i : Nat) {x : Int64} (L1 : List (Nat × Value)) (hdg : decode (mC M) pc = .ok (.lstore_n q, 1)) (hi : (q : Nat) = i) (hn : i + 1 < mL M) (hL : (i, Value.long x) :: L.filter (fun q => !(q.1 == i) && (!(q.1 == i + 1) && !(q.1 + 1 == i && q.2.category == 2))) = L1) (k : G g M Q (pc + 1) L1 st u m) : G g M Q pc L (.long x :: st) u m :=
  fun p l e s mm args below meth c H locs ls C hW hB hS hl => lv_lstore_n C.1 C.2.1 hdg hi hl hn hL (fun ls2 hl2 => k p l e s mm args below meth c H locs ls2 C hW hB hS hl2)
theorem g_lstore (i : Nat) {x : Int64} (L1 : List (Nat × Value)) (hdg : decode (mC M) pc = .ok (.lstore i, 2)) (hn : i + 1 < mL M) (hL : (i, Value.long x) :: L.filter (fun q => !(q.1 == i) && (!(q.1 == i + 1) && !(q.1 + 1 == i && q.2.category == 2))) = L1) (k : G g M Q (pc + 2) L1 st u m) : G g M Q pc L (.long x :: st) u m :=
  fun p l e s mm args below meth c H locs ls C hW hB hS hl => lv_lstore C.1 C.2.1 hdg hl hn hL (fun ls2 hl2 => k p l e s mm args below meth c H locs ls2 C hW hB hS hl2)
theorem g_dstore_n {q : Fin 4} (i : Nat) {x : UInt64} (L1 : List (Nat × Value)) (hdg : decode (mC M) pc = .ok (.dstore_n q, 1)) (hi : (q : Nat) = i) (hn : i + 1 < mL M) (hL : (i, Value.double x) :: L.filter (fun q => !(q.1 == i) && (!(q.1 == i + 1) && !(q.1 + 1 == i && q.2.category == 2))) = L1) (k : G g M Q (pc + 1) L1 st u m) : G g M Q pc L (.double x :: st) u m :=
  fun p l e s mm args below meth c H locs ls C hW hB hS hl => lv_dstore_n C.1 C.2.1 hdg hi hl hn hL (fun ls2 hl2 => k p l e s mm args below meth c H locs ls2 C hW hB hS hl2)
theorem g_dstore (i : Nat) {x : UInt64} (L1 : List (Nat × Value)) (hdg : decode (mC M) pc = .ok (.dstore i, 2)) (hn : i + 1 < mL M) (hL : (i, Value.double x) :: L.filter (fun q => !(q.1 == i) && (!(q.1 == i + 1) && !(q.1 + 1 == i && q.2.category == 2))) = L1) (k : G g M Q (pc + 2) L1 st u m) : G g M Q pc L (.double x :: st) u m :=
  fun p l e s mm args below meth c H locs ls C hW hB hS hl => lv_dstore C.1 C.2.1 hdg hl hn hL (fun ls2 hl2 => k p l e s mm args below meth c H locs ls2 C hW hB hS hl2)
theorem g_iinc (i : Nat) {n : Int} {x : Int32} (v : Int32) (j : Nat) (L1 : List (Nat × Value)) (hdg : decode (mC M) pc = .ok (.iinc i n, 3)) (hk : L[j]? = some (i, .int x)) (hv : x + Int32.ofInt n = v) (hn : i < mL M) (hL : (i, Value.int v) :: L.filter (fun q => !(q.1 == i) && !(q.1 + 1 == i && q.2.category == 2)) = L1) (k : G g M Q (pc + 3) L1 st u m) : G g M Q pc L st u m :=
  fun p l e s mm args below meth c H locs ls C hW hB hS hl => lv_iinc C.1 C.2.1 hdg hl hk hv hn hL (fun ls2 hl2 => k p l e s mm args below meth c H locs ls2 C hW hB hS hl2)
theorem g_sub {L1 : List (Nat × Value)} (hL : ∀ q ∈ L1, q ∈ L) (k : G g M Q pc L1 st u m) : G g M Q pc L st u m :=
  fun p l e s mm args below meth c H locs ls C hW hB hS hl => k p l e s mm args below meth c H locs ls C hW hB hS ⟨hl.1, hl.2.1, fun q hq => hl.2.2 q (hL q hq)⟩
theorem g_topi {x : Int32} (k : ∀ y : Int32, y = x → G g M Q pc L (.int y :: st) u m) : G g M Q pc L (.int x :: st) u m := k x rfl
theorem g_topl {x : Int64} (k : ∀ y : Int64, y = x → G g M Q pc L (.long y :: st) u m) : G g M Q pc L (.long x :: st) u m := k x rfl
theorem g_ei {x : Int32} (y : Int32) (h : x = y) (k : G g M Q pc L (.int y :: st) u m) : G g M Q pc L (.int x :: st) u m := by subst h; exact k
theorem g_mem {m1 : Mm} (h : m = m1) (k : G g M Q pc L st u m1) : G g M Q pc L st u m := by subst h; exact k
theorem g_if_eq {x : Int32} {off : Int} (tgt : Nat) (hdg : decode (mC M) pc = .ok (.ifCond .eq off, 3)) (ht : (pc : Int) + off = (tgt : Int)) (kt : x = 0 → G g M Q tgt L st u m) (kf : ¬ x = 0 → G g M Q (pc + 3) L st u m) : G g M Q pc L (.int x :: st) u m :=
  fun p l e s mm args below meth c H locs ls C hW hB hS hl => lv_if_eq C.1 C.2.1 hdg ht (fun h => kt h p l e s mm args below meth c H locs ls C hW hB hS hl) (fun h => kf h p l e s mm args below meth c H locs ls C hW hB hS hl)
theorem g_if_ne {x : Int32} {off : Int} (tgt : Nat) (hdg : decode (mC M) pc = .ok (.ifCond .ne off, 3)) (ht : (pc : Int) + off = (tgt : Int)) (kt : ¬ x = 0 → G g M Q tgt L st u m) (kf : x = 0 → G g M Q (pc + 3) L st u m) : G g M Q pc L (.int x :: st) u m :=
  fun p l e s mm args below meth c H locs ls C hW hB hS hl => lv_if_ne C.1 C.2.1 hdg ht (fun h => kt h p l e s mm args below meth c H locs ls C hW hB hS hl) (fun h => kf h p l e s mm args below meth c H locs ls C hW hB hS hl)
theorem g_if_lt {x : Int32} {off : Int} (tgt : Nat) (hdg : decode (mC M) pc = .ok (.ifCond .lt off, 3)) (ht : (pc : Int) + off = (tgt : Int)) (kt : x < 0 → G g M Q tgt L st u m) (kf : ¬ x < 0 → G g M Q (pc + 3) L st u m) : G g M Q pc L (.int x :: st) u m :=
  fun p l e s mm args below meth c H locs ls C hW hB hS hl => lv_if_lt C.1 C.2.1 hdg ht (fun h => kt h p l e s mm args below meth c H locs ls C hW hB hS hl) (fun h => kf h p l e s mm args below meth c H locs ls C hW hB hS hl)
theorem g_if_ge {x : Int32} {off : Int} (tgt : Nat) (hdg : decode (mC M) pc = .ok (.ifCond .ge off, 3)) (ht : (pc : Int) + off = (tgt : Int)) (kt : 0 ≤ x → G g M Q tgt L st u m) (kf : ¬ 0 ≤ x → G g M Q (pc + 3) L st u m) : G g M Q pc L (.int x :: st) u m :=
  fun p l e s mm args below meth c H locs ls C hW hB hS hl => lv_if_ge C.1 C.2.1 hdg ht (fun h => kt h p l e s mm args below meth c H locs ls C hW hB hS hl) (fun h => kf h p l e s mm args below meth c H locs ls C hW hB hS hl)
theorem g_if_gt {x : Int32} {off : Int} (tgt : Nat) (hdg : decode (mC M) pc = .ok (.ifCond .gt off, 3)) (ht : (pc : Int) + off = (tgt : Int)) (kt : 0 < x → G g M Q tgt L st u m) (kf : ¬ 0 < x → G g M Q (pc + 3) L st u m) : G g M Q pc L (.int x :: st) u m :=
  fun p l e s mm args below meth c H locs ls C hW hB hS hl => lv_if_gt C.1 C.2.1 hdg ht (fun h => kt h p l e s mm args below meth c H locs ls C hW hB hS hl) (fun h => kf h p l e s mm args below meth c H locs ls C hW hB hS hl)
theorem g_if_le {x : Int32} {off : Int} (tgt : Nat) (hdg : decode (mC M) pc = .ok (.ifCond .le off, 3)) (ht : (pc : Int) + off = (tgt : Int)) (kt : x ≤ 0 → G g M Q tgt L st u m) (kf : ¬ x ≤ 0 → G g M Q (pc + 3) L st u m) : G g M Q pc L (.int x :: st) u m :=
  fun p l e s mm args below meth c H locs ls C hW hB hS hl => lv_if_le C.1 C.2.1 hdg ht (fun h => kt h p l e s mm args below meth c H locs ls C hW hB hS hl) (fun h => kf h p l e s mm args below meth c H locs ls C hW hB hS hl)
theorem g_icmp_eq {x y : Int32} {off : Int} (tgt : Nat) (hdg : decode (mC M) pc = .ok (.if_icmp .eq off, 3)) (ht : (pc : Int) + off = (tgt : Int)) (kt : x = y → G g M Q tgt L st u m) (kf : ¬ x = y → G g M Q (pc + 3) L st u m) : G g M Q pc L (.int y :: .int x :: st) u m :=
  fun p l e s mm args below meth c H locs ls C hW hB hS hl => lv_icmp_eq C.1 C.2.1 hdg ht (fun h => kt h p l e s mm args below meth c H locs ls C hW hB hS hl) (fun h => kf h p l e s mm args below meth c H locs ls C hW hB hS hl)
theorem g_icmp_ne {x y : Int32} {off : Int} (tgt : Nat) (hdg : decode (mC M) pc = .ok (.if_icmp .ne off, 3)) (ht : (pc : Int) + off = (tgt : Int)) (kt : ¬ x = y → G g M Q tgt L st u m) (kf : x = y → G g M Q (pc + 3) L st u m) : G g M Q pc L (.int y :: .int x :: st) u m :=
  fun p l e s mm args below meth c H locs ls C hW hB hS hl => lv_icmp_ne C.1 C.2.1 hdg ht (fun h => kt h p l e s mm args below meth c H locs ls C hW hB hS hl) (fun h => kf h p l e s mm args below meth c H locs ls C hW hB hS hl)
theorem g_icmp_lt {x y : Int32} {off : Int} (tgt : Nat) (hdg : decode (mC M) pc = .ok (.if_icmp .lt off, 3)) (ht : (pc : Int) + off = (tgt : Int)) (kt : x < y → G g M Q tgt L st u m) (kf : ¬ x < y → G g M Q (pc + 3) L st u m) : G g M Q pc L (.int y :: .int x :: st) u m :=
  fun p l e s mm args below meth c H locs ls C hW hB hS hl => lv_icmp_lt C.1 C.2.1 hdg ht (fun h => kt h p l e s mm args below meth c H locs ls C hW hB hS hl) (fun h => kf h p l e s mm args below meth c H locs ls C hW hB hS hl)
theorem g_icmp_ge {x y : Int32} {off : Int} (tgt : Nat) (hdg : decode (mC M) pc = .ok (.if_icmp .ge off, 3)) (ht : (pc : Int) + off = (tgt : Int)) (kt : y ≤ x → G g M Q tgt L st u m) (kf : ¬ y ≤ x → G g M Q (pc + 3) L st u m) : G g M Q pc L (.int y :: .int x :: st) u m :=
  fun p l e s mm args below meth c H locs ls C hW hB hS hl => lv_icmp_ge C.1 C.2.1 hdg ht (fun h => kt h p l e s mm args below meth c H locs ls C hW hB hS hl) (fun h => kf h p l e s mm args below meth c H locs ls C hW hB hS hl)
theorem g_icmp_gt {x y : Int32} {off : Int} (tgt : Nat) (hdg : decode (mC M) pc = .ok (.if_icmp .gt off, 3)) (ht : (pc : Int) + off = (tgt : Int)) (kt : y < x → G g M Q tgt L st u m) (kf : ¬ y < x → G g M Q (pc + 3) L st u m) : G g M Q pc L (.int y :: .int x :: st) u m :=
  fun p l e s mm args below meth c H locs ls C hW hB hS hl => lv_icmp_gt C.1 C.2.1 hdg ht (fun h => kt h p l e s mm args below meth c H locs ls C hW hB hS hl) (fun h => kf h p l e s mm args below meth c H locs ls C hW hB hS hl)
theorem g_icmp_le {x y : Int32} {off : Int} (tgt : Nat) (hdg : decode (mC M) pc = .ok (.if_icmp .le off, 3)) (ht : (pc : Int) + off = (tgt : Int)) (kt : x ≤ y → G g M Q tgt L st u m) (kf : ¬ x ≤ y → G g M Q (pc + 3) L st u m) : G g M Q pc L (.int y :: .int x :: st) u m :=
  fun p l e s mm args below meth c H locs ls C hW hB hS hl => lv_icmp_le C.1 C.2.1 hdg ht (fun h => kt h p l e s mm args below meth c H locs ls C hW hB hS hl) (fun h => kf h p l e s mm args below meth c H locs ls C hW hB hS hl)
theorem g_goto {off : Int} (tgt : Nat) (hdg : decode (mC M) pc = .ok (.goto off, 3)) (ht : (pc : Int) + off = (tgt : Int)) (k : G g M Q tgt L st u m) : G g M Q pc L st u m :=
  fun p l e s mm args below meth c H locs ls C hW hB hS hl => lv_goto C.1 C.2.1 hdg ht (k p l e s mm args below meth c H locs ls C hW hB hS hl)
theorem g_tableOut {dflt lo hi : Int} {offs : Array Int} {len : Nat} {x : Int32} (tgt : Nat) (hdg : decode (mC M) pc = .ok (.tableswitch dflt lo hi offs, len)) (h : x.toInt < lo ∨ hi < x.toInt) (ht : (pc : Int) + dflt = (tgt : Int)) (k : G g M Q tgt L st u m) : G g M Q pc L (.int x :: st) u m :=
  fun p l e s mm args below meth c H locs ls C hW hB hS hl => lv_tableOut C.1 C.2.1 hdg h ht (k p l e s mm args below meth c H locs ls C hW hB hS hl)
theorem g_tableIn {dflt lo hi : Int} {offs : Array Int} {len : Nat} {x : Int32} {off : Int} (tgt : Nat) (hdg : decode (mC M) pc = .ok (.tableswitch dflt lo hi offs, len)) (h1 : ¬ x.toInt < lo) (h2 : ¬ hi < x.toInt) (ho : offs[(x.toInt - lo).toNat]? = some off) (ht : (pc : Int) + off = (tgt : Int)) (k : G g M Q tgt L st u m) : G g M Q pc L (.int x :: st) u m :=
  fun p l e s mm args below meth c H locs ls C hW hB hS hl => lv_tableIn C.1 C.2.1 hdg h1 h2 ho ht (k p l e s mm args below meth c H locs ls C hW hB hS hl)
theorem g_lookup {dflt : Int} {ps : Array (Int × Int)} {len : Nat} {x : Int32} {off : Int} (tgt : Nat) (hdg : decode (mC M) pc = .ok (.lookupswitch dflt ps, len)) (hp : (ps.toList.zip (ps.toList.drop 1)).all (fun (a, next) => a.1 < next.1) = true) (ho : Op.lookupswitch.offset ps.toList dflt x.toInt = off) (ht : (pc : Int) + off = (tgt : Int)) (k : G g M Q tgt L st u m) : G g M Q pc L (.int x :: st) u m :=
  fun p l e s mm args below meth c H locs ls C hW hB hS hl => lv_lookup C.1 C.2.1 hdg hp ho ht (k p l e s mm args below meth c H locs ls C hW hB hS hl)
theorem g_iret {v : Int32} (hT : mT M = some .int) (hdg : decode (mC M) pc = .ok (.ireturn, 1)) (hu : u.1 ≤ (mR M).cells ∧ u.2 ≤ (mR M).slots) (hq : Q (.inl (some (.int v))) m) : G g M Q pc L [.int v] u m :=
  fun p l e s mm args below meth c H locs ls C hW hB hS hl => W.widen hu.1 hu.2 (vx_ret (W.iret C.1 C.2.1 (C.2.2.1.trans hT) (fun t ht hwm => ⟨_, m, rfl, hq, by rw [ht]; exact hW.moved hwm.alike, hS.F ht⟩) hS.2.2 hdg C.2.2.2.2.2.2.1))
theorem g_lret {v : Int64} (hT : mT M = some .long) (hdg : decode (mC M) pc = .ok (.lreturn, 1)) (hu : u.1 ≤ (mR M).cells ∧ u.2 ≤ (mR M).slots) (hq : Q (.inl (some (.long v))) m) : G g M Q pc L [.long v] u m :=
  fun p l e s mm args below meth c H locs ls C hW hB hS hl => W.widen hu.1 hu.2 (vx_ret (W.lret C.1 C.2.1 (C.2.2.1.trans hT) (fun t ht hwm => ⟨_, m, rfl, hq, by rw [ht]; exact hW.moved hwm.alike, hS.F ht⟩) hS.2.2 hdg C.2.2.2.2.2.2.1))
theorem g_dret {v : UInt64} (hT : mT M = some .double) (hdg : decode (mC M) pc = .ok (.dreturn, 1)) (hu : u.1 ≤ (mR M).cells ∧ u.2 ≤ (mR M).slots) (hq : Q (.inl (some (.double v))) m) : G g M Q pc L [.double v] u m :=
  fun p l e s mm args below meth c H locs ls C hW hB hS hl => W.widen hu.1 hu.2 (vx_ret (W.dret C.1 C.2.1 (C.2.2.1.trans hT) (fun t ht hwm => ⟨_, m, rfl, hq, by rw [ht]; exact hW.moved hwm.alike, hS.F ht⟩) hS.2.2 hdg C.2.2.2.2.2.2.1))
theorem g_fret {v : UInt32} (hT : mT M = some .float) (hdg : decode (mC M) pc = .ok (.freturn, 1)) (hu : u.1 ≤ (mR M).cells ∧ u.2 ≤ (mR M).slots) (hq : Q (.inl (some (.float v))) m) : G g M Q pc L [.float v] u m :=
  fun p l e s mm args below meth c H locs ls C hW hB hS hl => W.widen hu.1 hu.2 (vx_ret (W.fret C.1 C.2.1 (C.2.2.1.trans hT) (fun t ht hwm => ⟨_, m, rfl, hq, by rw [ht]; exact hW.moved hwm.alike, hS.F ht⟩) hS.2.2 hdg C.2.2.2.2.2.2.1))
theorem g_zret {v : Int32} {ty : FieldType} (hT : mT M = some ty) (hz : narrow ty (.int v) = .int v) (hdg : decode (mC M) pc = .ok (.ireturn, 1)) (hu : u.1 ≤ (mR M).cells ∧ u.2 ≤ (mR M).slots) (hq : Q (.inl (some (.int v))) m) : G g M Q pc L [.int v] u m :=
  fun p l e s mm args below meth c H locs ls C hW hB hS hl => W.widen hu.1 hu.2 (vx_ret (W.zret C.1 C.2.1 (C.2.2.1.trans hT) hz (fun t ht hwm => ⟨_, m, rfl, hq, by rw [ht]; exact hW.moved hwm.alike, hS.F ht⟩) hS.2.2 hdg C.2.2.2.2.2.2.1))
theorem g_vret (hT : mT M = none) (hdg : decode (mC M) pc = .ok (.return_, 1)) (hu : u.1 ≤ (mR M).cells ∧ u.2 ≤ (mR M).slots) (hq : Q (.inl none) m) : G g M Q pc L [] u m :=
  fun p l e s mm args below meth c H locs ls C hW hB hS hl => W.widen hu.1 hu.2 (vx_ret (W.vret C.1 C.2.1 (C.2.2.1.trans hT) (fun t ht hwm => ⟨_, m, rfl, hq, by rw [ht]; exact hW.moved hwm.alike, hS.F ht⟩) hS.2.2 hdg C.2.2.2.2.2.2.1))
end GROWS
