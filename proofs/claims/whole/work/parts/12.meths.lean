/-! THE METHODS: name, code, locals, answer, room (cs: cells and slots); their words; the links of the calls. -/
def MX0_init (cs : Nat × Nat) : MI := (yX0_init, cX0_init, 2, none, { frames := 1, locals := 20, cells := cs.1, slots := cs.2 })
theorem ok_X0_init (cs : Nat × Nat) : fm_M (MX0_init cs) 1 := ⟨show Cond.code yX0_init cX0_init 2 none ∈ wA from wA_i 180 (by decide +kernel) rfl, show Cond.initialized RX0 ∈ wA from wA_i 61 (by decide +kernel) rfl, show (yX0_init.cls ≠ "java/lang/invoke/MethodHandle" ∧ yX0_init.cls ≠ "java/lang/invoke/VarHandle" ∧ (parseMethodDescriptor yX0_init.desc).map (fun d => d.parameters.length) = some 1) from by decide +kernel⟩
theorem in_X0_init : Cond.instanceMethod yX0_init ∈ wA := wA_i 179 (by decide +kernel) rfl
def MX0_copyFrom (cs : Nat × Nat) : MI := (yX0_copyFrom, cX0_copyFrom, 2, none, { frames := 0, locals := 0, cells := cs.1, slots := cs.2 })
theorem ok_X0_copyFrom (cs : Nat × Nat) : fm_M (MX0_copyFrom cs) 1 := ⟨show Cond.code yX0_copyFrom cX0_copyFrom 2 none ∈ wA from wA_i 684 (by decide +kernel) rfl, show Cond.initialized RX0 ∈ wA from wA_i 61 (by decide +kernel) rfl, show (yX0_copyFrom.cls ≠ "java/lang/invoke/MethodHandle" ∧ yX0_copyFrom.cls ≠ "java/lang/invoke/VarHandle" ∧ (parseMethodDescriptor yX0_copyFrom.desc).map (fun d => d.parameters.length) = some 1) from by decide +kernel⟩
theorem in_X0_copyFrom : Cond.instanceMethod yX0_copyFrom ∈ wA := wA_i 682 (by decide +kernel) rfl
theorem se_X0_copyFrom : Cond.selects RX0 yX0_copyFrom yX0_copyFrom ∈ wA := wA_i 683 (by decide +kernel) rfl
def MX1_init (cs : Nat × Nat) : MI := (yX1_init, cX1_init, 1, none, { frames := 1, locals := 20, cells := cs.1, slots := cs.2 })
theorem ok_X1_init (cs : Nat × Nat) : fm_M (MX1_init cs) 0 := ⟨show Cond.code yX1_init cX1_init 1 none ∈ wA from wA_i 321 (by decide +kernel) rfl, show Cond.initialized RX1 ∈ wA from wA_i 65 (by decide +kernel) rfl, show (yX1_init.cls ≠ "java/lang/invoke/MethodHandle" ∧ yX1_init.cls ≠ "java/lang/invoke/VarHandle" ∧ (parseMethodDescriptor yX1_init.desc).map (fun d => d.parameters.length) = some 0) from by decide +kernel⟩
theorem in_X1_init : Cond.instanceMethod yX1_init ∈ wA := wA_i 320 (by decide +kernel) rfl
def MX1_isLetter (cs : Nat × Nat) : MI := (yX1_isLetter, cX1_isLetter, 1, (some .boolean), { frames := 0, locals := 0, cells := cs.1, slots := cs.2 })
theorem ok_X1_isLetter (cs : Nat × Nat) : fm_M (MX1_isLetter cs) 1 := ⟨show Cond.code yX1_isLetter cX1_isLetter 1 (some .boolean) ∈ wA from wA_i 356 (by decide +kernel) rfl, show Cond.initialized RX1 ∈ wA from wA_i 65 (by decide +kernel) rfl, show (yX1_isLetter.cls ≠ "java/lang/invoke/MethodHandle" ∧ yX1_isLetter.cls ≠ "java/lang/invoke/VarHandle" ∧ (parseMethodDescriptor yX1_isLetter.desc).map (fun d => d.parameters.length) = some 1) from by decide +kernel⟩
theorem st_X1_isLetter : Cond.static yX1_isLetter ∈ wA := wA_i 355 (by decide +kernel) rfl
def MX1_firstFault (cs : Nat × Nat) : MI := (yX1_firstFault, cX1_firstFault, 3, (some .int), { frames := 1, locals := 20, cells := cs.1, slots := cs.2 })
theorem ok_X1_firstFault (cs : Nat × Nat) : fm_M (MX1_firstFault cs) 0 := ⟨show Cond.code yX1_firstFault cX1_firstFault 3 (some .int) ∈ wA from wA_i 353 (by decide +kernel) rfl, show Cond.initialized RX1 ∈ wA from wA_i 65 (by decide +kernel) rfl, show (yX1_firstFault.cls ≠ "java/lang/invoke/MethodHandle" ∧ yX1_firstFault.cls ≠ "java/lang/invoke/VarHandle" ∧ (parseMethodDescriptor yX1_firstFault.desc).map (fun d => d.parameters.length) = some 0) from by decide +kernel⟩
theorem in_X1_firstFault : Cond.instanceMethod yX1_firstFault ∈ wA := wA_i 351 (by decide +kernel) rfl
theorem se_X1_firstFault : Cond.selects RX1 yX1_firstFault yX1_firstFault ∈ wA := wA_i 352 (by decide +kernel) rfl
def MX1_isComplete (cs : Nat × Nat) : MI := (yX1_isComplete, cX1_isComplete, 1, (some .boolean), { frames := 2, locals := 42, cells := cs.1, slots := cs.2 })
theorem ok_X1_isComplete (cs : Nat × Nat) : fm_M (MX1_isComplete cs) 0 := ⟨show Cond.code yX1_isComplete cX1_isComplete 1 (some .boolean) ∈ wA from wA_i 816 (by decide +kernel) rfl, show Cond.initialized RX1 ∈ wA from wA_i 65 (by decide +kernel) rfl, show (yX1_isComplete.cls ≠ "java/lang/invoke/MethodHandle" ∧ yX1_isComplete.cls ≠ "java/lang/invoke/VarHandle" ∧ (parseMethodDescriptor yX1_isComplete.desc).map (fun d => d.parameters.length) = some 0) from by decide +kernel⟩
theorem in_X1_isComplete : Cond.instanceMethod yX1_isComplete ∈ wA := wA_i 814 (by decide +kernel) rfl
theorem se_X1_isComplete : Cond.selects RX1 yX1_isComplete yX1_isComplete ∈ wA := wA_i 815 (by decide +kernel) rfl
def MX1_rowCount (cs : Nat × Nat) : MI := (yX1_rowCount, cX1_rowCount, 3, (some .int), { frames := 1, locals := 20, cells := cs.1, slots := cs.2 })
theorem ok_X1_rowCount (cs : Nat × Nat) : fm_M (MX1_rowCount cs) 0 := ⟨show Cond.code yX1_rowCount cX1_rowCount 3 (some .int) ∈ wA from wA_i 825 (by decide +kernel) rfl, show Cond.initialized RX1 ∈ wA from wA_i 65 (by decide +kernel) rfl, show (yX1_rowCount.cls ≠ "java/lang/invoke/MethodHandle" ∧ yX1_rowCount.cls ≠ "java/lang/invoke/VarHandle" ∧ (parseMethodDescriptor yX1_rowCount.desc).map (fun d => d.parameters.length) = some 0) from by decide +kernel⟩
theorem in_X1_rowCount : Cond.instanceMethod yX1_rowCount ∈ wA := wA_i 823 (by decide +kernel) rfl
theorem se_X1_rowCount : Cond.selects RX1 yX1_rowCount yX1_rowCount ∈ wA := wA_i 824 (by decide +kernel) rfl
def MX1_endOfRow (cs : Nat × Nat) : MI := (yX1_endOfRow, cX1_endOfRow, 3, (some .int), { frames := 0, locals := 0, cells := cs.1, slots := cs.2 })
theorem ok_X1_endOfRow (cs : Nat × Nat) : fm_M (MX1_endOfRow cs) 1 := ⟨show Cond.code yX1_endOfRow cX1_endOfRow 3 (some .int) ∈ wA from wA_i 830 (by decide +kernel) rfl, show Cond.initialized RX1 ∈ wA from wA_i 65 (by decide +kernel) rfl, show (yX1_endOfRow.cls ≠ "java/lang/invoke/MethodHandle" ∧ yX1_endOfRow.cls ≠ "java/lang/invoke/VarHandle" ∧ (parseMethodDescriptor yX1_endOfRow.desc).map (fun d => d.parameters.length) = some 1) from by decide +kernel⟩
theorem in_X1_endOfRow : Cond.instanceMethod yX1_endOfRow ∈ wA := wA_i 828 (by decide +kernel) rfl
theorem se_X1_endOfRow : Cond.selects RX1 yX1_endOfRow yX1_endOfRow ∈ wA := wA_i 829 (by decide +kernel) rfl
def MX2_init (cs : Nat × Nat) : MI := (yX2_init, cX2_init, 2, none, { frames := 3, locals := 69, cells := cs.1, slots := cs.2 })
theorem ok_X2_init (cs : Nat × Nat) : fm_M (MX2_init cs) 0 := ⟨show Cond.code yX2_init cX2_init 2 none ∈ wA from wA_i 301 (by decide +kernel) rfl, show Cond.initialized RX2 ∈ wA from wA_i 64 (by decide +kernel) rfl, show (yX2_init.cls ≠ "java/lang/invoke/MethodHandle" ∧ yX2_init.cls ≠ "java/lang/invoke/VarHandle" ∧ (parseMethodDescriptor yX2_init.desc).map (fun d => d.parameters.length) = some 0) from by decide +kernel⟩
theorem in_X2_init : Cond.instanceMethod yX2_init ∈ wA := wA_i 300 (by decide +kernel) rfl
def MX2_save (cs : Nat × Nat) : MI := (yX2_save, cX2_save, 2, none, { frames := 3, locals := 103, cells := cs.1, slots := cs.2 })
theorem ok_X2_save (cs : Nat × Nat) : fm_M (MX2_save cs) 1 := ⟨show Cond.code yX2_save cX2_save 2 none ∈ wA from wA_i 669 (by decide +kernel) rfl, show Cond.initialized RX2 ∈ wA from wA_i 64 (by decide +kernel) rfl, show (yX2_save.cls ≠ "java/lang/invoke/MethodHandle" ∧ yX2_save.cls ≠ "java/lang/invoke/VarHandle" ∧ (parseMethodDescriptor yX2_save.desc).map (fun d => d.parameters.length) = some 1) from by decide +kernel⟩
theorem in_X2_save : Cond.instanceMethod yX2_save ∈ wA := wA_i 667 (by decide +kernel) rfl
theorem se_X2_save : Cond.selects RX2 yX2_save yX2_save ∈ wA := wA_i 668 (by decide +kernel) rfl
def MX2_restore (cs : Nat × Nat) : MI := (yX2_restore, cX2_restore, 2, none, { frames := 3, locals := 103, cells := cs.1, slots := cs.2 })
theorem ok_X2_restore (cs : Nat × Nat) : fm_M (MX2_restore cs) 1 := ⟨show Cond.code yX2_restore cX2_restore 2 none ∈ wA from wA_i 863 (by decide +kernel) rfl, show Cond.initialized RX2 ∈ wA from wA_i 64 (by decide +kernel) rfl, show (yX2_restore.cls ≠ "java/lang/invoke/MethodHandle" ∧ yX2_restore.cls ≠ "java/lang/invoke/VarHandle" ∧ (parseMethodDescriptor yX2_restore.desc).map (fun d => d.parameters.length) = some 1) from by decide +kernel⟩
theorem in_X2_restore : Cond.instanceMethod yX2_restore ∈ wA := wA_i 861 (by decide +kernel) rfl
theorem se_X2_restore : Cond.selects RX2 yX2_restore yX2_restore ∈ wA := wA_i 862 (by decide +kernel) rfl
def MX3_init (cs : Nat × Nat) : MI := (yX3_init, cX3_init, 3, none, { frames := 1, locals := 20, cells := cs.1, slots := cs.2 })
theorem ok_X3_init (cs : Nat × Nat) : fm_M (MX3_init cs) 1 := ⟨show Cond.code yX3_init cX3_init 3 none ∈ wA from wA_i 131 (by decide +kernel) rfl, show Cond.initialized RX3 ∈ wA from wA_i 59 (by decide +kernel) rfl, show (yX3_init.cls ≠ "java/lang/invoke/MethodHandle" ∧ yX3_init.cls ≠ "java/lang/invoke/VarHandle" ∧ (parseMethodDescriptor yX3_init.desc).map (fun d => d.parameters.length) = some 1) from by decide +kernel⟩
theorem in_X3_init : Cond.instanceMethod yX3_init ∈ wA := wA_i 130 (by decide +kernel) rfl
def MX3_copyFrom (cs : Nat × Nat) : MI := (yX3_copyFrom, cX3_copyFrom, 3, none, { frames := 0, locals := 0, cells := cs.1, slots := cs.2 })
theorem ok_X3_copyFrom (cs : Nat × Nat) : fm_M (MX3_copyFrom cs) 1 := ⟨show Cond.code yX3_copyFrom cX3_copyFrom 3 none ∈ wA from wA_i 697 (by decide +kernel) rfl, show Cond.initialized RX3 ∈ wA from wA_i 59 (by decide +kernel) rfl, show (yX3_copyFrom.cls ≠ "java/lang/invoke/MethodHandle" ∧ yX3_copyFrom.cls ≠ "java/lang/invoke/VarHandle" ∧ (parseMethodDescriptor yX3_copyFrom.desc).map (fun d => d.parameters.length) = some 1) from by decide +kernel⟩
theorem in_X3_copyFrom : Cond.instanceMethod yX3_copyFrom ∈ wA := wA_i 695 (by decide +kernel) rfl
theorem se_X3_copyFrom : Cond.selects RX3 yX3_copyFrom yX3_copyFrom ∈ wA := wA_i 696 (by decide +kernel) rfl
def MX3_remember (cs : Nat × Nat) : MI := (yX3_remember, cX3_remember, 2, none, { frames := 1, locals := 21, cells := cs.1, slots := cs.2 })
theorem ok_X3_remember (cs : Nat × Nat) : fm_M (MX3_remember cs) 1 := ⟨show Cond.code yX3_remember cX3_remember 2 none ∈ wA from wA_i 763 (by decide +kernel) rfl, show Cond.initialized RX3 ∈ wA from wA_i 59 (by decide +kernel) rfl, show (yX3_remember.cls ≠ "java/lang/invoke/MethodHandle" ∧ yX3_remember.cls ≠ "java/lang/invoke/VarHandle" ∧ (parseMethodDescriptor yX3_remember.desc).map (fun d => d.parameters.length) = some 1) from by decide +kernel⟩
theorem in_X3_remember : Cond.instanceMethod yX3_remember ∈ wA := wA_i 761 (by decide +kernel) rfl
theorem se_X3_remember : Cond.selects RX3 yX3_remember yX3_remember ∈ wA := wA_i 762 (by decide +kernel) rfl
def MX3_dropFirst (cs : Nat × Nat) : MI := (yX3_dropFirst, cX3_dropFirst, 2, none, { frames := 0, locals := 0, cells := cs.1, slots := cs.2 })
theorem ok_X3_dropFirst (cs : Nat × Nat) : fm_M (MX3_dropFirst cs) 0 := ⟨show Cond.code yX3_dropFirst cX3_dropFirst 2 none ∈ wA from wA_i 767 (by decide +kernel) rfl, show Cond.initialized RX3 ∈ wA from wA_i 59 (by decide +kernel) rfl, show (yX3_dropFirst.cls ≠ "java/lang/invoke/MethodHandle" ∧ yX3_dropFirst.cls ≠ "java/lang/invoke/VarHandle" ∧ (parseMethodDescriptor yX3_dropFirst.desc).map (fun d => d.parameters.length) = some 0) from by decide +kernel⟩
theorem in_X3_dropFirst : Cond.instanceMethod yX3_dropFirst ∈ wA := wA_i 765 (by decide +kernel) rfl
theorem se_X3_dropFirst : Cond.selects RX3 yX3_dropFirst yX3_dropFirst ∈ wA := wA_i 766 (by decide +kernel) rfl
def MX3_greatestMatch (cs : Nat × Nat) : MI := (yX3_greatestMatch, cX3_greatestMatch, 5, (some .int), { frames := 3, locals := 69, cells := cs.1, slots := cs.2 })
theorem ok_X3_greatestMatch (cs : Nat × Nat) : fm_M (MX3_greatestMatch cs) 2 := ⟨show Cond.code yX3_greatestMatch cX3_greatestMatch 5 (some .int) ∈ wA from wA_i 383 (by decide +kernel) rfl, show Cond.initialized RX3 ∈ wA from wA_i 59 (by decide +kernel) rfl, show (yX3_greatestMatch.cls ≠ "java/lang/invoke/MethodHandle" ∧ yX3_greatestMatch.cls ≠ "java/lang/invoke/VarHandle" ∧ (parseMethodDescriptor yX3_greatestMatch.desc).map (fun d => d.parameters.length) = some 2) from by decide +kernel⟩
theorem in_X3_greatestMatch : Cond.instanceMethod yX3_greatestMatch ∈ wA := wA_i 381 (by decide +kernel) rfl
theorem se_X3_greatestMatch : Cond.selects RX3 yX3_greatestMatch yX3_greatestMatch ∈ wA := wA_i 382 (by decide +kernel) rfl
def MX3_bestRow (cs : Nat × Nat) : MI := (yX3_bestRow, cX3_bestRow, 5, (some .int), { frames := 4, locals := 93, cells := cs.1, slots := cs.2 })
theorem ok_X3_bestRow (cs : Nat × Nat) : fm_M (MX3_bestRow cs) 1 := ⟨show Cond.code yX3_bestRow cX3_bestRow 5 (some .int) ∈ wA from wA_i 607 (by decide +kernel) rfl, show Cond.initialized RX3 ∈ wA from wA_i 59 (by decide +kernel) rfl, show (yX3_bestRow.cls ≠ "java/lang/invoke/MethodHandle" ∧ yX3_bestRow.cls ≠ "java/lang/invoke/VarHandle" ∧ (parseMethodDescriptor yX3_bestRow.desc).map (fun d => d.parameters.length) = some 1) from by decide +kernel⟩
theorem in_X3_bestRow : Cond.instanceMethod yX3_bestRow ∈ wA := wA_i 605 (by decide +kernel) rfl
theorem se_X3_bestRow : Cond.selects RX3 yX3_bestRow yX3_bestRow ∈ wA := wA_i 606 (by decide +kernel) rfl
def MX3_greatestMatchAfter (cs : Nat × Nat) : MI := (yX3_greatestMatchAfter, cX3_greatestMatchAfter, 4, (some .int), { frames := 4, locals := 93, cells := cs.1, slots := cs.2 })
theorem ok_X3_greatestMatchAfter (cs : Nat × Nat) : fm_M (MX3_greatestMatchAfter cs) 2 := ⟨show Cond.code yX3_greatestMatchAfter cX3_greatestMatchAfter 4 (some .int) ∈ wA from wA_i 932 (by decide +kernel) rfl, show Cond.initialized RX3 ∈ wA from wA_i 59 (by decide +kernel) rfl, show (yX3_greatestMatchAfter.cls ≠ "java/lang/invoke/MethodHandle" ∧ yX3_greatestMatchAfter.cls ≠ "java/lang/invoke/VarHandle" ∧ (parseMethodDescriptor yX3_greatestMatchAfter.desc).map (fun d => d.parameters.length) = some 2) from by decide +kernel⟩
theorem in_X3_greatestMatchAfter : Cond.instanceMethod yX3_greatestMatchAfter ∈ wA := wA_i 930 (by decide +kernel) rfl
theorem se_X3_greatestMatchAfter : Cond.selects RX3 yX3_greatestMatchAfter yX3_greatestMatchAfter ∈ wA := wA_i 931 (by decide +kernel) rfl
def MX4_init (cs : Nat × Nat) : MI := (yX4_init, cX4_init, 7, none, { frames := 1, locals := 21, cells := cs.1, slots := cs.2 })
theorem ok_X4_init (cs : Nat × Nat) : fm_M (MX4_init cs) 3 := ⟨show Cond.code yX4_init cX4_init 7 none ∈ wA from wA_i 103 (by decide +kernel) rfl, show Cond.initialized RX4 ∈ wA from wA_i 57 (by decide +kernel) rfl, show (yX4_init.cls ≠ "java/lang/invoke/MethodHandle" ∧ yX4_init.cls ≠ "java/lang/invoke/VarHandle" ∧ (parseMethodDescriptor yX4_init.desc).map (fun d => d.parameters.length) = some 3) from by decide +kernel⟩
theorem in_X4_init : Cond.instanceMethod yX4_init ∈ wA := wA_i 102 (by decide +kernel) rfl
def MX4_wordAt (cs : Nat × Nat) : MI := (yX4_wordAt, cX4_wordAt, 2, (some .int), { frames := 0, locals := 0, cells := cs.1, slots := cs.2 })
theorem ok_X4_wordAt (cs : Nat × Nat) : fm_M (MX4_wordAt cs) 1 := ⟨show Cond.code yX4_wordAt cX4_wordAt 2 (some .int) ∈ wA from wA_i 878 (by decide +kernel) rfl, show Cond.initialized RX4 ∈ wA from wA_i 57 (by decide +kernel) rfl, show (yX4_wordAt.cls ≠ "java/lang/invoke/MethodHandle" ∧ yX4_wordAt.cls ≠ "java/lang/invoke/VarHandle" ∧ (parseMethodDescriptor yX4_wordAt.desc).map (fun d => d.parameters.length) = some 1) from by decide +kernel⟩
theorem in_X4_wordAt : Cond.instanceMethod yX4_wordAt ∈ wA := wA_i 876 (by decide +kernel) rfl
theorem se_X4_wordAt : Cond.selects RX4 yX4_wordAt yX4_wordAt ∈ wA := wA_i 877 (by decide +kernel) rfl
def MX4_placeOf (cs : Nat × Nat) : MI := (yX4_placeOf, cX4_placeOf, 4, (some .int), { frames := 0, locals := 0, cells := cs.1, slots := cs.2 })
theorem ok_X4_placeOf (cs : Nat × Nat) : fm_M (MX4_placeOf cs) 2 := ⟨show Cond.code yX4_placeOf cX4_placeOf 4 (some .int) ∈ wA from wA_i 636 (by decide +kernel) rfl, show Cond.initialized RX4 ∈ wA from wA_i 57 (by decide +kernel) rfl, show (yX4_placeOf.cls ≠ "java/lang/invoke/MethodHandle" ∧ yX4_placeOf.cls ≠ "java/lang/invoke/VarHandle" ∧ (parseMethodDescriptor yX4_placeOf.desc).map (fun d => d.parameters.length) = some 2) from by decide +kernel⟩
theorem in_X4_placeOf : Cond.instanceMethod yX4_placeOf ∈ wA := wA_i 634 (by decide +kernel) rfl
theorem se_X4_placeOf : Cond.selects RX4 yX4_placeOf yX4_placeOf ∈ wA := wA_i 635 (by decide +kernel) rfl
def MX4_commonLength (cs : Nat × Nat) : MI := (yX4_commonLength, cX4_commonLength, 8, (some .int), { frames := 1, locals := 20, cells := cs.1, slots := cs.2 })
theorem ok_X4_commonLength (cs : Nat × Nat) : fm_M (MX4_commonLength cs) 3 := ⟨show Cond.code yX4_commonLength cX4_commonLength 8 (some .int) ∈ wA from wA_i 391 (by decide +kernel) rfl, show Cond.initialized RX4 ∈ wA from wA_i 57 (by decide +kernel) rfl, show (yX4_commonLength.cls ≠ "java/lang/invoke/MethodHandle" ∧ yX4_commonLength.cls ≠ "java/lang/invoke/VarHandle" ∧ (parseMethodDescriptor yX4_commonLength.desc).map (fun d => d.parameters.length) = some 3) from by decide +kernel⟩
theorem in_X4_commonLength : Cond.instanceMethod yX4_commonLength ∈ wA := wA_i 389 (by decide +kernel) rfl
theorem se_X4_commonLength : Cond.selects RX4 yX4_commonLength yX4_commonLength ∈ wA := wA_i 390 (by decide +kernel) rfl
def MX4_matchWith (cs : Nat × Nat) : MI := (yX4_matchWith, cX4_matchWith, 3, (some .int), { frames := 2, locals := 47, cells := cs.1, slots := cs.2 })
theorem ok_X4_matchWith (cs : Nat × Nat) : fm_M (MX4_matchWith cs) 1 := ⟨show Cond.code yX4_matchWith cX4_matchWith 3 (some .int) ∈ wA from wA_i 387 (by decide +kernel) rfl, show Cond.initialized RX4 ∈ wA from wA_i 57 (by decide +kernel) rfl, show (yX4_matchWith.cls ≠ "java/lang/invoke/MethodHandle" ∧ yX4_matchWith.cls ≠ "java/lang/invoke/VarHandle" ∧ (parseMethodDescriptor yX4_matchWith.desc).map (fun d => d.parameters.length) = some 1) from by decide +kernel⟩
theorem in_X4_matchWith : Cond.instanceMethod yX4_matchWith ∈ wA := wA_i 385 (by decide +kernel) rfl
theorem se_X4_matchWith : Cond.selects RX4 yX4_matchWith yX4_matchWith ∈ wA := wA_i 386 (by decide +kernel) rfl
def MX4_likenessTo (cs : Nat × Nat) : MI := (yX4_likenessTo, cX4_likenessTo, 3, (some .float), { frames := 2, locals := 47, cells := cs.1, slots := cs.2 })
theorem ok_X4_likenessTo (cs : Nat × Nat) : fm_M (MX4_likenessTo cs) 1 := ⟨show Cond.code yX4_likenessTo cX4_likenessTo 3 (some .float) ∈ wA from wA_i 650 (by decide +kernel) rfl, show Cond.initialized RX4 ∈ wA from wA_i 57 (by decide +kernel) rfl, show (yX4_likenessTo.cls ≠ "java/lang/invoke/MethodHandle" ∧ yX4_likenessTo.cls ≠ "java/lang/invoke/VarHandle" ∧ (parseMethodDescriptor yX4_likenessTo.desc).map (fun d => d.parameters.length) = some 1) from by decide +kernel⟩
theorem in_X4_likenessTo : Cond.instanceMethod yX4_likenessTo ∈ wA := wA_i 648 (by decide +kernel) rfl
theorem se_X4_likenessTo : Cond.selects RX4 yX4_likenessTo yX4_likenessTo ∈ wA := wA_i 649 (by decide +kernel) rfl
def MX4_commonWord (cs : Nat × Nat) : MI := (yX4_commonWord, cX4_commonWord, 8, (some .int), { frames := 3, locals := 74, cells := cs.1, slots := cs.2 })
theorem ok_X4_commonWord (cs : Nat × Nat) : fm_M (MX4_commonWord cs) 2 := ⟨show Cond.code yX4_commonWord cX4_commonWord 8 (some .int) ∈ wA from wA_i 628 (by decide +kernel) rfl, show Cond.initialized RX4 ∈ wA from wA_i 57 (by decide +kernel) rfl, show (yX4_commonWord.cls ≠ "java/lang/invoke/MethodHandle" ∧ yX4_commonWord.cls ≠ "java/lang/invoke/VarHandle" ∧ (parseMethodDescriptor yX4_commonWord.desc).map (fun d => d.parameters.length) = some 2) from by decide +kernel⟩
theorem in_X4_commonWord : Cond.instanceMethod yX4_commonWord ∈ wA := wA_i 626 (by decide +kernel) rfl
theorem se_X4_commonWord : Cond.selects RX4 yX4_commonWord yX4_commonWord ∈ wA := wA_i 627 (by decide +kernel) rfl
def MX4_leastBeginning (cs : Nat × Nat) : MI := (yX4_leastBeginning, cX4_leastBeginning, 8, (some .int), { frames := 2, locals := 47, cells := cs.1, slots := cs.2 })
theorem ok_X4_leastBeginning (cs : Nat × Nat) : fm_M (MX4_leastBeginning cs) 4 := ⟨show Cond.code yX4_leastBeginning cX4_leastBeginning 8 (some .int) ∈ wA from wA_i 632 (by decide +kernel) rfl, show Cond.initialized RX4 ∈ wA from wA_i 57 (by decide +kernel) rfl, show (yX4_leastBeginning.cls ≠ "java/lang/invoke/MethodHandle" ∧ yX4_leastBeginning.cls ≠ "java/lang/invoke/VarHandle" ∧ (parseMethodDescriptor yX4_leastBeginning.desc).map (fun d => d.parameters.length) = some 4) from by decide +kernel⟩
theorem in_X4_leastBeginning : Cond.instanceMethod yX4_leastBeginning ∈ wA := wA_i 630 (by decide +kernel) rfl
theorem se_X4_leastBeginning : Cond.selects RX4 yX4_leastBeginning yX4_leastBeginning ∈ wA := wA_i 631 (by decide +kernel) rfl
def MX5_init (cs : Nat × Nat) : MI := (yX5_init, cX5_init, 2, none, { frames := 1, locals := 20, cells := cs.1, slots := cs.2 })
theorem ok_X5_init (cs : Nat × Nat) : fm_M (MX5_init cs) 1 := ⟨show Cond.code yX5_init cX5_init 2 none ∈ wA from wA_i 217 (by decide +kernel) rfl, show Cond.initialized RX5 ∈ wA from wA_i 63 (by decide +kernel) rfl, show (yX5_init.cls ≠ "java/lang/invoke/MethodHandle" ∧ yX5_init.cls ≠ "java/lang/invoke/VarHandle" ∧ (parseMethodDescriptor yX5_init.desc).map (fun d => d.parameters.length) = some 1) from by decide +kernel⟩
theorem in_X5_init : Cond.instanceMethod yX5_init ∈ wA := wA_i 216 (by decide +kernel) rfl
def MX5_beginWith (cs : Nat × Nat) : MI := (yX5_beginWith, cX5_beginWith, 2, none, { frames := 0, locals := 0, cells := cs.1, slots := cs.2 })
theorem ok_X5_beginWith (cs : Nat × Nat) : fm_M (MX5_beginWith cs) 1 := ⟨show Cond.code yX5_beginWith cX5_beginWith 2 none ∈ wA from wA_i 836 (by decide +kernel) rfl, show Cond.initialized RX5 ∈ wA from wA_i 63 (by decide +kernel) rfl, show (yX5_beginWith.cls ≠ "java/lang/invoke/MethodHandle" ∧ yX5_beginWith.cls ≠ "java/lang/invoke/VarHandle" ∧ (parseMethodDescriptor yX5_beginWith.desc).map (fun d => d.parameters.length) = some 1) from by decide +kernel⟩
theorem in_X5_beginWith : Cond.instanceMethod yX5_beginWith ∈ wA := wA_i 834 (by decide +kernel) rfl
theorem se_X5_beginWith : Cond.selects RX5 yX5_beginWith yX5_beginWith ∈ wA := wA_i 835 (by decide +kernel) rfl
def MX5_isTakenAt (cs : Nat × Nat) : MI := (yX5_isTakenAt, cX5_isTakenAt, 2, (some .boolean), { frames := 0, locals := 0, cells := cs.1, slots := cs.2 })
theorem ok_X5_isTakenAt (cs : Nat × Nat) : fm_M (MX5_isTakenAt cs) 1 := ⟨show Cond.code yX5_isTakenAt cX5_isTakenAt 2 (some .boolean) ∈ wA from wA_i 755 (by decide +kernel) rfl, show Cond.initialized RX5 ∈ wA from wA_i 63 (by decide +kernel) rfl, show (yX5_isTakenAt.cls ≠ "java/lang/invoke/MethodHandle" ∧ yX5_isTakenAt.cls ≠ "java/lang/invoke/VarHandle" ∧ (parseMethodDescriptor yX5_isTakenAt.desc).map (fun d => d.parameters.length) = some 1) from by decide +kernel⟩
theorem in_X5_isTakenAt : Cond.instanceMethod yX5_isTakenAt ∈ wA := wA_i 753 (by decide +kernel) rfl
theorem se_X5_isTakenAt : Cond.selects RX5 yX5_isTakenAt yX5_isTakenAt ∈ wA := wA_i 754 (by decide +kernel) rfl
def MX5_reassign (cs : Nat × Nat) : MI := (yX5_reassign, cX5_reassign, 1, none, { frames := 0, locals := 0, cells := cs.1, slots := cs.2 })
theorem ok_X5_reassign (cs : Nat × Nat) : fm_M (MX5_reassign cs) 0 := ⟨show Cond.code yX5_reassign cX5_reassign 1 none ∈ wA from wA_i 851 (by decide +kernel) rfl, show Cond.initialized RX5 ∈ wA from wA_i 63 (by decide +kernel) rfl, show (yX5_reassign.cls ≠ "java/lang/invoke/MethodHandle" ∧ yX5_reassign.cls ≠ "java/lang/invoke/VarHandle" ∧ (parseMethodDescriptor yX5_reassign.desc).map (fun d => d.parameters.length) = some 0) from by decide +kernel⟩
theorem in_X5_reassign : Cond.instanceMethod yX5_reassign ∈ wA := wA_i 849 (by decide +kernel) rfl
theorem se_X5_reassign : Cond.selects RX5 yX5_reassign yX5_reassign ∈ wA := wA_i 850 (by decide +kernel) rfl
def MX5_copyFrom (cs : Nat × Nat) : MI := (yX5_copyFrom, cX5_copyFrom, 2, none, { frames := 0, locals := 0, cells := cs.1, slots := cs.2 })
theorem ok_X5_copyFrom (cs : Nat × Nat) : fm_M (MX5_copyFrom cs) 1 := ⟨show Cond.code yX5_copyFrom cX5_copyFrom 2 none ∈ wA from wA_i 693 (by decide +kernel) rfl, show Cond.initialized RX5 ∈ wA from wA_i 63 (by decide +kernel) rfl, show (yX5_copyFrom.cls ≠ "java/lang/invoke/MethodHandle" ∧ yX5_copyFrom.cls ≠ "java/lang/invoke/VarHandle" ∧ (parseMethodDescriptor yX5_copyFrom.desc).map (fun d => d.parameters.length) = some 1) from by decide +kernel⟩
theorem in_X5_copyFrom : Cond.instanceMethod yX5_copyFrom ∈ wA := wA_i 691 (by decide +kernel) rfl
theorem se_X5_copyFrom : Cond.selects RX5 yX5_copyFrom yX5_copyFrom ∈ wA := wA_i 692 (by decide +kernel) rfl
def MX6_init (cs : Nat × Nat) : MI := (yX6_init, cX6_init, 3, none, { frames := 2, locals := 47, cells := cs.1, slots := cs.2 })
theorem ok_X6_init (cs : Nat × Nat) : fm_M (MX6_init cs) 0 := ⟨show Cond.code yX6_init cX6_init 3 none ∈ wA from wA_i 89 (by decide +kernel) rfl, show Cond.initialized RX6 ∈ wA from wA_i 56 (by decide +kernel) rfl, show (yX6_init.cls ≠ "java/lang/invoke/MethodHandle" ∧ yX6_init.cls ≠ "java/lang/invoke/VarHandle" ∧ (parseMethodDescriptor yX6_init.desc).map (fun d => d.parameters.length) = some 0) from by decide +kernel⟩
theorem in_X6_init : Cond.instanceMethod yX6_init ∈ wA := wA_i 88 (by decide +kernel) rfl
def MX6_copyFrom (cs : Nat × Nat) : MI := (yX6_copyFrom, cX6_copyFrom, 3, none, { frames := 2, locals := 81, cells := cs.1, slots := cs.2 })
theorem ok_X6_copyFrom (cs : Nat × Nat) : fm_M (MX6_copyFrom cs) 1 := ⟨show Cond.code yX6_copyFrom cX6_copyFrom 3 none ∈ wA from wA_i 673 (by decide +kernel) rfl, show Cond.initialized RX6 ∈ wA from wA_i 56 (by decide +kernel) rfl, show (yX6_copyFrom.cls ≠ "java/lang/invoke/MethodHandle" ∧ yX6_copyFrom.cls ≠ "java/lang/invoke/VarHandle" ∧ (parseMethodDescriptor yX6_copyFrom.desc).map (fun d => d.parameters.length) = some 1) from by decide +kernel⟩
theorem in_X6_copyFrom : Cond.instanceMethod yX6_copyFrom ∈ wA := wA_i 671 (by decide +kernel) rfl
theorem se_X6_copyFrom : Cond.selects RX6 yX6_copyFrom yX6_copyFrom ∈ wA := wA_i 672 (by decide +kernel) rfl
def MX6_fixBand (cs : Nat × Nat) : MI := (yX6_fixBand, cX6_fixBand, 2, none, { frames := 4, locals := 93, cells := cs.1, slots := cs.2 })
theorem ok_X6_fixBand (cs : Nat × Nat) : fm_M (MX6_fixBand cs) 1 := ⟨show Cond.code yX6_fixBand cX6_fixBand 2 none ∈ wA from wA_i 744 (by decide +kernel) rfl, show Cond.initialized RX6 ∈ wA from wA_i 56 (by decide +kernel) rfl, show (yX6_fixBand.cls ≠ "java/lang/invoke/MethodHandle" ∧ yX6_fixBand.cls ≠ "java/lang/invoke/VarHandle" ∧ (parseMethodDescriptor yX6_fixBand.desc).map (fun d => d.parameters.length) = some 1) from by decide +kernel⟩
theorem in_X6_fixBand : Cond.instanceMethod yX6_fixBand ∈ wA := wA_i 742 (by decide +kernel) rfl
theorem se_X6_fixBand : Cond.selects RX6 yX6_fixBand yX6_fixBand ∈ wA := wA_i 743 (by decide +kernel) rfl
def MX6_takeDelivery (cs : Nat × Nat) : MI := (yX6_takeDelivery, cX6_takeDelivery, 5, none, { frames := 2, locals := 42, cells := cs.1, slots := cs.2 })
theorem ok_X6_takeDelivery (cs : Nat × Nat) : fm_M (MX6_takeDelivery cs) 1 := ⟨show Cond.code yX6_takeDelivery cX6_takeDelivery 5 none ∈ wA from wA_i 759 (by decide +kernel) rfl, show Cond.initialized RX6 ∈ wA from wA_i 56 (by decide +kernel) rfl, show (yX6_takeDelivery.cls ≠ "java/lang/invoke/MethodHandle" ∧ yX6_takeDelivery.cls ≠ "java/lang/invoke/VarHandle" ∧ (parseMethodDescriptor yX6_takeDelivery.desc).map (fun d => d.parameters.length) = some 1) from by decide +kernel⟩
theorem in_X6_takeDelivery : Cond.instanceMethod yX6_takeDelivery ∈ wA := wA_i 757 (by decide +kernel) rfl
theorem se_X6_takeDelivery : Cond.selects RX6 yX6_takeDelivery yX6_takeDelivery ∈ wA := wA_i 758 (by decide +kernel) rfl
def MX6_takeRevision (cs : Nat × Nat) : MI := (yX6_takeRevision, cX6_takeRevision, 9, none, { frames := 1, locals := 21, cells := cs.1, slots := cs.2 })
theorem ok_X6_takeRevision (cs : Nat × Nat) : fm_M (MX6_takeRevision cs) 3 := ⟨show Cond.code yX6_takeRevision cX6_takeRevision 9 none ∈ wA from wA_i 778 (by decide +kernel) rfl, show Cond.initialized RX6 ∈ wA from wA_i 56 (by decide +kernel) rfl, show (yX6_takeRevision.cls ≠ "java/lang/invoke/MethodHandle" ∧ yX6_takeRevision.cls ≠ "java/lang/invoke/VarHandle" ∧ (parseMethodDescriptor yX6_takeRevision.desc).map (fun d => d.parameters.length) = some 3) from by decide +kernel⟩
theorem in_X6_takeRevision : Cond.instanceMethod yX6_takeRevision ∈ wA := wA_i 776 (by decide +kernel) rfl
theorem se_X6_takeRevision : Cond.selects RX6 yX6_takeRevision yX6_takeRevision ∈ wA := wA_i 777 (by decide +kernel) rfl
def MX6_replaceSource (cs : Nat × Nat) : MI := (yX6_replaceSource, cX6_replaceSource, 3, none, { frames := 5, locals := 114, cells := cs.1, slots := cs.2 })
theorem ok_X6_replaceSource (cs : Nat × Nat) : fm_M (MX6_replaceSource cs) 2 := ⟨show Cond.code yX6_replaceSource cX6_replaceSource 3 none ∈ wA from wA_i 847 (by decide +kernel) rfl, show Cond.initialized RX6 ∈ wA from wA_i 56 (by decide +kernel) rfl, show (yX6_replaceSource.cls ≠ "java/lang/invoke/MethodHandle" ∧ yX6_replaceSource.cls ≠ "java/lang/invoke/VarHandle" ∧ (parseMethodDescriptor yX6_replaceSource.desc).map (fun d => d.parameters.length) = some 2) from by decide +kernel⟩
theorem in_X6_replaceSource : Cond.instanceMethod yX6_replaceSource ∈ wA := wA_i 845 (by decide +kernel) rfl
theorem se_X6_replaceSource : Cond.selects RX6 yX6_replaceSource yX6_replaceSource ∈ wA := wA_i 846 (by decide +kernel) rfl
def MX6_bandOf (cs : Nat × Nat) : MI := (yX6_bandOf, cX6_bandOf, 2, (some .int), { frames := 0, locals := 0, cells := cs.1, slots := cs.2 })
theorem ok_X6_bandOf (cs : Nat × Nat) : fm_M (MX6_bandOf cs) 1 := ⟨show Cond.code yX6_bandOf cX6_bandOf 2 (some .int) ∈ wA from wA_i 405 (by decide +kernel) rfl, show Cond.initialized RX6 ∈ wA from wA_i 56 (by decide +kernel) rfl, show (yX6_bandOf.cls ≠ "java/lang/invoke/MethodHandle" ∧ yX6_bandOf.cls ≠ "java/lang/invoke/VarHandle" ∧ (parseMethodDescriptor yX6_bandOf.desc).map (fun d => d.parameters.length) = some 1) from by decide +kernel⟩
theorem st_X6_bandOf : Cond.static yX6_bandOf ∈ wA := wA_i 404 (by decide +kernel) rfl
def MX6_percentOf (cs : Nat × Nat) : MI := (yX6_percentOf, cX6_percentOf, 2, (some .int), { frames := 1, locals := 21, cells := cs.1, slots := cs.2 })
theorem ok_X6_percentOf (cs : Nat × Nat) : fm_M (MX6_percentOf cs) 1 := ⟨show Cond.code yX6_percentOf cX6_percentOf 2 (some .int) ∈ wA from wA_i 402 (by decide +kernel) rfl, show Cond.initialized RX6 ∈ wA from wA_i 56 (by decide +kernel) rfl, show (yX6_percentOf.cls ≠ "java/lang/invoke/MethodHandle" ∧ yX6_percentOf.cls ≠ "java/lang/invoke/VarHandle" ∧ (parseMethodDescriptor yX6_percentOf.desc).map (fun d => d.parameters.length) = some 1) from by decide +kernel⟩
theorem in_X6_percentOf : Cond.instanceMethod yX6_percentOf ∈ wA := wA_i 400 (by decide +kernel) rfl
theorem se_X6_percentOf : Cond.selects RX6 yX6_percentOf yX6_percentOf ∈ wA := wA_i 401 (by decide +kernel) rfl
def MX6_percentNow (cs : Nat × Nat) : MI := (yX6_percentNow, cX6_percentNow, 2, (some .int), { frames := 4, locals := 93, cells := cs.1, slots := cs.2 })
theorem ok_X6_percentNow (cs : Nat × Nat) : fm_M (MX6_percentNow cs) 1 := ⟨show Cond.code yX6_percentNow cX6_percentNow 2 (some .int) ∈ wA from wA_i 379 (by decide +kernel) rfl, show Cond.initialized RX6 ∈ wA from wA_i 56 (by decide +kernel) rfl, show (yX6_percentNow.cls ≠ "java/lang/invoke/MethodHandle" ∧ yX6_percentNow.cls ≠ "java/lang/invoke/VarHandle" ∧ (parseMethodDescriptor yX6_percentNow.desc).map (fun d => d.parameters.length) = some 1) from by decide +kernel⟩
theorem in_X6_percentNow : Cond.instanceMethod yX6_percentNow ∈ wA := wA_i 377 (by decide +kernel) rfl
theorem se_X6_percentNow : Cond.selects RX6 yX6_percentNow yX6_percentNow ∈ wA := wA_i 378 (by decide +kernel) rfl
def MX6_costInOrder (cs : Nat × Nat) : MI := (yX6_costInOrder, cX6_costInOrder, 4, (some .int), { frames := 5, locals := 116, cells := cs.1, slots := cs.2 })
theorem ok_X6_costInOrder (cs : Nat × Nat) : fm_M (MX6_costInOrder cs) 2 := ⟨show Cond.code yX6_costInOrder cX6_costInOrder 4 (some .int) ∈ wA from wA_i 928 (by decide +kernel) rfl, show Cond.initialized RX6 ∈ wA from wA_i 56 (by decide +kernel) rfl, show (yX6_costInOrder.cls ≠ "java/lang/invoke/MethodHandle" ∧ yX6_costInOrder.cls ≠ "java/lang/invoke/VarHandle" ∧ (parseMethodDescriptor yX6_costInOrder.desc).map (fun d => d.parameters.length) = some 2) from by decide +kernel⟩
theorem in_X6_costInOrder : Cond.instanceMethod yX6_costInOrder ∈ wA := wA_i 926 (by decide +kernel) rfl
theorem se_X6_costInOrder : Cond.selects RX6 yX6_costInOrder yX6_costInOrder ∈ wA := wA_i 927 (by decide +kernel) rfl
def MX6_savedPercents (cs : Nat × Nat) : MI := (yX6_savedPercents, cX6_savedPercents, 4, (some .int), { frames := 5, locals := 114, cells := cs.1, slots := cs.2 })
theorem ok_X6_savedPercents (cs : Nat × Nat) : fm_M (MX6_savedPercents cs) 0 := ⟨show Cond.code yX6_savedPercents cX6_savedPercents 4 (some .int) ∈ wA from wA_i 375 (by decide +kernel) rfl, show Cond.initialized RX6 ∈ wA from wA_i 56 (by decide +kernel) rfl, show (yX6_savedPercents.cls ≠ "java/lang/invoke/MethodHandle" ∧ yX6_savedPercents.cls ≠ "java/lang/invoke/VarHandle" ∧ (parseMethodDescriptor yX6_savedPercents.desc).map (fun d => d.parameters.length) = some 0) from by decide +kernel⟩
theorem in_X6_savedPercents : Cond.instanceMethod yX6_savedPercents ∈ wA := wA_i 373 (by decide +kernel) rfl
theorem se_X6_savedPercents : Cond.selects RX6 yX6_savedPercents yX6_savedPercents ∈ wA := wA_i 374 (by decide +kernel) rfl
def MX6_hasDispute (cs : Nat × Nat) : MI := (yX6_hasDispute, cX6_hasDispute, 6, (some .boolean), { frames := 3, locals := 67, cells := cs.1, slots := cs.2 })
theorem ok_X6_hasDispute (cs : Nat × Nat) : fm_M (MX6_hasDispute cs) 1 := ⟨show Cond.code yX6_hasDispute cX6_hasDispute 6 (some .boolean) ∈ wA from wA_i 612 (by decide +kernel) rfl, show Cond.initialized RX6 ∈ wA from wA_i 56 (by decide +kernel) rfl, show (yX6_hasDispute.cls ≠ "java/lang/invoke/MethodHandle" ∧ yX6_hasDispute.cls ≠ "java/lang/invoke/VarHandle" ∧ (parseMethodDescriptor yX6_hasDispute.desc).map (fun d => d.parameters.length) = some 1) from by decide +kernel⟩
theorem in_X6_hasDispute : Cond.instanceMethod yX6_hasDispute ∈ wA := wA_i 610 (by decide +kernel) rfl
theorem se_X6_hasDispute : Cond.selects RX6 yX6_hasDispute yX6_hasDispute ∈ wA := wA_i 611 (by decide +kernel) rfl
def MX6_segmentsAt (cs : Nat × Nat) : MI := (yX6_segmentsAt, cX6_segmentsAt, 4, (some .int), { frames := 1, locals := 20, cells := cs.1, slots := cs.2 })
theorem ok_X6_segmentsAt (cs : Nat × Nat) : fm_M (MX6_segmentsAt cs) 1 := ⟨show Cond.code yX6_segmentsAt cX6_segmentsAt 4 (some .int) ∈ wA from wA_i 503 (by decide +kernel) rfl, show Cond.initialized RX6 ∈ wA from wA_i 56 (by decide +kernel) rfl, show (yX6_segmentsAt.cls ≠ "java/lang/invoke/MethodHandle" ∧ yX6_segmentsAt.cls ≠ "java/lang/invoke/VarHandle" ∧ (parseMethodDescriptor yX6_segmentsAt.desc).map (fun d => d.parameters.length) = some 1) from by decide +kernel⟩
theorem in_X6_segmentsAt : Cond.instanceMethod yX6_segmentsAt ∈ wA := wA_i 501 (by decide +kernel) rfl
theorem se_X6_segmentsAt : Cond.selects RX6 yX6_segmentsAt yX6_segmentsAt ∈ wA := wA_i 502 (by decide +kernel) rfl
def MX6_assignedTo (cs : Nat × Nat) : MI := (yX6_assignedTo, cX6_assignedTo, 5, (some .int), { frames := 1, locals := 20, cells := cs.1, slots := cs.2 })
theorem ok_X6_assignedTo (cs : Nat × Nat) : fm_M (MX6_assignedTo cs) 1 := ⟨show Cond.code yX6_assignedTo cX6_assignedTo 5 (some .int) ∈ wA from wA_i 566 (by decide +kernel) rfl, show Cond.initialized RX6 ∈ wA from wA_i 56 (by decide +kernel) rfl, show (yX6_assignedTo.cls ≠ "java/lang/invoke/MethodHandle" ∧ yX6_assignedTo.cls ≠ "java/lang/invoke/VarHandle" ∧ (parseMethodDescriptor yX6_assignedTo.desc).map (fun d => d.parameters.length) = some 1) from by decide +kernel⟩
theorem in_X6_assignedTo : Cond.instanceMethod yX6_assignedTo ∈ wA := wA_i 564 (by decide +kernel) rfl
theorem se_X6_assignedTo : Cond.selects RX6 yX6_assignedTo yX6_assignedTo ∈ wA := wA_i 565 (by decide +kernel) rfl
def MX6_proposalsOf (cs : Nat × Nat) : MI := (yX6_proposalsOf, cX6_proposalsOf, 7, (some .int), { frames := 1, locals := 20, cells := cs.1, slots := cs.2 })
theorem ok_X6_proposalsOf (cs : Nat × Nat) : fm_M (MX6_proposalsOf cs) 1 := ⟨show Cond.code yX6_proposalsOf cX6_proposalsOf 7 (some .int) ∈ wA from wA_i 570 (by decide +kernel) rfl, show Cond.initialized RX6 ∈ wA from wA_i 56 (by decide +kernel) rfl, show (yX6_proposalsOf.cls ≠ "java/lang/invoke/MethodHandle" ∧ yX6_proposalsOf.cls ≠ "java/lang/invoke/VarHandle" ∧ (parseMethodDescriptor yX6_proposalsOf.desc).map (fun d => d.parameters.length) = some 1) from by decide +kernel⟩
theorem in_X6_proposalsOf : Cond.instanceMethod yX6_proposalsOf ∈ wA := wA_i 568 (by decide +kernel) rfl
theorem se_X6_proposalsOf : Cond.selects RX6 yX6_proposalsOf yX6_proposalsOf ∈ wA := wA_i 569 (by decide +kernel) rfl
def MX6_occurrences (cs : Nat × Nat) : MI := (yX6_occurrences, cX6_occurrences, 4, (some .int), { frames := 1, locals := 20, cells := cs.1, slots := cs.2 })
theorem ok_X6_occurrences (cs : Nat × Nat) : fm_M (MX6_occurrences cs) 1 := ⟨show Cond.code yX6_occurrences cX6_occurrences 4 (some .int) ∈ wA from wA_i 585 (by decide +kernel) rfl, show Cond.initialized RX6 ∈ wA from wA_i 56 (by decide +kernel) rfl, show (yX6_occurrences.cls ≠ "java/lang/invoke/MethodHandle" ∧ yX6_occurrences.cls ≠ "java/lang/invoke/VarHandle" ∧ (parseMethodDescriptor yX6_occurrences.desc).map (fun d => d.parameters.length) = some 1) from by decide +kernel⟩
theorem in_X6_occurrences : Cond.instanceMethod yX6_occurrences ∈ wA := wA_i 583 (by decide +kernel) rfl
theorem se_X6_occurrences : Cond.selects RX6 yX6_occurrences yX6_occurrences ∈ wA := wA_i 584 (by decide +kernel) rfl
def MX6_wordsOfAll (cs : Nat × Nat) : MI := (yX6_wordsOfAll, cX6_wordsOfAll, 3, (some .int), { frames := 0, locals := 0, cells := cs.1, slots := cs.2 })
theorem ok_X6_wordsOfAll (cs : Nat × Nat) : fm_M (MX6_wordsOfAll cs) 0 := ⟨show Cond.code yX6_wordsOfAll cX6_wordsOfAll 3 (some .int) ∈ wA from wA_i 364 (by decide +kernel) rfl, show Cond.initialized RX6 ∈ wA from wA_i 56 (by decide +kernel) rfl, show (yX6_wordsOfAll.cls ≠ "java/lang/invoke/MethodHandle" ∧ yX6_wordsOfAll.cls ≠ "java/lang/invoke/VarHandle" ∧ (parseMethodDescriptor yX6_wordsOfAll.desc).map (fun d => d.parameters.length) = some 0) from by decide +kernel⟩
theorem in_X6_wordsOfAll : Cond.instanceMethod yX6_wordsOfAll ∈ wA := wA_i 362 (by decide +kernel) rfl
theorem se_X6_wordsOfAll : Cond.selects RX6 yX6_wordsOfAll yX6_wordsOfAll ∈ wA := wA_i 363 (by decide +kernel) rfl
def MX6_deliveredWords (cs : Nat × Nat) : MI := (yX6_deliveredWords, cX6_deliveredWords, 6, (some .int), { frames := 0, locals := 0, cells := cs.1, slots := cs.2 })
theorem ok_X6_deliveredWords (cs : Nat × Nat) : fm_M (MX6_deliveredWords cs) 0 := ⟨show Cond.code yX6_deliveredWords cX6_deliveredWords 6 (some .int) ∈ wA from wA_i 415 (by decide +kernel) rfl, show Cond.initialized RX6 ∈ wA from wA_i 56 (by decide +kernel) rfl, show (yX6_deliveredWords.cls ≠ "java/lang/invoke/MethodHandle" ∧ yX6_deliveredWords.cls ≠ "java/lang/invoke/VarHandle" ∧ (parseMethodDescriptor yX6_deliveredWords.desc).map (fun d => d.parameters.length) = some 0) from by decide +kernel⟩
theorem in_X6_deliveredWords : Cond.instanceMethod yX6_deliveredWords ∈ wA := wA_i 413 (by decide +kernel) rfl
theorem se_X6_deliveredWords : Cond.selects RX6 yX6_deliveredWords yX6_deliveredWords ∈ wA := wA_i 414 (by decide +kernel) rfl
def MX6_earnedByAll (cs : Nat × Nat) : MI := (yX6_earnedByAll, cX6_earnedByAll, 6, (some .int), { frames := 0, locals := 0, cells := cs.1, slots := cs.2 })
theorem ok_X6_earnedByAll (cs : Nat × Nat) : fm_M (MX6_earnedByAll cs) 0 := ⟨show Cond.code yX6_earnedByAll cX6_earnedByAll 6 (some .int) ∈ wA from wA_i 419 (by decide +kernel) rfl, show Cond.initialized RX6 ∈ wA from wA_i 56 (by decide +kernel) rfl, show (yX6_earnedByAll.cls ≠ "java/lang/invoke/MethodHandle" ∧ yX6_earnedByAll.cls ≠ "java/lang/invoke/VarHandle" ∧ (parseMethodDescriptor yX6_earnedByAll.desc).map (fun d => d.parameters.length) = some 0) from by decide +kernel⟩
theorem in_X6_earnedByAll : Cond.instanceMethod yX6_earnedByAll ∈ wA := wA_i 417 (by decide +kernel) rfl
theorem se_X6_earnedByAll : Cond.selects RX6 yX6_earnedByAll yX6_earnedByAll ∈ wA := wA_i 418 (by decide +kernel) rfl
def MX6_disputedWords (cs : Nat × Nat) : MI := (yX6_disputedWords, cX6_disputedWords, 6, (some .int), { frames := 3, locals := 67, cells := cs.1, slots := cs.2 })
theorem ok_X6_disputedWords (cs : Nat × Nat) : fm_M (MX6_disputedWords cs) 0 := ⟨show Cond.code yX6_disputedWords cX6_disputedWords 6 (some .int) ∈ wA from wA_i 510 (by decide +kernel) rfl, show Cond.initialized RX6 ∈ wA from wA_i 56 (by decide +kernel) rfl, show (yX6_disputedWords.cls ≠ "java/lang/invoke/MethodHandle" ∧ yX6_disputedWords.cls ≠ "java/lang/invoke/VarHandle" ∧ (parseMethodDescriptor yX6_disputedWords.desc).map (fun d => d.parameters.length) = some 0) from by decide +kernel⟩
theorem in_X6_disputedWords : Cond.instanceMethod yX6_disputedWords ∈ wA := wA_i 508 (by decide +kernel) rfl
theorem se_X6_disputedWords : Cond.selects RX6 yX6_disputedWords yX6_disputedWords ∈ wA := wA_i 509 (by decide +kernel) rfl
def MX6_ruledWords (cs : Nat × Nat) : MI := (yX6_ruledWords, cX6_ruledWords, 6, (some .int), { frames := 1, locals := 20, cells := cs.1, slots := cs.2 })
theorem ok_X6_ruledWords (cs : Nat × Nat) : fm_M (MX6_ruledWords cs) 0 := ⟨show Cond.code yX6_ruledWords cX6_ruledWords 6 (some .int) ∈ wA from wA_i 527 (by decide +kernel) rfl, show Cond.initialized RX6 ∈ wA from wA_i 56 (by decide +kernel) rfl, show (yX6_ruledWords.cls ≠ "java/lang/invoke/MethodHandle" ∧ yX6_ruledWords.cls ≠ "java/lang/invoke/VarHandle" ∧ (parseMethodDescriptor yX6_ruledWords.desc).map (fun d => d.parameters.length) = some 0) from by decide +kernel⟩
theorem in_X6_ruledWords : Cond.instanceMethod yX6_ruledWords ∈ wA := wA_i 525 (by decide +kernel) rfl
theorem se_X6_ruledWords : Cond.selects RX6 yX6_ruledWords yX6_ruledWords ∈ wA := wA_i 526 (by decide +kernel) rfl
def MX7_init (cs : Nat × Nat) : MI := (yX7_init, cX7_init, 1, none, { frames := 1, locals := 20, cells := cs.1, slots := cs.2 })
theorem ok_X7_init (cs : Nat × Nat) : fm_M (MX7_init cs) 0 := ⟨show Cond.code yX7_init cX7_init 1 none ∈ wA from wA_i 201 (by decide +kernel) rfl, show Cond.initialized RX7 ∈ wA from wA_i 62 (by decide +kernel) rfl, show (yX7_init.cls ≠ "java/lang/invoke/MethodHandle" ∧ yX7_init.cls ≠ "java/lang/invoke/VarHandle" ∧ (parseMethodDescriptor yX7_init.desc).map (fun d => d.parameters.length) = some 0) from by decide +kernel⟩
theorem in_X7_init : Cond.instanceMethod yX7_init ∈ wA := wA_i 200 (by decide +kernel) rfl
def MX7_isProposed (cs : Nat × Nat) : MI := (yX7_isProposed, cX7_isProposed, 6, (some .boolean), { frames := 0, locals := 0, cells := cs.1, slots := cs.2 })
theorem ok_X7_isProposed (cs : Nat × Nat) : fm_M (MX7_isProposed cs) 1 := ⟨show Cond.code yX7_isProposed cX7_isProposed 6 (some .boolean) ∈ wA from wA_i 522 (by decide +kernel) rfl, show Cond.initialized RX7 ∈ wA from wA_i 62 (by decide +kernel) rfl, show (yX7_isProposed.cls ≠ "java/lang/invoke/MethodHandle" ∧ yX7_isProposed.cls ≠ "java/lang/invoke/VarHandle" ∧ (parseMethodDescriptor yX7_isProposed.desc).map (fun d => d.parameters.length) = some 1) from by decide +kernel⟩
theorem in_X7_isProposed : Cond.instanceMethod yX7_isProposed ∈ wA := wA_i 520 (by decide +kernel) rfl
theorem se_X7_isProposed : Cond.selects RX7 yX7_isProposed yX7_isProposed ∈ wA := wA_i 521 (by decide +kernel) rfl
def MX7_otherProposals (cs : Nat × Nat) : MI := (yX7_otherProposals, cX7_otherProposals, 7, (some .int), { frames := 1, locals := 20, cells := cs.1, slots := cs.2 })
theorem ok_X7_otherProposals (cs : Nat × Nat) : fm_M (MX7_otherProposals cs) 1 := ⟨show Cond.code yX7_otherProposals cX7_otherProposals 7 (some .int) ∈ wA from wA_i 798 (by decide +kernel) rfl, show Cond.initialized RX7 ∈ wA from wA_i 62 (by decide +kernel) rfl, show (yX7_otherProposals.cls ≠ "java/lang/invoke/MethodHandle" ∧ yX7_otherProposals.cls ≠ "java/lang/invoke/VarHandle" ∧ (parseMethodDescriptor yX7_otherProposals.desc).map (fun d => d.parameters.length) = some 1) from by decide +kernel⟩
theorem in_X7_otherProposals : Cond.instanceMethod yX7_otherProposals ∈ wA := wA_i 796 (by decide +kernel) rfl
theorem se_X7_otherProposals : Cond.selects RX7 yX7_otherProposals yX7_otherProposals ∈ wA := wA_i 797 (by decide +kernel) rfl
def MX7_unlikeProposals (cs : Nat × Nat) : MI := (yX7_unlikeProposals, cX7_unlikeProposals, 3, (some .int), { frames := 1, locals := 25, cells := cs.1, slots := cs.2 })
theorem ok_X7_unlikeProposals (cs : Nat × Nat) : fm_M (MX7_unlikeProposals cs) 0 := ⟨show Cond.code yX7_unlikeProposals cX7_unlikeProposals 3 (some .int) ∈ wA from wA_i 518 (by decide +kernel) rfl, show Cond.initialized RX7 ∈ wA from wA_i 62 (by decide +kernel) rfl, show (yX7_unlikeProposals.cls ≠ "java/lang/invoke/MethodHandle" ∧ yX7_unlikeProposals.cls ≠ "java/lang/invoke/VarHandle" ∧ (parseMethodDescriptor yX7_unlikeProposals.desc).map (fun d => d.parameters.length) = some 0) from by decide +kernel⟩
theorem in_X7_unlikeProposals : Cond.instanceMethod yX7_unlikeProposals ∈ wA := wA_i 516 (by decide +kernel) rfl
theorem se_X7_unlikeProposals : Cond.selects RX7 yX7_unlikeProposals yX7_unlikeProposals ∈ wA := wA_i 517 (by decide +kernel) rfl
def MX7_isDisputed (cs : Nat × Nat) : MI := (yX7_isDisputed, cX7_isDisputed, 1, (some .boolean), { frames := 2, locals := 47, cells := cs.1, slots := cs.2 })
theorem ok_X7_isDisputed (cs : Nat × Nat) : fm_M (MX7_isDisputed cs) 0 := ⟨show Cond.code yX7_isDisputed cX7_isDisputed 1 (some .boolean) ∈ wA from wA_i 514 (by decide +kernel) rfl, show Cond.initialized RX7 ∈ wA from wA_i 62 (by decide +kernel) rfl, show (yX7_isDisputed.cls ≠ "java/lang/invoke/MethodHandle" ∧ yX7_isDisputed.cls ≠ "java/lang/invoke/VarHandle" ∧ (parseMethodDescriptor yX7_isDisputed.desc).map (fun d => d.parameters.length) = some 0) from by decide +kernel⟩
theorem in_X7_isDisputed : Cond.instanceMethod yX7_isDisputed ∈ wA := wA_i 512 (by decide +kernel) rfl
theorem se_X7_isDisputed : Cond.selects RX7 yX7_isDisputed yX7_isDisputed ∈ wA := wA_i 513 (by decide +kernel) rfl
def MX7_copyFrom (cs : Nat × Nat) : MI := (yX7_copyFrom, cX7_copyFrom, 2, none, { frames := 1, locals := 60, cells := cs.1, slots := cs.2 })
theorem ok_X7_copyFrom (cs : Nat × Nat) : fm_M (MX7_copyFrom cs) 1 := ⟨show Cond.code yX7_copyFrom cX7_copyFrom 2 none ∈ wA from wA_i 688 (by decide +kernel) rfl, show Cond.initialized RX7 ∈ wA from wA_i 62 (by decide +kernel) rfl, show (yX7_copyFrom.cls ≠ "java/lang/invoke/MethodHandle" ∧ yX7_copyFrom.cls ≠ "java/lang/invoke/VarHandle" ∧ (parseMethodDescriptor yX7_copyFrom.desc).map (fun d => d.parameters.length) = some 1) from by decide +kernel⟩
theorem in_X7_copyFrom : Cond.instanceMethod yX7_copyFrom ∈ wA := wA_i 686 (by decide +kernel) rfl
theorem se_X7_copyFrom : Cond.selects RX7 yX7_copyFrom yX7_copyFrom ∈ wA := wA_i 687 (by decide +kernel) rfl
def MX8_init (cs : Nat × Nat) : MI := (yX8_init, cX8_init, 1, none, { frames := 1, locals := 20, cells := cs.1, slots := cs.2 })
theorem ok_X8_init (cs : Nat × Nat) : fm_M (MX8_init cs) 0 := ⟨show Cond.code yX8_init cX8_init 1 none ∈ wA from wA_i 147 (by decide +kernel) rfl, show Cond.initialized RX8 ∈ wA from wA_i 60 (by decide +kernel) rfl, show (yX8_init.cls ≠ "java/lang/invoke/MethodHandle" ∧ yX8_init.cls ≠ "java/lang/invoke/VarHandle" ∧ (parseMethodDescriptor yX8_init.desc).map (fun d => d.parameters.length) = some 0) from by decide +kernel⟩
theorem in_X8_init : Cond.instanceMethod yX8_init ∈ wA := wA_i 146 (by decide +kernel) rfl
def MX8_copyFrom (cs : Nat × Nat) : MI := (yX8_copyFrom, cX8_copyFrom, 2, none, { frames := 0, locals := 0, cells := cs.1, slots := cs.2 })
theorem ok_X8_copyFrom (cs : Nat × Nat) : fm_M (MX8_copyFrom cs) 1 := ⟨show Cond.code yX8_copyFrom cX8_copyFrom 2 none ∈ wA from wA_i 680 (by decide +kernel) rfl, show Cond.initialized RX8 ∈ wA from wA_i 60 (by decide +kernel) rfl, show (yX8_copyFrom.cls ≠ "java/lang/invoke/MethodHandle" ∧ yX8_copyFrom.cls ≠ "java/lang/invoke/VarHandle" ∧ (parseMethodDescriptor yX8_copyFrom.desc).map (fun d => d.parameters.length) = some 1) from by decide +kernel⟩
theorem in_X8_copyFrom : Cond.instanceMethod yX8_copyFrom ∈ wA := wA_i 678 (by decide +kernel) rfl
theorem se_X8_copyFrom : Cond.selects RX8 yX8_copyFrom yX8_copyFrom ∈ wA := wA_i 679 (by decide +kernel) rfl
def MX9_init (cs : Nat × Nat) : MI := (yX9_init, cX9_init, 1, none, { frames := 4, locals := 90, cells := cs.1, slots := cs.2 })
theorem ok_X9_init (cs : Nat × Nat) : fm_M (MX9_init cs) 0 := ⟨show Cond.code yX9_init cX9_init 1 none ∈ wA from wA_i 81 (by decide +kernel) rfl, show Cond.initialized RX9 ∈ wA from wA_i 55 (by decide +kernel) rfl, show (yX9_init.cls ≠ "java/lang/invoke/MethodHandle" ∧ yX9_init.cls ≠ "java/lang/invoke/VarHandle" ∧ (parseMethodDescriptor yX9_init.desc).map (fun d => d.parameters.length) = some 0) from by decide +kernel⟩
theorem in_X9_init : Cond.instanceMethod yX9_init ∈ wA := wA_i 80 (by decide +kernel) rfl
def MX9_rate (cs : Nat × Nat) : MI := (yX9_rate, cX9_rate, 5, (some .int), { frames := 7, locals := 124, cells := cs.1, slots := cs.2 })
theorem ok_X9_rate (cs : Nat × Nat) : fm_M (MX9_rate cs) 2 := ⟨show Cond.code yX9_rate cX9_rate 5 (some .int) ∈ wA from wA_i 665 (by decide +kernel) rfl, show Cond.initialized RX9 ∈ wA from wA_i 55 (by decide +kernel) rfl, show (yX9_rate.cls ≠ "java/lang/invoke/MethodHandle" ∧ yX9_rate.cls ≠ "java/lang/invoke/VarHandle" ∧ (parseMethodDescriptor yX9_rate.desc).map (fun d => d.parameters.length) = some 2) from by decide +kernel⟩
theorem in_X9_rate : Cond.instanceMethod yX9_rate ∈ wA := wA_i 663 (by decide +kernel) rfl
theorem se_X9_rate : Cond.selects RX9 yX9_rate yX9_rate ∈ wA := wA_i 664 (by decide +kernel) rfl
def MX9_pays (cs : Nat × Nat) : MI := (yX9_pays, cX9_pays, 5, (some .int), { frames := 7, locals := 124, cells := cs.1, slots := cs.2 })
theorem ok_X9_pays (cs : Nat × Nat) : fm_M (MX9_pays cs) 2 := ⟨show Cond.code yX9_pays cX9_pays 5 (some .int) ∈ wA from wA_i 704 (by decide +kernel) rfl, show Cond.initialized RX9 ∈ wA from wA_i 55 (by decide +kernel) rfl, show (yX9_pays.cls ≠ "java/lang/invoke/MethodHandle" ∧ yX9_pays.cls ≠ "java/lang/invoke/VarHandle" ∧ (parseMethodDescriptor yX9_pays.desc).map (fun d => d.parameters.length) = some 2) from by decide +kernel⟩
theorem in_X9_pays : Cond.instanceMethod yX9_pays ∈ wA := wA_i 702 (by decide +kernel) rfl
theorem se_X9_pays : Cond.selects RX9 yX9_pays yX9_pays ∈ wA := wA_i 703 (by decide +kernel) rfl
def MX9_set (cs : Nat × Nat) : MI := (yX9_set, cX9_set, 4, (some .int), { frames := 7, locals := 124, cells := cs.1, slots := cs.2 })
theorem ok_X9_set (cs : Nat × Nat) : fm_M (MX9_set cs) 2 := ⟨show Cond.code yX9_set cX9_set 4 (some .int) ∈ wA from wA_i 711 (by decide +kernel) rfl, show Cond.initialized RX9 ∈ wA from wA_i 55 (by decide +kernel) rfl, show (yX9_set.cls ≠ "java/lang/invoke/MethodHandle" ∧ yX9_set.cls ≠ "java/lang/invoke/VarHandle" ∧ (parseMethodDescriptor yX9_set.desc).map (fun d => d.parameters.length) = some 2) from by decide +kernel⟩
theorem in_X9_set : Cond.instanceMethod yX9_set ∈ wA := wA_i 709 (by decide +kernel) rfl
theorem se_X9_set : Cond.selects RX9 yX9_set yX9_set ∈ wA := wA_i 710 (by decide +kernel) rfl
def MX9_assign (cs : Nat × Nat) : MI := (yX9_assign, cX9_assign, 4, (some .int), { frames := 7, locals := 124, cells := cs.1, slots := cs.2 })
theorem ok_X9_assign (cs : Nat × Nat) : fm_M (MX9_assign cs) 2 := ⟨show Cond.code yX9_assign cX9_assign 4 (some .int) ∈ wA from wA_i 721 (by decide +kernel) rfl, show Cond.initialized RX9 ∈ wA from wA_i 55 (by decide +kernel) rfl, show (yX9_assign.cls ≠ "java/lang/invoke/MethodHandle" ∧ yX9_assign.cls ≠ "java/lang/invoke/VarHandle" ∧ (parseMethodDescriptor yX9_assign.desc).map (fun d => d.parameters.length) = some 2) from by decide +kernel⟩
theorem in_X9_assign : Cond.instanceMethod yX9_assign ∈ wA := wA_i 719 (by decide +kernel) rfl
theorem se_X9_assign : Cond.selects RX9 yX9_assign yX9_assign ∈ wA := wA_i 720 (by decide +kernel) rfl
def MX9_deliver (cs : Nat × Nat) : MI := (yX9_deliver, cX9_deliver, 3, (some .int), { frames := 7, locals := 124, cells := cs.1, slots := cs.2 })
theorem ok_X9_deliver (cs : Nat × Nat) : fm_M (MX9_deliver cs) 1 := ⟨show Cond.code yX9_deliver cX9_deliver 3 (some .int) ∈ wA from wA_i 751 (by decide +kernel) rfl, show Cond.initialized RX9 ∈ wA from wA_i 55 (by decide +kernel) rfl, show (yX9_deliver.cls ≠ "java/lang/invoke/MethodHandle" ∧ yX9_deliver.cls ≠ "java/lang/invoke/VarHandle" ∧ (parseMethodDescriptor yX9_deliver.desc).map (fun d => d.parameters.length) = some 1) from by decide +kernel⟩
theorem in_X9_deliver : Cond.instanceMethod yX9_deliver ∈ wA := wA_i 749 (by decide +kernel) rfl
theorem se_X9_deliver : Cond.selects RX9 yX9_deliver yX9_deliver ∈ wA := wA_i 750 (by decide +kernel) rfl
def MX9_revise (cs : Nat × Nat) : MI := (yX9_revise, cX9_revise, 5, (some .int), { frames := 7, locals := 124, cells := cs.1, slots := cs.2 })
theorem ok_X9_revise (cs : Nat × Nat) : fm_M (MX9_revise cs) 3 := ⟨show Cond.code yX9_revise cX9_revise 5 (some .int) ∈ wA from wA_i 774 (by decide +kernel) rfl, show Cond.initialized RX9 ∈ wA from wA_i 55 (by decide +kernel) rfl, show (yX9_revise.cls ≠ "java/lang/invoke/MethodHandle" ∧ yX9_revise.cls ≠ "java/lang/invoke/VarHandle" ∧ (parseMethodDescriptor yX9_revise.desc).map (fun d => d.parameters.length) = some 3) from by decide +kernel⟩
theorem in_X9_revise : Cond.instanceMethod yX9_revise ∈ wA := wA_i 772 (by decide +kernel) rfl
theorem se_X9_revise : Cond.selects RX9 yX9_revise yX9_revise ∈ wA := wA_i 773 (by decide +kernel) rfl
def MX9_propose (cs : Nat × Nat) : MI := (yX9_propose, cX9_propose, 6, (some .int), { frames := 7, locals := 124, cells := cs.1, slots := cs.2 })
theorem ok_X9_propose (cs : Nat × Nat) : fm_M (MX9_propose cs) 3 := ⟨show Cond.code yX9_propose cX9_propose 6 (some .int) ∈ wA from wA_i 786 (by decide +kernel) rfl, show Cond.initialized RX9 ∈ wA from wA_i 55 (by decide +kernel) rfl, show (yX9_propose.cls ≠ "java/lang/invoke/MethodHandle" ∧ yX9_propose.cls ≠ "java/lang/invoke/VarHandle" ∧ (parseMethodDescriptor yX9_propose.desc).map (fun d => d.parameters.length) = some 3) from by decide +kernel⟩
theorem in_X9_propose : Cond.instanceMethod yX9_propose ∈ wA := wA_i 784 (by decide +kernel) rfl
theorem se_X9_propose : Cond.selects RX9 yX9_propose yX9_propose ∈ wA := wA_i 785 (by decide +kernel) rfl
def MX9_rule (cs : Nat × Nat) : MI := (yX9_rule, cX9_rule, 4, (some .int), { frames := 7, locals := 124, cells := cs.1, slots := cs.2 })
theorem ok_X9_rule (cs : Nat × Nat) : fm_M (MX9_rule cs) 2 := ⟨show Cond.code yX9_rule cX9_rule 4 (some .int) ∈ wA from wA_i 793 (by decide +kernel) rfl, show Cond.initialized RX9 ∈ wA from wA_i 55 (by decide +kernel) rfl, show (yX9_rule.cls ≠ "java/lang/invoke/MethodHandle" ∧ yX9_rule.cls ≠ "java/lang/invoke/VarHandle" ∧ (parseMethodDescriptor yX9_rule.desc).map (fun d => d.parameters.length) = some 2) from by decide +kernel⟩
theorem in_X9_rule : Cond.instanceMethod yX9_rule ∈ wA := wA_i 791 (by decide +kernel) rfl
theorem se_X9_rule : Cond.selects RX9 yX9_rule yX9_rule ∈ wA := wA_i 792 (by decide +kernel) rfl
def MX9_append (cs : Nat × Nat) : MI := (yX9_append, cX9_append, 2, (some .int), { frames := 7, locals := 112, cells := cs.1, slots := cs.2 })
theorem ok_X9_append (cs : Nat × Nat) : fm_M (MX9_append cs) 1 := ⟨show Cond.code yX9_append cX9_append 2 (some .int) ∈ wA from wA_i 805 (by decide +kernel) rfl, show Cond.initialized RX9 ∈ wA from wA_i 55 (by decide +kernel) rfl, show (yX9_append.cls ≠ "java/lang/invoke/MethodHandle" ∧ yX9_append.cls ≠ "java/lang/invoke/VarHandle" ∧ (parseMethodDescriptor yX9_append.desc).map (fun d => d.parameters.length) = some 1) from by decide +kernel⟩
theorem in_X9_append : Cond.instanceMethod yX9_append ∈ wA := wA_i 803 (by decide +kernel) rfl
theorem se_X9_append : Cond.selects RX9 yX9_append yX9_append ∈ wA := wA_i 804 (by decide +kernel) rfl
def MX9_clearBuffer (cs : Nat × Nat) : MI := (yX9_clearBuffer, cX9_clearBuffer, 2, (some .int), { frames := 0, locals := 0, cells := cs.1, slots := cs.2 })
theorem ok_X9_clearBuffer (cs : Nat × Nat) : fm_M (MX9_clearBuffer cs) 0 := ⟨show Cond.code yX9_clearBuffer cX9_clearBuffer 2 (some .int) ∈ wA from wA_i 345 (by decide +kernel) rfl, show Cond.initialized RX9 ∈ wA from wA_i 55 (by decide +kernel) rfl, show (yX9_clearBuffer.cls ≠ "java/lang/invoke/MethodHandle" ∧ yX9_clearBuffer.cls ≠ "java/lang/invoke/VarHandle" ∧ (parseMethodDescriptor yX9_clearBuffer.desc).map (fun d => d.parameters.length) = some 0) from by decide +kernel⟩
theorem in_X9_clearBuffer : Cond.instanceMethod yX9_clearBuffer ∈ wA := wA_i 343 (by decide +kernel) rfl
theorem se_X9_clearBuffer : Cond.selects RX9 yX9_clearBuffer yX9_clearBuffer ∈ wA := wA_i 344 (by decide +kernel) rfl
def MX9_firstError (cs : Nat × Nat) : MI := (yX9_firstError, cX9_firstError, 1, (some .int), { frames := 2, locals := 42, cells := cs.1, slots := cs.2 })
theorem ok_X9_firstError (cs : Nat × Nat) : fm_M (MX9_firstError cs) 0 := ⟨show Cond.code yX9_firstError cX9_firstError 1 (some .int) ∈ wA from wA_i 349 (by decide +kernel) rfl, show Cond.initialized RX9 ∈ wA from wA_i 55 (by decide +kernel) rfl, show (yX9_firstError.cls ≠ "java/lang/invoke/MethodHandle" ∧ yX9_firstError.cls ≠ "java/lang/invoke/VarHandle" ∧ (parseMethodDescriptor yX9_firstError.desc).map (fun d => d.parameters.length) = some 0) from by decide +kernel⟩
theorem in_X9_firstError : Cond.instanceMethod yX9_firstError ∈ wA := wA_i 347 (by decide +kernel) rfl
theorem se_X9_firstError : Cond.selects RX9 yX9_firstError yX9_firstError ∈ wA := wA_i 348 (by decide +kernel) rfl
def MX9_add (cs : Nat × Nat) : MI := (yX9_add, cX9_add, 3, (some .int), { frames := 7, locals := 124, cells := cs.1, slots := cs.2 })
theorem ok_X9_add (cs : Nat × Nat) : fm_M (MX9_add cs) 0 := ⟨show Cond.code yX9_add cX9_add 3 (some .int) ∈ wA from wA_i 812 (by decide +kernel) rfl, show Cond.initialized RX9 ∈ wA from wA_i 55 (by decide +kernel) rfl, show (yX9_add.cls ≠ "java/lang/invoke/MethodHandle" ∧ yX9_add.cls ≠ "java/lang/invoke/VarHandle" ∧ (parseMethodDescriptor yX9_add.desc).map (fun d => d.parameters.length) = some 0) from by decide +kernel⟩
theorem in_X9_add : Cond.instanceMethod yX9_add ∈ wA := wA_i 810 (by decide +kernel) rfl
theorem se_X9_add : Cond.selects RX9 yX9_add yX9_add ∈ wA := wA_i 811 (by decide +kernel) rfl
def MX9_change (cs : Nat × Nat) : MI := (yX9_change, cX9_change, 3, (some .int), { frames := 7, locals := 136, cells := cs.1, slots := cs.2 })
theorem ok_X9_change (cs : Nat × Nat) : fm_M (MX9_change cs) 1 := ⟨show Cond.code yX9_change cX9_change 3 (some .int) ∈ wA from wA_i 843 (by decide +kernel) rfl, show Cond.initialized RX9 ∈ wA from wA_i 55 (by decide +kernel) rfl, show (yX9_change.cls ≠ "java/lang/invoke/MethodHandle" ∧ yX9_change.cls ≠ "java/lang/invoke/VarHandle" ∧ (parseMethodDescriptor yX9_change.desc).map (fun d => d.parameters.length) = some 1) from by decide +kernel⟩
theorem in_X9_change : Cond.instanceMethod yX9_change ∈ wA := wA_i 841 (by decide +kernel) rfl
theorem se_X9_change : Cond.selects RX9 yX9_change yX9_change ∈ wA := wA_i 842 (by decide +kernel) rfl
def MX9_undo (cs : Nat × Nat) : MI := (yX9_undo, cX9_undo, 1, (some .int), { frames := 7, locals := 124, cells := cs.1, slots := cs.2 })
theorem ok_X9_undo (cs : Nat × Nat) : fm_M (MX9_undo cs) 0 := ⟨show Cond.code yX9_undo cX9_undo 1 (some .int) ∈ wA from wA_i 859 (by decide +kernel) rfl, show Cond.initialized RX9 ∈ wA from wA_i 55 (by decide +kernel) rfl, show (yX9_undo.cls ≠ "java/lang/invoke/MethodHandle" ∧ yX9_undo.cls ≠ "java/lang/invoke/VarHandle" ∧ (parseMethodDescriptor yX9_undo.desc).map (fun d => d.parameters.length) = some 0) from by decide +kernel⟩
theorem in_X9_undo : Cond.instanceMethod yX9_undo ∈ wA := wA_i 857 (by decide +kernel) rfl
theorem se_X9_undo : Cond.selects RX9 yX9_undo yX9_undo ∈ wA := wA_i 858 (by decide +kernel) rfl
def MX9_segment (cs : Nat × Nat) : MI := (yX9_segment, cX9_segment, 4, (some .int), { frames := 7, locals := 117, cells := cs.1, slots := cs.2 })
theorem ok_X9_segment (cs : Nat × Nat) : fm_M (MX9_segment cs) 2 := ⟨show Cond.code yX9_segment cX9_segment 4 (some .int) ∈ wA from wA_i 602 (by decide +kernel) rfl, show Cond.initialized RX9 ∈ wA from wA_i 55 (by decide +kernel) rfl, show (yX9_segment.cls ≠ "java/lang/invoke/MethodHandle" ∧ yX9_segment.cls ≠ "java/lang/invoke/VarHandle" ∧ (parseMethodDescriptor yX9_segment.desc).map (fun d => d.parameters.length) = some 2) from by decide +kernel⟩
theorem in_X9_segment : Cond.instanceMethod yX9_segment ∈ wA := wA_i 600 (by decide +kernel) rfl
theorem se_X9_segment : Cond.selects RX9 yX9_segment yX9_segment ∈ wA := wA_i 601 (by decide +kernel) rfl
def MX9_word (cs : Nat × Nat) : MI := (yX9_word, cX9_word, 3, (some .int), { frames := 7, locals := 112, cells := cs.1, slots := cs.2 })
theorem ok_X9_word (cs : Nat × Nat) : fm_M (MX9_word cs) 2 := ⟨show Cond.code yX9_word cX9_word 3 (some .int) ∈ wA from wA_i 874 (by decide +kernel) rfl, show Cond.initialized RX9 ∈ wA from wA_i 55 (by decide +kernel) rfl, show (yX9_word.cls ≠ "java/lang/invoke/MethodHandle" ∧ yX9_word.cls ≠ "java/lang/invoke/VarHandle" ∧ (parseMethodDescriptor yX9_word.desc).map (fun d => d.parameters.length) = some 2) from by decide +kernel⟩
theorem in_X9_word : Cond.instanceMethod yX9_word ∈ wA := wA_i 872 (by decide +kernel) rfl
theorem se_X9_word : Cond.selects RX9 yX9_word yX9_word ∈ wA := wA_i 873 (by decide +kernel) rfl
def MX9_remembered (cs : Nat × Nat) : MI := (yX9_remembered, cX9_remembered, 3, (some .int), { frames := 7, locals := 112, cells := cs.1, slots := cs.2 })
theorem ok_X9_remembered (cs : Nat × Nat) : fm_M (MX9_remembered cs) 2 := ⟨show Cond.code yX9_remembered cX9_remembered 3 (some .int) ∈ wA from wA_i 885 (by decide +kernel) rfl, show Cond.initialized RX9 ∈ wA from wA_i 55 (by decide +kernel) rfl, show (yX9_remembered.cls ≠ "java/lang/invoke/MethodHandle" ∧ yX9_remembered.cls ≠ "java/lang/invoke/VarHandle" ∧ (parseMethodDescriptor yX9_remembered.desc).map (fun d => d.parameters.length) = some 2) from by decide +kernel⟩
theorem in_X9_remembered : Cond.instanceMethod yX9_remembered ∈ wA := wA_i 883 (by decide +kernel) rfl
theorem se_X9_remembered : Cond.selects RX9 yX9_remembered yX9_remembered ∈ wA := wA_i 884 (by decide +kernel) rfl
def MX9_translator (cs : Nat × Nat) : MI := (yX9_translator, cX9_translator, 4, (some .int), { frames := 7, locals := 112, cells := cs.1, slots := cs.2 })
theorem ok_X9_translator (cs : Nat × Nat) : fm_M (MX9_translator cs) 2 := ⟨show Cond.code yX9_translator cX9_translator 4 (some .int) ∈ wA from wA_i 562 (by decide +kernel) rfl, show Cond.initialized RX9 ∈ wA from wA_i 55 (by decide +kernel) rfl, show (yX9_translator.cls ≠ "java/lang/invoke/MethodHandle" ∧ yX9_translator.cls ≠ "java/lang/invoke/VarHandle" ∧ (parseMethodDescriptor yX9_translator.desc).map (fun d => d.parameters.length) = some 2) from by decide +kernel⟩
theorem in_X9_translator : Cond.instanceMethod yX9_translator ∈ wA := wA_i 560 (by decide +kernel) rfl
theorem se_X9_translator : Cond.selects RX9 yX9_translator yX9_translator ∈ wA := wA_i 561 (by decide +kernel) rfl
def MX9_term (cs : Nat × Nat) : MI := (yX9_term, cX9_term, 4, (some .int), { frames := 7, locals := 112, cells := cs.1, slots := cs.2 })
theorem ok_X9_term (cs : Nat × Nat) : fm_M (MX9_term cs) 2 := ⟨show Cond.code yX9_term cX9_term 4 (some .int) ∈ wA from wA_i 578 (by decide +kernel) rfl, show Cond.initialized RX9 ∈ wA from wA_i 55 (by decide +kernel) rfl, show (yX9_term.cls ≠ "java/lang/invoke/MethodHandle" ∧ yX9_term.cls ≠ "java/lang/invoke/VarHandle" ∧ (parseMethodDescriptor yX9_term.desc).map (fun d => d.parameters.length) = some 2) from by decide +kernel⟩
theorem in_X9_term : Cond.instanceMethod yX9_term ∈ wA := wA_i 576 (by decide +kernel) rfl
theorem se_X9_term : Cond.selects RX9 yX9_term yX9_term ∈ wA := wA_i 577 (by decide +kernel) rfl
def MX9_band (cs : Nat × Nat) : MI := (yX9_band, cX9_band, 4, (some .int), { frames := 7, locals := 112, cells := cs.1, slots := cs.2 })
theorem ok_X9_band (cs : Nat × Nat) : fm_M (MX9_band cs) 2 := ⟨show Cond.code yX9_band cX9_band 4 (some .int) ∈ wA from wA_i 594 (by decide +kernel) rfl, show Cond.initialized RX9 ∈ wA from wA_i 55 (by decide +kernel) rfl, show (yX9_band.cls ≠ "java/lang/invoke/MethodHandle" ∧ yX9_band.cls ≠ "java/lang/invoke/VarHandle" ∧ (parseMethodDescriptor yX9_band.desc).map (fun d => d.parameters.length) = some 2) from by decide +kernel⟩
theorem in_X9_band : Cond.instanceMethod yX9_band ∈ wA := wA_i 592 (by decide +kernel) rfl
theorem se_X9_band : Cond.selects RX9 yX9_band yX9_band ∈ wA := wA_i 593 (by decide +kernel) rfl
def MX9_count (cs : Nat × Nat) : MI := (yX9_count, cX9_count, 2, (some .int), { frames := 7, locals := 112, cells := cs.1, slots := cs.2 })
theorem ok_X9_count (cs : Nat × Nat) : fm_M (MX9_count cs) 1 := ⟨show Cond.code yX9_count cX9_count 2 (some .int) ∈ wA from wA_i 428 (by decide +kernel) rfl, show Cond.initialized RX9 ∈ wA from wA_i 55 (by decide +kernel) rfl, show (yX9_count.cls ≠ "java/lang/invoke/MethodHandle" ∧ yX9_count.cls ≠ "java/lang/invoke/VarHandle" ∧ (parseMethodDescriptor yX9_count.desc).map (fun d => d.parameters.length) = some 1) from by decide +kernel⟩
theorem in_X9_count : Cond.instanceMethod yX9_count ∈ wA := wA_i 426 (by decide +kernel) rfl
theorem se_X9_count : Cond.selects RX9 yX9_count yX9_count ∈ wA := wA_i 427 (by decide +kernel) rfl
def MX9_setting (cs : Nat × Nat) : MI := (yX9_setting, cX9_setting, 2, (some .int), { frames := 7, locals := 111, cells := cs.1, slots := cs.2 })
theorem ok_X9_setting (cs : Nat × Nat) : fm_M (MX9_setting cs) 1 := ⟨show Cond.code yX9_setting cX9_setting 2 (some .int) ∈ wA from wA_i 535 (by decide +kernel) rfl, show Cond.initialized RX9 ∈ wA from wA_i 55 (by decide +kernel) rfl, show (yX9_setting.cls ≠ "java/lang/invoke/MethodHandle" ∧ yX9_setting.cls ≠ "java/lang/invoke/VarHandle" ∧ (parseMethodDescriptor yX9_setting.desc).map (fun d => d.parameters.length) = some 1) from by decide +kernel⟩
theorem in_X9_setting : Cond.instanceMethod yX9_setting ∈ wA := wA_i 533 (by decide +kernel) rfl
theorem se_X9_setting : Cond.selects RX9 yX9_setting yX9_setting ∈ wA := wA_i 534 (by decide +kernel) rfl
def MX9_near (cs : Nat × Nat) : MI := (yX9_near, cX9_near, 6, (some .int), { frames := 7, locals := 112, cells := cs.1, slots := cs.2 })
theorem ok_X9_near (cs : Nat × Nat) : fm_M (MX9_near cs) 3 := ⟨show Cond.code yX9_near cX9_near 6 (some .int) ∈ wA from wA_i 644 (by decide +kernel) rfl, show Cond.initialized RX9 ∈ wA from wA_i 55 (by decide +kernel) rfl, show (yX9_near.cls ≠ "java/lang/invoke/MethodHandle" ∧ yX9_near.cls ≠ "java/lang/invoke/VarHandle" ∧ (parseMethodDescriptor yX9_near.desc).map (fun d => d.parameters.length) = some 3) from by decide +kernel⟩
theorem in_X9_near : Cond.instanceMethod yX9_near ∈ wA := wA_i 642 (by decide +kernel) rfl
theorem se_X9_near : Cond.selects RX9 yX9_near yX9_near ∈ wA := wA_i 643 (by decide +kernel) rfl
def MX9_common (cs : Nat × Nat) : MI := (yX9_common, cX9_common, 4, (some .int), { frames := 7, locals := 112, cells := cs.1, slots := cs.2 })
theorem ok_X9_common (cs : Nat × Nat) : fm_M (MX9_common cs) 3 := ⟨show Cond.code yX9_common cX9_common 4 (some .int) ∈ wA from wA_i 624 (by decide +kernel) rfl, show Cond.initialized RX9 ∈ wA from wA_i 55 (by decide +kernel) rfl, show (yX9_common.cls ≠ "java/lang/invoke/MethodHandle" ∧ yX9_common.cls ≠ "java/lang/invoke/VarHandle" ∧ (parseMethodDescriptor yX9_common.desc).map (fun d => d.parameters.length) = some 3) from by decide +kernel⟩
theorem in_X9_common : Cond.instanceMethod yX9_common ∈ wA := wA_i 622 (by decide +kernel) rfl
theorem se_X9_common : Cond.selects RX9 yX9_common yX9_common ∈ wA := wA_i 623 (by decide +kernel) rfl
def MX9_ifPaid (cs : Nat × Nat) : MI := (yX9_ifPaid, cX9_ifPaid, 5, (some .int), { frames := 7, locals := 114, cells := cs.1, slots := cs.2 })
theorem ok_X9_ifPaid (cs : Nat × Nat) : fm_M (MX9_ifPaid cs) 2 := ⟨show Cond.code yX9_ifPaid cX9_ifPaid 5 (some .int) ∈ wA from wA_i 619 (by decide +kernel) rfl, show Cond.initialized RX9 ∈ wA from wA_i 55 (by decide +kernel) rfl, show (yX9_ifPaid.cls ≠ "java/lang/invoke/MethodHandle" ∧ yX9_ifPaid.cls ≠ "java/lang/invoke/VarHandle" ∧ (parseMethodDescriptor yX9_ifPaid.desc).map (fun d => d.parameters.length) = some 2) from by decide +kernel⟩
theorem in_X9_ifPaid : Cond.instanceMethod yX9_ifPaid ∈ wA := wA_i 617 (by decide +kernel) rfl
theorem se_X9_ifPaid : Cond.selects RX9 yX9_ifPaid yX9_ifPaid ∈ wA := wA_i 618 (by decide +kernel) rfl
def MX9_orderMatters (cs : Nat × Nat) : MI := (yX9_orderMatters, cX9_orderMatters, 5, (some .int), { frames := 7, locals := 139, cells := cs.1, slots := cs.2 })
theorem ok_X9_orderMatters (cs : Nat × Nat) : fm_M (MX9_orderMatters cs) 2 := ⟨show Cond.code yX9_orderMatters cX9_orderMatters 5 (some .int) ∈ wA from wA_i 924 (by decide +kernel) rfl, show Cond.initialized RX9 ∈ wA from wA_i 55 (by decide +kernel) rfl, show (yX9_orderMatters.cls ≠ "java/lang/invoke/MethodHandle" ∧ yX9_orderMatters.cls ≠ "java/lang/invoke/VarHandle" ∧ (parseMethodDescriptor yX9_orderMatters.desc).map (fun d => d.parameters.length) = some 2) from by decide +kernel⟩
theorem in_X9_orderMatters : Cond.instanceMethod yX9_orderMatters ∈ wA := wA_i 922 (by decide +kernel) rfl
theorem se_X9_orderMatters : Cond.selects RX9 yX9_orderMatters yX9_orderMatters ∈ wA := wA_i 923 (by decide +kernel) rfl
def MX9_saved (cs : Nat × Nat) : MI := (yX9_saved, cX9_saved, 2, (some .int), { frames := 6, locals := 137, cells := cs.1, slots := cs.2 })
theorem ok_X9_saved (cs : Nat × Nat) : fm_M (MX9_saved cs) 0 := ⟨show Cond.code yX9_saved cX9_saved 2 (some .int) ∈ wA from wA_i 360 (by decide +kernel) rfl, show Cond.initialized RX9 ∈ wA from wA_i 55 (by decide +kernel) rfl, show (yX9_saved.cls ≠ "java/lang/invoke/MethodHandle" ∧ yX9_saved.cls ≠ "java/lang/invoke/VarHandle" ∧ (parseMethodDescriptor yX9_saved.desc).map (fun d => d.parameters.length) = some 0) from by decide +kernel⟩
theorem in_X9_saved : Cond.instanceMethod yX9_saved ∈ wA := wA_i 358 (by decide +kernel) rfl
theorem se_X9_saved : Cond.selects RX9 yX9_saved yX9_saved ∈ wA := wA_i 359 (by decide +kernel) rfl
def MX9_wordCost (cs : Nat × Nat) : MI := (yX9_wordCost, cX9_wordCost, 2, (some .double), { frames := 1, locals := 25, cells := cs.1, slots := cs.2 })
theorem ok_X9_wordCost (cs : Nat × Nat) : fm_M (MX9_wordCost cs) 0 := ⟨show Cond.code yX9_wordCost cX9_wordCost 2 (some .double) ∈ wA from wA_i 411 (by decide +kernel) rfl, show Cond.initialized RX9 ∈ wA from wA_i 55 (by decide +kernel) rfl, show (yX9_wordCost.cls ≠ "java/lang/invoke/MethodHandle" ∧ yX9_wordCost.cls ≠ "java/lang/invoke/VarHandle" ∧ (parseMethodDescriptor yX9_wordCost.desc).map (fun d => d.parameters.length) = some 0) from by decide +kernel⟩
theorem in_X9_wordCost : Cond.instanceMethod yX9_wordCost ∈ wA := wA_i 409 (by decide +kernel) rfl
theorem se_X9_wordCost : Cond.selects RX9 yX9_wordCost yX9_wordCost ∈ wA := wA_i 410 (by decide +kernel) rfl
def MX9_digest (cs : Nat × Nat) : MI := (yX9_digest, cX9_digest, 4, (some .long), { frames := 9, locals := 166, cells := cs.1, slots := cs.2 })
theorem ok_X9_digest (cs : Nat × Nat) : fm_M (MX9_digest cs) 0 := ⟨show Cond.code yX9_digest cX9_digest 4 (some .long) ∈ wA from wA_i 423 (by decide +kernel) rfl, show Cond.initialized RX9 ∈ wA from wA_i 55 (by decide +kernel) rfl, show (yX9_digest.cls ≠ "java/lang/invoke/MethodHandle" ∧ yX9_digest.cls ≠ "java/lang/invoke/VarHandle" ∧ (parseMethodDescriptor yX9_digest.desc).map (fun d => d.parameters.length) = some 0) from by decide +kernel⟩
theorem in_X9_digest : Cond.instanceMethod yX9_digest ∈ wA := wA_i 421 (by decide +kernel) rfl
theorem se_X9_digest : Cond.selects RX9 yX9_digest yX9_digest ∈ wA := wA_i 422 (by decide +kernel) rfl
def MX9_mix (cs : Nat × Nat) : MI := (yX9_mix, cX9_mix, 4, (some .long), { frames := 0, locals := 0, cells := cs.1, slots := cs.2 })
theorem ok_X9_mix (cs : Nat × Nat) : fm_M (MX9_mix cs) 2 := ⟨show Cond.code yX9_mix cX9_mix 4 (some .long) ∈ wA from wA_i 530 (by decide +kernel) rfl, show Cond.initialized RX9 ∈ wA from wA_i 55 (by decide +kernel) rfl, show (yX9_mix.cls ≠ "java/lang/invoke/MethodHandle" ∧ yX9_mix.cls ≠ "java/lang/invoke/VarHandle" ∧ (parseMethodDescriptor yX9_mix.desc).map (fun d => d.parameters.length) = some 2) from by decide +kernel⟩
theorem st_X9_mix : Cond.static yX9_mix ∈ wA := wA_i 529 (by decide +kernel) rfl
def MX9_mixTranslators (cs : Nat × Nat) : MI := (yX9_mixTranslators, cX9_mixTranslators, 7, (some .long), { frames := 8, locals := 135, cells := cs.1, slots := cs.2 })
theorem ok_X9_mixTranslators (cs : Nat × Nat) : fm_M (MX9_mixTranslators cs) 1 := ⟨show Cond.code yX9_mixTranslators cX9_mixTranslators 7 (some .long) ∈ wA from wA_i 558 (by decide +kernel) rfl, show Cond.initialized RX9 ∈ wA from wA_i 55 (by decide +kernel) rfl, show (yX9_mixTranslators.cls ≠ "java/lang/invoke/MethodHandle" ∧ yX9_mixTranslators.cls ≠ "java/lang/invoke/VarHandle" ∧ (parseMethodDescriptor yX9_mixTranslators.desc).map (fun d => d.parameters.length) = some 1) from by decide +kernel⟩
theorem in_X9_mixTranslators : Cond.instanceMethod yX9_mixTranslators ∈ wA := wA_i 557 (by decide +kernel) rfl
theorem se_X9_mixTranslators : Cond.selects RX9 yX9_mixTranslators yX9_mixTranslators ∈ wA := wA_i 1 (by decide +kernel) rfl
def MX9_mixTerms (cs : Nat × Nat) : MI := (yX9_mixTerms, cX9_mixTerms, 7, (some .long), { frames := 8, locals := 135, cells := cs.1, slots := cs.2 })
theorem ok_X9_mixTerms (cs : Nat × Nat) : fm_M (MX9_mixTerms cs) 1 := ⟨show Cond.code yX9_mixTerms cX9_mixTerms 7 (some .long) ∈ wA from wA_i 574 (by decide +kernel) rfl, show Cond.initialized RX9 ∈ wA from wA_i 55 (by decide +kernel) rfl, show (yX9_mixTerms.cls ≠ "java/lang/invoke/MethodHandle" ∧ yX9_mixTerms.cls ≠ "java/lang/invoke/VarHandle" ∧ (parseMethodDescriptor yX9_mixTerms.desc).map (fun d => d.parameters.length) = some 1) from by decide +kernel⟩
theorem in_X9_mixTerms : Cond.instanceMethod yX9_mixTerms ∈ wA := wA_i 573 (by decide +kernel) rfl
theorem se_X9_mixTerms : Cond.selects RX9 yX9_mixTerms yX9_mixTerms ∈ wA := wA_i 2 (by decide +kernel) rfl
def MX9_mixBands (cs : Nat × Nat) : MI := (yX9_mixBands, cX9_mixBands, 7, (some .long), { frames := 8, locals := 135, cells := cs.1, slots := cs.2 })
theorem ok_X9_mixBands (cs : Nat × Nat) : fm_M (MX9_mixBands cs) 1 := ⟨show Cond.code yX9_mixBands cX9_mixBands 7 (some .long) ∈ wA from wA_i 590 (by decide +kernel) rfl, show Cond.initialized RX9 ∈ wA from wA_i 55 (by decide +kernel) rfl, show (yX9_mixBands.cls ≠ "java/lang/invoke/MethodHandle" ∧ yX9_mixBands.cls ≠ "java/lang/invoke/VarHandle" ∧ (parseMethodDescriptor yX9_mixBands.desc).map (fun d => d.parameters.length) = some 1) from by decide +kernel⟩
theorem in_X9_mixBands : Cond.instanceMethod yX9_mixBands ∈ wA := wA_i 589 (by decide +kernel) rfl
theorem se_X9_mixBands : Cond.selects RX9 yX9_mixBands yX9_mixBands ∈ wA := wA_i 3 (by decide +kernel) rfl
def MX9_mixSegment (cs : Nat × Nat) : MI := (yX9_mixSegment, cX9_mixSegment, 7, (some .long), { frames := 8, locals := 140, cells := cs.1, slots := cs.2 })
theorem ok_X9_mixSegment (cs : Nat × Nat) : fm_M (MX9_mixSegment cs) 2 := ⟨show Cond.code yX9_mixSegment cX9_mixSegment 7 (some .long) ∈ wA from wA_i 598 (by decide +kernel) rfl, show Cond.initialized RX9 ∈ wA from wA_i 55 (by decide +kernel) rfl, show (yX9_mixSegment.cls ≠ "java/lang/invoke/MethodHandle" ∧ yX9_mixSegment.cls ≠ "java/lang/invoke/VarHandle" ∧ (parseMethodDescriptor yX9_mixSegment.desc).map (fun d => d.parameters.length) = some 2) from by decide +kernel⟩
theorem in_X9_mixSegment : Cond.instanceMethod yX9_mixSegment ∈ wA := wA_i 597 (by decide +kernel) rfl
theorem se_X9_mixSegment : Cond.selects RX9 yX9_mixSegment yX9_mixSegment ∈ wA := wA_i 4 (by decide +kernel) rfl
def MX9_mixRemembered (cs : Nat × Nat) : MI := (yX9_mixRemembered, cX9_mixRemembered, 7, (some .long), { frames := 8, locals := 137, cells := cs.1, slots := cs.2 })
theorem ok_X9_mixRemembered (cs : Nat × Nat) : fm_M (MX9_mixRemembered cs) 2 := ⟨show Cond.code yX9_mixRemembered cX9_mixRemembered 7 (some .long) ∈ wA from wA_i 640 (by decide +kernel) rfl, show Cond.initialized RX9 ∈ wA from wA_i 55 (by decide +kernel) rfl, show (yX9_mixRemembered.cls ≠ "java/lang/invoke/MethodHandle" ∧ yX9_mixRemembered.cls ≠ "java/lang/invoke/VarHandle" ∧ (parseMethodDescriptor yX9_mixRemembered.desc).map (fun d => d.parameters.length) = some 2) from by decide +kernel⟩
theorem in_X9_mixRemembered : Cond.instanceMethod yX9_mixRemembered ∈ wA := wA_i 639 (by decide +kernel) rfl
theorem se_X9_mixRemembered : Cond.selects RX9 yX9_mixRemembered yX9_mixRemembered ∈ wA := wA_i 5 (by decide +kernel) rfl
def MX9_mixRow (cs : Nat × Nat) : MI := (yX9_mixRow, cX9_mixRow, 9, (some .long), { frames := 1, locals := 23, cells := cs.1, slots := cs.2 })
theorem ok_X9_mixRow (cs : Nat × Nat) : fm_M (MX9_mixRow cs) 2 := ⟨show Cond.code yX9_mixRow cX9_mixRow 9 (some .long) ∈ wA from wA_i 615 (by decide +kernel) rfl, show Cond.initialized RX9 ∈ wA from wA_i 55 (by decide +kernel) rfl, show (yX9_mixRow.cls ≠ "java/lang/invoke/MethodHandle" ∧ yX9_mixRow.cls ≠ "java/lang/invoke/VarHandle" ∧ (parseMethodDescriptor yX9_mixRow.desc).map (fun d => d.parameters.length) = some 2) from by decide +kernel⟩
theorem st_X9_mixRow : Cond.static yX9_mixRow ∈ wA := wA_i 614 (by decide +kernel) rfl
def MX9_mixBuffer (cs : Nat × Nat) : MI := (yX9_mixBuffer, cX9_mixBuffer, 6, (some .long), { frames := 1, locals := 23, cells := cs.1, slots := cs.2 })
theorem ok_X9_mixBuffer (cs : Nat × Nat) : fm_M (MX9_mixBuffer cs) 1 := ⟨show Cond.code yX9_mixBuffer cX9_mixBuffer 6 (some .long) ∈ wA from wA_i 656 (by decide +kernel) rfl, show Cond.initialized RX9 ∈ wA from wA_i 55 (by decide +kernel) rfl, show (yX9_mixBuffer.cls ≠ "java/lang/invoke/MethodHandle" ∧ yX9_mixBuffer.cls ≠ "java/lang/invoke/VarHandle" ∧ (parseMethodDescriptor yX9_mixBuffer.desc).map (fun d => d.parameters.length) = some 1) from by decide +kernel⟩
theorem in_X9_mixBuffer : Cond.instanceMethod yX9_mixBuffer ∈ wA := wA_i 655 (by decide +kernel) rfl
theorem se_X9_mixBuffer : Cond.selects RX9 yX9_mixBuffer yX9_mixBuffer ∈ wA := wA_i 6 (by decide +kernel) rfl
def MX9_checkNumber (cs : Nat × Nat) : MI := (yX9_checkNumber, cX9_checkNumber, 2, none, { frames := 6, locals := 90, cells := cs.1, slots := cs.2 })
theorem ok_X9_checkNumber (cs : Nat × Nat) : fm_M (MX9_checkNumber cs) 2 := ⟨show Cond.code yX9_checkNumber cX9_checkNumber 2 none ∈ wA from wA_i 538 (by decide +kernel) rfl, show Cond.initialized RX9 ∈ wA from wA_i 55 (by decide +kernel) rfl, show (yX9_checkNumber.cls ≠ "java/lang/invoke/MethodHandle" ∧ yX9_checkNumber.cls ≠ "java/lang/invoke/VarHandle" ∧ (parseMethodDescriptor yX9_checkNumber.desc).map (fun d => d.parameters.length) = some 2) from by decide +kernel⟩
theorem st_X9_checkNumber : Cond.static yX9_checkNumber ∈ wA := wA_i 537 (by decide +kernel) rfl
def MX9_checkRange (cs : Nat × Nat) : MI := (yX9_checkRange, cX9_checkRange, 3, none, { frames := 6, locals := 90, cells := cs.1, slots := cs.2 })
theorem ok_X9_checkRange (cs : Nat × Nat) : fm_M (MX9_checkRange cs) 3 := ⟨show Cond.code yX9_checkRange cX9_checkRange 3 none ∈ wA from wA_i 431 (by decide +kernel) rfl, show Cond.initialized RX9 ∈ wA from wA_i 55 (by decide +kernel) rfl, show (yX9_checkRange.cls ≠ "java/lang/invoke/MethodHandle" ∧ yX9_checkRange.cls ≠ "java/lang/invoke/VarHandle" ∧ (parseMethodDescriptor yX9_checkRange.desc).map (fun d => d.parameters.length) = some 3) from by decide +kernel⟩
theorem st_X9_checkRange : Cond.static yX9_checkRange ∈ wA := wA_i 430 (by decide +kernel) rfl
def MX9_checkArgument (cs : Nat × Nat) : MI := (yX9_checkArgument, cX9_checkArgument, 1, none, { frames := 6, locals := 90, cells := cs.1, slots := cs.2 })
theorem ok_X9_checkArgument (cs : Nat × Nat) : fm_M (MX9_checkArgument cs) 1 := ⟨show Cond.code yX9_checkArgument cX9_checkArgument 1 none ∈ wA from wA_i 820 (by decide +kernel) rfl, show Cond.initialized RX9 ∈ wA from wA_i 55 (by decide +kernel) rfl, show (yX9_checkArgument.cls ≠ "java/lang/invoke/MethodHandle" ∧ yX9_checkArgument.cls ≠ "java/lang/invoke/VarHandle" ∧ (parseMethodDescriptor yX9_checkArgument.desc).map (fun d => d.parameters.length) = some 1) from by decide +kernel⟩
theorem st_X9_checkArgument : Cond.static yX9_checkArgument ∈ wA := wA_i 819 (by decide +kernel) rfl
def MX9_checkState (cs : Nat × Nat) : MI := (yX9_checkState, cX9_checkState, 1, none, { frames := 6, locals := 90, cells := cs.1, slots := cs.2 })
theorem ok_X9_checkState (cs : Nat × Nat) : fm_M (MX9_checkState cs) 1 := ⟨show Cond.code yX9_checkState cX9_checkState 1 none ∈ wA from wA_i 724 (by decide +kernel) rfl, show Cond.initialized RX9 ∈ wA from wA_i 55 (by decide +kernel) rfl, show (yX9_checkState.cls ≠ "java/lang/invoke/MethodHandle" ∧ yX9_checkState.cls ≠ "java/lang/invoke/VarHandle" ∧ (parseMethodDescriptor yX9_checkState.desc).map (fun d => d.parameters.length) = some 1) from by decide +kernel⟩
theorem st_X9_checkState : Cond.static yX9_checkState ∈ wA := wA_i 723 (by decide +kernel) rfl
def MX9_oneIf (cs : Nat × Nat) : MI := (yX9_oneIf, cX9_oneIf, 1, (some .int), { frames := 0, locals := 0, cells := cs.1, slots := cs.2 })
theorem ok_X9_oneIf (cs : Nat × Nat) : fm_M (MX9_oneIf cs) 1 := ⟨show Cond.code yX9_oneIf cX9_oneIf 1 (some .int) ∈ wA from wA_i 506 (by decide +kernel) rfl, show Cond.initialized RX9 ∈ wA from wA_i 55 (by decide +kernel) rfl, show (yX9_oneIf.cls ≠ "java/lang/invoke/MethodHandle" ∧ yX9_oneIf.cls ≠ "java/lang/invoke/VarHandle" ∧ (parseMethodDescriptor yX9_oneIf.desc).map (fun d => d.parameters.length) = some 1) from by decide +kernel⟩
theorem st_X9_oneIf : Cond.static yX9_oneIf ∈ wA := wA_i 505 (by decide +kernel) rfl
def MX9_floatBits (cs : Nat × Nat) : MI := (yX9_floatBits, cX9_floatBits, 1, (some .int), { frames := 1, locals := 29, cells := cs.1, slots := cs.2 })
theorem ok_X9_floatBits (cs : Nat × Nat) : fm_M (MX9_floatBits cs) 1 := ⟨show Cond.code yX9_floatBits cX9_floatBits 1 (some .int) ∈ wA from wA_i 367 (by decide +kernel) rfl, show Cond.initialized RX9 ∈ wA from wA_i 55 (by decide +kernel) rfl, show (yX9_floatBits.cls ≠ "java/lang/invoke/MethodHandle" ∧ yX9_floatBits.cls ≠ "java/lang/invoke/VarHandle" ∧ (parseMethodDescriptor yX9_floatBits.desc).map (fun d => d.parameters.length) = some 1) from by decide +kernel⟩
theorem st_X9_floatBits : Cond.static yX9_floatBits ∈ wA := wA_i 366 (by decide +kernel) rfl
def MX9_bitsOf (cs : Nat × Nat) : MI := (yX9_bitsOf, cX9_bitsOf, 10, (some .long), { frames := 0, locals := 0, cells := cs.1, slots := cs.2 })
theorem ok_X9_bitsOf (cs : Nat × Nat) : fm_M (MX9_bitsOf cs) 3 := ⟨show Cond.code yX9_bitsOf cX9_bitsOf 10 (some .long) ∈ wA from wA_i 370 (by decide +kernel) rfl, show Cond.initialized RX9 ∈ wA from wA_i 55 (by decide +kernel) rfl, show (yX9_bitsOf.cls ≠ "java/lang/invoke/MethodHandle" ∧ yX9_bitsOf.cls ≠ "java/lang/invoke/VarHandle" ∧ (parseMethodDescriptor yX9_bitsOf.desc).map (fun d => d.parameters.length) = some 3) from by decide +kernel⟩
theorem st_X9_bitsOf : Cond.static yX9_bitsOf ∈ wA := wA_i 369 (by decide +kernel) rfl
def MX10_init (cs : Nat × Nat) : MI := (yX10_init, cX10_init, 2, none, { frames := 1, locals := 20, cells := cs.1, slots := cs.2 })
theorem ok_X10_init (cs : Nat × Nat) : fm_M (MX10_init cs) 0 := ⟨show Cond.code yX10_init cX10_init 2 none ∈ wA from wA_i 937 (by decide +kernel) rfl, show Cond.initialized RX10 ∈ wA from wA_i 66 (by decide +kernel) rfl, show (yX10_init.cls ≠ "java/lang/invoke/MethodHandle" ∧ yX10_init.cls ≠ "java/lang/invoke/VarHandle" ∧ (parseMethodDescriptor yX10_init.desc).map (fun d => d.parameters.length) = some 0) from by decide +kernel⟩
theorem in_X10_init : Cond.instanceMethod yX10_init ∈ wA := wA_i 936 (by decide +kernel) rfl
def MX10_thrown (cs : Nat × Nat) : MI := (yX10_thrown, cX10_thrown, 1, (some .int), { frames := 0, locals := 0, cells := cs.1, slots := cs.2 })
theorem ok_X10_thrown (cs : Nat × Nat) : fm_M (MX10_thrown cs) 0 := ⟨show Cond.code yX10_thrown cX10_thrown 1 (some .int) ∈ wA from wA_i 991 (by decide +kernel) rfl, show Cond.initialized RX10 ∈ wA from wA_i 66 (by decide +kernel) rfl, show (yX10_thrown.cls ≠ "java/lang/invoke/MethodHandle" ∧ yX10_thrown.cls ≠ "java/lang/invoke/VarHandle" ∧ (parseMethodDescriptor yX10_thrown.desc).map (fun d => d.parameters.length) = some 0) from by decide +kernel⟩
theorem in_X10_thrown : Cond.instanceMethod yX10_thrown ∈ wA := wA_i 989 (by decide +kernel) rfl
theorem se_X10_thrown : Cond.selects RX10 yX10_thrown yX10_thrown ∈ wA := wA_i 990 (by decide +kernel) rfl
def MX10_fails (cs : Nat × Nat) : MI := (yX10_fails, cX10_fails, 2, (some .int), { frames := 0, locals := 0, cells := cs.1, slots := cs.2 })
theorem ok_X10_fails (cs : Nat × Nat) : fm_M (MX10_fails cs) 1 := ⟨show Cond.code yX10_fails cX10_fails 2 (some .int) ∈ wA from wA_i 1005 (by decide +kernel) rfl, show Cond.initialized RX10 ∈ wA from wA_i 66 (by decide +kernel) rfl, show (yX10_fails.cls ≠ "java/lang/invoke/MethodHandle" ∧ yX10_fails.cls ≠ "java/lang/invoke/VarHandle" ∧ (parseMethodDescriptor yX10_fails.desc).map (fun d => d.parameters.length) = some 1) from by decide +kernel⟩
theorem in_X10_fails : Cond.instanceMethod yX10_fails ∈ wA := wA_i 1004 (by decide +kernel) rfl
theorem se_X10_fails : Cond.selects RX10 yX10_fails yX10_fails ∈ wA := wA_i 7 (by decide +kernel) rfl
def MX10_in (cs : Nat × Nat) : MI := (yX10_in, cX10_in, 3, (some .boolean), { frames := 0, locals := 0, cells := cs.1, slots := cs.2 })
theorem ok_X10_in (cs : Nat × Nat) : fm_M (MX10_in cs) 3 := ⟨show Cond.code yX10_in cX10_in 3 (some .boolean) ∈ wA from wA_i 1001 (by decide +kernel) rfl, show Cond.initialized RX10 ∈ wA from wA_i 66 (by decide +kernel) rfl, show (yX10_in.cls ≠ "java/lang/invoke/MethodHandle" ∧ yX10_in.cls ≠ "java/lang/invoke/VarHandle" ∧ (parseMethodDescriptor yX10_in.desc).map (fun d => d.parameters.length) = some 3) from by decide +kernel⟩
theorem st_X10_in : Cond.static yX10_in ∈ wA := wA_i 1000 (by decide +kernel) rfl
def MX10_save (cs : Nat × Nat) : MI := (yX10_save, cX10_save, 2, none, { frames := 0, locals := 0, cells := cs.1, slots := cs.2 })
theorem ok_X10_save (cs : Nat × Nat) : fm_M (MX10_save cs) 0 := ⟨show Cond.code yX10_save cX10_save 2 none ∈ wA from wA_i 1009 (by decide +kernel) rfl, show Cond.initialized RX10 ∈ wA from wA_i 66 (by decide +kernel) rfl, show (yX10_save.cls ≠ "java/lang/invoke/MethodHandle" ∧ yX10_save.cls ≠ "java/lang/invoke/VarHandle" ∧ (parseMethodDescriptor yX10_save.desc).map (fun d => d.parameters.length) = some 0) from by decide +kernel⟩
theorem in_X10_save : Cond.instanceMethod yX10_save ∈ wA := wA_i 1008 (by decide +kernel) rfl
theorem se_X10_save : Cond.selects RX10 yX10_save yX10_save ∈ wA := wA_i 8 (by decide +kernel) rfl
def MX10_putAside (cs : Nat × Nat) : MI := (yX10_putAside, cX10_putAside, 2, none, { frames := 0, locals := 0, cells := cs.1, slots := cs.2 })
theorem ok_X10_putAside (cs : Nat × Nat) : fm_M (MX10_putAside cs) 0 := ⟨show Cond.code yX10_putAside cX10_putAside 2 none ∈ wA from wA_i 1293 (by decide +kernel) rfl, show Cond.initialized RX10 ∈ wA from wA_i 66 (by decide +kernel) rfl, show (yX10_putAside.cls ≠ "java/lang/invoke/MethodHandle" ∧ yX10_putAside.cls ≠ "java/lang/invoke/VarHandle" ∧ (parseMethodDescriptor yX10_putAside.desc).map (fun d => d.parameters.length) = some 0) from by decide +kernel⟩
theorem in_X10_putAside : Cond.instanceMethod yX10_putAside ∈ wA := wA_i 1292 (by decide +kernel) rfl
theorem se_X10_putAside : Cond.selects RX10 yX10_putAside yX10_putAside ∈ wA := wA_i 47 (by decide +kernel) rfl
def MX10_putBack (cs : Nat × Nat) : MI := (yX10_putBack, cX10_putBack, 2, none, { frames := 0, locals := 0, cells := cs.1, slots := cs.2 })
theorem ok_X10_putBack (cs : Nat × Nat) : fm_M (MX10_putBack cs) 0 := ⟨show Cond.code yX10_putBack cX10_putBack 2 none ∈ wA from wA_i 1297 (by decide +kernel) rfl, show Cond.initialized RX10 ∈ wA from wA_i 66 (by decide +kernel) rfl, show (yX10_putBack.cls ≠ "java/lang/invoke/MethodHandle" ∧ yX10_putBack.cls ≠ "java/lang/invoke/VarHandle" ∧ (parseMethodDescriptor yX10_putBack.desc).map (fun d => d.parameters.length) = some 0) from by decide +kernel⟩
theorem in_X10_putBack : Cond.instanceMethod yX10_putBack ∈ wA := wA_i 1296 (by decide +kernel) rfl
theorem se_X10_putBack : Cond.selects RX10 yX10_putBack yX10_putBack ∈ wA := wA_i 48 (by decide +kernel) rfl
def MX10_at (cs : Nat × Nat) : MI := (yX10_at, cX10_at, 1, (some .int), { frames := 0, locals := 0, cells := cs.1, slots := cs.2 })
theorem ok_X10_at (cs : Nat × Nat) : fm_M (MX10_at cs) 1 := ⟨show Cond.code yX10_at cX10_at 1 (some .int) ∈ wA from wA_i 1034 (by decide +kernel) rfl, show Cond.initialized RX10 ∈ wA from wA_i 66 (by decide +kernel) rfl, show (yX10_at.cls ≠ "java/lang/invoke/MethodHandle" ∧ yX10_at.cls ≠ "java/lang/invoke/VarHandle" ∧ (parseMethodDescriptor yX10_at.desc).map (fun d => d.parameters.length) = some 1) from by decide +kernel⟩
theorem st_X10_at : Cond.static yX10_at ∈ wA := wA_i 1033 (by decide +kernel) rfl
def MX10_rowAt (cs : Nat × Nat) : MI := (yX10_rowAt, cX10_rowAt, 1, (some .int), { frames := 0, locals := 0, cells := cs.1, slots := cs.2 })
theorem ok_X10_rowAt (cs : Nat × Nat) : fm_M (MX10_rowAt cs) 1 := ⟨show Cond.code yX10_rowAt cX10_rowAt 1 (some .int) ∈ wA from wA_i 1061 (by decide +kernel) rfl, show Cond.initialized RX10 ∈ wA from wA_i 66 (by decide +kernel) rfl, show (yX10_rowAt.cls ≠ "java/lang/invoke/MethodHandle" ∧ yX10_rowAt.cls ≠ "java/lang/invoke/VarHandle" ∧ (parseMethodDescriptor yX10_rowAt.desc).map (fun d => d.parameters.length) = some 1) from by decide +kernel⟩
theorem st_X10_rowAt : Cond.static yX10_rowAt ∈ wA := wA_i 1060 (by decide +kernel) rfl
def MX10_person (cs : Nat × Nat) : MI := (yX10_person, cX10_person, 1, (some .int), { frames := 0, locals := 0, cells := cs.1, slots := cs.2 })
theorem ok_X10_person (cs : Nat × Nat) : fm_M (MX10_person cs) 1 := ⟨show Cond.code yX10_person cX10_person 1 (some .int) ∈ wA from wA_i 1012 (by decide +kernel) rfl, show Cond.initialized RX10 ∈ wA from wA_i 66 (by decide +kernel) rfl, show (yX10_person.cls ≠ "java/lang/invoke/MethodHandle" ∧ yX10_person.cls ≠ "java/lang/invoke/VarHandle" ∧ (parseMethodDescriptor yX10_person.desc).map (fun d => d.parameters.length) = some 1) from by decide +kernel⟩
theorem st_X10_person : Cond.static yX10_person ∈ wA := wA_i 1011 (by decide +kernel) rfl
def MX10_proposal (cs : Nat × Nat) : MI := (yX10_proposal, cX10_proposal, 2, (some .int), { frames := 0, locals := 0, cells := cs.1, slots := cs.2 })
theorem ok_X10_proposal (cs : Nat × Nat) : fm_M (MX10_proposal cs) 2 := ⟨show Cond.code yX10_proposal cX10_proposal 2 (some .int) ∈ wA from wA_i 1088 (by decide +kernel) rfl, show Cond.initialized RX10 ∈ wA from wA_i 66 (by decide +kernel) rfl, show (yX10_proposal.cls ≠ "java/lang/invoke/MethodHandle" ∧ yX10_proposal.cls ≠ "java/lang/invoke/VarHandle" ∧ (parseMethodDescriptor yX10_proposal.desc).map (fun d => d.parameters.length) = some 2) from by decide +kernel⟩
theorem st_X10_proposal : Cond.static yX10_proposal ∈ wA := wA_i 1087 (by decide +kernel) rfl
def MX10_isSegment (cs : Nat × Nat) : MI := (yX10_isSegment, cX10_isSegment, 2, (some .boolean), { frames := 1, locals := 22, cells := cs.1, slots := cs.2 })
theorem ok_X10_isSegment (cs : Nat × Nat) : fm_M (MX10_isSegment cs) 1 := ⟨show Cond.code yX10_isSegment cX10_isSegment 2 (some .boolean) ∈ wA from wA_i 1031 (by decide +kernel) rfl, show Cond.initialized RX10 ∈ wA from wA_i 66 (by decide +kernel) rfl, show (yX10_isSegment.cls ≠ "java/lang/invoke/MethodHandle" ∧ yX10_isSegment.cls ≠ "java/lang/invoke/VarHandle" ∧ (parseMethodDescriptor yX10_isSegment.desc).map (fun d => d.parameters.length) = some 1) from by decide +kernel⟩
theorem in_X10_isSegment : Cond.instanceMethod yX10_isSegment ∈ wA := wA_i 1030 (by decide +kernel) rfl
theorem se_X10_isSegment : Cond.selects RX10 yX10_isSegment yX10_isSegment ∈ wA := wA_i 9 (by decide +kernel) rfl
def MX10_isPerson (cs : Nat × Nat) : MI := (yX10_isPerson, cX10_isPerson, 1, (some .boolean), { frames := 1, locals := 22, cells := cs.1, slots := cs.2 })
theorem ok_X10_isPerson (cs : Nat × Nat) : fm_M (MX10_isPerson cs) 1 := ⟨show Cond.code yX10_isPerson cX10_isPerson 1 (some .boolean) ∈ wA from wA_i 998 (by decide +kernel) rfl, show Cond.initialized RX10 ∈ wA from wA_i 66 (by decide +kernel) rfl, show (yX10_isPerson.cls ≠ "java/lang/invoke/MethodHandle" ∧ yX10_isPerson.cls ≠ "java/lang/invoke/VarHandle" ∧ (parseMethodDescriptor yX10_isPerson.desc).map (fun d => d.parameters.length) = some 1) from by decide +kernel⟩
theorem st_X10_isPerson : Cond.static yX10_isPerson ∈ wA := wA_i 997 (by decide +kernel) rfl
def MX10_isWord (cs : Nat × Nat) : MI := (yX10_isWord, cX10_isWord, 1, (some .boolean), { frames := 1, locals := 22, cells := cs.1, slots := cs.2 })
theorem ok_X10_isWord (cs : Nat × Nat) : fm_M (MX10_isWord cs) 1 := ⟨show Cond.code yX10_isWord cX10_isWord 1 (some .boolean) ∈ wA from wA_i 1103 (by decide +kernel) rfl, show Cond.initialized RX10 ∈ wA from wA_i 66 (by decide +kernel) rfl, show (yX10_isWord.cls ≠ "java/lang/invoke/MethodHandle" ∧ yX10_isWord.cls ≠ "java/lang/invoke/VarHandle" ∧ (parseMethodDescriptor yX10_isWord.desc).map (fun d => d.parameters.length) = some 1) from by decide +kernel⟩
theorem st_X10_isWord : Cond.static yX10_isWord ∈ wA := wA_i 1102 (by decide +kernel) rfl
def MX10_isBand (cs : Nat × Nat) : MI := (yX10_isBand, cX10_isBand, 1, (some .boolean), { frames := 1, locals := 22, cells := cs.1, slots := cs.2 })
theorem ok_X10_isBand (cs : Nat × Nat) : fm_M (MX10_isBand cs) 1 := ⟨show Cond.code yX10_isBand cX10_isBand 1 (some .boolean) ∈ wA from wA_i 1019 (by decide +kernel) rfl, show Cond.initialized RX10 ∈ wA from wA_i 66 (by decide +kernel) rfl, show (yX10_isBand.cls ≠ "java/lang/invoke/MethodHandle" ∧ yX10_isBand.cls ≠ "java/lang/invoke/VarHandle" ∧ (parseMethodDescriptor yX10_isBand.desc).map (fun d => d.parameters.length) = some 1) from by decide +kernel⟩
theorem st_X10_isBand : Cond.static yX10_isBand ∈ wA := wA_i 1018 (by decide +kernel) rfl
def MX10_layOne (cs : Nat × Nat) : MI := (yX10_layOne, cX10_layOne, 3, none, { frames := 1, locals := 20, cells := cs.1, slots := cs.2 })
theorem ok_X10_layOne (cs : Nat × Nat) : fm_M (MX10_layOne cs) 1 := ⟨show Cond.code yX10_layOne cX10_layOne 3 none ∈ wA from wA_i 1054 (by decide +kernel) rfl, show Cond.initialized RX10 ∈ wA from wA_i 66 (by decide +kernel) rfl, show (yX10_layOne.cls ≠ "java/lang/invoke/MethodHandle" ∧ yX10_layOne.cls ≠ "java/lang/invoke/VarHandle" ∧ (parseMethodDescriptor yX10_layOne.desc).map (fun d => d.parameters.length) = some 1) from by decide +kernel⟩
theorem in_X10_layOne : Cond.instanceMethod yX10_layOne ∈ wA := wA_i 1053 (by decide +kernel) rfl
theorem se_X10_layOne : Cond.selects RX10 yX10_layOne yX10_layOne ∈ wA := wA_i 14 (by decide +kernel) rfl
def MX10_layOther (cs : Nat × Nat) : MI := (yX10_layOther, cX10_layOther, 3, none, { frames := 1, locals := 20, cells := cs.1, slots := cs.2 })
theorem ok_X10_layOther (cs : Nat × Nat) : fm_M (MX10_layOther cs) 1 := ⟨show Cond.code yX10_layOther cX10_layOther 3 none ∈ wA from wA_i 1261 (by decide +kernel) rfl, show Cond.initialized RX10 ∈ wA from wA_i 66 (by decide +kernel) rfl, show (yX10_layOther.cls ≠ "java/lang/invoke/MethodHandle" ∧ yX10_layOther.cls ≠ "java/lang/invoke/VarHandle" ∧ (parseMethodDescriptor yX10_layOther.desc).map (fun d => d.parameters.length) = some 1) from by decide +kernel⟩
theorem in_X10_layOther : Cond.instanceMethod yX10_layOther ∈ wA := wA_i 1260 (by decide +kernel) rfl
theorem se_X10_layOther : Cond.selects RX10 yX10_layOther yX10_layOther ∈ wA := wA_i 41 (by decide +kernel) rfl
def MX10_layRow (cs : Nat × Nat) : MI := (yX10_layRow, cX10_layRow, 3, none, { frames := 1, locals := 20, cells := cs.1, slots := cs.2 })
theorem ok_X10_layRow (cs : Nat × Nat) : fm_M (MX10_layRow cs) 1 := ⟨show Cond.code yX10_layRow cX10_layRow 3 none ∈ wA from wA_i 1058 (by decide +kernel) rfl, show Cond.initialized RX10 ∈ wA from wA_i 66 (by decide +kernel) rfl, show (yX10_layRow.cls ≠ "java/lang/invoke/MethodHandle" ∧ yX10_layRow.cls ≠ "java/lang/invoke/VarHandle" ∧ (parseMethodDescriptor yX10_layRow.desc).map (fun d => d.parameters.length) = some 1) from by decide +kernel⟩
theorem in_X10_layRow : Cond.instanceMethod yX10_layRow ∈ wA := wA_i 1057 (by decide +kernel) rfl
theorem se_X10_layRow : Cond.selects RX10 yX10_layRow yX10_layRow ∈ wA := wA_i 15 (by decide +kernel) rfl
def MX10_longest (cs : Nat × Nat) : MI := (yX10_longest, cX10_longest, 5, (some .int), { frames := 0, locals := 0, cells := cs.1, slots := cs.2 })
theorem ok_X10_longest (cs : Nat × Nat) : fm_M (MX10_longest cs) 0 := ⟨show Cond.code yX10_longest cX10_longest 5 (some .int) ∈ wA from wA_i 1069 (by decide +kernel) rfl, show Cond.initialized RX10 ∈ wA from wA_i 66 (by decide +kernel) rfl, show (yX10_longest.cls ≠ "java/lang/invoke/MethodHandle" ∧ yX10_longest.cls ≠ "java/lang/invoke/VarHandle" ∧ (parseMethodDescriptor yX10_longest.desc).map (fun d => d.parameters.length) = some 0) from by decide +kernel⟩
theorem in_X10_longest : Cond.instanceMethod yX10_longest ∈ wA := wA_i 1068 (by decide +kernel) rfl
theorem se_X10_longest : Cond.selects RX10 yX10_longest yX10_longest ∈ wA := wA_i 17 (by decide +kernel) rfl
def MX10_matchNow (cs : Nat × Nat) : MI := (yX10_matchNow, cX10_matchNow, 1, (some .int), { frames := 1, locals := 24, cells := cs.1, slots := cs.2 })
theorem ok_X10_matchNow (cs : Nat × Nat) : fm_M (MX10_matchNow cs) 0 := ⟨show Cond.code yX10_matchNow cX10_matchNow 1 (some .int) ∈ wA from wA_i 1065 (by decide +kernel) rfl, show Cond.initialized RX10 ∈ wA from wA_i 66 (by decide +kernel) rfl, show (yX10_matchNow.cls ≠ "java/lang/invoke/MethodHandle" ∧ yX10_matchNow.cls ≠ "java/lang/invoke/VarHandle" ∧ (parseMethodDescriptor yX10_matchNow.desc).map (fun d => d.parameters.length) = some 0) from by decide +kernel⟩
theorem in_X10_matchNow : Cond.instanceMethod yX10_matchNow ∈ wA := wA_i 1064 (by decide +kernel) rfl
theorem se_X10_matchNow : Cond.selects RX10 yX10_matchNow yX10_matchNow ∈ wA := wA_i 16 (by decide +kernel) rfl
def MX10_bestRow (cs : Nat × Nat) : MI := (yX10_bestRow, cX10_bestRow, 6, (some .int), { frames := 2, locals := 44, cells := cs.1, slots := cs.2 })
theorem ok_X10_bestRow (cs : Nat × Nat) : fm_M (MX10_bestRow cs) 1 := ⟨show Cond.code yX10_bestRow cX10_bestRow 6 (some .int) ∈ wA from wA_i 1050 (by decide +kernel) rfl, show Cond.initialized RX10 ∈ wA from wA_i 66 (by decide +kernel) rfl, show (yX10_bestRow.cls ≠ "java/lang/invoke/MethodHandle" ∧ yX10_bestRow.cls ≠ "java/lang/invoke/VarHandle" ∧ (parseMethodDescriptor yX10_bestRow.desc).map (fun d => d.parameters.length) = some 1) from by decide +kernel⟩
theorem in_X10_bestRow : Cond.instanceMethod yX10_bestRow ∈ wA := wA_i 1049 (by decide +kernel) rfl
theorem se_X10_bestRow : Cond.selects RX10 yX10_bestRow yX10_bestRow ∈ wA := wA_i 13 (by decide +kernel) rfl
def MX10_matchOf (cs : Nat × Nat) : MI := (yX10_matchOf, cX10_matchOf, 3, (some .int), { frames := 3, locals := 69, cells := cs.1, slots := cs.2 })
theorem ok_X10_matchOf (cs : Nat × Nat) : fm_M (MX10_matchOf cs) 1 := ⟨show Cond.code yX10_matchOf cX10_matchOf 3 (some .int) ∈ wA from wA_i 1046 (by decide +kernel) rfl, show Cond.initialized RX10 ∈ wA from wA_i 66 (by decide +kernel) rfl, show (yX10_matchOf.cls ≠ "java/lang/invoke/MethodHandle" ∧ yX10_matchOf.cls ≠ "java/lang/invoke/VarHandle" ∧ (parseMethodDescriptor yX10_matchOf.desc).map (fun d => d.parameters.length) = some 1) from by decide +kernel⟩
theorem in_X10_matchOf : Cond.instanceMethod yX10_matchOf ∈ wA := wA_i 1045 (by decide +kernel) rfl
theorem se_X10_matchOf : Cond.selects RX10 yX10_matchOf yX10_matchOf ∈ wA := wA_i 12 (by decide +kernel) rfl
def MX10_bandNow (cs : Nat × Nat) : MI := (yX10_bandNow, cX10_bandNow, 3, (some .int), { frames := 4, locals := 91, cells := cs.1, slots := cs.2 })
theorem ok_X10_bandNow (cs : Nat × Nat) : fm_M (MX10_bandNow cs) 1 := ⟨show Cond.code yX10_bandNow cX10_bandNow 3 (some .int) ∈ wA from wA_i 1042 (by decide +kernel) rfl, show Cond.initialized RX10 ∈ wA from wA_i 66 (by decide +kernel) rfl, show (yX10_bandNow.cls ≠ "java/lang/invoke/MethodHandle" ∧ yX10_bandNow.cls ≠ "java/lang/invoke/VarHandle" ∧ (parseMethodDescriptor yX10_bandNow.desc).map (fun d => d.parameters.length) = some 1) from by decide +kernel⟩
theorem in_X10_bandNow : Cond.instanceMethod yX10_bandNow ∈ wA := wA_i 1041 (by decide +kernel) rfl
theorem se_X10_bandNow : Cond.selects RX10 yX10_bandNow yX10_bandNow ∈ wA := wA_i 11 (by decide +kernel) rfl
def MX10_partNow (cs : Nat × Nat) : MI := (yX10_partNow, cX10_partNow, 2, (some .int), { frames := 5, locals := 113, cells := cs.1, slots := cs.2 })
theorem ok_X10_partNow (cs : Nat × Nat) : fm_M (MX10_partNow cs) 1 := ⟨show Cond.code yX10_partNow cX10_partNow 2 (some .int) ∈ wA from wA_i 1281 (by decide +kernel) rfl, show Cond.initialized RX10 ∈ wA from wA_i 66 (by decide +kernel) rfl, show (yX10_partNow.cls ≠ "java/lang/invoke/MethodHandle" ∧ yX10_partNow.cls ≠ "java/lang/invoke/VarHandle" ∧ (parseMethodDescriptor yX10_partNow.desc).map (fun d => d.parameters.length) = some 1) from by decide +kernel⟩
theorem in_X10_partNow : Cond.instanceMethod yX10_partNow ∈ wA := wA_i 1280 (by decide +kernel) rfl
theorem se_X10_partNow : Cond.selects RX10 yX10_partNow yX10_partNow ∈ wA := wA_i 45 (by decide +kernel) rfl
def MX10_isDisputed (cs : Nat × Nat) : MI := (yX10_isDisputed, cX10_isDisputed, 2, (some .boolean), { frames := 2, locals := 46, cells := cs.1, slots := cs.2 })
theorem ok_X10_isDisputed (cs : Nat × Nat) : fm_M (MX10_isDisputed cs) 1 := ⟨show Cond.code yX10_isDisputed cX10_isDisputed 2 (some .boolean) ∈ wA from wA_i 1081 (by decide +kernel) rfl, show Cond.initialized RX10 ∈ wA from wA_i 66 (by decide +kernel) rfl, show (yX10_isDisputed.cls ≠ "java/lang/invoke/MethodHandle" ∧ yX10_isDisputed.cls ≠ "java/lang/invoke/VarHandle" ∧ (parseMethodDescriptor yX10_isDisputed.desc).map (fun d => d.parameters.length) = some 1) from by decide +kernel⟩
theorem in_X10_isDisputed : Cond.instanceMethod yX10_isDisputed ∈ wA := wA_i 1080 (by decide +kernel) rfl
theorem se_X10_isDisputed : Cond.selects RX10 yX10_isDisputed yX10_isDisputed ∈ wA := wA_i 19 (by decide +kernel) rfl
def MX10_unlike (cs : Nat × Nat) : MI := (yX10_unlike, cX10_unlike, 6, (some .int), { frames := 1, locals := 21, cells := cs.1, slots := cs.2 })
theorem ok_X10_unlike (cs : Nat × Nat) : fm_M (MX10_unlike cs) 1 := ⟨show Cond.code yX10_unlike cX10_unlike 6 (some .int) ∈ wA from wA_i 1085 (by decide +kernel) rfl, show Cond.initialized RX10 ∈ wA from wA_i 66 (by decide +kernel) rfl, show (yX10_unlike.cls ≠ "java/lang/invoke/MethodHandle" ∧ yX10_unlike.cls ≠ "java/lang/invoke/VarHandle" ∧ (parseMethodDescriptor yX10_unlike.desc).map (fun d => d.parameters.length) = some 1) from by decide +kernel⟩
theorem in_X10_unlike : Cond.instanceMethod yX10_unlike ∈ wA := wA_i 1084 (by decide +kernel) rfl
theorem se_X10_unlike : Cond.selects RX10 yX10_unlike yX10_unlike ∈ wA := wA_i 20 (by decide +kernel) rfl
def MX10_hasDisputed (cs : Nat × Nat) : MI := (yX10_hasDisputed, cX10_hasDisputed, 4, (some .boolean), { frames := 3, locals := 67, cells := cs.1, slots := cs.2 })
theorem ok_X10_hasDisputed (cs : Nat × Nat) : fm_M (MX10_hasDisputed cs) 1 := ⟨show Cond.code yX10_hasDisputed cX10_hasDisputed 4 (some .boolean) ∈ wA from wA_i 1077 (by decide +kernel) rfl, show Cond.initialized RX10 ∈ wA from wA_i 66 (by decide +kernel) rfl, show (yX10_hasDisputed.cls ≠ "java/lang/invoke/MethodHandle" ∧ yX10_hasDisputed.cls ≠ "java/lang/invoke/VarHandle" ∧ (parseMethodDescriptor yX10_hasDisputed.desc).map (fun d => d.parameters.length) = some 1) from by decide +kernel⟩
theorem in_X10_hasDisputed : Cond.instanceMethod yX10_hasDisputed ∈ wA := wA_i 1076 (by decide +kernel) rfl
theorem se_X10_hasDisputed : Cond.selects RX10 yX10_hasDisputed yX10_hasDisputed ∈ wA := wA_i 18 (by decide +kernel) rfl
def MX10_rate (cs : Nat × Nat) : MI := (yX10_rate, cX10_rate, 4, (some .int), { frames := 2, locals := 42, cells := cs.1, slots := cs.2 })
theorem ok_X10_rate (cs : Nat × Nat) : fm_M (MX10_rate cs) 2 := ⟨show Cond.code yX10_rate cX10_rate 4 (some .int) ∈ wA from wA_i 995 (by decide +kernel) rfl, show Cond.initialized RX10 ∈ wA from wA_i 66 (by decide +kernel) rfl, show (yX10_rate.cls ≠ "java/lang/invoke/MethodHandle" ∧ yX10_rate.cls ≠ "java/lang/invoke/VarHandle" ∧ (parseMethodDescriptor yX10_rate.desc).map (fun d => d.parameters.length) = some 2) from by decide +kernel⟩
theorem in_X10_rate : Cond.instanceMethod yX10_rate ∈ wA := wA_i 993 (by decide +kernel) rfl
theorem se_X10_rate : Cond.selects RX10 yX10_rate yX10_rate ∈ wA := wA_i 994 (by decide +kernel) rfl
def MX10_pays (cs : Nat × Nat) : MI := (yX10_pays, cX10_pays, 4, (some .int), { frames := 2, locals := 42, cells := cs.1, slots := cs.2 })
theorem ok_X10_pays (cs : Nat × Nat) : fm_M (MX10_pays cs) 2 := ⟨show Cond.code yX10_pays cX10_pays 4 (some .int) ∈ wA from wA_i 1016 (by decide +kernel) rfl, show Cond.initialized RX10 ∈ wA from wA_i 66 (by decide +kernel) rfl, show (yX10_pays.cls ≠ "java/lang/invoke/MethodHandle" ∧ yX10_pays.cls ≠ "java/lang/invoke/VarHandle" ∧ (parseMethodDescriptor yX10_pays.desc).map (fun d => d.parameters.length) = some 2) from by decide +kernel⟩
theorem in_X10_pays : Cond.instanceMethod yX10_pays ∈ wA := wA_i 1014 (by decide +kernel) rfl
theorem se_X10_pays : Cond.selects RX10 yX10_pays yX10_pays ∈ wA := wA_i 1015 (by decide +kernel) rfl
def MX10_set (cs : Nat × Nat) : MI := (yX10_set, cX10_set, 4, (some .int), { frames := 1, locals := 22, cells := cs.1, slots := cs.2 })
theorem ok_X10_set (cs : Nat × Nat) : fm_M (MX10_set cs) 2 := ⟨show Cond.code yX10_set cX10_set 4 (some .int) ∈ wA from wA_i 1023 (by decide +kernel) rfl, show Cond.initialized RX10 ∈ wA from wA_i 66 (by decide +kernel) rfl, show (yX10_set.cls ≠ "java/lang/invoke/MethodHandle" ∧ yX10_set.cls ≠ "java/lang/invoke/VarHandle" ∧ (parseMethodDescriptor yX10_set.desc).map (fun d => d.parameters.length) = some 2) from by decide +kernel⟩
theorem in_X10_set : Cond.instanceMethod yX10_set ∈ wA := wA_i 1021 (by decide +kernel) rfl
theorem se_X10_set : Cond.selects RX10 yX10_set yX10_set ∈ wA := wA_i 1022 (by decide +kernel) rfl
def MX10_fix (cs : Nat × Nat) : MI := (yX10_fix, cX10_fix, 3, none, { frames := 5, locals := 113, cells := cs.1, slots := cs.2 })
theorem ok_X10_fix (cs : Nat × Nat) : fm_M (MX10_fix cs) 1 := ⟨show Cond.code yX10_fix cX10_fix 3 none ∈ wA from wA_i 1038 (by decide +kernel) rfl, show Cond.initialized RX10 ∈ wA from wA_i 66 (by decide +kernel) rfl, show (yX10_fix.cls ≠ "java/lang/invoke/MethodHandle" ∧ yX10_fix.cls ≠ "java/lang/invoke/VarHandle" ∧ (parseMethodDescriptor yX10_fix.desc).map (fun d => d.parameters.length) = some 1) from by decide +kernel⟩
theorem in_X10_fix : Cond.instanceMethod yX10_fix ∈ wA := wA_i 1037 (by decide +kernel) rfl
theorem se_X10_fix : Cond.selects RX10 yX10_fix yX10_fix ∈ wA := wA_i 10 (by decide +kernel) rfl
def MX10_assign (cs : Nat × Nat) : MI := (yX10_assign, cX10_assign, 3, (some .int), { frames := 6, locals := 135, cells := cs.1, slots := cs.2 })
theorem ok_X10_assign (cs : Nat × Nat) : fm_M (MX10_assign cs) 2 := ⟨show Cond.code yX10_assign cX10_assign 3 (some .int) ∈ wA from wA_i 1027 (by decide +kernel) rfl, show Cond.initialized RX10 ∈ wA from wA_i 66 (by decide +kernel) rfl, show (yX10_assign.cls ≠ "java/lang/invoke/MethodHandle" ∧ yX10_assign.cls ≠ "java/lang/invoke/VarHandle" ∧ (parseMethodDescriptor yX10_assign.desc).map (fun d => d.parameters.length) = some 2) from by decide +kernel⟩
theorem in_X10_assign : Cond.instanceMethod yX10_assign ∈ wA := wA_i 1025 (by decide +kernel) rfl
theorem se_X10_assign : Cond.selects RX10 yX10_assign yX10_assign ∈ wA := wA_i 1026 (by decide +kernel) rfl
def MX10_remember (cs : Nat × Nat) : MI := (yX10_remember, cX10_remember, 4, none, { frames := 1, locals := 20, cells := cs.1, slots := cs.2 })
theorem ok_X10_remember (cs : Nat × Nat) : fm_M (MX10_remember cs) 1 := ⟨show Cond.code yX10_remember cX10_remember 4 none ∈ wA from wA_i 1092 (by decide +kernel) rfl, show Cond.initialized RX10 ∈ wA from wA_i 66 (by decide +kernel) rfl, show (yX10_remember.cls ≠ "java/lang/invoke/MethodHandle" ∧ yX10_remember.cls ≠ "java/lang/invoke/VarHandle" ∧ (parseMethodDescriptor yX10_remember.desc).map (fun d => d.parameters.length) = some 1) from by decide +kernel⟩
theorem in_X10_remember : Cond.instanceMethod yX10_remember ∈ wA := wA_i 1091 (by decide +kernel) rfl
theorem se_X10_remember : Cond.selects RX10 yX10_remember yX10_remember ∈ wA := wA_i 21 (by decide +kernel) rfl
def MX10_deliver (cs : Nat × Nat) : MI := (yX10_deliver, cX10_deliver, 5, (some .int), { frames := 4, locals := 90, cells := cs.1, slots := cs.2 })
theorem ok_X10_deliver (cs : Nat × Nat) : fm_M (MX10_deliver cs) 1 := ⟨show Cond.code yX10_deliver cX10_deliver 5 (some .int) ∈ wA from wA_i 1073 (by decide +kernel) rfl, show Cond.initialized RX10 ∈ wA from wA_i 66 (by decide +kernel) rfl, show (yX10_deliver.cls ≠ "java/lang/invoke/MethodHandle" ∧ yX10_deliver.cls ≠ "java/lang/invoke/VarHandle" ∧ (parseMethodDescriptor yX10_deliver.desc).map (fun d => d.parameters.length) = some 1) from by decide +kernel⟩
theorem in_X10_deliver : Cond.instanceMethod yX10_deliver ∈ wA := wA_i 1071 (by decide +kernel) rfl
theorem se_X10_deliver : Cond.selects RX10 yX10_deliver yX10_deliver ∈ wA := wA_i 1072 (by decide +kernel) rfl
def MX10_revise (cs : Nat × Nat) : MI := (yX10_revise, cX10_revise, 8, (some .int), { frames := 2, locals := 43, cells := cs.1, slots := cs.2 })
theorem ok_X10_revise (cs : Nat × Nat) : fm_M (MX10_revise cs) 3 := ⟨show Cond.code yX10_revise cX10_revise 8 (some .int) ∈ wA from wA_i 1096 (by decide +kernel) rfl, show Cond.initialized RX10 ∈ wA from wA_i 66 (by decide +kernel) rfl, show (yX10_revise.cls ≠ "java/lang/invoke/MethodHandle" ∧ yX10_revise.cls ≠ "java/lang/invoke/VarHandle" ∧ (parseMethodDescriptor yX10_revise.desc).map (fun d => d.parameters.length) = some 3) from by decide +kernel⟩
theorem in_X10_revise : Cond.instanceMethod yX10_revise ∈ wA := wA_i 1094 (by decide +kernel) rfl
theorem se_X10_revise : Cond.selects RX10 yX10_revise yX10_revise ∈ wA := wA_i 1095 (by decide +kernel) rfl
def MX10_propose (cs : Nat × Nat) : MI := (yX10_propose, cX10_propose, 5, (some .int), { frames := 2, locals := 42, cells := cs.1, slots := cs.2 })
theorem ok_X10_propose (cs : Nat × Nat) : fm_M (MX10_propose cs) 3 := ⟨show Cond.code yX10_propose cX10_propose 5 (some .int) ∈ wA from wA_i 1100 (by decide +kernel) rfl, show Cond.initialized RX10 ∈ wA from wA_i 66 (by decide +kernel) rfl, show (yX10_propose.cls ≠ "java/lang/invoke/MethodHandle" ∧ yX10_propose.cls ≠ "java/lang/invoke/VarHandle" ∧ (parseMethodDescriptor yX10_propose.desc).map (fun d => d.parameters.length) = some 3) from by decide +kernel⟩
theorem in_X10_propose : Cond.instanceMethod yX10_propose ∈ wA := wA_i 1098 (by decide +kernel) rfl
theorem se_X10_propose : Cond.selects RX10 yX10_propose yX10_propose ∈ wA := wA_i 1099 (by decide +kernel) rfl
def MX10_having (cs : Nat × Nat) : MI := (yX10_having, cX10_having, 5, (some .int), { frames := 1, locals := 21, cells := cs.1, slots := cs.2 })
theorem ok_X10_having (cs : Nat × Nat) : fm_M (MX10_having cs) 2 := ⟨show Cond.code yX10_having cX10_having 5 (some .int) ∈ wA from wA_i 1111 (by decide +kernel) rfl, show Cond.initialized RX10 ∈ wA from wA_i 66 (by decide +kernel) rfl, show (yX10_having.cls ≠ "java/lang/invoke/MethodHandle" ∧ yX10_having.cls ≠ "java/lang/invoke/VarHandle" ∧ (parseMethodDescriptor yX10_having.desc).map (fun d => d.parameters.length) = some 2) from by decide +kernel⟩
theorem in_X10_having : Cond.instanceMethod yX10_having ∈ wA := wA_i 1110 (by decide +kernel) rfl
theorem se_X10_having : Cond.selects RX10 yX10_having yX10_having ∈ wA := wA_i 22 (by decide +kernel) rfl
def MX10_rule (cs : Nat × Nat) : MI := (yX10_rule, cX10_rule, 3, (some .int), { frames := 2, locals := 45, cells := cs.1, slots := cs.2 })
theorem ok_X10_rule (cs : Nat × Nat) : fm_M (MX10_rule cs) 2 := ⟨show Cond.code yX10_rule cX10_rule 3 (some .int) ∈ wA from wA_i 1107 (by decide +kernel) rfl, show Cond.initialized RX10 ∈ wA from wA_i 66 (by decide +kernel) rfl, show (yX10_rule.cls ≠ "java/lang/invoke/MethodHandle" ∧ yX10_rule.cls ≠ "java/lang/invoke/VarHandle" ∧ (parseMethodDescriptor yX10_rule.desc).map (fun d => d.parameters.length) = some 2) from by decide +kernel⟩
theorem in_X10_rule : Cond.instanceMethod yX10_rule ∈ wA := wA_i 1105 (by decide +kernel) rfl
theorem se_X10_rule : Cond.selects RX10 yX10_rule yX10_rule ∈ wA := wA_i 1106 (by decide +kernel) rfl
def MX10_append (cs : Nat × Nat) : MI := (yX10_append, cX10_append, 2, (some .int), { frames := 1, locals := 22, cells := cs.1, slots := cs.2 })
theorem ok_X10_append (cs : Nat × Nat) : fm_M (MX10_append cs) 1 := ⟨show Cond.code yX10_append cX10_append 2 (some .int) ∈ wA from wA_i 1115 (by decide +kernel) rfl, show Cond.initialized RX10 ∈ wA from wA_i 66 (by decide +kernel) rfl, show (yX10_append.cls ≠ "java/lang/invoke/MethodHandle" ∧ yX10_append.cls ≠ "java/lang/invoke/VarHandle" ∧ (parseMethodDescriptor yX10_append.desc).map (fun d => d.parameters.length) = some 1) from by decide +kernel⟩
theorem in_X10_append : Cond.instanceMethod yX10_append ∈ wA := wA_i 1113 (by decide +kernel) rfl
theorem se_X10_append : Cond.selects RX10 yX10_append yX10_append ∈ wA := wA_i 1114 (by decide +kernel) rfl
def MX10_clearBuffer (cs : Nat × Nat) : MI := (yX10_clearBuffer, cX10_clearBuffer, 2, (some .int), { frames := 0, locals := 0, cells := cs.1, slots := cs.2 })
theorem ok_X10_clearBuffer (cs : Nat × Nat) : fm_M (MX10_clearBuffer cs) 0 := ⟨show Cond.code yX10_clearBuffer cX10_clearBuffer 2 (some .int) ∈ wA from wA_i 1119 (by decide +kernel) rfl, show Cond.initialized RX10 ∈ wA from wA_i 66 (by decide +kernel) rfl, show (yX10_clearBuffer.cls ≠ "java/lang/invoke/MethodHandle" ∧ yX10_clearBuffer.cls ≠ "java/lang/invoke/VarHandle" ∧ (parseMethodDescriptor yX10_clearBuffer.desc).map (fun d => d.parameters.length) = some 0) from by decide +kernel⟩
theorem in_X10_clearBuffer : Cond.instanceMethod yX10_clearBuffer ∈ wA := wA_i 1117 (by decide +kernel) rfl
theorem se_X10_clearBuffer : Cond.selects RX10 yX10_clearBuffer yX10_clearBuffer ∈ wA := wA_i 1118 (by decide +kernel) rfl
def MX10_letter (cs : Nat × Nat) : MI := (yX10_letter, cX10_letter, 2, (some .int), { frames := 2, locals := 42, cells := cs.1, slots := cs.2 })
theorem ok_X10_letter (cs : Nat × Nat) : fm_M (MX10_letter cs) 0 := ⟨show Cond.code yX10_letter cX10_letter 2 (some .int) ∈ wA from wA_i 1135 (by decide +kernel) rfl, show Cond.initialized RX10 ∈ wA from wA_i 66 (by decide +kernel) rfl, show (yX10_letter.cls ≠ "java/lang/invoke/MethodHandle" ∧ yX10_letter.cls ≠ "java/lang/invoke/VarHandle" ∧ (parseMethodDescriptor yX10_letter.desc).map (fun d => d.parameters.length) = some 0) from by decide +kernel⟩
theorem in_X10_letter : Cond.instanceMethod yX10_letter ∈ wA := wA_i 1134 (by decide +kernel) rfl
theorem se_X10_letter : Cond.selects RX10 yX10_letter yX10_letter ∈ wA := wA_i 25 (by decide +kernel) rfl
def MX10_row (cs : Nat × Nat) : MI := (yX10_row, cX10_row, 2, (some .boolean), { frames := 3, locals := 63, cells := cs.1, slots := cs.2 })
theorem ok_X10_row (cs : Nat × Nat) : fm_M (MX10_row cs) 0 := ⟨show Cond.code yX10_row cX10_row 2 (some .boolean) ∈ wA from wA_i 1131 (by decide +kernel) rfl, show Cond.initialized RX10 ∈ wA from wA_i 66 (by decide +kernel) rfl, show (yX10_row.cls ≠ "java/lang/invoke/MethodHandle" ∧ yX10_row.cls ≠ "java/lang/invoke/VarHandle" ∧ (parseMethodDescriptor yX10_row.desc).map (fun d => d.parameters.length) = some 0) from by decide +kernel⟩
theorem in_X10_row : Cond.instanceMethod yX10_row ∈ wA := wA_i 1130 (by decide +kernel) rfl
theorem se_X10_row : Cond.selects RX10 yX10_row yX10_row ∈ wA := wA_i 24 (by decide +kernel) rfl
def MX10_areRows (cs : Nat × Nat) : MI := (yX10_areRows, cX10_areRows, 2, (some .boolean), { frames := 4, locals := 84, cells := cs.1, slots := cs.2 })
theorem ok_X10_areRows (cs : Nat × Nat) : fm_M (MX10_areRows cs) 0 := ⟨show Cond.code yX10_areRows cX10_areRows 2 (some .boolean) ∈ wA from wA_i 1127 (by decide +kernel) rfl, show Cond.initialized RX10 ∈ wA from wA_i 66 (by decide +kernel) rfl, show (yX10_areRows.cls ≠ "java/lang/invoke/MethodHandle" ∧ yX10_areRows.cls ≠ "java/lang/invoke/VarHandle" ∧ (parseMethodDescriptor yX10_areRows.desc).map (fun d => d.parameters.length) = some 0) from by decide +kernel⟩
theorem in_X10_areRows : Cond.instanceMethod yX10_areRows ∈ wA := wA_i 1126 (by decide +kernel) rfl
theorem se_X10_areRows : Cond.selects RX10 yX10_areRows yX10_areRows ∈ wA := wA_i 23 (by decide +kernel) rfl
def MX10_firstError (cs : Nat × Nat) : MI := (yX10_firstError, cX10_firstError, 1, (some .int), { frames := 5, locals := 105, cells := cs.1, slots := cs.2 })
theorem ok_X10_firstError (cs : Nat × Nat) : fm_M (MX10_firstError cs) 0 := ⟨show Cond.code yX10_firstError cX10_firstError 1 (some .int) ∈ wA from wA_i 1123 (by decide +kernel) rfl, show Cond.initialized RX10 ∈ wA from wA_i 66 (by decide +kernel) rfl, show (yX10_firstError.cls ≠ "java/lang/invoke/MethodHandle" ∧ yX10_firstError.cls ≠ "java/lang/invoke/VarHandle" ∧ (parseMethodDescriptor yX10_firstError.desc).map (fun d => d.parameters.length) = some 0) from by decide +kernel⟩
theorem in_X10_firstError : Cond.instanceMethod yX10_firstError ∈ wA := wA_i 1121 (by decide +kernel) rfl
theorem se_X10_firstError : Cond.selects RX10 yX10_firstError yX10_firstError ∈ wA := wA_i 1122 (by decide +kernel) rfl
def MX10_layText (cs : Nat × Nat) : MI := (yX10_layText, cX10_layText, 6, none, { frames := 1, locals := 20, cells := cs.1, slots := cs.2 })
theorem ok_X10_layText (cs : Nat × Nat) : fm_M (MX10_layText cs) 2 := ⟨show Cond.code yX10_layText cX10_layText 6 none ∈ wA from wA_i 1143 (by decide +kernel) rfl, show Cond.initialized RX10 ∈ wA from wA_i 66 (by decide +kernel) rfl, show (yX10_layText.cls ≠ "java/lang/invoke/MethodHandle" ∧ yX10_layText.cls ≠ "java/lang/invoke/VarHandle" ∧ (parseMethodDescriptor yX10_layText.desc).map (fun d => d.parameters.length) = some 2) from by decide +kernel⟩
theorem in_X10_layText : Cond.instanceMethod yX10_layText ∈ wA := wA_i 1142 (by decide +kernel) rfl
theorem se_X10_layText : Cond.selects RX10 yX10_layText yX10_layText ∈ wA := wA_i 26 (by decide +kernel) rfl
def MX10_add (cs : Nat × Nat) : MI := (yX10_add, cX10_add, 4, (some .int), { frames := 5, locals := 105, cells := cs.1, slots := cs.2 })
theorem ok_X10_add (cs : Nat × Nat) : fm_M (MX10_add cs) 0 := ⟨show Cond.code yX10_add cX10_add 4 (some .int) ∈ wA from wA_i 1139 (by decide +kernel) rfl, show Cond.initialized RX10 ∈ wA from wA_i 66 (by decide +kernel) rfl, show (yX10_add.cls ≠ "java/lang/invoke/MethodHandle" ∧ yX10_add.cls ≠ "java/lang/invoke/VarHandle" ∧ (parseMethodDescriptor yX10_add.desc).map (fun d => d.parameters.length) = some 0) from by decide +kernel⟩
theorem in_X10_add : Cond.instanceMethod yX10_add ∈ wA := wA_i 1137 (by decide +kernel) rfl
theorem se_X10_add : Cond.selects RX10 yX10_add yX10_add ∈ wA := wA_i 1138 (by decide +kernel) rfl
def MX10_change (cs : Nat × Nat) : MI := (yX10_change, cX10_change, 3, (some .int), { frames := 6, locals := 135, cells := cs.1, slots := cs.2 })
theorem ok_X10_change (cs : Nat × Nat) : fm_M (MX10_change cs) 1 := ⟨show Cond.code yX10_change cX10_change 3 (some .int) ∈ wA from wA_i 1147 (by decide +kernel) rfl, show Cond.initialized RX10 ∈ wA from wA_i 66 (by decide +kernel) rfl, show (yX10_change.cls ≠ "java/lang/invoke/MethodHandle" ∧ yX10_change.cls ≠ "java/lang/invoke/VarHandle" ∧ (parseMethodDescriptor yX10_change.desc).map (fun d => d.parameters.length) = some 1) from by decide +kernel⟩
theorem in_X10_change : Cond.instanceMethod yX10_change ∈ wA := wA_i 1145 (by decide +kernel) rfl
theorem se_X10_change : Cond.selects RX10 yX10_change yX10_change ∈ wA := wA_i 1146 (by decide +kernel) rfl
def MX10_undo (cs : Nat × Nat) : MI := (yX10_undo, cX10_undo, 2, (some .int), { frames := 1, locals := 21, cells := cs.1, slots := cs.2 })
theorem ok_X10_undo (cs : Nat × Nat) : fm_M (MX10_undo cs) 0 := ⟨show Cond.code yX10_undo cX10_undo 2 (some .int) ∈ wA from wA_i 1151 (by decide +kernel) rfl, show Cond.initialized RX10 ∈ wA from wA_i 66 (by decide +kernel) rfl, show (yX10_undo.cls ≠ "java/lang/invoke/MethodHandle" ∧ yX10_undo.cls ≠ "java/lang/invoke/VarHandle" ∧ (parseMethodDescriptor yX10_undo.desc).map (fun d => d.parameters.length) = some 0) from by decide +kernel⟩
theorem in_X10_undo : Cond.instanceMethod yX10_undo ∈ wA := wA_i 1149 (by decide +kernel) rfl
theorem se_X10_undo : Cond.selects RX10 yX10_undo yX10_undo ∈ wA := wA_i 1150 (by decide +kernel) rfl
def MX10_segmentOf (cs : Nat × Nat) : MI := (yX10_segmentOf, cX10_segmentOf, 5, (some .int), { frames := 4, locals := 91, cells := cs.1, slots := cs.2 })
theorem ok_X10_segmentOf (cs : Nat × Nat) : fm_M (MX10_segmentOf cs) 2 := ⟨show Cond.code yX10_segmentOf cX10_segmentOf 5 (some .int) ∈ wA from wA_i 1159 (by decide +kernel) rfl, show Cond.initialized RX10 ∈ wA from wA_i 66 (by decide +kernel) rfl, show (yX10_segmentOf.cls ≠ "java/lang/invoke/MethodHandle" ∧ yX10_segmentOf.cls ≠ "java/lang/invoke/VarHandle" ∧ (parseMethodDescriptor yX10_segmentOf.desc).map (fun d => d.parameters.length) = some 2) from by decide +kernel⟩
theorem in_X10_segmentOf : Cond.instanceMethod yX10_segmentOf ∈ wA := wA_i 1158 (by decide +kernel) rfl
theorem se_X10_segmentOf : Cond.selects RX10 yX10_segmentOf yX10_segmentOf ∈ wA := wA_i 27 (by decide +kernel) rfl
def MX10_segment (cs : Nat × Nat) : MI := (yX10_segment, cX10_segment, 3, (some .int), { frames := 5, locals := 115, cells := cs.1, slots := cs.2 })
theorem ok_X10_segment (cs : Nat × Nat) : fm_M (MX10_segment cs) 2 := ⟨show Cond.code yX10_segment cX10_segment 3 (some .int) ∈ wA from wA_i 1155 (by decide +kernel) rfl, show Cond.initialized RX10 ∈ wA from wA_i 66 (by decide +kernel) rfl, show (yX10_segment.cls ≠ "java/lang/invoke/MethodHandle" ∧ yX10_segment.cls ≠ "java/lang/invoke/VarHandle" ∧ (parseMethodDescriptor yX10_segment.desc).map (fun d => d.parameters.length) = some 2) from by decide +kernel⟩
theorem in_X10_segment : Cond.instanceMethod yX10_segment ∈ wA := wA_i 1153 (by decide +kernel) rfl
theorem se_X10_segment : Cond.selects RX10 yX10_segment yX10_segment ∈ wA := wA_i 1154 (by decide +kernel) rfl
def MX10_wordOf (cs : Nat × Nat) : MI := (yX10_wordOf, cX10_wordOf, 3, (some .int), { frames := 1, locals := 20, cells := cs.1, slots := cs.2 })
theorem ok_X10_wordOf (cs : Nat × Nat) : fm_M (MX10_wordOf cs) 2 := ⟨show Cond.code yX10_wordOf cX10_wordOf 3 (some .int) ∈ wA from wA_i 1167 (by decide +kernel) rfl, show Cond.initialized RX10 ∈ wA from wA_i 66 (by decide +kernel) rfl, show (yX10_wordOf.cls ≠ "java/lang/invoke/MethodHandle" ∧ yX10_wordOf.cls ≠ "java/lang/invoke/VarHandle" ∧ (parseMethodDescriptor yX10_wordOf.desc).map (fun d => d.parameters.length) = some 2) from by decide +kernel⟩
theorem in_X10_wordOf : Cond.instanceMethod yX10_wordOf ∈ wA := wA_i 1166 (by decide +kernel) rfl
theorem se_X10_wordOf : Cond.selects RX10 yX10_wordOf yX10_wordOf ∈ wA := wA_i 28 (by decide +kernel) rfl
def MX10_word (cs : Nat × Nat) : MI := (yX10_word, cX10_word, 3, (some .int), { frames := 2, locals := 43, cells := cs.1, slots := cs.2 })
theorem ok_X10_word (cs : Nat × Nat) : fm_M (MX10_word cs) 2 := ⟨show Cond.code yX10_word cX10_word 3 (some .int) ∈ wA from wA_i 1163 (by decide +kernel) rfl, show Cond.initialized RX10 ∈ wA from wA_i 66 (by decide +kernel) rfl, show (yX10_word.cls ≠ "java/lang/invoke/MethodHandle" ∧ yX10_word.cls ≠ "java/lang/invoke/VarHandle" ∧ (parseMethodDescriptor yX10_word.desc).map (fun d => d.parameters.length) = some 2) from by decide +kernel⟩
theorem in_X10_word : Cond.instanceMethod yX10_word ∈ wA := wA_i 1161 (by decide +kernel) rfl
theorem se_X10_word : Cond.selects RX10 yX10_word yX10_word ∈ wA := wA_i 1162 (by decide +kernel) rfl
def MX10_remembered (cs : Nat × Nat) : MI := (yX10_remembered, cX10_remembered, 3, (some .int), { frames := 1, locals := 22, cells := cs.1, slots := cs.2 })
theorem ok_X10_remembered (cs : Nat × Nat) : fm_M (MX10_remembered cs) 2 := ⟨show Cond.code yX10_remembered cX10_remembered 3 (some .int) ∈ wA from wA_i 1171 (by decide +kernel) rfl, show Cond.initialized RX10 ∈ wA from wA_i 66 (by decide +kernel) rfl, show (yX10_remembered.cls ≠ "java/lang/invoke/MethodHandle" ∧ yX10_remembered.cls ≠ "java/lang/invoke/VarHandle" ∧ (parseMethodDescriptor yX10_remembered.desc).map (fun d => d.parameters.length) = some 2) from by decide +kernel⟩
theorem in_X10_remembered : Cond.instanceMethod yX10_remembered ∈ wA := wA_i 1169 (by decide +kernel) rfl
theorem se_X10_remembered : Cond.selects RX10 yX10_remembered yX10_remembered ∈ wA := wA_i 1170 (by decide +kernel) rfl
def MX10_assignedTo (cs : Nat × Nat) : MI := (yX10_assignedTo, cX10_assignedTo, 4, (some .int), { frames := 1, locals := 20, cells := cs.1, slots := cs.2 })
theorem ok_X10_assignedTo (cs : Nat × Nat) : fm_M (MX10_assignedTo cs) 1 := ⟨show Cond.code yX10_assignedTo cX10_assignedTo 4 (some .int) ∈ wA from wA_i 1183 (by decide +kernel) rfl, show Cond.initialized RX10 ∈ wA from wA_i 66 (by decide +kernel) rfl, show (yX10_assignedTo.cls ≠ "java/lang/invoke/MethodHandle" ∧ yX10_assignedTo.cls ≠ "java/lang/invoke/VarHandle" ∧ (parseMethodDescriptor yX10_assignedTo.desc).map (fun d => d.parameters.length) = some 1) from by decide +kernel⟩
theorem in_X10_assignedTo : Cond.instanceMethod yX10_assignedTo ∈ wA := wA_i 1182 (by decide +kernel) rfl
theorem se_X10_assignedTo : Cond.selects RX10 yX10_assignedTo yX10_assignedTo ∈ wA := wA_i 30 (by decide +kernel) rfl
def MX10_proposals (cs : Nat × Nat) : MI := (yX10_proposals, cX10_proposals, 4, (some .int), { frames := 1, locals := 21, cells := cs.1, slots := cs.2 })
theorem ok_X10_proposals (cs : Nat × Nat) : fm_M (MX10_proposals cs) 1 := ⟨show Cond.code yX10_proposals cX10_proposals 4 (some .int) ∈ wA from wA_i 1187 (by decide +kernel) rfl, show Cond.initialized RX10 ∈ wA from wA_i 66 (by decide +kernel) rfl, show (yX10_proposals.cls ≠ "java/lang/invoke/MethodHandle" ∧ yX10_proposals.cls ≠ "java/lang/invoke/VarHandle" ∧ (parseMethodDescriptor yX10_proposals.desc).map (fun d => d.parameters.length) = some 1) from by decide +kernel⟩
theorem in_X10_proposals : Cond.instanceMethod yX10_proposals ∈ wA := wA_i 1186 (by decide +kernel) rfl
theorem se_X10_proposals : Cond.selects RX10 yX10_proposals yX10_proposals ∈ wA := wA_i 31 (by decide +kernel) rfl
def MX10_personOf (cs : Nat × Nat) : MI := (yX10_personOf, cX10_personOf, 3, (some .int), { frames := 2, locals := 44, cells := cs.1, slots := cs.2 })
theorem ok_X10_personOf (cs : Nat × Nat) : fm_M (MX10_personOf cs) 2 := ⟨show Cond.code yX10_personOf cX10_personOf 3 (some .int) ∈ wA from wA_i 1179 (by decide +kernel) rfl, show Cond.initialized RX10 ∈ wA from wA_i 66 (by decide +kernel) rfl, show (yX10_personOf.cls ≠ "java/lang/invoke/MethodHandle" ∧ yX10_personOf.cls ≠ "java/lang/invoke/VarHandle" ∧ (parseMethodDescriptor yX10_personOf.desc).map (fun d => d.parameters.length) = some 2) from by decide +kernel⟩
theorem in_X10_personOf : Cond.instanceMethod yX10_personOf ∈ wA := wA_i 1178 (by decide +kernel) rfl
theorem se_X10_personOf : Cond.selects RX10 yX10_personOf yX10_personOf ∈ wA := wA_i 29 (by decide +kernel) rfl
def MX10_translator (cs : Nat × Nat) : MI := (yX10_translator, cX10_translator, 3, (some .int), { frames := 3, locals := 66, cells := cs.1, slots := cs.2 })
theorem ok_X10_translator (cs : Nat × Nat) : fm_M (MX10_translator cs) 2 := ⟨show Cond.code yX10_translator cX10_translator 3 (some .int) ∈ wA from wA_i 1175 (by decide +kernel) rfl, show Cond.initialized RX10 ∈ wA from wA_i 66 (by decide +kernel) rfl, show (yX10_translator.cls ≠ "java/lang/invoke/MethodHandle" ∧ yX10_translator.cls ≠ "java/lang/invoke/VarHandle" ∧ (parseMethodDescriptor yX10_translator.desc).map (fun d => d.parameters.length) = some 2) from by decide +kernel⟩
theorem in_X10_translator : Cond.instanceMethod yX10_translator ∈ wA := wA_i 1173 (by decide +kernel) rfl
theorem se_X10_translator : Cond.selects RX10 yX10_translator yX10_translator ∈ wA := wA_i 1174 (by decide +kernel) rfl
def MX10_often (cs : Nat × Nat) : MI := (yX10_often, cX10_often, 5, (some .int), { frames := 1, locals := 20, cells := cs.1, slots := cs.2 })
theorem ok_X10_often (cs : Nat × Nat) : fm_M (MX10_often cs) 1 := ⟨show Cond.code yX10_often cX10_often 5 (some .int) ∈ wA from wA_i 1199 (by decide +kernel) rfl, show Cond.initialized RX10 ∈ wA from wA_i 66 (by decide +kernel) rfl, show (yX10_often.cls ≠ "java/lang/invoke/MethodHandle" ∧ yX10_often.cls ≠ "java/lang/invoke/VarHandle" ∧ (parseMethodDescriptor yX10_often.desc).map (fun d => d.parameters.length) = some 1) from by decide +kernel⟩
theorem in_X10_often : Cond.instanceMethod yX10_often ∈ wA := wA_i 1198 (by decide +kernel) rfl
theorem se_X10_often : Cond.selects RX10 yX10_often yX10_often ∈ wA := wA_i 33 (by decide +kernel) rfl
def MX10_termOf (cs : Nat × Nat) : MI := (yX10_termOf, cX10_termOf, 3, (some .int), { frames := 3, locals := 67, cells := cs.1, slots := cs.2 })
theorem ok_X10_termOf (cs : Nat × Nat) : fm_M (MX10_termOf cs) 2 := ⟨show Cond.code yX10_termOf cX10_termOf 3 (some .int) ∈ wA from wA_i 1195 (by decide +kernel) rfl, show Cond.initialized RX10 ∈ wA from wA_i 66 (by decide +kernel) rfl, show (yX10_termOf.cls ≠ "java/lang/invoke/MethodHandle" ∧ yX10_termOf.cls ≠ "java/lang/invoke/VarHandle" ∧ (parseMethodDescriptor yX10_termOf.desc).map (fun d => d.parameters.length) = some 2) from by decide +kernel⟩
theorem in_X10_termOf : Cond.instanceMethod yX10_termOf ∈ wA := wA_i 1194 (by decide +kernel) rfl
theorem se_X10_termOf : Cond.selects RX10 yX10_termOf yX10_termOf ∈ wA := wA_i 32 (by decide +kernel) rfl
def MX10_term (cs : Nat × Nat) : MI := (yX10_term, cX10_term, 3, (some .int), { frames := 4, locals := 89, cells := cs.1, slots := cs.2 })
theorem ok_X10_term (cs : Nat × Nat) : fm_M (MX10_term cs) 2 := ⟨show Cond.code yX10_term cX10_term 3 (some .int) ∈ wA from wA_i 1191 (by decide +kernel) rfl, show Cond.initialized RX10 ∈ wA from wA_i 66 (by decide +kernel) rfl, show (yX10_term.cls ≠ "java/lang/invoke/MethodHandle" ∧ yX10_term.cls ≠ "java/lang/invoke/VarHandle" ∧ (parseMethodDescriptor yX10_term.desc).map (fun d => d.parameters.length) = some 2) from by decide +kernel⟩
theorem in_X10_term : Cond.instanceMethod yX10_term ∈ wA := wA_i 1189 (by decide +kernel) rfl
theorem se_X10_term : Cond.selects RX10 yX10_term yX10_term ∈ wA := wA_i 1190 (by decide +kernel) rfl
def MX10_band (cs : Nat × Nat) : MI := (yX10_band, cX10_band, 3, (some .int), { frames := 2, locals := 42, cells := cs.1, slots := cs.2 })
theorem ok_X10_band (cs : Nat × Nat) : fm_M (MX10_band cs) 2 := ⟨show Cond.code yX10_band cX10_band 3 (some .int) ∈ wA from wA_i 1203 (by decide +kernel) rfl, show Cond.initialized RX10 ∈ wA from wA_i 66 (by decide +kernel) rfl, show (yX10_band.cls ≠ "java/lang/invoke/MethodHandle" ∧ yX10_band.cls ≠ "java/lang/invoke/VarHandle" ∧ (parseMethodDescriptor yX10_band.desc).map (fun d => d.parameters.length) = some 2) from by decide +kernel⟩
theorem in_X10_band : Cond.instanceMethod yX10_band ∈ wA := wA_i 1201 (by decide +kernel) rfl
theorem se_X10_band : Cond.selects RX10 yX10_band yX10_band ∈ wA := wA_i 1202 (by decide +kernel) rfl
def MX10_staged (cs : Nat × Nat) : MI := (yX10_staged, cX10_staged, 4, (some .int), { frames := 1, locals := 20, cells := cs.1, slots := cs.2 })
theorem ok_X10_staged (cs : Nat × Nat) : fm_M (MX10_staged cs) 1 := ⟨show Cond.code yX10_staged cX10_staged 4 (some .int) ∈ wA from wA_i 1215 (by decide +kernel) rfl, show Cond.initialized RX10 ∈ wA from wA_i 66 (by decide +kernel) rfl, show (yX10_staged.cls ≠ "java/lang/invoke/MethodHandle" ∧ yX10_staged.cls ≠ "java/lang/invoke/VarHandle" ∧ (parseMethodDescriptor yX10_staged.desc).map (fun d => d.parameters.length) = some 1) from by decide +kernel⟩
theorem in_X10_staged : Cond.instanceMethod yX10_staged ∈ wA := wA_i 1214 (by decide +kernel) rfl
theorem se_X10_staged : Cond.selects RX10 yX10_staged yX10_staged ∈ wA := wA_i 35 (by decide +kernel) rfl
def MX10_wordsAll (cs : Nat × Nat) : MI := (yX10_wordsAll, cX10_wordsAll, 3, (some .int), { frames := 1, locals := 20, cells := cs.1, slots := cs.2 })
theorem ok_X10_wordsAll (cs : Nat × Nat) : fm_M (MX10_wordsAll cs) 0 := ⟨show Cond.code yX10_wordsAll cX10_wordsAll 3 (some .int) ∈ wA from wA_i 1219 (by decide +kernel) rfl, show Cond.initialized RX10 ∈ wA from wA_i 66 (by decide +kernel) rfl, show (yX10_wordsAll.cls ≠ "java/lang/invoke/MethodHandle" ∧ yX10_wordsAll.cls ≠ "java/lang/invoke/VarHandle" ∧ (parseMethodDescriptor yX10_wordsAll.desc).map (fun d => d.parameters.length) = some 0) from by decide +kernel⟩
theorem in_X10_wordsAll : Cond.instanceMethod yX10_wordsAll ∈ wA := wA_i 1218 (by decide +kernel) rfl
theorem se_X10_wordsAll : Cond.selects RX10 yX10_wordsAll yX10_wordsAll ∈ wA := wA_i 36 (by decide +kernel) rfl
def MX10_ofPeople (cs : Nat × Nat) : MI := (yX10_ofPeople, cX10_ofPeople, 4, (some .int), { frames := 1, locals := 20, cells := cs.1, slots := cs.2 })
theorem ok_X10_ofPeople (cs : Nat × Nat) : fm_M (MX10_ofPeople cs) 1 := ⟨show Cond.code yX10_ofPeople cX10_ofPeople 4 (some .int) ∈ wA from wA_i 1223 (by decide +kernel) rfl, show Cond.initialized RX10 ∈ wA from wA_i 66 (by decide +kernel) rfl, show (yX10_ofPeople.cls ≠ "java/lang/invoke/MethodHandle" ∧ yX10_ofPeople.cls ≠ "java/lang/invoke/VarHandle" ∧ (parseMethodDescriptor yX10_ofPeople.desc).map (fun d => d.parameters.length) = some 1) from by decide +kernel⟩
theorem in_X10_ofPeople : Cond.instanceMethod yX10_ofPeople ∈ wA := wA_i 1222 (by decide +kernel) rfl
theorem se_X10_ofPeople : Cond.selects RX10 yX10_ofPeople yX10_ofPeople ∈ wA := wA_i 37 (by decide +kernel) rfl
def MX10_ofTerms (cs : Nat × Nat) : MI := (yX10_ofTerms, cX10_ofTerms, 4, (some .int), { frames := 3, locals := 67, cells := cs.1, slots := cs.2 })
theorem ok_X10_ofTerms (cs : Nat × Nat) : fm_M (MX10_ofTerms cs) 1 := ⟨show Cond.code yX10_ofTerms cX10_ofTerms 4 (some .int) ∈ wA from wA_i 1227 (by decide +kernel) rfl, show Cond.initialized RX10 ∈ wA from wA_i 66 (by decide +kernel) rfl, show (yX10_ofTerms.cls ≠ "java/lang/invoke/MethodHandle" ∧ yX10_ofTerms.cls ≠ "java/lang/invoke/VarHandle" ∧ (parseMethodDescriptor yX10_ofTerms.desc).map (fun d => d.parameters.length) = some 1) from by decide +kernel⟩
theorem in_X10_ofTerms : Cond.instanceMethod yX10_ofTerms ∈ wA := wA_i 1226 (by decide +kernel) rfl
theorem se_X10_ofTerms : Cond.selects RX10 yX10_ofTerms yX10_ofTerms ∈ wA := wA_i 38 (by decide +kernel) rfl
def MX10_counted (cs : Nat × Nat) : MI := (yX10_counted, cX10_counted, 2, (some .int), { frames := 4, locals := 90, cells := cs.1, slots := cs.2 })
theorem ok_X10_counted (cs : Nat × Nat) : fm_M (MX10_counted cs) 1 := ⟨show Cond.code yX10_counted cX10_counted 2 (some .int) ∈ wA from wA_i 1211 (by decide +kernel) rfl, show Cond.initialized RX10 ∈ wA from wA_i 66 (by decide +kernel) rfl, show (yX10_counted.cls ≠ "java/lang/invoke/MethodHandle" ∧ yX10_counted.cls ≠ "java/lang/invoke/VarHandle" ∧ (parseMethodDescriptor yX10_counted.desc).map (fun d => d.parameters.length) = some 1) from by decide +kernel⟩
theorem in_X10_counted : Cond.instanceMethod yX10_counted ∈ wA := wA_i 1210 (by decide +kernel) rfl
theorem se_X10_counted : Cond.selects RX10 yX10_counted yX10_counted ∈ wA := wA_i 34 (by decide +kernel) rfl
def MX10_count (cs : Nat × Nat) : MI := (yX10_count, cX10_count, 2, (some .int), { frames := 5, locals := 111, cells := cs.1, slots := cs.2 })
theorem ok_X10_count (cs : Nat × Nat) : fm_M (MX10_count cs) 1 := ⟨show Cond.code yX10_count cX10_count 2 (some .int) ∈ wA from wA_i 1207 (by decide +kernel) rfl, show Cond.initialized RX10 ∈ wA from wA_i 66 (by decide +kernel) rfl, show (yX10_count.cls ≠ "java/lang/invoke/MethodHandle" ∧ yX10_count.cls ≠ "java/lang/invoke/VarHandle" ∧ (parseMethodDescriptor yX10_count.desc).map (fun d => d.parameters.length) = some 1) from by decide +kernel⟩
theorem in_X10_count : Cond.instanceMethod yX10_count ∈ wA := wA_i 1205 (by decide +kernel) rfl
theorem se_X10_count : Cond.selects RX10 yX10_count yX10_count ∈ wA := wA_i 1206 (by decide +kernel) rfl
def MX10_setting (cs : Nat × Nat) : MI := (yX10_setting, cX10_setting, 2, (some .int), { frames := 1, locals := 22, cells := cs.1, slots := cs.2 })
theorem ok_X10_setting (cs : Nat × Nat) : fm_M (MX10_setting cs) 1 := ⟨show Cond.code yX10_setting cX10_setting 2 (some .int) ∈ wA from wA_i 1231 (by decide +kernel) rfl, show Cond.initialized RX10 ∈ wA from wA_i 66 (by decide +kernel) rfl, show (yX10_setting.cls ≠ "java/lang/invoke/MethodHandle" ∧ yX10_setting.cls ≠ "java/lang/invoke/VarHandle" ∧ (parseMethodDescriptor yX10_setting.desc).map (fun d => d.parameters.length) = some 1) from by decide +kernel⟩
theorem in_X10_setting : Cond.instanceMethod yX10_setting ∈ wA := wA_i 1229 (by decide +kernel) rfl
theorem se_X10_setting : Cond.selects RX10 yX10_setting yX10_setting ∈ wA := wA_i 1230 (by decide +kernel) rfl
def MX10_nearOf (cs : Nat × Nat) : MI := (yX10_nearOf, cX10_nearOf, 5, (some .int), { frames := 2, locals := 42, cells := cs.1, slots := cs.2 })
theorem ok_X10_nearOf (cs : Nat × Nat) : fm_M (MX10_nearOf cs) 3 := ⟨show Cond.code yX10_nearOf cX10_nearOf 5 (some .int) ∈ wA from wA_i 1239 (by decide +kernel) rfl, show Cond.initialized RX10 ∈ wA from wA_i 66 (by decide +kernel) rfl, show (yX10_nearOf.cls ≠ "java/lang/invoke/MethodHandle" ∧ yX10_nearOf.cls ≠ "java/lang/invoke/VarHandle" ∧ (parseMethodDescriptor yX10_nearOf.desc).map (fun d => d.parameters.length) = some 3) from by decide +kernel⟩
theorem in_X10_nearOf : Cond.instanceMethod yX10_nearOf ∈ wA := wA_i 1238 (by decide +kernel) rfl
theorem se_X10_nearOf : Cond.selects RX10 yX10_nearOf yX10_nearOf ∈ wA := wA_i 39 (by decide +kernel) rfl
def MX10_near (cs : Nat × Nat) : MI := (yX10_near, cX10_near, 4, (some .int), { frames := 3, locals := 66, cells := cs.1, slots := cs.2 })
theorem ok_X10_near (cs : Nat × Nat) : fm_M (MX10_near cs) 3 := ⟨show Cond.code yX10_near cX10_near 4 (some .int) ∈ wA from wA_i 1235 (by decide +kernel) rfl, show Cond.initialized RX10 ∈ wA from wA_i 66 (by decide +kernel) rfl, show (yX10_near.cls ≠ "java/lang/invoke/MethodHandle" ∧ yX10_near.cls ≠ "java/lang/invoke/VarHandle" ∧ (parseMethodDescriptor yX10_near.desc).map (fun d => d.parameters.length) = some 3) from by decide +kernel⟩
theorem in_X10_near : Cond.instanceMethod yX10_near ∈ wA := wA_i 1233 (by decide +kernel) rfl
theorem se_X10_near : Cond.selects RX10 yX10_near yX10_near ∈ wA := wA_i 1234 (by decide +kernel) rfl
def MX10_firstOne (cs : Nat × Nat) : MI := (yX10_firstOne, cX10_firstOne, 4, (some .int), { frames := 0, locals := 0, cells := cs.1, slots := cs.2 })
theorem ok_X10_firstOne (cs : Nat × Nat) : fm_M (MX10_firstOne cs) 2 := ⟨show Cond.code yX10_firstOne cX10_firstOne 4 (some .int) ∈ wA from wA_i 1265 (by decide +kernel) rfl, show Cond.initialized RX10 ∈ wA from wA_i 66 (by decide +kernel) rfl, show (yX10_firstOne.cls ≠ "java/lang/invoke/MethodHandle" ∧ yX10_firstOne.cls ≠ "java/lang/invoke/VarHandle" ∧ (parseMethodDescriptor yX10_firstOne.desc).map (fun d => d.parameters.length) = some 2) from by decide +kernel⟩
theorem in_X10_firstOne : Cond.instanceMethod yX10_firstOne ∈ wA := wA_i 1264 (by decide +kernel) rfl
theorem se_X10_firstOne : Cond.selects RX10 yX10_firstOne yX10_firstOne ∈ wA := wA_i 42 (by decide +kernel) rfl
def MX10_firstOther (cs : Nat × Nat) : MI := (yX10_firstOther, cX10_firstOther, 4, (some .int), { frames := 0, locals := 0, cells := cs.1, slots := cs.2 })
theorem ok_X10_firstOther (cs : Nat × Nat) : fm_M (MX10_firstOther cs) 2 := ⟨show Cond.code yX10_firstOther cX10_firstOther 4 (some .int) ∈ wA from wA_i 1269 (by decide +kernel) rfl, show Cond.initialized RX10 ∈ wA from wA_i 66 (by decide +kernel) rfl, show (yX10_firstOther.cls ≠ "java/lang/invoke/MethodHandle" ∧ yX10_firstOther.cls ≠ "java/lang/invoke/VarHandle" ∧ (parseMethodDescriptor yX10_firstOther.desc).map (fun d => d.parameters.length) = some 2) from by decide +kernel⟩
theorem in_X10_firstOther : Cond.instanceMethod yX10_firstOther ∈ wA := wA_i 1268 (by decide +kernel) rfl
theorem se_X10_firstOther : Cond.selects RX10 yX10_firstOther yX10_firstOther ∈ wA := wA_i 43 (by decide +kernel) rfl
def MX10_commonOf (cs : Nat × Nat) : MI := (yX10_commonOf, cX10_commonOf, 12, (some .int), { frames := 2, locals := 42, cells := cs.1, slots := cs.2 })
theorem ok_X10_commonOf (cs : Nat × Nat) : fm_M (MX10_commonOf cs) 3 := ⟨show Cond.code yX10_commonOf cX10_commonOf 12 (some .int) ∈ wA from wA_i 1257 (by decide +kernel) rfl, show Cond.initialized RX10 ∈ wA from wA_i 66 (by decide +kernel) rfl, show (yX10_commonOf.cls ≠ "java/lang/invoke/MethodHandle" ∧ yX10_commonOf.cls ≠ "java/lang/invoke/VarHandle" ∧ (parseMethodDescriptor yX10_commonOf.desc).map (fun d => d.parameters.length) = some 3) from by decide +kernel⟩
theorem in_X10_commonOf : Cond.instanceMethod yX10_commonOf ∈ wA := wA_i 1256 (by decide +kernel) rfl
theorem se_X10_commonOf : Cond.selects RX10 yX10_commonOf yX10_commonOf ∈ wA := wA_i 40 (by decide +kernel) rfl
def MX10_common (cs : Nat × Nat) : MI := (yX10_common, cX10_common, 4, (some .int), { frames := 3, locals := 73, cells := cs.1, slots := cs.2 })
theorem ok_X10_common (cs : Nat × Nat) : fm_M (MX10_common cs) 3 := ⟨show Cond.code yX10_common cX10_common 4 (some .int) ∈ wA from wA_i 1253 (by decide +kernel) rfl, show Cond.initialized RX10 ∈ wA from wA_i 66 (by decide +kernel) rfl, show (yX10_common.cls ≠ "java/lang/invoke/MethodHandle" ∧ yX10_common.cls ≠ "java/lang/invoke/VarHandle" ∧ (parseMethodDescriptor yX10_common.desc).map (fun d => d.parameters.length) = some 3) from by decide +kernel⟩
theorem in_X10_common : Cond.instanceMethod yX10_common ∈ wA := wA_i 1251 (by decide +kernel) rfl
theorem se_X10_common : Cond.selects RX10 yX10_common yX10_common ∈ wA := wA_i 1252 (by decide +kernel) rfl
def MX10_paidOf (cs : Nat × Nat) : MI := (yX10_paidOf, cX10_paidOf, 4, (some .int), { frames := 6, locals := 134, cells := cs.1, slots := cs.2 })
theorem ok_X10_paidOf (cs : Nat × Nat) : fm_M (MX10_paidOf cs) 2 := ⟨show Cond.code yX10_paidOf cX10_paidOf 4 (some .int) ∈ wA from wA_i 1277 (by decide +kernel) rfl, show Cond.initialized RX10 ∈ wA from wA_i 66 (by decide +kernel) rfl, show (yX10_paidOf.cls ≠ "java/lang/invoke/MethodHandle" ∧ yX10_paidOf.cls ≠ "java/lang/invoke/VarHandle" ∧ (parseMethodDescriptor yX10_paidOf.desc).map (fun d => d.parameters.length) = some 2) from by decide +kernel⟩
theorem in_X10_paidOf : Cond.instanceMethod yX10_paidOf ∈ wA := wA_i 1276 (by decide +kernel) rfl
theorem se_X10_paidOf : Cond.selects RX10 yX10_paidOf yX10_paidOf ∈ wA := wA_i 44 (by decide +kernel) rfl
def MX10_ifPaid (cs : Nat × Nat) : MI := (yX10_ifPaid, cX10_ifPaid, 3, (some .int), { frames := 7, locals := 157, cells := cs.1, slots := cs.2 })
theorem ok_X10_ifPaid (cs : Nat × Nat) : fm_M (MX10_ifPaid cs) 2 := ⟨show Cond.code yX10_ifPaid cX10_ifPaid 3 (some .int) ∈ wA from wA_i 1273 (by decide +kernel) rfl, show Cond.initialized RX10 ∈ wA from wA_i 66 (by decide +kernel) rfl, show (yX10_ifPaid.cls ≠ "java/lang/invoke/MethodHandle" ∧ yX10_ifPaid.cls ≠ "java/lang/invoke/VarHandle" ∧ (parseMethodDescriptor yX10_ifPaid.desc).map (fun d => d.parameters.length) = some 2) from by decide +kernel⟩
theorem in_X10_ifPaid : Cond.instanceMethod yX10_ifPaid ∈ wA := wA_i 1271 (by decide +kernel) rfl
theorem se_X10_ifPaid : Cond.selects RX10 yX10_ifPaid yX10_ifPaid ∈ wA := wA_i 1272 (by decide +kernel) rfl
def MX10_costOf (cs : Nat × Nat) : MI := (yX10_costOf, cX10_costOf, 4, (some .int), { frames := 6, locals := 134, cells := cs.1, slots := cs.2 })
theorem ok_X10_costOf (cs : Nat × Nat) : fm_M (MX10_costOf cs) 2 := ⟨show Cond.code yX10_costOf cX10_costOf 4 (some .int) ∈ wA from wA_i 1289 (by decide +kernel) rfl, show Cond.initialized RX10 ∈ wA from wA_i 66 (by decide +kernel) rfl, show (yX10_costOf.cls ≠ "java/lang/invoke/MethodHandle" ∧ yX10_costOf.cls ≠ "java/lang/invoke/VarHandle" ∧ (parseMethodDescriptor yX10_costOf.desc).map (fun d => d.parameters.length) = some 2) from by decide +kernel⟩
theorem in_X10_costOf : Cond.instanceMethod yX10_costOf ∈ wA := wA_i 1288 (by decide +kernel) rfl
theorem se_X10_costOf : Cond.selects RX10 yX10_costOf yX10_costOf ∈ wA := wA_i 46 (by decide +kernel) rfl
def MX10_orderMatters (cs : Nat × Nat) : MI := (yX10_orderMatters, cX10_orderMatters, 3, (some .int), { frames := 7, locals := 157, cells := cs.1, slots := cs.2 })
theorem ok_X10_orderMatters (cs : Nat × Nat) : fm_M (MX10_orderMatters cs) 2 := ⟨show Cond.code yX10_orderMatters cX10_orderMatters 3 (some .int) ∈ wA from wA_i 1285 (by decide +kernel) rfl, show Cond.initialized RX10 ∈ wA from wA_i 66 (by decide +kernel) rfl, show (yX10_orderMatters.cls ≠ "java/lang/invoke/MethodHandle" ∧ yX10_orderMatters.cls ≠ "java/lang/invoke/VarHandle" ∧ (parseMethodDescriptor yX10_orderMatters.desc).map (fun d => d.parameters.length) = some 2) from by decide +kernel⟩
theorem in_X10_orderMatters : Cond.instanceMethod yX10_orderMatters ∈ wA := wA_i 1283 (by decide +kernel) rfl
theorem se_X10_orderMatters : Cond.selects RX10 yX10_orderMatters yX10_orderMatters ∈ wA := wA_i 1284 (by decide +kernel) rfl
def MX10_savedOf (cs : Nat × Nat) : MI := (yX10_savedOf, cX10_savedOf, 3, (some .int), { frames := 6, locals := 134, cells := cs.1, slots := cs.2 })
theorem ok_X10_savedOf (cs : Nat × Nat) : fm_M (MX10_savedOf cs) 0 := ⟨show Cond.code yX10_savedOf cX10_savedOf 3 (some .int) ∈ wA from wA_i 1305 (by decide +kernel) rfl, show Cond.initialized RX10 ∈ wA from wA_i 66 (by decide +kernel) rfl, show (yX10_savedOf.cls ≠ "java/lang/invoke/MethodHandle" ∧ yX10_savedOf.cls ≠ "java/lang/invoke/VarHandle" ∧ (parseMethodDescriptor yX10_savedOf.desc).map (fun d => d.parameters.length) = some 0) from by decide +kernel⟩
theorem in_X10_savedOf : Cond.instanceMethod yX10_savedOf ∈ wA := wA_i 1304 (by decide +kernel) rfl
theorem se_X10_savedOf : Cond.selects RX10 yX10_savedOf yX10_savedOf ∈ wA := wA_i 49 (by decide +kernel) rfl
def MX10_saved (cs : Nat × Nat) : MI := (yX10_saved, cX10_saved, 1, (some .int), { frames := 7, locals := 156, cells := cs.1, slots := cs.2 })
theorem ok_X10_saved (cs : Nat × Nat) : fm_M (MX10_saved cs) 0 := ⟨show Cond.code yX10_saved cX10_saved 1 (some .int) ∈ wA from wA_i 1301 (by decide +kernel) rfl, show Cond.initialized RX10 ∈ wA from wA_i 66 (by decide +kernel) rfl, show (yX10_saved.cls ≠ "java/lang/invoke/MethodHandle" ∧ yX10_saved.cls ≠ "java/lang/invoke/VarHandle" ∧ (parseMethodDescriptor yX10_saved.desc).map (fun d => d.parameters.length) = some 0) from by decide +kernel⟩
theorem in_X10_saved : Cond.instanceMethod yX10_saved ∈ wA := wA_i 1299 (by decide +kernel) rfl
theorem se_X10_saved : Cond.selects RX10 yX10_saved yX10_saved ∈ wA := wA_i 1300 (by decide +kernel) rfl
def MX10_costAll (cs : Nat × Nat) : MI := (yX10_costAll, cX10_costAll, 1, (some .double), { frames := 2, locals := 43, cells := cs.1, slots := cs.2 })
theorem ok_X10_costAll (cs : Nat × Nat) : fm_M (MX10_costAll cs) 0 := ⟨show Cond.code yX10_costAll cX10_costAll 1 (some .double) ∈ wA from wA_i 1313 (by decide +kernel) rfl, show Cond.initialized RX10 ∈ wA from wA_i 66 (by decide +kernel) rfl, show (yX10_costAll.cls ≠ "java/lang/invoke/MethodHandle" ∧ yX10_costAll.cls ≠ "java/lang/invoke/VarHandle" ∧ (parseMethodDescriptor yX10_costAll.desc).map (fun d => d.parameters.length) = some 0) from by decide +kernel⟩
theorem in_X10_costAll : Cond.instanceMethod yX10_costAll ∈ wA := wA_i 1312 (by decide +kernel) rfl
theorem se_X10_costAll : Cond.selects RX10 yX10_costAll yX10_costAll ∈ wA := wA_i 50 (by decide +kernel) rfl
def MX10_wordCost (cs : Nat × Nat) : MI := (yX10_wordCost, cX10_wordCost, 1, (some .double), { frames := 3, locals := 63, cells := cs.1, slots := cs.2 })
theorem ok_X10_wordCost (cs : Nat × Nat) : fm_M (MX10_wordCost cs) 0 := ⟨show Cond.code yX10_wordCost cX10_wordCost 1 (some .double) ∈ wA from wA_i 1309 (by decide +kernel) rfl, show Cond.initialized RX10 ∈ wA from wA_i 66 (by decide +kernel) rfl, show (yX10_wordCost.cls ≠ "java/lang/invoke/MethodHandle" ∧ yX10_wordCost.cls ≠ "java/lang/invoke/VarHandle" ∧ (parseMethodDescriptor yX10_wordCost.desc).map (fun d => d.parameters.length) = some 0) from by decide +kernel⟩
theorem in_X10_wordCost : Cond.instanceMethod yX10_wordCost ∈ wA := wA_i 1307 (by decide +kernel) rfl
theorem se_X10_wordCost : Cond.selects RX10 yX10_wordCost yX10_wordCost ∈ wA := wA_i 1308 (by decide +kernel) rfl
def MX10_mix (cs : Nat × Nat) : MI := (yX10_mix, cX10_mix, 3, none, { frames := 0, locals := 0, cells := cs.1, slots := cs.2 })
theorem ok_X10_mix (cs : Nat × Nat) : fm_M (MX10_mix cs) 1 := ⟨show Cond.code yX10_mix cX10_mix 3 none ∈ wA from wA_i 1322 (by decide +kernel) rfl, show Cond.initialized RX10 ∈ wA from wA_i 66 (by decide +kernel) rfl, show (yX10_mix.cls ≠ "java/lang/invoke/MethodHandle" ∧ yX10_mix.cls ≠ "java/lang/invoke/VarHandle" ∧ (parseMethodDescriptor yX10_mix.desc).map (fun d => d.parameters.length) = some 1) from by decide +kernel⟩
theorem in_X10_mix : Cond.instanceMethod yX10_mix ∈ wA := wA_i 1321 (by decide +kernel) rfl
theorem se_X10_mix : Cond.selects RX10 yX10_mix yX10_mix ∈ wA := wA_i 51 (by decide +kernel) rfl
def MX10_mixSegment (cs : Nat × Nat) : MI := (yX10_mixSegment, cX10_mixSegment, 3, none, { frames := 7, locals := 157, cells := cs.1, slots := cs.2 })
theorem ok_X10_mixSegment (cs : Nat × Nat) : fm_M (MX10_mixSegment cs) 1 := ⟨show Cond.code yX10_mixSegment cX10_mixSegment 3 none ∈ wA from wA_i 1327 (by decide +kernel) rfl, show Cond.initialized RX10 ∈ wA from wA_i 66 (by decide +kernel) rfl, show (yX10_mixSegment.cls ≠ "java/lang/invoke/MethodHandle" ∧ yX10_mixSegment.cls ≠ "java/lang/invoke/VarHandle" ∧ (parseMethodDescriptor yX10_mixSegment.desc).map (fun d => d.parameters.length) = some 1) from by decide +kernel⟩
theorem in_X10_mixSegment : Cond.instanceMethod yX10_mixSegment ∈ wA := wA_i 1326 (by decide +kernel) rfl
theorem se_X10_mixSegment : Cond.selects RX10 yX10_mixSegment yX10_mixSegment ∈ wA := wA_i 52 (by decide +kernel) rfl
def MX10_mixRow (cs : Nat × Nat) : MI := (yX10_mixRow, cX10_mixRow, 3, none, { frames := 3, locals := 66, cells := cs.1, slots := cs.2 })
theorem ok_X10_mixRow (cs : Nat × Nat) : fm_M (MX10_mixRow cs) 1 := ⟨show Cond.code yX10_mixRow cX10_mixRow 3 none ∈ wA from wA_i 1331 (by decide +kernel) rfl, show Cond.initialized RX10 ∈ wA from wA_i 66 (by decide +kernel) rfl, show (yX10_mixRow.cls ≠ "java/lang/invoke/MethodHandle" ∧ yX10_mixRow.cls ≠ "java/lang/invoke/VarHandle" ∧ (parseMethodDescriptor yX10_mixRow.desc).map (fun d => d.parameters.length) = some 1) from by decide +kernel⟩
theorem in_X10_mixRow : Cond.instanceMethod yX10_mixRow ∈ wA := wA_i 1330 (by decide +kernel) rfl
theorem se_X10_mixRow : Cond.selects RX10 yX10_mixRow yX10_mixRow ∈ wA := wA_i 53 (by decide +kernel) rfl
def MX10_digest (cs : Nat × Nat) : MI := (yX10_digest, cX10_digest, 2, (some .long), { frames := 8, locals := 179, cells := cs.1, slots := cs.2 })
theorem ok_X10_digest (cs : Nat × Nat) : fm_M (MX10_digest cs) 0 := ⟨show Cond.code yX10_digest cX10_digest 2 (some .long) ∈ wA from wA_i 1317 (by decide +kernel) rfl, show Cond.initialized RX10 ∈ wA from wA_i 66 (by decide +kernel) rfl, show (yX10_digest.cls ≠ "java/lang/invoke/MethodHandle" ∧ yX10_digest.cls ≠ "java/lang/invoke/VarHandle" ∧ (parseMethodDescriptor yX10_digest.desc).map (fun d => d.parameters.length) = some 0) from by decide +kernel⟩
theorem in_X10_digest : Cond.instanceMethod yX10_digest ∈ wA := wA_i 1315 (by decide +kernel) rfl
theorem se_X10_digest : Cond.selects RX10 yX10_digest yX10_digest ∈ wA := wA_i 1316 (by decide +kernel) rfl
def MJxe99ae_isNaN_b9ae7 (cs : Nat × Nat) : MI := (yJxe99ae_isNaN_b9ae7, cJxe99ae_isNaN_b9ae7, 2, (some .boolean), { frames := 0, locals := 0, cells := cs.1, slots := cs.2 })
theorem ok_Jxe99ae_isNaN_b9ae7 (cs : Nat × Nat) : fm_M (MJxe99ae_isNaN_b9ae7 cs) 1 := ⟨show Cond.code yJxe99ae_isNaN_b9ae7 cJxe99ae_isNaN_b9ae7 2 (some .boolean) ∈ wA from wA_i 1337 (by decide +kernel) rfl, show Cond.initialized RJxe99ae ∈ wA from wA_i 76 (by decide +kernel) rfl, show (yJxe99ae_isNaN_b9ae7.cls ≠ "java/lang/invoke/MethodHandle" ∧ yJxe99ae_isNaN_b9ae7.cls ≠ "java/lang/invoke/VarHandle" ∧ (parseMethodDescriptor yJxe99ae_isNaN_b9ae7.desc).map (fun d => d.parameters.length) = some 1) from by decide +kernel⟩
theorem st_Jxe99ae_isNaN_b9ae7 : Cond.static yJxe99ae_isNaN_b9ae7 ∈ wA := wA_i 1336 (by decide +kernel) rfl
def MJxe99ae_doubleToLongBits_ccdee (cs : Nat × Nat) : MI := (yJxe99ae_doubleToLongBits_ccdee, cJxe99ae_doubleToLongBits_ccdee, 2, (some .long), { frames := 1, locals := 21, cells := cs.1, slots := cs.2 })
theorem ok_Jxe99ae_doubleToLongBits_ccdee (cs : Nat × Nat) : fm_M (MJxe99ae_doubleToLongBits_ccdee cs) 1 := ⟨show Cond.code yJxe99ae_doubleToLongBits_ccdee cJxe99ae_doubleToLongBits_ccdee 2 (some .long) ∈ wA from wA_i 1334 (by decide +kernel) rfl, show Cond.initialized RJxe99ae ∈ wA from wA_i 76 (by decide +kernel) rfl, show (yJxe99ae_doubleToLongBits_ccdee.cls ≠ "java/lang/invoke/MethodHandle" ∧ yJxe99ae_doubleToLongBits_ccdee.cls ≠ "java/lang/invoke/VarHandle" ∧ (parseMethodDescriptor yJxe99ae_doubleToLongBits_ccdee.desc).map (fun d => d.parameters.length) = some 1) from by decide +kernel⟩
theorem st_Jxe99ae_doubleToLongBits_ccdee : Cond.static yJxe99ae_doubleToLongBits_ccdee ∈ wA := wA_i 1333 (by decide +kernel) rfl
def MJxf58ca_isNaN_12338 (cs : Nat × Nat) : MI := (yJxf58ca_isNaN_12338, cJxf58ca_isNaN_12338, 1, (some .boolean), { frames := 0, locals := 0, cells := cs.1, slots := cs.2 })
theorem ok_Jxf58ca_isNaN_12338 (cs : Nat × Nat) : fm_M (MJxf58ca_isNaN_12338 cs) 1 := ⟨show Cond.code yJxf58ca_isNaN_12338 cJxf58ca_isNaN_12338 1 (some .boolean) ∈ wA from wA_i 1245 (by decide +kernel) rfl, show Cond.initialized RJxf58ca ∈ wA from wA_i 75 (by decide +kernel) rfl, show (yJxf58ca_isNaN_12338.cls ≠ "java/lang/invoke/MethodHandle" ∧ yJxf58ca_isNaN_12338.cls ≠ "java/lang/invoke/VarHandle" ∧ (parseMethodDescriptor yJxf58ca_isNaN_12338.desc).map (fun d => d.parameters.length) = some 1) from by decide +kernel⟩
theorem st_Jxf58ca_isNaN_12338 : Cond.static yJxf58ca_isNaN_12338 ∈ wA := wA_i 1244 (by decide +kernel) rfl
def MJxf58ca_floatToIntBits_5c35a (cs : Nat × Nat) : MI := (yJxf58ca_floatToIntBits_5c35a, cJxf58ca_floatToIntBits_5c35a, 1, (some .int), { frames := 1, locals := 21, cells := cs.1, slots := cs.2 })
theorem ok_Jxf58ca_floatToIntBits_5c35a (cs : Nat × Nat) : fm_M (MJxf58ca_floatToIntBits_5c35a cs) 1 := ⟨show Cond.code yJxf58ca_floatToIntBits_5c35a cJxf58ca_floatToIntBits_5c35a 1 (some .int) ∈ wA from wA_i 1242 (by decide +kernel) rfl, show Cond.initialized RJxf58ca ∈ wA from wA_i 75 (by decide +kernel) rfl, show (yJxf58ca_floatToIntBits_5c35a.cls ≠ "java/lang/invoke/MethodHandle" ∧ yJxf58ca_floatToIntBits_5c35a.cls ≠ "java/lang/invoke/VarHandle" ∧ (parseMethodDescriptor yJxf58ca_floatToIntBits_5c35a.desc).map (fun d => d.parameters.length) = some 1) from by decide +kernel⟩
theorem st_Jxf58ca_floatToIntBits_5c35a : Cond.static yJxf58ca_floatToIntBits_5c35a ∈ wA := wA_i 1241 (by decide +kernel) rfl
def MJ6_bitCount_0f7a4 (cs : Nat × Nat) : MI := (yJ6_bitCount_0f7a4, cJ6_bitCount_0f7a4, 1, (some .int), { frames := 0, locals := 0, cells := cs.1, slots := cs.2 })
theorem ok_J6_bitCount_0f7a4 (cs : Nat × Nat) : fm_M (MJ6_bitCount_0f7a4 cs) 1 := ⟨show Cond.code yJ6_bitCount_0f7a4 cJ6_bitCount_0f7a4 1 (some .int) ∈ wA from wA_i 394 (by decide +kernel) rfl, show Cond.initialized RJ6 ∈ wA from wA_i 74 (by decide +kernel) rfl, show (yJ6_bitCount_0f7a4.cls ≠ "java/lang/invoke/MethodHandle" ∧ yJ6_bitCount_0f7a4.cls ≠ "java/lang/invoke/VarHandle" ∧ (parseMethodDescriptor yJ6_bitCount_0f7a4.desc).map (fun d => d.parameters.length) = some 1) from by decide +kernel⟩
theorem st_J6_bitCount_0f7a4 : Cond.static yJ6_bitCount_0f7a4 ∈ wA := wA_i 393 (by decide +kernel) rfl
def MJ9_max_7cf53 (cs : Nat × Nat) : MI := (yJ9_max_7cf53, cJ9_max_7cf53, 2, (some .int), { frames := 0, locals := 0, cells := cs.1, slots := cs.2 })
theorem ok_J9_max_7cf53 (cs : Nat × Nat) : fm_M (MJ9_max_7cf53 cs) 2 := ⟨show Cond.code yJ9_max_7cf53 cJ9_max_7cf53 2 (some .int) ∈ wA from wA_i 107 (by decide +kernel) rfl, show Cond.initialized RJ9 ∈ wA from wA_i 58 (by decide +kernel) rfl, show (yJ9_max_7cf53.cls ≠ "java/lang/invoke/MethodHandle" ∧ yJ9_max_7cf53.cls ≠ "java/lang/invoke/VarHandle" ∧ (parseMethodDescriptor yJ9_max_7cf53.desc).map (fun d => d.parameters.length) = some 2) from by decide +kernel⟩
theorem st_J9_max_7cf53 : Cond.static yJ9_max_7cf53 ∈ wA := wA_i 106 (by decide +kernel) rfl
def MJ9_min_7cf53 (cs : Nat × Nat) : MI := (yJ9_min_7cf53, cJ9_min_7cf53, 2, (some .int), { frames := 0, locals := 0, cells := cs.1, slots := cs.2 })
theorem ok_J9_min_7cf53 (cs : Nat × Nat) : fm_M (MJ9_min_7cf53 cs) 2 := ⟨show Cond.code yJ9_min_7cf53 cJ9_min_7cf53 2 (some .int) ∈ wA from wA_i 110 (by decide +kernel) rfl, show Cond.initialized RJ9 ∈ wA from wA_i 58 (by decide +kernel) rfl, show (yJ9_min_7cf53.cls ≠ "java/lang/invoke/MethodHandle" ∧ yJ9_min_7cf53.cls ≠ "java/lang/invoke/VarHandle" ∧ (parseMethodDescriptor yJ9_min_7cf53.desc).map (fun d => d.parameters.length) = some 2) from by decide +kernel⟩
theorem st_J9_min_7cf53 : Cond.static yJ9_min_7cf53 ∈ wA := wA_i 109 (by decide +kernel) rfl
theorem mlL_91 : Cond.methodLink RL 91 yX9_init ∈ wA := wA_i 79 (by decide +kernel) rfl
theorem mlX9_9 : Cond.methodLink RX9 9 yX6_init ∈ wA := wA_i 87 (by decide +kernel) rfl
theorem mlX6_45 : Cond.methodLink RX6 45 yX4_init ∈ wA := wA_i 101 (by decide +kernel) rfl
theorem mlX4_9 : Cond.methodLink RX4 9 yJ9_max_7cf53 ∈ wA := wA_i 105 (by decide +kernel) rfl
theorem mlX4_15 : Cond.methodLink RX4 15 yJ9_min_7cf53 ∈ wA := wA_i 108 (by decide +kernel) rfl
theorem mlX6_50 : Cond.methodLink RX6 50 yX3_init ∈ wA := wA_i 129 (by decide +kernel) rfl
theorem mlX6_57 : Cond.methodLinkNest RX6 57 yX8_init "MemoryDesk" ∈ wN := wN_i 145 (by decide +kernel) rfl
theorem mlX6_61 : Cond.methodLink RX6 61 yX0_init ∈ wA := wA_i 178 (by decide +kernel) rfl
theorem mlX6_64 : Cond.methodLinkNest RX6 64 yX7_init "MemoryDesk" ∈ wN := wN_i 199 (by decide +kernel) rfl
theorem mlX6_65 : Cond.methodLink RX6 65 yX5_init ∈ wA := wA_i 215 (by decide +kernel) rfl
theorem mlX9_18 : Cond.methodLink RX9 18 yX2_init ∈ wA := wA_i 299 (by decide +kernel) rfl
theorem mlX2_24 : Cond.methodLink RX2 24 yX6_init ∈ wA := wA_i 305 (by decide +kernel) rfl
theorem mlX9_25 : Cond.methodLinkNest RX9 25 yX1_init "MemoryDesk" ∈ wN := wN_i 319 (by decide +kernel) rfl
theorem mlL_130 : Cond.methodLink RL 130 yX9_clearBuffer ∈ wA := wA_i 342 (by decide +kernel) rfl
theorem mlL_134 : Cond.methodLink RL 134 yX9_firstError ∈ wA := wA_i 346 (by decide +kernel) rfl
theorem mlX9_144 : Cond.methodLink RX9 144 yX1_firstFault ∈ wA := wA_i 350 (by decide +kernel) rfl
theorem mlX1_19 : Cond.methodLink RX1 19 yX1_isLetter ∈ wA := wA_i 354 (by decide +kernel) rfl
theorem mlL_184 : Cond.methodLink RL 184 yX9_saved ∈ wA := wA_i 357 (by decide +kernel) rfl
theorem mlX9_246 : Cond.methodLink RX9 246 yX6_wordsOfAll ∈ wA := wA_i 361 (by decide +kernel) rfl
theorem mlX9_271 : Cond.methodLink RX9 271 yX9_floatBits ∈ wA := wA_i 365 (by decide +kernel) rfl
theorem mlX9_324 : Cond.methodLink RX9 324 yX9_bitsOf ∈ wA := wA_i 368 (by decide +kernel) rfl
theorem mlX9_285 : Cond.methodLink RX9 285 yX6_savedPercents ∈ wA := wA_i 372 (by decide +kernel) rfl
theorem mlX6_172 : Cond.methodLink RX6 172 yX6_percentNow ∈ wA := wA_i 376 (by decide +kernel) rfl
theorem mlX6_92 : Cond.methodLink RX6 92 yX3_greatestMatch ∈ wA := wA_i 380 (by decide +kernel) rfl
theorem mlX3_24 : Cond.methodLink RX3 24 yX4_matchWith ∈ wA := wA_i 384 (by decide +kernel) rfl
theorem mlX4_37 : Cond.methodLink RX4 37 yX4_commonLength ∈ wA := wA_i 388 (by decide +kernel) rfl
theorem mlX4_31 : Cond.methodLink RX4 31 yJ6_bitCount_0f7a4 ∈ wA := wA_i 392 (by decide +kernel) rfl
theorem mlX3_28 : Cond.methodLink RX3 28 yJ9_max_7cf53 ∈ wA := wA_i 398 (by decide +kernel) rfl
theorem mlX6_165 : Cond.methodLink RX6 165 yX6_percentOf ∈ wA := wA_i 399 (by decide +kernel) rfl
theorem mlX6_96 : Cond.methodLink RX6 96 yX6_bandOf ∈ wA := wA_i 403 (by decide +kernel) rfl
theorem mlL_188 : Cond.methodLink RL 188 yX9_wordCost ∈ wA := wA_i 408 (by decide +kernel) rfl
theorem mlX9_249 : Cond.methodLink RX9 249 yX6_deliveredWords ∈ wA := wA_i 412 (by decide +kernel) rfl
theorem mlX9_251 : Cond.methodLink RX9 251 yX6_earnedByAll ∈ wA := wA_i 416 (by decide +kernel) rfl
theorem mlL_193 : Cond.methodLink RL 193 yX9_digest ∈ wA := wA_i 420 (by decide +kernel) rfl
theorem mlX9_290 : Cond.methodLink RX9 290 yX9_count ∈ wA := wA_i 425 (by decide +kernel) rfl
theorem mlX9_34 : Cond.methodLink RX9 34 yX9_checkRange ∈ wA := wA_i 429 (by decide +kernel) rfl
theorem mlX9_243 : Cond.methodLink RX9 243 yX6_segmentsAt ∈ wA := wA_i 500 (by decide +kernel) rfl
theorem mlX6_182 : Cond.methodLinkNest RX6 182 yX9_oneIf "MemoryDesk" ∈ wN := wN_i 504 (by decide +kernel) rfl
theorem mlX9_254 : Cond.methodLink RX9 254 yX6_disputedWords ∈ wA := wA_i 507 (by decide +kernel) rfl
theorem mlX6_178 : Cond.methodLink RX6 178 yX7_isDisputed ∈ wA := wA_i 511 (by decide +kernel) rfl
theorem mlX7_27 : Cond.methodLink RX7 27 yX7_unlikeProposals ∈ wA := wA_i 515 (by decide +kernel) rfl
theorem mlX7_23 : Cond.methodLink RX7 23 yX7_isProposed ∈ wA := wA_i 519 (by decide +kernel) rfl
theorem mlX7_19 : Cond.methodLinkNest RX7 19 yX9_oneIf "MemoryDesk" ∈ wN := wN_i 523 (by decide +kernel) rfl
theorem mlX9_257 : Cond.methodLink RX9 257 yX6_ruledWords ∈ wA := wA_i 524 (by decide +kernel) rfl
theorem mlX9_293 : Cond.methodLink RX9 293 yX9_mix ∈ wA := wA_i 528 (by decide +kernel) rfl
theorem mlX9_297 : Cond.methodLink RX9 297 yX9_setting ∈ wA := wA_i 532 (by decide +kernel) rfl
theorem mlX9_30 : Cond.methodLink RX9 30 yX9_checkNumber ∈ wA := wA_i 536 (by decide +kernel) rfl
theorem mlX9_300 : Cond.methodLink RX9 300 yX9_mixTranslators ∈ wA := wA_i 555 (by decide +kernel) rfl
theorem mlX9_333 : Cond.methodLink RX9 333 yX9_translator ∈ wA := wA_i 559 (by decide +kernel) rfl
theorem mlX9_215 : Cond.methodLink RX9 215 yX6_assignedTo ∈ wA := wA_i 563 (by decide +kernel) rfl
theorem mlX9_225 : Cond.methodLink RX9 225 yX6_proposalsOf ∈ wA := wA_i 567 (by decide +kernel) rfl
theorem mlX9_304 : Cond.methodLink RX9 304 yX9_mixTerms ∈ wA := wA_i 571 (by decide +kernel) rfl
theorem mlX9_336 : Cond.methodLink RX9 336 yX9_term ∈ wA := wA_i 575 (by decide +kernel) rfl
theorem mlX9_228 : Cond.methodLink RX9 228 yX7_isDisputed ∈ wA := wA_i 579 (by decide +kernel) rfl
theorem mlX9_200 : Cond.methodLink RX9 200 yX9_oneIf ∈ wA := wA_i 580 (by decide +kernel) rfl
theorem mlX9_231 : Cond.methodLink RX9 231 yX7_unlikeProposals ∈ wA := wA_i 581 (by decide +kernel) rfl
theorem mlX9_234 : Cond.methodLink RX9 234 yX6_occurrences ∈ wA := wA_i 582 (by decide +kernel) rfl
theorem mlX6_192 : Cond.methodLink RX6 192 yJ6_bitCount_0f7a4 ∈ wA := wA_i 586 (by decide +kernel) rfl
theorem mlX9_307 : Cond.methodLink RX9 307 yX9_mixBands ∈ wA := wA_i 587 (by decide +kernel) rfl
theorem mlX9_339 : Cond.methodLink RX9 339 yX9_band ∈ wA := wA_i 591 (by decide +kernel) rfl
theorem mlX9_310 : Cond.methodLink RX9 310 yX9_mixSegment ∈ wA := wA_i 595 (by decide +kernel) rfl
theorem mlX9_341 : Cond.methodLink RX9 341 yX9_segment ∈ wA := wA_i 599 (by decide +kernel) rfl
theorem mlX9_180 : Cond.methodLink RX9 180 yX3_greatestMatch ∈ wA := wA_i 603 (by decide +kernel) rfl
theorem mlX9_186 : Cond.methodLink RX9 186 yX3_bestRow ∈ wA := wA_i 604 (by decide +kernel) rfl
theorem mlX3_34 : Cond.methodLink RX3 34 yX3_greatestMatch ∈ wA := wA_i 608 (by decide +kernel) rfl
theorem mlX9_102 : Cond.methodLink RX9 102 yX6_hasDispute ∈ wA := wA_i 609 (by decide +kernel) rfl
theorem mlX9_344 : Cond.methodLink RX9 344 yX9_mixRow ∈ wA := wA_i 613 (by decide +kernel) rfl
theorem mlX9_348 : Cond.methodLink RX9 348 yX9_ifPaid ∈ wA := wA_i 616 (by decide +kernel) rfl
theorem mlX9_278 : Cond.methodLink RX9 278 yX6_percentNow ∈ wA := wA_i 620 (by decide +kernel) rfl
theorem mlX9_351 : Cond.methodLink RX9 351 yX9_common ∈ wA := wA_i 621 (by decide +kernel) rfl
theorem mlX9_275 : Cond.methodLink RX9 275 yX4_commonWord ∈ wA := wA_i 625 (by decide +kernel) rfl
theorem mlX4_41 : Cond.methodLink RX4 41 yX4_leastBeginning ∈ wA := wA_i 629 (by decide +kernel) rfl
theorem mlX4_45 : Cond.methodLink RX4 45 yX4_placeOf ∈ wA := wA_i 633 (by decide +kernel) rfl
theorem mlX9_314 : Cond.methodLink RX9 314 yX9_mixRemembered ∈ wA := wA_i 637 (by decide +kernel) rfl
theorem mlX9_355 : Cond.methodLink RX9 355 yX9_near ∈ wA := wA_i 641 (by decide +kernel) rfl
theorem mlX9_260 : Cond.methodLink RX9 260 yX4_matchWith ∈ wA := wA_i 645 (by decide +kernel) rfl
theorem mlX9_263 : Cond.methodLink RX9 263 yX4_commonLength ∈ wA := wA_i 646 (by decide +kernel) rfl
theorem mlX9_267 : Cond.methodLink RX9 267 yX4_likenessTo ∈ wA := wA_i 647 (by decide +kernel) rfl
theorem mlX9_317 : Cond.methodLink RX9 317 yX9_saved ∈ wA := wA_i 651 (by decide +kernel) rfl
theorem mlX9_320 : Cond.methodLink RX9 320 yX9_wordCost ∈ wA := wA_i 652 (by decide +kernel) rfl
theorem mlX9_328 : Cond.methodLink RX9 328 yX9_mixBuffer ∈ wA := wA_i 653 (by decide +kernel) rfl
theorem mlL_95 : Cond.methodLink RL 95 yL_rate ∈ wA := wA_i 657 (by decide +kernel) rfl
theorem mlL_7 : Cond.methodLink RL 7 yX9_rate ∈ wA := wA_i 662 (by decide +kernel) rfl
theorem mlX9_38 : Cond.methodLink RX9 38 yX2_save ∈ wA := wA_i 666 (by decide +kernel) rfl
theorem mlX2_25 : Cond.methodLink RX2 25 yX6_copyFrom ∈ wA := wA_i 670 (by decide +kernel) rfl
theorem mlX6_72 : Cond.methodLink RX6 72 yX8_copyFrom ∈ wA := wA_i 677 (by decide +kernel) rfl
theorem mlX6_76 : Cond.methodLink RX6 76 yX0_copyFrom ∈ wA := wA_i 681 (by decide +kernel) rfl
theorem mlX6_79 : Cond.methodLink RX6 79 yX7_copyFrom ∈ wA := wA_i 685 (by decide +kernel) rfl
theorem mlX6_82 : Cond.methodLink RX6 82 yX5_copyFrom ∈ wA := wA_i 690 (by decide +kernel) rfl
theorem mlX6_85 : Cond.methodLink RX6 85 yX3_copyFrom ∈ wA := wA_i 694 (by decide +kernel) rfl
theorem mlL_104 : Cond.methodLink RL 104 yL_pays ∈ wA := wA_i 698 (by decide +kernel) rfl
theorem mlL_17 : Cond.methodLink RL 17 yX9_pays ∈ wA := wA_i 701 (by decide +kernel) rfl
theorem mlL_107 : Cond.methodLink RL 107 yL_set ∈ wA := wA_i 705 (by decide +kernel) rfl
theorem mlL_20 : Cond.methodLink RL 20 yX9_set ∈ wA := wA_i 708 (by decide +kernel) rfl
theorem mlL_110 : Cond.methodLink RL 110 yL_assign ∈ wA := wA_i 714 (by decide +kernel) rfl
theorem mlL_23 : Cond.methodLink RL 23 yX9_assign ∈ wA := wA_i 718 (by decide +kernel) rfl
theorem mlX9_80 : Cond.methodLink RX9 80 yX9_checkState ∈ wA := wA_i 722 (by decide +kernel) rfl
theorem mlX9_87 : Cond.methodLink RX9 87 yX6_fixBand ∈ wA := wA_i 741 (by decide +kernel) rfl
theorem mlL_113 : Cond.methodLink RL 113 yL_deliver ∈ wA := wA_i 745 (by decide +kernel) rfl
theorem mlL_28 : Cond.methodLink RL 28 yX9_deliver ∈ wA := wA_i 748 (by decide +kernel) rfl
theorem mlX9_94 : Cond.methodLink RX9 94 yX5_isTakenAt ∈ wA := wA_i 752 (by decide +kernel) rfl
theorem mlX9_106 : Cond.methodLink RX9 106 yX6_takeDelivery ∈ wA := wA_i 756 (by decide +kernel) rfl
theorem mlX6_137 : Cond.methodLink RX6 137 yX3_remember ∈ wA := wA_i 760 (by decide +kernel) rfl
theorem mlX3_21 : Cond.methodLink RX3 21 yX3_dropFirst ∈ wA := wA_i 764 (by decide +kernel) rfl
theorem mlL_117 : Cond.methodLink RL 117 yL_revise ∈ wA := wA_i 768 (by decide +kernel) rfl
theorem mlL_32 : Cond.methodLink RL 32 yX9_revise ∈ wA := wA_i 771 (by decide +kernel) rfl
theorem mlX9_117 : Cond.methodLink RX9 117 yX6_takeRevision ∈ wA := wA_i 775 (by decide +kernel) rfl
theorem mlX6_140 : Cond.methodLink RX6 140 yJ9_min_7cf53 ∈ wA := wA_i 779 (by decide +kernel) rfl
theorem mlL_121 : Cond.methodLink RL 121 yL_propose ∈ wA := wA_i 780 (by decide +kernel) rfl
theorem mlL_36 : Cond.methodLink RL 36 yX9_propose ∈ wA := wA_i 783 (by decide +kernel) rfl
theorem mlL_124 : Cond.methodLink RL 124 yL_rule ∈ wA := wA_i 787 (by decide +kernel) rfl
theorem mlL_39 : Cond.methodLink RL 39 yX9_rule ∈ wA := wA_i 790 (by decide +kernel) rfl
theorem mlX9_133 : Cond.methodLink RX9 133 yX7_isProposed ∈ wA := wA_i 794 (by decide +kernel) rfl
theorem mlX9_136 : Cond.methodLink RX9 136 yX7_otherProposals ∈ wA := wA_i 795 (by decide +kernel) rfl
theorem mlL_127 : Cond.methodLink RL 127 yL_append ∈ wA := wA_i 799 (by decide +kernel) rfl
theorem mlL_42 : Cond.methodLink RL 42 yX9_append ∈ wA := wA_i 802 (by decide +kernel) rfl
theorem mlL_138 : Cond.methodLink RL 138 yL_add ∈ wA := wA_i 806 (by decide +kernel) rfl
theorem mlL_45 : Cond.methodLink RL 45 yX9_add ∈ wA := wA_i 809 (by decide +kernel) rfl
theorem mlX9_148 : Cond.methodLink RX9 148 yX1_isComplete ∈ wA := wA_i 813 (by decide +kernel) rfl
theorem mlX1_23 : Cond.methodLink RX1 23 yX1_firstFault ∈ wA := wA_i 817 (by decide +kernel) rfl
theorem mlX9_152 : Cond.methodLink RX9 152 yX9_checkArgument ∈ wA := wA_i 818 (by decide +kernel) rfl
theorem mlX9_155 : Cond.methodLink RX9 155 yX1_rowCount ∈ wA := wA_i 822 (by decide +kernel) rfl
theorem mlX1_27 : Cond.methodLinkNest RX1 27 yX9_oneIf "MemoryDesk" ∈ wN := wN_i 826 (by decide +kernel) rfl
theorem mlX9_158 : Cond.methodLink RX9 158 yX1_endOfRow ∈ wA := wA_i 827 (by decide +kernel) rfl
theorem mlX9_161 : Cond.methodLink RX9 161 yX4_init ∈ wA := wA_i 832 (by decide +kernel) rfl
theorem mlX9_164 : Cond.methodLink RX9 164 yX5_beginWith ∈ wA := wA_i 833 (by decide +kernel) rfl
theorem mlL_142 : Cond.methodLink RL 142 yL_change ∈ wA := wA_i 837 (by decide +kernel) rfl
theorem mlL_49 : Cond.methodLink RL 49 yX9_change ∈ wA := wA_i 840 (by decide +kernel) rfl
theorem mlX9_168 : Cond.methodLink RX9 168 yX6_replaceSource ∈ wA := wA_i 844 (by decide +kernel) rfl
theorem mlX6_156 : Cond.methodLink RX6 156 yX5_reassign ∈ wA := wA_i 848 (by decide +kernel) rfl
theorem mlX6_159 : Cond.methodLink RX6 159 yX6_fixBand ∈ wA := wA_i 852 (by decide +kernel) rfl
theorem mlL_145 : Cond.methodLink RL 145 yL_undo ∈ wA := wA_i 853 (by decide +kernel) rfl
theorem mlL_52 : Cond.methodLink RL 52 yX9_undo ∈ wA := wA_i 856 (by decide +kernel) rfl
theorem mlX9_173 : Cond.methodLink RX9 173 yX2_restore ∈ wA := wA_i 860 (by decide +kernel) rfl
theorem mlL_148 : Cond.methodLink RL 148 yL_segment ∈ wA := wA_i 864 (by decide +kernel) rfl
theorem mlL_55 : Cond.methodLink RL 55 yX9_segment ∈ wA := wA_i 867 (by decide +kernel) rfl
theorem mlL_151 : Cond.methodLink RL 151 yL_word ∈ wA := wA_i 868 (by decide +kernel) rfl
theorem mlL_58 : Cond.methodLink RL 58 yX9_word ∈ wA := wA_i 871 (by decide +kernel) rfl
theorem mlX9_204 : Cond.methodLink RX9 204 yX4_wordAt ∈ wA := wA_i 875 (by decide +kernel) rfl
theorem mlL_154 : Cond.methodLink RL 154 yL_remembered ∈ wA := wA_i 879 (by decide +kernel) rfl
theorem mlL_61 : Cond.methodLink RL 61 yX9_remembered ∈ wA := wA_i 882 (by decide +kernel) rfl
theorem mlL_157 : Cond.methodLink RL 157 yL_translator ∈ wA := wA_i 886 (by decide +kernel) rfl
theorem mlL_64 : Cond.methodLink RL 64 yX9_translator ∈ wA := wA_i 889 (by decide +kernel) rfl
theorem mlL_160 : Cond.methodLink RL 160 yL_term ∈ wA := wA_i 890 (by decide +kernel) rfl
theorem mlL_67 : Cond.methodLink RL 67 yX9_term ∈ wA := wA_i 893 (by decide +kernel) rfl
theorem mlL_163 : Cond.methodLink RL 163 yL_band ∈ wA := wA_i 894 (by decide +kernel) rfl
theorem mlL_70 : Cond.methodLink RL 70 yX9_band ∈ wA := wA_i 897 (by decide +kernel) rfl
theorem mlL_166 : Cond.methodLink RL 166 yL_count ∈ wA := wA_i 898 (by decide +kernel) rfl
theorem mlL_73 : Cond.methodLink RL 73 yX9_count ∈ wA := wA_i 901 (by decide +kernel) rfl
theorem mlL_169 : Cond.methodLink RL 169 yL_setting ∈ wA := wA_i 902 (by decide +kernel) rfl
theorem mlL_76 : Cond.methodLink RL 76 yX9_setting ∈ wA := wA_i 905 (by decide +kernel) rfl
theorem mlL_172 : Cond.methodLink RL 172 yL_near ∈ wA := wA_i 906 (by decide +kernel) rfl
theorem mlL_79 : Cond.methodLink RL 79 yX9_near ∈ wA := wA_i 909 (by decide +kernel) rfl
theorem mlL_175 : Cond.methodLink RL 175 yL_common ∈ wA := wA_i 910 (by decide +kernel) rfl
theorem mlL_82 : Cond.methodLink RL 82 yX9_common ∈ wA := wA_i 913 (by decide +kernel) rfl
theorem mlL_178 : Cond.methodLink RL 178 yL_ifPaid ∈ wA := wA_i 914 (by decide +kernel) rfl
theorem mlL_85 : Cond.methodLink RL 85 yX9_ifPaid ∈ wA := wA_i 917 (by decide +kernel) rfl
theorem mlL_181 : Cond.methodLink RL 181 yL_orderMatters ∈ wA := wA_i 918 (by decide +kernel) rfl
theorem mlL_88 : Cond.methodLink RL 88 yX9_orderMatters ∈ wA := wA_i 921 (by decide +kernel) rfl
theorem mlX9_281 : Cond.methodLink RX9 281 yX6_costInOrder ∈ wA := wA_i 925 (by decide +kernel) rfl
theorem mlX6_168 : Cond.methodLink RX6 168 yX3_greatestMatchAfter ∈ wA := wA_i 929 (by decide +kernel) rfl
theorem mlL_94 : Cond.methodLink RL 94 yX10_init ∈ wA := wA_i 935 (by decide +kernel) rfl
theorem mlL_101 : Cond.methodLink RL 101 yX10_thrown ∈ wA := wA_i 988 (by decide +kernel) rfl
theorem mlL_100 : Cond.methodLink RL 100 yX10_rate ∈ wA := wA_i 992 (by decide +kernel) rfl
theorem mlX10_92 : Cond.methodLink RX10 92 yX10_isPerson ∈ wA := wA_i 996 (by decide +kernel) rfl
theorem mlX10_41 : Cond.methodLink RX10 41 yX10_in ∈ wA := wA_i 999 (by decide +kernel) rfl
theorem mlX10_95 : Cond.methodLink RX10 95 yX10_fails ∈ wA := wA_i 1002 (by decide +kernel) rfl
theorem mlX10_98 : Cond.methodLink RX10 98 yX10_save ∈ wA := wA_i 1006 (by decide +kernel) rfl
theorem mlX10_101 : Cond.methodLink RX10 101 yX10_person ∈ wA := wA_i 1010 (by decide +kernel) rfl
theorem mlL_106 : Cond.methodLink RL 106 yX10_pays ∈ wA := wA_i 1013 (by decide +kernel) rfl
theorem mlX10_104 : Cond.methodLink RX10 104 yX10_isBand ∈ wA := wA_i 1017 (by decide +kernel) rfl
theorem mlL_109 : Cond.methodLink RL 109 yX10_set ∈ wA := wA_i 1020 (by decide +kernel) rfl
theorem mlL_112 : Cond.methodLink RL 112 yX10_assign ∈ wA := wA_i 1024 (by decide +kernel) rfl
theorem mlX10_107 : Cond.methodLink RX10 107 yX10_isSegment ∈ wA := wA_i 1028 (by decide +kernel) rfl
theorem mlX10_45 : Cond.methodLink RX10 45 yX10_at ∈ wA := wA_i 1032 (by decide +kernel) rfl
theorem mlX10_110 : Cond.methodLink RX10 110 yX10_fix ∈ wA := wA_i 1035 (by decide +kernel) rfl
theorem mlX10_78 : Cond.methodLink RX10 78 yX10_bandNow ∈ wA := wA_i 1039 (by decide +kernel) rfl
theorem mlX10_75 : Cond.methodLink RX10 75 yX10_matchOf ∈ wA := wA_i 1043 (by decide +kernel) rfl
theorem mlX10_72 : Cond.methodLink RX10 72 yX10_bestRow ∈ wA := wA_i 1047 (by decide +kernel) rfl
theorem mlX10_62 : Cond.methodLink RX10 62 yX10_layOne ∈ wA := wA_i 1051 (by decide +kernel) rfl
theorem mlX10_66 : Cond.methodLink RX10 66 yX10_layRow ∈ wA := wA_i 1055 (by decide +kernel) rfl
theorem mlX10_55 : Cond.methodLink RX10 55 yX10_rowAt ∈ wA := wA_i 1059 (by decide +kernel) rfl
theorem mlX10_69 : Cond.methodLink RX10 69 yX10_matchNow ∈ wA := wA_i 1062 (by decide +kernel) rfl
theorem mlX10_58 : Cond.methodLink RX10 58 yX10_longest ∈ wA := wA_i 1066 (by decide +kernel) rfl
theorem mlL_116 : Cond.methodLink RL 116 yX10_deliver ∈ wA := wA_i 1070 (by decide +kernel) rfl
theorem mlX10_113 : Cond.methodLink RX10 113 yX10_hasDisputed ∈ wA := wA_i 1074 (by decide +kernel) rfl
theorem mlX10_88 : Cond.methodLink RX10 88 yX10_isDisputed ∈ wA := wA_i 1078 (by decide +kernel) rfl
theorem mlX10_81 : Cond.methodLink RX10 81 yX10_unlike ∈ wA := wA_i 1082 (by decide +kernel) rfl
theorem mlX10_84 : Cond.methodLink RX10 84 yX10_proposal ∈ wA := wA_i 1086 (by decide +kernel) rfl
theorem mlX10_116 : Cond.methodLink RX10 116 yX10_remember ∈ wA := wA_i 1089 (by decide +kernel) rfl
theorem mlL_120 : Cond.methodLink RL 120 yX10_revise ∈ wA := wA_i 1093 (by decide +kernel) rfl
theorem mlL_123 : Cond.methodLink RL 123 yX10_propose ∈ wA := wA_i 1097 (by decide +kernel) rfl
theorem mlX10_119 : Cond.methodLink RX10 119 yX10_isWord ∈ wA := wA_i 1101 (by decide +kernel) rfl
theorem mlL_126 : Cond.methodLink RL 126 yX10_rule ∈ wA := wA_i 1104 (by decide +kernel) rfl
theorem mlX10_122 : Cond.methodLink RX10 122 yX10_having ∈ wA := wA_i 1108 (by decide +kernel) rfl
theorem mlL_129 : Cond.methodLink RL 129 yX10_append ∈ wA := wA_i 1112 (by decide +kernel) rfl
theorem mlL_133 : Cond.methodLink RL 133 yX10_clearBuffer ∈ wA := wA_i 1116 (by decide +kernel) rfl
theorem mlL_137 : Cond.methodLink RL 137 yX10_firstError ∈ wA := wA_i 1120 (by decide +kernel) rfl
theorem mlX10_141 : Cond.methodLink RX10 141 yX10_areRows ∈ wA := wA_i 1124 (by decide +kernel) rfl
theorem mlX10_137 : Cond.methodLink RX10 137 yX10_row ∈ wA := wA_i 1128 (by decide +kernel) rfl
theorem mlX10_134 : Cond.methodLink RX10 134 yX10_letter ∈ wA := wA_i 1132 (by decide +kernel) rfl
theorem mlL_141 : Cond.methodLink RL 141 yX10_add ∈ wA := wA_i 1136 (by decide +kernel) rfl
theorem mlX10_144 : Cond.methodLink RX10 144 yX10_layText ∈ wA := wA_i 1140 (by decide +kernel) rfl
theorem mlL_144 : Cond.methodLink RL 144 yX10_change ∈ wA := wA_i 1144 (by decide +kernel) rfl
theorem mlL_147 : Cond.methodLink RL 147 yX10_undo ∈ wA := wA_i 1148 (by decide +kernel) rfl
theorem mlL_150 : Cond.methodLink RL 150 yX10_segment ∈ wA := wA_i 1152 (by decide +kernel) rfl
theorem mlX10_148 : Cond.methodLink RX10 148 yX10_segmentOf ∈ wA := wA_i 1156 (by decide +kernel) rfl
theorem mlL_153 : Cond.methodLink RL 153 yX10_word ∈ wA := wA_i 1160 (by decide +kernel) rfl
theorem mlX10_151 : Cond.methodLink RX10 151 yX10_wordOf ∈ wA := wA_i 1164 (by decide +kernel) rfl
theorem mlL_156 : Cond.methodLink RL 156 yX10_remembered ∈ wA := wA_i 1168 (by decide +kernel) rfl
theorem mlL_159 : Cond.methodLink RL 159 yX10_translator ∈ wA := wA_i 1172 (by decide +kernel) rfl
theorem mlX10_160 : Cond.methodLink RX10 160 yX10_personOf ∈ wA := wA_i 1176 (by decide +kernel) rfl
theorem mlX10_154 : Cond.methodLink RX10 154 yX10_assignedTo ∈ wA := wA_i 1180 (by decide +kernel) rfl
theorem mlX10_157 : Cond.methodLink RX10 157 yX10_proposals ∈ wA := wA_i 1184 (by decide +kernel) rfl
theorem mlL_162 : Cond.methodLink RL 162 yX10_term ∈ wA := wA_i 1188 (by decide +kernel) rfl
theorem mlX10_166 : Cond.methodLink RX10 166 yX10_termOf ∈ wA := wA_i 1192 (by decide +kernel) rfl
theorem mlX10_163 : Cond.methodLink RX10 163 yX10_often ∈ wA := wA_i 1196 (by decide +kernel) rfl
theorem mlL_165 : Cond.methodLink RL 165 yX10_band ∈ wA := wA_i 1200 (by decide +kernel) rfl
theorem mlL_168 : Cond.methodLink RL 168 yX10_count ∈ wA := wA_i 1204 (by decide +kernel) rfl
theorem mlX10_182 : Cond.methodLink RX10 182 yX10_counted ∈ wA := wA_i 1208 (by decide +kernel) rfl
theorem mlX10_169 : Cond.methodLink RX10 169 yX10_staged ∈ wA := wA_i 1212 (by decide +kernel) rfl
theorem mlX10_172 : Cond.methodLink RX10 172 yX10_wordsAll ∈ wA := wA_i 1216 (by decide +kernel) rfl
theorem mlX10_175 : Cond.methodLink RX10 175 yX10_ofPeople ∈ wA := wA_i 1220 (by decide +kernel) rfl
theorem mlX10_178 : Cond.methodLink RX10 178 yX10_ofTerms ∈ wA := wA_i 1224 (by decide +kernel) rfl
theorem mlL_171 : Cond.methodLink RL 171 yX10_setting ∈ wA := wA_i 1228 (by decide +kernel) rfl
theorem mlL_174 : Cond.methodLink RL 174 yX10_near ∈ wA := wA_i 1232 (by decide +kernel) rfl
theorem mlX10_191 : Cond.methodLink RX10 191 yX10_nearOf ∈ wA := wA_i 1236 (by decide +kernel) rfl
theorem mlX10_185 : Cond.methodLink RX10 185 yJxf58ca_floatToIntBits_5c35a ∈ wA := wA_i 1240 (by decide +kernel) rfl
theorem mlJxf58ca_59 : Cond.methodLink RJxf58ca 59 yJxf58ca_isNaN_12338 ∈ wA := wA_i 1243 (by decide +kernel) rfl
theorem mlL_177 : Cond.methodLink RL 177 yX10_common ∈ wA := wA_i 1250 (by decide +kernel) rfl
theorem mlX10_204 : Cond.methodLink RX10 204 yX10_commonOf ∈ wA := wA_i 1254 (by decide +kernel) rfl
theorem mlX10_195 : Cond.methodLink RX10 195 yX10_layOther ∈ wA := wA_i 1258 (by decide +kernel) rfl
theorem mlX10_198 : Cond.methodLink RX10 198 yX10_firstOne ∈ wA := wA_i 1262 (by decide +kernel) rfl
theorem mlX10_201 : Cond.methodLink RX10 201 yX10_firstOther ∈ wA := wA_i 1266 (by decide +kernel) rfl
theorem mlL_180 : Cond.methodLink RL 180 yX10_ifPaid ∈ wA := wA_i 1270 (by decide +kernel) rfl
theorem mlX10_210 : Cond.methodLink RX10 210 yX10_paidOf ∈ wA := wA_i 1274 (by decide +kernel) rfl
theorem mlX10_207 : Cond.methodLink RX10 207 yX10_partNow ∈ wA := wA_i 1278 (by decide +kernel) rfl
theorem mlL_183 : Cond.methodLink RL 183 yX10_orderMatters ∈ wA := wA_i 1282 (by decide +kernel) rfl
theorem mlX10_219 : Cond.methodLink RX10 219 yX10_costOf ∈ wA := wA_i 1286 (by decide +kernel) rfl
theorem mlX10_213 : Cond.methodLink RX10 213 yX10_putAside ∈ wA := wA_i 1290 (by decide +kernel) rfl
theorem mlX10_216 : Cond.methodLink RX10 216 yX10_putBack ∈ wA := wA_i 1294 (by decide +kernel) rfl
theorem mlL_187 : Cond.methodLink RL 187 yX10_saved ∈ wA := wA_i 1298 (by decide +kernel) rfl
theorem mlX10_222 : Cond.methodLink RX10 222 yX10_savedOf ∈ wA := wA_i 1302 (by decide +kernel) rfl
theorem mlL_192 : Cond.methodLink RL 192 yX10_wordCost ∈ wA := wA_i 1306 (by decide +kernel) rfl
theorem mlX10_225 : Cond.methodLink RX10 225 yX10_costAll ∈ wA := wA_i 1310 (by decide +kernel) rfl
theorem mlL_197 : Cond.methodLink RL 197 yX10_digest ∈ wA := wA_i 1314 (by decide +kernel) rfl
theorem mlX10_235 : Cond.methodLink RX10 235 yX10_mix ∈ wA := wA_i 1319 (by decide +kernel) rfl
theorem mlX10_241 : Cond.methodLink RX10 241 yX10_mixSegment ∈ wA := wA_i 1324 (by decide +kernel) rfl
theorem mlX10_244 : Cond.methodLink RX10 244 yX10_mixRow ∈ wA := wA_i 1328 (by decide +kernel) rfl
theorem mlX10_247 : Cond.methodLink RX10 247 yJxe99ae_doubleToLongBits_ccdee ∈ wA := wA_i 1332 (by decide +kernel) rfl
theorem mlJxe99ae_122 : Cond.methodLink RJxe99ae 122 yJxe99ae_isNaN_b9ae7 ∈ wA := wA_i 1335 (by decide +kernel) rfl
theorem moX9_1 : Cond.methodLink RX9 1 objectInit ∈ wA := wA_i 82 (by decide +kernel) rfl
theorem moX6_3 : Cond.methodLink RX6 3 objectInit ∈ wA := wA_i 90 (by decide +kernel) rfl
theorem moX4_3 : Cond.methodLink RX4 3 objectInit ∈ wA := wA_i 104 (by decide +kernel) rfl
theorem moX3_3 : Cond.methodLink RX3 3 objectInit ∈ wA := wA_i 132 (by decide +kernel) rfl
theorem moX8_3 : Cond.methodLink RX8 3 objectInit ∈ wA := wA_i 148 (by decide +kernel) rfl
theorem moX0_1 : Cond.methodLink RX0 1 objectInit ∈ wA := wA_i 181 (by decide +kernel) rfl
theorem moX7_3 : Cond.methodLink RX7 3 objectInit ∈ wA := wA_i 202 (by decide +kernel) rfl
theorem moX5_3 : Cond.methodLink RX5 3 objectInit ∈ wA := wA_i 218 (by decide +kernel) rfl
theorem moX2_3 : Cond.methodLink RX2 3 objectInit ∈ wA := wA_i 302 (by decide +kernel) rfl
theorem moX1_3 : Cond.methodLink RX1 3 objectInit ∈ wA := wA_i 322 (by decide +kernel) rfl
theorem moX10_1 : Cond.methodLink RX10 1 objectInit ∈ wA := wA_i 938 (by decide +kernel) rfl
theorem in_obj : Cond.instanceMethod objectInit ∈ wA := wA_i 83 (by decide +kernel) rfl
theorem co_obj : Cond.code objectInit ⟨#[0xb1]⟩ 1 none ∈ wA := wA_i 84 (by decide +kernel) rfl
theorem klL_8 : Cond.classLink RL 8 "MemoryDesk" ∈ wA := wA_i 77 (by decide +kernel) rfl
theorem klX9_7 : Cond.classLink RX9 7 "MemoryDesk$State" ∈ wA := wA_i 85 (by decide +kernel) rfl
theorem klX6_15 : Cond.classLink RX6 15 "MemoryDesk$Translator" ∈ wA := wA_i 91 (by decide +kernel) rfl
theorem klX6_21 : Cond.classLink RX6 21 "MemoryDesk$Band" ∈ wA := wA_i 93 (by decide +kernel) rfl
theorem klX6_27 : Cond.classLink RX6 27 "MemoryDesk$Term" ∈ wA := wA_i 95 (by decide +kernel) rfl
theorem klX6_33 : Cond.classLink RX6 33 "MemoryDesk$Segment" ∈ wA := wA_i 97 (by decide +kernel) rfl
theorem klX6_43 : Cond.classLink RX6 43 "MemoryDesk$Row" ∈ wA := wA_i 99 (by decide +kernel) rfl
theorem klX6_48 : Cond.classLink RX6 48 "MemoryDesk$Memory" ∈ wA := wA_i 127 (by decide +kernel) rfl
theorem klX3_9 : Cond.classLink RX3 9 "MemoryDesk$Row" ∈ wA := wA_i 133 (by decide +kernel) rfl
theorem klX9_16 : Cond.classLink RX9 16 "MemoryDesk$History" ∈ wA := wA_i 297 (by decide +kernel) rfl
theorem klX2_9 : Cond.classLink RX2 9 "MemoryDesk$State" ∈ wA := wA_i 303 (by decide +kernel) rfl
theorem klX9_23 : Cond.classLink RX9 23 "MemoryDesk$Buffer" ∈ wA := wA_i 317 (by decide +kernel) rfl
theorem kcX9_379 : Cond.constantDouble RX9 379 4611686018427387904 ∈ wA := wA_i 371 (by decide +kernel) rfl
theorem kcJ6_265 : Cond.constant RJ6 265 1431655765 ∈ wA := wA_i 395 (by decide +kernel) rfl
theorem kcJ6_266 : Cond.constant RJ6 266 858993459 ∈ wA := wA_i 396 (by decide +kernel) rfl
theorem kcJ6_267 : Cond.constant RJ6 267 252645135 ∈ wA := wA_i 397 (by decide +kernel) rfl
theorem kcX9_288 : Cond.constantLong RX9 288 2531 ∈ wA := wA_i 424 (by decide +kernel) rfl
theorem klX9_367 : Cond.classLink RX9 367 "java/lang/IllegalArgumentException" ∈ wA := wA_i 432 (by decide +kernel) rfl
theorem kcX9_331 : Cond.constantLong RX9 331 31 ∈ wA := wA_i 531 (by decide +kernel) rfl
theorem klX9_360 : Cond.classLink RX9 360 "java/lang/IndexOutOfBoundsException" ∈ wA := wA_i 539 (by decide +kernel) rfl
theorem klL_13 : Cond.classLink RL 13 "java/lang/IndexOutOfBoundsException" ∈ wA := wA_i 660 (by decide +kernel) rfl
theorem klL_15 : Cond.classLink RL 15 "java/lang/IllegalArgumentException" ∈ wA := wA_i 661 (by decide +kernel) rfl
theorem klL_26 : Cond.classLink RL 26 "java/lang/IllegalStateException" ∈ wA := wA_i 717 (by decide +kernel) rfl
theorem klX9_374 : Cond.classLink RX9 374 "java/lang/IllegalStateException" ∈ wA := wA_i 725 (by decide +kernel) rfl
theorem klX9_113 : Cond.classLink RX9 113 "MemoryDesk$Row" ∈ wA := wA_i 831 (by decide +kernel) rfl
theorem klL_92 : Cond.classLink RL 92 "MemoryDeskModel" ∈ wA := wA_i 933 (by decide +kernel) rfl
theorem kcJxf58ca_77 : Cond.constant RJxf58ca 77 2143289344 ∈ wA := wA_i 1249 (by decide +kernel) rfl
theorem kcX10_239 : Cond.constantLong RX10 239 2531 ∈ wA := wA_i 1318 (by decide +kernel) rfl
theorem kcX10_229 : Cond.constantLong RX10 229 31 ∈ wA := wA_i 1323 (by decide +kernel) rfl
theorem kcJxe99ae_137 : Cond.constantLong RJxe99ae 137 9221120237041090560 ∈ wA := wA_i 1341 (by decide +kernel) rfl
theorem ii_X0 : Cond.instantiable RX0 3 ∈ wA := wA_i 175 (by decide +kernel) rfl
theorem iz_X0 : Cond.initialized RX0 ∈ wA := wA_i 61 (by decide +kernel) rfl
theorem ii_X1 : Cond.instantiable RX1 2 ∈ wA := wA_i 318 (by decide +kernel) rfl
theorem iz_X1 : Cond.initialized RX1 ∈ wA := wA_i 65 (by decide +kernel) rfl
theorem ii_X2 : Cond.instantiable RX2 3 ∈ wA := wA_i 298 (by decide +kernel) rfl
theorem iz_X2 : Cond.initialized RX2 ∈ wA := wA_i 64 (by decide +kernel) rfl
theorem ii_X3 : Cond.instantiable RX3 2 ∈ wA := wA_i 128 (by decide +kernel) rfl
theorem iz_X3 : Cond.initialized RX3 ∈ wA := wA_i 59 (by decide +kernel) rfl
theorem ii_X4 : Cond.instantiable RX4 3 ∈ wA := wA_i 100 (by decide +kernel) rfl
theorem iz_X4 : Cond.initialized RX4 ∈ wA := wA_i 57 (by decide +kernel) rfl
theorem ii_X5 : Cond.instantiable RX5 10 ∈ wA := wA_i 214 (by decide +kernel) rfl
theorem iz_X5 : Cond.initialized RX5 ∈ wA := wA_i 63 (by decide +kernel) rfl
theorem ii_X6 : Cond.instantiable RX6 7 ∈ wA := wA_i 86 (by decide +kernel) rfl
theorem iz_X6 : Cond.initialized RX6 ∈ wA := wA_i 56 (by decide +kernel) rfl
theorem ii_X7 : Cond.instantiable RX7 2 ∈ wA := wA_i 198 (by decide +kernel) rfl
theorem iz_X7 : Cond.initialized RX7 ∈ wA := wA_i 62 (by decide +kernel) rfl
theorem ii_X8 : Cond.instantiable RX8 5 ∈ wA := wA_i 144 (by decide +kernel) rfl
theorem iz_X8 : Cond.initialized RX8 ∈ wA := wA_i 60 (by decide +kernel) rfl
theorem ii_X9 : Cond.instantiable RX9 3 ∈ wA := wA_i 78 (by decide +kernel) rfl
theorem iz_X9 : Cond.initialized RX9 ∈ wA := wA_i 55 (by decide +kernel) rfl
theorem ii_X10 : Cond.instantiable RX10 16 ∈ wA := wA_i 934 (by decide +kernel) rfl
theorem iz_X10 : Cond.initialized RX10 ∈ wA := wA_i 66 (by decide +kernel) rfl
theorem ac_int : Cond.arrayClass .int ∈ wA := wA_i 126 (by decide +kernel) rfl
theorem ac_long : Cond.arrayClass .long ∈ wA := wA_i 1342 (by decide +kernel) rfl
theorem ao_X8 : Cond.arrayOver (.object RX8) ∈ wN := wN_i 92 (by decide +kernel) rfl
theorem ao_X0 : Cond.arrayOver (.object RX0) ∈ wN := wN_i 94 (by decide +kernel) rfl
theorem ao_X7 : Cond.arrayOver (.object RX7) ∈ wN := wN_i 96 (by decide +kernel) rfl
theorem ao_X5 : Cond.arrayOver (.object RX5) ∈ wN := wN_i 98 (by decide +kernel) rfl
theorem ao_X4 : Cond.arrayOver (.object RX4) ∈ wN := wN_i 134 (by decide +kernel) rfl
theorem fnX6_58 : Cond.fieldLinkNest RX6 58 "MemoryDesk" "FIRST_PERCENTS" "[I" "MemoryDesk" ∈ wN := wN_i 176 (by decide +kernel) rfl
theorem ao_X6 : Cond.arrayOver (.object RX6) ∈ wN := wN_i 304 (by decide +kernel) rfl
theorem fnX6_162 : Cond.fieldLinkNest RX6 162 "MemoryDesk" "LOWEST_MATCHES" "[I" "MemoryDesk" ∈ wN := wN_i 406 (by decide +kernel) rfl
theorem ca_IllegalArgumentException : Cond.castable "java/lang/IllegalArgumentException" "java/lang/IllegalArgumentException" ∈ wN := wN_i 434 (by decide +kernel) rfl
theorem ca_IndexOutOfBoundsException : Cond.castable "java/lang/IndexOutOfBoundsException" "java/lang/IndexOutOfBoundsException" ∈ wN := wN_i 541 (by decide +kernel) rfl
theorem fhX9_61 : Cond.fieldLink RX9 61 "MemoryDesk" "HIGHEST_SETTINGS" "[I" ∈ wA := wA_i 712 (by decide +kernel) rfl
theorem ca_IllegalStateException : Cond.castable "java/lang/IllegalStateException" "java/lang/IllegalStateException" ∈ wN := wN_i 727 (by decide +kernel) rfl
