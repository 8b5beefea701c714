section
-- ===== PART A: goes FIRST, ahead of the names: the tables' words, and 'selects' of the private methods out of them =====
/-- a private method of a class that the tables say can be made, by its rows of tables_1 -/
def lw_okq (q : MethodName × Nat) : Prop := (q.1.cls ≠ "java/lang/invoke/MethodHandle" ∧ q.1.cls ≠ "java/lang/invoke/VarHandle") ∧ Cond.instantiable q.1.cls q.2 ∈ tables_1 ∧ Cond.privateMethod q.1 ∈ tables_1 ∧ Cond.instanceMethod q.1 ∈ tables_1
theorem lw_p0 : lw_okq (⟨"java/lang/Throwable", "fillInStackTrace", "(I)Ljava/lang/Throwable;"⟩, 6) := ⟨⟨by decide +kernel, by decide +kernel⟩, List.mem_of_getElem? (i := 414) (by decide +kernel), List.mem_of_getElem? (i := 412) (by decide +kernel), List.mem_of_getElem? (i := 413) (by decide +kernel)⟩
theorem lw_p1 : lw_okq (⟨"MemoryDesk", "mixTranslators", "(J)J"⟩, 3) := ⟨⟨by decide +kernel, by decide +kernel⟩, List.mem_of_getElem? (i := 24) (by decide +kernel), List.mem_of_getElem? (i := 499) (by decide +kernel), List.mem_of_getElem? (i := 500) (by decide +kernel)⟩
theorem lw_p2 : lw_okq (⟨"MemoryDesk", "mixTerms", "(J)J"⟩, 3) := ⟨⟨by decide +kernel, by decide +kernel⟩, List.mem_of_getElem? (i := 24) (by decide +kernel), List.mem_of_getElem? (i := 515) (by decide +kernel), List.mem_of_getElem? (i := 516) (by decide +kernel)⟩
theorem lw_p3 : lw_okq (⟨"MemoryDesk", "mixBands", "(J)J"⟩, 3) := ⟨⟨by decide +kernel, by decide +kernel⟩, List.mem_of_getElem? (i := 24) (by decide +kernel), List.mem_of_getElem? (i := 531) (by decide +kernel), List.mem_of_getElem? (i := 532) (by decide +kernel)⟩
theorem lw_p4 : lw_okq (⟨"MemoryDesk", "mixSegment", "(JI)J"⟩, 3) := ⟨⟨by decide +kernel, by decide +kernel⟩, List.mem_of_getElem? (i := 24) (by decide +kernel), List.mem_of_getElem? (i := 539) (by decide +kernel), List.mem_of_getElem? (i := 540) (by decide +kernel)⟩
theorem lw_p5 : lw_okq (⟨"MemoryDesk", "mixRemembered", "(JI)J"⟩, 3) := ⟨⟨by decide +kernel, by decide +kernel⟩, List.mem_of_getElem? (i := 24) (by decide +kernel), List.mem_of_getElem? (i := 581) (by decide +kernel), List.mem_of_getElem? (i := 582) (by decide +kernel)⟩
theorem lw_p6 : lw_okq (⟨"MemoryDesk", "mixBuffer", "(J)J"⟩, 3) := ⟨⟨by decide +kernel, by decide +kernel⟩, List.mem_of_getElem? (i := 24) (by decide +kernel), List.mem_of_getElem? (i := 597) (by decide +kernel), List.mem_of_getElem? (i := 598) (by decide +kernel)⟩
theorem lw_p7 : lw_okq (⟨"MemoryDeskModel", "fails", "(I)I"⟩, 16) := ⟨⟨by decide +kernel, by decide +kernel⟩, List.mem_of_getElem? (i := 875) (by decide +kernel), List.mem_of_getElem? (i := 944) (by decide +kernel), List.mem_of_getElem? (i := 945) (by decide +kernel)⟩
theorem lw_p8 : lw_okq (⟨"MemoryDeskModel", "save", "()V"⟩, 16) := ⟨⟨by decide +kernel, by decide +kernel⟩, List.mem_of_getElem? (i := 875) (by decide +kernel), List.mem_of_getElem? (i := 948) (by decide +kernel), List.mem_of_getElem? (i := 949) (by decide +kernel)⟩
theorem lw_p9 : lw_okq (⟨"MemoryDeskModel", "isSegment", "(I)Z"⟩, 16) := ⟨⟨by decide +kernel, by decide +kernel⟩, List.mem_of_getElem? (i := 875) (by decide +kernel), List.mem_of_getElem? (i := 970) (by decide +kernel), List.mem_of_getElem? (i := 971) (by decide +kernel)⟩
theorem lw_p10 : lw_okq (⟨"MemoryDeskModel", "fix", "(I)V"⟩, 16) := ⟨⟨by decide +kernel, by decide +kernel⟩, List.mem_of_getElem? (i := 875) (by decide +kernel), List.mem_of_getElem? (i := 977) (by decide +kernel), List.mem_of_getElem? (i := 978) (by decide +kernel)⟩
theorem lw_p11 : lw_okq (⟨"MemoryDeskModel", "bandNow", "(I)I"⟩, 16) := ⟨⟨by decide +kernel, by decide +kernel⟩, List.mem_of_getElem? (i := 875) (by decide +kernel), List.mem_of_getElem? (i := 981) (by decide +kernel), List.mem_of_getElem? (i := 982) (by decide +kernel)⟩
theorem lw_p12 : lw_okq (⟨"MemoryDeskModel", "matchOf", "(I)I"⟩, 16) := ⟨⟨by decide +kernel, by decide +kernel⟩, List.mem_of_getElem? (i := 875) (by decide +kernel), List.mem_of_getElem? (i := 985) (by decide +kernel), List.mem_of_getElem? (i := 986) (by decide +kernel)⟩
theorem lw_p13 : lw_okq (⟨"MemoryDeskModel", "bestRow", "(I)I"⟩, 16) := ⟨⟨by decide +kernel, by decide +kernel⟩, List.mem_of_getElem? (i := 875) (by decide +kernel), List.mem_of_getElem? (i := 989) (by decide +kernel), List.mem_of_getElem? (i := 990) (by decide +kernel)⟩
theorem lw_p14 : lw_okq (⟨"MemoryDeskModel", "layOne", "(I)V"⟩, 16) := ⟨⟨by decide +kernel, by decide +kernel⟩, List.mem_of_getElem? (i := 875) (by decide +kernel), List.mem_of_getElem? (i := 993) (by decide +kernel), List.mem_of_getElem? (i := 994) (by decide +kernel)⟩
theorem lw_p15 : lw_okq (⟨"MemoryDeskModel", "layRow", "(I)V"⟩, 16) := ⟨⟨by decide +kernel, by decide +kernel⟩, List.mem_of_getElem? (i := 875) (by decide +kernel), List.mem_of_getElem? (i := 997) (by decide +kernel), List.mem_of_getElem? (i := 998) (by decide +kernel)⟩
def lw_privs_1 : List (MethodName × Nat) := [(⟨"java/lang/Throwable", "fillInStackTrace", "(I)Ljava/lang/Throwable;"⟩, 6), (⟨"MemoryDesk", "mixTranslators", "(J)J"⟩, 3), (⟨"MemoryDesk", "mixTerms", "(J)J"⟩, 3), (⟨"MemoryDesk", "mixBands", "(J)J"⟩, 3), (⟨"MemoryDesk", "mixSegment", "(JI)J"⟩, 3), (⟨"MemoryDesk", "mixRemembered", "(JI)J"⟩, 3), (⟨"MemoryDesk", "mixBuffer", "(J)J"⟩, 3), (⟨"MemoryDeskModel", "fails", "(I)I"⟩, 16), (⟨"MemoryDeskModel", "save", "()V"⟩, 16), (⟨"MemoryDeskModel", "isSegment", "(I)Z"⟩, 16), (⟨"MemoryDeskModel", "fix", "(I)V"⟩, 16), (⟨"MemoryDeskModel", "bandNow", "(I)I"⟩, 16), (⟨"MemoryDeskModel", "matchOf", "(I)I"⟩, 16), (⟨"MemoryDeskModel", "bestRow", "(I)I"⟩, 16), (⟨"MemoryDeskModel", "layOne", "(I)V"⟩, 16), (⟨"MemoryDeskModel", "layRow", "(I)V"⟩, 16)]
theorem lw_r1 : ∀ q ∈ lw_privs_1, lw_okq q := List.forall_mem_cons.mpr ⟨lw_p0, List.forall_mem_cons.mpr ⟨lw_p1, List.forall_mem_cons.mpr ⟨lw_p2, List.forall_mem_cons.mpr ⟨lw_p3, List.forall_mem_cons.mpr ⟨lw_p4, List.forall_mem_cons.mpr ⟨lw_p5, List.forall_mem_cons.mpr ⟨lw_p6, List.forall_mem_cons.mpr ⟨lw_p7, List.forall_mem_cons.mpr ⟨lw_p8, List.forall_mem_cons.mpr ⟨lw_p9, List.forall_mem_cons.mpr ⟨lw_p10, List.forall_mem_cons.mpr ⟨lw_p11, List.forall_mem_cons.mpr ⟨lw_p12, List.forall_mem_cons.mpr ⟨lw_p13, List.forall_mem_cons.mpr ⟨lw_p14, List.forall_mem_cons.mpr ⟨lw_p15, fun _ h => absurd h List.not_mem_nil⟩⟩⟩⟩⟩⟩⟩⟩⟩⟩⟩⟩⟩⟩⟩⟩
theorem lw_p16 : lw_okq (⟨"MemoryDeskModel", "matchNow", "()I"⟩, 16) := ⟨⟨by decide +kernel, by decide +kernel⟩, List.mem_of_getElem? (i := 875) (by decide +kernel), List.mem_of_getElem? (i := 1004) (by decide +kernel), List.mem_of_getElem? (i := 1005) (by decide +kernel)⟩
theorem lw_p17 : lw_okq (⟨"MemoryDeskModel", "longest", "()I"⟩, 16) := ⟨⟨by decide +kernel, by decide +kernel⟩, List.mem_of_getElem? (i := 875) (by decide +kernel), List.mem_of_getElem? (i := 1008) (by decide +kernel), List.mem_of_getElem? (i := 1009) (by decide +kernel)⟩
theorem lw_p18 : lw_okq (⟨"MemoryDeskModel", "hasDisputed", "(I)Z"⟩, 16) := ⟨⟨by decide +kernel, by decide +kernel⟩, List.mem_of_getElem? (i := 875) (by decide +kernel), List.mem_of_getElem? (i := 1016) (by decide +kernel), List.mem_of_getElem? (i := 1017) (by decide +kernel)⟩
theorem lw_p19 : lw_okq (⟨"MemoryDeskModel", "isDisputed", "(I)Z"⟩, 16) := ⟨⟨by decide +kernel, by decide +kernel⟩, List.mem_of_getElem? (i := 875) (by decide +kernel), List.mem_of_getElem? (i := 1020) (by decide +kernel), List.mem_of_getElem? (i := 1021) (by decide +kernel)⟩
theorem lw_p20 : lw_okq (⟨"MemoryDeskModel", "unlike", "(I)I"⟩, 16) := ⟨⟨by decide +kernel, by decide +kernel⟩, List.mem_of_getElem? (i := 875) (by decide +kernel), List.mem_of_getElem? (i := 1024) (by decide +kernel), List.mem_of_getElem? (i := 1025) (by decide +kernel)⟩
theorem lw_p21 : lw_okq (⟨"MemoryDeskModel", "remember", "(I)V"⟩, 16) := ⟨⟨by decide +kernel, by decide +kernel⟩, List.mem_of_getElem? (i := 875) (by decide +kernel), List.mem_of_getElem? (i := 1031) (by decide +kernel), List.mem_of_getElem? (i := 1032) (by decide +kernel)⟩
theorem lw_p22 : lw_okq (⟨"MemoryDeskModel", "having", "(II)I"⟩, 16) := ⟨⟨by decide +kernel, by decide +kernel⟩, List.mem_of_getElem? (i := 875) (by decide +kernel), List.mem_of_getElem? (i := 1050) (by decide +kernel), List.mem_of_getElem? (i := 1051) (by decide +kernel)⟩
theorem lw_p23 : lw_okq (⟨"MemoryDeskModel", "areRows", "()Z"⟩, 16) := ⟨⟨by decide +kernel, by decide +kernel⟩, List.mem_of_getElem? (i := 875) (by decide +kernel), List.mem_of_getElem? (i := 1066) (by decide +kernel), List.mem_of_getElem? (i := 1067) (by decide +kernel)⟩
theorem lw_p24 : lw_okq (⟨"MemoryDeskModel", "row", "()Z"⟩, 16) := ⟨⟨by decide +kernel, by decide +kernel⟩, List.mem_of_getElem? (i := 875) (by decide +kernel), List.mem_of_getElem? (i := 1070) (by decide +kernel), List.mem_of_getElem? (i := 1071) (by decide +kernel)⟩
theorem lw_p25 : lw_okq (⟨"MemoryDeskModel", "letter", "()I"⟩, 16) := ⟨⟨by decide +kernel, by decide +kernel⟩, List.mem_of_getElem? (i := 875) (by decide +kernel), List.mem_of_getElem? (i := 1074) (by decide +kernel), List.mem_of_getElem? (i := 1075) (by decide +kernel)⟩
theorem lw_p26 : lw_okq (⟨"MemoryDeskModel", "layText", "(II)V"⟩, 16) := ⟨⟨by decide +kernel, by decide +kernel⟩, List.mem_of_getElem? (i := 875) (by decide +kernel), List.mem_of_getElem? (i := 1082) (by decide +kernel), List.mem_of_getElem? (i := 1083) (by decide +kernel)⟩
theorem lw_p27 : lw_okq (⟨"MemoryDeskModel", "segmentOf", "(II)I"⟩, 16) := ⟨⟨by decide +kernel, by decide +kernel⟩, List.mem_of_getElem? (i := 875) (by decide +kernel), List.mem_of_getElem? (i := 1098) (by decide +kernel), List.mem_of_getElem? (i := 1099) (by decide +kernel)⟩
theorem lw_p28 : lw_okq (⟨"MemoryDeskModel", "wordOf", "(II)I"⟩, 16) := ⟨⟨by decide +kernel, by decide +kernel⟩, List.mem_of_getElem? (i := 875) (by decide +kernel), List.mem_of_getElem? (i := 1106) (by decide +kernel), List.mem_of_getElem? (i := 1107) (by decide +kernel)⟩
theorem lw_p29 : lw_okq (⟨"MemoryDeskModel", "personOf", "(II)I"⟩, 16) := ⟨⟨by decide +kernel, by decide +kernel⟩, List.mem_of_getElem? (i := 875) (by decide +kernel), List.mem_of_getElem? (i := 1118) (by decide +kernel), List.mem_of_getElem? (i := 1119) (by decide +kernel)⟩
theorem lw_p30 : lw_okq (⟨"MemoryDeskModel", "assignedTo", "(I)I"⟩, 16) := ⟨⟨by decide +kernel, by decide +kernel⟩, List.mem_of_getElem? (i := 875) (by decide +kernel), List.mem_of_getElem? (i := 1122) (by decide +kernel), List.mem_of_getElem? (i := 1123) (by decide +kernel)⟩
theorem lw_p31 : lw_okq (⟨"MemoryDeskModel", "proposals", "(I)I"⟩, 16) := ⟨⟨by decide +kernel, by decide +kernel⟩, List.mem_of_getElem? (i := 875) (by decide +kernel), List.mem_of_getElem? (i := 1126) (by decide +kernel), List.mem_of_getElem? (i := 1127) (by decide +kernel)⟩
def lw_privs_2 : List (MethodName × Nat) := [(⟨"MemoryDeskModel", "matchNow", "()I"⟩, 16), (⟨"MemoryDeskModel", "longest", "()I"⟩, 16), (⟨"MemoryDeskModel", "hasDisputed", "(I)Z"⟩, 16), (⟨"MemoryDeskModel", "isDisputed", "(I)Z"⟩, 16), (⟨"MemoryDeskModel", "unlike", "(I)I"⟩, 16), (⟨"MemoryDeskModel", "remember", "(I)V"⟩, 16), (⟨"MemoryDeskModel", "having", "(II)I"⟩, 16), (⟨"MemoryDeskModel", "areRows", "()Z"⟩, 16), (⟨"MemoryDeskModel", "row", "()Z"⟩, 16), (⟨"MemoryDeskModel", "letter", "()I"⟩, 16), (⟨"MemoryDeskModel", "layText", "(II)V"⟩, 16), (⟨"MemoryDeskModel", "segmentOf", "(II)I"⟩, 16), (⟨"MemoryDeskModel", "wordOf", "(II)I"⟩, 16), (⟨"MemoryDeskModel", "personOf", "(II)I"⟩, 16), (⟨"MemoryDeskModel", "assignedTo", "(I)I"⟩, 16), (⟨"MemoryDeskModel", "proposals", "(I)I"⟩, 16)]
theorem lw_r2 : ∀ q ∈ lw_privs_2, lw_okq q := List.forall_mem_cons.mpr ⟨lw_p16, List.forall_mem_cons.mpr ⟨lw_p17, List.forall_mem_cons.mpr ⟨lw_p18, List.forall_mem_cons.mpr ⟨lw_p19, List.forall_mem_cons.mpr ⟨lw_p20, List.forall_mem_cons.mpr ⟨lw_p21, List.forall_mem_cons.mpr ⟨lw_p22, List.forall_mem_cons.mpr ⟨lw_p23, List.forall_mem_cons.mpr ⟨lw_p24, List.forall_mem_cons.mpr ⟨lw_p25, List.forall_mem_cons.mpr ⟨lw_p26, List.forall_mem_cons.mpr ⟨lw_p27, List.forall_mem_cons.mpr ⟨lw_p28, List.forall_mem_cons.mpr ⟨lw_p29, List.forall_mem_cons.mpr ⟨lw_p30, List.forall_mem_cons.mpr ⟨lw_p31, fun _ h => absurd h List.not_mem_nil⟩⟩⟩⟩⟩⟩⟩⟩⟩⟩⟩⟩⟩⟩⟩⟩
theorem lw_p32 : lw_okq (⟨"MemoryDeskModel", "termOf", "(II)I"⟩, 16) := ⟨⟨by decide +kernel, by decide +kernel⟩, List.mem_of_getElem? (i := 875) (by decide +kernel), List.mem_of_getElem? (i := 1134) (by decide +kernel), List.mem_of_getElem? (i := 1135) (by decide +kernel)⟩
theorem lw_p33 : lw_okq (⟨"MemoryDeskModel", "often", "(I)I"⟩, 16) := ⟨⟨by decide +kernel, by decide +kernel⟩, List.mem_of_getElem? (i := 875) (by decide +kernel), List.mem_of_getElem? (i := 1138) (by decide +kernel), List.mem_of_getElem? (i := 1139) (by decide +kernel)⟩
theorem lw_p34 : lw_okq (⟨"MemoryDeskModel", "counted", "(I)I"⟩, 16) := ⟨⟨by decide +kernel, by decide +kernel⟩, List.mem_of_getElem? (i := 875) (by decide +kernel), List.mem_of_getElem? (i := 1150) (by decide +kernel), List.mem_of_getElem? (i := 1151) (by decide +kernel)⟩
theorem lw_p35 : lw_okq (⟨"MemoryDeskModel", "staged", "(I)I"⟩, 16) := ⟨⟨by decide +kernel, by decide +kernel⟩, List.mem_of_getElem? (i := 875) (by decide +kernel), List.mem_of_getElem? (i := 1154) (by decide +kernel), List.mem_of_getElem? (i := 1155) (by decide +kernel)⟩
theorem lw_p36 : lw_okq (⟨"MemoryDeskModel", "wordsAll", "()I"⟩, 16) := ⟨⟨by decide +kernel, by decide +kernel⟩, List.mem_of_getElem? (i := 875) (by decide +kernel), List.mem_of_getElem? (i := 1158) (by decide +kernel), List.mem_of_getElem? (i := 1159) (by decide +kernel)⟩
theorem lw_p37 : lw_okq (⟨"MemoryDeskModel", "ofPeople", "(I)I"⟩, 16) := ⟨⟨by decide +kernel, by decide +kernel⟩, List.mem_of_getElem? (i := 875) (by decide +kernel), List.mem_of_getElem? (i := 1162) (by decide +kernel), List.mem_of_getElem? (i := 1163) (by decide +kernel)⟩
theorem lw_p38 : lw_okq (⟨"MemoryDeskModel", "ofTerms", "(Z)I"⟩, 16) := ⟨⟨by decide +kernel, by decide +kernel⟩, List.mem_of_getElem? (i := 875) (by decide +kernel), List.mem_of_getElem? (i := 1166) (by decide +kernel), List.mem_of_getElem? (i := 1167) (by decide +kernel)⟩
theorem lw_p39 : lw_okq (⟨"MemoryDeskModel", "nearOf", "(III)I"⟩, 16) := ⟨⟨by decide +kernel, by decide +kernel⟩, List.mem_of_getElem? (i := 875) (by decide +kernel), List.mem_of_getElem? (i := 1178) (by decide +kernel), List.mem_of_getElem? (i := 1179) (by decide +kernel)⟩
theorem lw_p40 : lw_okq (⟨"MemoryDeskModel", "commonOf", "(III)I"⟩, 16) := ⟨⟨by decide +kernel, by decide +kernel⟩, List.mem_of_getElem? (i := 875) (by decide +kernel), List.mem_of_getElem? (i := 1196) (by decide +kernel), List.mem_of_getElem? (i := 1197) (by decide +kernel)⟩
theorem lw_p41 : lw_okq (⟨"MemoryDeskModel", "layOther", "(I)V"⟩, 16) := ⟨⟨by decide +kernel, by decide +kernel⟩, List.mem_of_getElem? (i := 875) (by decide +kernel), List.mem_of_getElem? (i := 1200) (by decide +kernel), List.mem_of_getElem? (i := 1201) (by decide +kernel)⟩
theorem lw_p42 : lw_okq (⟨"MemoryDeskModel", "firstOne", "(II)I"⟩, 16) := ⟨⟨by decide +kernel, by decide +kernel⟩, List.mem_of_getElem? (i := 875) (by decide +kernel), List.mem_of_getElem? (i := 1204) (by decide +kernel), List.mem_of_getElem? (i := 1205) (by decide +kernel)⟩
theorem lw_p43 : lw_okq (⟨"MemoryDeskModel", "firstOther", "(II)I"⟩, 16) := ⟨⟨by decide +kernel, by decide +kernel⟩, List.mem_of_getElem? (i := 875) (by decide +kernel), List.mem_of_getElem? (i := 1208) (by decide +kernel), List.mem_of_getElem? (i := 1209) (by decide +kernel)⟩
theorem lw_p44 : lw_okq (⟨"MemoryDeskModel", "paidOf", "(II)I"⟩, 16) := ⟨⟨by decide +kernel, by decide +kernel⟩, List.mem_of_getElem? (i := 875) (by decide +kernel), List.mem_of_getElem? (i := 1216) (by decide +kernel), List.mem_of_getElem? (i := 1217) (by decide +kernel)⟩
theorem lw_p45 : lw_okq (⟨"MemoryDeskModel", "partNow", "(I)I"⟩, 16) := ⟨⟨by decide +kernel, by decide +kernel⟩, List.mem_of_getElem? (i := 875) (by decide +kernel), List.mem_of_getElem? (i := 1220) (by decide +kernel), List.mem_of_getElem? (i := 1221) (by decide +kernel)⟩
theorem lw_p46 : lw_okq (⟨"MemoryDeskModel", "costOf", "(II)I"⟩, 16) := ⟨⟨by decide +kernel, by decide +kernel⟩, List.mem_of_getElem? (i := 875) (by decide +kernel), List.mem_of_getElem? (i := 1228) (by decide +kernel), List.mem_of_getElem? (i := 1229) (by decide +kernel)⟩
theorem lw_p47 : lw_okq (⟨"MemoryDeskModel", "putAside", "()V"⟩, 16) := ⟨⟨by decide +kernel, by decide +kernel⟩, List.mem_of_getElem? (i := 875) (by decide +kernel), List.mem_of_getElem? (i := 1232) (by decide +kernel), List.mem_of_getElem? (i := 1233) (by decide +kernel)⟩
def lw_privs_3 : List (MethodName × Nat) := [(⟨"MemoryDeskModel", "termOf", "(II)I"⟩, 16), (⟨"MemoryDeskModel", "often", "(I)I"⟩, 16), (⟨"MemoryDeskModel", "counted", "(I)I"⟩, 16), (⟨"MemoryDeskModel", "staged", "(I)I"⟩, 16), (⟨"MemoryDeskModel", "wordsAll", "()I"⟩, 16), (⟨"MemoryDeskModel", "ofPeople", "(I)I"⟩, 16), (⟨"MemoryDeskModel", "ofTerms", "(Z)I"⟩, 16), (⟨"MemoryDeskModel", "nearOf", "(III)I"⟩, 16), (⟨"MemoryDeskModel", "commonOf", "(III)I"⟩, 16), (⟨"MemoryDeskModel", "layOther", "(I)V"⟩, 16), (⟨"MemoryDeskModel", "firstOne", "(II)I"⟩, 16), (⟨"MemoryDeskModel", "firstOther", "(II)I"⟩, 16), (⟨"MemoryDeskModel", "paidOf", "(II)I"⟩, 16), (⟨"MemoryDeskModel", "partNow", "(I)I"⟩, 16), (⟨"MemoryDeskModel", "costOf", "(II)I"⟩, 16), (⟨"MemoryDeskModel", "putAside", "()V"⟩, 16)]
theorem lw_r3 : ∀ q ∈ lw_privs_3, lw_okq q := List.forall_mem_cons.mpr ⟨lw_p32, List.forall_mem_cons.mpr ⟨lw_p33, List.forall_mem_cons.mpr ⟨lw_p34, List.forall_mem_cons.mpr ⟨lw_p35, List.forall_mem_cons.mpr ⟨lw_p36, List.forall_mem_cons.mpr ⟨lw_p37, List.forall_mem_cons.mpr ⟨lw_p38, List.forall_mem_cons.mpr ⟨lw_p39, List.forall_mem_cons.mpr ⟨lw_p40, List.forall_mem_cons.mpr ⟨lw_p41, List.forall_mem_cons.mpr ⟨lw_p42, List.forall_mem_cons.mpr ⟨lw_p43, List.forall_mem_cons.mpr ⟨lw_p44, List.forall_mem_cons.mpr ⟨lw_p45, List.forall_mem_cons.mpr ⟨lw_p46, List.forall_mem_cons.mpr ⟨lw_p47, fun _ h => absurd h List.not_mem_nil⟩⟩⟩⟩⟩⟩⟩⟩⟩⟩⟩⟩⟩⟩⟩⟩
theorem lw_p48 : lw_okq (⟨"MemoryDeskModel", "putBack", "()V"⟩, 16) := ⟨⟨by decide +kernel, by decide +kernel⟩, List.mem_of_getElem? (i := 875) (by decide +kernel), List.mem_of_getElem? (i := 1236) (by decide +kernel), List.mem_of_getElem? (i := 1237) (by decide +kernel)⟩
theorem lw_p49 : lw_okq (⟨"MemoryDeskModel", "savedOf", "()I"⟩, 16) := ⟨⟨by decide +kernel, by decide +kernel⟩, List.mem_of_getElem? (i := 875) (by decide +kernel), List.mem_of_getElem? (i := 1244) (by decide +kernel), List.mem_of_getElem? (i := 1245) (by decide +kernel)⟩
theorem lw_p50 : lw_okq (⟨"MemoryDeskModel", "costAll", "()D"⟩, 16) := ⟨⟨by decide +kernel, by decide +kernel⟩, List.mem_of_getElem? (i := 875) (by decide +kernel), List.mem_of_getElem? (i := 1252) (by decide +kernel), List.mem_of_getElem? (i := 1253) (by decide +kernel)⟩
theorem lw_p51 : lw_okq (⟨"MemoryDeskModel", "mix", "(J)V"⟩, 16) := ⟨⟨by decide +kernel, by decide +kernel⟩, List.mem_of_getElem? (i := 875) (by decide +kernel), List.mem_of_getElem? (i := 1261) (by decide +kernel), List.mem_of_getElem? (i := 1262) (by decide +kernel)⟩
theorem lw_p52 : lw_okq (⟨"MemoryDeskModel", "mixSegment", "(I)V"⟩, 16) := ⟨⟨by decide +kernel, by decide +kernel⟩, List.mem_of_getElem? (i := 875) (by decide +kernel), List.mem_of_getElem? (i := 1266) (by decide +kernel), List.mem_of_getElem? (i := 1267) (by decide +kernel)⟩
theorem lw_p53 : lw_okq (⟨"MemoryDeskModel", "mixRow", "(I)V"⟩, 16) := ⟨⟨by decide +kernel, by decide +kernel⟩, List.mem_of_getElem? (i := 875) (by decide +kernel), List.mem_of_getElem? (i := 1270) (by decide +kernel), List.mem_of_getElem? (i := 1271) (by decide +kernel)⟩
def lw_privs_4 : List (MethodName × Nat) := [(⟨"MemoryDeskModel", "putBack", "()V"⟩, 16), (⟨"MemoryDeskModel", "savedOf", "()I"⟩, 16), (⟨"MemoryDeskModel", "costAll", "()D"⟩, 16), (⟨"MemoryDeskModel", "mix", "(J)V"⟩, 16), (⟨"MemoryDeskModel", "mixSegment", "(I)V"⟩, 16), (⟨"MemoryDeskModel", "mixRow", "(I)V"⟩, 16)]
theorem lw_r4 : ∀ q ∈ lw_privs_4, lw_okq q := List.forall_mem_cons.mpr ⟨lw_p48, List.forall_mem_cons.mpr ⟨lw_p49, List.forall_mem_cons.mpr ⟨lw_p50, List.forall_mem_cons.mpr ⟨lw_p51, List.forall_mem_cons.mpr ⟨lw_p52, List.forall_mem_cons.mpr ⟨lw_p53, fun _ h => absurd h List.not_mem_nil⟩⟩⟩⟩⟩⟩
def lw_privs : List (MethodName × Nat) := lw_privs_1 ++ (lw_privs_2 ++ (lw_privs_3 ++ (lw_privs_4)))
def lw_tbl : List Cond := k2_sels lw_privs ++ tables_1
theorem lw_privs_ok : ∀ q ∈ lw_privs, lw_okq q := by
  show ∀ q ∈ lw_privs_1 ++ (lw_privs_2 ++ (lw_privs_3 ++ (lw_privs_4))), lw_okq q
  exact List.forall_mem_append.mpr ⟨lw_r1, List.forall_mem_append.mpr ⟨lw_r2, List.forall_mem_append.mpr ⟨lw_r3, lw_r4⟩⟩⟩
/-- the streams that the claim lets the run draw from -/
abbrev lw_cs : List Choice := [Jvm.Choice.named "NaN.bits"]
theorem lw_bits : nanBits ∈ lw_cs := by first | decide | exact List.mem_cons_self | simp [lw_cs, nanBits]

/-! ===== BEGIN words of one list among another's, by their places ===== -/
theorem goodIn_r {big : List Cond} (ws : List Cond) (ps : List Nat) (hp : ws = ps.filterMap (fun i => big[i]?)) (h : ws.all goodWord = true) : GoodIn big ws := by
  intro w hw
  have h1 := List.all_eq_true.mp h w hw
  rw [hp] at hw
  obtain ⟨i, -, hi⟩ := List.mem_filterMap.mp hw
  have hm : w ∈ big := by first | exact List.mem_of_getElem? hi | exact List.getElem?_mem hi
  exact ⟨hm, good_of_word h1⟩
theorem goodIn_app {big a b : List Cond} (ha : GoodIn big a) (hb : GoodIn big b) : GoodIn big (a ++ b) := fun w h => (List.mem_append.mp h).elim (ha w) (hb w)
theorem goodIn_ca {big a b : List Cond} {c : Cond} (ha : GoodIn big (c :: a)) (hb : GoodIn big b) : GoodIn big (c :: (a ++ b)) := fun w h => (List.mem_cons.mp h).elim (fun e => ha w (List.mem_cons.mpr (Or.inl e))) (fun h => (List.mem_append.mp h).elim (fun h => ha w (List.mem_cons.mpr (Or.inr h))) (hb w))
theorem goodIn_sub {big ws : List Cond} (hm : ∀ w ∈ ws, w ∈ big) (h : ws.all goodWord = true) : GoodIn big ws := fun w hw => ⟨hm w hw, good_of_word (List.all_eq_true.mp h w hw)⟩
/-! ===== END ===== -/

/-! ===== BEGIN exceptions that leave a method, and their catching by the caller (launches without stack traces) ===== -/
section VXA
/-! The laws vx_back, vx_callV, vx_callS, vx_callSW, vx_throw0, vx_throwS follow proofs of the library, with one case more: JvmDerived/Free/Laws.lean (Back.of_free), Shelf42/LK1.lean (callV, callS), Shelf/KitTraced.lean (throwNew0V, throwNewS). -/
/-- where a method has thrown q: the class by its name, the cell, what was written, the world -/
def vx_T (XC : String → State → State → Prop) (st : State) (q : Addr) (t : State) (mc ms : Nat) (free : Addr → Prop) : Prop :=
  ∃ (E : String) (ce : Cell) (L : List Loc), XC E st t ∧ t.heap[q]? = some ce ∧ ce.vm = .none ∧ st.vm.findClass E = some ce.cls ∧ st.WarmedH t.vm ∧ st.sameButNew ({ t with vm := st.vm } : State) L mc ms ∧ ∀ z ∈ L, free z.base
def vx_Q (Qc : Array Value → State → Outcome → State → Prop) (XC : String → State → State → Prop) (mc ms : Nat) (free : Addr → Prop) : Array Value → State → Outcome → State → Prop := fun a st o t =>
  (Qc a st o t ∧ ∃ L, FrameEnd st o t L mc ms ∧ ∀ q ∈ L, free q.base) ∨ ∃ q, o = .threw q ∧ vx_T XC st q t mc ms free
/-- a callee that returns or throws -/
def vx_Met (l : Launch) (y : MethodName) (ws : List Cond) (rm : Room) (Pc : Array Value → State → Prop) (Qc : Array Value → State → Outcome → State → Prop) (XC : String → State → State → Prop) (mc ms : Nat) (free : Addr → Prop) : Prop :=
  MetFree l y (headSpec ws rm) Pc (fun _ _ _ _ _ => True) (vx_Q Qc XC mc ms free)
def vx_Post (XC : String → State → State → Prop) (mc ms : Nat) (free : Addr → Prop) : Pt → Array Value → Addr → Pt → Prop := fun A a q B =>
  ∃ (g : JFrame) (mk : MethodId) (t : State) (L : List Loc) (E : String) (ce : Cell), B.U.heap = t.heap ∧ B.U.vm = t.vm ∧ XC E (A.U.calling g mk a) t ∧ t.heap[q]? = some ce ∧ ce.vm = .none ∧ A.U.vm.findClass E = some ce.cls ∧ B.locs = A.locs ++ L ∧ (∀ z ∈ L, free z.base) ∧ B.cells = A.cells + mc ∧ B.slots = A.slots + ms
def vx_Back (l : Launch) (R : Room) (p : Program) (e : Env) (below : List Frame) (s : State) (sargs : Array Value) (y : MethodName) (len W9 : Nat)
    (Pre : Pt → Array Value → Prop) (Post : Pt → Array Value → Option Value → Pt → Prop) (PostX : Pt → Array Value → Addr → Pt → Prop) : Prop :=
  ∀ (m : MethodId) (meth : Method) (c : Code) (A : Pt) (g : JFrame) (ig : Instr) (mk : MethodId) (a : Array Value),
    Stand p l e R s m sargs below meth c A.U A.locs A.cells A.slots → g.method = m → g.locals.size = c.maxLocals → decode c.code g.pc = .ok (ig, len) →
    2 * g.monitorRoom + (g.stack.map fun v => v.category).sum ≤ W9 → A.U.methodNamed? y = some mk → Pre A a →
    (∃ (v : Option Value) (B : Pt), Stand p l e R s m sargs below meth c B.U B.locs B.cells B.slots ∧ Post A a v B ∧
      Steps p.tables e below (doInvoke e (A.U.setTop g) [] mk a).1 (B.U.setTop { g with pc := g.pc + len, stack := v.toList ++ g.stack })) ∨
    (∃ (q : Addr) (B : Pt), Stand p l e R s m sargs below meth c B.U B.locs B.cells B.slots ∧ PostX A a q B ∧
      Steps p.tables e below (doInvoke e (A.U.setTop g) [] mk a).1 ((B.U.setTop g).pushFrame (.throwing q)))
section Payer
variable {l : Launch} {R : Room} {p : Program} {e : Env} {below : List Frame} {s : State} {sargs : Array Value} {y : MethodName} {len W9 : Nat}
theorem vx_back {ws : List Cond} {rm : Room} {Pc : Array Value → State → Prop} {Qc : Array Value → State → Outcome → State → Prop} {XC : String → State → State → Prop} {mc ms : Nat} {free : Addr → Prop} {bytes : ByteArray} {maxL : Nat} {ret : Option FieldType}
    (hM : vx_Met l y ws rm Pc Qc XC mc ms free) (hblind : FrameBlind Pc) (hrc : rm.cells = mc) (hrs : rm.slots = ms)
    (hframes : rm.frames + 1 ≤ R.frames) (hlocals : W9 + (maxL + 11) + rm.locals ≤ R.locals)
    (hws : ∀ w ∈ ws, ∀ a' U, s.WarmedH U.vm → w.before a' U = true) (hcode : Cond.code y bytes maxL ret ∈ ws) (hinit : ∀ a' U, s.WarmedH U.vm → (Cond.initialized y.cls).before a' U = true) :
    vx_Back l R p e below s sargs y len W9 (PreOf R mc ms Pc) (PostOf Qc mc ms free) (vx_Post XC mc ms free) := by
  intro m meth c A g ig mk a X hg hsize hdg hW hn hp
  have h1 : (headSpec ws rm).pre.before a A.U = true := atoms_intro fun w hw => hws w hw _ _ X.warmed
  have h2 : (Cond.code y bytes maxL ret).before a A.U = true := hws _ hcode _ _ X.warmed
  have h3 : (Cond.initialized y.cls).before a A.U = true := hinit _ _ X.warmed
  have h4 : A.cells + (headSpec ws rm).room.cells ≤ R.cells := by rw [show (headSpec ws rm).room.cells = mc from hrc]; exact hp.1
  have h5 : A.slots + (headSpec ws rm).room.slots ≤ R.slots := by rw [show (headSpec ws rm).room.slots = ms from hrs]; exact hp.2.1
  have hPc : Pc a (A.U.calling g mk a) := hblind _ _ _ _ hp.2.2
  obtain ⟨U, Ls, c0, s0⟩ := A
  dsimp only [Pt.U, Pt.locs, Pt.cells, Pt.slots] at h1 h2 h3 h4 h5 X hn hPc ⊢
  obtain ⟨methY, cY, hmY, hcY, -, hlY, -, -, -, -⟩ := Cond.code_spec hn h2
  obtain ⟨kY, hkY, -⟩ := className_of_methodNamed hn
  have hinitY : kY.init = .initialized := Cond.initialized_spec (findClass_of_methodNamed hn) hkY h3
  have h : At U g.method c below := by rw [hg]; exact X.here
  have hlocals9 : W9 + (maxL + 11) + (headSpec ws rm).room.locals ≤ R.locals := hlocals
  have happ : (headSpec ws rm).appliesLoose y e.platform (U.calling g mk a) = true :=
    Spec.appliesLoose_calling (g := g) h hdg hn hkY hinitY
      (X.room_calling (g := g) (R' := (headSpec ws rm).room) hsize hmY hcY hframes (by rw [hlY]; omega) h4 h5) h1
  obtain ⟨mid, hmid⟩ := h.above
  have hfr : (U.setTop g).frames = (.java g :: mid) ++ below := by rw [State.frames_setTop' g h.top, hmid]; rfl
  obtain ⟨o, s₂, hsteps, -, hend, hq⟩ := Steps.callFree hM p X.admits X.cas X.clock (acts := []) hfr happ hPc trivial
  have hq' : vx_Q Qc XC mc ms free a (U.calling g mk a) o s₂ := hq
  rw [State.frames_setTop' g h.top] at hend
  obtain ⟨g₀, hg0⟩ := Option.isSome_iff_exists.mp h.top
  obtain ⟨r, hr⟩ := State.topJava?_eq_some.mp hg0
  have hr' : (({ U with heap := s₂.heap, slotsUsed := s₂.slotsUsed } : State).setVm s₂.vm).frames = .java g₀ :: r := hr
  rcases hq' with ⟨hqc, L, hfe, hL⟩ | ⟨q, rfl, E, ce, L, hx, hce, hcv, hcl, hW₂, hsm, hL⟩
  · obtain ⟨⟨v, rfl⟩, hW₂, e2, q2, q3, q4, q5, q6⟩ := id hfe
    have e3 : s₂ = ({ (U.calling g mk a).setFrames s₂.frames with heap := s₂.heap, slotsUsed := s₂.slotsUsed } : State).setVm s₂.vm := by
      have : s₂ = ({ s₂ with vm := (U.calling g mk a).vm } : State).setVm s₂.vm := rfl
      rw [e2] at this
      exact this
    obtain ⟨c₂, i₂, len₂, hc₂, hd₂, hf₂⟩ := hend
    have hW' : U.WarmedH s₂.vm := hW₂
    have hcc : c₂ = c := by
      have h1 : s₂.code? g.method = U.code? g.method := by
        rw [State.code?_eq, State.code?_eq, hW'.alike.method?]
      exact Option.some.inj (hc₂.symm.trans (h1.trans h.code))
    subst hcc
    have hlen : len₂ = len := by rw [hdg] at hd₂; cases hd₂; rfl
    subst hlen
    have hs₂ : s₂ = (({ U with heap := s₂.heap, slotsUsed := s₂.slotsUsed } : State).setVm s₂.vm).setTop { g with pc := g.pc + len₂, stack := v.toList ++ g.stack } := by
      refine e3.trans ?_
      rw [hf₂, State.calling_eq h.top, State.setFrames_setFrames, State.setTop_of_frames _ hr', hr]
      rfl
    have hsame : U.sameButNew ({ U with heap := s₂.heap, slotsUsed := s₂.slotsUsed } : State) L mc ms := by
      refine ⟨?_, q2, q3, q4, q5, q6⟩
      obtain ⟨t, ht, -⟩ := State.frames_cons hr
      show ({ U with heap := s₂.heap, slotsUsed := s₂.slotsUsed } : State) = { U.setFrames U.frames with heap := s₂.heap, slotsUsed := s₂.slotsUsed }
      rw [State.setFrames_self ht]
    subst hg
    refine Or.inl ⟨v, ⟨(({ U with heap := s₂.heap, slotsUsed := s₂.slotsUsed } : State).setVm s₂.vm), Ls ++ L, c0 + mc, s0 + ms⟩,
      ⟨X.admits, X.cas, X.clock, X.frames, X.room, X.hears, X.method, X.code, (X.here.setHeapUsed s₂.heap s₂.slotsUsed).setVm hW'.alike, X.tail, State.WarmedH.trans X.warmed hW', X.limits, X.bytes, X.same.trans (hsame.setVm s.vm)⟩,
      ⟨g, mk, s₂, L, rfl, rfl, hqc, rfl, hL, rfl, rfl⟩, ?_⟩
    show Steps p.tables e below _ ((({ U with heap := s₂.heap, slotsUsed := s₂.slotsUsed } : State).setVm s₂.vm).setTop { g with pc := g.pc + len₂, stack := v.toList ++ g.stack })
    rw [← hs₂]
    exact hsteps
  · obtain ⟨e2, q2, q3, q4, q5, q6⟩ := id hsm
    have e3 : s₂ = ({ (U.calling g mk a).setFrames s₂.frames with heap := s₂.heap, slotsUsed := s₂.slotsUsed } : State).setVm s₂.vm := by
      have : s₂ = ({ s₂ with vm := (U.calling g mk a).vm } : State).setVm s₂.vm := rfl
      rw [e2] at this
      exact this
    have hf₂ : s₂.frames = .throwing q :: .java g :: U.frames.tail := hend
    have hW' : U.WarmedH s₂.vm := hW₂
    have hs₂ : s₂ = ((({ U with heap := s₂.heap, slotsUsed := s₂.slotsUsed } : State).setVm s₂.vm).setTop g).pushFrame (.throwing q) := by
      refine e3.trans ?_
      rw [hf₂, State.calling_eq h.top, State.setFrames_setFrames, State.pushFrame, State.frames_setTop _ hr', State.setTop_of_frames _ hr', State.setFrames_setFrames, hr]
      rfl
    have hsame : U.sameButNew ({ U with heap := s₂.heap, slotsUsed := s₂.slotsUsed } : State) L mc ms := by
      refine ⟨?_, q2, q3, q4, q5, q6⟩
      obtain ⟨t, ht, -⟩ := State.frames_cons hr
      show ({ U with heap := s₂.heap, slotsUsed := s₂.slotsUsed } : State) = { U.setFrames U.frames with heap := s₂.heap, slotsUsed := s₂.slotsUsed }
      rw [State.setFrames_self ht]
    subst hg
    refine Or.inr ⟨q, ⟨(({ U with heap := s₂.heap, slotsUsed := s₂.slotsUsed } : State).setVm s₂.vm), Ls ++ L, c0 + mc, s0 + ms⟩,
      ⟨X.admits, X.cas, X.clock, X.frames, X.room, X.hears, X.method, X.code, (X.here.setHeapUsed s₂.heap s₂.slotsUsed).setVm hW'.alike, X.tail, State.WarmedH.trans X.warmed hW', X.limits, X.bytes, X.same.trans (hsame.setVm s.vm)⟩,
      ⟨g, mk, s₂, L, E, ce, rfl, rfl, hx, hce, hcv, hcl, rfl, hL, rfl, rfl⟩, ?_⟩
    show Steps p.tables e below _ (((({ U with heap := s₂.heap, slotsUsed := s₂.slotsUsed } : State).setVm s₂.vm).setTop g).pushFrame (.throwing q))
    rw [← hs₂]
    exact hsteps
end Payer
section Calls
variable {p : Program} {l : Launch} {e : Env} {R : Room} {s : State} {m : MethodId} {args : Array Value} {below : List Frame} {meth : Method} {c : Code} {T : State} {locs : List Loc} {cells slots : Nat}
theorem vx_callV (X : Stand p l e R s m args below meth c T locs cells slots) (hexec : p.tables.exec = Jvm.exec) {own C : String} {index : Nat} {y : MethodName} {bytes : ByteArray} {maxL : Nat} {ret : Option FieldType}
    (hown : s.vm.findClass own = some m.cls) (hlink : (Cond.methodLink own index y).before args s = true) (hinst : (Cond.instanceMethod y).before args s = true) (hsel : (Cond.selects C y y).before args s = true)
    (hcode : (Cond.code y bytes maxL ret).before args s = true) (hy : y.cls ≠ "java/lang/invoke/MethodHandle" ∧ y.cls ≠ "java/lang/invoke/VarHandle")
    {W9 : Nat} {Pre : Pt → Array Value → Prop} {Post : Pt → Array Value → Option Value → Pt → Prop} {PostX : Pt → Array Value → Addr → Pt → Prop} (hK : vx_Back l R p e below s args y 3 W9 Pre Post PostX)
    {b : Addr} {cellB : Cell} (hcell : T.heap[b]? = some cellB) (hobj : cellB.vm.isStatics = false) (hcls : s.vm.findClass C = some cellB.cls)
    {g : JFrame} (hg : g.method = m) (hsize : g.locals.size = c.maxLocals) {argsL rest : List Value} (hlen : ∀ sig, parseMethodDescriptor y.desc = some sig → argsL.length = sig.parameters.length)
    (hstack : g.stack = argsL.reverse ++ .ref b :: rest) (hW : 2 * g.monitorRoom + (rest.map fun v => v.category).sum ≤ W9) (hdg : decode c.code g.pc = .ok (.invokevirtual index, 3))
    (hpre : ∀ vm₁, s.WarmedH vm₁ → Pre ⟨T.setVm vm₁, locs, cells, slots⟩ (Value.ref b :: argsL).toArray) :
    (∃ (v : Option Value) (vm₁ : Vm) (B : Pt), s.WarmedH vm₁ ∧ Stand p l e R s m args below meth c B.U B.locs B.cells B.slots ∧ Post ⟨T.setVm vm₁, locs, cells, slots⟩ (Value.ref b :: argsL).toArray v B ∧
      ∀ target, Steps p.tables e below (B.U.setTop { g with pc := g.pc + 3, stack := v.toList ++ rest }) target → Steps p.tables e below (T.setTop g) target) ∨
    (∃ (q : Addr) (vm₁ : Vm) (B : Pt), s.WarmedH vm₁ ∧ Stand p l e R s m args below meth c B.U B.locs B.cells B.slots ∧ PostX ⟨T.setVm vm₁, locs, cells, slots⟩ (Value.ref b :: argsL).toArray q B ∧
      Steps p.tables e below (T.setTop g) ((B.U.setTop { g with stack := rest }).pushFrame (.throwing q))) := by
  obtain ⟨mk, methM, hnamed, hmethM, hstM, habM⟩ := Cond.instanceMethod_spec hinst
  obtain ⟨methM', cM, hmethM', -, -, -, -, -, -, hsigM⟩ := Cond.code_spec hnamed hcode
  cases hmethM.symm.trans hmethM'
  obtain ⟨c2, r2, m2, q1, q2, q3, q4, kP, hkP, hkPi⟩ := Cond.selects_spec hsel
  cases hcls.symm.trans q1
  cases (State.methodFound?_of_named hnamed hy).symm.trans q2
  cases hnamed.symm.trans q3
  have hselP : selectMethod e.platform s.vm cellB.cls mk = .method mk := by rw [Launch.admits_selectMethod X.admits]; exact q4
  obtain ⟨vm₁, X₁, hstep₁⟩ := X.invokevirtual hexec hown hlink hnamed hmethM hstM hkP hkPi hy (a := b) (cell := cellB) hcell
    (fun z h => by rw [h] at hobj; cases hobj) hselP hmethM habM hkP hkPi (g := g) hg (argsL := argsL) (rest := rest) (hlen _ hsigM) hstack hdg
  rcases hK m meth c ⟨T.setVm vm₁, locs, cells, slots⟩ { g with stack := rest } (.invokevirtual index) mk (Value.ref b :: argsL).toArray X₁ hg hsize hdg hW (X₁.named hnamed) (hpre vm₁ X₁.warmed) with ⟨v, B, X', hpost, hsteps⟩ | ⟨q, B, X', hpost, hsteps⟩
  · exact Or.inl ⟨v, vm₁, B, X₁.warmed, X', hpost, fun target h => hstep₁ _ fun acts => by rw [doInvoke_state]; exact hsteps.trans h⟩
  · exact Or.inr ⟨q, vm₁, B, X₁.warmed, X', hpost, hstep₁ _ fun acts => by rw [doInvoke_state]; exact hsteps⟩
theorem vx_callS (X : Stand p l e R s m args below meth c T locs cells slots) (hexec : p.tables.exec = Jvm.exec) {own : String} {index : Nat} {y : MethodName} {bytes : ByteArray} {maxL : Nat} {ret : Option FieldType}
    (hown : s.vm.findClass own = some m.cls) (hlink : (Cond.methodLink own index y).before args s = true) (hstat : (Cond.static y).before args s = true) (hinit : (Cond.initialized y.cls).before args s = true)
    (hcode : (Cond.code y bytes maxL ret).before args s = true) (hy : y.cls ≠ "java/lang/invoke/MethodHandle" ∧ y.cls ≠ "java/lang/invoke/VarHandle")
    {W9 : Nat} {Pre : Pt → Array Value → Prop} {Post : Pt → Array Value → Option Value → Pt → Prop} {PostX : Pt → Array Value → Addr → Pt → Prop} (hK : vx_Back l R p e below s args y 3 W9 Pre Post PostX)
    {g : JFrame} (hg : g.method = m) (hsize : g.locals.size = c.maxLocals) {argsL rest : List Value} (hlen : ∀ sig, parseMethodDescriptor y.desc = some sig → argsL.length = sig.parameters.length)
    (hstack : g.stack = argsL.reverse ++ rest) (hW : 2 * g.monitorRoom + (rest.map fun v => v.category).sum ≤ W9) (hdg : decode c.code g.pc = .ok (.invokestatic index, 3))
    (hpre : ∀ vm₁, s.WarmedH vm₁ → Pre ⟨T.setVm vm₁, locs, cells, slots⟩ argsL.toArray) :
    (∃ (v : Option Value) (vm₁ : Vm) (B : Pt), s.WarmedH vm₁ ∧ Stand p l e R s m args below meth c B.U B.locs B.cells B.slots ∧ Post ⟨T.setVm vm₁, locs, cells, slots⟩ argsL.toArray v B ∧
      ∀ target, Steps p.tables e below (B.U.setTop { g with pc := g.pc + 3, stack := v.toList ++ rest }) target → Steps p.tables e below (T.setTop g) target) ∨
    (∃ (q : Addr) (vm₁ : Vm) (B : Pt), s.WarmedH vm₁ ∧ Stand p l e R s m args below meth c B.U B.locs B.cells B.slots ∧ PostX ⟨T.setVm vm₁, locs, cells, slots⟩ argsL.toArray q B ∧
      Steps p.tables e below (T.setTop g) ((B.U.setTop { g with stack := rest }).pushFrame (.throwing q))) := by
  obtain ⟨mk, hnamed⟩ := Cond.code_named hcode
  obtain ⟨methM, cM, hmethM, -, -, -, -, -, -, hsigM⟩ := Cond.code_spec hnamed hcode
  have hstatic : methM.isStatic = true := Cond.static_spec hnamed hmethM hstat
  obtain ⟨kP, hkP, -⟩ := className_of_methodNamed hnamed
  have hinitP : kP.init = .initialized := Cond.initialized_spec (findClass_of_methodNamed hnamed) hkP hinit
  obtain ⟨vm₁, X₁, hstep₁⟩ := X.invokestatic hexec hown hlink hnamed hmethM hstatic hkP hinitP hy (g := g) hg (argsL := argsL) (rest := rest) (hlen _ hsigM) hstack hdg
  rcases hK m meth c ⟨T.setVm vm₁, locs, cells, slots⟩ { g with stack := rest } (.invokestatic index) mk argsL.toArray X₁ hg hsize hdg hW (X₁.named hnamed) (hpre vm₁ X₁.warmed) with ⟨v, B, X', hpost, hsteps⟩ | ⟨q, B, X', hpost, hsteps⟩
  · exact Or.inl ⟨v, vm₁, B, X₁.warmed, X', hpost, fun target h => hstep₁ _ fun acts => by rw [doInvoke_state]; exact hsteps.trans h⟩
  · exact Or.inr ⟨q, vm₁, B, X₁.warmed, X', hpost, hstep₁ _ fun acts => by rw [doInvoke_state]; exact hsteps⟩
end Calls
theorem vx_cls {s : State} {T : State} {vm₁ : Vm} {E : String} {k : ClassId} (hW : s.WarmedH vm₁) (h : (T.setVm vm₁).vm.findClass E = some k) : s.vm.findClass E = some k := by
  have h1 : vm₁.findClass E = some k := h
  rw [hW.alike.findClass] at h1
  exact h1
/-- the method's frame g, with q thrown over it -/
def vx_W (p : Program) (l : Launch) (e : Env) (R : Room) (s : State) (m : MethodId) (args : Array Value) (below : List Frame) (meth : Method) (c : Code) (H : Heap) (locs : List Loc) (cells slots : Nat) (Q : State → Prop) (g : JFrame) (q : Addr) : Prop :=
  ∀ T : State, T.heap = H → Stand p l e R s m args below meth c T locs cells slots → ∃ t, Steps p.tables e below ((T.setTop g).pushFrame (.throwing q)) t ∧ Q t
def vx_Run (p : Program) (l : Launch) (e : Env) (R : Room) (s : State) (m : MethodId) (args : Array Value) (below : List Frame) (meth : Method) (c : Code) (H : Heap) (locs : List Loc) (cells slots mc ms : Nat) (g : JFrame) (rest : List Value) (Qa : State → Outcome → State → Prop) (XC : String → State → State → Prop) (free : Addr → Prop) : Prop :=
  ∀ T : State, T.heap = H → Stand p l e R s m args below meth c T locs cells slots →
    (∃ (v : Option Value) (st₀ t T' : State) (L : List Loc), st₀.heap = H ∧ Stand p l e R s m args below meth c T' (locs ++ L) (cells + mc) (slots + ms) ∧ (∀ q ∈ L, free q.base) ∧ T'.heap = t.heap ∧ T'.vm = t.vm ∧ Qa st₀ (.returned v) t ∧
      Goes p e below T g T' { g with pc := g.pc + 3, stack := v.toList ++ rest }) ∨
    (∃ (q : Addr) (st₀ t T' : State) (L : List Loc) (E : String) (ce : Cell), st₀.heap = H ∧ Stand p l e R s m args below meth c T' (locs ++ L) (cells + mc) (slots + ms) ∧ (∀ z ∈ L, free z.base) ∧ T'.heap = t.heap ∧ T'.vm = t.vm ∧ XC E st₀ t ∧ t.heap[q]? = some ce ∧ ce.vm = .none ∧ s.vm.findClass E = some ce.cls ∧
      Steps p.tables e below (T.setTop g) ((T'.setTop { g with stack := rest }).pushFrame (.throwing q)))
def vx_X {S : Type} (px : S → Prop) (B : String → S → State → Prop) (A : Nat → Prop) : String → State → State → Prop := fun E st t => ∃ u : S, px u ∧ B E u t ∧ va_F A st t
section Runs
variable {p : Program} {l : Launch} {e : Env} {R : Room} {s : State} {m : MethodId} {args : Array Value} {below : List Frame} {meth : Method} {c : Code} {H : Heap} {locs : List Loc} {cells slots : Nat}
variable {y : MethodName} {bytes cc : ByteArray} {maxL nL mc ms n index : Nat} {ret : Option FieldType} {ws : List Cond} {rm : Room} {Pc : Array Value → State → Prop} {Qc : Array Value → State → Outcome → State → Prop} {XC : String → State → State → Prop} {free : Addr → Prop} {Ts : List Cond} {own C : String} {b : Addr} {As rest : List Value} {g : JFrame}
theorem vx_callBack (cb : CallB R s args own index y bytes maxL ret ws rm mc ms n) (hM : vx_Met l y ws rm Pc Qc XC mc ms free) (hbl : FrameBlind Pc) : vx_Back l R p e below s args y 3 8 (PreOf R mc ms Pc) (PostOf Qc mc ms free) (vx_Post XC mc ms free) := by
  obtain ⟨hrc, hrs, hfr, hlo, hws, hcw, -, hini, -⟩ := cb
  exact vx_back (bytes := bytes) (maxL := maxL) (ret := ret) hM hbl hrc hrs hfr hlo hws hcw (fun a' U hW => word_at hW (Or.inl (by first | rfl | simp [Cond.onTables, Cond.keeps, Cond.steady])) hini)
theorem vx_runV (S : CallFix p m c cc nL s args Ts own) (hM : vx_Met l y ws rm Pc Qc XC mc ms free) (cw : CallW R s args own C index y bytes maxL ret ws rm mc ms n) (hp : PreV s H C b Pc As)
    (hg : g.method = m) (hn : As.length = n) (hsize : g.locals.size = nL) (hstack : g.stack = As.reverse ++ .ref b :: rest) (hW : 2 * g.monitorRoom + (rest.map fun v => v.category).sum ≤ 8) (hdg : decode cc g.pc = .ok (.invokevirtual index, 3)) (hf : cells + mc ≤ R.cells ∧ slots + ms ≤ R.slots) :
    vx_Run p l e R s m args below meth c H locs cells slots mc ms g rest (Qc (Value.ref b :: As).toArray) XC free := by
  have hK : vx_Back l R p e below s args y 3 8 (PreOf R mc ms Pc) (PostOf Qc mc ms free) (vx_Post XC mc ms free) := vx_callBack cw.1 hM hp.1
  obtain ⟨⟨-, -, -, -, -, -, hcode, -, hy, hlen, hl⟩, hin, hse⟩ := cw
  obtain ⟨hx, hb, hml, ho, -⟩ := S
  obtain ⟨-, ⟨cellB, hcB, hoB, hclB⟩, hPc⟩ := hp
  intro T hT X
  rcases vx_callV X hx (C := C) (bytes := bytes) (maxL := maxL) (ret := ret) ho hl hin hse hcode hy hK (by rw [hT]; exact hcB) hoB hclB hg (hsize.trans hml.symm) (argsL := As) (rest := rest) (fun sig h => hn.trans (hlen sig h)) hstack hW (by rw [hb]; exact hdg)
    (fun vm₁ hW₁ => ⟨hf.1, hf.2, hPc (T.setVm vm₁) hT hW₁⟩) with ⟨v, vm₁, ⟨U', l2, c2, s2⟩, hW₁, X', ⟨g', mk, t, L, e1, e2, hq, h1, hL, h2, h3⟩, st⟩ | ⟨q, vm₁, ⟨U', l2, c2, s2⟩, hW₁, X', ⟨g', mk, t, L, E, ce, e1, e2, hq, hce, hcv, hcl, h1, hL, h2, h3⟩, st⟩
  · dsimp only [Pt.U, Pt.locs, Pt.cells, Pt.slots] at X' e1 e2 h1 h2 h3 st
    subst h1; subst h2; subst h3
    exact Or.inl ⟨v, (T.setVm vm₁).calling g' mk (Value.ref b :: As).toArray, t, U', L, hT, X', hL, e1, e2, hq, st⟩
  · dsimp only [Pt.U, Pt.locs, Pt.cells, Pt.slots] at X' e1 e2 h1 h2 h3 st hcl
    subst h1; subst h2; subst h3
    exact Or.inr ⟨q, (T.setVm vm₁).calling g' mk (Value.ref b :: As).toArray, t, U', L, E, ce, hT, X', hL, e1, e2, hq, hce, hcv, vx_cls hW₁ hcl, st⟩
theorem vx_runS (S : CallFix p m c cc nL s args Ts own) (hM : vx_Met l y ws rm Pc Qc XC mc ms free) (cw : CallB R s args own index y bytes maxL ret ws rm mc ms n ∧ (Cond.static y).before args s = true) (hp : PreS s H Pc As)
    (hg : g.method = m) (hn : As.length = n) (hsize : g.locals.size = nL) (hstack : g.stack = As.reverse ++ rest) (hW : 2 * g.monitorRoom + (rest.map fun v => v.category).sum ≤ 8) (hdg : decode cc g.pc = .ok (.invokestatic index, 3)) (hf : cells + mc ≤ R.cells ∧ slots + ms ≤ R.slots) :
    vx_Run p l e R s m args below meth c H locs cells slots mc ms g rest (Qc As.toArray) XC free := by
  have hK : vx_Back l R p e below s args y 3 8 (PreOf R mc ms Pc) (PostOf Qc mc ms free) (vx_Post XC mc ms free) := vx_callBack cw.1 hM hp.1
  obtain ⟨⟨-, -, -, -, -, -, hcode, hini, hy, hlen, hl⟩, hstt⟩ := cw
  obtain ⟨hx, hb, hml, ho, -⟩ := S
  intro T hT X
  rcases vx_callS X hx (bytes := bytes) (maxL := maxL) (ret := ret) ho hl hstt hini hcode hy hK hg (hsize.trans hml.symm) (argsL := As) (rest := rest) (fun sig h => hn.trans (hlen sig h)) hstack hW (by rw [hb]; exact hdg)
    (fun vm₁ hW₁ => ⟨hf.1, hf.2, hp.2 (T.setVm vm₁) hT hW₁⟩) with ⟨v, vm₁, ⟨U', l2, c2, s2⟩, hW₁, X', ⟨g', mk, t, L, e1, e2, hq, h1, hL, h2, h3⟩, st⟩ | ⟨q, vm₁, ⟨U', l2, c2, s2⟩, hW₁, X', ⟨g', mk, t, L, E, ce, e1, e2, hq, hce, hcv, hcl, h1, hL, h2, h3⟩, st⟩
  · dsimp only [Pt.U, Pt.locs, Pt.cells, Pt.slots] at X' e1 e2 h1 h2 h3 st
    subst h1; subst h2; subst h3
    exact Or.inl ⟨v, (T.setVm vm₁).calling g' mk As.toArray, t, U', L, hT, X', hL, e1, e2, hq, st⟩
  · dsimp only [Pt.U, Pt.locs, Pt.cells, Pt.slots] at X' e1 e2 h1 h2 h3 st hcl
    subst h1; subst h2; subst h3
    exact Or.inr ⟨q, (T.setVm vm₁).calling g' mk As.toArray, t, U', L, E, ce, hT, X', hL, e1, e2, hq, hce, hcv, vx_cls hW₁ hcl, st⟩
end Runs
section Rows
variable {p : Program} {l : Launch} {e : Env} {R : Room} {s : State} {m : MethodId} {args : Array Value} {below : List Frame} {meth : Method} {c : Code} {H : Heap} {locs : List Loc} {cells slots : Nat} {Q : State → Prop}
variable {mc ms : Nat} {free : Addr → Prop} {A0 A1 : Nat → Prop} {H0 : Heap} {a : Array Value} {pc : Nat} {ls : Array Slot} {st0 rest : List Value}
theorem vx_keep {st₀ t T' : State} {L : List Loc} (h0 : st₀.heap = H) (e1 : T'.heap = t.heap) (hS : va_S A0 H0 H locs) (hA : ∀ q, q < H.size → A1 q → A0 q) (hf : ∀ q, free q → A0 q) (hL : ∀ q ∈ L, free q.base) (hF : va_F A1 st₀ t) :
    H.size ≤ T'.heap.size ∧ (∀ q : Nat, q < H.size → ¬ A1 q → T'.heap[q]? = H[q]?) ∧ va_S A0 H0 T'.heap (locs ++ L) := by
  obtain ⟨hz, hk⟩ := hF
  rw [h0] at hz hk
  exact ⟨by rw [e1]; exact hz, fun q h1 h2 => by rw [e1]; exact hk q h1 h2,
    ⟨Nat.le_trans hS.1 (by rw [e1]; exact hz), fun q h1 h2 => by rw [e1, hk q (Nat.lt_of_lt_of_le h1 hS.1) (fun z => h2 (hA q (Nat.lt_of_lt_of_le h1 hS.1) z))]; exact hS.2.1 q h1 h2, fun q hq => by
      rcases List.mem_append.mp hq with h | h
      · exact hS.2.2 q h
      · exact hf _ (hL q h)⟩⟩
theorem vx_calli {S SX : Type} {post : Int32 → S → Prop} {px : SX → Prop} {B : S → State → Prop} {BX : String → SX → State → Prop} {AX : Nat → Prop} (hr : vx_Run p l e R s m args below meth c H locs cells slots mc ms (F0 m pc ls st0) rest (va_Qi post B A1 a) (vx_X px BX AX) free) (hS : va_S A0 H0 H locs) (hA : ∀ q, q < H.size → A1 q → A0 q) (hf : ∀ q, free q → A0 q) (hAX : ∀ q, q < H.size → AX q → A0 q)
    (kx : ∀ (E : String) (ce : Cell) (q9 : Addr) (u : SX) (t : State) (H1 : Heap) (locs1 : List Loc), t.heap = H1 → s.vm.Alike t.vm → px u → BX E u t → H.size ≤ H1.size → (∀ q : Nat, q < H.size → ¬ AX q → H1[q]? = H[q]?) → va_S A0 H0 H1 locs1 → H1[q9]? = some ce → ce.vm = .none → s.vm.findClass E = some ce.cls → vx_W p l e R s m args below meth c H1 locs1 (cells + mc) (slots + ms) Q (F0 m pc ls rest) q9)
    (kk : ∀ (r : Int32) (u : S) (t : State) (H1 : Heap) (locs1 : List Loc), t.heap = H1 → s.vm.Alike t.vm → post r u → B u t → H.size ≤ H1.size → (∀ q : Nat, q < H.size → ¬ A1 q → H1[q]? = H[q]?) → va_S A0 H0 H1 locs1 → W p l e R s m args below meth c H1 locs1 (cells + mc) (slots + ms) Q (F0 m (pc + 3) ls (.int r :: rest))) : W p l e R s m args below meth c H locs cells slots Q (F0 m pc ls st0) := by
  intro T hT X
  rcases hr T hT X with ⟨v, st₀, t, T', L, h0, X', hL, e1, e2, ⟨⟨r, u, hv, hp, hb⟩, hF⟩, st⟩ | ⟨q, st₀, t, T', L, E, ce, h0, X', hL, e1, e2, ⟨u, hp, hb, hF⟩, hce, hcv, hcl, st⟩
  · cases hv
    obtain ⟨k1, k2, k3⟩ := vx_keep h0 e1 hS hA hf hL hF
    obtain ⟨t2, a1, b1⟩ := kk r u t T'.heap (locs ++ L) e1.symm (by rw [← e2]; exact X'.warmed.alike) hp hb k1 k2 k3 T' rfl X'
    exact ⟨t2, st t2 a1, b1⟩
  · obtain ⟨k1, k2, k3⟩ := vx_keep h0 e1 hS hAX hf hL hF
    obtain ⟨t2, a1, b1⟩ := kx E ce q u t T'.heap (locs ++ L) e1.symm (by rw [← e2]; exact X'.warmed.alike) hp hb k1 k2 k3 (by rw [e1]; exact hce) hcv hcl T' rfl X'
    exact ⟨t2, st.trans a1, b1⟩
theorem vx_calll {S SX : Type} {post : Int64 → S → Prop} {px : SX → Prop} {B : S → State → Prop} {BX : String → SX → State → Prop} {AX : Nat → Prop} (hr : vx_Run p l e R s m args below meth c H locs cells slots mc ms (F0 m pc ls st0) rest (va_Ql post B A1 a) (vx_X px BX AX) free) (hS : va_S A0 H0 H locs) (hA : ∀ q, q < H.size → A1 q → A0 q) (hf : ∀ q, free q → A0 q) (hAX : ∀ q, q < H.size → AX q → A0 q)
    (kx : ∀ (E : String) (ce : Cell) (q9 : Addr) (u : SX) (t : State) (H1 : Heap) (locs1 : List Loc), t.heap = H1 → s.vm.Alike t.vm → px u → BX E u t → H.size ≤ H1.size → (∀ q : Nat, q < H.size → ¬ AX q → H1[q]? = H[q]?) → va_S A0 H0 H1 locs1 → H1[q9]? = some ce → ce.vm = .none → s.vm.findClass E = some ce.cls → vx_W p l e R s m args below meth c H1 locs1 (cells + mc) (slots + ms) Q (F0 m pc ls rest) q9)
    (kk : ∀ (r : Int64) (u : S) (t : State) (H1 : Heap) (locs1 : List Loc), t.heap = H1 → s.vm.Alike t.vm → post r u → B u t → H.size ≤ H1.size → (∀ q : Nat, q < H.size → ¬ A1 q → H1[q]? = H[q]?) → va_S A0 H0 H1 locs1 → W p l e R s m args below meth c H1 locs1 (cells + mc) (slots + ms) Q (F0 m (pc + 3) ls (.long r :: rest))) : W p l e R s m args below meth c H locs cells slots Q (F0 m pc ls st0) := by
  intro T hT X
  rcases hr T hT X with ⟨v, st₀, t, T', L, h0, X', hL, e1, e2, ⟨⟨r, u, hv, hp, hb⟩, hF⟩, st⟩ | ⟨q, st₀, t, T', L, E, ce, h0, X', hL, e1, e2, ⟨u, hp, hb, hF⟩, hce, hcv, hcl, st⟩
  · cases hv
    obtain ⟨k1, k2, k3⟩ := vx_keep h0 e1 hS hA hf hL hF
    obtain ⟨t2, a1, b1⟩ := kk r u t T'.heap (locs ++ L) e1.symm (by rw [← e2]; exact X'.warmed.alike) hp hb k1 k2 k3 T' rfl X'
    exact ⟨t2, st t2 a1, b1⟩
  · obtain ⟨k1, k2, k3⟩ := vx_keep h0 e1 hS hAX hf hL hF
    obtain ⟨t2, a1, b1⟩ := kx E ce q u t T'.heap (locs ++ L) e1.symm (by rw [← e2]; exact X'.warmed.alike) hp hb k1 k2 k3 (by rw [e1]; exact hce) hcv hcl T' rfl X'
    exact ⟨t2, st.trans a1, b1⟩
theorem vx_callf {S SX : Type} {post : UInt32 → S → Prop} {px : SX → Prop} {B : S → State → Prop} {BX : String → SX → State → Prop} {AX : Nat → Prop} (hr : vx_Run p l e R s m args below meth c H locs cells slots mc ms (F0 m pc ls st0) rest (va_Qf post B A1 a) (vx_X px BX AX) free) (hS : va_S A0 H0 H locs) (hA : ∀ q, q < H.size → A1 q → A0 q) (hf : ∀ q, free q → A0 q) (hAX : ∀ q, q < H.size → AX q → A0 q)
    (kx : ∀ (E : String) (ce : Cell) (q9 : Addr) (u : SX) (t : State) (H1 : Heap) (locs1 : List Loc), t.heap = H1 → s.vm.Alike t.vm → px u → BX E u t → H.size ≤ H1.size → (∀ q : Nat, q < H.size → ¬ AX q → H1[q]? = H[q]?) → va_S A0 H0 H1 locs1 → H1[q9]? = some ce → ce.vm = .none → s.vm.findClass E = some ce.cls → vx_W p l e R s m args below meth c H1 locs1 (cells + mc) (slots + ms) Q (F0 m pc ls rest) q9)
    (kk : ∀ (r : UInt32) (u : S) (t : State) (H1 : Heap) (locs1 : List Loc), t.heap = H1 → s.vm.Alike t.vm → post r u → B u t → H.size ≤ H1.size → (∀ q : Nat, q < H.size → ¬ A1 q → H1[q]? = H[q]?) → va_S A0 H0 H1 locs1 → W p l e R s m args below meth c H1 locs1 (cells + mc) (slots + ms) Q (F0 m (pc + 3) ls (.float r :: rest))) : W p l e R s m args below meth c H locs cells slots Q (F0 m pc ls st0) := by
  intro T hT X
  rcases hr T hT X with ⟨v, st₀, t, T', L, h0, X', hL, e1, e2, ⟨⟨r, u, hv, hp, hb⟩, hF⟩, st⟩ | ⟨q, st₀, t, T', L, E, ce, h0, X', hL, e1, e2, ⟨u, hp, hb, hF⟩, hce, hcv, hcl, st⟩
  · cases hv
    obtain ⟨k1, k2, k3⟩ := vx_keep h0 e1 hS hA hf hL hF
    obtain ⟨t2, a1, b1⟩ := kk r u t T'.heap (locs ++ L) e1.symm (by rw [← e2]; exact X'.warmed.alike) hp hb k1 k2 k3 T' rfl X'
    exact ⟨t2, st t2 a1, b1⟩
  · obtain ⟨k1, k2, k3⟩ := vx_keep h0 e1 hS hAX hf hL hF
    obtain ⟨t2, a1, b1⟩ := kx E ce q u t T'.heap (locs ++ L) e1.symm (by rw [← e2]; exact X'.warmed.alike) hp hb k1 k2 k3 (by rw [e1]; exact hce) hcv hcl T' rfl X'
    exact ⟨t2, st.trans a1, b1⟩
theorem vx_calld {S SX : Type} {post : UInt64 → S → Prop} {px : SX → Prop} {B : S → State → Prop} {BX : String → SX → State → Prop} {AX : Nat → Prop} (hr : vx_Run p l e R s m args below meth c H locs cells slots mc ms (F0 m pc ls st0) rest (va_Qd post B A1 a) (vx_X px BX AX) free) (hS : va_S A0 H0 H locs) (hA : ∀ q, q < H.size → A1 q → A0 q) (hf : ∀ q, free q → A0 q) (hAX : ∀ q, q < H.size → AX q → A0 q)
    (kx : ∀ (E : String) (ce : Cell) (q9 : Addr) (u : SX) (t : State) (H1 : Heap) (locs1 : List Loc), t.heap = H1 → s.vm.Alike t.vm → px u → BX E u t → H.size ≤ H1.size → (∀ q : Nat, q < H.size → ¬ AX q → H1[q]? = H[q]?) → va_S A0 H0 H1 locs1 → H1[q9]? = some ce → ce.vm = .none → s.vm.findClass E = some ce.cls → vx_W p l e R s m args below meth c H1 locs1 (cells + mc) (slots + ms) Q (F0 m pc ls rest) q9)
    (kk : ∀ (r : UInt64) (u : S) (t : State) (H1 : Heap) (locs1 : List Loc), t.heap = H1 → s.vm.Alike t.vm → post r u → B u t → H.size ≤ H1.size → (∀ q : Nat, q < H.size → ¬ A1 q → H1[q]? = H[q]?) → va_S A0 H0 H1 locs1 → W p l e R s m args below meth c H1 locs1 (cells + mc) (slots + ms) Q (F0 m (pc + 3) ls (.double r :: rest))) : W p l e R s m args below meth c H locs cells slots Q (F0 m pc ls st0) := by
  intro T hT X
  rcases hr T hT X with ⟨v, st₀, t, T', L, h0, X', hL, e1, e2, ⟨⟨r, u, hv, hp, hb⟩, hF⟩, st⟩ | ⟨q, st₀, t, T', L, E, ce, h0, X', hL, e1, e2, ⟨u, hp, hb, hF⟩, hce, hcv, hcl, st⟩
  · cases hv
    obtain ⟨k1, k2, k3⟩ := vx_keep h0 e1 hS hA hf hL hF
    obtain ⟨t2, a1, b1⟩ := kk r u t T'.heap (locs ++ L) e1.symm (by rw [← e2]; exact X'.warmed.alike) hp hb k1 k2 k3 T' rfl X'
    exact ⟨t2, st t2 a1, b1⟩
  · obtain ⟨k1, k2, k3⟩ := vx_keep h0 e1 hS hAX hf hL hF
    obtain ⟨t2, a1, b1⟩ := kx E ce q u t T'.heap (locs ++ L) e1.symm (by rw [← e2]; exact X'.warmed.alike) hp hb k1 k2 k3 (by rw [e1]; exact hce) hcv hcl T' rfl X'
    exact ⟨t2, st.trans a1, b1⟩
theorem vx_callv {S SX : Type} {post : S → Prop} {px : SX → Prop} {B : S → State → Prop} {BX : String → SX → State → Prop} {AX : Nat → Prop} (hr : vx_Run p l e R s m args below meth c H locs cells slots mc ms (F0 m pc ls st0) rest (va_Qv post B A1 a) (vx_X px BX AX) free) (hS : va_S A0 H0 H locs) (hA : ∀ q, q < H.size → A1 q → A0 q) (hf : ∀ q, free q → A0 q) (hAX : ∀ q, q < H.size → AX q → A0 q)
    (kx : ∀ (E : String) (ce : Cell) (q9 : Addr) (u : SX) (t : State) (H1 : Heap) (locs1 : List Loc), t.heap = H1 → s.vm.Alike t.vm → px u → BX E u t → H.size ≤ H1.size → (∀ q : Nat, q < H.size → ¬ AX q → H1[q]? = H[q]?) → va_S A0 H0 H1 locs1 → H1[q9]? = some ce → ce.vm = .none → s.vm.findClass E = some ce.cls → vx_W p l e R s m args below meth c H1 locs1 (cells + mc) (slots + ms) Q (F0 m pc ls rest) q9)
    (kk : ∀ (u : S) (t : State) (H1 : Heap) (locs1 : List Loc), t.heap = H1 → s.vm.Alike t.vm → post u → B u t → H.size ≤ H1.size → (∀ q : Nat, q < H.size → ¬ A1 q → H1[q]? = H[q]?) → va_S A0 H0 H1 locs1 → W p l e R s m args below meth c H1 locs1 (cells + mc) (slots + ms) Q (F0 m (pc + 3) ls (rest))) : W p l e R s m args below meth c H locs cells slots Q (F0 m pc ls st0) := by
  intro T hT X
  rcases hr T hT X with ⟨v, st₀, t, T', L, h0, X', hL, e1, e2, ⟨⟨u, hv, hp, hb⟩, hF⟩, st⟩ | ⟨q, st₀, t, T', L, E, ce, h0, X', hL, e1, e2, ⟨u, hp, hb, hF⟩, hce, hcv, hcl, st⟩
  · cases hv
    obtain ⟨k1, k2, k3⟩ := vx_keep h0 e1 hS hA hf hL hF
    obtain ⟨t2, a1, b1⟩ := kk u t T'.heap (locs ++ L) e1.symm (by rw [← e2]; exact X'.warmed.alike) hp hb k1 k2 k3 T' rfl X'
    exact ⟨t2, st t2 a1, b1⟩
  · obtain ⟨k1, k2, k3⟩ := vx_keep h0 e1 hS hAX hf hL hF
    obtain ⟨t2, a1, b1⟩ := kx E ce q u t T'.heap (locs ++ L) e1.symm (by rw [← e2]; exact X'.warmed.alike) hp hb k1 k2 k3 (by rw [e1]; exact hce) hcv hcl T' rfl X'
    exact ⟨t2, st.trans a1, b1⟩
/-- caught by the row x of this method's table; the rows ahead don't take it -/
theorem vx_catch {own name : String} {E : String} {ce : Cell} {q : Addr} (hown : s.vm.findClass own = some m.cls) (pre : List ExceptionTableEntry) (x : ExceptionTableEntry) (suf : List ExceptionTableEntry) (hsplit : c.exceptionTable.toList = pre ++ x :: suf)
    (hpass : ∀ z ∈ pre, covers z pc = false ∨ (z.catchType ≠ 0 ∧ ∃ nm : String, (Cond.classLink own z.catchType nm).before args s = true ∧ va_Nc E nm s)) (hx : covers x pc = true) (h0 : x.catchType ≠ 0)
    (hlink : (Cond.classLink own x.catchType name).before args s = true) (hcast : (Cond.castable E name).before args s = true) (hcell : H[q]? = some ce) (hv : ce.vm = .none) (hcl : s.vm.findClass E = some ce.cls)
    (kk : W p l e R s m args below meth c H locs cells slots Q (F0 m x.handlerPc ls [.ref q])) : vx_W p l e R s m args below meth c H locs cells slots Q (F0 m pc ls rest) q := by
  intro T hT X
  have hpl : e.platform.magicAccessors = ({} : Platform).magicAccessors := by rw [X.admits.platform]
  obtain ⟨c3, c4, hc3, hc4, hasg⟩ := Cond.castable_spec hcast
  cases Option.some.inj (hc3.symm.trans hcl)
  obtain ⟨c5, hc5, hcl5⟩ := Cond.classLink_spec hown hlink e.platform hpl
  cases Option.some.inj (hc4.symm.trans hc5)
  obtain ⟨vm', X', st⟩ := X.thenCaughtThrough q (g := F0 m pc ls rest) rfl (Steps.refl _) (by rw [hT]; exact hcell) (by rw [hv]; rfl) (by obtain ⟨k9, h9, -⟩ := Vm.findClass_spec hcl; exact ⟨k9, h9⟩) pre x suf hsplit
    (fun z hz => by
      rcases hpass z hz with h | ⟨hz0, nm, hl1, hn1⟩
      · exact Or.inl h
      · obtain ⟨c6, hc6, hcl6⟩ := Cond.classLink_spec hown hl1 e.platform hpl
        obtain ⟨a8, b8, h1, h2, h3⟩ := hn1
        cases Option.some.inj (h1.symm.trans hcl)
        cases Option.some.inj (h2.symm.trans hc6)
        exact Or.inr ⟨hz0, _, hcl6, h3⟩) hx (Or.inr ⟨h0, c4, hcl5, hasg⟩)
  obtain ⟨t, a1, b1⟩ := kk (T.setVm vm') hT X'
  exact ⟨t, st.trans a1, b1⟩
end Rows
section Ends
variable {p : Program} {l : Launch} {e : Env} {R : Room} {s : State} {m : MethodId} {args : Array Value} {below : List Frame} {meth : Method} {c : Code} {H : Heap} {locs : List Loc} {cells slots : Nat} {Q : State → Prop}
variable {mc ms : Nat} {free : Addr → Prop} {A0 A1 : Nat → Prop} {H0 : Heap} {a : Array Value} {ls : Array Slot} {st0 rest : List Value}
variable {Qc : Array Value → State → Outcome → State → Prop} {XC : String → State → State → Prop}
/-- what a body that may throw owes at its end -/
def vx_MQ (below : List Frame) (Qc : Array Value → State → Outcome → State → Prop) (XC : String → State → State → Prop) (a : Array Value) (s : State) (mc ms : Nat) (free : Addr → Prop) : State → Prop := fun t =>
  ∃ o, t.status = .running ∧ Ended t below o ∧ vx_Q Qc XC mc ms free a s o t
theorem vx_ret {g : JFrame} {mc ms : Nat} (k : W p l e R s m args below meth c H locs cells slots (MQ below Qc args s mc ms free) g) : W p l e R s m args below meth c H locs cells slots (vx_MQ below Qc XC args s mc ms free) g := by
  intro T hT X
  obtain ⟨t, a1, o, b1, b2, b3, b4⟩ := k T hT X
  exact ⟨t, a1, o, b1, b2, Or.inl ⟨b3, b4⟩⟩
/-- not caught here: it goes on to the caller -/
theorem vx_widen {g : JFrame} {q : Addr} {k n : Nat} (h1 : cells ≤ k) (h2 : slots ≤ n) (kk : vx_W p l e R s m args below meth c H locs k n Q g q) : vx_W p l e R s m args below meth c H locs cells slots Q g q := fun T hT X => kk T hT (stand_widen X h1 h2)
theorem vx_out {pc : Nat} {E : String} {ce : Cell} {q : Addr} {mc ms : Nat} (hout : ∀ x ∈ c.exceptionTable.toList, covers x pc = false) (hlocks : meth.locks = false) (hcell : H[q]? = some ce) (hv : ce.vm = .none) (hcl : s.vm.findClass E = some ce.cls)
    (hx : ∀ t : State, t.heap = H → s.vm.Alike t.vm → XC E s t) (hf : ∀ z ∈ locs, free z.base) (hc : cells ≤ mc) (hs : slots ≤ ms) :
    vx_W p l e R s m args below meth c H locs cells slots (vx_MQ below Qc XC args s mc ms free) (F0 m pc ls rest) q := by
  intro T hT X
  obtain ⟨st1, hrun, hend, hW, hsm⟩ := X.leaveThrown q (g := F0 m pc ls rest) rfl rfl rfl hout hlocks
  have hcell9 : (T.setFrames (.throwing q :: below)).heap[q]? = some ce := by
    show T.heap[q]? = some ce
    rw [hT]; exact hcell
  exact ⟨_, st1, .threw q, hrun, hend, Or.inr ⟨q, rfl, E, ce, locs, hx _ hT hW.alike, hcell9, hv, hcl, hW, hsm.mono hc hs, hf⟩⟩
theorem vx_frame {U : State} {k n : Nat} (h : s.sameButNew ({ U with vm := s.vm } : State) locs k n) : s.heap.size ≤ U.heap.size ∧ ∀ q : Nat, q < s.heap.size → (∀ z ∈ locs, z.base ≠ q) → U.heap[q]? = s.heap[q]? := by
  obtain ⟨-, h2, -, -, -, h6⟩ := h
  refine ⟨h2, fun q hq hz => ?_⟩
  obtain ⟨c9, e1, e2, e3, e4⟩ := h6 q _ (Array.getElem?_eq_getElem hq)
  have hs : c9.slots = (s.heap[q]).slots := Array.ext_getElem? fun i => e4 i fun hm => hz _ hm rfl
  have h9 : c9 = s.heap[q] := by
    rw [hs] at e2
    exact e2
  have e5 : U.heap[q]? = some c9 := e1
  rw [e5, h9, Array.getElem?_eq_getElem hq]
/-- the words of a throw but the four that speak of the heap -/
def vx_no (w : Cond) : Bool := decide (w ≠ .isRef (.static Bundle.tN "UNASSIGNED_STACK" Bundle.steD)) && decide (w ≠ .isRef (.static Bundle.tN "SUPPRESSED_SENTINEL" Bundle.listD)) && decide (w ≠ .laysStatic Bundle.tN "UNASSIGNED_STACK" Bundle.steD) && decide (w ≠ .laysStatic Bundle.tN "SUPPRESSED_SENTINEL" Bundle.listD)
def vx_at0 (own : String) (ic : Nat) (X : String) (names : List String) : List Cond := (Bundle.ownAtoms0 own ic X names).filter vx_no
def vx_atS (own : String) (ic : Nat) (X : String) (names : List String) : List Cond := (Bundle.ownAtoms own ic X names).filter vx_no
/-- a word that the tables alone decide, or a good one -/
def vx_ot (w : Cond) : Bool := w.onTables || goodWord w
theorem vx_ot_at {args a' : Array Value} {s U : State} {w : Cond} (hW : s.WarmedH U.vm) (hvm : s.vm = U.vm) (hg : vx_ot w = true) (h : w.before args s = true) : w.before a' U = true := by
  simp only [vx_ot, Bool.or_eq_true] at hg
  rcases hg with hg | hg
  · exact va_tabs hg hvm h
  · exact word_at hW (good_of_word hg) h
/-- a list's words: the good ones out of the method's own list, the others by premises of their own -/
theorem vx_hat {args : Array Value} {s : State} {L B : List Cond} (h1 : ∀ w ∈ L.filter goodWord, w.before args s = true) (h2 : ∀ w ∈ L.filter (fun w => !goodWord w), w ∈ B) (h3 : ∀ w ∈ B, w.before args s = true) : ∀ w ∈ L, w.before args s = true := by
  intro w hw
  by_cases g : goodWord w = true
  · exact h1 w (List.mem_filter.mpr ⟨hw, g⟩)
  · refine h3 w (h2 w (List.mem_filter.mpr ⟨hw, ?_⟩))
    show (!goodWord w) = true
    cases hgw : goodWord w
    · rfl
    · exact absurd hgw g
theorem vx_c {args : Array Value} {s : State} {w : Cond} {B : List Cond} (h : w.before args s = true) (t : ∀ w ∈ B, w.before args s = true) : ∀ w' ∈ w :: B, w'.before args s = true := fun w' h' => (List.mem_cons.mp h').elim (fun e => by rw [e]; exact h) (t w')
theorem vx_n {args : Array Value} {s : State} : ∀ w ∈ ([] : List Cond), w.before args s = true := fun _ h => nomatch h
theorem vx_own {args : Array Value} {s : State} {L : List Cond} (h1 : ∀ w ∈ L.filter vx_no, w.before args s = true)
    (hU : (Cond.isRef (.static Bundle.tN "UNASSIGNED_STACK" Bundle.steD)).before args s = true) (hN : (Cond.isRef (.static Bundle.tN "SUPPRESSED_SENTINEL" Bundle.listD)).before args s = true)
    (lU : (Cond.laysStatic Bundle.tN "UNASSIGNED_STACK" Bundle.steD).before args s = true) (lN : (Cond.laysStatic Bundle.tN "SUPPRESSED_SENTINEL" Bundle.listD).before args s = true) : ∀ w ∈ L, w.before args s = true := by
  intro w hw
  by_cases e1 : w = .isRef (.static Bundle.tN "UNASSIGNED_STACK" Bundle.steD)
  · rw [e1]; exact hU
  · by_cases e2 : w = .isRef (.static Bundle.tN "SUPPRESSED_SENTINEL" Bundle.listD)
    · rw [e2]; exact hN
    · by_cases e3 : w = .laysStatic Bundle.tN "UNASSIGNED_STACK" Bundle.steD
      · rw [e3]; exact lU
      · by_cases e4 : w = .laysStatic Bundle.tN "SUPPRESSED_SENTINEL" Bundle.listD
        · rw [e4]; exact lN
        · exact h1 w (List.mem_filter.mpr ⟨hw, by unfold vx_no; rw [decide_eq_true e1, decide_eq_true e2, decide_eq_true e3, decide_eq_true e4]; rfl⟩)
/-- where a static field lies, its class's statics cell in H -/
def vx_L (C n d : String) (A : Nat → Prop) (U : State) (H : Heap) : Prop := ∃ (c : ClassId) (k : Class) (i : Nat) (f : Field) (a : Nat) (cell : Cell), U.vm.findClass C = some c ∧ U.fieldFound? C n d = some (c, k, i, f) ∧ f.isStatic = true ∧ k.statics = some a ∧ H[a]? = some cell ∧ cell.vm.isStatics = true ∧ cell.cls = c ∧ f.slot < cell.slots.size ∧ k.staticTypes[f.slot]? = some f.type ∧ ¬ A a
theorem vx_L.moved {C n d : String} {A : Nat → Prop} {u U : State} {H : Heap} (hvm : u.vm.Alike U.vm) (h : vx_L C n d A u H) : vx_L C n d A U H := by
  obtain ⟨c, k, i, f, a, cell, h1, h2, h3, h4, h5, h6, h7, h8, h9, h10⟩ := h
  obtain ⟨k', hi', he⟩ := State.fieldFound?_setVm hvm h2
  exact ⟨c, k', i, f, a, cell, by rw [hvm.findClass]; exact h1, hi', h3, by rw [he]; exact h4, h5, h6, h7, h8, by rw [he]; exact h9, h10⟩
theorem vx_L.kept {C n d : String} {A : Nat → Prop} {U : State} {H H1 : Heap} (h : vx_L C n d A U H) (hq : ∀ a : Nat, a < H.size → ¬ A a → H1[a]? = H[a]?) : vx_L C n d A U H1 := by
  obtain ⟨c, k, i, f, a, cell, h1, h2, h3, h4, h5, h6, h7, h8, h9, h10⟩ := h
  exact ⟨c, k, i, f, a, cell, h1, h2, h3, h4, by rw [hq a (Array.getElem?_eq_some_iff.mp h5).1 h10]; exact h5, h6, h7, h8, h9, h10⟩
theorem vx_L.narrow {C n d : String} {A B : Nat → Prop} {U : State} {H : Heap} (h : vx_L C n d A U H) (hAB : ∀ q, B q → A q) : vx_L C n d B U H := by
  obtain ⟨c, k, i, f, a, cell, h1, h2, h3, h4, h5, h6, h7, h8, h9, h10⟩ := h
  exact ⟨c, k, i, f, a, cell, h1, h2, h3, h4, h5, h6, h7, h8, h9, fun z => h10 (hAB _ z)⟩
theorem vx_L.word {C n d : String} {A : Nat → Prop} {s : State} {args : Array Value} (h : vx_L C n d A s s.heap) : (Cond.laysStatic C n d).before args s = true := by
  obtain ⟨c, k, i, f, a, cell, h1, h2, h3, h4, h5, h6, h7, h8, h9, -⟩ := h
  show (Cond.laysStatic C n d).holds args s none s [] = true
  exact Cond.laysStatic_of h1 h2 h3 h4 h5 h6 h7 h8 h9
/-- .. and what it holds: null or some reference -/
def vx_Zq (C n d : String) (A : Nat → Prop) (U : State) (H : Heap) : Prop := va_Zq C n d A U H ∧ vx_L C n d A U H
theorem vx_Zq.moved {C n d : String} {A : Nat → Prop} {u U : State} {H : Heap} (hvm : u.vm.Alike U.vm) (h : vx_Zq C n d A u H) : vx_Zq C n d A U H := ⟨va_Zq.moved hvm h.1, vx_L.moved hvm h.2⟩
theorem vx_Zq.kept {C n d : String} {A : Nat → Prop} {U : State} {H H1 : Heap} (h : vx_Zq C n d A U H) (hq : ∀ a : Nat, a < H.size → ¬ A a → H1[a]? = H[a]?) : vx_Zq C n d A U H1 := ⟨va_Zq.kept h.1 hq, vx_L.kept h.2 hq⟩
theorem vx_Zq.narrow {C n d : String} {A B : Nat → Prop} {U : State} {H : Heap} (h : vx_Zq C n d A U H) (hAB : ∀ q, B q → A q) : vx_Zq C n d B U H := ⟨va_Zq.narrow h.1 hAB, vx_L.narrow h.2 hAB⟩
theorem vx_Zqof {args : Array Value} {s : State} {C n d : String} {A : Nat → Prop} (hl : (Cond.laysStatic C n d).before args s = true) (hini : (Cond.initialized C).before args s = true) (h : (Cond.isRef (.static C n d)).before args s = true) (hA : ∀ a : Nat, a < s.heap.size → ¬ A a) : vx_Zq C n d A s s.heap := by
  refine ⟨va_Zqof hl hini h hA, ?_⟩
  obtain ⟨c, k, i, f, a, cell, h1, h2, h3, h4, h5, h6, h7, h8, h9⟩ := Cond.laysStatic_spec hl
  exact ⟨c, k, i, f, a, cell, h1, h2, h3, h4, h5, h6, h7, h8, h9, hA a (Array.getElem?_eq_some_iff.mp h5).1⟩
theorem vx_isRef {C n d : String} {v : Value} {A : Nat → Prop} {s : State} {args : Array Value} (h : va_Z C n d v A s s.heap) (hv : v.isRef = true) : (Cond.isRef (.static C n d)).before args s = true := by
  obtain ⟨cf, kf, fi, f, a, cell, h1, h2, h3, h4, h5, h6, h7, -⟩ := h
  have he : (Term.static C n d).eval args s none [] s = some v := by
    simp [Term.eval, State.fieldNamed?, h1, h2, h4, h5, h6, h7]
  simp only [Cond.before, Cond.holds, Cond.value, he]
  cases v <;> simp_all [Value.isRef]
theorem vx_isRefq {C n d : String} {A : Nat → Prop} {s : State} {args : Array Value} (h : va_Zq C n d A s s.heap) : (Cond.isRef (.static C n d)).before args s = true := by
  rcases h with h | ⟨t, h⟩
  · exact vx_isRef h rfl
  · exact vx_isRef h rfl
/-- the same frame, seen from here: as if the method were called anew in this heap -/
theorem vx_rebase {T : State} (X : Stand p l e R s m args below meth c T locs cells slots) {R' : Room} (hf : R'.frames ≤ R.frames) (hl : R'.locals ≤ R.locals) (hc : cells + R'.cells ≤ R.cells) (hs : slots + R'.slots ≤ R.slots) :
    Stand p l e R' ((T.setVm s.vm).setFrames (.invoking m args :: below)) m args below meth c T [] 0 0 := by
  have htop : (T.setVm s.vm).topJava?.isSome := X.here.top
  have hF : ((T.setVm s.vm).setFrames (.invoking m args :: below)).frames = .invoking m args :: below := State.frames_setFrames _ (State.cur_lt_of_top htop)
  obtain ⟨g₀, hg0⟩ := Option.isSome_iff_exists.mp htop
  obtain ⟨r, hr⟩ := State.topJava?_eq_some.mp hg0
  have hl9 : e.platform.stackLimits (T.setVm s.vm).me = e.platform.stackLimits s.me := X.limits
  have hb9 : (T.setVm s.vm).me.stackBytes = s.me.stackBytes := X.bytes
  refine ⟨X.admits, X.cas, X.clock, hF, ?_, X.hears, X.method, X.code, X.here, X.tail, X.warmed, ?_, ?_, ?_⟩
  · have h := X.room
    have hU : ((T.setVm s.vm).setFrames (.invoking m args :: below)).localsInUse = s.localsInUse := by
      rw [State.localsInUse_invoking hF (meth := meth) (c := c) X.method X.code, State.localsInUse_invoking X.frames X.method X.code]
    simp only [State.hasRoom, Bool.and_eq_true, decide_eq_true_eq] at h ⊢
    obtain ⟨⟨⟨⟨h1, h2, h3, h4, h5, h6⟩, h7⟩, h8⟩, h9⟩ := h
    rw [X.frames, List.length_cons] at h2 h3
    have q1 := X.heapSize
    have q2 := X.used
    simp only [hF, hU, List.length_cons, State.stackLimits_setFrames, State.stackBytes_setFrames, hl9, hb9]
    refine ⟨⟨⟨⟨by omega, by omega, by omega, by omega, by omega, h6⟩, ?_⟩, ?_⟩, X.book⟩
    · show T.heap.size + R'.cells ≤ e.platform.maxCells
      omega
    · show T.slotsUsed + R'.slots ≤ e.platform.maxSlots
      omega
  · rw [State.stackLimits_setFrames]; rfl
  · rw [State.stackBytes_setFrames]; rfl
  · refine ⟨?_, Nat.le_refl _, Nat.le_refl _, ?_, ?_, fun a c9 h9 => ⟨c9, h9, rfl, rfl, fun _ _ => rfl⟩⟩
    · obtain ⟨t, ht, -⟩ := State.frames_cons hr
      show T.setVm s.vm = { ((T.setVm s.vm).setFrames (.invoking m args :: below)).setFrames (T.setVm s.vm).frames with heap := T.heap, slotsUsed := T.slotsUsed }
      rw [State.setFrames_setFrames, State.setFrames_self ht]
      rfl
    · show T.slotsUsed = T.slotsUsed + ((T.heap.toList.drop T.heap.size).map (·.slots.size)).sum
      rw [List.drop_eq_nil_of_le (Nat.le_of_eq Array.length_toList)]
      rfl
    · show ((T.heap.toList.drop T.heap.size).map (·.slots.size)).sum ≤ 0
      rw [List.drop_eq_nil_of_le (Nat.le_of_eq Array.length_toList)]
      exact Nat.le_refl _
/-- 'throw new E()': new; dup; invokespecial; athrow -/
theorem vx_throw0 {cc : ByteArray} {pc : Nat} (hexec : p.tables.exec = Jvm.exec) (hb : c.code = cc) (hl : l.stackTraces = false) {own cls : String} {names : List String} {ik ic mc ms : Nat} {A : Nat → Prop}
    (hown : s.vm.findClass own = some m.cls) (hcls : Bundle.fit cls = true) (hnames : ∀ n ∈ names, Bundle.fit n = true)
    (hk : (Cond.classLink own ik cls).before args s = true) (hini : (Cond.initialized cls).before args s = true) (hat : ∀ w ∈ vx_at0 own ic cls names, w.before args s = true)
    (hgood : ∀ w ∈ Cond.classLink own ik cls :: Cond.initialized cls :: vx_at0 own ic cls names, vx_ot w = true)
    (hU : vx_Zq Bundle.tN "UNASSIGNED_STACK" Bundle.steD A s s.heap) (hN : vx_Zq Bundle.tN "SUPPRESSED_SENTINEL" Bundle.listD A s s.heap) (hS : va_S A s.heap H locs) (hsize : ls.size = c.maxLocals)
    (d0 : decode cc pc = .ok (.new ik, 3)) (d3 : decode cc (pc + 3) = .ok (.dup, 1)) (d4 : decode cc (pc + 4) = .ok (.invokespecial ic, 3)) (d7 : decode cc (pc + 7) = .ok (.athrow, 1))
    (hout : ∀ x ∈ c.exceptionTable.toList, covers x (pc + 7) = false)
    (hRframes : names.length + 3 < R.frames) (hRlocals : (rest.map fun v => v.category).sum + (13 * (names.length + 1) + 42) ≤ R.locals) (hRcells : cells + 1 ≤ R.cells) (hRslots : slots + 6 ≤ R.slots) (hlocks : meth.locks = false)
    (hx : ∀ t : State, s.vm.Alike t.vm → H.size ≤ t.heap.size → (∀ q : Nat, q < H.size → t.heap[q]? = H[q]?) → XC cls s t)
    (hf : ∀ z ∈ locs, free z.base) (hc : cells + 1 ≤ mc) (hs : slots + 6 ≤ ms) :
    W p l e R s m args below meth c H locs cells slots (vx_MQ below Qc XC args s mc ms free) (F0 m pc ls rest) := by
  intro T hT X
  have htr : e.platform.stackTraces = false := (show e.platform.stackTraces = l.stackTraces by rw [X.admits.platform]).trans hl
  have Y := vx_rebase X (R' := { frames := R.frames, locals := R.locals, cells := 1, slots := 6 }) (Nat.le_refl _) (Nat.le_refl _) hRcells hRslots
  obtain ⟨s', hA⟩ : ∃ z, z = (T.setVm s.vm).setFrames (.invoking m args :: below) := ⟨_, rfl⟩
  rw [← hA] at Y
  have hvm : s'.vm = s.vm := by rw [hA]; rfl
  have hhp : s'.heap = H := by rw [hA]; exact hT
  have hW0 : s.WarmedH s'.vm := by rw [hvm]; exact State.WarmedH.refl s
  have hat' : ∀ w ∈ vx_at0 own ic cls names, w.before args s' = true := fun w hw => vx_ot_at hW0 hvm.symm (hgood w (List.mem_cons_of_mem _ (List.mem_cons_of_mem _ hw))) (hat w hw)
  have hk' : (Cond.classLink own ik cls).before args s' = true := vx_ot_at hW0 hvm.symm (hgood _ List.mem_cons_self) hk
  have hini' : (Cond.initialized cls).before args s' = true := vx_ot_at hW0 hvm.symm (hgood _ (List.mem_cons_of_mem _ List.mem_cons_self)) hini
  have hU' : vx_Zq Bundle.tN "UNASSIGNED_STACK" Bundle.steD A s' s'.heap := by rw [hhp]; exact vx_Zq.moved hW0.alike (hU.kept hS.2.1)
  have hN' : vx_Zq Bundle.tN "SUPPRESSED_SENTINEL" Bundle.listD A s' s'.heap := by rw [hhp]; exact vx_Zq.moved hW0.alike (hN.kept hS.2.1)
  have h : ∀ w ∈ Bundle.ownAtoms0 own ic cls names, w.before args s' = true := vx_own hat' (vx_isRefq hU'.1) (vx_isRefq hN'.1) hU'.2.word hN'.2.word
  have hown' : s'.vm.findClass own = some m.cls := by rw [hvm]; exact hown
  have hins : (Cond.instantiable cls 6).before args s' = true := h _ (by simp [Bundle.ownAtoms0])
  obtain ⟨vm₁, cX, kX, hfX, hkX, -, -, X₁, st1⟩ := Y.newCold hexec (own := own) (C := cls) (index := ik) (n := 6) hown' hk' hins hini'
    (g := F0 m pc ls rest) rfl (by rw [hb]; exact d0) (Nat.le_refl _) (Nat.le_refl _)
  generalize hT1 : (T.setVm vm₁).pushCell { cls := cX, slots := kX.instanceTypes.map defaultValue, vm := .none } = T1 at X₁ st1
  have hcat : (Value.ref T.heap.size).category = 1 := rfl
  have hcellA : T1.heap[T.heap.size]? = some (freshCell cX kX) := by rw [← hT1]; exact State.heap_pushCell_size _ _
  have d3' : decode c.code (pc + 3) = .ok (.dup, 1) := by rw [hb]; exact d3
  obtain ⟨U, hsteps, hrun, hend, hW, hsame, ce, hce, hO⟩ := X₁.ctorThrow0 hexec htr (own := own) (cls := cls) (names := names) (ic := ic) hown' hcls hnames h (fun x hx => nomatch hx) hfX hkX hcellA (by rw [hhp, hT]; exact Nat.le_refl _)
    (g := { method := m, pc := pc + 4, locals := ls, stack := .ref T.heap.size :: .ref T.heap.size :: rest, locked := none }) rfl hsize rfl rfl (rest := rest) rfl
    (by rw [hb]; exact d4) (by rw [hb]; exact d7) hout hRframes (by simp only [List.map_cons, List.sum_cons, hcat]; omega) hlocks
  obtain ⟨f1, f2⟩ := vx_frame hsame
  rw [hhp] at f1 f2
  have hWs : s.WarmedH U.vm := State.WarmedH.trans hW0 hW
  have hcl : s.vm.findClass cls = some ce.cls := by
    have h9 := hO.cls
    rw [hvm] at h9
    exact h9
  have hall : s.sameButNew ({ U with vm := s.vm } : State) locs mc ms := by
    subst hA
    obtain ⟨e1, e2⟩ := hsame
    rw [State.setFrames_setFrames] at e1
    have h2 : (T.setVm s.vm).sameButNew ({ U with vm := s.vm } : State) [] (0 + 1) (0 + 6) := ⟨e1, e2⟩
    have h3 := X.same.trans h2
    rw [List.append_nil] at h3
    exact h3.mono hc hs
  refine ⟨U, ?_, .threw T.heap.size, hrun, hend, Or.inr ⟨T.heap.size, rfl, cls, ce, locs, hx U hWs.alike f1 (fun q hq => f2 q hq (fun z hz => nomatch hz)), hce, hO.vm, hcl, hWs, hall, hf⟩⟩
  refine st1 _ ?_
  show Steps p.tables e below (T1.setTop { method := m, pc := pc + 3, locals := ls, stack := .ref T.heap.size :: rest, locked := none }) _
  jvm_step X₁.here [X₁.here.top, hexec, d3', Value.category]
  exact hsteps
/-- 'throw new E("text")': new; dup; ldc; invokespecial; athrow -/
theorem vx_throwS {cc : ByteArray} {pc : Nat} (hexec : p.tables.exec = Jvm.exec) (hb : c.code = cc) (hl : l.stackTraces = false) {own cls text : String} {names : List String} {ik is ic mc ms sa : Nat} {A : Nat → Prop}
    (hown : s.vm.findClass own = some m.cls) (hcls : Bundle.fit cls = true) (hnames : ∀ n ∈ names, Bundle.fit n = true)
    (hk : (Cond.classLink own ik cls).before args s = true) (hini : (Cond.initialized cls).before args s = true) (hstr : vk_R own is text sa s) (hat : ∀ w ∈ vx_atS own ic cls names, w.before args s = true)
    (hgood : ∀ w ∈ Cond.classLink own ik cls :: Cond.initialized cls :: vx_atS own ic cls names, vx_ot w = true)
    (hU : vx_Zq Bundle.tN "UNASSIGNED_STACK" Bundle.steD A s s.heap) (hN : vx_Zq Bundle.tN "SUPPRESSED_SENTINEL" Bundle.listD A s s.heap) (hS : va_S A s.heap H locs) (hsize : ls.size = c.maxLocals)
    (d0 : decode cc pc = .ok (.new ik, 3)) (d3 : decode cc (pc + 3) = .ok (.dup, 1)) (d4 : decode cc (pc + 4) = .ok (.ldc is, 2)) (d6 : decode cc (pc + 6) = .ok (.invokespecial ic, 3)) (d9 : decode cc (pc + 9) = .ok (.athrow, 1))
    (hout : ∀ x ∈ c.exceptionTable.toList, covers x (pc + 9) = false)
    (hRframes : names.length + 3 < R.frames) (hRlocals : (rest.map fun v => v.category).sum + (13 * (names.length + 1) + 43) ≤ R.locals) (hRcells : cells + 1 ≤ R.cells) (hRslots : slots + 6 ≤ R.slots) (hlocks : meth.locks = false)
    (hx : ∀ t : State, s.vm.Alike t.vm → H.size ≤ t.heap.size → (∀ q : Nat, q < H.size → t.heap[q]? = H[q]?) → XC cls s t)
    (hf : ∀ z ∈ locs, free z.base) (hc : cells + 1 ≤ mc) (hs : slots + 6 ≤ ms) :
    W p l e R s m args below meth c H locs cells slots (vx_MQ below Qc XC args s mc ms free) (F0 m pc ls rest) := by
  intro T hT X
  have htr : e.platform.stackTraces = false := (show e.platform.stackTraces = l.stackTraces by rw [X.admits.platform]).trans hl
  have Y := vx_rebase X (R' := { frames := R.frames, locals := R.locals, cells := 1, slots := 6 }) (Nat.le_refl _) (Nat.le_refl _) hRcells hRslots
  obtain ⟨s', hA⟩ : ∃ z, z = (T.setVm s.vm).setFrames (.invoking m args :: below) := ⟨_, rfl⟩
  rw [← hA] at Y
  have hvm : s'.vm = s.vm := by rw [hA]; rfl
  have hhp : s'.heap = H := by rw [hA]; exact hT
  have hW0 : s.WarmedH s'.vm := by rw [hvm]; exact State.WarmedH.refl s
  have hat' : ∀ w ∈ vx_atS own ic cls names, w.before args s' = true := fun w hw => vx_ot_at hW0 hvm.symm (hgood w (List.mem_cons_of_mem _ (List.mem_cons_of_mem _ hw))) (hat w hw)
  have hk' : (Cond.classLink own ik cls).before args s' = true := vx_ot_at hW0 hvm.symm (hgood _ List.mem_cons_self) hk
  have hini' : (Cond.initialized cls).before args s' = true := vx_ot_at hW0 hvm.symm (hgood _ (List.mem_cons_of_mem _ List.mem_cons_self)) hini
  have hU' : vx_Zq Bundle.tN "UNASSIGNED_STACK" Bundle.steD A s' s'.heap := by rw [hhp]; exact vx_Zq.moved hW0.alike (hU.kept hS.2.1)
  have hN' : vx_Zq Bundle.tN "SUPPRESSED_SENTINEL" Bundle.listD A s' s'.heap := by rw [hhp]; exact vx_Zq.moved hW0.alike (hN.kept hS.2.1)
  have h : ∀ w ∈ Bundle.ownAtoms own ic cls names, w.before args s' = true := vx_own hat' (vx_isRefq hU'.1) (vx_isRefq hN'.1) hU'.2.word hN'.2.word
  have hown' : s'.vm.findClass own = some m.cls := by rw [hvm]; exact hown
  have hins : (Cond.instantiable cls 6).before args s' = true := h _ (by simp [Bundle.ownAtoms])
  obtain ⟨vm₁, cX, kX, hfX, hkX, -, -, X₁, st1⟩ := Y.newCold hexec (own := own) (C := cls) (index := ik) (n := 6) hown' hk' hins hini'
    (g := F0 m pc ls rest) rfl (by rw [hb]; exact d0) (Nat.le_refl _) (Nat.le_refl _)
  generalize hT1 : (T.setVm vm₁).pushCell { cls := cX, slots := kX.instanceTypes.map defaultValue, vm := .none } = T1 at X₁ st1
  have hcat : (Value.ref T.heap.size).category = 1 := rfl
  have hcellA : T1.heap[T.heap.size]? = some (freshCell cX kX) := by rw [← hT1]; exact State.heap_pushCell_size _ _
  have d3' : decode c.code (pc + 3) = .ok (.dup, 1) := by rw [hb]; exact d3
  have d4' : decode c.code (pc + 4) = .ok (.ldc is, 2) := by rw [hb]; exact d4
  have hstr' : vk_R own is text sa s' := vk_R.warm hW0 hstr
  obtain ⟨U, hsteps, hrun, hend, hW, hsame, ce, hce, hO⟩ := X₁.ctorThrowS hexec htr (own := own) (cls := cls) (names := names) (ic := ic) hown' hcls hnames h (fun x hx => nomatch hx) hfX hkX hcellA (by rw [hhp, hT]; exact Nat.le_refl _) (msg := .ref sa) rfl
    (g := { method := m, pc := pc + 6, locals := ls, stack := .ref sa :: .ref T.heap.size :: .ref T.heap.size :: rest, locked := none }) rfl hsize rfl rfl (rest := rest) rfl
    (by rw [hb]; exact d6) (by rw [hb]; exact d9) hout hRframes (by simp only [List.map_cons, List.sum_cons, hcat]; omega) hlocks
  obtain ⟨f1, f2⟩ := vx_frame hsame
  rw [hhp] at f1 f2
  have hWs : s.WarmedH U.vm := State.WarmedH.trans hW0 hW
  have hcl : s.vm.findClass cls = some ce.cls := by
    have h9 := hO.cls
    rw [hvm] at h9
    exact h9
  have hall : s.sameButNew ({ U with vm := s.vm } : State) locs mc ms := by
    subst hA
    obtain ⟨e1, e2⟩ := hsame
    rw [State.setFrames_setFrames] at e1
    have h2 : (T.setVm s.vm).sameButNew ({ U with vm := s.vm } : State) [] (0 + 1) (0 + 6) := ⟨e1, e2⟩
    have h3 := X.same.trans h2
    rw [List.append_nil] at h3
    exact h3.mono hc hs
  refine ⟨U, ?_, .threw T.heap.size, hrun, hend, Or.inr ⟨T.heap.size, rfl, cls, ce, locs, hx U hWs.alike f1 (fun q hq => f2 q hq (fun z hz => nomatch hz)), hce, hO.vm, hcl, hWs, hall, hf⟩⟩
  refine st1 _ ?_
  show Steps p.tables e below (T1.setTop { method := m, pc := pc + 3, locals := ls, stack := .ref T.heap.size :: rest, locked := none }) _
  jvm_step X₁.here [X₁.here.top, hexec, d3', Value.category]
  exact X₁.ldcString hexec (own := own) (text := text) (index := is) (a := sa) hown' hstr'.1 hstr'.2
    (g := { method := m, pc := pc + 4, locals := ls, stack := .ref T.heap.size :: .ref T.heap.size :: rest, locked := none }) rfl d4' _ hsteps
/-- 'throw new E("text")', the text by a wide index -/
theorem vx_throwSW {cc : ByteArray} {pc : Nat} (hexec : p.tables.exec = Jvm.exec) (hb : c.code = cc) (hl : l.stackTraces = false) {own cls text : String} {names : List String} {ik is ic mc ms sa : Nat} {A : Nat → Prop}
    (hown : s.vm.findClass own = some m.cls) (hcls : Bundle.fit cls = true) (hnames : ∀ n ∈ names, Bundle.fit n = true)
    (hk : (Cond.classLink own ik cls).before args s = true) (hini : (Cond.initialized cls).before args s = true) (hstr : vk_R own is text sa s) (hat : ∀ w ∈ vx_atS own ic cls names, w.before args s = true)
    (hgood : ∀ w ∈ Cond.classLink own ik cls :: Cond.initialized cls :: vx_atS own ic cls names, vx_ot w = true)
    (hU : vx_Zq Bundle.tN "UNASSIGNED_STACK" Bundle.steD A s s.heap) (hN : vx_Zq Bundle.tN "SUPPRESSED_SENTINEL" Bundle.listD A s s.heap) (hS : va_S A s.heap H locs) (hsize : ls.size = c.maxLocals)
    (d0 : decode cc pc = .ok (.new ik, 3)) (d3 : decode cc (pc + 3) = .ok (.dup, 1)) (d4 : decode cc (pc + 4) = .ok (.ldc_w is, 3)) (d7 : decode cc (pc + 7) = .ok (.invokespecial ic, 3)) (d10 : decode cc (pc + 10) = .ok (.athrow, 1))
    (hout : ∀ x ∈ c.exceptionTable.toList, covers x (pc + 10) = false)
    (hRframes : names.length + 3 < R.frames) (hRlocals : (rest.map fun v => v.category).sum + (13 * (names.length + 1) + 43) ≤ R.locals) (hRcells : cells + 1 ≤ R.cells) (hRslots : slots + 6 ≤ R.slots) (hlocks : meth.locks = false)
    (hx : ∀ t : State, s.vm.Alike t.vm → H.size ≤ t.heap.size → (∀ q : Nat, q < H.size → t.heap[q]? = H[q]?) → XC cls s t)
    (hf : ∀ z ∈ locs, free z.base) (hc : cells + 1 ≤ mc) (hs : slots + 6 ≤ ms) :
    W p l e R s m args below meth c H locs cells slots (vx_MQ below Qc XC args s mc ms free) (F0 m pc ls rest) := by
  intro T hT X
  have htr : e.platform.stackTraces = false := (show e.platform.stackTraces = l.stackTraces by rw [X.admits.platform]).trans hl
  have Y := vx_rebase X (R' := { frames := R.frames, locals := R.locals, cells := 1, slots := 6 }) (Nat.le_refl _) (Nat.le_refl _) hRcells hRslots
  obtain ⟨s', hA⟩ : ∃ z, z = (T.setVm s.vm).setFrames (.invoking m args :: below) := ⟨_, rfl⟩
  rw [← hA] at Y
  have hvm : s'.vm = s.vm := by rw [hA]; rfl
  have hhp : s'.heap = H := by rw [hA]; exact hT
  have hW0 : s.WarmedH s'.vm := by rw [hvm]; exact State.WarmedH.refl s
  have hat' : ∀ w ∈ vx_atS own ic cls names, w.before args s' = true := fun w hw => vx_ot_at hW0 hvm.symm (hgood w (List.mem_cons_of_mem _ (List.mem_cons_of_mem _ hw))) (hat w hw)
  have hk' : (Cond.classLink own ik cls).before args s' = true := vx_ot_at hW0 hvm.symm (hgood _ List.mem_cons_self) hk
  have hini' : (Cond.initialized cls).before args s' = true := vx_ot_at hW0 hvm.symm (hgood _ (List.mem_cons_of_mem _ List.mem_cons_self)) hini
  have hU' : vx_Zq Bundle.tN "UNASSIGNED_STACK" Bundle.steD A s' s'.heap := by rw [hhp]; exact vx_Zq.moved hW0.alike (hU.kept hS.2.1)
  have hN' : vx_Zq Bundle.tN "SUPPRESSED_SENTINEL" Bundle.listD A s' s'.heap := by rw [hhp]; exact vx_Zq.moved hW0.alike (hN.kept hS.2.1)
  have h : ∀ w ∈ Bundle.ownAtoms own ic cls names, w.before args s' = true := vx_own hat' (vx_isRefq hU'.1) (vx_isRefq hN'.1) hU'.2.word hN'.2.word
  have hown' : s'.vm.findClass own = some m.cls := by rw [hvm]; exact hown
  have hins : (Cond.instantiable cls 6).before args s' = true := h _ (by simp [Bundle.ownAtoms])
  obtain ⟨vm₁, cX, kX, hfX, hkX, -, -, X₁, st1⟩ := Y.newCold hexec (own := own) (C := cls) (index := ik) (n := 6) hown' hk' hins hini'
    (g := F0 m pc ls rest) rfl (by rw [hb]; exact d0) (Nat.le_refl _) (Nat.le_refl _)
  generalize hT1 : (T.setVm vm₁).pushCell { cls := cX, slots := kX.instanceTypes.map defaultValue, vm := .none } = T1 at X₁ st1
  have hcat : (Value.ref T.heap.size).category = 1 := rfl
  have hcellA : T1.heap[T.heap.size]? = some (freshCell cX kX) := by rw [← hT1]; exact State.heap_pushCell_size _ _
  have d3' : decode c.code (pc + 3) = .ok (.dup, 1) := by rw [hb]; exact d3
  have d4' : decode c.code (pc + 4) = .ok (.ldc_w is, 3) := by rw [hb]; exact d4
  have hstr' : vk_R own is text sa s' := vk_R.warm hW0 hstr
  obtain ⟨U, hsteps, hrun, hend, hW, hsame, ce, hce, hO⟩ := X₁.ctorThrowS hexec htr (own := own) (cls := cls) (names := names) (ic := ic) hown' hcls hnames h (fun x hx => nomatch hx) hfX hkX hcellA (by rw [hhp, hT]; exact Nat.le_refl _) (msg := .ref sa) rfl
    (g := { method := m, pc := pc + 7, locals := ls, stack := .ref sa :: .ref T.heap.size :: .ref T.heap.size :: rest, locked := none }) rfl hsize rfl rfl (rest := rest) rfl
    (by rw [hb]; exact d7) (by rw [hb]; exact d10) hout hRframes (by simp only [List.map_cons, List.sum_cons, hcat]; omega) hlocks
  obtain ⟨f1, f2⟩ := vx_frame hsame
  rw [hhp] at f1 f2
  have hWs : s.WarmedH U.vm := State.WarmedH.trans hW0 hW
  have hcl : s.vm.findClass cls = some ce.cls := by
    have h9 := hO.cls
    rw [hvm] at h9
    exact h9
  have hall : s.sameButNew ({ U with vm := s.vm } : State) locs mc ms := by
    subst hA
    obtain ⟨e1, e2⟩ := hsame
    rw [State.setFrames_setFrames] at e1
    have h2 : (T.setVm s.vm).sameButNew ({ U with vm := s.vm } : State) [] (0 + 1) (0 + 6) := ⟨e1, e2⟩
    have h3 := X.same.trans h2
    rw [List.append_nil] at h3
    exact h3.mono hc hs
  refine ⟨U, ?_, .threw T.heap.size, hrun, hend, Or.inr ⟨T.heap.size, rfl, cls, ce, locs, hx U hWs.alike f1 (fun q hq => f2 q hq (fun z hz => nomatch hz)), hce, hO.vm, hcl, hWs, hall, hf⟩⟩
  refine st1 _ ?_
  show Steps p.tables e below (T1.setTop { method := m, pc := pc + 3, locals := ls, stack := .ref T.heap.size :: rest, locked := none }) _
  jvm_step X₁.here [X₁.here.top, hexec, d3', Value.category]
  exact X₁.ldcStringW hexec (own := own) (text := text) (index := is) (a := sa) hown' hstr'.1 hstr'.2
    (g := { method := m, pc := pc + 4, locals := ls, stack := .ref T.heap.size :: .ref T.heap.size :: rest, locked := none }) rfl d4' _ hsteps
end Ends
section Bodies
variable {l : Launch}
theorem vx_ofW {y : MethodName} {ws ws' : List Cond} {rm : Room} {Pc : Array Value → State → Prop} {Qc : Array Value → State → Outcome → State → Prop} {XC : String → State → State → Prop} {mc ms : Nat} {free : Addr → Prop} {cc : ByteArray} {maxL : Nat} {ret : Option FieldType}
    (hy : plainName y.cls = true) (hw : ws = Cond.code y cc maxL ret :: ws')
    (body : ∀ p e s m args below meth c s₁, BodyLoose p l y (headSpec ws rm) cc maxL ret e s m args below meth c s₁ → c.maxLocals = maxL → (∀ x ∈ c.exceptionTable.toList, False) → Pc args s →
      W p l e (headSpec ws rm).room s m args below meth c s.heap [] 0 0 (vx_MQ below Qc XC args s mc ms free) (entryFrame m args maxL)) : vx_Met l y ws rm Pc Qc XC mc ms free := by
  refine MetFree.of_bodyS (code := cc) (maxLocals := maxL) (ret := ret) hy ?_ ?_
  · intro args s m h hn
    obtain ⟨meth, c, h1, h2, h3, h4, h5, h6, -, -⟩ := Cond.code_spec hn (atoms_spec (ws := ws) h _ (by rw [hw]; exact List.mem_cons_self))
    exact ⟨meth, c, h1, h2, h3, h4, h5, h6⟩
  · intro p e s m args below meth c s₁ B hml hP _
    have hh0 : s₁.heap = s.heap := by rw [B.state]; rfl
    have ht : ∀ x ∈ c.exceptionTable.toList, False := by
      obtain ⟨meth9, c9, h1, h2, -, -, -, -, h7, -⟩ := Cond.code_spec B.named (atoms_spec (ws := ws) B.pre _ (by rw [hw]; exact List.mem_cons_self))
      cases Option.some.inj (h1.symm.trans B.method)
      cases Option.some.inj (h2.symm.trans (Stand.of_body B).code)
      intro x hx
      rw [Array.isEmpty_iff.mp h7] at hx
      cases hx
    obtain ⟨t, a1, o, b1, b2, b3⟩ := body p e s m args below meth c s₁ B hml ht hP s₁ hh0 (Stand.of_body B)
    exact ⟨t, o, a1, b1, b2, b3⟩
/-- the table of a body with handlers -/
theorem vx_table {p : Program} {x y : MethodName} {S : Spec} {cc bytes : ByteArray} {maxL maxL' : Nat} {ret ret' : Option FieldType} {e : Env} {s s₁ : State} {m : MethodId} {args : Array Value} {below : List Frame} {meth : Method} {c : Code} {hh : List (Nat × Nat × Nat × Nat)}
    (B : BodyLoose p l y S cc maxL ret e s m args below meth c s₁) (h : (Cond.codeWith y bytes maxL' ret' hh).before args s = true) : c.exceptionTable.toList = tableOf hh := by
  obtain ⟨m9, meth9, c9, hn9, h1, h2, -, -, h6, -⟩ := Cond.codeWith_spec h
  cases Option.some.inj (hn9.symm.trans B.named)
  cases Option.some.inj (h1.symm.trans B.method)
  cases Option.some.inj (h2.symm.trans (Stand.of_body B).code)
  rw [← h6, table_eq]
end Bodies
end VXA
/-! ===== END ===== -/
/-! ===== BEGIN a static call of a method with an exception table ===== -/
section VXS
variable {p : Program} {l : Launch} {e : Env} {R : Room} {s : State} {m : MethodId} {args : Array Value} {below : List Frame} {meth : Method} {c : Code} {T : State} {H : Heap} {locs : List Loc} {cells slots : Nat}
abbrev vx_CSW (R : Room) (s : State) (args : Array Value) (own : String) (index : Nat) (y : MethodName) (bytes : ByteArray) (maxL : Nat) (ret : Option FieldType) (hh : List (Nat × Nat × Nat × Nat)) (ws : List Cond) (rm : Room) (mc ms n : Nat) : Prop :=
  (rm.cells = mc ∧ rm.slots = ms ∧ rm.frames + 1 ≤ R.frames ∧ 8 + (maxL + 11) + rm.locals ≤ R.locals ∧ (∀ w ∈ ws, ∀ (a' : Array Value) (U : State), s.WarmedH U.vm → w.before a' U = true) ∧ Cond.codeWith y bytes maxL ret hh ∈ ws) ∧
  (Cond.codeWith y bytes maxL ret hh).before args s = true ∧ (Cond.initialized y.cls).before args s = true ∧ (y.cls ≠ "java/lang/invoke/MethodHandle" ∧ y.cls ≠ "java/lang/invoke/VarHandle") ∧
  (∀ sig, parseMethodDescriptor y.desc = some sig → n = sig.parameters.length) ∧ (Cond.methodLink own index y).before args s = true ∧ (Cond.static y).before args s = true
theorem vx_cwSW {own : String} {index maxL mc ms : Nat} {y : MethodName} {bytes : ByteArray} {ret : Option FieldType} {hh : List (Nat × Nat × Nat × Nat)} {Ts ws ws' : List Cond} {rm : Room} (n : Nat) (ht : ∀ w ∈ Ts, w.before args s = true) (hT : GoodIn Ts (va_wsS own index y ws)) (hw : ws = Cond.codeWith y bytes maxL ret hh :: ws') (hrc : rm.cells = mc) (hrs : rm.slots = ms)
    (hd : y.cls ≠ "java/lang/invoke/MethodHandle" ∧ y.cls ≠ "java/lang/invoke/VarHandle" ∧ (parseMethodDescriptor y.desc).map (fun d => d.parameters.length) = some n) (hR : rm.frames + 1 ≤ R.frames ∧ 8 + (maxL + 11) + rm.locals ≤ R.locals) :
    vx_CSW R s args own index y bytes maxL ret hh ws rm mc ms n := by
  have ok : ∀ w ∈ va_wsS own index y ws, w.before args s = true := fun w h => ht w (hT w h).1
  have hG : GoodIn Ts ws := fun w h => hT w (by unfold va_wsS; exact List.mem_append_right _ h)
  have hc : Cond.codeWith y bytes maxL ret hh ∈ ws := by rw [hw]; exact List.mem_cons_self
  refine ⟨⟨hrc, hrs, hR.1, hR.2, pay_in ht hG, hc⟩, ht _ (hG _ hc).1, ok _ (by simp [va_wsS]), ⟨hd.1, hd.2.1⟩, fun sig h => ?_, ok _ (by simp [va_wsS]), ok _ (by simp [va_wsS])⟩
  have h2 := hd.2.2
  rw [h] at h2
  exact (Option.some.inj h2).symm
theorem vx_callSW (X : Stand p l e R s m args below meth c T locs cells slots) (hexec : p.tables.exec = Jvm.exec) {own : String} {index : Nat} {y : MethodName} {bytes : ByteArray} {maxL : Nat} {ret : Option FieldType} {hh : List (Nat × Nat × Nat × Nat)}
    (hown : s.vm.findClass own = some m.cls) (hlink : (Cond.methodLink own index y).before args s = true) (hstat : (Cond.static y).before args s = true) (hinit : (Cond.initialized y.cls).before args s = true)
    (hcode : (Cond.codeWith y bytes maxL ret hh).before args s = true) (hy : y.cls ≠ "java/lang/invoke/MethodHandle" ∧ y.cls ≠ "java/lang/invoke/VarHandle")
    {W9 : Nat} {Pre : Pt → Array Value → Prop} {Post : Pt → Array Value → Option Value → Pt → Prop} (hK : Back l R p e below s args y 3 W9 Pre Post)
    {g : JFrame} (hg : g.method = m) (hsize : g.locals.size = c.maxLocals) {argsL rest : List Value} (hlen : ∀ sig, parseMethodDescriptor y.desc = some sig → argsL.length = sig.parameters.length)
    (hstack : g.stack = argsL.reverse ++ rest) (hW : 2 * g.monitorRoom + (rest.map fun v => v.category).sum ≤ W9) (hdg : decode c.code g.pc = .ok (.invokestatic index, 3))
    (hpre : ∀ vm₁, s.WarmedH vm₁ → Pre ⟨T.setVm vm₁, locs, cells, slots⟩ argsL.toArray) :
    ∃ (v : Option Value) (vm₁ : Vm) (B : Pt), s.WarmedH vm₁ ∧ Stand p l e R s m args below meth c B.U B.locs B.cells B.slots ∧ Post ⟨T.setVm vm₁, locs, cells, slots⟩ argsL.toArray v B ∧
      ∀ target, Steps p.tables e below (B.U.setTop { g with pc := g.pc + 3, stack := v.toList ++ rest }) target → Steps p.tables e below (T.setTop g) target := by
  obtain ⟨mk, methM, cM, hnamed, hmethM, -, -, -, -, -, -, hsigM⟩ := Cond.codeWith_spec hcode
  have hstatic : methM.isStatic = true := Cond.static_spec hnamed hmethM hstat
  obtain ⟨kP, hkP, -⟩ := className_of_methodNamed hnamed
  have hinitP : kP.init = .initialized := Cond.initialized_spec (findClass_of_methodNamed hnamed) hkP hinit
  obtain ⟨vm₁, X₁, hstep₁⟩ := X.invokestatic hexec hown hlink hnamed hmethM hstatic hkP hinitP hy (g := g) hg (argsL := argsL) (rest := rest) (hlen _ hsigM) hstack hdg
  obtain ⟨v, B, X', hpost, hsteps⟩ := hK m meth c ⟨T.setVm vm₁, locs, cells, slots⟩ { g with stack := rest } (.invokestatic index) mk argsL.toArray X₁ hg hsize hdg hW (X₁.named hnamed) (hpre vm₁ X₁.warmed)
  exact ⟨v, vm₁, B, X₁.warmed, X', hpost, fun target h => hstep₁ _ fun acts => by rw [doInvoke_state]; exact hsteps.trans h⟩
theorem vx_runSW {y : MethodName} {bytes cc : ByteArray} {maxL nL mc ms n index : Nat} {ret : Option FieldType} {hh : List (Nat × Nat × Nat × Nat)} {ws : List Cond} {rm : Room} {Pc : Array Value → State → Prop} {Qc : Array Value → State → Outcome → State → Prop} {free : Addr → Prop} {Ts : List Cond} {own : String} {As rest : List Value} {g : JFrame}
    (S : CallFix p m c cc nL s args Ts own) (hM : Met l y ws rm Pc Qc mc ms free) (cw : vx_CSW R s args own index y bytes maxL ret hh ws rm mc ms n) (hp : PreS s H Pc As)
    (hg : g.method = m) (hn : As.length = n) (hsize : g.locals.size = nL) (hstack : g.stack = As.reverse ++ rest) (hW : 2 * g.monitorRoom + (rest.map fun v => v.category).sum ≤ 8) (hdg : decode cc g.pc = .ok (.invokestatic index, 3)) (hf : cells + mc ≤ R.cells ∧ slots + ms ≤ R.slots) :
    va_Run p l e R s m args below meth c H locs cells slots mc ms g rest (Qc As.toArray) (free) := by
  obtain ⟨⟨hrc, hrs, hfr, hlo, hws, hcw⟩, hcode, hini, hy, hlen, hl, hstt⟩ := cw
  have hK : Back l R p e below s args y 3 8 (PreOf R mc ms Pc) (PostOf Qc mc ms free) := va_backW (hh := hh) (bytes := bytes) (maxL := maxL) (ret := ret) hM hp.1 hrc hrs hfr hlo hws hcw (fun a' U hW => word_at hW (Or.inl (by first | rfl | simp [Cond.onTables, Cond.keeps, Cond.steady])) hini)
  obtain ⟨hx, hb, hml, ho, -⟩ := S
  intro T hT X
  obtain ⟨v, vm₁, ⟨U', l2, c2, s2⟩, hW₁, X', ⟨g', mk, t, L, e1, e2, hq, h1, hL, h2, h3⟩, st⟩ := vx_callSW X hx (hh := hh) (bytes := bytes) (maxL := maxL) (ret := ret) ho hl hstt hini hcode hy hK hg (hsize.trans hml.symm) (argsL := As) (rest := rest) (fun sig h => hn.trans (hlen sig h)) hstack hW (by rw [hb]; exact hdg)
    (fun vm₁ hW₁ => ⟨hf.1, hf.2, hp.2 (T.setVm vm₁) hT hW₁⟩)
  dsimp only [Pt.U, Pt.locs, Pt.cells, Pt.slots] at X' e1 e2 h1 h2 h3 st
  subst h1; subst h2; subst h3
  exact ⟨v, (T.setVm vm₁).calling g' mk As.toArray, t, U', L, hT, X', hL, e1, e2, hq, st⟩
/-- not caught here, past rows that name other classes: it goes on to the caller -/
theorem vx_outP {p : Program} {l : Launch} {e : Env} {R : Room} {s : State} {m : MethodId} {args : Array Value} {below : List Frame} {meth : Method} {c : Code} {H : Heap} {locs : List Loc} {cells slots : Nat} {free : Addr → Prop} {ls : Array Slot} {rest : List Value} {Qc : Array Value → State → Outcome → State → Prop} {XC : String → State → State → Prop}
    {pc : Nat} {own E : String} {ce : Cell} {q : Addr} {mc ms : Nat} (hown : s.vm.findClass own = some m.cls) (hlocks : meth.locks = false)
    (hpass : ∀ z ∈ c.exceptionTable.toList, covers z pc = false ∨ (z.catchType ≠ 0 ∧ ∃ nm : String, (Cond.classLink own z.catchType nm).before args s = true ∧ va_Nc E nm s)) (hcell : H[q]? = some ce) (hv : ce.vm = .none) (hcl : s.vm.findClass E = some ce.cls)
    (hx : ∀ t : State, t.heap = H → s.vm.Alike t.vm → XC E s t) (hf : ∀ z ∈ locs, free z.base) (hc : cells ≤ mc) (hs : slots ≤ ms) :
    vx_W p l e R s m args below meth c H locs cells slots (vx_MQ below Qc XC args s mc ms free) (F0 m pc ls rest) q := by
  intro T hT X
  have hpl : e.platform.magicAccessors = ({} : Platform).magicAccessors := by rw [X.admits.platform]
  obtain ⟨vm', hW', X', st⟩ := X.outThrough hlocks q (g := F0 m pc ls rest) rfl rfl rfl (cell := ce) (by rw [hT]; exact hcell) (by rw [hv]; rfl)
    (by obtain ⟨k9, h9, -⟩ := Vm.findClass_spec hcl; exact ⟨k9, h9⟩) (fun z hz => by
      rcases hpass z hz with h | ⟨hz0, nm, hl1, hn1⟩
      · exact Or.inl h
      · obtain ⟨c6, hc6, hcl6⟩ := Cond.classLink_spec hown hl1 e.platform hpl
        obtain ⟨a8, b8, h1, h2, h3⟩ := hn1
        cases Option.some.inj (h1.symm.trans hcl)
        cases Option.some.inj (h2.symm.trans hc6)
        exact Or.inr ⟨hz0, _, hcl6, h3⟩)
  obtain ⟨g₀, hfr⟩ := X'.frames_eq
  have hcell9 : ((T.setVm vm').setFrames (.throwing q :: below)).heap[q]? = some ce := by
    show T.heap[q]? = some ce
    rw [hT]; exact hcell
  have hend : Ended ((T.setVm vm').setFrames (.throwing q :: below)) below (.threw q) := State.frames_setFrames _ (State.cur_lt_of_frames hfr)
  refine ⟨(T.setVm vm').setFrames (.throwing q :: below), ?_, .threw q, X'.here.running, hend, Or.inr ⟨q, rfl, E, ce, locs, hx _ hT (X'.ends _).1.alike, hcell9, hv, hcl, (X'.ends _).1, (X'.ends _).2.mono hc hs, hf⟩⟩
  rw [X.pushThrowing_eq]
  exact st
/-- a thing of a world lies in the heap -/
theorem vx_lt {D : va_G} {cl : List vw_C} {ws : va_W} {H1 : Heap} (h : va_P D cl ws H1) {k : Nat} {q : Nat × va_E} (hk : ws[k]? = some q) : q.1 < H1.size := (h k q hk).lt
end VXS
/-! ===== END ===== -/
/-! ===== BEGIN methods with a table of their own: called by a name, returning or throwing ===== -/
section VXH
/-! vx_backW, vx_callVX, vx_callSX, vx_callVW, vx_runVW, vx_runVX, vx_runSX, vx_ofWH follow the same proofs as their sisters above (Free/Laws.lean, Shelf42/LK1.lean); vx_outP calls Shelf42/NT130.lean (outThrough). -/
section
variable {l : Launch} {R : Room} {p : Program} {e : Env} {below : List Frame} {s : State} {sargs : Array Value} {y : MethodName} {len W9 : Nat}
theorem vx_backW {ws : List Cond} {rm : Room} {Pc : Array Value → State → Prop} {Qc : Array Value → State → Outcome → State → Prop} {XC : String → State → State → Prop} {mc ms : Nat} {free : Addr → Prop} {bytes : ByteArray} {maxL : Nat} {ret : Option FieldType} {hh : List (Nat × Nat × Nat × Nat)}
    (hM : vx_Met l y ws rm Pc Qc XC mc ms free) (hblind : FrameBlind Pc) (hrc : rm.cells = mc) (hrs : rm.slots = ms)
    (hframes : rm.frames + 1 ≤ R.frames) (hlocals : W9 + (maxL + 11) + rm.locals ≤ R.locals)
    (hws : ∀ w ∈ ws, ∀ a' U, s.WarmedH U.vm → w.before a' U = true) (hcode : Cond.codeWith y bytes maxL ret hh ∈ ws) (hinit : ∀ a' U, s.WarmedH U.vm → (Cond.initialized y.cls).before a' U = true) :
    vx_Back l R p e below s sargs y len W9 (PreOf R mc ms Pc) (PostOf Qc mc ms free) (vx_Post XC mc ms free) := by
  intro m meth c A g ig mk a X hg hsize hdg hW hn hp
  have h1 : (headSpec ws rm).pre.before a A.U = true := atoms_intro fun w hw => hws w hw _ _ X.warmed
  have h2 : (Cond.codeWith y bytes maxL ret hh).before a A.U = true := hws _ hcode _ _ X.warmed
  have h3 : (Cond.initialized y.cls).before a A.U = true := hinit _ _ X.warmed
  have h4 : A.cells + (headSpec ws rm).room.cells ≤ R.cells := by rw [show (headSpec ws rm).room.cells = mc from hrc]; exact hp.1
  have h5 : A.slots + (headSpec ws rm).room.slots ≤ R.slots := by rw [show (headSpec ws rm).room.slots = ms from hrs]; exact hp.2.1
  have hPc : Pc a (A.U.calling g mk a) := hblind _ _ _ _ hp.2.2
  obtain ⟨U, Ls, c0, s0⟩ := A
  dsimp only [Pt.U, Pt.locs, Pt.cells, Pt.slots] at h1 h2 h3 h4 h5 X hn hPc ⊢
  obtain ⟨m9, methY, cY, hn9, hmY, hcY, -, hlY, -⟩ := Cond.codeWith_spec h2
  cases Option.some.inj (hn9.symm.trans hn)
  obtain ⟨kY, hkY, -⟩ := className_of_methodNamed hn
  have hinitY : kY.init = .initialized := Cond.initialized_spec (findClass_of_methodNamed hn) hkY h3
  have h : At U g.method c below := by rw [hg]; exact X.here
  have hlocals9 : W9 + (maxL + 11) + (headSpec ws rm).room.locals ≤ R.locals := hlocals
  have happ : (headSpec ws rm).appliesLoose y e.platform (U.calling g mk a) = true :=
    Spec.appliesLoose_calling (g := g) h hdg hn hkY hinitY
      (X.room_calling (g := g) (R' := (headSpec ws rm).room) hsize hmY hcY hframes (by rw [hlY]; omega) h4 h5) h1
  obtain ⟨mid, hmid⟩ := h.above
  have hfr : (U.setTop g).frames = (.java g :: mid) ++ below := by rw [State.frames_setTop' g h.top, hmid]; rfl
  obtain ⟨o, s₂, hsteps, -, hend, hq⟩ := Steps.callFree hM p X.admits X.cas X.clock (acts := []) hfr happ hPc trivial
  have hq' : vx_Q Qc XC mc ms free a (U.calling g mk a) o s₂ := hq
  rw [State.frames_setTop' g h.top] at hend
  obtain ⟨g₀, hg0⟩ := Option.isSome_iff_exists.mp h.top
  obtain ⟨r, hr⟩ := State.topJava?_eq_some.mp hg0
  have hr' : (({ U with heap := s₂.heap, slotsUsed := s₂.slotsUsed } : State).setVm s₂.vm).frames = .java g₀ :: r := hr
  rcases hq' with ⟨hqc, L, hfe, hL⟩ | ⟨q, rfl, E, ce, L, hx, hce, hcv, hcl, hW₂, hsm, hL⟩
  · obtain ⟨⟨v, rfl⟩, hW₂, e2, q2, q3, q4, q5, q6⟩ := id hfe
    have e3 : s₂ = ({ (U.calling g mk a).setFrames s₂.frames with heap := s₂.heap, slotsUsed := s₂.slotsUsed } : State).setVm s₂.vm := by
      have : s₂ = ({ s₂ with vm := (U.calling g mk a).vm } : State).setVm s₂.vm := rfl
      rw [e2] at this
      exact this
    obtain ⟨c₂, i₂, len₂, hc₂, hd₂, hf₂⟩ := hend
    have hW' : U.WarmedH s₂.vm := hW₂
    have hcc : c₂ = c := by
      have h1 : s₂.code? g.method = U.code? g.method := by
        rw [State.code?_eq, State.code?_eq, hW'.alike.method?]
      exact Option.some.inj (hc₂.symm.trans (h1.trans h.code))
    subst hcc
    have hlen : len₂ = len := by rw [hdg] at hd₂; cases hd₂; rfl
    subst hlen
    have hs₂ : s₂ = (({ U with heap := s₂.heap, slotsUsed := s₂.slotsUsed } : State).setVm s₂.vm).setTop { g with pc := g.pc + len₂, stack := v.toList ++ g.stack } := by
      refine e3.trans ?_
      rw [hf₂, State.calling_eq h.top, State.setFrames_setFrames, State.setTop_of_frames _ hr', hr]
      rfl
    have hsame : U.sameButNew ({ U with heap := s₂.heap, slotsUsed := s₂.slotsUsed } : State) L mc ms := by
      refine ⟨?_, q2, q3, q4, q5, q6⟩
      obtain ⟨t, ht, -⟩ := State.frames_cons hr
      show ({ U with heap := s₂.heap, slotsUsed := s₂.slotsUsed } : State) = { U.setFrames U.frames with heap := s₂.heap, slotsUsed := s₂.slotsUsed }
      rw [State.setFrames_self ht]
    subst hg
    refine Or.inl ⟨v, ⟨(({ U with heap := s₂.heap, slotsUsed := s₂.slotsUsed } : State).setVm s₂.vm), Ls ++ L, c0 + mc, s0 + ms⟩,
      ⟨X.admits, X.cas, X.clock, X.frames, X.room, X.hears, X.method, X.code, (X.here.setHeapUsed s₂.heap s₂.slotsUsed).setVm hW'.alike, X.tail, State.WarmedH.trans X.warmed hW', X.limits, X.bytes, X.same.trans (hsame.setVm s.vm)⟩,
      ⟨g, mk, s₂, L, rfl, rfl, hqc, rfl, hL, rfl, rfl⟩, ?_⟩
    show Steps p.tables e below _ ((({ U with heap := s₂.heap, slotsUsed := s₂.slotsUsed } : State).setVm s₂.vm).setTop { g with pc := g.pc + len₂, stack := v.toList ++ g.stack })
    rw [← hs₂]
    exact hsteps
  · obtain ⟨e2, q2, q3, q4, q5, q6⟩ := id hsm
    have e3 : s₂ = ({ (U.calling g mk a).setFrames s₂.frames with heap := s₂.heap, slotsUsed := s₂.slotsUsed } : State).setVm s₂.vm := by
      have : s₂ = ({ s₂ with vm := (U.calling g mk a).vm } : State).setVm s₂.vm := rfl
      rw [e2] at this
      exact this
    have hf₂ : s₂.frames = .throwing q :: .java g :: U.frames.tail := hend
    have hW' : U.WarmedH s₂.vm := hW₂
    have hs₂ : s₂ = ((({ U with heap := s₂.heap, slotsUsed := s₂.slotsUsed } : State).setVm s₂.vm).setTop g).pushFrame (.throwing q) := by
      refine e3.trans ?_
      rw [hf₂, State.calling_eq h.top, State.setFrames_setFrames, State.pushFrame, State.frames_setTop _ hr', State.setTop_of_frames _ hr', State.setFrames_setFrames, hr]
      rfl
    have hsame : U.sameButNew ({ U with heap := s₂.heap, slotsUsed := s₂.slotsUsed } : State) L mc ms := by
      refine ⟨?_, q2, q3, q4, q5, q6⟩
      obtain ⟨t, ht, -⟩ := State.frames_cons hr
      show ({ U with heap := s₂.heap, slotsUsed := s₂.slotsUsed } : State) = { U.setFrames U.frames with heap := s₂.heap, slotsUsed := s₂.slotsUsed }
      rw [State.setFrames_self ht]
    subst hg
    refine Or.inr ⟨q, ⟨(({ U with heap := s₂.heap, slotsUsed := s₂.slotsUsed } : State).setVm s₂.vm), Ls ++ L, c0 + mc, s0 + ms⟩,
      ⟨X.admits, X.cas, X.clock, X.frames, X.room, X.hears, X.method, X.code, (X.here.setHeapUsed s₂.heap s₂.slotsUsed).setVm hW'.alike, X.tail, State.WarmedH.trans X.warmed hW', X.limits, X.bytes, X.same.trans (hsame.setVm s.vm)⟩,
      ⟨g, mk, s₂, L, E, ce, rfl, rfl, hx, hce, hcv, hcl, rfl, hL, rfl, rfl⟩, ?_⟩
    show Steps p.tables e below _ (((({ U with heap := s₂.heap, slotsUsed := s₂.slotsUsed } : State).setVm s₂.vm).setTop g).pushFrame (.throwing q))
    rw [← hs₂]
    exact hsteps
end
variable {p : Program} {l : Launch} {e : Env} {R : Room} {s : State} {m : MethodId} {args : Array Value} {below : List Frame} {meth : Method} {c : Code} {T : State} {H : Heap} {locs : List Loc} {cells slots : Nat}
theorem vx_callVX (X : Stand p l e R s m args below meth c T locs cells slots) (hexec : p.tables.exec = Jvm.exec) {own C : String} {index : Nat} {y : MethodName} {bytes : ByteArray} {maxL : Nat} {ret : Option FieldType} {hh : List (Nat × Nat × Nat × Nat)}
    (hown : s.vm.findClass own = some m.cls) (hlink : (Cond.methodLink own index y).before args s = true) (hinst : (Cond.instanceMethod y).before args s = true) (hsel : (Cond.selects C y y).before args s = true)
    (hcode : (Cond.codeWith y bytes maxL ret hh).before args s = true) (hy : y.cls ≠ "java/lang/invoke/MethodHandle" ∧ y.cls ≠ "java/lang/invoke/VarHandle")
    {W9 : Nat} {Pre : Pt → Array Value → Prop} {Post : Pt → Array Value → Option Value → Pt → Prop} {PostX : Pt → Array Value → Addr → Pt → Prop} (hK : vx_Back l R p e below s args y 3 W9 Pre Post PostX)
    {b : Addr} {cellB : Cell} (hcell : T.heap[b]? = some cellB) (hobj : cellB.vm.isStatics = false) (hcls : s.vm.findClass C = some cellB.cls)
    {g : JFrame} (hg : g.method = m) (hsize : g.locals.size = c.maxLocals) {argsL rest : List Value} (hlen : ∀ sig, parseMethodDescriptor y.desc = some sig → argsL.length = sig.parameters.length)
    (hstack : g.stack = argsL.reverse ++ .ref b :: rest) (hW : 2 * g.monitorRoom + (rest.map fun v => v.category).sum ≤ W9) (hdg : decode c.code g.pc = .ok (.invokevirtual index, 3))
    (hpre : ∀ vm₁, s.WarmedH vm₁ → Pre ⟨T.setVm vm₁, locs, cells, slots⟩ (Value.ref b :: argsL).toArray) :
    (∃ (v : Option Value) (vm₁ : Vm) (B : Pt), s.WarmedH vm₁ ∧ Stand p l e R s m args below meth c B.U B.locs B.cells B.slots ∧ Post ⟨T.setVm vm₁, locs, cells, slots⟩ (Value.ref b :: argsL).toArray v B ∧
      ∀ target, Steps p.tables e below (B.U.setTop { g with pc := g.pc + 3, stack := v.toList ++ rest }) target → Steps p.tables e below (T.setTop g) target) ∨
    (∃ (q : Addr) (vm₁ : Vm) (B : Pt), s.WarmedH vm₁ ∧ Stand p l e R s m args below meth c B.U B.locs B.cells B.slots ∧ PostX ⟨T.setVm vm₁, locs, cells, slots⟩ (Value.ref b :: argsL).toArray q B ∧
      Steps p.tables e below (T.setTop g) ((B.U.setTop { g with stack := rest }).pushFrame (.throwing q))) := by
  obtain ⟨mk, methM, hnamed, hmethM, hstM, habM⟩ := Cond.instanceMethod_spec hinst
  obtain ⟨m8, methM', cM, hn8, hmethM', -, -, -, -, -, -, hsigM⟩ := Cond.codeWith_spec hcode
  cases Option.some.inj (hn8.symm.trans hnamed)
  cases hmethM.symm.trans hmethM'
  obtain ⟨c2, r2, m2, q1, q2, q3, q4, kP, hkP, hkPi⟩ := Cond.selects_spec hsel
  cases hcls.symm.trans q1
  cases (State.methodFound?_of_named hnamed hy).symm.trans q2
  cases hnamed.symm.trans q3
  have hselP : selectMethod e.platform s.vm cellB.cls mk = .method mk := by rw [Launch.admits_selectMethod X.admits]; exact q4
  obtain ⟨vm₁, X₁, hstep₁⟩ := X.invokevirtual hexec hown hlink hnamed hmethM hstM hkP hkPi hy (a := b) (cell := cellB) hcell
    (fun z h => by rw [h] at hobj; cases hobj) hselP hmethM habM hkP hkPi (g := g) hg (argsL := argsL) (rest := rest) (hlen _ hsigM) hstack hdg
  rcases hK m meth c ⟨T.setVm vm₁, locs, cells, slots⟩ { g with stack := rest } (.invokevirtual index) mk (Value.ref b :: argsL).toArray X₁ hg hsize hdg hW (X₁.named hnamed) (hpre vm₁ X₁.warmed) with ⟨v, B, X', hpost, hsteps⟩ | ⟨q, B, X', hpost, hsteps⟩
  · exact Or.inl ⟨v, vm₁, B, X₁.warmed, X', hpost, fun target h => hstep₁ _ fun acts => by rw [doInvoke_state]; exact hsteps.trans h⟩
  · exact Or.inr ⟨q, vm₁, B, X₁.warmed, X', hpost, hstep₁ _ fun acts => by rw [doInvoke_state]; exact hsteps⟩
theorem vx_callSX (X : Stand p l e R s m args below meth c T locs cells slots) (hexec : p.tables.exec = Jvm.exec) {own : String} {index : Nat} {y : MethodName} {bytes : ByteArray} {maxL : Nat} {ret : Option FieldType} {hh : List (Nat × Nat × Nat × Nat)}
    (hown : s.vm.findClass own = some m.cls) (hlink : (Cond.methodLink own index y).before args s = true) (hstat : (Cond.static y).before args s = true) (hinit : (Cond.initialized y.cls).before args s = true)
    (hcode : (Cond.codeWith y bytes maxL ret hh).before args s = true) (hy : y.cls ≠ "java/lang/invoke/MethodHandle" ∧ y.cls ≠ "java/lang/invoke/VarHandle")
    {W9 : Nat} {Pre : Pt → Array Value → Prop} {Post : Pt → Array Value → Option Value → Pt → Prop} {PostX : Pt → Array Value → Addr → Pt → Prop} (hK : vx_Back l R p e below s args y 3 W9 Pre Post PostX)
    {g : JFrame} (hg : g.method = m) (hsize : g.locals.size = c.maxLocals) {argsL rest : List Value} (hlen : ∀ sig, parseMethodDescriptor y.desc = some sig → argsL.length = sig.parameters.length)
    (hstack : g.stack = argsL.reverse ++ rest) (hW : 2 * g.monitorRoom + (rest.map fun v => v.category).sum ≤ W9) (hdg : decode c.code g.pc = .ok (.invokestatic index, 3))
    (hpre : ∀ vm₁, s.WarmedH vm₁ → Pre ⟨T.setVm vm₁, locs, cells, slots⟩ argsL.toArray) :
    (∃ (v : Option Value) (vm₁ : Vm) (B : Pt), s.WarmedH vm₁ ∧ Stand p l e R s m args below meth c B.U B.locs B.cells B.slots ∧ Post ⟨T.setVm vm₁, locs, cells, slots⟩ argsL.toArray v B ∧
      ∀ target, Steps p.tables e below (B.U.setTop { g with pc := g.pc + 3, stack := v.toList ++ rest }) target → Steps p.tables e below (T.setTop g) target) ∨
    (∃ (q : Addr) (vm₁ : Vm) (B : Pt), s.WarmedH vm₁ ∧ Stand p l e R s m args below meth c B.U B.locs B.cells B.slots ∧ PostX ⟨T.setVm vm₁, locs, cells, slots⟩ argsL.toArray q B ∧
      Steps p.tables e below (T.setTop g) ((B.U.setTop { g with stack := rest }).pushFrame (.throwing q))) := by
  obtain ⟨mk, methM, cM, hnamed, hmethM, -, -, -, -, -, -, hsigM⟩ := Cond.codeWith_spec hcode
  have hstatic : methM.isStatic = true := Cond.static_spec hnamed hmethM hstat
  obtain ⟨kP, hkP, -⟩ := className_of_methodNamed hnamed
  have hinitP : kP.init = .initialized := Cond.initialized_spec (findClass_of_methodNamed hnamed) hkP hinit
  obtain ⟨vm₁, X₁, hstep₁⟩ := X.invokestatic hexec hown hlink hnamed hmethM hstatic hkP hinitP hy (g := g) hg (argsL := argsL) (rest := rest) (hlen _ hsigM) hstack hdg
  rcases hK m meth c ⟨T.setVm vm₁, locs, cells, slots⟩ { g with stack := rest } (.invokestatic index) mk argsL.toArray X₁ hg hsize hdg hW (X₁.named hnamed) (hpre vm₁ X₁.warmed) with ⟨v, B, X', hpost, hsteps⟩ | ⟨q, B, X', hpost, hsteps⟩
  · exact Or.inl ⟨v, vm₁, B, X₁.warmed, X', hpost, fun target h => hstep₁ _ fun acts => by rw [doInvoke_state]; exact hsteps.trans h⟩
  · exact Or.inr ⟨q, vm₁, B, X₁.warmed, X', hpost, hstep₁ _ fun acts => by rw [doInvoke_state]; exact hsteps⟩
theorem vx_callVW (X : Stand p l e R s m args below meth c T locs cells slots) (hexec : p.tables.exec = Jvm.exec) {own C : String} {index : Nat} {y : MethodName} {bytes : ByteArray} {maxL : Nat} {ret : Option FieldType} {hh : List (Nat × Nat × Nat × Nat)}
    (hown : s.vm.findClass own = some m.cls) (hlink : (Cond.methodLink own index y).before args s = true) (hinst : (Cond.instanceMethod y).before args s = true) (hsel : (Cond.selects C y y).before args s = true)
    (hcode : (Cond.codeWith y bytes maxL ret hh).before args s = true) (hy : y.cls ≠ "java/lang/invoke/MethodHandle" ∧ y.cls ≠ "java/lang/invoke/VarHandle")
    {W9 : Nat} {Pre : Pt → Array Value → Prop} {Post : Pt → Array Value → Option Value → Pt → Prop} (hK : Back l R p e below s args y 3 W9 Pre Post)
    {b : Addr} {cellB : Cell} (hcell : T.heap[b]? = some cellB) (hobj : cellB.vm.isStatics = false) (hcls : s.vm.findClass C = some cellB.cls)
    {g : JFrame} (hg : g.method = m) (hsize : g.locals.size = c.maxLocals) {argsL rest : List Value} (hlen : ∀ sig, parseMethodDescriptor y.desc = some sig → argsL.length = sig.parameters.length)
    (hstack : g.stack = argsL.reverse ++ .ref b :: rest) (hW : 2 * g.monitorRoom + (rest.map fun v => v.category).sum ≤ W9) (hdg : decode c.code g.pc = .ok (.invokevirtual index, 3))
    (hpre : ∀ vm₁, s.WarmedH vm₁ → Pre ⟨T.setVm vm₁, locs, cells, slots⟩ (Value.ref b :: argsL).toArray) :
    ∃ (v : Option Value) (vm₁ : Vm) (B : Pt), s.WarmedH vm₁ ∧ Stand p l e R s m args below meth c B.U B.locs B.cells B.slots ∧ Post ⟨T.setVm vm₁, locs, cells, slots⟩ (Value.ref b :: argsL).toArray v B ∧
      ∀ target, Steps p.tables e below (B.U.setTop { g with pc := g.pc + 3, stack := v.toList ++ rest }) target → Steps p.tables e below (T.setTop g) target := by
  obtain ⟨mk, methM, hnamed, hmethM, hstM, habM⟩ := Cond.instanceMethod_spec hinst
  obtain ⟨m8, methM', cM, hn8, hmethM', -, -, -, -, -, -, hsigM⟩ := Cond.codeWith_spec hcode
  cases Option.some.inj (hn8.symm.trans hnamed)
  cases hmethM.symm.trans hmethM'
  obtain ⟨c2, r2, m2, q1, q2, q3, q4, kP, hkP, hkPi⟩ := Cond.selects_spec hsel
  cases hcls.symm.trans q1
  cases (State.methodFound?_of_named hnamed hy).symm.trans q2
  cases hnamed.symm.trans q3
  have hselP : selectMethod e.platform s.vm cellB.cls mk = .method mk := by rw [Launch.admits_selectMethod X.admits]; exact q4
  obtain ⟨vm₁, X₁, hstep₁⟩ := X.invokevirtual hexec hown hlink hnamed hmethM hstM hkP hkPi hy (a := b) (cell := cellB) hcell
    (fun z h => by rw [h] at hobj; cases hobj) hselP hmethM habM hkP hkPi (g := g) hg (argsL := argsL) (rest := rest) (hlen _ hsigM) hstack hdg
  obtain ⟨v, B, X', hpost, hsteps⟩ := hK m meth c ⟨T.setVm vm₁, locs, cells, slots⟩ { g with stack := rest } (.invokevirtual index) mk (Value.ref b :: argsL).toArray X₁ hg hsize hdg hW (X₁.named hnamed) (hpre vm₁ X₁.warmed)
  exact ⟨v, vm₁, B, X₁.warmed, X', hpost, fun target h => hstep₁ _ fun acts => by rw [doInvoke_state]; exact hsteps.trans h⟩
abbrev vx_CVW (R : Room) (s : State) (args : Array Value) (own C : String) (index : Nat) (y : MethodName) (bytes : ByteArray) (maxL : Nat) (ret : Option FieldType) (hh : List (Nat × Nat × Nat × Nat)) (ws : List Cond) (rm : Room) (mc ms n : Nat) : Prop :=
  (rm.cells = mc ∧ rm.slots = ms ∧ rm.frames + 1 ≤ R.frames ∧ 8 + (maxL + 11) + rm.locals ≤ R.locals ∧ (∀ w ∈ ws, ∀ (a' : Array Value) (U : State), s.WarmedH U.vm → w.before a' U = true) ∧ Cond.codeWith y bytes maxL ret hh ∈ ws) ∧
  (Cond.codeWith y bytes maxL ret hh).before args s = true ∧ (Cond.initialized y.cls).before args s = true ∧ (y.cls ≠ "java/lang/invoke/MethodHandle" ∧ y.cls ≠ "java/lang/invoke/VarHandle") ∧
  (∀ sig, parseMethodDescriptor y.desc = some sig → n = sig.parameters.length) ∧ (Cond.methodLink own index y).before args s = true ∧ (Cond.instanceMethod y).before args s = true ∧ (Cond.selects C y y).before args s = true
theorem vx_cwVW {own C : String} {index maxL mc ms : Nat} {y : MethodName} {bytes : ByteArray} {ret : Option FieldType} {hh : List (Nat × Nat × Nat × Nat)} {Ts ws ws' : List Cond} {rm : Room} (n : Nat) (ht : ∀ w ∈ Ts, w.before args s = true) (hT : GoodIn Ts (wsV own index C y ws)) (hw : ws = Cond.codeWith y bytes maxL ret hh :: ws') (hrc : rm.cells = mc) (hrs : rm.slots = ms)
    (hd : y.cls = C ∧ y.cls ≠ "java/lang/invoke/MethodHandle" ∧ y.cls ≠ "java/lang/invoke/VarHandle" ∧ (parseMethodDescriptor y.desc).map (fun d => d.parameters.length) = some n) (hR : rm.frames + 1 ≤ R.frames ∧ 8 + (maxL + 11) + rm.locals ≤ R.locals) :
    vx_CVW R s args own C index y bytes maxL ret hh ws rm mc ms n := by
  obtain ⟨hC, hd⟩ := hd
  subst hC
  have ok : ∀ w ∈ wsV own index y.cls y ws, w.before args s = true := fun w h => ht w (hT w h).1
  have hG : GoodIn Ts ws := fun w h => hT w (by unfold wsV; exact List.mem_append_right _ h)
  have hc : Cond.codeWith y bytes maxL ret hh ∈ ws := by rw [hw]; exact List.mem_cons_self
  refine ⟨⟨hrc, hrs, hR.1, hR.2, pay_in ht hG, hc⟩, ht _ (hG _ hc).1, ok _ (by simp [wsV]), ⟨hd.1, hd.2.1⟩, fun sig h => ?_, ok _ (by simp [wsV]), ok _ (by simp [wsV]), ok _ (by simp [wsV])⟩
  have h2 := hd.2.2
  rw [h] at h2
  exact (Option.some.inj h2).symm
theorem vx_runVW {y : MethodName} {bytes cc : ByteArray} {maxL nL mc ms n index : Nat} {ret : Option FieldType} {hh : List (Nat × Nat × Nat × Nat)} {ws : List Cond} {rm : Room} {Pc : Array Value → State → Prop} {Qc : Array Value → State → Outcome → State → Prop} {free : Addr → Prop} {Ts : List Cond} {own C : String} {b : Addr} {As rest : List Value} {g : JFrame}
    (S : CallFix p m c cc nL s args Ts own) (hM : Met l y ws rm Pc Qc mc ms free) (cw : vx_CVW R s args own C index y bytes maxL ret hh ws rm mc ms n) (hp : PreV s H C b Pc As)
    (hg : g.method = m) (hn : As.length = n) (hsize : g.locals.size = nL) (hstack : g.stack = As.reverse ++ .ref b :: rest) (hW : 2 * g.monitorRoom + (rest.map fun v => v.category).sum ≤ 8) (hdg : decode cc g.pc = .ok (.invokevirtual index, 3)) (hf : cells + mc ≤ R.cells ∧ slots + ms ≤ R.slots) :
    va_Run p l e R s m args below meth c H locs cells slots mc ms g rest (Qc (Value.ref b :: As).toArray) free := by
  obtain ⟨⟨hrc, hrs, hfr, hlo, hws, hcw⟩, hcode, hini, hy, hlen, hl, hin, hse⟩ := cw
  have hK : Back l R p e below s args y 3 8 (PreOf R mc ms Pc) (PostOf Qc mc ms free) := va_backW (hh := hh) (bytes := bytes) (maxL := maxL) (ret := ret) hM hp.1 hrc hrs hfr hlo hws hcw (fun a' U hW => word_at hW (Or.inl (by first | rfl | simp [Cond.onTables, Cond.keeps, Cond.steady])) hini)
  obtain ⟨hx, hb, hml, ho, -⟩ := S
  obtain ⟨-, ⟨cellB, hcB, hoB, hclB⟩, hPc⟩ := hp
  intro T hT X
  obtain ⟨v, vm₁, ⟨U', l2, c2, s2⟩, hW₁, X', ⟨g', mk, t, L, e1, e2, hq, h1, hL, h2, h3⟩, st⟩ := vx_callVW X hx (C := C) (hh := hh) (bytes := bytes) (maxL := maxL) (ret := ret) ho hl hin hse hcode hy hK (by rw [hT]; exact hcB) hoB hclB hg (hsize.trans hml.symm) (argsL := As) (rest := rest) (fun sig h => hn.trans (hlen sig h)) hstack hW (by rw [hb]; exact hdg)
    (fun vm₁ hW₁ => ⟨hf.1, hf.2, hPc (T.setVm vm₁) hT hW₁⟩)
  dsimp only [Pt.U, Pt.locs, Pt.cells, Pt.slots] at X' e1 e2 h1 h2 h3 st
  subst h1; subst h2; subst h3
  exact ⟨v, (T.setVm vm₁).calling g' mk (Value.ref b :: As).toArray, t, U', L, hT, X', hL, e1, e2, hq, st⟩
section
variable {y : MethodName} {bytes cc : ByteArray} {maxL nL mc ms n index : Nat} {ret : Option FieldType} {ws : List Cond} {rm : Room} {Pc : Array Value → State → Prop} {Qc : Array Value → State → Outcome → State → Prop} {XC : String → State → State → Prop} {free : Addr → Prop} {Ts : List Cond} {own C : String} {b : Addr} {As rest : List Value} {g : JFrame}
theorem vx_runVX {hh : List (Nat × Nat × Nat × Nat)} (S : CallFix p m c cc nL s args Ts own) (hM : vx_Met l y ws rm Pc Qc XC mc ms free) (cw : vx_CVW R s args own C index y bytes maxL ret hh ws rm mc ms n) (hp : PreV s H C b Pc As)
    (hg : g.method = m) (hn : As.length = n) (hsize : g.locals.size = nL) (hstack : g.stack = As.reverse ++ .ref b :: rest) (hW : 2 * g.monitorRoom + (rest.map fun v => v.category).sum ≤ 8) (hdg : decode cc g.pc = .ok (.invokevirtual index, 3)) (hf : cells + mc ≤ R.cells ∧ slots + ms ≤ R.slots) :
    vx_Run p l e R s m args below meth c H locs cells slots mc ms g rest (Qc (Value.ref b :: As).toArray) XC free := by
  obtain ⟨⟨hrc, hrs, hfr, hlo, hws, hcw⟩, hcode, hini, hy, hlen, hl, hin, hse⟩ := cw
  have hK : vx_Back l R p e below s args y 3 8 (PreOf R mc ms Pc) (PostOf Qc mc ms free) (vx_Post XC mc ms free) := vx_backW (hh := hh) (bytes := bytes) (maxL := maxL) (ret := ret) hM hp.1 hrc hrs hfr hlo hws hcw (fun a' U hW => word_at hW (Or.inl (by first | rfl | simp [Cond.onTables, Cond.keeps, Cond.steady])) hini)
  obtain ⟨hx, hb, hml, ho, -⟩ := S
  obtain ⟨-, ⟨cellB, hcB, hoB, hclB⟩, hPc⟩ := hp
  intro T hT X
  rcases vx_callVX X hx (C := C) (hh := hh) (bytes := bytes) (maxL := maxL) (ret := ret) ho hl hin hse hcode hy hK (by rw [hT]; exact hcB) hoB hclB hg (hsize.trans hml.symm) (argsL := As) (rest := rest) (fun sig h => hn.trans (hlen sig h)) hstack hW (by rw [hb]; exact hdg)
    (fun vm₁ hW₁ => ⟨hf.1, hf.2, hPc (T.setVm vm₁) hT hW₁⟩) with ⟨v, vm₁, ⟨U', l2, c2, s2⟩, hW₁, X', ⟨g', mk, t, L, e1, e2, hq, h1, hL, h2, h3⟩, st⟩ | ⟨q, vm₁, ⟨U', l2, c2, s2⟩, hW₁, X', ⟨g', mk, t, L, E, ce, e1, e2, hq, hce, hcv, hcl, h1, hL, h2, h3⟩, st⟩
  · dsimp only [Pt.U, Pt.locs, Pt.cells, Pt.slots] at X' e1 e2 h1 h2 h3 st
    subst h1; subst h2; subst h3
    exact Or.inl ⟨v, (T.setVm vm₁).calling g' mk (Value.ref b :: As).toArray, t, U', L, hT, X', hL, e1, e2, hq, st⟩
  · dsimp only [Pt.U, Pt.locs, Pt.cells, Pt.slots] at X' e1 e2 h1 h2 h3 st hcl
    subst h1; subst h2; subst h3
    exact Or.inr ⟨q, (T.setVm vm₁).calling g' mk (Value.ref b :: As).toArray, t, U', L, E, ce, hT, X', hL, e1, e2, hq, hce, hcv, vx_cls hW₁ hcl, st⟩
theorem vx_runSX {hh : List (Nat × Nat × Nat × Nat)} (S : CallFix p m c cc nL s args Ts own) (hM : vx_Met l y ws rm Pc Qc XC mc ms free) (cw : vx_CSW R s args own index y bytes maxL ret hh ws rm mc ms n) (hp : PreS s H Pc As)
    (hg : g.method = m) (hn : As.length = n) (hsize : g.locals.size = nL) (hstack : g.stack = As.reverse ++ rest) (hW : 2 * g.monitorRoom + (rest.map fun v => v.category).sum ≤ 8) (hdg : decode cc g.pc = .ok (.invokestatic index, 3)) (hf : cells + mc ≤ R.cells ∧ slots + ms ≤ R.slots) :
    vx_Run p l e R s m args below meth c H locs cells slots mc ms g rest (Qc As.toArray) XC free := by
  obtain ⟨⟨hrc, hrs, hfr, hlo, hws, hcw⟩, hcode, hini, hy, hlen, hl, hstt⟩ := cw
  have hK : vx_Back l R p e below s args y 3 8 (PreOf R mc ms Pc) (PostOf Qc mc ms free) (vx_Post XC mc ms free) := vx_backW (hh := hh) (bytes := bytes) (maxL := maxL) (ret := ret) hM hp.1 hrc hrs hfr hlo hws hcw (fun a' U hW => word_at hW (Or.inl (by first | rfl | simp [Cond.onTables, Cond.keeps, Cond.steady])) hini)
  obtain ⟨hx, hb, hml, ho, -⟩ := S
  intro T hT X
  rcases vx_callSX X hx (hh := hh) (bytes := bytes) (maxL := maxL) (ret := ret) ho hl hstt hini hcode hy hK hg (hsize.trans hml.symm) (argsL := As) (rest := rest) (fun sig h => hn.trans (hlen sig h)) hstack hW (by rw [hb]; exact hdg)
    (fun vm₁ hW₁ => ⟨hf.1, hf.2, hp.2 (T.setVm vm₁) hT hW₁⟩) with ⟨v, vm₁, ⟨U', l2, c2, s2⟩, hW₁, X', ⟨g', mk, t, L, e1, e2, hq, h1, hL, h2, h3⟩, st⟩ | ⟨q, vm₁, ⟨U', l2, c2, s2⟩, hW₁, X', ⟨g', mk, t, L, E, ce, e1, e2, hq, hce, hcv, hcl, h1, hL, h2, h3⟩, st⟩
  · dsimp only [Pt.U, Pt.locs, Pt.cells, Pt.slots] at X' e1 e2 h1 h2 h3 st
    subst h1; subst h2; subst h3
    exact Or.inl ⟨v, (T.setVm vm₁).calling g' mk As.toArray, t, U', L, hT, X', hL, e1, e2, hq, st⟩
  · dsimp only [Pt.U, Pt.locs, Pt.cells, Pt.slots] at X' e1 e2 h1 h2 h3 st hcl
    subst h1; subst h2; subst h3
    exact Or.inr ⟨q, (T.setVm vm₁).calling g' mk As.toArray, t, U', L, E, ce, hT, X', hL, e1, e2, hq, hce, hcv, vx_cls hW₁ hcl, st⟩
end
end VXH
theorem vx_ofWH {l : Launch} {y : MethodName} {ws ws' : List Cond} {rm : Room} {Pc : Array Value → State → Prop} {Qc : Array Value → State → Outcome → State → Prop} {XC : String → State → State → Prop} {mc ms : Nat} {free : Addr → Prop} {cc : ByteArray} {maxL : Nat} {ret : Option FieldType} {hh : List (Nat × Nat × Nat × Nat)}
    (hy : plainName y.cls = true) (hw : ws = Cond.codeWith y cc maxL ret hh :: ws')
    (body : ∀ p e s m args below meth c s₁, BodyLoose p l y (headSpec ws rm) cc maxL ret e s m args below meth c s₁ → c.maxLocals = maxL → Pc args s →
      W p l e (headSpec ws rm).room s m args below meth c s.heap [] 0 0 (vx_MQ below Qc XC args s mc ms free) (entryFrame m args maxL)) : vx_Met l y ws rm Pc Qc XC mc ms free := by
  refine MetFree.of_bodyS (code := cc) (maxLocals := maxL) (ret := ret) hy ?_ ?_
  · intro args s m h hn
    obtain ⟨m9, meth, c, hn9, h1, h2, h3, h4, -, h5, h6, -⟩ := Cond.codeWith_spec (atoms_spec (ws := ws) h _ (by rw [hw]; exact List.mem_cons_self))
    cases hn.symm.trans hn9
    exact ⟨meth, c, h1, h2, h3, h4, h5, h6⟩
  · intro p e s m args below meth c s₁ B hml hP _
    have hh0 : s₁.heap = s.heap := by rw [B.state]; rfl
    obtain ⟨t, a1, o, b1, b2, b3⟩ := body p e s m args below meth c s₁ B hml hP s₁ hh0 (Stand.of_body B)
    exact ⟨t, o, a1, b1, b2, b3⟩
/-! ===== END ===== -/
end
section
def RX0 : String := "MemoryDesk$Band"
def TX0 : u_T := fun k => match k with
  | 0 => ("MemoryDesk$Band", "percent", "I", false)
  | 1 => ("MemoryDesk$Band", "words", "I", false)
  | _ => ("MemoryDesk$Band", "money", "I", false)
def tyX0 : Nat → FieldType := fun k => match k with
  | 0 => .int
  | 1 => .int
  | _ => .int
abbrev wsX00 : List Cond := u_ws RX0 TX0 3
theorem nmX0 : ∀ a, a < 3 → ∀ b, b < 3 → a ≠ b → (TX0 a).2.1 ≠ (TX0 b).2.1 := by decide +kernel
theorem tyX0_ok : ∀ k, k < 3 → parseFieldDescriptor (TX0 k).2.2.1 = some (tyX0 k) := by decide +kernel
abbrev cX0_init : ByteArray := prog_2_method_1_code
def yX0_init : MethodName := ⟨RX0, "<init>", "(I)V"⟩
abbrev cX0_copyFrom : ByteArray := prog_2_method_2_code
def yX0_copyFrom : MethodName := ⟨RX0, "copyFrom", "(LMemoryDesk$Band;)V"⟩
def RX1 : String := "MemoryDesk$Buffer"
def TX1 : u_T := fun k => match k with
  | 0 => ("MemoryDesk$Buffer", "codes", "[I", true)
  | _ => ("MemoryDesk$Buffer", "length", "I", false)
def tyX1 : Nat → FieldType := fun k => match k with
  | 0 => .array .int
  | _ => .int
abbrev wsX10 : List Cond := u_ws RX1 TX1 2
theorem nmX1 : ∀ a, a < 2 → ∀ b, b < 2 → a ≠ b → (TX1 a).2.1 ≠ (TX1 b).2.1 := by decide +kernel
theorem tyX1_ok : ∀ k, k < 2 → parseFieldDescriptor (TX1 k).2.2.1 = some (tyX1 k) := by decide +kernel
abbrev cX1_init : ByteArray := prog_3_method_1_code
def yX1_init : MethodName := ⟨RX1, "<init>", "()V"⟩
abbrev cX1_isLetter : ByteArray := prog_3_method_2_code
def yX1_isLetter : MethodName := ⟨RX1, "isLetter", "(I)Z"⟩
abbrev cX1_firstFault : ByteArray := prog_3_method_3_code
def yX1_firstFault : MethodName := ⟨RX1, "firstFault", "()I"⟩
abbrev cX1_isComplete : ByteArray := prog_3_method_4_code
def yX1_isComplete : MethodName := ⟨RX1, "isComplete", "()Z"⟩
abbrev cX1_rowCount : ByteArray := prog_3_method_5_code
def yX1_rowCount : MethodName := ⟨RX1, "rowCount", "()I"⟩
abbrev cX1_endOfRow : ByteArray := prog_3_method_6_code
def yX1_endOfRow : MethodName := ⟨RX1, "endOfRow", "(I)I"⟩
def RX2 : String := "MemoryDesk$History"
def TX2 : u_T := fun k => match k with
  | 0 => ("MemoryDesk$History", "states", "[LMemoryDesk$State;", true)
  | 1 => ("MemoryDesk$History", "first", "I", false)
  | _ => ("MemoryDesk$History", "length", "I", false)
def tyX2 : Nat → FieldType := fun k => match k with
  | 0 => .array (.object "MemoryDesk$State")
  | 1 => .int
  | _ => .int
abbrev wsX20 : List Cond := u_ws RX2 TX2 3
theorem nmX2 : ∀ a, a < 3 → ∀ b, b < 3 → a ≠ b → (TX2 a).2.1 ≠ (TX2 b).2.1 := by decide +kernel
theorem tyX2_ok : ∀ k, k < 3 → parseFieldDescriptor (TX2 k).2.2.1 = some (tyX2 k) := by decide +kernel
abbrev cX2_init : ByteArray := prog_4_method_1_code
def yX2_init : MethodName := ⟨RX2, "<init>", "()V"⟩
abbrev cX2_save : ByteArray := prog_4_method_2_code
def yX2_save : MethodName := ⟨RX2, "save", "(LMemoryDesk$State;)V"⟩
abbrev cX2_restore : ByteArray := prog_4_method_3_code
def yX2_restore : MethodName := ⟨RX2, "restore", "(LMemoryDesk$State;)V"⟩
def RX3 : String := "MemoryDesk$Memory"
def TX3 : u_T := fun k => match k with
  | 0 => ("MemoryDesk$Memory", "rows", "[LMemoryDesk$Row;", true)
  | _ => ("MemoryDesk$Memory", "length", "I", false)
def tyX3 : Nat → FieldType := fun k => match k with
  | 0 => .array (.object "MemoryDesk$Row")
  | _ => .int
abbrev wsX30 : List Cond := u_ws RX3 TX3 2
theorem nmX3 : ∀ a, a < 2 → ∀ b, b < 2 → a ≠ b → (TX3 a).2.1 ≠ (TX3 b).2.1 := by decide +kernel
theorem tyX3_ok : ∀ k, k < 2 → parseFieldDescriptor (TX3 k).2.2.1 = some (tyX3 k) := by decide +kernel
abbrev cX3_init : ByteArray := prog_5_method_1_code
def yX3_init : MethodName := ⟨RX3, "<init>", "(LMemoryDesk$Row;)V"⟩
abbrev cX3_copyFrom : ByteArray := prog_5_method_2_code
def yX3_copyFrom : MethodName := ⟨RX3, "copyFrom", "(LMemoryDesk$Memory;)V"⟩
abbrev cX3_remember : ByteArray := prog_5_method_3_code
def yX3_remember : MethodName := ⟨RX3, "remember", "(LMemoryDesk$Row;)V"⟩
abbrev cX3_dropFirst : ByteArray := prog_5_method_4_code
def yX3_dropFirst : MethodName := ⟨RX3, "dropFirst", "()V"⟩
abbrev cX3_greatestMatch : ByteArray := prog_5_method_5_code
def yX3_greatestMatch : MethodName := ⟨RX3, "greatestMatch", "(LMemoryDesk$Row;I)I"⟩
abbrev cX3_bestRow : ByteArray := prog_5_method_6_code
def yX3_bestRow : MethodName := ⟨RX3, "bestRow", "(LMemoryDesk$Row;)I"⟩
abbrev cX3_greatestMatchAfter : ByteArray := prog_5_method_7_code
def yX3_greatestMatchAfter : MethodName := ⟨RX3, "greatestMatchAfter", "(LMemoryDesk$Row;LMemoryDesk$Row;)I"⟩
def RX4 : String := "MemoryDesk$Row"
def TX4 : u_T := fun k => match k with
  | 0 => ("MemoryDesk$Row", "length", "I", true)
  | 1 => ("MemoryDesk$Row", "words", "[I", true)
  | _ => ("MemoryDesk$Row", "places", "[I", true)
def tyX4 : Nat → FieldType := fun k => match k with
  | 0 => .int
  | 1 => .array .int
  | _ => .array .int
abbrev wsX40 : List Cond := u_ws RX4 TX4 3
theorem nmX4 : ∀ a, a < 3 → ∀ b, b < 3 → a ≠ b → (TX4 a).2.1 ≠ (TX4 b).2.1 := by decide +kernel
theorem tyX4_ok : ∀ k, k < 3 → parseFieldDescriptor (TX4 k).2.2.1 = some (tyX4 k) := by decide +kernel
abbrev cX4_init : ByteArray := prog_6_method_1_code
def yX4_init : MethodName := ⟨RX4, "<init>", "([III)V"⟩
abbrev cX4_wordAt : ByteArray := prog_6_method_2_code
def yX4_wordAt : MethodName := ⟨RX4, "wordAt", "(I)I"⟩
abbrev cX4_placeOf : ByteArray := prog_6_method_3_code
def yX4_placeOf : MethodName := ⟨RX4, "placeOf", "(II)I"⟩
abbrev cX4_commonLength : ByteArray := prog_6_method_4_code
def yX4_commonLength : MethodName := ⟨RX4, "commonLength", "(ILMemoryDesk$Row;I)I"⟩
abbrev cX4_matchWith : ByteArray := prog_6_method_5_code
def yX4_matchWith : MethodName := ⟨RX4, "matchWith", "(LMemoryDesk$Row;)I"⟩
abbrev cX4_likenessTo : ByteArray := prog_6_method_6_code
def yX4_likenessTo : MethodName := ⟨RX4, "likenessTo", "(LMemoryDesk$Row;)F"⟩
abbrev cX4_commonWord : ByteArray := prog_6_method_7_code
def yX4_commonWord : MethodName := ⟨RX4, "commonWord", "(LMemoryDesk$Row;I)I"⟩
abbrev cX4_leastBeginning : ByteArray := prog_6_method_8_code
def yX4_leastBeginning : MethodName := ⟨RX4, "leastBeginning", "(ILMemoryDesk$Row;II)I"⟩
def RX5 : String := "MemoryDesk$Segment"
def TX5 : u_T := fun k => match k with
  | 0 => ("MemoryDesk$Segment", "source", "LMemoryDesk$Row;", false)
  | 1 => ("MemoryDesk$Segment", "stage", "I", false)
  | 2 => ("MemoryDesk$Segment", "translator", "I", false)
  | 3 => ("MemoryDesk$Segment", "band", "I", false)
  | 4 => ("MemoryDesk$Segment", "percent", "I", false)
  | 5 => ("MemoryDesk$Segment", "pay", "I", false)
  | 6 => ("MemoryDesk$Segment", "earlierPay", "I", false)
  | 7 => ("MemoryDesk$Segment", "reviser", "I", false)
  | 8 => ("MemoryDesk$Segment", "changedWords", "I", false)
  | _ => ("MemoryDesk$Segment", "deliveryRate", "I", false)
def tyX5 : Nat → FieldType := fun k => match k with
  | 0 => .object "MemoryDesk$Row"
  | 1 => .int
  | 2 => .int
  | 3 => .int
  | 4 => .int
  | 5 => .int
  | 6 => .int
  | 7 => .int
  | 8 => .int
  | _ => .int
abbrev wsX50 : List Cond := u_ws RX5 TX5 10
theorem nmX5 : ∀ a, a < 10 → ∀ b, b < 10 → a ≠ b → (TX5 a).2.1 ≠ (TX5 b).2.1 := by decide +kernel
theorem tyX5_ok : ∀ k, k < 10 → parseFieldDescriptor (TX5 k).2.2.1 = some (tyX5 k) := by decide +kernel
abbrev cX5_init : ByteArray := prog_7_method_1_code
def yX5_init : MethodName := ⟨RX5, "<init>", "(LMemoryDesk$Row;)V"⟩
abbrev cX5_beginWith : ByteArray := prog_7_method_2_code
def yX5_beginWith : MethodName := ⟨RX5, "beginWith", "(LMemoryDesk$Row;)V"⟩
abbrev cX5_reassign : ByteArray := prog_7_method_3_code
def yX5_reassign : MethodName := ⟨RX5, "reassign", "()V"⟩
abbrev cX5_copyFrom : ByteArray := prog_7_method_4_code
def yX5_copyFrom : MethodName := ⟨RX5, "copyFrom", "(LMemoryDesk$Segment;)V"⟩
def RX6 : String := "MemoryDesk$State"
def TX6 : u_T := fun k => match k with
  | 0 => ("MemoryDesk$State", "settings", "[I", true)
  | 1 => ("MemoryDesk$State", "translators", "[LMemoryDesk$Translator;", true)
  | 2 => ("MemoryDesk$State", "bands", "[LMemoryDesk$Band;", true)
  | 3 => ("MemoryDesk$State", "terms", "[LMemoryDesk$Term;", true)
  | 4 => ("MemoryDesk$State", "segments", "[LMemoryDesk$Segment;", true)
  | 5 => ("MemoryDesk$State", "memory", "LMemoryDesk$Memory;", true)
  | _ => ("MemoryDesk$State", "segmentCount", "I", false)
def tyX6 : Nat → FieldType := fun k => match k with
  | 0 => .array .int
  | 1 => .array (.object "MemoryDesk$Translator")
  | 2 => .array (.object "MemoryDesk$Band")
  | 3 => .array (.object "MemoryDesk$Term")
  | 4 => .array (.object "MemoryDesk$Segment")
  | 5 => .object "MemoryDesk$Memory"
  | _ => .int
abbrev wsX60 : List Cond := u_ws RX6 TX6 7
theorem nmX6 : ∀ a, a < 7 → ∀ b, b < 7 → a ≠ b → (TX6 a).2.1 ≠ (TX6 b).2.1 := by decide +kernel
theorem tyX6_ok : ∀ k, k < 7 → parseFieldDescriptor (TX6 k).2.2.1 = some (tyX6 k) := by decide +kernel
abbrev cX6_init : ByteArray := prog_8_method_1_code
def yX6_init : MethodName := ⟨RX6, "<init>", "()V"⟩
abbrev cX6_copyFrom : ByteArray := prog_8_method_2_code
def yX6_copyFrom : MethodName := ⟨RX6, "copyFrom", "(LMemoryDesk$State;)V"⟩
abbrev cX6_fixBand : ByteArray := prog_8_method_3_code
def yX6_fixBand : MethodName := ⟨RX6, "fixBand", "(LMemoryDesk$Segment;)V"⟩
abbrev cX6_takeDelivery : ByteArray := prog_8_method_4_code
def yX6_takeDelivery : MethodName := ⟨RX6, "takeDelivery", "(LMemoryDesk$Segment;)V"⟩
abbrev cX6_takeRevision : ByteArray := prog_8_method_5_code
def yX6_takeRevision : MethodName := ⟨RX6, "takeRevision", "(LMemoryDesk$Segment;II)V"⟩
abbrev cX6_replaceSource : ByteArray := prog_8_method_6_code
def yX6_replaceSource : MethodName := ⟨RX6, "replaceSource", "(LMemoryDesk$Segment;LMemoryDesk$Row;)V"⟩
abbrev cX6_bandOf : ByteArray := prog_8_method_7_code
def yX6_bandOf : MethodName := ⟨RX6, "bandOf", "(I)I"⟩
abbrev cX6_percentOf : ByteArray := prog_8_method_8_code
def yX6_percentOf : MethodName := ⟨RX6, "percentOf", "(I)I"⟩
abbrev cX6_percentNow : ByteArray := prog_8_method_9_code
def yX6_percentNow : MethodName := ⟨RX6, "percentNow", "(LMemoryDesk$Row;)I"⟩
abbrev cX6_costInOrder : ByteArray := prog_8_method_10_code
def yX6_costInOrder : MethodName := ⟨RX6, "costInOrder", "(LMemoryDesk$Row;LMemoryDesk$Row;)I"⟩
abbrev cX6_savedPercents : ByteArray := prog_8_method_11_code
def yX6_savedPercents : MethodName := ⟨RX6, "savedPercents", "()I"⟩
abbrev cX6_hasDispute : ByteArray := prog_8_method_12_code
def yX6_hasDispute : MethodName := ⟨RX6, "hasDispute", "(LMemoryDesk$Row;)Z"⟩
abbrev cX6_segmentsAt : ByteArray := prog_8_method_13_code
def yX6_segmentsAt : MethodName := ⟨RX6, "segmentsAt", "(I)I"⟩
abbrev cX6_assignedTo : ByteArray := prog_8_method_14_code
def yX6_assignedTo : MethodName := ⟨RX6, "assignedTo", "(I)I"⟩
abbrev cX6_proposalsOf : ByteArray := prog_8_method_15_code
def yX6_proposalsOf : MethodName := ⟨RX6, "proposalsOf", "(I)I"⟩
abbrev cX6_occurrences : ByteArray := prog_8_method_16_code
def yX6_occurrences : MethodName := ⟨RX6, "occurrences", "(I)I"⟩
abbrev cX6_wordsOfAll : ByteArray := prog_8_method_17_code
def yX6_wordsOfAll : MethodName := ⟨RX6, "wordsOfAll", "()I"⟩
abbrev cX6_deliveredWords : ByteArray := prog_8_method_18_code
def yX6_deliveredWords : MethodName := ⟨RX6, "deliveredWords", "()I"⟩
abbrev cX6_earnedByAll : ByteArray := prog_8_method_19_code
def yX6_earnedByAll : MethodName := ⟨RX6, "earnedByAll", "()I"⟩
abbrev cX6_disputedWords : ByteArray := prog_8_method_20_code
def yX6_disputedWords : MethodName := ⟨RX6, "disputedWords", "()I"⟩
abbrev cX6_ruledWords : ByteArray := prog_8_method_21_code
def yX6_ruledWords : MethodName := ⟨RX6, "ruledWords", "()I"⟩
def RX7 : String := "MemoryDesk$Term"
def TX7 : u_T := fun k => match k with
  | 0 => ("MemoryDesk$Term", "proposals", "[I", true)
  | _ => ("MemoryDesk$Term", "ruling", "I", false)
def tyX7 : Nat → FieldType := fun k => match k with
  | 0 => .array .int
  | _ => .int
abbrev wsX70 : List Cond := u_ws RX7 TX7 2
theorem nmX7 : ∀ a, a < 2 → ∀ b, b < 2 → a ≠ b → (TX7 a).2.1 ≠ (TX7 b).2.1 := by decide +kernel
theorem tyX7_ok : ∀ k, k < 2 → parseFieldDescriptor (TX7 k).2.2.1 = some (tyX7 k) := by decide +kernel
abbrev cX7_init : ByteArray := prog_9_method_1_code
def yX7_init : MethodName := ⟨RX7, "<init>", "()V"⟩
abbrev cX7_isProposed : ByteArray := prog_9_method_2_code
def yX7_isProposed : MethodName := ⟨RX7, "isProposed", "(I)Z"⟩
abbrev cX7_otherProposals : ByteArray := prog_9_method_3_code
def yX7_otherProposals : MethodName := ⟨RX7, "otherProposals", "(I)I"⟩
abbrev cX7_unlikeProposals : ByteArray := prog_9_method_4_code
def yX7_unlikeProposals : MethodName := ⟨RX7, "unlikeProposals", "()I"⟩
abbrev cX7_isDisputed : ByteArray := prog_9_method_5_code
def yX7_isDisputed : MethodName := ⟨RX7, "isDisputed", "()Z"⟩
abbrev cX7_copyFrom : ByteArray := prog_9_method_6_code
def yX7_copyFrom : MethodName := ⟨RX7, "copyFrom", "(LMemoryDesk$Term;)V"⟩
def RX8 : String := "MemoryDesk$Translator"
def TX8 : u_T := fun k => match k with
  | 0 => ("MemoryDesk$Translator", "rate", "I", false)
  | 1 => ("MemoryDesk$Translator", "earned", "I", false)
  | 2 => ("MemoryDesk$Translator", "deliveredWords", "I", false)
  | 3 => ("MemoryDesk$Translator", "changedWords", "I", false)
  | _ => ("MemoryDesk$Translator", "correctedWords", "I", false)
def tyX8 : Nat → FieldType := fun k => match k with
  | 0 => .int
  | 1 => .int
  | 2 => .int
  | 3 => .int
  | _ => .int
abbrev wsX80 : List Cond := u_ws RX8 TX8 5
theorem nmX8 : ∀ a, a < 5 → ∀ b, b < 5 → a ≠ b → (TX8 a).2.1 ≠ (TX8 b).2.1 := by decide +kernel
theorem tyX8_ok : ∀ k, k < 5 → parseFieldDescriptor (TX8 k).2.2.1 = some (tyX8 k) := by decide +kernel
abbrev cX8_init : ByteArray := prog_10_method_1_code
def yX8_init : MethodName := ⟨RX8, "<init>", "()V"⟩
abbrev cX8_copyFrom : ByteArray := prog_10_method_2_code
def yX8_copyFrom : MethodName := ⟨RX8, "copyFrom", "(LMemoryDesk$Translator;)V"⟩
def RX9 : String := "MemoryDesk"
def TX9 : u_T := fun k => match k with
  | 0 => ("MemoryDesk", "state", "LMemoryDesk$State;", true)
  | 1 => ("MemoryDesk", "history", "LMemoryDesk$History;", true)
  | _ => ("MemoryDesk", "buffer", "LMemoryDesk$Buffer;", true)
def tyX9 : Nat → FieldType := fun k => match k with
  | 0 => .object "MemoryDesk$State"
  | 1 => .object "MemoryDesk$History"
  | _ => .object "MemoryDesk$Buffer"
abbrev wsX90 : List Cond := u_ws RX9 TX9 3
theorem nmX9 : ∀ a, a < 3 → ∀ b, b < 3 → a ≠ b → (TX9 a).2.1 ≠ (TX9 b).2.1 := by decide +kernel
theorem tyX9_ok : ∀ k, k < 3 → parseFieldDescriptor (TX9 k).2.2.1 = some (tyX9 k) := by decide +kernel
abbrev cX9_init : ByteArray := prog_1_method_1_code
def yX9_init : MethodName := ⟨RX9, "<init>", "()V"⟩
abbrev cX9_rate : ByteArray := prog_1_method_2_code
def yX9_rate : MethodName := ⟨RX9, "rate", "(II)I"⟩
abbrev cX9_pays : ByteArray := prog_1_method_3_code
def yX9_pays : MethodName := ⟨RX9, "pays", "(II)I"⟩
abbrev cX9_set : ByteArray := prog_1_method_4_code
def yX9_set : MethodName := ⟨RX9, "set", "(II)I"⟩
abbrev cX9_assign : ByteArray := prog_1_method_5_code
def yX9_assign : MethodName := ⟨RX9, "assign", "(II)I"⟩
abbrev cX9_deliver : ByteArray := prog_1_method_6_code
def yX9_deliver : MethodName := ⟨RX9, "deliver", "(I)I"⟩
abbrev cX9_revise : ByteArray := prog_1_method_7_code
def yX9_revise : MethodName := ⟨RX9, "revise", "(III)I"⟩
abbrev cX9_propose : ByteArray := prog_1_method_8_code
def yX9_propose : MethodName := ⟨RX9, "propose", "(III)I"⟩
abbrev cX9_rule : ByteArray := prog_1_method_9_code
def yX9_rule : MethodName := ⟨RX9, "rule", "(II)I"⟩
abbrev cX9_append : ByteArray := prog_1_method_10_code
def yX9_append : MethodName := ⟨RX9, "append", "(I)I"⟩
abbrev cX9_clearBuffer : ByteArray := prog_1_method_11_code
def yX9_clearBuffer : MethodName := ⟨RX9, "clearBuffer", "()I"⟩
abbrev cX9_firstError : ByteArray := prog_1_method_12_code
def yX9_firstError : MethodName := ⟨RX9, "firstError", "()I"⟩
abbrev cX9_add : ByteArray := prog_1_method_13_code
def yX9_add : MethodName := ⟨RX9, "add", "()I"⟩
abbrev cX9_change : ByteArray := prog_1_method_14_code
def yX9_change : MethodName := ⟨RX9, "change", "(I)I"⟩
abbrev cX9_undo : ByteArray := prog_1_method_15_code
def yX9_undo : MethodName := ⟨RX9, "undo", "()I"⟩
abbrev cX9_segment : ByteArray := prog_1_method_16_code
def yX9_segment : MethodName := ⟨RX9, "segment", "(II)I"⟩
abbrev cX9_word : ByteArray := prog_1_method_17_code
def yX9_word : MethodName := ⟨RX9, "word", "(II)I"⟩
abbrev cX9_remembered : ByteArray := prog_1_method_18_code
def yX9_remembered : MethodName := ⟨RX9, "remembered", "(II)I"⟩
abbrev cX9_translator : ByteArray := prog_1_method_19_code
def yX9_translator : MethodName := ⟨RX9, "translator", "(II)I"⟩
abbrev cX9_term : ByteArray := prog_1_method_20_code
def yX9_term : MethodName := ⟨RX9, "term", "(II)I"⟩
abbrev cX9_band : ByteArray := prog_1_method_21_code
def yX9_band : MethodName := ⟨RX9, "band", "(II)I"⟩
abbrev cX9_count : ByteArray := prog_1_method_22_code
def yX9_count : MethodName := ⟨RX9, "count", "(I)I"⟩
abbrev cX9_setting : ByteArray := prog_1_method_23_code
def yX9_setting : MethodName := ⟨RX9, "setting", "(I)I"⟩
abbrev cX9_near : ByteArray := prog_1_method_24_code
def yX9_near : MethodName := ⟨RX9, "near", "(III)I"⟩
abbrev cX9_common : ByteArray := prog_1_method_25_code
def yX9_common : MethodName := ⟨RX9, "common", "(III)I"⟩
abbrev cX9_ifPaid : ByteArray := prog_1_method_26_code
def yX9_ifPaid : MethodName := ⟨RX9, "ifPaid", "(II)I"⟩
abbrev cX9_orderMatters : ByteArray := prog_1_method_27_code
def yX9_orderMatters : MethodName := ⟨RX9, "orderMatters", "(II)I"⟩
abbrev cX9_saved : ByteArray := prog_1_method_28_code
def yX9_saved : MethodName := ⟨RX9, "saved", "()I"⟩
abbrev cX9_wordCost : ByteArray := prog_1_method_29_code
def yX9_wordCost : MethodName := ⟨RX9, "wordCost", "()D"⟩
abbrev cX9_digest : ByteArray := prog_1_method_30_code
def yX9_digest : MethodName := ⟨RX9, "digest", "()J"⟩
abbrev cX9_mix : ByteArray := prog_1_method_31_code
def yX9_mix : MethodName := ⟨RX9, "mix", "(JJ)J"⟩
abbrev cX9_mixTranslators : ByteArray := prog_1_method_32_code
def yX9_mixTranslators : MethodName := ⟨RX9, "mixTranslators", "(J)J"⟩
abbrev cX9_mixTerms : ByteArray := prog_1_method_33_code
def yX9_mixTerms : MethodName := ⟨RX9, "mixTerms", "(J)J"⟩
abbrev cX9_mixBands : ByteArray := prog_1_method_34_code
def yX9_mixBands : MethodName := ⟨RX9, "mixBands", "(J)J"⟩
abbrev cX9_mixSegment : ByteArray := prog_1_method_35_code
def yX9_mixSegment : MethodName := ⟨RX9, "mixSegment", "(JI)J"⟩
abbrev cX9_mixRemembered : ByteArray := prog_1_method_36_code
def yX9_mixRemembered : MethodName := ⟨RX9, "mixRemembered", "(JI)J"⟩
abbrev cX9_mixRow : ByteArray := prog_1_method_37_code
def yX9_mixRow : MethodName := ⟨RX9, "mixRow", "(JLMemoryDesk$Row;)J"⟩
abbrev cX9_mixBuffer : ByteArray := prog_1_method_38_code
def yX9_mixBuffer : MethodName := ⟨RX9, "mixBuffer", "(J)J"⟩
abbrev cX9_checkNumber : ByteArray := prog_1_method_39_code
def yX9_checkNumber : MethodName := ⟨RX9, "checkNumber", "(II)V"⟩
abbrev cX9_checkRange : ByteArray := prog_1_method_40_code
def yX9_checkRange : MethodName := ⟨RX9, "checkRange", "(III)V"⟩
abbrev cX9_checkArgument : ByteArray := prog_1_method_41_code
def yX9_checkArgument : MethodName := ⟨RX9, "checkArgument", "(Z)V"⟩
abbrev cX9_checkState : ByteArray := prog_1_method_42_code
def yX9_checkState : MethodName := ⟨RX9, "checkState", "(Z)V"⟩
abbrev cX9_oneIf : ByteArray := prog_1_method_43_code
def yX9_oneIf : MethodName := ⟨RX9, "oneIf", "(Z)I"⟩
abbrev cX9_floatBits : ByteArray := prog_1_method_44_code
def yX9_floatBits : MethodName := ⟨RX9, "floatBits", "(F)I"⟩
abbrev cX9_bitsOf : ByteArray := prog_1_method_45_code
def yX9_bitsOf : MethodName := ⟨RX9, "bitsOf", "(DII)J"⟩
def RX10 : String := "MemoryDeskModel"
def TX10 : u_T := fun k => match k with
  | 0 => ("MemoryDeskModel", "z", "[I", true)
  | 1 => ("MemoryDeskModel", "rows", "[I", true)
  | 2 => ("MemoryDeskModel", "aside", "[I", true)
  | 3 => ("MemoryDeskModel", "savedMany", "I", false)
  | 4 => ("MemoryDeskModel", "buffer", "[I", true)
  | 5 => ("MemoryDeskModel", "bufferMany", "I", false)
  | 6 => ("MemoryDeskModel", "thrown", "I", false)
  | 7 => ("MemoryDeskModel", "one", "[I", true)
  | 8 => ("MemoryDeskModel", "two", "[I", true)
  | 9 => ("MemoryDeskModel", "oneMany", "I", false)
  | 10 => ("MemoryDeskModel", "twoMany", "I", false)
  | 11 => ("MemoryDeskModel", "table", "[I", true)
  | 12 => ("MemoryDeskModel", "place", "I", false)
  | 13 => ("MemoryDeskModel", "told", "I", false)
  | 14 => ("MemoryDeskModel", "begins", "[I", true)
  | _ => ("MemoryDeskModel", "h", "J", false)
def tyX10 : Nat → FieldType := fun k => match k with
  | 0 => .array .int
  | 1 => .array .int
  | 2 => .array .int
  | 3 => .int
  | 4 => .array .int
  | 5 => .int
  | 6 => .int
  | 7 => .array .int
  | 8 => .array .int
  | 9 => .int
  | 10 => .int
  | 11 => .array .int
  | 12 => .int
  | 13 => .int
  | 14 => .array .int
  | _ => .long
abbrev wsX100 : List Cond := u_ws RX10 TX10 16
theorem nmX10 : ∀ a, a < 16 → ∀ b, b < 16 → a ≠ b → (TX10 a).2.1 ≠ (TX10 b).2.1 := by decide +kernel
theorem tyX10_ok : ∀ k, k < 16 → parseFieldDescriptor (TX10 k).2.2.1 = some (tyX10 k) := by decide +kernel
abbrev cX10_init : ByteArray := prog_12_method_1_code
def yX10_init : MethodName := ⟨RX10, "<init>", "()V"⟩
abbrev cX10_thrown : ByteArray := prog_12_method_2_code
def yX10_thrown : MethodName := ⟨RX10, "thrown", "()I"⟩
abbrev cX10_fails : ByteArray := prog_12_method_3_code
def yX10_fails : MethodName := ⟨RX10, "fails", "(I)I"⟩
abbrev cX10_in : ByteArray := prog_12_method_4_code
def yX10_in : MethodName := ⟨RX10, "in", "(III)Z"⟩
abbrev cX10_save : ByteArray := prog_12_method_5_code
def yX10_save : MethodName := ⟨RX10, "save", "()V"⟩
abbrev cX10_putAside : ByteArray := prog_12_method_6_code
def yX10_putAside : MethodName := ⟨RX10, "putAside", "()V"⟩
abbrev cX10_putBack : ByteArray := prog_12_method_7_code
def yX10_putBack : MethodName := ⟨RX10, "putBack", "()V"⟩
abbrev cX10_at : ByteArray := prog_12_method_8_code
def yX10_at : MethodName := ⟨RX10, "at", "(I)I"⟩
abbrev cX10_rowAt : ByteArray := prog_12_method_9_code
def yX10_rowAt : MethodName := ⟨RX10, "rowAt", "(I)I"⟩
abbrev cX10_person : ByteArray := prog_12_method_10_code
def yX10_person : MethodName := ⟨RX10, "person", "(I)I"⟩
abbrev cX10_proposal : ByteArray := prog_12_method_11_code
def yX10_proposal : MethodName := ⟨RX10, "proposal", "(II)I"⟩
abbrev cX10_isSegment : ByteArray := prog_12_method_12_code
def yX10_isSegment : MethodName := ⟨RX10, "isSegment", "(I)Z"⟩
abbrev cX10_isPerson : ByteArray := prog_12_method_13_code
def yX10_isPerson : MethodName := ⟨RX10, "isPerson", "(I)Z"⟩
abbrev cX10_isWord : ByteArray := prog_12_method_14_code
def yX10_isWord : MethodName := ⟨RX10, "isWord", "(I)Z"⟩
abbrev cX10_isBand : ByteArray := prog_12_method_15_code
def yX10_isBand : MethodName := ⟨RX10, "isBand", "(I)Z"⟩
abbrev cX10_layOne : ByteArray := prog_12_method_16_code
def yX10_layOne : MethodName := ⟨RX10, "layOne", "(I)V"⟩
abbrev cX10_layOther : ByteArray := prog_12_method_17_code
def yX10_layOther : MethodName := ⟨RX10, "layOther", "(I)V"⟩
abbrev cX10_layRow : ByteArray := prog_12_method_18_code
def yX10_layRow : MethodName := ⟨RX10, "layRow", "(I)V"⟩
abbrev cX10_longest : ByteArray := prog_12_method_19_code
def yX10_longest : MethodName := ⟨RX10, "longest", "()I"⟩
abbrev cX10_matchNow : ByteArray := prog_12_method_20_code
def yX10_matchNow : MethodName := ⟨RX10, "matchNow", "()I"⟩
abbrev cX10_bestRow : ByteArray := prog_12_method_21_code
def yX10_bestRow : MethodName := ⟨RX10, "bestRow", "(I)I"⟩
abbrev cX10_matchOf : ByteArray := prog_12_method_22_code
def yX10_matchOf : MethodName := ⟨RX10, "matchOf", "(I)I"⟩
abbrev cX10_bandNow : ByteArray := prog_12_method_23_code
def yX10_bandNow : MethodName := ⟨RX10, "bandNow", "(I)I"⟩
abbrev cX10_partNow : ByteArray := prog_12_method_24_code
def yX10_partNow : MethodName := ⟨RX10, "partNow", "(I)I"⟩
abbrev cX10_isDisputed : ByteArray := prog_12_method_25_code
def yX10_isDisputed : MethodName := ⟨RX10, "isDisputed", "(I)Z"⟩
abbrev cX10_unlike : ByteArray := prog_12_method_26_code
def yX10_unlike : MethodName := ⟨RX10, "unlike", "(I)I"⟩
abbrev cX10_hasDisputed : ByteArray := prog_12_method_27_code
def yX10_hasDisputed : MethodName := ⟨RX10, "hasDisputed", "(I)Z"⟩
abbrev cX10_rate : ByteArray := prog_12_method_28_code
def yX10_rate : MethodName := ⟨RX10, "rate", "(II)I"⟩
abbrev cX10_pays : ByteArray := prog_12_method_29_code
def yX10_pays : MethodName := ⟨RX10, "pays", "(II)I"⟩
abbrev cX10_set : ByteArray := prog_12_method_30_code
def yX10_set : MethodName := ⟨RX10, "set", "(II)I"⟩
abbrev cX10_fix : ByteArray := prog_12_method_31_code
def yX10_fix : MethodName := ⟨RX10, "fix", "(I)V"⟩
abbrev cX10_assign : ByteArray := prog_12_method_32_code
def yX10_assign : MethodName := ⟨RX10, "assign", "(II)I"⟩
abbrev cX10_remember : ByteArray := prog_12_method_33_code
def yX10_remember : MethodName := ⟨RX10, "remember", "(I)V"⟩
abbrev cX10_deliver : ByteArray := prog_12_method_34_code
def yX10_deliver : MethodName := ⟨RX10, "deliver", "(I)I"⟩
abbrev cX10_revise : ByteArray := prog_12_method_35_code
def yX10_revise : MethodName := ⟨RX10, "revise", "(III)I"⟩
abbrev cX10_propose : ByteArray := prog_12_method_36_code
def yX10_propose : MethodName := ⟨RX10, "propose", "(III)I"⟩
abbrev cX10_having : ByteArray := prog_12_method_37_code
def yX10_having : MethodName := ⟨RX10, "having", "(II)I"⟩
abbrev cX10_rule : ByteArray := prog_12_method_38_code
def yX10_rule : MethodName := ⟨RX10, "rule", "(II)I"⟩
abbrev cX10_append : ByteArray := prog_12_method_39_code
def yX10_append : MethodName := ⟨RX10, "append", "(I)I"⟩
abbrev cX10_clearBuffer : ByteArray := prog_12_method_40_code
def yX10_clearBuffer : MethodName := ⟨RX10, "clearBuffer", "()I"⟩
abbrev cX10_letter : ByteArray := prog_12_method_41_code
def yX10_letter : MethodName := ⟨RX10, "letter", "()I"⟩
abbrev cX10_row : ByteArray := prog_12_method_42_code
def yX10_row : MethodName := ⟨RX10, "row", "()Z"⟩
abbrev cX10_areRows : ByteArray := prog_12_method_43_code
def yX10_areRows : MethodName := ⟨RX10, "areRows", "()Z"⟩
abbrev cX10_firstError : ByteArray := prog_12_method_44_code
def yX10_firstError : MethodName := ⟨RX10, "firstError", "()I"⟩
abbrev cX10_layText : ByteArray := prog_12_method_45_code
def yX10_layText : MethodName := ⟨RX10, "layText", "(II)V"⟩
abbrev cX10_add : ByteArray := prog_12_method_46_code
def yX10_add : MethodName := ⟨RX10, "add", "()I"⟩
abbrev cX10_change : ByteArray := prog_12_method_47_code
def yX10_change : MethodName := ⟨RX10, "change", "(I)I"⟩
abbrev cX10_undo : ByteArray := prog_12_method_48_code
def yX10_undo : MethodName := ⟨RX10, "undo", "()I"⟩
abbrev cX10_segmentOf : ByteArray := prog_12_method_49_code
def yX10_segmentOf : MethodName := ⟨RX10, "segmentOf", "(II)I"⟩
abbrev cX10_segment : ByteArray := prog_12_method_50_code
def yX10_segment : MethodName := ⟨RX10, "segment", "(II)I"⟩
abbrev cX10_wordOf : ByteArray := prog_12_method_51_code
def yX10_wordOf : MethodName := ⟨RX10, "wordOf", "(II)I"⟩
abbrev cX10_word : ByteArray := prog_12_method_52_code
def yX10_word : MethodName := ⟨RX10, "word", "(II)I"⟩
abbrev cX10_remembered : ByteArray := prog_12_method_53_code
def yX10_remembered : MethodName := ⟨RX10, "remembered", "(II)I"⟩
abbrev cX10_assignedTo : ByteArray := prog_12_method_54_code
def yX10_assignedTo : MethodName := ⟨RX10, "assignedTo", "(I)I"⟩
abbrev cX10_proposals : ByteArray := prog_12_method_55_code
def yX10_proposals : MethodName := ⟨RX10, "proposals", "(I)I"⟩
abbrev cX10_personOf : ByteArray := prog_12_method_56_code
def yX10_personOf : MethodName := ⟨RX10, "personOf", "(II)I"⟩
abbrev cX10_translator : ByteArray := prog_12_method_57_code
def yX10_translator : MethodName := ⟨RX10, "translator", "(II)I"⟩
abbrev cX10_often : ByteArray := prog_12_method_58_code
def yX10_often : MethodName := ⟨RX10, "often", "(I)I"⟩
abbrev cX10_termOf : ByteArray := prog_12_method_59_code
def yX10_termOf : MethodName := ⟨RX10, "termOf", "(II)I"⟩
abbrev cX10_term : ByteArray := prog_12_method_60_code
def yX10_term : MethodName := ⟨RX10, "term", "(II)I"⟩
abbrev cX10_band : ByteArray := prog_12_method_61_code
def yX10_band : MethodName := ⟨RX10, "band", "(II)I"⟩
abbrev cX10_staged : ByteArray := prog_12_method_62_code
def yX10_staged : MethodName := ⟨RX10, "staged", "(I)I"⟩
abbrev cX10_wordsAll : ByteArray := prog_12_method_63_code
def yX10_wordsAll : MethodName := ⟨RX10, "wordsAll", "()I"⟩
abbrev cX10_ofPeople : ByteArray := prog_12_method_64_code
def yX10_ofPeople : MethodName := ⟨RX10, "ofPeople", "(I)I"⟩
abbrev cX10_ofTerms : ByteArray := prog_12_method_65_code
def yX10_ofTerms : MethodName := ⟨RX10, "ofTerms", "(Z)I"⟩
abbrev cX10_counted : ByteArray := prog_12_method_66_code
def yX10_counted : MethodName := ⟨RX10, "counted", "(I)I"⟩
abbrev cX10_count : ByteArray := prog_12_method_67_code
def yX10_count : MethodName := ⟨RX10, "count", "(I)I"⟩
abbrev cX10_setting : ByteArray := prog_12_method_68_code
def yX10_setting : MethodName := ⟨RX10, "setting", "(I)I"⟩
abbrev cX10_nearOf : ByteArray := prog_12_method_69_code
def yX10_nearOf : MethodName := ⟨RX10, "nearOf", "(III)I"⟩
abbrev cX10_near : ByteArray := prog_12_method_70_code
def yX10_near : MethodName := ⟨RX10, "near", "(III)I"⟩
abbrev cX10_firstOne : ByteArray := prog_12_method_71_code
def yX10_firstOne : MethodName := ⟨RX10, "firstOne", "(II)I"⟩
abbrev cX10_firstOther : ByteArray := prog_12_method_72_code
def yX10_firstOther : MethodName := ⟨RX10, "firstOther", "(II)I"⟩
abbrev cX10_commonOf : ByteArray := prog_12_method_73_code
def yX10_commonOf : MethodName := ⟨RX10, "commonOf", "(III)I"⟩
abbrev cX10_common : ByteArray := prog_12_method_74_code
def yX10_common : MethodName := ⟨RX10, "common", "(III)I"⟩
abbrev cX10_paidOf : ByteArray := prog_12_method_75_code
def yX10_paidOf : MethodName := ⟨RX10, "paidOf", "(II)I"⟩
abbrev cX10_ifPaid : ByteArray := prog_12_method_76_code
def yX10_ifPaid : MethodName := ⟨RX10, "ifPaid", "(II)I"⟩
abbrev cX10_costOf : ByteArray := prog_12_method_77_code
def yX10_costOf : MethodName := ⟨RX10, "costOf", "(II)I"⟩
abbrev cX10_orderMatters : ByteArray := prog_12_method_78_code
def yX10_orderMatters : MethodName := ⟨RX10, "orderMatters", "(II)I"⟩
abbrev cX10_savedOf : ByteArray := prog_12_method_79_code
def yX10_savedOf : MethodName := ⟨RX10, "savedOf", "()I"⟩
abbrev cX10_saved : ByteArray := prog_12_method_80_code
def yX10_saved : MethodName := ⟨RX10, "saved", "()I"⟩
abbrev cX10_costAll : ByteArray := prog_12_method_81_code
def yX10_costAll : MethodName := ⟨RX10, "costAll", "()D"⟩
abbrev cX10_wordCost : ByteArray := prog_12_method_82_code
def yX10_wordCost : MethodName := ⟨RX10, "wordCost", "()D"⟩
abbrev cX10_mix : ByteArray := prog_12_method_83_code
def yX10_mix : MethodName := ⟨RX10, "mix", "(J)V"⟩
abbrev cX10_mixSegment : ByteArray := prog_12_method_84_code
def yX10_mixSegment : MethodName := ⟨RX10, "mixSegment", "(I)V"⟩
abbrev cX10_mixRow : ByteArray := prog_12_method_85_code
def yX10_mixRow : MethodName := ⟨RX10, "mixRow", "(I)V"⟩
abbrev cX10_digest : ByteArray := prog_12_method_86_code
def yX10_digest : MethodName := ⟨RX10, "digest", "()J"⟩
def RJxe99ae : String := "java/lang/Double"
def TJxe99ae : u_T := fun k => match k with
  | _ => ("", "", "", false)
def tyJxe99ae : Nat → FieldType := fun k => match k with
  | _ => .int
abbrev cJxe99ae_isNaN_b9ae7 : ByteArray := prog_13_method_6_code
def yJxe99ae_isNaN_b9ae7 : MethodName := ⟨RJxe99ae, "isNaN", "(D)Z"⟩
abbrev cJxe99ae_doubleToLongBits_ccdee : ByteArray := prog_13_method_23_code
def yJxe99ae_doubleToLongBits_ccdee : MethodName := ⟨RJxe99ae, "doubleToLongBits", "(D)J"⟩
def RJxf58ca : String := "java/lang/Float"
def TJxf58ca : u_T := fun k => match k with
  | _ => ("", "", "", false)
def tyJxf58ca : Nat → FieldType := fun k => match k with
  | _ => .int
abbrev cJxf58ca_isNaN_12338 : ByteArray := prog_15_method_6_code
def yJxf58ca_isNaN_12338 : MethodName := ⟨RJxf58ca, "isNaN", "(F)Z"⟩
abbrev cJxf58ca_floatToIntBits_5c35a : ByteArray := prog_15_method_24_code
def yJxf58ca_floatToIntBits_5c35a : MethodName := ⟨RJxf58ca, "floatToIntBits", "(F)I"⟩
def RJ6 : String := "java/lang/Integer"
def TJ6 : u_T := fun k => match k with
  | _ => ("", "", "", false)
def tyJ6 : Nat → FieldType := fun k => match k with
  | _ => .int
abbrev cJ6_bitCount_0f7a4 : ByteArray := prog_19_method_49_code
def yJ6_bitCount_0f7a4 : MethodName := ⟨RJ6, "bitCount", "(I)I"⟩
def RJ9 : String := "java/lang/Math"
def TJ9 : u_T := fun k => match k with
  | _ => ("", "", "", false)
def tyJ9 : Nat → FieldType := fun k => match k with
  | _ => .int
abbrev cJ9_max_7cf53 : ByteArray := prog_20_method_65_code
def yJ9_max_7cf53 : MethodName := ⟨RJ9, "max", "(II)I"⟩
abbrev cJ9_min_7cf53 : ByteArray := prog_20_method_69_code
def yJ9_min_7cf53 : MethodName := ⟨RJ9, "min", "(II)I"⟩
def RJ0 : String := "java/lang/String"
def TJ0 : u_T := fun k => match k with
  | _ => ("", "", "", false)
def tyJ0 : Nat → FieldType := fun k => match k with
  | _ => .int
def RJ10 : String := "java/lang/System"
def TJ10 : u_T := fun k => match k with
  | _ => ("", "", "", false)
def tyJ10 : Nat → FieldType := fun k => match k with
  | _ => .int
def RL : String := "MemoryDeskLaw"
abbrev cL_rate : ByteArray := method_3_code
def yL_rate : MethodName := ⟨RL, "rate", "(LMemoryDesk;II[J)I"⟩
abbrev cL_pays : ByteArray := method_4_code
def yL_pays : MethodName := ⟨RL, "pays", "(LMemoryDesk;II[J)I"⟩
abbrev cL_set : ByteArray := method_5_code
def yL_set : MethodName := ⟨RL, "set", "(LMemoryDesk;II[J)I"⟩
abbrev cL_assign : ByteArray := method_6_code
def yL_assign : MethodName := ⟨RL, "assign", "(LMemoryDesk;II[J)I"⟩
abbrev cL_deliver : ByteArray := method_7_code
def yL_deliver : MethodName := ⟨RL, "deliver", "(LMemoryDesk;I[J)I"⟩
abbrev cL_revise : ByteArray := method_8_code
def yL_revise : MethodName := ⟨RL, "revise", "(LMemoryDesk;III[J)I"⟩
abbrev cL_propose : ByteArray := method_9_code
def yL_propose : MethodName := ⟨RL, "propose", "(LMemoryDesk;III[J)I"⟩
abbrev cL_rule : ByteArray := method_10_code
def yL_rule : MethodName := ⟨RL, "rule", "(LMemoryDesk;II[J)I"⟩
abbrev cL_append : ByteArray := method_11_code
def yL_append : MethodName := ⟨RL, "append", "(LMemoryDesk;I[J)I"⟩
abbrev cL_add : ByteArray := method_12_code
def yL_add : MethodName := ⟨RL, "add", "(LMemoryDesk;[J)I"⟩
abbrev cL_change : ByteArray := method_13_code
def yL_change : MethodName := ⟨RL, "change", "(LMemoryDesk;I[J)I"⟩
abbrev cL_undo : ByteArray := method_14_code
def yL_undo : MethodName := ⟨RL, "undo", "(LMemoryDesk;[J)I"⟩
abbrev cL_segment : ByteArray := method_15_code
def yL_segment : MethodName := ⟨RL, "segment", "(LMemoryDesk;II[J)I"⟩
abbrev cL_word : ByteArray := method_16_code
def yL_word : MethodName := ⟨RL, "word", "(LMemoryDesk;II[J)I"⟩
abbrev cL_remembered : ByteArray := method_17_code
def yL_remembered : MethodName := ⟨RL, "remembered", "(LMemoryDesk;II[J)I"⟩
abbrev cL_translator : ByteArray := method_18_code
def yL_translator : MethodName := ⟨RL, "translator", "(LMemoryDesk;II[J)I"⟩
abbrev cL_term : ByteArray := method_19_code
def yL_term : MethodName := ⟨RL, "term", "(LMemoryDesk;II[J)I"⟩
abbrev cL_band : ByteArray := method_20_code
def yL_band : MethodName := ⟨RL, "band", "(LMemoryDesk;II[J)I"⟩
abbrev cL_count : ByteArray := method_21_code
def yL_count : MethodName := ⟨RL, "count", "(LMemoryDesk;I[J)I"⟩
abbrev cL_setting : ByteArray := method_22_code
def yL_setting : MethodName := ⟨RL, "setting", "(LMemoryDesk;I[J)I"⟩
abbrev cL_near : ByteArray := method_23_code
def yL_near : MethodName := ⟨RL, "near", "(LMemoryDesk;III[J)I"⟩
abbrev cL_common : ByteArray := method_24_code
def yL_common : MethodName := ⟨RL, "common", "(LMemoryDesk;III[J)I"⟩
abbrev cL_ifPaid : ByteArray := method_25_code
def yL_ifPaid : MethodName := ⟨RL, "ifPaid", "(LMemoryDesk;II[J)I"⟩
abbrev cL_orderMatters : ByteArray := method_26_code
def yL_orderMatters : MethodName := ⟨RL, "orderMatters", "(LMemoryDesk;II[J)I"⟩
abbrev cL_law : ByteArray := code
def yL_law : MethodName := ⟨RL, "law", "([I)Z"⟩
abbrev vwCl : List vw_C := [(RX0, TX0, 3), (RX1, TX1, 2), (RX2, TX2, 3), (RX3, TX3, 2), (RX4, TX4, 3), (RX5, TX5, 10), (RX6, TX6, 7), (RX7, TX7, 2), (RX8, TX8, 5), (RX9, TX9, 3), (RX10, TX10, 16)]
end
section
theorem dX0_init_0 : decode cX0_init 0 = .ok (.aload_n 0, 1) := by decide +kernel
theorem dX0_init_1 : decode cX0_init 1 = .ok (.invokespecial 1, 3) := by decide +kernel
theorem dX0_init_4 : decode cX0_init 4 = .ok (.aload_n 0, 1) := by decide +kernel
theorem dX0_init_5 : decode cX0_init 5 = .ok (.iconst 0, 1) := by decide +kernel
theorem dX0_init_6 : decode cX0_init 6 = .ok (.putfield 7, 3) := by decide +kernel
theorem dX0_init_9 : decode cX0_init 9 = .ok (.aload_n 0, 1) := by decide +kernel
theorem dX0_init_10 : decode cX0_init 10 = .ok (.iconst 0, 1) := by decide +kernel
theorem dX0_init_11 : decode cX0_init 11 = .ok (.putfield 13, 3) := by decide +kernel
theorem dX0_init_14 : decode cX0_init 14 = .ok (.aload_n 0, 1) := by decide +kernel
theorem dX0_init_15 : decode cX0_init 15 = .ok (.iload_n 1, 1) := by decide +kernel
theorem dX0_init_16 : decode cX0_init 16 = .ok (.putfield 16, 3) := by decide +kernel
theorem dX0_init_19 : decode cX0_init 19 = .ok (.return_, 1) := by decide +kernel
theorem dX0_copyFrom_0 : decode cX0_copyFrom 0 = .ok (.aload_n 0, 1) := by decide +kernel
theorem dX0_copyFrom_1 : decode cX0_copyFrom 1 = .ok (.aload_n 1, 1) := by decide +kernel
theorem dX0_copyFrom_2 : decode cX0_copyFrom 2 = .ok (.getfield 16, 3) := by decide +kernel
theorem dX0_copyFrom_5 : decode cX0_copyFrom 5 = .ok (.putfield 16, 3) := by decide +kernel
theorem dX0_copyFrom_8 : decode cX0_copyFrom 8 = .ok (.aload_n 0, 1) := by decide +kernel
theorem dX0_copyFrom_9 : decode cX0_copyFrom 9 = .ok (.aload_n 1, 1) := by decide +kernel
theorem dX0_copyFrom_10 : decode cX0_copyFrom 10 = .ok (.getfield 7, 3) := by decide +kernel
theorem dX0_copyFrom_13 : decode cX0_copyFrom 13 = .ok (.putfield 7, 3) := by decide +kernel
theorem dX0_copyFrom_16 : decode cX0_copyFrom 16 = .ok (.aload_n 0, 1) := by decide +kernel
theorem dX0_copyFrom_17 : decode cX0_copyFrom 17 = .ok (.aload_n 1, 1) := by decide +kernel
theorem dX0_copyFrom_18 : decode cX0_copyFrom 18 = .ok (.getfield 13, 3) := by decide +kernel
theorem dX0_copyFrom_21 : decode cX0_copyFrom 21 = .ok (.putfield 13, 3) := by decide +kernel
theorem dX0_copyFrom_24 : decode cX0_copyFrom 24 = .ok (.return_, 1) := by decide +kernel
theorem dX1_init_0 : decode cX1_init 0 = .ok (.aload_n 0, 1) := by decide +kernel
theorem dX1_init_1 : decode cX1_init 1 = .ok (.invokespecial 3, 3) := by decide +kernel
theorem dX1_init_4 : decode cX1_init 4 = .ok (.aload_n 0, 1) := by decide +kernel
theorem dX1_init_5 : decode cX1_init 5 = .ok (.bipush 60, 2) := by decide +kernel
theorem dX1_init_7 : decode cX1_init 7 = .ok (.newarray .int, 2) := by decide +kernel
theorem dX1_init_9 : decode cX1_init 9 = .ok (.putfield 9, 3) := by decide +kernel
theorem dX1_init_12 : decode cX1_init 12 = .ok (.aload_n 0, 1) := by decide +kernel
theorem dX1_init_13 : decode cX1_init 13 = .ok (.iconst 0, 1) := by decide +kernel
theorem dX1_init_14 : decode cX1_init 14 = .ok (.putfield 15, 3) := by decide +kernel
theorem dX1_init_17 : decode cX1_init 17 = .ok (.return_, 1) := by decide +kernel
theorem dX1_isLetter_0 : decode cX1_isLetter 0 = .ok (.iload_n 0, 1) := by decide +kernel
theorem dX1_isLetter_1 : decode cX1_isLetter 1 = .ok (.bipush 97, 2) := by decide +kernel
theorem dX1_isLetter_3 : decode cX1_isLetter 3 = .ok (.if_icmp .lt 13, 3) := by decide +kernel
theorem dX1_isLetter_6 : decode cX1_isLetter 6 = .ok (.iload_n 0, 1) := by decide +kernel
theorem dX1_isLetter_7 : decode cX1_isLetter 7 = .ok (.bipush 105, 2) := by decide +kernel
theorem dX1_isLetter_9 : decode cX1_isLetter 9 = .ok (.if_icmp .ge 7, 3) := by decide +kernel
theorem dX1_isLetter_12 : decode cX1_isLetter 12 = .ok (.iconst 1, 1) := by decide +kernel
theorem dX1_isLetter_13 : decode cX1_isLetter 13 = .ok (.goto 4, 3) := by decide +kernel
theorem dX1_isLetter_16 : decode cX1_isLetter 16 = .ok (.iconst 0, 1) := by decide +kernel
theorem dX1_isLetter_17 : decode cX1_isLetter 17 = .ok (.ireturn, 1) := by decide +kernel
theorem dX1_firstFault_0 : decode cX1_firstFault 0 = .ok (.iconst 0, 1) := by decide +kernel
theorem dX1_firstFault_1 : decode cX1_firstFault 1 = .ok (.istore_n 1, 1) := by decide +kernel
theorem dX1_firstFault_2 : decode cX1_firstFault 2 = .ok (.iconst 0, 1) := by decide +kernel
theorem dX1_firstFault_3 : decode cX1_firstFault 3 = .ok (.istore_n 2, 1) := by decide +kernel
theorem dX1_firstFault_4 : decode cX1_firstFault 4 = .ok (.iload_n 2, 1) := by decide +kernel
theorem dX1_firstFault_5 : decode cX1_firstFault 5 = .ok (.aload_n 0, 1) := by decide +kernel
theorem dX1_firstFault_6 : decode cX1_firstFault 6 = .ok (.getfield 15, 3) := by decide +kernel
theorem dX1_firstFault_9 : decode cX1_firstFault 9 = .ok (.if_icmp .ge 55, 3) := by decide +kernel
theorem dX1_firstFault_12 : decode cX1_firstFault 12 = .ok (.aload_n 0, 1) := by decide +kernel
theorem dX1_firstFault_13 : decode cX1_firstFault 13 = .ok (.getfield 9, 3) := by decide +kernel
theorem dX1_firstFault_16 : decode cX1_firstFault 16 = .ok (.iload_n 2, 1) := by decide +kernel
theorem dX1_firstFault_17 : decode cX1_firstFault 17 = .ok (.iaload, 1) := by decide +kernel
theorem dX1_firstFault_18 : decode cX1_firstFault 18 = .ok (.invokestatic 19, 3) := by decide +kernel
theorem dX1_firstFault_21 : decode cX1_firstFault 21 = .ok (.ifCond .eq 15, 3) := by decide +kernel
theorem dX1_firstFault_24 : decode cX1_firstFault 24 = .ok (.iload_n 1, 1) := by decide +kernel
theorem dX1_firstFault_25 : decode cX1_firstFault 25 = .ok (.bipush 12, 2) := by decide +kernel
theorem dX1_firstFault_27 : decode cX1_firstFault 27 = .ok (.if_icmp .ge 9, 3) := by decide +kernel
theorem dX1_firstFault_30 : decode cX1_firstFault 30 = .ok (.iinc 1 1, 3) := by decide +kernel
theorem dX1_firstFault_33 : decode cX1_firstFault 33 = .ok (.goto 25, 3) := by decide +kernel
theorem dX1_firstFault_36 : decode cX1_firstFault 36 = .ok (.aload_n 0, 1) := by decide +kernel
theorem dX1_firstFault_37 : decode cX1_firstFault 37 = .ok (.getfield 9, 3) := by decide +kernel
theorem dX1_firstFault_40 : decode cX1_firstFault 40 = .ok (.iload_n 2, 1) := by decide +kernel
theorem dX1_firstFault_41 : decode cX1_firstFault 41 = .ok (.iaload, 1) := by decide +kernel
theorem dX1_firstFault_42 : decode cX1_firstFault 42 = .ok (.bipush 59, 2) := by decide +kernel
theorem dX1_firstFault_44 : decode cX1_firstFault 44 = .ok (.if_icmp .ne 12, 3) := by decide +kernel
theorem dX1_firstFault_47 : decode cX1_firstFault 47 = .ok (.iload_n 1, 1) := by decide +kernel
theorem dX1_firstFault_48 : decode cX1_firstFault 48 = .ok (.ifCond .le 8, 3) := by decide +kernel
theorem dX1_firstFault_51 : decode cX1_firstFault 51 = .ok (.iconst 0, 1) := by decide +kernel
theorem dX1_firstFault_52 : decode cX1_firstFault 52 = .ok (.istore_n 1, 1) := by decide +kernel
theorem dX1_firstFault_53 : decode cX1_firstFault 53 = .ok (.goto 5, 3) := by decide +kernel
theorem dX1_firstFault_56 : decode cX1_firstFault 56 = .ok (.iload_n 2, 1) := by decide +kernel
theorem dX1_firstFault_57 : decode cX1_firstFault 57 = .ok (.ireturn, 1) := by decide +kernel
theorem dX1_firstFault_58 : decode cX1_firstFault 58 = .ok (.iinc 2 1, 3) := by decide +kernel
theorem dX1_firstFault_61 : decode cX1_firstFault 61 = .ok (.goto (-57), 3) := by decide +kernel
theorem dX1_firstFault_64 : decode cX1_firstFault 64 = .ok (.aload_n 0, 1) := by decide +kernel
theorem dX1_firstFault_65 : decode cX1_firstFault 65 = .ok (.getfield 15, 3) := by decide +kernel
theorem dX1_firstFault_68 : decode cX1_firstFault 68 = .ok (.ireturn, 1) := by decide +kernel
theorem dX1_isComplete_0 : decode cX1_isComplete 0 = .ok (.aload_n 0, 1) := by decide +kernel
theorem dX1_isComplete_1 : decode cX1_isComplete 1 = .ok (.getfield 15, 3) := by decide +kernel
theorem dX1_isComplete_4 : decode cX1_isComplete 4 = .ok (.ifCond .le 34, 3) := by decide +kernel
theorem dX1_isComplete_7 : decode cX1_isComplete 7 = .ok (.aload_n 0, 1) := by decide +kernel
theorem dX1_isComplete_8 : decode cX1_isComplete 8 = .ok (.invokevirtual 23, 3) := by decide +kernel
theorem dX1_isComplete_11 : decode cX1_isComplete 11 = .ok (.aload_n 0, 1) := by decide +kernel
theorem dX1_isComplete_12 : decode cX1_isComplete 12 = .ok (.getfield 15, 3) := by decide +kernel
theorem dX1_isComplete_15 : decode cX1_isComplete 15 = .ok (.if_icmp .ne 23, 3) := by decide +kernel
theorem dX1_isComplete_18 : decode cX1_isComplete 18 = .ok (.aload_n 0, 1) := by decide +kernel
theorem dX1_isComplete_19 : decode cX1_isComplete 19 = .ok (.getfield 9, 3) := by decide +kernel
theorem dX1_isComplete_22 : decode cX1_isComplete 22 = .ok (.aload_n 0, 1) := by decide +kernel
theorem dX1_isComplete_23 : decode cX1_isComplete 23 = .ok (.getfield 15, 3) := by decide +kernel
theorem dX1_isComplete_26 : decode cX1_isComplete 26 = .ok (.iconst 1, 1) := by decide +kernel
theorem dX1_isComplete_27 : decode cX1_isComplete 27 = .ok (.isub, 1) := by decide +kernel
theorem dX1_isComplete_28 : decode cX1_isComplete 28 = .ok (.iaload, 1) := by decide +kernel
theorem dX1_isComplete_29 : decode cX1_isComplete 29 = .ok (.bipush 59, 2) := by decide +kernel
theorem dX1_isComplete_31 : decode cX1_isComplete 31 = .ok (.if_icmp .eq 7, 3) := by decide +kernel
theorem dX1_isComplete_34 : decode cX1_isComplete 34 = .ok (.iconst 1, 1) := by decide +kernel
theorem dX1_isComplete_35 : decode cX1_isComplete 35 = .ok (.goto 4, 3) := by decide +kernel
theorem dX1_isComplete_38 : decode cX1_isComplete 38 = .ok (.iconst 0, 1) := by decide +kernel
theorem dX1_isComplete_39 : decode cX1_isComplete 39 = .ok (.ireturn, 1) := by decide +kernel
theorem dX1_rowCount_0 : decode cX1_rowCount 0 = .ok (.iconst 1, 1) := by decide +kernel
theorem dX1_rowCount_1 : decode cX1_rowCount 1 = .ok (.istore_n 1, 1) := by decide +kernel
theorem dX1_rowCount_2 : decode cX1_rowCount 2 = .ok (.iconst 0, 1) := by decide +kernel
theorem dX1_rowCount_3 : decode cX1_rowCount 3 = .ok (.istore_n 2, 1) := by decide +kernel
theorem dX1_rowCount_4 : decode cX1_rowCount 4 = .ok (.iload_n 2, 1) := by decide +kernel
theorem dX1_rowCount_5 : decode cX1_rowCount 5 = .ok (.aload_n 0, 1) := by decide +kernel
theorem dX1_rowCount_6 : decode cX1_rowCount 6 = .ok (.getfield 15, 3) := by decide +kernel
theorem dX1_rowCount_9 : decode cX1_rowCount 9 = .ok (.if_icmp .ge 31, 3) := by decide +kernel
theorem dX1_rowCount_12 : decode cX1_rowCount 12 = .ok (.iload_n 1, 1) := by decide +kernel
theorem dX1_rowCount_13 : decode cX1_rowCount 13 = .ok (.aload_n 0, 1) := by decide +kernel
theorem dX1_rowCount_14 : decode cX1_rowCount 14 = .ok (.getfield 9, 3) := by decide +kernel
theorem dX1_rowCount_17 : decode cX1_rowCount 17 = .ok (.iload_n 2, 1) := by decide +kernel
theorem dX1_rowCount_18 : decode cX1_rowCount 18 = .ok (.iaload, 1) := by decide +kernel
theorem dX1_rowCount_19 : decode cX1_rowCount 19 = .ok (.bipush 59, 2) := by decide +kernel
theorem dX1_rowCount_21 : decode cX1_rowCount 21 = .ok (.if_icmp .ne 7, 3) := by decide +kernel
theorem dX1_rowCount_24 : decode cX1_rowCount 24 = .ok (.iconst 1, 1) := by decide +kernel
theorem dX1_rowCount_25 : decode cX1_rowCount 25 = .ok (.goto 4, 3) := by decide +kernel
theorem dX1_rowCount_28 : decode cX1_rowCount 28 = .ok (.iconst 0, 1) := by decide +kernel
theorem dX1_rowCount_29 : decode cX1_rowCount 29 = .ok (.invokestatic 27, 3) := by decide +kernel
theorem dX1_rowCount_32 : decode cX1_rowCount 32 = .ok (.iadd, 1) := by decide +kernel
theorem dX1_rowCount_33 : decode cX1_rowCount 33 = .ok (.istore_n 1, 1) := by decide +kernel
theorem dX1_rowCount_34 : decode cX1_rowCount 34 = .ok (.iinc 2 1, 3) := by decide +kernel
theorem dX1_rowCount_37 : decode cX1_rowCount 37 = .ok (.goto (-33), 3) := by decide +kernel
theorem dX1_rowCount_40 : decode cX1_rowCount 40 = .ok (.iload_n 1, 1) := by decide +kernel
theorem dX1_rowCount_41 : decode cX1_rowCount 41 = .ok (.ireturn, 1) := by decide +kernel
theorem dX1_endOfRow_0 : decode cX1_endOfRow 0 = .ok (.iload_n 1, 1) := by decide +kernel
theorem dX1_endOfRow_1 : decode cX1_endOfRow 1 = .ok (.istore_n 2, 1) := by decide +kernel
theorem dX1_endOfRow_2 : decode cX1_endOfRow 2 = .ok (.iload_n 2, 1) := by decide +kernel
theorem dX1_endOfRow_3 : decode cX1_endOfRow 3 = .ok (.aload_n 0, 1) := by decide +kernel
theorem dX1_endOfRow_4 : decode cX1_endOfRow 4 = .ok (.getfield 15, 3) := by decide +kernel
theorem dX1_endOfRow_7 : decode cX1_endOfRow 7 = .ok (.if_icmp .ge 20, 3) := by decide +kernel
theorem dX1_endOfRow_10 : decode cX1_endOfRow 10 = .ok (.aload_n 0, 1) := by decide +kernel
theorem dX1_endOfRow_11 : decode cX1_endOfRow 11 = .ok (.getfield 9, 3) := by decide +kernel
theorem dX1_endOfRow_14 : decode cX1_endOfRow 14 = .ok (.iload_n 2, 1) := by decide +kernel
theorem dX1_endOfRow_15 : decode cX1_endOfRow 15 = .ok (.iaload, 1) := by decide +kernel
theorem dX1_endOfRow_16 : decode cX1_endOfRow 16 = .ok (.bipush 59, 2) := by decide +kernel
theorem dX1_endOfRow_18 : decode cX1_endOfRow 18 = .ok (.if_icmp .eq 9, 3) := by decide +kernel
theorem dX1_endOfRow_21 : decode cX1_endOfRow 21 = .ok (.iinc 2 1, 3) := by decide +kernel
theorem dX1_endOfRow_24 : decode cX1_endOfRow 24 = .ok (.goto (-22), 3) := by decide +kernel
theorem dX1_endOfRow_27 : decode cX1_endOfRow 27 = .ok (.iload_n 2, 1) := by decide +kernel
theorem dX1_endOfRow_28 : decode cX1_endOfRow 28 = .ok (.ireturn, 1) := by decide +kernel
theorem dX2_init_0 : decode cX2_init 0 = .ok (.aload_n 0, 1) := by decide +kernel
theorem dX2_init_1 : decode cX2_init 1 = .ok (.invokespecial 3, 3) := by decide +kernel
theorem dX2_init_4 : decode cX2_init 4 = .ok (.aload_n 0, 1) := by decide +kernel
theorem dX2_init_5 : decode cX2_init 5 = .ok (.bipush 6, 2) := by decide +kernel
theorem dX2_init_7 : decode cX2_init 7 = .ok (.anewarray 9, 3) := by decide +kernel
theorem dX2_init_10 : decode cX2_init 10 = .ok (.putfield 11, 3) := by decide +kernel
theorem dX2_init_13 : decode cX2_init 13 = .ok (.aload_n 0, 1) := by decide +kernel
theorem dX2_init_14 : decode cX2_init 14 = .ok (.iconst 0, 1) := by decide +kernel
theorem dX2_init_15 : decode cX2_init 15 = .ok (.putfield 17, 3) := by decide +kernel
theorem dX2_init_18 : decode cX2_init 18 = .ok (.aload_n 0, 1) := by decide +kernel
theorem dX2_init_19 : decode cX2_init 19 = .ok (.iconst 0, 1) := by decide +kernel
theorem dX2_init_20 : decode cX2_init 20 = .ok (.putfield 21, 3) := by decide +kernel
theorem dX2_init_23 : decode cX2_init 23 = .ok (.iconst 0, 1) := by decide +kernel
theorem dX2_init_24 : decode cX2_init 24 = .ok (.istore_n 1, 1) := by decide +kernel
theorem dX2_init_25 : decode cX2_init 25 = .ok (.iload_n 1, 1) := by decide +kernel
theorem dX2_init_26 : decode cX2_init 26 = .ok (.bipush 6, 2) := by decide +kernel
theorem dX2_init_28 : decode cX2_init 28 = .ok (.if_icmp .ge 22, 3) := by decide +kernel
theorem dX2_init_31 : decode cX2_init 31 = .ok (.aload_n 0, 1) := by decide +kernel
theorem dX2_init_32 : decode cX2_init 32 = .ok (.getfield 11, 3) := by decide +kernel
theorem dX2_init_35 : decode cX2_init 35 = .ok (.iload_n 1, 1) := by decide +kernel
theorem dX2_init_36 : decode cX2_init 36 = .ok (.new 9, 3) := by decide +kernel
theorem dX2_init_39 : decode cX2_init 39 = .ok (.dup, 1) := by decide +kernel
theorem dX2_init_40 : decode cX2_init 40 = .ok (.invokespecial 24, 3) := by decide +kernel
theorem dX2_init_43 : decode cX2_init 43 = .ok (.aastore, 1) := by decide +kernel
theorem dX2_init_44 : decode cX2_init 44 = .ok (.iinc 1 1, 3) := by decide +kernel
theorem dX2_init_47 : decode cX2_init 47 = .ok (.goto (-22), 3) := by decide +kernel
theorem dX2_init_50 : decode cX2_init 50 = .ok (.return_, 1) := by decide +kernel
theorem dX2_save_0 : decode cX2_save 0 = .ok (.aload_n 0, 1) := by decide +kernel
theorem dX2_save_1 : decode cX2_save 1 = .ok (.getfield 21, 3) := by decide +kernel
theorem dX2_save_4 : decode cX2_save 4 = .ok (.bipush 6, 2) := by decide +kernel
theorem dX2_save_6 : decode cX2_save 6 = .ok (.if_icmp .ne 26, 3) := by decide +kernel
theorem dX2_save_9 : decode cX2_save 9 = .ok (.aload_n 0, 1) := by decide +kernel
theorem dX2_save_10 : decode cX2_save 10 = .ok (.aload_n 0, 1) := by decide +kernel
theorem dX2_save_11 : decode cX2_save 11 = .ok (.getfield 17, 3) := by decide +kernel
theorem dX2_save_14 : decode cX2_save 14 = .ok (.iconst 1, 1) := by decide +kernel
theorem dX2_save_15 : decode cX2_save 15 = .ok (.iadd, 1) := by decide +kernel
theorem dX2_save_16 : decode cX2_save 16 = .ok (.bipush 6, 2) := by decide +kernel
theorem dX2_save_18 : decode cX2_save 18 = .ok (.irem, 1) := by decide +kernel
theorem dX2_save_19 : decode cX2_save 19 = .ok (.putfield 17, 3) := by decide +kernel
theorem dX2_save_22 : decode cX2_save 22 = .ok (.aload_n 0, 1) := by decide +kernel
theorem dX2_save_23 : decode cX2_save 23 = .ok (.dup, 1) := by decide +kernel
theorem dX2_save_24 : decode cX2_save 24 = .ok (.getfield 21, 3) := by decide +kernel
theorem dX2_save_27 : decode cX2_save 27 = .ok (.iconst 1, 1) := by decide +kernel
theorem dX2_save_28 : decode cX2_save 28 = .ok (.isub, 1) := by decide +kernel
theorem dX2_save_29 : decode cX2_save 29 = .ok (.putfield 21, 3) := by decide +kernel
theorem dX2_save_32 : decode cX2_save 32 = .ok (.aload_n 0, 1) := by decide +kernel
theorem dX2_save_33 : decode cX2_save 33 = .ok (.getfield 11, 3) := by decide +kernel
theorem dX2_save_36 : decode cX2_save 36 = .ok (.aload_n 0, 1) := by decide +kernel
theorem dX2_save_37 : decode cX2_save 37 = .ok (.getfield 17, 3) := by decide +kernel
theorem dX2_save_40 : decode cX2_save 40 = .ok (.aload_n 0, 1) := by decide +kernel
theorem dX2_save_41 : decode cX2_save 41 = .ok (.getfield 21, 3) := by decide +kernel
theorem dX2_save_44 : decode cX2_save 44 = .ok (.iadd, 1) := by decide +kernel
theorem dX2_save_45 : decode cX2_save 45 = .ok (.bipush 6, 2) := by decide +kernel
theorem dX2_save_47 : decode cX2_save 47 = .ok (.irem, 1) := by decide +kernel
theorem dX2_save_48 : decode cX2_save 48 = .ok (.aaload, 1) := by decide +kernel
theorem dX2_save_49 : decode cX2_save 49 = .ok (.aload_n 1, 1) := by decide +kernel
theorem dX2_save_50 : decode cX2_save 50 = .ok (.invokevirtual 25, 3) := by decide +kernel
theorem dX2_save_53 : decode cX2_save 53 = .ok (.aload_n 0, 1) := by decide +kernel
theorem dX2_save_54 : decode cX2_save 54 = .ok (.dup, 1) := by decide +kernel
theorem dX2_save_55 : decode cX2_save 55 = .ok (.getfield 21, 3) := by decide +kernel
theorem dX2_save_58 : decode cX2_save 58 = .ok (.iconst 1, 1) := by decide +kernel
theorem dX2_save_59 : decode cX2_save 59 = .ok (.iadd, 1) := by decide +kernel
theorem dX2_save_60 : decode cX2_save 60 = .ok (.putfield 21, 3) := by decide +kernel
theorem dX2_save_63 : decode cX2_save 63 = .ok (.return_, 1) := by decide +kernel
theorem dX2_restore_0 : decode cX2_restore 0 = .ok (.aload_n 0, 1) := by decide +kernel
theorem dX2_restore_1 : decode cX2_restore 1 = .ok (.dup, 1) := by decide +kernel
theorem dX2_restore_2 : decode cX2_restore 2 = .ok (.getfield 21, 3) := by decide +kernel
theorem dX2_restore_5 : decode cX2_restore 5 = .ok (.iconst 1, 1) := by decide +kernel
theorem dX2_restore_6 : decode cX2_restore 6 = .ok (.isub, 1) := by decide +kernel
theorem dX2_restore_7 : decode cX2_restore 7 = .ok (.putfield 21, 3) := by decide +kernel
theorem dX2_restore_10 : decode cX2_restore 10 = .ok (.aload_n 1, 1) := by decide +kernel
theorem dX2_restore_11 : decode cX2_restore 11 = .ok (.aload_n 0, 1) := by decide +kernel
theorem dX2_restore_12 : decode cX2_restore 12 = .ok (.getfield 11, 3) := by decide +kernel
theorem dX2_restore_15 : decode cX2_restore 15 = .ok (.aload_n 0, 1) := by decide +kernel
theorem dX2_restore_16 : decode cX2_restore 16 = .ok (.getfield 17, 3) := by decide +kernel
theorem dX2_restore_19 : decode cX2_restore 19 = .ok (.aload_n 0, 1) := by decide +kernel
theorem dX2_restore_20 : decode cX2_restore 20 = .ok (.getfield 21, 3) := by decide +kernel
theorem dX2_restore_23 : decode cX2_restore 23 = .ok (.iadd, 1) := by decide +kernel
theorem dX2_restore_24 : decode cX2_restore 24 = .ok (.bipush 6, 2) := by decide +kernel
theorem dX2_restore_26 : decode cX2_restore 26 = .ok (.irem, 1) := by decide +kernel
theorem dX2_restore_27 : decode cX2_restore 27 = .ok (.aaload, 1) := by decide +kernel
theorem dX2_restore_28 : decode cX2_restore 28 = .ok (.invokevirtual 25, 3) := by decide +kernel
theorem dX2_restore_31 : decode cX2_restore 31 = .ok (.return_, 1) := by decide +kernel
theorem dX3_init_0 : decode cX3_init 0 = .ok (.aload_n 0, 1) := by decide +kernel
theorem dX3_init_1 : decode cX3_init 1 = .ok (.invokespecial 3, 3) := by decide +kernel
theorem dX3_init_4 : decode cX3_init 4 = .ok (.aload_n 0, 1) := by decide +kernel
theorem dX3_init_5 : decode cX3_init 5 = .ok (.bipush 30, 2) := by decide +kernel
theorem dX3_init_7 : decode cX3_init 7 = .ok (.anewarray 9, 3) := by decide +kernel
theorem dX3_init_10 : decode cX3_init 10 = .ok (.putfield 11, 3) := by decide +kernel
theorem dX3_init_13 : decode cX3_init 13 = .ok (.aload_n 0, 1) := by decide +kernel
theorem dX3_init_14 : decode cX3_init 14 = .ok (.iconst 0, 1) := by decide +kernel
theorem dX3_init_15 : decode cX3_init 15 = .ok (.putfield 17, 3) := by decide +kernel
theorem dX3_init_18 : decode cX3_init 18 = .ok (.iconst 0, 1) := by decide +kernel
theorem dX3_init_19 : decode cX3_init 19 = .ok (.istore_n 2, 1) := by decide +kernel
theorem dX3_init_20 : decode cX3_init 20 = .ok (.iload_n 2, 1) := by decide +kernel
theorem dX3_init_21 : decode cX3_init 21 = .ok (.bipush 30, 2) := by decide +kernel
theorem dX3_init_23 : decode cX3_init 23 = .ok (.if_icmp .ge 16, 3) := by decide +kernel
theorem dX3_init_26 : decode cX3_init 26 = .ok (.aload_n 0, 1) := by decide +kernel
theorem dX3_init_27 : decode cX3_init 27 = .ok (.getfield 11, 3) := by decide +kernel
theorem dX3_init_30 : decode cX3_init 30 = .ok (.iload_n 2, 1) := by decide +kernel
theorem dX3_init_31 : decode cX3_init 31 = .ok (.aload_n 1, 1) := by decide +kernel
theorem dX3_init_32 : decode cX3_init 32 = .ok (.aastore, 1) := by decide +kernel
theorem dX3_init_33 : decode cX3_init 33 = .ok (.iinc 2 1, 3) := by decide +kernel
theorem dX3_init_36 : decode cX3_init 36 = .ok (.goto (-16), 3) := by decide +kernel
theorem dX3_init_39 : decode cX3_init 39 = .ok (.return_, 1) := by decide +kernel
theorem dX3_copyFrom_0 : decode cX3_copyFrom 0 = .ok (.aload_n 0, 1) := by decide +kernel
theorem dX3_copyFrom_1 : decode cX3_copyFrom 1 = .ok (.aload_n 1, 1) := by decide +kernel
theorem dX3_copyFrom_2 : decode cX3_copyFrom 2 = .ok (.getfield 17, 3) := by decide +kernel
theorem dX3_copyFrom_5 : decode cX3_copyFrom 5 = .ok (.putfield 17, 3) := by decide +kernel
theorem dX3_copyFrom_8 : decode cX3_copyFrom 8 = .ok (.iconst 0, 1) := by decide +kernel
theorem dX3_copyFrom_9 : decode cX3_copyFrom 9 = .ok (.istore_n 2, 1) := by decide +kernel
theorem dX3_copyFrom_10 : decode cX3_copyFrom 10 = .ok (.iload_n 2, 1) := by decide +kernel
theorem dX3_copyFrom_11 : decode cX3_copyFrom 11 = .ok (.aload_n 0, 1) := by decide +kernel
theorem dX3_copyFrom_12 : decode cX3_copyFrom 12 = .ok (.getfield 17, 3) := by decide +kernel
theorem dX3_copyFrom_15 : decode cX3_copyFrom 15 = .ok (.if_icmp .ge 21, 3) := by decide +kernel
theorem dX3_copyFrom_18 : decode cX3_copyFrom 18 = .ok (.aload_n 0, 1) := by decide +kernel
theorem dX3_copyFrom_19 : decode cX3_copyFrom 19 = .ok (.getfield 11, 3) := by decide +kernel
theorem dX3_copyFrom_22 : decode cX3_copyFrom 22 = .ok (.iload_n 2, 1) := by decide +kernel
theorem dX3_copyFrom_23 : decode cX3_copyFrom 23 = .ok (.aload_n 1, 1) := by decide +kernel
theorem dX3_copyFrom_24 : decode cX3_copyFrom 24 = .ok (.getfield 11, 3) := by decide +kernel
theorem dX3_copyFrom_27 : decode cX3_copyFrom 27 = .ok (.iload_n 2, 1) := by decide +kernel
theorem dX3_copyFrom_28 : decode cX3_copyFrom 28 = .ok (.aaload, 1) := by decide +kernel
theorem dX3_copyFrom_29 : decode cX3_copyFrom 29 = .ok (.aastore, 1) := by decide +kernel
theorem dX3_copyFrom_30 : decode cX3_copyFrom 30 = .ok (.iinc 2 1, 3) := by decide +kernel
theorem dX3_copyFrom_33 : decode cX3_copyFrom 33 = .ok (.goto (-23), 3) := by decide +kernel
theorem dX3_copyFrom_36 : decode cX3_copyFrom 36 = .ok (.return_, 1) := by decide +kernel
theorem dX3_remember_0 : decode cX3_remember 0 = .ok (.aload_n 0, 1) := by decide +kernel
theorem dX3_remember_1 : decode cX3_remember 1 = .ok (.getfield 17, 3) := by decide +kernel
theorem dX3_remember_4 : decode cX3_remember 4 = .ok (.bipush 30, 2) := by decide +kernel
theorem dX3_remember_6 : decode cX3_remember 6 = .ok (.if_icmp .ne 7, 3) := by decide +kernel
theorem dX3_remember_9 : decode cX3_remember 9 = .ok (.aload_n 0, 1) := by decide +kernel
theorem dX3_remember_10 : decode cX3_remember 10 = .ok (.invokevirtual 21, 3) := by decide +kernel
theorem dX3_remember_13 : decode cX3_remember 13 = .ok (.aload_n 0, 1) := by decide +kernel
theorem dX3_remember_14 : decode cX3_remember 14 = .ok (.getfield 11, 3) := by decide +kernel
theorem dX3_remember_17 : decode cX3_remember 17 = .ok (.aload_n 0, 1) := by decide +kernel
theorem dX3_remember_18 : decode cX3_remember 18 = .ok (.getfield 17, 3) := by decide +kernel
theorem dX3_remember_21 : decode cX3_remember 21 = .ok (.aload_n 1, 1) := by decide +kernel
theorem dX3_remember_22 : decode cX3_remember 22 = .ok (.aastore, 1) := by decide +kernel
theorem dX3_remember_23 : decode cX3_remember 23 = .ok (.aload_n 0, 1) := by decide +kernel
theorem dX3_remember_24 : decode cX3_remember 24 = .ok (.dup, 1) := by decide +kernel
theorem dX3_remember_25 : decode cX3_remember 25 = .ok (.getfield 17, 3) := by decide +kernel
theorem dX3_remember_28 : decode cX3_remember 28 = .ok (.iconst 1, 1) := by decide +kernel
theorem dX3_remember_29 : decode cX3_remember 29 = .ok (.iadd, 1) := by decide +kernel
theorem dX3_remember_30 : decode cX3_remember 30 = .ok (.putfield 17, 3) := by decide +kernel
theorem dX3_remember_33 : decode cX3_remember 33 = .ok (.return_, 1) := by decide +kernel
theorem dX3_dropFirst_0 : decode cX3_dropFirst 0 = .ok (.iconst 1, 1) := by decide +kernel
theorem dX3_dropFirst_1 : decode cX3_dropFirst 1 = .ok (.istore_n 1, 1) := by decide +kernel
theorem dX3_dropFirst_2 : decode cX3_dropFirst 2 = .ok (.iload_n 1, 1) := by decide +kernel
theorem dX3_dropFirst_3 : decode cX3_dropFirst 3 = .ok (.aload_n 0, 1) := by decide +kernel
theorem dX3_dropFirst_4 : decode cX3_dropFirst 4 = .ok (.getfield 17, 3) := by decide +kernel
theorem dX3_dropFirst_7 : decode cX3_dropFirst 7 = .ok (.if_icmp .ge 23, 3) := by decide +kernel
theorem dX3_dropFirst_10 : decode cX3_dropFirst 10 = .ok (.aload_n 0, 1) := by decide +kernel
theorem dX3_dropFirst_11 : decode cX3_dropFirst 11 = .ok (.getfield 11, 3) := by decide +kernel
theorem dX3_dropFirst_14 : decode cX3_dropFirst 14 = .ok (.iload_n 1, 1) := by decide +kernel
theorem dX3_dropFirst_15 : decode cX3_dropFirst 15 = .ok (.iconst 1, 1) := by decide +kernel
theorem dX3_dropFirst_16 : decode cX3_dropFirst 16 = .ok (.isub, 1) := by decide +kernel
theorem dX3_dropFirst_17 : decode cX3_dropFirst 17 = .ok (.aload_n 0, 1) := by decide +kernel
theorem dX3_dropFirst_18 : decode cX3_dropFirst 18 = .ok (.getfield 11, 3) := by decide +kernel
theorem dX3_dropFirst_21 : decode cX3_dropFirst 21 = .ok (.iload_n 1, 1) := by decide +kernel
theorem dX3_dropFirst_22 : decode cX3_dropFirst 22 = .ok (.aaload, 1) := by decide +kernel
theorem dX3_dropFirst_23 : decode cX3_dropFirst 23 = .ok (.aastore, 1) := by decide +kernel
theorem dX3_dropFirst_24 : decode cX3_dropFirst 24 = .ok (.iinc 1 1, 3) := by decide +kernel
theorem dX3_dropFirst_27 : decode cX3_dropFirst 27 = .ok (.goto (-25), 3) := by decide +kernel
theorem dX3_dropFirst_30 : decode cX3_dropFirst 30 = .ok (.aload_n 0, 1) := by decide +kernel
theorem dX3_dropFirst_31 : decode cX3_dropFirst 31 = .ok (.dup, 1) := by decide +kernel
theorem dX3_dropFirst_32 : decode cX3_dropFirst 32 = .ok (.getfield 17, 3) := by decide +kernel
theorem dX3_dropFirst_35 : decode cX3_dropFirst 35 = .ok (.iconst 1, 1) := by decide +kernel
theorem dX3_dropFirst_36 : decode cX3_dropFirst 36 = .ok (.isub, 1) := by decide +kernel
theorem dX3_dropFirst_37 : decode cX3_dropFirst 37 = .ok (.putfield 17, 3) := by decide +kernel
theorem dX3_dropFirst_40 : decode cX3_dropFirst 40 = .ok (.return_, 1) := by decide +kernel
theorem dX3_greatestMatch_0 : decode cX3_greatestMatch 0 = .ok (.iconst 0, 1) := by decide +kernel
theorem dX3_greatestMatch_1 : decode cX3_greatestMatch 1 = .ok (.istore_n 3, 1) := by decide +kernel
theorem dX3_greatestMatch_2 : decode cX3_greatestMatch 2 = .ok (.iload_n 2, 1) := by decide +kernel
theorem dX3_greatestMatch_3 : decode cX3_greatestMatch 3 = .ok (.istore 4, 2) := by decide +kernel
theorem dX3_greatestMatch_5 : decode cX3_greatestMatch 5 = .ok (.iload 4, 2) := by decide +kernel
theorem dX3_greatestMatch_7 : decode cX3_greatestMatch 7 = .ok (.aload_n 0, 1) := by decide +kernel
theorem dX3_greatestMatch_8 : decode cX3_greatestMatch 8 = .ok (.getfield 17, 3) := by decide +kernel
theorem dX3_greatestMatch_11 : decode cX3_greatestMatch 11 = .ok (.if_icmp .ge 25, 3) := by decide +kernel
theorem dX3_greatestMatch_14 : decode cX3_greatestMatch 14 = .ok (.iload_n 3, 1) := by decide +kernel
theorem dX3_greatestMatch_15 : decode cX3_greatestMatch 15 = .ok (.aload_n 1, 1) := by decide +kernel
theorem dX3_greatestMatch_16 : decode cX3_greatestMatch 16 = .ok (.aload_n 0, 1) := by decide +kernel
theorem dX3_greatestMatch_17 : decode cX3_greatestMatch 17 = .ok (.getfield 11, 3) := by decide +kernel
theorem dX3_greatestMatch_20 : decode cX3_greatestMatch 20 = .ok (.iload 4, 2) := by decide +kernel
theorem dX3_greatestMatch_22 : decode cX3_greatestMatch 22 = .ok (.aaload, 1) := by decide +kernel
theorem dX3_greatestMatch_23 : decode cX3_greatestMatch 23 = .ok (.invokevirtual 24, 3) := by decide +kernel
theorem dX3_greatestMatch_26 : decode cX3_greatestMatch 26 = .ok (.invokestatic 28, 3) := by decide +kernel
theorem dX3_greatestMatch_29 : decode cX3_greatestMatch 29 = .ok (.istore_n 3, 1) := by decide +kernel
theorem dX3_greatestMatch_30 : decode cX3_greatestMatch 30 = .ok (.iinc 4 1, 3) := by decide +kernel
theorem dX3_greatestMatch_33 : decode cX3_greatestMatch 33 = .ok (.goto (-28), 3) := by decide +kernel
theorem dX3_greatestMatch_36 : decode cX3_greatestMatch 36 = .ok (.iload_n 3, 1) := by decide +kernel
theorem dX3_greatestMatch_37 : decode cX3_greatestMatch 37 = .ok (.ireturn, 1) := by decide +kernel
theorem dX3_bestRow_0 : decode cX3_bestRow 0 = .ok (.aload_n 0, 1) := by decide +kernel
theorem dX3_bestRow_1 : decode cX3_bestRow 1 = .ok (.aload_n 1, 1) := by decide +kernel
theorem dX3_bestRow_2 : decode cX3_bestRow 2 = .ok (.iconst 0, 1) := by decide +kernel
theorem dX3_bestRow_3 : decode cX3_bestRow 3 = .ok (.invokevirtual 34, 3) := by decide +kernel
theorem dX3_bestRow_6 : decode cX3_bestRow 6 = .ok (.istore_n 2, 1) := by decide +kernel
theorem dX3_bestRow_7 : decode cX3_bestRow 7 = .ok (.iconst (-1), 1) := by decide +kernel
theorem dX3_bestRow_8 : decode cX3_bestRow 8 = .ok (.istore_n 3, 1) := by decide +kernel
theorem dX3_bestRow_9 : decode cX3_bestRow 9 = .ok (.iconst 0, 1) := by decide +kernel
theorem dX3_bestRow_10 : decode cX3_bestRow 10 = .ok (.istore 4, 2) := by decide +kernel
theorem dX3_bestRow_12 : decode cX3_bestRow 12 = .ok (.iload 4, 2) := by decide +kernel
theorem dX3_bestRow_14 : decode cX3_bestRow 14 = .ok (.aload_n 0, 1) := by decide +kernel
theorem dX3_bestRow_15 : decode cX3_bestRow 15 = .ok (.getfield 17, 3) := by decide +kernel
theorem dX3_bestRow_18 : decode cX3_bestRow 18 = .ok (.if_icmp .ge 27, 3) := by decide +kernel
theorem dX3_bestRow_21 : decode cX3_bestRow 21 = .ok (.aload_n 1, 1) := by decide +kernel
theorem dX3_bestRow_22 : decode cX3_bestRow 22 = .ok (.aload_n 0, 1) := by decide +kernel
theorem dX3_bestRow_23 : decode cX3_bestRow 23 = .ok (.getfield 11, 3) := by decide +kernel
theorem dX3_bestRow_26 : decode cX3_bestRow 26 = .ok (.iload 4, 2) := by decide +kernel
theorem dX3_bestRow_28 : decode cX3_bestRow 28 = .ok (.aaload, 1) := by decide +kernel
theorem dX3_bestRow_29 : decode cX3_bestRow 29 = .ok (.invokevirtual 24, 3) := by decide +kernel
theorem dX3_bestRow_32 : decode cX3_bestRow 32 = .ok (.iload_n 2, 1) := by decide +kernel
theorem dX3_bestRow_33 : decode cX3_bestRow 33 = .ok (.if_icmp .ne 6, 3) := by decide +kernel
theorem dX3_bestRow_36 : decode cX3_bestRow 36 = .ok (.iload 4, 2) := by decide +kernel
theorem dX3_bestRow_38 : decode cX3_bestRow 38 = .ok (.istore_n 3, 1) := by decide +kernel
theorem dX3_bestRow_39 : decode cX3_bestRow 39 = .ok (.iinc 4 1, 3) := by decide +kernel
theorem dX3_bestRow_42 : decode cX3_bestRow 42 = .ok (.goto (-30), 3) := by decide +kernel
theorem dX3_bestRow_45 : decode cX3_bestRow 45 = .ok (.iload_n 3, 1) := by decide +kernel
theorem dX3_bestRow_46 : decode cX3_bestRow 46 = .ok (.ireturn, 1) := by decide +kernel
theorem dX3_greatestMatchAfter_0 : decode cX3_greatestMatchAfter 0 = .ok (.aload_n 0, 1) := by decide +kernel
theorem dX3_greatestMatchAfter_1 : decode cX3_greatestMatchAfter 1 = .ok (.getfield 17, 3) := by decide +kernel
theorem dX3_greatestMatchAfter_4 : decode cX3_greatestMatchAfter 4 = .ok (.bipush 30, 2) := by decide +kernel
theorem dX3_greatestMatchAfter_6 : decode cX3_greatestMatchAfter 6 = .ok (.if_icmp .ne 7, 3) := by decide +kernel
theorem dX3_greatestMatchAfter_9 : decode cX3_greatestMatchAfter 9 = .ok (.iconst 1, 1) := by decide +kernel
theorem dX3_greatestMatchAfter_10 : decode cX3_greatestMatchAfter 10 = .ok (.goto 4, 3) := by decide +kernel
theorem dX3_greatestMatchAfter_13 : decode cX3_greatestMatchAfter 13 = .ok (.iconst 0, 1) := by decide +kernel
theorem dX3_greatestMatchAfter_14 : decode cX3_greatestMatchAfter 14 = .ok (.istore_n 3, 1) := by decide +kernel
theorem dX3_greatestMatchAfter_15 : decode cX3_greatestMatchAfter 15 = .ok (.aload_n 0, 1) := by decide +kernel
theorem dX3_greatestMatchAfter_16 : decode cX3_greatestMatchAfter 16 = .ok (.aload_n 1, 1) := by decide +kernel
theorem dX3_greatestMatchAfter_17 : decode cX3_greatestMatchAfter 17 = .ok (.iload_n 3, 1) := by decide +kernel
theorem dX3_greatestMatchAfter_18 : decode cX3_greatestMatchAfter 18 = .ok (.invokevirtual 34, 3) := by decide +kernel
theorem dX3_greatestMatchAfter_21 : decode cX3_greatestMatchAfter 21 = .ok (.aload_n 1, 1) := by decide +kernel
theorem dX3_greatestMatchAfter_22 : decode cX3_greatestMatchAfter 22 = .ok (.aload_n 2, 1) := by decide +kernel
theorem dX3_greatestMatchAfter_23 : decode cX3_greatestMatchAfter 23 = .ok (.invokevirtual 24, 3) := by decide +kernel
theorem dX3_greatestMatchAfter_26 : decode cX3_greatestMatchAfter 26 = .ok (.invokestatic 28, 3) := by decide +kernel
theorem dX3_greatestMatchAfter_29 : decode cX3_greatestMatchAfter 29 = .ok (.ireturn, 1) := by decide +kernel
theorem dX4_init_0 : decode cX4_init 0 = .ok (.aload_n 0, 1) := by decide +kernel
theorem dX4_init_1 : decode cX4_init 1 = .ok (.invokespecial 3, 3) := by decide +kernel
theorem dX4_init_4 : decode cX4_init 4 = .ok (.aload_n 0, 1) := by decide +kernel
theorem dX4_init_5 : decode cX4_init 5 = .ok (.iconst 0, 1) := by decide +kernel
theorem dX4_init_6 : decode cX4_init 6 = .ok (.iload_n 3, 1) := by decide +kernel
theorem dX4_init_7 : decode cX4_init 7 = .ok (.iload_n 2, 1) := by decide +kernel
theorem dX4_init_8 : decode cX4_init 8 = .ok (.isub, 1) := by decide +kernel
theorem dX4_init_9 : decode cX4_init 9 = .ok (.invokestatic 9, 3) := by decide +kernel
theorem dX4_init_12 : decode cX4_init 12 = .ok (.putfield 15, 3) := by decide +kernel
theorem dX4_init_15 : decode cX4_init 15 = .ok (.aload_n 0, 1) := by decide +kernel
theorem dX4_init_16 : decode cX4_init 16 = .ok (.aload_n 0, 1) := by decide +kernel
theorem dX4_init_17 : decode cX4_init 17 = .ok (.getfield 15, 3) := by decide +kernel
theorem dX4_init_20 : decode cX4_init 20 = .ok (.newarray .int, 2) := by decide +kernel
theorem dX4_init_22 : decode cX4_init 22 = .ok (.putfield 21, 3) := by decide +kernel
theorem dX4_init_25 : decode cX4_init 25 = .ok (.aload_n 0, 1) := by decide +kernel
theorem dX4_init_26 : decode cX4_init 26 = .ok (.bipush 8, 2) := by decide +kernel
theorem dX4_init_28 : decode cX4_init 28 = .ok (.newarray .int, 2) := by decide +kernel
theorem dX4_init_30 : decode cX4_init 30 = .ok (.putfield 25, 3) := by decide +kernel
theorem dX4_init_33 : decode cX4_init 33 = .ok (.iconst 0, 1) := by decide +kernel
theorem dX4_init_34 : decode cX4_init 34 = .ok (.istore 4, 2) := by decide +kernel
theorem dX4_init_36 : decode cX4_init 36 = .ok (.iload 4, 2) := by decide +kernel
theorem dX4_init_38 : decode cX4_init 38 = .ok (.aload_n 0, 1) := by decide +kernel
theorem dX4_init_39 : decode cX4_init 39 = .ok (.getfield 15, 3) := by decide +kernel
theorem dX4_init_42 : decode cX4_init 42 = .ok (.if_icmp .ge 43, 3) := by decide +kernel
theorem dX4_init_45 : decode cX4_init 45 = .ok (.aload_n 1, 1) := by decide +kernel
theorem dX4_init_46 : decode cX4_init 46 = .ok (.iload_n 2, 1) := by decide +kernel
theorem dX4_init_47 : decode cX4_init 47 = .ok (.iload 4, 2) := by decide +kernel
theorem dX4_init_49 : decode cX4_init 49 = .ok (.iadd, 1) := by decide +kernel
theorem dX4_init_50 : decode cX4_init 50 = .ok (.iaload, 1) := by decide +kernel
theorem dX4_init_51 : decode cX4_init 51 = .ok (.bipush 97, 2) := by decide +kernel
theorem dX4_init_53 : decode cX4_init 53 = .ok (.isub, 1) := by decide +kernel
theorem dX4_init_54 : decode cX4_init 54 = .ok (.istore 5, 2) := by decide +kernel
theorem dX4_init_56 : decode cX4_init 56 = .ok (.aload_n 0, 1) := by decide +kernel
theorem dX4_init_57 : decode cX4_init 57 = .ok (.getfield 21, 3) := by decide +kernel
theorem dX4_init_60 : decode cX4_init 60 = .ok (.iload 4, 2) := by decide +kernel
theorem dX4_init_62 : decode cX4_init 62 = .ok (.iload 5, 2) := by decide +kernel
theorem dX4_init_64 : decode cX4_init 64 = .ok (.iastore, 1) := by decide +kernel
theorem dX4_init_65 : decode cX4_init 65 = .ok (.aload_n 0, 1) := by decide +kernel
theorem dX4_init_66 : decode cX4_init 66 = .ok (.getfield 25, 3) := by decide +kernel
theorem dX4_init_69 : decode cX4_init 69 = .ok (.iload 5, 2) := by decide +kernel
theorem dX4_init_71 : decode cX4_init 71 = .ok (.dup2, 1) := by decide +kernel
theorem dX4_init_72 : decode cX4_init 72 = .ok (.iaload, 1) := by decide +kernel
theorem dX4_init_73 : decode cX4_init 73 = .ok (.iconst 1, 1) := by decide +kernel
theorem dX4_init_74 : decode cX4_init 74 = .ok (.iload 4, 2) := by decide +kernel
theorem dX4_init_76 : decode cX4_init 76 = .ok (.ishl, 1) := by decide +kernel
theorem dX4_init_77 : decode cX4_init 77 = .ok (.ior, 1) := by decide +kernel
theorem dX4_init_78 : decode cX4_init 78 = .ok (.iastore, 1) := by decide +kernel
theorem dX4_init_79 : decode cX4_init 79 = .ok (.iinc 4 1, 3) := by decide +kernel
theorem dX4_init_82 : decode cX4_init 82 = .ok (.goto (-46), 3) := by decide +kernel
theorem dX4_init_85 : decode cX4_init 85 = .ok (.return_, 1) := by decide +kernel
theorem dX4_wordAt_0 : decode cX4_wordAt 0 = .ok (.iload_n 1, 1) := by decide +kernel
theorem dX4_wordAt_1 : decode cX4_wordAt 1 = .ok (.ifCond .lt 20, 3) := by decide +kernel
theorem dX4_wordAt_4 : decode cX4_wordAt 4 = .ok (.iload_n 1, 1) := by decide +kernel
theorem dX4_wordAt_5 : decode cX4_wordAt 5 = .ok (.aload_n 0, 1) := by decide +kernel
theorem dX4_wordAt_6 : decode cX4_wordAt 6 = .ok (.getfield 15, 3) := by decide +kernel
theorem dX4_wordAt_9 : decode cX4_wordAt 9 = .ok (.if_icmp .ge 12, 3) := by decide +kernel
theorem dX4_wordAt_12 : decode cX4_wordAt 12 = .ok (.aload_n 0, 1) := by decide +kernel
theorem dX4_wordAt_13 : decode cX4_wordAt 13 = .ok (.getfield 21, 3) := by decide +kernel
theorem dX4_wordAt_16 : decode cX4_wordAt 16 = .ok (.iload_n 1, 1) := by decide +kernel
theorem dX4_wordAt_17 : decode cX4_wordAt 17 = .ok (.iaload, 1) := by decide +kernel
theorem dX4_wordAt_18 : decode cX4_wordAt 18 = .ok (.goto 4, 3) := by decide +kernel
theorem dX4_wordAt_21 : decode cX4_wordAt 21 = .ok (.iconst (-1), 1) := by decide +kernel
theorem dX4_wordAt_22 : decode cX4_wordAt 22 = .ok (.ireturn, 1) := by decide +kernel
theorem dX4_placeOf_0 : decode cX4_placeOf 0 = .ok (.iload_n 2, 1) := by decide +kernel
theorem dX4_placeOf_1 : decode cX4_placeOf 1 = .ok (.istore_n 3, 1) := by decide +kernel
theorem dX4_placeOf_2 : decode cX4_placeOf 2 = .ok (.iload_n 3, 1) := by decide +kernel
theorem dX4_placeOf_3 : decode cX4_placeOf 3 = .ok (.aload_n 0, 1) := by decide +kernel
theorem dX4_placeOf_4 : decode cX4_placeOf 4 = .ok (.getfield 15, 3) := by decide +kernel
theorem dX4_placeOf_7 : decode cX4_placeOf 7 = .ok (.if_icmp .ge 21, 3) := by decide +kernel
theorem dX4_placeOf_10 : decode cX4_placeOf 10 = .ok (.aload_n 0, 1) := by decide +kernel
theorem dX4_placeOf_11 : decode cX4_placeOf 11 = .ok (.getfield 21, 3) := by decide +kernel
theorem dX4_placeOf_14 : decode cX4_placeOf 14 = .ok (.iload_n 3, 1) := by decide +kernel
theorem dX4_placeOf_15 : decode cX4_placeOf 15 = .ok (.iaload, 1) := by decide +kernel
theorem dX4_placeOf_16 : decode cX4_placeOf 16 = .ok (.iload_n 1, 1) := by decide +kernel
theorem dX4_placeOf_17 : decode cX4_placeOf 17 = .ok (.if_icmp .ne 5, 3) := by decide +kernel
theorem dX4_placeOf_20 : decode cX4_placeOf 20 = .ok (.iload_n 3, 1) := by decide +kernel
theorem dX4_placeOf_21 : decode cX4_placeOf 21 = .ok (.ireturn, 1) := by decide +kernel
theorem dX4_placeOf_22 : decode cX4_placeOf 22 = .ok (.iinc 3 1, 3) := by decide +kernel
theorem dX4_placeOf_25 : decode cX4_placeOf 25 = .ok (.goto (-23), 3) := by decide +kernel
theorem dX4_placeOf_28 : decode cX4_placeOf 28 = .ok (.iconst (-1), 1) := by decide +kernel
theorem dX4_placeOf_29 : decode cX4_placeOf 29 = .ok (.ireturn, 1) := by decide +kernel
theorem dX4_commonLength_0 : decode cX4_commonLength 0 = .ok (.iload_n 1, 1) := by decide +kernel
theorem dX4_commonLength_1 : decode cX4_commonLength 1 = .ok (.aload_n 0, 1) := by decide +kernel
theorem dX4_commonLength_2 : decode cX4_commonLength 2 = .ok (.getfield 15, 3) := by decide +kernel
theorem dX4_commonLength_5 : decode cX4_commonLength 5 = .ok (.if_icmp .lt 5, 3) := by decide +kernel
theorem dX4_commonLength_8 : decode cX4_commonLength 8 = .ok (.iconst 0, 1) := by decide +kernel
theorem dX4_commonLength_9 : decode cX4_commonLength 9 = .ok (.ireturn, 1) := by decide +kernel
theorem dX4_commonLength_10 : decode cX4_commonLength 10 = .ok (.iconst 1, 1) := by decide +kernel
theorem dX4_commonLength_11 : decode cX4_commonLength 11 = .ok (.aload_n 0, 1) := by decide +kernel
theorem dX4_commonLength_12 : decode cX4_commonLength 12 = .ok (.getfield 15, 3) := by decide +kernel
theorem dX4_commonLength_15 : decode cX4_commonLength 15 = .ok (.iload_n 1, 1) := by decide +kernel
theorem dX4_commonLength_16 : decode cX4_commonLength 16 = .ok (.isub, 1) := by decide +kernel
theorem dX4_commonLength_17 : decode cX4_commonLength 17 = .ok (.ishl, 1) := by decide +kernel
theorem dX4_commonLength_18 : decode cX4_commonLength 18 = .ok (.iconst 1, 1) := by decide +kernel
theorem dX4_commonLength_19 : decode cX4_commonLength 19 = .ok (.isub, 1) := by decide +kernel
theorem dX4_commonLength_20 : decode cX4_commonLength 20 = .ok (.istore 4, 2) := by decide +kernel
theorem dX4_commonLength_22 : decode cX4_commonLength 22 = .ok (.iload 4, 2) := by decide +kernel
theorem dX4_commonLength_24 : decode cX4_commonLength 24 = .ok (.istore 5, 2) := by decide +kernel
theorem dX4_commonLength_26 : decode cX4_commonLength 26 = .ok (.iload_n 3, 1) := by decide +kernel
theorem dX4_commonLength_27 : decode cX4_commonLength 27 = .ok (.istore 6, 2) := by decide +kernel
theorem dX4_commonLength_29 : decode cX4_commonLength 29 = .ok (.iload 6, 2) := by decide +kernel
theorem dX4_commonLength_31 : decode cX4_commonLength 31 = .ok (.aload_n 2, 1) := by decide +kernel
theorem dX4_commonLength_32 : decode cX4_commonLength 32 = .ok (.getfield 15, 3) := by decide +kernel
theorem dX4_commonLength_35 : decode cX4_commonLength 35 = .ok (.if_icmp .ge 46, 3) := by decide +kernel
theorem dX4_commonLength_38 : decode cX4_commonLength 38 = .ok (.aload_n 0, 1) := by decide +kernel
theorem dX4_commonLength_39 : decode cX4_commonLength 39 = .ok (.getfield 25, 3) := by decide +kernel
theorem dX4_commonLength_42 : decode cX4_commonLength 42 = .ok (.aload_n 2, 1) := by decide +kernel
theorem dX4_commonLength_43 : decode cX4_commonLength 43 = .ok (.getfield 21, 3) := by decide +kernel
theorem dX4_commonLength_46 : decode cX4_commonLength 46 = .ok (.iload 6, 2) := by decide +kernel
theorem dX4_commonLength_48 : decode cX4_commonLength 48 = .ok (.iaload, 1) := by decide +kernel
theorem dX4_commonLength_49 : decode cX4_commonLength 49 = .ok (.iaload, 1) := by decide +kernel
theorem dX4_commonLength_50 : decode cX4_commonLength 50 = .ok (.iload_n 1, 1) := by decide +kernel
theorem dX4_commonLength_51 : decode cX4_commonLength 51 = .ok (.ishr, 1) := by decide +kernel
theorem dX4_commonLength_52 : decode cX4_commonLength 52 = .ok (.istore 7, 2) := by decide +kernel
theorem dX4_commonLength_54 : decode cX4_commonLength 54 = .ok (.iload 5, 2) := by decide +kernel
theorem dX4_commonLength_56 : decode cX4_commonLength 56 = .ok (.iload 5, 2) := by decide +kernel
theorem dX4_commonLength_58 : decode cX4_commonLength 58 = .ok (.iload 7, 2) := by decide +kernel
theorem dX4_commonLength_60 : decode cX4_commonLength 60 = .ok (.iand, 1) := by decide +kernel
theorem dX4_commonLength_61 : decode cX4_commonLength 61 = .ok (.iadd, 1) := by decide +kernel
theorem dX4_commonLength_62 : decode cX4_commonLength 62 = .ok (.iload 5, 2) := by decide +kernel
theorem dX4_commonLength_64 : decode cX4_commonLength 64 = .ok (.iload 7, 2) := by decide +kernel
theorem dX4_commonLength_66 : decode cX4_commonLength 66 = .ok (.iconst (-1), 1) := by decide +kernel
theorem dX4_commonLength_67 : decode cX4_commonLength 67 = .ok (.ixor, 1) := by decide +kernel
theorem dX4_commonLength_68 : decode cX4_commonLength 68 = .ok (.iand, 1) := by decide +kernel
theorem dX4_commonLength_69 : decode cX4_commonLength 69 = .ok (.ior, 1) := by decide +kernel
theorem dX4_commonLength_70 : decode cX4_commonLength 70 = .ok (.iload 4, 2) := by decide +kernel
theorem dX4_commonLength_72 : decode cX4_commonLength 72 = .ok (.iand, 1) := by decide +kernel
theorem dX4_commonLength_73 : decode cX4_commonLength 73 = .ok (.istore 5, 2) := by decide +kernel
theorem dX4_commonLength_75 : decode cX4_commonLength 75 = .ok (.iinc 6 1, 3) := by decide +kernel
theorem dX4_commonLength_78 : decode cX4_commonLength 78 = .ok (.goto (-49), 3) := by decide +kernel
theorem dX4_commonLength_81 : decode cX4_commonLength 81 = .ok (.aload_n 0, 1) := by decide +kernel
theorem dX4_commonLength_82 : decode cX4_commonLength 82 = .ok (.getfield 15, 3) := by decide +kernel
theorem dX4_commonLength_85 : decode cX4_commonLength 85 = .ok (.iload_n 1, 1) := by decide +kernel
theorem dX4_commonLength_86 : decode cX4_commonLength 86 = .ok (.isub, 1) := by decide +kernel
theorem dX4_commonLength_87 : decode cX4_commonLength 87 = .ok (.iload 5, 2) := by decide +kernel
theorem dX4_commonLength_89 : decode cX4_commonLength 89 = .ok (.invokestatic 28, 3) := by decide +kernel
theorem dX4_commonLength_92 : decode cX4_commonLength 92 = .ok (.isub, 1) := by decide +kernel
theorem dX4_commonLength_93 : decode cX4_commonLength 93 = .ok (.ireturn, 1) := by decide +kernel
theorem dX4_matchWith_0 : decode cX4_matchWith 0 = .ok (.aload_n 0, 1) := by decide +kernel
theorem dX4_matchWith_1 : decode cX4_matchWith 1 = .ok (.getfield 15, 3) := by decide +kernel
theorem dX4_matchWith_4 : decode cX4_matchWith 4 = .ok (.aload_n 1, 1) := by decide +kernel
theorem dX4_matchWith_5 : decode cX4_matchWith 5 = .ok (.getfield 15, 3) := by decide +kernel
theorem dX4_matchWith_8 : decode cX4_matchWith 8 = .ok (.iadd, 1) := by decide +kernel
theorem dX4_matchWith_9 : decode cX4_matchWith 9 = .ok (.istore_n 2, 1) := by decide +kernel
theorem dX4_matchWith_10 : decode cX4_matchWith 10 = .ok (.iload_n 2, 1) := by decide +kernel
theorem dX4_matchWith_11 : decode cX4_matchWith 11 = .ok (.ifCond .ne 7, 3) := by decide +kernel
theorem dX4_matchWith_14 : decode cX4_matchWith 14 = .ok (.iconst 0, 1) := by decide +kernel
theorem dX4_matchWith_15 : decode cX4_matchWith 15 = .ok (.goto 16, 3) := by decide +kernel
theorem dX4_matchWith_18 : decode cX4_matchWith 18 = .ok (.sipush 200, 3) := by decide +kernel
theorem dX4_matchWith_21 : decode cX4_matchWith 21 = .ok (.aload_n 0, 1) := by decide +kernel
theorem dX4_matchWith_22 : decode cX4_matchWith 22 = .ok (.iconst 0, 1) := by decide +kernel
theorem dX4_matchWith_23 : decode cX4_matchWith 23 = .ok (.aload_n 1, 1) := by decide +kernel
theorem dX4_matchWith_24 : decode cX4_matchWith 24 = .ok (.iconst 0, 1) := by decide +kernel
theorem dX4_matchWith_25 : decode cX4_matchWith 25 = .ok (.invokevirtual 34, 3) := by decide +kernel
theorem dX4_matchWith_28 : decode cX4_matchWith 28 = .ok (.imul, 1) := by decide +kernel
theorem dX4_matchWith_29 : decode cX4_matchWith 29 = .ok (.iload_n 2, 1) := by decide +kernel
theorem dX4_matchWith_30 : decode cX4_matchWith 30 = .ok (.idiv, 1) := by decide +kernel
theorem dX4_matchWith_31 : decode cX4_matchWith 31 = .ok (.ireturn, 1) := by decide +kernel
theorem dX4_likenessTo_0 : decode cX4_likenessTo 0 = .ok (.aload_n 0, 1) := by decide +kernel
theorem dX4_likenessTo_1 : decode cX4_likenessTo 1 = .ok (.getfield 15, 3) := by decide +kernel
theorem dX4_likenessTo_4 : decode cX4_likenessTo 4 = .ok (.aload_n 1, 1) := by decide +kernel
theorem dX4_likenessTo_5 : decode cX4_likenessTo 5 = .ok (.getfield 15, 3) := by decide +kernel
theorem dX4_likenessTo_8 : decode cX4_likenessTo 8 = .ok (.iadd, 1) := by decide +kernel
theorem dX4_likenessTo_9 : decode cX4_likenessTo 9 = .ok (.istore_n 2, 1) := by decide +kernel
theorem dX4_likenessTo_10 : decode cX4_likenessTo 10 = .ok (.iload_n 2, 1) := by decide +kernel
theorem dX4_likenessTo_11 : decode cX4_likenessTo 11 = .ok (.ifCond .ne 7, 3) := by decide +kernel
theorem dX4_likenessTo_14 : decode cX4_likenessTo 14 = .ok (.fconst 0, 1) := by decide +kernel
theorem dX4_likenessTo_15 : decode cX4_likenessTo 15 = .ok (.goto 16, 3) := by decide +kernel
theorem dX4_likenessTo_18 : decode cX4_likenessTo 18 = .ok (.iconst 2, 1) := by decide +kernel
theorem dX4_likenessTo_19 : decode cX4_likenessTo 19 = .ok (.aload_n 0, 1) := by decide +kernel
theorem dX4_likenessTo_20 : decode cX4_likenessTo 20 = .ok (.iconst 0, 1) := by decide +kernel
theorem dX4_likenessTo_21 : decode cX4_likenessTo 21 = .ok (.aload_n 1, 1) := by decide +kernel
theorem dX4_likenessTo_22 : decode cX4_likenessTo 22 = .ok (.iconst 0, 1) := by decide +kernel
theorem dX4_likenessTo_23 : decode cX4_likenessTo 23 = .ok (.invokevirtual 34, 3) := by decide +kernel
theorem dX4_likenessTo_26 : decode cX4_likenessTo 26 = .ok (.imul, 1) := by decide +kernel
theorem dX4_likenessTo_27 : decode cX4_likenessTo 27 = .ok (.i2f, 1) := by decide +kernel
theorem dX4_likenessTo_28 : decode cX4_likenessTo 28 = .ok (.iload_n 2, 1) := by decide +kernel
theorem dX4_likenessTo_29 : decode cX4_likenessTo 29 = .ok (.i2f, 1) := by decide +kernel
theorem dX4_likenessTo_30 : decode cX4_likenessTo 30 = .ok (.fdiv, 1) := by decide +kernel
theorem dX4_likenessTo_31 : decode cX4_likenessTo 31 = .ok (.freturn, 1) := by decide +kernel
theorem dX4_commonWord_0 : decode cX4_commonWord 0 = .ok (.iconst 0, 1) := by decide +kernel
theorem dX4_commonWord_1 : decode cX4_commonWord 1 = .ok (.istore_n 3, 1) := by decide +kernel
theorem dX4_commonWord_2 : decode cX4_commonWord 2 = .ok (.iconst 0, 1) := by decide +kernel
theorem dX4_commonWord_3 : decode cX4_commonWord 3 = .ok (.istore 4, 2) := by decide +kernel
theorem dX4_commonWord_5 : decode cX4_commonWord 5 = .ok (.aload_n 0, 1) := by decide +kernel
theorem dX4_commonWord_6 : decode cX4_commonWord 6 = .ok (.iconst 0, 1) := by decide +kernel
theorem dX4_commonWord_7 : decode cX4_commonWord 7 = .ok (.aload_n 1, 1) := by decide +kernel
theorem dX4_commonWord_8 : decode cX4_commonWord 8 = .ok (.iconst 0, 1) := by decide +kernel
theorem dX4_commonWord_9 : decode cX4_commonWord 9 = .ok (.invokevirtual 34, 3) := by decide +kernel
theorem dX4_commonWord_12 : decode cX4_commonWord 12 = .ok (.istore 5, 2) := by decide +kernel
theorem dX4_commonWord_14 : decode cX4_commonWord 14 = .ok (.iconst 0, 1) := by decide +kernel
theorem dX4_commonWord_15 : decode cX4_commonWord 15 = .ok (.istore 6, 2) := by decide +kernel
theorem dX4_commonWord_17 : decode cX4_commonWord 17 = .ok (.iload 6, 2) := by decide +kernel
theorem dX4_commonWord_19 : decode cX4_commonWord 19 = .ok (.iload_n 2, 1) := by decide +kernel
theorem dX4_commonWord_20 : decode cX4_commonWord 20 = .ok (.if_icmp .ge 51, 3) := by decide +kernel
theorem dX4_commonWord_23 : decode cX4_commonWord 23 = .ok (.iload 5, 2) := by decide +kernel
theorem dX4_commonWord_25 : decode cX4_commonWord 25 = .ok (.ifCond .le 46, 3) := by decide +kernel
theorem dX4_commonWord_28 : decode cX4_commonWord 28 = .ok (.aload_n 0, 1) := by decide +kernel
theorem dX4_commonWord_29 : decode cX4_commonWord 29 = .ok (.iload_n 3, 1) := by decide +kernel
theorem dX4_commonWord_30 : decode cX4_commonWord 30 = .ok (.aload_n 1, 1) := by decide +kernel
theorem dX4_commonWord_31 : decode cX4_commonWord 31 = .ok (.iload 4, 2) := by decide +kernel
theorem dX4_commonWord_33 : decode cX4_commonWord 33 = .ok (.iload 5, 2) := by decide +kernel
theorem dX4_commonWord_35 : decode cX4_commonWord 35 = .ok (.invokevirtual 38, 3) := by decide +kernel
theorem dX4_commonWord_38 : decode cX4_commonWord 38 = .ok (.istore 7, 2) := by decide +kernel
theorem dX4_commonWord_40 : decode cX4_commonWord 40 = .ok (.aload_n 0, 1) := by decide +kernel
theorem dX4_commonWord_41 : decode cX4_commonWord 41 = .ok (.iload 7, 2) := by decide +kernel
theorem dX4_commonWord_43 : decode cX4_commonWord 43 = .ok (.iload_n 3, 1) := by decide +kernel
theorem dX4_commonWord_44 : decode cX4_commonWord 44 = .ok (.invokevirtual 42, 3) := by decide +kernel
theorem dX4_commonWord_47 : decode cX4_commonWord 47 = .ok (.iconst 1, 1) := by decide +kernel
theorem dX4_commonWord_48 : decode cX4_commonWord 48 = .ok (.iadd, 1) := by decide +kernel
theorem dX4_commonWord_49 : decode cX4_commonWord 49 = .ok (.istore_n 3, 1) := by decide +kernel
theorem dX4_commonWord_50 : decode cX4_commonWord 50 = .ok (.aload_n 1, 1) := by decide +kernel
theorem dX4_commonWord_51 : decode cX4_commonWord 51 = .ok (.iload 7, 2) := by decide +kernel
theorem dX4_commonWord_53 : decode cX4_commonWord 53 = .ok (.iload 4, 2) := by decide +kernel
theorem dX4_commonWord_55 : decode cX4_commonWord 55 = .ok (.invokevirtual 42, 3) := by decide +kernel
theorem dX4_commonWord_58 : decode cX4_commonWord 58 = .ok (.iconst 1, 1) := by decide +kernel
theorem dX4_commonWord_59 : decode cX4_commonWord 59 = .ok (.iadd, 1) := by decide +kernel
theorem dX4_commonWord_60 : decode cX4_commonWord 60 = .ok (.istore 4, 2) := by decide +kernel
theorem dX4_commonWord_62 : decode cX4_commonWord 62 = .ok (.iinc 5 (-1), 3) := by decide +kernel
theorem dX4_commonWord_65 : decode cX4_commonWord 65 = .ok (.iinc 6 1, 3) := by decide +kernel
theorem dX4_commonWord_68 : decode cX4_commonWord 68 = .ok (.goto (-51), 3) := by decide +kernel
theorem dX4_commonWord_71 : decode cX4_commonWord 71 = .ok (.iload 5, 2) := by decide +kernel
theorem dX4_commonWord_73 : decode cX4_commonWord 73 = .ok (.ifCond .le 16, 3) := by decide +kernel
theorem dX4_commonWord_76 : decode cX4_commonWord 76 = .ok (.aload_n 0, 1) := by decide +kernel
theorem dX4_commonWord_77 : decode cX4_commonWord 77 = .ok (.iload_n 3, 1) := by decide +kernel
theorem dX4_commonWord_78 : decode cX4_commonWord 78 = .ok (.aload_n 1, 1) := by decide +kernel
theorem dX4_commonWord_79 : decode cX4_commonWord 79 = .ok (.iload 4, 2) := by decide +kernel
theorem dX4_commonWord_81 : decode cX4_commonWord 81 = .ok (.iload 5, 2) := by decide +kernel
theorem dX4_commonWord_83 : decode cX4_commonWord 83 = .ok (.invokevirtual 38, 3) := by decide +kernel
theorem dX4_commonWord_86 : decode cX4_commonWord 86 = .ok (.goto 4, 3) := by decide +kernel
theorem dX4_commonWord_89 : decode cX4_commonWord 89 = .ok (.iconst (-1), 1) := by decide +kernel
theorem dX4_commonWord_90 : decode cX4_commonWord 90 = .ok (.ireturn, 1) := by decide +kernel
theorem dX4_leastBeginning_0 : decode cX4_leastBeginning 0 = .ok (.iconst 0, 1) := by decide +kernel
theorem dX4_leastBeginning_1 : decode cX4_leastBeginning 1 = .ok (.istore 5, 2) := by decide +kernel
theorem dX4_leastBeginning_3 : decode cX4_leastBeginning 3 = .ok (.iload 5, 2) := by decide +kernel
theorem dX4_leastBeginning_5 : decode cX4_leastBeginning 5 = .ok (.bipush 8, 2) := by decide +kernel
theorem dX4_leastBeginning_7 : decode cX4_leastBeginning 7 = .ok (.if_icmp .ge 62, 3) := by decide +kernel
theorem dX4_leastBeginning_10 : decode cX4_leastBeginning 10 = .ok (.aload_n 0, 1) := by decide +kernel
theorem dX4_leastBeginning_11 : decode cX4_leastBeginning 11 = .ok (.iload 5, 2) := by decide +kernel
theorem dX4_leastBeginning_13 : decode cX4_leastBeginning 13 = .ok (.iload_n 1, 1) := by decide +kernel
theorem dX4_leastBeginning_14 : decode cX4_leastBeginning 14 = .ok (.invokevirtual 42, 3) := by decide +kernel
theorem dX4_leastBeginning_17 : decode cX4_leastBeginning 17 = .ok (.istore 6, 2) := by decide +kernel
theorem dX4_leastBeginning_19 : decode cX4_leastBeginning 19 = .ok (.aload_n 2, 1) := by decide +kernel
theorem dX4_leastBeginning_20 : decode cX4_leastBeginning 20 = .ok (.iload 5, 2) := by decide +kernel
theorem dX4_leastBeginning_22 : decode cX4_leastBeginning 22 = .ok (.iload_n 3, 1) := by decide +kernel
theorem dX4_leastBeginning_23 : decode cX4_leastBeginning 23 = .ok (.invokevirtual 42, 3) := by decide +kernel
theorem dX4_leastBeginning_26 : decode cX4_leastBeginning 26 = .ok (.istore 7, 2) := by decide +kernel
theorem dX4_leastBeginning_28 : decode cX4_leastBeginning 28 = .ok (.iload 6, 2) := by decide +kernel
theorem dX4_leastBeginning_30 : decode cX4_leastBeginning 30 = .ok (.iconst (-1), 1) := by decide +kernel
theorem dX4_leastBeginning_31 : decode cX4_leastBeginning 31 = .ok (.if_icmp .eq 32, 3) := by decide +kernel
theorem dX4_leastBeginning_34 : decode cX4_leastBeginning 34 = .ok (.iload 7, 2) := by decide +kernel
theorem dX4_leastBeginning_36 : decode cX4_leastBeginning 36 = .ok (.iconst (-1), 1) := by decide +kernel
theorem dX4_leastBeginning_37 : decode cX4_leastBeginning 37 = .ok (.if_icmp .eq 26, 3) := by decide +kernel
theorem dX4_leastBeginning_40 : decode cX4_leastBeginning 40 = .ok (.iconst 1, 1) := by decide +kernel
theorem dX4_leastBeginning_41 : decode cX4_leastBeginning 41 = .ok (.aload_n 0, 1) := by decide +kernel
theorem dX4_leastBeginning_42 : decode cX4_leastBeginning 42 = .ok (.iload 6, 2) := by decide +kernel
theorem dX4_leastBeginning_44 : decode cX4_leastBeginning 44 = .ok (.iconst 1, 1) := by decide +kernel
theorem dX4_leastBeginning_45 : decode cX4_leastBeginning 45 = .ok (.iadd, 1) := by decide +kernel
theorem dX4_leastBeginning_46 : decode cX4_leastBeginning 46 = .ok (.aload_n 2, 1) := by decide +kernel
theorem dX4_leastBeginning_47 : decode cX4_leastBeginning 47 = .ok (.iload 7, 2) := by decide +kernel
theorem dX4_leastBeginning_49 : decode cX4_leastBeginning 49 = .ok (.iconst 1, 1) := by decide +kernel
theorem dX4_leastBeginning_50 : decode cX4_leastBeginning 50 = .ok (.iadd, 1) := by decide +kernel
theorem dX4_leastBeginning_51 : decode cX4_leastBeginning 51 = .ok (.invokevirtual 34, 3) := by decide +kernel
theorem dX4_leastBeginning_54 : decode cX4_leastBeginning 54 = .ok (.iadd, 1) := by decide +kernel
theorem dX4_leastBeginning_55 : decode cX4_leastBeginning 55 = .ok (.iload 4, 2) := by decide +kernel
theorem dX4_leastBeginning_57 : decode cX4_leastBeginning 57 = .ok (.if_icmp .ne 6, 3) := by decide +kernel
theorem dX4_leastBeginning_60 : decode cX4_leastBeginning 60 = .ok (.iload 5, 2) := by decide +kernel
theorem dX4_leastBeginning_62 : decode cX4_leastBeginning 62 = .ok (.ireturn, 1) := by decide +kernel
theorem dX4_leastBeginning_63 : decode cX4_leastBeginning 63 = .ok (.iinc 5 1, 3) := by decide +kernel
theorem dX4_leastBeginning_66 : decode cX4_leastBeginning 66 = .ok (.goto (-63), 3) := by decide +kernel
theorem dX4_leastBeginning_69 : decode cX4_leastBeginning 69 = .ok (.iconst (-1), 1) := by decide +kernel
theorem dX4_leastBeginning_70 : decode cX4_leastBeginning 70 = .ok (.ireturn, 1) := by decide +kernel
theorem dX5_init_0 : decode cX5_init 0 = .ok (.aload_n 0, 1) := by decide +kernel
theorem dX5_init_1 : decode cX5_init 1 = .ok (.invokespecial 3, 3) := by decide +kernel
theorem dX5_init_4 : decode cX5_init 4 = .ok (.aload_n 0, 1) := by decide +kernel
theorem dX5_init_5 : decode cX5_init 5 = .ok (.aload_n 1, 1) := by decide +kernel
theorem dX5_init_6 : decode cX5_init 6 = .ok (.putfield 9, 3) := by decide +kernel
theorem dX5_init_9 : decode cX5_init 9 = .ok (.return_, 1) := by decide +kernel
theorem dX5_beginWith_0 : decode cX5_beginWith 0 = .ok (.aload_n 0, 1) := by decide +kernel
theorem dX5_beginWith_1 : decode cX5_beginWith 1 = .ok (.aload_n 1, 1) := by decide +kernel
theorem dX5_beginWith_2 : decode cX5_beginWith 2 = .ok (.putfield 9, 3) := by decide +kernel
theorem dX5_beginWith_5 : decode cX5_beginWith 5 = .ok (.aload_n 0, 1) := by decide +kernel
theorem dX5_beginWith_6 : decode cX5_beginWith 6 = .ok (.iconst 0, 1) := by decide +kernel
theorem dX5_beginWith_7 : decode cX5_beginWith 7 = .ok (.putfield 15, 3) := by decide +kernel
theorem dX5_beginWith_10 : decode cX5_beginWith 10 = .ok (.aload_n 0, 1) := by decide +kernel
theorem dX5_beginWith_11 : decode cX5_beginWith 11 = .ok (.iconst (-1), 1) := by decide +kernel
theorem dX5_beginWith_12 : decode cX5_beginWith 12 = .ok (.putfield 19, 3) := by decide +kernel
theorem dX5_beginWith_15 : decode cX5_beginWith 15 = .ok (.aload_n 0, 1) := by decide +kernel
theorem dX5_beginWith_16 : decode cX5_beginWith 16 = .ok (.iconst (-1), 1) := by decide +kernel
theorem dX5_beginWith_17 : decode cX5_beginWith 17 = .ok (.putfield 22, 3) := by decide +kernel
theorem dX5_beginWith_20 : decode cX5_beginWith 20 = .ok (.aload_n 0, 1) := by decide +kernel
theorem dX5_beginWith_21 : decode cX5_beginWith 21 = .ok (.iconst (-1), 1) := by decide +kernel
theorem dX5_beginWith_22 : decode cX5_beginWith 22 = .ok (.putfield 25, 3) := by decide +kernel
theorem dX5_beginWith_25 : decode cX5_beginWith 25 = .ok (.aload_n 0, 1) := by decide +kernel
theorem dX5_beginWith_26 : decode cX5_beginWith 26 = .ok (.iconst 0, 1) := by decide +kernel
theorem dX5_beginWith_27 : decode cX5_beginWith 27 = .ok (.putfield 28, 3) := by decide +kernel
theorem dX5_beginWith_30 : decode cX5_beginWith 30 = .ok (.aload_n 0, 1) := by decide +kernel
theorem dX5_beginWith_31 : decode cX5_beginWith 31 = .ok (.iconst 0, 1) := by decide +kernel
theorem dX5_beginWith_32 : decode cX5_beginWith 32 = .ok (.putfield 31, 3) := by decide +kernel
theorem dX5_beginWith_35 : decode cX5_beginWith 35 = .ok (.aload_n 0, 1) := by decide +kernel
theorem dX5_beginWith_36 : decode cX5_beginWith 36 = .ok (.iconst (-1), 1) := by decide +kernel
theorem dX5_beginWith_37 : decode cX5_beginWith 37 = .ok (.putfield 34, 3) := by decide +kernel
theorem dX5_beginWith_40 : decode cX5_beginWith 40 = .ok (.aload_n 0, 1) := by decide +kernel
theorem dX5_beginWith_41 : decode cX5_beginWith 41 = .ok (.iconst 0, 1) := by decide +kernel
theorem dX5_beginWith_42 : decode cX5_beginWith 42 = .ok (.putfield 37, 3) := by decide +kernel
theorem dX5_beginWith_45 : decode cX5_beginWith 45 = .ok (.return_, 1) := by decide +kernel
theorem dX5_reassign_0 : decode cX5_reassign 0 = .ok (.aload_n 0, 1) := by decide +kernel
theorem dX5_reassign_1 : decode cX5_reassign 1 = .ok (.iconst 1, 1) := by decide +kernel
theorem dX5_reassign_2 : decode cX5_reassign 2 = .ok (.putfield 15, 3) := by decide +kernel
theorem dX5_reassign_5 : decode cX5_reassign 5 = .ok (.aload_n 0, 1) := by decide +kernel
theorem dX5_reassign_6 : decode cX5_reassign 6 = .ok (.dup, 1) := by decide +kernel
theorem dX5_reassign_7 : decode cX5_reassign 7 = .ok (.getfield 31, 3) := by decide +kernel
theorem dX5_reassign_10 : decode cX5_reassign 10 = .ok (.aload_n 0, 1) := by decide +kernel
theorem dX5_reassign_11 : decode cX5_reassign 11 = .ok (.getfield 28, 3) := by decide +kernel
theorem dX5_reassign_14 : decode cX5_reassign 14 = .ok (.iadd, 1) := by decide +kernel
theorem dX5_reassign_15 : decode cX5_reassign 15 = .ok (.putfield 31, 3) := by decide +kernel
theorem dX5_reassign_18 : decode cX5_reassign 18 = .ok (.aload_n 0, 1) := by decide +kernel
theorem dX5_reassign_19 : decode cX5_reassign 19 = .ok (.iconst 0, 1) := by decide +kernel
theorem dX5_reassign_20 : decode cX5_reassign 20 = .ok (.putfield 28, 3) := by decide +kernel
theorem dX5_reassign_23 : decode cX5_reassign 23 = .ok (.aload_n 0, 1) := by decide +kernel
theorem dX5_reassign_24 : decode cX5_reassign 24 = .ok (.iconst (-1), 1) := by decide +kernel
theorem dX5_reassign_25 : decode cX5_reassign 25 = .ok (.putfield 34, 3) := by decide +kernel
theorem dX5_reassign_28 : decode cX5_reassign 28 = .ok (.aload_n 0, 1) := by decide +kernel
theorem dX5_reassign_29 : decode cX5_reassign 29 = .ok (.iconst 0, 1) := by decide +kernel
theorem dX5_reassign_30 : decode cX5_reassign 30 = .ok (.putfield 37, 3) := by decide +kernel
theorem dX5_reassign_33 : decode cX5_reassign 33 = .ok (.return_, 1) := by decide +kernel
theorem dX5_copyFrom_0 : decode cX5_copyFrom 0 = .ok (.aload_n 0, 1) := by decide +kernel
theorem dX5_copyFrom_1 : decode cX5_copyFrom 1 = .ok (.aload_n 1, 1) := by decide +kernel
theorem dX5_copyFrom_2 : decode cX5_copyFrom 2 = .ok (.getfield 9, 3) := by decide +kernel
theorem dX5_copyFrom_5 : decode cX5_copyFrom 5 = .ok (.putfield 9, 3) := by decide +kernel
theorem dX5_copyFrom_8 : decode cX5_copyFrom 8 = .ok (.aload_n 0, 1) := by decide +kernel
theorem dX5_copyFrom_9 : decode cX5_copyFrom 9 = .ok (.aload_n 1, 1) := by decide +kernel
theorem dX5_copyFrom_10 : decode cX5_copyFrom 10 = .ok (.getfield 15, 3) := by decide +kernel
theorem dX5_copyFrom_13 : decode cX5_copyFrom 13 = .ok (.putfield 15, 3) := by decide +kernel
theorem dX5_copyFrom_16 : decode cX5_copyFrom 16 = .ok (.aload_n 0, 1) := by decide +kernel
theorem dX5_copyFrom_17 : decode cX5_copyFrom 17 = .ok (.aload_n 1, 1) := by decide +kernel
theorem dX5_copyFrom_18 : decode cX5_copyFrom 18 = .ok (.getfield 19, 3) := by decide +kernel
theorem dX5_copyFrom_21 : decode cX5_copyFrom 21 = .ok (.putfield 19, 3) := by decide +kernel
theorem dX5_copyFrom_24 : decode cX5_copyFrom 24 = .ok (.aload_n 0, 1) := by decide +kernel
theorem dX5_copyFrom_25 : decode cX5_copyFrom 25 = .ok (.aload_n 1, 1) := by decide +kernel
theorem dX5_copyFrom_26 : decode cX5_copyFrom 26 = .ok (.getfield 22, 3) := by decide +kernel
theorem dX5_copyFrom_29 : decode cX5_copyFrom 29 = .ok (.putfield 22, 3) := by decide +kernel
theorem dX5_copyFrom_32 : decode cX5_copyFrom 32 = .ok (.aload_n 0, 1) := by decide +kernel
theorem dX5_copyFrom_33 : decode cX5_copyFrom 33 = .ok (.aload_n 1, 1) := by decide +kernel
theorem dX5_copyFrom_34 : decode cX5_copyFrom 34 = .ok (.getfield 25, 3) := by decide +kernel
theorem dX5_copyFrom_37 : decode cX5_copyFrom 37 = .ok (.putfield 25, 3) := by decide +kernel
theorem dX5_copyFrom_40 : decode cX5_copyFrom 40 = .ok (.aload_n 0, 1) := by decide +kernel
theorem dX5_copyFrom_41 : decode cX5_copyFrom 41 = .ok (.aload_n 1, 1) := by decide +kernel
theorem dX5_copyFrom_42 : decode cX5_copyFrom 42 = .ok (.getfield 28, 3) := by decide +kernel
theorem dX5_copyFrom_45 : decode cX5_copyFrom 45 = .ok (.putfield 28, 3) := by decide +kernel
theorem dX5_copyFrom_48 : decode cX5_copyFrom 48 = .ok (.aload_n 0, 1) := by decide +kernel
theorem dX5_copyFrom_49 : decode cX5_copyFrom 49 = .ok (.aload_n 1, 1) := by decide +kernel
theorem dX5_copyFrom_50 : decode cX5_copyFrom 50 = .ok (.getfield 31, 3) := by decide +kernel
theorem dX5_copyFrom_53 : decode cX5_copyFrom 53 = .ok (.putfield 31, 3) := by decide +kernel
theorem dX5_copyFrom_56 : decode cX5_copyFrom 56 = .ok (.aload_n 0, 1) := by decide +kernel
theorem dX5_copyFrom_57 : decode cX5_copyFrom 57 = .ok (.aload_n 1, 1) := by decide +kernel
theorem dX5_copyFrom_58 : decode cX5_copyFrom 58 = .ok (.getfield 34, 3) := by decide +kernel
theorem dX5_copyFrom_61 : decode cX5_copyFrom 61 = .ok (.putfield 34, 3) := by decide +kernel
theorem dX5_copyFrom_64 : decode cX5_copyFrom 64 = .ok (.aload_n 0, 1) := by decide +kernel
theorem dX5_copyFrom_65 : decode cX5_copyFrom 65 = .ok (.aload_n 1, 1) := by decide +kernel
theorem dX5_copyFrom_66 : decode cX5_copyFrom 66 = .ok (.getfield 37, 3) := by decide +kernel
theorem dX5_copyFrom_69 : decode cX5_copyFrom 69 = .ok (.putfield 37, 3) := by decide +kernel
theorem dX5_copyFrom_72 : decode cX5_copyFrom 72 = .ok (.aload_n 0, 1) := by decide +kernel
theorem dX5_copyFrom_73 : decode cX5_copyFrom 73 = .ok (.aload_n 1, 1) := by decide +kernel
theorem dX5_copyFrom_74 : decode cX5_copyFrom 74 = .ok (.getfield 40, 3) := by decide +kernel
theorem dX5_copyFrom_77 : decode cX5_copyFrom 77 = .ok (.putfield 40, 3) := by decide +kernel
theorem dX5_copyFrom_80 : decode cX5_copyFrom 80 = .ok (.return_, 1) := by decide +kernel
theorem dX6_init_0 : decode cX6_init 0 = .ok (.aload_n 0, 1) := by decide +kernel
theorem dX6_init_1 : decode cX6_init 1 = .ok (.invokespecial 3, 3) := by decide +kernel
theorem dX6_init_4 : decode cX6_init 4 = .ok (.aload_n 0, 1) := by decide +kernel
theorem dX6_init_5 : decode cX6_init 5 = .ok (.iconst 2, 1) := by decide +kernel
theorem dX6_init_6 : decode cX6_init 6 = .ok (.newarray .int, 2) := by decide +kernel
theorem dX6_init_8 : decode cX6_init 8 = .ok (.dup, 1) := by decide +kernel
theorem dX6_init_9 : decode cX6_init 9 = .ok (.iconst 0, 1) := by decide +kernel
theorem dX6_init_10 : decode cX6_init 10 = .ok (.bipush 30, 2) := by decide +kernel
theorem dX6_init_12 : decode cX6_init 12 = .ok (.iastore, 1) := by decide +kernel
theorem dX6_init_13 : decode cX6_init 13 = .ok (.dup, 1) := by decide +kernel
theorem dX6_init_14 : decode cX6_init 14 = .ok (.iconst 1, 1) := by decide +kernel
theorem dX6_init_15 : decode cX6_init 15 = .ok (.bipush 50, 2) := by decide +kernel
theorem dX6_init_17 : decode cX6_init 17 = .ok (.iastore, 1) := by decide +kernel
theorem dX6_init_18 : decode cX6_init 18 = .ok (.putfield 9, 3) := by decide +kernel
theorem dX6_init_21 : decode cX6_init 21 = .ok (.aload_n 0, 1) := by decide +kernel
theorem dX6_init_22 : decode cX6_init 22 = .ok (.iconst 4, 1) := by decide +kernel
theorem dX6_init_23 : decode cX6_init 23 = .ok (.anewarray 15, 3) := by decide +kernel
theorem dX6_init_26 : decode cX6_init 26 = .ok (.putfield 17, 3) := by decide +kernel
theorem dX6_init_29 : decode cX6_init 29 = .ok (.aload_n 0, 1) := by decide +kernel
theorem dX6_init_30 : decode cX6_init 30 = .ok (.iconst 5, 1) := by decide +kernel
theorem dX6_init_31 : decode cX6_init 31 = .ok (.anewarray 21, 3) := by decide +kernel
theorem dX6_init_34 : decode cX6_init 34 = .ok (.putfield 23, 3) := by decide +kernel
theorem dX6_init_37 : decode cX6_init 37 = .ok (.aload_n 0, 1) := by decide +kernel
theorem dX6_init_38 : decode cX6_init 38 = .ok (.bipush 8, 2) := by decide +kernel
theorem dX6_init_40 : decode cX6_init 40 = .ok (.anewarray 27, 3) := by decide +kernel
theorem dX6_init_43 : decode cX6_init 43 = .ok (.putfield 29, 3) := by decide +kernel
theorem dX6_init_46 : decode cX6_init 46 = .ok (.aload_n 0, 1) := by decide +kernel
theorem dX6_init_47 : decode cX6_init 47 = .ok (.bipush 10, 2) := by decide +kernel
theorem dX6_init_49 : decode cX6_init 49 = .ok (.anewarray 33, 3) := by decide +kernel
theorem dX6_init_52 : decode cX6_init 52 = .ok (.putfield 35, 3) := by decide +kernel
theorem dX6_init_55 : decode cX6_init 55 = .ok (.aload_n 0, 1) := by decide +kernel
theorem dX6_init_56 : decode cX6_init 56 = .ok (.iconst 0, 1) := by decide +kernel
theorem dX6_init_57 : decode cX6_init 57 = .ok (.putfield 39, 3) := by decide +kernel
theorem dX6_init_60 : decode cX6_init 60 = .ok (.new 43, 3) := by decide +kernel
theorem dX6_init_63 : decode cX6_init 63 = .ok (.dup, 1) := by decide +kernel
theorem dX6_init_64 : decode cX6_init 64 = .ok (.iconst 0, 1) := by decide +kernel
theorem dX6_init_65 : decode cX6_init 65 = .ok (.newarray .int, 2) := by decide +kernel
theorem dX6_init_67 : decode cX6_init 67 = .ok (.iconst 0, 1) := by decide +kernel
theorem dX6_init_68 : decode cX6_init 68 = .ok (.iconst 0, 1) := by decide +kernel
theorem dX6_init_69 : decode cX6_init 69 = .ok (.invokespecial 45, 3) := by decide +kernel
theorem dX6_init_72 : decode cX6_init 72 = .ok (.astore_n 1, 1) := by decide +kernel
theorem dX6_init_73 : decode cX6_init 73 = .ok (.aload_n 0, 1) := by decide +kernel
theorem dX6_init_74 : decode cX6_init 74 = .ok (.new 48, 3) := by decide +kernel
theorem dX6_init_77 : decode cX6_init 77 = .ok (.dup, 1) := by decide +kernel
theorem dX6_init_78 : decode cX6_init 78 = .ok (.aload_n 1, 1) := by decide +kernel
theorem dX6_init_79 : decode cX6_init 79 = .ok (.invokespecial 50, 3) := by decide +kernel
theorem dX6_init_82 : decode cX6_init 82 = .ok (.putfield 53, 3) := by decide +kernel
theorem dX6_init_85 : decode cX6_init 85 = .ok (.iconst 0, 1) := by decide +kernel
theorem dX6_init_86 : decode cX6_init 86 = .ok (.istore_n 2, 1) := by decide +kernel
theorem dX6_init_87 : decode cX6_init 87 = .ok (.iload_n 2, 1) := by decide +kernel
theorem dX6_init_88 : decode cX6_init 88 = .ok (.iconst 4, 1) := by decide +kernel
theorem dX6_init_89 : decode cX6_init 89 = .ok (.if_icmp .ge 22, 3) := by decide +kernel
theorem dX6_init_92 : decode cX6_init 92 = .ok (.aload_n 0, 1) := by decide +kernel
theorem dX6_init_93 : decode cX6_init 93 = .ok (.getfield 17, 3) := by decide +kernel
theorem dX6_init_96 : decode cX6_init 96 = .ok (.iload_n 2, 1) := by decide +kernel
theorem dX6_init_97 : decode cX6_init 97 = .ok (.new 15, 3) := by decide +kernel
theorem dX6_init_100 : decode cX6_init 100 = .ok (.dup, 1) := by decide +kernel
theorem dX6_init_101 : decode cX6_init 101 = .ok (.invokespecial 57, 3) := by decide +kernel
theorem dX6_init_104 : decode cX6_init 104 = .ok (.aastore, 1) := by decide +kernel
theorem dX6_init_105 : decode cX6_init 105 = .ok (.iinc 2 1, 3) := by decide +kernel
theorem dX6_init_108 : decode cX6_init 108 = .ok (.goto (-21), 3) := by decide +kernel
theorem dX6_init_111 : decode cX6_init 111 = .ok (.iconst 0, 1) := by decide +kernel
theorem dX6_init_112 : decode cX6_init 112 = .ok (.istore_n 2, 1) := by decide +kernel
theorem dX6_init_113 : decode cX6_init 113 = .ok (.iload_n 2, 1) := by decide +kernel
theorem dX6_init_114 : decode cX6_init 114 = .ok (.iconst 5, 1) := by decide +kernel
theorem dX6_init_115 : decode cX6_init 115 = .ok (.if_icmp .ge 27, 3) := by decide +kernel
theorem dX6_init_118 : decode cX6_init 118 = .ok (.aload_n 0, 1) := by decide +kernel
theorem dX6_init_119 : decode cX6_init 119 = .ok (.getfield 23, 3) := by decide +kernel
theorem dX6_init_122 : decode cX6_init 122 = .ok (.iload_n 2, 1) := by decide +kernel
theorem dX6_init_123 : decode cX6_init 123 = .ok (.new 21, 3) := by decide +kernel
theorem dX6_init_126 : decode cX6_init 126 = .ok (.dup, 1) := by decide +kernel
theorem dX6_init_127 : decode cX6_init 127 = .ok (.getstatic 58, 3) := by decide +kernel
theorem dX6_init_130 : decode cX6_init 130 = .ok (.iload_n 2, 1) := by decide +kernel
theorem dX6_init_131 : decode cX6_init 131 = .ok (.iaload, 1) := by decide +kernel
theorem dX6_init_132 : decode cX6_init 132 = .ok (.invokespecial 61, 3) := by decide +kernel
theorem dX6_init_135 : decode cX6_init 135 = .ok (.aastore, 1) := by decide +kernel
theorem dX6_init_136 : decode cX6_init 136 = .ok (.iinc 2 1, 3) := by decide +kernel
theorem dX6_init_139 : decode cX6_init 139 = .ok (.goto (-26), 3) := by decide +kernel
theorem dX6_init_142 : decode cX6_init 142 = .ok (.iconst 0, 1) := by decide +kernel
theorem dX6_init_143 : decode cX6_init 143 = .ok (.istore_n 2, 1) := by decide +kernel
theorem dX6_init_144 : decode cX6_init 144 = .ok (.iload_n 2, 1) := by decide +kernel
theorem dX6_init_145 : decode cX6_init 145 = .ok (.bipush 8, 2) := by decide +kernel
theorem dX6_init_147 : decode cX6_init 147 = .ok (.if_icmp .ge 22, 3) := by decide +kernel
theorem dX6_init_150 : decode cX6_init 150 = .ok (.aload_n 0, 1) := by decide +kernel
theorem dX6_init_151 : decode cX6_init 151 = .ok (.getfield 29, 3) := by decide +kernel
theorem dX6_init_154 : decode cX6_init 154 = .ok (.iload_n 2, 1) := by decide +kernel
theorem dX6_init_155 : decode cX6_init 155 = .ok (.new 27, 3) := by decide +kernel
theorem dX6_init_158 : decode cX6_init 158 = .ok (.dup, 1) := by decide +kernel
theorem dX6_init_159 : decode cX6_init 159 = .ok (.invokespecial 64, 3) := by decide +kernel
theorem dX6_init_162 : decode cX6_init 162 = .ok (.aastore, 1) := by decide +kernel
theorem dX6_init_163 : decode cX6_init 163 = .ok (.iinc 2 1, 3) := by decide +kernel
theorem dX6_init_166 : decode cX6_init 166 = .ok (.goto (-22), 3) := by decide +kernel
theorem dX6_init_169 : decode cX6_init 169 = .ok (.iconst 0, 1) := by decide +kernel
theorem dX6_init_170 : decode cX6_init 170 = .ok (.istore_n 2, 1) := by decide +kernel
theorem dX6_init_171 : decode cX6_init 171 = .ok (.iload_n 2, 1) := by decide +kernel
theorem dX6_init_172 : decode cX6_init 172 = .ok (.bipush 10, 2) := by decide +kernel
theorem dX6_init_174 : decode cX6_init 174 = .ok (.if_icmp .ge 23, 3) := by decide +kernel
theorem dX6_init_177 : decode cX6_init 177 = .ok (.aload_n 0, 1) := by decide +kernel
theorem dX6_init_178 : decode cX6_init 178 = .ok (.getfield 35, 3) := by decide +kernel
theorem dX6_init_181 : decode cX6_init 181 = .ok (.iload_n 2, 1) := by decide +kernel
theorem dX6_init_182 : decode cX6_init 182 = .ok (.new 33, 3) := by decide +kernel
theorem dX6_init_185 : decode cX6_init 185 = .ok (.dup, 1) := by decide +kernel
theorem dX6_init_186 : decode cX6_init 186 = .ok (.aload_n 1, 1) := by decide +kernel
theorem dX6_init_187 : decode cX6_init 187 = .ok (.invokespecial 65, 3) := by decide +kernel
theorem dX6_init_190 : decode cX6_init 190 = .ok (.aastore, 1) := by decide +kernel
theorem dX6_init_191 : decode cX6_init 191 = .ok (.iinc 2 1, 3) := by decide +kernel
theorem dX6_init_194 : decode cX6_init 194 = .ok (.goto (-23), 3) := by decide +kernel
theorem dX6_init_197 : decode cX6_init 197 = .ok (.return_, 1) := by decide +kernel
theorem dX6_copyFrom_0 : decode cX6_copyFrom 0 = .ok (.aload_n 1, 1) := by decide +kernel
theorem dX6_copyFrom_1 : decode cX6_copyFrom 1 = .ok (.getfield 9, 3) := by decide +kernel
theorem dX6_copyFrom_4 : decode cX6_copyFrom 4 = .ok (.iconst 0, 1) := by decide +kernel
theorem dX6_copyFrom_5 : decode cX6_copyFrom 5 = .ok (.aload_n 0, 1) := by decide +kernel
theorem dX6_copyFrom_6 : decode cX6_copyFrom 6 = .ok (.getfield 9, 3) := by decide +kernel
theorem dX6_copyFrom_9 : decode cX6_copyFrom 9 = .ok (.iconst 0, 1) := by decide +kernel
theorem dX6_copyFrom_10 : decode cX6_copyFrom 10 = .ok (.iconst 2, 1) := by decide +kernel
theorem dX6_copyFrom_11 : decode cX6_copyFrom 11 = .ok (.invokestatic 66, 3) := by decide +kernel
theorem dX6_copyFrom_14 : decode cX6_copyFrom 14 = .ok (.iconst 0, 1) := by decide +kernel
theorem dX6_copyFrom_15 : decode cX6_copyFrom 15 = .ok (.istore_n 2, 1) := by decide +kernel
theorem dX6_copyFrom_16 : decode cX6_copyFrom 16 = .ok (.iload_n 2, 1) := by decide +kernel
theorem dX6_copyFrom_17 : decode cX6_copyFrom 17 = .ok (.iconst 4, 1) := by decide +kernel
theorem dX6_copyFrom_18 : decode cX6_copyFrom 18 = .ok (.if_icmp .ge 24, 3) := by decide +kernel
theorem dX6_copyFrom_21 : decode cX6_copyFrom 21 = .ok (.aload_n 0, 1) := by decide +kernel
theorem dX6_copyFrom_22 : decode cX6_copyFrom 22 = .ok (.getfield 17, 3) := by decide +kernel
theorem dX6_copyFrom_25 : decode cX6_copyFrom 25 = .ok (.iload_n 2, 1) := by decide +kernel
theorem dX6_copyFrom_26 : decode cX6_copyFrom 26 = .ok (.aaload, 1) := by decide +kernel
theorem dX6_copyFrom_27 : decode cX6_copyFrom 27 = .ok (.aload_n 1, 1) := by decide +kernel
theorem dX6_copyFrom_28 : decode cX6_copyFrom 28 = .ok (.getfield 17, 3) := by decide +kernel
theorem dX6_copyFrom_31 : decode cX6_copyFrom 31 = .ok (.iload_n 2, 1) := by decide +kernel
theorem dX6_copyFrom_32 : decode cX6_copyFrom 32 = .ok (.aaload, 1) := by decide +kernel
theorem dX6_copyFrom_33 : decode cX6_copyFrom 33 = .ok (.invokevirtual 72, 3) := by decide +kernel
theorem dX6_copyFrom_36 : decode cX6_copyFrom 36 = .ok (.iinc 2 1, 3) := by decide +kernel
theorem dX6_copyFrom_39 : decode cX6_copyFrom 39 = .ok (.goto (-23), 3) := by decide +kernel
theorem dX6_copyFrom_42 : decode cX6_copyFrom 42 = .ok (.iconst 0, 1) := by decide +kernel
theorem dX6_copyFrom_43 : decode cX6_copyFrom 43 = .ok (.istore_n 2, 1) := by decide +kernel
theorem dX6_copyFrom_44 : decode cX6_copyFrom 44 = .ok (.iload_n 2, 1) := by decide +kernel
theorem dX6_copyFrom_45 : decode cX6_copyFrom 45 = .ok (.iconst 5, 1) := by decide +kernel
theorem dX6_copyFrom_46 : decode cX6_copyFrom 46 = .ok (.if_icmp .ge 24, 3) := by decide +kernel
theorem dX6_copyFrom_49 : decode cX6_copyFrom 49 = .ok (.aload_n 0, 1) := by decide +kernel
theorem dX6_copyFrom_50 : decode cX6_copyFrom 50 = .ok (.getfield 23, 3) := by decide +kernel
theorem dX6_copyFrom_53 : decode cX6_copyFrom 53 = .ok (.iload_n 2, 1) := by decide +kernel
theorem dX6_copyFrom_54 : decode cX6_copyFrom 54 = .ok (.aaload, 1) := by decide +kernel
theorem dX6_copyFrom_55 : decode cX6_copyFrom 55 = .ok (.aload_n 1, 1) := by decide +kernel
theorem dX6_copyFrom_56 : decode cX6_copyFrom 56 = .ok (.getfield 23, 3) := by decide +kernel
theorem dX6_copyFrom_59 : decode cX6_copyFrom 59 = .ok (.iload_n 2, 1) := by decide +kernel
theorem dX6_copyFrom_60 : decode cX6_copyFrom 60 = .ok (.aaload, 1) := by decide +kernel
theorem dX6_copyFrom_61 : decode cX6_copyFrom 61 = .ok (.invokevirtual 76, 3) := by decide +kernel
theorem dX6_copyFrom_64 : decode cX6_copyFrom 64 = .ok (.iinc 2 1, 3) := by decide +kernel
theorem dX6_copyFrom_67 : decode cX6_copyFrom 67 = .ok (.goto (-23), 3) := by decide +kernel
theorem dX6_copyFrom_70 : decode cX6_copyFrom 70 = .ok (.iconst 0, 1) := by decide +kernel
theorem dX6_copyFrom_71 : decode cX6_copyFrom 71 = .ok (.istore_n 2, 1) := by decide +kernel
theorem dX6_copyFrom_72 : decode cX6_copyFrom 72 = .ok (.iload_n 2, 1) := by decide +kernel
theorem dX6_copyFrom_73 : decode cX6_copyFrom 73 = .ok (.bipush 8, 2) := by decide +kernel
theorem dX6_copyFrom_75 : decode cX6_copyFrom 75 = .ok (.if_icmp .ge 24, 3) := by decide +kernel
theorem dX6_copyFrom_78 : decode cX6_copyFrom 78 = .ok (.aload_n 0, 1) := by decide +kernel
theorem dX6_copyFrom_79 : decode cX6_copyFrom 79 = .ok (.getfield 29, 3) := by decide +kernel
theorem dX6_copyFrom_82 : decode cX6_copyFrom 82 = .ok (.iload_n 2, 1) := by decide +kernel
theorem dX6_copyFrom_83 : decode cX6_copyFrom 83 = .ok (.aaload, 1) := by decide +kernel
theorem dX6_copyFrom_84 : decode cX6_copyFrom 84 = .ok (.aload_n 1, 1) := by decide +kernel
theorem dX6_copyFrom_85 : decode cX6_copyFrom 85 = .ok (.getfield 29, 3) := by decide +kernel
theorem dX6_copyFrom_88 : decode cX6_copyFrom 88 = .ok (.iload_n 2, 1) := by decide +kernel
theorem dX6_copyFrom_89 : decode cX6_copyFrom 89 = .ok (.aaload, 1) := by decide +kernel
theorem dX6_copyFrom_90 : decode cX6_copyFrom 90 = .ok (.invokevirtual 79, 3) := by decide +kernel
theorem dX6_copyFrom_93 : decode cX6_copyFrom 93 = .ok (.iinc 2 1, 3) := by decide +kernel
theorem dX6_copyFrom_96 : decode cX6_copyFrom 96 = .ok (.goto (-24), 3) := by decide +kernel
theorem dX6_copyFrom_99 : decode cX6_copyFrom 99 = .ok (.aload_n 0, 1) := by decide +kernel
theorem dX6_copyFrom_100 : decode cX6_copyFrom 100 = .ok (.aload_n 1, 1) := by decide +kernel
theorem dX6_copyFrom_101 : decode cX6_copyFrom 101 = .ok (.getfield 39, 3) := by decide +kernel
theorem dX6_copyFrom_104 : decode cX6_copyFrom 104 = .ok (.putfield 39, 3) := by decide +kernel
theorem dX6_copyFrom_107 : decode cX6_copyFrom 107 = .ok (.iconst 0, 1) := by decide +kernel
theorem dX6_copyFrom_108 : decode cX6_copyFrom 108 = .ok (.istore_n 2, 1) := by decide +kernel
theorem dX6_copyFrom_109 : decode cX6_copyFrom 109 = .ok (.iload_n 2, 1) := by decide +kernel
theorem dX6_copyFrom_110 : decode cX6_copyFrom 110 = .ok (.aload_n 0, 1) := by decide +kernel
theorem dX6_copyFrom_111 : decode cX6_copyFrom 111 = .ok (.getfield 39, 3) := by decide +kernel
theorem dX6_copyFrom_114 : decode cX6_copyFrom 114 = .ok (.if_icmp .ge 24, 3) := by decide +kernel
theorem dX6_copyFrom_117 : decode cX6_copyFrom 117 = .ok (.aload_n 0, 1) := by decide +kernel
theorem dX6_copyFrom_118 : decode cX6_copyFrom 118 = .ok (.getfield 35, 3) := by decide +kernel
theorem dX6_copyFrom_121 : decode cX6_copyFrom 121 = .ok (.iload_n 2, 1) := by decide +kernel
theorem dX6_copyFrom_122 : decode cX6_copyFrom 122 = .ok (.aaload, 1) := by decide +kernel
theorem dX6_copyFrom_123 : decode cX6_copyFrom 123 = .ok (.aload_n 1, 1) := by decide +kernel
theorem dX6_copyFrom_124 : decode cX6_copyFrom 124 = .ok (.getfield 35, 3) := by decide +kernel
theorem dX6_copyFrom_127 : decode cX6_copyFrom 127 = .ok (.iload_n 2, 1) := by decide +kernel
theorem dX6_copyFrom_128 : decode cX6_copyFrom 128 = .ok (.aaload, 1) := by decide +kernel
theorem dX6_copyFrom_129 : decode cX6_copyFrom 129 = .ok (.invokevirtual 82, 3) := by decide +kernel
theorem dX6_copyFrom_132 : decode cX6_copyFrom 132 = .ok (.iinc 2 1, 3) := by decide +kernel
theorem dX6_copyFrom_135 : decode cX6_copyFrom 135 = .ok (.goto (-26), 3) := by decide +kernel
theorem dX6_copyFrom_138 : decode cX6_copyFrom 138 = .ok (.aload_n 0, 1) := by decide +kernel
theorem dX6_copyFrom_139 : decode cX6_copyFrom 139 = .ok (.getfield 53, 3) := by decide +kernel
theorem dX6_copyFrom_142 : decode cX6_copyFrom 142 = .ok (.aload_n 1, 1) := by decide +kernel
theorem dX6_copyFrom_143 : decode cX6_copyFrom 143 = .ok (.getfield 53, 3) := by decide +kernel
theorem dX6_copyFrom_146 : decode cX6_copyFrom 146 = .ok (.invokevirtual 85, 3) := by decide +kernel
theorem dX6_copyFrom_149 : decode cX6_copyFrom 149 = .ok (.return_, 1) := by decide +kernel
theorem dX6_fixBand_0 : decode cX6_fixBand 0 = .ok (.aload_n 1, 1) := by decide +kernel
theorem dX6_fixBand_1 : decode cX6_fixBand 1 = .ok (.aload_n 0, 1) := by decide +kernel
theorem dX6_fixBand_2 : decode cX6_fixBand 2 = .ok (.getfield 53, 3) := by decide +kernel
theorem dX6_fixBand_5 : decode cX6_fixBand 5 = .ok (.aload_n 1, 1) := by decide +kernel
theorem dX6_fixBand_6 : decode cX6_fixBand 6 = .ok (.getfield 88, 3) := by decide +kernel
theorem dX6_fixBand_9 : decode cX6_fixBand 9 = .ok (.iconst 0, 1) := by decide +kernel
theorem dX6_fixBand_10 : decode cX6_fixBand 10 = .ok (.invokevirtual 92, 3) := by decide +kernel
theorem dX6_fixBand_13 : decode cX6_fixBand 13 = .ok (.invokestatic 96, 3) := by decide +kernel
theorem dX6_fixBand_16 : decode cX6_fixBand 16 = .ok (.putfield 100, 3) := by decide +kernel
theorem dX6_fixBand_19 : decode cX6_fixBand 19 = .ok (.aload_n 1, 1) := by decide +kernel
theorem dX6_fixBand_20 : decode cX6_fixBand 20 = .ok (.aload_n 0, 1) := by decide +kernel
theorem dX6_fixBand_21 : decode cX6_fixBand 21 = .ok (.getfield 23, 3) := by decide +kernel
theorem dX6_fixBand_24 : decode cX6_fixBand 24 = .ok (.aload_n 1, 1) := by decide +kernel
theorem dX6_fixBand_25 : decode cX6_fixBand 25 = .ok (.getfield 100, 3) := by decide +kernel
theorem dX6_fixBand_28 : decode cX6_fixBand 28 = .ok (.aaload, 1) := by decide +kernel
theorem dX6_fixBand_29 : decode cX6_fixBand 29 = .ok (.getfield 103, 3) := by decide +kernel
theorem dX6_fixBand_32 : decode cX6_fixBand 32 = .ok (.putfield 106, 3) := by decide +kernel
theorem dX6_fixBand_35 : decode cX6_fixBand 35 = .ok (.return_, 1) := by decide +kernel
theorem dX6_takeDelivery_0 : decode cX6_takeDelivery 0 = .ok (.aload_n 0, 1) := by decide +kernel
theorem dX6_takeDelivery_1 : decode cX6_takeDelivery 1 = .ok (.getfield 17, 3) := by decide +kernel
theorem dX6_takeDelivery_4 : decode cX6_takeDelivery 4 = .ok (.aload_n 1, 1) := by decide +kernel
theorem dX6_takeDelivery_5 : decode cX6_takeDelivery 5 = .ok (.getfield 107, 3) := by decide +kernel
theorem dX6_takeDelivery_8 : decode cX6_takeDelivery 8 = .ok (.aaload, 1) := by decide +kernel
theorem dX6_takeDelivery_9 : decode cX6_takeDelivery 9 = .ok (.astore_n 2, 1) := by decide +kernel
theorem dX6_takeDelivery_10 : decode cX6_takeDelivery 10 = .ok (.aload_n 0, 1) := by decide +kernel
theorem dX6_takeDelivery_11 : decode cX6_takeDelivery 11 = .ok (.getfield 23, 3) := by decide +kernel
theorem dX6_takeDelivery_14 : decode cX6_takeDelivery 14 = .ok (.aload_n 1, 1) := by decide +kernel
theorem dX6_takeDelivery_15 : decode cX6_takeDelivery 15 = .ok (.getfield 100, 3) := by decide +kernel
theorem dX6_takeDelivery_18 : decode cX6_takeDelivery 18 = .ok (.aaload, 1) := by decide +kernel
theorem dX6_takeDelivery_19 : decode cX6_takeDelivery 19 = .ok (.astore_n 3, 1) := by decide +kernel
theorem dX6_takeDelivery_20 : decode cX6_takeDelivery 20 = .ok (.aload_n 1, 1) := by decide +kernel
theorem dX6_takeDelivery_21 : decode cX6_takeDelivery 21 = .ok (.getfield 88, 3) := by decide +kernel
theorem dX6_takeDelivery_24 : decode cX6_takeDelivery 24 = .ok (.getfield 110, 3) := by decide +kernel
theorem dX6_takeDelivery_27 : decode cX6_takeDelivery 27 = .ok (.istore 4, 2) := by decide +kernel
theorem dX6_takeDelivery_29 : decode cX6_takeDelivery 29 = .ok (.aload_n 1, 1) := by decide +kernel
theorem dX6_takeDelivery_30 : decode cX6_takeDelivery 30 = .ok (.iconst 2, 1) := by decide +kernel
theorem dX6_takeDelivery_31 : decode cX6_takeDelivery 31 = .ok (.putfield 113, 3) := by decide +kernel
theorem dX6_takeDelivery_34 : decode cX6_takeDelivery 34 = .ok (.aload_n 1, 1) := by decide +kernel
theorem dX6_takeDelivery_35 : decode cX6_takeDelivery 35 = .ok (.aload_n 2, 1) := by decide +kernel
theorem dX6_takeDelivery_36 : decode cX6_takeDelivery 36 = .ok (.getfield 116, 3) := by decide +kernel
theorem dX6_takeDelivery_39 : decode cX6_takeDelivery 39 = .ok (.putfield 119, 3) := by decide +kernel
theorem dX6_takeDelivery_42 : decode cX6_takeDelivery 42 = .ok (.aload_n 1, 1) := by decide +kernel
theorem dX6_takeDelivery_43 : decode cX6_takeDelivery 43 = .ok (.iload 4, 2) := by decide +kernel
theorem dX6_takeDelivery_45 : decode cX6_takeDelivery 45 = .ok (.aload_n 2, 1) := by decide +kernel
theorem dX6_takeDelivery_46 : decode cX6_takeDelivery 46 = .ok (.getfield 116, 3) := by decide +kernel
theorem dX6_takeDelivery_49 : decode cX6_takeDelivery 49 = .ok (.imul, 1) := by decide +kernel
theorem dX6_takeDelivery_50 : decode cX6_takeDelivery 50 = .ok (.aload_n 1, 1) := by decide +kernel
theorem dX6_takeDelivery_51 : decode cX6_takeDelivery 51 = .ok (.getfield 106, 3) := by decide +kernel
theorem dX6_takeDelivery_54 : decode cX6_takeDelivery 54 = .ok (.imul, 1) := by decide +kernel
theorem dX6_takeDelivery_55 : decode cX6_takeDelivery 55 = .ok (.bipush 100, 2) := by decide +kernel
theorem dX6_takeDelivery_57 : decode cX6_takeDelivery 57 = .ok (.idiv, 1) := by decide +kernel
theorem dX6_takeDelivery_58 : decode cX6_takeDelivery 58 = .ok (.putfield 122, 3) := by decide +kernel
theorem dX6_takeDelivery_61 : decode cX6_takeDelivery 61 = .ok (.aload_n 2, 1) := by decide +kernel
theorem dX6_takeDelivery_62 : decode cX6_takeDelivery 62 = .ok (.dup, 1) := by decide +kernel
theorem dX6_takeDelivery_63 : decode cX6_takeDelivery 63 = .ok (.getfield 125, 3) := by decide +kernel
theorem dX6_takeDelivery_66 : decode cX6_takeDelivery 66 = .ok (.aload_n 1, 1) := by decide +kernel
theorem dX6_takeDelivery_67 : decode cX6_takeDelivery 67 = .ok (.getfield 122, 3) := by decide +kernel
theorem dX6_takeDelivery_70 : decode cX6_takeDelivery 70 = .ok (.iadd, 1) := by decide +kernel
theorem dX6_takeDelivery_71 : decode cX6_takeDelivery 71 = .ok (.putfield 125, 3) := by decide +kernel
theorem dX6_takeDelivery_74 : decode cX6_takeDelivery 74 = .ok (.aload_n 2, 1) := by decide +kernel
theorem dX6_takeDelivery_75 : decode cX6_takeDelivery 75 = .ok (.dup, 1) := by decide +kernel
theorem dX6_takeDelivery_76 : decode cX6_takeDelivery 76 = .ok (.getfield 128, 3) := by decide +kernel
theorem dX6_takeDelivery_79 : decode cX6_takeDelivery 79 = .ok (.iload 4, 2) := by decide +kernel
theorem dX6_takeDelivery_81 : decode cX6_takeDelivery 81 = .ok (.iadd, 1) := by decide +kernel
theorem dX6_takeDelivery_82 : decode cX6_takeDelivery 82 = .ok (.putfield 128, 3) := by decide +kernel
theorem dX6_takeDelivery_85 : decode cX6_takeDelivery 85 = .ok (.aload_n 3, 1) := by decide +kernel
theorem dX6_takeDelivery_86 : decode cX6_takeDelivery 86 = .ok (.dup, 1) := by decide +kernel
theorem dX6_takeDelivery_87 : decode cX6_takeDelivery 87 = .ok (.getfield 131, 3) := by decide +kernel
theorem dX6_takeDelivery_90 : decode cX6_takeDelivery 90 = .ok (.iload 4, 2) := by decide +kernel
theorem dX6_takeDelivery_92 : decode cX6_takeDelivery 92 = .ok (.iadd, 1) := by decide +kernel
theorem dX6_takeDelivery_93 : decode cX6_takeDelivery 93 = .ok (.putfield 131, 3) := by decide +kernel
theorem dX6_takeDelivery_96 : decode cX6_takeDelivery 96 = .ok (.aload_n 3, 1) := by decide +kernel
theorem dX6_takeDelivery_97 : decode cX6_takeDelivery 97 = .ok (.dup, 1) := by decide +kernel
theorem dX6_takeDelivery_98 : decode cX6_takeDelivery 98 = .ok (.getfield 134, 3) := by decide +kernel
theorem dX6_takeDelivery_101 : decode cX6_takeDelivery 101 = .ok (.aload_n 1, 1) := by decide +kernel
theorem dX6_takeDelivery_102 : decode cX6_takeDelivery 102 = .ok (.getfield 122, 3) := by decide +kernel
theorem dX6_takeDelivery_105 : decode cX6_takeDelivery 105 = .ok (.iadd, 1) := by decide +kernel
theorem dX6_takeDelivery_106 : decode cX6_takeDelivery 106 = .ok (.putfield 134, 3) := by decide +kernel
theorem dX6_takeDelivery_109 : decode cX6_takeDelivery 109 = .ok (.aload_n 0, 1) := by decide +kernel
theorem dX6_takeDelivery_110 : decode cX6_takeDelivery 110 = .ok (.getfield 53, 3) := by decide +kernel
theorem dX6_takeDelivery_113 : decode cX6_takeDelivery 113 = .ok (.aload_n 1, 1) := by decide +kernel
theorem dX6_takeDelivery_114 : decode cX6_takeDelivery 114 = .ok (.getfield 88, 3) := by decide +kernel
theorem dX6_takeDelivery_117 : decode cX6_takeDelivery 117 = .ok (.invokevirtual 137, 3) := by decide +kernel
theorem dX6_takeDelivery_120 : decode cX6_takeDelivery 120 = .ok (.return_, 1) := by decide +kernel
theorem dX6_takeRevision_0 : decode cX6_takeRevision 0 = .ok (.aload_n 0, 1) := by decide +kernel
theorem dX6_takeRevision_1 : decode cX6_takeRevision 1 = .ok (.getfield 17, 3) := by decide +kernel
theorem dX6_takeRevision_4 : decode cX6_takeRevision 4 = .ok (.aload_n 1, 1) := by decide +kernel
theorem dX6_takeRevision_5 : decode cX6_takeRevision 5 = .ok (.getfield 107, 3) := by decide +kernel
theorem dX6_takeRevision_8 : decode cX6_takeRevision 8 = .ok (.aaload, 1) := by decide +kernel
theorem dX6_takeRevision_9 : decode cX6_takeRevision 9 = .ok (.astore 4, 2) := by decide +kernel
theorem dX6_takeRevision_11 : decode cX6_takeRevision 11 = .ok (.aload_n 0, 1) := by decide +kernel
theorem dX6_takeRevision_12 : decode cX6_takeRevision 12 = .ok (.getfield 17, 3) := by decide +kernel
theorem dX6_takeRevision_15 : decode cX6_takeRevision 15 = .ok (.iload_n 2, 1) := by decide +kernel
theorem dX6_takeRevision_16 : decode cX6_takeRevision 16 = .ok (.aaload, 1) := by decide +kernel
theorem dX6_takeRevision_17 : decode cX6_takeRevision 17 = .ok (.astore 5, 2) := by decide +kernel
theorem dX6_takeRevision_19 : decode cX6_takeRevision 19 = .ok (.aload_n 1, 1) := by decide +kernel
theorem dX6_takeRevision_20 : decode cX6_takeRevision 20 = .ok (.getfield 88, 3) := by decide +kernel
theorem dX6_takeRevision_23 : decode cX6_takeRevision 23 = .ok (.getfield 110, 3) := by decide +kernel
theorem dX6_takeRevision_26 : decode cX6_takeRevision 26 = .ok (.aload 5, 2) := by decide +kernel
theorem dX6_takeRevision_28 : decode cX6_takeRevision 28 = .ok (.getfield 116, 3) := by decide +kernel
theorem dX6_takeRevision_31 : decode cX6_takeRevision 31 = .ok (.imul, 1) := by decide +kernel
theorem dX6_takeRevision_32 : decode cX6_takeRevision 32 = .ok (.aload_n 0, 1) := by decide +kernel
theorem dX6_takeRevision_33 : decode cX6_takeRevision 33 = .ok (.getfield 9, 3) := by decide +kernel
theorem dX6_takeRevision_36 : decode cX6_takeRevision 36 = .ok (.iconst 0, 1) := by decide +kernel
theorem dX6_takeRevision_37 : decode cX6_takeRevision 37 = .ok (.iaload, 1) := by decide +kernel
theorem dX6_takeRevision_38 : decode cX6_takeRevision 38 = .ok (.imul, 1) := by decide +kernel
theorem dX6_takeRevision_39 : decode cX6_takeRevision 39 = .ok (.bipush 100, 2) := by decide +kernel
theorem dX6_takeRevision_41 : decode cX6_takeRevision 41 = .ok (.idiv, 1) := by decide +kernel
theorem dX6_takeRevision_42 : decode cX6_takeRevision 42 = .ok (.istore 6, 2) := by decide +kernel
theorem dX6_takeRevision_44 : decode cX6_takeRevision 44 = .ok (.iload_n 3, 1) := by decide +kernel
theorem dX6_takeRevision_45 : decode cX6_takeRevision 45 = .ok (.aload_n 1, 1) := by decide +kernel
theorem dX6_takeRevision_46 : decode cX6_takeRevision 46 = .ok (.getfield 119, 3) := by decide +kernel
theorem dX6_takeRevision_49 : decode cX6_takeRevision 49 = .ok (.imul, 1) := by decide +kernel
theorem dX6_takeRevision_50 : decode cX6_takeRevision 50 = .ok (.aload_n 0, 1) := by decide +kernel
theorem dX6_takeRevision_51 : decode cX6_takeRevision 51 = .ok (.getfield 9, 3) := by decide +kernel
theorem dX6_takeRevision_54 : decode cX6_takeRevision 54 = .ok (.iconst 1, 1) := by decide +kernel
theorem dX6_takeRevision_55 : decode cX6_takeRevision 55 = .ok (.iaload, 1) := by decide +kernel
theorem dX6_takeRevision_56 : decode cX6_takeRevision 56 = .ok (.imul, 1) := by decide +kernel
theorem dX6_takeRevision_57 : decode cX6_takeRevision 57 = .ok (.bipush 100, 2) := by decide +kernel
theorem dX6_takeRevision_59 : decode cX6_takeRevision 59 = .ok (.idiv, 1) := by decide +kernel
theorem dX6_takeRevision_60 : decode cX6_takeRevision 60 = .ok (.istore 7, 2) := by decide +kernel
theorem dX6_takeRevision_62 : decode cX6_takeRevision 62 = .ok (.iload 7, 2) := by decide +kernel
theorem dX6_takeRevision_64 : decode cX6_takeRevision 64 = .ok (.aload_n 1, 1) := by decide +kernel
theorem dX6_takeRevision_65 : decode cX6_takeRevision 65 = .ok (.getfield 122, 3) := by decide +kernel
theorem dX6_takeRevision_68 : decode cX6_takeRevision 68 = .ok (.invokestatic 140, 3) := by decide +kernel
theorem dX6_takeRevision_71 : decode cX6_takeRevision 71 = .ok (.istore 8, 2) := by decide +kernel
theorem dX6_takeRevision_73 : decode cX6_takeRevision 73 = .ok (.aload_n 1, 1) := by decide +kernel
theorem dX6_takeRevision_74 : decode cX6_takeRevision 74 = .ok (.iconst 3, 1) := by decide +kernel
theorem dX6_takeRevision_75 : decode cX6_takeRevision 75 = .ok (.putfield 113, 3) := by decide +kernel
theorem dX6_takeRevision_78 : decode cX6_takeRevision 78 = .ok (.aload_n 1, 1) := by decide +kernel
theorem dX6_takeRevision_79 : decode cX6_takeRevision 79 = .ok (.iload_n 2, 1) := by decide +kernel
theorem dX6_takeRevision_80 : decode cX6_takeRevision 80 = .ok (.putfield 146, 3) := by decide +kernel
theorem dX6_takeRevision_83 : decode cX6_takeRevision 83 = .ok (.aload_n 1, 1) := by decide +kernel
theorem dX6_takeRevision_84 : decode cX6_takeRevision 84 = .ok (.iload_n 3, 1) := by decide +kernel
theorem dX6_takeRevision_85 : decode cX6_takeRevision 85 = .ok (.putfield 149, 3) := by decide +kernel
theorem dX6_takeRevision_88 : decode cX6_takeRevision 88 = .ok (.aload_n 1, 1) := by decide +kernel
theorem dX6_takeRevision_89 : decode cX6_takeRevision 89 = .ok (.dup, 1) := by decide +kernel
theorem dX6_takeRevision_90 : decode cX6_takeRevision 90 = .ok (.getfield 122, 3) := by decide +kernel
theorem dX6_takeRevision_93 : decode cX6_takeRevision 93 = .ok (.iload 8, 2) := by decide +kernel
theorem dX6_takeRevision_95 : decode cX6_takeRevision 95 = .ok (.isub, 1) := by decide +kernel
theorem dX6_takeRevision_96 : decode cX6_takeRevision 96 = .ok (.putfield 122, 3) := by decide +kernel
theorem dX6_takeRevision_99 : decode cX6_takeRevision 99 = .ok (.aload 4, 2) := by decide +kernel
theorem dX6_takeRevision_101 : decode cX6_takeRevision 101 = .ok (.dup, 1) := by decide +kernel
theorem dX6_takeRevision_102 : decode cX6_takeRevision 102 = .ok (.getfield 125, 3) := by decide +kernel
theorem dX6_takeRevision_105 : decode cX6_takeRevision 105 = .ok (.iload 8, 2) := by decide +kernel
theorem dX6_takeRevision_107 : decode cX6_takeRevision 107 = .ok (.isub, 1) := by decide +kernel
theorem dX6_takeRevision_108 : decode cX6_takeRevision 108 = .ok (.putfield 125, 3) := by decide +kernel
theorem dX6_takeRevision_111 : decode cX6_takeRevision 111 = .ok (.aload 4, 2) := by decide +kernel
theorem dX6_takeRevision_113 : decode cX6_takeRevision 113 = .ok (.dup, 1) := by decide +kernel
theorem dX6_takeRevision_114 : decode cX6_takeRevision 114 = .ok (.getfield 152, 3) := by decide +kernel
theorem dX6_takeRevision_117 : decode cX6_takeRevision 117 = .ok (.iload_n 3, 1) := by decide +kernel
theorem dX6_takeRevision_118 : decode cX6_takeRevision 118 = .ok (.iadd, 1) := by decide +kernel
theorem dX6_takeRevision_119 : decode cX6_takeRevision 119 = .ok (.putfield 152, 3) := by decide +kernel
theorem dX6_takeRevision_122 : decode cX6_takeRevision 122 = .ok (.aload 5, 2) := by decide +kernel
theorem dX6_takeRevision_124 : decode cX6_takeRevision 124 = .ok (.dup, 1) := by decide +kernel
theorem dX6_takeRevision_125 : decode cX6_takeRevision 125 = .ok (.getfield 125, 3) := by decide +kernel
theorem dX6_takeRevision_128 : decode cX6_takeRevision 128 = .ok (.iload 6, 2) := by decide +kernel
theorem dX6_takeRevision_130 : decode cX6_takeRevision 130 = .ok (.iadd, 1) := by decide +kernel
theorem dX6_takeRevision_131 : decode cX6_takeRevision 131 = .ok (.putfield 125, 3) := by decide +kernel
theorem dX6_takeRevision_134 : decode cX6_takeRevision 134 = .ok (.aload 5, 2) := by decide +kernel
theorem dX6_takeRevision_136 : decode cX6_takeRevision 136 = .ok (.dup, 1) := by decide +kernel
theorem dX6_takeRevision_137 : decode cX6_takeRevision 137 = .ok (.getfield 155, 3) := by decide +kernel
theorem dX6_takeRevision_140 : decode cX6_takeRevision 140 = .ok (.iload_n 3, 1) := by decide +kernel
theorem dX6_takeRevision_141 : decode cX6_takeRevision 141 = .ok (.iadd, 1) := by decide +kernel
theorem dX6_takeRevision_142 : decode cX6_takeRevision 142 = .ok (.putfield 155, 3) := by decide +kernel
theorem dX6_takeRevision_145 : decode cX6_takeRevision 145 = .ok (.return_, 1) := by decide +kernel
theorem dX6_replaceSource_0 : decode cX6_replaceSource 0 = .ok (.aload_n 1, 1) := by decide +kernel
theorem dX6_replaceSource_1 : decode cX6_replaceSource 1 = .ok (.aload_n 2, 1) := by decide +kernel
theorem dX6_replaceSource_2 : decode cX6_replaceSource 2 = .ok (.putfield 88, 3) := by decide +kernel
theorem dX6_replaceSource_5 : decode cX6_replaceSource 5 = .ok (.aload_n 1, 1) := by decide +kernel
theorem dX6_replaceSource_6 : decode cX6_replaceSource 6 = .ok (.getfield 113, 3) := by decide +kernel
theorem dX6_replaceSource_9 : decode cX6_replaceSource 9 = .ok (.ifCond .ne 4, 3) := by decide +kernel
theorem dX6_replaceSource_12 : decode cX6_replaceSource 12 = .ok (.return_, 1) := by decide +kernel
theorem dX6_replaceSource_13 : decode cX6_replaceSource 13 = .ok (.aload_n 1, 1) := by decide +kernel
theorem dX6_replaceSource_14 : decode cX6_replaceSource 14 = .ok (.invokevirtual 156, 3) := by decide +kernel
theorem dX6_replaceSource_17 : decode cX6_replaceSource 17 = .ok (.aload_n 0, 1) := by decide +kernel
theorem dX6_replaceSource_18 : decode cX6_replaceSource 18 = .ok (.aload_n 1, 1) := by decide +kernel
theorem dX6_replaceSource_19 : decode cX6_replaceSource 19 = .ok (.invokevirtual 159, 3) := by decide +kernel
theorem dX6_replaceSource_22 : decode cX6_replaceSource 22 = .ok (.return_, 1) := by decide +kernel
theorem dX6_bandOf_0 : decode cX6_bandOf 0 = .ok (.iconst 0, 1) := by decide +kernel
theorem dX6_bandOf_1 : decode cX6_bandOf 1 = .ok (.istore_n 1, 1) := by decide +kernel
theorem dX6_bandOf_2 : decode cX6_bandOf 2 = .ok (.iload_n 1, 1) := by decide +kernel
theorem dX6_bandOf_3 : decode cX6_bandOf 3 = .ok (.getstatic 162, 3) := by decide +kernel
theorem dX6_bandOf_6 : decode cX6_bandOf 6 = .ok (.arraylength, 1) := by decide +kernel
theorem dX6_bandOf_7 : decode cX6_bandOf 7 = .ok (.if_icmp .ge 20, 3) := by decide +kernel
theorem dX6_bandOf_10 : decode cX6_bandOf 10 = .ok (.iload_n 0, 1) := by decide +kernel
theorem dX6_bandOf_11 : decode cX6_bandOf 11 = .ok (.getstatic 162, 3) := by decide +kernel
theorem dX6_bandOf_14 : decode cX6_bandOf 14 = .ok (.iload_n 1, 1) := by decide +kernel
theorem dX6_bandOf_15 : decode cX6_bandOf 15 = .ok (.iaload, 1) := by decide +kernel
theorem dX6_bandOf_16 : decode cX6_bandOf 16 = .ok (.if_icmp .lt 5, 3) := by decide +kernel
theorem dX6_bandOf_19 : decode cX6_bandOf 19 = .ok (.iload_n 1, 1) := by decide +kernel
theorem dX6_bandOf_20 : decode cX6_bandOf 20 = .ok (.ireturn, 1) := by decide +kernel
theorem dX6_bandOf_21 : decode cX6_bandOf 21 = .ok (.iinc 1 1, 3) := by decide +kernel
theorem dX6_bandOf_24 : decode cX6_bandOf 24 = .ok (.goto (-22), 3) := by decide +kernel
theorem dX6_bandOf_27 : decode cX6_bandOf 27 = .ok (.getstatic 162, 3) := by decide +kernel
theorem dX6_bandOf_30 : decode cX6_bandOf 30 = .ok (.arraylength, 1) := by decide +kernel
theorem dX6_bandOf_31 : decode cX6_bandOf 31 = .ok (.ireturn, 1) := by decide +kernel
theorem dX6_percentOf_0 : decode cX6_percentOf 0 = .ok (.aload_n 0, 1) := by decide +kernel
theorem dX6_percentOf_1 : decode cX6_percentOf 1 = .ok (.getfield 23, 3) := by decide +kernel
theorem dX6_percentOf_4 : decode cX6_percentOf 4 = .ok (.iload_n 1, 1) := by decide +kernel
theorem dX6_percentOf_5 : decode cX6_percentOf 5 = .ok (.invokestatic 96, 3) := by decide +kernel
theorem dX6_percentOf_8 : decode cX6_percentOf 8 = .ok (.aaload, 1) := by decide +kernel
theorem dX6_percentOf_9 : decode cX6_percentOf 9 = .ok (.getfield 103, 3) := by decide +kernel
theorem dX6_percentOf_12 : decode cX6_percentOf 12 = .ok (.ireturn, 1) := by decide +kernel
theorem dX6_percentNow_0 : decode cX6_percentNow 0 = .ok (.aload_n 0, 1) := by decide +kernel
theorem dX6_percentNow_1 : decode cX6_percentNow 1 = .ok (.aload_n 0, 1) := by decide +kernel
theorem dX6_percentNow_2 : decode cX6_percentNow 2 = .ok (.getfield 53, 3) := by decide +kernel
theorem dX6_percentNow_5 : decode cX6_percentNow 5 = .ok (.aload_n 1, 1) := by decide +kernel
theorem dX6_percentNow_6 : decode cX6_percentNow 6 = .ok (.iconst 0, 1) := by decide +kernel
theorem dX6_percentNow_7 : decode cX6_percentNow 7 = .ok (.invokevirtual 92, 3) := by decide +kernel
theorem dX6_percentNow_10 : decode cX6_percentNow 10 = .ok (.invokevirtual 165, 3) := by decide +kernel
theorem dX6_percentNow_13 : decode cX6_percentNow 13 = .ok (.ireturn, 1) := by decide +kernel
theorem dX6_costInOrder_0 : decode cX6_costInOrder 0 = .ok (.aload_n 0, 1) := by decide +kernel
theorem dX6_costInOrder_1 : decode cX6_costInOrder 1 = .ok (.aload_n 0, 1) := by decide +kernel
theorem dX6_costInOrder_2 : decode cX6_costInOrder 2 = .ok (.getfield 53, 3) := by decide +kernel
theorem dX6_costInOrder_5 : decode cX6_costInOrder 5 = .ok (.aload_n 2, 1) := by decide +kernel
theorem dX6_costInOrder_6 : decode cX6_costInOrder 6 = .ok (.aload_n 1, 1) := by decide +kernel
theorem dX6_costInOrder_7 : decode cX6_costInOrder 7 = .ok (.invokevirtual 168, 3) := by decide +kernel
theorem dX6_costInOrder_10 : decode cX6_costInOrder 10 = .ok (.invokevirtual 165, 3) := by decide +kernel
theorem dX6_costInOrder_13 : decode cX6_costInOrder 13 = .ok (.istore_n 3, 1) := by decide +kernel
theorem dX6_costInOrder_14 : decode cX6_costInOrder 14 = .ok (.aload_n 1, 1) := by decide +kernel
theorem dX6_costInOrder_15 : decode cX6_costInOrder 15 = .ok (.getfield 110, 3) := by decide +kernel
theorem dX6_costInOrder_18 : decode cX6_costInOrder 18 = .ok (.aload_n 0, 1) := by decide +kernel
theorem dX6_costInOrder_19 : decode cX6_costInOrder 19 = .ok (.aload_n 1, 1) := by decide +kernel
theorem dX6_costInOrder_20 : decode cX6_costInOrder 20 = .ok (.invokevirtual 172, 3) := by decide +kernel
theorem dX6_costInOrder_23 : decode cX6_costInOrder 23 = .ok (.imul, 1) := by decide +kernel
theorem dX6_costInOrder_24 : decode cX6_costInOrder 24 = .ok (.aload_n 2, 1) := by decide +kernel
theorem dX6_costInOrder_25 : decode cX6_costInOrder 25 = .ok (.getfield 110, 3) := by decide +kernel
theorem dX6_costInOrder_28 : decode cX6_costInOrder 28 = .ok (.iload_n 3, 1) := by decide +kernel
theorem dX6_costInOrder_29 : decode cX6_costInOrder 29 = .ok (.imul, 1) := by decide +kernel
theorem dX6_costInOrder_30 : decode cX6_costInOrder 30 = .ok (.iadd, 1) := by decide +kernel
theorem dX6_costInOrder_31 : decode cX6_costInOrder 31 = .ok (.ireturn, 1) := by decide +kernel
theorem dX6_savedPercents_0 : decode cX6_savedPercents 0 = .ok (.iconst 0, 1) := by decide +kernel
theorem dX6_savedPercents_1 : decode cX6_savedPercents 1 = .ok (.istore_n 1, 1) := by decide +kernel
theorem dX6_savedPercents_2 : decode cX6_savedPercents 2 = .ok (.iconst 0, 1) := by decide +kernel
theorem dX6_savedPercents_3 : decode cX6_savedPercents 3 = .ok (.istore_n 2, 1) := by decide +kernel
theorem dX6_savedPercents_4 : decode cX6_savedPercents 4 = .ok (.iload_n 2, 1) := by decide +kernel
theorem dX6_savedPercents_5 : decode cX6_savedPercents 5 = .ok (.aload_n 0, 1) := by decide +kernel
theorem dX6_savedPercents_6 : decode cX6_savedPercents 6 = .ok (.getfield 39, 3) := by decide +kernel
theorem dX6_savedPercents_9 : decode cX6_savedPercents 9 = .ok (.if_icmp .ge 35, 3) := by decide +kernel
theorem dX6_savedPercents_12 : decode cX6_savedPercents 12 = .ok (.aload_n 0, 1) := by decide +kernel
theorem dX6_savedPercents_13 : decode cX6_savedPercents 13 = .ok (.getfield 35, 3) := by decide +kernel
theorem dX6_savedPercents_16 : decode cX6_savedPercents 16 = .ok (.iload_n 2, 1) := by decide +kernel
theorem dX6_savedPercents_17 : decode cX6_savedPercents 17 = .ok (.aaload, 1) := by decide +kernel
theorem dX6_savedPercents_18 : decode cX6_savedPercents 18 = .ok (.getfield 88, 3) := by decide +kernel
theorem dX6_savedPercents_21 : decode cX6_savedPercents 21 = .ok (.astore_n 3, 1) := by decide +kernel
theorem dX6_savedPercents_22 : decode cX6_savedPercents 22 = .ok (.iload_n 1, 1) := by decide +kernel
theorem dX6_savedPercents_23 : decode cX6_savedPercents 23 = .ok (.aload_n 3, 1) := by decide +kernel
theorem dX6_savedPercents_24 : decode cX6_savedPercents 24 = .ok (.getfield 110, 3) := by decide +kernel
theorem dX6_savedPercents_27 : decode cX6_savedPercents 27 = .ok (.bipush 100, 2) := by decide +kernel
theorem dX6_savedPercents_29 : decode cX6_savedPercents 29 = .ok (.aload_n 0, 1) := by decide +kernel
theorem dX6_savedPercents_30 : decode cX6_savedPercents 30 = .ok (.aload_n 3, 1) := by decide +kernel
theorem dX6_savedPercents_31 : decode cX6_savedPercents 31 = .ok (.invokevirtual 172, 3) := by decide +kernel
theorem dX6_savedPercents_34 : decode cX6_savedPercents 34 = .ok (.isub, 1) := by decide +kernel
theorem dX6_savedPercents_35 : decode cX6_savedPercents 35 = .ok (.imul, 1) := by decide +kernel
theorem dX6_savedPercents_36 : decode cX6_savedPercents 36 = .ok (.iadd, 1) := by decide +kernel
theorem dX6_savedPercents_37 : decode cX6_savedPercents 37 = .ok (.istore_n 1, 1) := by decide +kernel
theorem dX6_savedPercents_38 : decode cX6_savedPercents 38 = .ok (.iinc 2 1, 3) := by decide +kernel
theorem dX6_savedPercents_41 : decode cX6_savedPercents 41 = .ok (.goto (-37), 3) := by decide +kernel
theorem dX6_savedPercents_44 : decode cX6_savedPercents 44 = .ok (.iload_n 1, 1) := by decide +kernel
theorem dX6_savedPercents_45 : decode cX6_savedPercents 45 = .ok (.ireturn, 1) := by decide +kernel
theorem dX6_hasDispute_0 : decode cX6_hasDispute 0 = .ok (.aload_n 1, 1) := by decide +kernel
theorem dX6_hasDispute_1 : decode cX6_hasDispute 1 = .ok (.getfield 176, 3) := by decide +kernel
theorem dX6_hasDispute_4 : decode cX6_hasDispute 4 = .ok (.astore_n 2, 1) := by decide +kernel
theorem dX6_hasDispute_5 : decode cX6_hasDispute 5 = .ok (.aload_n 2, 1) := by decide +kernel
theorem dX6_hasDispute_6 : decode cX6_hasDispute 6 = .ok (.arraylength, 1) := by decide +kernel
theorem dX6_hasDispute_7 : decode cX6_hasDispute 7 = .ok (.istore_n 3, 1) := by decide +kernel
theorem dX6_hasDispute_8 : decode cX6_hasDispute 8 = .ok (.iconst 0, 1) := by decide +kernel
theorem dX6_hasDispute_9 : decode cX6_hasDispute 9 = .ok (.istore 4, 2) := by decide +kernel
theorem dX6_hasDispute_11 : decode cX6_hasDispute 11 = .ok (.iload 4, 2) := by decide +kernel
theorem dX6_hasDispute_13 : decode cX6_hasDispute 13 = .ok (.iload_n 3, 1) := by decide +kernel
theorem dX6_hasDispute_14 : decode cX6_hasDispute 14 = .ok (.if_icmp .ge 30, 3) := by decide +kernel
theorem dX6_hasDispute_17 : decode cX6_hasDispute 17 = .ok (.aload_n 2, 1) := by decide +kernel
theorem dX6_hasDispute_18 : decode cX6_hasDispute 18 = .ok (.iload 4, 2) := by decide +kernel
theorem dX6_hasDispute_20 : decode cX6_hasDispute 20 = .ok (.iaload, 1) := by decide +kernel
theorem dX6_hasDispute_21 : decode cX6_hasDispute 21 = .ok (.istore 5, 2) := by decide +kernel
theorem dX6_hasDispute_23 : decode cX6_hasDispute 23 = .ok (.aload_n 0, 1) := by decide +kernel
theorem dX6_hasDispute_24 : decode cX6_hasDispute 24 = .ok (.getfield 29, 3) := by decide +kernel
theorem dX6_hasDispute_27 : decode cX6_hasDispute 27 = .ok (.iload 5, 2) := by decide +kernel
theorem dX6_hasDispute_29 : decode cX6_hasDispute 29 = .ok (.aaload, 1) := by decide +kernel
theorem dX6_hasDispute_30 : decode cX6_hasDispute 30 = .ok (.invokevirtual 178, 3) := by decide +kernel
theorem dX6_hasDispute_33 : decode cX6_hasDispute 33 = .ok (.ifCond .eq 5, 3) := by decide +kernel
theorem dX6_hasDispute_36 : decode cX6_hasDispute 36 = .ok (.iconst 1, 1) := by decide +kernel
theorem dX6_hasDispute_37 : decode cX6_hasDispute 37 = .ok (.ireturn, 1) := by decide +kernel
theorem dX6_hasDispute_38 : decode cX6_hasDispute 38 = .ok (.iinc 4 1, 3) := by decide +kernel
theorem dX6_hasDispute_41 : decode cX6_hasDispute 41 = .ok (.goto (-30), 3) := by decide +kernel
theorem dX6_hasDispute_44 : decode cX6_hasDispute 44 = .ok (.iconst 0, 1) := by decide +kernel
theorem dX6_hasDispute_45 : decode cX6_hasDispute 45 = .ok (.ireturn, 1) := by decide +kernel
theorem dX6_segmentsAt_0 : decode cX6_segmentsAt 0 = .ok (.iconst 0, 1) := by decide +kernel
theorem dX6_segmentsAt_1 : decode cX6_segmentsAt 1 = .ok (.istore_n 2, 1) := by decide +kernel
theorem dX6_segmentsAt_2 : decode cX6_segmentsAt 2 = .ok (.iconst 0, 1) := by decide +kernel
theorem dX6_segmentsAt_3 : decode cX6_segmentsAt 3 = .ok (.istore_n 3, 1) := by decide +kernel
theorem dX6_segmentsAt_4 : decode cX6_segmentsAt 4 = .ok (.iload_n 3, 1) := by decide +kernel
theorem dX6_segmentsAt_5 : decode cX6_segmentsAt 5 = .ok (.aload_n 0, 1) := by decide +kernel
theorem dX6_segmentsAt_6 : decode cX6_segmentsAt 6 = .ok (.getfield 39, 3) := by decide +kernel
theorem dX6_segmentsAt_9 : decode cX6_segmentsAt 9 = .ok (.if_icmp .ge 33, 3) := by decide +kernel
theorem dX6_segmentsAt_12 : decode cX6_segmentsAt 12 = .ok (.iload_n 2, 1) := by decide +kernel
theorem dX6_segmentsAt_13 : decode cX6_segmentsAt 13 = .ok (.aload_n 0, 1) := by decide +kernel
theorem dX6_segmentsAt_14 : decode cX6_segmentsAt 14 = .ok (.getfield 35, 3) := by decide +kernel
theorem dX6_segmentsAt_17 : decode cX6_segmentsAt 17 = .ok (.iload_n 3, 1) := by decide +kernel
theorem dX6_segmentsAt_18 : decode cX6_segmentsAt 18 = .ok (.aaload, 1) := by decide +kernel
theorem dX6_segmentsAt_19 : decode cX6_segmentsAt 19 = .ok (.getfield 113, 3) := by decide +kernel
theorem dX6_segmentsAt_22 : decode cX6_segmentsAt 22 = .ok (.iload_n 1, 1) := by decide +kernel
theorem dX6_segmentsAt_23 : decode cX6_segmentsAt 23 = .ok (.if_icmp .ne 7, 3) := by decide +kernel
theorem dX6_segmentsAt_26 : decode cX6_segmentsAt 26 = .ok (.iconst 1, 1) := by decide +kernel
theorem dX6_segmentsAt_27 : decode cX6_segmentsAt 27 = .ok (.goto 4, 3) := by decide +kernel
theorem dX6_segmentsAt_30 : decode cX6_segmentsAt 30 = .ok (.iconst 0, 1) := by decide +kernel
theorem dX6_segmentsAt_31 : decode cX6_segmentsAt 31 = .ok (.invokestatic 182, 3) := by decide +kernel
theorem dX6_segmentsAt_34 : decode cX6_segmentsAt 34 = .ok (.iadd, 1) := by decide +kernel
theorem dX6_segmentsAt_35 : decode cX6_segmentsAt 35 = .ok (.istore_n 2, 1) := by decide +kernel
theorem dX6_segmentsAt_36 : decode cX6_segmentsAt 36 = .ok (.iinc 3 1, 3) := by decide +kernel
theorem dX6_segmentsAt_39 : decode cX6_segmentsAt 39 = .ok (.goto (-35), 3) := by decide +kernel
theorem dX6_segmentsAt_42 : decode cX6_segmentsAt 42 = .ok (.iload_n 2, 1) := by decide +kernel
theorem dX6_segmentsAt_43 : decode cX6_segmentsAt 43 = .ok (.ireturn, 1) := by decide +kernel
theorem dX6_assignedTo_0 : decode cX6_assignedTo 0 = .ok (.iconst 0, 1) := by decide +kernel
theorem dX6_assignedTo_1 : decode cX6_assignedTo 1 = .ok (.istore_n 2, 1) := by decide +kernel
theorem dX6_assignedTo_2 : decode cX6_assignedTo 2 = .ok (.iconst 0, 1) := by decide +kernel
theorem dX6_assignedTo_3 : decode cX6_assignedTo 3 = .ok (.istore_n 3, 1) := by decide +kernel
theorem dX6_assignedTo_4 : decode cX6_assignedTo 4 = .ok (.iload_n 3, 1) := by decide +kernel
theorem dX6_assignedTo_5 : decode cX6_assignedTo 5 = .ok (.aload_n 0, 1) := by decide +kernel
theorem dX6_assignedTo_6 : decode cX6_assignedTo 6 = .ok (.getfield 39, 3) := by decide +kernel
theorem dX6_assignedTo_9 : decode cX6_assignedTo 9 = .ok (.if_icmp .ge 46, 3) := by decide +kernel
theorem dX6_assignedTo_12 : decode cX6_assignedTo 12 = .ok (.aload_n 0, 1) := by decide +kernel
theorem dX6_assignedTo_13 : decode cX6_assignedTo 13 = .ok (.getfield 35, 3) := by decide +kernel
theorem dX6_assignedTo_16 : decode cX6_assignedTo 16 = .ok (.iload_n 3, 1) := by decide +kernel
theorem dX6_assignedTo_17 : decode cX6_assignedTo 17 = .ok (.aaload, 1) := by decide +kernel
theorem dX6_assignedTo_18 : decode cX6_assignedTo 18 = .ok (.astore 4, 2) := by decide +kernel
theorem dX6_assignedTo_20 : decode cX6_assignedTo 20 = .ok (.iload_n 2, 1) := by decide +kernel
theorem dX6_assignedTo_21 : decode cX6_assignedTo 21 = .ok (.aload 4, 2) := by decide +kernel
theorem dX6_assignedTo_23 : decode cX6_assignedTo 23 = .ok (.getfield 113, 3) := by decide +kernel
theorem dX6_assignedTo_26 : decode cX6_assignedTo 26 = .ok (.iconst 1, 1) := by decide +kernel
theorem dX6_assignedTo_27 : decode cX6_assignedTo 27 = .ok (.if_icmp .ne 16, 3) := by decide +kernel
theorem dX6_assignedTo_30 : decode cX6_assignedTo 30 = .ok (.aload 4, 2) := by decide +kernel
theorem dX6_assignedTo_32 : decode cX6_assignedTo 32 = .ok (.getfield 107, 3) := by decide +kernel
theorem dX6_assignedTo_35 : decode cX6_assignedTo 35 = .ok (.iload_n 1, 1) := by decide +kernel
theorem dX6_assignedTo_36 : decode cX6_assignedTo 36 = .ok (.if_icmp .ne 7, 3) := by decide +kernel
theorem dX6_assignedTo_39 : decode cX6_assignedTo 39 = .ok (.iconst 1, 1) := by decide +kernel
theorem dX6_assignedTo_40 : decode cX6_assignedTo 40 = .ok (.goto 4, 3) := by decide +kernel
theorem dX6_assignedTo_43 : decode cX6_assignedTo 43 = .ok (.iconst 0, 1) := by decide +kernel
theorem dX6_assignedTo_44 : decode cX6_assignedTo 44 = .ok (.invokestatic 182, 3) := by decide +kernel
theorem dX6_assignedTo_47 : decode cX6_assignedTo 47 = .ok (.iadd, 1) := by decide +kernel
theorem dX6_assignedTo_48 : decode cX6_assignedTo 48 = .ok (.istore_n 2, 1) := by decide +kernel
theorem dX6_assignedTo_49 : decode cX6_assignedTo 49 = .ok (.iinc 3 1, 3) := by decide +kernel
theorem dX6_assignedTo_52 : decode cX6_assignedTo 52 = .ok (.goto (-48), 3) := by decide +kernel
theorem dX6_assignedTo_55 : decode cX6_assignedTo 55 = .ok (.iload_n 2, 1) := by decide +kernel
theorem dX6_assignedTo_56 : decode cX6_assignedTo 56 = .ok (.ireturn, 1) := by decide +kernel
theorem dX6_proposalsOf_0 : decode cX6_proposalsOf 0 = .ok (.iconst 0, 1) := by decide +kernel
theorem dX6_proposalsOf_1 : decode cX6_proposalsOf 1 = .ok (.istore_n 2, 1) := by decide +kernel
theorem dX6_proposalsOf_2 : decode cX6_proposalsOf 2 = .ok (.aload_n 0, 1) := by decide +kernel
theorem dX6_proposalsOf_3 : decode cX6_proposalsOf 3 = .ok (.getfield 29, 3) := by decide +kernel
theorem dX6_proposalsOf_6 : decode cX6_proposalsOf 6 = .ok (.astore_n 3, 1) := by decide +kernel
theorem dX6_proposalsOf_7 : decode cX6_proposalsOf 7 = .ok (.aload_n 3, 1) := by decide +kernel
theorem dX6_proposalsOf_8 : decode cX6_proposalsOf 8 = .ok (.arraylength, 1) := by decide +kernel
theorem dX6_proposalsOf_9 : decode cX6_proposalsOf 9 = .ok (.istore 4, 2) := by decide +kernel
theorem dX6_proposalsOf_11 : decode cX6_proposalsOf 11 = .ok (.iconst 0, 1) := by decide +kernel
theorem dX6_proposalsOf_12 : decode cX6_proposalsOf 12 = .ok (.istore 5, 2) := by decide +kernel
theorem dX6_proposalsOf_14 : decode cX6_proposalsOf 14 = .ok (.iload 5, 2) := by decide +kernel
theorem dX6_proposalsOf_16 : decode cX6_proposalsOf 16 = .ok (.iload 4, 2) := by decide +kernel
theorem dX6_proposalsOf_18 : decode cX6_proposalsOf 18 = .ok (.if_icmp .ge 37, 3) := by decide +kernel
theorem dX6_proposalsOf_21 : decode cX6_proposalsOf 21 = .ok (.aload_n 3, 1) := by decide +kernel
theorem dX6_proposalsOf_22 : decode cX6_proposalsOf 22 = .ok (.iload 5, 2) := by decide +kernel
theorem dX6_proposalsOf_24 : decode cX6_proposalsOf 24 = .ok (.aaload, 1) := by decide +kernel
theorem dX6_proposalsOf_25 : decode cX6_proposalsOf 25 = .ok (.astore 6, 2) := by decide +kernel
theorem dX6_proposalsOf_27 : decode cX6_proposalsOf 27 = .ok (.iload_n 2, 1) := by decide +kernel
theorem dX6_proposalsOf_28 : decode cX6_proposalsOf 28 = .ok (.aload 6, 2) := by decide +kernel
theorem dX6_proposalsOf_30 : decode cX6_proposalsOf 30 = .ok (.getfield 186, 3) := by decide +kernel
theorem dX6_proposalsOf_33 : decode cX6_proposalsOf 33 = .ok (.iload_n 1, 1) := by decide +kernel
theorem dX6_proposalsOf_34 : decode cX6_proposalsOf 34 = .ok (.iaload, 1) := by decide +kernel
theorem dX6_proposalsOf_35 : decode cX6_proposalsOf 35 = .ok (.iconst (-1), 1) := by decide +kernel
theorem dX6_proposalsOf_36 : decode cX6_proposalsOf 36 = .ok (.if_icmp .eq 7, 3) := by decide +kernel
theorem dX6_proposalsOf_39 : decode cX6_proposalsOf 39 = .ok (.iconst 1, 1) := by decide +kernel
theorem dX6_proposalsOf_40 : decode cX6_proposalsOf 40 = .ok (.goto 4, 3) := by decide +kernel
theorem dX6_proposalsOf_43 : decode cX6_proposalsOf 43 = .ok (.iconst 0, 1) := by decide +kernel
theorem dX6_proposalsOf_44 : decode cX6_proposalsOf 44 = .ok (.invokestatic 182, 3) := by decide +kernel
theorem dX6_proposalsOf_47 : decode cX6_proposalsOf 47 = .ok (.iadd, 1) := by decide +kernel
theorem dX6_proposalsOf_48 : decode cX6_proposalsOf 48 = .ok (.istore_n 2, 1) := by decide +kernel
theorem dX6_proposalsOf_49 : decode cX6_proposalsOf 49 = .ok (.iinc 5 1, 3) := by decide +kernel
theorem dX6_proposalsOf_52 : decode cX6_proposalsOf 52 = .ok (.goto (-38), 3) := by decide +kernel
theorem dX6_proposalsOf_55 : decode cX6_proposalsOf 55 = .ok (.iload_n 2, 1) := by decide +kernel
theorem dX6_proposalsOf_56 : decode cX6_proposalsOf 56 = .ok (.ireturn, 1) := by decide +kernel
theorem dX6_occurrences_0 : decode cX6_occurrences 0 = .ok (.iconst 0, 1) := by decide +kernel
theorem dX6_occurrences_1 : decode cX6_occurrences 1 = .ok (.istore_n 2, 1) := by decide +kernel
theorem dX6_occurrences_2 : decode cX6_occurrences 2 = .ok (.iconst 0, 1) := by decide +kernel
theorem dX6_occurrences_3 : decode cX6_occurrences 3 = .ok (.istore_n 3, 1) := by decide +kernel
theorem dX6_occurrences_4 : decode cX6_occurrences 4 = .ok (.iload_n 3, 1) := by decide +kernel
theorem dX6_occurrences_5 : decode cX6_occurrences 5 = .ok (.aload_n 0, 1) := by decide +kernel
theorem dX6_occurrences_6 : decode cX6_occurrences 6 = .ok (.getfield 39, 3) := by decide +kernel
theorem dX6_occurrences_9 : decode cX6_occurrences 9 = .ok (.if_icmp .ge 29, 3) := by decide +kernel
theorem dX6_occurrences_12 : decode cX6_occurrences 12 = .ok (.iload_n 2, 1) := by decide +kernel
theorem dX6_occurrences_13 : decode cX6_occurrences 13 = .ok (.aload_n 0, 1) := by decide +kernel
theorem dX6_occurrences_14 : decode cX6_occurrences 14 = .ok (.getfield 35, 3) := by decide +kernel
theorem dX6_occurrences_17 : decode cX6_occurrences 17 = .ok (.iload_n 3, 1) := by decide +kernel
theorem dX6_occurrences_18 : decode cX6_occurrences 18 = .ok (.aaload, 1) := by decide +kernel
theorem dX6_occurrences_19 : decode cX6_occurrences 19 = .ok (.getfield 88, 3) := by decide +kernel
theorem dX6_occurrences_22 : decode cX6_occurrences 22 = .ok (.getfield 189, 3) := by decide +kernel
theorem dX6_occurrences_25 : decode cX6_occurrences 25 = .ok (.iload_n 1, 1) := by decide +kernel
theorem dX6_occurrences_26 : decode cX6_occurrences 26 = .ok (.iaload, 1) := by decide +kernel
theorem dX6_occurrences_27 : decode cX6_occurrences 27 = .ok (.invokestatic 192, 3) := by decide +kernel
theorem dX6_occurrences_30 : decode cX6_occurrences 30 = .ok (.iadd, 1) := by decide +kernel
theorem dX6_occurrences_31 : decode cX6_occurrences 31 = .ok (.istore_n 2, 1) := by decide +kernel
theorem dX6_occurrences_32 : decode cX6_occurrences 32 = .ok (.iinc 3 1, 3) := by decide +kernel
theorem dX6_occurrences_35 : decode cX6_occurrences 35 = .ok (.goto (-31), 3) := by decide +kernel
theorem dX6_occurrences_38 : decode cX6_occurrences 38 = .ok (.iload_n 2, 1) := by decide +kernel
theorem dX6_occurrences_39 : decode cX6_occurrences 39 = .ok (.ireturn, 1) := by decide +kernel
theorem dX6_wordsOfAll_0 : decode cX6_wordsOfAll 0 = .ok (.iconst 0, 1) := by decide +kernel
theorem dX6_wordsOfAll_1 : decode cX6_wordsOfAll 1 = .ok (.istore_n 1, 1) := by decide +kernel
theorem dX6_wordsOfAll_2 : decode cX6_wordsOfAll 2 = .ok (.iconst 0, 1) := by decide +kernel
theorem dX6_wordsOfAll_3 : decode cX6_wordsOfAll 3 = .ok (.istore_n 2, 1) := by decide +kernel
theorem dX6_wordsOfAll_4 : decode cX6_wordsOfAll 4 = .ok (.iload_n 2, 1) := by decide +kernel
theorem dX6_wordsOfAll_5 : decode cX6_wordsOfAll 5 = .ok (.aload_n 0, 1) := by decide +kernel
theorem dX6_wordsOfAll_6 : decode cX6_wordsOfAll 6 = .ok (.getfield 39, 3) := by decide +kernel
theorem dX6_wordsOfAll_9 : decode cX6_wordsOfAll 9 = .ok (.if_icmp .ge 24, 3) := by decide +kernel
theorem dX6_wordsOfAll_12 : decode cX6_wordsOfAll 12 = .ok (.iload_n 1, 1) := by decide +kernel
theorem dX6_wordsOfAll_13 : decode cX6_wordsOfAll 13 = .ok (.aload_n 0, 1) := by decide +kernel
theorem dX6_wordsOfAll_14 : decode cX6_wordsOfAll 14 = .ok (.getfield 35, 3) := by decide +kernel
theorem dX6_wordsOfAll_17 : decode cX6_wordsOfAll 17 = .ok (.iload_n 2, 1) := by decide +kernel
theorem dX6_wordsOfAll_18 : decode cX6_wordsOfAll 18 = .ok (.aaload, 1) := by decide +kernel
theorem dX6_wordsOfAll_19 : decode cX6_wordsOfAll 19 = .ok (.getfield 88, 3) := by decide +kernel
theorem dX6_wordsOfAll_22 : decode cX6_wordsOfAll 22 = .ok (.getfield 110, 3) := by decide +kernel
theorem dX6_wordsOfAll_25 : decode cX6_wordsOfAll 25 = .ok (.iadd, 1) := by decide +kernel
theorem dX6_wordsOfAll_26 : decode cX6_wordsOfAll 26 = .ok (.istore_n 1, 1) := by decide +kernel
theorem dX6_wordsOfAll_27 : decode cX6_wordsOfAll 27 = .ok (.iinc 2 1, 3) := by decide +kernel
theorem dX6_wordsOfAll_30 : decode cX6_wordsOfAll 30 = .ok (.goto (-26), 3) := by decide +kernel
theorem dX6_wordsOfAll_33 : decode cX6_wordsOfAll 33 = .ok (.iload_n 1, 1) := by decide +kernel
theorem dX6_wordsOfAll_34 : decode cX6_wordsOfAll 34 = .ok (.ireturn, 1) := by decide +kernel
theorem dX6_deliveredWords_0 : decode cX6_deliveredWords 0 = .ok (.iconst 0, 1) := by decide +kernel
theorem dX6_deliveredWords_1 : decode cX6_deliveredWords 1 = .ok (.istore_n 1, 1) := by decide +kernel
theorem dX6_deliveredWords_2 : decode cX6_deliveredWords 2 = .ok (.aload_n 0, 1) := by decide +kernel
theorem dX6_deliveredWords_3 : decode cX6_deliveredWords 3 = .ok (.getfield 17, 3) := by decide +kernel
theorem dX6_deliveredWords_6 : decode cX6_deliveredWords 6 = .ok (.astore_n 2, 1) := by decide +kernel
theorem dX6_deliveredWords_7 : decode cX6_deliveredWords 7 = .ok (.aload_n 2, 1) := by decide +kernel
theorem dX6_deliveredWords_8 : decode cX6_deliveredWords 8 = .ok (.arraylength, 1) := by decide +kernel
theorem dX6_deliveredWords_9 : decode cX6_deliveredWords 9 = .ok (.istore_n 3, 1) := by decide +kernel
theorem dX6_deliveredWords_10 : decode cX6_deliveredWords 10 = .ok (.iconst 0, 1) := by decide +kernel
theorem dX6_deliveredWords_11 : decode cX6_deliveredWords 11 = .ok (.istore 4, 2) := by decide +kernel
theorem dX6_deliveredWords_13 : decode cX6_deliveredWords 13 = .ok (.iload 4, 2) := by decide +kernel
theorem dX6_deliveredWords_15 : decode cX6_deliveredWords 15 = .ok (.iload_n 3, 1) := by decide +kernel
theorem dX6_deliveredWords_16 : decode cX6_deliveredWords 16 = .ok (.if_icmp .ge 23, 3) := by decide +kernel
theorem dX6_deliveredWords_19 : decode cX6_deliveredWords 19 = .ok (.aload_n 2, 1) := by decide +kernel
theorem dX6_deliveredWords_20 : decode cX6_deliveredWords 20 = .ok (.iload 4, 2) := by decide +kernel
theorem dX6_deliveredWords_22 : decode cX6_deliveredWords 22 = .ok (.aaload, 1) := by decide +kernel
theorem dX6_deliveredWords_23 : decode cX6_deliveredWords 23 = .ok (.astore 5, 2) := by decide +kernel
theorem dX6_deliveredWords_25 : decode cX6_deliveredWords 25 = .ok (.iload_n 1, 1) := by decide +kernel
theorem dX6_deliveredWords_26 : decode cX6_deliveredWords 26 = .ok (.aload 5, 2) := by decide +kernel
theorem dX6_deliveredWords_28 : decode cX6_deliveredWords 28 = .ok (.getfield 128, 3) := by decide +kernel
theorem dX6_deliveredWords_31 : decode cX6_deliveredWords 31 = .ok (.iadd, 1) := by decide +kernel
theorem dX6_deliveredWords_32 : decode cX6_deliveredWords 32 = .ok (.istore_n 1, 1) := by decide +kernel
theorem dX6_deliveredWords_33 : decode cX6_deliveredWords 33 = .ok (.iinc 4 1, 3) := by decide +kernel
theorem dX6_deliveredWords_36 : decode cX6_deliveredWords 36 = .ok (.goto (-23), 3) := by decide +kernel
theorem dX6_deliveredWords_39 : decode cX6_deliveredWords 39 = .ok (.iload_n 1, 1) := by decide +kernel
theorem dX6_deliveredWords_40 : decode cX6_deliveredWords 40 = .ok (.ireturn, 1) := by decide +kernel
theorem dX6_earnedByAll_0 : decode cX6_earnedByAll 0 = .ok (.iconst 0, 1) := by decide +kernel
theorem dX6_earnedByAll_1 : decode cX6_earnedByAll 1 = .ok (.istore_n 1, 1) := by decide +kernel
theorem dX6_earnedByAll_2 : decode cX6_earnedByAll 2 = .ok (.aload_n 0, 1) := by decide +kernel
theorem dX6_earnedByAll_3 : decode cX6_earnedByAll 3 = .ok (.getfield 17, 3) := by decide +kernel
theorem dX6_earnedByAll_6 : decode cX6_earnedByAll 6 = .ok (.astore_n 2, 1) := by decide +kernel
theorem dX6_earnedByAll_7 : decode cX6_earnedByAll 7 = .ok (.aload_n 2, 1) := by decide +kernel
theorem dX6_earnedByAll_8 : decode cX6_earnedByAll 8 = .ok (.arraylength, 1) := by decide +kernel
theorem dX6_earnedByAll_9 : decode cX6_earnedByAll 9 = .ok (.istore_n 3, 1) := by decide +kernel
theorem dX6_earnedByAll_10 : decode cX6_earnedByAll 10 = .ok (.iconst 0, 1) := by decide +kernel
theorem dX6_earnedByAll_11 : decode cX6_earnedByAll 11 = .ok (.istore 4, 2) := by decide +kernel
theorem dX6_earnedByAll_13 : decode cX6_earnedByAll 13 = .ok (.iload 4, 2) := by decide +kernel
theorem dX6_earnedByAll_15 : decode cX6_earnedByAll 15 = .ok (.iload_n 3, 1) := by decide +kernel
theorem dX6_earnedByAll_16 : decode cX6_earnedByAll 16 = .ok (.if_icmp .ge 23, 3) := by decide +kernel
theorem dX6_earnedByAll_19 : decode cX6_earnedByAll 19 = .ok (.aload_n 2, 1) := by decide +kernel
theorem dX6_earnedByAll_20 : decode cX6_earnedByAll 20 = .ok (.iload 4, 2) := by decide +kernel
theorem dX6_earnedByAll_22 : decode cX6_earnedByAll 22 = .ok (.aaload, 1) := by decide +kernel
theorem dX6_earnedByAll_23 : decode cX6_earnedByAll 23 = .ok (.astore 5, 2) := by decide +kernel
theorem dX6_earnedByAll_25 : decode cX6_earnedByAll 25 = .ok (.iload_n 1, 1) := by decide +kernel
theorem dX6_earnedByAll_26 : decode cX6_earnedByAll 26 = .ok (.aload 5, 2) := by decide +kernel
theorem dX6_earnedByAll_28 : decode cX6_earnedByAll 28 = .ok (.getfield 125, 3) := by decide +kernel
theorem dX6_earnedByAll_31 : decode cX6_earnedByAll 31 = .ok (.iadd, 1) := by decide +kernel
theorem dX6_earnedByAll_32 : decode cX6_earnedByAll 32 = .ok (.istore_n 1, 1) := by decide +kernel
theorem dX6_earnedByAll_33 : decode cX6_earnedByAll 33 = .ok (.iinc 4 1, 3) := by decide +kernel
theorem dX6_earnedByAll_36 : decode cX6_earnedByAll 36 = .ok (.goto (-23), 3) := by decide +kernel
theorem dX6_earnedByAll_39 : decode cX6_earnedByAll 39 = .ok (.iload_n 1, 1) := by decide +kernel
theorem dX6_earnedByAll_40 : decode cX6_earnedByAll 40 = .ok (.ireturn, 1) := by decide +kernel
theorem dX6_disputedWords_0 : decode cX6_disputedWords 0 = .ok (.iconst 0, 1) := by decide +kernel
theorem dX6_disputedWords_1 : decode cX6_disputedWords 1 = .ok (.istore_n 1, 1) := by decide +kernel
theorem dX6_disputedWords_2 : decode cX6_disputedWords 2 = .ok (.aload_n 0, 1) := by decide +kernel
theorem dX6_disputedWords_3 : decode cX6_disputedWords 3 = .ok (.getfield 29, 3) := by decide +kernel
theorem dX6_disputedWords_6 : decode cX6_disputedWords 6 = .ok (.astore_n 2, 1) := by decide +kernel
theorem dX6_disputedWords_7 : decode cX6_disputedWords 7 = .ok (.aload_n 2, 1) := by decide +kernel
theorem dX6_disputedWords_8 : decode cX6_disputedWords 8 = .ok (.arraylength, 1) := by decide +kernel
theorem dX6_disputedWords_9 : decode cX6_disputedWords 9 = .ok (.istore_n 3, 1) := by decide +kernel
theorem dX6_disputedWords_10 : decode cX6_disputedWords 10 = .ok (.iconst 0, 1) := by decide +kernel
theorem dX6_disputedWords_11 : decode cX6_disputedWords 11 = .ok (.istore 4, 2) := by decide +kernel
theorem dX6_disputedWords_13 : decode cX6_disputedWords 13 = .ok (.iload 4, 2) := by decide +kernel
theorem dX6_disputedWords_15 : decode cX6_disputedWords 15 = .ok (.iload_n 3, 1) := by decide +kernel
theorem dX6_disputedWords_16 : decode cX6_disputedWords 16 = .ok (.if_icmp .ge 26, 3) := by decide +kernel
theorem dX6_disputedWords_19 : decode cX6_disputedWords 19 = .ok (.aload_n 2, 1) := by decide +kernel
theorem dX6_disputedWords_20 : decode cX6_disputedWords 20 = .ok (.iload 4, 2) := by decide +kernel
theorem dX6_disputedWords_22 : decode cX6_disputedWords 22 = .ok (.aaload, 1) := by decide +kernel
theorem dX6_disputedWords_23 : decode cX6_disputedWords 23 = .ok (.astore 5, 2) := by decide +kernel
theorem dX6_disputedWords_25 : decode cX6_disputedWords 25 = .ok (.iload_n 1, 1) := by decide +kernel
theorem dX6_disputedWords_26 : decode cX6_disputedWords 26 = .ok (.aload 5, 2) := by decide +kernel
theorem dX6_disputedWords_28 : decode cX6_disputedWords 28 = .ok (.invokevirtual 178, 3) := by decide +kernel
theorem dX6_disputedWords_31 : decode cX6_disputedWords 31 = .ok (.invokestatic 182, 3) := by decide +kernel
theorem dX6_disputedWords_34 : decode cX6_disputedWords 34 = .ok (.iadd, 1) := by decide +kernel
theorem dX6_disputedWords_35 : decode cX6_disputedWords 35 = .ok (.istore_n 1, 1) := by decide +kernel
theorem dX6_disputedWords_36 : decode cX6_disputedWords 36 = .ok (.iinc 4 1, 3) := by decide +kernel
theorem dX6_disputedWords_39 : decode cX6_disputedWords 39 = .ok (.goto (-26), 3) := by decide +kernel
theorem dX6_disputedWords_42 : decode cX6_disputedWords 42 = .ok (.iload_n 1, 1) := by decide +kernel
theorem dX6_disputedWords_43 : decode cX6_disputedWords 43 = .ok (.ireturn, 1) := by decide +kernel
theorem dX6_ruledWords_0 : decode cX6_ruledWords 0 = .ok (.iconst 0, 1) := by decide +kernel
theorem dX6_ruledWords_1 : decode cX6_ruledWords 1 = .ok (.istore_n 1, 1) := by decide +kernel
theorem dX6_ruledWords_2 : decode cX6_ruledWords 2 = .ok (.aload_n 0, 1) := by decide +kernel
theorem dX6_ruledWords_3 : decode cX6_ruledWords 3 = .ok (.getfield 29, 3) := by decide +kernel
theorem dX6_ruledWords_6 : decode cX6_ruledWords 6 = .ok (.astore_n 2, 1) := by decide +kernel
theorem dX6_ruledWords_7 : decode cX6_ruledWords 7 = .ok (.aload_n 2, 1) := by decide +kernel
theorem dX6_ruledWords_8 : decode cX6_ruledWords 8 = .ok (.arraylength, 1) := by decide +kernel
theorem dX6_ruledWords_9 : decode cX6_ruledWords 9 = .ok (.istore_n 3, 1) := by decide +kernel
theorem dX6_ruledWords_10 : decode cX6_ruledWords 10 = .ok (.iconst 0, 1) := by decide +kernel
theorem dX6_ruledWords_11 : decode cX6_ruledWords 11 = .ok (.istore 4, 2) := by decide +kernel
theorem dX6_ruledWords_13 : decode cX6_ruledWords 13 = .ok (.iload 4, 2) := by decide +kernel
theorem dX6_ruledWords_15 : decode cX6_ruledWords 15 = .ok (.iload_n 3, 1) := by decide +kernel
theorem dX6_ruledWords_16 : decode cX6_ruledWords 16 = .ok (.if_icmp .ge 35, 3) := by decide +kernel
theorem dX6_ruledWords_19 : decode cX6_ruledWords 19 = .ok (.aload_n 2, 1) := by decide +kernel
theorem dX6_ruledWords_20 : decode cX6_ruledWords 20 = .ok (.iload 4, 2) := by decide +kernel
theorem dX6_ruledWords_22 : decode cX6_ruledWords 22 = .ok (.aaload, 1) := by decide +kernel
theorem dX6_ruledWords_23 : decode cX6_ruledWords 23 = .ok (.astore 5, 2) := by decide +kernel
theorem dX6_ruledWords_25 : decode cX6_ruledWords 25 = .ok (.iload_n 1, 1) := by decide +kernel
theorem dX6_ruledWords_26 : decode cX6_ruledWords 26 = .ok (.aload 5, 2) := by decide +kernel
theorem dX6_ruledWords_28 : decode cX6_ruledWords 28 = .ok (.getfield 197, 3) := by decide +kernel
theorem dX6_ruledWords_31 : decode cX6_ruledWords 31 = .ok (.iconst (-1), 1) := by decide +kernel
theorem dX6_ruledWords_32 : decode cX6_ruledWords 32 = .ok (.if_icmp .eq 7, 3) := by decide +kernel
theorem dX6_ruledWords_35 : decode cX6_ruledWords 35 = .ok (.iconst 1, 1) := by decide +kernel
theorem dX6_ruledWords_36 : decode cX6_ruledWords 36 = .ok (.goto 4, 3) := by decide +kernel
theorem dX6_ruledWords_39 : decode cX6_ruledWords 39 = .ok (.iconst 0, 1) := by decide +kernel
theorem dX6_ruledWords_40 : decode cX6_ruledWords 40 = .ok (.invokestatic 182, 3) := by decide +kernel
theorem dX6_ruledWords_43 : decode cX6_ruledWords 43 = .ok (.iadd, 1) := by decide +kernel
theorem dX6_ruledWords_44 : decode cX6_ruledWords 44 = .ok (.istore_n 1, 1) := by decide +kernel
theorem dX6_ruledWords_45 : decode cX6_ruledWords 45 = .ok (.iinc 4 1, 3) := by decide +kernel
theorem dX6_ruledWords_48 : decode cX6_ruledWords 48 = .ok (.goto (-35), 3) := by decide +kernel
theorem dX6_ruledWords_51 : decode cX6_ruledWords 51 = .ok (.iload_n 1, 1) := by decide +kernel
theorem dX6_ruledWords_52 : decode cX6_ruledWords 52 = .ok (.ireturn, 1) := by decide +kernel
theorem dX7_init_0 : decode cX7_init 0 = .ok (.aload_n 0, 1) := by decide +kernel
theorem dX7_init_1 : decode cX7_init 1 = .ok (.invokespecial 3, 3) := by decide +kernel
theorem dX7_init_4 : decode cX7_init 4 = .ok (.aload_n 0, 1) := by decide +kernel
theorem dX7_init_5 : decode cX7_init 5 = .ok (.iconst 4, 1) := by decide +kernel
theorem dX7_init_6 : decode cX7_init 6 = .ok (.newarray .int, 2) := by decide +kernel
theorem dX7_init_8 : decode cX7_init 8 = .ok (.dup, 1) := by decide +kernel
theorem dX7_init_9 : decode cX7_init 9 = .ok (.iconst 0, 1) := by decide +kernel
theorem dX7_init_10 : decode cX7_init 10 = .ok (.iconst (-1), 1) := by decide +kernel
theorem dX7_init_11 : decode cX7_init 11 = .ok (.iastore, 1) := by decide +kernel
theorem dX7_init_12 : decode cX7_init 12 = .ok (.dup, 1) := by decide +kernel
theorem dX7_init_13 : decode cX7_init 13 = .ok (.iconst 1, 1) := by decide +kernel
theorem dX7_init_14 : decode cX7_init 14 = .ok (.iconst (-1), 1) := by decide +kernel
theorem dX7_init_15 : decode cX7_init 15 = .ok (.iastore, 1) := by decide +kernel
theorem dX7_init_16 : decode cX7_init 16 = .ok (.dup, 1) := by decide +kernel
theorem dX7_init_17 : decode cX7_init 17 = .ok (.iconst 2, 1) := by decide +kernel
theorem dX7_init_18 : decode cX7_init 18 = .ok (.iconst (-1), 1) := by decide +kernel
theorem dX7_init_19 : decode cX7_init 19 = .ok (.iastore, 1) := by decide +kernel
theorem dX7_init_20 : decode cX7_init 20 = .ok (.dup, 1) := by decide +kernel
theorem dX7_init_21 : decode cX7_init 21 = .ok (.iconst 3, 1) := by decide +kernel
theorem dX7_init_22 : decode cX7_init 22 = .ok (.iconst (-1), 1) := by decide +kernel
theorem dX7_init_23 : decode cX7_init 23 = .ok (.iastore, 1) := by decide +kernel
theorem dX7_init_24 : decode cX7_init 24 = .ok (.putfield 9, 3) := by decide +kernel
theorem dX7_init_27 : decode cX7_init 27 = .ok (.aload_n 0, 1) := by decide +kernel
theorem dX7_init_28 : decode cX7_init 28 = .ok (.iconst (-1), 1) := by decide +kernel
theorem dX7_init_29 : decode cX7_init 29 = .ok (.putfield 15, 3) := by decide +kernel
theorem dX7_init_32 : decode cX7_init 32 = .ok (.return_, 1) := by decide +kernel
theorem dX7_isProposed_0 : decode cX7_isProposed 0 = .ok (.aload_n 0, 1) := by decide +kernel
theorem dX7_isProposed_1 : decode cX7_isProposed 1 = .ok (.getfield 9, 3) := by decide +kernel
theorem dX7_isProposed_4 : decode cX7_isProposed 4 = .ok (.astore_n 2, 1) := by decide +kernel
theorem dX7_isProposed_5 : decode cX7_isProposed 5 = .ok (.aload_n 2, 1) := by decide +kernel
theorem dX7_isProposed_6 : decode cX7_isProposed 6 = .ok (.arraylength, 1) := by decide +kernel
theorem dX7_isProposed_7 : decode cX7_isProposed 7 = .ok (.istore_n 3, 1) := by decide +kernel
theorem dX7_isProposed_8 : decode cX7_isProposed 8 = .ok (.iconst 0, 1) := by decide +kernel
theorem dX7_isProposed_9 : decode cX7_isProposed 9 = .ok (.istore 4, 2) := by decide +kernel
theorem dX7_isProposed_11 : decode cX7_isProposed 11 = .ok (.iload 4, 2) := by decide +kernel
theorem dX7_isProposed_13 : decode cX7_isProposed 13 = .ok (.iload_n 3, 1) := by decide +kernel
theorem dX7_isProposed_14 : decode cX7_isProposed 14 = .ok (.if_icmp .ge 23, 3) := by decide +kernel
theorem dX7_isProposed_17 : decode cX7_isProposed 17 = .ok (.aload_n 2, 1) := by decide +kernel
theorem dX7_isProposed_18 : decode cX7_isProposed 18 = .ok (.iload 4, 2) := by decide +kernel
theorem dX7_isProposed_20 : decode cX7_isProposed 20 = .ok (.iaload, 1) := by decide +kernel
theorem dX7_isProposed_21 : decode cX7_isProposed 21 = .ok (.istore 5, 2) := by decide +kernel
theorem dX7_isProposed_23 : decode cX7_isProposed 23 = .ok (.iload 5, 2) := by decide +kernel
theorem dX7_isProposed_25 : decode cX7_isProposed 25 = .ok (.iload_n 1, 1) := by decide +kernel
theorem dX7_isProposed_26 : decode cX7_isProposed 26 = .ok (.if_icmp .ne 5, 3) := by decide +kernel
theorem dX7_isProposed_29 : decode cX7_isProposed 29 = .ok (.iconst 1, 1) := by decide +kernel
theorem dX7_isProposed_30 : decode cX7_isProposed 30 = .ok (.ireturn, 1) := by decide +kernel
theorem dX7_isProposed_31 : decode cX7_isProposed 31 = .ok (.iinc 4 1, 3) := by decide +kernel
theorem dX7_isProposed_34 : decode cX7_isProposed 34 = .ok (.goto (-23), 3) := by decide +kernel
theorem dX7_isProposed_37 : decode cX7_isProposed 37 = .ok (.iconst 0, 1) := by decide +kernel
theorem dX7_isProposed_38 : decode cX7_isProposed 38 = .ok (.ireturn, 1) := by decide +kernel
theorem dX7_otherProposals_0 : decode cX7_otherProposals 0 = .ok (.iconst 0, 1) := by decide +kernel
theorem dX7_otherProposals_1 : decode cX7_otherProposals 1 = .ok (.istore_n 2, 1) := by decide +kernel
theorem dX7_otherProposals_2 : decode cX7_otherProposals 2 = .ok (.aload_n 0, 1) := by decide +kernel
theorem dX7_otherProposals_3 : decode cX7_otherProposals 3 = .ok (.getfield 9, 3) := by decide +kernel
theorem dX7_otherProposals_6 : decode cX7_otherProposals 6 = .ok (.astore_n 3, 1) := by decide +kernel
theorem dX7_otherProposals_7 : decode cX7_otherProposals 7 = .ok (.aload_n 3, 1) := by decide +kernel
theorem dX7_otherProposals_8 : decode cX7_otherProposals 8 = .ok (.arraylength, 1) := by decide +kernel
theorem dX7_otherProposals_9 : decode cX7_otherProposals 9 = .ok (.istore 4, 2) := by decide +kernel
theorem dX7_otherProposals_11 : decode cX7_otherProposals 11 = .ok (.iconst 0, 1) := by decide +kernel
theorem dX7_otherProposals_12 : decode cX7_otherProposals 12 = .ok (.istore 5, 2) := by decide +kernel
theorem dX7_otherProposals_14 : decode cX7_otherProposals 14 = .ok (.iload 5, 2) := by decide +kernel
theorem dX7_otherProposals_16 : decode cX7_otherProposals 16 = .ok (.iload 4, 2) := by decide +kernel
theorem dX7_otherProposals_18 : decode cX7_otherProposals 18 = .ok (.if_icmp .ge 38, 3) := by decide +kernel
theorem dX7_otherProposals_21 : decode cX7_otherProposals 21 = .ok (.aload_n 3, 1) := by decide +kernel
theorem dX7_otherProposals_22 : decode cX7_otherProposals 22 = .ok (.iload 5, 2) := by decide +kernel
theorem dX7_otherProposals_24 : decode cX7_otherProposals 24 = .ok (.iaload, 1) := by decide +kernel
theorem dX7_otherProposals_25 : decode cX7_otherProposals 25 = .ok (.istore 6, 2) := by decide +kernel
theorem dX7_otherProposals_27 : decode cX7_otherProposals 27 = .ok (.iload_n 2, 1) := by decide +kernel
theorem dX7_otherProposals_28 : decode cX7_otherProposals 28 = .ok (.iload 6, 2) := by decide +kernel
theorem dX7_otherProposals_30 : decode cX7_otherProposals 30 = .ok (.iconst (-1), 1) := by decide +kernel
theorem dX7_otherProposals_31 : decode cX7_otherProposals 31 = .ok (.if_icmp .eq 13, 3) := by decide +kernel
theorem dX7_otherProposals_34 : decode cX7_otherProposals 34 = .ok (.iload 6, 2) := by decide +kernel
theorem dX7_otherProposals_36 : decode cX7_otherProposals 36 = .ok (.iload_n 1, 1) := by decide +kernel
theorem dX7_otherProposals_37 : decode cX7_otherProposals 37 = .ok (.if_icmp .eq 7, 3) := by decide +kernel
theorem dX7_otherProposals_40 : decode cX7_otherProposals 40 = .ok (.iconst 1, 1) := by decide +kernel
theorem dX7_otherProposals_41 : decode cX7_otherProposals 41 = .ok (.goto 4, 3) := by decide +kernel
theorem dX7_otherProposals_44 : decode cX7_otherProposals 44 = .ok (.iconst 0, 1) := by decide +kernel
theorem dX7_otherProposals_45 : decode cX7_otherProposals 45 = .ok (.invokestatic 19, 3) := by decide +kernel
theorem dX7_otherProposals_48 : decode cX7_otherProposals 48 = .ok (.iadd, 1) := by decide +kernel
theorem dX7_otherProposals_49 : decode cX7_otherProposals 49 = .ok (.istore_n 2, 1) := by decide +kernel
theorem dX7_otherProposals_50 : decode cX7_otherProposals 50 = .ok (.iinc 5 1, 3) := by decide +kernel
theorem dX7_otherProposals_53 : decode cX7_otherProposals 53 = .ok (.goto (-39), 3) := by decide +kernel
theorem dX7_otherProposals_56 : decode cX7_otherProposals 56 = .ok (.iload_n 2, 1) := by decide +kernel
theorem dX7_otherProposals_57 : decode cX7_otherProposals 57 = .ok (.ireturn, 1) := by decide +kernel
theorem dX7_unlikeProposals_0 : decode cX7_unlikeProposals 0 = .ok (.iconst 0, 1) := by decide +kernel
theorem dX7_unlikeProposals_1 : decode cX7_unlikeProposals 1 = .ok (.istore_n 1, 1) := by decide +kernel
theorem dX7_unlikeProposals_2 : decode cX7_unlikeProposals 2 = .ok (.iconst 0, 1) := by decide +kernel
theorem dX7_unlikeProposals_3 : decode cX7_unlikeProposals 3 = .ok (.istore_n 2, 1) := by decide +kernel
theorem dX7_unlikeProposals_4 : decode cX7_unlikeProposals 4 = .ok (.iload_n 2, 1) := by decide +kernel
theorem dX7_unlikeProposals_5 : decode cX7_unlikeProposals 5 = .ok (.bipush 9, 2) := by decide +kernel
theorem dX7_unlikeProposals_7 : decode cX7_unlikeProposals 7 = .ok (.if_icmp .gt 20, 3) := by decide +kernel
theorem dX7_unlikeProposals_10 : decode cX7_unlikeProposals 10 = .ok (.iload_n 1, 1) := by decide +kernel
theorem dX7_unlikeProposals_11 : decode cX7_unlikeProposals 11 = .ok (.aload_n 0, 1) := by decide +kernel
theorem dX7_unlikeProposals_12 : decode cX7_unlikeProposals 12 = .ok (.iload_n 2, 1) := by decide +kernel
theorem dX7_unlikeProposals_13 : decode cX7_unlikeProposals 13 = .ok (.invokevirtual 23, 3) := by decide +kernel
theorem dX7_unlikeProposals_16 : decode cX7_unlikeProposals 16 = .ok (.invokestatic 19, 3) := by decide +kernel
theorem dX7_unlikeProposals_19 : decode cX7_unlikeProposals 19 = .ok (.iadd, 1) := by decide +kernel
theorem dX7_unlikeProposals_20 : decode cX7_unlikeProposals 20 = .ok (.istore_n 1, 1) := by decide +kernel
theorem dX7_unlikeProposals_21 : decode cX7_unlikeProposals 21 = .ok (.iinc 2 1, 3) := by decide +kernel
theorem dX7_unlikeProposals_24 : decode cX7_unlikeProposals 24 = .ok (.goto (-20), 3) := by decide +kernel
theorem dX7_unlikeProposals_27 : decode cX7_unlikeProposals 27 = .ok (.iload_n 1, 1) := by decide +kernel
theorem dX7_unlikeProposals_28 : decode cX7_unlikeProposals 28 = .ok (.ireturn, 1) := by decide +kernel
theorem dX7_isDisputed_0 : decode cX7_isDisputed 0 = .ok (.aload_n 0, 1) := by decide +kernel
theorem dX7_isDisputed_1 : decode cX7_isDisputed 1 = .ok (.getfield 15, 3) := by decide +kernel
theorem dX7_isDisputed_4 : decode cX7_isDisputed 4 = .ok (.iconst (-1), 1) := by decide +kernel
theorem dX7_isDisputed_5 : decode cX7_isDisputed 5 = .ok (.if_icmp .ne 15, 3) := by decide +kernel
theorem dX7_isDisputed_8 : decode cX7_isDisputed 8 = .ok (.aload_n 0, 1) := by decide +kernel
theorem dX7_isDisputed_9 : decode cX7_isDisputed 9 = .ok (.invokevirtual 27, 3) := by decide +kernel
theorem dX7_isDisputed_12 : decode cX7_isDisputed 12 = .ok (.iconst 1, 1) := by decide +kernel
theorem dX7_isDisputed_13 : decode cX7_isDisputed 13 = .ok (.if_icmp .le 7, 3) := by decide +kernel
theorem dX7_isDisputed_16 : decode cX7_isDisputed 16 = .ok (.iconst 1, 1) := by decide +kernel
theorem dX7_isDisputed_17 : decode cX7_isDisputed 17 = .ok (.goto 4, 3) := by decide +kernel
theorem dX7_isDisputed_20 : decode cX7_isDisputed 20 = .ok (.iconst 0, 1) := by decide +kernel
theorem dX7_isDisputed_21 : decode cX7_isDisputed 21 = .ok (.ireturn, 1) := by decide +kernel
theorem dX7_copyFrom_0 : decode cX7_copyFrom 0 = .ok (.aload_n 1, 1) := by decide +kernel
theorem dX7_copyFrom_1 : decode cX7_copyFrom 1 = .ok (.getfield 9, 3) := by decide +kernel
theorem dX7_copyFrom_4 : decode cX7_copyFrom 4 = .ok (.iconst 0, 1) := by decide +kernel
theorem dX7_copyFrom_5 : decode cX7_copyFrom 5 = .ok (.aload_n 0, 1) := by decide +kernel
theorem dX7_copyFrom_6 : decode cX7_copyFrom 6 = .ok (.getfield 9, 3) := by decide +kernel
theorem dX7_copyFrom_9 : decode cX7_copyFrom 9 = .ok (.iconst 0, 1) := by decide +kernel
theorem dX7_copyFrom_10 : decode cX7_copyFrom 10 = .ok (.iconst 4, 1) := by decide +kernel
theorem dX7_copyFrom_11 : decode cX7_copyFrom 11 = .ok (.invokestatic 31, 3) := by decide +kernel
theorem dX7_copyFrom_14 : decode cX7_copyFrom 14 = .ok (.aload_n 0, 1) := by decide +kernel
theorem dX7_copyFrom_15 : decode cX7_copyFrom 15 = .ok (.aload_n 1, 1) := by decide +kernel
theorem dX7_copyFrom_16 : decode cX7_copyFrom 16 = .ok (.getfield 15, 3) := by decide +kernel
theorem dX7_copyFrom_19 : decode cX7_copyFrom 19 = .ok (.putfield 15, 3) := by decide +kernel
theorem dX7_copyFrom_22 : decode cX7_copyFrom 22 = .ok (.return_, 1) := by decide +kernel
theorem dX8_init_0 : decode cX8_init 0 = .ok (.aload_n 0, 1) := by decide +kernel
theorem dX8_init_1 : decode cX8_init 1 = .ok (.invokespecial 3, 3) := by decide +kernel
theorem dX8_init_4 : decode cX8_init 4 = .ok (.aload_n 0, 1) := by decide +kernel
theorem dX8_init_5 : decode cX8_init 5 = .ok (.bipush 10, 2) := by decide +kernel
theorem dX8_init_7 : decode cX8_init 7 = .ok (.putfield 9, 3) := by decide +kernel
theorem dX8_init_10 : decode cX8_init 10 = .ok (.aload_n 0, 1) := by decide +kernel
theorem dX8_init_11 : decode cX8_init 11 = .ok (.iconst 0, 1) := by decide +kernel
theorem dX8_init_12 : decode cX8_init 12 = .ok (.putfield 15, 3) := by decide +kernel
theorem dX8_init_15 : decode cX8_init 15 = .ok (.aload_n 0, 1) := by decide +kernel
theorem dX8_init_16 : decode cX8_init 16 = .ok (.iconst 0, 1) := by decide +kernel
theorem dX8_init_17 : decode cX8_init 17 = .ok (.putfield 18, 3) := by decide +kernel
theorem dX8_init_20 : decode cX8_init 20 = .ok (.aload_n 0, 1) := by decide +kernel
theorem dX8_init_21 : decode cX8_init 21 = .ok (.iconst 0, 1) := by decide +kernel
theorem dX8_init_22 : decode cX8_init 22 = .ok (.putfield 21, 3) := by decide +kernel
theorem dX8_init_25 : decode cX8_init 25 = .ok (.aload_n 0, 1) := by decide +kernel
theorem dX8_init_26 : decode cX8_init 26 = .ok (.iconst 0, 1) := by decide +kernel
theorem dX8_init_27 : decode cX8_init 27 = .ok (.putfield 24, 3) := by decide +kernel
theorem dX8_init_30 : decode cX8_init 30 = .ok (.return_, 1) := by decide +kernel
theorem dX8_copyFrom_0 : decode cX8_copyFrom 0 = .ok (.aload_n 0, 1) := by decide +kernel
theorem dX8_copyFrom_1 : decode cX8_copyFrom 1 = .ok (.aload_n 1, 1) := by decide +kernel
theorem dX8_copyFrom_2 : decode cX8_copyFrom 2 = .ok (.getfield 9, 3) := by decide +kernel
theorem dX8_copyFrom_5 : decode cX8_copyFrom 5 = .ok (.putfield 9, 3) := by decide +kernel
theorem dX8_copyFrom_8 : decode cX8_copyFrom 8 = .ok (.aload_n 0, 1) := by decide +kernel
theorem dX8_copyFrom_9 : decode cX8_copyFrom 9 = .ok (.aload_n 1, 1) := by decide +kernel
theorem dX8_copyFrom_10 : decode cX8_copyFrom 10 = .ok (.getfield 15, 3) := by decide +kernel
theorem dX8_copyFrom_13 : decode cX8_copyFrom 13 = .ok (.putfield 15, 3) := by decide +kernel
theorem dX8_copyFrom_16 : decode cX8_copyFrom 16 = .ok (.aload_n 0, 1) := by decide +kernel
theorem dX8_copyFrom_17 : decode cX8_copyFrom 17 = .ok (.aload_n 1, 1) := by decide +kernel
theorem dX8_copyFrom_18 : decode cX8_copyFrom 18 = .ok (.getfield 18, 3) := by decide +kernel
theorem dX8_copyFrom_21 : decode cX8_copyFrom 21 = .ok (.putfield 18, 3) := by decide +kernel
theorem dX8_copyFrom_24 : decode cX8_copyFrom 24 = .ok (.aload_n 0, 1) := by decide +kernel
theorem dX8_copyFrom_25 : decode cX8_copyFrom 25 = .ok (.aload_n 1, 1) := by decide +kernel
theorem dX8_copyFrom_26 : decode cX8_copyFrom 26 = .ok (.getfield 21, 3) := by decide +kernel
theorem dX8_copyFrom_29 : decode cX8_copyFrom 29 = .ok (.putfield 21, 3) := by decide +kernel
theorem dX8_copyFrom_32 : decode cX8_copyFrom 32 = .ok (.aload_n 0, 1) := by decide +kernel
theorem dX8_copyFrom_33 : decode cX8_copyFrom 33 = .ok (.aload_n 1, 1) := by decide +kernel
theorem dX8_copyFrom_34 : decode cX8_copyFrom 34 = .ok (.getfield 24, 3) := by decide +kernel
theorem dX8_copyFrom_37 : decode cX8_copyFrom 37 = .ok (.putfield 24, 3) := by decide +kernel
theorem dX8_copyFrom_40 : decode cX8_copyFrom 40 = .ok (.return_, 1) := by decide +kernel
theorem dX9_init_0 : decode cX9_init 0 = .ok (.aload_n 0, 1) := by decide +kernel
theorem dX9_init_1 : decode cX9_init 1 = .ok (.invokespecial 1, 3) := by decide +kernel
theorem dX9_init_4 : decode cX9_init 4 = .ok (.aload_n 0, 1) := by decide +kernel
theorem dX9_init_5 : decode cX9_init 5 = .ok (.new 7, 3) := by decide +kernel
theorem dX9_init_8 : decode cX9_init 8 = .ok (.dup, 1) := by decide +kernel
theorem dX9_init_9 : decode cX9_init 9 = .ok (.invokespecial 9, 3) := by decide +kernel
theorem dX9_init_12 : decode cX9_init 12 = .ok (.putfield 10, 3) := by decide +kernel
theorem dX9_init_15 : decode cX9_init 15 = .ok (.aload_n 0, 1) := by decide +kernel
theorem dX9_init_16 : decode cX9_init 16 = .ok (.new 16, 3) := by decide +kernel
theorem dX9_init_19 : decode cX9_init 19 = .ok (.dup, 1) := by decide +kernel
theorem dX9_init_20 : decode cX9_init 20 = .ok (.invokespecial 18, 3) := by decide +kernel
theorem dX9_init_23 : decode cX9_init 23 = .ok (.putfield 19, 3) := by decide +kernel
theorem dX9_init_26 : decode cX9_init 26 = .ok (.aload_n 0, 1) := by decide +kernel
theorem dX9_init_27 : decode cX9_init 27 = .ok (.new 23, 3) := by decide +kernel
theorem dX9_init_30 : decode cX9_init 30 = .ok (.dup, 1) := by decide +kernel
theorem dX9_init_31 : decode cX9_init 31 = .ok (.invokespecial 25, 3) := by decide +kernel
theorem dX9_init_34 : decode cX9_init 34 = .ok (.putfield 26, 3) := by decide +kernel
theorem dX9_init_37 : decode cX9_init 37 = .ok (.return_, 1) := by decide +kernel
theorem dX9_rate_0 : decode cX9_rate 0 = .ok (.iload_n 1, 1) := by decide +kernel
theorem dX9_rate_1 : decode cX9_rate 1 = .ok (.iconst 4, 1) := by decide +kernel
theorem dX9_rate_2 : decode cX9_rate 2 = .ok (.invokestatic 30, 3) := by decide +kernel
theorem dX9_rate_5 : decode cX9_rate 5 = .ok (.iload_n 2, 1) := by decide +kernel
theorem dX9_rate_6 : decode cX9_rate 6 = .ok (.iconst 1, 1) := by decide +kernel
theorem dX9_rate_7 : decode cX9_rate 7 = .ok (.bipush 99, 2) := by decide +kernel
theorem dX9_rate_9 : decode cX9_rate 9 = .ok (.invokestatic 34, 3) := by decide +kernel
theorem dX9_rate_12 : decode cX9_rate 12 = .ok (.aload_n 0, 1) := by decide +kernel
theorem dX9_rate_13 : decode cX9_rate 13 = .ok (.getfield 19, 3) := by decide +kernel
theorem dX9_rate_16 : decode cX9_rate 16 = .ok (.aload_n 0, 1) := by decide +kernel
theorem dX9_rate_17 : decode cX9_rate 17 = .ok (.getfield 10, 3) := by decide +kernel
theorem dX9_rate_20 : decode cX9_rate 20 = .ok (.invokevirtual 38, 3) := by decide +kernel
theorem dX9_rate_23 : decode cX9_rate 23 = .ok (.aload_n 0, 1) := by decide +kernel
theorem dX9_rate_24 : decode cX9_rate 24 = .ok (.getfield 10, 3) := by decide +kernel
theorem dX9_rate_27 : decode cX9_rate 27 = .ok (.getfield 42, 3) := by decide +kernel
theorem dX9_rate_30 : decode cX9_rate 30 = .ok (.iload_n 1, 1) := by decide +kernel
theorem dX9_rate_31 : decode cX9_rate 31 = .ok (.aaload, 1) := by decide +kernel
theorem dX9_rate_32 : decode cX9_rate 32 = .ok (.astore_n 3, 1) := by decide +kernel
theorem dX9_rate_33 : decode cX9_rate 33 = .ok (.aload_n 3, 1) := by decide +kernel
theorem dX9_rate_34 : decode cX9_rate 34 = .ok (.getfield 46, 3) := by decide +kernel
theorem dX9_rate_37 : decode cX9_rate 37 = .ok (.istore 4, 2) := by decide +kernel
theorem dX9_rate_39 : decode cX9_rate 39 = .ok (.aload_n 3, 1) := by decide +kernel
theorem dX9_rate_40 : decode cX9_rate 40 = .ok (.iload_n 2, 1) := by decide +kernel
theorem dX9_rate_41 : decode cX9_rate 41 = .ok (.putfield 46, 3) := by decide +kernel
theorem dX9_rate_44 : decode cX9_rate 44 = .ok (.iload 4, 2) := by decide +kernel
theorem dX9_rate_46 : decode cX9_rate 46 = .ok (.ireturn, 1) := by decide +kernel
theorem dX9_pays_0 : decode cX9_pays 0 = .ok (.iload_n 1, 1) := by decide +kernel
theorem dX9_pays_1 : decode cX9_pays 1 = .ok (.iconst 5, 1) := by decide +kernel
theorem dX9_pays_2 : decode cX9_pays 2 = .ok (.invokestatic 30, 3) := by decide +kernel
theorem dX9_pays_5 : decode cX9_pays 5 = .ok (.iload_n 2, 1) := by decide +kernel
theorem dX9_pays_6 : decode cX9_pays 6 = .ok (.iconst 0, 1) := by decide +kernel
theorem dX9_pays_7 : decode cX9_pays 7 = .ok (.bipush 100, 2) := by decide +kernel
theorem dX9_pays_9 : decode cX9_pays 9 = .ok (.invokestatic 34, 3) := by decide +kernel
theorem dX9_pays_12 : decode cX9_pays 12 = .ok (.aload_n 0, 1) := by decide +kernel
theorem dX9_pays_13 : decode cX9_pays 13 = .ok (.getfield 19, 3) := by decide +kernel
theorem dX9_pays_16 : decode cX9_pays 16 = .ok (.aload_n 0, 1) := by decide +kernel
theorem dX9_pays_17 : decode cX9_pays 17 = .ok (.getfield 10, 3) := by decide +kernel
theorem dX9_pays_20 : decode cX9_pays 20 = .ok (.invokevirtual 38, 3) := by decide +kernel
theorem dX9_pays_23 : decode cX9_pays 23 = .ok (.aload_n 0, 1) := by decide +kernel
theorem dX9_pays_24 : decode cX9_pays 24 = .ok (.getfield 10, 3) := by decide +kernel
theorem dX9_pays_27 : decode cX9_pays 27 = .ok (.getfield 52, 3) := by decide +kernel
theorem dX9_pays_30 : decode cX9_pays 30 = .ok (.iload_n 1, 1) := by decide +kernel
theorem dX9_pays_31 : decode cX9_pays 31 = .ok (.aaload, 1) := by decide +kernel
theorem dX9_pays_32 : decode cX9_pays 32 = .ok (.astore_n 3, 1) := by decide +kernel
theorem dX9_pays_33 : decode cX9_pays 33 = .ok (.aload_n 3, 1) := by decide +kernel
theorem dX9_pays_34 : decode cX9_pays 34 = .ok (.getfield 56, 3) := by decide +kernel
theorem dX9_pays_37 : decode cX9_pays 37 = .ok (.istore 4, 2) := by decide +kernel
theorem dX9_pays_39 : decode cX9_pays 39 = .ok (.aload_n 3, 1) := by decide +kernel
theorem dX9_pays_40 : decode cX9_pays 40 = .ok (.iload_n 2, 1) := by decide +kernel
theorem dX9_pays_41 : decode cX9_pays 41 = .ok (.putfield 56, 3) := by decide +kernel
theorem dX9_pays_44 : decode cX9_pays 44 = .ok (.iload 4, 2) := by decide +kernel
theorem dX9_pays_46 : decode cX9_pays 46 = .ok (.ireturn, 1) := by decide +kernel
theorem dX9_set_0 : decode cX9_set 0 = .ok (.iload_n 1, 1) := by decide +kernel
theorem dX9_set_1 : decode cX9_set 1 = .ok (.iconst 2, 1) := by decide +kernel
theorem dX9_set_2 : decode cX9_set 2 = .ok (.invokestatic 30, 3) := by decide +kernel
theorem dX9_set_5 : decode cX9_set 5 = .ok (.iload_n 2, 1) := by decide +kernel
theorem dX9_set_6 : decode cX9_set 6 = .ok (.iconst 0, 1) := by decide +kernel
theorem dX9_set_7 : decode cX9_set 7 = .ok (.getstatic 61, 3) := by decide +kernel
theorem dX9_set_10 : decode cX9_set 10 = .ok (.iload_n 1, 1) := by decide +kernel
theorem dX9_set_11 : decode cX9_set 11 = .ok (.iaload, 1) := by decide +kernel
theorem dX9_set_12 : decode cX9_set 12 = .ok (.invokestatic 34, 3) := by decide +kernel
theorem dX9_set_15 : decode cX9_set 15 = .ok (.aload_n 0, 1) := by decide +kernel
theorem dX9_set_16 : decode cX9_set 16 = .ok (.getfield 19, 3) := by decide +kernel
theorem dX9_set_19 : decode cX9_set 19 = .ok (.aload_n 0, 1) := by decide +kernel
theorem dX9_set_20 : decode cX9_set 20 = .ok (.getfield 10, 3) := by decide +kernel
theorem dX9_set_23 : decode cX9_set 23 = .ok (.invokevirtual 38, 3) := by decide +kernel
theorem dX9_set_26 : decode cX9_set 26 = .ok (.aload_n 0, 1) := by decide +kernel
theorem dX9_set_27 : decode cX9_set 27 = .ok (.getfield 10, 3) := by decide +kernel
theorem dX9_set_30 : decode cX9_set 30 = .ok (.getfield 65, 3) := by decide +kernel
theorem dX9_set_33 : decode cX9_set 33 = .ok (.iload_n 1, 1) := by decide +kernel
theorem dX9_set_34 : decode cX9_set 34 = .ok (.iaload, 1) := by decide +kernel
theorem dX9_set_35 : decode cX9_set 35 = .ok (.istore_n 3, 1) := by decide +kernel
theorem dX9_set_36 : decode cX9_set 36 = .ok (.aload_n 0, 1) := by decide +kernel
theorem dX9_set_37 : decode cX9_set 37 = .ok (.getfield 10, 3) := by decide +kernel
theorem dX9_set_40 : decode cX9_set 40 = .ok (.getfield 65, 3) := by decide +kernel
theorem dX9_set_43 : decode cX9_set 43 = .ok (.iload_n 1, 1) := by decide +kernel
theorem dX9_set_44 : decode cX9_set 44 = .ok (.iload_n 2, 1) := by decide +kernel
theorem dX9_set_45 : decode cX9_set 45 = .ok (.iastore, 1) := by decide +kernel
theorem dX9_set_46 : decode cX9_set 46 = .ok (.iload_n 3, 1) := by decide +kernel
theorem dX9_set_47 : decode cX9_set 47 = .ok (.ireturn, 1) := by decide +kernel
theorem dX9_assign_0 : decode cX9_assign 0 = .ok (.iload_n 1, 1) := by decide +kernel
theorem dX9_assign_1 : decode cX9_assign 1 = .ok (.aload_n 0, 1) := by decide +kernel
theorem dX9_assign_2 : decode cX9_assign 2 = .ok (.getfield 10, 3) := by decide +kernel
theorem dX9_assign_5 : decode cX9_assign 5 = .ok (.getfield 68, 3) := by decide +kernel
theorem dX9_assign_8 : decode cX9_assign 8 = .ok (.invokestatic 30, 3) := by decide +kernel
theorem dX9_assign_11 : decode cX9_assign 11 = .ok (.iload_n 2, 1) := by decide +kernel
theorem dX9_assign_12 : decode cX9_assign 12 = .ok (.iconst 4, 1) := by decide +kernel
theorem dX9_assign_13 : decode cX9_assign 13 = .ok (.invokestatic 30, 3) := by decide +kernel
theorem dX9_assign_16 : decode cX9_assign 16 = .ok (.aload_n 0, 1) := by decide +kernel
theorem dX9_assign_17 : decode cX9_assign 17 = .ok (.getfield 10, 3) := by decide +kernel
theorem dX9_assign_20 : decode cX9_assign 20 = .ok (.getfield 71, 3) := by decide +kernel
theorem dX9_assign_23 : decode cX9_assign 23 = .ok (.iload_n 1, 1) := by decide +kernel
theorem dX9_assign_24 : decode cX9_assign 24 = .ok (.aaload, 1) := by decide +kernel
theorem dX9_assign_25 : decode cX9_assign 25 = .ok (.astore_n 3, 1) := by decide +kernel
theorem dX9_assign_26 : decode cX9_assign 26 = .ok (.aload_n 3, 1) := by decide +kernel
theorem dX9_assign_27 : decode cX9_assign 27 = .ok (.getfield 75, 3) := by decide +kernel
theorem dX9_assign_30 : decode cX9_assign 30 = .ok (.ifCond .ne 7, 3) := by decide +kernel
theorem dX9_assign_33 : decode cX9_assign 33 = .ok (.iconst 1, 1) := by decide +kernel
theorem dX9_assign_34 : decode cX9_assign 34 = .ok (.goto 4, 3) := by decide +kernel
theorem dX9_assign_37 : decode cX9_assign 37 = .ok (.iconst 0, 1) := by decide +kernel
theorem dX9_assign_38 : decode cX9_assign 38 = .ok (.invokestatic 80, 3) := by decide +kernel
theorem dX9_assign_41 : decode cX9_assign 41 = .ok (.aload_n 0, 1) := by decide +kernel
theorem dX9_assign_42 : decode cX9_assign 42 = .ok (.getfield 19, 3) := by decide +kernel
theorem dX9_assign_45 : decode cX9_assign 45 = .ok (.aload_n 0, 1) := by decide +kernel
theorem dX9_assign_46 : decode cX9_assign 46 = .ok (.getfield 10, 3) := by decide +kernel
theorem dX9_assign_49 : decode cX9_assign 49 = .ok (.invokevirtual 38, 3) := by decide +kernel
theorem dX9_assign_52 : decode cX9_assign 52 = .ok (.aload_n 3, 1) := by decide +kernel
theorem dX9_assign_53 : decode cX9_assign 53 = .ok (.iconst 1, 1) := by decide +kernel
theorem dX9_assign_54 : decode cX9_assign 54 = .ok (.putfield 75, 3) := by decide +kernel
theorem dX9_assign_57 : decode cX9_assign 57 = .ok (.aload_n 3, 1) := by decide +kernel
theorem dX9_assign_58 : decode cX9_assign 58 = .ok (.iload_n 2, 1) := by decide +kernel
theorem dX9_assign_59 : decode cX9_assign 59 = .ok (.putfield 84, 3) := by decide +kernel
theorem dX9_assign_62 : decode cX9_assign 62 = .ok (.aload_n 0, 1) := by decide +kernel
theorem dX9_assign_63 : decode cX9_assign 63 = .ok (.getfield 10, 3) := by decide +kernel
theorem dX9_assign_66 : decode cX9_assign 66 = .ok (.aload_n 3, 1) := by decide +kernel
theorem dX9_assign_67 : decode cX9_assign 67 = .ok (.invokevirtual 87, 3) := by decide +kernel
theorem dX9_assign_70 : decode cX9_assign 70 = .ok (.aload_n 3, 1) := by decide +kernel
theorem dX9_assign_71 : decode cX9_assign 71 = .ok (.getfield 91, 3) := by decide +kernel
theorem dX9_assign_74 : decode cX9_assign 74 = .ok (.ireturn, 1) := by decide +kernel
theorem dX9_deliver_0 : decode cX9_deliver 0 = .ok (.iload_n 1, 1) := by decide +kernel
theorem dX9_deliver_1 : decode cX9_deliver 1 = .ok (.aload_n 0, 1) := by decide +kernel
theorem dX9_deliver_2 : decode cX9_deliver 2 = .ok (.getfield 10, 3) := by decide +kernel
theorem dX9_deliver_5 : decode cX9_deliver 5 = .ok (.getfield 68, 3) := by decide +kernel
theorem dX9_deliver_8 : decode cX9_deliver 8 = .ok (.invokestatic 30, 3) := by decide +kernel
theorem dX9_deliver_11 : decode cX9_deliver 11 = .ok (.aload_n 0, 1) := by decide +kernel
theorem dX9_deliver_12 : decode cX9_deliver 12 = .ok (.getfield 10, 3) := by decide +kernel
theorem dX9_deliver_15 : decode cX9_deliver 15 = .ok (.getfield 71, 3) := by decide +kernel
theorem dX9_deliver_18 : decode cX9_deliver 18 = .ok (.iload_n 1, 1) := by decide +kernel
theorem dX9_deliver_19 : decode cX9_deliver 19 = .ok (.aaload, 1) := by decide +kernel
theorem dX9_deliver_20 : decode cX9_deliver 20 = .ok (.astore_n 2, 1) := by decide +kernel
theorem dX9_deliver_21 : decode cX9_deliver 21 = .ok (.aload_n 2, 1) := by decide +kernel
theorem dX9_deliver_22 : decode cX9_deliver 22 = .ok (.getfield 75, 3) := by decide +kernel
theorem dX9_deliver_25 : decode cX9_deliver 25 = .ok (.iconst 1, 1) := by decide +kernel
theorem dX9_deliver_26 : decode cX9_deliver 26 = .ok (.if_icmp .ne 21, 3) := by decide +kernel
theorem dX9_deliver_29 : decode cX9_deliver 29 = .ok (.aload_n 0, 1) := by decide +kernel
theorem dX9_deliver_30 : decode cX9_deliver 30 = .ok (.getfield 10, 3) := by decide +kernel
theorem dX9_deliver_33 : decode cX9_deliver 33 = .ok (.aload_n 2, 1) := by decide +kernel
theorem dX9_deliver_34 : decode cX9_deliver 34 = .ok (.getfield 94, 3) := by decide +kernel
theorem dX9_deliver_37 : decode cX9_deliver 37 = .ok (.invokevirtual 98, 3) := by decide +kernel
theorem dX9_deliver_40 : decode cX9_deliver 40 = .ok (.ifCond .ne 7, 3) := by decide +kernel
theorem dX9_deliver_43 : decode cX9_deliver 43 = .ok (.iconst 1, 1) := by decide +kernel
theorem dX9_deliver_44 : decode cX9_deliver 44 = .ok (.goto 4, 3) := by decide +kernel
theorem dX9_deliver_47 : decode cX9_deliver 47 = .ok (.iconst 0, 1) := by decide +kernel
theorem dX9_deliver_48 : decode cX9_deliver 48 = .ok (.invokestatic 80, 3) := by decide +kernel
theorem dX9_deliver_51 : decode cX9_deliver 51 = .ok (.aload_n 0, 1) := by decide +kernel
theorem dX9_deliver_52 : decode cX9_deliver 52 = .ok (.getfield 19, 3) := by decide +kernel
theorem dX9_deliver_55 : decode cX9_deliver 55 = .ok (.aload_n 0, 1) := by decide +kernel
theorem dX9_deliver_56 : decode cX9_deliver 56 = .ok (.getfield 10, 3) := by decide +kernel
theorem dX9_deliver_59 : decode cX9_deliver 59 = .ok (.invokevirtual 38, 3) := by decide +kernel
theorem dX9_deliver_62 : decode cX9_deliver 62 = .ok (.aload_n 0, 1) := by decide +kernel
theorem dX9_deliver_63 : decode cX9_deliver 63 = .ok (.getfield 10, 3) := by decide +kernel
theorem dX9_deliver_66 : decode cX9_deliver 66 = .ok (.aload_n 2, 1) := by decide +kernel
theorem dX9_deliver_67 : decode cX9_deliver 67 = .ok (.invokevirtual 102, 3) := by decide +kernel
theorem dX9_deliver_70 : decode cX9_deliver 70 = .ok (.aload_n 2, 1) := by decide +kernel
theorem dX9_deliver_71 : decode cX9_deliver 71 = .ok (.getfield 105, 3) := by decide +kernel
theorem dX9_deliver_74 : decode cX9_deliver 74 = .ok (.ireturn, 1) := by decide +kernel
theorem dX9_revise_0 : decode cX9_revise 0 = .ok (.iload_n 1, 1) := by decide +kernel
theorem dX9_revise_1 : decode cX9_revise 1 = .ok (.aload_n 0, 1) := by decide +kernel
theorem dX9_revise_2 : decode cX9_revise 2 = .ok (.getfield 10, 3) := by decide +kernel
theorem dX9_revise_5 : decode cX9_revise 5 = .ok (.getfield 68, 3) := by decide +kernel
theorem dX9_revise_8 : decode cX9_revise 8 = .ok (.invokestatic 30, 3) := by decide +kernel
theorem dX9_revise_11 : decode cX9_revise 11 = .ok (.iload_n 2, 1) := by decide +kernel
theorem dX9_revise_12 : decode cX9_revise 12 = .ok (.iconst 4, 1) := by decide +kernel
theorem dX9_revise_13 : decode cX9_revise 13 = .ok (.invokestatic 30, 3) := by decide +kernel
theorem dX9_revise_16 : decode cX9_revise 16 = .ok (.aload_n 0, 1) := by decide +kernel
theorem dX9_revise_17 : decode cX9_revise 17 = .ok (.getfield 10, 3) := by decide +kernel
theorem dX9_revise_20 : decode cX9_revise 20 = .ok (.getfield 71, 3) := by decide +kernel
theorem dX9_revise_23 : decode cX9_revise 23 = .ok (.iload_n 1, 1) := by decide +kernel
theorem dX9_revise_24 : decode cX9_revise 24 = .ok (.aaload, 1) := by decide +kernel
theorem dX9_revise_25 : decode cX9_revise 25 = .ok (.astore 4, 2) := by decide +kernel
theorem dX9_revise_27 : decode cX9_revise 27 = .ok (.iload_n 3, 1) := by decide +kernel
theorem dX9_revise_28 : decode cX9_revise 28 = .ok (.iconst 0, 1) := by decide +kernel
theorem dX9_revise_29 : decode cX9_revise 29 = .ok (.aload 4, 2) := by decide +kernel
theorem dX9_revise_31 : decode cX9_revise 31 = .ok (.getfield 94, 3) := by decide +kernel
theorem dX9_revise_34 : decode cX9_revise 34 = .ok (.getfield 108, 3) := by decide +kernel
theorem dX9_revise_37 : decode cX9_revise 37 = .ok (.invokestatic 34, 3) := by decide +kernel
theorem dX9_revise_40 : decode cX9_revise 40 = .ok (.aload 4, 2) := by decide +kernel
theorem dX9_revise_42 : decode cX9_revise 42 = .ok (.getfield 75, 3) := by decide +kernel
theorem dX9_revise_45 : decode cX9_revise 45 = .ok (.iconst 2, 1) := by decide +kernel
theorem dX9_revise_46 : decode cX9_revise 46 = .ok (.if_icmp .ne 16, 3) := by decide +kernel
theorem dX9_revise_49 : decode cX9_revise 49 = .ok (.aload 4, 2) := by decide +kernel
theorem dX9_revise_51 : decode cX9_revise 51 = .ok (.getfield 84, 3) := by decide +kernel
theorem dX9_revise_54 : decode cX9_revise 54 = .ok (.iload_n 2, 1) := by decide +kernel
theorem dX9_revise_55 : decode cX9_revise 55 = .ok (.if_icmp .eq 7, 3) := by decide +kernel
theorem dX9_revise_58 : decode cX9_revise 58 = .ok (.iconst 1, 1) := by decide +kernel
theorem dX9_revise_59 : decode cX9_revise 59 = .ok (.goto 4, 3) := by decide +kernel
theorem dX9_revise_62 : decode cX9_revise 62 = .ok (.iconst 0, 1) := by decide +kernel
theorem dX9_revise_63 : decode cX9_revise 63 = .ok (.invokestatic 80, 3) := by decide +kernel
theorem dX9_revise_66 : decode cX9_revise 66 = .ok (.aload_n 0, 1) := by decide +kernel
theorem dX9_revise_67 : decode cX9_revise 67 = .ok (.getfield 19, 3) := by decide +kernel
theorem dX9_revise_70 : decode cX9_revise 70 = .ok (.aload_n 0, 1) := by decide +kernel
theorem dX9_revise_71 : decode cX9_revise 71 = .ok (.getfield 10, 3) := by decide +kernel
theorem dX9_revise_74 : decode cX9_revise 74 = .ok (.invokevirtual 38, 3) := by decide +kernel
theorem dX9_revise_77 : decode cX9_revise 77 = .ok (.aload_n 0, 1) := by decide +kernel
theorem dX9_revise_78 : decode cX9_revise 78 = .ok (.getfield 10, 3) := by decide +kernel
theorem dX9_revise_81 : decode cX9_revise 81 = .ok (.aload 4, 2) := by decide +kernel
theorem dX9_revise_83 : decode cX9_revise 83 = .ok (.iload_n 2, 1) := by decide +kernel
theorem dX9_revise_84 : decode cX9_revise 84 = .ok (.iload_n 3, 1) := by decide +kernel
theorem dX9_revise_85 : decode cX9_revise 85 = .ok (.invokevirtual 113, 3) := by decide +kernel
theorem dX9_revise_88 : decode cX9_revise 88 = .ok (.aload 4, 2) := by decide +kernel
theorem dX9_revise_90 : decode cX9_revise 90 = .ok (.getfield 105, 3) := by decide +kernel
theorem dX9_revise_93 : decode cX9_revise 93 = .ok (.ireturn, 1) := by decide +kernel
theorem dX9_propose_0 : decode cX9_propose 0 = .ok (.iload_n 1, 1) := by decide +kernel
theorem dX9_propose_1 : decode cX9_propose 1 = .ok (.bipush 8, 2) := by decide +kernel
theorem dX9_propose_3 : decode cX9_propose 3 = .ok (.invokestatic 30, 3) := by decide +kernel
theorem dX9_propose_6 : decode cX9_propose 6 = .ok (.iload_n 2, 1) := by decide +kernel
theorem dX9_propose_7 : decode cX9_propose 7 = .ok (.iconst 4, 1) := by decide +kernel
theorem dX9_propose_8 : decode cX9_propose 8 = .ok (.invokestatic 30, 3) := by decide +kernel
theorem dX9_propose_11 : decode cX9_propose 11 = .ok (.iload_n 3, 1) := by decide +kernel
theorem dX9_propose_12 : decode cX9_propose 12 = .ok (.iconst (-1), 1) := by decide +kernel
theorem dX9_propose_13 : decode cX9_propose 13 = .ok (.bipush 9, 2) := by decide +kernel
theorem dX9_propose_15 : decode cX9_propose 15 = .ok (.invokestatic 34, 3) := by decide +kernel
theorem dX9_propose_18 : decode cX9_propose 18 = .ok (.aload_n 0, 1) := by decide +kernel
theorem dX9_propose_19 : decode cX9_propose 19 = .ok (.getfield 10, 3) := by decide +kernel
theorem dX9_propose_22 : decode cX9_propose 22 = .ok (.getfield 117, 3) := by decide +kernel
theorem dX9_propose_25 : decode cX9_propose 25 = .ok (.iload_n 1, 1) := by decide +kernel
theorem dX9_propose_26 : decode cX9_propose 26 = .ok (.aaload, 1) := by decide +kernel
theorem dX9_propose_27 : decode cX9_propose 27 = .ok (.astore 4, 2) := by decide +kernel
theorem dX9_propose_29 : decode cX9_propose 29 = .ok (.aload 4, 2) := by decide +kernel
theorem dX9_propose_31 : decode cX9_propose 31 = .ok (.getfield 121, 3) := by decide +kernel
theorem dX9_propose_34 : decode cX9_propose 34 = .ok (.iconst (-1), 1) := by decide +kernel
theorem dX9_propose_35 : decode cX9_propose 35 = .ok (.if_icmp .ne 7, 3) := by decide +kernel
theorem dX9_propose_38 : decode cX9_propose 38 = .ok (.iconst 1, 1) := by decide +kernel
theorem dX9_propose_39 : decode cX9_propose 39 = .ok (.goto 4, 3) := by decide +kernel
theorem dX9_propose_42 : decode cX9_propose 42 = .ok (.iconst 0, 1) := by decide +kernel
theorem dX9_propose_43 : decode cX9_propose 43 = .ok (.invokestatic 80, 3) := by decide +kernel
theorem dX9_propose_46 : decode cX9_propose 46 = .ok (.aload_n 0, 1) := by decide +kernel
theorem dX9_propose_47 : decode cX9_propose 47 = .ok (.getfield 19, 3) := by decide +kernel
theorem dX9_propose_50 : decode cX9_propose 50 = .ok (.aload_n 0, 1) := by decide +kernel
theorem dX9_propose_51 : decode cX9_propose 51 = .ok (.getfield 10, 3) := by decide +kernel
theorem dX9_propose_54 : decode cX9_propose 54 = .ok (.invokevirtual 38, 3) := by decide +kernel
theorem dX9_propose_57 : decode cX9_propose 57 = .ok (.aload 4, 2) := by decide +kernel
theorem dX9_propose_59 : decode cX9_propose 59 = .ok (.getfield 126, 3) := by decide +kernel
theorem dX9_propose_62 : decode cX9_propose 62 = .ok (.iload_n 2, 1) := by decide +kernel
theorem dX9_propose_63 : decode cX9_propose 63 = .ok (.iaload, 1) := by decide +kernel
theorem dX9_propose_64 : decode cX9_propose 64 = .ok (.istore 5, 2) := by decide +kernel
theorem dX9_propose_66 : decode cX9_propose 66 = .ok (.aload 4, 2) := by decide +kernel
theorem dX9_propose_68 : decode cX9_propose 68 = .ok (.getfield 126, 3) := by decide +kernel
theorem dX9_propose_71 : decode cX9_propose 71 = .ok (.iload_n 2, 1) := by decide +kernel
theorem dX9_propose_72 : decode cX9_propose 72 = .ok (.iload_n 3, 1) := by decide +kernel
theorem dX9_propose_73 : decode cX9_propose 73 = .ok (.iastore, 1) := by decide +kernel
theorem dX9_propose_74 : decode cX9_propose 74 = .ok (.iload 5, 2) := by decide +kernel
theorem dX9_propose_76 : decode cX9_propose 76 = .ok (.ireturn, 1) := by decide +kernel
theorem dX9_rule_0 : decode cX9_rule 0 = .ok (.iload_n 1, 1) := by decide +kernel
theorem dX9_rule_1 : decode cX9_rule 1 = .ok (.bipush 8, 2) := by decide +kernel
theorem dX9_rule_3 : decode cX9_rule 3 = .ok (.invokestatic 30, 3) := by decide +kernel
theorem dX9_rule_6 : decode cX9_rule 6 = .ok (.iload_n 2, 1) := by decide +kernel
theorem dX9_rule_7 : decode cX9_rule 7 = .ok (.iconst 0, 1) := by decide +kernel
theorem dX9_rule_8 : decode cX9_rule 8 = .ok (.bipush 9, 2) := by decide +kernel
theorem dX9_rule_10 : decode cX9_rule 10 = .ok (.invokestatic 34, 3) := by decide +kernel
theorem dX9_rule_13 : decode cX9_rule 13 = .ok (.aload_n 0, 1) := by decide +kernel
theorem dX9_rule_14 : decode cX9_rule 14 = .ok (.getfield 10, 3) := by decide +kernel
theorem dX9_rule_17 : decode cX9_rule 17 = .ok (.getfield 117, 3) := by decide +kernel
theorem dX9_rule_20 : decode cX9_rule 20 = .ok (.iload_n 1, 1) := by decide +kernel
theorem dX9_rule_21 : decode cX9_rule 21 = .ok (.aaload, 1) := by decide +kernel
theorem dX9_rule_22 : decode cX9_rule 22 = .ok (.astore_n 3, 1) := by decide +kernel
theorem dX9_rule_23 : decode cX9_rule 23 = .ok (.aload_n 3, 1) := by decide +kernel
theorem dX9_rule_24 : decode cX9_rule 24 = .ok (.getfield 121, 3) := by decide +kernel
theorem dX9_rule_27 : decode cX9_rule 27 = .ok (.iconst (-1), 1) := by decide +kernel
theorem dX9_rule_28 : decode cX9_rule 28 = .ok (.if_icmp .ne 15, 3) := by decide +kernel
theorem dX9_rule_31 : decode cX9_rule 31 = .ok (.aload_n 3, 1) := by decide +kernel
theorem dX9_rule_32 : decode cX9_rule 32 = .ok (.iload_n 2, 1) := by decide +kernel
theorem dX9_rule_33 : decode cX9_rule 33 = .ok (.invokevirtual 129, 3) := by decide +kernel
theorem dX9_rule_36 : decode cX9_rule 36 = .ok (.ifCond .eq 7, 3) := by decide +kernel
theorem dX9_rule_39 : decode cX9_rule 39 = .ok (.iconst 1, 1) := by decide +kernel
theorem dX9_rule_40 : decode cX9_rule 40 = .ok (.goto 4, 3) := by decide +kernel
theorem dX9_rule_43 : decode cX9_rule 43 = .ok (.iconst 0, 1) := by decide +kernel
theorem dX9_rule_44 : decode cX9_rule 44 = .ok (.invokestatic 80, 3) := by decide +kernel
theorem dX9_rule_47 : decode cX9_rule 47 = .ok (.aload_n 0, 1) := by decide +kernel
theorem dX9_rule_48 : decode cX9_rule 48 = .ok (.getfield 19, 3) := by decide +kernel
theorem dX9_rule_51 : decode cX9_rule 51 = .ok (.aload_n 0, 1) := by decide +kernel
theorem dX9_rule_52 : decode cX9_rule 52 = .ok (.getfield 10, 3) := by decide +kernel
theorem dX9_rule_55 : decode cX9_rule 55 = .ok (.invokevirtual 38, 3) := by decide +kernel
theorem dX9_rule_58 : decode cX9_rule 58 = .ok (.aload_n 3, 1) := by decide +kernel
theorem dX9_rule_59 : decode cX9_rule 59 = .ok (.iload_n 2, 1) := by decide +kernel
theorem dX9_rule_60 : decode cX9_rule 60 = .ok (.putfield 121, 3) := by decide +kernel
theorem dX9_rule_63 : decode cX9_rule 63 = .ok (.aload_n 3, 1) := by decide +kernel
theorem dX9_rule_64 : decode cX9_rule 64 = .ok (.iload_n 2, 1) := by decide +kernel
theorem dX9_rule_65 : decode cX9_rule 65 = .ok (.invokevirtual 133, 3) := by decide +kernel
theorem dX9_rule_68 : decode cX9_rule 68 = .ok (.ireturn, 1) := by decide +kernel
theorem dX9_append_0 : decode cX9_append 0 = .ok (.iload_n 1, 1) := by decide +kernel
theorem dX9_append_1 : decode cX9_append 1 = .ok (.bipush 33, 2) := by decide +kernel
theorem dX9_append_3 : decode cX9_append 3 = .ok (.bipush 126, 2) := by decide +kernel
theorem dX9_append_5 : decode cX9_append 5 = .ok (.invokestatic 34, 3) := by decide +kernel
theorem dX9_append_8 : decode cX9_append 8 = .ok (.aload_n 0, 1) := by decide +kernel
theorem dX9_append_9 : decode cX9_append 9 = .ok (.getfield 26, 3) := by decide +kernel
theorem dX9_append_12 : decode cX9_append 12 = .ok (.getfield 137, 3) := by decide +kernel
theorem dX9_append_15 : decode cX9_append 15 = .ok (.bipush 60, 2) := by decide +kernel
theorem dX9_append_17 : decode cX9_append 17 = .ok (.if_icmp .ge 7, 3) := by decide +kernel
theorem dX9_append_20 : decode cX9_append 20 = .ok (.iconst 1, 1) := by decide +kernel
theorem dX9_append_21 : decode cX9_append 21 = .ok (.goto 4, 3) := by decide +kernel
theorem dX9_append_24 : decode cX9_append 24 = .ok (.iconst 0, 1) := by decide +kernel
theorem dX9_append_25 : decode cX9_append 25 = .ok (.invokestatic 80, 3) := by decide +kernel
theorem dX9_append_28 : decode cX9_append 28 = .ok (.aload_n 0, 1) := by decide +kernel
theorem dX9_append_29 : decode cX9_append 29 = .ok (.getfield 26, 3) := by decide +kernel
theorem dX9_append_32 : decode cX9_append 32 = .ok (.getfield 138, 3) := by decide +kernel
theorem dX9_append_35 : decode cX9_append 35 = .ok (.aload_n 0, 1) := by decide +kernel
theorem dX9_append_36 : decode cX9_append 36 = .ok (.getfield 26, 3) := by decide +kernel
theorem dX9_append_39 : decode cX9_append 39 = .ok (.getfield 137, 3) := by decide +kernel
theorem dX9_append_42 : decode cX9_append 42 = .ok (.iload_n 1, 1) := by decide +kernel
theorem dX9_append_43 : decode cX9_append 43 = .ok (.iastore, 1) := by decide +kernel
theorem dX9_append_44 : decode cX9_append 44 = .ok (.aload_n 0, 1) := by decide +kernel
theorem dX9_append_45 : decode cX9_append 45 = .ok (.getfield 26, 3) := by decide +kernel
theorem dX9_append_48 : decode cX9_append 48 = .ok (.dup, 1) := by decide +kernel
theorem dX9_append_49 : decode cX9_append 49 = .ok (.getfield 137, 3) := by decide +kernel
theorem dX9_append_52 : decode cX9_append 52 = .ok (.iconst 1, 1) := by decide +kernel
theorem dX9_append_53 : decode cX9_append 53 = .ok (.iadd, 1) := by decide +kernel
theorem dX9_append_54 : decode cX9_append 54 = .ok (.putfield 137, 3) := by decide +kernel
theorem dX9_append_57 : decode cX9_append 57 = .ok (.aload_n 0, 1) := by decide +kernel
theorem dX9_append_58 : decode cX9_append 58 = .ok (.getfield 26, 3) := by decide +kernel
theorem dX9_append_61 : decode cX9_append 61 = .ok (.getfield 137, 3) := by decide +kernel
theorem dX9_append_64 : decode cX9_append 64 = .ok (.ireturn, 1) := by decide +kernel
theorem dX9_clearBuffer_0 : decode cX9_clearBuffer 0 = .ok (.aload_n 0, 1) := by decide +kernel
theorem dX9_clearBuffer_1 : decode cX9_clearBuffer 1 = .ok (.getfield 26, 3) := by decide +kernel
theorem dX9_clearBuffer_4 : decode cX9_clearBuffer 4 = .ok (.getfield 137, 3) := by decide +kernel
theorem dX9_clearBuffer_7 : decode cX9_clearBuffer 7 = .ok (.istore_n 1, 1) := by decide +kernel
theorem dX9_clearBuffer_8 : decode cX9_clearBuffer 8 = .ok (.aload_n 0, 1) := by decide +kernel
theorem dX9_clearBuffer_9 : decode cX9_clearBuffer 9 = .ok (.getfield 26, 3) := by decide +kernel
theorem dX9_clearBuffer_12 : decode cX9_clearBuffer 12 = .ok (.iconst 0, 1) := by decide +kernel
theorem dX9_clearBuffer_13 : decode cX9_clearBuffer 13 = .ok (.putfield 137, 3) := by decide +kernel
theorem dX9_clearBuffer_16 : decode cX9_clearBuffer 16 = .ok (.iload_n 1, 1) := by decide +kernel
theorem dX9_clearBuffer_17 : decode cX9_clearBuffer 17 = .ok (.ireturn, 1) := by decide +kernel
theorem dX9_firstError_0 : decode cX9_firstError 0 = .ok (.aload_n 0, 1) := by decide +kernel
theorem dX9_firstError_1 : decode cX9_firstError 1 = .ok (.getfield 26, 3) := by decide +kernel
theorem dX9_firstError_4 : decode cX9_firstError 4 = .ok (.invokevirtual 141, 3) := by decide +kernel
theorem dX9_firstError_7 : decode cX9_firstError 7 = .ok (.ireturn, 1) := by decide +kernel
theorem dX9_add_0 : decode cX9_add 0 = .ok (.aload_n 0, 1) := by decide +kernel
theorem dX9_add_1 : decode cX9_add 1 = .ok (.getfield 26, 3) := by decide +kernel
theorem dX9_add_4 : decode cX9_add 4 = .ok (.invokevirtual 145, 3) := by decide +kernel
theorem dX9_add_7 : decode cX9_add 7 = .ok (.invokestatic 149, 3) := by decide +kernel
theorem dX9_add_10 : decode cX9_add 10 = .ok (.aload_n 0, 1) := by decide +kernel
theorem dX9_add_11 : decode cX9_add 11 = .ok (.getfield 10, 3) := by decide +kernel
theorem dX9_add_14 : decode cX9_add 14 = .ok (.getfield 68, 3) := by decide +kernel
theorem dX9_add_17 : decode cX9_add 17 = .ok (.aload_n 0, 1) := by decide +kernel
theorem dX9_add_18 : decode cX9_add 18 = .ok (.getfield 26, 3) := by decide +kernel
theorem dX9_add_21 : decode cX9_add 21 = .ok (.invokevirtual 152, 3) := by decide +kernel
theorem dX9_add_24 : decode cX9_add 24 = .ok (.iadd, 1) := by decide +kernel
theorem dX9_add_25 : decode cX9_add 25 = .ok (.bipush 10, 2) := by decide +kernel
theorem dX9_add_27 : decode cX9_add 27 = .ok (.if_icmp .gt 7, 3) := by decide +kernel
theorem dX9_add_30 : decode cX9_add 30 = .ok (.iconst 1, 1) := by decide +kernel
theorem dX9_add_31 : decode cX9_add 31 = .ok (.goto 4, 3) := by decide +kernel
theorem dX9_add_34 : decode cX9_add 34 = .ok (.iconst 0, 1) := by decide +kernel
theorem dX9_add_35 : decode cX9_add 35 = .ok (.invokestatic 80, 3) := by decide +kernel
theorem dX9_add_38 : decode cX9_add 38 = .ok (.aload_n 0, 1) := by decide +kernel
theorem dX9_add_39 : decode cX9_add 39 = .ok (.getfield 19, 3) := by decide +kernel
theorem dX9_add_42 : decode cX9_add 42 = .ok (.aload_n 0, 1) := by decide +kernel
theorem dX9_add_43 : decode cX9_add 43 = .ok (.getfield 10, 3) := by decide +kernel
theorem dX9_add_46 : decode cX9_add 46 = .ok (.invokevirtual 38, 3) := by decide +kernel
theorem dX9_add_49 : decode cX9_add 49 = .ok (.iconst 0, 1) := by decide +kernel
theorem dX9_add_50 : decode cX9_add 50 = .ok (.istore_n 1, 1) := by decide +kernel
theorem dX9_add_51 : decode cX9_add 51 = .ok (.iload_n 1, 1) := by decide +kernel
theorem dX9_add_52 : decode cX9_add 52 = .ok (.aload_n 0, 1) := by decide +kernel
theorem dX9_add_53 : decode cX9_add 53 = .ok (.getfield 26, 3) := by decide +kernel
theorem dX9_add_56 : decode cX9_add 56 = .ok (.getfield 137, 3) := by decide +kernel
theorem dX9_add_59 : decode cX9_add 59 = .ok (.if_icmp .ge 78, 3) := by decide +kernel
theorem dX9_add_62 : decode cX9_add 62 = .ok (.aload_n 0, 1) := by decide +kernel
theorem dX9_add_63 : decode cX9_add 63 = .ok (.getfield 10, 3) := by decide +kernel
theorem dX9_add_66 : decode cX9_add 66 = .ok (.getfield 68, 3) := by decide +kernel
theorem dX9_add_69 : decode cX9_add 69 = .ok (.bipush 10, 2) := by decide +kernel
theorem dX9_add_71 : decode cX9_add 71 = .ok (.if_icmp .ge 66, 3) := by decide +kernel
theorem dX9_add_74 : decode cX9_add 74 = .ok (.aload_n 0, 1) := by decide +kernel
theorem dX9_add_75 : decode cX9_add 75 = .ok (.getfield 26, 3) := by decide +kernel
theorem dX9_add_78 : decode cX9_add 78 = .ok (.iload_n 1, 1) := by decide +kernel
theorem dX9_add_79 : decode cX9_add 79 = .ok (.invokevirtual 155, 3) := by decide +kernel
theorem dX9_add_82 : decode cX9_add 82 = .ok (.istore_n 2, 1) := by decide +kernel
theorem dX9_add_83 : decode cX9_add 83 = .ok (.aload_n 0, 1) := by decide +kernel
theorem dX9_add_84 : decode cX9_add 84 = .ok (.getfield 10, 3) := by decide +kernel
theorem dX9_add_87 : decode cX9_add 87 = .ok (.getfield 71, 3) := by decide +kernel
theorem dX9_add_90 : decode cX9_add 90 = .ok (.aload_n 0, 1) := by decide +kernel
theorem dX9_add_91 : decode cX9_add 91 = .ok (.getfield 10, 3) := by decide +kernel
theorem dX9_add_94 : decode cX9_add 94 = .ok (.getfield 68, 3) := by decide +kernel
theorem dX9_add_97 : decode cX9_add 97 = .ok (.aaload, 1) := by decide +kernel
theorem dX9_add_98 : decode cX9_add 98 = .ok (.new 109, 3) := by decide +kernel
theorem dX9_add_101 : decode cX9_add 101 = .ok (.dup, 1) := by decide +kernel
theorem dX9_add_102 : decode cX9_add 102 = .ok (.aload_n 0, 1) := by decide +kernel
theorem dX9_add_103 : decode cX9_add 103 = .ok (.getfield 26, 3) := by decide +kernel
theorem dX9_add_106 : decode cX9_add 106 = .ok (.getfield 138, 3) := by decide +kernel
theorem dX9_add_109 : decode cX9_add 109 = .ok (.iload_n 1, 1) := by decide +kernel
theorem dX9_add_110 : decode cX9_add 110 = .ok (.iload_n 2, 1) := by decide +kernel
theorem dX9_add_111 : decode cX9_add 111 = .ok (.invokespecial 158, 3) := by decide +kernel
theorem dX9_add_114 : decode cX9_add 114 = .ok (.invokevirtual 161, 3) := by decide +kernel
theorem dX9_add_117 : decode cX9_add 117 = .ok (.aload_n 0, 1) := by decide +kernel
theorem dX9_add_118 : decode cX9_add 118 = .ok (.getfield 10, 3) := by decide +kernel
theorem dX9_add_121 : decode cX9_add 121 = .ok (.dup, 1) := by decide +kernel
theorem dX9_add_122 : decode cX9_add 122 = .ok (.getfield 68, 3) := by decide +kernel
theorem dX9_add_125 : decode cX9_add 125 = .ok (.iconst 1, 1) := by decide +kernel
theorem dX9_add_126 : decode cX9_add 126 = .ok (.iadd, 1) := by decide +kernel
theorem dX9_add_127 : decode cX9_add 127 = .ok (.putfield 68, 3) := by decide +kernel
theorem dX9_add_130 : decode cX9_add 130 = .ok (.iload_n 2, 1) := by decide +kernel
theorem dX9_add_131 : decode cX9_add 131 = .ok (.iconst 1, 1) := by decide +kernel
theorem dX9_add_132 : decode cX9_add 132 = .ok (.iadd, 1) := by decide +kernel
theorem dX9_add_133 : decode cX9_add 133 = .ok (.istore_n 1, 1) := by decide +kernel
theorem dX9_add_134 : decode cX9_add 134 = .ok (.goto (-83), 3) := by decide +kernel
theorem dX9_add_137 : decode cX9_add 137 = .ok (.aload_n 0, 1) := by decide +kernel
theorem dX9_add_138 : decode cX9_add 138 = .ok (.getfield 26, 3) := by decide +kernel
theorem dX9_add_141 : decode cX9_add 141 = .ok (.iconst 0, 1) := by decide +kernel
theorem dX9_add_142 : decode cX9_add 142 = .ok (.putfield 137, 3) := by decide +kernel
theorem dX9_add_145 : decode cX9_add 145 = .ok (.aload_n 0, 1) := by decide +kernel
theorem dX9_add_146 : decode cX9_add 146 = .ok (.getfield 10, 3) := by decide +kernel
theorem dX9_add_149 : decode cX9_add 149 = .ok (.getfield 68, 3) := by decide +kernel
theorem dX9_add_152 : decode cX9_add 152 = .ok (.ireturn, 1) := by decide +kernel
theorem dX9_change_0 : decode cX9_change 0 = .ok (.iload_n 1, 1) := by decide +kernel
theorem dX9_change_1 : decode cX9_change 1 = .ok (.aload_n 0, 1) := by decide +kernel
theorem dX9_change_2 : decode cX9_change 2 = .ok (.getfield 10, 3) := by decide +kernel
theorem dX9_change_5 : decode cX9_change 5 = .ok (.getfield 68, 3) := by decide +kernel
theorem dX9_change_8 : decode cX9_change 8 = .ok (.invokestatic 30, 3) := by decide +kernel
theorem dX9_change_11 : decode cX9_change 11 = .ok (.aload_n 0, 1) := by decide +kernel
theorem dX9_change_12 : decode cX9_change 12 = .ok (.getfield 26, 3) := by decide +kernel
theorem dX9_change_15 : decode cX9_change 15 = .ok (.invokevirtual 145, 3) := by decide +kernel
theorem dX9_change_18 : decode cX9_change 18 = .ok (.ifCond .eq 18, 3) := by decide +kernel
theorem dX9_change_21 : decode cX9_change 21 = .ok (.aload_n 0, 1) := by decide +kernel
theorem dX9_change_22 : decode cX9_change 22 = .ok (.getfield 26, 3) := by decide +kernel
theorem dX9_change_25 : decode cX9_change 25 = .ok (.invokevirtual 152, 3) := by decide +kernel
theorem dX9_change_28 : decode cX9_change 28 = .ok (.iconst 1, 1) := by decide +kernel
theorem dX9_change_29 : decode cX9_change 29 = .ok (.if_icmp .ne 7, 3) := by decide +kernel
theorem dX9_change_32 : decode cX9_change 32 = .ok (.iconst 1, 1) := by decide +kernel
theorem dX9_change_33 : decode cX9_change 33 = .ok (.goto 4, 3) := by decide +kernel
theorem dX9_change_36 : decode cX9_change 36 = .ok (.iconst 0, 1) := by decide +kernel
theorem dX9_change_37 : decode cX9_change 37 = .ok (.invokestatic 149, 3) := by decide +kernel
theorem dX9_change_40 : decode cX9_change 40 = .ok (.aload_n 0, 1) := by decide +kernel
theorem dX9_change_41 : decode cX9_change 41 = .ok (.getfield 19, 3) := by decide +kernel
theorem dX9_change_44 : decode cX9_change 44 = .ok (.aload_n 0, 1) := by decide +kernel
theorem dX9_change_45 : decode cX9_change 45 = .ok (.getfield 10, 3) := by decide +kernel
theorem dX9_change_48 : decode cX9_change 48 = .ok (.invokevirtual 38, 3) := by decide +kernel
theorem dX9_change_51 : decode cX9_change 51 = .ok (.aload_n 0, 1) := by decide +kernel
theorem dX9_change_52 : decode cX9_change 52 = .ok (.getfield 10, 3) := by decide +kernel
theorem dX9_change_55 : decode cX9_change 55 = .ok (.getfield 71, 3) := by decide +kernel
theorem dX9_change_58 : decode cX9_change 58 = .ok (.iload_n 1, 1) := by decide +kernel
theorem dX9_change_59 : decode cX9_change 59 = .ok (.aaload, 1) := by decide +kernel
theorem dX9_change_60 : decode cX9_change 60 = .ok (.astore_n 2, 1) := by decide +kernel
theorem dX9_change_61 : decode cX9_change 61 = .ok (.aload_n 0, 1) := by decide +kernel
theorem dX9_change_62 : decode cX9_change 62 = .ok (.getfield 10, 3) := by decide +kernel
theorem dX9_change_65 : decode cX9_change 65 = .ok (.aload_n 2, 1) := by decide +kernel
theorem dX9_change_66 : decode cX9_change 66 = .ok (.new 109, 3) := by decide +kernel
theorem dX9_change_69 : decode cX9_change 69 = .ok (.dup, 1) := by decide +kernel
theorem dX9_change_70 : decode cX9_change 70 = .ok (.aload_n 0, 1) := by decide +kernel
theorem dX9_change_71 : decode cX9_change 71 = .ok (.getfield 26, 3) := by decide +kernel
theorem dX9_change_74 : decode cX9_change 74 = .ok (.getfield 138, 3) := by decide +kernel
theorem dX9_change_77 : decode cX9_change 77 = .ok (.iconst 0, 1) := by decide +kernel
theorem dX9_change_78 : decode cX9_change 78 = .ok (.aload_n 0, 1) := by decide +kernel
theorem dX9_change_79 : decode cX9_change 79 = .ok (.getfield 26, 3) := by decide +kernel
theorem dX9_change_82 : decode cX9_change 82 = .ok (.getfield 137, 3) := by decide +kernel
theorem dX9_change_85 : decode cX9_change 85 = .ok (.invokespecial 158, 3) := by decide +kernel
theorem dX9_change_88 : decode cX9_change 88 = .ok (.invokevirtual 165, 3) := by decide +kernel
theorem dX9_change_91 : decode cX9_change 91 = .ok (.aload_n 0, 1) := by decide +kernel
theorem dX9_change_92 : decode cX9_change 92 = .ok (.getfield 26, 3) := by decide +kernel
theorem dX9_change_95 : decode cX9_change 95 = .ok (.iconst 0, 1) := by decide +kernel
theorem dX9_change_96 : decode cX9_change 96 = .ok (.putfield 137, 3) := by decide +kernel
theorem dX9_change_99 : decode cX9_change 99 = .ok (.aload_n 2, 1) := by decide +kernel
theorem dX9_change_100 : decode cX9_change 100 = .ok (.getfield 75, 3) := by decide +kernel
theorem dX9_change_103 : decode cX9_change 103 = .ok (.ireturn, 1) := by decide +kernel
theorem dX9_undo_0 : decode cX9_undo 0 = .ok (.aload_n 0, 1) := by decide +kernel
theorem dX9_undo_1 : decode cX9_undo 1 = .ok (.getfield 19, 3) := by decide +kernel
theorem dX9_undo_4 : decode cX9_undo 4 = .ok (.getfield 169, 3) := by decide +kernel
theorem dX9_undo_7 : decode cX9_undo 7 = .ok (.ifCond .le 7, 3) := by decide +kernel
theorem dX9_undo_10 : decode cX9_undo 10 = .ok (.iconst 1, 1) := by decide +kernel
theorem dX9_undo_11 : decode cX9_undo 11 = .ok (.goto 4, 3) := by decide +kernel
theorem dX9_undo_14 : decode cX9_undo 14 = .ok (.iconst 0, 1) := by decide +kernel
theorem dX9_undo_15 : decode cX9_undo 15 = .ok (.invokestatic 80, 3) := by decide +kernel
theorem dX9_undo_18 : decode cX9_undo 18 = .ok (.aload_n 0, 1) := by decide +kernel
theorem dX9_undo_19 : decode cX9_undo 19 = .ok (.getfield 19, 3) := by decide +kernel
theorem dX9_undo_22 : decode cX9_undo 22 = .ok (.aload_n 0, 1) := by decide +kernel
theorem dX9_undo_23 : decode cX9_undo 23 = .ok (.getfield 10, 3) := by decide +kernel
theorem dX9_undo_26 : decode cX9_undo 26 = .ok (.invokevirtual 170, 3) := by decide +kernel
theorem dX9_undo_29 : decode cX9_undo 29 = .ok (.aload_n 0, 1) := by decide +kernel
theorem dX9_undo_30 : decode cX9_undo 30 = .ok (.getfield 19, 3) := by decide +kernel
theorem dX9_undo_33 : decode cX9_undo 33 = .ok (.getfield 169, 3) := by decide +kernel
theorem dX9_undo_36 : decode cX9_undo 36 = .ok (.ireturn, 1) := by decide +kernel
theorem dX9_segment_0 : decode cX9_segment 0 = .ok (.iload_n 1, 1) := by decide +kernel
theorem dX9_segment_1 : decode cX9_segment 1 = .ok (.aload_n 0, 1) := by decide +kernel
theorem dX9_segment_2 : decode cX9_segment 2 = .ok (.getfield 10, 3) := by decide +kernel
theorem dX9_segment_5 : decode cX9_segment 5 = .ok (.getfield 68, 3) := by decide +kernel
theorem dX9_segment_8 : decode cX9_segment 8 = .ok (.invokestatic 30, 3) := by decide +kernel
theorem dX9_segment_11 : decode cX9_segment 11 = .ok (.iload_n 2, 1) := by decide +kernel
theorem dX9_segment_12 : decode cX9_segment 12 = .ok (.iconst 0, 1) := by decide +kernel
theorem dX9_segment_13 : decode cX9_segment 13 = .ok (.bipush 11, 2) := by decide +kernel
theorem dX9_segment_15 : decode cX9_segment 15 = .ok (.invokestatic 34, 3) := by decide +kernel
theorem dX9_segment_18 : decode cX9_segment 18 = .ok (.aload_n 0, 1) := by decide +kernel
theorem dX9_segment_19 : decode cX9_segment 19 = .ok (.getfield 10, 3) := by decide +kernel
theorem dX9_segment_22 : decode cX9_segment 22 = .ok (.getfield 71, 3) := by decide +kernel
theorem dX9_segment_25 : decode cX9_segment 25 = .ok (.iload_n 1, 1) := by decide +kernel
theorem dX9_segment_26 : decode cX9_segment 26 = .ok (.aaload, 1) := by decide +kernel
theorem dX9_segment_27 : decode cX9_segment 27 = .ok (.astore_n 3, 1) := by decide +kernel
theorem dX9_segment_28 : decode cX9_segment 28 = .ok (.iload_n 2, 1) := by decide +kernel
theorem dX9_segment_29 : decode cX9_segment 29 = .ok (.tableswitch 138 0 10 #[59, 67, 72, 77, 93, 108, 113, 118, 123, 128, 133], 59) := by decide +kernel
theorem dX9_segment_88 : decode cX9_segment 88 = .ok (.aload_n 3, 1) := by decide +kernel
theorem dX9_segment_89 : decode cX9_segment 89 = .ok (.getfield 94, 3) := by decide +kernel
theorem dX9_segment_92 : decode cX9_segment 92 = .ok (.getfield 108, 3) := by decide +kernel
theorem dX9_segment_95 : decode cX9_segment 95 = .ok (.ireturn, 1) := by decide +kernel
theorem dX9_segment_96 : decode cX9_segment 96 = .ok (.aload_n 3, 1) := by decide +kernel
theorem dX9_segment_97 : decode cX9_segment 97 = .ok (.getfield 75, 3) := by decide +kernel
theorem dX9_segment_100 : decode cX9_segment 100 = .ok (.ireturn, 1) := by decide +kernel
theorem dX9_segment_101 : decode cX9_segment 101 = .ok (.aload_n 3, 1) := by decide +kernel
theorem dX9_segment_102 : decode cX9_segment 102 = .ok (.getfield 84, 3) := by decide +kernel
theorem dX9_segment_105 : decode cX9_segment 105 = .ok (.ireturn, 1) := by decide +kernel
theorem dX9_segment_106 : decode cX9_segment 106 = .ok (.aload_n 0, 1) := by decide +kernel
theorem dX9_segment_107 : decode cX9_segment 107 = .ok (.getfield 10, 3) := by decide +kernel
theorem dX9_segment_110 : decode cX9_segment 110 = .ok (.getfield 173, 3) := by decide +kernel
theorem dX9_segment_113 : decode cX9_segment 113 = .ok (.aload_n 3, 1) := by decide +kernel
theorem dX9_segment_114 : decode cX9_segment 114 = .ok (.getfield 94, 3) := by decide +kernel
theorem dX9_segment_117 : decode cX9_segment 117 = .ok (.iconst 0, 1) := by decide +kernel
theorem dX9_segment_118 : decode cX9_segment 118 = .ok (.invokevirtual 177, 3) := by decide +kernel
theorem dX9_segment_121 : decode cX9_segment 121 = .ok (.ireturn, 1) := by decide +kernel
theorem dX9_segment_122 : decode cX9_segment 122 = .ok (.aload_n 0, 1) := by decide +kernel
theorem dX9_segment_123 : decode cX9_segment 123 = .ok (.getfield 10, 3) := by decide +kernel
theorem dX9_segment_126 : decode cX9_segment 126 = .ok (.getfield 173, 3) := by decide +kernel
theorem dX9_segment_129 : decode cX9_segment 129 = .ok (.aload_n 3, 1) := by decide +kernel
theorem dX9_segment_130 : decode cX9_segment 130 = .ok (.getfield 94, 3) := by decide +kernel
theorem dX9_segment_133 : decode cX9_segment 133 = .ok (.invokevirtual 183, 3) := by decide +kernel
theorem dX9_segment_136 : decode cX9_segment 136 = .ok (.ireturn, 1) := by decide +kernel
theorem dX9_segment_137 : decode cX9_segment 137 = .ok (.aload_n 3, 1) := by decide +kernel
theorem dX9_segment_138 : decode cX9_segment 138 = .ok (.getfield 91, 3) := by decide +kernel
theorem dX9_segment_141 : decode cX9_segment 141 = .ok (.ireturn, 1) := by decide +kernel
theorem dX9_segment_142 : decode cX9_segment 142 = .ok (.aload_n 3, 1) := by decide +kernel
theorem dX9_segment_143 : decode cX9_segment 143 = .ok (.getfield 187, 3) := by decide +kernel
theorem dX9_segment_146 : decode cX9_segment 146 = .ok (.ireturn, 1) := by decide +kernel
theorem dX9_segment_147 : decode cX9_segment 147 = .ok (.aload_n 3, 1) := by decide +kernel
theorem dX9_segment_148 : decode cX9_segment 148 = .ok (.getfield 105, 3) := by decide +kernel
theorem dX9_segment_151 : decode cX9_segment 151 = .ok (.ireturn, 1) := by decide +kernel
theorem dX9_segment_152 : decode cX9_segment 152 = .ok (.aload_n 3, 1) := by decide +kernel
theorem dX9_segment_153 : decode cX9_segment 153 = .ok (.getfield 188, 3) := by decide +kernel
theorem dX9_segment_156 : decode cX9_segment 156 = .ok (.ireturn, 1) := by decide +kernel
theorem dX9_segment_157 : decode cX9_segment 157 = .ok (.aload_n 3, 1) := by decide +kernel
theorem dX9_segment_158 : decode cX9_segment 158 = .ok (.getfield 191, 3) := by decide +kernel
theorem dX9_segment_161 : decode cX9_segment 161 = .ok (.ireturn, 1) := by decide +kernel
theorem dX9_segment_162 : decode cX9_segment 162 = .ok (.aload_n 3, 1) := by decide +kernel
theorem dX9_segment_163 : decode cX9_segment 163 = .ok (.getfield 194, 3) := by decide +kernel
theorem dX9_segment_166 : decode cX9_segment 166 = .ok (.ireturn, 1) := by decide +kernel
theorem dX9_segment_167 : decode cX9_segment 167 = .ok (.aload_n 0, 1) := by decide +kernel
theorem dX9_segment_168 : decode cX9_segment 168 = .ok (.getfield 10, 3) := by decide +kernel
theorem dX9_segment_171 : decode cX9_segment 171 = .ok (.aload_n 3, 1) := by decide +kernel
theorem dX9_segment_172 : decode cX9_segment 172 = .ok (.getfield 94, 3) := by decide +kernel
theorem dX9_segment_175 : decode cX9_segment 175 = .ok (.invokevirtual 98, 3) := by decide +kernel
theorem dX9_segment_178 : decode cX9_segment 178 = .ok (.invokestatic 197, 3) := by decide +kernel
theorem dX9_segment_181 : decode cX9_segment 181 = .ok (.ireturn, 1) := by decide +kernel
theorem dX9_word_0 : decode cX9_word 0 = .ok (.iload_n 1, 1) := by decide +kernel
theorem dX9_word_1 : decode cX9_word 1 = .ok (.aload_n 0, 1) := by decide +kernel
theorem dX9_word_2 : decode cX9_word 2 = .ok (.getfield 10, 3) := by decide +kernel
theorem dX9_word_5 : decode cX9_word 5 = .ok (.getfield 68, 3) := by decide +kernel
theorem dX9_word_8 : decode cX9_word 8 = .ok (.invokestatic 30, 3) := by decide +kernel
theorem dX9_word_11 : decode cX9_word 11 = .ok (.iload_n 2, 1) := by decide +kernel
theorem dX9_word_12 : decode cX9_word 12 = .ok (.iconst 0, 1) := by decide +kernel
theorem dX9_word_13 : decode cX9_word 13 = .ok (.bipush 11, 2) := by decide +kernel
theorem dX9_word_15 : decode cX9_word 15 = .ok (.invokestatic 34, 3) := by decide +kernel
theorem dX9_word_18 : decode cX9_word 18 = .ok (.aload_n 0, 1) := by decide +kernel
theorem dX9_word_19 : decode cX9_word 19 = .ok (.getfield 10, 3) := by decide +kernel
theorem dX9_word_22 : decode cX9_word 22 = .ok (.getfield 71, 3) := by decide +kernel
theorem dX9_word_25 : decode cX9_word 25 = .ok (.iload_n 1, 1) := by decide +kernel
theorem dX9_word_26 : decode cX9_word 26 = .ok (.aaload, 1) := by decide +kernel
theorem dX9_word_27 : decode cX9_word 27 = .ok (.getfield 94, 3) := by decide +kernel
theorem dX9_word_30 : decode cX9_word 30 = .ok (.iload_n 2, 1) := by decide +kernel
theorem dX9_word_31 : decode cX9_word 31 = .ok (.invokevirtual 201, 3) := by decide +kernel
theorem dX9_word_34 : decode cX9_word 34 = .ok (.ireturn, 1) := by decide +kernel
theorem dX9_remembered_0 : decode cX9_remembered 0 = .ok (.iload_n 1, 1) := by decide +kernel
theorem dX9_remembered_1 : decode cX9_remembered 1 = .ok (.aload_n 0, 1) := by decide +kernel
theorem dX9_remembered_2 : decode cX9_remembered 2 = .ok (.getfield 10, 3) := by decide +kernel
theorem dX9_remembered_5 : decode cX9_remembered 5 = .ok (.getfield 173, 3) := by decide +kernel
theorem dX9_remembered_8 : decode cX9_remembered 8 = .ok (.getfield 204, 3) := by decide +kernel
theorem dX9_remembered_11 : decode cX9_remembered 11 = .ok (.invokestatic 30, 3) := by decide +kernel
theorem dX9_remembered_14 : decode cX9_remembered 14 = .ok (.iload_n 2, 1) := by decide +kernel
theorem dX9_remembered_15 : decode cX9_remembered 15 = .ok (.iconst 0, 1) := by decide +kernel
theorem dX9_remembered_16 : decode cX9_remembered 16 = .ok (.bipush 11, 2) := by decide +kernel
theorem dX9_remembered_18 : decode cX9_remembered 18 = .ok (.invokestatic 34, 3) := by decide +kernel
theorem dX9_remembered_21 : decode cX9_remembered 21 = .ok (.aload_n 0, 1) := by decide +kernel
theorem dX9_remembered_22 : decode cX9_remembered 22 = .ok (.getfield 10, 3) := by decide +kernel
theorem dX9_remembered_25 : decode cX9_remembered 25 = .ok (.getfield 173, 3) := by decide +kernel
theorem dX9_remembered_28 : decode cX9_remembered 28 = .ok (.getfield 205, 3) := by decide +kernel
theorem dX9_remembered_31 : decode cX9_remembered 31 = .ok (.iload_n 1, 1) := by decide +kernel
theorem dX9_remembered_32 : decode cX9_remembered 32 = .ok (.aaload, 1) := by decide +kernel
theorem dX9_remembered_33 : decode cX9_remembered 33 = .ok (.iload_n 2, 1) := by decide +kernel
theorem dX9_remembered_34 : decode cX9_remembered 34 = .ok (.invokevirtual 201, 3) := by decide +kernel
theorem dX9_remembered_37 : decode cX9_remembered 37 = .ok (.ireturn, 1) := by decide +kernel
theorem dX9_translator_0 : decode cX9_translator 0 = .ok (.iload_n 1, 1) := by decide +kernel
theorem dX9_translator_1 : decode cX9_translator 1 = .ok (.iconst 4, 1) := by decide +kernel
theorem dX9_translator_2 : decode cX9_translator 2 = .ok (.invokestatic 30, 3) := by decide +kernel
theorem dX9_translator_5 : decode cX9_translator 5 = .ok (.iload_n 2, 1) := by decide +kernel
theorem dX9_translator_6 : decode cX9_translator 6 = .ok (.iconst 0, 1) := by decide +kernel
theorem dX9_translator_7 : decode cX9_translator 7 = .ok (.bipush 6, 2) := by decide +kernel
theorem dX9_translator_9 : decode cX9_translator 9 = .ok (.invokestatic 34, 3) := by decide +kernel
theorem dX9_translator_12 : decode cX9_translator 12 = .ok (.aload_n 0, 1) := by decide +kernel
theorem dX9_translator_13 : decode cX9_translator 13 = .ok (.getfield 10, 3) := by decide +kernel
theorem dX9_translator_16 : decode cX9_translator 16 = .ok (.getfield 42, 3) := by decide +kernel
theorem dX9_translator_19 : decode cX9_translator 19 = .ok (.iload_n 1, 1) := by decide +kernel
theorem dX9_translator_20 : decode cX9_translator 20 = .ok (.aaload, 1) := by decide +kernel
theorem dX9_translator_21 : decode cX9_translator 21 = .ok (.astore_n 3, 1) := by decide +kernel
theorem dX9_translator_22 : decode cX9_translator 22 = .ok (.iload_n 2, 1) := by decide +kernel
theorem dX9_translator_23 : decode cX9_translator 23 = .ok (.tableswitch 71 0 5 #[37, 42, 47, 56, 61, 66], 37) := by decide +kernel
theorem dX9_translator_60 : decode cX9_translator 60 = .ok (.aload_n 3, 1) := by decide +kernel
theorem dX9_translator_61 : decode cX9_translator 61 = .ok (.getfield 46, 3) := by decide +kernel
theorem dX9_translator_64 : decode cX9_translator 64 = .ok (.ireturn, 1) := by decide +kernel
theorem dX9_translator_65 : decode cX9_translator 65 = .ok (.aload_n 3, 1) := by decide +kernel
theorem dX9_translator_66 : decode cX9_translator 66 = .ok (.getfield 209, 3) := by decide +kernel
theorem dX9_translator_69 : decode cX9_translator 69 = .ok (.ireturn, 1) := by decide +kernel
theorem dX9_translator_70 : decode cX9_translator 70 = .ok (.aload_n 0, 1) := by decide +kernel
theorem dX9_translator_71 : decode cX9_translator 71 = .ok (.getfield 10, 3) := by decide +kernel
theorem dX9_translator_74 : decode cX9_translator 74 = .ok (.iload_n 1, 1) := by decide +kernel
theorem dX9_translator_75 : decode cX9_translator 75 = .ok (.invokevirtual 212, 3) := by decide +kernel
theorem dX9_translator_78 : decode cX9_translator 78 = .ok (.ireturn, 1) := by decide +kernel
theorem dX9_translator_79 : decode cX9_translator 79 = .ok (.aload_n 3, 1) := by decide +kernel
theorem dX9_translator_80 : decode cX9_translator 80 = .ok (.getfield 215, 3) := by decide +kernel
theorem dX9_translator_83 : decode cX9_translator 83 = .ok (.ireturn, 1) := by decide +kernel
theorem dX9_translator_84 : decode cX9_translator 84 = .ok (.aload_n 3, 1) := by decide +kernel
theorem dX9_translator_85 : decode cX9_translator 85 = .ok (.getfield 218, 3) := by decide +kernel
theorem dX9_translator_88 : decode cX9_translator 88 = .ok (.ireturn, 1) := by decide +kernel
theorem dX9_translator_89 : decode cX9_translator 89 = .ok (.aload_n 3, 1) := by decide +kernel
theorem dX9_translator_90 : decode cX9_translator 90 = .ok (.getfield 219, 3) := by decide +kernel
theorem dX9_translator_93 : decode cX9_translator 93 = .ok (.ireturn, 1) := by decide +kernel
theorem dX9_translator_94 : decode cX9_translator 94 = .ok (.aload_n 0, 1) := by decide +kernel
theorem dX9_translator_95 : decode cX9_translator 95 = .ok (.getfield 10, 3) := by decide +kernel
theorem dX9_translator_98 : decode cX9_translator 98 = .ok (.iload_n 1, 1) := by decide +kernel
theorem dX9_translator_99 : decode cX9_translator 99 = .ok (.invokevirtual 222, 3) := by decide +kernel
theorem dX9_translator_102 : decode cX9_translator 102 = .ok (.ireturn, 1) := by decide +kernel
theorem dX9_term_0 : decode cX9_term 0 = .ok (.iload_n 1, 1) := by decide +kernel
theorem dX9_term_1 : decode cX9_term 1 = .ok (.bipush 8, 2) := by decide +kernel
theorem dX9_term_3 : decode cX9_term 3 = .ok (.invokestatic 30, 3) := by decide +kernel
theorem dX9_term_6 : decode cX9_term 6 = .ok (.iload_n 2, 1) := by decide +kernel
theorem dX9_term_7 : decode cX9_term 7 = .ok (.iconst 0, 1) := by decide +kernel
theorem dX9_term_8 : decode cX9_term 8 = .ok (.bipush 7, 2) := by decide +kernel
theorem dX9_term_10 : decode cX9_term 10 = .ok (.invokestatic 34, 3) := by decide +kernel
theorem dX9_term_13 : decode cX9_term 13 = .ok (.aload_n 0, 1) := by decide +kernel
theorem dX9_term_14 : decode cX9_term 14 = .ok (.getfield 10, 3) := by decide +kernel
theorem dX9_term_17 : decode cX9_term 17 = .ok (.getfield 117, 3) := by decide +kernel
theorem dX9_term_20 : decode cX9_term 20 = .ok (.iload_n 1, 1) := by decide +kernel
theorem dX9_term_21 : decode cX9_term 21 = .ok (.aaload, 1) := by decide +kernel
theorem dX9_term_22 : decode cX9_term 22 = .ok (.astore_n 3, 1) := by decide +kernel
theorem dX9_term_23 : decode cX9_term 23 = .ok (.iload_n 2, 1) := by decide +kernel
theorem dX9_term_24 : decode cX9_term 24 = .ok (.iconst 4, 1) := by decide +kernel
theorem dX9_term_25 : decode cX9_term 25 = .ok (.if_icmp .ge 10, 3) := by decide +kernel
theorem dX9_term_28 : decode cX9_term 28 = .ok (.aload_n 3, 1) := by decide +kernel
theorem dX9_term_29 : decode cX9_term 29 = .ok (.getfield 126, 3) := by decide +kernel
theorem dX9_term_32 : decode cX9_term 32 = .ok (.iload_n 2, 1) := by decide +kernel
theorem dX9_term_33 : decode cX9_term 33 = .ok (.iaload, 1) := by decide +kernel
theorem dX9_term_34 : decode cX9_term 34 = .ok (.ireturn, 1) := by decide +kernel
theorem dX9_term_35 : decode cX9_term 35 = .ok (.iload_n 2, 1) := by decide +kernel
theorem dX9_term_36 : decode cX9_term 36 = .ok (.tableswitch 46 4 6 #[28, 33, 41], 28) := by decide +kernel
theorem dX9_term_64 : decode cX9_term 64 = .ok (.aload_n 3, 1) := by decide +kernel
theorem dX9_term_65 : decode cX9_term 65 = .ok (.getfield 121, 3) := by decide +kernel
theorem dX9_term_68 : decode cX9_term 68 = .ok (.ireturn, 1) := by decide +kernel
theorem dX9_term_69 : decode cX9_term 69 = .ok (.aload_n 3, 1) := by decide +kernel
theorem dX9_term_70 : decode cX9_term 70 = .ok (.invokevirtual 225, 3) := by decide +kernel
theorem dX9_term_73 : decode cX9_term 73 = .ok (.invokestatic 197, 3) := by decide +kernel
theorem dX9_term_76 : decode cX9_term 76 = .ok (.ireturn, 1) := by decide +kernel
theorem dX9_term_77 : decode cX9_term 77 = .ok (.aload_n 3, 1) := by decide +kernel
theorem dX9_term_78 : decode cX9_term 78 = .ok (.invokevirtual 228, 3) := by decide +kernel
theorem dX9_term_81 : decode cX9_term 81 = .ok (.ireturn, 1) := by decide +kernel
theorem dX9_term_82 : decode cX9_term 82 = .ok (.aload_n 0, 1) := by decide +kernel
theorem dX9_term_83 : decode cX9_term 83 = .ok (.getfield 10, 3) := by decide +kernel
theorem dX9_term_86 : decode cX9_term 86 = .ok (.iload_n 1, 1) := by decide +kernel
theorem dX9_term_87 : decode cX9_term 87 = .ok (.invokevirtual 231, 3) := by decide +kernel
theorem dX9_term_90 : decode cX9_term 90 = .ok (.ireturn, 1) := by decide +kernel
theorem dX9_band_0 : decode cX9_band 0 = .ok (.iload_n 1, 1) := by decide +kernel
theorem dX9_band_1 : decode cX9_band 1 = .ok (.iconst 5, 1) := by decide +kernel
theorem dX9_band_2 : decode cX9_band 2 = .ok (.invokestatic 30, 3) := by decide +kernel
theorem dX9_band_5 : decode cX9_band 5 = .ok (.iload_n 2, 1) := by decide +kernel
theorem dX9_band_6 : decode cX9_band 6 = .ok (.iconst 0, 1) := by decide +kernel
theorem dX9_band_7 : decode cX9_band 7 = .ok (.iconst 2, 1) := by decide +kernel
theorem dX9_band_8 : decode cX9_band 8 = .ok (.invokestatic 34, 3) := by decide +kernel
theorem dX9_band_11 : decode cX9_band 11 = .ok (.aload_n 0, 1) := by decide +kernel
theorem dX9_band_12 : decode cX9_band 12 = .ok (.getfield 10, 3) := by decide +kernel
theorem dX9_band_15 : decode cX9_band 15 = .ok (.getfield 52, 3) := by decide +kernel
theorem dX9_band_18 : decode cX9_band 18 = .ok (.iload_n 1, 1) := by decide +kernel
theorem dX9_band_19 : decode cX9_band 19 = .ok (.aaload, 1) := by decide +kernel
theorem dX9_band_20 : decode cX9_band 20 = .ok (.astore_n 3, 1) := by decide +kernel
theorem dX9_band_21 : decode cX9_band 21 = .ok (.iload_n 2, 1) := by decide +kernel
theorem dX9_band_22 : decode cX9_band 22 = .ok (.lookupswitch 36 #[(0, 26), (1, 31)], 26) := by decide +kernel
theorem dX9_band_48 : decode cX9_band 48 = .ok (.aload_n 3, 1) := by decide +kernel
theorem dX9_band_49 : decode cX9_band 49 = .ok (.getfield 56, 3) := by decide +kernel
theorem dX9_band_52 : decode cX9_band 52 = .ok (.ireturn, 1) := by decide +kernel
theorem dX9_band_53 : decode cX9_band 53 = .ok (.aload_n 3, 1) := by decide +kernel
theorem dX9_band_54 : decode cX9_band 54 = .ok (.getfield 234, 3) := by decide +kernel
theorem dX9_band_57 : decode cX9_band 57 = .ok (.ireturn, 1) := by decide +kernel
theorem dX9_band_58 : decode cX9_band 58 = .ok (.aload_n 3, 1) := by decide +kernel
theorem dX9_band_59 : decode cX9_band 59 = .ok (.getfield 237, 3) := by decide +kernel
theorem dX9_band_62 : decode cX9_band 62 = .ok (.ireturn, 1) := by decide +kernel
theorem dX9_count_0 : decode cX9_count 0 = .ok (.iload_n 1, 1) := by decide +kernel
theorem dX9_count_1 : decode cX9_count 1 = .ok (.iconst 0, 1) := by decide +kernel
theorem dX9_count_2 : decode cX9_count 2 = .ok (.bipush 11, 2) := by decide +kernel
theorem dX9_count_4 : decode cX9_count 4 = .ok (.invokestatic 34, 3) := by decide +kernel
theorem dX9_count_7 : decode cX9_count 7 = .ok (.iload_n 1, 1) := by decide +kernel
theorem dX9_count_8 : decode cX9_count 8 = .ok (.tableswitch 155 0 10 #[60, 68, 77, 86, 95, 104, 115, 123, 131, 139, 147], 60) := by decide +kernel
theorem dX9_count_68 : decode cX9_count 68 = .ok (.aload_n 0, 1) := by decide +kernel
theorem dX9_count_69 : decode cX9_count 69 = .ok (.getfield 10, 3) := by decide +kernel
theorem dX9_count_72 : decode cX9_count 72 = .ok (.getfield 68, 3) := by decide +kernel
theorem dX9_count_75 : decode cX9_count 75 = .ok (.ireturn, 1) := by decide +kernel
theorem dX9_count_76 : decode cX9_count 76 = .ok (.aload_n 0, 1) := by decide +kernel
theorem dX9_count_77 : decode cX9_count 77 = .ok (.getfield 10, 3) := by decide +kernel
theorem dX9_count_80 : decode cX9_count 80 = .ok (.iconst 0, 1) := by decide +kernel
theorem dX9_count_81 : decode cX9_count 81 = .ok (.invokevirtual 240, 3) := by decide +kernel
theorem dX9_count_84 : decode cX9_count 84 = .ok (.ireturn, 1) := by decide +kernel
theorem dX9_count_85 : decode cX9_count 85 = .ok (.aload_n 0, 1) := by decide +kernel
theorem dX9_count_86 : decode cX9_count 86 = .ok (.getfield 10, 3) := by decide +kernel
theorem dX9_count_89 : decode cX9_count 89 = .ok (.iconst 1, 1) := by decide +kernel
theorem dX9_count_90 : decode cX9_count 90 = .ok (.invokevirtual 240, 3) := by decide +kernel
theorem dX9_count_93 : decode cX9_count 93 = .ok (.ireturn, 1) := by decide +kernel
theorem dX9_count_94 : decode cX9_count 94 = .ok (.aload_n 0, 1) := by decide +kernel
theorem dX9_count_95 : decode cX9_count 95 = .ok (.getfield 10, 3) := by decide +kernel
theorem dX9_count_98 : decode cX9_count 98 = .ok (.iconst 2, 1) := by decide +kernel
theorem dX9_count_99 : decode cX9_count 99 = .ok (.invokevirtual 240, 3) := by decide +kernel
theorem dX9_count_102 : decode cX9_count 102 = .ok (.ireturn, 1) := by decide +kernel
theorem dX9_count_103 : decode cX9_count 103 = .ok (.aload_n 0, 1) := by decide +kernel
theorem dX9_count_104 : decode cX9_count 104 = .ok (.getfield 10, 3) := by decide +kernel
theorem dX9_count_107 : decode cX9_count 107 = .ok (.iconst 3, 1) := by decide +kernel
theorem dX9_count_108 : decode cX9_count 108 = .ok (.invokevirtual 240, 3) := by decide +kernel
theorem dX9_count_111 : decode cX9_count 111 = .ok (.ireturn, 1) := by decide +kernel
theorem dX9_count_112 : decode cX9_count 112 = .ok (.aload_n 0, 1) := by decide +kernel
theorem dX9_count_113 : decode cX9_count 113 = .ok (.getfield 10, 3) := by decide +kernel
theorem dX9_count_116 : decode cX9_count 116 = .ok (.getfield 173, 3) := by decide +kernel
theorem dX9_count_119 : decode cX9_count 119 = .ok (.getfield 204, 3) := by decide +kernel
theorem dX9_count_122 : decode cX9_count 122 = .ok (.ireturn, 1) := by decide +kernel
theorem dX9_count_123 : decode cX9_count 123 = .ok (.aload_n 0, 1) := by decide +kernel
theorem dX9_count_124 : decode cX9_count 124 = .ok (.getfield 10, 3) := by decide +kernel
theorem dX9_count_127 : decode cX9_count 127 = .ok (.invokevirtual 243, 3) := by decide +kernel
theorem dX9_count_130 : decode cX9_count 130 = .ok (.ireturn, 1) := by decide +kernel
theorem dX9_count_131 : decode cX9_count 131 = .ok (.aload_n 0, 1) := by decide +kernel
theorem dX9_count_132 : decode cX9_count 132 = .ok (.getfield 10, 3) := by decide +kernel
theorem dX9_count_135 : decode cX9_count 135 = .ok (.invokevirtual 246, 3) := by decide +kernel
theorem dX9_count_138 : decode cX9_count 138 = .ok (.ireturn, 1) := by decide +kernel
theorem dX9_count_139 : decode cX9_count 139 = .ok (.aload_n 0, 1) := by decide +kernel
theorem dX9_count_140 : decode cX9_count 140 = .ok (.getfield 10, 3) := by decide +kernel
theorem dX9_count_143 : decode cX9_count 143 = .ok (.invokevirtual 248, 3) := by decide +kernel
theorem dX9_count_146 : decode cX9_count 146 = .ok (.ireturn, 1) := by decide +kernel
theorem dX9_count_147 : decode cX9_count 147 = .ok (.aload_n 0, 1) := by decide +kernel
theorem dX9_count_148 : decode cX9_count 148 = .ok (.getfield 10, 3) := by decide +kernel
theorem dX9_count_151 : decode cX9_count 151 = .ok (.invokevirtual 251, 3) := by decide +kernel
theorem dX9_count_154 : decode cX9_count 154 = .ok (.ireturn, 1) := by decide +kernel
theorem dX9_count_155 : decode cX9_count 155 = .ok (.aload_n 0, 1) := by decide +kernel
theorem dX9_count_156 : decode cX9_count 156 = .ok (.getfield 10, 3) := by decide +kernel
theorem dX9_count_159 : decode cX9_count 159 = .ok (.invokevirtual 254, 3) := by decide +kernel
theorem dX9_count_162 : decode cX9_count 162 = .ok (.ireturn, 1) := by decide +kernel
theorem dX9_count_163 : decode cX9_count 163 = .ok (.aload_n 0, 1) := by decide +kernel
theorem dX9_count_164 : decode cX9_count 164 = .ok (.getfield 19, 3) := by decide +kernel
theorem dX9_count_167 : decode cX9_count 167 = .ok (.getfield 169, 3) := by decide +kernel
theorem dX9_count_170 : decode cX9_count 170 = .ok (.ireturn, 1) := by decide +kernel
theorem dX9_setting_0 : decode cX9_setting 0 = .ok (.iload_n 1, 1) := by decide +kernel
theorem dX9_setting_1 : decode cX9_setting 1 = .ok (.iconst 2, 1) := by decide +kernel
theorem dX9_setting_2 : decode cX9_setting 2 = .ok (.invokestatic 30, 3) := by decide +kernel
theorem dX9_setting_5 : decode cX9_setting 5 = .ok (.aload_n 0, 1) := by decide +kernel
theorem dX9_setting_6 : decode cX9_setting 6 = .ok (.getfield 10, 3) := by decide +kernel
theorem dX9_setting_9 : decode cX9_setting 9 = .ok (.getfield 65, 3) := by decide +kernel
theorem dX9_setting_12 : decode cX9_setting 12 = .ok (.iload_n 1, 1) := by decide +kernel
theorem dX9_setting_13 : decode cX9_setting 13 = .ok (.iaload, 1) := by decide +kernel
theorem dX9_setting_14 : decode cX9_setting 14 = .ok (.ireturn, 1) := by decide +kernel
theorem dX9_near_0 : decode cX9_near 0 = .ok (.iload_n 1, 1) := by decide +kernel
theorem dX9_near_1 : decode cX9_near 1 = .ok (.aload_n 0, 1) := by decide +kernel
theorem dX9_near_2 : decode cX9_near 2 = .ok (.getfield 10, 3) := by decide +kernel
theorem dX9_near_5 : decode cX9_near 5 = .ok (.getfield 68, 3) := by decide +kernel
theorem dX9_near_8 : decode cX9_near 8 = .ok (.invokestatic 30, 3) := by decide +kernel
theorem dX9_near_11 : decode cX9_near 11 = .ok (.iload_n 2, 1) := by decide +kernel
theorem dX9_near_12 : decode cX9_near 12 = .ok (.aload_n 0, 1) := by decide +kernel
theorem dX9_near_13 : decode cX9_near 13 = .ok (.getfield 10, 3) := by decide +kernel
theorem dX9_near_16 : decode cX9_near 16 = .ok (.getfield 173, 3) := by decide +kernel
theorem dX9_near_19 : decode cX9_near 19 = .ok (.getfield 204, 3) := by decide +kernel
theorem dX9_near_22 : decode cX9_near 22 = .ok (.invokestatic 30, 3) := by decide +kernel
theorem dX9_near_25 : decode cX9_near 25 = .ok (.iload_n 3, 1) := by decide +kernel
theorem dX9_near_26 : decode cX9_near 26 = .ok (.iconst 0, 1) := by decide +kernel
theorem dX9_near_27 : decode cX9_near 27 = .ok (.iconst 2, 1) := by decide +kernel
theorem dX9_near_28 : decode cX9_near 28 = .ok (.invokestatic 34, 3) := by decide +kernel
theorem dX9_near_31 : decode cX9_near 31 = .ok (.aload_n 0, 1) := by decide +kernel
theorem dX9_near_32 : decode cX9_near 32 = .ok (.getfield 10, 3) := by decide +kernel
theorem dX9_near_35 : decode cX9_near 35 = .ok (.getfield 71, 3) := by decide +kernel
theorem dX9_near_38 : decode cX9_near 38 = .ok (.iload_n 1, 1) := by decide +kernel
theorem dX9_near_39 : decode cX9_near 39 = .ok (.aaload, 1) := by decide +kernel
theorem dX9_near_40 : decode cX9_near 40 = .ok (.getfield 94, 3) := by decide +kernel
theorem dX9_near_43 : decode cX9_near 43 = .ok (.astore 4, 2) := by decide +kernel
theorem dX9_near_45 : decode cX9_near 45 = .ok (.aload_n 0, 1) := by decide +kernel
theorem dX9_near_46 : decode cX9_near 46 = .ok (.getfield 10, 3) := by decide +kernel
theorem dX9_near_49 : decode cX9_near 49 = .ok (.getfield 173, 3) := by decide +kernel
theorem dX9_near_52 : decode cX9_near 52 = .ok (.getfield 205, 3) := by decide +kernel
theorem dX9_near_55 : decode cX9_near 55 = .ok (.iload_n 2, 1) := by decide +kernel
theorem dX9_near_56 : decode cX9_near 56 = .ok (.aaload, 1) := by decide +kernel
theorem dX9_near_57 : decode cX9_near 57 = .ok (.astore 5, 2) := by decide +kernel
theorem dX9_near_59 : decode cX9_near 59 = .ok (.iload_n 3, 1) := by decide +kernel
theorem dX9_near_60 : decode cX9_near 60 = .ok (.lookupswitch 46 #[(0, 28), (1, 36)], 28) := by decide +kernel
theorem dX9_near_88 : decode cX9_near 88 = .ok (.aload 4, 2) := by decide +kernel
theorem dX9_near_90 : decode cX9_near 90 = .ok (.aload 5, 2) := by decide +kernel
theorem dX9_near_92 : decode cX9_near 92 = .ok (.invokevirtual 257, 3) := by decide +kernel
theorem dX9_near_95 : decode cX9_near 95 = .ok (.ireturn, 1) := by decide +kernel
theorem dX9_near_96 : decode cX9_near 96 = .ok (.aload 4, 2) := by decide +kernel
theorem dX9_near_98 : decode cX9_near 98 = .ok (.iconst 0, 1) := by decide +kernel
theorem dX9_near_99 : decode cX9_near 99 = .ok (.aload 5, 2) := by decide +kernel
theorem dX9_near_101 : decode cX9_near 101 = .ok (.iconst 0, 1) := by decide +kernel
theorem dX9_near_102 : decode cX9_near 102 = .ok (.invokevirtual 260, 3) := by decide +kernel
theorem dX9_near_105 : decode cX9_near 105 = .ok (.ireturn, 1) := by decide +kernel
theorem dX9_near_106 : decode cX9_near 106 = .ok (.aload 4, 2) := by decide +kernel
theorem dX9_near_108 : decode cX9_near 108 = .ok (.aload 5, 2) := by decide +kernel
theorem dX9_near_110 : decode cX9_near 110 = .ok (.invokevirtual 264, 3) := by decide +kernel
theorem dX9_near_113 : decode cX9_near 113 = .ok (.invokestatic 268, 3) := by decide +kernel
theorem dX9_near_116 : decode cX9_near 116 = .ok (.ireturn, 1) := by decide +kernel
theorem dX9_common_0 : decode cX9_common 0 = .ok (.iload_n 1, 1) := by decide +kernel
theorem dX9_common_1 : decode cX9_common 1 = .ok (.aload_n 0, 1) := by decide +kernel
theorem dX9_common_2 : decode cX9_common 2 = .ok (.getfield 10, 3) := by decide +kernel
theorem dX9_common_5 : decode cX9_common 5 = .ok (.getfield 68, 3) := by decide +kernel
theorem dX9_common_8 : decode cX9_common 8 = .ok (.invokestatic 30, 3) := by decide +kernel
theorem dX9_common_11 : decode cX9_common 11 = .ok (.iload_n 2, 1) := by decide +kernel
theorem dX9_common_12 : decode cX9_common 12 = .ok (.aload_n 0, 1) := by decide +kernel
theorem dX9_common_13 : decode cX9_common 13 = .ok (.getfield 10, 3) := by decide +kernel
theorem dX9_common_16 : decode cX9_common 16 = .ok (.getfield 68, 3) := by decide +kernel
theorem dX9_common_19 : decode cX9_common 19 = .ok (.invokestatic 30, 3) := by decide +kernel
theorem dX9_common_22 : decode cX9_common 22 = .ok (.iload_n 3, 1) := by decide +kernel
theorem dX9_common_23 : decode cX9_common 23 = .ok (.iconst 0, 1) := by decide +kernel
theorem dX9_common_24 : decode cX9_common 24 = .ok (.bipush 11, 2) := by decide +kernel
theorem dX9_common_26 : decode cX9_common 26 = .ok (.invokestatic 34, 3) := by decide +kernel
theorem dX9_common_29 : decode cX9_common 29 = .ok (.aload_n 0, 1) := by decide +kernel
theorem dX9_common_30 : decode cX9_common 30 = .ok (.getfield 10, 3) := by decide +kernel
theorem dX9_common_33 : decode cX9_common 33 = .ok (.getfield 71, 3) := by decide +kernel
theorem dX9_common_36 : decode cX9_common 36 = .ok (.iload_n 1, 1) := by decide +kernel
theorem dX9_common_37 : decode cX9_common 37 = .ok (.aaload, 1) := by decide +kernel
theorem dX9_common_38 : decode cX9_common 38 = .ok (.getfield 94, 3) := by decide +kernel
theorem dX9_common_41 : decode cX9_common 41 = .ok (.aload_n 0, 1) := by decide +kernel
theorem dX9_common_42 : decode cX9_common 42 = .ok (.getfield 10, 3) := by decide +kernel
theorem dX9_common_45 : decode cX9_common 45 = .ok (.getfield 71, 3) := by decide +kernel
theorem dX9_common_48 : decode cX9_common 48 = .ok (.iload_n 2, 1) := by decide +kernel
theorem dX9_common_49 : decode cX9_common 49 = .ok (.aaload, 1) := by decide +kernel
theorem dX9_common_50 : decode cX9_common 50 = .ok (.getfield 94, 3) := by decide +kernel
theorem dX9_common_53 : decode cX9_common 53 = .ok (.iload_n 3, 1) := by decide +kernel
theorem dX9_common_54 : decode cX9_common 54 = .ok (.invokevirtual 272, 3) := by decide +kernel
theorem dX9_common_57 : decode cX9_common 57 = .ok (.ireturn, 1) := by decide +kernel
theorem dX9_ifPaid_0 : decode cX9_ifPaid 0 = .ok (.iload_n 1, 1) := by decide +kernel
theorem dX9_ifPaid_1 : decode cX9_ifPaid 1 = .ok (.aload_n 0, 1) := by decide +kernel
theorem dX9_ifPaid_2 : decode cX9_ifPaid 2 = .ok (.getfield 10, 3) := by decide +kernel
theorem dX9_ifPaid_5 : decode cX9_ifPaid 5 = .ok (.getfield 68, 3) := by decide +kernel
theorem dX9_ifPaid_8 : decode cX9_ifPaid 8 = .ok (.invokestatic 30, 3) := by decide +kernel
theorem dX9_ifPaid_11 : decode cX9_ifPaid 11 = .ok (.iload_n 2, 1) := by decide +kernel
theorem dX9_ifPaid_12 : decode cX9_ifPaid 12 = .ok (.iconst 4, 1) := by decide +kernel
theorem dX9_ifPaid_13 : decode cX9_ifPaid 13 = .ok (.invokestatic 30, 3) := by decide +kernel
theorem dX9_ifPaid_16 : decode cX9_ifPaid 16 = .ok (.aload_n 0, 1) := by decide +kernel
theorem dX9_ifPaid_17 : decode cX9_ifPaid 17 = .ok (.getfield 10, 3) := by decide +kernel
theorem dX9_ifPaid_20 : decode cX9_ifPaid 20 = .ok (.getfield 71, 3) := by decide +kernel
theorem dX9_ifPaid_23 : decode cX9_ifPaid 23 = .ok (.iload_n 1, 1) := by decide +kernel
theorem dX9_ifPaid_24 : decode cX9_ifPaid 24 = .ok (.aaload, 1) := by decide +kernel
theorem dX9_ifPaid_25 : decode cX9_ifPaid 25 = .ok (.astore_n 3, 1) := by decide +kernel
theorem dX9_ifPaid_26 : decode cX9_ifPaid 26 = .ok (.aload_n 3, 1) := by decide +kernel
theorem dX9_ifPaid_27 : decode cX9_ifPaid 27 = .ok (.getfield 75, 3) := by decide +kernel
theorem dX9_ifPaid_30 : decode cX9_ifPaid 30 = .ok (.ifCond .ne 17, 3) := by decide +kernel
theorem dX9_ifPaid_33 : decode cX9_ifPaid 33 = .ok (.aload_n 0, 1) := by decide +kernel
theorem dX9_ifPaid_34 : decode cX9_ifPaid 34 = .ok (.getfield 10, 3) := by decide +kernel
theorem dX9_ifPaid_37 : decode cX9_ifPaid 37 = .ok (.aload_n 3, 1) := by decide +kernel
theorem dX9_ifPaid_38 : decode cX9_ifPaid 38 = .ok (.getfield 94, 3) := by decide +kernel
theorem dX9_ifPaid_41 : decode cX9_ifPaid 41 = .ok (.invokevirtual 275, 3) := by decide +kernel
theorem dX9_ifPaid_44 : decode cX9_ifPaid 44 = .ok (.goto 7, 3) := by decide +kernel
theorem dX9_ifPaid_47 : decode cX9_ifPaid 47 = .ok (.aload_n 3, 1) := by decide +kernel
theorem dX9_ifPaid_48 : decode cX9_ifPaid 48 = .ok (.getfield 187, 3) := by decide +kernel
theorem dX9_ifPaid_51 : decode cX9_ifPaid 51 = .ok (.istore 4, 2) := by decide +kernel
theorem dX9_ifPaid_53 : decode cX9_ifPaid 53 = .ok (.aload_n 3, 1) := by decide +kernel
theorem dX9_ifPaid_54 : decode cX9_ifPaid 54 = .ok (.getfield 94, 3) := by decide +kernel
theorem dX9_ifPaid_57 : decode cX9_ifPaid 57 = .ok (.getfield 108, 3) := by decide +kernel
theorem dX9_ifPaid_60 : decode cX9_ifPaid 60 = .ok (.aload_n 0, 1) := by decide +kernel
theorem dX9_ifPaid_61 : decode cX9_ifPaid 61 = .ok (.getfield 10, 3) := by decide +kernel
theorem dX9_ifPaid_64 : decode cX9_ifPaid 64 = .ok (.getfield 42, 3) := by decide +kernel
theorem dX9_ifPaid_67 : decode cX9_ifPaid 67 = .ok (.iload_n 2, 1) := by decide +kernel
theorem dX9_ifPaid_68 : decode cX9_ifPaid 68 = .ok (.aaload, 1) := by decide +kernel
theorem dX9_ifPaid_69 : decode cX9_ifPaid 69 = .ok (.getfield 46, 3) := by decide +kernel
theorem dX9_ifPaid_72 : decode cX9_ifPaid 72 = .ok (.imul, 1) := by decide +kernel
theorem dX9_ifPaid_73 : decode cX9_ifPaid 73 = .ok (.iload 4, 2) := by decide +kernel
theorem dX9_ifPaid_75 : decode cX9_ifPaid 75 = .ok (.imul, 1) := by decide +kernel
theorem dX9_ifPaid_76 : decode cX9_ifPaid 76 = .ok (.bipush 100, 2) := by decide +kernel
theorem dX9_ifPaid_78 : decode cX9_ifPaid 78 = .ok (.idiv, 1) := by decide +kernel
theorem dX9_ifPaid_79 : decode cX9_ifPaid 79 = .ok (.ireturn, 1) := by decide +kernel
theorem dX9_orderMatters_0 : decode cX9_orderMatters 0 = .ok (.iload_n 1, 1) := by decide +kernel
theorem dX9_orderMatters_1 : decode cX9_orderMatters 1 = .ok (.aload_n 0, 1) := by decide +kernel
theorem dX9_orderMatters_2 : decode cX9_orderMatters 2 = .ok (.getfield 10, 3) := by decide +kernel
theorem dX9_orderMatters_5 : decode cX9_orderMatters 5 = .ok (.getfield 68, 3) := by decide +kernel
theorem dX9_orderMatters_8 : decode cX9_orderMatters 8 = .ok (.invokestatic 30, 3) := by decide +kernel
theorem dX9_orderMatters_11 : decode cX9_orderMatters 11 = .ok (.iload_n 2, 1) := by decide +kernel
theorem dX9_orderMatters_12 : decode cX9_orderMatters 12 = .ok (.aload_n 0, 1) := by decide +kernel
theorem dX9_orderMatters_13 : decode cX9_orderMatters 13 = .ok (.getfield 10, 3) := by decide +kernel
theorem dX9_orderMatters_16 : decode cX9_orderMatters 16 = .ok (.getfield 68, 3) := by decide +kernel
theorem dX9_orderMatters_19 : decode cX9_orderMatters 19 = .ok (.invokestatic 30, 3) := by decide +kernel
theorem dX9_orderMatters_22 : decode cX9_orderMatters 22 = .ok (.iload_n 1, 1) := by decide +kernel
theorem dX9_orderMatters_23 : decode cX9_orderMatters 23 = .ok (.iload_n 2, 1) := by decide +kernel
theorem dX9_orderMatters_24 : decode cX9_orderMatters 24 = .ok (.if_icmp .eq 7, 3) := by decide +kernel
theorem dX9_orderMatters_27 : decode cX9_orderMatters 27 = .ok (.iconst 1, 1) := by decide +kernel
theorem dX9_orderMatters_28 : decode cX9_orderMatters 28 = .ok (.goto 4, 3) := by decide +kernel
theorem dX9_orderMatters_31 : decode cX9_orderMatters 31 = .ok (.iconst 0, 1) := by decide +kernel
theorem dX9_orderMatters_32 : decode cX9_orderMatters 32 = .ok (.invokestatic 149, 3) := by decide +kernel
theorem dX9_orderMatters_35 : decode cX9_orderMatters 35 = .ok (.aload_n 0, 1) := by decide +kernel
theorem dX9_orderMatters_36 : decode cX9_orderMatters 36 = .ok (.getfield 10, 3) := by decide +kernel
theorem dX9_orderMatters_39 : decode cX9_orderMatters 39 = .ok (.getfield 71, 3) := by decide +kernel
theorem dX9_orderMatters_42 : decode cX9_orderMatters 42 = .ok (.iload_n 1, 1) := by decide +kernel
theorem dX9_orderMatters_43 : decode cX9_orderMatters 43 = .ok (.aaload, 1) := by decide +kernel
theorem dX9_orderMatters_44 : decode cX9_orderMatters 44 = .ok (.astore_n 3, 1) := by decide +kernel
theorem dX9_orderMatters_45 : decode cX9_orderMatters 45 = .ok (.aload_n 0, 1) := by decide +kernel
theorem dX9_orderMatters_46 : decode cX9_orderMatters 46 = .ok (.getfield 10, 3) := by decide +kernel
theorem dX9_orderMatters_49 : decode cX9_orderMatters 49 = .ok (.getfield 71, 3) := by decide +kernel
theorem dX9_orderMatters_52 : decode cX9_orderMatters 52 = .ok (.iload_n 2, 1) := by decide +kernel
theorem dX9_orderMatters_53 : decode cX9_orderMatters 53 = .ok (.aaload, 1) := by decide +kernel
theorem dX9_orderMatters_54 : decode cX9_orderMatters 54 = .ok (.astore 4, 2) := by decide +kernel
theorem dX9_orderMatters_56 : decode cX9_orderMatters 56 = .ok (.aload_n 3, 1) := by decide +kernel
theorem dX9_orderMatters_57 : decode cX9_orderMatters 57 = .ok (.getfield 75, 3) := by decide +kernel
theorem dX9_orderMatters_60 : decode cX9_orderMatters 60 = .ok (.ifCond .ne 15, 3) := by decide +kernel
theorem dX9_orderMatters_63 : decode cX9_orderMatters 63 = .ok (.aload 4, 2) := by decide +kernel
theorem dX9_orderMatters_65 : decode cX9_orderMatters 65 = .ok (.getfield 75, 3) := by decide +kernel
theorem dX9_orderMatters_68 : decode cX9_orderMatters 68 = .ok (.ifCond .ne 7, 3) := by decide +kernel
theorem dX9_orderMatters_71 : decode cX9_orderMatters 71 = .ok (.iconst 1, 1) := by decide +kernel
theorem dX9_orderMatters_72 : decode cX9_orderMatters 72 = .ok (.goto 4, 3) := by decide +kernel
theorem dX9_orderMatters_75 : decode cX9_orderMatters 75 = .ok (.iconst 0, 1) := by decide +kernel
theorem dX9_orderMatters_76 : decode cX9_orderMatters 76 = .ok (.invokestatic 80, 3) := by decide +kernel
theorem dX9_orderMatters_79 : decode cX9_orderMatters 79 = .ok (.aload_n 0, 1) := by decide +kernel
theorem dX9_orderMatters_80 : decode cX9_orderMatters 80 = .ok (.getfield 10, 3) := by decide +kernel
theorem dX9_orderMatters_83 : decode cX9_orderMatters 83 = .ok (.aload_n 3, 1) := by decide +kernel
theorem dX9_orderMatters_84 : decode cX9_orderMatters 84 = .ok (.getfield 94, 3) := by decide +kernel
theorem dX9_orderMatters_87 : decode cX9_orderMatters 87 = .ok (.aload 4, 2) := by decide +kernel
theorem dX9_orderMatters_89 : decode cX9_orderMatters 89 = .ok (.getfield 94, 3) := by decide +kernel
theorem dX9_orderMatters_92 : decode cX9_orderMatters 92 = .ok (.invokevirtual 278, 3) := by decide +kernel
theorem dX9_orderMatters_95 : decode cX9_orderMatters 95 = .ok (.aload_n 0, 1) := by decide +kernel
theorem dX9_orderMatters_96 : decode cX9_orderMatters 96 = .ok (.getfield 10, 3) := by decide +kernel
theorem dX9_orderMatters_99 : decode cX9_orderMatters 99 = .ok (.aload 4, 2) := by decide +kernel
theorem dX9_orderMatters_101 : decode cX9_orderMatters 101 = .ok (.getfield 94, 3) := by decide +kernel
theorem dX9_orderMatters_104 : decode cX9_orderMatters 104 = .ok (.aload_n 3, 1) := by decide +kernel
theorem dX9_orderMatters_105 : decode cX9_orderMatters 105 = .ok (.getfield 94, 3) := by decide +kernel
theorem dX9_orderMatters_108 : decode cX9_orderMatters 108 = .ok (.invokevirtual 278, 3) := by decide +kernel
theorem dX9_orderMatters_111 : decode cX9_orderMatters 111 = .ok (.isub, 1) := by decide +kernel
theorem dX9_orderMatters_112 : decode cX9_orderMatters 112 = .ok (.ireturn, 1) := by decide +kernel
theorem dX9_saved_0 : decode cX9_saved 0 = .ok (.aload_n 0, 1) := by decide +kernel
theorem dX9_saved_1 : decode cX9_saved 1 = .ok (.getfield 10, 3) := by decide +kernel
theorem dX9_saved_4 : decode cX9_saved 4 = .ok (.invokevirtual 243, 3) := by decide +kernel
theorem dX9_saved_7 : decode cX9_saved 7 = .ok (.istore_n 1, 1) := by decide +kernel
theorem dX9_saved_8 : decode cX9_saved 8 = .ok (.iload_n 1, 1) := by decide +kernel
theorem dX9_saved_9 : decode cX9_saved 9 = .ok (.ifCond .ne 8, 3) := by decide +kernel
theorem dX9_saved_12 : decode cX9_saved 12 = .ok (.fconst 0, 1) := by decide +kernel
theorem dX9_saved_13 : decode cX9_saved 13 = .ok (.invokestatic 268, 3) := by decide +kernel
theorem dX9_saved_16 : decode cX9_saved 16 = .ok (.ireturn, 1) := by decide +kernel
theorem dX9_saved_17 : decode cX9_saved 17 = .ok (.aload_n 0, 1) := by decide +kernel
theorem dX9_saved_18 : decode cX9_saved 18 = .ok (.getfield 10, 3) := by decide +kernel
theorem dX9_saved_21 : decode cX9_saved 21 = .ok (.invokevirtual 282, 3) := by decide +kernel
theorem dX9_saved_24 : decode cX9_saved 24 = .ok (.i2f, 1) := by decide +kernel
theorem dX9_saved_25 : decode cX9_saved 25 = .ok (.bipush 100, 2) := by decide +kernel
theorem dX9_saved_27 : decode cX9_saved 27 = .ok (.iload_n 1, 1) := by decide +kernel
theorem dX9_saved_28 : decode cX9_saved 28 = .ok (.imul, 1) := by decide +kernel
theorem dX9_saved_29 : decode cX9_saved 29 = .ok (.i2f, 1) := by decide +kernel
theorem dX9_saved_30 : decode cX9_saved 30 = .ok (.fdiv, 1) := by decide +kernel
theorem dX9_saved_31 : decode cX9_saved 31 = .ok (.invokestatic 268, 3) := by decide +kernel
theorem dX9_saved_34 : decode cX9_saved 34 = .ok (.ireturn, 1) := by decide +kernel
theorem dX9_wordCost_0 : decode cX9_wordCost 0 = .ok (.aload_n 0, 1) := by decide +kernel
theorem dX9_wordCost_1 : decode cX9_wordCost 1 = .ok (.getfield 10, 3) := by decide +kernel
theorem dX9_wordCost_4 : decode cX9_wordCost 4 = .ok (.invokevirtual 246, 3) := by decide +kernel
theorem dX9_wordCost_7 : decode cX9_wordCost 7 = .ok (.istore_n 1, 1) := by decide +kernel
theorem dX9_wordCost_8 : decode cX9_wordCost 8 = .ok (.iload_n 1, 1) := by decide +kernel
theorem dX9_wordCost_9 : decode cX9_wordCost 9 = .ok (.ifCond .ne 5, 3) := by decide +kernel
theorem dX9_wordCost_12 : decode cX9_wordCost 12 = .ok (.dconst 0, 1) := by decide +kernel
theorem dX9_wordCost_13 : decode cX9_wordCost 13 = .ok (.dreturn, 1) := by decide +kernel
theorem dX9_wordCost_14 : decode cX9_wordCost 14 = .ok (.aload_n 0, 1) := by decide +kernel
theorem dX9_wordCost_15 : decode cX9_wordCost 15 = .ok (.getfield 10, 3) := by decide +kernel
end
section
theorem dX9_wordCost_18 : decode cX9_wordCost 18 = .ok (.invokevirtual 248, 3) := by decide +kernel
theorem dX9_wordCost_21 : decode cX9_wordCost 21 = .ok (.i2d, 1) := by decide +kernel
theorem dX9_wordCost_22 : decode cX9_wordCost 22 = .ok (.iload_n 1, 1) := by decide +kernel
theorem dX9_wordCost_23 : decode cX9_wordCost 23 = .ok (.i2d, 1) := by decide +kernel
theorem dX9_wordCost_24 : decode cX9_wordCost 24 = .ok (.ddiv, 1) := by decide +kernel
theorem dX9_wordCost_25 : decode cX9_wordCost 25 = .ok (.dreturn, 1) := by decide +kernel
theorem dX9_digest_0 : decode cX9_digest 0 = .ok (.ldc2_w 285, 3) := by decide +kernel
theorem dX9_digest_3 : decode cX9_digest 3 = .ok (.lstore_n 1, 1) := by decide +kernel
theorem dX9_digest_4 : decode cX9_digest 4 = .ok (.iconst 0, 1) := by decide +kernel
theorem dX9_digest_5 : decode cX9_digest 5 = .ok (.istore_n 3, 1) := by decide +kernel
theorem dX9_digest_6 : decode cX9_digest 6 = .ok (.iload_n 3, 1) := by decide +kernel
theorem dX9_digest_7 : decode cX9_digest 7 = .ok (.bipush 11, 2) := by decide +kernel
theorem dX9_digest_9 : decode cX9_digest 9 = .ok (.if_icmp .gt 20, 3) := by decide +kernel
theorem dX9_digest_12 : decode cX9_digest 12 = .ok (.lload_n 1, 1) := by decide +kernel
theorem dX9_digest_13 : decode cX9_digest 13 = .ok (.aload_n 0, 1) := by decide +kernel
theorem dX9_digest_14 : decode cX9_digest 14 = .ok (.iload_n 3, 1) := by decide +kernel
theorem dX9_digest_15 : decode cX9_digest 15 = .ok (.invokevirtual 287, 3) := by decide +kernel
theorem dX9_digest_18 : decode cX9_digest 18 = .ok (.i2l, 1) := by decide +kernel
theorem dX9_digest_19 : decode cX9_digest 19 = .ok (.invokestatic 290, 3) := by decide +kernel
theorem dX9_digest_22 : decode cX9_digest 22 = .ok (.lstore_n 1, 1) := by decide +kernel
theorem dX9_digest_23 : decode cX9_digest 23 = .ok (.iinc 3 1, 3) := by decide +kernel
theorem dX9_digest_26 : decode cX9_digest 26 = .ok (.goto (-20), 3) := by decide +kernel
theorem dX9_digest_29 : decode cX9_digest 29 = .ok (.iconst 0, 1) := by decide +kernel
theorem dX9_digest_30 : decode cX9_digest 30 = .ok (.istore_n 3, 1) := by decide +kernel
theorem dX9_digest_31 : decode cX9_digest 31 = .ok (.iload_n 3, 1) := by decide +kernel
theorem dX9_digest_32 : decode cX9_digest 32 = .ok (.iconst 2, 1) := by decide +kernel
theorem dX9_digest_33 : decode cX9_digest 33 = .ok (.if_icmp .ge 20, 3) := by decide +kernel
theorem dX9_digest_36 : decode cX9_digest 36 = .ok (.lload_n 1, 1) := by decide +kernel
theorem dX9_digest_37 : decode cX9_digest 37 = .ok (.aload_n 0, 1) := by decide +kernel
theorem dX9_digest_38 : decode cX9_digest 38 = .ok (.iload_n 3, 1) := by decide +kernel
theorem dX9_digest_39 : decode cX9_digest 39 = .ok (.invokevirtual 294, 3) := by decide +kernel
theorem dX9_digest_42 : decode cX9_digest 42 = .ok (.i2l, 1) := by decide +kernel
theorem dX9_digest_43 : decode cX9_digest 43 = .ok (.invokestatic 290, 3) := by decide +kernel
theorem dX9_digest_46 : decode cX9_digest 46 = .ok (.lstore_n 1, 1) := by decide +kernel
theorem dX9_digest_47 : decode cX9_digest 47 = .ok (.iinc 3 1, 3) := by decide +kernel
theorem dX9_digest_50 : decode cX9_digest 50 = .ok (.goto (-19), 3) := by decide +kernel
theorem dX9_digest_53 : decode cX9_digest 53 = .ok (.aload_n 0, 1) := by decide +kernel
theorem dX9_digest_54 : decode cX9_digest 54 = .ok (.lload_n 1, 1) := by decide +kernel
theorem dX9_digest_55 : decode cX9_digest 55 = .ok (.invokevirtual 297, 3) := by decide +kernel
theorem dX9_digest_58 : decode cX9_digest 58 = .ok (.lstore_n 1, 1) := by decide +kernel
theorem dX9_digest_59 : decode cX9_digest 59 = .ok (.aload_n 0, 1) := by decide +kernel
theorem dX9_digest_60 : decode cX9_digest 60 = .ok (.lload_n 1, 1) := by decide +kernel
theorem dX9_digest_61 : decode cX9_digest 61 = .ok (.invokevirtual 301, 3) := by decide +kernel
theorem dX9_digest_64 : decode cX9_digest 64 = .ok (.lstore_n 1, 1) := by decide +kernel
theorem dX9_digest_65 : decode cX9_digest 65 = .ok (.aload_n 0, 1) := by decide +kernel
theorem dX9_digest_66 : decode cX9_digest 66 = .ok (.lload_n 1, 1) := by decide +kernel
theorem dX9_digest_67 : decode cX9_digest 67 = .ok (.invokevirtual 304, 3) := by decide +kernel
theorem dX9_digest_70 : decode cX9_digest 70 = .ok (.lstore_n 1, 1) := by decide +kernel
theorem dX9_digest_71 : decode cX9_digest 71 = .ok (.iconst 0, 1) := by decide +kernel
theorem dX9_digest_72 : decode cX9_digest 72 = .ok (.istore_n 3, 1) := by decide +kernel
theorem dX9_digest_73 : decode cX9_digest 73 = .ok (.iload_n 3, 1) := by decide +kernel
theorem dX9_digest_74 : decode cX9_digest 74 = .ok (.aload_n 0, 1) := by decide +kernel
theorem dX9_digest_75 : decode cX9_digest 75 = .ok (.getfield 10, 3) := by decide +kernel
theorem dX9_digest_78 : decode cX9_digest 78 = .ok (.getfield 68, 3) := by decide +kernel
theorem dX9_digest_81 : decode cX9_digest 81 = .ok (.if_icmp .ge 16, 3) := by decide +kernel
theorem dX9_digest_84 : decode cX9_digest 84 = .ok (.aload_n 0, 1) := by decide +kernel
theorem dX9_digest_85 : decode cX9_digest 85 = .ok (.lload_n 1, 1) := by decide +kernel
theorem dX9_digest_86 : decode cX9_digest 86 = .ok (.iload_n 3, 1) := by decide +kernel
theorem dX9_digest_87 : decode cX9_digest 87 = .ok (.invokevirtual 307, 3) := by decide +kernel
theorem dX9_digest_90 : decode cX9_digest 90 = .ok (.lstore_n 1, 1) := by decide +kernel
theorem dX9_digest_91 : decode cX9_digest 91 = .ok (.iinc 3 1, 3) := by decide +kernel
theorem dX9_digest_94 : decode cX9_digest 94 = .ok (.goto (-21), 3) := by decide +kernel
theorem dX9_digest_97 : decode cX9_digest 97 = .ok (.iconst 0, 1) := by decide +kernel
theorem dX9_digest_98 : decode cX9_digest 98 = .ok (.istore_n 3, 1) := by decide +kernel
theorem dX9_digest_99 : decode cX9_digest 99 = .ok (.iload_n 3, 1) := by decide +kernel
theorem dX9_digest_100 : decode cX9_digest 100 = .ok (.aload_n 0, 1) := by decide +kernel
theorem dX9_digest_101 : decode cX9_digest 101 = .ok (.getfield 10, 3) := by decide +kernel
theorem dX9_digest_104 : decode cX9_digest 104 = .ok (.getfield 173, 3) := by decide +kernel
theorem dX9_digest_107 : decode cX9_digest 107 = .ok (.getfield 204, 3) := by decide +kernel
theorem dX9_digest_110 : decode cX9_digest 110 = .ok (.if_icmp .ge 16, 3) := by decide +kernel
theorem dX9_digest_113 : decode cX9_digest 113 = .ok (.aload_n 0, 1) := by decide +kernel
theorem dX9_digest_114 : decode cX9_digest 114 = .ok (.lload_n 1, 1) := by decide +kernel
theorem dX9_digest_115 : decode cX9_digest 115 = .ok (.iload_n 3, 1) := by decide +kernel
theorem dX9_digest_116 : decode cX9_digest 116 = .ok (.invokevirtual 311, 3) := by decide +kernel
theorem dX9_digest_119 : decode cX9_digest 119 = .ok (.lstore_n 1, 1) := by decide +kernel
theorem dX9_digest_120 : decode cX9_digest 120 = .ok (.iinc 3 1, 3) := by decide +kernel
theorem dX9_digest_123 : decode cX9_digest 123 = .ok (.goto (-24), 3) := by decide +kernel
theorem dX9_digest_126 : decode cX9_digest 126 = .ok (.lload_n 1, 1) := by decide +kernel
theorem dX9_digest_127 : decode cX9_digest 127 = .ok (.aload_n 0, 1) := by decide +kernel
theorem dX9_digest_128 : decode cX9_digest 128 = .ok (.invokevirtual 314, 3) := by decide +kernel
theorem dX9_digest_131 : decode cX9_digest 131 = .ok (.i2l, 1) := by decide +kernel
theorem dX9_digest_132 : decode cX9_digest 132 = .ok (.invokestatic 290, 3) := by decide +kernel
theorem dX9_digest_135 : decode cX9_digest 135 = .ok (.lstore_n 1, 1) := by decide +kernel
theorem dX9_digest_136 : decode cX9_digest 136 = .ok (.lload_n 1, 1) := by decide +kernel
theorem dX9_digest_137 : decode cX9_digest 137 = .ok (.aload_n 0, 1) := by decide +kernel
theorem dX9_digest_138 : decode cX9_digest 138 = .ok (.invokevirtual 317, 3) := by decide +kernel
theorem dX9_digest_141 : decode cX9_digest 141 = .ok (.sipush 1023, 3) := by decide +kernel
theorem dX9_digest_144 : decode cX9_digest 144 = .ok (.bipush 52, 2) := by decide +kernel
theorem dX9_digest_146 : decode cX9_digest 146 = .ok (.invokestatic 321, 3) := by decide +kernel
theorem dX9_digest_149 : decode cX9_digest 149 = .ok (.invokestatic 290, 3) := by decide +kernel
theorem dX9_digest_152 : decode cX9_digest 152 = .ok (.lstore_n 1, 1) := by decide +kernel
theorem dX9_digest_153 : decode cX9_digest 153 = .ok (.aload_n 0, 1) := by decide +kernel
theorem dX9_digest_154 : decode cX9_digest 154 = .ok (.lload_n 1, 1) := by decide +kernel
theorem dX9_digest_155 : decode cX9_digest 155 = .ok (.invokevirtual 325, 3) := by decide +kernel
theorem dX9_digest_158 : decode cX9_digest 158 = .ok (.lreturn, 1) := by decide +kernel
theorem dX9_mix_0 : decode cX9_mix 0 = .ok (.ldc2_w 328, 3) := by decide +kernel
theorem dX9_mix_3 : decode cX9_mix 3 = .ok (.lload_n 0, 1) := by decide +kernel
theorem dX9_mix_4 : decode cX9_mix 4 = .ok (.lmul, 1) := by decide +kernel
theorem dX9_mix_5 : decode cX9_mix 5 = .ok (.lload_n 2, 1) := by decide +kernel
theorem dX9_mix_6 : decode cX9_mix 6 = .ok (.ladd, 1) := by decide +kernel
theorem dX9_mix_7 : decode cX9_mix 7 = .ok (.lreturn, 1) := by decide +kernel
theorem dX9_mixTranslators_0 : decode cX9_mixTranslators 0 = .ok (.lload_n 1, 1) := by decide +kernel
theorem dX9_mixTranslators_1 : decode cX9_mixTranslators 1 = .ok (.lstore_n 3, 1) := by decide +kernel
theorem dX9_mixTranslators_2 : decode cX9_mixTranslators 2 = .ok (.iconst 0, 1) := by decide +kernel
theorem dX9_mixTranslators_3 : decode cX9_mixTranslators 3 = .ok (.istore 5, 2) := by decide +kernel
theorem dX9_mixTranslators_5 : decode cX9_mixTranslators 5 = .ok (.iload 5, 2) := by decide +kernel
theorem dX9_mixTranslators_7 : decode cX9_mixTranslators 7 = .ok (.iconst 4, 1) := by decide +kernel
theorem dX9_mixTranslators_8 : decode cX9_mixTranslators 8 = .ok (.if_icmp .ge 39, 3) := by decide +kernel
theorem dX9_mixTranslators_11 : decode cX9_mixTranslators 11 = .ok (.iconst 0, 1) := by decide +kernel
theorem dX9_mixTranslators_12 : decode cX9_mixTranslators 12 = .ok (.istore 6, 2) := by decide +kernel
theorem dX9_mixTranslators_14 : decode cX9_mixTranslators 14 = .ok (.iload 6, 2) := by decide +kernel
theorem dX9_mixTranslators_16 : decode cX9_mixTranslators 16 = .ok (.bipush 6, 2) := by decide +kernel
theorem dX9_mixTranslators_18 : decode cX9_mixTranslators 18 = .ok (.if_icmp .gt 23, 3) := by decide +kernel
theorem dX9_mixTranslators_21 : decode cX9_mixTranslators 21 = .ok (.lload_n 3, 1) := by decide +kernel
theorem dX9_mixTranslators_22 : decode cX9_mixTranslators 22 = .ok (.aload_n 0, 1) := by decide +kernel
theorem dX9_mixTranslators_23 : decode cX9_mixTranslators 23 = .ok (.iload 5, 2) := by decide +kernel
theorem dX9_mixTranslators_25 : decode cX9_mixTranslators 25 = .ok (.iload 6, 2) := by decide +kernel
theorem dX9_mixTranslators_27 : decode cX9_mixTranslators 27 = .ok (.invokevirtual 330, 3) := by decide +kernel
theorem dX9_mixTranslators_30 : decode cX9_mixTranslators 30 = .ok (.i2l, 1) := by decide +kernel
theorem dX9_mixTranslators_31 : decode cX9_mixTranslators 31 = .ok (.invokestatic 290, 3) := by decide +kernel
theorem dX9_mixTranslators_34 : decode cX9_mixTranslators 34 = .ok (.lstore_n 3, 1) := by decide +kernel
theorem dX9_mixTranslators_35 : decode cX9_mixTranslators 35 = .ok (.iinc 6 1, 3) := by decide +kernel
theorem dX9_mixTranslators_38 : decode cX9_mixTranslators 38 = .ok (.goto (-24), 3) := by decide +kernel
theorem dX9_mixTranslators_41 : decode cX9_mixTranslators 41 = .ok (.iinc 5 1, 3) := by decide +kernel
theorem dX9_mixTranslators_44 : decode cX9_mixTranslators 44 = .ok (.goto (-39), 3) := by decide +kernel
theorem dX9_mixTranslators_47 : decode cX9_mixTranslators 47 = .ok (.lload_n 3, 1) := by decide +kernel
theorem dX9_mixTranslators_48 : decode cX9_mixTranslators 48 = .ok (.lreturn, 1) := by decide +kernel
theorem dX9_mixTerms_0 : decode cX9_mixTerms 0 = .ok (.lload_n 1, 1) := by decide +kernel
theorem dX9_mixTerms_1 : decode cX9_mixTerms 1 = .ok (.lstore_n 3, 1) := by decide +kernel
theorem dX9_mixTerms_2 : decode cX9_mixTerms 2 = .ok (.iconst 0, 1) := by decide +kernel
theorem dX9_mixTerms_3 : decode cX9_mixTerms 3 = .ok (.istore 5, 2) := by decide +kernel
theorem dX9_mixTerms_5 : decode cX9_mixTerms 5 = .ok (.iload 5, 2) := by decide +kernel
theorem dX9_mixTerms_7 : decode cX9_mixTerms 7 = .ok (.bipush 8, 2) := by decide +kernel
theorem dX9_mixTerms_9 : decode cX9_mixTerms 9 = .ok (.if_icmp .ge 39, 3) := by decide +kernel
theorem dX9_mixTerms_12 : decode cX9_mixTerms 12 = .ok (.iconst 0, 1) := by decide +kernel
theorem dX9_mixTerms_13 : decode cX9_mixTerms 13 = .ok (.istore 6, 2) := by decide +kernel
theorem dX9_mixTerms_15 : decode cX9_mixTerms 15 = .ok (.iload 6, 2) := by decide +kernel
theorem dX9_mixTerms_17 : decode cX9_mixTerms 17 = .ok (.bipush 7, 2) := by decide +kernel
theorem dX9_mixTerms_19 : decode cX9_mixTerms 19 = .ok (.if_icmp .gt 23, 3) := by decide +kernel
theorem dX9_mixTerms_22 : decode cX9_mixTerms 22 = .ok (.lload_n 3, 1) := by decide +kernel
theorem dX9_mixTerms_23 : decode cX9_mixTerms 23 = .ok (.aload_n 0, 1) := by decide +kernel
theorem dX9_mixTerms_24 : decode cX9_mixTerms 24 = .ok (.iload 5, 2) := by decide +kernel
theorem dX9_mixTerms_26 : decode cX9_mixTerms 26 = .ok (.iload 6, 2) := by decide +kernel
theorem dX9_mixTerms_28 : decode cX9_mixTerms 28 = .ok (.invokevirtual 333, 3) := by decide +kernel
theorem dX9_mixTerms_31 : decode cX9_mixTerms 31 = .ok (.i2l, 1) := by decide +kernel
theorem dX9_mixTerms_32 : decode cX9_mixTerms 32 = .ok (.invokestatic 290, 3) := by decide +kernel
theorem dX9_mixTerms_35 : decode cX9_mixTerms 35 = .ok (.lstore_n 3, 1) := by decide +kernel
theorem dX9_mixTerms_36 : decode cX9_mixTerms 36 = .ok (.iinc 6 1, 3) := by decide +kernel
theorem dX9_mixTerms_39 : decode cX9_mixTerms 39 = .ok (.goto (-24), 3) := by decide +kernel
theorem dX9_mixTerms_42 : decode cX9_mixTerms 42 = .ok (.iinc 5 1, 3) := by decide +kernel
theorem dX9_mixTerms_45 : decode cX9_mixTerms 45 = .ok (.goto (-40), 3) := by decide +kernel
theorem dX9_mixTerms_48 : decode cX9_mixTerms 48 = .ok (.lload_n 3, 1) := by decide +kernel
theorem dX9_mixTerms_49 : decode cX9_mixTerms 49 = .ok (.lreturn, 1) := by decide +kernel
theorem dX9_mixBands_0 : decode cX9_mixBands 0 = .ok (.lload_n 1, 1) := by decide +kernel
theorem dX9_mixBands_1 : decode cX9_mixBands 1 = .ok (.lstore_n 3, 1) := by decide +kernel
theorem dX9_mixBands_2 : decode cX9_mixBands 2 = .ok (.iconst 0, 1) := by decide +kernel
theorem dX9_mixBands_3 : decode cX9_mixBands 3 = .ok (.istore 5, 2) := by decide +kernel
theorem dX9_mixBands_5 : decode cX9_mixBands 5 = .ok (.iload 5, 2) := by decide +kernel
theorem dX9_mixBands_7 : decode cX9_mixBands 7 = .ok (.iconst 5, 1) := by decide +kernel
theorem dX9_mixBands_8 : decode cX9_mixBands 8 = .ok (.if_icmp .ge 38, 3) := by decide +kernel
theorem dX9_mixBands_11 : decode cX9_mixBands 11 = .ok (.iconst 0, 1) := by decide +kernel
theorem dX9_mixBands_12 : decode cX9_mixBands 12 = .ok (.istore 6, 2) := by decide +kernel
theorem dX9_mixBands_14 : decode cX9_mixBands 14 = .ok (.iload 6, 2) := by decide +kernel
theorem dX9_mixBands_16 : decode cX9_mixBands 16 = .ok (.iconst 2, 1) := by decide +kernel
theorem dX9_mixBands_17 : decode cX9_mixBands 17 = .ok (.if_icmp .gt 23, 3) := by decide +kernel
theorem dX9_mixBands_20 : decode cX9_mixBands 20 = .ok (.lload_n 3, 1) := by decide +kernel
theorem dX9_mixBands_21 : decode cX9_mixBands 21 = .ok (.aload_n 0, 1) := by decide +kernel
theorem dX9_mixBands_22 : decode cX9_mixBands 22 = .ok (.iload 5, 2) := by decide +kernel
theorem dX9_mixBands_24 : decode cX9_mixBands 24 = .ok (.iload 6, 2) := by decide +kernel
theorem dX9_mixBands_26 : decode cX9_mixBands 26 = .ok (.invokevirtual 336, 3) := by decide +kernel
theorem dX9_mixBands_29 : decode cX9_mixBands 29 = .ok (.i2l, 1) := by decide +kernel
theorem dX9_mixBands_30 : decode cX9_mixBands 30 = .ok (.invokestatic 290, 3) := by decide +kernel
theorem dX9_mixBands_33 : decode cX9_mixBands 33 = .ok (.lstore_n 3, 1) := by decide +kernel
theorem dX9_mixBands_34 : decode cX9_mixBands 34 = .ok (.iinc 6 1, 3) := by decide +kernel
theorem dX9_mixBands_37 : decode cX9_mixBands 37 = .ok (.goto (-23), 3) := by decide +kernel
theorem dX9_mixBands_40 : decode cX9_mixBands 40 = .ok (.iinc 5 1, 3) := by decide +kernel
theorem dX9_mixBands_43 : decode cX9_mixBands 43 = .ok (.goto (-38), 3) := by decide +kernel
theorem dX9_mixBands_46 : decode cX9_mixBands 46 = .ok (.lload_n 3, 1) := by decide +kernel
theorem dX9_mixBands_47 : decode cX9_mixBands 47 = .ok (.lreturn, 1) := by decide +kernel
theorem dX9_mixSegment_0 : decode cX9_mixSegment 0 = .ok (.lload_n 1, 1) := by decide +kernel
theorem dX9_mixSegment_1 : decode cX9_mixSegment 1 = .ok (.lstore 4, 2) := by decide +kernel
theorem dX9_mixSegment_3 : decode cX9_mixSegment 3 = .ok (.iconst 0, 1) := by decide +kernel
theorem dX9_mixSegment_4 : decode cX9_mixSegment 4 = .ok (.istore 6, 2) := by decide +kernel
theorem dX9_mixSegment_6 : decode cX9_mixSegment 6 = .ok (.iload 6, 2) := by decide +kernel
theorem dX9_mixSegment_8 : decode cX9_mixSegment 8 = .ok (.bipush 11, 2) := by decide +kernel
theorem dX9_mixSegment_10 : decode cX9_mixSegment 10 = .ok (.if_icmp .gt 24, 3) := by decide +kernel
theorem dX9_mixSegment_13 : decode cX9_mixSegment 13 = .ok (.lload 4, 2) := by decide +kernel
theorem dX9_mixSegment_15 : decode cX9_mixSegment 15 = .ok (.aload_n 0, 1) := by decide +kernel
theorem dX9_mixSegment_16 : decode cX9_mixSegment 16 = .ok (.iload_n 3, 1) := by decide +kernel
theorem dX9_mixSegment_17 : decode cX9_mixSegment 17 = .ok (.iload 6, 2) := by decide +kernel
theorem dX9_mixSegment_19 : decode cX9_mixSegment 19 = .ok (.invokevirtual 338, 3) := by decide +kernel
theorem dX9_mixSegment_22 : decode cX9_mixSegment 22 = .ok (.i2l, 1) := by decide +kernel
theorem dX9_mixSegment_23 : decode cX9_mixSegment 23 = .ok (.invokestatic 290, 3) := by decide +kernel
theorem dX9_mixSegment_26 : decode cX9_mixSegment 26 = .ok (.lstore 4, 2) := by decide +kernel
theorem dX9_mixSegment_28 : decode cX9_mixSegment 28 = .ok (.iinc 6 1, 3) := by decide +kernel
theorem dX9_mixSegment_31 : decode cX9_mixSegment 31 = .ok (.goto (-25), 3) := by decide +kernel
theorem dX9_mixSegment_34 : decode cX9_mixSegment 34 = .ok (.lload 4, 2) := by decide +kernel
theorem dX9_mixSegment_36 : decode cX9_mixSegment 36 = .ok (.aload_n 0, 1) := by decide +kernel
theorem dX9_mixSegment_37 : decode cX9_mixSegment 37 = .ok (.getfield 10, 3) := by decide +kernel
theorem dX9_mixSegment_40 : decode cX9_mixSegment 40 = .ok (.getfield 71, 3) := by decide +kernel
theorem dX9_mixSegment_43 : decode cX9_mixSegment 43 = .ok (.iload_n 3, 1) := by decide +kernel
theorem dX9_mixSegment_44 : decode cX9_mixSegment 44 = .ok (.aaload, 1) := by decide +kernel
theorem dX9_mixSegment_45 : decode cX9_mixSegment 45 = .ok (.getfield 94, 3) := by decide +kernel
theorem dX9_mixSegment_48 : decode cX9_mixSegment 48 = .ok (.invokestatic 341, 3) := by decide +kernel
theorem dX9_mixSegment_51 : decode cX9_mixSegment 51 = .ok (.lstore 4, 2) := by decide +kernel
theorem dX9_mixSegment_53 : decode cX9_mixSegment 53 = .ok (.iconst 0, 1) := by decide +kernel
theorem dX9_mixSegment_54 : decode cX9_mixSegment 54 = .ok (.istore 6, 2) := by decide +kernel
theorem dX9_mixSegment_56 : decode cX9_mixSegment 56 = .ok (.iload 6, 2) := by decide +kernel
theorem dX9_mixSegment_58 : decode cX9_mixSegment 58 = .ok (.iconst 4, 1) := by decide +kernel
theorem dX9_mixSegment_59 : decode cX9_mixSegment 59 = .ok (.if_icmp .ge 24, 3) := by decide +kernel
theorem dX9_mixSegment_62 : decode cX9_mixSegment 62 = .ok (.lload 4, 2) := by decide +kernel
theorem dX9_mixSegment_64 : decode cX9_mixSegment 64 = .ok (.aload_n 0, 1) := by decide +kernel
theorem dX9_mixSegment_65 : decode cX9_mixSegment 65 = .ok (.iload_n 3, 1) := by decide +kernel
theorem dX9_mixSegment_66 : decode cX9_mixSegment 66 = .ok (.iload 6, 2) := by decide +kernel
theorem dX9_mixSegment_68 : decode cX9_mixSegment 68 = .ok (.invokevirtual 345, 3) := by decide +kernel
theorem dX9_mixSegment_71 : decode cX9_mixSegment 71 = .ok (.i2l, 1) := by decide +kernel
theorem dX9_mixSegment_72 : decode cX9_mixSegment 72 = .ok (.invokestatic 290, 3) := by decide +kernel
theorem dX9_mixSegment_75 : decode cX9_mixSegment 75 = .ok (.lstore 4, 2) := by decide +kernel
theorem dX9_mixSegment_77 : decode cX9_mixSegment 77 = .ok (.iinc 6 1, 3) := by decide +kernel
theorem dX9_mixSegment_80 : decode cX9_mixSegment 80 = .ok (.goto (-24), 3) := by decide +kernel
theorem dX9_mixSegment_83 : decode cX9_mixSegment 83 = .ok (.iconst 0, 1) := by decide +kernel
theorem dX9_mixSegment_84 : decode cX9_mixSegment 84 = .ok (.istore 6, 2) := by decide +kernel
theorem dX9_mixSegment_86 : decode cX9_mixSegment 86 = .ok (.iload 6, 2) := by decide +kernel
theorem dX9_mixSegment_88 : decode cX9_mixSegment 88 = .ok (.iconst 3, 1) := by decide +kernel
theorem dX9_mixSegment_89 : decode cX9_mixSegment 89 = .ok (.if_icmp .ge 25, 3) := by decide +kernel
theorem dX9_mixSegment_92 : decode cX9_mixSegment 92 = .ok (.lload 4, 2) := by decide +kernel
theorem dX9_mixSegment_94 : decode cX9_mixSegment 94 = .ok (.aload_n 0, 1) := by decide +kernel
theorem dX9_mixSegment_95 : decode cX9_mixSegment 95 = .ok (.iload_n 3, 1) := by decide +kernel
theorem dX9_mixSegment_96 : decode cX9_mixSegment 96 = .ok (.iconst 0, 1) := by decide +kernel
theorem dX9_mixSegment_97 : decode cX9_mixSegment 97 = .ok (.iload 6, 2) := by decide +kernel
theorem dX9_mixSegment_99 : decode cX9_mixSegment 99 = .ok (.invokevirtual 348, 3) := by decide +kernel
theorem dX9_mixSegment_102 : decode cX9_mixSegment 102 = .ok (.i2l, 1) := by decide +kernel
theorem dX9_mixSegment_103 : decode cX9_mixSegment 103 = .ok (.invokestatic 290, 3) := by decide +kernel
theorem dX9_mixSegment_106 : decode cX9_mixSegment 106 = .ok (.lstore 4, 2) := by decide +kernel
theorem dX9_mixSegment_108 : decode cX9_mixSegment 108 = .ok (.iinc 6 1, 3) := by decide +kernel
theorem dX9_mixSegment_111 : decode cX9_mixSegment 111 = .ok (.goto (-25), 3) := by decide +kernel
theorem dX9_mixSegment_114 : decode cX9_mixSegment 114 = .ok (.lload 4, 2) := by decide +kernel
theorem dX9_mixSegment_116 : decode cX9_mixSegment 116 = .ok (.lreturn, 1) := by decide +kernel
theorem dX9_mixRemembered_0 : decode cX9_mixRemembered 0 = .ok (.lload_n 1, 1) := by decide +kernel
theorem dX9_mixRemembered_1 : decode cX9_mixRemembered 1 = .ok (.aload_n 0, 1) := by decide +kernel
theorem dX9_mixRemembered_2 : decode cX9_mixRemembered 2 = .ok (.getfield 10, 3) := by decide +kernel
theorem dX9_mixRemembered_5 : decode cX9_mixRemembered 5 = .ok (.getfield 173, 3) := by decide +kernel
theorem dX9_mixRemembered_8 : decode cX9_mixRemembered 8 = .ok (.getfield 205, 3) := by decide +kernel
theorem dX9_mixRemembered_11 : decode cX9_mixRemembered 11 = .ok (.iload_n 3, 1) := by decide +kernel
theorem dX9_mixRemembered_12 : decode cX9_mixRemembered 12 = .ok (.aaload, 1) := by decide +kernel
theorem dX9_mixRemembered_13 : decode cX9_mixRemembered 13 = .ok (.invokestatic 341, 3) := by decide +kernel
theorem dX9_mixRemembered_16 : decode cX9_mixRemembered 16 = .ok (.lstore 4, 2) := by decide +kernel
theorem dX9_mixRemembered_18 : decode cX9_mixRemembered 18 = .ok (.iconst 0, 1) := by decide +kernel
theorem dX9_mixRemembered_19 : decode cX9_mixRemembered 19 = .ok (.istore 6, 2) := by decide +kernel
theorem dX9_mixRemembered_21 : decode cX9_mixRemembered 21 = .ok (.iload 6, 2) := by decide +kernel
theorem dX9_mixRemembered_23 : decode cX9_mixRemembered 23 = .ok (.iconst 2, 1) := by decide +kernel
theorem dX9_mixRemembered_24 : decode cX9_mixRemembered 24 = .ok (.if_icmp .gt 25, 3) := by decide +kernel
theorem dX9_mixRemembered_27 : decode cX9_mixRemembered 27 = .ok (.lload 4, 2) := by decide +kernel
theorem dX9_mixRemembered_29 : decode cX9_mixRemembered 29 = .ok (.aload_n 0, 1) := by decide +kernel
theorem dX9_mixRemembered_30 : decode cX9_mixRemembered 30 = .ok (.iconst 0, 1) := by decide +kernel
theorem dX9_mixRemembered_31 : decode cX9_mixRemembered 31 = .ok (.iload_n 3, 1) := by decide +kernel
theorem dX9_mixRemembered_32 : decode cX9_mixRemembered 32 = .ok (.iload 6, 2) := by decide +kernel
theorem dX9_mixRemembered_34 : decode cX9_mixRemembered 34 = .ok (.invokevirtual 352, 3) := by decide +kernel
theorem dX9_mixRemembered_37 : decode cX9_mixRemembered 37 = .ok (.i2l, 1) := by decide +kernel
theorem dX9_mixRemembered_38 : decode cX9_mixRemembered 38 = .ok (.invokestatic 290, 3) := by decide +kernel
theorem dX9_mixRemembered_41 : decode cX9_mixRemembered 41 = .ok (.lstore 4, 2) := by decide +kernel
theorem dX9_mixRemembered_43 : decode cX9_mixRemembered 43 = .ok (.iinc 6 1, 3) := by decide +kernel
theorem dX9_mixRemembered_46 : decode cX9_mixRemembered 46 = .ok (.goto (-25), 3) := by decide +kernel
theorem dX9_mixRemembered_49 : decode cX9_mixRemembered 49 = .ok (.lload 4, 2) := by decide +kernel
theorem dX9_mixRemembered_51 : decode cX9_mixRemembered 51 = .ok (.lreturn, 1) := by decide +kernel
theorem dX9_mixRow_0 : decode cX9_mixRow 0 = .ok (.lload_n 0, 1) := by decide +kernel
theorem dX9_mixRow_1 : decode cX9_mixRow 1 = .ok (.lstore_n 3, 1) := by decide +kernel
theorem dX9_mixRow_2 : decode cX9_mixRow 2 = .ok (.aload_n 2, 1) := by decide +kernel
theorem dX9_mixRow_3 : decode cX9_mixRow 3 = .ok (.getfield 355, 3) := by decide +kernel
theorem dX9_mixRow_6 : decode cX9_mixRow 6 = .ok (.astore 5, 2) := by decide +kernel
theorem dX9_mixRow_8 : decode cX9_mixRow 8 = .ok (.aload 5, 2) := by decide +kernel
theorem dX9_mixRow_10 : decode cX9_mixRow 10 = .ok (.arraylength, 1) := by decide +kernel
theorem dX9_mixRow_11 : decode cX9_mixRow 11 = .ok (.istore 6, 2) := by decide +kernel
theorem dX9_mixRow_13 : decode cX9_mixRow 13 = .ok (.iconst 0, 1) := by decide +kernel
theorem dX9_mixRow_14 : decode cX9_mixRow 14 = .ok (.istore 7, 2) := by decide +kernel
theorem dX9_mixRow_16 : decode cX9_mixRow 16 = .ok (.iload 7, 2) := by decide +kernel
theorem dX9_mixRow_18 : decode cX9_mixRow 18 = .ok (.iload 6, 2) := by decide +kernel
theorem dX9_mixRow_20 : decode cX9_mixRow 20 = .ok (.if_icmp .ge 24, 3) := by decide +kernel
theorem dX9_mixRow_23 : decode cX9_mixRow 23 = .ok (.aload 5, 2) := by decide +kernel
theorem dX9_mixRow_25 : decode cX9_mixRow 25 = .ok (.iload 7, 2) := by decide +kernel
theorem dX9_mixRow_27 : decode cX9_mixRow 27 = .ok (.iaload, 1) := by decide +kernel
theorem dX9_mixRow_28 : decode cX9_mixRow 28 = .ok (.istore 8, 2) := by decide +kernel
theorem dX9_mixRow_30 : decode cX9_mixRow 30 = .ok (.lload_n 3, 1) := by decide +kernel
theorem dX9_mixRow_31 : decode cX9_mixRow 31 = .ok (.iload 8, 2) := by decide +kernel
theorem dX9_mixRow_33 : decode cX9_mixRow 33 = .ok (.i2l, 1) := by decide +kernel
theorem dX9_mixRow_34 : decode cX9_mixRow 34 = .ok (.invokestatic 290, 3) := by decide +kernel
theorem dX9_mixRow_37 : decode cX9_mixRow 37 = .ok (.lstore_n 3, 1) := by decide +kernel
theorem dX9_mixRow_38 : decode cX9_mixRow 38 = .ok (.iinc 7 1, 3) := by decide +kernel
theorem dX9_mixRow_41 : decode cX9_mixRow 41 = .ok (.goto (-25), 3) := by decide +kernel
theorem dX9_mixRow_44 : decode cX9_mixRow 44 = .ok (.lload_n 3, 1) := by decide +kernel
theorem dX9_mixRow_45 : decode cX9_mixRow 45 = .ok (.lreturn, 1) := by decide +kernel
theorem dX9_mixBuffer_0 : decode cX9_mixBuffer 0 = .ok (.lload_n 1, 1) := by decide +kernel
theorem dX9_mixBuffer_1 : decode cX9_mixBuffer 1 = .ok (.aload_n 0, 1) := by decide +kernel
theorem dX9_mixBuffer_2 : decode cX9_mixBuffer 2 = .ok (.getfield 26, 3) := by decide +kernel
theorem dX9_mixBuffer_5 : decode cX9_mixBuffer 5 = .ok (.getfield 137, 3) := by decide +kernel
theorem dX9_mixBuffer_8 : decode cX9_mixBuffer 8 = .ok (.i2l, 1) := by decide +kernel
theorem dX9_mixBuffer_9 : decode cX9_mixBuffer 9 = .ok (.invokestatic 290, 3) := by decide +kernel
theorem dX9_mixBuffer_12 : decode cX9_mixBuffer 12 = .ok (.lstore_n 3, 1) := by decide +kernel
theorem dX9_mixBuffer_13 : decode cX9_mixBuffer 13 = .ok (.iconst 0, 1) := by decide +kernel
theorem dX9_mixBuffer_14 : decode cX9_mixBuffer 14 = .ok (.istore 5, 2) := by decide +kernel
theorem dX9_mixBuffer_16 : decode cX9_mixBuffer 16 = .ok (.iload 5, 2) := by decide +kernel
theorem dX9_mixBuffer_18 : decode cX9_mixBuffer 18 = .ok (.aload_n 0, 1) := by decide +kernel
theorem dX9_mixBuffer_19 : decode cX9_mixBuffer 19 = .ok (.getfield 26, 3) := by decide +kernel
theorem dX9_mixBuffer_22 : decode cX9_mixBuffer 22 = .ok (.getfield 137, 3) := by decide +kernel
theorem dX9_mixBuffer_25 : decode cX9_mixBuffer 25 = .ok (.if_icmp .ge 25, 3) := by decide +kernel
theorem dX9_mixBuffer_28 : decode cX9_mixBuffer 28 = .ok (.lload_n 3, 1) := by decide +kernel
theorem dX9_mixBuffer_29 : decode cX9_mixBuffer 29 = .ok (.aload_n 0, 1) := by decide +kernel
theorem dX9_mixBuffer_30 : decode cX9_mixBuffer 30 = .ok (.getfield 26, 3) := by decide +kernel
theorem dX9_mixBuffer_33 : decode cX9_mixBuffer 33 = .ok (.getfield 138, 3) := by decide +kernel
theorem dX9_mixBuffer_36 : decode cX9_mixBuffer 36 = .ok (.iload 5, 2) := by decide +kernel
theorem dX9_mixBuffer_38 : decode cX9_mixBuffer 38 = .ok (.iaload, 1) := by decide +kernel
theorem dX9_mixBuffer_39 : decode cX9_mixBuffer 39 = .ok (.i2l, 1) := by decide +kernel
theorem dX9_mixBuffer_40 : decode cX9_mixBuffer 40 = .ok (.invokestatic 290, 3) := by decide +kernel
theorem dX9_mixBuffer_43 : decode cX9_mixBuffer 43 = .ok (.lstore_n 3, 1) := by decide +kernel
theorem dX9_mixBuffer_44 : decode cX9_mixBuffer 44 = .ok (.iinc 5 1, 3) := by decide +kernel
theorem dX9_mixBuffer_47 : decode cX9_mixBuffer 47 = .ok (.goto (-31), 3) := by decide +kernel
theorem dX9_mixBuffer_50 : decode cX9_mixBuffer 50 = .ok (.lload_n 3, 1) := by decide +kernel
theorem dX9_mixBuffer_51 : decode cX9_mixBuffer 51 = .ok (.lreturn, 1) := by decide +kernel
theorem dX9_checkNumber_0 : decode cX9_checkNumber 0 = .ok (.iload_n 0, 1) := by decide +kernel
theorem dX9_checkNumber_1 : decode cX9_checkNumber 1 = .ok (.ifCond .lt 8, 3) := by decide +kernel
theorem dX9_checkNumber_4 : decode cX9_checkNumber 4 = .ok (.iload_n 0, 1) := by decide +kernel
theorem dX9_checkNumber_5 : decode cX9_checkNumber 5 = .ok (.iload_n 1, 1) := by decide +kernel
theorem dX9_checkNumber_6 : decode cX9_checkNumber 6 = .ok (.if_icmp .lt 14, 3) := by decide +kernel
theorem dX9_checkNumber_9 : decode cX9_checkNumber 9 = .ok (.new 357, 3) := by decide +kernel
theorem dX9_checkNumber_12 : decode cX9_checkNumber 12 = .ok (.dup, 1) := by decide +kernel
theorem dX9_checkNumber_13 : decode cX9_checkNumber 13 = .ok (.ldc_w 359, 3) := by decide +kernel
theorem dX9_checkNumber_16 : decode cX9_checkNumber 16 = .ok (.invokespecial 361, 3) := by decide +kernel
theorem dX9_checkNumber_19 : decode cX9_checkNumber 19 = .ok (.athrow, 1) := by decide +kernel
theorem dX9_checkNumber_20 : decode cX9_checkNumber 20 = .ok (.return_, 1) := by decide +kernel
theorem dX9_checkRange_0 : decode cX9_checkRange 0 = .ok (.iload_n 0, 1) := by decide +kernel
theorem dX9_checkRange_1 : decode cX9_checkRange 1 = .ok (.iload_n 1, 1) := by decide +kernel
theorem dX9_checkRange_2 : decode cX9_checkRange 2 = .ok (.if_icmp .lt 8, 3) := by decide +kernel
theorem dX9_checkRange_5 : decode cX9_checkRange 5 = .ok (.iload_n 0, 1) := by decide +kernel
theorem dX9_checkRange_6 : decode cX9_checkRange 6 = .ok (.iload_n 2, 1) := by decide +kernel
theorem dX9_checkRange_7 : decode cX9_checkRange 7 = .ok (.if_icmp .le 14, 3) := by decide +kernel
theorem dX9_checkRange_10 : decode cX9_checkRange 10 = .ok (.new 364, 3) := by decide +kernel
theorem dX9_checkRange_13 : decode cX9_checkRange 13 = .ok (.dup, 1) := by decide +kernel
theorem dX9_checkRange_14 : decode cX9_checkRange 14 = .ok (.ldc_w 366, 3) := by decide +kernel
theorem dX9_checkRange_17 : decode cX9_checkRange 17 = .ok (.invokespecial 368, 3) := by decide +kernel
theorem dX9_checkRange_20 : decode cX9_checkRange 20 = .ok (.athrow, 1) := by decide +kernel
theorem dX9_checkRange_21 : decode cX9_checkRange 21 = .ok (.return_, 1) := by decide +kernel
theorem dX9_checkArgument_0 : decode cX9_checkArgument 0 = .ok (.iload_n 0, 1) := by decide +kernel
theorem dX9_checkArgument_1 : decode cX9_checkArgument 1 = .ok (.ifCond .ne 14, 3) := by decide +kernel
theorem dX9_checkArgument_4 : decode cX9_checkArgument 4 = .ok (.new 364, 3) := by decide +kernel
theorem dX9_checkArgument_7 : decode cX9_checkArgument 7 = .ok (.dup, 1) := by decide +kernel
theorem dX9_checkArgument_8 : decode cX9_checkArgument 8 = .ok (.ldc_w 369, 3) := by decide +kernel
theorem dX9_checkArgument_11 : decode cX9_checkArgument 11 = .ok (.invokespecial 368, 3) := by decide +kernel
theorem dX9_checkArgument_14 : decode cX9_checkArgument 14 = .ok (.athrow, 1) := by decide +kernel
theorem dX9_checkArgument_15 : decode cX9_checkArgument 15 = .ok (.return_, 1) := by decide +kernel
theorem dX9_checkState_0 : decode cX9_checkState 0 = .ok (.iload_n 0, 1) := by decide +kernel
theorem dX9_checkState_1 : decode cX9_checkState 1 = .ok (.ifCond .ne 14, 3) := by decide +kernel
theorem dX9_checkState_4 : decode cX9_checkState 4 = .ok (.new 371, 3) := by decide +kernel
theorem dX9_checkState_7 : decode cX9_checkState 7 = .ok (.dup, 1) := by decide +kernel
theorem dX9_checkState_8 : decode cX9_checkState 8 = .ok (.ldc_w 373, 3) := by decide +kernel
theorem dX9_checkState_11 : decode cX9_checkState 11 = .ok (.invokespecial 375, 3) := by decide +kernel
theorem dX9_checkState_14 : decode cX9_checkState 14 = .ok (.athrow, 1) := by decide +kernel
theorem dX9_checkState_15 : decode cX9_checkState 15 = .ok (.return_, 1) := by decide +kernel
theorem dX9_oneIf_0 : decode cX9_oneIf 0 = .ok (.iload_n 0, 1) := by decide +kernel
theorem dX9_oneIf_1 : decode cX9_oneIf 1 = .ok (.ifCond .eq 7, 3) := by decide +kernel
theorem dX9_oneIf_4 : decode cX9_oneIf 4 = .ok (.iconst 1, 1) := by decide +kernel
theorem dX9_oneIf_5 : decode cX9_oneIf 5 = .ok (.goto 4, 3) := by decide +kernel
theorem dX9_oneIf_8 : decode cX9_oneIf 8 = .ok (.iconst 0, 1) := by decide +kernel
theorem dX9_oneIf_9 : decode cX9_oneIf 9 = .ok (.ireturn, 1) := by decide +kernel
theorem dX9_floatBits_0 : decode cX9_floatBits 0 = .ok (.fload_n 0, 1) := by decide +kernel
theorem dX9_floatBits_1 : decode cX9_floatBits 1 = .ok (.f2d, 1) := by decide +kernel
theorem dX9_floatBits_2 : decode cX9_floatBits 2 = .ok (.bipush 127, 2) := by decide +kernel
theorem dX9_floatBits_4 : decode cX9_floatBits 4 = .ok (.bipush 23, 2) := by decide +kernel
theorem dX9_floatBits_6 : decode cX9_floatBits 6 = .ok (.invokestatic 321, 3) := by decide +kernel
theorem dX9_floatBits_9 : decode cX9_floatBits 9 = .ok (.l2i, 1) := by decide +kernel
theorem dX9_floatBits_10 : decode cX9_floatBits 10 = .ok (.ireturn, 1) := by decide +kernel
theorem dX9_bitsOf_0 : decode cX9_bitsOf 0 = .ok (.dload_n 0, 1) := by decide +kernel
theorem dX9_bitsOf_1 : decode cX9_bitsOf 1 = .ok (.dconst 0, 1) := by decide +kernel
theorem dX9_bitsOf_2 : decode cX9_bitsOf 2 = .ok (.dcmp .l, 1) := by decide +kernel
theorem dX9_bitsOf_3 : decode cX9_bitsOf 3 = .ok (.ifCond .gt 5, 3) := by decide +kernel
theorem dX9_bitsOf_6 : decode cX9_bitsOf 6 = .ok (.lconst 0, 1) := by decide +kernel
theorem dX9_bitsOf_7 : decode cX9_bitsOf 7 = .ok (.lreturn, 1) := by decide +kernel
theorem dX9_bitsOf_8 : decode cX9_bitsOf 8 = .ok (.dload_n 0, 1) := by decide +kernel
theorem dX9_bitsOf_9 : decode cX9_bitsOf 9 = .ok (.dstore 4, 2) := by decide +kernel
theorem dX9_bitsOf_11 : decode cX9_bitsOf 11 = .ok (.iload_n 2, 1) := by decide +kernel
theorem dX9_bitsOf_12 : decode cX9_bitsOf 12 = .ok (.i2l, 1) := by decide +kernel
theorem dX9_bitsOf_13 : decode cX9_bitsOf 13 = .ok (.lstore 6, 2) := by decide +kernel
theorem dX9_bitsOf_15 : decode cX9_bitsOf 15 = .ok (.iconst 1, 1) := by decide +kernel
theorem dX9_bitsOf_16 : decode cX9_bitsOf 16 = .ok (.istore 8, 2) := by decide +kernel
theorem dX9_bitsOf_18 : decode cX9_bitsOf 18 = .ok (.iload 8, 2) := by decide +kernel
theorem dX9_bitsOf_20 : decode cX9_bitsOf 20 = .ok (.iload_n 2, 1) := by decide +kernel
theorem dX9_bitsOf_21 : decode cX9_bitsOf 21 = .ok (.if_icmp .ge 30, 3) := by decide +kernel
theorem dX9_bitsOf_24 : decode cX9_bitsOf 24 = .ok (.dload 4, 2) := by decide +kernel
theorem dX9_bitsOf_26 : decode cX9_bitsOf 26 = .ok (.dconst 1, 1) := by decide +kernel
theorem dX9_bitsOf_27 : decode cX9_bitsOf 27 = .ok (.dcmp .g, 1) := by decide +kernel
theorem dX9_bitsOf_28 : decode cX9_bitsOf 28 = .ok (.ifCond .ge 23, 3) := by decide +kernel
theorem dX9_bitsOf_31 : decode cX9_bitsOf 31 = .ok (.dload 4, 2) := by decide +kernel
theorem dX9_bitsOf_33 : decode cX9_bitsOf 33 = .ok (.ldc2_w 376, 3) := by decide +kernel
theorem dX9_bitsOf_36 : decode cX9_bitsOf 36 = .ok (.dmul, 1) := by decide +kernel
theorem dX9_bitsOf_37 : decode cX9_bitsOf 37 = .ok (.dstore 4, 2) := by decide +kernel
theorem dX9_bitsOf_39 : decode cX9_bitsOf 39 = .ok (.lload 6, 2) := by decide +kernel
theorem dX9_bitsOf_41 : decode cX9_bitsOf 41 = .ok (.lconst 1, 1) := by decide +kernel
theorem dX9_bitsOf_42 : decode cX9_bitsOf 42 = .ok (.lsub, 1) := by decide +kernel
theorem dX9_bitsOf_43 : decode cX9_bitsOf 43 = .ok (.lstore 6, 2) := by decide +kernel
theorem dX9_bitsOf_45 : decode cX9_bitsOf 45 = .ok (.iinc 8 1, 3) := by decide +kernel
theorem dX9_bitsOf_48 : decode cX9_bitsOf 48 = .ok (.goto (-30), 3) := by decide +kernel
theorem dX9_bitsOf_51 : decode cX9_bitsOf 51 = .ok (.iconst 1, 1) := by decide +kernel
theorem dX9_bitsOf_52 : decode cX9_bitsOf 52 = .ok (.istore 8, 2) := by decide +kernel
theorem dX9_bitsOf_54 : decode cX9_bitsOf 54 = .ok (.iload 8, 2) := by decide +kernel
theorem dX9_bitsOf_56 : decode cX9_bitsOf 56 = .ok (.iload_n 2, 1) := by decide +kernel
theorem dX9_bitsOf_57 : decode cX9_bitsOf 57 = .ok (.if_icmp .ge 32, 3) := by decide +kernel
theorem dX9_bitsOf_60 : decode cX9_bitsOf 60 = .ok (.dload 4, 2) := by decide +kernel
theorem dX9_bitsOf_62 : decode cX9_bitsOf 62 = .ok (.ldc2_w 376, 3) := by decide +kernel
theorem dX9_bitsOf_65 : decode cX9_bitsOf 65 = .ok (.dcmp .l, 1) := by decide +kernel
theorem dX9_bitsOf_66 : decode cX9_bitsOf 66 = .ok (.ifCond .lt 23, 3) := by decide +kernel
theorem dX9_bitsOf_69 : decode cX9_bitsOf 69 = .ok (.dload 4, 2) := by decide +kernel
theorem dX9_bitsOf_71 : decode cX9_bitsOf 71 = .ok (.ldc2_w 376, 3) := by decide +kernel
theorem dX9_bitsOf_74 : decode cX9_bitsOf 74 = .ok (.ddiv, 1) := by decide +kernel
theorem dX9_bitsOf_75 : decode cX9_bitsOf 75 = .ok (.dstore 4, 2) := by decide +kernel
theorem dX9_bitsOf_77 : decode cX9_bitsOf 77 = .ok (.lload 6, 2) := by decide +kernel
theorem dX9_bitsOf_79 : decode cX9_bitsOf 79 = .ok (.lconst 1, 1) := by decide +kernel
theorem dX9_bitsOf_80 : decode cX9_bitsOf 80 = .ok (.ladd, 1) := by decide +kernel
theorem dX9_bitsOf_81 : decode cX9_bitsOf 81 = .ok (.lstore 6, 2) := by decide +kernel
theorem dX9_bitsOf_83 : decode cX9_bitsOf 83 = .ok (.iinc 8 1, 3) := by decide +kernel
theorem dX9_bitsOf_86 : decode cX9_bitsOf 86 = .ok (.goto (-32), 3) := by decide +kernel
theorem dX9_bitsOf_89 : decode cX9_bitsOf 89 = .ok (.lconst 1, 1) := by decide +kernel
theorem dX9_bitsOf_90 : decode cX9_bitsOf 90 = .ok (.iload_n 3, 1) := by decide +kernel
theorem dX9_bitsOf_91 : decode cX9_bitsOf 91 = .ok (.lshl, 1) := by decide +kernel
theorem dX9_bitsOf_92 : decode cX9_bitsOf 92 = .ok (.lstore 8, 2) := by decide +kernel
theorem dX9_bitsOf_94 : decode cX9_bitsOf 94 = .ok (.lload 6, 2) := by decide +kernel
theorem dX9_bitsOf_96 : decode cX9_bitsOf 96 = .ok (.lload 8, 2) := by decide +kernel
theorem dX9_bitsOf_98 : decode cX9_bitsOf 98 = .ok (.lmul, 1) := by decide +kernel
theorem dX9_bitsOf_99 : decode cX9_bitsOf 99 = .ok (.dload 4, 2) := by decide +kernel
theorem dX9_bitsOf_101 : decode cX9_bitsOf 101 = .ok (.dconst 1, 1) := by decide +kernel
theorem dX9_bitsOf_102 : decode cX9_bitsOf 102 = .ok (.dsub, 1) := by decide +kernel
theorem dX9_bitsOf_103 : decode cX9_bitsOf 103 = .ok (.lload 8, 2) := by decide +kernel
theorem dX9_bitsOf_105 : decode cX9_bitsOf 105 = .ok (.l2d, 1) := by decide +kernel
theorem dX9_bitsOf_106 : decode cX9_bitsOf 106 = .ok (.dmul, 1) := by decide +kernel
theorem dX9_bitsOf_107 : decode cX9_bitsOf 107 = .ok (.d2l, 1) := by decide +kernel
theorem dX9_bitsOf_108 : decode cX9_bitsOf 108 = .ok (.ladd, 1) := by decide +kernel
theorem dX9_bitsOf_109 : decode cX9_bitsOf 109 = .ok (.lreturn, 1) := by decide +kernel
theorem dX10_init_0 : decode cX10_init 0 = .ok (.aload_n 0, 1) := by decide +kernel
theorem dX10_init_1 : decode cX10_init 1 = .ok (.invokespecial 1, 3) := by decide +kernel
theorem dX10_init_4 : decode cX10_init 4 = .ok (.aload_n 0, 1) := by decide +kernel
theorem dX10_init_5 : decode cX10_init 5 = .ok (.sipush 689, 3) := by decide +kernel
theorem dX10_init_8 : decode cX10_init 8 = .ok (.newarray .int, 2) := by decide +kernel
theorem dX10_init_10 : decode cX10_init 10 = .ok (.putfield 7, 3) := by decide +kernel
theorem dX10_init_13 : decode cX10_init 13 = .ok (.aload_n 0, 1) := by decide +kernel
theorem dX10_init_14 : decode cX10_init 14 = .ok (.sipush 4134, 3) := by decide +kernel
theorem dX10_init_17 : decode cX10_init 17 = .ok (.newarray .int, 2) := by decide +kernel
theorem dX10_init_19 : decode cX10_init 19 = .ok (.putfield 13, 3) := by decide +kernel
theorem dX10_init_22 : decode cX10_init 22 = .ok (.aload_n 0, 1) := by decide +kernel
theorem dX10_init_23 : decode cX10_init 23 = .ok (.sipush 689, 3) := by decide +kernel
theorem dX10_init_26 : decode cX10_init 26 = .ok (.newarray .int, 2) := by decide +kernel
theorem dX10_init_28 : decode cX10_init 28 = .ok (.putfield 16, 3) := by decide +kernel
theorem dX10_init_31 : decode cX10_init 31 = .ok (.aload_n 0, 1) := by decide +kernel
theorem dX10_init_32 : decode cX10_init 32 = .ok (.bipush 60, 2) := by decide +kernel
theorem dX10_init_34 : decode cX10_init 34 = .ok (.newarray .int, 2) := by decide +kernel
theorem dX10_init_36 : decode cX10_init 36 = .ok (.putfield 19, 3) := by decide +kernel
theorem dX10_init_39 : decode cX10_init 39 = .ok (.aload_n 0, 1) := by decide +kernel
theorem dX10_init_40 : decode cX10_init 40 = .ok (.bipush 12, 2) := by decide +kernel
theorem dX10_init_42 : decode cX10_init 42 = .ok (.newarray .int, 2) := by decide +kernel
theorem dX10_init_44 : decode cX10_init 44 = .ok (.putfield 22, 3) := by decide +kernel
theorem dX10_init_47 : decode cX10_init 47 = .ok (.aload_n 0, 1) := by decide +kernel
theorem dX10_init_48 : decode cX10_init 48 = .ok (.bipush 12, 2) := by decide +kernel
theorem dX10_init_50 : decode cX10_init 50 = .ok (.newarray .int, 2) := by decide +kernel
theorem dX10_init_52 : decode cX10_init 52 = .ok (.putfield 25, 3) := by decide +kernel
theorem dX10_init_55 : decode cX10_init 55 = .ok (.aload_n 0, 1) := by decide +kernel
theorem dX10_init_56 : decode cX10_init 56 = .ok (.sipush 169, 3) := by decide +kernel
theorem dX10_init_59 : decode cX10_init 59 = .ok (.newarray .int, 2) := by decide +kernel
theorem dX10_init_61 : decode cX10_init 61 = .ok (.putfield 28, 3) := by decide +kernel
theorem dX10_init_64 : decode cX10_init 64 = .ok (.aload_n 0, 1) := by decide +kernel
theorem dX10_init_65 : decode cX10_init 65 = .ok (.bipush 31, 2) := by decide +kernel
theorem dX10_init_67 : decode cX10_init 67 = .ok (.newarray .int, 2) := by decide +kernel
theorem dX10_init_69 : decode cX10_init 69 = .ok (.putfield 31, 3) := by decide +kernel
theorem dX10_init_72 : decode cX10_init 72 = .ok (.aload_n 0, 1) := by decide +kernel
theorem dX10_init_73 : decode cX10_init 73 = .ok (.getfield 7, 3) := by decide +kernel
theorem dX10_init_76 : decode cX10_init 76 = .ok (.iconst 2, 1) := by decide +kernel
theorem dX10_init_77 : decode cX10_init 77 = .ok (.bipush 30, 2) := by decide +kernel
theorem dX10_init_79 : decode cX10_init 79 = .ok (.iastore, 1) := by decide +kernel
theorem dX10_init_80 : decode cX10_init 80 = .ok (.aload_n 0, 1) := by decide +kernel
theorem dX10_init_81 : decode cX10_init 81 = .ok (.getfield 7, 3) := by decide +kernel
theorem dX10_init_84 : decode cX10_init 84 = .ok (.iconst 3, 1) := by decide +kernel
theorem dX10_init_85 : decode cX10_init 85 = .ok (.bipush 50, 2) := by decide +kernel
theorem dX10_init_87 : decode cX10_init 87 = .ok (.iastore, 1) := by decide +kernel
theorem dX10_init_88 : decode cX10_init 88 = .ok (.iconst 0, 1) := by decide +kernel
theorem dX10_init_89 : decode cX10_init 89 = .ok (.istore_n 1, 1) := by decide +kernel
theorem dX10_init_90 : decode cX10_init 90 = .ok (.iload_n 1, 1) := by decide +kernel
theorem dX10_init_91 : decode cX10_init 91 = .ok (.iconst 4, 1) := by decide +kernel
theorem dX10_init_92 : decode cX10_init 92 = .ok (.if_icmp .ge 21, 3) := by decide +kernel
theorem dX10_init_95 : decode cX10_init 95 = .ok (.aload_n 0, 1) := by decide +kernel
theorem dX10_init_96 : decode cX10_init 96 = .ok (.getfield 7, 3) := by decide +kernel
theorem dX10_init_99 : decode cX10_init 99 = .ok (.iconst 4, 1) := by decide +kernel
theorem dX10_init_100 : decode cX10_init 100 = .ok (.iconst 5, 1) := by decide +kernel
theorem dX10_init_101 : decode cX10_init 101 = .ok (.iload_n 1, 1) := by decide +kernel
theorem dX10_init_102 : decode cX10_init 102 = .ok (.imul, 1) := by decide +kernel
theorem dX10_init_103 : decode cX10_init 103 = .ok (.iadd, 1) := by decide +kernel
theorem dX10_init_104 : decode cX10_init 104 = .ok (.bipush 10, 2) := by decide +kernel
theorem dX10_init_106 : decode cX10_init 106 = .ok (.iastore, 1) := by decide +kernel
theorem dX10_init_107 : decode cX10_init 107 = .ok (.iinc 1 1, 3) := by decide +kernel
theorem dX10_init_110 : decode cX10_init 110 = .ok (.goto (-20), 3) := by decide +kernel
theorem dX10_init_113 : decode cX10_init 113 = .ok (.iconst 0, 1) := by decide +kernel
theorem dX10_init_114 : decode cX10_init 114 = .ok (.istore_n 1, 1) := by decide +kernel
theorem dX10_init_115 : decode cX10_init 115 = .ok (.iload_n 1, 1) := by decide +kernel
theorem dX10_init_116 : decode cX10_init 116 = .ok (.bipush 40, 2) := by decide +kernel
theorem dX10_init_118 : decode cX10_init 118 = .ok (.if_icmp .ge 19, 3) := by decide +kernel
theorem dX10_init_121 : decode cX10_init 121 = .ok (.aload_n 0, 1) := by decide +kernel
theorem dX10_init_122 : decode cX10_init 122 = .ok (.getfield 7, 3) := by decide +kernel
theorem dX10_init_125 : decode cX10_init 125 = .ok (.bipush 24, 2) := by decide +kernel
theorem dX10_init_127 : decode cX10_init 127 = .ok (.iload_n 1, 1) := by decide +kernel
theorem dX10_init_128 : decode cX10_init 128 = .ok (.iadd, 1) := by decide +kernel
theorem dX10_init_129 : decode cX10_init 129 = .ok (.iconst (-1), 1) := by decide +kernel
theorem dX10_init_130 : decode cX10_init 130 = .ok (.iastore, 1) := by decide +kernel
theorem dX10_init_131 : decode cX10_init 131 = .ok (.iinc 1 1, 3) := by decide +kernel
theorem dX10_init_134 : decode cX10_init 134 = .ok (.goto (-19), 3) := by decide +kernel
theorem dX10_init_137 : decode cX10_init 137 = .ok (.aload_n 0, 1) := by decide +kernel
theorem dX10_init_138 : decode cX10_init 138 = .ok (.getfield 7, 3) := by decide +kernel
theorem dX10_init_141 : decode cX10_init 141 = .ok (.bipush 64, 2) := by decide +kernel
theorem dX10_init_143 : decode cX10_init 143 = .ok (.bipush 10, 2) := by decide +kernel
theorem dX10_init_145 : decode cX10_init 145 = .ok (.iastore, 1) := by decide +kernel
theorem dX10_init_146 : decode cX10_init 146 = .ok (.aload_n 0, 1) := by decide +kernel
theorem dX10_init_147 : decode cX10_init 147 = .ok (.getfield 7, 3) := by decide +kernel
theorem dX10_init_150 : decode cX10_init 150 = .ok (.bipush 67, 2) := by decide +kernel
theorem dX10_init_152 : decode cX10_init 152 = .ok (.bipush 30, 2) := by decide +kernel
theorem dX10_init_154 : decode cX10_init 154 = .ok (.iastore, 1) := by decide +kernel
theorem dX10_init_155 : decode cX10_init 155 = .ok (.aload_n 0, 1) := by decide +kernel
theorem dX10_init_156 : decode cX10_init 156 = .ok (.getfield 7, 3) := by decide +kernel
theorem dX10_init_159 : decode cX10_init 159 = .ok (.bipush 70, 2) := by decide +kernel
theorem dX10_init_161 : decode cX10_init 161 = .ok (.bipush 60, 2) := by decide +kernel
theorem dX10_init_163 : decode cX10_init 163 = .ok (.iastore, 1) := by decide +kernel
theorem dX10_init_164 : decode cX10_init 164 = .ok (.aload_n 0, 1) := by decide +kernel
theorem dX10_init_165 : decode cX10_init 165 = .ok (.getfield 7, 3) := by decide +kernel
theorem dX10_init_168 : decode cX10_init 168 = .ok (.bipush 73, 2) := by decide +kernel
theorem dX10_init_170 : decode cX10_init 170 = .ok (.bipush 80, 2) := by decide +kernel
theorem dX10_init_172 : decode cX10_init 172 = .ok (.iastore, 1) := by decide +kernel
theorem dX10_init_173 : decode cX10_init 173 = .ok (.aload_n 0, 1) := by decide +kernel
theorem dX10_init_174 : decode cX10_init 174 = .ok (.getfield 7, 3) := by decide +kernel
theorem dX10_init_177 : decode cX10_init 177 = .ok (.bipush 76, 2) := by decide +kernel
theorem dX10_init_179 : decode cX10_init 179 = .ok (.bipush 100, 2) := by decide +kernel
theorem dX10_init_181 : decode cX10_init 181 = .ok (.iastore, 1) := by decide +kernel
theorem dX10_init_182 : decode cX10_init 182 = .ok (.return_, 1) := by decide +kernel
theorem dX10_thrown_0 : decode cX10_thrown 0 = .ok (.aload_n 0, 1) := by decide +kernel
theorem dX10_thrown_1 : decode cX10_thrown 1 = .ok (.getfield 34, 3) := by decide +kernel
theorem dX10_thrown_4 : decode cX10_thrown 4 = .ok (.ireturn, 1) := by decide +kernel
theorem dX10_fails_0 : decode cX10_fails 0 = .ok (.aload_n 0, 1) := by decide +kernel
theorem dX10_fails_1 : decode cX10_fails 1 = .ok (.iload_n 1, 1) := by decide +kernel
theorem dX10_fails_2 : decode cX10_fails 2 = .ok (.putfield 34, 3) := by decide +kernel
theorem dX10_fails_5 : decode cX10_fails 5 = .ok (.iconst 0, 1) := by decide +kernel
theorem dX10_fails_6 : decode cX10_fails 6 = .ok (.ireturn, 1) := by decide +kernel
theorem dX10_in_0 : decode cX10_in 0 = .ok (.iload_n 0, 1) := by decide +kernel
theorem dX10_in_1 : decode cX10_in 1 = .ok (.iload_n 1, 1) := by decide +kernel
theorem dX10_in_2 : decode cX10_in 2 = .ok (.if_icmp .lt 12, 3) := by decide +kernel
theorem dX10_in_5 : decode cX10_in 5 = .ok (.iload_n 0, 1) := by decide +kernel
theorem dX10_in_6 : decode cX10_in 6 = .ok (.iload_n 2, 1) := by decide +kernel
theorem dX10_in_7 : decode cX10_in 7 = .ok (.if_icmp .gt 7, 3) := by decide +kernel
theorem dX10_in_10 : decode cX10_in 10 = .ok (.iconst 1, 1) := by decide +kernel
theorem dX10_in_11 : decode cX10_in 11 = .ok (.goto 4, 3) := by decide +kernel
theorem dX10_in_14 : decode cX10_in 14 = .ok (.iconst 0, 1) := by decide +kernel
theorem dX10_in_15 : decode cX10_in 15 = .ok (.ireturn, 1) := by decide +kernel
theorem dX10_save_0 : decode cX10_save 0 = .ok (.aload_n 0, 1) := by decide +kernel
theorem dX10_save_1 : decode cX10_save 1 = .ok (.getfield 38, 3) := by decide +kernel
theorem dX10_save_4 : decode cX10_save 4 = .ok (.bipush 6, 2) := by decide +kernel
theorem dX10_save_6 : decode cX10_save 6 = .ok (.if_icmp .ne 44, 3) := by decide +kernel
theorem dX10_save_9 : decode cX10_save 9 = .ok (.iconst 0, 1) := by decide +kernel
theorem dX10_save_10 : decode cX10_save 10 = .ok (.istore_n 1, 1) := by decide +kernel
theorem dX10_save_11 : decode cX10_save 11 = .ok (.iload_n 1, 1) := by decide +kernel
theorem dX10_save_12 : decode cX10_save 12 = .ok (.sipush 3445, 3) := by decide +kernel
theorem dX10_save_15 : decode cX10_save 15 = .ok (.if_icmp .ge 25, 3) := by decide +kernel
theorem dX10_save_18 : decode cX10_save 18 = .ok (.aload_n 0, 1) := by decide +kernel
theorem dX10_save_19 : decode cX10_save 19 = .ok (.getfield 13, 3) := by decide +kernel
theorem dX10_save_22 : decode cX10_save 22 = .ok (.iload_n 1, 1) := by decide +kernel
theorem dX10_save_23 : decode cX10_save 23 = .ok (.aload_n 0, 1) := by decide +kernel
theorem dX10_save_24 : decode cX10_save 24 = .ok (.getfield 13, 3) := by decide +kernel
theorem dX10_save_27 : decode cX10_save 27 = .ok (.iload_n 1, 1) := by decide +kernel
theorem dX10_save_28 : decode cX10_save 28 = .ok (.sipush 689, 3) := by decide +kernel
theorem dX10_save_31 : decode cX10_save 31 = .ok (.iadd, 1) := by decide +kernel
theorem dX10_save_32 : decode cX10_save 32 = .ok (.iaload, 1) := by decide +kernel
theorem dX10_save_33 : decode cX10_save 33 = .ok (.iastore, 1) := by decide +kernel
theorem dX10_save_34 : decode cX10_save 34 = .ok (.iinc 1 1, 3) := by decide +kernel
theorem dX10_save_37 : decode cX10_save 37 = .ok (.goto (-26), 3) := by decide +kernel
theorem dX10_save_40 : decode cX10_save 40 = .ok (.aload_n 0, 1) := by decide +kernel
theorem dX10_save_41 : decode cX10_save 41 = .ok (.dup, 1) := by decide +kernel
theorem dX10_save_42 : decode cX10_save 42 = .ok (.getfield 38, 3) := by decide +kernel
theorem dX10_save_45 : decode cX10_save 45 = .ok (.iconst 1, 1) := by decide +kernel
theorem dX10_save_46 : decode cX10_save 46 = .ok (.isub, 1) := by decide +kernel
theorem dX10_save_47 : decode cX10_save 47 = .ok (.putfield 38, 3) := by decide +kernel
theorem dX10_save_50 : decode cX10_save 50 = .ok (.iconst 0, 1) := by decide +kernel
theorem dX10_save_51 : decode cX10_save 51 = .ok (.istore_n 1, 1) := by decide +kernel
theorem dX10_save_52 : decode cX10_save 52 = .ok (.iload_n 1, 1) := by decide +kernel
theorem dX10_save_53 : decode cX10_save 53 = .ok (.sipush 689, 3) := by decide +kernel
theorem dX10_save_56 : decode cX10_save 56 = .ok (.if_icmp .ge 30, 3) := by decide +kernel
theorem dX10_save_59 : decode cX10_save 59 = .ok (.aload_n 0, 1) := by decide +kernel
theorem dX10_save_60 : decode cX10_save 60 = .ok (.getfield 13, 3) := by decide +kernel
theorem dX10_save_63 : decode cX10_save 63 = .ok (.sipush 689, 3) := by decide +kernel
theorem dX10_save_66 : decode cX10_save 66 = .ok (.aload_n 0, 1) := by decide +kernel
theorem dX10_save_67 : decode cX10_save 67 = .ok (.getfield 38, 3) := by decide +kernel
theorem dX10_save_70 : decode cX10_save 70 = .ok (.imul, 1) := by decide +kernel
theorem dX10_save_71 : decode cX10_save 71 = .ok (.iload_n 1, 1) := by decide +kernel
theorem dX10_save_72 : decode cX10_save 72 = .ok (.iadd, 1) := by decide +kernel
theorem dX10_save_73 : decode cX10_save 73 = .ok (.aload_n 0, 1) := by decide +kernel
theorem dX10_save_74 : decode cX10_save 74 = .ok (.getfield 7, 3) := by decide +kernel
theorem dX10_save_77 : decode cX10_save 77 = .ok (.iload_n 1, 1) := by decide +kernel
theorem dX10_save_78 : decode cX10_save 78 = .ok (.iaload, 1) := by decide +kernel
theorem dX10_save_79 : decode cX10_save 79 = .ok (.iastore, 1) := by decide +kernel
theorem dX10_save_80 : decode cX10_save 80 = .ok (.iinc 1 1, 3) := by decide +kernel
theorem dX10_save_83 : decode cX10_save 83 = .ok (.goto (-31), 3) := by decide +kernel
theorem dX10_save_86 : decode cX10_save 86 = .ok (.aload_n 0, 1) := by decide +kernel
theorem dX10_save_87 : decode cX10_save 87 = .ok (.dup, 1) := by decide +kernel
theorem dX10_save_88 : decode cX10_save 88 = .ok (.getfield 38, 3) := by decide +kernel
theorem dX10_save_91 : decode cX10_save 91 = .ok (.iconst 1, 1) := by decide +kernel
theorem dX10_save_92 : decode cX10_save 92 = .ok (.iadd, 1) := by decide +kernel
theorem dX10_save_93 : decode cX10_save 93 = .ok (.putfield 38, 3) := by decide +kernel
theorem dX10_save_96 : decode cX10_save 96 = .ok (.return_, 1) := by decide +kernel
theorem dX10_putAside_0 : decode cX10_putAside 0 = .ok (.iconst 0, 1) := by decide +kernel
theorem dX10_putAside_1 : decode cX10_putAside 1 = .ok (.istore_n 1, 1) := by decide +kernel
theorem dX10_putAside_2 : decode cX10_putAside 2 = .ok (.iload_n 1, 1) := by decide +kernel
theorem dX10_putAside_3 : decode cX10_putAside 3 = .ok (.sipush 689, 3) := by decide +kernel
theorem dX10_putAside_6 : decode cX10_putAside 6 = .ok (.if_icmp .ge 21, 3) := by decide +kernel
theorem dX10_putAside_9 : decode cX10_putAside 9 = .ok (.aload_n 0, 1) := by decide +kernel
theorem dX10_putAside_10 : decode cX10_putAside 10 = .ok (.getfield 16, 3) := by decide +kernel
theorem dX10_putAside_13 : decode cX10_putAside 13 = .ok (.iload_n 1, 1) := by decide +kernel
theorem dX10_putAside_14 : decode cX10_putAside 14 = .ok (.aload_n 0, 1) := by decide +kernel
theorem dX10_putAside_15 : decode cX10_putAside 15 = .ok (.getfield 7, 3) := by decide +kernel
theorem dX10_putAside_18 : decode cX10_putAside 18 = .ok (.iload_n 1, 1) := by decide +kernel
theorem dX10_putAside_19 : decode cX10_putAside 19 = .ok (.iaload, 1) := by decide +kernel
theorem dX10_putAside_20 : decode cX10_putAside 20 = .ok (.iastore, 1) := by decide +kernel
theorem dX10_putAside_21 : decode cX10_putAside 21 = .ok (.iinc 1 1, 3) := by decide +kernel
theorem dX10_putAside_24 : decode cX10_putAside 24 = .ok (.goto (-22), 3) := by decide +kernel
theorem dX10_putAside_27 : decode cX10_putAside 27 = .ok (.return_, 1) := by decide +kernel
theorem dX10_putBack_0 : decode cX10_putBack 0 = .ok (.iconst 0, 1) := by decide +kernel
theorem dX10_putBack_1 : decode cX10_putBack 1 = .ok (.istore_n 1, 1) := by decide +kernel
theorem dX10_putBack_2 : decode cX10_putBack 2 = .ok (.iload_n 1, 1) := by decide +kernel
theorem dX10_putBack_3 : decode cX10_putBack 3 = .ok (.sipush 689, 3) := by decide +kernel
theorem dX10_putBack_6 : decode cX10_putBack 6 = .ok (.if_icmp .ge 21, 3) := by decide +kernel
theorem dX10_putBack_9 : decode cX10_putBack 9 = .ok (.aload_n 0, 1) := by decide +kernel
theorem dX10_putBack_10 : decode cX10_putBack 10 = .ok (.getfield 7, 3) := by decide +kernel
theorem dX10_putBack_13 : decode cX10_putBack 13 = .ok (.iload_n 1, 1) := by decide +kernel
theorem dX10_putBack_14 : decode cX10_putBack 14 = .ok (.aload_n 0, 1) := by decide +kernel
theorem dX10_putBack_15 : decode cX10_putBack 15 = .ok (.getfield 16, 3) := by decide +kernel
theorem dX10_putBack_18 : decode cX10_putBack 18 = .ok (.iload_n 1, 1) := by decide +kernel
theorem dX10_putBack_19 : decode cX10_putBack 19 = .ok (.iaload, 1) := by decide +kernel
theorem dX10_putBack_20 : decode cX10_putBack 20 = .ok (.iastore, 1) := by decide +kernel
theorem dX10_putBack_21 : decode cX10_putBack 21 = .ok (.iinc 1 1, 3) := by decide +kernel
theorem dX10_putBack_24 : decode cX10_putBack 24 = .ok (.goto (-22), 3) := by decide +kernel
theorem dX10_putBack_27 : decode cX10_putBack 27 = .ok (.return_, 1) := by decide +kernel
theorem dX10_at_0 : decode cX10_at 0 = .ok (.bipush 79, 2) := by decide +kernel
theorem dX10_at_2 : decode cX10_at 2 = .ok (.bipush 22, 2) := by decide +kernel
theorem dX10_at_4 : decode cX10_at 4 = .ok (.iload_n 0, 1) := by decide +kernel
theorem dX10_at_5 : decode cX10_at 5 = .ok (.imul, 1) := by decide +kernel
theorem dX10_at_6 : decode cX10_at 6 = .ok (.iadd, 1) := by decide +kernel
theorem dX10_at_7 : decode cX10_at 7 = .ok (.ireturn, 1) := by decide +kernel
theorem dX10_rowAt_0 : decode cX10_rowAt 0 = .ok (.sipush 299, 3) := by decide +kernel
theorem dX10_rowAt_3 : decode cX10_rowAt 3 = .ok (.bipush 13, 2) := by decide +kernel
theorem dX10_rowAt_5 : decode cX10_rowAt 5 = .ok (.iload_n 0, 1) := by decide +kernel
theorem dX10_rowAt_6 : decode cX10_rowAt 6 = .ok (.imul, 1) := by decide +kernel
theorem dX10_rowAt_7 : decode cX10_rowAt 7 = .ok (.iadd, 1) := by decide +kernel
theorem dX10_rowAt_8 : decode cX10_rowAt 8 = .ok (.ireturn, 1) := by decide +kernel
theorem dX10_person_0 : decode cX10_person 0 = .ok (.iconst 4, 1) := by decide +kernel
theorem dX10_person_1 : decode cX10_person 1 = .ok (.iconst 5, 1) := by decide +kernel
theorem dX10_person_2 : decode cX10_person 2 = .ok (.iload_n 0, 1) := by decide +kernel
theorem dX10_person_3 : decode cX10_person 3 = .ok (.imul, 1) := by decide +kernel
theorem dX10_person_4 : decode cX10_person 4 = .ok (.iadd, 1) := by decide +kernel
theorem dX10_person_5 : decode cX10_person 5 = .ok (.ireturn, 1) := by decide +kernel
theorem dX10_proposal_0 : decode cX10_proposal 0 = .ok (.bipush 24, 2) := by decide +kernel
theorem dX10_proposal_2 : decode cX10_proposal 2 = .ok (.iconst 4, 1) := by decide +kernel
theorem dX10_proposal_3 : decode cX10_proposal 3 = .ok (.iload_n 0, 1) := by decide +kernel
theorem dX10_proposal_4 : decode cX10_proposal 4 = .ok (.imul, 1) := by decide +kernel
theorem dX10_proposal_5 : decode cX10_proposal 5 = .ok (.iadd, 1) := by decide +kernel
theorem dX10_proposal_6 : decode cX10_proposal 6 = .ok (.iload_n 1, 1) := by decide +kernel
theorem dX10_proposal_7 : decode cX10_proposal 7 = .ok (.iadd, 1) := by decide +kernel
theorem dX10_proposal_8 : decode cX10_proposal 8 = .ok (.ireturn, 1) := by decide +kernel
theorem dX10_isSegment_0 : decode cX10_isSegment 0 = .ok (.iload_n 1, 1) := by decide +kernel
theorem dX10_isSegment_1 : decode cX10_isSegment 1 = .ok (.iconst 0, 1) := by decide +kernel
theorem dX10_isSegment_2 : decode cX10_isSegment 2 = .ok (.aload_n 0, 1) := by decide +kernel
theorem dX10_isSegment_3 : decode cX10_isSegment 3 = .ok (.getfield 7, 3) := by decide +kernel
theorem dX10_isSegment_6 : decode cX10_isSegment 6 = .ok (.iconst 0, 1) := by decide +kernel
theorem dX10_isSegment_7 : decode cX10_isSegment 7 = .ok (.iaload, 1) := by decide +kernel
theorem dX10_isSegment_8 : decode cX10_isSegment 8 = .ok (.iconst 1, 1) := by decide +kernel
theorem dX10_isSegment_9 : decode cX10_isSegment 9 = .ok (.isub, 1) := by decide +kernel
theorem dX10_isSegment_10 : decode cX10_isSegment 10 = .ok (.invokestatic 41, 3) := by decide +kernel
theorem dX10_isSegment_13 : decode cX10_isSegment 13 = .ok (.ireturn, 1) := by decide +kernel
theorem dX10_isPerson_0 : decode cX10_isPerson 0 = .ok (.iload_n 0, 1) := by decide +kernel
theorem dX10_isPerson_1 : decode cX10_isPerson 1 = .ok (.iconst 0, 1) := by decide +kernel
theorem dX10_isPerson_2 : decode cX10_isPerson 2 = .ok (.iconst 3, 1) := by decide +kernel
theorem dX10_isPerson_3 : decode cX10_isPerson 3 = .ok (.invokestatic 41, 3) := by decide +kernel
theorem dX10_isPerson_6 : decode cX10_isPerson 6 = .ok (.ireturn, 1) := by decide +kernel
theorem dX10_isWord_0 : decode cX10_isWord 0 = .ok (.iload_n 0, 1) := by decide +kernel
theorem dX10_isWord_1 : decode cX10_isWord 1 = .ok (.iconst 0, 1) := by decide +kernel
theorem dX10_isWord_2 : decode cX10_isWord 2 = .ok (.bipush 7, 2) := by decide +kernel
theorem dX10_isWord_4 : decode cX10_isWord 4 = .ok (.invokestatic 41, 3) := by decide +kernel
theorem dX10_isWord_7 : decode cX10_isWord 7 = .ok (.ireturn, 1) := by decide +kernel
theorem dX10_isBand_0 : decode cX10_isBand 0 = .ok (.iload_n 0, 1) := by decide +kernel
theorem dX10_isBand_1 : decode cX10_isBand 1 = .ok (.iconst 0, 1) := by decide +kernel
theorem dX10_isBand_2 : decode cX10_isBand 2 = .ok (.iconst 4, 1) := by decide +kernel
theorem dX10_isBand_3 : decode cX10_isBand 3 = .ok (.invokestatic 41, 3) := by decide +kernel
theorem dX10_isBand_6 : decode cX10_isBand 6 = .ok (.ireturn, 1) := by decide +kernel
theorem dX10_layOne_0 : decode cX10_layOne 0 = .ok (.aload_n 0, 1) := by decide +kernel
theorem dX10_layOne_1 : decode cX10_layOne 1 = .ok (.aload_n 0, 1) := by decide +kernel
theorem dX10_layOne_2 : decode cX10_layOne 2 = .ok (.getfield 7, 3) := by decide +kernel
theorem dX10_layOne_5 : decode cX10_layOne 5 = .ok (.iload_n 1, 1) := by decide +kernel
theorem dX10_layOne_6 : decode cX10_layOne 6 = .ok (.invokestatic 45, 3) := by decide +kernel
theorem dX10_layOne_9 : decode cX10_layOne 9 = .ok (.iaload, 1) := by decide +kernel
theorem dX10_layOne_10 : decode cX10_layOne 10 = .ok (.putfield 49, 3) := by decide +kernel
theorem dX10_layOne_13 : decode cX10_layOne 13 = .ok (.iconst 0, 1) := by decide +kernel
theorem dX10_layOne_14 : decode cX10_layOne 14 = .ok (.istore_n 2, 1) := by decide +kernel
theorem dX10_layOne_15 : decode cX10_layOne 15 = .ok (.iload_n 2, 1) := by decide +kernel
theorem dX10_layOne_16 : decode cX10_layOne 16 = .ok (.aload_n 0, 1) := by decide +kernel
theorem dX10_layOne_17 : decode cX10_layOne 17 = .ok (.getfield 49, 3) := by decide +kernel
theorem dX10_layOne_20 : decode cX10_layOne 20 = .ok (.if_icmp .ge 29, 3) := by decide +kernel
theorem dX10_layOne_23 : decode cX10_layOne 23 = .ok (.aload_n 0, 1) := by decide +kernel
theorem dX10_layOne_24 : decode cX10_layOne 24 = .ok (.getfield 22, 3) := by decide +kernel
theorem dX10_layOne_27 : decode cX10_layOne 27 = .ok (.iload_n 2, 1) := by decide +kernel
theorem dX10_layOne_28 : decode cX10_layOne 28 = .ok (.aload_n 0, 1) := by decide +kernel
theorem dX10_layOne_29 : decode cX10_layOne 29 = .ok (.getfield 7, 3) := by decide +kernel
theorem dX10_layOne_32 : decode cX10_layOne 32 = .ok (.iload_n 1, 1) := by decide +kernel
theorem dX10_layOne_33 : decode cX10_layOne 33 = .ok (.invokestatic 45, 3) := by decide +kernel
theorem dX10_layOne_36 : decode cX10_layOne 36 = .ok (.bipush 10, 2) := by decide +kernel
theorem dX10_layOne_38 : decode cX10_layOne 38 = .ok (.iadd, 1) := by decide +kernel
theorem dX10_layOne_39 : decode cX10_layOne 39 = .ok (.iload_n 2, 1) := by decide +kernel
theorem dX10_layOne_40 : decode cX10_layOne 40 = .ok (.iadd, 1) := by decide +kernel
theorem dX10_layOne_41 : decode cX10_layOne 41 = .ok (.iaload, 1) := by decide +kernel
theorem dX10_layOne_42 : decode cX10_layOne 42 = .ok (.iastore, 1) := by decide +kernel
theorem dX10_layOne_43 : decode cX10_layOne 43 = .ok (.iinc 2 1, 3) := by decide +kernel
theorem dX10_layOne_46 : decode cX10_layOne 46 = .ok (.goto (-31), 3) := by decide +kernel
theorem dX10_layOne_49 : decode cX10_layOne 49 = .ok (.return_, 1) := by decide +kernel
theorem dX10_layOther_0 : decode cX10_layOther 0 = .ok (.aload_n 0, 1) := by decide +kernel
theorem dX10_layOther_1 : decode cX10_layOther 1 = .ok (.aload_n 0, 1) := by decide +kernel
theorem dX10_layOther_2 : decode cX10_layOther 2 = .ok (.getfield 7, 3) := by decide +kernel
theorem dX10_layOther_5 : decode cX10_layOther 5 = .ok (.iload_n 1, 1) := by decide +kernel
theorem dX10_layOther_6 : decode cX10_layOther 6 = .ok (.invokestatic 45, 3) := by decide +kernel
theorem dX10_layOther_9 : decode cX10_layOther 9 = .ok (.iaload, 1) := by decide +kernel
theorem dX10_layOther_10 : decode cX10_layOther 10 = .ok (.putfield 52, 3) := by decide +kernel
theorem dX10_layOther_13 : decode cX10_layOther 13 = .ok (.iconst 0, 1) := by decide +kernel
theorem dX10_layOther_14 : decode cX10_layOther 14 = .ok (.istore_n 2, 1) := by decide +kernel
theorem dX10_layOther_15 : decode cX10_layOther 15 = .ok (.iload_n 2, 1) := by decide +kernel
theorem dX10_layOther_16 : decode cX10_layOther 16 = .ok (.aload_n 0, 1) := by decide +kernel
theorem dX10_layOther_17 : decode cX10_layOther 17 = .ok (.getfield 52, 3) := by decide +kernel
theorem dX10_layOther_20 : decode cX10_layOther 20 = .ok (.if_icmp .ge 29, 3) := by decide +kernel
theorem dX10_layOther_23 : decode cX10_layOther 23 = .ok (.aload_n 0, 1) := by decide +kernel
theorem dX10_layOther_24 : decode cX10_layOther 24 = .ok (.getfield 25, 3) := by decide +kernel
theorem dX10_layOther_27 : decode cX10_layOther 27 = .ok (.iload_n 2, 1) := by decide +kernel
theorem dX10_layOther_28 : decode cX10_layOther 28 = .ok (.aload_n 0, 1) := by decide +kernel
theorem dX10_layOther_29 : decode cX10_layOther 29 = .ok (.getfield 7, 3) := by decide +kernel
theorem dX10_layOther_32 : decode cX10_layOther 32 = .ok (.iload_n 1, 1) := by decide +kernel
theorem dX10_layOther_33 : decode cX10_layOther 33 = .ok (.invokestatic 45, 3) := by decide +kernel
theorem dX10_layOther_36 : decode cX10_layOther 36 = .ok (.bipush 10, 2) := by decide +kernel
theorem dX10_layOther_38 : decode cX10_layOther 38 = .ok (.iadd, 1) := by decide +kernel
theorem dX10_layOther_39 : decode cX10_layOther 39 = .ok (.iload_n 2, 1) := by decide +kernel
theorem dX10_layOther_40 : decode cX10_layOther 40 = .ok (.iadd, 1) := by decide +kernel
theorem dX10_layOther_41 : decode cX10_layOther 41 = .ok (.iaload, 1) := by decide +kernel
theorem dX10_layOther_42 : decode cX10_layOther 42 = .ok (.iastore, 1) := by decide +kernel
theorem dX10_layOther_43 : decode cX10_layOther 43 = .ok (.iinc 2 1, 3) := by decide +kernel
theorem dX10_layOther_46 : decode cX10_layOther 46 = .ok (.goto (-31), 3) := by decide +kernel
theorem dX10_layOther_49 : decode cX10_layOther 49 = .ok (.return_, 1) := by decide +kernel
theorem dX10_layRow_0 : decode cX10_layRow 0 = .ok (.aload_n 0, 1) := by decide +kernel
theorem dX10_layRow_1 : decode cX10_layRow 1 = .ok (.aload_n 0, 1) := by decide +kernel
theorem dX10_layRow_2 : decode cX10_layRow 2 = .ok (.getfield 7, 3) := by decide +kernel
theorem dX10_layRow_5 : decode cX10_layRow 5 = .ok (.iload_n 1, 1) := by decide +kernel
theorem dX10_layRow_6 : decode cX10_layRow 6 = .ok (.invokestatic 55, 3) := by decide +kernel
theorem dX10_layRow_9 : decode cX10_layRow 9 = .ok (.iaload, 1) := by decide +kernel
theorem dX10_layRow_10 : decode cX10_layRow 10 = .ok (.putfield 52, 3) := by decide +kernel
theorem dX10_layRow_13 : decode cX10_layRow 13 = .ok (.iconst 0, 1) := by decide +kernel
theorem dX10_layRow_14 : decode cX10_layRow 14 = .ok (.istore_n 2, 1) := by decide +kernel
theorem dX10_layRow_15 : decode cX10_layRow 15 = .ok (.iload_n 2, 1) := by decide +kernel
theorem dX10_layRow_16 : decode cX10_layRow 16 = .ok (.aload_n 0, 1) := by decide +kernel
theorem dX10_layRow_17 : decode cX10_layRow 17 = .ok (.getfield 52, 3) := by decide +kernel
theorem dX10_layRow_20 : decode cX10_layRow 20 = .ok (.if_icmp .ge 28, 3) := by decide +kernel
theorem dX10_layRow_23 : decode cX10_layRow 23 = .ok (.aload_n 0, 1) := by decide +kernel
theorem dX10_layRow_24 : decode cX10_layRow 24 = .ok (.getfield 25, 3) := by decide +kernel
theorem dX10_layRow_27 : decode cX10_layRow 27 = .ok (.iload_n 2, 1) := by decide +kernel
theorem dX10_layRow_28 : decode cX10_layRow 28 = .ok (.aload_n 0, 1) := by decide +kernel
theorem dX10_layRow_29 : decode cX10_layRow 29 = .ok (.getfield 7, 3) := by decide +kernel
theorem dX10_layRow_32 : decode cX10_layRow 32 = .ok (.iload_n 1, 1) := by decide +kernel
theorem dX10_layRow_33 : decode cX10_layRow 33 = .ok (.invokestatic 55, 3) := by decide +kernel
theorem dX10_layRow_36 : decode cX10_layRow 36 = .ok (.iconst 1, 1) := by decide +kernel
theorem dX10_layRow_37 : decode cX10_layRow 37 = .ok (.iadd, 1) := by decide +kernel
theorem dX10_layRow_38 : decode cX10_layRow 38 = .ok (.iload_n 2, 1) := by decide +kernel
theorem dX10_layRow_39 : decode cX10_layRow 39 = .ok (.iadd, 1) := by decide +kernel
theorem dX10_layRow_40 : decode cX10_layRow 40 = .ok (.iaload, 1) := by decide +kernel
theorem dX10_layRow_41 : decode cX10_layRow 41 = .ok (.iastore, 1) := by decide +kernel
theorem dX10_layRow_42 : decode cX10_layRow 42 = .ok (.iinc 2 1, 3) := by decide +kernel
theorem dX10_layRow_45 : decode cX10_layRow 45 = .ok (.goto (-30), 3) := by decide +kernel
theorem dX10_layRow_48 : decode cX10_layRow 48 = .ok (.return_, 1) := by decide +kernel
theorem dX10_longest_0 : decode cX10_longest 0 = .ok (.iconst 0, 1) := by decide +kernel
theorem dX10_longest_1 : decode cX10_longest 1 = .ok (.istore_n 1, 1) := by decide +kernel
theorem dX10_longest_2 : decode cX10_longest 2 = .ok (.iload_n 1, 1) := by decide +kernel
theorem dX10_longest_3 : decode cX10_longest 3 = .ok (.sipush 169, 3) := by decide +kernel
theorem dX10_longest_6 : decode cX10_longest 6 = .ok (.if_icmp .ge 16, 3) := by decide +kernel
theorem dX10_longest_9 : decode cX10_longest 9 = .ok (.aload_n 0, 1) := by decide +kernel
theorem dX10_longest_10 : decode cX10_longest 10 = .ok (.getfield 28, 3) := by decide +kernel
theorem dX10_longest_13 : decode cX10_longest 13 = .ok (.iload_n 1, 1) := by decide +kernel
theorem dX10_longest_14 : decode cX10_longest 14 = .ok (.iconst 0, 1) := by decide +kernel
theorem dX10_longest_15 : decode cX10_longest 15 = .ok (.iastore, 1) := by decide +kernel
theorem dX10_longest_16 : decode cX10_longest 16 = .ok (.iinc 1 1, 3) := by decide +kernel
theorem dX10_longest_19 : decode cX10_longest 19 = .ok (.goto (-17), 3) := by decide +kernel
theorem dX10_longest_22 : decode cX10_longest 22 = .ok (.aload_n 0, 1) := by decide +kernel
theorem dX10_longest_23 : decode cX10_longest 23 = .ok (.getfield 49, 3) := by decide +kernel
theorem dX10_longest_26 : decode cX10_longest 26 = .ok (.iconst 1, 1) := by decide +kernel
theorem dX10_longest_27 : decode cX10_longest 27 = .ok (.isub, 1) := by decide +kernel
theorem dX10_longest_28 : decode cX10_longest 28 = .ok (.istore_n 1, 1) := by decide +kernel
theorem dX10_longest_29 : decode cX10_longest 29 = .ok (.iload_n 1, 1) := by decide +kernel
theorem dX10_longest_30 : decode cX10_longest 30 = .ok (.ifCond .lt 113, 3) := by decide +kernel
theorem dX10_longest_33 : decode cX10_longest 33 = .ok (.aload_n 0, 1) := by decide +kernel
theorem dX10_longest_34 : decode cX10_longest 34 = .ok (.getfield 52, 3) := by decide +kernel
theorem dX10_longest_37 : decode cX10_longest 37 = .ok (.iconst 1, 1) := by decide +kernel
theorem dX10_longest_38 : decode cX10_longest 38 = .ok (.isub, 1) := by decide +kernel
theorem dX10_longest_39 : decode cX10_longest 39 = .ok (.istore_n 2, 1) := by decide +kernel
theorem dX10_longest_40 : decode cX10_longest 40 = .ok (.iload_n 2, 1) := by decide +kernel
theorem dX10_longest_41 : decode cX10_longest 41 = .ok (.ifCond .lt 96, 3) := by decide +kernel
theorem dX10_longest_44 : decode cX10_longest 44 = .ok (.aload_n 0, 1) := by decide +kernel
theorem dX10_longest_45 : decode cX10_longest 45 = .ok (.getfield 28, 3) := by decide +kernel
theorem dX10_longest_48 : decode cX10_longest 48 = .ok (.bipush 13, 2) := by decide +kernel
theorem dX10_longest_50 : decode cX10_longest 50 = .ok (.iload_n 1, 1) := by decide +kernel
theorem dX10_longest_51 : decode cX10_longest 51 = .ok (.iconst 1, 1) := by decide +kernel
theorem dX10_longest_52 : decode cX10_longest 52 = .ok (.iadd, 1) := by decide +kernel
theorem dX10_longest_53 : decode cX10_longest 53 = .ok (.imul, 1) := by decide +kernel
theorem dX10_longest_54 : decode cX10_longest 54 = .ok (.iload_n 2, 1) := by decide +kernel
theorem dX10_longest_55 : decode cX10_longest 55 = .ok (.iadd, 1) := by decide +kernel
theorem dX10_longest_56 : decode cX10_longest 56 = .ok (.iaload, 1) := by decide +kernel
theorem dX10_longest_57 : decode cX10_longest 57 = .ok (.istore_n 3, 1) := by decide +kernel
theorem dX10_longest_58 : decode cX10_longest 58 = .ok (.aload_n 0, 1) := by decide +kernel
theorem dX10_longest_59 : decode cX10_longest 59 = .ok (.getfield 28, 3) := by decide +kernel
theorem dX10_longest_62 : decode cX10_longest 62 = .ok (.bipush 13, 2) := by decide +kernel
theorem dX10_longest_64 : decode cX10_longest 64 = .ok (.iload_n 1, 1) := by decide +kernel
theorem dX10_longest_65 : decode cX10_longest 65 = .ok (.imul, 1) := by decide +kernel
theorem dX10_longest_66 : decode cX10_longest 66 = .ok (.iload_n 2, 1) := by decide +kernel
theorem dX10_longest_67 : decode cX10_longest 67 = .ok (.iadd, 1) := by decide +kernel
theorem dX10_longest_68 : decode cX10_longest 68 = .ok (.iconst 1, 1) := by decide +kernel
theorem dX10_longest_69 : decode cX10_longest 69 = .ok (.iadd, 1) := by decide +kernel
theorem dX10_longest_70 : decode cX10_longest 70 = .ok (.iaload, 1) := by decide +kernel
theorem dX10_longest_71 : decode cX10_longest 71 = .ok (.istore 4, 2) := by decide +kernel
theorem dX10_longest_73 : decode cX10_longest 73 = .ok (.aload_n 0, 1) := by decide +kernel
theorem dX10_longest_74 : decode cX10_longest 74 = .ok (.getfield 28, 3) := by decide +kernel
theorem dX10_longest_77 : decode cX10_longest 77 = .ok (.bipush 13, 2) := by decide +kernel
theorem dX10_longest_79 : decode cX10_longest 79 = .ok (.iload_n 1, 1) := by decide +kernel
theorem dX10_longest_80 : decode cX10_longest 80 = .ok (.imul, 1) := by decide +kernel
theorem dX10_longest_81 : decode cX10_longest 81 = .ok (.iload_n 2, 1) := by decide +kernel
theorem dX10_longest_82 : decode cX10_longest 82 = .ok (.iadd, 1) := by decide +kernel
theorem dX10_longest_83 : decode cX10_longest 83 = .ok (.aload_n 0, 1) := by decide +kernel
theorem dX10_longest_84 : decode cX10_longest 84 = .ok (.getfield 22, 3) := by decide +kernel
theorem dX10_longest_87 : decode cX10_longest 87 = .ok (.iload_n 1, 1) := by decide +kernel
theorem dX10_longest_88 : decode cX10_longest 88 = .ok (.iaload, 1) := by decide +kernel
theorem dX10_longest_89 : decode cX10_longest 89 = .ok (.aload_n 0, 1) := by decide +kernel
theorem dX10_longest_90 : decode cX10_longest 90 = .ok (.getfield 25, 3) := by decide +kernel
theorem dX10_longest_93 : decode cX10_longest 93 = .ok (.iload_n 2, 1) := by decide +kernel
theorem dX10_longest_94 : decode cX10_longest 94 = .ok (.iaload, 1) := by decide +kernel
theorem dX10_longest_95 : decode cX10_longest 95 = .ok (.if_icmp .ne 23, 3) := by decide +kernel
theorem dX10_longest_98 : decode cX10_longest 98 = .ok (.aload_n 0, 1) := by decide +kernel
theorem dX10_longest_99 : decode cX10_longest 99 = .ok (.getfield 28, 3) := by decide +kernel
theorem dX10_longest_102 : decode cX10_longest 102 = .ok (.bipush 13, 2) := by decide +kernel
theorem dX10_longest_104 : decode cX10_longest 104 = .ok (.iload_n 1, 1) := by decide +kernel
theorem dX10_longest_105 : decode cX10_longest 105 = .ok (.iconst 1, 1) := by decide +kernel
theorem dX10_longest_106 : decode cX10_longest 106 = .ok (.iadd, 1) := by decide +kernel
theorem dX10_longest_107 : decode cX10_longest 107 = .ok (.imul, 1) := by decide +kernel
theorem dX10_longest_108 : decode cX10_longest 108 = .ok (.iload_n 2, 1) := by decide +kernel
theorem dX10_longest_109 : decode cX10_longest 109 = .ok (.iadd, 1) := by decide +kernel
theorem dX10_longest_110 : decode cX10_longest 110 = .ok (.iconst 1, 1) := by decide +kernel
theorem dX10_longest_111 : decode cX10_longest 111 = .ok (.iadd, 1) := by decide +kernel
theorem dX10_longest_112 : decode cX10_longest 112 = .ok (.iaload, 1) := by decide +kernel
theorem dX10_longest_113 : decode cX10_longest 113 = .ok (.iconst 1, 1) := by decide +kernel
theorem dX10_longest_114 : decode cX10_longest 114 = .ok (.iadd, 1) := by decide +kernel
theorem dX10_longest_115 : decode cX10_longest 115 = .ok (.goto 15, 3) := by decide +kernel
theorem dX10_longest_118 : decode cX10_longest 118 = .ok (.iload_n 3, 1) := by decide +kernel
theorem dX10_longest_119 : decode cX10_longest 119 = .ok (.iload 4, 2) := by decide +kernel
theorem dX10_longest_121 : decode cX10_longest 121 = .ok (.if_icmp .le 7, 3) := by decide +kernel
theorem dX10_longest_124 : decode cX10_longest 124 = .ok (.iload_n 3, 1) := by decide +kernel
theorem dX10_longest_125 : decode cX10_longest 125 = .ok (.goto 5, 3) := by decide +kernel
theorem dX10_longest_128 : decode cX10_longest 128 = .ok (.iload 4, 2) := by decide +kernel
theorem dX10_longest_130 : decode cX10_longest 130 = .ok (.iastore, 1) := by decide +kernel
theorem dX10_longest_131 : decode cX10_longest 131 = .ok (.iinc 2 (-1), 3) := by decide +kernel
theorem dX10_longest_134 : decode cX10_longest 134 = .ok (.goto (-94), 3) := by decide +kernel
theorem dX10_longest_137 : decode cX10_longest 137 = .ok (.iinc 1 (-1), 3) := by decide +kernel
theorem dX10_longest_140 : decode cX10_longest 140 = .ok (.goto (-111), 3) := by decide +kernel
theorem dX10_longest_143 : decode cX10_longest 143 = .ok (.aload_n 0, 1) := by decide +kernel
theorem dX10_longest_144 : decode cX10_longest 144 = .ok (.getfield 28, 3) := by decide +kernel
theorem dX10_longest_147 : decode cX10_longest 147 = .ok (.iconst 0, 1) := by decide +kernel
theorem dX10_longest_148 : decode cX10_longest 148 = .ok (.iaload, 1) := by decide +kernel
theorem dX10_longest_149 : decode cX10_longest 149 = .ok (.ireturn, 1) := by decide +kernel
theorem dX10_matchNow_0 : decode cX10_matchNow 0 = .ok (.sipush 200, 3) := by decide +kernel
theorem dX10_matchNow_3 : decode cX10_matchNow 3 = .ok (.aload_n 0, 1) := by decide +kernel
theorem dX10_matchNow_4 : decode cX10_matchNow 4 = .ok (.invokevirtual 58, 3) := by decide +kernel
theorem dX10_matchNow_7 : decode cX10_matchNow 7 = .ok (.imul, 1) := by decide +kernel
theorem dX10_matchNow_8 : decode cX10_matchNow 8 = .ok (.aload_n 0, 1) := by decide +kernel
theorem dX10_matchNow_9 : decode cX10_matchNow 9 = .ok (.getfield 49, 3) := by decide +kernel
theorem dX10_matchNow_12 : decode cX10_matchNow 12 = .ok (.aload_n 0, 1) := by decide +kernel
theorem dX10_matchNow_13 : decode cX10_matchNow 13 = .ok (.getfield 52, 3) := by decide +kernel
theorem dX10_matchNow_16 : decode cX10_matchNow 16 = .ok (.iadd, 1) := by decide +kernel
theorem dX10_matchNow_17 : decode cX10_matchNow 17 = .ok (.idiv, 1) := by decide +kernel
theorem dX10_matchNow_18 : decode cX10_matchNow 18 = .ok (.ireturn, 1) := by decide +kernel
theorem dX10_bestRow_0 : decode cX10_bestRow 0 = .ok (.iconst (-1), 1) := by decide +kernel
theorem dX10_bestRow_1 : decode cX10_bestRow 1 = .ok (.istore_n 2, 1) := by decide +kernel
theorem dX10_bestRow_2 : decode cX10_bestRow 2 = .ok (.iconst (-1), 1) := by decide +kernel
theorem dX10_bestRow_3 : decode cX10_bestRow 3 = .ok (.istore_n 3, 1) := by decide +kernel
theorem dX10_bestRow_4 : decode cX10_bestRow 4 = .ok (.aload_n 0, 1) := by decide +kernel
theorem dX10_bestRow_5 : decode cX10_bestRow 5 = .ok (.iload_n 1, 1) := by decide +kernel
theorem dX10_bestRow_6 : decode cX10_bestRow 6 = .ok (.invokevirtual 62, 3) := by decide +kernel
theorem dX10_bestRow_9 : decode cX10_bestRow 9 = .ok (.iconst 0, 1) := by decide +kernel
theorem dX10_bestRow_10 : decode cX10_bestRow 10 = .ok (.istore 4, 2) := by decide +kernel
theorem dX10_bestRow_12 : decode cX10_bestRow 12 = .ok (.iload 4, 2) := by decide +kernel
theorem dX10_bestRow_14 : decode cX10_bestRow 14 = .ok (.aload_n 0, 1) := by decide +kernel
theorem dX10_bestRow_15 : decode cX10_bestRow 15 = .ok (.getfield 7, 3) := by decide +kernel
theorem dX10_bestRow_18 : decode cX10_bestRow 18 = .ok (.iconst 1, 1) := by decide +kernel
theorem dX10_bestRow_19 : decode cX10_bestRow 19 = .ok (.iaload, 1) := by decide +kernel
theorem dX10_bestRow_20 : decode cX10_bestRow 20 = .ok (.if_icmp .ge 47, 3) := by decide +kernel
theorem dX10_bestRow_23 : decode cX10_bestRow 23 = .ok (.aload_n 0, 1) := by decide +kernel
theorem dX10_bestRow_24 : decode cX10_bestRow 24 = .ok (.iload 4, 2) := by decide +kernel
theorem dX10_bestRow_26 : decode cX10_bestRow 26 = .ok (.invokevirtual 66, 3) := by decide +kernel
theorem dX10_bestRow_29 : decode cX10_bestRow 29 = .ok (.aload_n 0, 1) := by decide +kernel
theorem dX10_bestRow_30 : decode cX10_bestRow 30 = .ok (.invokevirtual 69, 3) := by decide +kernel
theorem dX10_bestRow_33 : decode cX10_bestRow 33 = .ok (.istore 5, 2) := by decide +kernel
theorem dX10_bestRow_35 : decode cX10_bestRow 35 = .ok (.iload 5, 2) := by decide +kernel
theorem dX10_bestRow_37 : decode cX10_bestRow 37 = .ok (.iload_n 3, 1) := by decide +kernel
theorem dX10_bestRow_38 : decode cX10_bestRow 38 = .ok (.if_icmp .lt 8, 3) := by decide +kernel
theorem dX10_bestRow_41 : decode cX10_bestRow 41 = .ok (.iload 4, 2) := by decide +kernel
theorem dX10_bestRow_43 : decode cX10_bestRow 43 = .ok (.goto 4, 3) := by decide +kernel
theorem dX10_bestRow_46 : decode cX10_bestRow 46 = .ok (.iload_n 2, 1) := by decide +kernel
theorem dX10_bestRow_47 : decode cX10_bestRow 47 = .ok (.istore_n 2, 1) := by decide +kernel
theorem dX10_bestRow_48 : decode cX10_bestRow 48 = .ok (.iload 5, 2) := by decide +kernel
theorem dX10_bestRow_50 : decode cX10_bestRow 50 = .ok (.iload_n 3, 1) := by decide +kernel
theorem dX10_bestRow_51 : decode cX10_bestRow 51 = .ok (.if_icmp .lt 8, 3) := by decide +kernel
theorem dX10_bestRow_54 : decode cX10_bestRow 54 = .ok (.iload 5, 2) := by decide +kernel
theorem dX10_bestRow_56 : decode cX10_bestRow 56 = .ok (.goto 4, 3) := by decide +kernel
theorem dX10_bestRow_59 : decode cX10_bestRow 59 = .ok (.iload_n 3, 1) := by decide +kernel
theorem dX10_bestRow_60 : decode cX10_bestRow 60 = .ok (.istore_n 3, 1) := by decide +kernel
theorem dX10_bestRow_61 : decode cX10_bestRow 61 = .ok (.iinc 4 1, 3) := by decide +kernel
theorem dX10_bestRow_64 : decode cX10_bestRow 64 = .ok (.goto (-52), 3) := by decide +kernel
theorem dX10_bestRow_67 : decode cX10_bestRow 67 = .ok (.iload_n 2, 1) := by decide +kernel
theorem dX10_bestRow_68 : decode cX10_bestRow 68 = .ok (.ireturn, 1) := by decide +kernel
theorem dX10_matchOf_0 : decode cX10_matchOf 0 = .ok (.aload_n 0, 1) := by decide +kernel
theorem dX10_matchOf_1 : decode cX10_matchOf 1 = .ok (.iload_n 1, 1) := by decide +kernel
theorem dX10_matchOf_2 : decode cX10_matchOf 2 = .ok (.invokevirtual 72, 3) := by decide +kernel
theorem dX10_matchOf_5 : decode cX10_matchOf 5 = .ok (.istore_n 2, 1) := by decide +kernel
theorem dX10_matchOf_6 : decode cX10_matchOf 6 = .ok (.iload_n 2, 1) := by decide +kernel
theorem dX10_matchOf_7 : decode cX10_matchOf 7 = .ok (.iconst (-1), 1) := by decide +kernel
theorem dX10_matchOf_8 : decode cX10_matchOf 8 = .ok (.if_icmp .ne 5, 3) := by decide +kernel
theorem dX10_matchOf_11 : decode cX10_matchOf 11 = .ok (.iconst 0, 1) := by decide +kernel
theorem dX10_matchOf_12 : decode cX10_matchOf 12 = .ok (.ireturn, 1) := by decide +kernel
theorem dX10_matchOf_13 : decode cX10_matchOf 13 = .ok (.aload_n 0, 1) := by decide +kernel
theorem dX10_matchOf_14 : decode cX10_matchOf 14 = .ok (.iload_n 2, 1) := by decide +kernel
theorem dX10_matchOf_15 : decode cX10_matchOf 15 = .ok (.invokevirtual 66, 3) := by decide +kernel
theorem dX10_matchOf_18 : decode cX10_matchOf 18 = .ok (.aload_n 0, 1) := by decide +kernel
theorem dX10_matchOf_19 : decode cX10_matchOf 19 = .ok (.invokevirtual 69, 3) := by decide +kernel
theorem dX10_matchOf_22 : decode cX10_matchOf 22 = .ok (.ireturn, 1) := by decide +kernel
theorem dX10_bandNow_0 : decode cX10_bandNow 0 = .ok (.aload_n 0, 1) := by decide +kernel
theorem dX10_bandNow_1 : decode cX10_bandNow 1 = .ok (.iload_n 1, 1) := by decide +kernel
theorem dX10_bandNow_2 : decode cX10_bandNow 2 = .ok (.invokevirtual 75, 3) := by decide +kernel
theorem dX10_bandNow_5 : decode cX10_bandNow 5 = .ok (.istore_n 2, 1) := by decide +kernel
theorem dX10_bandNow_6 : decode cX10_bandNow 6 = .ok (.iload_n 2, 1) := by decide +kernel
theorem dX10_bandNow_7 : decode cX10_bandNow 7 = .ok (.bipush 100, 2) := by decide +kernel
theorem dX10_bandNow_9 : decode cX10_bandNow 9 = .ok (.if_icmp .ne 7, 3) := by decide +kernel
theorem dX10_bandNow_12 : decode cX10_bandNow 12 = .ok (.iconst 0, 1) := by decide +kernel
theorem dX10_bandNow_13 : decode cX10_bandNow 13 = .ok (.goto 34, 3) := by decide +kernel
theorem dX10_bandNow_16 : decode cX10_bandNow 16 = .ok (.iload_n 2, 1) := by decide +kernel
theorem dX10_bandNow_17 : decode cX10_bandNow 17 = .ok (.bipush 85, 2) := by decide +kernel
theorem dX10_bandNow_19 : decode cX10_bandNow 19 = .ok (.if_icmp .lt 7, 3) := by decide +kernel
theorem dX10_bandNow_22 : decode cX10_bandNow 22 = .ok (.iconst 1, 1) := by decide +kernel
theorem dX10_bandNow_23 : decode cX10_bandNow 23 = .ok (.goto 24, 3) := by decide +kernel
theorem dX10_bandNow_26 : decode cX10_bandNow 26 = .ok (.iload_n 2, 1) := by decide +kernel
theorem dX10_bandNow_27 : decode cX10_bandNow 27 = .ok (.bipush 70, 2) := by decide +kernel
theorem dX10_bandNow_29 : decode cX10_bandNow 29 = .ok (.if_icmp .lt 7, 3) := by decide +kernel
theorem dX10_bandNow_32 : decode cX10_bandNow 32 = .ok (.iconst 2, 1) := by decide +kernel
theorem dX10_bandNow_33 : decode cX10_bandNow 33 = .ok (.goto 14, 3) := by decide +kernel
theorem dX10_bandNow_36 : decode cX10_bandNow 36 = .ok (.iload_n 2, 1) := by decide +kernel
theorem dX10_bandNow_37 : decode cX10_bandNow 37 = .ok (.bipush 50, 2) := by decide +kernel
theorem dX10_bandNow_39 : decode cX10_bandNow 39 = .ok (.if_icmp .lt 7, 3) := by decide +kernel
theorem dX10_bandNow_42 : decode cX10_bandNow 42 = .ok (.iconst 3, 1) := by decide +kernel
theorem dX10_bandNow_43 : decode cX10_bandNow 43 = .ok (.goto 4, 3) := by decide +kernel
theorem dX10_bandNow_46 : decode cX10_bandNow 46 = .ok (.iconst 4, 1) := by decide +kernel
theorem dX10_bandNow_47 : decode cX10_bandNow 47 = .ok (.ireturn, 1) := by decide +kernel
theorem dX10_partNow_0 : decode cX10_partNow 0 = .ok (.aload_n 0, 1) := by decide +kernel
theorem dX10_partNow_1 : decode cX10_partNow 1 = .ok (.getfield 7, 3) := by decide +kernel
theorem dX10_partNow_4 : decode cX10_partNow 4 = .ok (.bipush 64, 2) := by decide +kernel
theorem dX10_partNow_6 : decode cX10_partNow 6 = .ok (.iconst 3, 1) := by decide +kernel
theorem dX10_partNow_7 : decode cX10_partNow 7 = .ok (.aload_n 0, 1) := by decide +kernel
theorem dX10_partNow_8 : decode cX10_partNow 8 = .ok (.iload_n 1, 1) := by decide +kernel
theorem dX10_partNow_9 : decode cX10_partNow 9 = .ok (.invokevirtual 78, 3) := by decide +kernel
theorem dX10_partNow_12 : decode cX10_partNow 12 = .ok (.imul, 1) := by decide +kernel
theorem dX10_partNow_13 : decode cX10_partNow 13 = .ok (.iadd, 1) := by decide +kernel
theorem dX10_partNow_14 : decode cX10_partNow 14 = .ok (.iaload, 1) := by decide +kernel
theorem dX10_partNow_15 : decode cX10_partNow 15 = .ok (.ireturn, 1) := by decide +kernel
theorem dX10_isDisputed_0 : decode cX10_isDisputed 0 = .ok (.aload_n 0, 1) := by decide +kernel
theorem dX10_isDisputed_1 : decode cX10_isDisputed 1 = .ok (.getfield 7, 3) := by decide +kernel
theorem dX10_isDisputed_4 : decode cX10_isDisputed 4 = .ok (.bipush 56, 2) := by decide +kernel
theorem dX10_isDisputed_6 : decode cX10_isDisputed 6 = .ok (.iload_n 1, 1) := by decide +kernel
theorem dX10_isDisputed_7 : decode cX10_isDisputed 7 = .ok (.iadd, 1) := by decide +kernel
theorem dX10_isDisputed_8 : decode cX10_isDisputed 8 = .ok (.iaload, 1) := by decide +kernel
theorem dX10_isDisputed_9 : decode cX10_isDisputed 9 = .ok (.iconst (-1), 1) := by decide +kernel
theorem dX10_isDisputed_10 : decode cX10_isDisputed 10 = .ok (.if_icmp .eq 5, 3) := by decide +kernel
theorem dX10_isDisputed_13 : decode cX10_isDisputed 13 = .ok (.iconst 0, 1) := by decide +kernel
theorem dX10_isDisputed_14 : decode cX10_isDisputed 14 = .ok (.ireturn, 1) := by decide +kernel
theorem dX10_isDisputed_15 : decode cX10_isDisputed 15 = .ok (.aload_n 0, 1) := by decide +kernel
theorem dX10_isDisputed_16 : decode cX10_isDisputed 16 = .ok (.iload_n 1, 1) := by decide +kernel
theorem dX10_isDisputed_17 : decode cX10_isDisputed 17 = .ok (.invokevirtual 81, 3) := by decide +kernel
theorem dX10_isDisputed_20 : decode cX10_isDisputed 20 = .ok (.iconst 1, 1) := by decide +kernel
theorem dX10_isDisputed_21 : decode cX10_isDisputed 21 = .ok (.if_icmp .le 7, 3) := by decide +kernel
theorem dX10_isDisputed_24 : decode cX10_isDisputed 24 = .ok (.iconst 1, 1) := by decide +kernel
theorem dX10_isDisputed_25 : decode cX10_isDisputed 25 = .ok (.goto 4, 3) := by decide +kernel
theorem dX10_isDisputed_28 : decode cX10_isDisputed 28 = .ok (.iconst 0, 1) := by decide +kernel
theorem dX10_isDisputed_29 : decode cX10_isDisputed 29 = .ok (.ireturn, 1) := by decide +kernel
theorem dX10_unlike_0 : decode cX10_unlike 0 = .ok (.iconst 0, 1) := by decide +kernel
theorem dX10_unlike_1 : decode cX10_unlike 1 = .ok (.istore_n 2, 1) := by decide +kernel
theorem dX10_unlike_2 : decode cX10_unlike 2 = .ok (.iconst 0, 1) := by decide +kernel
theorem dX10_unlike_3 : decode cX10_unlike 3 = .ok (.istore_n 3, 1) := by decide +kernel
theorem dX10_unlike_4 : decode cX10_unlike 4 = .ok (.iconst 0, 1) := by decide +kernel
theorem dX10_unlike_5 : decode cX10_unlike 5 = .ok (.istore 4, 2) := by decide +kernel
theorem dX10_unlike_7 : decode cX10_unlike 7 = .ok (.iload 4, 2) := by decide +kernel
theorem dX10_unlike_9 : decode cX10_unlike 9 = .ok (.iconst 4, 1) := by decide +kernel
theorem dX10_unlike_10 : decode cX10_unlike 10 = .ok (.if_icmp .ge 62, 3) := by decide +kernel
theorem dX10_unlike_13 : decode cX10_unlike 13 = .ok (.aload_n 0, 1) := by decide +kernel
theorem dX10_unlike_14 : decode cX10_unlike 14 = .ok (.getfield 7, 3) := by decide +kernel
theorem dX10_unlike_17 : decode cX10_unlike 17 = .ok (.iload_n 1, 1) := by decide +kernel
theorem dX10_unlike_18 : decode cX10_unlike 18 = .ok (.iload 4, 2) := by decide +kernel
theorem dX10_unlike_20 : decode cX10_unlike 20 = .ok (.invokestatic 84, 3) := by decide +kernel
theorem dX10_unlike_23 : decode cX10_unlike 23 = .ok (.iaload, 1) := by decide +kernel
theorem dX10_unlike_24 : decode cX10_unlike 24 = .ok (.istore 5, 2) := by decide +kernel
theorem dX10_unlike_26 : decode cX10_unlike 26 = .ok (.iload_n 3, 1) := by decide +kernel
theorem dX10_unlike_27 : decode cX10_unlike 27 = .ok (.iload 5, 2) := by decide +kernel
theorem dX10_unlike_29 : decode cX10_unlike 29 = .ok (.iconst (-1), 1) := by decide +kernel
theorem dX10_unlike_30 : decode cX10_unlike 30 = .ok (.if_icmp .eq 16, 3) := by decide +kernel
theorem dX10_unlike_33 : decode cX10_unlike 33 = .ok (.iload_n 2, 1) := by decide +kernel
theorem dX10_unlike_34 : decode cX10_unlike 34 = .ok (.iload 5, 2) := by decide +kernel
theorem dX10_unlike_36 : decode cX10_unlike 36 = .ok (.ishr, 1) := by decide +kernel
theorem dX10_unlike_37 : decode cX10_unlike 37 = .ok (.iconst 1, 1) := by decide +kernel
theorem dX10_unlike_38 : decode cX10_unlike 38 = .ok (.iand, 1) := by decide +kernel
theorem dX10_unlike_39 : decode cX10_unlike 39 = .ok (.ifCond .ne 7, 3) := by decide +kernel
theorem dX10_unlike_42 : decode cX10_unlike 42 = .ok (.iconst 1, 1) := by decide +kernel
theorem dX10_unlike_43 : decode cX10_unlike 43 = .ok (.goto 4, 3) := by decide +kernel
theorem dX10_unlike_46 : decode cX10_unlike 46 = .ok (.iconst 0, 1) := by decide +kernel
theorem dX10_unlike_47 : decode cX10_unlike 47 = .ok (.iadd, 1) := by decide +kernel
theorem dX10_unlike_48 : decode cX10_unlike 48 = .ok (.istore_n 3, 1) := by decide +kernel
theorem dX10_unlike_49 : decode cX10_unlike 49 = .ok (.iload_n 2, 1) := by decide +kernel
theorem dX10_unlike_50 : decode cX10_unlike 50 = .ok (.iload 5, 2) := by decide +kernel
theorem dX10_unlike_52 : decode cX10_unlike 52 = .ok (.iconst (-1), 1) := by decide +kernel
theorem dX10_unlike_53 : decode cX10_unlike 53 = .ok (.if_icmp .ne 7, 3) := by decide +kernel
theorem dX10_unlike_56 : decode cX10_unlike 56 = .ok (.iconst 0, 1) := by decide +kernel
theorem dX10_unlike_57 : decode cX10_unlike 57 = .ok (.goto 7, 3) := by decide +kernel
theorem dX10_unlike_60 : decode cX10_unlike 60 = .ok (.iconst 1, 1) := by decide +kernel
theorem dX10_unlike_61 : decode cX10_unlike 61 = .ok (.iload 5, 2) := by decide +kernel
theorem dX10_unlike_63 : decode cX10_unlike 63 = .ok (.ishl, 1) := by decide +kernel
theorem dX10_unlike_64 : decode cX10_unlike 64 = .ok (.ior, 1) := by decide +kernel
theorem dX10_unlike_65 : decode cX10_unlike 65 = .ok (.istore_n 2, 1) := by decide +kernel
theorem dX10_unlike_66 : decode cX10_unlike 66 = .ok (.iinc 4 1, 3) := by decide +kernel
theorem dX10_unlike_69 : decode cX10_unlike 69 = .ok (.goto (-62), 3) := by decide +kernel
theorem dX10_unlike_72 : decode cX10_unlike 72 = .ok (.iload_n 3, 1) := by decide +kernel
theorem dX10_unlike_73 : decode cX10_unlike 73 = .ok (.ireturn, 1) := by decide +kernel
theorem dX10_hasDisputed_0 : decode cX10_hasDisputed 0 = .ok (.iconst 0, 1) := by decide +kernel
theorem dX10_hasDisputed_1 : decode cX10_hasDisputed 1 = .ok (.istore_n 2, 1) := by decide +kernel
theorem dX10_hasDisputed_2 : decode cX10_hasDisputed 2 = .ok (.iconst 0, 1) := by decide +kernel
theorem dX10_hasDisputed_3 : decode cX10_hasDisputed 3 = .ok (.istore_n 3, 1) := by decide +kernel
theorem dX10_hasDisputed_4 : decode cX10_hasDisputed 4 = .ok (.iload_n 3, 1) := by decide +kernel
theorem dX10_hasDisputed_5 : decode cX10_hasDisputed 5 = .ok (.aload_n 0, 1) := by decide +kernel
theorem dX10_hasDisputed_6 : decode cX10_hasDisputed 6 = .ok (.getfield 7, 3) := by decide +kernel
theorem dX10_hasDisputed_9 : decode cX10_hasDisputed 9 = .ok (.iload_n 1, 1) := by decide +kernel
theorem dX10_hasDisputed_10 : decode cX10_hasDisputed 10 = .ok (.invokestatic 45, 3) := by decide +kernel
theorem dX10_hasDisputed_13 : decode cX10_hasDisputed 13 = .ok (.iaload, 1) := by decide +kernel
theorem dX10_hasDisputed_14 : decode cX10_hasDisputed 14 = .ok (.if_icmp .ge 40, 3) := by decide +kernel
theorem dX10_hasDisputed_17 : decode cX10_hasDisputed 17 = .ok (.iload_n 2, 1) := by decide +kernel
theorem dX10_hasDisputed_18 : decode cX10_hasDisputed 18 = .ok (.ifCond .ne 24, 3) := by decide +kernel
theorem dX10_hasDisputed_21 : decode cX10_hasDisputed 21 = .ok (.aload_n 0, 1) := by decide +kernel
theorem dX10_hasDisputed_22 : decode cX10_hasDisputed 22 = .ok (.aload_n 0, 1) := by decide +kernel
theorem dX10_hasDisputed_23 : decode cX10_hasDisputed 23 = .ok (.getfield 7, 3) := by decide +kernel
theorem dX10_hasDisputed_26 : decode cX10_hasDisputed 26 = .ok (.iload_n 1, 1) := by decide +kernel
theorem dX10_hasDisputed_27 : decode cX10_hasDisputed 27 = .ok (.invokestatic 45, 3) := by decide +kernel
theorem dX10_hasDisputed_30 : decode cX10_hasDisputed 30 = .ok (.bipush 10, 2) := by decide +kernel
theorem dX10_hasDisputed_32 : decode cX10_hasDisputed 32 = .ok (.iadd, 1) := by decide +kernel
theorem dX10_hasDisputed_33 : decode cX10_hasDisputed 33 = .ok (.iload_n 3, 1) := by decide +kernel
theorem dX10_hasDisputed_34 : decode cX10_hasDisputed 34 = .ok (.iadd, 1) := by decide +kernel
theorem dX10_hasDisputed_35 : decode cX10_hasDisputed 35 = .ok (.iaload, 1) := by decide +kernel
theorem dX10_hasDisputed_36 : decode cX10_hasDisputed 36 = .ok (.invokevirtual 88, 3) := by decide +kernel
theorem dX10_hasDisputed_39 : decode cX10_hasDisputed 39 = .ok (.ifCond .eq 7, 3) := by decide +kernel
theorem dX10_hasDisputed_42 : decode cX10_hasDisputed 42 = .ok (.iconst 1, 1) := by decide +kernel
theorem dX10_hasDisputed_43 : decode cX10_hasDisputed 43 = .ok (.goto 4, 3) := by decide +kernel
theorem dX10_hasDisputed_46 : decode cX10_hasDisputed 46 = .ok (.iconst 0, 1) := by decide +kernel
theorem dX10_hasDisputed_47 : decode cX10_hasDisputed 47 = .ok (.istore_n 2, 1) := by decide +kernel
theorem dX10_hasDisputed_48 : decode cX10_hasDisputed 48 = .ok (.iinc 3 1, 3) := by decide +kernel
theorem dX10_hasDisputed_51 : decode cX10_hasDisputed 51 = .ok (.goto (-47), 3) := by decide +kernel
theorem dX10_hasDisputed_54 : decode cX10_hasDisputed 54 = .ok (.iload_n 2, 1) := by decide +kernel
theorem dX10_hasDisputed_55 : decode cX10_hasDisputed 55 = .ok (.ireturn, 1) := by decide +kernel
theorem dX10_rate_0 : decode cX10_rate 0 = .ok (.aload_n 0, 1) := by decide +kernel
theorem dX10_rate_1 : decode cX10_rate 1 = .ok (.iconst 0, 1) := by decide +kernel
theorem dX10_rate_2 : decode cX10_rate 2 = .ok (.putfield 34, 3) := by decide +kernel
theorem dX10_rate_5 : decode cX10_rate 5 = .ok (.iload_n 1, 1) := by decide +kernel
theorem dX10_rate_6 : decode cX10_rate 6 = .ok (.invokestatic 92, 3) := by decide +kernel
theorem dX10_rate_9 : decode cX10_rate 9 = .ok (.ifCond .ne 9, 3) := by decide +kernel
theorem dX10_rate_12 : decode cX10_rate 12 = .ok (.aload_n 0, 1) := by decide +kernel
theorem dX10_rate_13 : decode cX10_rate 13 = .ok (.iconst 1, 1) := by decide +kernel
theorem dX10_rate_14 : decode cX10_rate 14 = .ok (.invokevirtual 95, 3) := by decide +kernel
theorem dX10_rate_17 : decode cX10_rate 17 = .ok (.ireturn, 1) := by decide +kernel
theorem dX10_rate_18 : decode cX10_rate 18 = .ok (.iload_n 2, 1) := by decide +kernel
theorem dX10_rate_19 : decode cX10_rate 19 = .ok (.iconst 1, 1) := by decide +kernel
theorem dX10_rate_20 : decode cX10_rate 20 = .ok (.bipush 99, 2) := by decide +kernel
theorem dX10_rate_22 : decode cX10_rate 22 = .ok (.invokestatic 41, 3) := by decide +kernel
theorem dX10_rate_25 : decode cX10_rate 25 = .ok (.ifCond .ne 9, 3) := by decide +kernel
theorem dX10_rate_28 : decode cX10_rate 28 = .ok (.aload_n 0, 1) := by decide +kernel
theorem dX10_rate_29 : decode cX10_rate 29 = .ok (.iconst 2, 1) := by decide +kernel
theorem dX10_rate_30 : decode cX10_rate 30 = .ok (.invokevirtual 95, 3) := by decide +kernel
theorem dX10_rate_33 : decode cX10_rate 33 = .ok (.ireturn, 1) := by decide +kernel
theorem dX10_rate_34 : decode cX10_rate 34 = .ok (.aload_n 0, 1) := by decide +kernel
theorem dX10_rate_35 : decode cX10_rate 35 = .ok (.invokevirtual 98, 3) := by decide +kernel
theorem dX10_rate_38 : decode cX10_rate 38 = .ok (.aload_n 0, 1) := by decide +kernel
theorem dX10_rate_39 : decode cX10_rate 39 = .ok (.getfield 7, 3) := by decide +kernel
theorem dX10_rate_42 : decode cX10_rate 42 = .ok (.iload_n 1, 1) := by decide +kernel
theorem dX10_rate_43 : decode cX10_rate 43 = .ok (.invokestatic 101, 3) := by decide +kernel
theorem dX10_rate_46 : decode cX10_rate 46 = .ok (.iaload, 1) := by decide +kernel
theorem dX10_rate_47 : decode cX10_rate 47 = .ok (.istore_n 3, 1) := by decide +kernel
theorem dX10_rate_48 : decode cX10_rate 48 = .ok (.aload_n 0, 1) := by decide +kernel
theorem dX10_rate_49 : decode cX10_rate 49 = .ok (.getfield 7, 3) := by decide +kernel
theorem dX10_rate_52 : decode cX10_rate 52 = .ok (.iload_n 1, 1) := by decide +kernel
theorem dX10_rate_53 : decode cX10_rate 53 = .ok (.invokestatic 101, 3) := by decide +kernel
theorem dX10_rate_56 : decode cX10_rate 56 = .ok (.iload_n 2, 1) := by decide +kernel
theorem dX10_rate_57 : decode cX10_rate 57 = .ok (.iastore, 1) := by decide +kernel
theorem dX10_rate_58 : decode cX10_rate 58 = .ok (.iload_n 3, 1) := by decide +kernel
theorem dX10_rate_59 : decode cX10_rate 59 = .ok (.ireturn, 1) := by decide +kernel
theorem dX10_pays_0 : decode cX10_pays 0 = .ok (.aload_n 0, 1) := by decide +kernel
theorem dX10_pays_1 : decode cX10_pays 1 = .ok (.iconst 0, 1) := by decide +kernel
theorem dX10_pays_2 : decode cX10_pays 2 = .ok (.putfield 34, 3) := by decide +kernel
theorem dX10_pays_5 : decode cX10_pays 5 = .ok (.iload_n 1, 1) := by decide +kernel
theorem dX10_pays_6 : decode cX10_pays 6 = .ok (.invokestatic 104, 3) := by decide +kernel
theorem dX10_pays_9 : decode cX10_pays 9 = .ok (.ifCond .ne 9, 3) := by decide +kernel
theorem dX10_pays_12 : decode cX10_pays 12 = .ok (.aload_n 0, 1) := by decide +kernel
theorem dX10_pays_13 : decode cX10_pays 13 = .ok (.iconst 1, 1) := by decide +kernel
theorem dX10_pays_14 : decode cX10_pays 14 = .ok (.invokevirtual 95, 3) := by decide +kernel
theorem dX10_pays_17 : decode cX10_pays 17 = .ok (.ireturn, 1) := by decide +kernel
theorem dX10_pays_18 : decode cX10_pays 18 = .ok (.iload_n 2, 1) := by decide +kernel
theorem dX10_pays_19 : decode cX10_pays 19 = .ok (.iconst 0, 1) := by decide +kernel
theorem dX10_pays_20 : decode cX10_pays 20 = .ok (.bipush 100, 2) := by decide +kernel
theorem dX10_pays_22 : decode cX10_pays 22 = .ok (.invokestatic 41, 3) := by decide +kernel
theorem dX10_pays_25 : decode cX10_pays 25 = .ok (.ifCond .ne 9, 3) := by decide +kernel
theorem dX10_pays_28 : decode cX10_pays 28 = .ok (.aload_n 0, 1) := by decide +kernel
theorem dX10_pays_29 : decode cX10_pays 29 = .ok (.iconst 2, 1) := by decide +kernel
theorem dX10_pays_30 : decode cX10_pays 30 = .ok (.invokevirtual 95, 3) := by decide +kernel
theorem dX10_pays_33 : decode cX10_pays 33 = .ok (.ireturn, 1) := by decide +kernel
theorem dX10_pays_34 : decode cX10_pays 34 = .ok (.aload_n 0, 1) := by decide +kernel
theorem dX10_pays_35 : decode cX10_pays 35 = .ok (.invokevirtual 98, 3) := by decide +kernel
theorem dX10_pays_38 : decode cX10_pays 38 = .ok (.aload_n 0, 1) := by decide +kernel
theorem dX10_pays_39 : decode cX10_pays 39 = .ok (.getfield 7, 3) := by decide +kernel
theorem dX10_pays_42 : decode cX10_pays 42 = .ok (.bipush 64, 2) := by decide +kernel
theorem dX10_pays_44 : decode cX10_pays 44 = .ok (.iconst 3, 1) := by decide +kernel
theorem dX10_pays_45 : decode cX10_pays 45 = .ok (.iload_n 1, 1) := by decide +kernel
theorem dX10_pays_46 : decode cX10_pays 46 = .ok (.imul, 1) := by decide +kernel
theorem dX10_pays_47 : decode cX10_pays 47 = .ok (.iadd, 1) := by decide +kernel
theorem dX10_pays_48 : decode cX10_pays 48 = .ok (.iaload, 1) := by decide +kernel
theorem dX10_pays_49 : decode cX10_pays 49 = .ok (.istore_n 3, 1) := by decide +kernel
theorem dX10_pays_50 : decode cX10_pays 50 = .ok (.aload_n 0, 1) := by decide +kernel
theorem dX10_pays_51 : decode cX10_pays 51 = .ok (.getfield 7, 3) := by decide +kernel
theorem dX10_pays_54 : decode cX10_pays 54 = .ok (.bipush 64, 2) := by decide +kernel
theorem dX10_pays_56 : decode cX10_pays 56 = .ok (.iconst 3, 1) := by decide +kernel
theorem dX10_pays_57 : decode cX10_pays 57 = .ok (.iload_n 1, 1) := by decide +kernel
theorem dX10_pays_58 : decode cX10_pays 58 = .ok (.imul, 1) := by decide +kernel
theorem dX10_pays_59 : decode cX10_pays 59 = .ok (.iadd, 1) := by decide +kernel
theorem dX10_pays_60 : decode cX10_pays 60 = .ok (.iload_n 2, 1) := by decide +kernel
theorem dX10_pays_61 : decode cX10_pays 61 = .ok (.iastore, 1) := by decide +kernel
theorem dX10_pays_62 : decode cX10_pays 62 = .ok (.iload_n 3, 1) := by decide +kernel
theorem dX10_pays_63 : decode cX10_pays 63 = .ok (.ireturn, 1) := by decide +kernel
theorem dX10_set_0 : decode cX10_set 0 = .ok (.aload_n 0, 1) := by decide +kernel
theorem dX10_set_1 : decode cX10_set 1 = .ok (.iconst 0, 1) := by decide +kernel
theorem dX10_set_2 : decode cX10_set 2 = .ok (.putfield 34, 3) := by decide +kernel
theorem dX10_set_5 : decode cX10_set 5 = .ok (.iload_n 1, 1) := by decide +kernel
theorem dX10_set_6 : decode cX10_set 6 = .ok (.iconst 0, 1) := by decide +kernel
theorem dX10_set_7 : decode cX10_set 7 = .ok (.iconst 1, 1) := by decide +kernel
theorem dX10_set_8 : decode cX10_set 8 = .ok (.invokestatic 41, 3) := by decide +kernel
theorem dX10_set_11 : decode cX10_set 11 = .ok (.ifCond .ne 9, 3) := by decide +kernel
theorem dX10_set_14 : decode cX10_set 14 = .ok (.aload_n 0, 1) := by decide +kernel
theorem dX10_set_15 : decode cX10_set 15 = .ok (.iconst 1, 1) := by decide +kernel
theorem dX10_set_16 : decode cX10_set 16 = .ok (.invokevirtual 95, 3) := by decide +kernel
theorem dX10_set_19 : decode cX10_set 19 = .ok (.ireturn, 1) := by decide +kernel
theorem dX10_set_20 : decode cX10_set 20 = .ok (.iload_n 2, 1) := by decide +kernel
theorem dX10_set_21 : decode cX10_set 21 = .ok (.iconst 0, 1) := by decide +kernel
theorem dX10_set_22 : decode cX10_set 22 = .ok (.iload_n 1, 1) := by decide +kernel
theorem dX10_set_23 : decode cX10_set 23 = .ok (.ifCond .ne 8, 3) := by decide +kernel
theorem dX10_set_26 : decode cX10_set 26 = .ok (.bipush 100, 2) := by decide +kernel
theorem dX10_set_28 : decode cX10_set 28 = .ok (.goto 6, 3) := by decide +kernel
theorem dX10_set_31 : decode cX10_set 31 = .ok (.sipush 200, 3) := by decide +kernel
theorem dX10_set_34 : decode cX10_set 34 = .ok (.invokestatic 41, 3) := by decide +kernel
theorem dX10_set_37 : decode cX10_set 37 = .ok (.ifCond .ne 9, 3) := by decide +kernel
theorem dX10_set_40 : decode cX10_set 40 = .ok (.aload_n 0, 1) := by decide +kernel
theorem dX10_set_41 : decode cX10_set 41 = .ok (.iconst 2, 1) := by decide +kernel
theorem dX10_set_42 : decode cX10_set 42 = .ok (.invokevirtual 95, 3) := by decide +kernel
theorem dX10_set_45 : decode cX10_set 45 = .ok (.ireturn, 1) := by decide +kernel
theorem dX10_set_46 : decode cX10_set 46 = .ok (.aload_n 0, 1) := by decide +kernel
theorem dX10_set_47 : decode cX10_set 47 = .ok (.invokevirtual 98, 3) := by decide +kernel
theorem dX10_set_50 : decode cX10_set 50 = .ok (.aload_n 0, 1) := by decide +kernel
theorem dX10_set_51 : decode cX10_set 51 = .ok (.getfield 7, 3) := by decide +kernel
theorem dX10_set_54 : decode cX10_set 54 = .ok (.iconst 2, 1) := by decide +kernel
theorem dX10_set_55 : decode cX10_set 55 = .ok (.iload_n 1, 1) := by decide +kernel
theorem dX10_set_56 : decode cX10_set 56 = .ok (.iadd, 1) := by decide +kernel
theorem dX10_set_57 : decode cX10_set 57 = .ok (.iaload, 1) := by decide +kernel
theorem dX10_set_58 : decode cX10_set 58 = .ok (.istore_n 3, 1) := by decide +kernel
theorem dX10_set_59 : decode cX10_set 59 = .ok (.aload_n 0, 1) := by decide +kernel
theorem dX10_set_60 : decode cX10_set 60 = .ok (.getfield 7, 3) := by decide +kernel
theorem dX10_set_63 : decode cX10_set 63 = .ok (.iconst 2, 1) := by decide +kernel
theorem dX10_set_64 : decode cX10_set 64 = .ok (.iload_n 1, 1) := by decide +kernel
theorem dX10_set_65 : decode cX10_set 65 = .ok (.iadd, 1) := by decide +kernel
theorem dX10_set_66 : decode cX10_set 66 = .ok (.iload_n 2, 1) := by decide +kernel
theorem dX10_set_67 : decode cX10_set 67 = .ok (.iastore, 1) := by decide +kernel
theorem dX10_set_68 : decode cX10_set 68 = .ok (.iload_n 3, 1) := by decide +kernel
theorem dX10_set_69 : decode cX10_set 69 = .ok (.ireturn, 1) := by decide +kernel
theorem dX10_fix_0 : decode cX10_fix 0 = .ok (.aload_n 0, 1) := by decide +kernel
theorem dX10_fix_1 : decode cX10_fix 1 = .ok (.iload_n 1, 1) := by decide +kernel
theorem dX10_fix_2 : decode cX10_fix 2 = .ok (.invokevirtual 78, 3) := by decide +kernel
theorem dX10_fix_5 : decode cX10_fix 5 = .ok (.istore_n 2, 1) := by decide +kernel
theorem dX10_fix_6 : decode cX10_fix 6 = .ok (.aload_n 0, 1) := by decide +kernel
theorem dX10_fix_7 : decode cX10_fix 7 = .ok (.getfield 7, 3) := by decide +kernel
theorem dX10_fix_10 : decode cX10_fix 10 = .ok (.iload_n 1, 1) := by decide +kernel
theorem dX10_fix_11 : decode cX10_fix 11 = .ok (.invokestatic 45, 3) := by decide +kernel
theorem dX10_fix_14 : decode cX10_fix 14 = .ok (.iconst 3, 1) := by decide +kernel
theorem dX10_fix_15 : decode cX10_fix 15 = .ok (.iadd, 1) := by decide +kernel
theorem dX10_fix_16 : decode cX10_fix 16 = .ok (.iload_n 2, 1) := by decide +kernel
theorem dX10_fix_17 : decode cX10_fix 17 = .ok (.iastore, 1) := by decide +kernel
theorem dX10_fix_18 : decode cX10_fix 18 = .ok (.aload_n 0, 1) := by decide +kernel
theorem dX10_fix_19 : decode cX10_fix 19 = .ok (.getfield 7, 3) := by decide +kernel
theorem dX10_fix_22 : decode cX10_fix 22 = .ok (.iload_n 1, 1) := by decide +kernel
theorem dX10_fix_23 : decode cX10_fix 23 = .ok (.invokestatic 45, 3) := by decide +kernel
theorem dX10_fix_26 : decode cX10_fix 26 = .ok (.iconst 4, 1) := by decide +kernel
theorem dX10_fix_27 : decode cX10_fix 27 = .ok (.iadd, 1) := by decide +kernel
theorem dX10_fix_28 : decode cX10_fix 28 = .ok (.aload_n 0, 1) := by decide +kernel
theorem dX10_fix_29 : decode cX10_fix 29 = .ok (.getfield 7, 3) := by decide +kernel
theorem dX10_fix_32 : decode cX10_fix 32 = .ok (.bipush 64, 2) := by decide +kernel
theorem dX10_fix_34 : decode cX10_fix 34 = .ok (.iconst 3, 1) := by decide +kernel
theorem dX10_fix_35 : decode cX10_fix 35 = .ok (.iload_n 2, 1) := by decide +kernel
theorem dX10_fix_36 : decode cX10_fix 36 = .ok (.imul, 1) := by decide +kernel
theorem dX10_fix_37 : decode cX10_fix 37 = .ok (.iadd, 1) := by decide +kernel
theorem dX10_fix_38 : decode cX10_fix 38 = .ok (.iaload, 1) := by decide +kernel
theorem dX10_fix_39 : decode cX10_fix 39 = .ok (.iastore, 1) := by decide +kernel
theorem dX10_fix_40 : decode cX10_fix 40 = .ok (.return_, 1) := by decide +kernel
theorem dX10_assign_0 : decode cX10_assign 0 = .ok (.aload_n 0, 1) := by decide +kernel
theorem dX10_assign_1 : decode cX10_assign 1 = .ok (.iconst 0, 1) := by decide +kernel
theorem dX10_assign_2 : decode cX10_assign 2 = .ok (.putfield 34, 3) := by decide +kernel
theorem dX10_assign_5 : decode cX10_assign 5 = .ok (.aload_n 0, 1) := by decide +kernel
theorem dX10_assign_6 : decode cX10_assign 6 = .ok (.iload_n 1, 1) := by decide +kernel
theorem dX10_assign_7 : decode cX10_assign 7 = .ok (.invokevirtual 107, 3) := by decide +kernel
theorem dX10_assign_10 : decode cX10_assign 10 = .ok (.ifCond .eq 10, 3) := by decide +kernel
theorem dX10_assign_13 : decode cX10_assign 13 = .ok (.iload_n 2, 1) := by decide +kernel
theorem dX10_assign_14 : decode cX10_assign 14 = .ok (.invokestatic 92, 3) := by decide +kernel
theorem dX10_assign_17 : decode cX10_assign 17 = .ok (.ifCond .ne 9, 3) := by decide +kernel
theorem dX10_assign_20 : decode cX10_assign 20 = .ok (.aload_n 0, 1) := by decide +kernel
theorem dX10_assign_21 : decode cX10_assign 21 = .ok (.iconst 1, 1) := by decide +kernel
theorem dX10_assign_22 : decode cX10_assign 22 = .ok (.invokevirtual 95, 3) := by decide +kernel
theorem dX10_assign_25 : decode cX10_assign 25 = .ok (.ireturn, 1) := by decide +kernel
theorem dX10_assign_26 : decode cX10_assign 26 = .ok (.aload_n 0, 1) := by decide +kernel
theorem dX10_assign_27 : decode cX10_assign 27 = .ok (.getfield 7, 3) := by decide +kernel
theorem dX10_assign_30 : decode cX10_assign 30 = .ok (.iload_n 1, 1) := by decide +kernel
theorem dX10_assign_31 : decode cX10_assign 31 = .ok (.invokestatic 45, 3) := by decide +kernel
theorem dX10_assign_34 : decode cX10_assign 34 = .ok (.iconst 1, 1) := by decide +kernel
theorem dX10_assign_35 : decode cX10_assign 35 = .ok (.iadd, 1) := by decide +kernel
theorem dX10_assign_36 : decode cX10_assign 36 = .ok (.iaload, 1) := by decide +kernel
theorem dX10_assign_37 : decode cX10_assign 37 = .ok (.ifCond .eq 9, 3) := by decide +kernel
theorem dX10_assign_40 : decode cX10_assign 40 = .ok (.aload_n 0, 1) := by decide +kernel
theorem dX10_assign_41 : decode cX10_assign 41 = .ok (.iconst 2, 1) := by decide +kernel
theorem dX10_assign_42 : decode cX10_assign 42 = .ok (.invokevirtual 95, 3) := by decide +kernel
theorem dX10_assign_45 : decode cX10_assign 45 = .ok (.ireturn, 1) := by decide +kernel
theorem dX10_assign_46 : decode cX10_assign 46 = .ok (.aload_n 0, 1) := by decide +kernel
theorem dX10_assign_47 : decode cX10_assign 47 = .ok (.invokevirtual 98, 3) := by decide +kernel
theorem dX10_assign_50 : decode cX10_assign 50 = .ok (.aload_n 0, 1) := by decide +kernel
theorem dX10_assign_51 : decode cX10_assign 51 = .ok (.getfield 7, 3) := by decide +kernel
theorem dX10_assign_54 : decode cX10_assign 54 = .ok (.iload_n 1, 1) := by decide +kernel
theorem dX10_assign_55 : decode cX10_assign 55 = .ok (.invokestatic 45, 3) := by decide +kernel
theorem dX10_assign_58 : decode cX10_assign 58 = .ok (.iconst 1, 1) := by decide +kernel
theorem dX10_assign_59 : decode cX10_assign 59 = .ok (.iadd, 1) := by decide +kernel
theorem dX10_assign_60 : decode cX10_assign 60 = .ok (.iconst 1, 1) := by decide +kernel
theorem dX10_assign_61 : decode cX10_assign 61 = .ok (.iastore, 1) := by decide +kernel
theorem dX10_assign_62 : decode cX10_assign 62 = .ok (.aload_n 0, 1) := by decide +kernel
theorem dX10_assign_63 : decode cX10_assign 63 = .ok (.getfield 7, 3) := by decide +kernel
theorem dX10_assign_66 : decode cX10_assign 66 = .ok (.iload_n 1, 1) := by decide +kernel
theorem dX10_assign_67 : decode cX10_assign 67 = .ok (.invokestatic 45, 3) := by decide +kernel
theorem dX10_assign_70 : decode cX10_assign 70 = .ok (.iconst 2, 1) := by decide +kernel
theorem dX10_assign_71 : decode cX10_assign 71 = .ok (.iadd, 1) := by decide +kernel
theorem dX10_assign_72 : decode cX10_assign 72 = .ok (.iload_n 2, 1) := by decide +kernel
theorem dX10_assign_73 : decode cX10_assign 73 = .ok (.iastore, 1) := by decide +kernel
theorem dX10_assign_74 : decode cX10_assign 74 = .ok (.aload_n 0, 1) := by decide +kernel
theorem dX10_assign_75 : decode cX10_assign 75 = .ok (.iload_n 1, 1) := by decide +kernel
theorem dX10_assign_76 : decode cX10_assign 76 = .ok (.invokevirtual 110, 3) := by decide +kernel
theorem dX10_assign_79 : decode cX10_assign 79 = .ok (.aload_n 0, 1) := by decide +kernel
theorem dX10_assign_80 : decode cX10_assign 80 = .ok (.getfield 7, 3) := by decide +kernel
theorem dX10_assign_83 : decode cX10_assign 83 = .ok (.iload_n 1, 1) := by decide +kernel
theorem dX10_assign_84 : decode cX10_assign 84 = .ok (.invokestatic 45, 3) := by decide +kernel
theorem dX10_assign_87 : decode cX10_assign 87 = .ok (.iconst 3, 1) := by decide +kernel
theorem dX10_assign_88 : decode cX10_assign 88 = .ok (.iadd, 1) := by decide +kernel
theorem dX10_assign_89 : decode cX10_assign 89 = .ok (.iaload, 1) := by decide +kernel
theorem dX10_assign_90 : decode cX10_assign 90 = .ok (.ireturn, 1) := by decide +kernel
theorem dX10_remember_0 : decode cX10_remember 0 = .ok (.aload_n 0, 1) := by decide +kernel
theorem dX10_remember_1 : decode cX10_remember 1 = .ok (.getfield 7, 3) := by decide +kernel
theorem dX10_remember_4 : decode cX10_remember 4 = .ok (.iconst 1, 1) := by decide +kernel
theorem dX10_remember_5 : decode cX10_remember 5 = .ok (.iaload, 1) := by decide +kernel
theorem dX10_remember_6 : decode cX10_remember 6 = .ok (.bipush 30, 2) := by decide +kernel
theorem dX10_remember_8 : decode cX10_remember 8 = .ok (.if_icmp .ne 47, 3) := by decide +kernel
theorem dX10_remember_11 : decode cX10_remember 11 = .ok (.sipush 299, 3) := by decide +kernel
theorem dX10_remember_14 : decode cX10_remember 14 = .ok (.istore_n 2, 1) := by decide +kernel
theorem dX10_remember_15 : decode cX10_remember 15 = .ok (.iload_n 2, 1) := by decide +kernel
theorem dX10_remember_16 : decode cX10_remember 16 = .ok (.bipush 29, 2) := by decide +kernel
theorem dX10_remember_18 : decode cX10_remember 18 = .ok (.invokestatic 55, 3) := by decide +kernel
theorem dX10_remember_21 : decode cX10_remember 21 = .ok (.if_icmp .ge 24, 3) := by decide +kernel
theorem dX10_remember_24 : decode cX10_remember 24 = .ok (.aload_n 0, 1) := by decide +kernel
theorem dX10_remember_25 : decode cX10_remember 25 = .ok (.getfield 7, 3) := by decide +kernel
theorem dX10_remember_28 : decode cX10_remember 28 = .ok (.iload_n 2, 1) := by decide +kernel
theorem dX10_remember_29 : decode cX10_remember 29 = .ok (.aload_n 0, 1) := by decide +kernel
theorem dX10_remember_30 : decode cX10_remember 30 = .ok (.getfield 7, 3) := by decide +kernel
theorem dX10_remember_33 : decode cX10_remember 33 = .ok (.iload_n 2, 1) := by decide +kernel
theorem dX10_remember_34 : decode cX10_remember 34 = .ok (.bipush 13, 2) := by decide +kernel
theorem dX10_remember_36 : decode cX10_remember 36 = .ok (.iadd, 1) := by decide +kernel
theorem dX10_remember_37 : decode cX10_remember 37 = .ok (.iaload, 1) := by decide +kernel
theorem dX10_remember_38 : decode cX10_remember 38 = .ok (.iastore, 1) := by decide +kernel
theorem dX10_remember_39 : decode cX10_remember 39 = .ok (.iinc 2 1, 3) := by decide +kernel
theorem dX10_remember_42 : decode cX10_remember 42 = .ok (.goto (-27), 3) := by decide +kernel
theorem dX10_remember_45 : decode cX10_remember 45 = .ok (.aload_n 0, 1) := by decide +kernel
theorem dX10_remember_46 : decode cX10_remember 46 = .ok (.getfield 7, 3) := by decide +kernel
theorem dX10_remember_49 : decode cX10_remember 49 = .ok (.iconst 1, 1) := by decide +kernel
theorem dX10_remember_50 : decode cX10_remember 50 = .ok (.dup2, 1) := by decide +kernel
theorem dX10_remember_51 : decode cX10_remember 51 = .ok (.iaload, 1) := by decide +kernel
theorem dX10_remember_52 : decode cX10_remember 52 = .ok (.iconst 1, 1) := by decide +kernel
theorem dX10_remember_53 : decode cX10_remember 53 = .ok (.isub, 1) := by decide +kernel
theorem dX10_remember_54 : decode cX10_remember 54 = .ok (.iastore, 1) := by decide +kernel
theorem dX10_remember_55 : decode cX10_remember 55 = .ok (.aload_n 0, 1) := by decide +kernel
theorem dX10_remember_56 : decode cX10_remember 56 = .ok (.getfield 7, 3) := by decide +kernel
theorem dX10_remember_59 : decode cX10_remember 59 = .ok (.iconst 1, 1) := by decide +kernel
theorem dX10_remember_60 : decode cX10_remember 60 = .ok (.iaload, 1) := by decide +kernel
theorem dX10_remember_61 : decode cX10_remember 61 = .ok (.invokestatic 55, 3) := by decide +kernel
theorem dX10_remember_64 : decode cX10_remember 64 = .ok (.istore_n 2, 1) := by decide +kernel
theorem dX10_remember_65 : decode cX10_remember 65 = .ok (.aload_n 0, 1) := by decide +kernel
theorem dX10_remember_66 : decode cX10_remember 66 = .ok (.getfield 7, 3) := by decide +kernel
theorem dX10_remember_69 : decode cX10_remember 69 = .ok (.iload_n 2, 1) := by decide +kernel
theorem dX10_remember_70 : decode cX10_remember 70 = .ok (.aload_n 0, 1) := by decide +kernel
theorem dX10_remember_71 : decode cX10_remember 71 = .ok (.getfield 7, 3) := by decide +kernel
theorem dX10_remember_74 : decode cX10_remember 74 = .ok (.iload_n 1, 1) := by decide +kernel
theorem dX10_remember_75 : decode cX10_remember 75 = .ok (.invokestatic 45, 3) := by decide +kernel
theorem dX10_remember_78 : decode cX10_remember 78 = .ok (.iaload, 1) := by decide +kernel
theorem dX10_remember_79 : decode cX10_remember 79 = .ok (.iastore, 1) := by decide +kernel
theorem dX10_remember_80 : decode cX10_remember 80 = .ok (.iconst 0, 1) := by decide +kernel
theorem dX10_remember_81 : decode cX10_remember 81 = .ok (.istore_n 3, 1) := by decide +kernel
theorem dX10_remember_82 : decode cX10_remember 82 = .ok (.iload_n 3, 1) := by decide +kernel
theorem dX10_remember_83 : decode cX10_remember 83 = .ok (.bipush 12, 2) := by decide +kernel
theorem dX10_remember_85 : decode cX10_remember 85 = .ok (.if_icmp .ge 33, 3) := by decide +kernel
theorem dX10_remember_88 : decode cX10_remember 88 = .ok (.aload_n 0, 1) := by decide +kernel
theorem dX10_remember_89 : decode cX10_remember 89 = .ok (.getfield 7, 3) := by decide +kernel
theorem dX10_remember_92 : decode cX10_remember 92 = .ok (.iload_n 2, 1) := by decide +kernel
theorem dX10_remember_93 : decode cX10_remember 93 = .ok (.iconst 1, 1) := by decide +kernel
theorem dX10_remember_94 : decode cX10_remember 94 = .ok (.iadd, 1) := by decide +kernel
theorem dX10_remember_95 : decode cX10_remember 95 = .ok (.iload_n 3, 1) := by decide +kernel
theorem dX10_remember_96 : decode cX10_remember 96 = .ok (.iadd, 1) := by decide +kernel
theorem dX10_remember_97 : decode cX10_remember 97 = .ok (.aload_n 0, 1) := by decide +kernel
theorem dX10_remember_98 : decode cX10_remember 98 = .ok (.getfield 7, 3) := by decide +kernel
theorem dX10_remember_101 : decode cX10_remember 101 = .ok (.iload_n 1, 1) := by decide +kernel
theorem dX10_remember_102 : decode cX10_remember 102 = .ok (.invokestatic 45, 3) := by decide +kernel
theorem dX10_remember_105 : decode cX10_remember 105 = .ok (.bipush 10, 2) := by decide +kernel
theorem dX10_remember_107 : decode cX10_remember 107 = .ok (.iadd, 1) := by decide +kernel
theorem dX10_remember_108 : decode cX10_remember 108 = .ok (.iload_n 3, 1) := by decide +kernel
theorem dX10_remember_109 : decode cX10_remember 109 = .ok (.iadd, 1) := by decide +kernel
theorem dX10_remember_110 : decode cX10_remember 110 = .ok (.iaload, 1) := by decide +kernel
theorem dX10_remember_111 : decode cX10_remember 111 = .ok (.iastore, 1) := by decide +kernel
theorem dX10_remember_112 : decode cX10_remember 112 = .ok (.iinc 3 1, 3) := by decide +kernel
theorem dX10_remember_115 : decode cX10_remember 115 = .ok (.goto (-33), 3) := by decide +kernel
theorem dX10_remember_118 : decode cX10_remember 118 = .ok (.aload_n 0, 1) := by decide +kernel
theorem dX10_remember_119 : decode cX10_remember 119 = .ok (.getfield 7, 3) := by decide +kernel
theorem dX10_remember_122 : decode cX10_remember 122 = .ok (.iconst 1, 1) := by decide +kernel
theorem dX10_remember_123 : decode cX10_remember 123 = .ok (.dup2, 1) := by decide +kernel
theorem dX10_remember_124 : decode cX10_remember 124 = .ok (.iaload, 1) := by decide +kernel
theorem dX10_remember_125 : decode cX10_remember 125 = .ok (.iconst 1, 1) := by decide +kernel
theorem dX10_remember_126 : decode cX10_remember 126 = .ok (.iadd, 1) := by decide +kernel
theorem dX10_remember_127 : decode cX10_remember 127 = .ok (.iastore, 1) := by decide +kernel
theorem dX10_remember_128 : decode cX10_remember 128 = .ok (.return_, 1) := by decide +kernel
theorem dX10_deliver_0 : decode cX10_deliver 0 = .ok (.aload_n 0, 1) := by decide +kernel
theorem dX10_deliver_1 : decode cX10_deliver 1 = .ok (.iconst 0, 1) := by decide +kernel
theorem dX10_deliver_2 : decode cX10_deliver 2 = .ok (.putfield 34, 3) := by decide +kernel
theorem dX10_deliver_5 : decode cX10_deliver 5 = .ok (.aload_n 0, 1) := by decide +kernel
theorem dX10_deliver_6 : decode cX10_deliver 6 = .ok (.iload_n 1, 1) := by decide +kernel
theorem dX10_deliver_7 : decode cX10_deliver 7 = .ok (.invokevirtual 107, 3) := by decide +kernel
theorem dX10_deliver_10 : decode cX10_deliver 10 = .ok (.ifCond .ne 9, 3) := by decide +kernel
theorem dX10_deliver_13 : decode cX10_deliver 13 = .ok (.aload_n 0, 1) := by decide +kernel
theorem dX10_deliver_14 : decode cX10_deliver 14 = .ok (.iconst 1, 1) := by decide +kernel
theorem dX10_deliver_15 : decode cX10_deliver 15 = .ok (.invokevirtual 95, 3) := by decide +kernel
theorem dX10_deliver_18 : decode cX10_deliver 18 = .ok (.ireturn, 1) := by decide +kernel
theorem dX10_deliver_19 : decode cX10_deliver 19 = .ok (.iload_n 1, 1) := by decide +kernel
theorem dX10_deliver_20 : decode cX10_deliver 20 = .ok (.invokestatic 45, 3) := by decide +kernel
theorem dX10_deliver_23 : decode cX10_deliver 23 = .ok (.istore_n 2, 1) := by decide +kernel
theorem dX10_deliver_24 : decode cX10_deliver 24 = .ok (.aload_n 0, 1) := by decide +kernel
theorem dX10_deliver_25 : decode cX10_deliver 25 = .ok (.getfield 7, 3) := by decide +kernel
theorem dX10_deliver_28 : decode cX10_deliver 28 = .ok (.iload_n 2, 1) := by decide +kernel
theorem dX10_deliver_29 : decode cX10_deliver 29 = .ok (.iconst 1, 1) := by decide +kernel
theorem dX10_deliver_30 : decode cX10_deliver 30 = .ok (.iadd, 1) := by decide +kernel
theorem dX10_deliver_31 : decode cX10_deliver 31 = .ok (.iaload, 1) := by decide +kernel
theorem dX10_deliver_32 : decode cX10_deliver 32 = .ok (.iconst 1, 1) := by decide +kernel
theorem dX10_deliver_33 : decode cX10_deliver 33 = .ok (.if_icmp .ne 11, 3) := by decide +kernel
theorem dX10_deliver_36 : decode cX10_deliver 36 = .ok (.aload_n 0, 1) := by decide +kernel
theorem dX10_deliver_37 : decode cX10_deliver 37 = .ok (.iload_n 1, 1) := by decide +kernel
theorem dX10_deliver_38 : decode cX10_deliver 38 = .ok (.invokevirtual 113, 3) := by decide +kernel
theorem dX10_deliver_41 : decode cX10_deliver 41 = .ok (.ifCond .eq 9, 3) := by decide +kernel
theorem dX10_deliver_44 : decode cX10_deliver 44 = .ok (.aload_n 0, 1) := by decide +kernel
theorem dX10_deliver_45 : decode cX10_deliver 45 = .ok (.iconst 2, 1) := by decide +kernel
theorem dX10_deliver_46 : decode cX10_deliver 46 = .ok (.invokevirtual 95, 3) := by decide +kernel
theorem dX10_deliver_49 : decode cX10_deliver 49 = .ok (.ireturn, 1) := by decide +kernel
theorem dX10_deliver_50 : decode cX10_deliver 50 = .ok (.aload_n 0, 1) := by decide +kernel
theorem dX10_deliver_51 : decode cX10_deliver 51 = .ok (.invokevirtual 98, 3) := by decide +kernel
theorem dX10_deliver_54 : decode cX10_deliver 54 = .ok (.aload_n 0, 1) := by decide +kernel
theorem dX10_deliver_55 : decode cX10_deliver 55 = .ok (.getfield 7, 3) := by decide +kernel
theorem dX10_deliver_58 : decode cX10_deliver 58 = .ok (.iload_n 2, 1) := by decide +kernel
theorem dX10_deliver_59 : decode cX10_deliver 59 = .ok (.iconst 2, 1) := by decide +kernel
theorem dX10_deliver_60 : decode cX10_deliver 60 = .ok (.iadd, 1) := by decide +kernel
theorem dX10_deliver_61 : decode cX10_deliver 61 = .ok (.iaload, 1) := by decide +kernel
theorem dX10_deliver_62 : decode cX10_deliver 62 = .ok (.invokestatic 101, 3) := by decide +kernel
theorem dX10_deliver_65 : decode cX10_deliver 65 = .ok (.istore_n 3, 1) := by decide +kernel
theorem dX10_deliver_66 : decode cX10_deliver 66 = .ok (.aload_n 0, 1) := by decide +kernel
theorem dX10_deliver_67 : decode cX10_deliver 67 = .ok (.getfield 7, 3) := by decide +kernel
theorem dX10_deliver_70 : decode cX10_deliver 70 = .ok (.iload_n 2, 1) := by decide +kernel
theorem dX10_deliver_71 : decode cX10_deliver 71 = .ok (.iaload, 1) := by decide +kernel
theorem dX10_deliver_72 : decode cX10_deliver 72 = .ok (.aload_n 0, 1) := by decide +kernel
theorem dX10_deliver_73 : decode cX10_deliver 73 = .ok (.getfield 7, 3) := by decide +kernel
theorem dX10_deliver_76 : decode cX10_deliver 76 = .ok (.iload_n 3, 1) := by decide +kernel
theorem dX10_deliver_77 : decode cX10_deliver 77 = .ok (.iaload, 1) := by decide +kernel
theorem dX10_deliver_78 : decode cX10_deliver 78 = .ok (.imul, 1) := by decide +kernel
theorem dX10_deliver_79 : decode cX10_deliver 79 = .ok (.aload_n 0, 1) := by decide +kernel
theorem dX10_deliver_80 : decode cX10_deliver 80 = .ok (.getfield 7, 3) := by decide +kernel
theorem dX10_deliver_83 : decode cX10_deliver 83 = .ok (.iload_n 2, 1) := by decide +kernel
theorem dX10_deliver_84 : decode cX10_deliver 84 = .ok (.iconst 4, 1) := by decide +kernel
theorem dX10_deliver_85 : decode cX10_deliver 85 = .ok (.iadd, 1) := by decide +kernel
theorem dX10_deliver_86 : decode cX10_deliver 86 = .ok (.iaload, 1) := by decide +kernel
theorem dX10_deliver_87 : decode cX10_deliver 87 = .ok (.imul, 1) := by decide +kernel
theorem dX10_deliver_88 : decode cX10_deliver 88 = .ok (.bipush 100, 2) := by decide +kernel
theorem dX10_deliver_90 : decode cX10_deliver 90 = .ok (.idiv, 1) := by decide +kernel
theorem dX10_deliver_91 : decode cX10_deliver 91 = .ok (.istore 4, 2) := by decide +kernel
theorem dX10_deliver_93 : decode cX10_deliver 93 = .ok (.aload_n 0, 1) := by decide +kernel
theorem dX10_deliver_94 : decode cX10_deliver 94 = .ok (.getfield 7, 3) := by decide +kernel
theorem dX10_deliver_97 : decode cX10_deliver 97 = .ok (.iload_n 2, 1) := by decide +kernel
theorem dX10_deliver_98 : decode cX10_deliver 98 = .ok (.iconst 1, 1) := by decide +kernel
theorem dX10_deliver_99 : decode cX10_deliver 99 = .ok (.iadd, 1) := by decide +kernel
theorem dX10_deliver_100 : decode cX10_deliver 100 = .ok (.iconst 2, 1) := by decide +kernel
theorem dX10_deliver_101 : decode cX10_deliver 101 = .ok (.iastore, 1) := by decide +kernel
theorem dX10_deliver_102 : decode cX10_deliver 102 = .ok (.aload_n 0, 1) := by decide +kernel
theorem dX10_deliver_103 : decode cX10_deliver 103 = .ok (.getfield 7, 3) := by decide +kernel
theorem dX10_deliver_106 : decode cX10_deliver 106 = .ok (.iload_n 2, 1) := by decide +kernel
theorem dX10_deliver_107 : decode cX10_deliver 107 = .ok (.iconst 5, 1) := by decide +kernel
theorem dX10_deliver_108 : decode cX10_deliver 108 = .ok (.iadd, 1) := by decide +kernel
theorem dX10_deliver_109 : decode cX10_deliver 109 = .ok (.iload 4, 2) := by decide +kernel
theorem dX10_deliver_111 : decode cX10_deliver 111 = .ok (.iastore, 1) := by decide +kernel
theorem dX10_deliver_112 : decode cX10_deliver 112 = .ok (.aload_n 0, 1) := by decide +kernel
theorem dX10_deliver_113 : decode cX10_deliver 113 = .ok (.getfield 7, 3) := by decide +kernel
theorem dX10_deliver_116 : decode cX10_deliver 116 = .ok (.iload_n 2, 1) := by decide +kernel
theorem dX10_deliver_117 : decode cX10_deliver 117 = .ok (.bipush 9, 2) := by decide +kernel
theorem dX10_deliver_119 : decode cX10_deliver 119 = .ok (.iadd, 1) := by decide +kernel
theorem dX10_deliver_120 : decode cX10_deliver 120 = .ok (.aload_n 0, 1) := by decide +kernel
theorem dX10_deliver_121 : decode cX10_deliver 121 = .ok (.getfield 7, 3) := by decide +kernel
theorem dX10_deliver_124 : decode cX10_deliver 124 = .ok (.iload_n 3, 1) := by decide +kernel
theorem dX10_deliver_125 : decode cX10_deliver 125 = .ok (.iaload, 1) := by decide +kernel
theorem dX10_deliver_126 : decode cX10_deliver 126 = .ok (.iastore, 1) := by decide +kernel
theorem dX10_deliver_127 : decode cX10_deliver 127 = .ok (.aload_n 0, 1) := by decide +kernel
theorem dX10_deliver_128 : decode cX10_deliver 128 = .ok (.getfield 7, 3) := by decide +kernel
theorem dX10_deliver_131 : decode cX10_deliver 131 = .ok (.iload_n 3, 1) := by decide +kernel
theorem dX10_deliver_132 : decode cX10_deliver 132 = .ok (.iconst 1, 1) := by decide +kernel
theorem dX10_deliver_133 : decode cX10_deliver 133 = .ok (.iadd, 1) := by decide +kernel
theorem dX10_deliver_134 : decode cX10_deliver 134 = .ok (.dup2, 1) := by decide +kernel
theorem dX10_deliver_135 : decode cX10_deliver 135 = .ok (.iaload, 1) := by decide +kernel
theorem dX10_deliver_136 : decode cX10_deliver 136 = .ok (.iload 4, 2) := by decide +kernel
theorem dX10_deliver_138 : decode cX10_deliver 138 = .ok (.iadd, 1) := by decide +kernel
theorem dX10_deliver_139 : decode cX10_deliver 139 = .ok (.iastore, 1) := by decide +kernel
theorem dX10_deliver_140 : decode cX10_deliver 140 = .ok (.aload_n 0, 1) := by decide +kernel
theorem dX10_deliver_141 : decode cX10_deliver 141 = .ok (.getfield 7, 3) := by decide +kernel
theorem dX10_deliver_144 : decode cX10_deliver 144 = .ok (.iload_n 3, 1) := by decide +kernel
theorem dX10_deliver_145 : decode cX10_deliver 145 = .ok (.iconst 2, 1) := by decide +kernel
theorem dX10_deliver_146 : decode cX10_deliver 146 = .ok (.iadd, 1) := by decide +kernel
theorem dX10_deliver_147 : decode cX10_deliver 147 = .ok (.dup2, 1) := by decide +kernel
theorem dX10_deliver_148 : decode cX10_deliver 148 = .ok (.iaload, 1) := by decide +kernel
theorem dX10_deliver_149 : decode cX10_deliver 149 = .ok (.aload_n 0, 1) := by decide +kernel
theorem dX10_deliver_150 : decode cX10_deliver 150 = .ok (.getfield 7, 3) := by decide +kernel
theorem dX10_deliver_153 : decode cX10_deliver 153 = .ok (.iload_n 2, 1) := by decide +kernel
theorem dX10_deliver_154 : decode cX10_deliver 154 = .ok (.iaload, 1) := by decide +kernel
theorem dX10_deliver_155 : decode cX10_deliver 155 = .ok (.iadd, 1) := by decide +kernel
theorem dX10_deliver_156 : decode cX10_deliver 156 = .ok (.iastore, 1) := by decide +kernel
theorem dX10_deliver_157 : decode cX10_deliver 157 = .ok (.aload_n 0, 1) := by decide +kernel
theorem dX10_deliver_158 : decode cX10_deliver 158 = .ok (.getfield 7, 3) := by decide +kernel
theorem dX10_deliver_161 : decode cX10_deliver 161 = .ok (.bipush 64, 2) := by decide +kernel
theorem dX10_deliver_163 : decode cX10_deliver 163 = .ok (.iconst 3, 1) := by decide +kernel
theorem dX10_deliver_164 : decode cX10_deliver 164 = .ok (.aload_n 0, 1) := by decide +kernel
theorem dX10_deliver_165 : decode cX10_deliver 165 = .ok (.getfield 7, 3) := by decide +kernel
theorem dX10_deliver_168 : decode cX10_deliver 168 = .ok (.iload_n 2, 1) := by decide +kernel
theorem dX10_deliver_169 : decode cX10_deliver 169 = .ok (.iconst 3, 1) := by decide +kernel
theorem dX10_deliver_170 : decode cX10_deliver 170 = .ok (.iadd, 1) := by decide +kernel
theorem dX10_deliver_171 : decode cX10_deliver 171 = .ok (.iaload, 1) := by decide +kernel
theorem dX10_deliver_172 : decode cX10_deliver 172 = .ok (.imul, 1) := by decide +kernel
theorem dX10_deliver_173 : decode cX10_deliver 173 = .ok (.iadd, 1) := by decide +kernel
theorem dX10_deliver_174 : decode cX10_deliver 174 = .ok (.iconst 1, 1) := by decide +kernel
theorem dX10_deliver_175 : decode cX10_deliver 175 = .ok (.iadd, 1) := by decide +kernel
theorem dX10_deliver_176 : decode cX10_deliver 176 = .ok (.dup2, 1) := by decide +kernel
theorem dX10_deliver_177 : decode cX10_deliver 177 = .ok (.iaload, 1) := by decide +kernel
theorem dX10_deliver_178 : decode cX10_deliver 178 = .ok (.aload_n 0, 1) := by decide +kernel
theorem dX10_deliver_179 : decode cX10_deliver 179 = .ok (.getfield 7, 3) := by decide +kernel
theorem dX10_deliver_182 : decode cX10_deliver 182 = .ok (.iload_n 2, 1) := by decide +kernel
theorem dX10_deliver_183 : decode cX10_deliver 183 = .ok (.iaload, 1) := by decide +kernel
theorem dX10_deliver_184 : decode cX10_deliver 184 = .ok (.iadd, 1) := by decide +kernel
theorem dX10_deliver_185 : decode cX10_deliver 185 = .ok (.iastore, 1) := by decide +kernel
theorem dX10_deliver_186 : decode cX10_deliver 186 = .ok (.aload_n 0, 1) := by decide +kernel
theorem dX10_deliver_187 : decode cX10_deliver 187 = .ok (.getfield 7, 3) := by decide +kernel
theorem dX10_deliver_190 : decode cX10_deliver 190 = .ok (.bipush 64, 2) := by decide +kernel
theorem dX10_deliver_192 : decode cX10_deliver 192 = .ok (.iconst 3, 1) := by decide +kernel
theorem dX10_deliver_193 : decode cX10_deliver 193 = .ok (.aload_n 0, 1) := by decide +kernel
theorem dX10_deliver_194 : decode cX10_deliver 194 = .ok (.getfield 7, 3) := by decide +kernel
theorem dX10_deliver_197 : decode cX10_deliver 197 = .ok (.iload_n 2, 1) := by decide +kernel
theorem dX10_deliver_198 : decode cX10_deliver 198 = .ok (.iconst 3, 1) := by decide +kernel
theorem dX10_deliver_199 : decode cX10_deliver 199 = .ok (.iadd, 1) := by decide +kernel
theorem dX10_deliver_200 : decode cX10_deliver 200 = .ok (.iaload, 1) := by decide +kernel
theorem dX10_deliver_201 : decode cX10_deliver 201 = .ok (.imul, 1) := by decide +kernel
theorem dX10_deliver_202 : decode cX10_deliver 202 = .ok (.iadd, 1) := by decide +kernel
theorem dX10_deliver_203 : decode cX10_deliver 203 = .ok (.iconst 2, 1) := by decide +kernel
theorem dX10_deliver_204 : decode cX10_deliver 204 = .ok (.iadd, 1) := by decide +kernel
theorem dX10_deliver_205 : decode cX10_deliver 205 = .ok (.dup2, 1) := by decide +kernel
theorem dX10_deliver_206 : decode cX10_deliver 206 = .ok (.iaload, 1) := by decide +kernel
theorem dX10_deliver_207 : decode cX10_deliver 207 = .ok (.iload 4, 2) := by decide +kernel
theorem dX10_deliver_209 : decode cX10_deliver 209 = .ok (.iadd, 1) := by decide +kernel
theorem dX10_deliver_210 : decode cX10_deliver 210 = .ok (.iastore, 1) := by decide +kernel
theorem dX10_deliver_211 : decode cX10_deliver 211 = .ok (.aload_n 0, 1) := by decide +kernel
theorem dX10_deliver_212 : decode cX10_deliver 212 = .ok (.iload_n 1, 1) := by decide +kernel
theorem dX10_deliver_213 : decode cX10_deliver 213 = .ok (.invokevirtual 116, 3) := by decide +kernel
theorem dX10_deliver_216 : decode cX10_deliver 216 = .ok (.iload 4, 2) := by decide +kernel
theorem dX10_deliver_218 : decode cX10_deliver 218 = .ok (.ireturn, 1) := by decide +kernel
theorem dX10_revise_0 : decode cX10_revise 0 = .ok (.aload_n 0, 1) := by decide +kernel
theorem dX10_revise_1 : decode cX10_revise 1 = .ok (.iconst 0, 1) := by decide +kernel
theorem dX10_revise_2 : decode cX10_revise 2 = .ok (.putfield 34, 3) := by decide +kernel
theorem dX10_revise_5 : decode cX10_revise 5 = .ok (.aload_n 0, 1) := by decide +kernel
theorem dX10_revise_6 : decode cX10_revise 6 = .ok (.iload_n 1, 1) := by decide +kernel
theorem dX10_revise_7 : decode cX10_revise 7 = .ok (.invokevirtual 107, 3) := by decide +kernel
theorem dX10_revise_10 : decode cX10_revise 10 = .ok (.ifCond .eq 10, 3) := by decide +kernel
theorem dX10_revise_13 : decode cX10_revise 13 = .ok (.iload_n 2, 1) := by decide +kernel
theorem dX10_revise_14 : decode cX10_revise 14 = .ok (.invokestatic 92, 3) := by decide +kernel
theorem dX10_revise_17 : decode cX10_revise 17 = .ok (.ifCond .ne 9, 3) := by decide +kernel
theorem dX10_revise_20 : decode cX10_revise 20 = .ok (.aload_n 0, 1) := by decide +kernel
theorem dX10_revise_21 : decode cX10_revise 21 = .ok (.iconst 1, 1) := by decide +kernel
theorem dX10_revise_22 : decode cX10_revise 22 = .ok (.invokevirtual 95, 3) := by decide +kernel
theorem dX10_revise_25 : decode cX10_revise 25 = .ok (.ireturn, 1) := by decide +kernel
theorem dX10_revise_26 : decode cX10_revise 26 = .ok (.iload_n 1, 1) := by decide +kernel
theorem dX10_revise_27 : decode cX10_revise 27 = .ok (.invokestatic 45, 3) := by decide +kernel
theorem dX10_revise_30 : decode cX10_revise 30 = .ok (.istore 4, 2) := by decide +kernel
theorem dX10_revise_32 : decode cX10_revise 32 = .ok (.iload_n 3, 1) := by decide +kernel
theorem dX10_revise_33 : decode cX10_revise 33 = .ok (.iconst 0, 1) := by decide +kernel
theorem dX10_revise_34 : decode cX10_revise 34 = .ok (.aload_n 0, 1) := by decide +kernel
theorem dX10_revise_35 : decode cX10_revise 35 = .ok (.getfield 7, 3) := by decide +kernel
theorem dX10_revise_38 : decode cX10_revise 38 = .ok (.iload 4, 2) := by decide +kernel
theorem dX10_revise_40 : decode cX10_revise 40 = .ok (.iaload, 1) := by decide +kernel
theorem dX10_revise_41 : decode cX10_revise 41 = .ok (.invokestatic 41, 3) := by decide +kernel
theorem dX10_revise_44 : decode cX10_revise 44 = .ok (.ifCond .ne 9, 3) := by decide +kernel
theorem dX10_revise_47 : decode cX10_revise 47 = .ok (.aload_n 0, 1) := by decide +kernel
theorem dX10_revise_48 : decode cX10_revise 48 = .ok (.iconst 2, 1) := by decide +kernel
theorem dX10_revise_49 : decode cX10_revise 49 = .ok (.invokevirtual 95, 3) := by decide +kernel
theorem dX10_revise_52 : decode cX10_revise 52 = .ok (.ireturn, 1) := by decide +kernel
theorem dX10_revise_53 : decode cX10_revise 53 = .ok (.aload_n 0, 1) := by decide +kernel
theorem dX10_revise_54 : decode cX10_revise 54 = .ok (.getfield 7, 3) := by decide +kernel
theorem dX10_revise_57 : decode cX10_revise 57 = .ok (.iload 4, 2) := by decide +kernel
theorem dX10_revise_59 : decode cX10_revise 59 = .ok (.iconst 1, 1) := by decide +kernel
theorem dX10_revise_60 : decode cX10_revise 60 = .ok (.iadd, 1) := by decide +kernel
theorem dX10_revise_61 : decode cX10_revise 61 = .ok (.iaload, 1) := by decide +kernel
theorem dX10_revise_62 : decode cX10_revise 62 = .ok (.iconst 2, 1) := by decide +kernel
theorem dX10_revise_63 : decode cX10_revise 63 = .ok (.if_icmp .ne 16, 3) := by decide +kernel
theorem dX10_revise_66 : decode cX10_revise 66 = .ok (.aload_n 0, 1) := by decide +kernel
theorem dX10_revise_67 : decode cX10_revise 67 = .ok (.getfield 7, 3) := by decide +kernel
theorem dX10_revise_70 : decode cX10_revise 70 = .ok (.iload 4, 2) := by decide +kernel
theorem dX10_revise_72 : decode cX10_revise 72 = .ok (.iconst 2, 1) := by decide +kernel
theorem dX10_revise_73 : decode cX10_revise 73 = .ok (.iadd, 1) := by decide +kernel
theorem dX10_revise_74 : decode cX10_revise 74 = .ok (.iaload, 1) := by decide +kernel
theorem dX10_revise_75 : decode cX10_revise 75 = .ok (.iload_n 2, 1) := by decide +kernel
theorem dX10_revise_76 : decode cX10_revise 76 = .ok (.if_icmp .ne 9, 3) := by decide +kernel
theorem dX10_revise_79 : decode cX10_revise 79 = .ok (.aload_n 0, 1) := by decide +kernel
theorem dX10_revise_80 : decode cX10_revise 80 = .ok (.iconst 3, 1) := by decide +kernel
theorem dX10_revise_81 : decode cX10_revise 81 = .ok (.invokevirtual 95, 3) := by decide +kernel
theorem dX10_revise_84 : decode cX10_revise 84 = .ok (.ireturn, 1) := by decide +kernel
theorem dX10_revise_85 : decode cX10_revise 85 = .ok (.aload_n 0, 1) := by decide +kernel
theorem dX10_revise_86 : decode cX10_revise 86 = .ok (.invokevirtual 98, 3) := by decide +kernel
theorem dX10_revise_89 : decode cX10_revise 89 = .ok (.iload_n 2, 1) := by decide +kernel
theorem dX10_revise_90 : decode cX10_revise 90 = .ok (.invokestatic 101, 3) := by decide +kernel
theorem dX10_revise_93 : decode cX10_revise 93 = .ok (.istore 5, 2) := by decide +kernel
theorem dX10_revise_95 : decode cX10_revise 95 = .ok (.aload_n 0, 1) := by decide +kernel
theorem dX10_revise_96 : decode cX10_revise 96 = .ok (.getfield 7, 3) := by decide +kernel
theorem dX10_revise_99 : decode cX10_revise 99 = .ok (.iload 4, 2) := by decide +kernel
theorem dX10_revise_101 : decode cX10_revise 101 = .ok (.iconst 2, 1) := by decide +kernel
theorem dX10_revise_102 : decode cX10_revise 102 = .ok (.iadd, 1) := by decide +kernel
theorem dX10_revise_103 : decode cX10_revise 103 = .ok (.iaload, 1) := by decide +kernel
theorem dX10_revise_104 : decode cX10_revise 104 = .ok (.invokestatic 101, 3) := by decide +kernel
theorem dX10_revise_107 : decode cX10_revise 107 = .ok (.istore 6, 2) := by decide +kernel
theorem dX10_revise_109 : decode cX10_revise 109 = .ok (.iload_n 3, 1) := by decide +kernel
theorem dX10_revise_110 : decode cX10_revise 110 = .ok (.aload_n 0, 1) := by decide +kernel
theorem dX10_revise_111 : decode cX10_revise 111 = .ok (.getfield 7, 3) := by decide +kernel
theorem dX10_revise_114 : decode cX10_revise 114 = .ok (.iload 4, 2) := by decide +kernel
theorem dX10_revise_116 : decode cX10_revise 116 = .ok (.bipush 9, 2) := by decide +kernel
theorem dX10_revise_118 : decode cX10_revise 118 = .ok (.iadd, 1) := by decide +kernel
theorem dX10_revise_119 : decode cX10_revise 119 = .ok (.iaload, 1) := by decide +kernel
theorem dX10_revise_120 : decode cX10_revise 120 = .ok (.imul, 1) := by decide +kernel
theorem dX10_revise_121 : decode cX10_revise 121 = .ok (.aload_n 0, 1) := by decide +kernel
theorem dX10_revise_122 : decode cX10_revise 122 = .ok (.getfield 7, 3) := by decide +kernel
theorem dX10_revise_125 : decode cX10_revise 125 = .ok (.iconst 3, 1) := by decide +kernel
theorem dX10_revise_126 : decode cX10_revise 126 = .ok (.iaload, 1) := by decide +kernel
theorem dX10_revise_127 : decode cX10_revise 127 = .ok (.imul, 1) := by decide +kernel
theorem dX10_revise_128 : decode cX10_revise 128 = .ok (.bipush 100, 2) := by decide +kernel
theorem dX10_revise_130 : decode cX10_revise 130 = .ok (.idiv, 1) := by decide +kernel
theorem dX10_revise_131 : decode cX10_revise 131 = .ok (.istore 7, 2) := by decide +kernel
theorem dX10_revise_133 : decode cX10_revise 133 = .ok (.iload 7, 2) := by decide +kernel
theorem dX10_revise_135 : decode cX10_revise 135 = .ok (.aload_n 0, 1) := by decide +kernel
theorem dX10_revise_136 : decode cX10_revise 136 = .ok (.getfield 7, 3) := by decide +kernel
theorem dX10_revise_139 : decode cX10_revise 139 = .ok (.iload 4, 2) := by decide +kernel
theorem dX10_revise_141 : decode cX10_revise 141 = .ok (.iconst 5, 1) := by decide +kernel
theorem dX10_revise_142 : decode cX10_revise 142 = .ok (.iadd, 1) := by decide +kernel
theorem dX10_revise_143 : decode cX10_revise 143 = .ok (.iaload, 1) := by decide +kernel
theorem dX10_revise_144 : decode cX10_revise 144 = .ok (.if_icmp .ge 8, 3) := by decide +kernel
theorem dX10_revise_147 : decode cX10_revise 147 = .ok (.iload 7, 2) := by decide +kernel
theorem dX10_revise_149 : decode cX10_revise 149 = .ok (.goto 12, 3) := by decide +kernel
theorem dX10_revise_152 : decode cX10_revise 152 = .ok (.aload_n 0, 1) := by decide +kernel
theorem dX10_revise_153 : decode cX10_revise 153 = .ok (.getfield 7, 3) := by decide +kernel
theorem dX10_revise_156 : decode cX10_revise 156 = .ok (.iload 4, 2) := by decide +kernel
theorem dX10_revise_158 : decode cX10_revise 158 = .ok (.iconst 5, 1) := by decide +kernel
theorem dX10_revise_159 : decode cX10_revise 159 = .ok (.iadd, 1) := by decide +kernel
theorem dX10_revise_160 : decode cX10_revise 160 = .ok (.iaload, 1) := by decide +kernel
theorem dX10_revise_161 : decode cX10_revise 161 = .ok (.istore 7, 2) := by decide +kernel
theorem dX10_revise_163 : decode cX10_revise 163 = .ok (.aload_n 0, 1) := by decide +kernel
theorem dX10_revise_164 : decode cX10_revise 164 = .ok (.getfield 7, 3) := by decide +kernel
theorem dX10_revise_167 : decode cX10_revise 167 = .ok (.iload 5, 2) := by decide +kernel
theorem dX10_revise_169 : decode cX10_revise 169 = .ok (.iconst 1, 1) := by decide +kernel
theorem dX10_revise_170 : decode cX10_revise 170 = .ok (.iadd, 1) := by decide +kernel
theorem dX10_revise_171 : decode cX10_revise 171 = .ok (.dup2, 1) := by decide +kernel
theorem dX10_revise_172 : decode cX10_revise 172 = .ok (.iaload, 1) := by decide +kernel
theorem dX10_revise_173 : decode cX10_revise 173 = .ok (.aload_n 0, 1) := by decide +kernel
theorem dX10_revise_174 : decode cX10_revise 174 = .ok (.getfield 7, 3) := by decide +kernel
theorem dX10_revise_177 : decode cX10_revise 177 = .ok (.iload 4, 2) := by decide +kernel
theorem dX10_revise_179 : decode cX10_revise 179 = .ok (.iaload, 1) := by decide +kernel
theorem dX10_revise_180 : decode cX10_revise 180 = .ok (.aload_n 0, 1) := by decide +kernel
theorem dX10_revise_181 : decode cX10_revise 181 = .ok (.getfield 7, 3) := by decide +kernel
theorem dX10_revise_184 : decode cX10_revise 184 = .ok (.iload 5, 2) := by decide +kernel
theorem dX10_revise_186 : decode cX10_revise 186 = .ok (.iaload, 1) := by decide +kernel
theorem dX10_revise_187 : decode cX10_revise 187 = .ok (.imul, 1) := by decide +kernel
theorem dX10_revise_188 : decode cX10_revise 188 = .ok (.aload_n 0, 1) := by decide +kernel
theorem dX10_revise_189 : decode cX10_revise 189 = .ok (.getfield 7, 3) := by decide +kernel
theorem dX10_revise_192 : decode cX10_revise 192 = .ok (.iconst 2, 1) := by decide +kernel
theorem dX10_revise_193 : decode cX10_revise 193 = .ok (.iaload, 1) := by decide +kernel
theorem dX10_revise_194 : decode cX10_revise 194 = .ok (.imul, 1) := by decide +kernel
theorem dX10_revise_195 : decode cX10_revise 195 = .ok (.bipush 100, 2) := by decide +kernel
theorem dX10_revise_197 : decode cX10_revise 197 = .ok (.idiv, 1) := by decide +kernel
theorem dX10_revise_198 : decode cX10_revise 198 = .ok (.iadd, 1) := by decide +kernel
theorem dX10_revise_199 : decode cX10_revise 199 = .ok (.iastore, 1) := by decide +kernel
theorem dX10_revise_200 : decode cX10_revise 200 = .ok (.aload_n 0, 1) := by decide +kernel
theorem dX10_revise_201 : decode cX10_revise 201 = .ok (.getfield 7, 3) := by decide +kernel
theorem dX10_revise_204 : decode cX10_revise 204 = .ok (.iload 5, 2) := by decide +kernel
theorem dX10_revise_206 : decode cX10_revise 206 = .ok (.iconst 3, 1) := by decide +kernel
theorem dX10_revise_207 : decode cX10_revise 207 = .ok (.iadd, 1) := by decide +kernel
theorem dX10_revise_208 : decode cX10_revise 208 = .ok (.dup2, 1) := by decide +kernel
theorem dX10_revise_209 : decode cX10_revise 209 = .ok (.iaload, 1) := by decide +kernel
theorem dX10_revise_210 : decode cX10_revise 210 = .ok (.iload_n 3, 1) := by decide +kernel
theorem dX10_revise_211 : decode cX10_revise 211 = .ok (.iadd, 1) := by decide +kernel
theorem dX10_revise_212 : decode cX10_revise 212 = .ok (.iastore, 1) := by decide +kernel
theorem dX10_revise_213 : decode cX10_revise 213 = .ok (.aload_n 0, 1) := by decide +kernel
theorem dX10_revise_214 : decode cX10_revise 214 = .ok (.getfield 7, 3) := by decide +kernel
theorem dX10_revise_217 : decode cX10_revise 217 = .ok (.iload 6, 2) := by decide +kernel
theorem dX10_revise_219 : decode cX10_revise 219 = .ok (.iconst 1, 1) := by decide +kernel
theorem dX10_revise_220 : decode cX10_revise 220 = .ok (.iadd, 1) := by decide +kernel
theorem dX10_revise_221 : decode cX10_revise 221 = .ok (.dup2, 1) := by decide +kernel
theorem dX10_revise_222 : decode cX10_revise 222 = .ok (.iaload, 1) := by decide +kernel
theorem dX10_revise_223 : decode cX10_revise 223 = .ok (.iload 7, 2) := by decide +kernel
theorem dX10_revise_225 : decode cX10_revise 225 = .ok (.isub, 1) := by decide +kernel
theorem dX10_revise_226 : decode cX10_revise 226 = .ok (.iastore, 1) := by decide +kernel
theorem dX10_revise_227 : decode cX10_revise 227 = .ok (.aload_n 0, 1) := by decide +kernel
theorem dX10_revise_228 : decode cX10_revise 228 = .ok (.getfield 7, 3) := by decide +kernel
theorem dX10_revise_231 : decode cX10_revise 231 = .ok (.iload 6, 2) := by decide +kernel
theorem dX10_revise_233 : decode cX10_revise 233 = .ok (.iconst 4, 1) := by decide +kernel
theorem dX10_revise_234 : decode cX10_revise 234 = .ok (.iadd, 1) := by decide +kernel
theorem dX10_revise_235 : decode cX10_revise 235 = .ok (.dup2, 1) := by decide +kernel
theorem dX10_revise_236 : decode cX10_revise 236 = .ok (.iaload, 1) := by decide +kernel
theorem dX10_revise_237 : decode cX10_revise 237 = .ok (.iload_n 3, 1) := by decide +kernel
theorem dX10_revise_238 : decode cX10_revise 238 = .ok (.iadd, 1) := by decide +kernel
theorem dX10_revise_239 : decode cX10_revise 239 = .ok (.iastore, 1) := by decide +kernel
theorem dX10_revise_240 : decode cX10_revise 240 = .ok (.aload_n 0, 1) := by decide +kernel
theorem dX10_revise_241 : decode cX10_revise 241 = .ok (.getfield 7, 3) := by decide +kernel
theorem dX10_revise_244 : decode cX10_revise 244 = .ok (.iload 4, 2) := by decide +kernel
theorem dX10_revise_246 : decode cX10_revise 246 = .ok (.iconst 5, 1) := by decide +kernel
theorem dX10_revise_247 : decode cX10_revise 247 = .ok (.iadd, 1) := by decide +kernel
theorem dX10_revise_248 : decode cX10_revise 248 = .ok (.dup2, 1) := by decide +kernel
theorem dX10_revise_249 : decode cX10_revise 249 = .ok (.iaload, 1) := by decide +kernel
theorem dX10_revise_250 : decode cX10_revise 250 = .ok (.iload 7, 2) := by decide +kernel
theorem dX10_revise_252 : decode cX10_revise 252 = .ok (.isub, 1) := by decide +kernel
theorem dX10_revise_253 : decode cX10_revise 253 = .ok (.iastore, 1) := by decide +kernel
theorem dX10_revise_254 : decode cX10_revise 254 = .ok (.aload_n 0, 1) := by decide +kernel
theorem dX10_revise_255 : decode cX10_revise 255 = .ok (.getfield 7, 3) := by decide +kernel
theorem dX10_revise_258 : decode cX10_revise 258 = .ok (.iload 4, 2) := by decide +kernel
theorem dX10_revise_260 : decode cX10_revise 260 = .ok (.iconst 1, 1) := by decide +kernel
theorem dX10_revise_261 : decode cX10_revise 261 = .ok (.iadd, 1) := by decide +kernel
theorem dX10_revise_262 : decode cX10_revise 262 = .ok (.iconst 3, 1) := by decide +kernel
theorem dX10_revise_263 : decode cX10_revise 263 = .ok (.iastore, 1) := by decide +kernel
theorem dX10_revise_264 : decode cX10_revise 264 = .ok (.aload_n 0, 1) := by decide +kernel
theorem dX10_revise_265 : decode cX10_revise 265 = .ok (.getfield 7, 3) := by decide +kernel
theorem dX10_revise_268 : decode cX10_revise 268 = .ok (.iload 4, 2) := by decide +kernel
theorem dX10_revise_270 : decode cX10_revise 270 = .ok (.bipush 7, 2) := by decide +kernel
theorem dX10_revise_272 : decode cX10_revise 272 = .ok (.iadd, 1) := by decide +kernel
theorem dX10_revise_273 : decode cX10_revise 273 = .ok (.iload_n 2, 1) := by decide +kernel
theorem dX10_revise_274 : decode cX10_revise 274 = .ok (.iastore, 1) := by decide +kernel
theorem dX10_revise_275 : decode cX10_revise 275 = .ok (.aload_n 0, 1) := by decide +kernel
theorem dX10_revise_276 : decode cX10_revise 276 = .ok (.getfield 7, 3) := by decide +kernel
theorem dX10_revise_279 : decode cX10_revise 279 = .ok (.iload 4, 2) := by decide +kernel
theorem dX10_revise_281 : decode cX10_revise 281 = .ok (.bipush 8, 2) := by decide +kernel
theorem dX10_revise_283 : decode cX10_revise 283 = .ok (.iadd, 1) := by decide +kernel
theorem dX10_revise_284 : decode cX10_revise 284 = .ok (.iload_n 3, 1) := by decide +kernel
theorem dX10_revise_285 : decode cX10_revise 285 = .ok (.iastore, 1) := by decide +kernel
theorem dX10_revise_286 : decode cX10_revise 286 = .ok (.aload_n 0, 1) := by decide +kernel
theorem dX10_revise_287 : decode cX10_revise 287 = .ok (.getfield 7, 3) := by decide +kernel
theorem dX10_revise_290 : decode cX10_revise 290 = .ok (.iload 4, 2) := by decide +kernel
theorem dX10_revise_292 : decode cX10_revise 292 = .ok (.iconst 5, 1) := by decide +kernel
theorem dX10_revise_293 : decode cX10_revise 293 = .ok (.iadd, 1) := by decide +kernel
theorem dX10_revise_294 : decode cX10_revise 294 = .ok (.iaload, 1) := by decide +kernel
theorem dX10_revise_295 : decode cX10_revise 295 = .ok (.ireturn, 1) := by decide +kernel
theorem dX10_propose_0 : decode cX10_propose 0 = .ok (.aload_n 0, 1) := by decide +kernel
theorem dX10_propose_1 : decode cX10_propose 1 = .ok (.iconst 0, 1) := by decide +kernel
theorem dX10_propose_2 : decode cX10_propose 2 = .ok (.putfield 34, 3) := by decide +kernel
theorem dX10_propose_5 : decode cX10_propose 5 = .ok (.iload_n 1, 1) := by decide +kernel
theorem dX10_propose_6 : decode cX10_propose 6 = .ok (.invokestatic 119, 3) := by decide +kernel
theorem dX10_propose_9 : decode cX10_propose 9 = .ok (.ifCond .eq 10, 3) := by decide +kernel
theorem dX10_propose_12 : decode cX10_propose 12 = .ok (.iload_n 2, 1) := by decide +kernel
theorem dX10_propose_13 : decode cX10_propose 13 = .ok (.invokestatic 92, 3) := by decide +kernel
theorem dX10_propose_16 : decode cX10_propose 16 = .ok (.ifCond .ne 9, 3) := by decide +kernel
theorem dX10_propose_19 : decode cX10_propose 19 = .ok (.aload_n 0, 1) := by decide +kernel
theorem dX10_propose_20 : decode cX10_propose 20 = .ok (.iconst 1, 1) := by decide +kernel
theorem dX10_propose_21 : decode cX10_propose 21 = .ok (.invokevirtual 95, 3) := by decide +kernel
theorem dX10_propose_24 : decode cX10_propose 24 = .ok (.ireturn, 1) := by decide +kernel
theorem dX10_propose_25 : decode cX10_propose 25 = .ok (.iload_n 3, 1) := by decide +kernel
theorem dX10_propose_26 : decode cX10_propose 26 = .ok (.iconst (-1), 1) := by decide +kernel
theorem dX10_propose_27 : decode cX10_propose 27 = .ok (.bipush 9, 2) := by decide +kernel
theorem dX10_propose_29 : decode cX10_propose 29 = .ok (.invokestatic 41, 3) := by decide +kernel
theorem dX10_propose_32 : decode cX10_propose 32 = .ok (.ifCond .ne 9, 3) := by decide +kernel
theorem dX10_propose_35 : decode cX10_propose 35 = .ok (.aload_n 0, 1) := by decide +kernel
theorem dX10_propose_36 : decode cX10_propose 36 = .ok (.iconst 2, 1) := by decide +kernel
theorem dX10_propose_37 : decode cX10_propose 37 = .ok (.invokevirtual 95, 3) := by decide +kernel
theorem dX10_propose_40 : decode cX10_propose 40 = .ok (.ireturn, 1) := by decide +kernel
theorem dX10_propose_41 : decode cX10_propose 41 = .ok (.aload_n 0, 1) := by decide +kernel
theorem dX10_propose_42 : decode cX10_propose 42 = .ok (.getfield 7, 3) := by decide +kernel
theorem dX10_propose_45 : decode cX10_propose 45 = .ok (.bipush 56, 2) := by decide +kernel
theorem dX10_propose_47 : decode cX10_propose 47 = .ok (.iload_n 1, 1) := by decide +kernel
theorem dX10_propose_48 : decode cX10_propose 48 = .ok (.iadd, 1) := by decide +kernel
theorem dX10_propose_49 : decode cX10_propose 49 = .ok (.iaload, 1) := by decide +kernel
theorem dX10_propose_50 : decode cX10_propose 50 = .ok (.iconst (-1), 1) := by decide +kernel
theorem dX10_propose_51 : decode cX10_propose 51 = .ok (.if_icmp .eq 9, 3) := by decide +kernel
theorem dX10_propose_54 : decode cX10_propose 54 = .ok (.aload_n 0, 1) := by decide +kernel
theorem dX10_propose_55 : decode cX10_propose 55 = .ok (.iconst 3, 1) := by decide +kernel
theorem dX10_propose_56 : decode cX10_propose 56 = .ok (.invokevirtual 95, 3) := by decide +kernel
theorem dX10_propose_59 : decode cX10_propose 59 = .ok (.ireturn, 1) := by decide +kernel
theorem dX10_propose_60 : decode cX10_propose 60 = .ok (.aload_n 0, 1) := by decide +kernel
theorem dX10_propose_61 : decode cX10_propose 61 = .ok (.invokevirtual 98, 3) := by decide +kernel
theorem dX10_propose_64 : decode cX10_propose 64 = .ok (.aload_n 0, 1) := by decide +kernel
theorem dX10_propose_65 : decode cX10_propose 65 = .ok (.getfield 7, 3) := by decide +kernel
theorem dX10_propose_68 : decode cX10_propose 68 = .ok (.iload_n 1, 1) := by decide +kernel
theorem dX10_propose_69 : decode cX10_propose 69 = .ok (.iload_n 2, 1) := by decide +kernel
theorem dX10_propose_70 : decode cX10_propose 70 = .ok (.invokestatic 84, 3) := by decide +kernel
theorem dX10_propose_73 : decode cX10_propose 73 = .ok (.iaload, 1) := by decide +kernel
theorem dX10_propose_74 : decode cX10_propose 74 = .ok (.istore 4, 2) := by decide +kernel
theorem dX10_propose_76 : decode cX10_propose 76 = .ok (.aload_n 0, 1) := by decide +kernel
theorem dX10_propose_77 : decode cX10_propose 77 = .ok (.getfield 7, 3) := by decide +kernel
theorem dX10_propose_80 : decode cX10_propose 80 = .ok (.iload_n 1, 1) := by decide +kernel
theorem dX10_propose_81 : decode cX10_propose 81 = .ok (.iload_n 2, 1) := by decide +kernel
theorem dX10_propose_82 : decode cX10_propose 82 = .ok (.invokestatic 84, 3) := by decide +kernel
theorem dX10_propose_85 : decode cX10_propose 85 = .ok (.iload_n 3, 1) := by decide +kernel
theorem dX10_propose_86 : decode cX10_propose 86 = .ok (.iastore, 1) := by decide +kernel
theorem dX10_propose_87 : decode cX10_propose 87 = .ok (.iload 4, 2) := by decide +kernel
theorem dX10_propose_89 : decode cX10_propose 89 = .ok (.ireturn, 1) := by decide +kernel
theorem dX10_having_0 : decode cX10_having 0 = .ok (.iconst 0, 1) := by decide +kernel
theorem dX10_having_1 : decode cX10_having 1 = .ok (.istore_n 3, 1) := by decide +kernel
theorem dX10_having_2 : decode cX10_having 2 = .ok (.iconst 0, 1) := by decide +kernel
theorem dX10_having_3 : decode cX10_having 3 = .ok (.istore 4, 2) := by decide +kernel
theorem dX10_having_5 : decode cX10_having 5 = .ok (.iload 4, 2) := by decide +kernel
theorem dX10_having_7 : decode cX10_having 7 = .ok (.iconst 4, 1) := by decide +kernel
theorem dX10_having_8 : decode cX10_having 8 = .ok (.if_icmp .ge 32, 3) := by decide +kernel
theorem dX10_having_11 : decode cX10_having 11 = .ok (.iload_n 3, 1) := by decide +kernel
theorem dX10_having_12 : decode cX10_having 12 = .ok (.aload_n 0, 1) := by decide +kernel
theorem dX10_having_13 : decode cX10_having 13 = .ok (.getfield 7, 3) := by decide +kernel
theorem dX10_having_16 : decode cX10_having 16 = .ok (.iload_n 1, 1) := by decide +kernel
theorem dX10_having_17 : decode cX10_having 17 = .ok (.iload 4, 2) := by decide +kernel
theorem dX10_having_19 : decode cX10_having 19 = .ok (.invokestatic 84, 3) := by decide +kernel
theorem dX10_having_22 : decode cX10_having 22 = .ok (.iaload, 1) := by decide +kernel
theorem dX10_having_23 : decode cX10_having 23 = .ok (.iload_n 2, 1) := by decide +kernel
theorem dX10_having_24 : decode cX10_having 24 = .ok (.if_icmp .ne 7, 3) := by decide +kernel
theorem dX10_having_27 : decode cX10_having 27 = .ok (.iconst 1, 1) := by decide +kernel
theorem dX10_having_28 : decode cX10_having 28 = .ok (.goto 4, 3) := by decide +kernel
theorem dX10_having_31 : decode cX10_having 31 = .ok (.iconst 0, 1) := by decide +kernel
theorem dX10_having_32 : decode cX10_having 32 = .ok (.iadd, 1) := by decide +kernel
theorem dX10_having_33 : decode cX10_having 33 = .ok (.istore_n 3, 1) := by decide +kernel
theorem dX10_having_34 : decode cX10_having 34 = .ok (.iinc 4 1, 3) := by decide +kernel
theorem dX10_having_37 : decode cX10_having 37 = .ok (.goto (-32), 3) := by decide +kernel
theorem dX10_having_40 : decode cX10_having 40 = .ok (.iload_n 3, 1) := by decide +kernel
theorem dX10_having_41 : decode cX10_having 41 = .ok (.ireturn, 1) := by decide +kernel
theorem dX10_rule_0 : decode cX10_rule 0 = .ok (.aload_n 0, 1) := by decide +kernel
theorem dX10_rule_1 : decode cX10_rule 1 = .ok (.iconst 0, 1) := by decide +kernel
theorem dX10_rule_2 : decode cX10_rule 2 = .ok (.putfield 34, 3) := by decide +kernel
theorem dX10_rule_5 : decode cX10_rule 5 = .ok (.iload_n 1, 1) := by decide +kernel
theorem dX10_rule_6 : decode cX10_rule 6 = .ok (.invokestatic 119, 3) := by decide +kernel
theorem dX10_rule_9 : decode cX10_rule 9 = .ok (.ifCond .ne 9, 3) := by decide +kernel
theorem dX10_rule_12 : decode cX10_rule 12 = .ok (.aload_n 0, 1) := by decide +kernel
theorem dX10_rule_13 : decode cX10_rule 13 = .ok (.iconst 1, 1) := by decide +kernel
theorem dX10_rule_14 : decode cX10_rule 14 = .ok (.invokevirtual 95, 3) := by decide +kernel
theorem dX10_rule_17 : decode cX10_rule 17 = .ok (.ireturn, 1) := by decide +kernel
theorem dX10_rule_18 : decode cX10_rule 18 = .ok (.iload_n 2, 1) := by decide +kernel
theorem dX10_rule_19 : decode cX10_rule 19 = .ok (.iconst 0, 1) := by decide +kernel
theorem dX10_rule_20 : decode cX10_rule 20 = .ok (.bipush 9, 2) := by decide +kernel
theorem dX10_rule_22 : decode cX10_rule 22 = .ok (.invokestatic 41, 3) := by decide +kernel
theorem dX10_rule_25 : decode cX10_rule 25 = .ok (.ifCond .ne 9, 3) := by decide +kernel
theorem dX10_rule_28 : decode cX10_rule 28 = .ok (.aload_n 0, 1) := by decide +kernel
theorem dX10_rule_29 : decode cX10_rule 29 = .ok (.iconst 2, 1) := by decide +kernel
theorem dX10_rule_30 : decode cX10_rule 30 = .ok (.invokevirtual 95, 3) := by decide +kernel
theorem dX10_rule_33 : decode cX10_rule 33 = .ok (.ireturn, 1) := by decide +kernel
theorem dX10_rule_34 : decode cX10_rule 34 = .ok (.aload_n 0, 1) := by decide +kernel
theorem dX10_rule_35 : decode cX10_rule 35 = .ok (.getfield 7, 3) := by decide +kernel
theorem dX10_rule_38 : decode cX10_rule 38 = .ok (.bipush 56, 2) := by decide +kernel
theorem dX10_rule_40 : decode cX10_rule 40 = .ok (.iload_n 1, 1) := by decide +kernel
theorem dX10_rule_41 : decode cX10_rule 41 = .ok (.iadd, 1) := by decide +kernel
theorem dX10_rule_42 : decode cX10_rule 42 = .ok (.iaload, 1) := by decide +kernel
theorem dX10_rule_43 : decode cX10_rule 43 = .ok (.iconst (-1), 1) := by decide +kernel
theorem dX10_rule_44 : decode cX10_rule 44 = .ok (.if_icmp .ne 12, 3) := by decide +kernel
theorem dX10_rule_47 : decode cX10_rule 47 = .ok (.aload_n 0, 1) := by decide +kernel
theorem dX10_rule_48 : decode cX10_rule 48 = .ok (.iload_n 1, 1) := by decide +kernel
theorem dX10_rule_49 : decode cX10_rule 49 = .ok (.iload_n 2, 1) := by decide +kernel
theorem dX10_rule_50 : decode cX10_rule 50 = .ok (.invokevirtual 122, 3) := by decide +kernel
theorem dX10_rule_53 : decode cX10_rule 53 = .ok (.ifCond .ne 9, 3) := by decide +kernel
theorem dX10_rule_56 : decode cX10_rule 56 = .ok (.aload_n 0, 1) := by decide +kernel
theorem dX10_rule_57 : decode cX10_rule 57 = .ok (.iconst 3, 1) := by decide +kernel
theorem dX10_rule_58 : decode cX10_rule 58 = .ok (.invokevirtual 95, 3) := by decide +kernel
theorem dX10_rule_61 : decode cX10_rule 61 = .ok (.ireturn, 1) := by decide +kernel
theorem dX10_rule_62 : decode cX10_rule 62 = .ok (.aload_n 0, 1) := by decide +kernel
theorem dX10_rule_63 : decode cX10_rule 63 = .ok (.invokevirtual 98, 3) := by decide +kernel
theorem dX10_rule_66 : decode cX10_rule 66 = .ok (.aload_n 0, 1) := by decide +kernel
theorem dX10_rule_67 : decode cX10_rule 67 = .ok (.getfield 7, 3) := by decide +kernel
theorem dX10_rule_70 : decode cX10_rule 70 = .ok (.bipush 56, 2) := by decide +kernel
theorem dX10_rule_72 : decode cX10_rule 72 = .ok (.iload_n 1, 1) := by decide +kernel
theorem dX10_rule_73 : decode cX10_rule 73 = .ok (.iadd, 1) := by decide +kernel
theorem dX10_rule_74 : decode cX10_rule 74 = .ok (.iload_n 2, 1) := by decide +kernel
theorem dX10_rule_75 : decode cX10_rule 75 = .ok (.iastore, 1) := by decide +kernel
theorem dX10_rule_76 : decode cX10_rule 76 = .ok (.iconst 4, 1) := by decide +kernel
theorem dX10_rule_77 : decode cX10_rule 77 = .ok (.aload_n 0, 1) := by decide +kernel
theorem dX10_rule_78 : decode cX10_rule 78 = .ok (.iload_n 1, 1) := by decide +kernel
theorem dX10_rule_79 : decode cX10_rule 79 = .ok (.iload_n 2, 1) := by decide +kernel
theorem dX10_rule_80 : decode cX10_rule 80 = .ok (.invokevirtual 122, 3) := by decide +kernel
theorem dX10_rule_83 : decode cX10_rule 83 = .ok (.isub, 1) := by decide +kernel
theorem dX10_rule_84 : decode cX10_rule 84 = .ok (.aload_n 0, 1) := by decide +kernel
theorem dX10_rule_85 : decode cX10_rule 85 = .ok (.iload_n 1, 1) := by decide +kernel
theorem dX10_rule_86 : decode cX10_rule 86 = .ok (.iconst (-1), 1) := by decide +kernel
theorem dX10_rule_87 : decode cX10_rule 87 = .ok (.invokevirtual 122, 3) := by decide +kernel
theorem dX10_rule_90 : decode cX10_rule 90 = .ok (.isub, 1) := by decide +kernel
theorem dX10_rule_91 : decode cX10_rule 91 = .ok (.ireturn, 1) := by decide +kernel
theorem dX10_append_0 : decode cX10_append 0 = .ok (.aload_n 0, 1) := by decide +kernel
theorem dX10_append_1 : decode cX10_append 1 = .ok (.iconst 0, 1) := by decide +kernel
theorem dX10_append_2 : decode cX10_append 2 = .ok (.putfield 34, 3) := by decide +kernel
theorem dX10_append_5 : decode cX10_append 5 = .ok (.iload_n 1, 1) := by decide +kernel
theorem dX10_append_6 : decode cX10_append 6 = .ok (.bipush 33, 2) := by decide +kernel
theorem dX10_append_8 : decode cX10_append 8 = .ok (.bipush 126, 2) := by decide +kernel
theorem dX10_append_10 : decode cX10_append 10 = .ok (.invokestatic 41, 3) := by decide +kernel
theorem dX10_append_13 : decode cX10_append 13 = .ok (.ifCond .ne 9, 3) := by decide +kernel
theorem dX10_append_16 : decode cX10_append 16 = .ok (.aload_n 0, 1) := by decide +kernel
theorem dX10_append_17 : decode cX10_append 17 = .ok (.iconst 1, 1) := by decide +kernel
theorem dX10_append_18 : decode cX10_append 18 = .ok (.invokevirtual 95, 3) := by decide +kernel
theorem dX10_append_21 : decode cX10_append 21 = .ok (.ireturn, 1) := by decide +kernel
theorem dX10_append_22 : decode cX10_append 22 = .ok (.aload_n 0, 1) := by decide +kernel
theorem dX10_append_23 : decode cX10_append 23 = .ok (.getfield 125, 3) := by decide +kernel
theorem dX10_append_26 : decode cX10_append 26 = .ok (.bipush 60, 2) := by decide +kernel
theorem dX10_append_28 : decode cX10_append 28 = .ok (.if_icmp .ne 9, 3) := by decide +kernel
theorem dX10_append_31 : decode cX10_append 31 = .ok (.aload_n 0, 1) := by decide +kernel
theorem dX10_append_32 : decode cX10_append 32 = .ok (.iconst 2, 1) := by decide +kernel
theorem dX10_append_33 : decode cX10_append 33 = .ok (.invokevirtual 95, 3) := by decide +kernel
theorem dX10_append_36 : decode cX10_append 36 = .ok (.ireturn, 1) := by decide +kernel
theorem dX10_append_37 : decode cX10_append 37 = .ok (.aload_n 0, 1) := by decide +kernel
theorem dX10_append_38 : decode cX10_append 38 = .ok (.getfield 19, 3) := by decide +kernel
theorem dX10_append_41 : decode cX10_append 41 = .ok (.aload_n 0, 1) := by decide +kernel
theorem dX10_append_42 : decode cX10_append 42 = .ok (.getfield 125, 3) := by decide +kernel
theorem dX10_append_45 : decode cX10_append 45 = .ok (.iload_n 1, 1) := by decide +kernel
theorem dX10_append_46 : decode cX10_append 46 = .ok (.iastore, 1) := by decide +kernel
theorem dX10_append_47 : decode cX10_append 47 = .ok (.aload_n 0, 1) := by decide +kernel
theorem dX10_append_48 : decode cX10_append 48 = .ok (.dup, 1) := by decide +kernel
theorem dX10_append_49 : decode cX10_append 49 = .ok (.getfield 125, 3) := by decide +kernel
theorem dX10_append_52 : decode cX10_append 52 = .ok (.iconst 1, 1) := by decide +kernel
theorem dX10_append_53 : decode cX10_append 53 = .ok (.iadd, 1) := by decide +kernel
theorem dX10_append_54 : decode cX10_append 54 = .ok (.putfield 125, 3) := by decide +kernel
theorem dX10_append_57 : decode cX10_append 57 = .ok (.aload_n 0, 1) := by decide +kernel
theorem dX10_append_58 : decode cX10_append 58 = .ok (.getfield 125, 3) := by decide +kernel
theorem dX10_append_61 : decode cX10_append 61 = .ok (.ireturn, 1) := by decide +kernel
theorem dX10_clearBuffer_0 : decode cX10_clearBuffer 0 = .ok (.aload_n 0, 1) := by decide +kernel
theorem dX10_clearBuffer_1 : decode cX10_clearBuffer 1 = .ok (.iconst 0, 1) := by decide +kernel
theorem dX10_clearBuffer_2 : decode cX10_clearBuffer 2 = .ok (.putfield 34, 3) := by decide +kernel
theorem dX10_clearBuffer_5 : decode cX10_clearBuffer 5 = .ok (.aload_n 0, 1) := by decide +kernel
theorem dX10_clearBuffer_6 : decode cX10_clearBuffer 6 = .ok (.getfield 125, 3) := by decide +kernel
theorem dX10_clearBuffer_9 : decode cX10_clearBuffer 9 = .ok (.istore_n 1, 1) := by decide +kernel
theorem dX10_clearBuffer_10 : decode cX10_clearBuffer 10 = .ok (.aload_n 0, 1) := by decide +kernel
theorem dX10_clearBuffer_11 : decode cX10_clearBuffer 11 = .ok (.iconst 0, 1) := by decide +kernel
theorem dX10_clearBuffer_12 : decode cX10_clearBuffer 12 = .ok (.putfield 125, 3) := by decide +kernel
theorem dX10_clearBuffer_15 : decode cX10_clearBuffer 15 = .ok (.iload_n 1, 1) := by decide +kernel
theorem dX10_clearBuffer_16 : decode cX10_clearBuffer 16 = .ok (.ireturn, 1) := by decide +kernel
theorem dX10_letter_0 : decode cX10_letter 0 = .ok (.aload_n 0, 1) := by decide +kernel
theorem dX10_letter_1 : decode cX10_letter 1 = .ok (.getfield 128, 3) := by decide +kernel
theorem dX10_letter_4 : decode cX10_letter 4 = .ok (.aload_n 0, 1) := by decide +kernel
theorem dX10_letter_5 : decode cX10_letter 5 = .ok (.getfield 125, 3) := by decide +kernel
theorem dX10_letter_8 : decode cX10_letter 8 = .ok (.if_icmp .ge 18, 3) := by decide +kernel
theorem dX10_letter_11 : decode cX10_letter 11 = .ok (.aload_n 0, 1) := by decide +kernel
theorem dX10_letter_12 : decode cX10_letter 12 = .ok (.getfield 19, 3) := by decide +kernel
theorem dX10_letter_15 : decode cX10_letter 15 = .ok (.aload_n 0, 1) := by decide +kernel
theorem dX10_letter_16 : decode cX10_letter 16 = .ok (.getfield 128, 3) := by decide +kernel
theorem dX10_letter_19 : decode cX10_letter 19 = .ok (.iaload, 1) := by decide +kernel
theorem dX10_letter_20 : decode cX10_letter 20 = .ok (.bipush 97, 2) := by decide +kernel
theorem dX10_letter_22 : decode cX10_letter 22 = .ok (.isub, 1) := by decide +kernel
theorem dX10_letter_23 : decode cX10_letter 23 = .ok (.goto 4, 3) := by decide +kernel
theorem dX10_letter_26 : decode cX10_letter 26 = .ok (.iconst (-1), 1) := by decide +kernel
theorem dX10_letter_27 : decode cX10_letter 27 = .ok (.istore_n 1, 1) := by decide +kernel
theorem dX10_letter_28 : decode cX10_letter 28 = .ok (.iload_n 1, 1) := by decide +kernel
theorem dX10_letter_29 : decode cX10_letter 29 = .ok (.invokestatic 119, 3) := by decide +kernel
theorem dX10_letter_32 : decode cX10_letter 32 = .ok (.ifCond .eq 7, 3) := by decide +kernel
theorem dX10_letter_35 : decode cX10_letter 35 = .ok (.iload_n 1, 1) := by decide +kernel
theorem dX10_letter_36 : decode cX10_letter 36 = .ok (.goto 4, 3) := by decide +kernel
theorem dX10_letter_39 : decode cX10_letter 39 = .ok (.iconst (-1), 1) := by decide +kernel
theorem dX10_letter_40 : decode cX10_letter 40 = .ok (.ireturn, 1) := by decide +kernel
theorem dX10_row_0 : decode cX10_row 0 = .ok (.aload_n 0, 1) := by decide +kernel
theorem dX10_row_1 : decode cX10_row 1 = .ok (.getfield 31, 3) := by decide +kernel
theorem dX10_row_4 : decode cX10_row 4 = .ok (.aload_n 0, 1) := by decide +kernel
theorem dX10_row_5 : decode cX10_row 5 = .ok (.getfield 131, 3) := by decide +kernel
theorem dX10_row_8 : decode cX10_row 8 = .ok (.aload_n 0, 1) := by decide +kernel
theorem dX10_row_9 : decode cX10_row 9 = .ok (.getfield 128, 3) := by decide +kernel
theorem dX10_row_12 : decode cX10_row 12 = .ok (.iastore, 1) := by decide +kernel
theorem dX10_row_13 : decode cX10_row 13 = .ok (.aload_n 0, 1) := by decide +kernel
theorem dX10_row_14 : decode cX10_row 14 = .ok (.invokevirtual 134, 3) := by decide +kernel
theorem dX10_row_17 : decode cX10_row 17 = .ok (.iconst (-1), 1) := by decide +kernel
theorem dX10_row_18 : decode cX10_row 18 = .ok (.if_icmp .eq 35, 3) := by decide +kernel
theorem dX10_row_21 : decode cX10_row 21 = .ok (.aload_n 0, 1) := by decide +kernel
theorem dX10_row_22 : decode cX10_row 22 = .ok (.getfield 128, 3) := by decide +kernel
theorem dX10_row_25 : decode cX10_row 25 = .ok (.aload_n 0, 1) := by decide +kernel
theorem dX10_row_26 : decode cX10_row 26 = .ok (.getfield 31, 3) := by decide +kernel
theorem dX10_row_29 : decode cX10_row 29 = .ok (.aload_n 0, 1) := by decide +kernel
theorem dX10_row_30 : decode cX10_row 30 = .ok (.getfield 131, 3) := by decide +kernel
theorem dX10_row_33 : decode cX10_row 33 = .ok (.iaload, 1) := by decide +kernel
theorem dX10_row_34 : decode cX10_row 34 = .ok (.isub, 1) := by decide +kernel
theorem dX10_row_35 : decode cX10_row 35 = .ok (.bipush 12, 2) := by decide +kernel
theorem dX10_row_37 : decode cX10_row 37 = .ok (.if_icmp .ge 16, 3) := by decide +kernel
theorem dX10_row_40 : decode cX10_row 40 = .ok (.aload_n 0, 1) := by decide +kernel
theorem dX10_row_41 : decode cX10_row 41 = .ok (.dup, 1) := by decide +kernel
theorem dX10_row_42 : decode cX10_row 42 = .ok (.getfield 128, 3) := by decide +kernel
theorem dX10_row_45 : decode cX10_row 45 = .ok (.iconst 1, 1) := by decide +kernel
theorem dX10_row_46 : decode cX10_row 46 = .ok (.iadd, 1) := by decide +kernel
theorem dX10_row_47 : decode cX10_row 47 = .ok (.putfield 128, 3) := by decide +kernel
theorem dX10_row_50 : decode cX10_row 50 = .ok (.goto (-37), 3) := by decide +kernel
theorem dX10_row_53 : decode cX10_row 53 = .ok (.aload_n 0, 1) := by decide +kernel
theorem dX10_row_54 : decode cX10_row 54 = .ok (.getfield 128, 3) := by decide +kernel
theorem dX10_row_57 : decode cX10_row 57 = .ok (.aload_n 0, 1) := by decide +kernel
theorem dX10_row_58 : decode cX10_row 58 = .ok (.getfield 31, 3) := by decide +kernel
theorem dX10_row_61 : decode cX10_row 61 = .ok (.aload_n 0, 1) := by decide +kernel
theorem dX10_row_62 : decode cX10_row 62 = .ok (.getfield 131, 3) := by decide +kernel
theorem dX10_row_65 : decode cX10_row 65 = .ok (.iaload, 1) := by decide +kernel
theorem dX10_row_66 : decode cX10_row 66 = .ok (.if_icmp .le 7, 3) := by decide +kernel
theorem dX10_row_69 : decode cX10_row 69 = .ok (.iconst 1, 1) := by decide +kernel
theorem dX10_row_70 : decode cX10_row 70 = .ok (.goto 4, 3) := by decide +kernel
theorem dX10_row_73 : decode cX10_row 73 = .ok (.iconst 0, 1) := by decide +kernel
theorem dX10_row_74 : decode cX10_row 74 = .ok (.istore_n 1, 1) := by decide +kernel
theorem dX10_row_75 : decode cX10_row 75 = .ok (.aload_n 0, 1) := by decide +kernel
theorem dX10_row_76 : decode cX10_row 76 = .ok (.dup, 1) := by decide +kernel
theorem dX10_row_77 : decode cX10_row 77 = .ok (.getfield 131, 3) := by decide +kernel
theorem dX10_row_80 : decode cX10_row 80 = .ok (.iload_n 1, 1) := by decide +kernel
theorem dX10_row_81 : decode cX10_row 81 = .ok (.ifCond .eq 7, 3) := by decide +kernel
theorem dX10_row_84 : decode cX10_row 84 = .ok (.iconst 1, 1) := by decide +kernel
theorem dX10_row_85 : decode cX10_row 85 = .ok (.goto 4, 3) := by decide +kernel
theorem dX10_row_88 : decode cX10_row 88 = .ok (.iconst 0, 1) := by decide +kernel
theorem dX10_row_89 : decode cX10_row 89 = .ok (.iadd, 1) := by decide +kernel
theorem dX10_row_90 : decode cX10_row 90 = .ok (.putfield 131, 3) := by decide +kernel
theorem dX10_row_93 : decode cX10_row 93 = .ok (.iload_n 1, 1) := by decide +kernel
theorem dX10_row_94 : decode cX10_row 94 = .ok (.ireturn, 1) := by decide +kernel
theorem dX10_areRows_0 : decode cX10_areRows 0 = .ok (.aload_n 0, 1) := by decide +kernel
theorem dX10_areRows_1 : decode cX10_areRows 1 = .ok (.iconst 0, 1) := by decide +kernel
theorem dX10_areRows_2 : decode cX10_areRows 2 = .ok (.putfield 128, 3) := by decide +kernel
theorem dX10_areRows_5 : decode cX10_areRows 5 = .ok (.aload_n 0, 1) := by decide +kernel
theorem dX10_areRows_6 : decode cX10_areRows 6 = .ok (.iconst 0, 1) := by decide +kernel
theorem dX10_areRows_7 : decode cX10_areRows 7 = .ok (.putfield 131, 3) := by decide +kernel
theorem dX10_areRows_10 : decode cX10_areRows 10 = .ok (.aload_n 0, 1) := by decide +kernel
theorem dX10_areRows_11 : decode cX10_areRows 11 = .ok (.invokevirtual 137, 3) := by decide +kernel
theorem dX10_areRows_14 : decode cX10_areRows 14 = .ok (.istore_n 1, 1) := by decide +kernel
theorem dX10_areRows_15 : decode cX10_areRows 15 = .ok (.iload_n 1, 1) := by decide +kernel
theorem dX10_areRows_16 : decode cX10_areRows 16 = .ok (.ifCond .eq 46, 3) := by decide +kernel
theorem dX10_areRows_19 : decode cX10_areRows 19 = .ok (.aload_n 0, 1) := by decide +kernel
theorem dX10_areRows_20 : decode cX10_areRows 20 = .ok (.getfield 128, 3) := by decide +kernel
theorem dX10_areRows_23 : decode cX10_areRows 23 = .ok (.aload_n 0, 1) := by decide +kernel
theorem dX10_areRows_24 : decode cX10_areRows 24 = .ok (.getfield 125, 3) := by decide +kernel
theorem dX10_areRows_27 : decode cX10_areRows 27 = .ok (.if_icmp .ge 35, 3) := by decide +kernel
theorem dX10_areRows_30 : decode cX10_areRows 30 = .ok (.aload_n 0, 1) := by decide +kernel
theorem dX10_areRows_31 : decode cX10_areRows 31 = .ok (.getfield 19, 3) := by decide +kernel
theorem dX10_areRows_34 : decode cX10_areRows 34 = .ok (.aload_n 0, 1) := by decide +kernel
theorem dX10_areRows_35 : decode cX10_areRows 35 = .ok (.getfield 128, 3) := by decide +kernel
theorem dX10_areRows_38 : decode cX10_areRows 38 = .ok (.iaload, 1) := by decide +kernel
theorem dX10_areRows_39 : decode cX10_areRows 39 = .ok (.bipush 59, 2) := by decide +kernel
theorem dX10_areRows_41 : decode cX10_areRows 41 = .ok (.if_icmp .ne 21, 3) := by decide +kernel
theorem dX10_areRows_44 : decode cX10_areRows 44 = .ok (.aload_n 0, 1) := by decide +kernel
theorem dX10_areRows_45 : decode cX10_areRows 45 = .ok (.dup, 1) := by decide +kernel
theorem dX10_areRows_46 : decode cX10_areRows 46 = .ok (.getfield 128, 3) := by decide +kernel
theorem dX10_areRows_49 : decode cX10_areRows 49 = .ok (.iconst 1, 1) := by decide +kernel
theorem dX10_areRows_50 : decode cX10_areRows 50 = .ok (.iadd, 1) := by decide +kernel
theorem dX10_areRows_51 : decode cX10_areRows 51 = .ok (.putfield 128, 3) := by decide +kernel
theorem dX10_areRows_54 : decode cX10_areRows 54 = .ok (.aload_n 0, 1) := by decide +kernel
theorem dX10_areRows_55 : decode cX10_areRows 55 = .ok (.invokevirtual 137, 3) := by decide +kernel
theorem dX10_areRows_58 : decode cX10_areRows 58 = .ok (.istore_n 1, 1) := by decide +kernel
theorem dX10_areRows_59 : decode cX10_areRows 59 = .ok (.goto (-44), 3) := by decide +kernel
theorem dX10_areRows_62 : decode cX10_areRows 62 = .ok (.iload_n 1, 1) := by decide +kernel
theorem dX10_areRows_63 : decode cX10_areRows 63 = .ok (.ifCond .eq 18, 3) := by decide +kernel
theorem dX10_areRows_66 : decode cX10_areRows 66 = .ok (.aload_n 0, 1) := by decide +kernel
theorem dX10_areRows_67 : decode cX10_areRows 67 = .ok (.getfield 128, 3) := by decide +kernel
theorem dX10_areRows_70 : decode cX10_areRows 70 = .ok (.aload_n 0, 1) := by decide +kernel
theorem dX10_areRows_71 : decode cX10_areRows 71 = .ok (.getfield 125, 3) := by decide +kernel
theorem dX10_areRows_74 : decode cX10_areRows 74 = .ok (.if_icmp .ne 7, 3) := by decide +kernel
theorem dX10_areRows_77 : decode cX10_areRows 77 = .ok (.iconst 1, 1) := by decide +kernel
theorem dX10_areRows_78 : decode cX10_areRows 78 = .ok (.goto 4, 3) := by decide +kernel
theorem dX10_areRows_81 : decode cX10_areRows 81 = .ok (.iconst 0, 1) := by decide +kernel
theorem dX10_areRows_82 : decode cX10_areRows 82 = .ok (.ireturn, 1) := by decide +kernel
theorem dX10_firstError_0 : decode cX10_firstError 0 = .ok (.aload_n 0, 1) := by decide +kernel
theorem dX10_firstError_1 : decode cX10_firstError 1 = .ok (.iconst 0, 1) := by decide +kernel
theorem dX10_firstError_2 : decode cX10_firstError 2 = .ok (.putfield 34, 3) := by decide +kernel
theorem dX10_firstError_5 : decode cX10_firstError 5 = .ok (.aload_n 0, 1) := by decide +kernel
theorem dX10_firstError_6 : decode cX10_firstError 6 = .ok (.invokevirtual 141, 3) := by decide +kernel
theorem dX10_firstError_9 : decode cX10_firstError 9 = .ok (.ifCond .eq 10, 3) := by decide +kernel
theorem dX10_firstError_12 : decode cX10_firstError 12 = .ok (.aload_n 0, 1) := by decide +kernel
theorem dX10_firstError_13 : decode cX10_firstError 13 = .ok (.getfield 125, 3) := by decide +kernel
theorem dX10_firstError_16 : decode cX10_firstError 16 = .ok (.goto 7, 3) := by decide +kernel
theorem dX10_firstError_19 : decode cX10_firstError 19 = .ok (.aload_n 0, 1) := by decide +kernel
theorem dX10_firstError_20 : decode cX10_firstError 20 = .ok (.getfield 128, 3) := by decide +kernel
theorem dX10_firstError_23 : decode cX10_firstError 23 = .ok (.ireturn, 1) := by decide +kernel
theorem dX10_layText_0 : decode cX10_layText 0 = .ok (.iload_n 1, 1) := by decide +kernel
theorem dX10_layText_1 : decode cX10_layText 1 = .ok (.invokestatic 45, 3) := by decide +kernel
theorem dX10_layText_4 : decode cX10_layText 4 = .ok (.istore_n 3, 1) := by decide +kernel
theorem dX10_layText_5 : decode cX10_layText 5 = .ok (.iload_n 2, 1) := by decide +kernel
theorem dX10_layText_6 : decode cX10_layText 6 = .ok (.iconst 1, 1) := by decide +kernel
theorem dX10_layText_7 : decode cX10_layText 7 = .ok (.iadd, 1) := by decide +kernel
theorem dX10_layText_8 : decode cX10_layText 8 = .ok (.aload_n 0, 1) := by decide +kernel
theorem dX10_layText_9 : decode cX10_layText 9 = .ok (.getfield 131, 3) := by decide +kernel
theorem dX10_layText_12 : decode cX10_layText 12 = .ok (.if_icmp .ge 16, 3) := by decide +kernel
theorem dX10_layText_15 : decode cX10_layText 15 = .ok (.aload_n 0, 1) := by decide +kernel
theorem dX10_layText_16 : decode cX10_layText 16 = .ok (.getfield 31, 3) := by decide +kernel
theorem dX10_layText_19 : decode cX10_layText 19 = .ok (.iload_n 2, 1) := by decide +kernel
theorem dX10_layText_20 : decode cX10_layText 20 = .ok (.iconst 1, 1) := by decide +kernel
theorem dX10_layText_21 : decode cX10_layText 21 = .ok (.iadd, 1) := by decide +kernel
theorem dX10_layText_22 : decode cX10_layText 22 = .ok (.iaload, 1) := by decide +kernel
theorem dX10_layText_23 : decode cX10_layText 23 = .ok (.iconst 1, 1) := by decide +kernel
theorem dX10_layText_24 : decode cX10_layText 24 = .ok (.isub, 1) := by decide +kernel
theorem dX10_layText_25 : decode cX10_layText 25 = .ok (.goto 7, 3) := by decide +kernel
theorem dX10_layText_28 : decode cX10_layText 28 = .ok (.aload_n 0, 1) := by decide +kernel
theorem dX10_layText_29 : decode cX10_layText 29 = .ok (.getfield 125, 3) := by decide +kernel
theorem dX10_layText_32 : decode cX10_layText 32 = .ok (.istore 4, 2) := by decide +kernel
theorem dX10_layText_34 : decode cX10_layText 34 = .ok (.aload_n 0, 1) := by decide +kernel
theorem dX10_layText_35 : decode cX10_layText 35 = .ok (.getfield 7, 3) := by decide +kernel
theorem dX10_layText_38 : decode cX10_layText 38 = .ok (.iload_n 3, 1) := by decide +kernel
theorem dX10_layText_39 : decode cX10_layText 39 = .ok (.iload 4, 2) := by decide +kernel
theorem dX10_layText_41 : decode cX10_layText 41 = .ok (.aload_n 0, 1) := by decide +kernel
theorem dX10_layText_42 : decode cX10_layText 42 = .ok (.getfield 31, 3) := by decide +kernel
theorem dX10_layText_45 : decode cX10_layText 45 = .ok (.iload_n 2, 1) := by decide +kernel
theorem dX10_layText_46 : decode cX10_layText 46 = .ok (.iaload, 1) := by decide +kernel
theorem dX10_layText_47 : decode cX10_layText 47 = .ok (.isub, 1) := by decide +kernel
theorem dX10_layText_48 : decode cX10_layText 48 = .ok (.iastore, 1) := by decide +kernel
theorem dX10_layText_49 : decode cX10_layText 49 = .ok (.iconst 0, 1) := by decide +kernel
theorem dX10_layText_50 : decode cX10_layText 50 = .ok (.istore 5, 2) := by decide +kernel
theorem dX10_layText_52 : decode cX10_layText 52 = .ok (.iload 5, 2) := by decide +kernel
theorem dX10_layText_54 : decode cX10_layText 54 = .ok (.bipush 12, 2) := by decide +kernel
theorem dX10_layText_56 : decode cX10_layText 56 = .ok (.if_icmp .ge 53, 3) := by decide +kernel
theorem dX10_layText_59 : decode cX10_layText 59 = .ok (.aload_n 0, 1) := by decide +kernel
theorem dX10_layText_60 : decode cX10_layText 60 = .ok (.getfield 7, 3) := by decide +kernel
theorem dX10_layText_63 : decode cX10_layText 63 = .ok (.iload_n 3, 1) := by decide +kernel
theorem dX10_layText_64 : decode cX10_layText 64 = .ok (.bipush 10, 2) := by decide +kernel
theorem dX10_layText_66 : decode cX10_layText 66 = .ok (.iadd, 1) := by decide +kernel
theorem dX10_layText_67 : decode cX10_layText 67 = .ok (.iload 5, 2) := by decide +kernel
theorem dX10_layText_69 : decode cX10_layText 69 = .ok (.iadd, 1) := by decide +kernel
theorem dX10_layText_70 : decode cX10_layText 70 = .ok (.iload 5, 2) := by decide +kernel
theorem dX10_layText_72 : decode cX10_layText 72 = .ok (.aload_n 0, 1) := by decide +kernel
theorem dX10_layText_73 : decode cX10_layText 73 = .ok (.getfield 7, 3) := by decide +kernel
theorem dX10_layText_76 : decode cX10_layText 76 = .ok (.iload_n 3, 1) := by decide +kernel
theorem dX10_layText_77 : decode cX10_layText 77 = .ok (.iaload, 1) := by decide +kernel
theorem dX10_layText_78 : decode cX10_layText 78 = .ok (.if_icmp .ge 23, 3) := by decide +kernel
theorem dX10_layText_81 : decode cX10_layText 81 = .ok (.aload_n 0, 1) := by decide +kernel
theorem dX10_layText_82 : decode cX10_layText 82 = .ok (.getfield 19, 3) := by decide +kernel
theorem dX10_layText_85 : decode cX10_layText 85 = .ok (.aload_n 0, 1) := by decide +kernel
theorem dX10_layText_86 : decode cX10_layText 86 = .ok (.getfield 31, 3) := by decide +kernel
theorem dX10_layText_89 : decode cX10_layText 89 = .ok (.iload_n 2, 1) := by decide +kernel
theorem dX10_layText_90 : decode cX10_layText 90 = .ok (.iaload, 1) := by decide +kernel
theorem dX10_layText_91 : decode cX10_layText 91 = .ok (.iload 5, 2) := by decide +kernel
theorem dX10_layText_93 : decode cX10_layText 93 = .ok (.iadd, 1) := by decide +kernel
theorem dX10_layText_94 : decode cX10_layText 94 = .ok (.iaload, 1) := by decide +kernel
theorem dX10_layText_95 : decode cX10_layText 95 = .ok (.bipush 97, 2) := by decide +kernel
theorem dX10_layText_97 : decode cX10_layText 97 = .ok (.isub, 1) := by decide +kernel
theorem dX10_layText_98 : decode cX10_layText 98 = .ok (.goto 4, 3) := by decide +kernel
theorem dX10_layText_101 : decode cX10_layText 101 = .ok (.iconst 0, 1) := by decide +kernel
theorem dX10_layText_102 : decode cX10_layText 102 = .ok (.iastore, 1) := by decide +kernel
theorem dX10_layText_103 : decode cX10_layText 103 = .ok (.iinc 5 1, 3) := by decide +kernel
theorem dX10_layText_106 : decode cX10_layText 106 = .ok (.goto (-54), 3) := by decide +kernel
theorem dX10_layText_109 : decode cX10_layText 109 = .ok (.return_, 1) := by decide +kernel
theorem dX10_add_0 : decode cX10_add 0 = .ok (.aload_n 0, 1) := by decide +kernel
theorem dX10_add_1 : decode cX10_add 1 = .ok (.iconst 0, 1) := by decide +kernel
theorem dX10_add_2 : decode cX10_add 2 = .ok (.putfield 34, 3) := by decide +kernel
theorem dX10_add_5 : decode cX10_add 5 = .ok (.aload_n 0, 1) := by decide +kernel
theorem dX10_add_6 : decode cX10_add 6 = .ok (.invokevirtual 141, 3) := by decide +kernel
theorem dX10_add_9 : decode cX10_add 9 = .ok (.ifCond .ne 9, 3) := by decide +kernel
theorem dX10_add_12 : decode cX10_add 12 = .ok (.aload_n 0, 1) := by decide +kernel
theorem dX10_add_13 : decode cX10_add 13 = .ok (.iconst 1, 1) := by decide +kernel
theorem dX10_add_14 : decode cX10_add 14 = .ok (.invokevirtual 95, 3) := by decide +kernel
theorem dX10_add_17 : decode cX10_add 17 = .ok (.ireturn, 1) := by decide +kernel
theorem dX10_add_18 : decode cX10_add 18 = .ok (.aload_n 0, 1) := by decide +kernel
theorem dX10_add_19 : decode cX10_add 19 = .ok (.getfield 7, 3) := by decide +kernel
theorem dX10_add_22 : decode cX10_add 22 = .ok (.iconst 0, 1) := by decide +kernel
theorem dX10_add_23 : decode cX10_add 23 = .ok (.iaload, 1) := by decide +kernel
theorem dX10_add_24 : decode cX10_add 24 = .ok (.aload_n 0, 1) := by decide +kernel
theorem dX10_add_25 : decode cX10_add 25 = .ok (.getfield 131, 3) := by decide +kernel
theorem dX10_add_28 : decode cX10_add 28 = .ok (.iadd, 1) := by decide +kernel
theorem dX10_add_29 : decode cX10_add 29 = .ok (.bipush 10, 2) := by decide +kernel
theorem dX10_add_31 : decode cX10_add 31 = .ok (.if_icmp .le 9, 3) := by decide +kernel
theorem dX10_add_34 : decode cX10_add 34 = .ok (.aload_n 0, 1) := by decide +kernel
theorem dX10_add_35 : decode cX10_add 35 = .ok (.iconst 2, 1) := by decide +kernel
theorem dX10_add_36 : decode cX10_add 36 = .ok (.invokevirtual 95, 3) := by decide +kernel
theorem dX10_add_39 : decode cX10_add 39 = .ok (.ireturn, 1) := by decide +kernel
theorem dX10_add_40 : decode cX10_add 40 = .ok (.aload_n 0, 1) := by decide +kernel
theorem dX10_add_41 : decode cX10_add 41 = .ok (.invokevirtual 98, 3) := by decide +kernel
theorem dX10_add_44 : decode cX10_add 44 = .ok (.iconst 0, 1) := by decide +kernel
theorem dX10_add_45 : decode cX10_add 45 = .ok (.istore_n 1, 1) := by decide +kernel
theorem dX10_add_46 : decode cX10_add 46 = .ok (.iload_n 1, 1) := by decide +kernel
theorem dX10_add_47 : decode cX10_add 47 = .ok (.aload_n 0, 1) := by decide +kernel
theorem dX10_add_48 : decode cX10_add 48 = .ok (.getfield 131, 3) := by decide +kernel
theorem dX10_add_51 : decode cX10_add 51 = .ok (.if_icmp .ge 73, 3) := by decide +kernel
theorem dX10_add_54 : decode cX10_add 54 = .ok (.aload_n 0, 1) := by decide +kernel
theorem dX10_add_55 : decode cX10_add 55 = .ok (.getfield 7, 3) := by decide +kernel
theorem dX10_add_58 : decode cX10_add 58 = .ok (.iconst 0, 1) := by decide +kernel
theorem dX10_add_59 : decode cX10_add 59 = .ok (.iaload, 1) := by decide +kernel
theorem dX10_add_60 : decode cX10_add 60 = .ok (.invokestatic 45, 3) := by decide +kernel
theorem dX10_add_63 : decode cX10_add 63 = .ok (.istore_n 2, 1) := by decide +kernel
theorem dX10_add_64 : decode cX10_add 64 = .ok (.iconst 0, 1) := by decide +kernel
theorem dX10_add_65 : decode cX10_add 65 = .ok (.istore_n 3, 1) := by decide +kernel
theorem dX10_add_66 : decode cX10_add 66 = .ok (.iload_n 3, 1) := by decide +kernel
theorem dX10_add_67 : decode cX10_add 67 = .ok (.bipush 22, 2) := by decide +kernel
theorem dX10_add_69 : decode cX10_add 69 = .ok (.if_icmp .ge 18, 3) := by decide +kernel
theorem dX10_add_72 : decode cX10_add 72 = .ok (.aload_n 0, 1) := by decide +kernel
theorem dX10_add_73 : decode cX10_add 73 = .ok (.getfield 7, 3) := by decide +kernel
theorem dX10_add_76 : decode cX10_add 76 = .ok (.iload_n 2, 1) := by decide +kernel
theorem dX10_add_77 : decode cX10_add 77 = .ok (.iload_n 3, 1) := by decide +kernel
theorem dX10_add_78 : decode cX10_add 78 = .ok (.iadd, 1) := by decide +kernel
theorem dX10_add_79 : decode cX10_add 79 = .ok (.iconst 0, 1) := by decide +kernel
theorem dX10_add_80 : decode cX10_add 80 = .ok (.iastore, 1) := by decide +kernel
theorem dX10_add_81 : decode cX10_add 81 = .ok (.iinc 3 1, 3) := by decide +kernel
theorem dX10_add_84 : decode cX10_add 84 = .ok (.goto (-18), 3) := by decide +kernel
theorem dX10_add_87 : decode cX10_add 87 = .ok (.aload_n 0, 1) := by decide +kernel
theorem dX10_add_88 : decode cX10_add 88 = .ok (.getfield 7, 3) := by decide +kernel
theorem dX10_add_91 : decode cX10_add 91 = .ok (.iload_n 2, 1) := by decide +kernel
theorem dX10_add_92 : decode cX10_add 92 = .ok (.bipush 7, 2) := by decide +kernel
theorem dX10_add_94 : decode cX10_add 94 = .ok (.iadd, 1) := by decide +kernel
theorem dX10_add_95 : decode cX10_add 95 = .ok (.iconst (-1), 1) := by decide +kernel
theorem dX10_add_96 : decode cX10_add 96 = .ok (.iastore, 1) := by decide +kernel
theorem dX10_add_97 : decode cX10_add 97 = .ok (.aload_n 0, 1) := by decide +kernel
theorem dX10_add_98 : decode cX10_add 98 = .ok (.aload_n 0, 1) := by decide +kernel
theorem dX10_add_99 : decode cX10_add 99 = .ok (.getfield 7, 3) := by decide +kernel
theorem dX10_add_102 : decode cX10_add 102 = .ok (.iconst 0, 1) := by decide +kernel
theorem dX10_add_103 : decode cX10_add 103 = .ok (.iaload, 1) := by decide +kernel
theorem dX10_add_104 : decode cX10_add 104 = .ok (.iload_n 1, 1) := by decide +kernel
theorem dX10_add_105 : decode cX10_add 105 = .ok (.invokevirtual 144, 3) := by decide +kernel
theorem dX10_add_108 : decode cX10_add 108 = .ok (.aload_n 0, 1) := by decide +kernel
theorem dX10_add_109 : decode cX10_add 109 = .ok (.getfield 7, 3) := by decide +kernel
theorem dX10_add_112 : decode cX10_add 112 = .ok (.iconst 0, 1) := by decide +kernel
theorem dX10_add_113 : decode cX10_add 113 = .ok (.dup2, 1) := by decide +kernel
theorem dX10_add_114 : decode cX10_add 114 = .ok (.iaload, 1) := by decide +kernel
theorem dX10_add_115 : decode cX10_add 115 = .ok (.iconst 1, 1) := by decide +kernel
theorem dX10_add_116 : decode cX10_add 116 = .ok (.iadd, 1) := by decide +kernel
theorem dX10_add_117 : decode cX10_add 117 = .ok (.iastore, 1) := by decide +kernel
theorem dX10_add_118 : decode cX10_add 118 = .ok (.iinc 1 1, 3) := by decide +kernel
theorem dX10_add_121 : decode cX10_add 121 = .ok (.goto (-75), 3) := by decide +kernel
theorem dX10_add_124 : decode cX10_add 124 = .ok (.aload_n 0, 1) := by decide +kernel
theorem dX10_add_125 : decode cX10_add 125 = .ok (.iconst 0, 1) := by decide +kernel
theorem dX10_add_126 : decode cX10_add 126 = .ok (.putfield 125, 3) := by decide +kernel
theorem dX10_add_129 : decode cX10_add 129 = .ok (.aload_n 0, 1) := by decide +kernel
theorem dX10_add_130 : decode cX10_add 130 = .ok (.getfield 7, 3) := by decide +kernel
theorem dX10_add_133 : decode cX10_add 133 = .ok (.iconst 0, 1) := by decide +kernel
theorem dX10_add_134 : decode cX10_add 134 = .ok (.iaload, 1) := by decide +kernel
theorem dX10_add_135 : decode cX10_add 135 = .ok (.ireturn, 1) := by decide +kernel
theorem dX10_change_0 : decode cX10_change 0 = .ok (.aload_n 0, 1) := by decide +kernel
theorem dX10_change_1 : decode cX10_change 1 = .ok (.iconst 0, 1) := by decide +kernel
theorem dX10_change_2 : decode cX10_change 2 = .ok (.putfield 34, 3) := by decide +kernel
theorem dX10_change_5 : decode cX10_change 5 = .ok (.aload_n 0, 1) := by decide +kernel
theorem dX10_change_6 : decode cX10_change 6 = .ok (.iload_n 1, 1) := by decide +kernel
theorem dX10_change_7 : decode cX10_change 7 = .ok (.invokevirtual 107, 3) := by decide +kernel
theorem dX10_change_10 : decode cX10_change 10 = .ok (.ifCond .ne 9, 3) := by decide +kernel
theorem dX10_change_13 : decode cX10_change 13 = .ok (.aload_n 0, 1) := by decide +kernel
theorem dX10_change_14 : decode cX10_change 14 = .ok (.iconst 1, 1) := by decide +kernel
theorem dX10_change_15 : decode cX10_change 15 = .ok (.invokevirtual 95, 3) := by decide +kernel
theorem dX10_change_18 : decode cX10_change 18 = .ok (.ireturn, 1) := by decide +kernel
theorem dX10_change_19 : decode cX10_change 19 = .ok (.aload_n 0, 1) := by decide +kernel
theorem dX10_change_20 : decode cX10_change 20 = .ok (.invokevirtual 141, 3) := by decide +kernel
theorem dX10_change_23 : decode cX10_change 23 = .ok (.ifCond .eq 11, 3) := by decide +kernel
theorem dX10_change_26 : decode cX10_change 26 = .ok (.aload_n 0, 1) := by decide +kernel
theorem dX10_change_27 : decode cX10_change 27 = .ok (.getfield 131, 3) := by decide +kernel
theorem dX10_change_30 : decode cX10_change 30 = .ok (.iconst 1, 1) := by decide +kernel
theorem dX10_change_31 : decode cX10_change 31 = .ok (.if_icmp .eq 9, 3) := by decide +kernel
theorem dX10_change_34 : decode cX10_change 34 = .ok (.aload_n 0, 1) := by decide +kernel
theorem dX10_change_35 : decode cX10_change 35 = .ok (.iconst 2, 1) := by decide +kernel
theorem dX10_change_36 : decode cX10_change 36 = .ok (.invokevirtual 95, 3) := by decide +kernel
theorem dX10_change_39 : decode cX10_change 39 = .ok (.ireturn, 1) := by decide +kernel
theorem dX10_change_40 : decode cX10_change 40 = .ok (.aload_n 0, 1) := by decide +kernel
theorem dX10_change_41 : decode cX10_change 41 = .ok (.invokevirtual 98, 3) := by decide +kernel
theorem dX10_change_44 : decode cX10_change 44 = .ok (.iload_n 1, 1) := by decide +kernel
theorem dX10_change_45 : decode cX10_change 45 = .ok (.invokestatic 45, 3) := by decide +kernel
theorem dX10_change_48 : decode cX10_change 48 = .ok (.istore_n 2, 1) := by decide +kernel
theorem dX10_change_49 : decode cX10_change 49 = .ok (.aload_n 0, 1) := by decide +kernel
theorem dX10_change_50 : decode cX10_change 50 = .ok (.iload_n 1, 1) := by decide +kernel
theorem dX10_change_51 : decode cX10_change 51 = .ok (.iconst 0, 1) := by decide +kernel
theorem dX10_change_52 : decode cX10_change 52 = .ok (.invokevirtual 144, 3) := by decide +kernel
theorem dX10_change_55 : decode cX10_change 55 = .ok (.aload_n 0, 1) := by decide +kernel
theorem dX10_change_56 : decode cX10_change 56 = .ok (.getfield 7, 3) := by decide +kernel
theorem dX10_change_59 : decode cX10_change 59 = .ok (.iload_n 2, 1) := by decide +kernel
theorem dX10_change_60 : decode cX10_change 60 = .ok (.iconst 1, 1) := by decide +kernel
theorem dX10_change_61 : decode cX10_change 61 = .ok (.iadd, 1) := by decide +kernel
theorem dX10_change_62 : decode cX10_change 62 = .ok (.iaload, 1) := by decide +kernel
theorem dX10_change_63 : decode cX10_change 63 = .ok (.iconst 1, 1) := by decide +kernel
theorem dX10_change_64 : decode cX10_change 64 = .ok (.if_icmp .le 61, 3) := by decide +kernel
theorem dX10_change_67 : decode cX10_change 67 = .ok (.aload_n 0, 1) := by decide +kernel
theorem dX10_change_68 : decode cX10_change 68 = .ok (.getfield 7, 3) := by decide +kernel
theorem dX10_change_71 : decode cX10_change 71 = .ok (.iload_n 2, 1) := by decide +kernel
theorem dX10_change_72 : decode cX10_change 72 = .ok (.bipush 6, 2) := by decide +kernel
theorem dX10_change_74 : decode cX10_change 74 = .ok (.iadd, 1) := by decide +kernel
theorem dX10_change_75 : decode cX10_change 75 = .ok (.dup2, 1) := by decide +kernel
theorem dX10_change_76 : decode cX10_change 76 = .ok (.iaload, 1) := by decide +kernel
theorem dX10_change_77 : decode cX10_change 77 = .ok (.aload_n 0, 1) := by decide +kernel
theorem dX10_change_78 : decode cX10_change 78 = .ok (.getfield 7, 3) := by decide +kernel
theorem dX10_change_81 : decode cX10_change 81 = .ok (.iload_n 2, 1) := by decide +kernel
theorem dX10_change_82 : decode cX10_change 82 = .ok (.iconst 5, 1) := by decide +kernel
theorem dX10_change_83 : decode cX10_change 83 = .ok (.iadd, 1) := by decide +kernel
theorem dX10_change_84 : decode cX10_change 84 = .ok (.iaload, 1) := by decide +kernel
theorem dX10_change_85 : decode cX10_change 85 = .ok (.iadd, 1) := by decide +kernel
theorem dX10_change_86 : decode cX10_change 86 = .ok (.iastore, 1) := by decide +kernel
theorem dX10_change_87 : decode cX10_change 87 = .ok (.aload_n 0, 1) := by decide +kernel
theorem dX10_change_88 : decode cX10_change 88 = .ok (.getfield 7, 3) := by decide +kernel
theorem dX10_change_91 : decode cX10_change 91 = .ok (.iload_n 2, 1) := by decide +kernel
theorem dX10_change_92 : decode cX10_change 92 = .ok (.iconst 5, 1) := by decide +kernel
theorem dX10_change_93 : decode cX10_change 93 = .ok (.iadd, 1) := by decide +kernel
theorem dX10_change_94 : decode cX10_change 94 = .ok (.iconst 0, 1) := by decide +kernel
theorem dX10_change_95 : decode cX10_change 95 = .ok (.iastore, 1) := by decide +kernel
theorem dX10_change_96 : decode cX10_change 96 = .ok (.aload_n 0, 1) := by decide +kernel
theorem dX10_change_97 : decode cX10_change 97 = .ok (.getfield 7, 3) := by decide +kernel
theorem dX10_change_100 : decode cX10_change 100 = .ok (.iload_n 2, 1) := by decide +kernel
theorem dX10_change_101 : decode cX10_change 101 = .ok (.bipush 7, 2) := by decide +kernel
theorem dX10_change_103 : decode cX10_change 103 = .ok (.iadd, 1) := by decide +kernel
theorem dX10_change_104 : decode cX10_change 104 = .ok (.iconst (-1), 1) := by decide +kernel
theorem dX10_change_105 : decode cX10_change 105 = .ok (.iastore, 1) := by decide +kernel
theorem dX10_change_106 : decode cX10_change 106 = .ok (.aload_n 0, 1) := by decide +kernel
theorem dX10_change_107 : decode cX10_change 107 = .ok (.getfield 7, 3) := by decide +kernel
theorem dX10_change_110 : decode cX10_change 110 = .ok (.iload_n 2, 1) := by decide +kernel
theorem dX10_change_111 : decode cX10_change 111 = .ok (.bipush 8, 2) := by decide +kernel
theorem dX10_change_113 : decode cX10_change 113 = .ok (.iadd, 1) := by decide +kernel
theorem dX10_change_114 : decode cX10_change 114 = .ok (.iconst 0, 1) := by decide +kernel
theorem dX10_change_115 : decode cX10_change 115 = .ok (.iastore, 1) := by decide +kernel
theorem dX10_change_116 : decode cX10_change 116 = .ok (.aload_n 0, 1) := by decide +kernel
theorem dX10_change_117 : decode cX10_change 117 = .ok (.getfield 7, 3) := by decide +kernel
theorem dX10_change_120 : decode cX10_change 120 = .ok (.iload_n 2, 1) := by decide +kernel
theorem dX10_change_121 : decode cX10_change 121 = .ok (.iconst 1, 1) := by decide +kernel
theorem dX10_change_122 : decode cX10_change 122 = .ok (.iadd, 1) := by decide +kernel
theorem dX10_change_123 : decode cX10_change 123 = .ok (.iconst 1, 1) := by decide +kernel
theorem dX10_change_124 : decode cX10_change 124 = .ok (.iastore, 1) := by decide +kernel
theorem dX10_change_125 : decode cX10_change 125 = .ok (.aload_n 0, 1) := by decide +kernel
theorem dX10_change_126 : decode cX10_change 126 = .ok (.getfield 7, 3) := by decide +kernel
theorem dX10_change_129 : decode cX10_change 129 = .ok (.iload_n 2, 1) := by decide +kernel
theorem dX10_change_130 : decode cX10_change 130 = .ok (.iconst 1, 1) := by decide +kernel
theorem dX10_change_131 : decode cX10_change 131 = .ok (.iadd, 1) := by decide +kernel
theorem dX10_change_132 : decode cX10_change 132 = .ok (.iaload, 1) := by decide +kernel
theorem dX10_change_133 : decode cX10_change 133 = .ok (.iconst 1, 1) := by decide +kernel
theorem dX10_change_134 : decode cX10_change 134 = .ok (.if_icmp .ne 8, 3) := by decide +kernel
theorem dX10_change_137 : decode cX10_change 137 = .ok (.aload_n 0, 1) := by decide +kernel
theorem dX10_change_138 : decode cX10_change 138 = .ok (.iload_n 1, 1) := by decide +kernel
theorem dX10_change_139 : decode cX10_change 139 = .ok (.invokevirtual 110, 3) := by decide +kernel
theorem dX10_change_142 : decode cX10_change 142 = .ok (.aload_n 0, 1) := by decide +kernel
theorem dX10_change_143 : decode cX10_change 143 = .ok (.iconst 0, 1) := by decide +kernel
theorem dX10_change_144 : decode cX10_change 144 = .ok (.putfield 125, 3) := by decide +kernel
theorem dX10_change_147 : decode cX10_change 147 = .ok (.aload_n 0, 1) := by decide +kernel
theorem dX10_change_148 : decode cX10_change 148 = .ok (.getfield 7, 3) := by decide +kernel
theorem dX10_change_151 : decode cX10_change 151 = .ok (.iload_n 2, 1) := by decide +kernel
theorem dX10_change_152 : decode cX10_change 152 = .ok (.iconst 1, 1) := by decide +kernel
theorem dX10_change_153 : decode cX10_change 153 = .ok (.iadd, 1) := by decide +kernel
theorem dX10_change_154 : decode cX10_change 154 = .ok (.iaload, 1) := by decide +kernel
theorem dX10_change_155 : decode cX10_change 155 = .ok (.ireturn, 1) := by decide +kernel
theorem dX10_undo_0 : decode cX10_undo 0 = .ok (.aload_n 0, 1) := by decide +kernel
theorem dX10_undo_1 : decode cX10_undo 1 = .ok (.iconst 0, 1) := by decide +kernel
theorem dX10_undo_2 : decode cX10_undo 2 = .ok (.putfield 34, 3) := by decide +kernel
theorem dX10_undo_5 : decode cX10_undo 5 = .ok (.aload_n 0, 1) := by decide +kernel
theorem dX10_undo_6 : decode cX10_undo 6 = .ok (.getfield 38, 3) := by decide +kernel
theorem dX10_undo_9 : decode cX10_undo 9 = .ok (.ifCond .ne 9, 3) := by decide +kernel
theorem dX10_undo_12 : decode cX10_undo 12 = .ok (.aload_n 0, 1) := by decide +kernel
theorem dX10_undo_13 : decode cX10_undo 13 = .ok (.iconst 1, 1) := by decide +kernel
theorem dX10_undo_14 : decode cX10_undo 14 = .ok (.invokevirtual 95, 3) := by decide +kernel
theorem dX10_undo_17 : decode cX10_undo 17 = .ok (.ireturn, 1) := by decide +kernel
theorem dX10_undo_18 : decode cX10_undo 18 = .ok (.aload_n 0, 1) := by decide +kernel
theorem dX10_undo_19 : decode cX10_undo 19 = .ok (.dup, 1) := by decide +kernel
theorem dX10_undo_20 : decode cX10_undo 20 = .ok (.getfield 38, 3) := by decide +kernel
theorem dX10_undo_23 : decode cX10_undo 23 = .ok (.iconst 1, 1) := by decide +kernel
theorem dX10_undo_24 : decode cX10_undo 24 = .ok (.isub, 1) := by decide +kernel
theorem dX10_undo_25 : decode cX10_undo 25 = .ok (.putfield 38, 3) := by decide +kernel
theorem dX10_undo_28 : decode cX10_undo 28 = .ok (.iconst 0, 1) := by decide +kernel
theorem dX10_undo_29 : decode cX10_undo 29 = .ok (.istore_n 1, 1) := by decide +kernel
theorem dX10_undo_30 : decode cX10_undo 30 = .ok (.iload_n 1, 1) := by decide +kernel
theorem dX10_undo_31 : decode cX10_undo 31 = .ok (.sipush 689, 3) := by decide +kernel
theorem dX10_undo_34 : decode cX10_undo 34 = .ok (.if_icmp .ge 30, 3) := by decide +kernel
theorem dX10_undo_37 : decode cX10_undo 37 = .ok (.aload_n 0, 1) := by decide +kernel
theorem dX10_undo_38 : decode cX10_undo 38 = .ok (.getfield 7, 3) := by decide +kernel
theorem dX10_undo_41 : decode cX10_undo 41 = .ok (.iload_n 1, 1) := by decide +kernel
theorem dX10_undo_42 : decode cX10_undo 42 = .ok (.aload_n 0, 1) := by decide +kernel
theorem dX10_undo_43 : decode cX10_undo 43 = .ok (.getfield 13, 3) := by decide +kernel
theorem dX10_undo_46 : decode cX10_undo 46 = .ok (.sipush 689, 3) := by decide +kernel
theorem dX10_undo_49 : decode cX10_undo 49 = .ok (.aload_n 0, 1) := by decide +kernel
theorem dX10_undo_50 : decode cX10_undo 50 = .ok (.getfield 38, 3) := by decide +kernel
theorem dX10_undo_53 : decode cX10_undo 53 = .ok (.imul, 1) := by decide +kernel
theorem dX10_undo_54 : decode cX10_undo 54 = .ok (.iload_n 1, 1) := by decide +kernel
theorem dX10_undo_55 : decode cX10_undo 55 = .ok (.iadd, 1) := by decide +kernel
theorem dX10_undo_56 : decode cX10_undo 56 = .ok (.iaload, 1) := by decide +kernel
theorem dX10_undo_57 : decode cX10_undo 57 = .ok (.iastore, 1) := by decide +kernel
theorem dX10_undo_58 : decode cX10_undo 58 = .ok (.iinc 1 1, 3) := by decide +kernel
theorem dX10_undo_61 : decode cX10_undo 61 = .ok (.goto (-31), 3) := by decide +kernel
theorem dX10_undo_64 : decode cX10_undo 64 = .ok (.aload_n 0, 1) := by decide +kernel
theorem dX10_undo_65 : decode cX10_undo 65 = .ok (.getfield 38, 3) := by decide +kernel
theorem dX10_undo_68 : decode cX10_undo 68 = .ok (.ireturn, 1) := by decide +kernel
theorem dX10_segmentOf_0 : decode cX10_segmentOf 0 = .ok (.iload_n 1, 1) := by decide +kernel
theorem dX10_segmentOf_1 : decode cX10_segmentOf 1 = .ok (.invokestatic 45, 3) := by decide +kernel
theorem dX10_segmentOf_4 : decode cX10_segmentOf 4 = .ok (.istore_n 3, 1) := by decide +kernel
theorem dX10_segmentOf_5 : decode cX10_segmentOf 5 = .ok (.aload_n 0, 1) := by decide +kernel
theorem dX10_segmentOf_6 : decode cX10_segmentOf 6 = .ok (.getfield 7, 3) := by decide +kernel
theorem dX10_segmentOf_9 : decode cX10_segmentOf 9 = .ok (.iload_n 3, 1) := by decide +kernel
theorem dX10_segmentOf_10 : decode cX10_segmentOf 10 = .ok (.iconst 1, 1) := by decide +kernel
theorem dX10_segmentOf_11 : decode cX10_segmentOf 11 = .ok (.iadd, 1) := by decide +kernel
theorem dX10_segmentOf_12 : decode cX10_segmentOf 12 = .ok (.iaload, 1) := by decide +kernel
theorem dX10_segmentOf_13 : decode cX10_segmentOf 13 = .ok (.ifCond .ne 7, 3) := by decide +kernel
theorem dX10_segmentOf_16 : decode cX10_segmentOf 16 = .ok (.iconst 1, 1) := by decide +kernel
theorem dX10_segmentOf_17 : decode cX10_segmentOf 17 = .ok (.goto 4, 3) := by decide +kernel
theorem dX10_segmentOf_20 : decode cX10_segmentOf 20 = .ok (.iconst 0, 1) := by decide +kernel
theorem dX10_segmentOf_21 : decode cX10_segmentOf 21 = .ok (.istore 4, 2) := by decide +kernel
theorem dX10_segmentOf_23 : decode cX10_segmentOf 23 = .ok (.iload_n 2, 1) := by decide +kernel
theorem dX10_segmentOf_24 : decode cX10_segmentOf 24 = .ok (.tableswitch 130 0 10 #[60, 60, 69, 87, 93, 99, 99, 119, 119, 119, 119], 60) := by decide +kernel
theorem dX10_segmentOf_84 : decode cX10_segmentOf 84 = .ok (.aload_n 0, 1) := by decide +kernel
theorem dX10_segmentOf_85 : decode cX10_segmentOf 85 = .ok (.getfield 7, 3) := by decide +kernel
theorem dX10_segmentOf_88 : decode cX10_segmentOf 88 = .ok (.iload_n 3, 1) := by decide +kernel
theorem dX10_segmentOf_89 : decode cX10_segmentOf 89 = .ok (.iload_n 2, 1) := by decide +kernel
theorem dX10_segmentOf_90 : decode cX10_segmentOf 90 = .ok (.iadd, 1) := by decide +kernel
theorem dX10_segmentOf_91 : decode cX10_segmentOf 91 = .ok (.iaload, 1) := by decide +kernel
theorem dX10_segmentOf_92 : decode cX10_segmentOf 92 = .ok (.ireturn, 1) := by decide +kernel
theorem dX10_segmentOf_93 : decode cX10_segmentOf 93 = .ok (.iload 4, 2) := by decide +kernel
theorem dX10_segmentOf_95 : decode cX10_segmentOf 95 = .ok (.ifCond .eq 7, 3) := by decide +kernel
theorem dX10_segmentOf_98 : decode cX10_segmentOf 98 = .ok (.iconst (-1), 1) := by decide +kernel
theorem dX10_segmentOf_99 : decode cX10_segmentOf 99 = .ok (.goto 11, 3) := by decide +kernel
theorem dX10_segmentOf_102 : decode cX10_segmentOf 102 = .ok (.aload_n 0, 1) := by decide +kernel
theorem dX10_segmentOf_103 : decode cX10_segmentOf 103 = .ok (.getfield 7, 3) := by decide +kernel
theorem dX10_segmentOf_106 : decode cX10_segmentOf 106 = .ok (.iload_n 3, 1) := by decide +kernel
theorem dX10_segmentOf_107 : decode cX10_segmentOf 107 = .ok (.iconst 2, 1) := by decide +kernel
theorem dX10_segmentOf_108 : decode cX10_segmentOf 108 = .ok (.iadd, 1) := by decide +kernel
theorem dX10_segmentOf_109 : decode cX10_segmentOf 109 = .ok (.iaload, 1) := by decide +kernel
theorem dX10_segmentOf_110 : decode cX10_segmentOf 110 = .ok (.ireturn, 1) := by decide +kernel
theorem dX10_segmentOf_111 : decode cX10_segmentOf 111 = .ok (.aload_n 0, 1) := by decide +kernel
theorem dX10_segmentOf_112 : decode cX10_segmentOf 112 = .ok (.iload_n 1, 1) := by decide +kernel
theorem dX10_segmentOf_113 : decode cX10_segmentOf 113 = .ok (.invokevirtual 75, 3) := by decide +kernel
theorem dX10_segmentOf_116 : decode cX10_segmentOf 116 = .ok (.ireturn, 1) := by decide +kernel
theorem dX10_segmentOf_117 : decode cX10_segmentOf 117 = .ok (.aload_n 0, 1) := by decide +kernel
theorem dX10_segmentOf_118 : decode cX10_segmentOf 118 = .ok (.iload_n 1, 1) := by decide +kernel
theorem dX10_segmentOf_119 : decode cX10_segmentOf 119 = .ok (.invokevirtual 72, 3) := by decide +kernel
theorem dX10_segmentOf_122 : decode cX10_segmentOf 122 = .ok (.ireturn, 1) := by decide +kernel
theorem dX10_segmentOf_123 : decode cX10_segmentOf 123 = .ok (.iload 4, 2) := by decide +kernel
theorem dX10_segmentOf_125 : decode cX10_segmentOf 125 = .ok (.ifCond .eq 7, 3) := by decide +kernel
theorem dX10_segmentOf_128 : decode cX10_segmentOf 128 = .ok (.iconst (-1), 1) := by decide +kernel
theorem dX10_segmentOf_129 : decode cX10_segmentOf 129 = .ok (.goto 13, 3) := by decide +kernel
theorem dX10_segmentOf_132 : decode cX10_segmentOf 132 = .ok (.aload_n 0, 1) := by decide +kernel
theorem dX10_segmentOf_133 : decode cX10_segmentOf 133 = .ok (.getfield 7, 3) := by decide +kernel
theorem dX10_segmentOf_136 : decode cX10_segmentOf 136 = .ok (.iload_n 3, 1) := by decide +kernel
theorem dX10_segmentOf_137 : decode cX10_segmentOf 137 = .ok (.iload_n 2, 1) := by decide +kernel
theorem dX10_segmentOf_138 : decode cX10_segmentOf 138 = .ok (.iadd, 1) := by decide +kernel
theorem dX10_segmentOf_139 : decode cX10_segmentOf 139 = .ok (.iconst 2, 1) := by decide +kernel
theorem dX10_segmentOf_140 : decode cX10_segmentOf 140 = .ok (.isub, 1) := by decide +kernel
theorem dX10_segmentOf_141 : decode cX10_segmentOf 141 = .ok (.iaload, 1) := by decide +kernel
theorem dX10_segmentOf_142 : decode cX10_segmentOf 142 = .ok (.ireturn, 1) := by decide +kernel
theorem dX10_segmentOf_143 : decode cX10_segmentOf 143 = .ok (.aload_n 0, 1) := by decide +kernel
theorem dX10_segmentOf_144 : decode cX10_segmentOf 144 = .ok (.getfield 7, 3) := by decide +kernel
theorem dX10_segmentOf_147 : decode cX10_segmentOf 147 = .ok (.iload_n 3, 1) := by decide +kernel
theorem dX10_segmentOf_148 : decode cX10_segmentOf 148 = .ok (.iload_n 2, 1) := by decide +kernel
theorem dX10_segmentOf_149 : decode cX10_segmentOf 149 = .ok (.iadd, 1) := by decide +kernel
theorem dX10_segmentOf_150 : decode cX10_segmentOf 150 = .ok (.iconst 2, 1) := by decide +kernel
theorem dX10_segmentOf_151 : decode cX10_segmentOf 151 = .ok (.isub, 1) := by decide +kernel
theorem dX10_segmentOf_152 : decode cX10_segmentOf 152 = .ok (.iaload, 1) := by decide +kernel
theorem dX10_segmentOf_153 : decode cX10_segmentOf 153 = .ok (.ireturn, 1) := by decide +kernel
theorem dX10_segmentOf_154 : decode cX10_segmentOf 154 = .ok (.aload_n 0, 1) := by decide +kernel
theorem dX10_segmentOf_155 : decode cX10_segmentOf 155 = .ok (.iload_n 1, 1) := by decide +kernel
theorem dX10_segmentOf_156 : decode cX10_segmentOf 156 = .ok (.invokevirtual 113, 3) := by decide +kernel
theorem dX10_segmentOf_159 : decode cX10_segmentOf 159 = .ok (.ifCond .eq 7, 3) := by decide +kernel
theorem dX10_segmentOf_162 : decode cX10_segmentOf 162 = .ok (.iconst 1, 1) := by decide +kernel
theorem dX10_segmentOf_163 : decode cX10_segmentOf 163 = .ok (.goto 4, 3) := by decide +kernel
theorem dX10_segmentOf_166 : decode cX10_segmentOf 166 = .ok (.iconst 0, 1) := by decide +kernel
theorem dX10_segmentOf_167 : decode cX10_segmentOf 167 = .ok (.ireturn, 1) := by decide +kernel
theorem dX10_segment_0 : decode cX10_segment 0 = .ok (.aload_n 0, 1) := by decide +kernel
theorem dX10_segment_1 : decode cX10_segment 1 = .ok (.iconst 0, 1) := by decide +kernel
theorem dX10_segment_2 : decode cX10_segment 2 = .ok (.putfield 34, 3) := by decide +kernel
theorem dX10_segment_5 : decode cX10_segment 5 = .ok (.aload_n 0, 1) := by decide +kernel
theorem dX10_segment_6 : decode cX10_segment 6 = .ok (.iload_n 1, 1) := by decide +kernel
theorem dX10_segment_7 : decode cX10_segment 7 = .ok (.invokevirtual 107, 3) := by decide +kernel
theorem dX10_segment_10 : decode cX10_segment 10 = .ok (.ifCond .ne 9, 3) := by decide +kernel
theorem dX10_segment_13 : decode cX10_segment 13 = .ok (.aload_n 0, 1) := by decide +kernel
theorem dX10_segment_14 : decode cX10_segment 14 = .ok (.iconst 1, 1) := by decide +kernel
theorem dX10_segment_15 : decode cX10_segment 15 = .ok (.invokevirtual 95, 3) := by decide +kernel
theorem dX10_segment_18 : decode cX10_segment 18 = .ok (.ireturn, 1) := by decide +kernel
theorem dX10_segment_19 : decode cX10_segment 19 = .ok (.iload_n 2, 1) := by decide +kernel
theorem dX10_segment_20 : decode cX10_segment 20 = .ok (.iconst 0, 1) := by decide +kernel
theorem dX10_segment_21 : decode cX10_segment 21 = .ok (.bipush 11, 2) := by decide +kernel
theorem dX10_segment_23 : decode cX10_segment 23 = .ok (.invokestatic 41, 3) := by decide +kernel
theorem dX10_segment_26 : decode cX10_segment 26 = .ok (.ifCond .eq 12, 3) := by decide +kernel
theorem dX10_segment_29 : decode cX10_segment 29 = .ok (.aload_n 0, 1) := by decide +kernel
theorem dX10_segment_30 : decode cX10_segment 30 = .ok (.iload_n 1, 1) := by decide +kernel
theorem dX10_segment_31 : decode cX10_segment 31 = .ok (.iload_n 2, 1) := by decide +kernel
theorem dX10_segment_32 : decode cX10_segment 32 = .ok (.invokevirtual 148, 3) := by decide +kernel
theorem dX10_segment_35 : decode cX10_segment 35 = .ok (.goto 8, 3) := by decide +kernel
theorem dX10_segment_38 : decode cX10_segment 38 = .ok (.aload_n 0, 1) := by decide +kernel
theorem dX10_segment_39 : decode cX10_segment 39 = .ok (.iconst 2, 1) := by decide +kernel
theorem dX10_segment_40 : decode cX10_segment 40 = .ok (.invokevirtual 95, 3) := by decide +kernel
theorem dX10_segment_43 : decode cX10_segment 43 = .ok (.ireturn, 1) := by decide +kernel
theorem dX10_wordOf_0 : decode cX10_wordOf 0 = .ok (.iload_n 2, 1) := by decide +kernel
theorem dX10_wordOf_1 : decode cX10_wordOf 1 = .ok (.aload_n 0, 1) := by decide +kernel
theorem dX10_wordOf_2 : decode cX10_wordOf 2 = .ok (.getfield 7, 3) := by decide +kernel
theorem dX10_wordOf_5 : decode cX10_wordOf 5 = .ok (.iload_n 1, 1) := by decide +kernel
theorem dX10_wordOf_6 : decode cX10_wordOf 6 = .ok (.invokestatic 45, 3) := by decide +kernel
theorem dX10_wordOf_9 : decode cX10_wordOf 9 = .ok (.iaload, 1) := by decide +kernel
theorem dX10_wordOf_10 : decode cX10_wordOf 10 = .ok (.if_icmp .ge 20, 3) := by decide +kernel
theorem dX10_wordOf_13 : decode cX10_wordOf 13 = .ok (.aload_n 0, 1) := by decide +kernel
theorem dX10_wordOf_14 : decode cX10_wordOf 14 = .ok (.getfield 7, 3) := by decide +kernel
theorem dX10_wordOf_17 : decode cX10_wordOf 17 = .ok (.iload_n 1, 1) := by decide +kernel
theorem dX10_wordOf_18 : decode cX10_wordOf 18 = .ok (.invokestatic 45, 3) := by decide +kernel
theorem dX10_wordOf_21 : decode cX10_wordOf 21 = .ok (.bipush 10, 2) := by decide +kernel
theorem dX10_wordOf_23 : decode cX10_wordOf 23 = .ok (.iadd, 1) := by decide +kernel
theorem dX10_wordOf_24 : decode cX10_wordOf 24 = .ok (.iload_n 2, 1) := by decide +kernel
theorem dX10_wordOf_25 : decode cX10_wordOf 25 = .ok (.iadd, 1) := by decide +kernel
theorem dX10_wordOf_26 : decode cX10_wordOf 26 = .ok (.iaload, 1) := by decide +kernel
theorem dX10_wordOf_27 : decode cX10_wordOf 27 = .ok (.goto 4, 3) := by decide +kernel
theorem dX10_wordOf_30 : decode cX10_wordOf 30 = .ok (.iconst (-1), 1) := by decide +kernel
theorem dX10_wordOf_31 : decode cX10_wordOf 31 = .ok (.ireturn, 1) := by decide +kernel
theorem dX10_word_0 : decode cX10_word 0 = .ok (.aload_n 0, 1) := by decide +kernel
theorem dX10_word_1 : decode cX10_word 1 = .ok (.iconst 0, 1) := by decide +kernel
theorem dX10_word_2 : decode cX10_word 2 = .ok (.putfield 34, 3) := by decide +kernel
theorem dX10_word_5 : decode cX10_word 5 = .ok (.aload_n 0, 1) := by decide +kernel
theorem dX10_word_6 : decode cX10_word 6 = .ok (.iload_n 1, 1) := by decide +kernel
theorem dX10_word_7 : decode cX10_word 7 = .ok (.invokevirtual 107, 3) := by decide +kernel
theorem dX10_word_10 : decode cX10_word 10 = .ok (.ifCond .ne 9, 3) := by decide +kernel
theorem dX10_word_13 : decode cX10_word 13 = .ok (.aload_n 0, 1) := by decide +kernel
theorem dX10_word_14 : decode cX10_word 14 = .ok (.iconst 1, 1) := by decide +kernel
theorem dX10_word_15 : decode cX10_word 15 = .ok (.invokevirtual 95, 3) := by decide +kernel
theorem dX10_word_18 : decode cX10_word 18 = .ok (.ireturn, 1) := by decide +kernel
theorem dX10_word_19 : decode cX10_word 19 = .ok (.iload_n 2, 1) := by decide +kernel
theorem dX10_word_20 : decode cX10_word 20 = .ok (.iconst 0, 1) := by decide +kernel
theorem dX10_word_21 : decode cX10_word 21 = .ok (.bipush 11, 2) := by decide +kernel
theorem dX10_word_23 : decode cX10_word 23 = .ok (.invokestatic 41, 3) := by decide +kernel
theorem dX10_word_26 : decode cX10_word 26 = .ok (.ifCond .eq 12, 3) := by decide +kernel
theorem dX10_word_29 : decode cX10_word 29 = .ok (.aload_n 0, 1) := by decide +kernel
theorem dX10_word_30 : decode cX10_word 30 = .ok (.iload_n 1, 1) := by decide +kernel
theorem dX10_word_31 : decode cX10_word 31 = .ok (.iload_n 2, 1) := by decide +kernel
theorem dX10_word_32 : decode cX10_word 32 = .ok (.invokevirtual 151, 3) := by decide +kernel
theorem dX10_word_35 : decode cX10_word 35 = .ok (.goto 8, 3) := by decide +kernel
theorem dX10_word_38 : decode cX10_word 38 = .ok (.aload_n 0, 1) := by decide +kernel
theorem dX10_word_39 : decode cX10_word 39 = .ok (.iconst 2, 1) := by decide +kernel
theorem dX10_word_40 : decode cX10_word 40 = .ok (.invokevirtual 95, 3) := by decide +kernel
theorem dX10_word_43 : decode cX10_word 43 = .ok (.ireturn, 1) := by decide +kernel
theorem dX10_remembered_0 : decode cX10_remembered 0 = .ok (.aload_n 0, 1) := by decide +kernel
theorem dX10_remembered_1 : decode cX10_remembered 1 = .ok (.iconst 0, 1) := by decide +kernel
theorem dX10_remembered_2 : decode cX10_remembered 2 = .ok (.putfield 34, 3) := by decide +kernel
theorem dX10_remembered_5 : decode cX10_remembered 5 = .ok (.iload_n 1, 1) := by decide +kernel
theorem dX10_remembered_6 : decode cX10_remembered 6 = .ok (.iconst 0, 1) := by decide +kernel
theorem dX10_remembered_7 : decode cX10_remembered 7 = .ok (.aload_n 0, 1) := by decide +kernel
theorem dX10_remembered_8 : decode cX10_remembered 8 = .ok (.getfield 7, 3) := by decide +kernel
theorem dX10_remembered_11 : decode cX10_remembered 11 = .ok (.iconst 1, 1) := by decide +kernel
theorem dX10_remembered_12 : decode cX10_remembered 12 = .ok (.iaload, 1) := by decide +kernel
theorem dX10_remembered_13 : decode cX10_remembered 13 = .ok (.iconst 1, 1) := by decide +kernel
theorem dX10_remembered_14 : decode cX10_remembered 14 = .ok (.isub, 1) := by decide +kernel
theorem dX10_remembered_15 : decode cX10_remembered 15 = .ok (.invokestatic 41, 3) := by decide +kernel
theorem dX10_remembered_18 : decode cX10_remembered 18 = .ok (.ifCond .ne 9, 3) := by decide +kernel
theorem dX10_remembered_21 : decode cX10_remembered 21 = .ok (.aload_n 0, 1) := by decide +kernel
theorem dX10_remembered_22 : decode cX10_remembered 22 = .ok (.iconst 1, 1) := by decide +kernel
theorem dX10_remembered_23 : decode cX10_remembered 23 = .ok (.invokevirtual 95, 3) := by decide +kernel
theorem dX10_remembered_26 : decode cX10_remembered 26 = .ok (.ireturn, 1) := by decide +kernel
theorem dX10_remembered_27 : decode cX10_remembered 27 = .ok (.iload_n 2, 1) := by decide +kernel
theorem dX10_remembered_28 : decode cX10_remembered 28 = .ok (.iconst 0, 1) := by decide +kernel
theorem dX10_remembered_29 : decode cX10_remembered 29 = .ok (.bipush 11, 2) := by decide +kernel
theorem dX10_remembered_31 : decode cX10_remembered 31 = .ok (.invokestatic 41, 3) := by decide +kernel
theorem dX10_remembered_34 : decode cX10_remembered 34 = .ok (.ifCond .ne 9, 3) := by decide +kernel
theorem dX10_remembered_37 : decode cX10_remembered 37 = .ok (.aload_n 0, 1) := by decide +kernel
theorem dX10_remembered_38 : decode cX10_remembered 38 = .ok (.iconst 2, 1) := by decide +kernel
theorem dX10_remembered_39 : decode cX10_remembered 39 = .ok (.invokevirtual 95, 3) := by decide +kernel
theorem dX10_remembered_42 : decode cX10_remembered 42 = .ok (.ireturn, 1) := by decide +kernel
theorem dX10_remembered_43 : decode cX10_remembered 43 = .ok (.iload_n 2, 1) := by decide +kernel
theorem dX10_remembered_44 : decode cX10_remembered 44 = .ok (.aload_n 0, 1) := by decide +kernel
theorem dX10_remembered_45 : decode cX10_remembered 45 = .ok (.getfield 7, 3) := by decide +kernel
theorem dX10_remembered_48 : decode cX10_remembered 48 = .ok (.iload_n 1, 1) := by decide +kernel
theorem dX10_remembered_49 : decode cX10_remembered 49 = .ok (.invokestatic 55, 3) := by decide +kernel
theorem dX10_remembered_52 : decode cX10_remembered 52 = .ok (.iaload, 1) := by decide +kernel
theorem dX10_remembered_53 : decode cX10_remembered 53 = .ok (.if_icmp .ge 19, 3) := by decide +kernel
theorem dX10_remembered_56 : decode cX10_remembered 56 = .ok (.aload_n 0, 1) := by decide +kernel
theorem dX10_remembered_57 : decode cX10_remembered 57 = .ok (.getfield 7, 3) := by decide +kernel
theorem dX10_remembered_60 : decode cX10_remembered 60 = .ok (.iload_n 1, 1) := by decide +kernel
theorem dX10_remembered_61 : decode cX10_remembered 61 = .ok (.invokestatic 55, 3) := by decide +kernel
theorem dX10_remembered_64 : decode cX10_remembered 64 = .ok (.iconst 1, 1) := by decide +kernel
theorem dX10_remembered_65 : decode cX10_remembered 65 = .ok (.iadd, 1) := by decide +kernel
theorem dX10_remembered_66 : decode cX10_remembered 66 = .ok (.iload_n 2, 1) := by decide +kernel
theorem dX10_remembered_67 : decode cX10_remembered 67 = .ok (.iadd, 1) := by decide +kernel
theorem dX10_remembered_68 : decode cX10_remembered 68 = .ok (.iaload, 1) := by decide +kernel
theorem dX10_remembered_69 : decode cX10_remembered 69 = .ok (.goto 4, 3) := by decide +kernel
theorem dX10_remembered_72 : decode cX10_remembered 72 = .ok (.iconst (-1), 1) := by decide +kernel
theorem dX10_remembered_73 : decode cX10_remembered 73 = .ok (.ireturn, 1) := by decide +kernel
theorem dX10_assignedTo_0 : decode cX10_assignedTo 0 = .ok (.iconst 0, 1) := by decide +kernel
theorem dX10_assignedTo_1 : decode cX10_assignedTo 1 = .ok (.istore_n 2, 1) := by decide +kernel
theorem dX10_assignedTo_2 : decode cX10_assignedTo 2 = .ok (.iconst 0, 1) := by decide +kernel
theorem dX10_assignedTo_3 : decode cX10_assignedTo 3 = .ok (.istore_n 3, 1) := by decide +kernel
theorem dX10_assignedTo_4 : decode cX10_assignedTo 4 = .ok (.iload_n 3, 1) := by decide +kernel
theorem dX10_assignedTo_5 : decode cX10_assignedTo 5 = .ok (.aload_n 0, 1) := by decide +kernel
theorem dX10_assignedTo_6 : decode cX10_assignedTo 6 = .ok (.getfield 7, 3) := by decide +kernel
theorem dX10_assignedTo_9 : decode cX10_assignedTo 9 = .ok (.iconst 0, 1) := by decide +kernel
theorem dX10_assignedTo_10 : decode cX10_assignedTo 10 = .ok (.iaload, 1) := by decide +kernel
theorem dX10_assignedTo_11 : decode cX10_assignedTo 11 = .ok (.if_icmp .ge 47, 3) := by decide +kernel
theorem dX10_assignedTo_14 : decode cX10_assignedTo 14 = .ok (.iload_n 2, 1) := by decide +kernel
theorem dX10_assignedTo_15 : decode cX10_assignedTo 15 = .ok (.aload_n 0, 1) := by decide +kernel
theorem dX10_assignedTo_16 : decode cX10_assignedTo 16 = .ok (.getfield 7, 3) := by decide +kernel
theorem dX10_assignedTo_19 : decode cX10_assignedTo 19 = .ok (.iload_n 3, 1) := by decide +kernel
theorem dX10_assignedTo_20 : decode cX10_assignedTo 20 = .ok (.invokestatic 45, 3) := by decide +kernel
theorem dX10_assignedTo_23 : decode cX10_assignedTo 23 = .ok (.iconst 1, 1) := by decide +kernel
theorem dX10_assignedTo_24 : decode cX10_assignedTo 24 = .ok (.iadd, 1) := by decide +kernel
theorem dX10_assignedTo_25 : decode cX10_assignedTo 25 = .ok (.iaload, 1) := by decide +kernel
theorem dX10_assignedTo_26 : decode cX10_assignedTo 26 = .ok (.iconst 1, 1) := by decide +kernel
theorem dX10_assignedTo_27 : decode cX10_assignedTo 27 = .ok (.if_icmp .ne 22, 3) := by decide +kernel
theorem dX10_assignedTo_30 : decode cX10_assignedTo 30 = .ok (.aload_n 0, 1) := by decide +kernel
theorem dX10_assignedTo_31 : decode cX10_assignedTo 31 = .ok (.getfield 7, 3) := by decide +kernel
theorem dX10_assignedTo_34 : decode cX10_assignedTo 34 = .ok (.iload_n 3, 1) := by decide +kernel
theorem dX10_assignedTo_35 : decode cX10_assignedTo 35 = .ok (.invokestatic 45, 3) := by decide +kernel
theorem dX10_assignedTo_38 : decode cX10_assignedTo 38 = .ok (.iconst 2, 1) := by decide +kernel
theorem dX10_assignedTo_39 : decode cX10_assignedTo 39 = .ok (.iadd, 1) := by decide +kernel
theorem dX10_assignedTo_40 : decode cX10_assignedTo 40 = .ok (.iaload, 1) := by decide +kernel
theorem dX10_assignedTo_41 : decode cX10_assignedTo 41 = .ok (.iload_n 1, 1) := by decide +kernel
theorem dX10_assignedTo_42 : decode cX10_assignedTo 42 = .ok (.if_icmp .ne 7, 3) := by decide +kernel
theorem dX10_assignedTo_45 : decode cX10_assignedTo 45 = .ok (.iconst 1, 1) := by decide +kernel
theorem dX10_assignedTo_46 : decode cX10_assignedTo 46 = .ok (.goto 4, 3) := by decide +kernel
theorem dX10_assignedTo_49 : decode cX10_assignedTo 49 = .ok (.iconst 0, 1) := by decide +kernel
theorem dX10_assignedTo_50 : decode cX10_assignedTo 50 = .ok (.iadd, 1) := by decide +kernel
theorem dX10_assignedTo_51 : decode cX10_assignedTo 51 = .ok (.istore_n 2, 1) := by decide +kernel
theorem dX10_assignedTo_52 : decode cX10_assignedTo 52 = .ok (.iinc 3 1, 3) := by decide +kernel
theorem dX10_assignedTo_55 : decode cX10_assignedTo 55 = .ok (.goto (-51), 3) := by decide +kernel
theorem dX10_assignedTo_58 : decode cX10_assignedTo 58 = .ok (.iload_n 2, 1) := by decide +kernel
theorem dX10_assignedTo_59 : decode cX10_assignedTo 59 = .ok (.ireturn, 1) := by decide +kernel
theorem dX10_proposals_0 : decode cX10_proposals 0 = .ok (.iconst 0, 1) := by decide +kernel
theorem dX10_proposals_1 : decode cX10_proposals 1 = .ok (.istore_n 2, 1) := by decide +kernel
theorem dX10_proposals_2 : decode cX10_proposals 2 = .ok (.iconst 0, 1) := by decide +kernel
theorem dX10_proposals_3 : decode cX10_proposals 3 = .ok (.istore_n 3, 1) := by decide +kernel
theorem dX10_proposals_4 : decode cX10_proposals 4 = .ok (.iload_n 3, 1) := by decide +kernel
theorem dX10_proposals_5 : decode cX10_proposals 5 = .ok (.bipush 8, 2) := by decide +kernel
theorem dX10_proposals_7 : decode cX10_proposals 7 = .ok (.if_icmp .ge 31, 3) := by decide +kernel
theorem dX10_proposals_10 : decode cX10_proposals 10 = .ok (.iload_n 2, 1) := by decide +kernel
theorem dX10_proposals_11 : decode cX10_proposals 11 = .ok (.aload_n 0, 1) := by decide +kernel
theorem dX10_proposals_12 : decode cX10_proposals 12 = .ok (.getfield 7, 3) := by decide +kernel
theorem dX10_proposals_15 : decode cX10_proposals 15 = .ok (.iload_n 3, 1) := by decide +kernel
theorem dX10_proposals_16 : decode cX10_proposals 16 = .ok (.iload_n 1, 1) := by decide +kernel
theorem dX10_proposals_17 : decode cX10_proposals 17 = .ok (.invokestatic 84, 3) := by decide +kernel
theorem dX10_proposals_20 : decode cX10_proposals 20 = .ok (.iaload, 1) := by decide +kernel
theorem dX10_proposals_21 : decode cX10_proposals 21 = .ok (.iconst (-1), 1) := by decide +kernel
theorem dX10_proposals_22 : decode cX10_proposals 22 = .ok (.if_icmp .eq 7, 3) := by decide +kernel
theorem dX10_proposals_25 : decode cX10_proposals 25 = .ok (.iconst 1, 1) := by decide +kernel
theorem dX10_proposals_26 : decode cX10_proposals 26 = .ok (.goto 4, 3) := by decide +kernel
theorem dX10_proposals_29 : decode cX10_proposals 29 = .ok (.iconst 0, 1) := by decide +kernel
theorem dX10_proposals_30 : decode cX10_proposals 30 = .ok (.iadd, 1) := by decide +kernel
theorem dX10_proposals_31 : decode cX10_proposals 31 = .ok (.istore_n 2, 1) := by decide +kernel
theorem dX10_proposals_32 : decode cX10_proposals 32 = .ok (.iinc 3 1, 3) := by decide +kernel
theorem dX10_proposals_35 : decode cX10_proposals 35 = .ok (.goto (-31), 3) := by decide +kernel
theorem dX10_proposals_38 : decode cX10_proposals 38 = .ok (.iload_n 2, 1) := by decide +kernel
theorem dX10_proposals_39 : decode cX10_proposals 39 = .ok (.ireturn, 1) := by decide +kernel
theorem dX10_personOf_0 : decode cX10_personOf 0 = .ok (.iload_n 2, 1) := by decide +kernel
theorem dX10_personOf_1 : decode cX10_personOf 1 = .ok (.iconst 2, 1) := by decide +kernel
theorem dX10_personOf_2 : decode cX10_personOf 2 = .ok (.if_icmp .ne 9, 3) := by decide +kernel
theorem dX10_personOf_5 : decode cX10_personOf 5 = .ok (.aload_n 0, 1) := by decide +kernel
theorem dX10_personOf_6 : decode cX10_personOf 6 = .ok (.iload_n 1, 1) := by decide +kernel
theorem dX10_personOf_7 : decode cX10_personOf 7 = .ok (.invokevirtual 154, 3) := by decide +kernel
theorem dX10_personOf_10 : decode cX10_personOf 10 = .ok (.ireturn, 1) := by decide +kernel
theorem dX10_personOf_11 : decode cX10_personOf 11 = .ok (.iload_n 2, 1) := by decide +kernel
theorem dX10_personOf_12 : decode cX10_personOf 12 = .ok (.bipush 6, 2) := by decide +kernel
theorem dX10_personOf_14 : decode cX10_personOf 14 = .ok (.if_icmp .ne 9, 3) := by decide +kernel
theorem dX10_personOf_17 : decode cX10_personOf 17 = .ok (.aload_n 0, 1) := by decide +kernel
theorem dX10_personOf_18 : decode cX10_personOf 18 = .ok (.iload_n 1, 1) := by decide +kernel
theorem dX10_personOf_19 : decode cX10_personOf 19 = .ok (.invokevirtual 157, 3) := by decide +kernel
theorem dX10_personOf_22 : decode cX10_personOf 22 = .ok (.ireturn, 1) := by decide +kernel
theorem dX10_personOf_23 : decode cX10_personOf 23 = .ok (.aload_n 0, 1) := by decide +kernel
theorem dX10_personOf_24 : decode cX10_personOf 24 = .ok (.getfield 7, 3) := by decide +kernel
theorem dX10_personOf_27 : decode cX10_personOf 27 = .ok (.iload_n 1, 1) := by decide +kernel
theorem dX10_personOf_28 : decode cX10_personOf 28 = .ok (.invokestatic 101, 3) := by decide +kernel
theorem dX10_personOf_31 : decode cX10_personOf 31 = .ok (.iload_n 2, 1) := by decide +kernel
theorem dX10_personOf_32 : decode cX10_personOf 32 = .ok (.iconst 2, 1) := by decide +kernel
theorem dX10_personOf_33 : decode cX10_personOf 33 = .ok (.if_icmp .ge 7, 3) := by decide +kernel
theorem dX10_personOf_36 : decode cX10_personOf 36 = .ok (.iload_n 2, 1) := by decide +kernel
theorem dX10_personOf_37 : decode cX10_personOf 37 = .ok (.goto 6, 3) := by decide +kernel
theorem dX10_personOf_40 : decode cX10_personOf 40 = .ok (.iload_n 2, 1) := by decide +kernel
theorem dX10_personOf_41 : decode cX10_personOf 41 = .ok (.iconst 1, 1) := by decide +kernel
theorem dX10_personOf_42 : decode cX10_personOf 42 = .ok (.isub, 1) := by decide +kernel
theorem dX10_personOf_43 : decode cX10_personOf 43 = .ok (.iadd, 1) := by decide +kernel
theorem dX10_personOf_44 : decode cX10_personOf 44 = .ok (.iaload, 1) := by decide +kernel
theorem dX10_personOf_45 : decode cX10_personOf 45 = .ok (.ireturn, 1) := by decide +kernel
theorem dX10_translator_0 : decode cX10_translator 0 = .ok (.aload_n 0, 1) := by decide +kernel
theorem dX10_translator_1 : decode cX10_translator 1 = .ok (.iconst 0, 1) := by decide +kernel
theorem dX10_translator_2 : decode cX10_translator 2 = .ok (.putfield 34, 3) := by decide +kernel
theorem dX10_translator_5 : decode cX10_translator 5 = .ok (.iload_n 1, 1) := by decide +kernel
theorem dX10_translator_6 : decode cX10_translator 6 = .ok (.invokestatic 92, 3) := by decide +kernel
theorem dX10_translator_9 : decode cX10_translator 9 = .ok (.ifCond .ne 9, 3) := by decide +kernel
theorem dX10_translator_12 : decode cX10_translator 12 = .ok (.aload_n 0, 1) := by decide +kernel
theorem dX10_translator_13 : decode cX10_translator 13 = .ok (.iconst 1, 1) := by decide +kernel
theorem dX10_translator_14 : decode cX10_translator 14 = .ok (.invokevirtual 95, 3) := by decide +kernel
theorem dX10_translator_17 : decode cX10_translator 17 = .ok (.ireturn, 1) := by decide +kernel
theorem dX10_translator_18 : decode cX10_translator 18 = .ok (.iload_n 2, 1) := by decide +kernel
theorem dX10_translator_19 : decode cX10_translator 19 = .ok (.iconst 0, 1) := by decide +kernel
theorem dX10_translator_20 : decode cX10_translator 20 = .ok (.bipush 6, 2) := by decide +kernel
theorem dX10_translator_22 : decode cX10_translator 22 = .ok (.invokestatic 41, 3) := by decide +kernel
theorem dX10_translator_25 : decode cX10_translator 25 = .ok (.ifCond .eq 12, 3) := by decide +kernel
theorem dX10_translator_28 : decode cX10_translator 28 = .ok (.aload_n 0, 1) := by decide +kernel
theorem dX10_translator_29 : decode cX10_translator 29 = .ok (.iload_n 1, 1) := by decide +kernel
theorem dX10_translator_30 : decode cX10_translator 30 = .ok (.iload_n 2, 1) := by decide +kernel
theorem dX10_translator_31 : decode cX10_translator 31 = .ok (.invokevirtual 160, 3) := by decide +kernel
theorem dX10_translator_34 : decode cX10_translator 34 = .ok (.goto 8, 3) := by decide +kernel
theorem dX10_translator_37 : decode cX10_translator 37 = .ok (.aload_n 0, 1) := by decide +kernel
theorem dX10_translator_38 : decode cX10_translator 38 = .ok (.iconst 2, 1) := by decide +kernel
theorem dX10_translator_39 : decode cX10_translator 39 = .ok (.invokevirtual 95, 3) := by decide +kernel
theorem dX10_translator_42 : decode cX10_translator 42 = .ok (.ireturn, 1) := by decide +kernel
theorem dX10_often_0 : decode cX10_often 0 = .ok (.iconst 0, 1) := by decide +kernel
theorem dX10_often_1 : decode cX10_often 1 = .ok (.istore_n 2, 1) := by decide +kernel
theorem dX10_often_2 : decode cX10_often 2 = .ok (.iconst 0, 1) := by decide +kernel
end
section
theorem dX10_often_3 : decode cX10_often 3 = .ok (.istore_n 3, 1) := by decide +kernel
theorem dX10_often_4 : decode cX10_often 4 = .ok (.iload_n 3, 1) := by decide +kernel
theorem dX10_often_5 : decode cX10_often 5 = .ok (.aload_n 0, 1) := by decide +kernel
theorem dX10_often_6 : decode cX10_often 6 = .ok (.getfield 7, 3) := by decide +kernel
theorem dX10_often_9 : decode cX10_often 9 = .ok (.iconst 0, 1) := by decide +kernel
theorem dX10_often_10 : decode cX10_often 10 = .ok (.iaload, 1) := by decide +kernel
theorem dX10_often_11 : decode cX10_often 11 = .ok (.if_icmp .ge 59, 3) := by decide +kernel
theorem dX10_often_14 : decode cX10_often 14 = .ok (.iconst 0, 1) := by decide +kernel
theorem dX10_often_15 : decode cX10_often 15 = .ok (.istore 4, 2) := by decide +kernel
theorem dX10_often_17 : decode cX10_often 17 = .ok (.iload 4, 2) := by decide +kernel
theorem dX10_often_19 : decode cX10_often 19 = .ok (.aload_n 0, 1) := by decide +kernel
theorem dX10_often_20 : decode cX10_often 20 = .ok (.getfield 7, 3) := by decide +kernel
theorem dX10_often_23 : decode cX10_often 23 = .ok (.iload_n 3, 1) := by decide +kernel
theorem dX10_often_24 : decode cX10_often 24 = .ok (.invokestatic 45, 3) := by decide +kernel
theorem dX10_often_27 : decode cX10_often 27 = .ok (.iaload, 1) := by decide +kernel
theorem dX10_often_28 : decode cX10_often 28 = .ok (.if_icmp .ge 36, 3) := by decide +kernel
theorem dX10_often_31 : decode cX10_often 31 = .ok (.iload_n 2, 1) := by decide +kernel
theorem dX10_often_32 : decode cX10_often 32 = .ok (.aload_n 0, 1) := by decide +kernel
theorem dX10_often_33 : decode cX10_often 33 = .ok (.getfield 7, 3) := by decide +kernel
theorem dX10_often_36 : decode cX10_often 36 = .ok (.iload_n 3, 1) := by decide +kernel
theorem dX10_often_37 : decode cX10_often 37 = .ok (.invokestatic 45, 3) := by decide +kernel
theorem dX10_often_40 : decode cX10_often 40 = .ok (.bipush 10, 2) := by decide +kernel
theorem dX10_often_42 : decode cX10_often 42 = .ok (.iadd, 1) := by decide +kernel
theorem dX10_often_43 : decode cX10_often 43 = .ok (.iload 4, 2) := by decide +kernel
theorem dX10_often_45 : decode cX10_often 45 = .ok (.iadd, 1) := by decide +kernel
theorem dX10_often_46 : decode cX10_often 46 = .ok (.iaload, 1) := by decide +kernel
theorem dX10_often_47 : decode cX10_often 47 = .ok (.iload_n 1, 1) := by decide +kernel
theorem dX10_often_48 : decode cX10_often 48 = .ok (.if_icmp .ne 7, 3) := by decide +kernel
theorem dX10_often_51 : decode cX10_often 51 = .ok (.iconst 1, 1) := by decide +kernel
theorem dX10_often_52 : decode cX10_often 52 = .ok (.goto 4, 3) := by decide +kernel
theorem dX10_often_55 : decode cX10_often 55 = .ok (.iconst 0, 1) := by decide +kernel
theorem dX10_often_56 : decode cX10_often 56 = .ok (.iadd, 1) := by decide +kernel
theorem dX10_often_57 : decode cX10_often 57 = .ok (.istore_n 2, 1) := by decide +kernel
theorem dX10_often_58 : decode cX10_often 58 = .ok (.iinc 4 1, 3) := by decide +kernel
theorem dX10_often_61 : decode cX10_often 61 = .ok (.goto (-44), 3) := by decide +kernel
theorem dX10_often_64 : decode cX10_often 64 = .ok (.iinc 3 1, 3) := by decide +kernel
theorem dX10_often_67 : decode cX10_often 67 = .ok (.goto (-63), 3) := by decide +kernel
theorem dX10_often_70 : decode cX10_often 70 = .ok (.iload_n 2, 1) := by decide +kernel
theorem dX10_often_71 : decode cX10_often 71 = .ok (.ireturn, 1) := by decide +kernel
theorem dX10_termOf_0 : decode cX10_termOf 0 = .ok (.iload_n 2, 1) := by decide +kernel
theorem dX10_termOf_1 : decode cX10_termOf 1 = .ok (.iconst 4, 1) := by decide +kernel
theorem dX10_termOf_2 : decode cX10_termOf 2 = .ok (.if_icmp .ge 14, 3) := by decide +kernel
theorem dX10_termOf_5 : decode cX10_termOf 5 = .ok (.aload_n 0, 1) := by decide +kernel
theorem dX10_termOf_6 : decode cX10_termOf 6 = .ok (.getfield 7, 3) := by decide +kernel
theorem dX10_termOf_9 : decode cX10_termOf 9 = .ok (.iload_n 1, 1) := by decide +kernel
theorem dX10_termOf_10 : decode cX10_termOf 10 = .ok (.iload_n 2, 1) := by decide +kernel
theorem dX10_termOf_11 : decode cX10_termOf 11 = .ok (.invokestatic 84, 3) := by decide +kernel
theorem dX10_termOf_14 : decode cX10_termOf 14 = .ok (.iaload, 1) := by decide +kernel
theorem dX10_termOf_15 : decode cX10_termOf 15 = .ok (.ireturn, 1) := by decide +kernel
theorem dX10_termOf_16 : decode cX10_termOf 16 = .ok (.iload_n 2, 1) := by decide +kernel
theorem dX10_termOf_17 : decode cX10_termOf 17 = .ok (.iconst 4, 1) := by decide +kernel
theorem dX10_termOf_18 : decode cX10_termOf 18 = .ok (.if_icmp .ne 13, 3) := by decide +kernel
theorem dX10_termOf_21 : decode cX10_termOf 21 = .ok (.aload_n 0, 1) := by decide +kernel
theorem dX10_termOf_22 : decode cX10_termOf 22 = .ok (.getfield 7, 3) := by decide +kernel
theorem dX10_termOf_25 : decode cX10_termOf 25 = .ok (.bipush 56, 2) := by decide +kernel
theorem dX10_termOf_27 : decode cX10_termOf 27 = .ok (.iload_n 1, 1) := by decide +kernel
theorem dX10_termOf_28 : decode cX10_termOf 28 = .ok (.iadd, 1) := by decide +kernel
theorem dX10_termOf_29 : decode cX10_termOf 29 = .ok (.iaload, 1) := by decide +kernel
theorem dX10_termOf_30 : decode cX10_termOf 30 = .ok (.ireturn, 1) := by decide +kernel
theorem dX10_termOf_31 : decode cX10_termOf 31 = .ok (.iload_n 2, 1) := by decide +kernel
theorem dX10_termOf_32 : decode cX10_termOf 32 = .ok (.iconst 5, 1) := by decide +kernel
theorem dX10_termOf_33 : decode cX10_termOf 33 = .ok (.if_icmp .ne 19, 3) := by decide +kernel
theorem dX10_termOf_36 : decode cX10_termOf 36 = .ok (.aload_n 0, 1) := by decide +kernel
theorem dX10_termOf_37 : decode cX10_termOf 37 = .ok (.iload_n 1, 1) := by decide +kernel
theorem dX10_termOf_38 : decode cX10_termOf 38 = .ok (.invokevirtual 88, 3) := by decide +kernel
theorem dX10_termOf_41 : decode cX10_termOf 41 = .ok (.ifCond .eq 7, 3) := by decide +kernel
theorem dX10_termOf_44 : decode cX10_termOf 44 = .ok (.iconst 1, 1) := by decide +kernel
theorem dX10_termOf_45 : decode cX10_termOf 45 = .ok (.goto 26, 3) := by decide +kernel
theorem dX10_termOf_48 : decode cX10_termOf 48 = .ok (.iconst 0, 1) := by decide +kernel
theorem dX10_termOf_49 : decode cX10_termOf 49 = .ok (.goto 22, 3) := by decide +kernel
theorem dX10_termOf_52 : decode cX10_termOf 52 = .ok (.iload_n 2, 1) := by decide +kernel
theorem dX10_termOf_53 : decode cX10_termOf 53 = .ok (.bipush 6, 2) := by decide +kernel
theorem dX10_termOf_55 : decode cX10_termOf 55 = .ok (.if_icmp .ne 11, 3) := by decide +kernel
theorem dX10_termOf_58 : decode cX10_termOf 58 = .ok (.aload_n 0, 1) := by decide +kernel
theorem dX10_termOf_59 : decode cX10_termOf 59 = .ok (.iload_n 1, 1) := by decide +kernel
theorem dX10_termOf_60 : decode cX10_termOf 60 = .ok (.invokevirtual 81, 3) := by decide +kernel
theorem dX10_termOf_63 : decode cX10_termOf 63 = .ok (.goto 8, 3) := by decide +kernel
theorem dX10_termOf_66 : decode cX10_termOf 66 = .ok (.aload_n 0, 1) := by decide +kernel
theorem dX10_termOf_67 : decode cX10_termOf 67 = .ok (.iload_n 1, 1) := by decide +kernel
theorem dX10_termOf_68 : decode cX10_termOf 68 = .ok (.invokevirtual 163, 3) := by decide +kernel
theorem dX10_termOf_71 : decode cX10_termOf 71 = .ok (.ireturn, 1) := by decide +kernel
theorem dX10_term_0 : decode cX10_term 0 = .ok (.aload_n 0, 1) := by decide +kernel
theorem dX10_term_1 : decode cX10_term 1 = .ok (.iconst 0, 1) := by decide +kernel
theorem dX10_term_2 : decode cX10_term 2 = .ok (.putfield 34, 3) := by decide +kernel
theorem dX10_term_5 : decode cX10_term 5 = .ok (.iload_n 1, 1) := by decide +kernel
theorem dX10_term_6 : decode cX10_term 6 = .ok (.invokestatic 119, 3) := by decide +kernel
theorem dX10_term_9 : decode cX10_term 9 = .ok (.ifCond .ne 9, 3) := by decide +kernel
theorem dX10_term_12 : decode cX10_term 12 = .ok (.aload_n 0, 1) := by decide +kernel
theorem dX10_term_13 : decode cX10_term 13 = .ok (.iconst 1, 1) := by decide +kernel
theorem dX10_term_14 : decode cX10_term 14 = .ok (.invokevirtual 95, 3) := by decide +kernel
theorem dX10_term_17 : decode cX10_term 17 = .ok (.ireturn, 1) := by decide +kernel
theorem dX10_term_18 : decode cX10_term 18 = .ok (.iload_n 2, 1) := by decide +kernel
theorem dX10_term_19 : decode cX10_term 19 = .ok (.iconst 0, 1) := by decide +kernel
theorem dX10_term_20 : decode cX10_term 20 = .ok (.bipush 7, 2) := by decide +kernel
theorem dX10_term_22 : decode cX10_term 22 = .ok (.invokestatic 41, 3) := by decide +kernel
theorem dX10_term_25 : decode cX10_term 25 = .ok (.ifCond .eq 12, 3) := by decide +kernel
theorem dX10_term_28 : decode cX10_term 28 = .ok (.aload_n 0, 1) := by decide +kernel
theorem dX10_term_29 : decode cX10_term 29 = .ok (.iload_n 1, 1) := by decide +kernel
theorem dX10_term_30 : decode cX10_term 30 = .ok (.iload_n 2, 1) := by decide +kernel
theorem dX10_term_31 : decode cX10_term 31 = .ok (.invokevirtual 166, 3) := by decide +kernel
theorem dX10_term_34 : decode cX10_term 34 = .ok (.goto 8, 3) := by decide +kernel
theorem dX10_term_37 : decode cX10_term 37 = .ok (.aload_n 0, 1) := by decide +kernel
theorem dX10_term_38 : decode cX10_term 38 = .ok (.iconst 2, 1) := by decide +kernel
theorem dX10_term_39 : decode cX10_term 39 = .ok (.invokevirtual 95, 3) := by decide +kernel
theorem dX10_term_42 : decode cX10_term 42 = .ok (.ireturn, 1) := by decide +kernel
theorem dX10_band_0 : decode cX10_band 0 = .ok (.aload_n 0, 1) := by decide +kernel
theorem dX10_band_1 : decode cX10_band 1 = .ok (.iconst 0, 1) := by decide +kernel
theorem dX10_band_2 : decode cX10_band 2 = .ok (.putfield 34, 3) := by decide +kernel
theorem dX10_band_5 : decode cX10_band 5 = .ok (.iload_n 1, 1) := by decide +kernel
theorem dX10_band_6 : decode cX10_band 6 = .ok (.invokestatic 104, 3) := by decide +kernel
theorem dX10_band_9 : decode cX10_band 9 = .ok (.ifCond .ne 9, 3) := by decide +kernel
theorem dX10_band_12 : decode cX10_band 12 = .ok (.aload_n 0, 1) := by decide +kernel
theorem dX10_band_13 : decode cX10_band 13 = .ok (.iconst 1, 1) := by decide +kernel
theorem dX10_band_14 : decode cX10_band 14 = .ok (.invokevirtual 95, 3) := by decide +kernel
theorem dX10_band_17 : decode cX10_band 17 = .ok (.ireturn, 1) := by decide +kernel
theorem dX10_band_18 : decode cX10_band 18 = .ok (.iload_n 2, 1) := by decide +kernel
theorem dX10_band_19 : decode cX10_band 19 = .ok (.iconst 0, 1) := by decide +kernel
theorem dX10_band_20 : decode cX10_band 20 = .ok (.iconst 2, 1) := by decide +kernel
theorem dX10_band_21 : decode cX10_band 21 = .ok (.invokestatic 41, 3) := by decide +kernel
theorem dX10_band_24 : decode cX10_band 24 = .ok (.ifCond .eq 19, 3) := by decide +kernel
theorem dX10_band_27 : decode cX10_band 27 = .ok (.aload_n 0, 1) := by decide +kernel
theorem dX10_band_28 : decode cX10_band 28 = .ok (.getfield 7, 3) := by decide +kernel
theorem dX10_band_31 : decode cX10_band 31 = .ok (.bipush 64, 2) := by decide +kernel
theorem dX10_band_33 : decode cX10_band 33 = .ok (.iconst 3, 1) := by decide +kernel
theorem dX10_band_34 : decode cX10_band 34 = .ok (.iload_n 1, 1) := by decide +kernel
theorem dX10_band_35 : decode cX10_band 35 = .ok (.imul, 1) := by decide +kernel
theorem dX10_band_36 : decode cX10_band 36 = .ok (.iadd, 1) := by decide +kernel
theorem dX10_band_37 : decode cX10_band 37 = .ok (.iload_n 2, 1) := by decide +kernel
theorem dX10_band_38 : decode cX10_band 38 = .ok (.iadd, 1) := by decide +kernel
theorem dX10_band_39 : decode cX10_band 39 = .ok (.iaload, 1) := by decide +kernel
theorem dX10_band_40 : decode cX10_band 40 = .ok (.goto 8, 3) := by decide +kernel
theorem dX10_band_43 : decode cX10_band 43 = .ok (.aload_n 0, 1) := by decide +kernel
theorem dX10_band_44 : decode cX10_band 44 = .ok (.iconst 2, 1) := by decide +kernel
theorem dX10_band_45 : decode cX10_band 45 = .ok (.invokevirtual 95, 3) := by decide +kernel
theorem dX10_band_48 : decode cX10_band 48 = .ok (.ireturn, 1) := by decide +kernel
theorem dX10_staged_0 : decode cX10_staged 0 = .ok (.iconst 0, 1) := by decide +kernel
theorem dX10_staged_1 : decode cX10_staged 1 = .ok (.istore_n 2, 1) := by decide +kernel
theorem dX10_staged_2 : decode cX10_staged 2 = .ok (.iconst 0, 1) := by decide +kernel
theorem dX10_staged_3 : decode cX10_staged 3 = .ok (.istore_n 3, 1) := by decide +kernel
theorem dX10_staged_4 : decode cX10_staged 4 = .ok (.iload_n 3, 1) := by decide +kernel
theorem dX10_staged_5 : decode cX10_staged 5 = .ok (.aload_n 0, 1) := by decide +kernel
theorem dX10_staged_6 : decode cX10_staged 6 = .ok (.getfield 7, 3) := by decide +kernel
theorem dX10_staged_9 : decode cX10_staged 9 = .ok (.iconst 0, 1) := by decide +kernel
theorem dX10_staged_10 : decode cX10_staged 10 = .ok (.iaload, 1) := by decide +kernel
theorem dX10_staged_11 : decode cX10_staged 11 = .ok (.if_icmp .ge 32, 3) := by decide +kernel
theorem dX10_staged_14 : decode cX10_staged 14 = .ok (.iload_n 2, 1) := by decide +kernel
theorem dX10_staged_15 : decode cX10_staged 15 = .ok (.aload_n 0, 1) := by decide +kernel
theorem dX10_staged_16 : decode cX10_staged 16 = .ok (.getfield 7, 3) := by decide +kernel
theorem dX10_staged_19 : decode cX10_staged 19 = .ok (.iload_n 3, 1) := by decide +kernel
theorem dX10_staged_20 : decode cX10_staged 20 = .ok (.invokestatic 45, 3) := by decide +kernel
theorem dX10_staged_23 : decode cX10_staged 23 = .ok (.iconst 1, 1) := by decide +kernel
theorem dX10_staged_24 : decode cX10_staged 24 = .ok (.iadd, 1) := by decide +kernel
theorem dX10_staged_25 : decode cX10_staged 25 = .ok (.iaload, 1) := by decide +kernel
theorem dX10_staged_26 : decode cX10_staged 26 = .ok (.iload_n 1, 1) := by decide +kernel
theorem dX10_staged_27 : decode cX10_staged 27 = .ok (.if_icmp .ne 7, 3) := by decide +kernel
theorem dX10_staged_30 : decode cX10_staged 30 = .ok (.iconst 1, 1) := by decide +kernel
theorem dX10_staged_31 : decode cX10_staged 31 = .ok (.goto 4, 3) := by decide +kernel
theorem dX10_staged_34 : decode cX10_staged 34 = .ok (.iconst 0, 1) := by decide +kernel
theorem dX10_staged_35 : decode cX10_staged 35 = .ok (.iadd, 1) := by decide +kernel
theorem dX10_staged_36 : decode cX10_staged 36 = .ok (.istore_n 2, 1) := by decide +kernel
theorem dX10_staged_37 : decode cX10_staged 37 = .ok (.iinc 3 1, 3) := by decide +kernel
theorem dX10_staged_40 : decode cX10_staged 40 = .ok (.goto (-36), 3) := by decide +kernel
theorem dX10_staged_43 : decode cX10_staged 43 = .ok (.iload_n 2, 1) := by decide +kernel
theorem dX10_staged_44 : decode cX10_staged 44 = .ok (.ireturn, 1) := by decide +kernel
theorem dX10_wordsAll_0 : decode cX10_wordsAll 0 = .ok (.iconst 0, 1) := by decide +kernel
theorem dX10_wordsAll_1 : decode cX10_wordsAll 1 = .ok (.istore_n 1, 1) := by decide +kernel
theorem dX10_wordsAll_2 : decode cX10_wordsAll 2 = .ok (.iconst 0, 1) := by decide +kernel
theorem dX10_wordsAll_3 : decode cX10_wordsAll 3 = .ok (.istore_n 2, 1) := by decide +kernel
theorem dX10_wordsAll_4 : decode cX10_wordsAll 4 = .ok (.iload_n 2, 1) := by decide +kernel
theorem dX10_wordsAll_5 : decode cX10_wordsAll 5 = .ok (.aload_n 0, 1) := by decide +kernel
theorem dX10_wordsAll_6 : decode cX10_wordsAll 6 = .ok (.getfield 7, 3) := by decide +kernel
theorem dX10_wordsAll_9 : decode cX10_wordsAll 9 = .ok (.iconst 0, 1) := by decide +kernel
theorem dX10_wordsAll_10 : decode cX10_wordsAll 10 = .ok (.iaload, 1) := by decide +kernel
theorem dX10_wordsAll_11 : decode cX10_wordsAll 11 = .ok (.if_icmp .ge 21, 3) := by decide +kernel
theorem dX10_wordsAll_14 : decode cX10_wordsAll 14 = .ok (.iload_n 1, 1) := by decide +kernel
theorem dX10_wordsAll_15 : decode cX10_wordsAll 15 = .ok (.aload_n 0, 1) := by decide +kernel
theorem dX10_wordsAll_16 : decode cX10_wordsAll 16 = .ok (.getfield 7, 3) := by decide +kernel
theorem dX10_wordsAll_19 : decode cX10_wordsAll 19 = .ok (.iload_n 2, 1) := by decide +kernel
theorem dX10_wordsAll_20 : decode cX10_wordsAll 20 = .ok (.invokestatic 45, 3) := by decide +kernel
theorem dX10_wordsAll_23 : decode cX10_wordsAll 23 = .ok (.iaload, 1) := by decide +kernel
theorem dX10_wordsAll_24 : decode cX10_wordsAll 24 = .ok (.iadd, 1) := by decide +kernel
theorem dX10_wordsAll_25 : decode cX10_wordsAll 25 = .ok (.istore_n 1, 1) := by decide +kernel
theorem dX10_wordsAll_26 : decode cX10_wordsAll 26 = .ok (.iinc 2 1, 3) := by decide +kernel
theorem dX10_wordsAll_29 : decode cX10_wordsAll 29 = .ok (.goto (-25), 3) := by decide +kernel
theorem dX10_wordsAll_32 : decode cX10_wordsAll 32 = .ok (.iload_n 1, 1) := by decide +kernel
theorem dX10_wordsAll_33 : decode cX10_wordsAll 33 = .ok (.ireturn, 1) := by decide +kernel
theorem dX10_ofPeople_0 : decode cX10_ofPeople 0 = .ok (.iconst 0, 1) := by decide +kernel
theorem dX10_ofPeople_1 : decode cX10_ofPeople 1 = .ok (.istore_n 2, 1) := by decide +kernel
theorem dX10_ofPeople_2 : decode cX10_ofPeople 2 = .ok (.iconst 0, 1) := by decide +kernel
theorem dX10_ofPeople_3 : decode cX10_ofPeople 3 = .ok (.istore_n 3, 1) := by decide +kernel
theorem dX10_ofPeople_4 : decode cX10_ofPeople 4 = .ok (.iload_n 3, 1) := by decide +kernel
theorem dX10_ofPeople_5 : decode cX10_ofPeople 5 = .ok (.iconst 4, 1) := by decide +kernel
theorem dX10_ofPeople_6 : decode cX10_ofPeople 6 = .ok (.if_icmp .ge 23, 3) := by decide +kernel
theorem dX10_ofPeople_9 : decode cX10_ofPeople 9 = .ok (.iload_n 2, 1) := by decide +kernel
theorem dX10_ofPeople_10 : decode cX10_ofPeople 10 = .ok (.aload_n 0, 1) := by decide +kernel
theorem dX10_ofPeople_11 : decode cX10_ofPeople 11 = .ok (.getfield 7, 3) := by decide +kernel
theorem dX10_ofPeople_14 : decode cX10_ofPeople 14 = .ok (.iload_n 3, 1) := by decide +kernel
theorem dX10_ofPeople_15 : decode cX10_ofPeople 15 = .ok (.invokestatic 101, 3) := by decide +kernel
theorem dX10_ofPeople_18 : decode cX10_ofPeople 18 = .ok (.iload_n 1, 1) := by decide +kernel
theorem dX10_ofPeople_19 : decode cX10_ofPeople 19 = .ok (.iadd, 1) := by decide +kernel
theorem dX10_ofPeople_20 : decode cX10_ofPeople 20 = .ok (.iaload, 1) := by decide +kernel
theorem dX10_ofPeople_21 : decode cX10_ofPeople 21 = .ok (.iadd, 1) := by decide +kernel
theorem dX10_ofPeople_22 : decode cX10_ofPeople 22 = .ok (.istore_n 2, 1) := by decide +kernel
theorem dX10_ofPeople_23 : decode cX10_ofPeople 23 = .ok (.iinc 3 1, 3) := by decide +kernel
theorem dX10_ofPeople_26 : decode cX10_ofPeople 26 = .ok (.goto (-22), 3) := by decide +kernel
theorem dX10_ofPeople_29 : decode cX10_ofPeople 29 = .ok (.iload_n 2, 1) := by decide +kernel
theorem dX10_ofPeople_30 : decode cX10_ofPeople 30 = .ok (.ireturn, 1) := by decide +kernel
theorem dX10_ofTerms_0 : decode cX10_ofTerms 0 = .ok (.iconst 0, 1) := by decide +kernel
theorem dX10_ofTerms_1 : decode cX10_ofTerms 1 = .ok (.istore_n 2, 1) := by decide +kernel
theorem dX10_ofTerms_2 : decode cX10_ofTerms 2 = .ok (.iconst 0, 1) := by decide +kernel
theorem dX10_ofTerms_3 : decode cX10_ofTerms 3 = .ok (.istore_n 3, 1) := by decide +kernel
theorem dX10_ofTerms_4 : decode cX10_ofTerms 4 = .ok (.iload_n 3, 1) := by decide +kernel
theorem dX10_ofTerms_5 : decode cX10_ofTerms 5 = .ok (.bipush 8, 2) := by decide +kernel
theorem dX10_ofTerms_7 : decode cX10_ofTerms 7 = .ok (.if_icmp .ge 45, 3) := by decide +kernel
theorem dX10_ofTerms_10 : decode cX10_ofTerms 10 = .ok (.iload_n 2, 1) := by decide +kernel
theorem dX10_ofTerms_11 : decode cX10_ofTerms 11 = .ok (.iload_n 1, 1) := by decide +kernel
theorem dX10_ofTerms_12 : decode cX10_ofTerms 12 = .ok (.ifCond .eq 19, 3) := by decide +kernel
theorem dX10_ofTerms_15 : decode cX10_ofTerms 15 = .ok (.aload_n 0, 1) := by decide +kernel
theorem dX10_ofTerms_16 : decode cX10_ofTerms 16 = .ok (.getfield 7, 3) := by decide +kernel
theorem dX10_ofTerms_19 : decode cX10_ofTerms 19 = .ok (.bipush 56, 2) := by decide +kernel
theorem dX10_ofTerms_21 : decode cX10_ofTerms 21 = .ok (.iload_n 3, 1) := by decide +kernel
theorem dX10_ofTerms_22 : decode cX10_ofTerms 22 = .ok (.iadd, 1) := by decide +kernel
theorem dX10_ofTerms_23 : decode cX10_ofTerms 23 = .ok (.iaload, 1) := by decide +kernel
theorem dX10_ofTerms_24 : decode cX10_ofTerms 24 = .ok (.iconst (-1), 1) := by decide +kernel
theorem dX10_ofTerms_25 : decode cX10_ofTerms 25 = .ok (.if_icmp .eq 18, 3) := by decide +kernel
theorem dX10_ofTerms_28 : decode cX10_ofTerms 28 = .ok (.goto 11, 3) := by decide +kernel
theorem dX10_ofTerms_31 : decode cX10_ofTerms 31 = .ok (.aload_n 0, 1) := by decide +kernel
theorem dX10_ofTerms_32 : decode cX10_ofTerms 32 = .ok (.iload_n 3, 1) := by decide +kernel
theorem dX10_ofTerms_33 : decode cX10_ofTerms 33 = .ok (.invokevirtual 88, 3) := by decide +kernel
theorem dX10_ofTerms_36 : decode cX10_ofTerms 36 = .ok (.ifCond .eq 7, 3) := by decide +kernel
theorem dX10_ofTerms_39 : decode cX10_ofTerms 39 = .ok (.iconst 1, 1) := by decide +kernel
theorem dX10_ofTerms_40 : decode cX10_ofTerms 40 = .ok (.goto 4, 3) := by decide +kernel
theorem dX10_ofTerms_43 : decode cX10_ofTerms 43 = .ok (.iconst 0, 1) := by decide +kernel
theorem dX10_ofTerms_44 : decode cX10_ofTerms 44 = .ok (.iadd, 1) := by decide +kernel
theorem dX10_ofTerms_45 : decode cX10_ofTerms 45 = .ok (.istore_n 2, 1) := by decide +kernel
theorem dX10_ofTerms_46 : decode cX10_ofTerms 46 = .ok (.iinc 3 1, 3) := by decide +kernel
theorem dX10_ofTerms_49 : decode cX10_ofTerms 49 = .ok (.goto (-45), 3) := by decide +kernel
theorem dX10_ofTerms_52 : decode cX10_ofTerms 52 = .ok (.iload_n 2, 1) := by decide +kernel
theorem dX10_ofTerms_53 : decode cX10_ofTerms 53 = .ok (.ireturn, 1) := by decide +kernel
theorem dX10_counted_0 : decode cX10_counted 0 = .ok (.iload_n 1, 1) := by decide +kernel
theorem dX10_counted_1 : decode cX10_counted 1 = .ok (.ifCond .le 16, 3) := by decide +kernel
theorem dX10_counted_4 : decode cX10_counted 4 = .ok (.iload_n 1, 1) := by decide +kernel
theorem dX10_counted_5 : decode cX10_counted 5 = .ok (.iconst 5, 1) := by decide +kernel
theorem dX10_counted_6 : decode cX10_counted 6 = .ok (.if_icmp .ge 11, 3) := by decide +kernel
theorem dX10_counted_9 : decode cX10_counted 9 = .ok (.aload_n 0, 1) := by decide +kernel
theorem dX10_counted_10 : decode cX10_counted 10 = .ok (.iload_n 1, 1) := by decide +kernel
theorem dX10_counted_11 : decode cX10_counted 11 = .ok (.iconst 1, 1) := by decide +kernel
theorem dX10_counted_12 : decode cX10_counted 12 = .ok (.isub, 1) := by decide +kernel
theorem dX10_counted_13 : decode cX10_counted 13 = .ok (.invokevirtual 169, 3) := by decide +kernel
theorem dX10_counted_16 : decode cX10_counted 16 = .ok (.ireturn, 1) := by decide +kernel
theorem dX10_counted_17 : decode cX10_counted 17 = .ok (.iload_n 1, 1) := by decide +kernel
theorem dX10_counted_18 : decode cX10_counted 18 = .ok (.tableswitch 105 0 10 #[58, 105, 105, 105, 105, 65, 72, 77, 83, 89, 89], 58) := by decide +kernel
theorem dX10_counted_76 : decode cX10_counted 76 = .ok (.aload_n 0, 1) := by decide +kernel
theorem dX10_counted_77 : decode cX10_counted 77 = .ok (.getfield 7, 3) := by decide +kernel
theorem dX10_counted_80 : decode cX10_counted 80 = .ok (.iconst 0, 1) := by decide +kernel
theorem dX10_counted_81 : decode cX10_counted 81 = .ok (.iaload, 1) := by decide +kernel
theorem dX10_counted_82 : decode cX10_counted 82 = .ok (.ireturn, 1) := by decide +kernel
theorem dX10_counted_83 : decode cX10_counted 83 = .ok (.aload_n 0, 1) := by decide +kernel
theorem dX10_counted_84 : decode cX10_counted 84 = .ok (.getfield 7, 3) := by decide +kernel
theorem dX10_counted_87 : decode cX10_counted 87 = .ok (.iconst 1, 1) := by decide +kernel
theorem dX10_counted_88 : decode cX10_counted 88 = .ok (.iaload, 1) := by decide +kernel
theorem dX10_counted_89 : decode cX10_counted 89 = .ok (.ireturn, 1) := by decide +kernel
theorem dX10_counted_90 : decode cX10_counted 90 = .ok (.aload_n 0, 1) := by decide +kernel
theorem dX10_counted_91 : decode cX10_counted 91 = .ok (.invokevirtual 172, 3) := by decide +kernel
theorem dX10_counted_94 : decode cX10_counted 94 = .ok (.ireturn, 1) := by decide +kernel
theorem dX10_counted_95 : decode cX10_counted 95 = .ok (.aload_n 0, 1) := by decide +kernel
theorem dX10_counted_96 : decode cX10_counted 96 = .ok (.iconst 2, 1) := by decide +kernel
theorem dX10_counted_97 : decode cX10_counted 97 = .ok (.invokevirtual 175, 3) := by decide +kernel
theorem dX10_counted_100 : decode cX10_counted 100 = .ok (.ireturn, 1) := by decide +kernel
theorem dX10_counted_101 : decode cX10_counted 101 = .ok (.aload_n 0, 1) := by decide +kernel
theorem dX10_counted_102 : decode cX10_counted 102 = .ok (.iconst 1, 1) := by decide +kernel
theorem dX10_counted_103 : decode cX10_counted 103 = .ok (.invokevirtual 175, 3) := by decide +kernel
theorem dX10_counted_106 : decode cX10_counted 106 = .ok (.ireturn, 1) := by decide +kernel
theorem dX10_counted_107 : decode cX10_counted 107 = .ok (.aload_n 0, 1) := by decide +kernel
theorem dX10_counted_108 : decode cX10_counted 108 = .ok (.iload_n 1, 1) := by decide +kernel
theorem dX10_counted_109 : decode cX10_counted 109 = .ok (.bipush 10, 2) := by decide +kernel
theorem dX10_counted_111 : decode cX10_counted 111 = .ok (.if_icmp .ne 7, 3) := by decide +kernel
theorem dX10_counted_114 : decode cX10_counted 114 = .ok (.iconst 1, 1) := by decide +kernel
theorem dX10_counted_115 : decode cX10_counted 115 = .ok (.goto 4, 3) := by decide +kernel
theorem dX10_counted_118 : decode cX10_counted 118 = .ok (.iconst 0, 1) := by decide +kernel
theorem dX10_counted_119 : decode cX10_counted 119 = .ok (.invokevirtual 178, 3) := by decide +kernel
theorem dX10_counted_122 : decode cX10_counted 122 = .ok (.ireturn, 1) := by decide +kernel
theorem dX10_counted_123 : decode cX10_counted 123 = .ok (.aload_n 0, 1) := by decide +kernel
theorem dX10_counted_124 : decode cX10_counted 124 = .ok (.getfield 38, 3) := by decide +kernel
theorem dX10_counted_127 : decode cX10_counted 127 = .ok (.ireturn, 1) := by decide +kernel
theorem dX10_count_0 : decode cX10_count 0 = .ok (.aload_n 0, 1) := by decide +kernel
theorem dX10_count_1 : decode cX10_count 1 = .ok (.iconst 0, 1) := by decide +kernel
theorem dX10_count_2 : decode cX10_count 2 = .ok (.putfield 34, 3) := by decide +kernel
theorem dX10_count_5 : decode cX10_count 5 = .ok (.iload_n 1, 1) := by decide +kernel
theorem dX10_count_6 : decode cX10_count 6 = .ok (.iconst 0, 1) := by decide +kernel
theorem dX10_count_7 : decode cX10_count 7 = .ok (.bipush 11, 2) := by decide +kernel
theorem dX10_count_9 : decode cX10_count 9 = .ok (.invokestatic 41, 3) := by decide +kernel
theorem dX10_count_12 : decode cX10_count 12 = .ok (.ifCond .eq 11, 3) := by decide +kernel
theorem dX10_count_15 : decode cX10_count 15 = .ok (.aload_n 0, 1) := by decide +kernel
theorem dX10_count_16 : decode cX10_count 16 = .ok (.iload_n 1, 1) := by decide +kernel
theorem dX10_count_17 : decode cX10_count 17 = .ok (.invokevirtual 182, 3) := by decide +kernel
theorem dX10_count_20 : decode cX10_count 20 = .ok (.goto 8, 3) := by decide +kernel
theorem dX10_count_23 : decode cX10_count 23 = .ok (.aload_n 0, 1) := by decide +kernel
theorem dX10_count_24 : decode cX10_count 24 = .ok (.iconst 1, 1) := by decide +kernel
theorem dX10_count_25 : decode cX10_count 25 = .ok (.invokevirtual 95, 3) := by decide +kernel
theorem dX10_count_28 : decode cX10_count 28 = .ok (.ireturn, 1) := by decide +kernel
theorem dX10_setting_0 : decode cX10_setting 0 = .ok (.aload_n 0, 1) := by decide +kernel
theorem dX10_setting_1 : decode cX10_setting 1 = .ok (.iconst 0, 1) := by decide +kernel
theorem dX10_setting_2 : decode cX10_setting 2 = .ok (.putfield 34, 3) := by decide +kernel
theorem dX10_setting_5 : decode cX10_setting 5 = .ok (.iload_n 1, 1) := by decide +kernel
theorem dX10_setting_6 : decode cX10_setting 6 = .ok (.iconst 0, 1) := by decide +kernel
theorem dX10_setting_7 : decode cX10_setting 7 = .ok (.iconst 1, 1) := by decide +kernel
theorem dX10_setting_8 : decode cX10_setting 8 = .ok (.invokestatic 41, 3) := by decide +kernel
theorem dX10_setting_11 : decode cX10_setting 11 = .ok (.ifCond .eq 14, 3) := by decide +kernel
theorem dX10_setting_14 : decode cX10_setting 14 = .ok (.aload_n 0, 1) := by decide +kernel
theorem dX10_setting_15 : decode cX10_setting 15 = .ok (.getfield 7, 3) := by decide +kernel
theorem dX10_setting_18 : decode cX10_setting 18 = .ok (.iconst 2, 1) := by decide +kernel
theorem dX10_setting_19 : decode cX10_setting 19 = .ok (.iload_n 1, 1) := by decide +kernel
theorem dX10_setting_20 : decode cX10_setting 20 = .ok (.iadd, 1) := by decide +kernel
theorem dX10_setting_21 : decode cX10_setting 21 = .ok (.iaload, 1) := by decide +kernel
theorem dX10_setting_22 : decode cX10_setting 22 = .ok (.goto 8, 3) := by decide +kernel
theorem dX10_setting_25 : decode cX10_setting 25 = .ok (.aload_n 0, 1) := by decide +kernel
theorem dX10_setting_26 : decode cX10_setting 26 = .ok (.iconst 1, 1) := by decide +kernel
theorem dX10_setting_27 : decode cX10_setting 27 = .ok (.invokevirtual 95, 3) := by decide +kernel
theorem dX10_setting_30 : decode cX10_setting 30 = .ok (.ireturn, 1) := by decide +kernel
theorem dX10_nearOf_0 : decode cX10_nearOf 0 = .ok (.aload_n 0, 1) := by decide +kernel
theorem dX10_nearOf_1 : decode cX10_nearOf 1 = .ok (.iload_n 1, 1) := by decide +kernel
theorem dX10_nearOf_2 : decode cX10_nearOf 2 = .ok (.invokevirtual 62, 3) := by decide +kernel
theorem dX10_nearOf_5 : decode cX10_nearOf 5 = .ok (.aload_n 0, 1) := by decide +kernel
theorem dX10_nearOf_6 : decode cX10_nearOf 6 = .ok (.iload_n 2, 1) := by decide +kernel
theorem dX10_nearOf_7 : decode cX10_nearOf 7 = .ok (.invokevirtual 66, 3) := by decide +kernel
theorem dX10_nearOf_10 : decode cX10_nearOf 10 = .ok (.aload_n 0, 1) := by decide +kernel
theorem dX10_nearOf_11 : decode cX10_nearOf 11 = .ok (.invokevirtual 58, 3) := by decide +kernel
theorem dX10_nearOf_14 : decode cX10_nearOf 14 = .ok (.istore 4, 2) := by decide +kernel
theorem dX10_nearOf_16 : decode cX10_nearOf 16 = .ok (.iload_n 3, 1) := by decide +kernel
theorem dX10_nearOf_17 : decode cX10_nearOf 17 = .ok (.iconst 2, 1) := by decide +kernel
theorem dX10_nearOf_18 : decode cX10_nearOf 18 = .ok (.if_icmp .ge 30, 3) := by decide +kernel
theorem dX10_nearOf_21 : decode cX10_nearOf 21 = .ok (.iload_n 3, 1) := by decide +kernel
theorem dX10_nearOf_22 : decode cX10_nearOf 22 = .ok (.iconst 1, 1) := by decide +kernel
theorem dX10_nearOf_23 : decode cX10_nearOf 23 = .ok (.if_icmp .ne 8, 3) := by decide +kernel
theorem dX10_nearOf_26 : decode cX10_nearOf 26 = .ok (.iload 4, 2) := by decide +kernel
theorem dX10_nearOf_28 : decode cX10_nearOf 28 = .ok (.goto 19, 3) := by decide +kernel
theorem dX10_nearOf_31 : decode cX10_nearOf 31 = .ok (.sipush 200, 3) := by decide +kernel
theorem dX10_nearOf_34 : decode cX10_nearOf 34 = .ok (.iload 4, 2) := by decide +kernel
theorem dX10_nearOf_36 : decode cX10_nearOf 36 = .ok (.imul, 1) := by decide +kernel
theorem dX10_nearOf_37 : decode cX10_nearOf 37 = .ok (.aload_n 0, 1) := by decide +kernel
theorem dX10_nearOf_38 : decode cX10_nearOf 38 = .ok (.getfield 49, 3) := by decide +kernel
theorem dX10_nearOf_41 : decode cX10_nearOf 41 = .ok (.aload_n 0, 1) := by decide +kernel
theorem dX10_nearOf_42 : decode cX10_nearOf 42 = .ok (.getfield 52, 3) := by decide +kernel
theorem dX10_nearOf_45 : decode cX10_nearOf 45 = .ok (.iadd, 1) := by decide +kernel
theorem dX10_nearOf_46 : decode cX10_nearOf 46 = .ok (.idiv, 1) := by decide +kernel
theorem dX10_nearOf_47 : decode cX10_nearOf 47 = .ok (.ireturn, 1) := by decide +kernel
theorem dX10_nearOf_48 : decode cX10_nearOf 48 = .ok (.iconst 2, 1) := by decide +kernel
theorem dX10_nearOf_49 : decode cX10_nearOf 49 = .ok (.iload 4, 2) := by decide +kernel
theorem dX10_nearOf_51 : decode cX10_nearOf 51 = .ok (.imul, 1) := by decide +kernel
theorem dX10_nearOf_52 : decode cX10_nearOf 52 = .ok (.i2f, 1) := by decide +kernel
theorem dX10_nearOf_53 : decode cX10_nearOf 53 = .ok (.aload_n 0, 1) := by decide +kernel
theorem dX10_nearOf_54 : decode cX10_nearOf 54 = .ok (.getfield 49, 3) := by decide +kernel
theorem dX10_nearOf_57 : decode cX10_nearOf 57 = .ok (.aload_n 0, 1) := by decide +kernel
theorem dX10_nearOf_58 : decode cX10_nearOf 58 = .ok (.getfield 52, 3) := by decide +kernel
theorem dX10_nearOf_61 : decode cX10_nearOf 61 = .ok (.iadd, 1) := by decide +kernel
theorem dX10_nearOf_62 : decode cX10_nearOf 62 = .ok (.i2f, 1) := by decide +kernel
theorem dX10_nearOf_63 : decode cX10_nearOf 63 = .ok (.fdiv, 1) := by decide +kernel
theorem dX10_nearOf_64 : decode cX10_nearOf 64 = .ok (.invokestatic 185, 3) := by decide +kernel
theorem dX10_nearOf_67 : decode cX10_nearOf 67 = .ok (.ireturn, 1) := by decide +kernel
theorem dX10_near_0 : decode cX10_near 0 = .ok (.aload_n 0, 1) := by decide +kernel
theorem dX10_near_1 : decode cX10_near 1 = .ok (.iconst 0, 1) := by decide +kernel
theorem dX10_near_2 : decode cX10_near 2 = .ok (.putfield 34, 3) := by decide +kernel
theorem dX10_near_5 : decode cX10_near 5 = .ok (.aload_n 0, 1) := by decide +kernel
theorem dX10_near_6 : decode cX10_near 6 = .ok (.iload_n 1, 1) := by decide +kernel
theorem dX10_near_7 : decode cX10_near 7 = .ok (.invokevirtual 107, 3) := by decide +kernel
theorem dX10_near_10 : decode cX10_near 10 = .ok (.ifCond .eq 19, 3) := by decide +kernel
theorem dX10_near_13 : decode cX10_near 13 = .ok (.iload_n 2, 1) := by decide +kernel
theorem dX10_near_14 : decode cX10_near 14 = .ok (.iconst 0, 1) := by decide +kernel
theorem dX10_near_15 : decode cX10_near 15 = .ok (.aload_n 0, 1) := by decide +kernel
theorem dX10_near_16 : decode cX10_near 16 = .ok (.getfield 7, 3) := by decide +kernel
theorem dX10_near_19 : decode cX10_near 19 = .ok (.iconst 1, 1) := by decide +kernel
theorem dX10_near_20 : decode cX10_near 20 = .ok (.iaload, 1) := by decide +kernel
theorem dX10_near_21 : decode cX10_near 21 = .ok (.iconst 1, 1) := by decide +kernel
theorem dX10_near_22 : decode cX10_near 22 = .ok (.isub, 1) := by decide +kernel
theorem dX10_near_23 : decode cX10_near 23 = .ok (.invokestatic 41, 3) := by decide +kernel
theorem dX10_near_26 : decode cX10_near 26 = .ok (.ifCond .ne 9, 3) := by decide +kernel
theorem dX10_near_29 : decode cX10_near 29 = .ok (.aload_n 0, 1) := by decide +kernel
theorem dX10_near_30 : decode cX10_near 30 = .ok (.iconst 1, 1) := by decide +kernel
theorem dX10_near_31 : decode cX10_near 31 = .ok (.invokevirtual 95, 3) := by decide +kernel
theorem dX10_near_34 : decode cX10_near 34 = .ok (.ireturn, 1) := by decide +kernel
theorem dX10_near_35 : decode cX10_near 35 = .ok (.iload_n 3, 1) := by decide +kernel
theorem dX10_near_36 : decode cX10_near 36 = .ok (.iconst 0, 1) := by decide +kernel
theorem dX10_near_37 : decode cX10_near 37 = .ok (.iconst 2, 1) := by decide +kernel
theorem dX10_near_38 : decode cX10_near 38 = .ok (.invokestatic 41, 3) := by decide +kernel
theorem dX10_near_41 : decode cX10_near 41 = .ok (.ifCond .eq 13, 3) := by decide +kernel
theorem dX10_near_44 : decode cX10_near 44 = .ok (.aload_n 0, 1) := by decide +kernel
theorem dX10_near_45 : decode cX10_near 45 = .ok (.iload_n 1, 1) := by decide +kernel
theorem dX10_near_46 : decode cX10_near 46 = .ok (.iload_n 2, 1) := by decide +kernel
theorem dX10_near_47 : decode cX10_near 47 = .ok (.iload_n 3, 1) := by decide +kernel
theorem dX10_near_48 : decode cX10_near 48 = .ok (.invokevirtual 191, 3) := by decide +kernel
theorem dX10_near_51 : decode cX10_near 51 = .ok (.goto 8, 3) := by decide +kernel
theorem dX10_near_54 : decode cX10_near 54 = .ok (.aload_n 0, 1) := by decide +kernel
theorem dX10_near_55 : decode cX10_near 55 = .ok (.iconst 2, 1) := by decide +kernel
theorem dX10_near_56 : decode cX10_near 56 = .ok (.invokevirtual 95, 3) := by decide +kernel
theorem dX10_near_59 : decode cX10_near 59 = .ok (.ireturn, 1) := by decide +kernel
theorem dX10_firstOne_0 : decode cX10_firstOne 0 = .ok (.iload_n 2, 1) := by decide +kernel
theorem dX10_firstOne_1 : decode cX10_firstOne 1 = .ok (.istore_n 3, 1) := by decide +kernel
theorem dX10_firstOne_2 : decode cX10_firstOne 2 = .ok (.iload_n 3, 1) := by decide +kernel
theorem dX10_firstOne_3 : decode cX10_firstOne 3 = .ok (.aload_n 0, 1) := by decide +kernel
theorem dX10_firstOne_4 : decode cX10_firstOne 4 = .ok (.getfield 49, 3) := by decide +kernel
theorem dX10_firstOne_7 : decode cX10_firstOne 7 = .ok (.if_icmp .ge 19, 3) := by decide +kernel
theorem dX10_firstOne_10 : decode cX10_firstOne 10 = .ok (.aload_n 0, 1) := by decide +kernel
theorem dX10_firstOne_11 : decode cX10_firstOne 11 = .ok (.getfield 22, 3) := by decide +kernel
theorem dX10_firstOne_14 : decode cX10_firstOne 14 = .ok (.iload_n 3, 1) := by decide +kernel
theorem dX10_firstOne_15 : decode cX10_firstOne 15 = .ok (.iaload, 1) := by decide +kernel
theorem dX10_firstOne_16 : decode cX10_firstOne 16 = .ok (.iload_n 1, 1) := by decide +kernel
theorem dX10_firstOne_17 : decode cX10_firstOne 17 = .ok (.if_icmp .eq 9, 3) := by decide +kernel
theorem dX10_firstOne_20 : decode cX10_firstOne 20 = .ok (.iinc 3 1, 3) := by decide +kernel
theorem dX10_firstOne_23 : decode cX10_firstOne 23 = .ok (.goto (-21), 3) := by decide +kernel
theorem dX10_firstOne_26 : decode cX10_firstOne 26 = .ok (.iload_n 3, 1) := by decide +kernel
theorem dX10_firstOne_27 : decode cX10_firstOne 27 = .ok (.ireturn, 1) := by decide +kernel
theorem dX10_firstOther_0 : decode cX10_firstOther 0 = .ok (.iload_n 2, 1) := by decide +kernel
theorem dX10_firstOther_1 : decode cX10_firstOther 1 = .ok (.istore_n 3, 1) := by decide +kernel
theorem dX10_firstOther_2 : decode cX10_firstOther 2 = .ok (.iload_n 3, 1) := by decide +kernel
theorem dX10_firstOther_3 : decode cX10_firstOther 3 = .ok (.aload_n 0, 1) := by decide +kernel
theorem dX10_firstOther_4 : decode cX10_firstOther 4 = .ok (.getfield 52, 3) := by decide +kernel
theorem dX10_firstOther_7 : decode cX10_firstOther 7 = .ok (.if_icmp .ge 19, 3) := by decide +kernel
theorem dX10_firstOther_10 : decode cX10_firstOther 10 = .ok (.aload_n 0, 1) := by decide +kernel
theorem dX10_firstOther_11 : decode cX10_firstOther 11 = .ok (.getfield 25, 3) := by decide +kernel
theorem dX10_firstOther_14 : decode cX10_firstOther 14 = .ok (.iload_n 3, 1) := by decide +kernel
theorem dX10_firstOther_15 : decode cX10_firstOther 15 = .ok (.iaload, 1) := by decide +kernel
theorem dX10_firstOther_16 : decode cX10_firstOther 16 = .ok (.iload_n 1, 1) := by decide +kernel
theorem dX10_firstOther_17 : decode cX10_firstOther 17 = .ok (.if_icmp .eq 9, 3) := by decide +kernel
theorem dX10_firstOther_20 : decode cX10_firstOther 20 = .ok (.iinc 3 1, 3) := by decide +kernel
theorem dX10_firstOther_23 : decode cX10_firstOther 23 = .ok (.goto (-21), 3) := by decide +kernel
theorem dX10_firstOther_26 : decode cX10_firstOther 26 = .ok (.iload_n 3, 1) := by decide +kernel
theorem dX10_firstOther_27 : decode cX10_firstOther 27 = .ok (.ireturn, 1) := by decide +kernel
theorem dX10_commonOf_0 : decode cX10_commonOf 0 = .ok (.aload_n 0, 1) := by decide +kernel
theorem dX10_commonOf_1 : decode cX10_commonOf 1 = .ok (.iload_n 1, 1) := by decide +kernel
theorem dX10_commonOf_2 : decode cX10_commonOf 2 = .ok (.invokevirtual 62, 3) := by decide +kernel
theorem dX10_commonOf_5 : decode cX10_commonOf 5 = .ok (.aload_n 0, 1) := by decide +kernel
theorem dX10_commonOf_6 : decode cX10_commonOf 6 = .ok (.iload_n 2, 1) := by decide +kernel
theorem dX10_commonOf_7 : decode cX10_commonOf 7 = .ok (.invokevirtual 195, 3) := by decide +kernel
theorem dX10_commonOf_10 : decode cX10_commonOf 10 = .ok (.aload_n 0, 1) := by decide +kernel
theorem dX10_commonOf_11 : decode cX10_commonOf 11 = .ok (.invokevirtual 58, 3) := by decide +kernel
theorem dX10_commonOf_14 : decode cX10_commonOf 14 = .ok (.istore 4, 2) := by decide +kernel
theorem dX10_commonOf_16 : decode cX10_commonOf 16 = .ok (.iload_n 3, 1) := by decide +kernel
theorem dX10_commonOf_17 : decode cX10_commonOf 17 = .ok (.iload 4, 2) := by decide +kernel
theorem dX10_commonOf_19 : decode cX10_commonOf 19 = .ok (.if_icmp .lt 5, 3) := by decide +kernel
theorem dX10_commonOf_22 : decode cX10_commonOf 22 = .ok (.iconst (-1), 1) := by decide +kernel
theorem dX10_commonOf_23 : decode cX10_commonOf 23 = .ok (.ireturn, 1) := by decide +kernel
theorem dX10_commonOf_24 : decode cX10_commonOf 24 = .ok (.iconst 0, 1) := by decide +kernel
theorem dX10_commonOf_25 : decode cX10_commonOf 25 = .ok (.istore 5, 2) := by decide +kernel
theorem dX10_commonOf_27 : decode cX10_commonOf 27 = .ok (.iconst 0, 1) := by decide +kernel
theorem dX10_commonOf_28 : decode cX10_commonOf 28 = .ok (.istore 6, 2) := by decide +kernel
theorem dX10_commonOf_30 : decode cX10_commonOf 30 = .ok (.iconst (-1), 1) := by decide +kernel
theorem dX10_commonOf_31 : decode cX10_commonOf 31 = .ok (.istore 7, 2) := by decide +kernel
theorem dX10_commonOf_33 : decode cX10_commonOf 33 = .ok (.iconst 0, 1) := by decide +kernel
theorem dX10_commonOf_34 : decode cX10_commonOf 34 = .ok (.istore 8, 2) := by decide +kernel
theorem dX10_commonOf_36 : decode cX10_commonOf 36 = .ok (.iload 8, 2) := by decide +kernel
theorem dX10_commonOf_38 : decode cX10_commonOf 38 = .ok (.iload_n 3, 1) := by decide +kernel
theorem dX10_commonOf_39 : decode cX10_commonOf 39 = .ok (.if_icmp .gt 122, 3) := by decide +kernel
theorem dX10_commonOf_42 : decode cX10_commonOf 42 = .ok (.iconst (-1), 1) := by decide +kernel
theorem dX10_commonOf_43 : decode cX10_commonOf 43 = .ok (.istore 7, 2) := by decide +kernel
theorem dX10_commonOf_45 : decode cX10_commonOf 45 = .ok (.iconst 0, 1) := by decide +kernel
theorem dX10_commonOf_46 : decode cX10_commonOf 46 = .ok (.istore 9, 2) := by decide +kernel
theorem dX10_commonOf_48 : decode cX10_commonOf 48 = .ok (.iload 9, 2) := by decide +kernel
theorem dX10_commonOf_50 : decode cX10_commonOf 50 = .ok (.ifCond .ne 78, 3) := by decide +kernel
theorem dX10_commonOf_53 : decode cX10_commonOf 53 = .ok (.iinc 7 1, 3) := by decide +kernel
theorem dX10_commonOf_56 : decode cX10_commonOf 56 = .ok (.aload_n 0, 1) := by decide +kernel
theorem dX10_commonOf_57 : decode cX10_commonOf 57 = .ok (.iload 7, 2) := by decide +kernel
theorem dX10_commonOf_59 : decode cX10_commonOf 59 = .ok (.iload 5, 2) := by decide +kernel
theorem dX10_commonOf_61 : decode cX10_commonOf 61 = .ok (.invokevirtual 198, 3) := by decide +kernel
theorem dX10_commonOf_64 : decode cX10_commonOf 64 = .ok (.istore 10, 2) := by decide +kernel
theorem dX10_commonOf_66 : decode cX10_commonOf 66 = .ok (.aload_n 0, 1) := by decide +kernel
theorem dX10_commonOf_67 : decode cX10_commonOf 67 = .ok (.iload 7, 2) := by decide +kernel
theorem dX10_commonOf_69 : decode cX10_commonOf 69 = .ok (.iload 6, 2) := by decide +kernel
theorem dX10_commonOf_71 : decode cX10_commonOf 71 = .ok (.invokevirtual 201, 3) := by decide +kernel
theorem dX10_commonOf_74 : decode cX10_commonOf 74 = .ok (.istore 11, 2) := by decide +kernel
theorem dX10_commonOf_76 : decode cX10_commonOf 76 = .ok (.iload 10, 2) := by decide +kernel
theorem dX10_commonOf_78 : decode cX10_commonOf 78 = .ok (.aload_n 0, 1) := by decide +kernel
theorem dX10_commonOf_79 : decode cX10_commonOf 79 = .ok (.getfield 49, 3) := by decide +kernel
theorem dX10_commonOf_82 : decode cX10_commonOf 82 = .ok (.if_icmp .ge 40, 3) := by decide +kernel
theorem dX10_commonOf_85 : decode cX10_commonOf 85 = .ok (.iload 11, 2) := by decide +kernel
theorem dX10_commonOf_87 : decode cX10_commonOf 87 = .ok (.aload_n 0, 1) := by decide +kernel
theorem dX10_commonOf_88 : decode cX10_commonOf 88 = .ok (.getfield 52, 3) := by decide +kernel
theorem dX10_commonOf_91 : decode cX10_commonOf 91 = .ok (.if_icmp .ge 31, 3) := by decide +kernel
theorem dX10_commonOf_94 : decode cX10_commonOf 94 = .ok (.aload_n 0, 1) := by decide +kernel
theorem dX10_commonOf_95 : decode cX10_commonOf 95 = .ok (.getfield 28, 3) := by decide +kernel
theorem dX10_commonOf_98 : decode cX10_commonOf 98 = .ok (.bipush 13, 2) := by decide +kernel
theorem dX10_commonOf_100 : decode cX10_commonOf 100 = .ok (.iload 10, 2) := by decide +kernel
theorem dX10_commonOf_102 : decode cX10_commonOf 102 = .ok (.iconst 1, 1) := by decide +kernel
theorem dX10_commonOf_103 : decode cX10_commonOf 103 = .ok (.iadd, 1) := by decide +kernel
theorem dX10_commonOf_104 : decode cX10_commonOf 104 = .ok (.imul, 1) := by decide +kernel
theorem dX10_commonOf_105 : decode cX10_commonOf 105 = .ok (.iload 11, 2) := by decide +kernel
theorem dX10_commonOf_107 : decode cX10_commonOf 107 = .ok (.iadd, 1) := by decide +kernel
theorem dX10_commonOf_108 : decode cX10_commonOf 108 = .ok (.iconst 1, 1) := by decide +kernel
theorem dX10_commonOf_109 : decode cX10_commonOf 109 = .ok (.iadd, 1) := by decide +kernel
theorem dX10_commonOf_110 : decode cX10_commonOf 110 = .ok (.iaload, 1) := by decide +kernel
theorem dX10_commonOf_111 : decode cX10_commonOf 111 = .ok (.iload 4, 2) := by decide +kernel
theorem dX10_commonOf_113 : decode cX10_commonOf 113 = .ok (.iconst 1, 1) := by decide +kernel
theorem dX10_commonOf_114 : decode cX10_commonOf 114 = .ok (.isub, 1) := by decide +kernel
theorem dX10_commonOf_115 : decode cX10_commonOf 115 = .ok (.if_icmp .ne 7, 3) := by decide +kernel
theorem dX10_commonOf_118 : decode cX10_commonOf 118 = .ok (.iconst 1, 1) := by decide +kernel
theorem dX10_commonOf_119 : decode cX10_commonOf 119 = .ok (.goto 4, 3) := by decide +kernel
theorem dX10_commonOf_122 : decode cX10_commonOf 122 = .ok (.iconst 0, 1) := by decide +kernel
theorem dX10_commonOf_123 : decode cX10_commonOf 123 = .ok (.istore 9, 2) := by decide +kernel
theorem dX10_commonOf_125 : decode cX10_commonOf 125 = .ok (.goto (-77), 3) := by decide +kernel
theorem dX10_commonOf_128 : decode cX10_commonOf 128 = .ok (.aload_n 0, 1) := by decide +kernel
theorem dX10_commonOf_129 : decode cX10_commonOf 129 = .ok (.iload 7, 2) := by decide +kernel
theorem dX10_commonOf_131 : decode cX10_commonOf 131 = .ok (.iload 5, 2) := by decide +kernel
theorem dX10_commonOf_133 : decode cX10_commonOf 133 = .ok (.invokevirtual 198, 3) := by decide +kernel
theorem dX10_commonOf_136 : decode cX10_commonOf 136 = .ok (.iconst 1, 1) := by decide +kernel
theorem dX10_commonOf_137 : decode cX10_commonOf 137 = .ok (.iadd, 1) := by decide +kernel
theorem dX10_commonOf_138 : decode cX10_commonOf 138 = .ok (.istore 5, 2) := by decide +kernel
theorem dX10_commonOf_140 : decode cX10_commonOf 140 = .ok (.aload_n 0, 1) := by decide +kernel
theorem dX10_commonOf_141 : decode cX10_commonOf 141 = .ok (.iload 7, 2) := by decide +kernel
theorem dX10_commonOf_143 : decode cX10_commonOf 143 = .ok (.iload 6, 2) := by decide +kernel
theorem dX10_commonOf_145 : decode cX10_commonOf 145 = .ok (.invokevirtual 201, 3) := by decide +kernel
theorem dX10_commonOf_148 : decode cX10_commonOf 148 = .ok (.iconst 1, 1) := by decide +kernel
theorem dX10_commonOf_149 : decode cX10_commonOf 149 = .ok (.iadd, 1) := by decide +kernel
theorem dX10_commonOf_150 : decode cX10_commonOf 150 = .ok (.istore 6, 2) := by decide +kernel
theorem dX10_commonOf_152 : decode cX10_commonOf 152 = .ok (.iinc 4 (-1), 3) := by decide +kernel
theorem dX10_commonOf_155 : decode cX10_commonOf 155 = .ok (.iinc 8 1, 3) := by decide +kernel
theorem dX10_commonOf_158 : decode cX10_commonOf 158 = .ok (.goto (-122), 3) := by decide +kernel
theorem dX10_commonOf_161 : decode cX10_commonOf 161 = .ok (.iload 7, 2) := by decide +kernel
theorem dX10_commonOf_163 : decode cX10_commonOf 163 = .ok (.ireturn, 1) := by decide +kernel
theorem dX10_common_0 : decode cX10_common 0 = .ok (.aload_n 0, 1) := by decide +kernel
theorem dX10_common_1 : decode cX10_common 1 = .ok (.iconst 0, 1) := by decide +kernel
theorem dX10_common_2 : decode cX10_common 2 = .ok (.putfield 34, 3) := by decide +kernel
theorem dX10_common_5 : decode cX10_common 5 = .ok (.aload_n 0, 1) := by decide +kernel
theorem dX10_common_6 : decode cX10_common 6 = .ok (.iload_n 1, 1) := by decide +kernel
theorem dX10_common_7 : decode cX10_common 7 = .ok (.invokevirtual 107, 3) := by decide +kernel
theorem dX10_common_10 : decode cX10_common 10 = .ok (.ifCond .eq 11, 3) := by decide +kernel
theorem dX10_common_13 : decode cX10_common 13 = .ok (.aload_n 0, 1) := by decide +kernel
theorem dX10_common_14 : decode cX10_common 14 = .ok (.iload_n 2, 1) := by decide +kernel
theorem dX10_common_15 : decode cX10_common 15 = .ok (.invokevirtual 107, 3) := by decide +kernel
theorem dX10_common_18 : decode cX10_common 18 = .ok (.ifCond .ne 9, 3) := by decide +kernel
theorem dX10_common_21 : decode cX10_common 21 = .ok (.aload_n 0, 1) := by decide +kernel
theorem dX10_common_22 : decode cX10_common 22 = .ok (.iconst 1, 1) := by decide +kernel
theorem dX10_common_23 : decode cX10_common 23 = .ok (.invokevirtual 95, 3) := by decide +kernel
theorem dX10_common_26 : decode cX10_common 26 = .ok (.ireturn, 1) := by decide +kernel
theorem dX10_common_27 : decode cX10_common 27 = .ok (.iload_n 3, 1) := by decide +kernel
theorem dX10_common_28 : decode cX10_common 28 = .ok (.iconst 0, 1) := by decide +kernel
theorem dX10_common_29 : decode cX10_common 29 = .ok (.bipush 11, 2) := by decide +kernel
theorem dX10_common_31 : decode cX10_common 31 = .ok (.invokestatic 41, 3) := by decide +kernel
theorem dX10_common_34 : decode cX10_common 34 = .ok (.ifCond .eq 13, 3) := by decide +kernel
theorem dX10_common_37 : decode cX10_common 37 = .ok (.aload_n 0, 1) := by decide +kernel
theorem dX10_common_38 : decode cX10_common 38 = .ok (.iload_n 1, 1) := by decide +kernel
theorem dX10_common_39 : decode cX10_common 39 = .ok (.iload_n 2, 1) := by decide +kernel
theorem dX10_common_40 : decode cX10_common 40 = .ok (.iload_n 3, 1) := by decide +kernel
theorem dX10_common_41 : decode cX10_common 41 = .ok (.invokevirtual 204, 3) := by decide +kernel
theorem dX10_common_44 : decode cX10_common 44 = .ok (.goto 8, 3) := by decide +kernel
theorem dX10_common_47 : decode cX10_common 47 = .ok (.aload_n 0, 1) := by decide +kernel
theorem dX10_common_48 : decode cX10_common 48 = .ok (.iconst 2, 1) := by decide +kernel
theorem dX10_common_49 : decode cX10_common 49 = .ok (.invokevirtual 95, 3) := by decide +kernel
theorem dX10_common_52 : decode cX10_common 52 = .ok (.ireturn, 1) := by decide +kernel
theorem dX10_paidOf_0 : decode cX10_paidOf 0 = .ok (.aload_n 0, 1) := by decide +kernel
theorem dX10_paidOf_1 : decode cX10_paidOf 1 = .ok (.getfield 7, 3) := by decide +kernel
theorem dX10_paidOf_4 : decode cX10_paidOf 4 = .ok (.iload_n 1, 1) := by decide +kernel
theorem dX10_paidOf_5 : decode cX10_paidOf 5 = .ok (.invokestatic 45, 3) := by decide +kernel
theorem dX10_paidOf_8 : decode cX10_paidOf 8 = .ok (.iconst 1, 1) := by decide +kernel
theorem dX10_paidOf_9 : decode cX10_paidOf 9 = .ok (.iadd, 1) := by decide +kernel
theorem dX10_paidOf_10 : decode cX10_paidOf 10 = .ok (.iaload, 1) := by decide +kernel
theorem dX10_paidOf_11 : decode cX10_paidOf 11 = .ok (.ifCond .ne 11, 3) := by decide +kernel
theorem dX10_paidOf_14 : decode cX10_paidOf 14 = .ok (.aload_n 0, 1) := by decide +kernel
theorem dX10_paidOf_15 : decode cX10_paidOf 15 = .ok (.iload_n 1, 1) := by decide +kernel
theorem dX10_paidOf_16 : decode cX10_paidOf 16 = .ok (.invokevirtual 207, 3) := by decide +kernel
theorem dX10_paidOf_19 : decode cX10_paidOf 19 = .ok (.goto 14, 3) := by decide +kernel
theorem dX10_paidOf_22 : decode cX10_paidOf 22 = .ok (.aload_n 0, 1) := by decide +kernel
theorem dX10_paidOf_23 : decode cX10_paidOf 23 = .ok (.getfield 7, 3) := by decide +kernel
theorem dX10_paidOf_26 : decode cX10_paidOf 26 = .ok (.iload_n 1, 1) := by decide +kernel
theorem dX10_paidOf_27 : decode cX10_paidOf 27 = .ok (.invokestatic 45, 3) := by decide +kernel
theorem dX10_paidOf_30 : decode cX10_paidOf 30 = .ok (.iconst 4, 1) := by decide +kernel
theorem dX10_paidOf_31 : decode cX10_paidOf 31 = .ok (.iadd, 1) := by decide +kernel
theorem dX10_paidOf_32 : decode cX10_paidOf 32 = .ok (.iaload, 1) := by decide +kernel
theorem dX10_paidOf_33 : decode cX10_paidOf 33 = .ok (.istore_n 3, 1) := by decide +kernel
theorem dX10_paidOf_34 : decode cX10_paidOf 34 = .ok (.aload_n 0, 1) := by decide +kernel
theorem dX10_paidOf_35 : decode cX10_paidOf 35 = .ok (.getfield 7, 3) := by decide +kernel
theorem dX10_paidOf_38 : decode cX10_paidOf 38 = .ok (.iload_n 1, 1) := by decide +kernel
theorem dX10_paidOf_39 : decode cX10_paidOf 39 = .ok (.invokestatic 45, 3) := by decide +kernel
theorem dX10_paidOf_42 : decode cX10_paidOf 42 = .ok (.iaload, 1) := by decide +kernel
theorem dX10_paidOf_43 : decode cX10_paidOf 43 = .ok (.aload_n 0, 1) := by decide +kernel
theorem dX10_paidOf_44 : decode cX10_paidOf 44 = .ok (.getfield 7, 3) := by decide +kernel
theorem dX10_paidOf_47 : decode cX10_paidOf 47 = .ok (.iload_n 2, 1) := by decide +kernel
theorem dX10_paidOf_48 : decode cX10_paidOf 48 = .ok (.invokestatic 101, 3) := by decide +kernel
theorem dX10_paidOf_51 : decode cX10_paidOf 51 = .ok (.iaload, 1) := by decide +kernel
theorem dX10_paidOf_52 : decode cX10_paidOf 52 = .ok (.imul, 1) := by decide +kernel
theorem dX10_paidOf_53 : decode cX10_paidOf 53 = .ok (.iload_n 3, 1) := by decide +kernel
theorem dX10_paidOf_54 : decode cX10_paidOf 54 = .ok (.imul, 1) := by decide +kernel
theorem dX10_paidOf_55 : decode cX10_paidOf 55 = .ok (.bipush 100, 2) := by decide +kernel
theorem dX10_paidOf_57 : decode cX10_paidOf 57 = .ok (.idiv, 1) := by decide +kernel
theorem dX10_paidOf_58 : decode cX10_paidOf 58 = .ok (.ireturn, 1) := by decide +kernel
theorem dX10_ifPaid_0 : decode cX10_ifPaid 0 = .ok (.aload_n 0, 1) := by decide +kernel
theorem dX10_ifPaid_1 : decode cX10_ifPaid 1 = .ok (.iconst 0, 1) := by decide +kernel
theorem dX10_ifPaid_2 : decode cX10_ifPaid 2 = .ok (.putfield 34, 3) := by decide +kernel
theorem dX10_ifPaid_5 : decode cX10_ifPaid 5 = .ok (.aload_n 0, 1) := by decide +kernel
theorem dX10_ifPaid_6 : decode cX10_ifPaid 6 = .ok (.iload_n 1, 1) := by decide +kernel
theorem dX10_ifPaid_7 : decode cX10_ifPaid 7 = .ok (.invokevirtual 107, 3) := by decide +kernel
theorem dX10_ifPaid_10 : decode cX10_ifPaid 10 = .ok (.ifCond .eq 19, 3) := by decide +kernel
theorem dX10_ifPaid_13 : decode cX10_ifPaid 13 = .ok (.iload_n 2, 1) := by decide +kernel
theorem dX10_ifPaid_14 : decode cX10_ifPaid 14 = .ok (.invokestatic 92, 3) := by decide +kernel
theorem dX10_ifPaid_17 : decode cX10_ifPaid 17 = .ok (.ifCond .eq 12, 3) := by decide +kernel
theorem dX10_ifPaid_20 : decode cX10_ifPaid 20 = .ok (.aload_n 0, 1) := by decide +kernel
theorem dX10_ifPaid_21 : decode cX10_ifPaid 21 = .ok (.iload_n 1, 1) := by decide +kernel
theorem dX10_ifPaid_22 : decode cX10_ifPaid 22 = .ok (.iload_n 2, 1) := by decide +kernel
theorem dX10_ifPaid_23 : decode cX10_ifPaid 23 = .ok (.invokevirtual 210, 3) := by decide +kernel
theorem dX10_ifPaid_26 : decode cX10_ifPaid 26 = .ok (.goto 8, 3) := by decide +kernel
theorem dX10_ifPaid_29 : decode cX10_ifPaid 29 = .ok (.aload_n 0, 1) := by decide +kernel
theorem dX10_ifPaid_30 : decode cX10_ifPaid 30 = .ok (.iconst 1, 1) := by decide +kernel
theorem dX10_ifPaid_31 : decode cX10_ifPaid 31 = .ok (.invokevirtual 95, 3) := by decide +kernel
theorem dX10_ifPaid_34 : decode cX10_ifPaid 34 = .ok (.ireturn, 1) := by decide +kernel
theorem dX10_costOf_0 : decode cX10_costOf 0 = .ok (.aload_n 0, 1) := by decide +kernel
theorem dX10_costOf_1 : decode cX10_costOf 1 = .ok (.invokevirtual 213, 3) := by decide +kernel
theorem dX10_costOf_4 : decode cX10_costOf 4 = .ok (.aload_n 0, 1) := by decide +kernel
theorem dX10_costOf_5 : decode cX10_costOf 5 = .ok (.getfield 7, 3) := by decide +kernel
theorem dX10_costOf_8 : decode cX10_costOf 8 = .ok (.iload_n 1, 1) := by decide +kernel
theorem dX10_costOf_9 : decode cX10_costOf 9 = .ok (.invokestatic 45, 3) := by decide +kernel
theorem dX10_costOf_12 : decode cX10_costOf 12 = .ok (.iaload, 1) := by decide +kernel
theorem dX10_costOf_13 : decode cX10_costOf 13 = .ok (.aload_n 0, 1) := by decide +kernel
theorem dX10_costOf_14 : decode cX10_costOf 14 = .ok (.iload_n 1, 1) := by decide +kernel
theorem dX10_costOf_15 : decode cX10_costOf 15 = .ok (.invokevirtual 207, 3) := by decide +kernel
theorem dX10_costOf_18 : decode cX10_costOf 18 = .ok (.imul, 1) := by decide +kernel
theorem dX10_costOf_19 : decode cX10_costOf 19 = .ok (.istore_n 3, 1) := by decide +kernel
theorem dX10_costOf_20 : decode cX10_costOf 20 = .ok (.aload_n 0, 1) := by decide +kernel
theorem dX10_costOf_21 : decode cX10_costOf 21 = .ok (.iload_n 1, 1) := by decide +kernel
theorem dX10_costOf_22 : decode cX10_costOf 22 = .ok (.invokevirtual 116, 3) := by decide +kernel
theorem dX10_costOf_25 : decode cX10_costOf 25 = .ok (.iload_n 3, 1) := by decide +kernel
theorem dX10_costOf_26 : decode cX10_costOf 26 = .ok (.aload_n 0, 1) := by decide +kernel
theorem dX10_costOf_27 : decode cX10_costOf 27 = .ok (.getfield 7, 3) := by decide +kernel
theorem dX10_costOf_30 : decode cX10_costOf 30 = .ok (.iload_n 2, 1) := by decide +kernel
theorem dX10_costOf_31 : decode cX10_costOf 31 = .ok (.invokestatic 45, 3) := by decide +kernel
theorem dX10_costOf_34 : decode cX10_costOf 34 = .ok (.iaload, 1) := by decide +kernel
theorem dX10_costOf_35 : decode cX10_costOf 35 = .ok (.aload_n 0, 1) := by decide +kernel
theorem dX10_costOf_36 : decode cX10_costOf 36 = .ok (.iload_n 2, 1) := by decide +kernel
theorem dX10_costOf_37 : decode cX10_costOf 37 = .ok (.invokevirtual 207, 3) := by decide +kernel
theorem dX10_costOf_40 : decode cX10_costOf 40 = .ok (.imul, 1) := by decide +kernel
theorem dX10_costOf_41 : decode cX10_costOf 41 = .ok (.iadd, 1) := by decide +kernel
theorem dX10_costOf_42 : decode cX10_costOf 42 = .ok (.istore_n 3, 1) := by decide +kernel
theorem dX10_costOf_43 : decode cX10_costOf 43 = .ok (.aload_n 0, 1) := by decide +kernel
theorem dX10_costOf_44 : decode cX10_costOf 44 = .ok (.invokevirtual 216, 3) := by decide +kernel
theorem dX10_costOf_47 : decode cX10_costOf 47 = .ok (.iload_n 3, 1) := by decide +kernel
theorem dX10_costOf_48 : decode cX10_costOf 48 = .ok (.ireturn, 1) := by decide +kernel
theorem dX10_orderMatters_0 : decode cX10_orderMatters 0 = .ok (.aload_n 0, 1) := by decide +kernel
theorem dX10_orderMatters_1 : decode cX10_orderMatters 1 = .ok (.iconst 0, 1) := by decide +kernel
theorem dX10_orderMatters_2 : decode cX10_orderMatters 2 = .ok (.putfield 34, 3) := by decide +kernel
theorem dX10_orderMatters_5 : decode cX10_orderMatters 5 = .ok (.aload_n 0, 1) := by decide +kernel
theorem dX10_orderMatters_6 : decode cX10_orderMatters 6 = .ok (.iload_n 1, 1) := by decide +kernel
theorem dX10_orderMatters_7 : decode cX10_orderMatters 7 = .ok (.invokevirtual 107, 3) := by decide +kernel
theorem dX10_orderMatters_10 : decode cX10_orderMatters 10 = .ok (.ifCond .eq 11, 3) := by decide +kernel
theorem dX10_orderMatters_13 : decode cX10_orderMatters 13 = .ok (.aload_n 0, 1) := by decide +kernel
theorem dX10_orderMatters_14 : decode cX10_orderMatters 14 = .ok (.iload_n 2, 1) := by decide +kernel
theorem dX10_orderMatters_15 : decode cX10_orderMatters 15 = .ok (.invokevirtual 107, 3) := by decide +kernel
theorem dX10_orderMatters_18 : decode cX10_orderMatters 18 = .ok (.ifCond .ne 9, 3) := by decide +kernel
theorem dX10_orderMatters_21 : decode cX10_orderMatters 21 = .ok (.aload_n 0, 1) := by decide +kernel
theorem dX10_orderMatters_22 : decode cX10_orderMatters 22 = .ok (.iconst 1, 1) := by decide +kernel
theorem dX10_orderMatters_23 : decode cX10_orderMatters 23 = .ok (.invokevirtual 95, 3) := by decide +kernel
theorem dX10_orderMatters_26 : decode cX10_orderMatters 26 = .ok (.ireturn, 1) := by decide +kernel
theorem dX10_orderMatters_27 : decode cX10_orderMatters 27 = .ok (.iload_n 1, 1) := by decide +kernel
theorem dX10_orderMatters_28 : decode cX10_orderMatters 28 = .ok (.iload_n 2, 1) := by decide +kernel
theorem dX10_orderMatters_29 : decode cX10_orderMatters 29 = .ok (.if_icmp .ne 9, 3) := by decide +kernel
theorem dX10_orderMatters_32 : decode cX10_orderMatters 32 = .ok (.aload_n 0, 1) := by decide +kernel
theorem dX10_orderMatters_33 : decode cX10_orderMatters 33 = .ok (.iconst 2, 1) := by decide +kernel
theorem dX10_orderMatters_34 : decode cX10_orderMatters 34 = .ok (.invokevirtual 95, 3) := by decide +kernel
theorem dX10_orderMatters_37 : decode cX10_orderMatters 37 = .ok (.ireturn, 1) := by decide +kernel
theorem dX10_orderMatters_38 : decode cX10_orderMatters 38 = .ok (.aload_n 0, 1) := by decide +kernel
theorem dX10_orderMatters_39 : decode cX10_orderMatters 39 = .ok (.getfield 7, 3) := by decide +kernel
theorem dX10_orderMatters_42 : decode cX10_orderMatters 42 = .ok (.iload_n 1, 1) := by decide +kernel
theorem dX10_orderMatters_43 : decode cX10_orderMatters 43 = .ok (.invokestatic 45, 3) := by decide +kernel
theorem dX10_orderMatters_46 : decode cX10_orderMatters 46 = .ok (.iconst 1, 1) := by decide +kernel
theorem dX10_orderMatters_47 : decode cX10_orderMatters 47 = .ok (.iadd, 1) := by decide +kernel
theorem dX10_orderMatters_48 : decode cX10_orderMatters 48 = .ok (.iaload, 1) := by decide +kernel
theorem dX10_orderMatters_49 : decode cX10_orderMatters 49 = .ok (.ifCond .ne 17, 3) := by decide +kernel
theorem dX10_orderMatters_52 : decode cX10_orderMatters 52 = .ok (.aload_n 0, 1) := by decide +kernel
theorem dX10_orderMatters_53 : decode cX10_orderMatters 53 = .ok (.getfield 7, 3) := by decide +kernel
theorem dX10_orderMatters_56 : decode cX10_orderMatters 56 = .ok (.iload_n 2, 1) := by decide +kernel
theorem dX10_orderMatters_57 : decode cX10_orderMatters 57 = .ok (.invokestatic 45, 3) := by decide +kernel
theorem dX10_orderMatters_60 : decode cX10_orderMatters 60 = .ok (.iconst 1, 1) := by decide +kernel
theorem dX10_orderMatters_61 : decode cX10_orderMatters 61 = .ok (.iadd, 1) := by decide +kernel
theorem dX10_orderMatters_62 : decode cX10_orderMatters 62 = .ok (.iaload, 1) := by decide +kernel
theorem dX10_orderMatters_63 : decode cX10_orderMatters 63 = .ok (.ifCond .eq 9, 3) := by decide +kernel
theorem dX10_orderMatters_66 : decode cX10_orderMatters 66 = .ok (.aload_n 0, 1) := by decide +kernel
theorem dX10_orderMatters_67 : decode cX10_orderMatters 67 = .ok (.iconst 3, 1) := by decide +kernel
theorem dX10_orderMatters_68 : decode cX10_orderMatters 68 = .ok (.invokevirtual 95, 3) := by decide +kernel
theorem dX10_orderMatters_71 : decode cX10_orderMatters 71 = .ok (.ireturn, 1) := by decide +kernel
theorem dX10_orderMatters_72 : decode cX10_orderMatters 72 = .ok (.aload_n 0, 1) := by decide +kernel
theorem dX10_orderMatters_73 : decode cX10_orderMatters 73 = .ok (.iload_n 1, 1) := by decide +kernel
theorem dX10_orderMatters_74 : decode cX10_orderMatters 74 = .ok (.iload_n 2, 1) := by decide +kernel
theorem dX10_orderMatters_75 : decode cX10_orderMatters 75 = .ok (.invokevirtual 219, 3) := by decide +kernel
theorem dX10_orderMatters_78 : decode cX10_orderMatters 78 = .ok (.aload_n 0, 1) := by decide +kernel
theorem dX10_orderMatters_79 : decode cX10_orderMatters 79 = .ok (.iload_n 2, 1) := by decide +kernel
theorem dX10_orderMatters_80 : decode cX10_orderMatters 80 = .ok (.iload_n 1, 1) := by decide +kernel
theorem dX10_orderMatters_81 : decode cX10_orderMatters 81 = .ok (.invokevirtual 219, 3) := by decide +kernel
theorem dX10_orderMatters_84 : decode cX10_orderMatters 84 = .ok (.isub, 1) := by decide +kernel
theorem dX10_orderMatters_85 : decode cX10_orderMatters 85 = .ok (.ireturn, 1) := by decide +kernel
theorem dX10_savedOf_0 : decode cX10_savedOf 0 = .ok (.iconst 0, 1) := by decide +kernel
theorem dX10_savedOf_1 : decode cX10_savedOf 1 = .ok (.istore_n 1, 1) := by decide +kernel
theorem dX10_savedOf_2 : decode cX10_savedOf 2 = .ok (.iconst 0, 1) := by decide +kernel
theorem dX10_savedOf_3 : decode cX10_savedOf 3 = .ok (.istore_n 2, 1) := by decide +kernel
theorem dX10_savedOf_4 : decode cX10_savedOf 4 = .ok (.iload_n 2, 1) := by decide +kernel
theorem dX10_savedOf_5 : decode cX10_savedOf 5 = .ok (.aload_n 0, 1) := by decide +kernel
theorem dX10_savedOf_6 : decode cX10_savedOf 6 = .ok (.getfield 7, 3) := by decide +kernel
theorem dX10_savedOf_9 : decode cX10_savedOf 9 = .ok (.iconst 0, 1) := by decide +kernel
theorem dX10_savedOf_10 : decode cX10_savedOf 10 = .ok (.iaload, 1) := by decide +kernel
theorem dX10_savedOf_11 : decode cX10_savedOf 11 = .ok (.if_icmp .ge 30, 3) := by decide +kernel
theorem dX10_savedOf_14 : decode cX10_savedOf 14 = .ok (.iload_n 1, 1) := by decide +kernel
theorem dX10_savedOf_15 : decode cX10_savedOf 15 = .ok (.aload_n 0, 1) := by decide +kernel
theorem dX10_savedOf_16 : decode cX10_savedOf 16 = .ok (.getfield 7, 3) := by decide +kernel
theorem dX10_savedOf_19 : decode cX10_savedOf 19 = .ok (.iload_n 2, 1) := by decide +kernel
theorem dX10_savedOf_20 : decode cX10_savedOf 20 = .ok (.invokestatic 45, 3) := by decide +kernel
theorem dX10_savedOf_23 : decode cX10_savedOf 23 = .ok (.iaload, 1) := by decide +kernel
theorem dX10_savedOf_24 : decode cX10_savedOf 24 = .ok (.bipush 100, 2) := by decide +kernel
theorem dX10_savedOf_26 : decode cX10_savedOf 26 = .ok (.aload_n 0, 1) := by decide +kernel
theorem dX10_savedOf_27 : decode cX10_savedOf 27 = .ok (.iload_n 2, 1) := by decide +kernel
theorem dX10_savedOf_28 : decode cX10_savedOf 28 = .ok (.invokevirtual 207, 3) := by decide +kernel
theorem dX10_savedOf_31 : decode cX10_savedOf 31 = .ok (.isub, 1) := by decide +kernel
theorem dX10_savedOf_32 : decode cX10_savedOf 32 = .ok (.imul, 1) := by decide +kernel
theorem dX10_savedOf_33 : decode cX10_savedOf 33 = .ok (.iadd, 1) := by decide +kernel
theorem dX10_savedOf_34 : decode cX10_savedOf 34 = .ok (.istore_n 1, 1) := by decide +kernel
theorem dX10_savedOf_35 : decode cX10_savedOf 35 = .ok (.iinc 2 1, 3) := by decide +kernel
theorem dX10_savedOf_38 : decode cX10_savedOf 38 = .ok (.goto (-34), 3) := by decide +kernel
theorem dX10_savedOf_41 : decode cX10_savedOf 41 = .ok (.aload_n 0, 1) := by decide +kernel
theorem dX10_savedOf_42 : decode cX10_savedOf 42 = .ok (.getfield 7, 3) := by decide +kernel
theorem dX10_savedOf_45 : decode cX10_savedOf 45 = .ok (.iconst 0, 1) := by decide +kernel
theorem dX10_savedOf_46 : decode cX10_savedOf 46 = .ok (.iaload, 1) := by decide +kernel
theorem dX10_savedOf_47 : decode cX10_savedOf 47 = .ok (.ifCond .ne 7, 3) := by decide +kernel
theorem dX10_savedOf_50 : decode cX10_savedOf 50 = .ok (.fconst 0, 1) := by decide +kernel
theorem dX10_savedOf_51 : decode cX10_savedOf 51 = .ok (.goto 14, 3) := by decide +kernel
theorem dX10_savedOf_54 : decode cX10_savedOf 54 = .ok (.iload_n 1, 1) := by decide +kernel
theorem dX10_savedOf_55 : decode cX10_savedOf 55 = .ok (.i2f, 1) := by decide +kernel
theorem dX10_savedOf_56 : decode cX10_savedOf 56 = .ok (.bipush 100, 2) := by decide +kernel
theorem dX10_savedOf_58 : decode cX10_savedOf 58 = .ok (.aload_n 0, 1) := by decide +kernel
theorem dX10_savedOf_59 : decode cX10_savedOf 59 = .ok (.invokevirtual 172, 3) := by decide +kernel
theorem dX10_savedOf_62 : decode cX10_savedOf 62 = .ok (.imul, 1) := by decide +kernel
theorem dX10_savedOf_63 : decode cX10_savedOf 63 = .ok (.i2f, 1) := by decide +kernel
theorem dX10_savedOf_64 : decode cX10_savedOf 64 = .ok (.fdiv, 1) := by decide +kernel
theorem dX10_savedOf_65 : decode cX10_savedOf 65 = .ok (.invokestatic 185, 3) := by decide +kernel
theorem dX10_savedOf_68 : decode cX10_savedOf 68 = .ok (.ireturn, 1) := by decide +kernel
theorem dX10_saved_0 : decode cX10_saved 0 = .ok (.aload_n 0, 1) := by decide +kernel
theorem dX10_saved_1 : decode cX10_saved 1 = .ok (.iconst 0, 1) := by decide +kernel
theorem dX10_saved_2 : decode cX10_saved 2 = .ok (.putfield 34, 3) := by decide +kernel
theorem dX10_saved_5 : decode cX10_saved 5 = .ok (.aload_n 0, 1) := by decide +kernel
theorem dX10_saved_6 : decode cX10_saved 6 = .ok (.invokevirtual 222, 3) := by decide +kernel
theorem dX10_saved_9 : decode cX10_saved 9 = .ok (.ireturn, 1) := by decide +kernel
theorem dX10_costAll_0 : decode cX10_costAll 0 = .ok (.aload_n 0, 1) := by decide +kernel
theorem dX10_costAll_1 : decode cX10_costAll 1 = .ok (.iconst 2, 1) := by decide +kernel
theorem dX10_costAll_2 : decode cX10_costAll 2 = .ok (.invokevirtual 175, 3) := by decide +kernel
theorem dX10_costAll_5 : decode cX10_costAll 5 = .ok (.ifCond .ne 7, 3) := by decide +kernel
theorem dX10_costAll_8 : decode cX10_costAll 8 = .ok (.dconst 0, 1) := by decide +kernel
theorem dX10_costAll_9 : decode cX10_costAll 9 = .ok (.goto 16, 3) := by decide +kernel
theorem dX10_costAll_12 : decode cX10_costAll 12 = .ok (.aload_n 0, 1) := by decide +kernel
theorem dX10_costAll_13 : decode cX10_costAll 13 = .ok (.iconst 1, 1) := by decide +kernel
theorem dX10_costAll_14 : decode cX10_costAll 14 = .ok (.invokevirtual 175, 3) := by decide +kernel
theorem dX10_costAll_17 : decode cX10_costAll 17 = .ok (.i2d, 1) := by decide +kernel
theorem dX10_costAll_18 : decode cX10_costAll 18 = .ok (.aload_n 0, 1) := by decide +kernel
theorem dX10_costAll_19 : decode cX10_costAll 19 = .ok (.iconst 2, 1) := by decide +kernel
theorem dX10_costAll_20 : decode cX10_costAll 20 = .ok (.invokevirtual 175, 3) := by decide +kernel
theorem dX10_costAll_23 : decode cX10_costAll 23 = .ok (.i2d, 1) := by decide +kernel
theorem dX10_costAll_24 : decode cX10_costAll 24 = .ok (.ddiv, 1) := by decide +kernel
theorem dX10_costAll_25 : decode cX10_costAll 25 = .ok (.dreturn, 1) := by decide +kernel
theorem dX10_wordCost_0 : decode cX10_wordCost 0 = .ok (.aload_n 0, 1) := by decide +kernel
theorem dX10_wordCost_1 : decode cX10_wordCost 1 = .ok (.iconst 0, 1) := by decide +kernel
theorem dX10_wordCost_2 : decode cX10_wordCost 2 = .ok (.putfield 34, 3) := by decide +kernel
theorem dX10_wordCost_5 : decode cX10_wordCost 5 = .ok (.aload_n 0, 1) := by decide +kernel
theorem dX10_wordCost_6 : decode cX10_wordCost 6 = .ok (.invokevirtual 225, 3) := by decide +kernel
theorem dX10_wordCost_9 : decode cX10_wordCost 9 = .ok (.dreturn, 1) := by decide +kernel
theorem dX10_mix_0 : decode cX10_mix 0 = .ok (.aload_n 0, 1) := by decide +kernel
theorem dX10_mix_1 : decode cX10_mix 1 = .ok (.ldc2_w 229, 3) := by decide +kernel
theorem dX10_mix_4 : decode cX10_mix 4 = .ok (.aload_n 0, 1) := by decide +kernel
theorem dX10_mix_5 : decode cX10_mix 5 = .ok (.getfield 231, 3) := by decide +kernel
theorem dX10_mix_8 : decode cX10_mix 8 = .ok (.lmul, 1) := by decide +kernel
theorem dX10_mix_9 : decode cX10_mix 9 = .ok (.lload_n 1, 1) := by decide +kernel
theorem dX10_mix_10 : decode cX10_mix 10 = .ok (.ladd, 1) := by decide +kernel
theorem dX10_mix_11 : decode cX10_mix 11 = .ok (.putfield 231, 3) := by decide +kernel
theorem dX10_mix_14 : decode cX10_mix 14 = .ok (.return_, 1) := by decide +kernel
theorem dX10_mixSegment_0 : decode cX10_mixSegment 0 = .ok (.iconst 0, 1) := by decide +kernel
theorem dX10_mixSegment_1 : decode cX10_mixSegment 1 = .ok (.istore_n 2, 1) := by decide +kernel
theorem dX10_mixSegment_2 : decode cX10_mixSegment 2 = .ok (.iload_n 2, 1) := by decide +kernel
theorem dX10_mixSegment_3 : decode cX10_mixSegment 3 = .ok (.bipush 12, 2) := by decide +kernel
theorem dX10_mixSegment_5 : decode cX10_mixSegment 5 = .ok (.if_icmp .ge 20, 3) := by decide +kernel
theorem dX10_mixSegment_8 : decode cX10_mixSegment 8 = .ok (.aload_n 0, 1) := by decide +kernel
theorem dX10_mixSegment_9 : decode cX10_mixSegment 9 = .ok (.aload_n 0, 1) := by decide +kernel
theorem dX10_mixSegment_10 : decode cX10_mixSegment 10 = .ok (.iload_n 1, 1) := by decide +kernel
theorem dX10_mixSegment_11 : decode cX10_mixSegment 11 = .ok (.iload_n 2, 1) := by decide +kernel
theorem dX10_mixSegment_12 : decode cX10_mixSegment 12 = .ok (.invokevirtual 148, 3) := by decide +kernel
theorem dX10_mixSegment_15 : decode cX10_mixSegment 15 = .ok (.i2l, 1) := by decide +kernel
theorem dX10_mixSegment_16 : decode cX10_mixSegment 16 = .ok (.invokevirtual 235, 3) := by decide +kernel
theorem dX10_mixSegment_19 : decode cX10_mixSegment 19 = .ok (.iinc 2 1, 3) := by decide +kernel
theorem dX10_mixSegment_22 : decode cX10_mixSegment 22 = .ok (.goto (-20), 3) := by decide +kernel
theorem dX10_mixSegment_25 : decode cX10_mixSegment 25 = .ok (.iconst 0, 1) := by decide +kernel
theorem dX10_mixSegment_26 : decode cX10_mixSegment 26 = .ok (.istore_n 2, 1) := by decide +kernel
theorem dX10_mixSegment_27 : decode cX10_mixSegment 27 = .ok (.iload_n 2, 1) := by decide +kernel
theorem dX10_mixSegment_28 : decode cX10_mixSegment 28 = .ok (.aload_n 0, 1) := by decide +kernel
theorem dX10_mixSegment_29 : decode cX10_mixSegment 29 = .ok (.getfield 7, 3) := by decide +kernel
theorem dX10_mixSegment_32 : decode cX10_mixSegment 32 = .ok (.iload_n 1, 1) := by decide +kernel
theorem dX10_mixSegment_33 : decode cX10_mixSegment 33 = .ok (.invokestatic 45, 3) := by decide +kernel
theorem dX10_mixSegment_36 : decode cX10_mixSegment 36 = .ok (.iaload, 1) := by decide +kernel
theorem dX10_mixSegment_37 : decode cX10_mixSegment 37 = .ok (.if_icmp .ge 20, 3) := by decide +kernel
theorem dX10_mixSegment_40 : decode cX10_mixSegment 40 = .ok (.aload_n 0, 1) := by decide +kernel
theorem dX10_mixSegment_41 : decode cX10_mixSegment 41 = .ok (.aload_n 0, 1) := by decide +kernel
theorem dX10_mixSegment_42 : decode cX10_mixSegment 42 = .ok (.iload_n 1, 1) := by decide +kernel
theorem dX10_mixSegment_43 : decode cX10_mixSegment 43 = .ok (.iload_n 2, 1) := by decide +kernel
theorem dX10_mixSegment_44 : decode cX10_mixSegment 44 = .ok (.invokevirtual 151, 3) := by decide +kernel
theorem dX10_mixSegment_47 : decode cX10_mixSegment 47 = .ok (.i2l, 1) := by decide +kernel
theorem dX10_mixSegment_48 : decode cX10_mixSegment 48 = .ok (.invokevirtual 235, 3) := by decide +kernel
theorem dX10_mixSegment_51 : decode cX10_mixSegment 51 = .ok (.iinc 2 1, 3) := by decide +kernel
theorem dX10_mixSegment_54 : decode cX10_mixSegment 54 = .ok (.goto (-27), 3) := by decide +kernel
theorem dX10_mixSegment_57 : decode cX10_mixSegment 57 = .ok (.iconst 0, 1) := by decide +kernel
theorem dX10_mixSegment_58 : decode cX10_mixSegment 58 = .ok (.istore_n 2, 1) := by decide +kernel
theorem dX10_mixSegment_59 : decode cX10_mixSegment 59 = .ok (.iload_n 2, 1) := by decide +kernel
theorem dX10_mixSegment_60 : decode cX10_mixSegment 60 = .ok (.iconst 4, 1) := by decide +kernel
theorem dX10_mixSegment_61 : decode cX10_mixSegment 61 = .ok (.if_icmp .ge 20, 3) := by decide +kernel
theorem dX10_mixSegment_64 : decode cX10_mixSegment 64 = .ok (.aload_n 0, 1) := by decide +kernel
theorem dX10_mixSegment_65 : decode cX10_mixSegment 65 = .ok (.aload_n 0, 1) := by decide +kernel
theorem dX10_mixSegment_66 : decode cX10_mixSegment 66 = .ok (.iload_n 1, 1) := by decide +kernel
theorem dX10_mixSegment_67 : decode cX10_mixSegment 67 = .ok (.iload_n 2, 1) := by decide +kernel
theorem dX10_mixSegment_68 : decode cX10_mixSegment 68 = .ok (.invokevirtual 210, 3) := by decide +kernel
theorem dX10_mixSegment_71 : decode cX10_mixSegment 71 = .ok (.i2l, 1) := by decide +kernel
theorem dX10_mixSegment_72 : decode cX10_mixSegment 72 = .ok (.invokevirtual 235, 3) := by decide +kernel
theorem dX10_mixSegment_75 : decode cX10_mixSegment 75 = .ok (.iinc 2 1, 3) := by decide +kernel
theorem dX10_mixSegment_78 : decode cX10_mixSegment 78 = .ok (.goto (-19), 3) := by decide +kernel
theorem dX10_mixSegment_81 : decode cX10_mixSegment 81 = .ok (.iconst 0, 1) := by decide +kernel
theorem dX10_mixSegment_82 : decode cX10_mixSegment 82 = .ok (.istore_n 2, 1) := by decide +kernel
theorem dX10_mixSegment_83 : decode cX10_mixSegment 83 = .ok (.iload_n 2, 1) := by decide +kernel
theorem dX10_mixSegment_84 : decode cX10_mixSegment 84 = .ok (.iconst 3, 1) := by decide +kernel
theorem dX10_mixSegment_85 : decode cX10_mixSegment 85 = .ok (.if_icmp .ge 21, 3) := by decide +kernel
theorem dX10_mixSegment_88 : decode cX10_mixSegment 88 = .ok (.aload_n 0, 1) := by decide +kernel
theorem dX10_mixSegment_89 : decode cX10_mixSegment 89 = .ok (.aload_n 0, 1) := by decide +kernel
theorem dX10_mixSegment_90 : decode cX10_mixSegment 90 = .ok (.iload_n 1, 1) := by decide +kernel
theorem dX10_mixSegment_91 : decode cX10_mixSegment 91 = .ok (.iconst 0, 1) := by decide +kernel
theorem dX10_mixSegment_92 : decode cX10_mixSegment 92 = .ok (.iload_n 2, 1) := by decide +kernel
theorem dX10_mixSegment_93 : decode cX10_mixSegment 93 = .ok (.invokevirtual 204, 3) := by decide +kernel
theorem dX10_mixSegment_96 : decode cX10_mixSegment 96 = .ok (.i2l, 1) := by decide +kernel
theorem dX10_mixSegment_97 : decode cX10_mixSegment 97 = .ok (.invokevirtual 235, 3) := by decide +kernel
theorem dX10_mixSegment_100 : decode cX10_mixSegment 100 = .ok (.iinc 2 1, 3) := by decide +kernel
theorem dX10_mixSegment_103 : decode cX10_mixSegment 103 = .ok (.goto (-20), 3) := by decide +kernel
theorem dX10_mixSegment_106 : decode cX10_mixSegment 106 = .ok (.return_, 1) := by decide +kernel
theorem dX10_mixRow_0 : decode cX10_mixRow 0 = .ok (.iconst 0, 1) := by decide +kernel
theorem dX10_mixRow_1 : decode cX10_mixRow 1 = .ok (.istore_n 2, 1) := by decide +kernel
theorem dX10_mixRow_2 : decode cX10_mixRow 2 = .ok (.iload_n 2, 1) := by decide +kernel
theorem dX10_mixRow_3 : decode cX10_mixRow 3 = .ok (.aload_n 0, 1) := by decide +kernel
theorem dX10_mixRow_4 : decode cX10_mixRow 4 = .ok (.getfield 7, 3) := by decide +kernel
theorem dX10_mixRow_7 : decode cX10_mixRow 7 = .ok (.iload_n 1, 1) := by decide +kernel
theorem dX10_mixRow_8 : decode cX10_mixRow 8 = .ok (.invokestatic 55, 3) := by decide +kernel
theorem dX10_mixRow_11 : decode cX10_mixRow 11 = .ok (.iaload, 1) := by decide +kernel
theorem dX10_mixRow_12 : decode cX10_mixRow 12 = .ok (.if_icmp .ge 27, 3) := by decide +kernel
theorem dX10_mixRow_15 : decode cX10_mixRow 15 = .ok (.aload_n 0, 1) := by decide +kernel
theorem dX10_mixRow_16 : decode cX10_mixRow 16 = .ok (.aload_n 0, 1) := by decide +kernel
theorem dX10_mixRow_17 : decode cX10_mixRow 17 = .ok (.getfield 7, 3) := by decide +kernel
theorem dX10_mixRow_20 : decode cX10_mixRow 20 = .ok (.iload_n 1, 1) := by decide +kernel
theorem dX10_mixRow_21 : decode cX10_mixRow 21 = .ok (.invokestatic 55, 3) := by decide +kernel
theorem dX10_mixRow_24 : decode cX10_mixRow 24 = .ok (.iconst 1, 1) := by decide +kernel
theorem dX10_mixRow_25 : decode cX10_mixRow 25 = .ok (.iadd, 1) := by decide +kernel
theorem dX10_mixRow_26 : decode cX10_mixRow 26 = .ok (.iload_n 2, 1) := by decide +kernel
theorem dX10_mixRow_27 : decode cX10_mixRow 27 = .ok (.iadd, 1) := by decide +kernel
theorem dX10_mixRow_28 : decode cX10_mixRow 28 = .ok (.iaload, 1) := by decide +kernel
theorem dX10_mixRow_29 : decode cX10_mixRow 29 = .ok (.i2l, 1) := by decide +kernel
theorem dX10_mixRow_30 : decode cX10_mixRow 30 = .ok (.invokevirtual 235, 3) := by decide +kernel
theorem dX10_mixRow_33 : decode cX10_mixRow 33 = .ok (.iinc 2 1, 3) := by decide +kernel
theorem dX10_mixRow_36 : decode cX10_mixRow 36 = .ok (.goto (-34), 3) := by decide +kernel
theorem dX10_mixRow_39 : decode cX10_mixRow 39 = .ok (.iconst 0, 1) := by decide +kernel
theorem dX10_mixRow_40 : decode cX10_mixRow 40 = .ok (.istore_n 2, 1) := by decide +kernel
theorem dX10_mixRow_41 : decode cX10_mixRow 41 = .ok (.iload_n 2, 1) := by decide +kernel
theorem dX10_mixRow_42 : decode cX10_mixRow 42 = .ok (.iconst 3, 1) := by decide +kernel
theorem dX10_mixRow_43 : decode cX10_mixRow 43 = .ok (.if_icmp .ge 21, 3) := by decide +kernel
theorem dX10_mixRow_46 : decode cX10_mixRow 46 = .ok (.aload_n 0, 1) := by decide +kernel
theorem dX10_mixRow_47 : decode cX10_mixRow 47 = .ok (.aload_n 0, 1) := by decide +kernel
theorem dX10_mixRow_48 : decode cX10_mixRow 48 = .ok (.iconst 0, 1) := by decide +kernel
theorem dX10_mixRow_49 : decode cX10_mixRow 49 = .ok (.iload_n 1, 1) := by decide +kernel
theorem dX10_mixRow_50 : decode cX10_mixRow 50 = .ok (.iload_n 2, 1) := by decide +kernel
theorem dX10_mixRow_51 : decode cX10_mixRow 51 = .ok (.invokevirtual 191, 3) := by decide +kernel
theorem dX10_mixRow_54 : decode cX10_mixRow 54 = .ok (.i2l, 1) := by decide +kernel
theorem dX10_mixRow_55 : decode cX10_mixRow 55 = .ok (.invokevirtual 235, 3) := by decide +kernel
theorem dX10_mixRow_58 : decode cX10_mixRow 58 = .ok (.iinc 2 1, 3) := by decide +kernel
theorem dX10_mixRow_61 : decode cX10_mixRow 61 = .ok (.goto (-20), 3) := by decide +kernel
theorem dX10_mixRow_64 : decode cX10_mixRow 64 = .ok (.return_, 1) := by decide +kernel
theorem dX10_digest_0 : decode cX10_digest 0 = .ok (.aload_n 0, 1) := by decide +kernel
theorem dX10_digest_1 : decode cX10_digest 1 = .ok (.iconst 0, 1) := by decide +kernel
theorem dX10_digest_2 : decode cX10_digest 2 = .ok (.putfield 34, 3) := by decide +kernel
theorem dX10_digest_5 : decode cX10_digest 5 = .ok (.aload_n 0, 1) := by decide +kernel
theorem dX10_digest_6 : decode cX10_digest 6 = .ok (.ldc2_w 239, 3) := by decide +kernel
theorem dX10_digest_9 : decode cX10_digest 9 = .ok (.putfield 231, 3) := by decide +kernel
theorem dX10_digest_12 : decode cX10_digest 12 = .ok (.iconst 0, 1) := by decide +kernel
theorem dX10_digest_13 : decode cX10_digest 13 = .ok (.istore_n 1, 1) := by decide +kernel
theorem dX10_digest_14 : decode cX10_digest 14 = .ok (.iload_n 1, 1) := by decide +kernel
theorem dX10_digest_15 : decode cX10_digest 15 = .ok (.bipush 12, 2) := by decide +kernel
theorem dX10_digest_17 : decode cX10_digest 17 = .ok (.if_icmp .ge 19, 3) := by decide +kernel
theorem dX10_digest_20 : decode cX10_digest 20 = .ok (.aload_n 0, 1) := by decide +kernel
theorem dX10_digest_21 : decode cX10_digest 21 = .ok (.aload_n 0, 1) := by decide +kernel
theorem dX10_digest_22 : decode cX10_digest 22 = .ok (.iload_n 1, 1) := by decide +kernel
theorem dX10_digest_23 : decode cX10_digest 23 = .ok (.invokevirtual 182, 3) := by decide +kernel
theorem dX10_digest_26 : decode cX10_digest 26 = .ok (.i2l, 1) := by decide +kernel
theorem dX10_digest_27 : decode cX10_digest 27 = .ok (.invokevirtual 235, 3) := by decide +kernel
theorem dX10_digest_30 : decode cX10_digest 30 = .ok (.iinc 1 1, 3) := by decide +kernel
theorem dX10_digest_33 : decode cX10_digest 33 = .ok (.goto (-19), 3) := by decide +kernel
theorem dX10_digest_36 : decode cX10_digest 36 = .ok (.aload_n 0, 1) := by decide +kernel
theorem dX10_digest_37 : decode cX10_digest 37 = .ok (.aload_n 0, 1) := by decide +kernel
theorem dX10_digest_38 : decode cX10_digest 38 = .ok (.getfield 7, 3) := by decide +kernel
theorem dX10_digest_41 : decode cX10_digest 41 = .ok (.iconst 2, 1) := by decide +kernel
theorem dX10_digest_42 : decode cX10_digest 42 = .ok (.iaload, 1) := by decide +kernel
theorem dX10_digest_43 : decode cX10_digest 43 = .ok (.i2l, 1) := by decide +kernel
theorem dX10_digest_44 : decode cX10_digest 44 = .ok (.invokevirtual 235, 3) := by decide +kernel
theorem dX10_digest_47 : decode cX10_digest 47 = .ok (.aload_n 0, 1) := by decide +kernel
theorem dX10_digest_48 : decode cX10_digest 48 = .ok (.aload_n 0, 1) := by decide +kernel
theorem dX10_digest_49 : decode cX10_digest 49 = .ok (.getfield 7, 3) := by decide +kernel
theorem dX10_digest_52 : decode cX10_digest 52 = .ok (.iconst 3, 1) := by decide +kernel
theorem dX10_digest_53 : decode cX10_digest 53 = .ok (.iaload, 1) := by decide +kernel
theorem dX10_digest_54 : decode cX10_digest 54 = .ok (.i2l, 1) := by decide +kernel
theorem dX10_digest_55 : decode cX10_digest 55 = .ok (.invokevirtual 235, 3) := by decide +kernel
theorem dX10_digest_58 : decode cX10_digest 58 = .ok (.iconst 0, 1) := by decide +kernel
theorem dX10_digest_59 : decode cX10_digest 59 = .ok (.istore_n 1, 1) := by decide +kernel
theorem dX10_digest_60 : decode cX10_digest 60 = .ok (.iload_n 1, 1) := by decide +kernel
theorem dX10_digest_61 : decode cX10_digest 61 = .ok (.bipush 28, 2) := by decide +kernel
theorem dX10_digest_63 : decode cX10_digest 63 = .ok (.if_icmp .ge 26, 3) := by decide +kernel
theorem dX10_digest_66 : decode cX10_digest 66 = .ok (.aload_n 0, 1) := by decide +kernel
theorem dX10_digest_67 : decode cX10_digest 67 = .ok (.aload_n 0, 1) := by decide +kernel
theorem dX10_digest_68 : decode cX10_digest 68 = .ok (.iload_n 1, 1) := by decide +kernel
theorem dX10_digest_69 : decode cX10_digest 69 = .ok (.bipush 7, 2) := by decide +kernel
theorem dX10_digest_71 : decode cX10_digest 71 = .ok (.idiv, 1) := by decide +kernel
theorem dX10_digest_72 : decode cX10_digest 72 = .ok (.iload_n 1, 1) := by decide +kernel
theorem dX10_digest_73 : decode cX10_digest 73 = .ok (.bipush 7, 2) := by decide +kernel
theorem dX10_digest_75 : decode cX10_digest 75 = .ok (.irem, 1) := by decide +kernel
theorem dX10_digest_76 : decode cX10_digest 76 = .ok (.invokevirtual 160, 3) := by decide +kernel
theorem dX10_digest_79 : decode cX10_digest 79 = .ok (.i2l, 1) := by decide +kernel
theorem dX10_digest_80 : decode cX10_digest 80 = .ok (.invokevirtual 235, 3) := by decide +kernel
theorem dX10_digest_83 : decode cX10_digest 83 = .ok (.iinc 1 1, 3) := by decide +kernel
theorem dX10_digest_86 : decode cX10_digest 86 = .ok (.goto (-26), 3) := by decide +kernel
theorem dX10_digest_89 : decode cX10_digest 89 = .ok (.iconst 0, 1) := by decide +kernel
theorem dX10_digest_90 : decode cX10_digest 90 = .ok (.istore_n 1, 1) := by decide +kernel
theorem dX10_digest_91 : decode cX10_digest 91 = .ok (.iload_n 1, 1) := by decide +kernel
theorem dX10_digest_92 : decode cX10_digest 92 = .ok (.bipush 64, 2) := by decide +kernel
theorem dX10_digest_94 : decode cX10_digest 94 = .ok (.if_icmp .ge 26, 3) := by decide +kernel
theorem dX10_digest_97 : decode cX10_digest 97 = .ok (.aload_n 0, 1) := by decide +kernel
theorem dX10_digest_98 : decode cX10_digest 98 = .ok (.aload_n 0, 1) := by decide +kernel
theorem dX10_digest_99 : decode cX10_digest 99 = .ok (.iload_n 1, 1) := by decide +kernel
theorem dX10_digest_100 : decode cX10_digest 100 = .ok (.bipush 8, 2) := by decide +kernel
theorem dX10_digest_102 : decode cX10_digest 102 = .ok (.idiv, 1) := by decide +kernel
theorem dX10_digest_103 : decode cX10_digest 103 = .ok (.iload_n 1, 1) := by decide +kernel
theorem dX10_digest_104 : decode cX10_digest 104 = .ok (.bipush 8, 2) := by decide +kernel
theorem dX10_digest_106 : decode cX10_digest 106 = .ok (.irem, 1) := by decide +kernel
theorem dX10_digest_107 : decode cX10_digest 107 = .ok (.invokevirtual 166, 3) := by decide +kernel
theorem dX10_digest_110 : decode cX10_digest 110 = .ok (.i2l, 1) := by decide +kernel
theorem dX10_digest_111 : decode cX10_digest 111 = .ok (.invokevirtual 235, 3) := by decide +kernel
theorem dX10_digest_114 : decode cX10_digest 114 = .ok (.iinc 1 1, 3) := by decide +kernel
theorem dX10_digest_117 : decode cX10_digest 117 = .ok (.goto (-26), 3) := by decide +kernel
theorem dX10_digest_120 : decode cX10_digest 120 = .ok (.iconst 0, 1) := by decide +kernel
theorem dX10_digest_121 : decode cX10_digest 121 = .ok (.istore_n 1, 1) := by decide +kernel
theorem dX10_digest_122 : decode cX10_digest 122 = .ok (.iload_n 1, 1) := by decide +kernel
theorem dX10_digest_123 : decode cX10_digest 123 = .ok (.bipush 15, 2) := by decide +kernel
theorem dX10_digest_125 : decode cX10_digest 125 = .ok (.if_icmp .ge 23, 3) := by decide +kernel
theorem dX10_digest_128 : decode cX10_digest 128 = .ok (.aload_n 0, 1) := by decide +kernel
theorem dX10_digest_129 : decode cX10_digest 129 = .ok (.aload_n 0, 1) := by decide +kernel
theorem dX10_digest_130 : decode cX10_digest 130 = .ok (.getfield 7, 3) := by decide +kernel
theorem dX10_digest_133 : decode cX10_digest 133 = .ok (.bipush 64, 2) := by decide +kernel
theorem dX10_digest_135 : decode cX10_digest 135 = .ok (.iload_n 1, 1) := by decide +kernel
theorem dX10_digest_136 : decode cX10_digest 136 = .ok (.iadd, 1) := by decide +kernel
theorem dX10_digest_137 : decode cX10_digest 137 = .ok (.iaload, 1) := by decide +kernel
theorem dX10_digest_138 : decode cX10_digest 138 = .ok (.i2l, 1) := by decide +kernel
theorem dX10_digest_139 : decode cX10_digest 139 = .ok (.invokevirtual 235, 3) := by decide +kernel
theorem dX10_digest_142 : decode cX10_digest 142 = .ok (.iinc 1 1, 3) := by decide +kernel
theorem dX10_digest_145 : decode cX10_digest 145 = .ok (.goto (-23), 3) := by decide +kernel
theorem dX10_digest_148 : decode cX10_digest 148 = .ok (.iconst 0, 1) := by decide +kernel
theorem dX10_digest_149 : decode cX10_digest 149 = .ok (.istore_n 1, 1) := by decide +kernel
theorem dX10_digest_150 : decode cX10_digest 150 = .ok (.iload_n 1, 1) := by decide +kernel
theorem dX10_digest_151 : decode cX10_digest 151 = .ok (.aload_n 0, 1) := by decide +kernel
theorem dX10_digest_152 : decode cX10_digest 152 = .ok (.getfield 7, 3) := by decide +kernel
theorem dX10_digest_155 : decode cX10_digest 155 = .ok (.iconst 0, 1) := by decide +kernel
theorem dX10_digest_156 : decode cX10_digest 156 = .ok (.iaload, 1) := by decide +kernel
theorem dX10_digest_157 : decode cX10_digest 157 = .ok (.if_icmp .ge 14, 3) := by decide +kernel
theorem dX10_digest_160 : decode cX10_digest 160 = .ok (.aload_n 0, 1) := by decide +kernel
theorem dX10_digest_161 : decode cX10_digest 161 = .ok (.iload_n 1, 1) := by decide +kernel
theorem dX10_digest_162 : decode cX10_digest 162 = .ok (.invokevirtual 241, 3) := by decide +kernel
theorem dX10_digest_165 : decode cX10_digest 165 = .ok (.iinc 1 1, 3) := by decide +kernel
theorem dX10_digest_168 : decode cX10_digest 168 = .ok (.goto (-18), 3) := by decide +kernel
theorem dX10_digest_171 : decode cX10_digest 171 = .ok (.iconst 0, 1) := by decide +kernel
theorem dX10_digest_172 : decode cX10_digest 172 = .ok (.istore_n 1, 1) := by decide +kernel
theorem dX10_digest_173 : decode cX10_digest 173 = .ok (.iload_n 1, 1) := by decide +kernel
theorem dX10_digest_174 : decode cX10_digest 174 = .ok (.aload_n 0, 1) := by decide +kernel
theorem dX10_digest_175 : decode cX10_digest 175 = .ok (.getfield 7, 3) := by decide +kernel
theorem dX10_digest_178 : decode cX10_digest 178 = .ok (.iconst 1, 1) := by decide +kernel
theorem dX10_digest_179 : decode cX10_digest 179 = .ok (.iaload, 1) := by decide +kernel
theorem dX10_digest_180 : decode cX10_digest 180 = .ok (.if_icmp .ge 14, 3) := by decide +kernel
theorem dX10_digest_183 : decode cX10_digest 183 = .ok (.aload_n 0, 1) := by decide +kernel
theorem dX10_digest_184 : decode cX10_digest 184 = .ok (.iload_n 1, 1) := by decide +kernel
theorem dX10_digest_185 : decode cX10_digest 185 = .ok (.invokevirtual 244, 3) := by decide +kernel
theorem dX10_digest_188 : decode cX10_digest 188 = .ok (.iinc 1 1, 3) := by decide +kernel
theorem dX10_digest_191 : decode cX10_digest 191 = .ok (.goto (-18), 3) := by decide +kernel
theorem dX10_digest_194 : decode cX10_digest 194 = .ok (.aload_n 0, 1) := by decide +kernel
theorem dX10_digest_195 : decode cX10_digest 195 = .ok (.aload_n 0, 1) := by decide +kernel
theorem dX10_digest_196 : decode cX10_digest 196 = .ok (.invokevirtual 222, 3) := by decide +kernel
theorem dX10_digest_199 : decode cX10_digest 199 = .ok (.i2l, 1) := by decide +kernel
theorem dX10_digest_200 : decode cX10_digest 200 = .ok (.invokevirtual 235, 3) := by decide +kernel
theorem dX10_digest_203 : decode cX10_digest 203 = .ok (.aload_n 0, 1) := by decide +kernel
theorem dX10_digest_204 : decode cX10_digest 204 = .ok (.aload_n 0, 1) := by decide +kernel
theorem dX10_digest_205 : decode cX10_digest 205 = .ok (.invokevirtual 225, 3) := by decide +kernel
theorem dX10_digest_208 : decode cX10_digest 208 = .ok (.invokestatic 247, 3) := by decide +kernel
theorem dX10_digest_211 : decode cX10_digest 211 = .ok (.invokevirtual 235, 3) := by decide +kernel
theorem dX10_digest_214 : decode cX10_digest 214 = .ok (.aload_n 0, 1) := by decide +kernel
theorem dX10_digest_215 : decode cX10_digest 215 = .ok (.aload_n 0, 1) := by decide +kernel
theorem dX10_digest_216 : decode cX10_digest 216 = .ok (.getfield 125, 3) := by decide +kernel
theorem dX10_digest_219 : decode cX10_digest 219 = .ok (.i2l, 1) := by decide +kernel
theorem dX10_digest_220 : decode cX10_digest 220 = .ok (.invokevirtual 235, 3) := by decide +kernel
theorem dX10_digest_223 : decode cX10_digest 223 = .ok (.iconst 0, 1) := by decide +kernel
theorem dX10_digest_224 : decode cX10_digest 224 = .ok (.istore_n 1, 1) := by decide +kernel
theorem dX10_digest_225 : decode cX10_digest 225 = .ok (.iload_n 1, 1) := by decide +kernel
theorem dX10_digest_226 : decode cX10_digest 226 = .ok (.aload_n 0, 1) := by decide +kernel
theorem dX10_digest_227 : decode cX10_digest 227 = .ok (.getfield 125, 3) := by decide +kernel
theorem dX10_digest_230 : decode cX10_digest 230 = .ok (.if_icmp .ge 20, 3) := by decide +kernel
theorem dX10_digest_233 : decode cX10_digest 233 = .ok (.aload_n 0, 1) := by decide +kernel
theorem dX10_digest_234 : decode cX10_digest 234 = .ok (.aload_n 0, 1) := by decide +kernel
theorem dX10_digest_235 : decode cX10_digest 235 = .ok (.getfield 19, 3) := by decide +kernel
theorem dX10_digest_238 : decode cX10_digest 238 = .ok (.iload_n 1, 1) := by decide +kernel
theorem dX10_digest_239 : decode cX10_digest 239 = .ok (.iaload, 1) := by decide +kernel
theorem dX10_digest_240 : decode cX10_digest 240 = .ok (.i2l, 1) := by decide +kernel
theorem dX10_digest_241 : decode cX10_digest 241 = .ok (.invokevirtual 235, 3) := by decide +kernel
theorem dX10_digest_244 : decode cX10_digest 244 = .ok (.iinc 1 1, 3) := by decide +kernel
theorem dX10_digest_247 : decode cX10_digest 247 = .ok (.goto (-22), 3) := by decide +kernel
theorem dX10_digest_250 : decode cX10_digest 250 = .ok (.aload_n 0, 1) := by decide +kernel
theorem dX10_digest_251 : decode cX10_digest 251 = .ok (.getfield 231, 3) := by decide +kernel
theorem dX10_digest_254 : decode cX10_digest 254 = .ok (.lreturn, 1) := by decide +kernel
theorem dJxe99ae_isNaN_b9ae7_0 : decode cJxe99ae_isNaN_b9ae7 0 = .ok (.dload_n 0, 1) := by decide +kernel
theorem dJxe99ae_isNaN_b9ae7_1 : decode cJxe99ae_isNaN_b9ae7 1 = .ok (.dload_n 0, 1) := by decide +kernel
theorem dJxe99ae_isNaN_b9ae7_2 : decode cJxe99ae_isNaN_b9ae7 2 = .ok (.dcmp .l, 1) := by decide +kernel
theorem dJxe99ae_isNaN_b9ae7_3 : decode cJxe99ae_isNaN_b9ae7 3 = .ok (.ifCond .eq 7, 3) := by decide +kernel
theorem dJxe99ae_isNaN_b9ae7_6 : decode cJxe99ae_isNaN_b9ae7 6 = .ok (.iconst 1, 1) := by decide +kernel
theorem dJxe99ae_isNaN_b9ae7_7 : decode cJxe99ae_isNaN_b9ae7 7 = .ok (.goto 4, 3) := by decide +kernel
theorem dJxe99ae_isNaN_b9ae7_10 : decode cJxe99ae_isNaN_b9ae7 10 = .ok (.iconst 0, 1) := by decide +kernel
theorem dJxe99ae_isNaN_b9ae7_11 : decode cJxe99ae_isNaN_b9ae7 11 = .ok (.ireturn, 1) := by decide +kernel
theorem dJxe99ae_doubleToLongBits_ccdee_0 : decode cJxe99ae_doubleToLongBits_ccdee 0 = .ok (.dload_n 0, 1) := by decide +kernel
theorem dJxe99ae_doubleToLongBits_ccdee_1 : decode cJxe99ae_doubleToLongBits_ccdee 1 = .ok (.invokestatic 122, 3) := by decide +kernel
theorem dJxe99ae_doubleToLongBits_ccdee_4 : decode cJxe99ae_doubleToLongBits_ccdee 4 = .ok (.ifCond .ne 8, 3) := by decide +kernel
theorem dJxe99ae_doubleToLongBits_ccdee_7 : decode cJxe99ae_doubleToLongBits_ccdee 7 = .ok (.dload_n 0, 1) := by decide +kernel
theorem dJxe99ae_doubleToLongBits_ccdee_8 : decode cJxe99ae_doubleToLongBits_ccdee 8 = .ok (.invokestatic 134, 3) := by decide +kernel
theorem dJxe99ae_doubleToLongBits_ccdee_11 : decode cJxe99ae_doubleToLongBits_ccdee 11 = .ok (.lreturn, 1) := by decide +kernel
theorem dJxe99ae_doubleToLongBits_ccdee_12 : decode cJxe99ae_doubleToLongBits_ccdee 12 = .ok (.ldc2_w 137, 3) := by decide +kernel
theorem dJxe99ae_doubleToLongBits_ccdee_15 : decode cJxe99ae_doubleToLongBits_ccdee 15 = .ok (.lreturn, 1) := by decide +kernel
theorem dJxf58ca_isNaN_12338_0 : decode cJxf58ca_isNaN_12338 0 = .ok (.fload_n 0, 1) := by decide +kernel
theorem dJxf58ca_isNaN_12338_1 : decode cJxf58ca_isNaN_12338 1 = .ok (.fload_n 0, 1) := by decide +kernel
theorem dJxf58ca_isNaN_12338_2 : decode cJxf58ca_isNaN_12338 2 = .ok (.fcmp .l, 1) := by decide +kernel
theorem dJxf58ca_isNaN_12338_3 : decode cJxf58ca_isNaN_12338 3 = .ok (.ifCond .eq 7, 3) := by decide +kernel
theorem dJxf58ca_isNaN_12338_6 : decode cJxf58ca_isNaN_12338 6 = .ok (.iconst 1, 1) := by decide +kernel
theorem dJxf58ca_isNaN_12338_7 : decode cJxf58ca_isNaN_12338 7 = .ok (.goto 4, 3) := by decide +kernel
theorem dJxf58ca_isNaN_12338_10 : decode cJxf58ca_isNaN_12338 10 = .ok (.iconst 0, 1) := by decide +kernel
theorem dJxf58ca_isNaN_12338_11 : decode cJxf58ca_isNaN_12338 11 = .ok (.ireturn, 1) := by decide +kernel
theorem dJxf58ca_floatToIntBits_5c35a_0 : decode cJxf58ca_floatToIntBits_5c35a 0 = .ok (.fload_n 0, 1) := by decide +kernel
theorem dJxf58ca_floatToIntBits_5c35a_1 : decode cJxf58ca_floatToIntBits_5c35a 1 = .ok (.invokestatic 59, 3) := by decide +kernel
theorem dJxf58ca_floatToIntBits_5c35a_4 : decode cJxf58ca_floatToIntBits_5c35a 4 = .ok (.ifCond .ne 8, 3) := by decide +kernel
theorem dJxf58ca_floatToIntBits_5c35a_7 : decode cJxf58ca_floatToIntBits_5c35a 7 = .ok (.fload_n 0, 1) := by decide +kernel
theorem dJxf58ca_floatToIntBits_5c35a_8 : decode cJxf58ca_floatToIntBits_5c35a 8 = .ok (.invokestatic 74, 3) := by decide +kernel
theorem dJxf58ca_floatToIntBits_5c35a_11 : decode cJxf58ca_floatToIntBits_5c35a 11 = .ok (.ireturn, 1) := by decide +kernel
theorem dJxf58ca_floatToIntBits_5c35a_12 : decode cJxf58ca_floatToIntBits_5c35a 12 = .ok (.ldc 77, 2) := by decide +kernel
theorem dJxf58ca_floatToIntBits_5c35a_14 : decode cJxf58ca_floatToIntBits_5c35a 14 = .ok (.ireturn, 1) := by decide +kernel
theorem dJ6_bitCount_0f7a4_0 : decode cJ6_bitCount_0f7a4 0 = .ok (.iload_n 0, 1) := by decide +kernel
theorem dJ6_bitCount_0f7a4_1 : decode cJ6_bitCount_0f7a4 1 = .ok (.iload_n 0, 1) := by decide +kernel
theorem dJ6_bitCount_0f7a4_2 : decode cJ6_bitCount_0f7a4 2 = .ok (.iconst 1, 1) := by decide +kernel
theorem dJ6_bitCount_0f7a4_3 : decode cJ6_bitCount_0f7a4 3 = .ok (.iushr, 1) := by decide +kernel
theorem dJ6_bitCount_0f7a4_4 : decode cJ6_bitCount_0f7a4 4 = .ok (.ldc_w 265, 3) := by decide +kernel
theorem dJ6_bitCount_0f7a4_7 : decode cJ6_bitCount_0f7a4 7 = .ok (.iand, 1) := by decide +kernel
theorem dJ6_bitCount_0f7a4_8 : decode cJ6_bitCount_0f7a4 8 = .ok (.isub, 1) := by decide +kernel
theorem dJ6_bitCount_0f7a4_9 : decode cJ6_bitCount_0f7a4 9 = .ok (.istore_n 0, 1) := by decide +kernel
theorem dJ6_bitCount_0f7a4_10 : decode cJ6_bitCount_0f7a4 10 = .ok (.iload_n 0, 1) := by decide +kernel
theorem dJ6_bitCount_0f7a4_11 : decode cJ6_bitCount_0f7a4 11 = .ok (.ldc_w 266, 3) := by decide +kernel
theorem dJ6_bitCount_0f7a4_14 : decode cJ6_bitCount_0f7a4 14 = .ok (.iand, 1) := by decide +kernel
theorem dJ6_bitCount_0f7a4_15 : decode cJ6_bitCount_0f7a4 15 = .ok (.iload_n 0, 1) := by decide +kernel
theorem dJ6_bitCount_0f7a4_16 : decode cJ6_bitCount_0f7a4 16 = .ok (.iconst 2, 1) := by decide +kernel
theorem dJ6_bitCount_0f7a4_17 : decode cJ6_bitCount_0f7a4 17 = .ok (.iushr, 1) := by decide +kernel
theorem dJ6_bitCount_0f7a4_18 : decode cJ6_bitCount_0f7a4 18 = .ok (.ldc_w 266, 3) := by decide +kernel
theorem dJ6_bitCount_0f7a4_21 : decode cJ6_bitCount_0f7a4 21 = .ok (.iand, 1) := by decide +kernel
theorem dJ6_bitCount_0f7a4_22 : decode cJ6_bitCount_0f7a4 22 = .ok (.iadd, 1) := by decide +kernel
theorem dJ6_bitCount_0f7a4_23 : decode cJ6_bitCount_0f7a4 23 = .ok (.istore_n 0, 1) := by decide +kernel
theorem dJ6_bitCount_0f7a4_24 : decode cJ6_bitCount_0f7a4 24 = .ok (.iload_n 0, 1) := by decide +kernel
theorem dJ6_bitCount_0f7a4_25 : decode cJ6_bitCount_0f7a4 25 = .ok (.iload_n 0, 1) := by decide +kernel
theorem dJ6_bitCount_0f7a4_26 : decode cJ6_bitCount_0f7a4 26 = .ok (.iconst 4, 1) := by decide +kernel
theorem dJ6_bitCount_0f7a4_27 : decode cJ6_bitCount_0f7a4 27 = .ok (.iushr, 1) := by decide +kernel
theorem dJ6_bitCount_0f7a4_28 : decode cJ6_bitCount_0f7a4 28 = .ok (.iadd, 1) := by decide +kernel
theorem dJ6_bitCount_0f7a4_29 : decode cJ6_bitCount_0f7a4 29 = .ok (.ldc_w 267, 3) := by decide +kernel
theorem dJ6_bitCount_0f7a4_32 : decode cJ6_bitCount_0f7a4 32 = .ok (.iand, 1) := by decide +kernel
theorem dJ6_bitCount_0f7a4_33 : decode cJ6_bitCount_0f7a4 33 = .ok (.istore_n 0, 1) := by decide +kernel
theorem dJ6_bitCount_0f7a4_34 : decode cJ6_bitCount_0f7a4 34 = .ok (.iload_n 0, 1) := by decide +kernel
theorem dJ6_bitCount_0f7a4_35 : decode cJ6_bitCount_0f7a4 35 = .ok (.iload_n 0, 1) := by decide +kernel
theorem dJ6_bitCount_0f7a4_36 : decode cJ6_bitCount_0f7a4 36 = .ok (.bipush 8, 2) := by decide +kernel
theorem dJ6_bitCount_0f7a4_38 : decode cJ6_bitCount_0f7a4 38 = .ok (.iushr, 1) := by decide +kernel
theorem dJ6_bitCount_0f7a4_39 : decode cJ6_bitCount_0f7a4 39 = .ok (.iadd, 1) := by decide +kernel
theorem dJ6_bitCount_0f7a4_40 : decode cJ6_bitCount_0f7a4 40 = .ok (.istore_n 0, 1) := by decide +kernel
theorem dJ6_bitCount_0f7a4_41 : decode cJ6_bitCount_0f7a4 41 = .ok (.iload_n 0, 1) := by decide +kernel
theorem dJ6_bitCount_0f7a4_42 : decode cJ6_bitCount_0f7a4 42 = .ok (.iload_n 0, 1) := by decide +kernel
theorem dJ6_bitCount_0f7a4_43 : decode cJ6_bitCount_0f7a4 43 = .ok (.bipush 16, 2) := by decide +kernel
theorem dJ6_bitCount_0f7a4_45 : decode cJ6_bitCount_0f7a4 45 = .ok (.iushr, 1) := by decide +kernel
theorem dJ6_bitCount_0f7a4_46 : decode cJ6_bitCount_0f7a4 46 = .ok (.iadd, 1) := by decide +kernel
theorem dJ6_bitCount_0f7a4_47 : decode cJ6_bitCount_0f7a4 47 = .ok (.istore_n 0, 1) := by decide +kernel
theorem dJ6_bitCount_0f7a4_48 : decode cJ6_bitCount_0f7a4 48 = .ok (.iload_n 0, 1) := by decide +kernel
theorem dJ6_bitCount_0f7a4_49 : decode cJ6_bitCount_0f7a4 49 = .ok (.bipush 63, 2) := by decide +kernel
theorem dJ6_bitCount_0f7a4_51 : decode cJ6_bitCount_0f7a4 51 = .ok (.iand, 1) := by decide +kernel
theorem dJ6_bitCount_0f7a4_52 : decode cJ6_bitCount_0f7a4 52 = .ok (.ireturn, 1) := by decide +kernel
theorem dJ9_max_7cf53_0 : decode cJ9_max_7cf53 0 = .ok (.iload_n 0, 1) := by decide +kernel
theorem dJ9_max_7cf53_1 : decode cJ9_max_7cf53 1 = .ok (.iload_n 1, 1) := by decide +kernel
theorem dJ9_max_7cf53_2 : decode cJ9_max_7cf53 2 = .ok (.if_icmp .lt 7, 3) := by decide +kernel
theorem dJ9_max_7cf53_5 : decode cJ9_max_7cf53 5 = .ok (.iload_n 0, 1) := by decide +kernel
theorem dJ9_max_7cf53_6 : decode cJ9_max_7cf53 6 = .ok (.goto 4, 3) := by decide +kernel
theorem dJ9_max_7cf53_9 : decode cJ9_max_7cf53 9 = .ok (.iload_n 1, 1) := by decide +kernel
theorem dJ9_max_7cf53_10 : decode cJ9_max_7cf53 10 = .ok (.ireturn, 1) := by decide +kernel
theorem dJ9_min_7cf53_0 : decode cJ9_min_7cf53 0 = .ok (.iload_n 0, 1) := by decide +kernel
theorem dJ9_min_7cf53_1 : decode cJ9_min_7cf53 1 = .ok (.iload_n 1, 1) := by decide +kernel
theorem dJ9_min_7cf53_2 : decode cJ9_min_7cf53 2 = .ok (.if_icmp .gt 7, 3) := by decide +kernel
theorem dJ9_min_7cf53_5 : decode cJ9_min_7cf53 5 = .ok (.iload_n 0, 1) := by decide +kernel
theorem dJ9_min_7cf53_6 : decode cJ9_min_7cf53 6 = .ok (.goto 4, 3) := by decide +kernel
theorem dJ9_min_7cf53_9 : decode cJ9_min_7cf53 9 = .ok (.iload_n 1, 1) := by decide +kernel
theorem dJ9_min_7cf53_10 : decode cJ9_min_7cf53 10 = .ok (.ireturn, 1) := by decide +kernel
theorem dL_rate_0 : decode cL_rate 0 = .ok (.aload_n 3, 1) := by decide +kernel
theorem dL_rate_1 : decode cL_rate 1 = .ok (.iconst 0, 1) := by decide +kernel
theorem dL_rate_2 : decode cL_rate 2 = .ok (.aload_n 0, 1) := by decide +kernel
theorem dL_rate_3 : decode cL_rate 3 = .ok (.iload_n 1, 1) := by decide +kernel
theorem dL_rate_4 : decode cL_rate 4 = .ok (.iload_n 2, 1) := by decide +kernel
theorem dL_rate_5 : decode cL_rate 5 = .ok (.invokevirtual 7, 3) := by decide +kernel
theorem dL_rate_8 : decode cL_rate 8 = .ok (.i2l, 1) := by decide +kernel
theorem dL_rate_9 : decode cL_rate 9 = .ok (.lastore, 1) := by decide +kernel
theorem dL_rate_10 : decode cL_rate 10 = .ok (.goto 11, 3) := by decide +kernel
theorem dL_rate_13 : decode cL_rate 13 = .ok (.astore 4, 2) := by decide +kernel
theorem dL_rate_15 : decode cL_rate 15 = .ok (.iconst 1, 1) := by decide +kernel
theorem dL_rate_16 : decode cL_rate 16 = .ok (.ireturn, 1) := by decide +kernel
theorem dL_rate_17 : decode cL_rate 17 = .ok (.astore 4, 2) := by decide +kernel
theorem dL_rate_19 : decode cL_rate 19 = .ok (.iconst 2, 1) := by decide +kernel
theorem dL_rate_20 : decode cL_rate 20 = .ok (.ireturn, 1) := by decide +kernel
theorem dL_rate_21 : decode cL_rate 21 = .ok (.iconst 0, 1) := by decide +kernel
theorem dL_rate_22 : decode cL_rate 22 = .ok (.ireturn, 1) := by decide +kernel
theorem dL_pays_0 : decode cL_pays 0 = .ok (.aload_n 3, 1) := by decide +kernel
theorem dL_pays_1 : decode cL_pays 1 = .ok (.iconst 0, 1) := by decide +kernel
theorem dL_pays_2 : decode cL_pays 2 = .ok (.aload_n 0, 1) := by decide +kernel
theorem dL_pays_3 : decode cL_pays 3 = .ok (.iload_n 1, 1) := by decide +kernel
theorem dL_pays_4 : decode cL_pays 4 = .ok (.iload_n 2, 1) := by decide +kernel
theorem dL_pays_5 : decode cL_pays 5 = .ok (.invokevirtual 17, 3) := by decide +kernel
theorem dL_pays_8 : decode cL_pays 8 = .ok (.i2l, 1) := by decide +kernel
theorem dL_pays_9 : decode cL_pays 9 = .ok (.lastore, 1) := by decide +kernel
theorem dL_pays_10 : decode cL_pays 10 = .ok (.goto 11, 3) := by decide +kernel
theorem dL_pays_13 : decode cL_pays 13 = .ok (.astore 4, 2) := by decide +kernel
theorem dL_pays_15 : decode cL_pays 15 = .ok (.iconst 1, 1) := by decide +kernel
theorem dL_pays_16 : decode cL_pays 16 = .ok (.ireturn, 1) := by decide +kernel
theorem dL_pays_17 : decode cL_pays 17 = .ok (.astore 4, 2) := by decide +kernel
theorem dL_pays_19 : decode cL_pays 19 = .ok (.iconst 2, 1) := by decide +kernel
theorem dL_pays_20 : decode cL_pays 20 = .ok (.ireturn, 1) := by decide +kernel
theorem dL_pays_21 : decode cL_pays 21 = .ok (.iconst 0, 1) := by decide +kernel
theorem dL_pays_22 : decode cL_pays 22 = .ok (.ireturn, 1) := by decide +kernel
theorem dL_set_0 : decode cL_set 0 = .ok (.aload_n 3, 1) := by decide +kernel
theorem dL_set_1 : decode cL_set 1 = .ok (.iconst 0, 1) := by decide +kernel
theorem dL_set_2 : decode cL_set 2 = .ok (.aload_n 0, 1) := by decide +kernel
theorem dL_set_3 : decode cL_set 3 = .ok (.iload_n 1, 1) := by decide +kernel
theorem dL_set_4 : decode cL_set 4 = .ok (.iload_n 2, 1) := by decide +kernel
theorem dL_set_5 : decode cL_set 5 = .ok (.invokevirtual 20, 3) := by decide +kernel
theorem dL_set_8 : decode cL_set 8 = .ok (.i2l, 1) := by decide +kernel
theorem dL_set_9 : decode cL_set 9 = .ok (.lastore, 1) := by decide +kernel
theorem dL_set_10 : decode cL_set 10 = .ok (.goto 11, 3) := by decide +kernel
theorem dL_set_13 : decode cL_set 13 = .ok (.astore 4, 2) := by decide +kernel
theorem dL_set_15 : decode cL_set 15 = .ok (.iconst 1, 1) := by decide +kernel
theorem dL_set_16 : decode cL_set 16 = .ok (.ireturn, 1) := by decide +kernel
theorem dL_set_17 : decode cL_set 17 = .ok (.astore 4, 2) := by decide +kernel
theorem dL_set_19 : decode cL_set 19 = .ok (.iconst 2, 1) := by decide +kernel
theorem dL_set_20 : decode cL_set 20 = .ok (.ireturn, 1) := by decide +kernel
theorem dL_set_21 : decode cL_set 21 = .ok (.iconst 0, 1) := by decide +kernel
theorem dL_set_22 : decode cL_set 22 = .ok (.ireturn, 1) := by decide +kernel
theorem dL_assign_0 : decode cL_assign 0 = .ok (.aload_n 3, 1) := by decide +kernel
theorem dL_assign_1 : decode cL_assign 1 = .ok (.iconst 0, 1) := by decide +kernel
theorem dL_assign_2 : decode cL_assign 2 = .ok (.aload_n 0, 1) := by decide +kernel
theorem dL_assign_3 : decode cL_assign 3 = .ok (.iload_n 1, 1) := by decide +kernel
theorem dL_assign_4 : decode cL_assign 4 = .ok (.iload_n 2, 1) := by decide +kernel
theorem dL_assign_5 : decode cL_assign 5 = .ok (.invokevirtual 23, 3) := by decide +kernel
theorem dL_assign_8 : decode cL_assign 8 = .ok (.i2l, 1) := by decide +kernel
theorem dL_assign_9 : decode cL_assign 9 = .ok (.lastore, 1) := by decide +kernel
theorem dL_assign_10 : decode cL_assign 10 = .ok (.goto 11, 3) := by decide +kernel
theorem dL_assign_13 : decode cL_assign 13 = .ok (.astore 4, 2) := by decide +kernel
theorem dL_assign_15 : decode cL_assign 15 = .ok (.iconst 1, 1) := by decide +kernel
theorem dL_assign_16 : decode cL_assign 16 = .ok (.ireturn, 1) := by decide +kernel
theorem dL_assign_17 : decode cL_assign 17 = .ok (.astore 4, 2) := by decide +kernel
theorem dL_assign_19 : decode cL_assign 19 = .ok (.iconst 2, 1) := by decide +kernel
theorem dL_assign_20 : decode cL_assign 20 = .ok (.ireturn, 1) := by decide +kernel
theorem dL_assign_21 : decode cL_assign 21 = .ok (.iconst 0, 1) := by decide +kernel
theorem dL_assign_22 : decode cL_assign 22 = .ok (.ireturn, 1) := by decide +kernel
theorem dL_deliver_0 : decode cL_deliver 0 = .ok (.aload_n 2, 1) := by decide +kernel
theorem dL_deliver_1 : decode cL_deliver 1 = .ok (.iconst 0, 1) := by decide +kernel
theorem dL_deliver_2 : decode cL_deliver 2 = .ok (.aload_n 0, 1) := by decide +kernel
theorem dL_deliver_3 : decode cL_deliver 3 = .ok (.iload_n 1, 1) := by decide +kernel
theorem dL_deliver_4 : decode cL_deliver 4 = .ok (.invokevirtual 28, 3) := by decide +kernel
theorem dL_deliver_7 : decode cL_deliver 7 = .ok (.i2l, 1) := by decide +kernel
theorem dL_deliver_8 : decode cL_deliver 8 = .ok (.lastore, 1) := by decide +kernel
theorem dL_deliver_9 : decode cL_deliver 9 = .ok (.goto 9, 3) := by decide +kernel
theorem dL_deliver_12 : decode cL_deliver 12 = .ok (.astore_n 3, 1) := by decide +kernel
theorem dL_deliver_13 : decode cL_deliver 13 = .ok (.iconst 1, 1) := by decide +kernel
theorem dL_deliver_14 : decode cL_deliver 14 = .ok (.ireturn, 1) := by decide +kernel
theorem dL_deliver_15 : decode cL_deliver 15 = .ok (.astore_n 3, 1) := by decide +kernel
theorem dL_deliver_16 : decode cL_deliver 16 = .ok (.iconst 2, 1) := by decide +kernel
theorem dL_deliver_17 : decode cL_deliver 17 = .ok (.ireturn, 1) := by decide +kernel
theorem dL_deliver_18 : decode cL_deliver 18 = .ok (.iconst 0, 1) := by decide +kernel
theorem dL_deliver_19 : decode cL_deliver 19 = .ok (.ireturn, 1) := by decide +kernel
theorem dL_revise_0 : decode cL_revise 0 = .ok (.aload 4, 2) := by decide +kernel
theorem dL_revise_2 : decode cL_revise 2 = .ok (.iconst 0, 1) := by decide +kernel
theorem dL_revise_3 : decode cL_revise 3 = .ok (.aload_n 0, 1) := by decide +kernel
theorem dL_revise_4 : decode cL_revise 4 = .ok (.iload_n 1, 1) := by decide +kernel
theorem dL_revise_5 : decode cL_revise 5 = .ok (.iload_n 2, 1) := by decide +kernel
theorem dL_revise_6 : decode cL_revise 6 = .ok (.iload_n 3, 1) := by decide +kernel
theorem dL_revise_7 : decode cL_revise 7 = .ok (.invokevirtual 32, 3) := by decide +kernel
theorem dL_revise_10 : decode cL_revise 10 = .ok (.i2l, 1) := by decide +kernel
theorem dL_revise_11 : decode cL_revise 11 = .ok (.lastore, 1) := by decide +kernel
theorem dL_revise_12 : decode cL_revise 12 = .ok (.goto 15, 3) := by decide +kernel
theorem dL_revise_15 : decode cL_revise 15 = .ok (.astore 5, 2) := by decide +kernel
theorem dL_revise_17 : decode cL_revise 17 = .ok (.iconst 1, 1) := by decide +kernel
theorem dL_revise_18 : decode cL_revise 18 = .ok (.ireturn, 1) := by decide +kernel
theorem dL_revise_19 : decode cL_revise 19 = .ok (.astore 5, 2) := by decide +kernel
theorem dL_revise_21 : decode cL_revise 21 = .ok (.iconst 2, 1) := by decide +kernel
theorem dL_revise_22 : decode cL_revise 22 = .ok (.ireturn, 1) := by decide +kernel
theorem dL_revise_23 : decode cL_revise 23 = .ok (.astore 5, 2) := by decide +kernel
theorem dL_revise_25 : decode cL_revise 25 = .ok (.iconst 3, 1) := by decide +kernel
theorem dL_revise_26 : decode cL_revise 26 = .ok (.ireturn, 1) := by decide +kernel
theorem dL_revise_27 : decode cL_revise 27 = .ok (.iconst 0, 1) := by decide +kernel
theorem dL_revise_28 : decode cL_revise 28 = .ok (.ireturn, 1) := by decide +kernel
theorem dL_propose_0 : decode cL_propose 0 = .ok (.aload 4, 2) := by decide +kernel
theorem dL_propose_2 : decode cL_propose 2 = .ok (.iconst 0, 1) := by decide +kernel
theorem dL_propose_3 : decode cL_propose 3 = .ok (.aload_n 0, 1) := by decide +kernel
theorem dL_propose_4 : decode cL_propose 4 = .ok (.iload_n 1, 1) := by decide +kernel
theorem dL_propose_5 : decode cL_propose 5 = .ok (.iload_n 2, 1) := by decide +kernel
theorem dL_propose_6 : decode cL_propose 6 = .ok (.iload_n 3, 1) := by decide +kernel
theorem dL_propose_7 : decode cL_propose 7 = .ok (.invokevirtual 36, 3) := by decide +kernel
theorem dL_propose_10 : decode cL_propose 10 = .ok (.i2l, 1) := by decide +kernel
theorem dL_propose_11 : decode cL_propose 11 = .ok (.lastore, 1) := by decide +kernel
theorem dL_propose_12 : decode cL_propose 12 = .ok (.goto 15, 3) := by decide +kernel
theorem dL_propose_15 : decode cL_propose 15 = .ok (.astore 5, 2) := by decide +kernel
theorem dL_propose_17 : decode cL_propose 17 = .ok (.iconst 1, 1) := by decide +kernel
theorem dL_propose_18 : decode cL_propose 18 = .ok (.ireturn, 1) := by decide +kernel
theorem dL_propose_19 : decode cL_propose 19 = .ok (.astore 5, 2) := by decide +kernel
theorem dL_propose_21 : decode cL_propose 21 = .ok (.iconst 2, 1) := by decide +kernel
theorem dL_propose_22 : decode cL_propose 22 = .ok (.ireturn, 1) := by decide +kernel
theorem dL_propose_23 : decode cL_propose 23 = .ok (.astore 5, 2) := by decide +kernel
theorem dL_propose_25 : decode cL_propose 25 = .ok (.iconst 3, 1) := by decide +kernel
theorem dL_propose_26 : decode cL_propose 26 = .ok (.ireturn, 1) := by decide +kernel
theorem dL_propose_27 : decode cL_propose 27 = .ok (.iconst 0, 1) := by decide +kernel
theorem dL_propose_28 : decode cL_propose 28 = .ok (.ireturn, 1) := by decide +kernel
theorem dL_rule_0 : decode cL_rule 0 = .ok (.aload_n 3, 1) := by decide +kernel
theorem dL_rule_1 : decode cL_rule 1 = .ok (.iconst 0, 1) := by decide +kernel
theorem dL_rule_2 : decode cL_rule 2 = .ok (.aload_n 0, 1) := by decide +kernel
theorem dL_rule_3 : decode cL_rule 3 = .ok (.iload_n 1, 1) := by decide +kernel
theorem dL_rule_4 : decode cL_rule 4 = .ok (.iload_n 2, 1) := by decide +kernel
theorem dL_rule_5 : decode cL_rule 5 = .ok (.invokevirtual 39, 3) := by decide +kernel
theorem dL_rule_8 : decode cL_rule 8 = .ok (.i2l, 1) := by decide +kernel
theorem dL_rule_9 : decode cL_rule 9 = .ok (.lastore, 1) := by decide +kernel
theorem dL_rule_10 : decode cL_rule 10 = .ok (.goto 15, 3) := by decide +kernel
theorem dL_rule_13 : decode cL_rule 13 = .ok (.astore 4, 2) := by decide +kernel
theorem dL_rule_15 : decode cL_rule 15 = .ok (.iconst 1, 1) := by decide +kernel
theorem dL_rule_16 : decode cL_rule 16 = .ok (.ireturn, 1) := by decide +kernel
theorem dL_rule_17 : decode cL_rule 17 = .ok (.astore 4, 2) := by decide +kernel
theorem dL_rule_19 : decode cL_rule 19 = .ok (.iconst 2, 1) := by decide +kernel
theorem dL_rule_20 : decode cL_rule 20 = .ok (.ireturn, 1) := by decide +kernel
theorem dL_rule_21 : decode cL_rule 21 = .ok (.astore 4, 2) := by decide +kernel
theorem dL_rule_23 : decode cL_rule 23 = .ok (.iconst 3, 1) := by decide +kernel
theorem dL_rule_24 : decode cL_rule 24 = .ok (.ireturn, 1) := by decide +kernel
theorem dL_rule_25 : decode cL_rule 25 = .ok (.iconst 0, 1) := by decide +kernel
theorem dL_rule_26 : decode cL_rule 26 = .ok (.ireturn, 1) := by decide +kernel
theorem dL_append_0 : decode cL_append 0 = .ok (.aload_n 2, 1) := by decide +kernel
theorem dL_append_1 : decode cL_append 1 = .ok (.iconst 0, 1) := by decide +kernel
theorem dL_append_2 : decode cL_append 2 = .ok (.aload_n 0, 1) := by decide +kernel
theorem dL_append_3 : decode cL_append 3 = .ok (.iload_n 1, 1) := by decide +kernel
theorem dL_append_4 : decode cL_append 4 = .ok (.invokevirtual 42, 3) := by decide +kernel
theorem dL_append_7 : decode cL_append 7 = .ok (.i2l, 1) := by decide +kernel
theorem dL_append_8 : decode cL_append 8 = .ok (.lastore, 1) := by decide +kernel
theorem dL_append_9 : decode cL_append 9 = .ok (.goto 9, 3) := by decide +kernel
theorem dL_append_12 : decode cL_append 12 = .ok (.astore_n 3, 1) := by decide +kernel
theorem dL_append_13 : decode cL_append 13 = .ok (.iconst 1, 1) := by decide +kernel
theorem dL_append_14 : decode cL_append 14 = .ok (.ireturn, 1) := by decide +kernel
theorem dL_append_15 : decode cL_append 15 = .ok (.astore_n 3, 1) := by decide +kernel
theorem dL_append_16 : decode cL_append 16 = .ok (.iconst 2, 1) := by decide +kernel
theorem dL_append_17 : decode cL_append 17 = .ok (.ireturn, 1) := by decide +kernel
theorem dL_append_18 : decode cL_append 18 = .ok (.iconst 0, 1) := by decide +kernel
theorem dL_append_19 : decode cL_append 19 = .ok (.ireturn, 1) := by decide +kernel
theorem dL_add_0 : decode cL_add 0 = .ok (.aload_n 1, 1) := by decide +kernel
theorem dL_add_1 : decode cL_add 1 = .ok (.iconst 0, 1) := by decide +kernel
theorem dL_add_2 : decode cL_add 2 = .ok (.aload_n 0, 1) := by decide +kernel
theorem dL_add_3 : decode cL_add 3 = .ok (.invokevirtual 45, 3) := by decide +kernel
theorem dL_add_6 : decode cL_add 6 = .ok (.i2l, 1) := by decide +kernel
theorem dL_add_7 : decode cL_add 7 = .ok (.lastore, 1) := by decide +kernel
theorem dL_add_8 : decode cL_add 8 = .ok (.goto 9, 3) := by decide +kernel
theorem dL_add_11 : decode cL_add 11 = .ok (.astore_n 2, 1) := by decide +kernel
theorem dL_add_12 : decode cL_add 12 = .ok (.iconst 1, 1) := by decide +kernel
theorem dL_add_13 : decode cL_add 13 = .ok (.ireturn, 1) := by decide +kernel
theorem dL_add_14 : decode cL_add 14 = .ok (.astore_n 2, 1) := by decide +kernel
theorem dL_add_15 : decode cL_add 15 = .ok (.iconst 2, 1) := by decide +kernel
theorem dL_add_16 : decode cL_add 16 = .ok (.ireturn, 1) := by decide +kernel
theorem dL_add_17 : decode cL_add 17 = .ok (.iconst 0, 1) := by decide +kernel
theorem dL_add_18 : decode cL_add 18 = .ok (.ireturn, 1) := by decide +kernel
theorem dL_change_0 : decode cL_change 0 = .ok (.aload_n 2, 1) := by decide +kernel
theorem dL_change_1 : decode cL_change 1 = .ok (.iconst 0, 1) := by decide +kernel
theorem dL_change_2 : decode cL_change 2 = .ok (.aload_n 0, 1) := by decide +kernel
theorem dL_change_3 : decode cL_change 3 = .ok (.iload_n 1, 1) := by decide +kernel
theorem dL_change_4 : decode cL_change 4 = .ok (.invokevirtual 49, 3) := by decide +kernel
theorem dL_change_7 : decode cL_change 7 = .ok (.i2l, 1) := by decide +kernel
theorem dL_change_8 : decode cL_change 8 = .ok (.lastore, 1) := by decide +kernel
theorem dL_change_9 : decode cL_change 9 = .ok (.goto 9, 3) := by decide +kernel
theorem dL_change_12 : decode cL_change 12 = .ok (.astore_n 3, 1) := by decide +kernel
theorem dL_change_13 : decode cL_change 13 = .ok (.iconst 1, 1) := by decide +kernel
theorem dL_change_14 : decode cL_change 14 = .ok (.ireturn, 1) := by decide +kernel
theorem dL_change_15 : decode cL_change 15 = .ok (.astore_n 3, 1) := by decide +kernel
theorem dL_change_16 : decode cL_change 16 = .ok (.iconst 2, 1) := by decide +kernel
theorem dL_change_17 : decode cL_change 17 = .ok (.ireturn, 1) := by decide +kernel
theorem dL_change_18 : decode cL_change 18 = .ok (.iconst 0, 1) := by decide +kernel
theorem dL_change_19 : decode cL_change 19 = .ok (.ireturn, 1) := by decide +kernel
theorem dL_undo_0 : decode cL_undo 0 = .ok (.aload_n 1, 1) := by decide +kernel
theorem dL_undo_1 : decode cL_undo 1 = .ok (.iconst 0, 1) := by decide +kernel
theorem dL_undo_2 : decode cL_undo 2 = .ok (.aload_n 0, 1) := by decide +kernel
theorem dL_undo_3 : decode cL_undo 3 = .ok (.invokevirtual 52, 3) := by decide +kernel
theorem dL_undo_6 : decode cL_undo 6 = .ok (.i2l, 1) := by decide +kernel
theorem dL_undo_7 : decode cL_undo 7 = .ok (.lastore, 1) := by decide +kernel
theorem dL_undo_8 : decode cL_undo 8 = .ok (.goto 6, 3) := by decide +kernel
theorem dL_undo_11 : decode cL_undo 11 = .ok (.astore_n 2, 1) := by decide +kernel
theorem dL_undo_12 : decode cL_undo 12 = .ok (.iconst 1, 1) := by decide +kernel
theorem dL_undo_13 : decode cL_undo 13 = .ok (.ireturn, 1) := by decide +kernel
theorem dL_undo_14 : decode cL_undo 14 = .ok (.iconst 0, 1) := by decide +kernel
theorem dL_undo_15 : decode cL_undo 15 = .ok (.ireturn, 1) := by decide +kernel
theorem dL_segment_0 : decode cL_segment 0 = .ok (.aload_n 3, 1) := by decide +kernel
theorem dL_segment_1 : decode cL_segment 1 = .ok (.iconst 0, 1) := by decide +kernel
theorem dL_segment_2 : decode cL_segment 2 = .ok (.aload_n 0, 1) := by decide +kernel
theorem dL_segment_3 : decode cL_segment 3 = .ok (.iload_n 1, 1) := by decide +kernel
theorem dL_segment_4 : decode cL_segment 4 = .ok (.iload_n 2, 1) := by decide +kernel
theorem dL_segment_5 : decode cL_segment 5 = .ok (.invokevirtual 55, 3) := by decide +kernel
theorem dL_segment_8 : decode cL_segment 8 = .ok (.i2l, 1) := by decide +kernel
theorem dL_segment_9 : decode cL_segment 9 = .ok (.lastore, 1) := by decide +kernel
theorem dL_segment_10 : decode cL_segment 10 = .ok (.goto 11, 3) := by decide +kernel
theorem dL_segment_13 : decode cL_segment 13 = .ok (.astore 4, 2) := by decide +kernel
theorem dL_segment_15 : decode cL_segment 15 = .ok (.iconst 1, 1) := by decide +kernel
theorem dL_segment_16 : decode cL_segment 16 = .ok (.ireturn, 1) := by decide +kernel
theorem dL_segment_17 : decode cL_segment 17 = .ok (.astore 4, 2) := by decide +kernel
theorem dL_segment_19 : decode cL_segment 19 = .ok (.iconst 2, 1) := by decide +kernel
theorem dL_segment_20 : decode cL_segment 20 = .ok (.ireturn, 1) := by decide +kernel
theorem dL_segment_21 : decode cL_segment 21 = .ok (.iconst 0, 1) := by decide +kernel
theorem dL_segment_22 : decode cL_segment 22 = .ok (.ireturn, 1) := by decide +kernel
theorem dL_word_0 : decode cL_word 0 = .ok (.aload_n 3, 1) := by decide +kernel
theorem dL_word_1 : decode cL_word 1 = .ok (.iconst 0, 1) := by decide +kernel
theorem dL_word_2 : decode cL_word 2 = .ok (.aload_n 0, 1) := by decide +kernel
theorem dL_word_3 : decode cL_word 3 = .ok (.iload_n 1, 1) := by decide +kernel
theorem dL_word_4 : decode cL_word 4 = .ok (.iload_n 2, 1) := by decide +kernel
theorem dL_word_5 : decode cL_word 5 = .ok (.invokevirtual 58, 3) := by decide +kernel
theorem dL_word_8 : decode cL_word 8 = .ok (.i2l, 1) := by decide +kernel
theorem dL_word_9 : decode cL_word 9 = .ok (.lastore, 1) := by decide +kernel
theorem dL_word_10 : decode cL_word 10 = .ok (.goto 11, 3) := by decide +kernel
theorem dL_word_13 : decode cL_word 13 = .ok (.astore 4, 2) := by decide +kernel
theorem dL_word_15 : decode cL_word 15 = .ok (.iconst 1, 1) := by decide +kernel
theorem dL_word_16 : decode cL_word 16 = .ok (.ireturn, 1) := by decide +kernel
theorem dL_word_17 : decode cL_word 17 = .ok (.astore 4, 2) := by decide +kernel
theorem dL_word_19 : decode cL_word 19 = .ok (.iconst 2, 1) := by decide +kernel
theorem dL_word_20 : decode cL_word 20 = .ok (.ireturn, 1) := by decide +kernel
theorem dL_word_21 : decode cL_word 21 = .ok (.iconst 0, 1) := by decide +kernel
theorem dL_word_22 : decode cL_word 22 = .ok (.ireturn, 1) := by decide +kernel
theorem dL_remembered_0 : decode cL_remembered 0 = .ok (.aload_n 3, 1) := by decide +kernel
theorem dL_remembered_1 : decode cL_remembered 1 = .ok (.iconst 0, 1) := by decide +kernel
theorem dL_remembered_2 : decode cL_remembered 2 = .ok (.aload_n 0, 1) := by decide +kernel
theorem dL_remembered_3 : decode cL_remembered 3 = .ok (.iload_n 1, 1) := by decide +kernel
theorem dL_remembered_4 : decode cL_remembered 4 = .ok (.iload_n 2, 1) := by decide +kernel
theorem dL_remembered_5 : decode cL_remembered 5 = .ok (.invokevirtual 61, 3) := by decide +kernel
theorem dL_remembered_8 : decode cL_remembered 8 = .ok (.i2l, 1) := by decide +kernel
theorem dL_remembered_9 : decode cL_remembered 9 = .ok (.lastore, 1) := by decide +kernel
theorem dL_remembered_10 : decode cL_remembered 10 = .ok (.goto 11, 3) := by decide +kernel
theorem dL_remembered_13 : decode cL_remembered 13 = .ok (.astore 4, 2) := by decide +kernel
theorem dL_remembered_15 : decode cL_remembered 15 = .ok (.iconst 1, 1) := by decide +kernel
theorem dL_remembered_16 : decode cL_remembered 16 = .ok (.ireturn, 1) := by decide +kernel
theorem dL_remembered_17 : decode cL_remembered 17 = .ok (.astore 4, 2) := by decide +kernel
theorem dL_remembered_19 : decode cL_remembered 19 = .ok (.iconst 2, 1) := by decide +kernel
theorem dL_remembered_20 : decode cL_remembered 20 = .ok (.ireturn, 1) := by decide +kernel
theorem dL_remembered_21 : decode cL_remembered 21 = .ok (.iconst 0, 1) := by decide +kernel
theorem dL_remembered_22 : decode cL_remembered 22 = .ok (.ireturn, 1) := by decide +kernel
theorem dL_translator_0 : decode cL_translator 0 = .ok (.aload_n 3, 1) := by decide +kernel
theorem dL_translator_1 : decode cL_translator 1 = .ok (.iconst 0, 1) := by decide +kernel
theorem dL_translator_2 : decode cL_translator 2 = .ok (.aload_n 0, 1) := by decide +kernel
theorem dL_translator_3 : decode cL_translator 3 = .ok (.iload_n 1, 1) := by decide +kernel
theorem dL_translator_4 : decode cL_translator 4 = .ok (.iload_n 2, 1) := by decide +kernel
theorem dL_translator_5 : decode cL_translator 5 = .ok (.invokevirtual 64, 3) := by decide +kernel
theorem dL_translator_8 : decode cL_translator 8 = .ok (.i2l, 1) := by decide +kernel
theorem dL_translator_9 : decode cL_translator 9 = .ok (.lastore, 1) := by decide +kernel
theorem dL_translator_10 : decode cL_translator 10 = .ok (.goto 11, 3) := by decide +kernel
theorem dL_translator_13 : decode cL_translator 13 = .ok (.astore 4, 2) := by decide +kernel
theorem dL_translator_15 : decode cL_translator 15 = .ok (.iconst 1, 1) := by decide +kernel
theorem dL_translator_16 : decode cL_translator 16 = .ok (.ireturn, 1) := by decide +kernel
theorem dL_translator_17 : decode cL_translator 17 = .ok (.astore 4, 2) := by decide +kernel
theorem dL_translator_19 : decode cL_translator 19 = .ok (.iconst 2, 1) := by decide +kernel
theorem dL_translator_20 : decode cL_translator 20 = .ok (.ireturn, 1) := by decide +kernel
theorem dL_translator_21 : decode cL_translator 21 = .ok (.iconst 0, 1) := by decide +kernel
theorem dL_translator_22 : decode cL_translator 22 = .ok (.ireturn, 1) := by decide +kernel
theorem dL_term_0 : decode cL_term 0 = .ok (.aload_n 3, 1) := by decide +kernel
theorem dL_term_1 : decode cL_term 1 = .ok (.iconst 0, 1) := by decide +kernel
theorem dL_term_2 : decode cL_term 2 = .ok (.aload_n 0, 1) := by decide +kernel
theorem dL_term_3 : decode cL_term 3 = .ok (.iload_n 1, 1) := by decide +kernel
theorem dL_term_4 : decode cL_term 4 = .ok (.iload_n 2, 1) := by decide +kernel
theorem dL_term_5 : decode cL_term 5 = .ok (.invokevirtual 67, 3) := by decide +kernel
theorem dL_term_8 : decode cL_term 8 = .ok (.i2l, 1) := by decide +kernel
theorem dL_term_9 : decode cL_term 9 = .ok (.lastore, 1) := by decide +kernel
theorem dL_term_10 : decode cL_term 10 = .ok (.goto 11, 3) := by decide +kernel
theorem dL_term_13 : decode cL_term 13 = .ok (.astore 4, 2) := by decide +kernel
theorem dL_term_15 : decode cL_term 15 = .ok (.iconst 1, 1) := by decide +kernel
theorem dL_term_16 : decode cL_term 16 = .ok (.ireturn, 1) := by decide +kernel
theorem dL_term_17 : decode cL_term 17 = .ok (.astore 4, 2) := by decide +kernel
theorem dL_term_19 : decode cL_term 19 = .ok (.iconst 2, 1) := by decide +kernel
theorem dL_term_20 : decode cL_term 20 = .ok (.ireturn, 1) := by decide +kernel
theorem dL_term_21 : decode cL_term 21 = .ok (.iconst 0, 1) := by decide +kernel
theorem dL_term_22 : decode cL_term 22 = .ok (.ireturn, 1) := by decide +kernel
theorem dL_band_0 : decode cL_band 0 = .ok (.aload_n 3, 1) := by decide +kernel
theorem dL_band_1 : decode cL_band 1 = .ok (.iconst 0, 1) := by decide +kernel
theorem dL_band_2 : decode cL_band 2 = .ok (.aload_n 0, 1) := by decide +kernel
theorem dL_band_3 : decode cL_band 3 = .ok (.iload_n 1, 1) := by decide +kernel
theorem dL_band_4 : decode cL_band 4 = .ok (.iload_n 2, 1) := by decide +kernel
theorem dL_band_5 : decode cL_band 5 = .ok (.invokevirtual 70, 3) := by decide +kernel
theorem dL_band_8 : decode cL_band 8 = .ok (.i2l, 1) := by decide +kernel
theorem dL_band_9 : decode cL_band 9 = .ok (.lastore, 1) := by decide +kernel
theorem dL_band_10 : decode cL_band 10 = .ok (.goto 11, 3) := by decide +kernel
theorem dL_band_13 : decode cL_band 13 = .ok (.astore 4, 2) := by decide +kernel
theorem dL_band_15 : decode cL_band 15 = .ok (.iconst 1, 1) := by decide +kernel
theorem dL_band_16 : decode cL_band 16 = .ok (.ireturn, 1) := by decide +kernel
theorem dL_band_17 : decode cL_band 17 = .ok (.astore 4, 2) := by decide +kernel
theorem dL_band_19 : decode cL_band 19 = .ok (.iconst 2, 1) := by decide +kernel
theorem dL_band_20 : decode cL_band 20 = .ok (.ireturn, 1) := by decide +kernel
theorem dL_band_21 : decode cL_band 21 = .ok (.iconst 0, 1) := by decide +kernel
theorem dL_band_22 : decode cL_band 22 = .ok (.ireturn, 1) := by decide +kernel
theorem dL_count_0 : decode cL_count 0 = .ok (.aload_n 2, 1) := by decide +kernel
theorem dL_count_1 : decode cL_count 1 = .ok (.iconst 0, 1) := by decide +kernel
theorem dL_count_2 : decode cL_count 2 = .ok (.aload_n 0, 1) := by decide +kernel
theorem dL_count_3 : decode cL_count 3 = .ok (.iload_n 1, 1) := by decide +kernel
theorem dL_count_4 : decode cL_count 4 = .ok (.invokevirtual 73, 3) := by decide +kernel
theorem dL_count_7 : decode cL_count 7 = .ok (.i2l, 1) := by decide +kernel
theorem dL_count_8 : decode cL_count 8 = .ok (.lastore, 1) := by decide +kernel
theorem dL_count_9 : decode cL_count 9 = .ok (.goto 6, 3) := by decide +kernel
theorem dL_count_12 : decode cL_count 12 = .ok (.astore_n 3, 1) := by decide +kernel
theorem dL_count_13 : decode cL_count 13 = .ok (.iconst 1, 1) := by decide +kernel
theorem dL_count_14 : decode cL_count 14 = .ok (.ireturn, 1) := by decide +kernel
theorem dL_count_15 : decode cL_count 15 = .ok (.iconst 0, 1) := by decide +kernel
theorem dL_count_16 : decode cL_count 16 = .ok (.ireturn, 1) := by decide +kernel
theorem dL_setting_0 : decode cL_setting 0 = .ok (.aload_n 2, 1) := by decide +kernel
theorem dL_setting_1 : decode cL_setting 1 = .ok (.iconst 0, 1) := by decide +kernel
theorem dL_setting_2 : decode cL_setting 2 = .ok (.aload_n 0, 1) := by decide +kernel
theorem dL_setting_3 : decode cL_setting 3 = .ok (.iload_n 1, 1) := by decide +kernel
theorem dL_setting_4 : decode cL_setting 4 = .ok (.invokevirtual 76, 3) := by decide +kernel
theorem dL_setting_7 : decode cL_setting 7 = .ok (.i2l, 1) := by decide +kernel
theorem dL_setting_8 : decode cL_setting 8 = .ok (.lastore, 1) := by decide +kernel
theorem dL_setting_9 : decode cL_setting 9 = .ok (.goto 6, 3) := by decide +kernel
theorem dL_setting_12 : decode cL_setting 12 = .ok (.astore_n 3, 1) := by decide +kernel
theorem dL_setting_13 : decode cL_setting 13 = .ok (.iconst 1, 1) := by decide +kernel
theorem dL_setting_14 : decode cL_setting 14 = .ok (.ireturn, 1) := by decide +kernel
theorem dL_setting_15 : decode cL_setting 15 = .ok (.iconst 0, 1) := by decide +kernel
theorem dL_setting_16 : decode cL_setting 16 = .ok (.ireturn, 1) := by decide +kernel
theorem dL_near_0 : decode cL_near 0 = .ok (.aload 4, 2) := by decide +kernel
theorem dL_near_2 : decode cL_near 2 = .ok (.iconst 0, 1) := by decide +kernel
theorem dL_near_3 : decode cL_near 3 = .ok (.aload_n 0, 1) := by decide +kernel
theorem dL_near_4 : decode cL_near 4 = .ok (.iload_n 1, 1) := by decide +kernel
theorem dL_near_5 : decode cL_near 5 = .ok (.iload_n 2, 1) := by decide +kernel
theorem dL_near_6 : decode cL_near 6 = .ok (.iload_n 3, 1) := by decide +kernel
theorem dL_near_7 : decode cL_near 7 = .ok (.invokevirtual 79, 3) := by decide +kernel
theorem dL_near_10 : decode cL_near 10 = .ok (.i2l, 1) := by decide +kernel
theorem dL_near_11 : decode cL_near 11 = .ok (.lastore, 1) := by decide +kernel
theorem dL_near_12 : decode cL_near 12 = .ok (.goto 11, 3) := by decide +kernel
theorem dL_near_15 : decode cL_near 15 = .ok (.astore 5, 2) := by decide +kernel
theorem dL_near_17 : decode cL_near 17 = .ok (.iconst 1, 1) := by decide +kernel
theorem dL_near_18 : decode cL_near 18 = .ok (.ireturn, 1) := by decide +kernel
theorem dL_near_19 : decode cL_near 19 = .ok (.astore 5, 2) := by decide +kernel
theorem dL_near_21 : decode cL_near 21 = .ok (.iconst 2, 1) := by decide +kernel
theorem dL_near_22 : decode cL_near 22 = .ok (.ireturn, 1) := by decide +kernel
theorem dL_near_23 : decode cL_near 23 = .ok (.iconst 0, 1) := by decide +kernel
theorem dL_near_24 : decode cL_near 24 = .ok (.ireturn, 1) := by decide +kernel
theorem dL_common_0 : decode cL_common 0 = .ok (.aload 4, 2) := by decide +kernel
theorem dL_common_2 : decode cL_common 2 = .ok (.iconst 0, 1) := by decide +kernel
theorem dL_common_3 : decode cL_common 3 = .ok (.aload_n 0, 1) := by decide +kernel
theorem dL_common_4 : decode cL_common 4 = .ok (.iload_n 1, 1) := by decide +kernel
theorem dL_common_5 : decode cL_common 5 = .ok (.iload_n 2, 1) := by decide +kernel
theorem dL_common_6 : decode cL_common 6 = .ok (.iload_n 3, 1) := by decide +kernel
theorem dL_common_7 : decode cL_common 7 = .ok (.invokevirtual 82, 3) := by decide +kernel
theorem dL_common_10 : decode cL_common 10 = .ok (.i2l, 1) := by decide +kernel
theorem dL_common_11 : decode cL_common 11 = .ok (.lastore, 1) := by decide +kernel
theorem dL_common_12 : decode cL_common 12 = .ok (.goto 11, 3) := by decide +kernel
theorem dL_common_15 : decode cL_common 15 = .ok (.astore 5, 2) := by decide +kernel
theorem dL_common_17 : decode cL_common 17 = .ok (.iconst 1, 1) := by decide +kernel
theorem dL_common_18 : decode cL_common 18 = .ok (.ireturn, 1) := by decide +kernel
theorem dL_common_19 : decode cL_common 19 = .ok (.astore 5, 2) := by decide +kernel
theorem dL_common_21 : decode cL_common 21 = .ok (.iconst 2, 1) := by decide +kernel
theorem dL_common_22 : decode cL_common 22 = .ok (.ireturn, 1) := by decide +kernel
theorem dL_common_23 : decode cL_common 23 = .ok (.iconst 0, 1) := by decide +kernel
theorem dL_common_24 : decode cL_common 24 = .ok (.ireturn, 1) := by decide +kernel
theorem dL_ifPaid_0 : decode cL_ifPaid 0 = .ok (.aload_n 3, 1) := by decide +kernel
theorem dL_ifPaid_1 : decode cL_ifPaid 1 = .ok (.iconst 0, 1) := by decide +kernel
theorem dL_ifPaid_2 : decode cL_ifPaid 2 = .ok (.aload_n 0, 1) := by decide +kernel
theorem dL_ifPaid_3 : decode cL_ifPaid 3 = .ok (.iload_n 1, 1) := by decide +kernel
theorem dL_ifPaid_4 : decode cL_ifPaid 4 = .ok (.iload_n 2, 1) := by decide +kernel
theorem dL_ifPaid_5 : decode cL_ifPaid 5 = .ok (.invokevirtual 85, 3) := by decide +kernel
theorem dL_ifPaid_8 : decode cL_ifPaid 8 = .ok (.i2l, 1) := by decide +kernel
theorem dL_ifPaid_9 : decode cL_ifPaid 9 = .ok (.lastore, 1) := by decide +kernel
theorem dL_ifPaid_10 : decode cL_ifPaid 10 = .ok (.goto 7, 3) := by decide +kernel
theorem dL_ifPaid_13 : decode cL_ifPaid 13 = .ok (.astore 4, 2) := by decide +kernel
theorem dL_ifPaid_15 : decode cL_ifPaid 15 = .ok (.iconst 1, 1) := by decide +kernel
theorem dL_ifPaid_16 : decode cL_ifPaid 16 = .ok (.ireturn, 1) := by decide +kernel
theorem dL_ifPaid_17 : decode cL_ifPaid 17 = .ok (.iconst 0, 1) := by decide +kernel
theorem dL_ifPaid_18 : decode cL_ifPaid 18 = .ok (.ireturn, 1) := by decide +kernel
theorem dL_orderMatters_0 : decode cL_orderMatters 0 = .ok (.aload_n 3, 1) := by decide +kernel
theorem dL_orderMatters_1 : decode cL_orderMatters 1 = .ok (.iconst 0, 1) := by decide +kernel
theorem dL_orderMatters_2 : decode cL_orderMatters 2 = .ok (.aload_n 0, 1) := by decide +kernel
theorem dL_orderMatters_3 : decode cL_orderMatters 3 = .ok (.iload_n 1, 1) := by decide +kernel
theorem dL_orderMatters_4 : decode cL_orderMatters 4 = .ok (.iload_n 2, 1) := by decide +kernel
theorem dL_orderMatters_5 : decode cL_orderMatters 5 = .ok (.invokevirtual 88, 3) := by decide +kernel
theorem dL_orderMatters_8 : decode cL_orderMatters 8 = .ok (.i2l, 1) := by decide +kernel
theorem dL_orderMatters_9 : decode cL_orderMatters 9 = .ok (.lastore, 1) := by decide +kernel
theorem dL_orderMatters_10 : decode cL_orderMatters 10 = .ok (.goto 15, 3) := by decide +kernel
theorem dL_orderMatters_13 : decode cL_orderMatters 13 = .ok (.astore 4, 2) := by decide +kernel
theorem dL_orderMatters_15 : decode cL_orderMatters 15 = .ok (.iconst 1, 1) := by decide +kernel
theorem dL_orderMatters_16 : decode cL_orderMatters 16 = .ok (.ireturn, 1) := by decide +kernel
theorem dL_orderMatters_17 : decode cL_orderMatters 17 = .ok (.astore 4, 2) := by decide +kernel
theorem dL_orderMatters_19 : decode cL_orderMatters 19 = .ok (.iconst 2, 1) := by decide +kernel
theorem dL_orderMatters_20 : decode cL_orderMatters 20 = .ok (.ireturn, 1) := by decide +kernel
theorem dL_orderMatters_21 : decode cL_orderMatters 21 = .ok (.astore 4, 2) := by decide +kernel
theorem dL_orderMatters_23 : decode cL_orderMatters 23 = .ok (.iconst 3, 1) := by decide +kernel
theorem dL_orderMatters_24 : decode cL_orderMatters 24 = .ok (.ireturn, 1) := by decide +kernel
theorem dL_orderMatters_25 : decode cL_orderMatters 25 = .ok (.iconst 0, 1) := by decide +kernel
theorem dL_orderMatters_26 : decode cL_orderMatters 26 = .ok (.ireturn, 1) := by decide +kernel
theorem dL_law_0 : decode cL_law 0 = .ok (.new 8, 3) := by decide +kernel
theorem dL_law_3 : decode cL_law 3 = .ok (.dup, 1) := by decide +kernel
theorem dL_law_4 : decode cL_law 4 = .ok (.invokespecial 91, 3) := by decide +kernel
theorem dL_law_7 : decode cL_law 7 = .ok (.astore_n 1, 1) := by decide +kernel
theorem dL_law_8 : decode cL_law 8 = .ok (.new 92, 3) := by decide +kernel
theorem dL_law_11 : decode cL_law 11 = .ok (.dup, 1) := by decide +kernel
theorem dL_law_12 : decode cL_law 12 = .ok (.invokespecial 94, 3) := by decide +kernel
theorem dL_law_15 : decode cL_law 15 = .ok (.astore_n 2, 1) := by decide +kernel
theorem dL_law_16 : decode cL_law 16 = .ok (.iconst 1, 1) := by decide +kernel
theorem dL_law_17 : decode cL_law 17 = .ok (.newarray .long, 2) := by decide +kernel
theorem dL_law_19 : decode cL_law 19 = .ok (.astore_n 3, 1) := by decide +kernel
theorem dL_law_20 : decode cL_law 20 = .ok (.iconst 0, 1) := by decide +kernel
theorem dL_law_21 : decode cL_law 21 = .ok (.istore 4, 2) := by decide +kernel
theorem dL_law_23 : decode cL_law 23 = .ok (.iload 4, 2) := by decide +kernel
theorem dL_law_25 : decode cL_law 25 = .ok (.aload_n 0, 1) := by decide +kernel
theorem dL_law_26 : decode cL_law 26 = .ok (.arraylength, 1) := by decide +kernel
theorem dL_law_27 : decode cL_law 27 = .ok (.iconst 4, 1) := by decide +kernel
theorem dL_law_28 : decode cL_law 28 = .ok (.isub, 1) := by decide +kernel
theorem dL_law_29 : decode cL_law 29 = .ok (.if_icmp .gt 1811, 3) := by decide +kernel
theorem dL_law_32 : decode cL_law 32 = .ok (.aload_n 0, 1) := by decide +kernel
theorem dL_law_33 : decode cL_law 33 = .ok (.iload 4, 2) := by decide +kernel
theorem dL_law_35 : decode cL_law 35 = .ok (.iaload, 1) := by decide +kernel
theorem dL_law_36 : decode cL_law 36 = .ok (.bipush 31, 2) := by decide +kernel
theorem dL_law_38 : decode cL_law 38 = .ok (.iand, 1) := by decide +kernel
theorem dL_law_39 : decode cL_law 39 = .ok (.tableswitch 1795 0 28 #[129, 197, 265, 333, 401, 457, 537, 617, 685, 741, 754, 767, 811, 867, 911, 979, 1047, 1115, 1183, 1251, 1319, 1375, 1431, 1511, 1591, 1659, 1727, 1740, 1781], 129) := by decide +kernel
theorem dL_law_168 : decode cL_law 168 = .ok (.aload_n 1, 1) := by decide +kernel
theorem dL_law_169 : decode cL_law 169 = .ok (.aload_n 0, 1) := by decide +kernel
theorem dL_law_170 : decode cL_law 170 = .ok (.iload 4, 2) := by decide +kernel
theorem dL_law_172 : decode cL_law 172 = .ok (.iconst 1, 1) := by decide +kernel
theorem dL_law_173 : decode cL_law 173 = .ok (.iadd, 1) := by decide +kernel
theorem dL_law_174 : decode cL_law 174 = .ok (.iaload, 1) := by decide +kernel
theorem dL_law_175 : decode cL_law 175 = .ok (.aload_n 0, 1) := by decide +kernel
theorem dL_law_176 : decode cL_law 176 = .ok (.iload 4, 2) := by decide +kernel
theorem dL_law_178 : decode cL_law 178 = .ok (.iconst 2, 1) := by decide +kernel
theorem dL_law_179 : decode cL_law 179 = .ok (.iadd, 1) := by decide +kernel
theorem dL_law_180 : decode cL_law 180 = .ok (.iaload, 1) := by decide +kernel
theorem dL_law_181 : decode cL_law 181 = .ok (.aload_n 3, 1) := by decide +kernel
theorem dL_law_182 : decode cL_law 182 = .ok (.invokestatic 95, 3) := by decide +kernel
theorem dL_law_185 : decode cL_law 185 = .ok (.istore 5, 2) := by decide +kernel
theorem dL_law_187 : decode cL_law 187 = .ok (.aload_n 2, 1) := by decide +kernel
theorem dL_law_188 : decode cL_law 188 = .ok (.aload_n 0, 1) := by decide +kernel
theorem dL_law_189 : decode cL_law 189 = .ok (.iload 4, 2) := by decide +kernel
theorem dL_law_191 : decode cL_law 191 = .ok (.iconst 1, 1) := by decide +kernel
theorem dL_law_192 : decode cL_law 192 = .ok (.iadd, 1) := by decide +kernel
theorem dL_law_193 : decode cL_law 193 = .ok (.iaload, 1) := by decide +kernel
theorem dL_law_194 : decode cL_law 194 = .ok (.aload_n 0, 1) := by decide +kernel
theorem dL_law_195 : decode cL_law 195 = .ok (.iload 4, 2) := by decide +kernel
theorem dL_law_197 : decode cL_law 197 = .ok (.iconst 2, 1) := by decide +kernel
theorem dL_law_198 : decode cL_law 198 = .ok (.iadd, 1) := by decide +kernel
theorem dL_law_199 : decode cL_law 199 = .ok (.iaload, 1) := by decide +kernel
theorem dL_law_200 : decode cL_law 200 = .ok (.invokevirtual 100, 3) := by decide +kernel
theorem dL_law_203 : decode cL_law 203 = .ok (.istore 6, 2) := by decide +kernel
theorem dL_law_205 : decode cL_law 205 = .ok (.aload_n 2, 1) := by decide +kernel
theorem dL_law_206 : decode cL_law 206 = .ok (.invokevirtual 101, 3) := by decide +kernel
theorem dL_law_209 : decode cL_law 209 = .ok (.iload 5, 2) := by decide +kernel
theorem dL_law_211 : decode cL_law 211 = .ok (.if_icmp .eq 5, 3) := by decide +kernel
theorem dL_law_214 : decode cL_law 214 = .ok (.iconst 0, 1) := by decide +kernel
theorem dL_law_215 : decode cL_law 215 = .ok (.ireturn, 1) := by decide +kernel
theorem dL_law_216 : decode cL_law 216 = .ok (.iload 5, 2) := by decide +kernel
theorem dL_law_218 : decode cL_law 218 = .ok (.ifCond .ne 15, 3) := by decide +kernel
theorem dL_law_221 : decode cL_law 221 = .ok (.aload_n 3, 1) := by decide +kernel
theorem dL_law_222 : decode cL_law 222 = .ok (.iconst 0, 1) := by decide +kernel
theorem dL_law_223 : decode cL_law 223 = .ok (.laload, 1) := by decide +kernel
theorem dL_law_224 : decode cL_law 224 = .ok (.iload 6, 2) := by decide +kernel
theorem dL_law_226 : decode cL_law 226 = .ok (.i2l, 1) := by decide +kernel
theorem dL_law_227 : decode cL_law 227 = .ok (.lcmp, 1) := by decide +kernel
theorem dL_law_228 : decode cL_law 228 = .ok (.ifCond .eq 5, 3) := by decide +kernel
theorem dL_law_231 : decode cL_law 231 = .ok (.iconst 0, 1) := by decide +kernel
theorem dL_law_232 : decode cL_law 232 = .ok (.ireturn, 1) := by decide +kernel
theorem dL_law_233 : decode cL_law 233 = .ok (.goto 1601, 3) := by decide +kernel
theorem dL_law_236 : decode cL_law 236 = .ok (.aload_n 1, 1) := by decide +kernel
theorem dL_law_237 : decode cL_law 237 = .ok (.aload_n 0, 1) := by decide +kernel
theorem dL_law_238 : decode cL_law 238 = .ok (.iload 4, 2) := by decide +kernel
theorem dL_law_240 : decode cL_law 240 = .ok (.iconst 1, 1) := by decide +kernel
theorem dL_law_241 : decode cL_law 241 = .ok (.iadd, 1) := by decide +kernel
theorem dL_law_242 : decode cL_law 242 = .ok (.iaload, 1) := by decide +kernel
theorem dL_law_243 : decode cL_law 243 = .ok (.aload_n 0, 1) := by decide +kernel
theorem dL_law_244 : decode cL_law 244 = .ok (.iload 4, 2) := by decide +kernel
theorem dL_law_246 : decode cL_law 246 = .ok (.iconst 2, 1) := by decide +kernel
theorem dL_law_247 : decode cL_law 247 = .ok (.iadd, 1) := by decide +kernel
theorem dL_law_248 : decode cL_law 248 = .ok (.iaload, 1) := by decide +kernel
theorem dL_law_249 : decode cL_law 249 = .ok (.aload_n 3, 1) := by decide +kernel
theorem dL_law_250 : decode cL_law 250 = .ok (.invokestatic 104, 3) := by decide +kernel
theorem dL_law_253 : decode cL_law 253 = .ok (.istore 5, 2) := by decide +kernel
theorem dL_law_255 : decode cL_law 255 = .ok (.aload_n 2, 1) := by decide +kernel
theorem dL_law_256 : decode cL_law 256 = .ok (.aload_n 0, 1) := by decide +kernel
theorem dL_law_257 : decode cL_law 257 = .ok (.iload 4, 2) := by decide +kernel
theorem dL_law_259 : decode cL_law 259 = .ok (.iconst 1, 1) := by decide +kernel
theorem dL_law_260 : decode cL_law 260 = .ok (.iadd, 1) := by decide +kernel
theorem dL_law_261 : decode cL_law 261 = .ok (.iaload, 1) := by decide +kernel
theorem dL_law_262 : decode cL_law 262 = .ok (.aload_n 0, 1) := by decide +kernel
theorem dL_law_263 : decode cL_law 263 = .ok (.iload 4, 2) := by decide +kernel
theorem dL_law_265 : decode cL_law 265 = .ok (.iconst 2, 1) := by decide +kernel
theorem dL_law_266 : decode cL_law 266 = .ok (.iadd, 1) := by decide +kernel
theorem dL_law_267 : decode cL_law 267 = .ok (.iaload, 1) := by decide +kernel
theorem dL_law_268 : decode cL_law 268 = .ok (.invokevirtual 106, 3) := by decide +kernel
theorem dL_law_271 : decode cL_law 271 = .ok (.istore 6, 2) := by decide +kernel
theorem dL_law_273 : decode cL_law 273 = .ok (.aload_n 2, 1) := by decide +kernel
theorem dL_law_274 : decode cL_law 274 = .ok (.invokevirtual 101, 3) := by decide +kernel
theorem dL_law_277 : decode cL_law 277 = .ok (.iload 5, 2) := by decide +kernel
theorem dL_law_279 : decode cL_law 279 = .ok (.if_icmp .eq 5, 3) := by decide +kernel
theorem dL_law_282 : decode cL_law 282 = .ok (.iconst 0, 1) := by decide +kernel
theorem dL_law_283 : decode cL_law 283 = .ok (.ireturn, 1) := by decide +kernel
theorem dL_law_284 : decode cL_law 284 = .ok (.iload 5, 2) := by decide +kernel
theorem dL_law_286 : decode cL_law 286 = .ok (.ifCond .ne 15, 3) := by decide +kernel
theorem dL_law_289 : decode cL_law 289 = .ok (.aload_n 3, 1) := by decide +kernel
theorem dL_law_290 : decode cL_law 290 = .ok (.iconst 0, 1) := by decide +kernel
theorem dL_law_291 : decode cL_law 291 = .ok (.laload, 1) := by decide +kernel
theorem dL_law_292 : decode cL_law 292 = .ok (.iload 6, 2) := by decide +kernel
theorem dL_law_294 : decode cL_law 294 = .ok (.i2l, 1) := by decide +kernel
theorem dL_law_295 : decode cL_law 295 = .ok (.lcmp, 1) := by decide +kernel
theorem dL_law_296 : decode cL_law 296 = .ok (.ifCond .eq 5, 3) := by decide +kernel
theorem dL_law_299 : decode cL_law 299 = .ok (.iconst 0, 1) := by decide +kernel
theorem dL_law_300 : decode cL_law 300 = .ok (.ireturn, 1) := by decide +kernel
theorem dL_law_301 : decode cL_law 301 = .ok (.goto 1533, 3) := by decide +kernel
theorem dL_law_304 : decode cL_law 304 = .ok (.aload_n 1, 1) := by decide +kernel
theorem dL_law_305 : decode cL_law 305 = .ok (.aload_n 0, 1) := by decide +kernel
theorem dL_law_306 : decode cL_law 306 = .ok (.iload 4, 2) := by decide +kernel
theorem dL_law_308 : decode cL_law 308 = .ok (.iconst 1, 1) := by decide +kernel
theorem dL_law_309 : decode cL_law 309 = .ok (.iadd, 1) := by decide +kernel
theorem dL_law_310 : decode cL_law 310 = .ok (.iaload, 1) := by decide +kernel
theorem dL_law_311 : decode cL_law 311 = .ok (.aload_n 0, 1) := by decide +kernel
theorem dL_law_312 : decode cL_law 312 = .ok (.iload 4, 2) := by decide +kernel
theorem dL_law_314 : decode cL_law 314 = .ok (.iconst 2, 1) := by decide +kernel
theorem dL_law_315 : decode cL_law 315 = .ok (.iadd, 1) := by decide +kernel
theorem dL_law_316 : decode cL_law 316 = .ok (.iaload, 1) := by decide +kernel
theorem dL_law_317 : decode cL_law 317 = .ok (.aload_n 3, 1) := by decide +kernel
theorem dL_law_318 : decode cL_law 318 = .ok (.invokestatic 107, 3) := by decide +kernel
theorem dL_law_321 : decode cL_law 321 = .ok (.istore 5, 2) := by decide +kernel
theorem dL_law_323 : decode cL_law 323 = .ok (.aload_n 2, 1) := by decide +kernel
theorem dL_law_324 : decode cL_law 324 = .ok (.aload_n 0, 1) := by decide +kernel
theorem dL_law_325 : decode cL_law 325 = .ok (.iload 4, 2) := by decide +kernel
theorem dL_law_327 : decode cL_law 327 = .ok (.iconst 1, 1) := by decide +kernel
theorem dL_law_328 : decode cL_law 328 = .ok (.iadd, 1) := by decide +kernel
theorem dL_law_329 : decode cL_law 329 = .ok (.iaload, 1) := by decide +kernel
theorem dL_law_330 : decode cL_law 330 = .ok (.aload_n 0, 1) := by decide +kernel
theorem dL_law_331 : decode cL_law 331 = .ok (.iload 4, 2) := by decide +kernel
theorem dL_law_333 : decode cL_law 333 = .ok (.iconst 2, 1) := by decide +kernel
theorem dL_law_334 : decode cL_law 334 = .ok (.iadd, 1) := by decide +kernel
theorem dL_law_335 : decode cL_law 335 = .ok (.iaload, 1) := by decide +kernel
theorem dL_law_336 : decode cL_law 336 = .ok (.invokevirtual 109, 3) := by decide +kernel
theorem dL_law_339 : decode cL_law 339 = .ok (.istore 6, 2) := by decide +kernel
theorem dL_law_341 : decode cL_law 341 = .ok (.aload_n 2, 1) := by decide +kernel
theorem dL_law_342 : decode cL_law 342 = .ok (.invokevirtual 101, 3) := by decide +kernel
theorem dL_law_345 : decode cL_law 345 = .ok (.iload 5, 2) := by decide +kernel
theorem dL_law_347 : decode cL_law 347 = .ok (.if_icmp .eq 5, 3) := by decide +kernel
theorem dL_law_350 : decode cL_law 350 = .ok (.iconst 0, 1) := by decide +kernel
theorem dL_law_351 : decode cL_law 351 = .ok (.ireturn, 1) := by decide +kernel
theorem dL_law_352 : decode cL_law 352 = .ok (.iload 5, 2) := by decide +kernel
theorem dL_law_354 : decode cL_law 354 = .ok (.ifCond .ne 15, 3) := by decide +kernel
theorem dL_law_357 : decode cL_law 357 = .ok (.aload_n 3, 1) := by decide +kernel
theorem dL_law_358 : decode cL_law 358 = .ok (.iconst 0, 1) := by decide +kernel
theorem dL_law_359 : decode cL_law 359 = .ok (.laload, 1) := by decide +kernel
theorem dL_law_360 : decode cL_law 360 = .ok (.iload 6, 2) := by decide +kernel
theorem dL_law_362 : decode cL_law 362 = .ok (.i2l, 1) := by decide +kernel
theorem dL_law_363 : decode cL_law 363 = .ok (.lcmp, 1) := by decide +kernel
theorem dL_law_364 : decode cL_law 364 = .ok (.ifCond .eq 5, 3) := by decide +kernel
theorem dL_law_367 : decode cL_law 367 = .ok (.iconst 0, 1) := by decide +kernel
theorem dL_law_368 : decode cL_law 368 = .ok (.ireturn, 1) := by decide +kernel
theorem dL_law_369 : decode cL_law 369 = .ok (.goto 1465, 3) := by decide +kernel
theorem dL_law_372 : decode cL_law 372 = .ok (.aload_n 1, 1) := by decide +kernel
theorem dL_law_373 : decode cL_law 373 = .ok (.aload_n 0, 1) := by decide +kernel
theorem dL_law_374 : decode cL_law 374 = .ok (.iload 4, 2) := by decide +kernel
theorem dL_law_376 : decode cL_law 376 = .ok (.iconst 1, 1) := by decide +kernel
theorem dL_law_377 : decode cL_law 377 = .ok (.iadd, 1) := by decide +kernel
theorem dL_law_378 : decode cL_law 378 = .ok (.iaload, 1) := by decide +kernel
theorem dL_law_379 : decode cL_law 379 = .ok (.aload_n 0, 1) := by decide +kernel
theorem dL_law_380 : decode cL_law 380 = .ok (.iload 4, 2) := by decide +kernel
theorem dL_law_382 : decode cL_law 382 = .ok (.iconst 2, 1) := by decide +kernel
theorem dL_law_383 : decode cL_law 383 = .ok (.iadd, 1) := by decide +kernel
theorem dL_law_384 : decode cL_law 384 = .ok (.iaload, 1) := by decide +kernel
theorem dL_law_385 : decode cL_law 385 = .ok (.aload_n 3, 1) := by decide +kernel
theorem dL_law_386 : decode cL_law 386 = .ok (.invokestatic 110, 3) := by decide +kernel
theorem dL_law_389 : decode cL_law 389 = .ok (.istore 5, 2) := by decide +kernel
theorem dL_law_391 : decode cL_law 391 = .ok (.aload_n 2, 1) := by decide +kernel
theorem dL_law_392 : decode cL_law 392 = .ok (.aload_n 0, 1) := by decide +kernel
theorem dL_law_393 : decode cL_law 393 = .ok (.iload 4, 2) := by decide +kernel
theorem dL_law_395 : decode cL_law 395 = .ok (.iconst 1, 1) := by decide +kernel
theorem dL_law_396 : decode cL_law 396 = .ok (.iadd, 1) := by decide +kernel
theorem dL_law_397 : decode cL_law 397 = .ok (.iaload, 1) := by decide +kernel
theorem dL_law_398 : decode cL_law 398 = .ok (.aload_n 0, 1) := by decide +kernel
theorem dL_law_399 : decode cL_law 399 = .ok (.iload 4, 2) := by decide +kernel
theorem dL_law_401 : decode cL_law 401 = .ok (.iconst 2, 1) := by decide +kernel
theorem dL_law_402 : decode cL_law 402 = .ok (.iadd, 1) := by decide +kernel
theorem dL_law_403 : decode cL_law 403 = .ok (.iaload, 1) := by decide +kernel
theorem dL_law_404 : decode cL_law 404 = .ok (.invokevirtual 112, 3) := by decide +kernel
theorem dL_law_407 : decode cL_law 407 = .ok (.istore 6, 2) := by decide +kernel
theorem dL_law_409 : decode cL_law 409 = .ok (.aload_n 2, 1) := by decide +kernel
theorem dL_law_410 : decode cL_law 410 = .ok (.invokevirtual 101, 3) := by decide +kernel
theorem dL_law_413 : decode cL_law 413 = .ok (.iload 5, 2) := by decide +kernel
theorem dL_law_415 : decode cL_law 415 = .ok (.if_icmp .eq 5, 3) := by decide +kernel
theorem dL_law_418 : decode cL_law 418 = .ok (.iconst 0, 1) := by decide +kernel
theorem dL_law_419 : decode cL_law 419 = .ok (.ireturn, 1) := by decide +kernel
theorem dL_law_420 : decode cL_law 420 = .ok (.iload 5, 2) := by decide +kernel
theorem dL_law_422 : decode cL_law 422 = .ok (.ifCond .ne 15, 3) := by decide +kernel
theorem dL_law_425 : decode cL_law 425 = .ok (.aload_n 3, 1) := by decide +kernel
theorem dL_law_426 : decode cL_law 426 = .ok (.iconst 0, 1) := by decide +kernel
theorem dL_law_427 : decode cL_law 427 = .ok (.laload, 1) := by decide +kernel
theorem dL_law_428 : decode cL_law 428 = .ok (.iload 6, 2) := by decide +kernel
theorem dL_law_430 : decode cL_law 430 = .ok (.i2l, 1) := by decide +kernel
theorem dL_law_431 : decode cL_law 431 = .ok (.lcmp, 1) := by decide +kernel
theorem dL_law_432 : decode cL_law 432 = .ok (.ifCond .eq 5, 3) := by decide +kernel
theorem dL_law_435 : decode cL_law 435 = .ok (.iconst 0, 1) := by decide +kernel
theorem dL_law_436 : decode cL_law 436 = .ok (.ireturn, 1) := by decide +kernel
theorem dL_law_437 : decode cL_law 437 = .ok (.goto 1397, 3) := by decide +kernel
theorem dL_law_440 : decode cL_law 440 = .ok (.aload_n 1, 1) := by decide +kernel
theorem dL_law_441 : decode cL_law 441 = .ok (.aload_n 0, 1) := by decide +kernel
theorem dL_law_442 : decode cL_law 442 = .ok (.iload 4, 2) := by decide +kernel
theorem dL_law_444 : decode cL_law 444 = .ok (.iconst 1, 1) := by decide +kernel
theorem dL_law_445 : decode cL_law 445 = .ok (.iadd, 1) := by decide +kernel
theorem dL_law_446 : decode cL_law 446 = .ok (.iaload, 1) := by decide +kernel
theorem dL_law_447 : decode cL_law 447 = .ok (.aload_n 3, 1) := by decide +kernel
theorem dL_law_448 : decode cL_law 448 = .ok (.invokestatic 113, 3) := by decide +kernel
theorem dL_law_451 : decode cL_law 451 = .ok (.istore 5, 2) := by decide +kernel
theorem dL_law_453 : decode cL_law 453 = .ok (.aload_n 2, 1) := by decide +kernel
theorem dL_law_454 : decode cL_law 454 = .ok (.aload_n 0, 1) := by decide +kernel
theorem dL_law_455 : decode cL_law 455 = .ok (.iload 4, 2) := by decide +kernel
theorem dL_law_457 : decode cL_law 457 = .ok (.iconst 1, 1) := by decide +kernel
theorem dL_law_458 : decode cL_law 458 = .ok (.iadd, 1) := by decide +kernel
theorem dL_law_459 : decode cL_law 459 = .ok (.iaload, 1) := by decide +kernel
theorem dL_law_460 : decode cL_law 460 = .ok (.invokevirtual 116, 3) := by decide +kernel
theorem dL_law_463 : decode cL_law 463 = .ok (.istore 6, 2) := by decide +kernel
theorem dL_law_465 : decode cL_law 465 = .ok (.aload_n 2, 1) := by decide +kernel
theorem dL_law_466 : decode cL_law 466 = .ok (.invokevirtual 101, 3) := by decide +kernel
theorem dL_law_469 : decode cL_law 469 = .ok (.iload 5, 2) := by decide +kernel
theorem dL_law_471 : decode cL_law 471 = .ok (.if_icmp .eq 5, 3) := by decide +kernel
theorem dL_law_474 : decode cL_law 474 = .ok (.iconst 0, 1) := by decide +kernel
theorem dL_law_475 : decode cL_law 475 = .ok (.ireturn, 1) := by decide +kernel
theorem dL_law_476 : decode cL_law 476 = .ok (.iload 5, 2) := by decide +kernel
theorem dL_law_478 : decode cL_law 478 = .ok (.ifCond .ne 15, 3) := by decide +kernel
theorem dL_law_481 : decode cL_law 481 = .ok (.aload_n 3, 1) := by decide +kernel
theorem dL_law_482 : decode cL_law 482 = .ok (.iconst 0, 1) := by decide +kernel
theorem dL_law_483 : decode cL_law 483 = .ok (.laload, 1) := by decide +kernel
theorem dL_law_484 : decode cL_law 484 = .ok (.iload 6, 2) := by decide +kernel
theorem dL_law_486 : decode cL_law 486 = .ok (.i2l, 1) := by decide +kernel
theorem dL_law_487 : decode cL_law 487 = .ok (.lcmp, 1) := by decide +kernel
theorem dL_law_488 : decode cL_law 488 = .ok (.ifCond .eq 5, 3) := by decide +kernel
theorem dL_law_491 : decode cL_law 491 = .ok (.iconst 0, 1) := by decide +kernel
theorem dL_law_492 : decode cL_law 492 = .ok (.ireturn, 1) := by decide +kernel
theorem dL_law_493 : decode cL_law 493 = .ok (.goto 1341, 3) := by decide +kernel
theorem dL_law_496 : decode cL_law 496 = .ok (.aload_n 1, 1) := by decide +kernel
theorem dL_law_497 : decode cL_law 497 = .ok (.aload_n 0, 1) := by decide +kernel
theorem dL_law_498 : decode cL_law 498 = .ok (.iload 4, 2) := by decide +kernel
theorem dL_law_500 : decode cL_law 500 = .ok (.iconst 1, 1) := by decide +kernel
theorem dL_law_501 : decode cL_law 501 = .ok (.iadd, 1) := by decide +kernel
theorem dL_law_502 : decode cL_law 502 = .ok (.iaload, 1) := by decide +kernel
theorem dL_law_503 : decode cL_law 503 = .ok (.aload_n 0, 1) := by decide +kernel
theorem dL_law_504 : decode cL_law 504 = .ok (.iload 4, 2) := by decide +kernel
theorem dL_law_506 : decode cL_law 506 = .ok (.iconst 2, 1) := by decide +kernel
theorem dL_law_507 : decode cL_law 507 = .ok (.iadd, 1) := by decide +kernel
theorem dL_law_508 : decode cL_law 508 = .ok (.iaload, 1) := by decide +kernel
theorem dL_law_509 : decode cL_law 509 = .ok (.aload_n 0, 1) := by decide +kernel
theorem dL_law_510 : decode cL_law 510 = .ok (.iload 4, 2) := by decide +kernel
theorem dL_law_512 : decode cL_law 512 = .ok (.iconst 3, 1) := by decide +kernel
theorem dL_law_513 : decode cL_law 513 = .ok (.iadd, 1) := by decide +kernel
theorem dL_law_514 : decode cL_law 514 = .ok (.iaload, 1) := by decide +kernel
theorem dL_law_515 : decode cL_law 515 = .ok (.aload_n 3, 1) := by decide +kernel
theorem dL_law_516 : decode cL_law 516 = .ok (.invokestatic 117, 3) := by decide +kernel
theorem dL_law_519 : decode cL_law 519 = .ok (.istore 5, 2) := by decide +kernel
theorem dL_law_521 : decode cL_law 521 = .ok (.aload_n 2, 1) := by decide +kernel
theorem dL_law_522 : decode cL_law 522 = .ok (.aload_n 0, 1) := by decide +kernel
theorem dL_law_523 : decode cL_law 523 = .ok (.iload 4, 2) := by decide +kernel
theorem dL_law_525 : decode cL_law 525 = .ok (.iconst 1, 1) := by decide +kernel
theorem dL_law_526 : decode cL_law 526 = .ok (.iadd, 1) := by decide +kernel
theorem dL_law_527 : decode cL_law 527 = .ok (.iaload, 1) := by decide +kernel
theorem dL_law_528 : decode cL_law 528 = .ok (.aload_n 0, 1) := by decide +kernel
theorem dL_law_529 : decode cL_law 529 = .ok (.iload 4, 2) := by decide +kernel
theorem dL_law_531 : decode cL_law 531 = .ok (.iconst 2, 1) := by decide +kernel
theorem dL_law_532 : decode cL_law 532 = .ok (.iadd, 1) := by decide +kernel
theorem dL_law_533 : decode cL_law 533 = .ok (.iaload, 1) := by decide +kernel
theorem dL_law_534 : decode cL_law 534 = .ok (.aload_n 0, 1) := by decide +kernel
theorem dL_law_535 : decode cL_law 535 = .ok (.iload 4, 2) := by decide +kernel
theorem dL_law_537 : decode cL_law 537 = .ok (.iconst 3, 1) := by decide +kernel
theorem dL_law_538 : decode cL_law 538 = .ok (.iadd, 1) := by decide +kernel
theorem dL_law_539 : decode cL_law 539 = .ok (.iaload, 1) := by decide +kernel
theorem dL_law_540 : decode cL_law 540 = .ok (.invokevirtual 120, 3) := by decide +kernel
theorem dL_law_543 : decode cL_law 543 = .ok (.istore 6, 2) := by decide +kernel
theorem dL_law_545 : decode cL_law 545 = .ok (.aload_n 2, 1) := by decide +kernel
theorem dL_law_546 : decode cL_law 546 = .ok (.invokevirtual 101, 3) := by decide +kernel
theorem dL_law_549 : decode cL_law 549 = .ok (.iload 5, 2) := by decide +kernel
theorem dL_law_551 : decode cL_law 551 = .ok (.if_icmp .eq 5, 3) := by decide +kernel
theorem dL_law_554 : decode cL_law 554 = .ok (.iconst 0, 1) := by decide +kernel
theorem dL_law_555 : decode cL_law 555 = .ok (.ireturn, 1) := by decide +kernel
theorem dL_law_556 : decode cL_law 556 = .ok (.iload 5, 2) := by decide +kernel
theorem dL_law_558 : decode cL_law 558 = .ok (.ifCond .ne 15, 3) := by decide +kernel
theorem dL_law_561 : decode cL_law 561 = .ok (.aload_n 3, 1) := by decide +kernel
theorem dL_law_562 : decode cL_law 562 = .ok (.iconst 0, 1) := by decide +kernel
theorem dL_law_563 : decode cL_law 563 = .ok (.laload, 1) := by decide +kernel
theorem dL_law_564 : decode cL_law 564 = .ok (.iload 6, 2) := by decide +kernel
theorem dL_law_566 : decode cL_law 566 = .ok (.i2l, 1) := by decide +kernel
theorem dL_law_567 : decode cL_law 567 = .ok (.lcmp, 1) := by decide +kernel
theorem dL_law_568 : decode cL_law 568 = .ok (.ifCond .eq 5, 3) := by decide +kernel
theorem dL_law_571 : decode cL_law 571 = .ok (.iconst 0, 1) := by decide +kernel
theorem dL_law_572 : decode cL_law 572 = .ok (.ireturn, 1) := by decide +kernel
theorem dL_law_573 : decode cL_law 573 = .ok (.goto 1261, 3) := by decide +kernel
theorem dL_law_576 : decode cL_law 576 = .ok (.aload_n 1, 1) := by decide +kernel
theorem dL_law_577 : decode cL_law 577 = .ok (.aload_n 0, 1) := by decide +kernel
theorem dL_law_578 : decode cL_law 578 = .ok (.iload 4, 2) := by decide +kernel
theorem dL_law_580 : decode cL_law 580 = .ok (.iconst 1, 1) := by decide +kernel
theorem dL_law_581 : decode cL_law 581 = .ok (.iadd, 1) := by decide +kernel
theorem dL_law_582 : decode cL_law 582 = .ok (.iaload, 1) := by decide +kernel
theorem dL_law_583 : decode cL_law 583 = .ok (.aload_n 0, 1) := by decide +kernel
theorem dL_law_584 : decode cL_law 584 = .ok (.iload 4, 2) := by decide +kernel
theorem dL_law_586 : decode cL_law 586 = .ok (.iconst 2, 1) := by decide +kernel
theorem dL_law_587 : decode cL_law 587 = .ok (.iadd, 1) := by decide +kernel
theorem dL_law_588 : decode cL_law 588 = .ok (.iaload, 1) := by decide +kernel
theorem dL_law_589 : decode cL_law 589 = .ok (.aload_n 0, 1) := by decide +kernel
theorem dL_law_590 : decode cL_law 590 = .ok (.iload 4, 2) := by decide +kernel
theorem dL_law_592 : decode cL_law 592 = .ok (.iconst 3, 1) := by decide +kernel
theorem dL_law_593 : decode cL_law 593 = .ok (.iadd, 1) := by decide +kernel
theorem dL_law_594 : decode cL_law 594 = .ok (.iaload, 1) := by decide +kernel
theorem dL_law_595 : decode cL_law 595 = .ok (.aload_n 3, 1) := by decide +kernel
theorem dL_law_596 : decode cL_law 596 = .ok (.invokestatic 121, 3) := by decide +kernel
theorem dL_law_599 : decode cL_law 599 = .ok (.istore 5, 2) := by decide +kernel
theorem dL_law_601 : decode cL_law 601 = .ok (.aload_n 2, 1) := by decide +kernel
theorem dL_law_602 : decode cL_law 602 = .ok (.aload_n 0, 1) := by decide +kernel
theorem dL_law_603 : decode cL_law 603 = .ok (.iload 4, 2) := by decide +kernel
theorem dL_law_605 : decode cL_law 605 = .ok (.iconst 1, 1) := by decide +kernel
theorem dL_law_606 : decode cL_law 606 = .ok (.iadd, 1) := by decide +kernel
theorem dL_law_607 : decode cL_law 607 = .ok (.iaload, 1) := by decide +kernel
theorem dL_law_608 : decode cL_law 608 = .ok (.aload_n 0, 1) := by decide +kernel
theorem dL_law_609 : decode cL_law 609 = .ok (.iload 4, 2) := by decide +kernel
theorem dL_law_611 : decode cL_law 611 = .ok (.iconst 2, 1) := by decide +kernel
theorem dL_law_612 : decode cL_law 612 = .ok (.iadd, 1) := by decide +kernel
theorem dL_law_613 : decode cL_law 613 = .ok (.iaload, 1) := by decide +kernel
theorem dL_law_614 : decode cL_law 614 = .ok (.aload_n 0, 1) := by decide +kernel
theorem dL_law_615 : decode cL_law 615 = .ok (.iload 4, 2) := by decide +kernel
theorem dL_law_617 : decode cL_law 617 = .ok (.iconst 3, 1) := by decide +kernel
theorem dL_law_618 : decode cL_law 618 = .ok (.iadd, 1) := by decide +kernel
theorem dL_law_619 : decode cL_law 619 = .ok (.iaload, 1) := by decide +kernel
theorem dL_law_620 : decode cL_law 620 = .ok (.invokevirtual 123, 3) := by decide +kernel
theorem dL_law_623 : decode cL_law 623 = .ok (.istore 6, 2) := by decide +kernel
theorem dL_law_625 : decode cL_law 625 = .ok (.aload_n 2, 1) := by decide +kernel
theorem dL_law_626 : decode cL_law 626 = .ok (.invokevirtual 101, 3) := by decide +kernel
theorem dL_law_629 : decode cL_law 629 = .ok (.iload 5, 2) := by decide +kernel
theorem dL_law_631 : decode cL_law 631 = .ok (.if_icmp .eq 5, 3) := by decide +kernel
theorem dL_law_634 : decode cL_law 634 = .ok (.iconst 0, 1) := by decide +kernel
theorem dL_law_635 : decode cL_law 635 = .ok (.ireturn, 1) := by decide +kernel
theorem dL_law_636 : decode cL_law 636 = .ok (.iload 5, 2) := by decide +kernel
theorem dL_law_638 : decode cL_law 638 = .ok (.ifCond .ne 15, 3) := by decide +kernel
theorem dL_law_641 : decode cL_law 641 = .ok (.aload_n 3, 1) := by decide +kernel
theorem dL_law_642 : decode cL_law 642 = .ok (.iconst 0, 1) := by decide +kernel
theorem dL_law_643 : decode cL_law 643 = .ok (.laload, 1) := by decide +kernel
theorem dL_law_644 : decode cL_law 644 = .ok (.iload 6, 2) := by decide +kernel
theorem dL_law_646 : decode cL_law 646 = .ok (.i2l, 1) := by decide +kernel
theorem dL_law_647 : decode cL_law 647 = .ok (.lcmp, 1) := by decide +kernel
theorem dL_law_648 : decode cL_law 648 = .ok (.ifCond .eq 5, 3) := by decide +kernel
theorem dL_law_651 : decode cL_law 651 = .ok (.iconst 0, 1) := by decide +kernel
theorem dL_law_652 : decode cL_law 652 = .ok (.ireturn, 1) := by decide +kernel
theorem dL_law_653 : decode cL_law 653 = .ok (.goto 1181, 3) := by decide +kernel
theorem dL_law_656 : decode cL_law 656 = .ok (.aload_n 1, 1) := by decide +kernel
theorem dL_law_657 : decode cL_law 657 = .ok (.aload_n 0, 1) := by decide +kernel
theorem dL_law_658 : decode cL_law 658 = .ok (.iload 4, 2) := by decide +kernel
theorem dL_law_660 : decode cL_law 660 = .ok (.iconst 1, 1) := by decide +kernel
theorem dL_law_661 : decode cL_law 661 = .ok (.iadd, 1) := by decide +kernel
theorem dL_law_662 : decode cL_law 662 = .ok (.iaload, 1) := by decide +kernel
theorem dL_law_663 : decode cL_law 663 = .ok (.aload_n 0, 1) := by decide +kernel
theorem dL_law_664 : decode cL_law 664 = .ok (.iload 4, 2) := by decide +kernel
theorem dL_law_666 : decode cL_law 666 = .ok (.iconst 2, 1) := by decide +kernel
theorem dL_law_667 : decode cL_law 667 = .ok (.iadd, 1) := by decide +kernel
theorem dL_law_668 : decode cL_law 668 = .ok (.iaload, 1) := by decide +kernel
theorem dL_law_669 : decode cL_law 669 = .ok (.aload_n 3, 1) := by decide +kernel
theorem dL_law_670 : decode cL_law 670 = .ok (.invokestatic 124, 3) := by decide +kernel
theorem dL_law_673 : decode cL_law 673 = .ok (.istore 5, 2) := by decide +kernel
theorem dL_law_675 : decode cL_law 675 = .ok (.aload_n 2, 1) := by decide +kernel
theorem dL_law_676 : decode cL_law 676 = .ok (.aload_n 0, 1) := by decide +kernel
theorem dL_law_677 : decode cL_law 677 = .ok (.iload 4, 2) := by decide +kernel
theorem dL_law_679 : decode cL_law 679 = .ok (.iconst 1, 1) := by decide +kernel
theorem dL_law_680 : decode cL_law 680 = .ok (.iadd, 1) := by decide +kernel
theorem dL_law_681 : decode cL_law 681 = .ok (.iaload, 1) := by decide +kernel
theorem dL_law_682 : decode cL_law 682 = .ok (.aload_n 0, 1) := by decide +kernel
theorem dL_law_683 : decode cL_law 683 = .ok (.iload 4, 2) := by decide +kernel
theorem dL_law_685 : decode cL_law 685 = .ok (.iconst 2, 1) := by decide +kernel
theorem dL_law_686 : decode cL_law 686 = .ok (.iadd, 1) := by decide +kernel
theorem dL_law_687 : decode cL_law 687 = .ok (.iaload, 1) := by decide +kernel
theorem dL_law_688 : decode cL_law 688 = .ok (.invokevirtual 126, 3) := by decide +kernel
theorem dL_law_691 : decode cL_law 691 = .ok (.istore 6, 2) := by decide +kernel
theorem dL_law_693 : decode cL_law 693 = .ok (.aload_n 2, 1) := by decide +kernel
theorem dL_law_694 : decode cL_law 694 = .ok (.invokevirtual 101, 3) := by decide +kernel
theorem dL_law_697 : decode cL_law 697 = .ok (.iload 5, 2) := by decide +kernel
theorem dL_law_699 : decode cL_law 699 = .ok (.if_icmp .eq 5, 3) := by decide +kernel
theorem dL_law_702 : decode cL_law 702 = .ok (.iconst 0, 1) := by decide +kernel
theorem dL_law_703 : decode cL_law 703 = .ok (.ireturn, 1) := by decide +kernel
theorem dL_law_704 : decode cL_law 704 = .ok (.iload 5, 2) := by decide +kernel
theorem dL_law_706 : decode cL_law 706 = .ok (.ifCond .ne 15, 3) := by decide +kernel
theorem dL_law_709 : decode cL_law 709 = .ok (.aload_n 3, 1) := by decide +kernel
theorem dL_law_710 : decode cL_law 710 = .ok (.iconst 0, 1) := by decide +kernel
theorem dL_law_711 : decode cL_law 711 = .ok (.laload, 1) := by decide +kernel
theorem dL_law_712 : decode cL_law 712 = .ok (.iload 6, 2) := by decide +kernel
theorem dL_law_714 : decode cL_law 714 = .ok (.i2l, 1) := by decide +kernel
theorem dL_law_715 : decode cL_law 715 = .ok (.lcmp, 1) := by decide +kernel
theorem dL_law_716 : decode cL_law 716 = .ok (.ifCond .eq 5, 3) := by decide +kernel
theorem dL_law_719 : decode cL_law 719 = .ok (.iconst 0, 1) := by decide +kernel
theorem dL_law_720 : decode cL_law 720 = .ok (.ireturn, 1) := by decide +kernel
theorem dL_law_721 : decode cL_law 721 = .ok (.goto 1113, 3) := by decide +kernel
theorem dL_law_724 : decode cL_law 724 = .ok (.aload_n 1, 1) := by decide +kernel
theorem dL_law_725 : decode cL_law 725 = .ok (.aload_n 0, 1) := by decide +kernel
theorem dL_law_726 : decode cL_law 726 = .ok (.iload 4, 2) := by decide +kernel
theorem dL_law_728 : decode cL_law 728 = .ok (.iconst 1, 1) := by decide +kernel
theorem dL_law_729 : decode cL_law 729 = .ok (.iadd, 1) := by decide +kernel
theorem dL_law_730 : decode cL_law 730 = .ok (.iaload, 1) := by decide +kernel
theorem dL_law_731 : decode cL_law 731 = .ok (.aload_n 3, 1) := by decide +kernel
theorem dL_law_732 : decode cL_law 732 = .ok (.invokestatic 127, 3) := by decide +kernel
theorem dL_law_735 : decode cL_law 735 = .ok (.istore 5, 2) := by decide +kernel
theorem dL_law_737 : decode cL_law 737 = .ok (.aload_n 2, 1) := by decide +kernel
theorem dL_law_738 : decode cL_law 738 = .ok (.aload_n 0, 1) := by decide +kernel
theorem dL_law_739 : decode cL_law 739 = .ok (.iload 4, 2) := by decide +kernel
theorem dL_law_741 : decode cL_law 741 = .ok (.iconst 1, 1) := by decide +kernel
theorem dL_law_742 : decode cL_law 742 = .ok (.iadd, 1) := by decide +kernel
theorem dL_law_743 : decode cL_law 743 = .ok (.iaload, 1) := by decide +kernel
theorem dL_law_744 : decode cL_law 744 = .ok (.invokevirtual 129, 3) := by decide +kernel
theorem dL_law_747 : decode cL_law 747 = .ok (.istore 6, 2) := by decide +kernel
theorem dL_law_749 : decode cL_law 749 = .ok (.aload_n 2, 1) := by decide +kernel
theorem dL_law_750 : decode cL_law 750 = .ok (.invokevirtual 101, 3) := by decide +kernel
theorem dL_law_753 : decode cL_law 753 = .ok (.iload 5, 2) := by decide +kernel
theorem dL_law_755 : decode cL_law 755 = .ok (.if_icmp .eq 5, 3) := by decide +kernel
theorem dL_law_758 : decode cL_law 758 = .ok (.iconst 0, 1) := by decide +kernel
theorem dL_law_759 : decode cL_law 759 = .ok (.ireturn, 1) := by decide +kernel
theorem dL_law_760 : decode cL_law 760 = .ok (.iload 5, 2) := by decide +kernel
theorem dL_law_762 : decode cL_law 762 = .ok (.ifCond .ne 15, 3) := by decide +kernel
theorem dL_law_765 : decode cL_law 765 = .ok (.aload_n 3, 1) := by decide +kernel
theorem dL_law_766 : decode cL_law 766 = .ok (.iconst 0, 1) := by decide +kernel
theorem dL_law_767 : decode cL_law 767 = .ok (.laload, 1) := by decide +kernel
theorem dL_law_768 : decode cL_law 768 = .ok (.iload 6, 2) := by decide +kernel
theorem dL_law_770 : decode cL_law 770 = .ok (.i2l, 1) := by decide +kernel
theorem dL_law_771 : decode cL_law 771 = .ok (.lcmp, 1) := by decide +kernel
theorem dL_law_772 : decode cL_law 772 = .ok (.ifCond .eq 5, 3) := by decide +kernel
theorem dL_law_775 : decode cL_law 775 = .ok (.iconst 0, 1) := by decide +kernel
theorem dL_law_776 : decode cL_law 776 = .ok (.ireturn, 1) := by decide +kernel
theorem dL_law_777 : decode cL_law 777 = .ok (.goto 1057, 3) := by decide +kernel
theorem dL_law_780 : decode cL_law 780 = .ok (.aload_n 1, 1) := by decide +kernel
theorem dL_law_781 : decode cL_law 781 = .ok (.invokevirtual 130, 3) := by decide +kernel
theorem dL_law_784 : decode cL_law 784 = .ok (.aload_n 2, 1) := by decide +kernel
theorem dL_law_785 : decode cL_law 785 = .ok (.invokevirtual 133, 3) := by decide +kernel
theorem dL_law_788 : decode cL_law 788 = .ok (.if_icmp .eq 1046, 3) := by decide +kernel
theorem dL_law_791 : decode cL_law 791 = .ok (.iconst 0, 1) := by decide +kernel
theorem dL_law_792 : decode cL_law 792 = .ok (.ireturn, 1) := by decide +kernel
theorem dL_law_793 : decode cL_law 793 = .ok (.aload_n 1, 1) := by decide +kernel
theorem dL_law_794 : decode cL_law 794 = .ok (.invokevirtual 134, 3) := by decide +kernel
theorem dL_law_797 : decode cL_law 797 = .ok (.aload_n 2, 1) := by decide +kernel
theorem dL_law_798 : decode cL_law 798 = .ok (.invokevirtual 137, 3) := by decide +kernel
theorem dL_law_801 : decode cL_law 801 = .ok (.if_icmp .eq 1033, 3) := by decide +kernel
theorem dL_law_804 : decode cL_law 804 = .ok (.iconst 0, 1) := by decide +kernel
theorem dL_law_805 : decode cL_law 805 = .ok (.ireturn, 1) := by decide +kernel
theorem dL_law_806 : decode cL_law 806 = .ok (.aload_n 1, 1) := by decide +kernel
theorem dL_law_807 : decode cL_law 807 = .ok (.aload_n 3, 1) := by decide +kernel
theorem dL_law_808 : decode cL_law 808 = .ok (.invokestatic 138, 3) := by decide +kernel
theorem dL_law_811 : decode cL_law 811 = .ok (.istore 5, 2) := by decide +kernel
theorem dL_law_813 : decode cL_law 813 = .ok (.aload_n 2, 1) := by decide +kernel
theorem dL_law_814 : decode cL_law 814 = .ok (.invokevirtual 141, 3) := by decide +kernel
theorem dL_law_817 : decode cL_law 817 = .ok (.istore 6, 2) := by decide +kernel
theorem dL_law_819 : decode cL_law 819 = .ok (.aload_n 2, 1) := by decide +kernel
theorem dL_law_820 : decode cL_law 820 = .ok (.invokevirtual 101, 3) := by decide +kernel
theorem dL_law_823 : decode cL_law 823 = .ok (.iload 5, 2) := by decide +kernel
theorem dL_law_825 : decode cL_law 825 = .ok (.if_icmp .eq 5, 3) := by decide +kernel
theorem dL_law_828 : decode cL_law 828 = .ok (.iconst 0, 1) := by decide +kernel
theorem dL_law_829 : decode cL_law 829 = .ok (.ireturn, 1) := by decide +kernel
theorem dL_law_830 : decode cL_law 830 = .ok (.iload 5, 2) := by decide +kernel
theorem dL_law_832 : decode cL_law 832 = .ok (.ifCond .ne 15, 3) := by decide +kernel
theorem dL_law_835 : decode cL_law 835 = .ok (.aload_n 3, 1) := by decide +kernel
theorem dL_law_836 : decode cL_law 836 = .ok (.iconst 0, 1) := by decide +kernel
theorem dL_law_837 : decode cL_law 837 = .ok (.laload, 1) := by decide +kernel
theorem dL_law_838 : decode cL_law 838 = .ok (.iload 6, 2) := by decide +kernel
theorem dL_law_840 : decode cL_law 840 = .ok (.i2l, 1) := by decide +kernel
theorem dL_law_841 : decode cL_law 841 = .ok (.lcmp, 1) := by decide +kernel
theorem dL_law_842 : decode cL_law 842 = .ok (.ifCond .eq 5, 3) := by decide +kernel
theorem dL_law_845 : decode cL_law 845 = .ok (.iconst 0, 1) := by decide +kernel
theorem dL_law_846 : decode cL_law 846 = .ok (.ireturn, 1) := by decide +kernel
theorem dL_law_847 : decode cL_law 847 = .ok (.goto 987, 3) := by decide +kernel
theorem dL_law_850 : decode cL_law 850 = .ok (.aload_n 1, 1) := by decide +kernel
theorem dL_law_851 : decode cL_law 851 = .ok (.aload_n 0, 1) := by decide +kernel
theorem dL_law_852 : decode cL_law 852 = .ok (.iload 4, 2) := by decide +kernel
theorem dL_law_854 : decode cL_law 854 = .ok (.iconst 1, 1) := by decide +kernel
theorem dL_law_855 : decode cL_law 855 = .ok (.iadd, 1) := by decide +kernel
theorem dL_law_856 : decode cL_law 856 = .ok (.iaload, 1) := by decide +kernel
theorem dL_law_857 : decode cL_law 857 = .ok (.aload_n 3, 1) := by decide +kernel
theorem dL_law_858 : decode cL_law 858 = .ok (.invokestatic 142, 3) := by decide +kernel
theorem dL_law_861 : decode cL_law 861 = .ok (.istore 5, 2) := by decide +kernel
theorem dL_law_863 : decode cL_law 863 = .ok (.aload_n 2, 1) := by decide +kernel
theorem dL_law_864 : decode cL_law 864 = .ok (.aload_n 0, 1) := by decide +kernel
theorem dL_law_865 : decode cL_law 865 = .ok (.iload 4, 2) := by decide +kernel
theorem dL_law_867 : decode cL_law 867 = .ok (.iconst 1, 1) := by decide +kernel
theorem dL_law_868 : decode cL_law 868 = .ok (.iadd, 1) := by decide +kernel
theorem dL_law_869 : decode cL_law 869 = .ok (.iaload, 1) := by decide +kernel
theorem dL_law_870 : decode cL_law 870 = .ok (.invokevirtual 144, 3) := by decide +kernel
theorem dL_law_873 : decode cL_law 873 = .ok (.istore 6, 2) := by decide +kernel
theorem dL_law_875 : decode cL_law 875 = .ok (.aload_n 2, 1) := by decide +kernel
theorem dL_law_876 : decode cL_law 876 = .ok (.invokevirtual 101, 3) := by decide +kernel
theorem dL_law_879 : decode cL_law 879 = .ok (.iload 5, 2) := by decide +kernel
theorem dL_law_881 : decode cL_law 881 = .ok (.if_icmp .eq 5, 3) := by decide +kernel
theorem dL_law_884 : decode cL_law 884 = .ok (.iconst 0, 1) := by decide +kernel
theorem dL_law_885 : decode cL_law 885 = .ok (.ireturn, 1) := by decide +kernel
theorem dL_law_886 : decode cL_law 886 = .ok (.iload 5, 2) := by decide +kernel
theorem dL_law_888 : decode cL_law 888 = .ok (.ifCond .ne 15, 3) := by decide +kernel
theorem dL_law_891 : decode cL_law 891 = .ok (.aload_n 3, 1) := by decide +kernel
theorem dL_law_892 : decode cL_law 892 = .ok (.iconst 0, 1) := by decide +kernel
theorem dL_law_893 : decode cL_law 893 = .ok (.laload, 1) := by decide +kernel
theorem dL_law_894 : decode cL_law 894 = .ok (.iload 6, 2) := by decide +kernel
theorem dL_law_896 : decode cL_law 896 = .ok (.i2l, 1) := by decide +kernel
theorem dL_law_897 : decode cL_law 897 = .ok (.lcmp, 1) := by decide +kernel
theorem dL_law_898 : decode cL_law 898 = .ok (.ifCond .eq 5, 3) := by decide +kernel
theorem dL_law_901 : decode cL_law 901 = .ok (.iconst 0, 1) := by decide +kernel
theorem dL_law_902 : decode cL_law 902 = .ok (.ireturn, 1) := by decide +kernel
theorem dL_law_903 : decode cL_law 903 = .ok (.goto 931, 3) := by decide +kernel
theorem dL_law_906 : decode cL_law 906 = .ok (.aload_n 1, 1) := by decide +kernel
theorem dL_law_907 : decode cL_law 907 = .ok (.aload_n 3, 1) := by decide +kernel
theorem dL_law_908 : decode cL_law 908 = .ok (.invokestatic 145, 3) := by decide +kernel
theorem dL_law_911 : decode cL_law 911 = .ok (.istore 5, 2) := by decide +kernel
theorem dL_law_913 : decode cL_law 913 = .ok (.aload_n 2, 1) := by decide +kernel
theorem dL_law_914 : decode cL_law 914 = .ok (.invokevirtual 147, 3) := by decide +kernel
theorem dL_law_917 : decode cL_law 917 = .ok (.istore 6, 2) := by decide +kernel
theorem dL_law_919 : decode cL_law 919 = .ok (.aload_n 2, 1) := by decide +kernel
theorem dL_law_920 : decode cL_law 920 = .ok (.invokevirtual 101, 3) := by decide +kernel
theorem dL_law_923 : decode cL_law 923 = .ok (.iload 5, 2) := by decide +kernel
theorem dL_law_925 : decode cL_law 925 = .ok (.if_icmp .eq 5, 3) := by decide +kernel
theorem dL_law_928 : decode cL_law 928 = .ok (.iconst 0, 1) := by decide +kernel
theorem dL_law_929 : decode cL_law 929 = .ok (.ireturn, 1) := by decide +kernel
theorem dL_law_930 : decode cL_law 930 = .ok (.iload 5, 2) := by decide +kernel
theorem dL_law_932 : decode cL_law 932 = .ok (.ifCond .ne 15, 3) := by decide +kernel
theorem dL_law_935 : decode cL_law 935 = .ok (.aload_n 3, 1) := by decide +kernel
theorem dL_law_936 : decode cL_law 936 = .ok (.iconst 0, 1) := by decide +kernel
theorem dL_law_937 : decode cL_law 937 = .ok (.laload, 1) := by decide +kernel
theorem dL_law_938 : decode cL_law 938 = .ok (.iload 6, 2) := by decide +kernel
theorem dL_law_940 : decode cL_law 940 = .ok (.i2l, 1) := by decide +kernel
theorem dL_law_941 : decode cL_law 941 = .ok (.lcmp, 1) := by decide +kernel
theorem dL_law_942 : decode cL_law 942 = .ok (.ifCond .eq 5, 3) := by decide +kernel
theorem dL_law_945 : decode cL_law 945 = .ok (.iconst 0, 1) := by decide +kernel
theorem dL_law_946 : decode cL_law 946 = .ok (.ireturn, 1) := by decide +kernel
theorem dL_law_947 : decode cL_law 947 = .ok (.goto 887, 3) := by decide +kernel
theorem dL_law_950 : decode cL_law 950 = .ok (.aload_n 1, 1) := by decide +kernel
theorem dL_law_951 : decode cL_law 951 = .ok (.aload_n 0, 1) := by decide +kernel
theorem dL_law_952 : decode cL_law 952 = .ok (.iload 4, 2) := by decide +kernel
theorem dL_law_954 : decode cL_law 954 = .ok (.iconst 1, 1) := by decide +kernel
theorem dL_law_955 : decode cL_law 955 = .ok (.iadd, 1) := by decide +kernel
theorem dL_law_956 : decode cL_law 956 = .ok (.iaload, 1) := by decide +kernel
theorem dL_law_957 : decode cL_law 957 = .ok (.aload_n 0, 1) := by decide +kernel
theorem dL_law_958 : decode cL_law 958 = .ok (.iload 4, 2) := by decide +kernel
theorem dL_law_960 : decode cL_law 960 = .ok (.iconst 2, 1) := by decide +kernel
theorem dL_law_961 : decode cL_law 961 = .ok (.iadd, 1) := by decide +kernel
theorem dL_law_962 : decode cL_law 962 = .ok (.iaload, 1) := by decide +kernel
theorem dL_law_963 : decode cL_law 963 = .ok (.aload_n 3, 1) := by decide +kernel
theorem dL_law_964 : decode cL_law 964 = .ok (.invokestatic 148, 3) := by decide +kernel
theorem dL_law_967 : decode cL_law 967 = .ok (.istore 5, 2) := by decide +kernel
theorem dL_law_969 : decode cL_law 969 = .ok (.aload_n 2, 1) := by decide +kernel
theorem dL_law_970 : decode cL_law 970 = .ok (.aload_n 0, 1) := by decide +kernel
theorem dL_law_971 : decode cL_law 971 = .ok (.iload 4, 2) := by decide +kernel
theorem dL_law_973 : decode cL_law 973 = .ok (.iconst 1, 1) := by decide +kernel
theorem dL_law_974 : decode cL_law 974 = .ok (.iadd, 1) := by decide +kernel
theorem dL_law_975 : decode cL_law 975 = .ok (.iaload, 1) := by decide +kernel
theorem dL_law_976 : decode cL_law 976 = .ok (.aload_n 0, 1) := by decide +kernel
theorem dL_law_977 : decode cL_law 977 = .ok (.iload 4, 2) := by decide +kernel
theorem dL_law_979 : decode cL_law 979 = .ok (.iconst 2, 1) := by decide +kernel
theorem dL_law_980 : decode cL_law 980 = .ok (.iadd, 1) := by decide +kernel
theorem dL_law_981 : decode cL_law 981 = .ok (.iaload, 1) := by decide +kernel
theorem dL_law_982 : decode cL_law 982 = .ok (.invokevirtual 150, 3) := by decide +kernel
theorem dL_law_985 : decode cL_law 985 = .ok (.istore 6, 2) := by decide +kernel
theorem dL_law_987 : decode cL_law 987 = .ok (.aload_n 2, 1) := by decide +kernel
theorem dL_law_988 : decode cL_law 988 = .ok (.invokevirtual 101, 3) := by decide +kernel
theorem dL_law_991 : decode cL_law 991 = .ok (.iload 5, 2) := by decide +kernel
theorem dL_law_993 : decode cL_law 993 = .ok (.if_icmp .eq 5, 3) := by decide +kernel
theorem dL_law_996 : decode cL_law 996 = .ok (.iconst 0, 1) := by decide +kernel
theorem dL_law_997 : decode cL_law 997 = .ok (.ireturn, 1) := by decide +kernel
theorem dL_law_998 : decode cL_law 998 = .ok (.iload 5, 2) := by decide +kernel
theorem dL_law_1000 : decode cL_law 1000 = .ok (.ifCond .ne 15, 3) := by decide +kernel
theorem dL_law_1003 : decode cL_law 1003 = .ok (.aload_n 3, 1) := by decide +kernel
theorem dL_law_1004 : decode cL_law 1004 = .ok (.iconst 0, 1) := by decide +kernel
theorem dL_law_1005 : decode cL_law 1005 = .ok (.laload, 1) := by decide +kernel
theorem dL_law_1006 : decode cL_law 1006 = .ok (.iload 6, 2) := by decide +kernel
theorem dL_law_1008 : decode cL_law 1008 = .ok (.i2l, 1) := by decide +kernel
theorem dL_law_1009 : decode cL_law 1009 = .ok (.lcmp, 1) := by decide +kernel
theorem dL_law_1010 : decode cL_law 1010 = .ok (.ifCond .eq 5, 3) := by decide +kernel
theorem dL_law_1013 : decode cL_law 1013 = .ok (.iconst 0, 1) := by decide +kernel
theorem dL_law_1014 : decode cL_law 1014 = .ok (.ireturn, 1) := by decide +kernel
theorem dL_law_1015 : decode cL_law 1015 = .ok (.goto 819, 3) := by decide +kernel
theorem dL_law_1018 : decode cL_law 1018 = .ok (.aload_n 1, 1) := by decide +kernel
theorem dL_law_1019 : decode cL_law 1019 = .ok (.aload_n 0, 1) := by decide +kernel
theorem dL_law_1020 : decode cL_law 1020 = .ok (.iload 4, 2) := by decide +kernel
theorem dL_law_1022 : decode cL_law 1022 = .ok (.iconst 1, 1) := by decide +kernel
theorem dL_law_1023 : decode cL_law 1023 = .ok (.iadd, 1) := by decide +kernel
theorem dL_law_1024 : decode cL_law 1024 = .ok (.iaload, 1) := by decide +kernel
theorem dL_law_1025 : decode cL_law 1025 = .ok (.aload_n 0, 1) := by decide +kernel
theorem dL_law_1026 : decode cL_law 1026 = .ok (.iload 4, 2) := by decide +kernel
theorem dL_law_1028 : decode cL_law 1028 = .ok (.iconst 2, 1) := by decide +kernel
theorem dL_law_1029 : decode cL_law 1029 = .ok (.iadd, 1) := by decide +kernel
theorem dL_law_1030 : decode cL_law 1030 = .ok (.iaload, 1) := by decide +kernel
theorem dL_law_1031 : decode cL_law 1031 = .ok (.aload_n 3, 1) := by decide +kernel
theorem dL_law_1032 : decode cL_law 1032 = .ok (.invokestatic 151, 3) := by decide +kernel
theorem dL_law_1035 : decode cL_law 1035 = .ok (.istore 5, 2) := by decide +kernel
theorem dL_law_1037 : decode cL_law 1037 = .ok (.aload_n 2, 1) := by decide +kernel
theorem dL_law_1038 : decode cL_law 1038 = .ok (.aload_n 0, 1) := by decide +kernel
theorem dL_law_1039 : decode cL_law 1039 = .ok (.iload 4, 2) := by decide +kernel
theorem dL_law_1041 : decode cL_law 1041 = .ok (.iconst 1, 1) := by decide +kernel
theorem dL_law_1042 : decode cL_law 1042 = .ok (.iadd, 1) := by decide +kernel
theorem dL_law_1043 : decode cL_law 1043 = .ok (.iaload, 1) := by decide +kernel
theorem dL_law_1044 : decode cL_law 1044 = .ok (.aload_n 0, 1) := by decide +kernel
theorem dL_law_1045 : decode cL_law 1045 = .ok (.iload 4, 2) := by decide +kernel
theorem dL_law_1047 : decode cL_law 1047 = .ok (.iconst 2, 1) := by decide +kernel
theorem dL_law_1048 : decode cL_law 1048 = .ok (.iadd, 1) := by decide +kernel
theorem dL_law_1049 : decode cL_law 1049 = .ok (.iaload, 1) := by decide +kernel
theorem dL_law_1050 : decode cL_law 1050 = .ok (.invokevirtual 153, 3) := by decide +kernel
theorem dL_law_1053 : decode cL_law 1053 = .ok (.istore 6, 2) := by decide +kernel
theorem dL_law_1055 : decode cL_law 1055 = .ok (.aload_n 2, 1) := by decide +kernel
theorem dL_law_1056 : decode cL_law 1056 = .ok (.invokevirtual 101, 3) := by decide +kernel
theorem dL_law_1059 : decode cL_law 1059 = .ok (.iload 5, 2) := by decide +kernel
theorem dL_law_1061 : decode cL_law 1061 = .ok (.if_icmp .eq 5, 3) := by decide +kernel
theorem dL_law_1064 : decode cL_law 1064 = .ok (.iconst 0, 1) := by decide +kernel
theorem dL_law_1065 : decode cL_law 1065 = .ok (.ireturn, 1) := by decide +kernel
theorem dL_law_1066 : decode cL_law 1066 = .ok (.iload 5, 2) := by decide +kernel
theorem dL_law_1068 : decode cL_law 1068 = .ok (.ifCond .ne 15, 3) := by decide +kernel
theorem dL_law_1071 : decode cL_law 1071 = .ok (.aload_n 3, 1) := by decide +kernel
theorem dL_law_1072 : decode cL_law 1072 = .ok (.iconst 0, 1) := by decide +kernel
theorem dL_law_1073 : decode cL_law 1073 = .ok (.laload, 1) := by decide +kernel
theorem dL_law_1074 : decode cL_law 1074 = .ok (.iload 6, 2) := by decide +kernel
theorem dL_law_1076 : decode cL_law 1076 = .ok (.i2l, 1) := by decide +kernel
theorem dL_law_1077 : decode cL_law 1077 = .ok (.lcmp, 1) := by decide +kernel
theorem dL_law_1078 : decode cL_law 1078 = .ok (.ifCond .eq 5, 3) := by decide +kernel
theorem dL_law_1081 : decode cL_law 1081 = .ok (.iconst 0, 1) := by decide +kernel
theorem dL_law_1082 : decode cL_law 1082 = .ok (.ireturn, 1) := by decide +kernel
theorem dL_law_1083 : decode cL_law 1083 = .ok (.goto 751, 3) := by decide +kernel
theorem dL_law_1086 : decode cL_law 1086 = .ok (.aload_n 1, 1) := by decide +kernel
theorem dL_law_1087 : decode cL_law 1087 = .ok (.aload_n 0, 1) := by decide +kernel
theorem dL_law_1088 : decode cL_law 1088 = .ok (.iload 4, 2) := by decide +kernel
theorem dL_law_1090 : decode cL_law 1090 = .ok (.iconst 1, 1) := by decide +kernel
theorem dL_law_1091 : decode cL_law 1091 = .ok (.iadd, 1) := by decide +kernel
theorem dL_law_1092 : decode cL_law 1092 = .ok (.iaload, 1) := by decide +kernel
theorem dL_law_1093 : decode cL_law 1093 = .ok (.aload_n 0, 1) := by decide +kernel
theorem dL_law_1094 : decode cL_law 1094 = .ok (.iload 4, 2) := by decide +kernel
theorem dL_law_1096 : decode cL_law 1096 = .ok (.iconst 2, 1) := by decide +kernel
theorem dL_law_1097 : decode cL_law 1097 = .ok (.iadd, 1) := by decide +kernel
theorem dL_law_1098 : decode cL_law 1098 = .ok (.iaload, 1) := by decide +kernel
theorem dL_law_1099 : decode cL_law 1099 = .ok (.aload_n 3, 1) := by decide +kernel
theorem dL_law_1100 : decode cL_law 1100 = .ok (.invokestatic 154, 3) := by decide +kernel
theorem dL_law_1103 : decode cL_law 1103 = .ok (.istore 5, 2) := by decide +kernel
theorem dL_law_1105 : decode cL_law 1105 = .ok (.aload_n 2, 1) := by decide +kernel
theorem dL_law_1106 : decode cL_law 1106 = .ok (.aload_n 0, 1) := by decide +kernel
theorem dL_law_1107 : decode cL_law 1107 = .ok (.iload 4, 2) := by decide +kernel
theorem dL_law_1109 : decode cL_law 1109 = .ok (.iconst 1, 1) := by decide +kernel
theorem dL_law_1110 : decode cL_law 1110 = .ok (.iadd, 1) := by decide +kernel
theorem dL_law_1111 : decode cL_law 1111 = .ok (.iaload, 1) := by decide +kernel
theorem dL_law_1112 : decode cL_law 1112 = .ok (.aload_n 0, 1) := by decide +kernel
theorem dL_law_1113 : decode cL_law 1113 = .ok (.iload 4, 2) := by decide +kernel
theorem dL_law_1115 : decode cL_law 1115 = .ok (.iconst 2, 1) := by decide +kernel
theorem dL_law_1116 : decode cL_law 1116 = .ok (.iadd, 1) := by decide +kernel
theorem dL_law_1117 : decode cL_law 1117 = .ok (.iaload, 1) := by decide +kernel
theorem dL_law_1118 : decode cL_law 1118 = .ok (.invokevirtual 156, 3) := by decide +kernel
theorem dL_law_1121 : decode cL_law 1121 = .ok (.istore 6, 2) := by decide +kernel
theorem dL_law_1123 : decode cL_law 1123 = .ok (.aload_n 2, 1) := by decide +kernel
theorem dL_law_1124 : decode cL_law 1124 = .ok (.invokevirtual 101, 3) := by decide +kernel
theorem dL_law_1127 : decode cL_law 1127 = .ok (.iload 5, 2) := by decide +kernel
theorem dL_law_1129 : decode cL_law 1129 = .ok (.if_icmp .eq 5, 3) := by decide +kernel
theorem dL_law_1132 : decode cL_law 1132 = .ok (.iconst 0, 1) := by decide +kernel
theorem dL_law_1133 : decode cL_law 1133 = .ok (.ireturn, 1) := by decide +kernel
theorem dL_law_1134 : decode cL_law 1134 = .ok (.iload 5, 2) := by decide +kernel
theorem dL_law_1136 : decode cL_law 1136 = .ok (.ifCond .ne 15, 3) := by decide +kernel
theorem dL_law_1139 : decode cL_law 1139 = .ok (.aload_n 3, 1) := by decide +kernel
theorem dL_law_1140 : decode cL_law 1140 = .ok (.iconst 0, 1) := by decide +kernel
theorem dL_law_1141 : decode cL_law 1141 = .ok (.laload, 1) := by decide +kernel
theorem dL_law_1142 : decode cL_law 1142 = .ok (.iload 6, 2) := by decide +kernel
theorem dL_law_1144 : decode cL_law 1144 = .ok (.i2l, 1) := by decide +kernel
theorem dL_law_1145 : decode cL_law 1145 = .ok (.lcmp, 1) := by decide +kernel
theorem dL_law_1146 : decode cL_law 1146 = .ok (.ifCond .eq 5, 3) := by decide +kernel
theorem dL_law_1149 : decode cL_law 1149 = .ok (.iconst 0, 1) := by decide +kernel
theorem dL_law_1150 : decode cL_law 1150 = .ok (.ireturn, 1) := by decide +kernel
theorem dL_law_1151 : decode cL_law 1151 = .ok (.goto 683, 3) := by decide +kernel
theorem dL_law_1154 : decode cL_law 1154 = .ok (.aload_n 1, 1) := by decide +kernel
theorem dL_law_1155 : decode cL_law 1155 = .ok (.aload_n 0, 1) := by decide +kernel
theorem dL_law_1156 : decode cL_law 1156 = .ok (.iload 4, 2) := by decide +kernel
theorem dL_law_1158 : decode cL_law 1158 = .ok (.iconst 1, 1) := by decide +kernel
theorem dL_law_1159 : decode cL_law 1159 = .ok (.iadd, 1) := by decide +kernel
theorem dL_law_1160 : decode cL_law 1160 = .ok (.iaload, 1) := by decide +kernel
theorem dL_law_1161 : decode cL_law 1161 = .ok (.aload_n 0, 1) := by decide +kernel
theorem dL_law_1162 : decode cL_law 1162 = .ok (.iload 4, 2) := by decide +kernel
theorem dL_law_1164 : decode cL_law 1164 = .ok (.iconst 2, 1) := by decide +kernel
theorem dL_law_1165 : decode cL_law 1165 = .ok (.iadd, 1) := by decide +kernel
theorem dL_law_1166 : decode cL_law 1166 = .ok (.iaload, 1) := by decide +kernel
theorem dL_law_1167 : decode cL_law 1167 = .ok (.aload_n 3, 1) := by decide +kernel
theorem dL_law_1168 : decode cL_law 1168 = .ok (.invokestatic 157, 3) := by decide +kernel
theorem dL_law_1171 : decode cL_law 1171 = .ok (.istore 5, 2) := by decide +kernel
theorem dL_law_1173 : decode cL_law 1173 = .ok (.aload_n 2, 1) := by decide +kernel
theorem dL_law_1174 : decode cL_law 1174 = .ok (.aload_n 0, 1) := by decide +kernel
theorem dL_law_1175 : decode cL_law 1175 = .ok (.iload 4, 2) := by decide +kernel
theorem dL_law_1177 : decode cL_law 1177 = .ok (.iconst 1, 1) := by decide +kernel
theorem dL_law_1178 : decode cL_law 1178 = .ok (.iadd, 1) := by decide +kernel
theorem dL_law_1179 : decode cL_law 1179 = .ok (.iaload, 1) := by decide +kernel
theorem dL_law_1180 : decode cL_law 1180 = .ok (.aload_n 0, 1) := by decide +kernel
theorem dL_law_1181 : decode cL_law 1181 = .ok (.iload 4, 2) := by decide +kernel
theorem dL_law_1183 : decode cL_law 1183 = .ok (.iconst 2, 1) := by decide +kernel
theorem dL_law_1184 : decode cL_law 1184 = .ok (.iadd, 1) := by decide +kernel
theorem dL_law_1185 : decode cL_law 1185 = .ok (.iaload, 1) := by decide +kernel
theorem dL_law_1186 : decode cL_law 1186 = .ok (.invokevirtual 159, 3) := by decide +kernel
theorem dL_law_1189 : decode cL_law 1189 = .ok (.istore 6, 2) := by decide +kernel
theorem dL_law_1191 : decode cL_law 1191 = .ok (.aload_n 2, 1) := by decide +kernel
theorem dL_law_1192 : decode cL_law 1192 = .ok (.invokevirtual 101, 3) := by decide +kernel
theorem dL_law_1195 : decode cL_law 1195 = .ok (.iload 5, 2) := by decide +kernel
theorem dL_law_1197 : decode cL_law 1197 = .ok (.if_icmp .eq 5, 3) := by decide +kernel
theorem dL_law_1200 : decode cL_law 1200 = .ok (.iconst 0, 1) := by decide +kernel
theorem dL_law_1201 : decode cL_law 1201 = .ok (.ireturn, 1) := by decide +kernel
theorem dL_law_1202 : decode cL_law 1202 = .ok (.iload 5, 2) := by decide +kernel
theorem dL_law_1204 : decode cL_law 1204 = .ok (.ifCond .ne 15, 3) := by decide +kernel
theorem dL_law_1207 : decode cL_law 1207 = .ok (.aload_n 3, 1) := by decide +kernel
theorem dL_law_1208 : decode cL_law 1208 = .ok (.iconst 0, 1) := by decide +kernel
theorem dL_law_1209 : decode cL_law 1209 = .ok (.laload, 1) := by decide +kernel
theorem dL_law_1210 : decode cL_law 1210 = .ok (.iload 6, 2) := by decide +kernel
theorem dL_law_1212 : decode cL_law 1212 = .ok (.i2l, 1) := by decide +kernel
theorem dL_law_1213 : decode cL_law 1213 = .ok (.lcmp, 1) := by decide +kernel
theorem dL_law_1214 : decode cL_law 1214 = .ok (.ifCond .eq 5, 3) := by decide +kernel
theorem dL_law_1217 : decode cL_law 1217 = .ok (.iconst 0, 1) := by decide +kernel
theorem dL_law_1218 : decode cL_law 1218 = .ok (.ireturn, 1) := by decide +kernel
theorem dL_law_1219 : decode cL_law 1219 = .ok (.goto 615, 3) := by decide +kernel
theorem dL_law_1222 : decode cL_law 1222 = .ok (.aload_n 1, 1) := by decide +kernel
theorem dL_law_1223 : decode cL_law 1223 = .ok (.aload_n 0, 1) := by decide +kernel
theorem dL_law_1224 : decode cL_law 1224 = .ok (.iload 4, 2) := by decide +kernel
theorem dL_law_1226 : decode cL_law 1226 = .ok (.iconst 1, 1) := by decide +kernel
theorem dL_law_1227 : decode cL_law 1227 = .ok (.iadd, 1) := by decide +kernel
theorem dL_law_1228 : decode cL_law 1228 = .ok (.iaload, 1) := by decide +kernel
theorem dL_law_1229 : decode cL_law 1229 = .ok (.aload_n 0, 1) := by decide +kernel
theorem dL_law_1230 : decode cL_law 1230 = .ok (.iload 4, 2) := by decide +kernel
theorem dL_law_1232 : decode cL_law 1232 = .ok (.iconst 2, 1) := by decide +kernel
theorem dL_law_1233 : decode cL_law 1233 = .ok (.iadd, 1) := by decide +kernel
theorem dL_law_1234 : decode cL_law 1234 = .ok (.iaload, 1) := by decide +kernel
theorem dL_law_1235 : decode cL_law 1235 = .ok (.aload_n 3, 1) := by decide +kernel
theorem dL_law_1236 : decode cL_law 1236 = .ok (.invokestatic 160, 3) := by decide +kernel
theorem dL_law_1239 : decode cL_law 1239 = .ok (.istore 5, 2) := by decide +kernel
theorem dL_law_1241 : decode cL_law 1241 = .ok (.aload_n 2, 1) := by decide +kernel
theorem dL_law_1242 : decode cL_law 1242 = .ok (.aload_n 0, 1) := by decide +kernel
theorem dL_law_1243 : decode cL_law 1243 = .ok (.iload 4, 2) := by decide +kernel
theorem dL_law_1245 : decode cL_law 1245 = .ok (.iconst 1, 1) := by decide +kernel
theorem dL_law_1246 : decode cL_law 1246 = .ok (.iadd, 1) := by decide +kernel
theorem dL_law_1247 : decode cL_law 1247 = .ok (.iaload, 1) := by decide +kernel
theorem dL_law_1248 : decode cL_law 1248 = .ok (.aload_n 0, 1) := by decide +kernel
theorem dL_law_1249 : decode cL_law 1249 = .ok (.iload 4, 2) := by decide +kernel
theorem dL_law_1251 : decode cL_law 1251 = .ok (.iconst 2, 1) := by decide +kernel
theorem dL_law_1252 : decode cL_law 1252 = .ok (.iadd, 1) := by decide +kernel
theorem dL_law_1253 : decode cL_law 1253 = .ok (.iaload, 1) := by decide +kernel
theorem dL_law_1254 : decode cL_law 1254 = .ok (.invokevirtual 162, 3) := by decide +kernel
theorem dL_law_1257 : decode cL_law 1257 = .ok (.istore 6, 2) := by decide +kernel
theorem dL_law_1259 : decode cL_law 1259 = .ok (.aload_n 2, 1) := by decide +kernel
theorem dL_law_1260 : decode cL_law 1260 = .ok (.invokevirtual 101, 3) := by decide +kernel
theorem dL_law_1263 : decode cL_law 1263 = .ok (.iload 5, 2) := by decide +kernel
theorem dL_law_1265 : decode cL_law 1265 = .ok (.if_icmp .eq 5, 3) := by decide +kernel
theorem dL_law_1268 : decode cL_law 1268 = .ok (.iconst 0, 1) := by decide +kernel
theorem dL_law_1269 : decode cL_law 1269 = .ok (.ireturn, 1) := by decide +kernel
theorem dL_law_1270 : decode cL_law 1270 = .ok (.iload 5, 2) := by decide +kernel
theorem dL_law_1272 : decode cL_law 1272 = .ok (.ifCond .ne 15, 3) := by decide +kernel
theorem dL_law_1275 : decode cL_law 1275 = .ok (.aload_n 3, 1) := by decide +kernel
theorem dL_law_1276 : decode cL_law 1276 = .ok (.iconst 0, 1) := by decide +kernel
theorem dL_law_1277 : decode cL_law 1277 = .ok (.laload, 1) := by decide +kernel
theorem dL_law_1278 : decode cL_law 1278 = .ok (.iload 6, 2) := by decide +kernel
theorem dL_law_1280 : decode cL_law 1280 = .ok (.i2l, 1) := by decide +kernel
theorem dL_law_1281 : decode cL_law 1281 = .ok (.lcmp, 1) := by decide +kernel
theorem dL_law_1282 : decode cL_law 1282 = .ok (.ifCond .eq 5, 3) := by decide +kernel
theorem dL_law_1285 : decode cL_law 1285 = .ok (.iconst 0, 1) := by decide +kernel
theorem dL_law_1286 : decode cL_law 1286 = .ok (.ireturn, 1) := by decide +kernel
theorem dL_law_1287 : decode cL_law 1287 = .ok (.goto 547, 3) := by decide +kernel
theorem dL_law_1290 : decode cL_law 1290 = .ok (.aload_n 1, 1) := by decide +kernel
theorem dL_law_1291 : decode cL_law 1291 = .ok (.aload_n 0, 1) := by decide +kernel
theorem dL_law_1292 : decode cL_law 1292 = .ok (.iload 4, 2) := by decide +kernel
theorem dL_law_1294 : decode cL_law 1294 = .ok (.iconst 1, 1) := by decide +kernel
theorem dL_law_1295 : decode cL_law 1295 = .ok (.iadd, 1) := by decide +kernel
theorem dL_law_1296 : decode cL_law 1296 = .ok (.iaload, 1) := by decide +kernel
theorem dL_law_1297 : decode cL_law 1297 = .ok (.aload_n 0, 1) := by decide +kernel
theorem dL_law_1298 : decode cL_law 1298 = .ok (.iload 4, 2) := by decide +kernel
theorem dL_law_1300 : decode cL_law 1300 = .ok (.iconst 2, 1) := by decide +kernel
theorem dL_law_1301 : decode cL_law 1301 = .ok (.iadd, 1) := by decide +kernel
theorem dL_law_1302 : decode cL_law 1302 = .ok (.iaload, 1) := by decide +kernel
theorem dL_law_1303 : decode cL_law 1303 = .ok (.aload_n 3, 1) := by decide +kernel
theorem dL_law_1304 : decode cL_law 1304 = .ok (.invokestatic 163, 3) := by decide +kernel
theorem dL_law_1307 : decode cL_law 1307 = .ok (.istore 5, 2) := by decide +kernel
theorem dL_law_1309 : decode cL_law 1309 = .ok (.aload_n 2, 1) := by decide +kernel
theorem dL_law_1310 : decode cL_law 1310 = .ok (.aload_n 0, 1) := by decide +kernel
theorem dL_law_1311 : decode cL_law 1311 = .ok (.iload 4, 2) := by decide +kernel
theorem dL_law_1313 : decode cL_law 1313 = .ok (.iconst 1, 1) := by decide +kernel
theorem dL_law_1314 : decode cL_law 1314 = .ok (.iadd, 1) := by decide +kernel
theorem dL_law_1315 : decode cL_law 1315 = .ok (.iaload, 1) := by decide +kernel
theorem dL_law_1316 : decode cL_law 1316 = .ok (.aload_n 0, 1) := by decide +kernel
theorem dL_law_1317 : decode cL_law 1317 = .ok (.iload 4, 2) := by decide +kernel
theorem dL_law_1319 : decode cL_law 1319 = .ok (.iconst 2, 1) := by decide +kernel
theorem dL_law_1320 : decode cL_law 1320 = .ok (.iadd, 1) := by decide +kernel
theorem dL_law_1321 : decode cL_law 1321 = .ok (.iaload, 1) := by decide +kernel
theorem dL_law_1322 : decode cL_law 1322 = .ok (.invokevirtual 165, 3) := by decide +kernel
theorem dL_law_1325 : decode cL_law 1325 = .ok (.istore 6, 2) := by decide +kernel
theorem dL_law_1327 : decode cL_law 1327 = .ok (.aload_n 2, 1) := by decide +kernel
theorem dL_law_1328 : decode cL_law 1328 = .ok (.invokevirtual 101, 3) := by decide +kernel
theorem dL_law_1331 : decode cL_law 1331 = .ok (.iload 5, 2) := by decide +kernel
theorem dL_law_1333 : decode cL_law 1333 = .ok (.if_icmp .eq 5, 3) := by decide +kernel
theorem dL_law_1336 : decode cL_law 1336 = .ok (.iconst 0, 1) := by decide +kernel
theorem dL_law_1337 : decode cL_law 1337 = .ok (.ireturn, 1) := by decide +kernel
theorem dL_law_1338 : decode cL_law 1338 = .ok (.iload 5, 2) := by decide +kernel
theorem dL_law_1340 : decode cL_law 1340 = .ok (.ifCond .ne 15, 3) := by decide +kernel
theorem dL_law_1343 : decode cL_law 1343 = .ok (.aload_n 3, 1) := by decide +kernel
theorem dL_law_1344 : decode cL_law 1344 = .ok (.iconst 0, 1) := by decide +kernel
theorem dL_law_1345 : decode cL_law 1345 = .ok (.laload, 1) := by decide +kernel
theorem dL_law_1346 : decode cL_law 1346 = .ok (.iload 6, 2) := by decide +kernel
theorem dL_law_1348 : decode cL_law 1348 = .ok (.i2l, 1) := by decide +kernel
theorem dL_law_1349 : decode cL_law 1349 = .ok (.lcmp, 1) := by decide +kernel
theorem dL_law_1350 : decode cL_law 1350 = .ok (.ifCond .eq 5, 3) := by decide +kernel
theorem dL_law_1353 : decode cL_law 1353 = .ok (.iconst 0, 1) := by decide +kernel
theorem dL_law_1354 : decode cL_law 1354 = .ok (.ireturn, 1) := by decide +kernel
theorem dL_law_1355 : decode cL_law 1355 = .ok (.goto 479, 3) := by decide +kernel
theorem dL_law_1358 : decode cL_law 1358 = .ok (.aload_n 1, 1) := by decide +kernel
theorem dL_law_1359 : decode cL_law 1359 = .ok (.aload_n 0, 1) := by decide +kernel
theorem dL_law_1360 : decode cL_law 1360 = .ok (.iload 4, 2) := by decide +kernel
theorem dL_law_1362 : decode cL_law 1362 = .ok (.iconst 1, 1) := by decide +kernel
theorem dL_law_1363 : decode cL_law 1363 = .ok (.iadd, 1) := by decide +kernel
theorem dL_law_1364 : decode cL_law 1364 = .ok (.iaload, 1) := by decide +kernel
theorem dL_law_1365 : decode cL_law 1365 = .ok (.aload_n 3, 1) := by decide +kernel
theorem dL_law_1366 : decode cL_law 1366 = .ok (.invokestatic 166, 3) := by decide +kernel
theorem dL_law_1369 : decode cL_law 1369 = .ok (.istore 5, 2) := by decide +kernel
theorem dL_law_1371 : decode cL_law 1371 = .ok (.aload_n 2, 1) := by decide +kernel
theorem dL_law_1372 : decode cL_law 1372 = .ok (.aload_n 0, 1) := by decide +kernel
theorem dL_law_1373 : decode cL_law 1373 = .ok (.iload 4, 2) := by decide +kernel
theorem dL_law_1375 : decode cL_law 1375 = .ok (.iconst 1, 1) := by decide +kernel
theorem dL_law_1376 : decode cL_law 1376 = .ok (.iadd, 1) := by decide +kernel
theorem dL_law_1377 : decode cL_law 1377 = .ok (.iaload, 1) := by decide +kernel
theorem dL_law_1378 : decode cL_law 1378 = .ok (.invokevirtual 168, 3) := by decide +kernel
theorem dL_law_1381 : decode cL_law 1381 = .ok (.istore 6, 2) := by decide +kernel
theorem dL_law_1383 : decode cL_law 1383 = .ok (.aload_n 2, 1) := by decide +kernel
theorem dL_law_1384 : decode cL_law 1384 = .ok (.invokevirtual 101, 3) := by decide +kernel
theorem dL_law_1387 : decode cL_law 1387 = .ok (.iload 5, 2) := by decide +kernel
theorem dL_law_1389 : decode cL_law 1389 = .ok (.if_icmp .eq 5, 3) := by decide +kernel
theorem dL_law_1392 : decode cL_law 1392 = .ok (.iconst 0, 1) := by decide +kernel
theorem dL_law_1393 : decode cL_law 1393 = .ok (.ireturn, 1) := by decide +kernel
theorem dL_law_1394 : decode cL_law 1394 = .ok (.iload 5, 2) := by decide +kernel
theorem dL_law_1396 : decode cL_law 1396 = .ok (.ifCond .ne 15, 3) := by decide +kernel
theorem dL_law_1399 : decode cL_law 1399 = .ok (.aload_n 3, 1) := by decide +kernel
theorem dL_law_1400 : decode cL_law 1400 = .ok (.iconst 0, 1) := by decide +kernel
theorem dL_law_1401 : decode cL_law 1401 = .ok (.laload, 1) := by decide +kernel
theorem dL_law_1402 : decode cL_law 1402 = .ok (.iload 6, 2) := by decide +kernel
theorem dL_law_1404 : decode cL_law 1404 = .ok (.i2l, 1) := by decide +kernel
theorem dL_law_1405 : decode cL_law 1405 = .ok (.lcmp, 1) := by decide +kernel
theorem dL_law_1406 : decode cL_law 1406 = .ok (.ifCond .eq 5, 3) := by decide +kernel
theorem dL_law_1409 : decode cL_law 1409 = .ok (.iconst 0, 1) := by decide +kernel
theorem dL_law_1410 : decode cL_law 1410 = .ok (.ireturn, 1) := by decide +kernel
theorem dL_law_1411 : decode cL_law 1411 = .ok (.goto 423, 3) := by decide +kernel
theorem dL_law_1414 : decode cL_law 1414 = .ok (.aload_n 1, 1) := by decide +kernel
theorem dL_law_1415 : decode cL_law 1415 = .ok (.aload_n 0, 1) := by decide +kernel
theorem dL_law_1416 : decode cL_law 1416 = .ok (.iload 4, 2) := by decide +kernel
theorem dL_law_1418 : decode cL_law 1418 = .ok (.iconst 1, 1) := by decide +kernel
theorem dL_law_1419 : decode cL_law 1419 = .ok (.iadd, 1) := by decide +kernel
theorem dL_law_1420 : decode cL_law 1420 = .ok (.iaload, 1) := by decide +kernel
theorem dL_law_1421 : decode cL_law 1421 = .ok (.aload_n 3, 1) := by decide +kernel
theorem dL_law_1422 : decode cL_law 1422 = .ok (.invokestatic 169, 3) := by decide +kernel
theorem dL_law_1425 : decode cL_law 1425 = .ok (.istore 5, 2) := by decide +kernel
theorem dL_law_1427 : decode cL_law 1427 = .ok (.aload_n 2, 1) := by decide +kernel
theorem dL_law_1428 : decode cL_law 1428 = .ok (.aload_n 0, 1) := by decide +kernel
theorem dL_law_1429 : decode cL_law 1429 = .ok (.iload 4, 2) := by decide +kernel
theorem dL_law_1431 : decode cL_law 1431 = .ok (.iconst 1, 1) := by decide +kernel
theorem dL_law_1432 : decode cL_law 1432 = .ok (.iadd, 1) := by decide +kernel
theorem dL_law_1433 : decode cL_law 1433 = .ok (.iaload, 1) := by decide +kernel
theorem dL_law_1434 : decode cL_law 1434 = .ok (.invokevirtual 171, 3) := by decide +kernel
theorem dL_law_1437 : decode cL_law 1437 = .ok (.istore 6, 2) := by decide +kernel
theorem dL_law_1439 : decode cL_law 1439 = .ok (.aload_n 2, 1) := by decide +kernel
theorem dL_law_1440 : decode cL_law 1440 = .ok (.invokevirtual 101, 3) := by decide +kernel
theorem dL_law_1443 : decode cL_law 1443 = .ok (.iload 5, 2) := by decide +kernel
theorem dL_law_1445 : decode cL_law 1445 = .ok (.if_icmp .eq 5, 3) := by decide +kernel
theorem dL_law_1448 : decode cL_law 1448 = .ok (.iconst 0, 1) := by decide +kernel
theorem dL_law_1449 : decode cL_law 1449 = .ok (.ireturn, 1) := by decide +kernel
theorem dL_law_1450 : decode cL_law 1450 = .ok (.iload 5, 2) := by decide +kernel
theorem dL_law_1452 : decode cL_law 1452 = .ok (.ifCond .ne 15, 3) := by decide +kernel
theorem dL_law_1455 : decode cL_law 1455 = .ok (.aload_n 3, 1) := by decide +kernel
theorem dL_law_1456 : decode cL_law 1456 = .ok (.iconst 0, 1) := by decide +kernel
theorem dL_law_1457 : decode cL_law 1457 = .ok (.laload, 1) := by decide +kernel
theorem dL_law_1458 : decode cL_law 1458 = .ok (.iload 6, 2) := by decide +kernel
theorem dL_law_1460 : decode cL_law 1460 = .ok (.i2l, 1) := by decide +kernel
theorem dL_law_1461 : decode cL_law 1461 = .ok (.lcmp, 1) := by decide +kernel
theorem dL_law_1462 : decode cL_law 1462 = .ok (.ifCond .eq 5, 3) := by decide +kernel
theorem dL_law_1465 : decode cL_law 1465 = .ok (.iconst 0, 1) := by decide +kernel
theorem dL_law_1466 : decode cL_law 1466 = .ok (.ireturn, 1) := by decide +kernel
theorem dL_law_1467 : decode cL_law 1467 = .ok (.goto 367, 3) := by decide +kernel
theorem dL_law_1470 : decode cL_law 1470 = .ok (.aload_n 1, 1) := by decide +kernel
theorem dL_law_1471 : decode cL_law 1471 = .ok (.aload_n 0, 1) := by decide +kernel
theorem dL_law_1472 : decode cL_law 1472 = .ok (.iload 4, 2) := by decide +kernel
theorem dL_law_1474 : decode cL_law 1474 = .ok (.iconst 1, 1) := by decide +kernel
theorem dL_law_1475 : decode cL_law 1475 = .ok (.iadd, 1) := by decide +kernel
theorem dL_law_1476 : decode cL_law 1476 = .ok (.iaload, 1) := by decide +kernel
theorem dL_law_1477 : decode cL_law 1477 = .ok (.aload_n 0, 1) := by decide +kernel
theorem dL_law_1478 : decode cL_law 1478 = .ok (.iload 4, 2) := by decide +kernel
theorem dL_law_1480 : decode cL_law 1480 = .ok (.iconst 2, 1) := by decide +kernel
theorem dL_law_1481 : decode cL_law 1481 = .ok (.iadd, 1) := by decide +kernel
theorem dL_law_1482 : decode cL_law 1482 = .ok (.iaload, 1) := by decide +kernel
theorem dL_law_1483 : decode cL_law 1483 = .ok (.aload_n 0, 1) := by decide +kernel
theorem dL_law_1484 : decode cL_law 1484 = .ok (.iload 4, 2) := by decide +kernel
theorem dL_law_1486 : decode cL_law 1486 = .ok (.iconst 3, 1) := by decide +kernel
theorem dL_law_1487 : decode cL_law 1487 = .ok (.iadd, 1) := by decide +kernel
theorem dL_law_1488 : decode cL_law 1488 = .ok (.iaload, 1) := by decide +kernel
theorem dL_law_1489 : decode cL_law 1489 = .ok (.aload_n 3, 1) := by decide +kernel
theorem dL_law_1490 : decode cL_law 1490 = .ok (.invokestatic 172, 3) := by decide +kernel
theorem dL_law_1493 : decode cL_law 1493 = .ok (.istore 5, 2) := by decide +kernel
theorem dL_law_1495 : decode cL_law 1495 = .ok (.aload_n 2, 1) := by decide +kernel
theorem dL_law_1496 : decode cL_law 1496 = .ok (.aload_n 0, 1) := by decide +kernel
theorem dL_law_1497 : decode cL_law 1497 = .ok (.iload 4, 2) := by decide +kernel
theorem dL_law_1499 : decode cL_law 1499 = .ok (.iconst 1, 1) := by decide +kernel
theorem dL_law_1500 : decode cL_law 1500 = .ok (.iadd, 1) := by decide +kernel
theorem dL_law_1501 : decode cL_law 1501 = .ok (.iaload, 1) := by decide +kernel
theorem dL_law_1502 : decode cL_law 1502 = .ok (.aload_n 0, 1) := by decide +kernel
theorem dL_law_1503 : decode cL_law 1503 = .ok (.iload 4, 2) := by decide +kernel
theorem dL_law_1505 : decode cL_law 1505 = .ok (.iconst 2, 1) := by decide +kernel
theorem dL_law_1506 : decode cL_law 1506 = .ok (.iadd, 1) := by decide +kernel
theorem dL_law_1507 : decode cL_law 1507 = .ok (.iaload, 1) := by decide +kernel
theorem dL_law_1508 : decode cL_law 1508 = .ok (.aload_n 0, 1) := by decide +kernel
theorem dL_law_1509 : decode cL_law 1509 = .ok (.iload 4, 2) := by decide +kernel
theorem dL_law_1511 : decode cL_law 1511 = .ok (.iconst 3, 1) := by decide +kernel
theorem dL_law_1512 : decode cL_law 1512 = .ok (.iadd, 1) := by decide +kernel
theorem dL_law_1513 : decode cL_law 1513 = .ok (.iaload, 1) := by decide +kernel
theorem dL_law_1514 : decode cL_law 1514 = .ok (.invokevirtual 174, 3) := by decide +kernel
theorem dL_law_1517 : decode cL_law 1517 = .ok (.istore 6, 2) := by decide +kernel
theorem dL_law_1519 : decode cL_law 1519 = .ok (.aload_n 2, 1) := by decide +kernel
theorem dL_law_1520 : decode cL_law 1520 = .ok (.invokevirtual 101, 3) := by decide +kernel
theorem dL_law_1523 : decode cL_law 1523 = .ok (.iload 5, 2) := by decide +kernel
theorem dL_law_1525 : decode cL_law 1525 = .ok (.if_icmp .eq 5, 3) := by decide +kernel
theorem dL_law_1528 : decode cL_law 1528 = .ok (.iconst 0, 1) := by decide +kernel
theorem dL_law_1529 : decode cL_law 1529 = .ok (.ireturn, 1) := by decide +kernel
theorem dL_law_1530 : decode cL_law 1530 = .ok (.iload 5, 2) := by decide +kernel
theorem dL_law_1532 : decode cL_law 1532 = .ok (.ifCond .ne 15, 3) := by decide +kernel
theorem dL_law_1535 : decode cL_law 1535 = .ok (.aload_n 3, 1) := by decide +kernel
theorem dL_law_1536 : decode cL_law 1536 = .ok (.iconst 0, 1) := by decide +kernel
theorem dL_law_1537 : decode cL_law 1537 = .ok (.laload, 1) := by decide +kernel
theorem dL_law_1538 : decode cL_law 1538 = .ok (.iload 6, 2) := by decide +kernel
theorem dL_law_1540 : decode cL_law 1540 = .ok (.i2l, 1) := by decide +kernel
theorem dL_law_1541 : decode cL_law 1541 = .ok (.lcmp, 1) := by decide +kernel
theorem dL_law_1542 : decode cL_law 1542 = .ok (.ifCond .eq 5, 3) := by decide +kernel
theorem dL_law_1545 : decode cL_law 1545 = .ok (.iconst 0, 1) := by decide +kernel
theorem dL_law_1546 : decode cL_law 1546 = .ok (.ireturn, 1) := by decide +kernel
theorem dL_law_1547 : decode cL_law 1547 = .ok (.goto 287, 3) := by decide +kernel
theorem dL_law_1550 : decode cL_law 1550 = .ok (.aload_n 1, 1) := by decide +kernel
theorem dL_law_1551 : decode cL_law 1551 = .ok (.aload_n 0, 1) := by decide +kernel
theorem dL_law_1552 : decode cL_law 1552 = .ok (.iload 4, 2) := by decide +kernel
theorem dL_law_1554 : decode cL_law 1554 = .ok (.iconst 1, 1) := by decide +kernel
theorem dL_law_1555 : decode cL_law 1555 = .ok (.iadd, 1) := by decide +kernel
theorem dL_law_1556 : decode cL_law 1556 = .ok (.iaload, 1) := by decide +kernel
theorem dL_law_1557 : decode cL_law 1557 = .ok (.aload_n 0, 1) := by decide +kernel
theorem dL_law_1558 : decode cL_law 1558 = .ok (.iload 4, 2) := by decide +kernel
theorem dL_law_1560 : decode cL_law 1560 = .ok (.iconst 2, 1) := by decide +kernel
theorem dL_law_1561 : decode cL_law 1561 = .ok (.iadd, 1) := by decide +kernel
theorem dL_law_1562 : decode cL_law 1562 = .ok (.iaload, 1) := by decide +kernel
theorem dL_law_1563 : decode cL_law 1563 = .ok (.aload_n 0, 1) := by decide +kernel
theorem dL_law_1564 : decode cL_law 1564 = .ok (.iload 4, 2) := by decide +kernel
theorem dL_law_1566 : decode cL_law 1566 = .ok (.iconst 3, 1) := by decide +kernel
theorem dL_law_1567 : decode cL_law 1567 = .ok (.iadd, 1) := by decide +kernel
theorem dL_law_1568 : decode cL_law 1568 = .ok (.iaload, 1) := by decide +kernel
theorem dL_law_1569 : decode cL_law 1569 = .ok (.aload_n 3, 1) := by decide +kernel
theorem dL_law_1570 : decode cL_law 1570 = .ok (.invokestatic 175, 3) := by decide +kernel
theorem dL_law_1573 : decode cL_law 1573 = .ok (.istore 5, 2) := by decide +kernel
theorem dL_law_1575 : decode cL_law 1575 = .ok (.aload_n 2, 1) := by decide +kernel
theorem dL_law_1576 : decode cL_law 1576 = .ok (.aload_n 0, 1) := by decide +kernel
theorem dL_law_1577 : decode cL_law 1577 = .ok (.iload 4, 2) := by decide +kernel
theorem dL_law_1579 : decode cL_law 1579 = .ok (.iconst 1, 1) := by decide +kernel
theorem dL_law_1580 : decode cL_law 1580 = .ok (.iadd, 1) := by decide +kernel
theorem dL_law_1581 : decode cL_law 1581 = .ok (.iaload, 1) := by decide +kernel
theorem dL_law_1582 : decode cL_law 1582 = .ok (.aload_n 0, 1) := by decide +kernel
theorem dL_law_1583 : decode cL_law 1583 = .ok (.iload 4, 2) := by decide +kernel
theorem dL_law_1585 : decode cL_law 1585 = .ok (.iconst 2, 1) := by decide +kernel
theorem dL_law_1586 : decode cL_law 1586 = .ok (.iadd, 1) := by decide +kernel
theorem dL_law_1587 : decode cL_law 1587 = .ok (.iaload, 1) := by decide +kernel
theorem dL_law_1588 : decode cL_law 1588 = .ok (.aload_n 0, 1) := by decide +kernel
theorem dL_law_1589 : decode cL_law 1589 = .ok (.iload 4, 2) := by decide +kernel
theorem dL_law_1591 : decode cL_law 1591 = .ok (.iconst 3, 1) := by decide +kernel
theorem dL_law_1592 : decode cL_law 1592 = .ok (.iadd, 1) := by decide +kernel
theorem dL_law_1593 : decode cL_law 1593 = .ok (.iaload, 1) := by decide +kernel
theorem dL_law_1594 : decode cL_law 1594 = .ok (.invokevirtual 177, 3) := by decide +kernel
theorem dL_law_1597 : decode cL_law 1597 = .ok (.istore 6, 2) := by decide +kernel
theorem dL_law_1599 : decode cL_law 1599 = .ok (.aload_n 2, 1) := by decide +kernel
theorem dL_law_1600 : decode cL_law 1600 = .ok (.invokevirtual 101, 3) := by decide +kernel
theorem dL_law_1603 : decode cL_law 1603 = .ok (.iload 5, 2) := by decide +kernel
theorem dL_law_1605 : decode cL_law 1605 = .ok (.if_icmp .eq 5, 3) := by decide +kernel
theorem dL_law_1608 : decode cL_law 1608 = .ok (.iconst 0, 1) := by decide +kernel
theorem dL_law_1609 : decode cL_law 1609 = .ok (.ireturn, 1) := by decide +kernel
theorem dL_law_1610 : decode cL_law 1610 = .ok (.iload 5, 2) := by decide +kernel
theorem dL_law_1612 : decode cL_law 1612 = .ok (.ifCond .ne 15, 3) := by decide +kernel
theorem dL_law_1615 : decode cL_law 1615 = .ok (.aload_n 3, 1) := by decide +kernel
theorem dL_law_1616 : decode cL_law 1616 = .ok (.iconst 0, 1) := by decide +kernel
theorem dL_law_1617 : decode cL_law 1617 = .ok (.laload, 1) := by decide +kernel
theorem dL_law_1618 : decode cL_law 1618 = .ok (.iload 6, 2) := by decide +kernel
theorem dL_law_1620 : decode cL_law 1620 = .ok (.i2l, 1) := by decide +kernel
theorem dL_law_1621 : decode cL_law 1621 = .ok (.lcmp, 1) := by decide +kernel
theorem dL_law_1622 : decode cL_law 1622 = .ok (.ifCond .eq 5, 3) := by decide +kernel
theorem dL_law_1625 : decode cL_law 1625 = .ok (.iconst 0, 1) := by decide +kernel
theorem dL_law_1626 : decode cL_law 1626 = .ok (.ireturn, 1) := by decide +kernel
theorem dL_law_1627 : decode cL_law 1627 = .ok (.goto 207, 3) := by decide +kernel
theorem dL_law_1630 : decode cL_law 1630 = .ok (.aload_n 1, 1) := by decide +kernel
theorem dL_law_1631 : decode cL_law 1631 = .ok (.aload_n 0, 1) := by decide +kernel
theorem dL_law_1632 : decode cL_law 1632 = .ok (.iload 4, 2) := by decide +kernel
theorem dL_law_1634 : decode cL_law 1634 = .ok (.iconst 1, 1) := by decide +kernel
theorem dL_law_1635 : decode cL_law 1635 = .ok (.iadd, 1) := by decide +kernel
theorem dL_law_1636 : decode cL_law 1636 = .ok (.iaload, 1) := by decide +kernel
theorem dL_law_1637 : decode cL_law 1637 = .ok (.aload_n 0, 1) := by decide +kernel
theorem dL_law_1638 : decode cL_law 1638 = .ok (.iload 4, 2) := by decide +kernel
theorem dL_law_1640 : decode cL_law 1640 = .ok (.iconst 2, 1) := by decide +kernel
theorem dL_law_1641 : decode cL_law 1641 = .ok (.iadd, 1) := by decide +kernel
theorem dL_law_1642 : decode cL_law 1642 = .ok (.iaload, 1) := by decide +kernel
theorem dL_law_1643 : decode cL_law 1643 = .ok (.aload_n 3, 1) := by decide +kernel
theorem dL_law_1644 : decode cL_law 1644 = .ok (.invokestatic 178, 3) := by decide +kernel
theorem dL_law_1647 : decode cL_law 1647 = .ok (.istore 5, 2) := by decide +kernel
theorem dL_law_1649 : decode cL_law 1649 = .ok (.aload_n 2, 1) := by decide +kernel
theorem dL_law_1650 : decode cL_law 1650 = .ok (.aload_n 0, 1) := by decide +kernel
theorem dL_law_1651 : decode cL_law 1651 = .ok (.iload 4, 2) := by decide +kernel
theorem dL_law_1653 : decode cL_law 1653 = .ok (.iconst 1, 1) := by decide +kernel
theorem dL_law_1654 : decode cL_law 1654 = .ok (.iadd, 1) := by decide +kernel
theorem dL_law_1655 : decode cL_law 1655 = .ok (.iaload, 1) := by decide +kernel
theorem dL_law_1656 : decode cL_law 1656 = .ok (.aload_n 0, 1) := by decide +kernel
theorem dL_law_1657 : decode cL_law 1657 = .ok (.iload 4, 2) := by decide +kernel
theorem dL_law_1659 : decode cL_law 1659 = .ok (.iconst 2, 1) := by decide +kernel
theorem dL_law_1660 : decode cL_law 1660 = .ok (.iadd, 1) := by decide +kernel
theorem dL_law_1661 : decode cL_law 1661 = .ok (.iaload, 1) := by decide +kernel
theorem dL_law_1662 : decode cL_law 1662 = .ok (.invokevirtual 180, 3) := by decide +kernel
theorem dL_law_1665 : decode cL_law 1665 = .ok (.istore 6, 2) := by decide +kernel
theorem dL_law_1667 : decode cL_law 1667 = .ok (.aload_n 2, 1) := by decide +kernel
theorem dL_law_1668 : decode cL_law 1668 = .ok (.invokevirtual 101, 3) := by decide +kernel
theorem dL_law_1671 : decode cL_law 1671 = .ok (.iload 5, 2) := by decide +kernel
theorem dL_law_1673 : decode cL_law 1673 = .ok (.if_icmp .eq 5, 3) := by decide +kernel
theorem dL_law_1676 : decode cL_law 1676 = .ok (.iconst 0, 1) := by decide +kernel
theorem dL_law_1677 : decode cL_law 1677 = .ok (.ireturn, 1) := by decide +kernel
theorem dL_law_1678 : decode cL_law 1678 = .ok (.iload 5, 2) := by decide +kernel
theorem dL_law_1680 : decode cL_law 1680 = .ok (.ifCond .ne 15, 3) := by decide +kernel
theorem dL_law_1683 : decode cL_law 1683 = .ok (.aload_n 3, 1) := by decide +kernel
theorem dL_law_1684 : decode cL_law 1684 = .ok (.iconst 0, 1) := by decide +kernel
theorem dL_law_1685 : decode cL_law 1685 = .ok (.laload, 1) := by decide +kernel
theorem dL_law_1686 : decode cL_law 1686 = .ok (.iload 6, 2) := by decide +kernel
theorem dL_law_1688 : decode cL_law 1688 = .ok (.i2l, 1) := by decide +kernel
theorem dL_law_1689 : decode cL_law 1689 = .ok (.lcmp, 1) := by decide +kernel
theorem dL_law_1690 : decode cL_law 1690 = .ok (.ifCond .eq 5, 3) := by decide +kernel
theorem dL_law_1693 : decode cL_law 1693 = .ok (.iconst 0, 1) := by decide +kernel
theorem dL_law_1694 : decode cL_law 1694 = .ok (.ireturn, 1) := by decide +kernel
theorem dL_law_1695 : decode cL_law 1695 = .ok (.goto 139, 3) := by decide +kernel
theorem dL_law_1698 : decode cL_law 1698 = .ok (.aload_n 1, 1) := by decide +kernel
theorem dL_law_1699 : decode cL_law 1699 = .ok (.aload_n 0, 1) := by decide +kernel
theorem dL_law_1700 : decode cL_law 1700 = .ok (.iload 4, 2) := by decide +kernel
theorem dL_law_1702 : decode cL_law 1702 = .ok (.iconst 1, 1) := by decide +kernel
theorem dL_law_1703 : decode cL_law 1703 = .ok (.iadd, 1) := by decide +kernel
theorem dL_law_1704 : decode cL_law 1704 = .ok (.iaload, 1) := by decide +kernel
theorem dL_law_1705 : decode cL_law 1705 = .ok (.aload_n 0, 1) := by decide +kernel
theorem dL_law_1706 : decode cL_law 1706 = .ok (.iload 4, 2) := by decide +kernel
theorem dL_law_1708 : decode cL_law 1708 = .ok (.iconst 2, 1) := by decide +kernel
theorem dL_law_1709 : decode cL_law 1709 = .ok (.iadd, 1) := by decide +kernel
theorem dL_law_1710 : decode cL_law 1710 = .ok (.iaload, 1) := by decide +kernel
theorem dL_law_1711 : decode cL_law 1711 = .ok (.aload_n 3, 1) := by decide +kernel
theorem dL_law_1712 : decode cL_law 1712 = .ok (.invokestatic 181, 3) := by decide +kernel
theorem dL_law_1715 : decode cL_law 1715 = .ok (.istore 5, 2) := by decide +kernel
theorem dL_law_1717 : decode cL_law 1717 = .ok (.aload_n 2, 1) := by decide +kernel
theorem dL_law_1718 : decode cL_law 1718 = .ok (.aload_n 0, 1) := by decide +kernel
theorem dL_law_1719 : decode cL_law 1719 = .ok (.iload 4, 2) := by decide +kernel
theorem dL_law_1721 : decode cL_law 1721 = .ok (.iconst 1, 1) := by decide +kernel
theorem dL_law_1722 : decode cL_law 1722 = .ok (.iadd, 1) := by decide +kernel
theorem dL_law_1723 : decode cL_law 1723 = .ok (.iaload, 1) := by decide +kernel
theorem dL_law_1724 : decode cL_law 1724 = .ok (.aload_n 0, 1) := by decide +kernel
theorem dL_law_1725 : decode cL_law 1725 = .ok (.iload 4, 2) := by decide +kernel
theorem dL_law_1727 : decode cL_law 1727 = .ok (.iconst 2, 1) := by decide +kernel
theorem dL_law_1728 : decode cL_law 1728 = .ok (.iadd, 1) := by decide +kernel
theorem dL_law_1729 : decode cL_law 1729 = .ok (.iaload, 1) := by decide +kernel
theorem dL_law_1730 : decode cL_law 1730 = .ok (.invokevirtual 183, 3) := by decide +kernel
theorem dL_law_1733 : decode cL_law 1733 = .ok (.istore 6, 2) := by decide +kernel
theorem dL_law_1735 : decode cL_law 1735 = .ok (.aload_n 2, 1) := by decide +kernel
theorem dL_law_1736 : decode cL_law 1736 = .ok (.invokevirtual 101, 3) := by decide +kernel
theorem dL_law_1739 : decode cL_law 1739 = .ok (.iload 5, 2) := by decide +kernel
theorem dL_law_1741 : decode cL_law 1741 = .ok (.if_icmp .eq 5, 3) := by decide +kernel
theorem dL_law_1744 : decode cL_law 1744 = .ok (.iconst 0, 1) := by decide +kernel
theorem dL_law_1745 : decode cL_law 1745 = .ok (.ireturn, 1) := by decide +kernel
theorem dL_law_1746 : decode cL_law 1746 = .ok (.iload 5, 2) := by decide +kernel
theorem dL_law_1748 : decode cL_law 1748 = .ok (.ifCond .ne 15, 3) := by decide +kernel
theorem dL_law_1751 : decode cL_law 1751 = .ok (.aload_n 3, 1) := by decide +kernel
theorem dL_law_1752 : decode cL_law 1752 = .ok (.iconst 0, 1) := by decide +kernel
theorem dL_law_1753 : decode cL_law 1753 = .ok (.laload, 1) := by decide +kernel
theorem dL_law_1754 : decode cL_law 1754 = .ok (.iload 6, 2) := by decide +kernel
theorem dL_law_1756 : decode cL_law 1756 = .ok (.i2l, 1) := by decide +kernel
theorem dL_law_1757 : decode cL_law 1757 = .ok (.lcmp, 1) := by decide +kernel
theorem dL_law_1758 : decode cL_law 1758 = .ok (.ifCond .eq 5, 3) := by decide +kernel
theorem dL_law_1761 : decode cL_law 1761 = .ok (.iconst 0, 1) := by decide +kernel
theorem dL_law_1762 : decode cL_law 1762 = .ok (.ireturn, 1) := by decide +kernel
theorem dL_law_1763 : decode cL_law 1763 = .ok (.goto 71, 3) := by decide +kernel
theorem dL_law_1766 : decode cL_law 1766 = .ok (.aload_n 1, 1) := by decide +kernel
theorem dL_law_1767 : decode cL_law 1767 = .ok (.invokevirtual 184, 3) := by decide +kernel
theorem dL_law_1770 : decode cL_law 1770 = .ok (.aload_n 2, 1) := by decide +kernel
theorem dL_law_1771 : decode cL_law 1771 = .ok (.invokevirtual 187, 3) := by decide +kernel
theorem dL_law_1774 : decode cL_law 1774 = .ok (.if_icmp .eq 60, 3) := by decide +kernel
theorem dL_law_1777 : decode cL_law 1777 = .ok (.iconst 0, 1) := by decide +kernel
theorem dL_law_1778 : decode cL_law 1778 = .ok (.ireturn, 1) := by decide +kernel
theorem dL_law_1779 : decode cL_law 1779 = .ok (.aload_n 1, 1) := by decide +kernel
theorem dL_law_1780 : decode cL_law 1780 = .ok (.invokevirtual 188, 3) := by decide +kernel
theorem dL_law_1783 : decode cL_law 1783 = .ok (.dstore 5, 2) := by decide +kernel
theorem dL_law_1785 : decode cL_law 1785 = .ok (.aload_n 2, 1) := by decide +kernel
theorem dL_law_1786 : decode cL_law 1786 = .ok (.invokevirtual 192, 3) := by decide +kernel
theorem dL_law_1789 : decode cL_law 1789 = .ok (.dstore 7, 2) := by decide +kernel
theorem dL_law_1791 : decode cL_law 1791 = .ok (.dload 5, 2) := by decide +kernel
theorem dL_law_1793 : decode cL_law 1793 = .ok (.dload 7, 2) := by decide +kernel
theorem dL_law_1795 : decode cL_law 1795 = .ok (.dcmp .l, 1) := by decide +kernel
theorem dL_law_1796 : decode cL_law 1796 = .ok (.ifCond .eq 21, 3) := by decide +kernel
theorem dL_law_1799 : decode cL_law 1799 = .ok (.dload 5, 2) := by decide +kernel
theorem dL_law_1801 : decode cL_law 1801 = .ok (.dload 5, 2) := by decide +kernel
theorem dL_law_1803 : decode cL_law 1803 = .ok (.dcmp .l, 1) := by decide +kernel
theorem dL_law_1804 : decode cL_law 1804 = .ok (.ifCond .eq 11, 3) := by decide +kernel
theorem dL_law_1807 : decode cL_law 1807 = .ok (.dload 7, 2) := by decide +kernel
theorem dL_law_1809 : decode cL_law 1809 = .ok (.dload 7, 2) := by decide +kernel
theorem dL_law_1811 : decode cL_law 1811 = .ok (.dcmp .l, 1) := by decide +kernel
theorem dL_law_1812 : decode cL_law 1812 = .ok (.ifCond .ne 5, 3) := by decide +kernel
theorem dL_law_1815 : decode cL_law 1815 = .ok (.iconst 0, 1) := by decide +kernel
theorem dL_law_1816 : decode cL_law 1816 = .ok (.ireturn, 1) := by decide +kernel
theorem dL_law_1817 : decode cL_law 1817 = .ok (.goto 17, 3) := by decide +kernel
theorem dL_law_1820 : decode cL_law 1820 = .ok (.aload_n 1, 1) := by decide +kernel
end
section
theorem dL_law_1821 : decode cL_law 1821 = .ok (.invokevirtual 193, 3) := by decide +kernel
theorem dL_law_1824 : decode cL_law 1824 = .ok (.aload_n 2, 1) := by decide +kernel
theorem dL_law_1825 : decode cL_law 1825 = .ok (.invokevirtual 197, 3) := by decide +kernel
theorem dL_law_1828 : decode cL_law 1828 = .ok (.lcmp, 1) := by decide +kernel
theorem dL_law_1829 : decode cL_law 1829 = .ok (.ifCond .eq 5, 3) := by decide +kernel
theorem dL_law_1832 : decode cL_law 1832 = .ok (.iconst 0, 1) := by decide +kernel
theorem dL_law_1833 : decode cL_law 1833 = .ok (.ireturn, 1) := by decide +kernel
theorem dL_law_1834 : decode cL_law 1834 = .ok (.iinc 4 4, 3) := by decide +kernel
theorem dL_law_1837 : decode cL_law 1837 = .ok (.goto (-1814), 3) := by decide +kernel
theorem dL_law_1840 : decode cL_law 1840 = .ok (.iconst 1, 1) := by decide +kernel
theorem dL_law_1841 : decode cL_law 1841 = .ok (.ireturn, 1) := by decide +kernel
end
section
/-! FLAT MEMORY: all our cells as functions of (address, place); the judgement G: a frame of a method over a flat memory. -/
def wA : List Cond := lw_tbl.filter goodWord
theorem wA_in {w : Cond} (h : w ∈ lw_tbl) (g : goodWord w = true) : w ∈ wA := List.mem_filter.mpr ⟨h, g⟩
theorem wA_i (i : Nat) {w : Cond} (h : lw_tbl[i]? = some w) (g : goodWord w = true) : w ∈ wA := wA_in (List.mem_of_getElem? h) g
theorem wA_good {w : Cond} (h : w ∈ wA) : goodWord w = true := (List.mem_filter.mp h).2
/-- size of the heap; kind and length by address; ints, references, longs by address and place -/
abbrev Mm : Type := Nat × (Nat → Nat × Nat) × (Nat → Nat → Int32) × (Nat → Nat → Option Nat) × (Nat → Nat → Int64)
def fz (m : Mm) : Nat := m.1
def tg (m : Mm) : Nat → Nat × Nat := m.2.1
def im (m : Mm) : Nat → Nat → Int32 := m.2.2.1
def rf (m : Mm) : Nat → Nat → Option Nat := m.2.2.2.1
def jm (m : Mm) : Nat → Nat → Int64 := m.2.2.2.2
def u2 {α : Type} (f : Nat → Nat → α) (a k : Nat) (v : α) : Nat → Nat → α := fun x y => if x = a ∧ y = k then v else f x y
def sI (m : Mm) (a k : Nat) (v : Int32) : Mm := (fz m, tg m, u2 (im m) a k v, rf m, jm m)
def sR (m : Mm) (a k : Nat) (v : Option Nat) : Mm := (fz m, tg m, im m, u2 (rf m) a k v, jm m)
def sJ (m : Mm) (a k : Nat) (v : Int64) : Mm := (fz m, tg m, im m, rf m, u2 (jm m) a k v)
def u1 {α : Type} (f : Nat → α) (a : Nat) (v : α) : Nat → α := fun x => if x = a then v else f x
/-- a new cell of a kind and length, at the heap's end -/
def nw (m : Mm) (t : Nat × Nat) : Mm := (fz m + 1, u1 (tg m) (fz m) t, u1 (im m) (fz m) (fun _ => 0), u1 (rf m) (fz m) (fun _ => none), u1 (jm m) (fz m) (fun _ => 0))
/-- the heap grew (a thrown object) -/
def gr (m : Mm) (n : Nat) : Mm := (n, tg m, im m, rf m, jm m)
theorem fz_sI (m : Mm) (a k : Nat) (v : Int32) : fz (sI m a k v) = fz m := rfl
theorem tg_sI (m : Mm) (a k : Nat) (v : Int32) : tg (sI m a k v) = tg m := rfl
theorem im_sI (m : Mm) (a k : Nat) (v : Int32) : im (sI m a k v) = u2 (im m) a k v := rfl
theorem rf_sI (m : Mm) (a k : Nat) (v : Int32) : rf (sI m a k v) = rf m := rfl
theorem jm_sI (m : Mm) (a k : Nat) (v : Int32) : jm (sI m a k v) = jm m := rfl
theorem fz_sR (m : Mm) (a k : Nat) (v : Option Nat) : fz (sR m a k v) = fz m := rfl
theorem tg_sR (m : Mm) (a k : Nat) (v : Option Nat) : tg (sR m a k v) = tg m := rfl
theorem im_sR (m : Mm) (a k : Nat) (v : Option Nat) : im (sR m a k v) = im m := rfl
theorem rf_sR (m : Mm) (a k : Nat) (v : Option Nat) : rf (sR m a k v) = u2 (rf m) a k v := rfl
theorem jm_sR (m : Mm) (a k : Nat) (v : Option Nat) : jm (sR m a k v) = jm m := rfl
theorem fz_sJ (m : Mm) (a k : Nat) (v : Int64) : fz (sJ m a k v) = fz m := rfl
theorem tg_sJ (m : Mm) (a k : Nat) (v : Int64) : tg (sJ m a k v) = tg m := rfl
theorem im_sJ (m : Mm) (a k : Nat) (v : Int64) : im (sJ m a k v) = im m := rfl
theorem rf_sJ (m : Mm) (a k : Nat) (v : Int64) : rf (sJ m a k v) = rf m := rfl
theorem jm_sJ (m : Mm) (a k : Nat) (v : Int64) : jm (sJ m a k v) = u2 (jm m) a k v := rfl
theorem u2_s {α : Type} (f : Nat → Nat → α) (a k : Nat) (v : α) : u2 f a k v a k = v := by simp [u2]
theorem u2_n {α : Type} (f : Nat → Nat → α) (a k : Nat) (v : α) {x y : Nat} (h : ¬ (x = a ∧ y = k)) : u2 f a k v x y = f x y := by simp only [u2, if_neg h]
theorem u2_o {α : Type} (f : Nat → Nat → α) (a k : Nat) (v : α) {x : Nat} (h : x ≠ a) : u2 f a k v x = f x := by funext y; simp [u2, h]
theorem u1_s {α : Type} (f : Nat → α) (a : Nat) (v : α) : u1 f a v a = v := by simp [u1]
theorem u1_n {α : Type} (f : Nat → α) (a : Nat) (v : α) {x : Nat} (h : x ≠ a) : u1 f a v x = f x := by simp [u1, h]
/-- the types of the fields, by kind -/
def fm_ty (c : Nat) : Nat → FieldType := match c with
  | 0 => tyX0 | 1 => tyX1 | 2 => tyX2 | 3 => tyX3 | 4 => tyX4 | 5 => tyX5 | 6 => tyX6 | 7 => tyX7 | 8 => tyX8 | 9 => tyX9 | _ => tyX10
/-- the element class of a kind of reference arrays -/
def fm_el (c : Nat) : String := match c with
  | 12 => RX0 | 13 => RX4 | 14 => RX5 | 15 => RX6 | 16 => RX7 | _ => RX8
def fm_fv (ty : FieldType) (I : Nat → Int32) (R : Nat → Option Nat) (J : Nat → Int64) (k : Nat) : Value := match ty with
  | .int => .int (I k)
  | .long => .long (J k)
  | _ => va_rf (R k)
def fm_cell (s : State) (k : Nat × Nat) (I : Nat → Int32) (R : Nat → Option Nat) (J : Nat → Int64) (oc : Option Cell) : Prop :=
  (k.1 < 11 → ∃ (r : vw_C) (cC : ClassId) (iS : Nat → Nat) (cell : Cell), vwCl[k.1]? = some r ∧ u_Kn s r.1 r.2.1 r.2.2 cC iS ∧ oc = some cell ∧ cell.cls = cC ∧ cell.vm = .none ∧ ∀ j, j < r.2.2 → cell.slots[iS j]? = some (fm_fv (fm_ty k.1 j) I R J j)) ∧
  (k.1 = 11 → ∃ cA : ClassId, oc = some (arrV cA k.2 (fun j => .int (I j))) ∧ ArrOfT s cA .int) ∧
  (k.1 = 18 → ∃ cA : ClassId, oc = some (arrV cA k.2 (fun j => .long (J j))) ∧ ArrOfT s cA .long) ∧
  (11 < k.1 ∧ k.1 < 18 → ∃ cA : ClassId, oc = some (arrV cA k.2 (fun j => va_rf (R j))) ∧ ArrOfT s cA (.object (fm_el k.1)) ∧ va_RA s cA (.object (fm_el k.1))) ∧
  (k.1 = 19 → ∃ scr : Cell, oc = some scr ∧ s.isArrayOf scr .int ∧ scr.vm ≠ .unknown ∧ scr.slots.size = k.2 ∧ ∀ j : Nat, j < k.2 → scr.slots[j]? = some (.int (I j)))

theorem fm_cell.moved {s t : State} (hvm : s.vm.Alike t.vm) {k : Nat × Nat} {I : Nat → Int32} {R : Nat → Option Nat} {J : Nat → Int64} {oc : Option Cell} (h : fm_cell s k I R J oc) : fm_cell t k I R J oc := by
  obtain ⟨h1, h2, h3, h4, h5⟩ := h
  refine ⟨fun q => ?_, fun q => ?_, fun q => ?_, fun q => ?_, fun q => ?_⟩
  · obtain ⟨r, cC, iS, cell, e1, e2, e3⟩ := h1 q
    exact ⟨r, cC, iS, cell, e1, u_Kn_moved hvm e2, e3⟩
  · obtain ⟨cA, e1, e2⟩ := h2 q
    exact ⟨cA, e1, arrOfT_moved hvm e2⟩
  · obtain ⟨cA, e1, e2⟩ := h3 q
    exact ⟨cA, e1, arrOfT_moved hvm e2⟩
  · obtain ⟨cA, e1, e2, e3⟩ := h4 q
    exact ⟨cA, e1, arrOfT_moved hvm e2, e3.moved hvm⟩
  · obtain ⟨scr, e1, e2, e3⟩ := h5 q
    exact ⟨scr, e1, State.isArrayOf_alike hvm e2, e3⟩
theorem fm_cell.lt {s : State} {k : Nat × Nat} {I : Nat → Int32} {R : Nat → Option Nat} {J : Nat → Int64} {H : Heap} {a : Nat} (h : fm_cell s k I R J H[a]?) (hk : k.1 < 20) : a < H.size := by
  obtain ⟨h1, h2, h3, h4, h5⟩ := h
  have key : ∃ c : Cell, H[a]? = some c := by
    by_cases q1 : k.1 < 11
    · obtain ⟨r, cC, iS, cell, e1, e2, e3, -⟩ := h1 q1
      exact ⟨_, e3⟩
    · by_cases q2 : k.1 = 11
      · obtain ⟨cA, e1, -⟩ := h2 q2
        exact ⟨_, e1⟩
      · by_cases q3 : k.1 = 18
        · obtain ⟨cA, e1, -⟩ := h3 q3
          exact ⟨_, e1⟩
        · by_cases q4 : k.1 = 19
          · obtain ⟨scr, e1, -⟩ := h5 q4
            exact ⟨_, e1⟩
          · obtain ⟨cA, e1, -⟩ := h4 (by omega)
            exact ⟨_, e1⟩
  obtain ⟨c, hc⟩ := key
  exact (Array.getElem?_eq_some_iff.mp hc).1
/-- the words that keep by themselves under warming -/
def nWord : Cond → Bool
  | .fieldLinkNest .. => true
  | .methodLinkNest .. => true
  | .castable .. => true
  | .arrayOver (.object _) => true
  | _ => false
def wN : List Cond := lw_tbl.filter nWord
theorem wN_i (i : Nat) {w : Cond} (h : lw_tbl[i]? = some w) (g : nWord w = true) : w ∈ wN := List.mem_filter.mpr ⟨List.mem_of_getElem? h, g⟩
theorem nWord_warm {w : Cond} (hg : nWord w = true) {s U : State} (hW : s.WarmedH U.vm) (h : va_Nw w s) : va_Nw w U := by
  cases w <;> first | exact va_Nw.warmF hW h | exact va_Nw.warmM hW h | exact va_Nw.warmC hW h | (rename_i ty; cases ty <;> first | exact va_AO.moved hW.alike h | (simp [nWord] at hg)) | (simp [nWord] at hg)
theorem nWord_same {w : Cond} (hg : nWord w = true) {s U : State} (e : s.vm = U.vm) (h : va_Nw w s) : va_Nw w U := by
  cases w <;> first | exact va_tabs rfl e h | (rename_i ty; cases ty <;> first | exact va_AO.moved (by rw [e]; exact Vm.Alike.refl U.vm) h | (simp [nWord] at hg)) | (simp [nWord] at hg)
/-- the first address of ours, and where the three rows of constants lie -/
abbrev Gp : Type := Nat × Nat × Nat × Nat
abbrev fm_A (g : Gp) : Nat → Prop := fun q : Nat => g.1 ≤ q
/-- what nobody writes: the throws' statics, the texts, where the three rows of constants lie -/
def fm_B (g : Gp) (s : State) (H : Heap) : Prop :=
  0 < g.1 ∧ vx_Zq Bundle.tN "UNASSIGNED_STACK" Bundle.steD (fm_A g) s H ∧ vx_Zq Bundle.tN "SUPPRESSED_SENTINEL" Bundle.listD (fm_A g) s H ∧
  (∃ sa, vk_R RX9 359 "there is nothing with this number" sa s) ∧ (∃ sa, vk_R RX9 366 "the value is out of range" sa s) ∧ (∃ sa, vk_R RX9 369 "the argument or the buffer does not fit" sa s) ∧ (∃ sa, vk_R RX9 373 "the state does not allow this call" sa s) ∧
  va_Z "MemoryDesk" "FIRST_PERCENTS" "[I" (.ref g.2.1) (fm_A g) s H ∧ va_Z "MemoryDesk" "HIGHEST_SETTINGS" "[I" (.ref g.2.2.1) (fm_A g) s H ∧ va_Z "MemoryDesk" "LOWEST_MATCHES" "[I" (.ref g.2.2.2) (fm_A g) s H ∧
  ∀ w ∈ wN, va_Nw w s
theorem fm_B.warm {g : Gp} {s U : State} {H : Heap} (hW : s.WarmedH U.vm) (h : fm_B g s H) : fm_B g U H := by
  obtain ⟨h0, h1, h2, ⟨a3, h3⟩, ⟨a4, h4⟩, ⟨a5, h5⟩, ⟨a6, h6⟩, h7, h8, h9, h10⟩ := h
  exact ⟨h0, h1.moved hW.alike, h2.moved hW.alike, ⟨a3, h3.warm hW⟩, ⟨a4, h4.warm hW⟩, ⟨a5, h5.warm hW⟩, ⟨a6, h6.warm hW⟩, h7.moved hW.alike, h8.moved hW.alike, h9.moved hW.alike, fun w hw => nWord_warm (List.mem_filter.mp hw).2 hW (h10 w hw)⟩
theorem fm_B.kept {g : Gp} {s : State} {H H1 : Heap} (h : fm_B g s H) (hq : ∀ a : Nat, a < H.size → ¬ fm_A g a → H1[a]? = H[a]?) : fm_B g s H1 := by
  obtain ⟨h0, h1, h2, h3, h4, h5, h6, h7, h8, h9, h10⟩ := h
  exact ⟨h0, h1.kept hq, h2.kept hq, h3, h4, h5, h6, h7.kept hq, h8.kept hq, h9.kept hq, h10⟩
theorem fm_B.calling {g : Gp} {U : State} {H : Heap} {f : JFrame} {mk : MethodId} {a : Array Value} (h : fm_B g U H) : fm_B g (U.calling f mk a) H := by
  obtain ⟨h0, h1, h2, ⟨a3, h3⟩, ⟨a4, h4⟩, ⟨a5, h5⟩, ⟨a6, h6⟩, h7, h8, h9, h10⟩ := h
  have e : U.vm.Alike (U.calling f mk a).vm := Vm.Alike.refl U.vm
  have e2 : (U.calling f mk a).vm = U.vm := rfl
  exact ⟨h0, h1.moved e, h2.moved e, ⟨a3, h3.same e2⟩, ⟨a4, h4.same e2⟩, ⟨a5, h5.same e2⟩, ⟨a6, h6.same e2⟩, h7.moved e, h8.moved e, h9.moved e, fun w hw => nWord_same (List.mem_filter.mp hw).2 e2.symm (h10 w hw)⟩
/-- the flat memory m is the heap's -/
def fm_Wd (g : Gp) (s : State) (H : Heap) (m : Mm) : Prop :=
  g.1 ≤ H.size ∧ fz m = H.size ∧ (∀ a, (tg m a).1 < 19 → g.1 ≤ a) ∧ ∀ a, fm_cell s (tg m a) (im m a) (rf m a) (jm m a) H[a]?
theorem fm_Wd.moved {g : Gp} {s t : State} (hvm : s.vm.Alike t.vm) {H : Heap} {m : Mm} (h : fm_Wd g s H m) : fm_Wd g t H m := ⟨h.1, h.2.1, h.2.2.1, fun a => (h.2.2.2 a).moved hvm⟩
theorem fm_Wd.lt {g : Gp} {s : State} {H : Heap} {m : Mm} (h : fm_Wd g s H m) {a : Nat} (ha : (tg m a).1 < 20) : a < H.size := (h.2.2.2 a).lt ha
theorem fm_Wd.set {g : Gp} {s : State} {H H1 : Heap} {m m1 : Mm} (h : fm_Wd g s H m) {a : Nat} (hz : H1.size = H.size) (ho : ∀ q, q ≠ a → H1[q]? = H[q]?) (ez : fz m1 = fz m) (et : tg m1 = tg m) (ei : ∀ q, q ≠ a → im m1 q = im m q) (er : ∀ q, q ≠ a → rf m1 q = rf m q) (ej : ∀ q, q ≠ a → jm m1 q = jm m q) (hc : fm_cell s (tg m a) (im m1 a) (rf m1 a) (jm m1 a) H1[a]?) : fm_Wd g s H1 m1 := by
  obtain ⟨h1, h2, h3, h4⟩ := h
  refine ⟨by omega, by rw [ez, hz, h2], fun q hq => h3 q (by rw [← et]; exact hq), fun q => ?_⟩
  by_cases hqa : q = a
  · subst hqa
    rw [et]; exact hc
  · rw [et, ei q hqa, er q hqa, ej q hqa, ho q hqa]; exact h4 q
theorem fm_Wd.grow {g : Gp} {s : State} {H H1 : Heap} {m : Mm} (h : fm_Wd g s H m) (hz : H.size ≤ H1.size) (ho : ∀ q, q < H.size → H1[q]? = H[q]?) : fm_Wd g s H1 (gr m H1.size) := by
  refine ⟨Nat.le_trans h.1 hz, rfl, h.2.2.1, fun q => ?_⟩
  show fm_cell s (tg m q) (im m q) (rf m q) (jm m q) H1[q]?
  by_cases hq : (tg m q).1 < 20
  · rw [ho q (h.lt hq)]; exact h.2.2.2 q
  · exact ⟨fun z => absurd z (by omega), fun z => absurd z (by omega), fun z => absurd z (by omega), fun z => absurd z (by omega), fun z => absurd z (by omega)⟩
theorem fm_Wd.new {g : Gp} {s : State} {H H1 : Heap} {m : Mm} (h : fm_Wd g s H m) {t : Nat × Nat} (hz : H1.size = H.size + 1) (ho : ∀ q, q < H.size → H1[q]? = H[q]?) (hc : fm_cell s t (fun _ => 0) (fun _ => none) (fun _ => 0) H1[H.size]?) : fm_Wd g s H1 (nw m t) := by
  have e := h.2.1
  refine ⟨by have := h.1; omega, by show fz m + 1 = _; omega, fun q hq => ?_, fun q => ?_⟩
  · by_cases hqa : q = fz m
    · have := h.1; omega
    · exact h.2.2.1 q (by rw [show tg (nw m t) q = tg m q from u1_n _ _ _ hqa] at hq; exact hq)
  · by_cases hqa : q = fz m
    · subst hqa
      show fm_cell s (u1 (tg m) (fz m) t (fz m)) (u1 (im m) (fz m) (fun _ => 0) (fz m)) (u1 (rf m) (fz m) (fun _ => none) (fz m)) (u1 (jm m) (fz m) (fun _ => 0) (fz m)) _
      rw [u1_s, u1_s, u1_s, u1_s, e]; exact hc
    · show fm_cell s (u1 (tg m) (fz m) t q) (u1 (im m) (fz m) (fun _ => 0) q) (u1 (rf m) (fz m) (fun _ => none) q) (u1 (jm m) (fz m) (fun _ => 0) q) _
      rw [u1_n _ _ _ hqa, u1_n _ _ _ hqa, u1_n _ _ _ hqa, u1_n _ _ _ hqa]
      by_cases hq : (tg m q).1 < 20
      · rw [ho q (h.lt hq)]; exact h.2.2.2 q
      · exact ⟨fun z => absurd z (by omega), fun z => absurd z (by omega), fun z => absurd z (by omega), fun z => absurd z (by omega), fun z => absurd z (by omega)⟩
/-! ===== methods: name, code, locals, what it returns, room ===== -/
abbrev MI : Type := MethodName × ByteArray × Nat × Option FieldType × Room
abbrev mY (M : MI) : MethodName := M.1
abbrev mC (M : MI) : ByteArray := M.2.1
abbrev mL (M : MI) : Nat := M.2.2.1
abbrev mT (M : MI) : Option FieldType := M.2.2.2.1
abbrev mR (M : MI) : Room := M.2.2.2.2
def mW (M : MI) : List Cond := .code (mY M) (mC M) (mL M) (mT M) :: wA
/-- how a method ends: with an answer, or with a throw of a class -/
abbrev Rs : Type := Option Value ⊕ String
def fm_Pc (g : Gp) (av : List Value) (m : Mm) : Array Value → State → Prop := fun a U => a = av.toArray ∧ fm_Wd g U U.heap m ∧ fm_B g U U.heap
def fm_Qc (g : Gp) (Q : Rs → Mm → Prop) : Array Value → State → Outcome → State → Prop := fun _ st o t => ∃ (v : Option Value) (m' : Mm), o = .returned v ∧ Q (.inl v) m' ∧ fm_Wd g t t.heap m' ∧ va_F (fm_A g) st t
def fm_Xc (g : Gp) (Q : Rs → Mm → Prop) : String → State → State → Prop := fun E st t => ∃ m' : Mm, Q (.inr E) m' ∧ fm_Wd g t t.heap m' ∧ va_F (fm_A g) st t
/-- a method's contract: from the memory m with these arguments it ends so -/
def Cn (g : Gp) (M : MI) (av : List Value) (m : Mm) (Q : Rs → Mm → Prop) : Prop := ∀ l : Launch, l.stackTraces = false →
  vx_Met l (mY M) (mW M) (mR M) (fm_Pc g av m) (fm_Qc g Q) (fm_Xc g Q) (mR M).cells (mR M).slots (fm_A g)
def Cx (l : Launch) (M : MI) (p : Program) (s : State) (mm : MethodId) (args : Array Value) (meth : Method) (c : Code) : Prop :=
  p.tables.exec = Jvm.exec ∧ c.code = mC M ∧ meth.sig.returnType = mT M ∧ c.maxLocals = mL M ∧ s.vm.findClass (mY M).cls = some mm.cls ∧ (∀ w ∈ mW M, w.before args s = true) ∧ meth.locks = false ∧ (∀ x ∈ c.exceptionTable.toList, False) ∧ meth.name = (mY M).name ∧ l.stackTraces = false
/-- the method M, at pc with these locals, this stack and the memory m, comes to an end with Q; u: the cells and slots that it has made -/
def G (g : Gp) (M : MI) (Q : Rs → Mm → Prop) (pc : Nat) (L : List (Nat × Value)) (st : List Value) (u : Nat × Nat) (m : Mm) : Prop :=
  ∀ (p : Program) (l : Launch) (e : Env) (s : State) (mm : MethodId) (args : Array Value) (below : List Frame) (meth : Method) (c : Code) (H : Heap) (locs : List Loc) (ls : Array Slot),
    Cx l M p s mm args meth c → fm_Wd g s H m → fm_B g s s.heap → va_S (fm_A g) s.heap H locs → lv_has ls (mL M) L →
    W p l e (mR M) s mm args below meth c H locs u.1 u.2 (vx_MQ below (fm_Qc g Q) (fm_Xc g Q) args s (mR M).cells (mR M).slots (fm_A g)) (F0 mm pc ls st)
theorem Cn.of {g : Gp} {M : MI} {av : List Value} {m : Mm} {Q : Rs → Mm → Prop} {L : List (Nat × Value)} (hy : plainName (mY M).cls = true) (hn : (lg_sl av).length ≤ mL M) (hL : lv_args 0 av = L) (h : G g M Q 0 L [] (0, 0) m) : Cn g M av m Q := by
  intro l hl
  refine vx_ofW (cc := mC M) (maxL := mL M) (ret := mT M) (ws' := wA) hy rfl ?_
  intro p e s mm args below meth c s₁ B hml ht hv
  obtain ⟨rfl, hW, hB⟩ := hv
  have hts := atoms_spec (ws := mW M) B.pre
  have hl0 := lv_entry av (n := mL M) hn
  rw [hL] at hl0
  have e0 : entryFrame mm av.toArray (mL M) = F0 mm 0 ((lg_sl av ++ List.replicate (mL M - (lg_sl av).length) Slot.unset).toArray) [] := by rw [lg_entry_eq]
  rw [e0]
  exact h p l e s mm _ below meth c s.heap [] _ ⟨B.exec, B.bytes, B.returns, hml, findClass_of_methodNamed B.named, hts, B.notSynchronized, ht, (name_of_methodNamed B.named B.method).1, hl⟩ hW hB va_S.rf hl0
end
section
/-! ROWS OF THE JUDGEMENT G, an instruction each (lifted from the kit's). -/
section GROWS
variable {g : Gp} {M : MI} {Q : Rs → Mm → Prop} {pc : Nat} {L : List (Nat × Value)} {st : List Value} {u : Nat × Nat} {m : Mm}

theorem g_iadd {x y : Int32} (hdg : decode (mC M) pc = .ok (.iadd, 1)) (k : G g M Q (pc + 1) L (.int (x + y) :: st) u m) : G g M Q pc L (.int y :: .int x :: st) u m :=
  fun p l e s mm args below meth c H locs ls C hW hB hS hl => lv_iadd C.1 C.2.1 hdg  (k p l e s mm args below meth c H locs ls C hW hB hS hl)
theorem g_isub {x y : Int32} (hdg : decode (mC M) pc = .ok (.isub, 1)) (k : G g M Q (pc + 1) L (.int (x - y) :: st) u m) : G g M Q pc L (.int y :: .int x :: st) u m :=
  fun p l e s mm args below meth c H locs ls C hW hB hS hl => lv_isub C.1 C.2.1 hdg  (k p l e s mm args below meth c H locs ls C hW hB hS hl)
theorem g_imul {x y : Int32} (hdg : decode (mC M) pc = .ok (.imul, 1)) (k : G g M Q (pc + 1) L (.int (x * y) :: st) u m) : G g M Q pc L (.int y :: .int x :: st) u m :=
  fun p l e s mm args below meth c H locs ls C hW hB hS hl => lv_imul C.1 C.2.1 hdg  (k p l e s mm args below meth c H locs ls C hW hB hS hl)
theorem g_iand {x y : Int32} (hdg : decode (mC M) pc = .ok (.iand, 1)) (k : G g M Q (pc + 1) L (.int (x &&& y) :: st) u m) : G g M Q pc L (.int y :: .int x :: st) u m :=
  fun p l e s mm args below meth c H locs ls C hW hB hS hl => lv_iand C.1 C.2.1 hdg  (k p l e s mm args below meth c H locs ls C hW hB hS hl)
theorem g_ior {x y : Int32} (hdg : decode (mC M) pc = .ok (.ior, 1)) (k : G g M Q (pc + 1) L (.int (x ||| y) :: st) u m) : G g M Q pc L (.int y :: .int x :: st) u m :=
  fun p l e s mm args below meth c H locs ls C hW hB hS hl => lv_ior C.1 C.2.1 hdg  (k p l e s mm args below meth c H locs ls C hW hB hS hl)
theorem g_ixor {x y : Int32} (hdg : decode (mC M) pc = .ok (.ixor, 1)) (k : G g M Q (pc + 1) L (.int (x ^^^ y) :: st) u m) : G g M Q pc L (.int y :: .int x :: st) u m :=
  fun p l e s mm args below meth c H locs ls C hW hB hS hl => lv_ixor C.1 C.2.1 hdg  (k p l e s mm args below meth c H locs ls C hW hB hS hl)
theorem g_ishl {x y : Int32} (hdg : decode (mC M) pc = .ok (.ishl, 1)) (k : G g M Q (pc + 1) L (.int (x <<< (y &&& 31)) :: st) u m) : G g M Q pc L (.int y :: .int x :: st) u m :=
  fun p l e s mm args below meth c H locs ls C hW hB hS hl => lv_ishl C.1 C.2.1 hdg  (k p l e s mm args below meth c H locs ls C hW hB hS hl)
theorem g_ishr {x y : Int32} (hdg : decode (mC M) pc = .ok (.ishr, 1)) (k : G g M Q (pc + 1) L (.int (x >>> (y &&& 31)) :: st) u m) : G g M Q pc L (.int y :: .int x :: st) u m :=
  fun p l e s mm args below meth c H locs ls C hW hB hS hl => lv_ishr C.1 C.2.1 hdg  (k p l e s mm args below meth c H locs ls C hW hB hS hl)
theorem g_idiv {x y : Int32} (hdg : decode (mC M) pc = .ok (.idiv, 1)) (hne : ¬ y = 0) (k : G g M Q (pc + 1) L (.int (x / y) :: st) u m) : G g M Q pc L (.int y :: .int x :: st) u m :=
  fun p l e s mm args below meth c H locs ls C hW hB hS hl => lv_idiv C.1 C.2.1 hdg hne  (k p l e s mm args below meth c H locs ls C hW hB hS hl)
theorem g_irem {x y : Int32} (hdg : decode (mC M) pc = .ok (.irem, 1)) (hne : ¬ y = 0) (k : G g M Q (pc + 1) L (.int (x - x / y * y) :: st) u m) : G g M Q pc L (.int y :: .int x :: st) u m :=
  fun p l e s mm args below meth c H locs ls C hW hB hS hl => lv_irem C.1 C.2.1 hdg hne  (k p l e s mm args below meth c H locs ls C hW hB hS hl)
theorem g_iushr {x y : Int32} (hdg : decode (mC M) pc = .ok (.iushr, 1)) (k : G g M Q (pc + 1) L (.int (x.toUInt32 >>> (y.toUInt32 &&& Int32.toUInt32 31)).toInt32 :: st) u m) : G g M Q pc L (.int y :: .int x :: st) u m :=
  fun p l e s mm args below meth c H locs ls C hW hB hS hl => lv_iushr C.1 C.2.1 hdg rfl (k p l e s mm args below meth c H locs ls C hW hB hS hl)
theorem g_ladd {x y : Int64} (hdg : decode (mC M) pc = .ok (.ladd, 1)) (k : G g M Q (pc + 1) L (.long (x + y) :: st) u m) : G g M Q pc L (.long y :: .long x :: st) u m :=
  fun p l e s mm args below meth c H locs ls C hW hB hS hl => lv_ladd C.1 C.2.1 hdg  (k p l e s mm args below meth c H locs ls C hW hB hS hl)
theorem g_lsub {x y : Int64} (hdg : decode (mC M) pc = .ok (.lsub, 1)) (k : G g M Q (pc + 1) L (.long (x - y) :: st) u m) : G g M Q pc L (.long y :: .long x :: st) u m :=
  fun p l e s mm args below meth c H locs ls C hW hB hS hl => lv_lsub C.1 C.2.1 hdg  (k p l e s mm args below meth c H locs ls C hW hB hS hl)
theorem g_lmul {x y : Int64} (hdg : decode (mC M) pc = .ok (.lmul, 1)) (k : G g M Q (pc + 1) L (.long (x * y) :: st) u m) : G g M Q pc L (.long y :: .long x :: st) u m :=
  fun p l e s mm args below meth c H locs ls C hW hB hS hl => lv_lmul C.1 C.2.1 hdg  (k p l e s mm args below meth c H locs ls C hW hB hS hl)
theorem g_lshl {x : Int64} {y : Int32} (hdg : decode (mC M) pc = .ok (.lshl, 1)) (k : G g M Q (pc + 1) L (.long (x <<< (y.toInt64 &&& 63)) :: st) u m) : G g M Q pc L (.int y :: .long x :: st) u m :=
  fun p l e s mm args below meth c H locs ls C hW hB hS hl => lv_lshl C.1 C.2.1 hdg rfl (k p l e s mm args below meth c H locs ls C hW hB hS hl)
theorem g_i2l {x : Int32} (hdg : decode (mC M) pc = .ok (.i2l, 1)) (k : G g M Q (pc + 1) L (.long x.toInt64 :: st) u m) : G g M Q pc L (.int x :: st) u m :=
  fun p l e s mm args below meth c H locs ls C hW hB hS hl => lv_i2l C.1 C.2.1 hdg rfl (k p l e s mm args below meth c H locs ls C hW hB hS hl)
theorem g_l2i {x : Int64} (hdg : decode (mC M) pc = .ok (.l2i, 1)) (k : G g M Q (pc + 1) L (.int x.toInt32 :: st) u m) : G g M Q pc L (.long x :: st) u m :=
  fun p l e s mm args below meth c H locs ls C hW hB hS hl => lv_l2i C.1 C.2.1 hdg rfl (k p l e s mm args below meth c H locs ls C hW hB hS hl)
theorem g_lcmp {x y : Int64} (hdg : decode (mC M) pc = .ok (.lcmp, 1)) (k : G g M Q (pc + 1) L (.int (lg_cmp x y) :: st) u m) : G g M Q pc L (.long y :: .long x :: st) u m :=
  fun p l e s mm args below meth c H locs ls C hW hB hS hl => W.lcmp C.1 C.2.1 hdg  (k p l e s mm args below meth c H locs ls C hW hB hS hl)
theorem g_dsub {x y : UInt64} (hdg : decode (mC M) pc = .ok (.dsub, 1)) (hne : vf_n64 (FP.dsub x y)) (k : G g M Q (pc + 1) L (.double (FP.dsub x y) :: st) u m) : G g M Q pc L (.double y :: .double x :: st) u m :=
  fun p l e s mm args below meth c H locs ls C hW hB hS hl => lv_dsub C.1 C.2.1 hdg hne  (k p l e s mm args below meth c H locs ls C hW hB hS hl)
theorem g_dmul {x y : UInt64} (hdg : decode (mC M) pc = .ok (.dmul, 1)) (hne : vf_n64 (FP.dmul x y)) (k : G g M Q (pc + 1) L (.double (FP.dmul x y) :: st) u m) : G g M Q pc L (.double y :: .double x :: st) u m :=
  fun p l e s mm args below meth c H locs ls C hW hB hS hl => lv_dmul C.1 C.2.1 hdg hne  (k p l e s mm args below meth c H locs ls C hW hB hS hl)
theorem g_ddiv {x y : UInt64} (hdg : decode (mC M) pc = .ok (.ddiv, 1)) (hne : vf_n64 (FP.ddiv x y)) (k : G g M Q (pc + 1) L (.double (FP.ddiv x y) :: st) u m) : G g M Q pc L (.double y :: .double x :: st) u m :=
  fun p l e s mm args below meth c H locs ls C hW hB hS hl => lv_ddiv C.1 C.2.1 hdg hne  (k p l e s mm args below meth c H locs ls C hW hB hS hl)
theorem g_fdiv {x y : UInt32} (hdg : decode (mC M) pc = .ok (.fdiv, 1)) (hne : vf_n32 (FP.fdiv x y)) (k : G g M Q (pc + 1) L (.float (FP.fdiv x y) :: st) u m) : G g M Q pc L (.float y :: .float x :: st) u m :=
  fun p l e s mm args below meth c H locs ls C hW hB hS hl => lv_fdiv C.1 C.2.1 hdg hne  (k p l e s mm args below meth c H locs ls C hW hB hS hl)
theorem g_i2f {x : Int32} (hdg : decode (mC M) pc = .ok (.i2f, 1)) (k : G g M Q (pc + 1) L (.float (FP.i2f x) :: st) u m) : G g M Q pc L (.int x :: st) u m :=
  fun p l e s mm args below meth c H locs ls C hW hB hS hl => lv_i2f C.1 C.2.1 hdg  (k p l e s mm args below meth c H locs ls C hW hB hS hl)
theorem g_i2d {x : Int32} (hdg : decode (mC M) pc = .ok (.i2d, 1)) (k : G g M Q (pc + 1) L (.double (FP.i2d x) :: st) u m) : G g M Q pc L (.int x :: st) u m :=
  fun p l e s mm args below meth c H locs ls C hW hB hS hl => lv_i2d C.1 C.2.1 hdg  (k p l e s mm args below meth c H locs ls C hW hB hS hl)
theorem g_l2d {x : Int64} (hdg : decode (mC M) pc = .ok (.l2d, 1)) (k : G g M Q (pc + 1) L (.double (FP.l2d x) :: st) u m) : G g M Q pc L (.long x :: st) u m :=
  fun p l e s mm args below meth c H locs ls C hW hB hS hl => lv_l2d C.1 C.2.1 hdg  (k p l e s mm args below meth c H locs ls C hW hB hS hl)
theorem g_d2l {x : UInt64} (hdg : decode (mC M) pc = .ok (.d2l, 1)) (k : G g M Q (pc + 1) L (.long (FP.d2l x) :: st) u m) : G g M Q pc L (.double x :: st) u m :=
  fun p l e s mm args below meth c H locs ls C hW hB hS hl => lv_d2l C.1 C.2.1 hdg  (k p l e s mm args below meth c H locs ls C hW hB hS hl)
theorem g_f2d {x : UInt32} (hdg : decode (mC M) pc = .ok (.f2d, 1)) (hne : vf_n64 (FP.f2d x)) (k : G g M Q (pc + 1) L (.double (FP.f2d x) :: st) u m) : G g M Q pc L (.float x :: st) u m :=
  fun p l e s mm args below meth c H locs ls C hW hB hS hl => lv_f2d C.1 C.2.1 hdg hne  (k p l e s mm args below meth c H locs ls C hW hB hS hl)
theorem g_dcmp {x y : UInt64} {op : CmpOp} (hdg : decode (mC M) pc = .ok (.dcmp op, 1)) (k : G g M Q (pc + 1) L (.int (Op.cmpValue (FP.dcmp x y) op) :: st) u m) : G g M Q pc L (.double y :: .double x :: st) u m :=
  fun p l e s mm args below meth c H locs ls C hW hB hS hl => lv_dcmp C.1 C.2.1 hdg  (k p l e s mm args below meth c H locs ls C hW hB hS hl)
theorem g_fconst0  (hdg : decode (mC M) pc = .ok (.fconst 0, 1)) (k : G g M Q (pc + 1) L (.float FP.fconst0 :: st) u m) : G g M Q pc L (st) u m :=
  fun p l e s mm args below meth c H locs ls C hW hB hS hl => lv_fconst0 C.1 C.2.1 hdg  (k p l e s mm args below meth c H locs ls C hW hB hS hl)
theorem g_dconst0  (hdg : decode (mC M) pc = .ok (.dconst 0, 1)) (k : G g M Q (pc + 1) L (.double FP.dconst0 :: st) u m) : G g M Q pc L (st) u m :=
  fun p l e s mm args below meth c H locs ls C hW hB hS hl => lv_dconst0 C.1 C.2.1 hdg  (k p l e s mm args below meth c H locs ls C hW hB hS hl)
theorem g_dconst1  (hdg : decode (mC M) pc = .ok (.dconst 1, 1)) (k : G g M Q (pc + 1) L (.double FP.dconst1 :: st) u m) : G g M Q pc L (st) u m :=
  fun p l e s mm args below meth c H locs ls C hW hB hS hl => lv_dconst1 C.1 C.2.1 hdg  (k p l e s mm args below meth c H locs ls C hW hB hS hl)
theorem g_iconst {n : Int} (v : Int32) (hdg : decode (mC M) pc = .ok (.iconst n, 1)) (hv : Int32.ofInt n = v) (k : G g M Q (pc + 1) L (.int v :: st) u m) : G g M Q pc L (st) u m :=
  fun p l e s mm args below meth c H locs ls C hW hB hS hl => lv_iconst C.1 C.2.1 hdg hv  (k p l e s mm args below meth c H locs ls C hW hB hS hl)
theorem g_bipush {n : Int} (v : Int32) (hdg : decode (mC M) pc = .ok (.bipush n, 2)) (hv : (Int8.ofInt n).toInt32 = v) (k : G g M Q (pc + 2) L (.int v :: st) u m) : G g M Q pc L (st) u m :=
  fun p l e s mm args below meth c H locs ls C hW hB hS hl => lv_bipush C.1 C.2.1 hdg hv  (k p l e s mm args below meth c H locs ls C hW hB hS hl)
theorem g_sipush {n : Int} (v : Int32) (hdg : decode (mC M) pc = .ok (.sipush n, 3)) (hv : (Int16.ofInt n).toInt32 = v) (k : G g M Q (pc + 3) L (.int v :: st) u m) : G g M Q pc L (st) u m :=
  fun p l e s mm args below meth c H locs ls C hW hB hS hl => lv_sipush C.1 C.2.1 hdg hv  (k p l e s mm args below meth c H locs ls C hW hB hS hl)
theorem g_lconst {n : Fin 2} (v : Int64) (hdg : decode (mC M) pc = .ok (.lconst n, 1)) (hv : Int64.ofNat (n : Nat) = v) (k : G g M Q (pc + 1) L (.long v :: st) u m) : G g M Q pc L (st) u m :=
  fun p l e s mm args below meth c H locs ls C hW hB hS hl => lv_lconst C.1 C.2.1 hdg hv  (k p l e s mm args below meth c H locs ls C hW hB hS hl)
theorem g_dup {va : Value} (hdg : decode (mC M) pc = .ok (.dup, 1)) (hva : va.category = 1) (k : G g M Q (pc + 1) L (va :: va :: st) u m) : G g M Q pc L (va :: st) u m :=
  fun p l e s mm args below meth c H locs ls C hW hB hS hl => lv_dup C.1 C.2.1 hdg hva  (k p l e s mm args below meth c H locs ls C hW hB hS hl)
theorem g_pop {va : Value} (hdg : decode (mC M) pc = .ok (.pop, 1)) (hva : va.category = 1) (k : G g M Q (pc + 1) L (st) u m) : G g M Q pc L (va :: st) u m :=
  fun p l e s mm args below meth c H locs ls C hW hB hS hl => lv_pop C.1 C.2.1 hdg hva  (k p l e s mm args below meth c H locs ls C hW hB hS hl)
theorem g_dup_x1 {va vb : Value} (hdg : decode (mC M) pc = .ok (.dup_x1, 1)) (hva : va.category = 1) (hvb : vb.category = 1) (k : G g M Q (pc + 1) L (va :: vb :: va :: st) u m) : G g M Q pc L (va :: vb :: st) u m :=
  fun p l e s mm args below meth c H locs ls C hW hB hS hl => lv_dup_x1 C.1 C.2.1 hdg hva hvb  (k p l e s mm args below meth c H locs ls C hW hB hS hl)
theorem g_dup2_11 {va vb : Value} (hdg : decode (mC M) pc = .ok (.dup2, 1)) (hva : va.category = 1) (hvb : vb.category = 1) (k : G g M Q (pc + 1) L (va :: vb :: va :: vb :: st) u m) : G g M Q pc L (va :: vb :: st) u m :=
  fun p l e s mm args below meth c H locs ls C hW hB hS hl => lv_dup2_11 C.1 C.2.1 hdg hva hvb  (k p l e s mm args below meth c H locs ls C hW hB hS hl)
theorem g_dup2_2 {va : Value} (hdg : decode (mC M) pc = .ok (.dup2, 1)) (hva : va.category = 2) (k : G g M Q (pc + 1) L (va :: va :: st) u m) : G g M Q pc L (va :: st) u m :=
  fun p l e s mm args below meth c H locs ls C hW hB hS hl => lv_dup2_2 C.1 C.2.1 hdg hva  (k p l e s mm args below meth c H locs ls C hW hB hS hl)
theorem g_ldc {index : Nat} {v : Int32} (hdg : decode (mC M) pc = .ok (.ldc index, 2)) (hc : Cond.constant (mY M).cls index v ∈ wA) (k : G g M Q (pc + 2) L (.int v :: st) u m) : G g M Q pc L (st) u m :=
  fun p l e s mm args below meth c H locs ls C hW hB hS hl => lv_ldc C.1 C.2.1 C.2.2.2.2.1 (C.2.2.2.2.2.1 _ (List.mem_cons_of_mem _ hc)) hdg (k p l e s mm args below meth c H locs ls C hW hB hS hl)
theorem g_ldc2 {index : Nat} {v : Int64} (hdg : decode (mC M) pc = .ok (.ldc2_w index, 3)) (hc : Cond.constantLong (mY M).cls index v ∈ wA) (k : G g M Q (pc + 3) L (.long v :: st) u m) : G g M Q pc L (st) u m :=
  fun p l e s mm args below meth c H locs ls C hW hB hS hl => lv_ldc2 C.1 C.2.1 C.2.2.2.2.1 (C.2.2.2.2.2.1 _ (List.mem_cons_of_mem _ hc)) hdg (k p l e s mm args below meth c H locs ls C hW hB hS hl)
theorem g_ldc2d {index : Nat} {v : UInt64} (hdg : decode (mC M) pc = .ok (.ldc2_w index, 3)) (hc : Cond.constantDouble (mY M).cls index v ∈ wA) (k : G g M Q (pc + 3) L (.double v :: st) u m) : G g M Q pc L (st) u m :=
  fun p l e s mm args below meth c H locs ls C hW hB hS hl => lv_ldc2d C.1 C.2.1 C.2.2.2.2.1 (C.2.2.2.2.2.1 _ (List.mem_cons_of_mem _ hc)) hdg (k p l e s mm args below meth c H locs ls C hW hB hS hl)
theorem g_ldcw {index : Nat} {v : Int32} (hdg : decode (mC M) pc = .ok (.ldc_w index, 3)) (hc : Cond.constant (mY M).cls index v ∈ wA) (k : G g M Q (pc + 3) L (.int v :: st) u m) : G g M Q pc L (st) u m :=
  fun p l e s mm args below meth c H locs ls C hW hB hS hl => lv_ldcw C.1 C.2.1 C.2.2.2.2.1 (C.2.2.2.2.2.1 _ (List.mem_cons_of_mem _ hc)) hdg (k p l e s mm args below meth c H locs ls C hW hB hS hl)
theorem lk_mem : ∀ {L : List (Nat × Value)} {i : Nat} {v : Value}, L.lookup i = some v → (i, v) ∈ L
  | [], _, _, h => by cases h
  | (j, w) :: r, i, v, h => by
    by_cases e : i = j
    · subst e
      rw [List.lookup_cons_self] at h
      cases h
      exact List.mem_cons_self
    · have e' : (i == j) = false := by simpa using e
      rw [List.lookup_cons, e'] at h
      exact List.mem_cons_of_mem _ (lk_mem h)
theorem g_iload_n {q : Fin 4} (i : Nat) {x : Int32} (hdg : decode (mC M) pc = .ok (.iload_n q, 1)) (hi : (q : Nat) = i) (hv : L.lookup i = some (.int x)) (k : G g M Q (pc + 1) L (.int x :: st) u m) : G g M Q pc L st u m :=
  fun p l e s mm args below meth c H locs ls C hW hB hS hl => lv_iload_n C.1 C.2.1 hdg hi (hl.2.2 _ (lk_mem hv)) (k p l e s mm args below meth c H locs ls C hW hB hS hl)
theorem g_iload (i : Nat) {x : Int32} (hdg : decode (mC M) pc = .ok (.iload i, 2)) (hv : L.lookup i = some (.int x)) (k : G g M Q (pc + 2) L (.int x :: st) u m) : G g M Q pc L st u m :=
  fun p l e s mm args below meth c H locs ls C hW hB hS hl => lv_iload C.1 C.2.1 hdg (hl.2.2 _ (lk_mem hv)) (k p l e s mm args below meth c H locs ls C hW hB hS hl)
theorem g_lload_n {q : Fin 4} (i : Nat) {x : Int64} (hdg : decode (mC M) pc = .ok (.lload_n q, 1)) (hi : (q : Nat) = i) (hv : L.lookup i = some (.long x)) (k : G g M Q (pc + 1) L (.long x :: st) u m) : G g M Q pc L st u m :=
  fun p l e s mm args below meth c H locs ls C hW hB hS hl => lv_lload_n C.1 C.2.1 hdg hi (hl.2.2 _ (lk_mem hv)) (k p l e s mm args below meth c H locs ls C hW hB hS hl)
theorem g_lload (i : Nat) {x : Int64} (hdg : decode (mC M) pc = .ok (.lload i, 2)) (hv : L.lookup i = some (.long x)) (k : G g M Q (pc + 2) L (.long x :: st) u m) : G g M Q pc L st u m :=
  fun p l e s mm args below meth c H locs ls C hW hB hS hl => lv_lload C.1 C.2.1 hdg (hl.2.2 _ (lk_mem hv)) (k p l e s mm args below meth c H locs ls C hW hB hS hl)
theorem g_aload_n {q : Fin 4} (i : Nat) {x : Nat} (hdg : decode (mC M) pc = .ok (.aload_n q, 1)) (hi : (q : Nat) = i) (hv : L.lookup i = some (.ref x)) (k : G g M Q (pc + 1) L (.ref x :: st) u m) : G g M Q pc L st u m :=
  fun p l e s mm args below meth c H locs ls C hW hB hS hl => lv_aload_n C.1 C.2.1 hdg hi (hl.2.2 _ (lk_mem hv)) (k p l e s mm args below meth c H locs ls C hW hB hS hl)
theorem g_aload (i : Nat) {x : Nat} (hdg : decode (mC M) pc = .ok (.aload i, 2)) (hv : L.lookup i = some (.ref x)) (k : G g M Q (pc + 2) L (.ref x :: st) u m) : G g M Q pc L st u m :=
  fun p l e s mm args below meth c H locs ls C hW hB hS hl => lv_aload C.1 C.2.1 hdg (hl.2.2 _ (lk_mem hv)) (k p l e s mm args below meth c H locs ls C hW hB hS hl)
theorem g_fload_n {q : Fin 4} (i : Nat) {x : UInt32} (hdg : decode (mC M) pc = .ok (.fload_n q, 1)) (hi : (q : Nat) = i) (hv : L.lookup i = some (.float x)) (k : G g M Q (pc + 1) L (.float x :: st) u m) : G g M Q pc L st u m :=
  fun p l e s mm args below meth c H locs ls C hW hB hS hl => lv_fload_n C.1 C.2.1 hdg hi (hl.2.2 _ (lk_mem hv)) (k p l e s mm args below meth c H locs ls C hW hB hS hl)
theorem g_fload (i : Nat) {x : UInt32} (hdg : decode (mC M) pc = .ok (.fload i, 2)) (hv : L.lookup i = some (.float x)) (k : G g M Q (pc + 2) L (.float x :: st) u m) : G g M Q pc L st u m :=
  fun p l e s mm args below meth c H locs ls C hW hB hS hl => lv_fload C.1 C.2.1 hdg (hl.2.2 _ (lk_mem hv)) (k p l e s mm args below meth c H locs ls C hW hB hS hl)
theorem g_dload_n {q : Fin 4} (i : Nat) {x : UInt64} (hdg : decode (mC M) pc = .ok (.dload_n q, 1)) (hi : (q : Nat) = i) (hv : L.lookup i = some (.double x)) (k : G g M Q (pc + 1) L (.double x :: st) u m) : G g M Q pc L st u m :=
  fun p l e s mm args below meth c H locs ls C hW hB hS hl => lv_dload_n C.1 C.2.1 hdg hi (hl.2.2 _ (lk_mem hv)) (k p l e s mm args below meth c H locs ls C hW hB hS hl)
theorem g_dload (i : Nat) {x : UInt64} (hdg : decode (mC M) pc = .ok (.dload i, 2)) (hv : L.lookup i = some (.double x)) (k : G g M Q (pc + 2) L (.double x :: st) u m) : G g M Q pc L st u m :=
  fun p l e s mm args below meth c H locs ls C hW hB hS hl => lv_dload C.1 C.2.1 hdg (hl.2.2 _ (lk_mem hv)) (k p l e s mm args below meth c H locs ls C hW hB hS hl)
theorem g_istore_n {q : Fin 4} (i : Nat) {x : Int32} (L1 : List (Nat × Value)) (hdg : decode (mC M) pc = .ok (.istore_n q, 1)) (hi : (q : Nat) = i) (hn : i < mL M) (hL : (i, Value.int x) :: L.filter (fun q => !(q.1 == i) && !(q.1 + 1 == i && q.2.category == 2)) = L1) (k : G g M Q (pc + 1) L1 st u m) : G g M Q pc L (.int x :: st) u m :=
  fun p l e s mm args below meth c H locs ls C hW hB hS hl => lv_istore_n C.1 C.2.1 hdg hi hl hn hL (fun ls2 hl2 => k p l e s mm args below meth c H locs ls2 C hW hB hS hl2)
theorem g_istore (i : Nat) {x : Int32} (L1 : List (Nat × Value)) (hdg : decode (mC M) pc = .ok (.istore i, 2)) (hn : i < mL M) (hL : (i, Value.int x) :: L.filter (fun q => !(q.1 == i) && !(q.1 + 1 == i && q.2.category == 2)) = L1) (k : G g M Q (pc + 2) L1 st u m) : G g M Q pc L (.int x :: st) u m :=
  fun p l e s mm args below meth c H locs ls C hW hB hS hl => lv_istore C.1 C.2.1 hdg hl hn hL (fun ls2 hl2 => k p l e s mm args below meth c H locs ls2 C hW hB hS hl2)
theorem g_astore_n {q : Fin 4} (i : Nat) {x : Nat} (L1 : List (Nat × Value)) (hdg : decode (mC M) pc = .ok (.astore_n q, 1)) (hi : (q : Nat) = i) (hn : i < mL M) (hL : (i, Value.ref x) :: L.filter (fun q => !(q.1 == i) && !(q.1 + 1 == i && q.2.category == 2)) = L1) (k : G g M Q (pc + 1) L1 st u m) : G g M Q pc L (.ref x :: st) u m :=
  fun p l e s mm args below meth c H locs ls C hW hB hS hl => lv_astore_n C.1 C.2.1 hdg hi hl hn hL (fun ls2 hl2 => k p l e s mm args below meth c H locs ls2 C hW hB hS hl2)
theorem g_astore (i : Nat) {x : Nat} (L1 : List (Nat × Value)) (hdg : decode (mC M) pc = .ok (.astore i, 2)) (hn : i < mL M) (hL : (i, Value.ref x) :: L.filter (fun q => !(q.1 == i) && !(q.1 + 1 == i && q.2.category == 2)) = L1) (k : G g M Q (pc + 2) L1 st u m) : G g M Q pc L (.ref x :: st) u m :=
  fun p l e s mm args below meth c H locs ls C hW hB hS hl => lv_astore C.1 C.2.1 hdg hl hn hL (fun ls2 hl2 => k p l e s mm args below meth c H locs ls2 C hW hB hS hl2)
theorem g_lstore_n {q : Fin 4} (i : Nat) {x : Int64} (L1 : List (Nat × Value)) (hdg : decode (mC M) pc = .ok (.lstore_n q, 1)) (hi : (q : Nat) = i) (hn : i + 1 < mL M) (hL : (i, Value.long x) :: L.filter (fun q => !(q.1 == i) && (!(q.1 == i + 1) && !(q.1 + 1 == i && q.2.category == 2))) = L1) (k : G g M Q (pc + 1) L1 st u m) : G g M Q pc L (.long x :: st) u m :=
  fun p l e s mm args below meth c H locs ls C hW hB hS hl => lv_lstore_n C.1 C.2.1 hdg hi hl hn hL (fun ls2 hl2 => k p l e s mm args below meth c H locs ls2 C hW hB hS hl2)
theorem g_lstore (i : Nat) {x : Int64} (L1 : List (Nat × Value)) (hdg : decode (mC M) pc = .ok (.lstore i, 2)) (hn : i + 1 < mL M) (hL : (i, Value.long x) :: L.filter (fun q => !(q.1 == i) && (!(q.1 == i + 1) && !(q.1 + 1 == i && q.2.category == 2))) = L1) (k : G g M Q (pc + 2) L1 st u m) : G g M Q pc L (.long x :: st) u m :=
  fun p l e s mm args below meth c H locs ls C hW hB hS hl => lv_lstore C.1 C.2.1 hdg hl hn hL (fun ls2 hl2 => k p l e s mm args below meth c H locs ls2 C hW hB hS hl2)
theorem g_dstore_n {q : Fin 4} (i : Nat) {x : UInt64} (L1 : List (Nat × Value)) (hdg : decode (mC M) pc = .ok (.dstore_n q, 1)) (hi : (q : Nat) = i) (hn : i + 1 < mL M) (hL : (i, Value.double x) :: L.filter (fun q => !(q.1 == i) && (!(q.1 == i + 1) && !(q.1 + 1 == i && q.2.category == 2))) = L1) (k : G g M Q (pc + 1) L1 st u m) : G g M Q pc L (.double x :: st) u m :=
  fun p l e s mm args below meth c H locs ls C hW hB hS hl => lv_dstore_n C.1 C.2.1 hdg hi hl hn hL (fun ls2 hl2 => k p l e s mm args below meth c H locs ls2 C hW hB hS hl2)
theorem g_dstore (i : Nat) {x : UInt64} (L1 : List (Nat × Value)) (hdg : decode (mC M) pc = .ok (.dstore i, 2)) (hn : i + 1 < mL M) (hL : (i, Value.double x) :: L.filter (fun q => !(q.1 == i) && (!(q.1 == i + 1) && !(q.1 + 1 == i && q.2.category == 2))) = L1) (k : G g M Q (pc + 2) L1 st u m) : G g M Q pc L (.double x :: st) u m :=
  fun p l e s mm args below meth c H locs ls C hW hB hS hl => lv_dstore C.1 C.2.1 hdg hl hn hL (fun ls2 hl2 => k p l e s mm args below meth c H locs ls2 C hW hB hS hl2)
theorem g_iinc (i : Nat) {n : Int} {x : Int32} (v : Int32) (j : Nat) (L1 : List (Nat × Value)) (hdg : decode (mC M) pc = .ok (.iinc i n, 3)) (hk : L[j]? = some (i, .int x)) (hv : x + Int32.ofInt n = v) (hn : i < mL M) (hL : (i, Value.int v) :: L.filter (fun q => !(q.1 == i) && !(q.1 + 1 == i && q.2.category == 2)) = L1) (k : G g M Q (pc + 3) L1 st u m) : G g M Q pc L st u m :=
  fun p l e s mm args below meth c H locs ls C hW hB hS hl => lv_iinc C.1 C.2.1 hdg hl hk hv hn hL (fun ls2 hl2 => k p l e s mm args below meth c H locs ls2 C hW hB hS hl2)
theorem g_sub {L1 : List (Nat × Value)} (hL : ∀ q ∈ L1, q ∈ L) (k : G g M Q pc L1 st u m) : G g M Q pc L st u m :=
  fun p l e s mm args below meth c H locs ls C hW hB hS hl => k p l e s mm args below meth c H locs ls C hW hB hS ⟨hl.1, hl.2.1, fun q hq => hl.2.2 q (hL q hq)⟩
theorem g_topi {x : Int32} (k : ∀ y : Int32, y = x → G g M Q pc L (.int y :: st) u m) : G g M Q pc L (.int x :: st) u m := k x rfl
theorem g_topl {x : Int64} (k : ∀ y : Int64, y = x → G g M Q pc L (.long y :: st) u m) : G g M Q pc L (.long x :: st) u m := k x rfl
theorem g_ei {x : Int32} (y : Int32) (h : x = y) (k : G g M Q pc L (.int y :: st) u m) : G g M Q pc L (.int x :: st) u m := by subst h; exact k
theorem g_mem {m1 : Mm} (h : m = m1) (k : G g M Q pc L st u m1) : G g M Q pc L st u m := by subst h; exact k
theorem g_if_eq {x : Int32} {off : Int} (tgt : Nat) (hdg : decode (mC M) pc = .ok (.ifCond .eq off, 3)) (ht : (pc : Int) + off = (tgt : Int)) (kt : x = 0 → G g M Q tgt L st u m) (kf : ¬ x = 0 → G g M Q (pc + 3) L st u m) : G g M Q pc L (.int x :: st) u m :=
  fun p l e s mm args below meth c H locs ls C hW hB hS hl => lv_if_eq C.1 C.2.1 hdg ht (fun h => kt h p l e s mm args below meth c H locs ls C hW hB hS hl) (fun h => kf h p l e s mm args below meth c H locs ls C hW hB hS hl)
theorem g_if_ne {x : Int32} {off : Int} (tgt : Nat) (hdg : decode (mC M) pc = .ok (.ifCond .ne off, 3)) (ht : (pc : Int) + off = (tgt : Int)) (kt : ¬ x = 0 → G g M Q tgt L st u m) (kf : x = 0 → G g M Q (pc + 3) L st u m) : G g M Q pc L (.int x :: st) u m :=
  fun p l e s mm args below meth c H locs ls C hW hB hS hl => lv_if_ne C.1 C.2.1 hdg ht (fun h => kt h p l e s mm args below meth c H locs ls C hW hB hS hl) (fun h => kf h p l e s mm args below meth c H locs ls C hW hB hS hl)
theorem g_if_lt {x : Int32} {off : Int} (tgt : Nat) (hdg : decode (mC M) pc = .ok (.ifCond .lt off, 3)) (ht : (pc : Int) + off = (tgt : Int)) (kt : x < 0 → G g M Q tgt L st u m) (kf : ¬ x < 0 → G g M Q (pc + 3) L st u m) : G g M Q pc L (.int x :: st) u m :=
  fun p l e s mm args below meth c H locs ls C hW hB hS hl => lv_if_lt C.1 C.2.1 hdg ht (fun h => kt h p l e s mm args below meth c H locs ls C hW hB hS hl) (fun h => kf h p l e s mm args below meth c H locs ls C hW hB hS hl)
theorem g_if_ge {x : Int32} {off : Int} (tgt : Nat) (hdg : decode (mC M) pc = .ok (.ifCond .ge off, 3)) (ht : (pc : Int) + off = (tgt : Int)) (kt : 0 ≤ x → G g M Q tgt L st u m) (kf : ¬ 0 ≤ x → G g M Q (pc + 3) L st u m) : G g M Q pc L (.int x :: st) u m :=
  fun p l e s mm args below meth c H locs ls C hW hB hS hl => lv_if_ge C.1 C.2.1 hdg ht (fun h => kt h p l e s mm args below meth c H locs ls C hW hB hS hl) (fun h => kf h p l e s mm args below meth c H locs ls C hW hB hS hl)
theorem g_if_gt {x : Int32} {off : Int} (tgt : Nat) (hdg : decode (mC M) pc = .ok (.ifCond .gt off, 3)) (ht : (pc : Int) + off = (tgt : Int)) (kt : 0 < x → G g M Q tgt L st u m) (kf : ¬ 0 < x → G g M Q (pc + 3) L st u m) : G g M Q pc L (.int x :: st) u m :=
  fun p l e s mm args below meth c H locs ls C hW hB hS hl => lv_if_gt C.1 C.2.1 hdg ht (fun h => kt h p l e s mm args below meth c H locs ls C hW hB hS hl) (fun h => kf h p l e s mm args below meth c H locs ls C hW hB hS hl)
theorem g_if_le {x : Int32} {off : Int} (tgt : Nat) (hdg : decode (mC M) pc = .ok (.ifCond .le off, 3)) (ht : (pc : Int) + off = (tgt : Int)) (kt : x ≤ 0 → G g M Q tgt L st u m) (kf : ¬ x ≤ 0 → G g M Q (pc + 3) L st u m) : G g M Q pc L (.int x :: st) u m :=
  fun p l e s mm args below meth c H locs ls C hW hB hS hl => lv_if_le C.1 C.2.1 hdg ht (fun h => kt h p l e s mm args below meth c H locs ls C hW hB hS hl) (fun h => kf h p l e s mm args below meth c H locs ls C hW hB hS hl)
theorem g_icmp_eq {x y : Int32} {off : Int} (tgt : Nat) (hdg : decode (mC M) pc = .ok (.if_icmp .eq off, 3)) (ht : (pc : Int) + off = (tgt : Int)) (kt : x = y → G g M Q tgt L st u m) (kf : ¬ x = y → G g M Q (pc + 3) L st u m) : G g M Q pc L (.int y :: .int x :: st) u m :=
  fun p l e s mm args below meth c H locs ls C hW hB hS hl => lv_icmp_eq C.1 C.2.1 hdg ht (fun h => kt h p l e s mm args below meth c H locs ls C hW hB hS hl) (fun h => kf h p l e s mm args below meth c H locs ls C hW hB hS hl)
theorem g_icmp_ne {x y : Int32} {off : Int} (tgt : Nat) (hdg : decode (mC M) pc = .ok (.if_icmp .ne off, 3)) (ht : (pc : Int) + off = (tgt : Int)) (kt : ¬ x = y → G g M Q tgt L st u m) (kf : x = y → G g M Q (pc + 3) L st u m) : G g M Q pc L (.int y :: .int x :: st) u m :=
  fun p l e s mm args below meth c H locs ls C hW hB hS hl => lv_icmp_ne C.1 C.2.1 hdg ht (fun h => kt h p l e s mm args below meth c H locs ls C hW hB hS hl) (fun h => kf h p l e s mm args below meth c H locs ls C hW hB hS hl)
theorem g_icmp_lt {x y : Int32} {off : Int} (tgt : Nat) (hdg : decode (mC M) pc = .ok (.if_icmp .lt off, 3)) (ht : (pc : Int) + off = (tgt : Int)) (kt : x < y → G g M Q tgt L st u m) (kf : ¬ x < y → G g M Q (pc + 3) L st u m) : G g M Q pc L (.int y :: .int x :: st) u m :=
  fun p l e s mm args below meth c H locs ls C hW hB hS hl => lv_icmp_lt C.1 C.2.1 hdg ht (fun h => kt h p l e s mm args below meth c H locs ls C hW hB hS hl) (fun h => kf h p l e s mm args below meth c H locs ls C hW hB hS hl)
theorem g_icmp_ge {x y : Int32} {off : Int} (tgt : Nat) (hdg : decode (mC M) pc = .ok (.if_icmp .ge off, 3)) (ht : (pc : Int) + off = (tgt : Int)) (kt : y ≤ x → G g M Q tgt L st u m) (kf : ¬ y ≤ x → G g M Q (pc + 3) L st u m) : G g M Q pc L (.int y :: .int x :: st) u m :=
  fun p l e s mm args below meth c H locs ls C hW hB hS hl => lv_icmp_ge C.1 C.2.1 hdg ht (fun h => kt h p l e s mm args below meth c H locs ls C hW hB hS hl) (fun h => kf h p l e s mm args below meth c H locs ls C hW hB hS hl)
theorem g_icmp_gt {x y : Int32} {off : Int} (tgt : Nat) (hdg : decode (mC M) pc = .ok (.if_icmp .gt off, 3)) (ht : (pc : Int) + off = (tgt : Int)) (kt : y < x → G g M Q tgt L st u m) (kf : ¬ y < x → G g M Q (pc + 3) L st u m) : G g M Q pc L (.int y :: .int x :: st) u m :=
  fun p l e s mm args below meth c H locs ls C hW hB hS hl => lv_icmp_gt C.1 C.2.1 hdg ht (fun h => kt h p l e s mm args below meth c H locs ls C hW hB hS hl) (fun h => kf h p l e s mm args below meth c H locs ls C hW hB hS hl)
theorem g_icmp_le {x y : Int32} {off : Int} (tgt : Nat) (hdg : decode (mC M) pc = .ok (.if_icmp .le off, 3)) (ht : (pc : Int) + off = (tgt : Int)) (kt : x ≤ y → G g M Q tgt L st u m) (kf : ¬ x ≤ y → G g M Q (pc + 3) L st u m) : G g M Q pc L (.int y :: .int x :: st) u m :=
  fun p l e s mm args below meth c H locs ls C hW hB hS hl => lv_icmp_le C.1 C.2.1 hdg ht (fun h => kt h p l e s mm args below meth c H locs ls C hW hB hS hl) (fun h => kf h p l e s mm args below meth c H locs ls C hW hB hS hl)
theorem g_goto {off : Int} (tgt : Nat) (hdg : decode (mC M) pc = .ok (.goto off, 3)) (ht : (pc : Int) + off = (tgt : Int)) (k : G g M Q tgt L st u m) : G g M Q pc L st u m :=
  fun p l e s mm args below meth c H locs ls C hW hB hS hl => lv_goto C.1 C.2.1 hdg ht (k p l e s mm args below meth c H locs ls C hW hB hS hl)
theorem g_tableOut {dflt lo hi : Int} {offs : Array Int} {len : Nat} {x : Int32} (tgt : Nat) (hdg : decode (mC M) pc = .ok (.tableswitch dflt lo hi offs, len)) (h : x.toInt < lo ∨ hi < x.toInt) (ht : (pc : Int) + dflt = (tgt : Int)) (k : G g M Q tgt L st u m) : G g M Q pc L (.int x :: st) u m :=
  fun p l e s mm args below meth c H locs ls C hW hB hS hl => lv_tableOut C.1 C.2.1 hdg h ht (k p l e s mm args below meth c H locs ls C hW hB hS hl)
theorem g_tableIn {dflt lo hi : Int} {offs : Array Int} {len : Nat} {x : Int32} {off : Int} (tgt : Nat) (hdg : decode (mC M) pc = .ok (.tableswitch dflt lo hi offs, len)) (h1 : ¬ x.toInt < lo) (h2 : ¬ hi < x.toInt) (ho : offs[(x.toInt - lo).toNat]? = some off) (ht : (pc : Int) + off = (tgt : Int)) (k : G g M Q tgt L st u m) : G g M Q pc L (.int x :: st) u m :=
  fun p l e s mm args below meth c H locs ls C hW hB hS hl => lv_tableIn C.1 C.2.1 hdg h1 h2 ho ht (k p l e s mm args below meth c H locs ls C hW hB hS hl)
theorem g_lookup {dflt : Int} {ps : Array (Int × Int)} {len : Nat} {x : Int32} {off : Int} (tgt : Nat) (hdg : decode (mC M) pc = .ok (.lookupswitch dflt ps, len)) (hp : (ps.toList.zip (ps.toList.drop 1)).all (fun (a, next) => a.1 < next.1) = true) (ho : Op.lookupswitch.offset ps.toList dflt x.toInt = off) (ht : (pc : Int) + off = (tgt : Int)) (k : G g M Q tgt L st u m) : G g M Q pc L (.int x :: st) u m :=
  fun p l e s mm args below meth c H locs ls C hW hB hS hl => lv_lookup C.1 C.2.1 hdg hp ho ht (k p l e s mm args below meth c H locs ls C hW hB hS hl)
theorem g_iret {v : Int32} (hT : mT M = some .int) (hdg : decode (mC M) pc = .ok (.ireturn, 1)) (hu : u.1 ≤ (mR M).cells ∧ u.2 ≤ (mR M).slots) (hq : Q (.inl (some (.int v))) m) : G g M Q pc L [.int v] u m :=
  fun p l e s mm args below meth c H locs ls C hW hB hS hl => W.widen hu.1 hu.2 (vx_ret (W.iret C.1 C.2.1 (C.2.2.1.trans hT) (fun t ht hwm => ⟨_, m, rfl, hq, by rw [ht]; exact hW.moved hwm.alike, hS.F ht⟩) hS.2.2 hdg C.2.2.2.2.2.2.1))
theorem g_lret {v : Int64} (hT : mT M = some .long) (hdg : decode (mC M) pc = .ok (.lreturn, 1)) (hu : u.1 ≤ (mR M).cells ∧ u.2 ≤ (mR M).slots) (hq : Q (.inl (some (.long v))) m) : G g M Q pc L [.long v] u m :=
  fun p l e s mm args below meth c H locs ls C hW hB hS hl => W.widen hu.1 hu.2 (vx_ret (W.lret C.1 C.2.1 (C.2.2.1.trans hT) (fun t ht hwm => ⟨_, m, rfl, hq, by rw [ht]; exact hW.moved hwm.alike, hS.F ht⟩) hS.2.2 hdg C.2.2.2.2.2.2.1))
theorem g_dret {v : UInt64} (hT : mT M = some .double) (hdg : decode (mC M) pc = .ok (.dreturn, 1)) (hu : u.1 ≤ (mR M).cells ∧ u.2 ≤ (mR M).slots) (hq : Q (.inl (some (.double v))) m) : G g M Q pc L [.double v] u m :=
  fun p l e s mm args below meth c H locs ls C hW hB hS hl => W.widen hu.1 hu.2 (vx_ret (W.dret C.1 C.2.1 (C.2.2.1.trans hT) (fun t ht hwm => ⟨_, m, rfl, hq, by rw [ht]; exact hW.moved hwm.alike, hS.F ht⟩) hS.2.2 hdg C.2.2.2.2.2.2.1))
theorem g_fret {v : UInt32} (hT : mT M = some .float) (hdg : decode (mC M) pc = .ok (.freturn, 1)) (hu : u.1 ≤ (mR M).cells ∧ u.2 ≤ (mR M).slots) (hq : Q (.inl (some (.float v))) m) : G g M Q pc L [.float v] u m :=
  fun p l e s mm args below meth c H locs ls C hW hB hS hl => W.widen hu.1 hu.2 (vx_ret (W.fret C.1 C.2.1 (C.2.2.1.trans hT) (fun t ht hwm => ⟨_, m, rfl, hq, by rw [ht]; exact hW.moved hwm.alike, hS.F ht⟩) hS.2.2 hdg C.2.2.2.2.2.2.1))
theorem g_zret {v : Int32} {ty : FieldType} (hT : mT M = some ty) (hz : narrow ty (.int v) = .int v) (hdg : decode (mC M) pc = .ok (.ireturn, 1)) (hu : u.1 ≤ (mR M).cells ∧ u.2 ≤ (mR M).slots) (hq : Q (.inl (some (.int v))) m) : G g M Q pc L [.int v] u m :=
  fun p l e s mm args below meth c H locs ls C hW hB hS hl => W.widen hu.1 hu.2 (vx_ret (W.zret C.1 C.2.1 (C.2.2.1.trans hT) hz (fun t ht hwm => ⟨_, m, rfl, hq, by rw [ht]; exact hW.moved hwm.alike, hS.F ht⟩) hS.2.2 hdg C.2.2.2.2.2.2.1))
theorem g_vret (hT : mT M = none) (hdg : decode (mC M) pc = .ok (.return_, 1)) (hu : u.1 ≤ (mR M).cells ∧ u.2 ≤ (mR M).slots) (hq : Q (.inl none) m) : G g M Q pc L [] u m :=
  fun p l e s mm args below meth c H locs ls C hW hB hS hl => W.widen hu.1 hu.2 (vx_ret (W.vret C.1 C.2.1 (C.2.2.1.trans hT) (fun t ht hwm => ⟨_, m, rfl, hq, by rw [ht]; exact hW.moved hwm.alike, hS.F ht⟩) hS.2.2 hdg C.2.2.2.2.2.2.1))
end GROWS
end
section
theorem wA_list {ws : List Cond} (ps : List Nat) (h : ws = ps.filterMap (fun i => lw_tbl[i]?)) (hg : ws.all goodWord = true) : ∀ w ∈ ws, w ∈ wA := by
  intro w hw
  have hg1 := List.all_eq_true.mp hg w hw
  rw [h] at hw
  obtain ⟨i, -, hi⟩ := List.mem_filterMap.mp hw
  exact wA_i i hi hg1
theorem wsX00_in : ∀ w ∈ u_ws RX0 TX0 3, w ∈ wA := wA_list [188, 190, 192] (by decide +kernel) (by decide +kernel)
theorem wsX10_in : ∀ w ∈ u_ws RX1 TX1 2, w ∈ wA := wA_list [324, 326] (by decide +kernel) (by decide +kernel)
theorem wsX20_in : ∀ w ∈ u_ws RX2 TX2 3, w ∈ wA := wA_list [307, 309, 311] (by decide +kernel) (by decide +kernel)
theorem wsX30_in : ∀ w ∈ u_ws RX3 TX3 2, w ∈ wA := wA_list [136, 138] (by decide +kernel) (by decide +kernel)
theorem wsX40_in : ∀ w ∈ u_ws RX4 TX4 3, w ∈ wA := wA_list [116, 118, 120] (by decide +kernel) (by decide +kernel)
theorem wsX50_in : ∀ w ∈ u_ws RX5 TX5 10, w ∈ wA := wA_list [244, 246, 248, 250, 252, 254, 256, 258, 260, 262] (by decide +kernel) (by decide +kernel)
theorem wsX60_in : ∀ w ∈ u_ws RX6 TX6 7, w ∈ wA := wA_list [279, 281, 283, 285, 287, 289, 291] (by decide +kernel) (by decide +kernel)
theorem wsX70_in : ∀ w ∈ u_ws RX7 TX7 2, w ∈ wA := wA_list [206, 208] (by decide +kernel) (by decide +kernel)
theorem wsX80_in : ∀ w ∈ u_ws RX8 TX8 5, w ∈ wA := wA_list [161, 163, 165, 167, 169] (by decide +kernel) (by decide +kernel)
theorem wsX90_in : ∀ w ∈ u_ws RX9 TX9 3, w ∈ wA := wA_list [332, 334, 336] (by decide +kernel) (by decide +kernel)
theorem wsX100_in : ∀ w ∈ u_ws RX10 TX10 16, w ∈ wA := wA_list [950, 952, 954, 956, 958, 960, 962, 964, 966, 968, 970, 972, 974, 976, 978, 980] (by decide +kernel) (by decide +kernel)
theorem fm_C {c : Nat} {r : vw_C} (h : vwCl[c]? = some r) : (∀ w ∈ u_ws r.1 r.2.1 r.2.2, w ∈ wA) ∧ (∀ k, k < r.2.2 → parseFieldDescriptor (r.2.1 k).2.2.1 = some (fm_ty c k)) ∧ (∀ a, a < r.2.2 → ∀ b, b < r.2.2 → a ≠ b → (r.2.1 a).2.1 ≠ (r.2.1 b).2.1) ∧ c < 11 := by
  match c, h with
  | 0, h => cases h; exact ⟨wsX00_in, tyX0_ok, nmX0, by decide⟩
  | 1, h => cases h; exact ⟨wsX10_in, tyX1_ok, nmX1, by decide⟩
  | 2, h => cases h; exact ⟨wsX20_in, tyX2_ok, nmX2, by decide⟩
  | 3, h => cases h; exact ⟨wsX30_in, tyX3_ok, nmX3, by decide⟩
  | 4, h => cases h; exact ⟨wsX40_in, tyX4_ok, nmX4, by decide⟩
  | 5, h => cases h; exact ⟨wsX50_in, tyX5_ok, nmX5, by decide⟩
  | 6, h => cases h; exact ⟨wsX60_in, tyX6_ok, nmX6, by decide⟩
  | 7, h => cases h; exact ⟨wsX70_in, tyX7_ok, nmX7, by decide⟩
  | 8, h => cases h; exact ⟨wsX80_in, tyX8_ok, nmX8, by decide⟩
  | 9, h => cases h; exact ⟨wsX90_in, tyX9_ok, nmX9, by decide⟩
  | 10, h => cases h; exact ⟨wsX100_in, tyX10_ok, nmX10, by decide⟩
  | c + 11, h => simp [vwCl] at h
/-- the field of pool index i, in the class own: field k of kind c -/
def fm_FL (own : String) (i c k : Nat) : Prop := ∃ r : vw_C, vwCl[c]? = some r ∧ k < r.2.2 ∧ Cond.fieldLink own i (r.2.1 k).1 (r.2.1 k).2.1 (r.2.1 k).2.2.1 ∈ wA
/-- .. that may be written -/
def fm_FW (own : String) (i c k : Nat) : Prop := ∃ r : vw_C, vwCl[c]? = some r ∧ k < r.2.2 ∧ Cond.fieldLink own i (r.2.1 k).1 (r.2.1 k).2.1 (r.2.1 k).2.2.1 ∈ wA ∧ (r.2.1 k).2.2.2 = false
/-- .. a final one, of its own class -/
def fm_FF (own : String) (i c k : Nat) : Prop := ∃ r : vw_C, vwCl[c]? = some r ∧ k < r.2.2 ∧ Cond.fieldLink own i (r.2.1 k).1 (r.2.1 k).2.1 (r.2.1 k).2.2.1 ∈ wA ∧ (r.2.1 k).2.2.2 = true ∧ (r.2.1 k).1 = own
theorem flX4_15 : fm_FL RX4 15 4 0 := ⟨_, rfl, by decide, wA_i 108 (by decide +kernel) rfl⟩
theorem ffX4_15 : fm_FF RX4 15 4 0 := ⟨_, rfl, by decide, wA_i 108 (by decide +kernel) rfl, rfl, rfl⟩
theorem flX6_110 : fm_FL RX6 110 4 0 := ⟨_, rfl, by decide, wA_i 109 (by decide +kernel) rfl⟩
theorem flX9_108 : fm_FL RX9 108 4 0 := ⟨_, rfl, by decide, wA_i 110 (by decide +kernel) rfl⟩
theorem flX4_21 : fm_FL RX4 21 4 1 := ⟨_, rfl, by decide, wA_i 111 (by decide +kernel) rfl⟩
theorem ffX4_21 : fm_FF RX4 21 4 1 := ⟨_, rfl, by decide, wA_i 111 (by decide +kernel) rfl, rfl, rfl⟩
theorem flX6_176 : fm_FL RX6 176 4 1 := ⟨_, rfl, by decide, wA_i 112 (by decide +kernel) rfl⟩
theorem flX9_355 : fm_FL RX9 355 4 1 := ⟨_, rfl, by decide, wA_i 113 (by decide +kernel) rfl⟩
theorem flX4_25 : fm_FL RX4 25 4 2 := ⟨_, rfl, by decide, wA_i 114 (by decide +kernel) rfl⟩
theorem ffX4_25 : fm_FF RX4 25 4 2 := ⟨_, rfl, by decide, wA_i 114 (by decide +kernel) rfl, rfl, rfl⟩
theorem flX6_189 : fm_FL RX6 189 4 2 := ⟨_, rfl, by decide, wA_i 115 (by decide +kernel) rfl⟩
theorem flX3_11 : fm_FL RX3 11 3 0 := ⟨_, rfl, by decide, wA_i 132 (by decide +kernel) rfl⟩
theorem ffX3_11 : fm_FF RX3 11 3 0 := ⟨_, rfl, by decide, wA_i 132 (by decide +kernel) rfl, rfl, rfl⟩
theorem flX9_205 : fm_FL RX9 205 3 0 := ⟨_, rfl, by decide, wA_i 133 (by decide +kernel) rfl⟩
theorem flX3_17 : fm_FL RX3 17 3 1 := ⟨_, rfl, by decide, wA_i 134 (by decide +kernel) rfl⟩
theorem fwX3_17 : fm_FW RX3 17 3 1 := ⟨_, rfl, by decide, wA_i 134 (by decide +kernel) rfl, rfl⟩
theorem flX9_204 : fm_FL RX9 204 3 1 := ⟨_, rfl, by decide, wA_i 135 (by decide +kernel) rfl⟩
theorem fwX9_204 : fm_FW RX9 204 3 1 := ⟨_, rfl, by decide, wA_i 135 (by decide +kernel) rfl, rfl⟩
theorem flX8_9 : fm_FL RX8 9 8 0 := ⟨_, rfl, by decide, wA_i 146 (by decide +kernel) rfl⟩
theorem fwX8_9 : fm_FW RX8 9 8 0 := ⟨_, rfl, by decide, wA_i 146 (by decide +kernel) rfl, rfl⟩
theorem flX9_46 : fm_FL RX9 46 8 0 := ⟨_, rfl, by decide, wA_i 147 (by decide +kernel) rfl⟩
theorem fwX9_46 : fm_FW RX9 46 8 0 := ⟨_, rfl, by decide, wA_i 147 (by decide +kernel) rfl, rfl⟩
theorem flX6_116 : fm_FL RX6 116 8 0 := ⟨_, rfl, by decide, wA_i 148 (by decide +kernel) rfl⟩
theorem fwX6_116 : fm_FW RX6 116 8 0 := ⟨_, rfl, by decide, wA_i 148 (by decide +kernel) rfl, rfl⟩
theorem flX8_15 : fm_FL RX8 15 8 1 := ⟨_, rfl, by decide, wA_i 149 (by decide +kernel) rfl⟩
theorem fwX8_15 : fm_FW RX8 15 8 1 := ⟨_, rfl, by decide, wA_i 149 (by decide +kernel) rfl, rfl⟩
theorem flX6_125 : fm_FL RX6 125 8 1 := ⟨_, rfl, by decide, wA_i 150 (by decide +kernel) rfl⟩
theorem fwX6_125 : fm_FW RX6 125 8 1 := ⟨_, rfl, by decide, wA_i 150 (by decide +kernel) rfl, rfl⟩
theorem flX9_209 : fm_FL RX9 209 8 1 := ⟨_, rfl, by decide, wA_i 151 (by decide +kernel) rfl⟩
theorem fwX9_209 : fm_FW RX9 209 8 1 := ⟨_, rfl, by decide, wA_i 151 (by decide +kernel) rfl, rfl⟩
theorem flX8_18 : fm_FL RX8 18 8 2 := ⟨_, rfl, by decide, wA_i 152 (by decide +kernel) rfl⟩
theorem fwX8_18 : fm_FW RX8 18 8 2 := ⟨_, rfl, by decide, wA_i 152 (by decide +kernel) rfl, rfl⟩
theorem flX6_128 : fm_FL RX6 128 8 2 := ⟨_, rfl, by decide, wA_i 153 (by decide +kernel) rfl⟩
theorem fwX6_128 : fm_FW RX6 128 8 2 := ⟨_, rfl, by decide, wA_i 153 (by decide +kernel) rfl, rfl⟩
theorem flX9_215 : fm_FL RX9 215 8 2 := ⟨_, rfl, by decide, wA_i 154 (by decide +kernel) rfl⟩
theorem fwX9_215 : fm_FW RX9 215 8 2 := ⟨_, rfl, by decide, wA_i 154 (by decide +kernel) rfl, rfl⟩
theorem flX8_21 : fm_FL RX8 21 8 3 := ⟨_, rfl, by decide, wA_i 155 (by decide +kernel) rfl⟩
theorem fwX8_21 : fm_FW RX8 21 8 3 := ⟨_, rfl, by decide, wA_i 155 (by decide +kernel) rfl, rfl⟩
theorem flX6_155 : fm_FL RX6 155 8 3 := ⟨_, rfl, by decide, wA_i 156 (by decide +kernel) rfl⟩
theorem fwX6_155 : fm_FW RX6 155 8 3 := ⟨_, rfl, by decide, wA_i 156 (by decide +kernel) rfl, rfl⟩
theorem flX9_218 : fm_FL RX9 218 8 3 := ⟨_, rfl, by decide, wA_i 157 (by decide +kernel) rfl⟩
theorem fwX9_218 : fm_FW RX9 218 8 3 := ⟨_, rfl, by decide, wA_i 157 (by decide +kernel) rfl, rfl⟩
theorem flX8_24 : fm_FL RX8 24 8 4 := ⟨_, rfl, by decide, wA_i 158 (by decide +kernel) rfl⟩
theorem fwX8_24 : fm_FW RX8 24 8 4 := ⟨_, rfl, by decide, wA_i 158 (by decide +kernel) rfl, rfl⟩
theorem flX6_152 : fm_FL RX6 152 8 4 := ⟨_, rfl, by decide, wA_i 159 (by decide +kernel) rfl⟩
theorem fwX6_152 : fm_FW RX6 152 8 4 := ⟨_, rfl, by decide, wA_i 159 (by decide +kernel) rfl, rfl⟩
theorem flX9_219 : fm_FL RX9 219 8 4 := ⟨_, rfl, by decide, wA_i 160 (by decide +kernel) rfl⟩
theorem fwX9_219 : fm_FW RX9 219 8 4 := ⟨_, rfl, by decide, wA_i 160 (by decide +kernel) rfl, rfl⟩
theorem flX0_16 : fm_FL RX0 16 0 0 := ⟨_, rfl, by decide, wA_i 179 (by decide +kernel) rfl⟩
theorem fwX0_16 : fm_FW RX0 16 0 0 := ⟨_, rfl, by decide, wA_i 179 (by decide +kernel) rfl, rfl⟩
theorem flX6_103 : fm_FL RX6 103 0 0 := ⟨_, rfl, by decide, wA_i 180 (by decide +kernel) rfl⟩
theorem fwX6_103 : fm_FW RX6 103 0 0 := ⟨_, rfl, by decide, wA_i 180 (by decide +kernel) rfl, rfl⟩
theorem flX9_56 : fm_FL RX9 56 0 0 := ⟨_, rfl, by decide, wA_i 181 (by decide +kernel) rfl⟩
theorem fwX9_56 : fm_FW RX9 56 0 0 := ⟨_, rfl, by decide, wA_i 181 (by decide +kernel) rfl, rfl⟩
theorem flX0_7 : fm_FL RX0 7 0 1 := ⟨_, rfl, by decide, wA_i 182 (by decide +kernel) rfl⟩
theorem fwX0_7 : fm_FW RX0 7 0 1 := ⟨_, rfl, by decide, wA_i 182 (by decide +kernel) rfl, rfl⟩
theorem flX6_131 : fm_FL RX6 131 0 1 := ⟨_, rfl, by decide, wA_i 183 (by decide +kernel) rfl⟩
theorem fwX6_131 : fm_FW RX6 131 0 1 := ⟨_, rfl, by decide, wA_i 183 (by decide +kernel) rfl, rfl⟩
theorem flX9_234 : fm_FL RX9 234 0 1 := ⟨_, rfl, by decide, wA_i 184 (by decide +kernel) rfl⟩
theorem fwX9_234 : fm_FW RX9 234 0 1 := ⟨_, rfl, by decide, wA_i 184 (by decide +kernel) rfl, rfl⟩
theorem flX0_13 : fm_FL RX0 13 0 2 := ⟨_, rfl, by decide, wA_i 185 (by decide +kernel) rfl⟩
theorem fwX0_13 : fm_FW RX0 13 0 2 := ⟨_, rfl, by decide, wA_i 185 (by decide +kernel) rfl, rfl⟩
theorem flX6_134 : fm_FL RX6 134 0 2 := ⟨_, rfl, by decide, wA_i 186 (by decide +kernel) rfl⟩
theorem fwX6_134 : fm_FW RX6 134 0 2 := ⟨_, rfl, by decide, wA_i 186 (by decide +kernel) rfl, rfl⟩
theorem flX9_237 : fm_FL RX9 237 0 2 := ⟨_, rfl, by decide, wA_i 187 (by decide +kernel) rfl⟩
theorem fwX9_237 : fm_FW RX9 237 0 2 := ⟨_, rfl, by decide, wA_i 187 (by decide +kernel) rfl, rfl⟩
theorem flX7_9 : fm_FL RX7 9 7 0 := ⟨_, rfl, by decide, wA_i 200 (by decide +kernel) rfl⟩
theorem ffX7_9 : fm_FF RX7 9 7 0 := ⟨_, rfl, by decide, wA_i 200 (by decide +kernel) rfl, rfl, rfl⟩
theorem flX9_126 : fm_FL RX9 126 7 0 := ⟨_, rfl, by decide, wA_i 201 (by decide +kernel) rfl⟩
theorem flX6_186 : fm_FL RX6 186 7 0 := ⟨_, rfl, by decide, wA_i 202 (by decide +kernel) rfl⟩
theorem flX7_15 : fm_FL RX7 15 7 1 := ⟨_, rfl, by decide, wA_i 203 (by decide +kernel) rfl⟩
theorem fwX7_15 : fm_FW RX7 15 7 1 := ⟨_, rfl, by decide, wA_i 203 (by decide +kernel) rfl, rfl⟩
theorem flX9_121 : fm_FL RX9 121 7 1 := ⟨_, rfl, by decide, wA_i 204 (by decide +kernel) rfl⟩
theorem fwX9_121 : fm_FW RX9 121 7 1 := ⟨_, rfl, by decide, wA_i 204 (by decide +kernel) rfl, rfl⟩
theorem flX6_197 : fm_FL RX6 197 7 1 := ⟨_, rfl, by decide, wA_i 205 (by decide +kernel) rfl⟩
theorem fwX6_197 : fm_FW RX6 197 7 1 := ⟨_, rfl, by decide, wA_i 205 (by decide +kernel) rfl, rfl⟩
theorem flX5_9 : fm_FL RX5 9 5 0 := ⟨_, rfl, by decide, wA_i 216 (by decide +kernel) rfl⟩
theorem fwX5_9 : fm_FW RX5 9 5 0 := ⟨_, rfl, by decide, wA_i 216 (by decide +kernel) rfl, rfl⟩
theorem flX6_88 : fm_FL RX6 88 5 0 := ⟨_, rfl, by decide, wA_i 217 (by decide +kernel) rfl⟩
theorem fwX6_88 : fm_FW RX6 88 5 0 := ⟨_, rfl, by decide, wA_i 217 (by decide +kernel) rfl, rfl⟩
theorem flX9_94 : fm_FL RX9 94 5 0 := ⟨_, rfl, by decide, wA_i 218 (by decide +kernel) rfl⟩
theorem fwX9_94 : fm_FW RX9 94 5 0 := ⟨_, rfl, by decide, wA_i 218 (by decide +kernel) rfl, rfl⟩
theorem flX5_15 : fm_FL RX5 15 5 1 := ⟨_, rfl, by decide, wA_i 219 (by decide +kernel) rfl⟩
theorem fwX5_15 : fm_FW RX5 15 5 1 := ⟨_, rfl, by decide, wA_i 219 (by decide +kernel) rfl, rfl⟩
theorem flX6_113 : fm_FL RX6 113 5 1 := ⟨_, rfl, by decide, wA_i 220 (by decide +kernel) rfl⟩
theorem fwX6_113 : fm_FW RX6 113 5 1 := ⟨_, rfl, by decide, wA_i 220 (by decide +kernel) rfl, rfl⟩
theorem flX9_75 : fm_FL RX9 75 5 1 := ⟨_, rfl, by decide, wA_i 221 (by decide +kernel) rfl⟩
theorem fwX9_75 : fm_FW RX9 75 5 1 := ⟨_, rfl, by decide, wA_i 221 (by decide +kernel) rfl, rfl⟩
theorem flX5_19 : fm_FL RX5 19 5 2 := ⟨_, rfl, by decide, wA_i 222 (by decide +kernel) rfl⟩
theorem fwX5_19 : fm_FW RX5 19 5 2 := ⟨_, rfl, by decide, wA_i 222 (by decide +kernel) rfl, rfl⟩
theorem flX6_107 : fm_FL RX6 107 5 2 := ⟨_, rfl, by decide, wA_i 223 (by decide +kernel) rfl⟩
theorem fwX6_107 : fm_FW RX6 107 5 2 := ⟨_, rfl, by decide, wA_i 223 (by decide +kernel) rfl, rfl⟩
theorem flX9_84 : fm_FL RX9 84 5 2 := ⟨_, rfl, by decide, wA_i 224 (by decide +kernel) rfl⟩
theorem fwX9_84 : fm_FW RX9 84 5 2 := ⟨_, rfl, by decide, wA_i 224 (by decide +kernel) rfl, rfl⟩
theorem flX5_22 : fm_FL RX5 22 5 3 := ⟨_, rfl, by decide, wA_i 225 (by decide +kernel) rfl⟩
theorem fwX5_22 : fm_FW RX5 22 5 3 := ⟨_, rfl, by decide, wA_i 225 (by decide +kernel) rfl, rfl⟩
theorem flX6_100 : fm_FL RX6 100 5 3 := ⟨_, rfl, by decide, wA_i 226 (by decide +kernel) rfl⟩
theorem fwX6_100 : fm_FW RX6 100 5 3 := ⟨_, rfl, by decide, wA_i 226 (by decide +kernel) rfl, rfl⟩
theorem flX9_91 : fm_FL RX9 91 5 3 := ⟨_, rfl, by decide, wA_i 227 (by decide +kernel) rfl⟩
theorem fwX9_91 : fm_FW RX9 91 5 3 := ⟨_, rfl, by decide, wA_i 227 (by decide +kernel) rfl, rfl⟩
theorem flX5_25 : fm_FL RX5 25 5 4 := ⟨_, rfl, by decide, wA_i 228 (by decide +kernel) rfl⟩
theorem fwX5_25 : fm_FW RX5 25 5 4 := ⟨_, rfl, by decide, wA_i 228 (by decide +kernel) rfl, rfl⟩
theorem flX6_106 : fm_FL RX6 106 5 4 := ⟨_, rfl, by decide, wA_i 229 (by decide +kernel) rfl⟩
theorem fwX6_106 : fm_FW RX6 106 5 4 := ⟨_, rfl, by decide, wA_i 229 (by decide +kernel) rfl, rfl⟩
theorem flX9_187 : fm_FL RX9 187 5 4 := ⟨_, rfl, by decide, wA_i 230 (by decide +kernel) rfl⟩
theorem fwX9_187 : fm_FW RX9 187 5 4 := ⟨_, rfl, by decide, wA_i 230 (by decide +kernel) rfl, rfl⟩
theorem flX5_28 : fm_FL RX5 28 5 5 := ⟨_, rfl, by decide, wA_i 231 (by decide +kernel) rfl⟩
theorem fwX5_28 : fm_FW RX5 28 5 5 := ⟨_, rfl, by decide, wA_i 231 (by decide +kernel) rfl, rfl⟩
theorem flX6_122 : fm_FL RX6 122 5 5 := ⟨_, rfl, by decide, wA_i 232 (by decide +kernel) rfl⟩
theorem fwX6_122 : fm_FW RX6 122 5 5 := ⟨_, rfl, by decide, wA_i 232 (by decide +kernel) rfl, rfl⟩
theorem flX9_105 : fm_FL RX9 105 5 5 := ⟨_, rfl, by decide, wA_i 233 (by decide +kernel) rfl⟩
theorem fwX9_105 : fm_FW RX9 105 5 5 := ⟨_, rfl, by decide, wA_i 233 (by decide +kernel) rfl, rfl⟩
theorem flX5_31 : fm_FL RX5 31 5 6 := ⟨_, rfl, by decide, wA_i 234 (by decide +kernel) rfl⟩
theorem fwX5_31 : fm_FW RX5 31 5 6 := ⟨_, rfl, by decide, wA_i 234 (by decide +kernel) rfl, rfl⟩
theorem flX9_188 : fm_FL RX9 188 5 6 := ⟨_, rfl, by decide, wA_i 235 (by decide +kernel) rfl⟩
theorem fwX9_188 : fm_FW RX9 188 5 6 := ⟨_, rfl, by decide, wA_i 235 (by decide +kernel) rfl, rfl⟩
theorem flX5_34 : fm_FL RX5 34 5 7 := ⟨_, rfl, by decide, wA_i 236 (by decide +kernel) rfl⟩
theorem fwX5_34 : fm_FW RX5 34 5 7 := ⟨_, rfl, by decide, wA_i 236 (by decide +kernel) rfl, rfl⟩
theorem flX6_146 : fm_FL RX6 146 5 7 := ⟨_, rfl, by decide, wA_i 237 (by decide +kernel) rfl⟩
theorem fwX6_146 : fm_FW RX6 146 5 7 := ⟨_, rfl, by decide, wA_i 237 (by decide +kernel) rfl, rfl⟩
theorem flX9_191 : fm_FL RX9 191 5 7 := ⟨_, rfl, by decide, wA_i 238 (by decide +kernel) rfl⟩
theorem fwX9_191 : fm_FW RX9 191 5 7 := ⟨_, rfl, by decide, wA_i 238 (by decide +kernel) rfl, rfl⟩
theorem flX5_37 : fm_FL RX5 37 5 8 := ⟨_, rfl, by decide, wA_i 239 (by decide +kernel) rfl⟩
theorem fwX5_37 : fm_FW RX5 37 5 8 := ⟨_, rfl, by decide, wA_i 239 (by decide +kernel) rfl, rfl⟩
theorem flX6_149 : fm_FL RX6 149 5 8 := ⟨_, rfl, by decide, wA_i 240 (by decide +kernel) rfl⟩
theorem fwX6_149 : fm_FW RX6 149 5 8 := ⟨_, rfl, by decide, wA_i 240 (by decide +kernel) rfl, rfl⟩
theorem flX9_194 : fm_FL RX9 194 5 8 := ⟨_, rfl, by decide, wA_i 241 (by decide +kernel) rfl⟩
theorem fwX9_194 : fm_FW RX9 194 5 8 := ⟨_, rfl, by decide, wA_i 241 (by decide +kernel) rfl, rfl⟩
theorem flX6_119 : fm_FL RX6 119 5 9 := ⟨_, rfl, by decide, wA_i 242 (by decide +kernel) rfl⟩
theorem fwX6_119 : fm_FW RX6 119 5 9 := ⟨_, rfl, by decide, wA_i 242 (by decide +kernel) rfl, rfl⟩
theorem flX5_40 : fm_FL RX5 40 5 9 := ⟨_, rfl, by decide, wA_i 243 (by decide +kernel) rfl⟩
theorem fwX5_40 : fm_FW RX5 40 5 9 := ⟨_, rfl, by decide, wA_i 243 (by decide +kernel) rfl, rfl⟩
theorem flX6_9 : fm_FL RX6 9 6 0 := ⟨_, rfl, by decide, wA_i 265 (by decide +kernel) rfl⟩
theorem ffX6_9 : fm_FF RX6 9 6 0 := ⟨_, rfl, by decide, wA_i 265 (by decide +kernel) rfl, rfl, rfl⟩
theorem flX9_65 : fm_FL RX9 65 6 0 := ⟨_, rfl, by decide, wA_i 266 (by decide +kernel) rfl⟩
theorem flX6_17 : fm_FL RX6 17 6 1 := ⟨_, rfl, by decide, wA_i 267 (by decide +kernel) rfl⟩
theorem ffX6_17 : fm_FF RX6 17 6 1 := ⟨_, rfl, by decide, wA_i 267 (by decide +kernel) rfl, rfl, rfl⟩
theorem flX9_42 : fm_FL RX9 42 6 1 := ⟨_, rfl, by decide, wA_i 268 (by decide +kernel) rfl⟩
theorem flX6_23 : fm_FL RX6 23 6 2 := ⟨_, rfl, by decide, wA_i 269 (by decide +kernel) rfl⟩
theorem ffX6_23 : fm_FF RX6 23 6 2 := ⟨_, rfl, by decide, wA_i 269 (by decide +kernel) rfl, rfl, rfl⟩
theorem flX9_52 : fm_FL RX9 52 6 2 := ⟨_, rfl, by decide, wA_i 270 (by decide +kernel) rfl⟩
theorem flX6_29 : fm_FL RX6 29 6 3 := ⟨_, rfl, by decide, wA_i 271 (by decide +kernel) rfl⟩
theorem ffX6_29 : fm_FF RX6 29 6 3 := ⟨_, rfl, by decide, wA_i 271 (by decide +kernel) rfl, rfl, rfl⟩
theorem flX9_117 : fm_FL RX9 117 6 3 := ⟨_, rfl, by decide, wA_i 272 (by decide +kernel) rfl⟩
theorem flX6_35 : fm_FL RX6 35 6 4 := ⟨_, rfl, by decide, wA_i 273 (by decide +kernel) rfl⟩
theorem ffX6_35 : fm_FF RX6 35 6 4 := ⟨_, rfl, by decide, wA_i 273 (by decide +kernel) rfl, rfl, rfl⟩
theorem flX9_71 : fm_FL RX9 71 6 4 := ⟨_, rfl, by decide, wA_i 274 (by decide +kernel) rfl⟩
theorem flX6_53 : fm_FL RX6 53 6 5 := ⟨_, rfl, by decide, wA_i 275 (by decide +kernel) rfl⟩
theorem ffX6_53 : fm_FF RX6 53 6 5 := ⟨_, rfl, by decide, wA_i 275 (by decide +kernel) rfl, rfl, rfl⟩
theorem flX9_173 : fm_FL RX9 173 6 5 := ⟨_, rfl, by decide, wA_i 276 (by decide +kernel) rfl⟩
theorem flX6_39 : fm_FL RX6 39 6 6 := ⟨_, rfl, by decide, wA_i 277 (by decide +kernel) rfl⟩
theorem fwX6_39 : fm_FW RX6 39 6 6 := ⟨_, rfl, by decide, wA_i 277 (by decide +kernel) rfl, rfl⟩
theorem flX9_68 : fm_FL RX9 68 6 6 := ⟨_, rfl, by decide, wA_i 278 (by decide +kernel) rfl⟩
theorem fwX9_68 : fm_FW RX9 68 6 6 := ⟨_, rfl, by decide, wA_i 278 (by decide +kernel) rfl, rfl⟩
theorem flX2_11 : fm_FL RX2 11 2 0 := ⟨_, rfl, by decide, wA_i 303 (by decide +kernel) rfl⟩
theorem ffX2_11 : fm_FF RX2 11 2 0 := ⟨_, rfl, by decide, wA_i 303 (by decide +kernel) rfl, rfl, rfl⟩
theorem flX2_17 : fm_FL RX2 17 2 1 := ⟨_, rfl, by decide, wA_i 304 (by decide +kernel) rfl⟩
theorem fwX2_17 : fm_FW RX2 17 2 1 := ⟨_, rfl, by decide, wA_i 304 (by decide +kernel) rfl, rfl⟩
theorem flX2_21 : fm_FL RX2 21 2 2 := ⟨_, rfl, by decide, wA_i 305 (by decide +kernel) rfl⟩
theorem fwX2_21 : fm_FW RX2 21 2 2 := ⟨_, rfl, by decide, wA_i 305 (by decide +kernel) rfl, rfl⟩
theorem flX9_169 : fm_FL RX9 169 2 2 := ⟨_, rfl, by decide, wA_i 306 (by decide +kernel) rfl⟩
theorem fwX9_169 : fm_FW RX9 169 2 2 := ⟨_, rfl, by decide, wA_i 306 (by decide +kernel) rfl, rfl⟩
theorem flX1_9 : fm_FL RX1 9 1 0 := ⟨_, rfl, by decide, wA_i 320 (by decide +kernel) rfl⟩
theorem ffX1_9 : fm_FF RX1 9 1 0 := ⟨_, rfl, by decide, wA_i 320 (by decide +kernel) rfl, rfl, rfl⟩
theorem flX9_138 : fm_FL RX9 138 1 0 := ⟨_, rfl, by decide, wA_i 321 (by decide +kernel) rfl⟩
theorem flX1_15 : fm_FL RX1 15 1 1 := ⟨_, rfl, by decide, wA_i 322 (by decide +kernel) rfl⟩
theorem fwX1_15 : fm_FW RX1 15 1 1 := ⟨_, rfl, by decide, wA_i 322 (by decide +kernel) rfl, rfl⟩
theorem flX9_137 : fm_FL RX9 137 1 1 := ⟨_, rfl, by decide, wA_i 323 (by decide +kernel) rfl⟩
theorem fwX9_137 : fm_FW RX9 137 1 1 := ⟨_, rfl, by decide, wA_i 323 (by decide +kernel) rfl, rfl⟩
theorem flX9_10 : fm_FL RX9 10 9 0 := ⟨_, rfl, by decide, wA_i 329 (by decide +kernel) rfl⟩
theorem ffX9_10 : fm_FF RX9 10 9 0 := ⟨_, rfl, by decide, wA_i 329 (by decide +kernel) rfl, rfl, rfl⟩
theorem flX9_19 : fm_FL RX9 19 9 1 := ⟨_, rfl, by decide, wA_i 330 (by decide +kernel) rfl⟩
theorem ffX9_19 : fm_FF RX9 19 9 1 := ⟨_, rfl, by decide, wA_i 330 (by decide +kernel) rfl, rfl, rfl⟩
theorem flX9_26 : fm_FL RX9 26 9 2 := ⟨_, rfl, by decide, wA_i 331 (by decide +kernel) rfl⟩
theorem ffX9_26 : fm_FF RX9 26 9 2 := ⟨_, rfl, by decide, wA_i 331 (by decide +kernel) rfl, rfl, rfl⟩
theorem flX10_7 : fm_FL RX10 7 10 0 := ⟨_, rfl, by decide, wA_i 934 (by decide +kernel) rfl⟩
theorem ffX10_7 : fm_FF RX10 7 10 0 := ⟨_, rfl, by decide, wA_i 934 (by decide +kernel) rfl, rfl, rfl⟩
theorem flX10_13 : fm_FL RX10 13 10 1 := ⟨_, rfl, by decide, wA_i 935 (by decide +kernel) rfl⟩
theorem ffX10_13 : fm_FF RX10 13 10 1 := ⟨_, rfl, by decide, wA_i 935 (by decide +kernel) rfl, rfl, rfl⟩
theorem flX10_16 : fm_FL RX10 16 10 2 := ⟨_, rfl, by decide, wA_i 936 (by decide +kernel) rfl⟩
theorem ffX10_16 : fm_FF RX10 16 10 2 := ⟨_, rfl, by decide, wA_i 936 (by decide +kernel) rfl, rfl, rfl⟩
theorem flX10_38 : fm_FL RX10 38 10 3 := ⟨_, rfl, by decide, wA_i 937 (by decide +kernel) rfl⟩
theorem fwX10_38 : fm_FW RX10 38 10 3 := ⟨_, rfl, by decide, wA_i 937 (by decide +kernel) rfl, rfl⟩
theorem flX10_19 : fm_FL RX10 19 10 4 := ⟨_, rfl, by decide, wA_i 938 (by decide +kernel) rfl⟩
theorem ffX10_19 : fm_FF RX10 19 10 4 := ⟨_, rfl, by decide, wA_i 938 (by decide +kernel) rfl, rfl, rfl⟩
theorem flX10_125 : fm_FL RX10 125 10 5 := ⟨_, rfl, by decide, wA_i 939 (by decide +kernel) rfl⟩
theorem fwX10_125 : fm_FW RX10 125 10 5 := ⟨_, rfl, by decide, wA_i 939 (by decide +kernel) rfl, rfl⟩
theorem flX10_34 : fm_FL RX10 34 10 6 := ⟨_, rfl, by decide, wA_i 940 (by decide +kernel) rfl⟩
theorem fwX10_34 : fm_FW RX10 34 10 6 := ⟨_, rfl, by decide, wA_i 940 (by decide +kernel) rfl, rfl⟩
theorem flX10_22 : fm_FL RX10 22 10 7 := ⟨_, rfl, by decide, wA_i 941 (by decide +kernel) rfl⟩
theorem ffX10_22 : fm_FF RX10 22 10 7 := ⟨_, rfl, by decide, wA_i 941 (by decide +kernel) rfl, rfl, rfl⟩
theorem flX10_25 : fm_FL RX10 25 10 8 := ⟨_, rfl, by decide, wA_i 942 (by decide +kernel) rfl⟩
theorem ffX10_25 : fm_FF RX10 25 10 8 := ⟨_, rfl, by decide, wA_i 942 (by decide +kernel) rfl, rfl, rfl⟩
theorem flX10_49 : fm_FL RX10 49 10 9 := ⟨_, rfl, by decide, wA_i 943 (by decide +kernel) rfl⟩
theorem fwX10_49 : fm_FW RX10 49 10 9 := ⟨_, rfl, by decide, wA_i 943 (by decide +kernel) rfl, rfl⟩
theorem flX10_52 : fm_FL RX10 52 10 10 := ⟨_, rfl, by decide, wA_i 944 (by decide +kernel) rfl⟩
theorem fwX10_52 : fm_FW RX10 52 10 10 := ⟨_, rfl, by decide, wA_i 944 (by decide +kernel) rfl, rfl⟩
theorem flX10_28 : fm_FL RX10 28 10 11 := ⟨_, rfl, by decide, wA_i 945 (by decide +kernel) rfl⟩
theorem ffX10_28 : fm_FF RX10 28 10 11 := ⟨_, rfl, by decide, wA_i 945 (by decide +kernel) rfl, rfl, rfl⟩
theorem flX10_128 : fm_FL RX10 128 10 12 := ⟨_, rfl, by decide, wA_i 946 (by decide +kernel) rfl⟩
theorem fwX10_128 : fm_FW RX10 128 10 12 := ⟨_, rfl, by decide, wA_i 946 (by decide +kernel) rfl, rfl⟩
theorem flX10_131 : fm_FL RX10 131 10 13 := ⟨_, rfl, by decide, wA_i 947 (by decide +kernel) rfl⟩
theorem fwX10_131 : fm_FW RX10 131 10 13 := ⟨_, rfl, by decide, wA_i 947 (by decide +kernel) rfl, rfl⟩
theorem flX10_31 : fm_FL RX10 31 10 14 := ⟨_, rfl, by decide, wA_i 948 (by decide +kernel) rfl⟩
theorem ffX10_31 : fm_FF RX10 31 10 14 := ⟨_, rfl, by decide, wA_i 948 (by decide +kernel) rfl, rfl, rfl⟩
theorem flX10_231 : fm_FL RX10 231 10 15 := ⟨_, rfl, by decide, wA_i 949 (by decide +kernel) rfl⟩
theorem fwX10_231 : fm_FW RX10 231 10 15 := ⟨_, rfl, by decide, wA_i 949 (by decide +kernel) rfl, rfl⟩
end
section
/-! ROWS OF G over the flat memory. -/
theorem cx_w {l : Launch} {M : MI} {p : Program} {s : State} {mm : MethodId} {args : Array Value} {meth : Method} {c : Code} (C : Cx l M p s mm args meth c) {w : Cond} (h : w ∈ wA) : w.before args s = true := C.2.2.2.2.2.1 _ (List.mem_cons_of_mem _ h)
theorem ix_in {i : Int32} {j n : Nat} (hi : i.toInt = (j : Int)) (hj : j < n) : ¬ (i < 0 ∨ n ≤ i.toNatClampNeg) ∧ i.toNatClampNeg = j := by
  have e : i.toNatClampNeg = j := by show i.toInt.toNat = j; omega
  refine ⟨fun q => ?_, e⟩
  rcases q with q | q
  · have := Int32.lt_iff_toInt_lt.mp q
    rw [hi] at this
    have h0 : (0 : Int32).toInt = 0 := rfl
    omega
  · omega
theorem fm_noO {s : State} {k : Nat × Nat} {I : Nat → Int32} {R : Nat → Option Nat} {J : Nat → Int64} {oc : Option Cell} (hk : k.1 < 11) (h : ∃ (r : vw_C) (cC : ClassId) (iS : Nat → Nat) (cell : Cell), vwCl[k.1]? = some r ∧ u_Kn s r.1 r.2.1 r.2.2 cC iS ∧ oc = some cell ∧ cell.cls = cC ∧ cell.vm = .none ∧ ∀ j, j < r.2.2 → cell.slots[iS j]? = some (fm_fv (fm_ty k.1 j) I R J j)) : fm_cell s k I R J oc :=
  ⟨fun _ => h, fun z => absurd z (by omega), fun z => absurd z (by omega), fun z => absurd z (by omega), fun z => absurd z (by omega)⟩
section GHEAP
variable {g : Gp} {M : MI} {Q : Rs → Mm → Prop} {pc : Nat} {L : List (Nat × Value)} {st : List Value} {u : Nat × Nat} {m : Mm} {a : Nat}
theorem g_getv {i c k : Nat} (fl : fm_FL (mY M).cls i c k) (ht : (tg m a).1 = c) (hdg : decode (mC M) pc = .ok (.getfield i, 3)) (kk : G g M Q (pc + 3) L (fm_fv (fm_ty c k) (im m a) (rf m a) (jm m a) k :: st) u m) : G g M Q pc L (.ref a :: st) u m := by
  intro p l e s mm args below meth c0 H locs ls C hW hB hS hl
  obtain ⟨r, hr, hk, hlk⟩ := fl
  obtain ⟨hin, hty, hnm, hc⟩ := fm_C hr
  subst ht
  obtain ⟨r', cC, iS, cell, e1, ⟨hSl, hcl⟩, e3, e4, e5, e6⟩ := (hW.2.2.2 a).1 hc
  cases Option.some.inj (e1.symm.trans hr)
  obtain ⟨cf, kf, fi, f, hi, hsl⟩ := hSl k hk
  obtain ⟨hfc, kC, hkC, hkind⟩ := hcl
  refine W.getf C.1 C.2.1 C.2.2.2.2.1 (cx_w C hlk) hi (u_facts hfc hkC (u_lays (fun w h => cx_w C h) hin hk) hi).1 e3 (by rw [e5]; exact fun h => by cases h) (v := fm_fv (fm_ty (tg m a).1 k) (im m a) (rf m a) (jm m a) k) ?_ rfl rfl hdg (kk p l e s mm args below meth c0 H locs ls C hW hB hS hl)
  rw [hsl]; exact e6 k hk
theorem g_getI {i c k : Nat} (fl : fm_FL (mY M).cls i c k) (hty : fm_ty c k = .int) (ht : (tg m a).1 = c) (hdg : decode (mC M) pc = .ok (.getfield i, 3)) (kk : G g M Q (pc + 3) L (.int (im m a k) :: st) u m) : G g M Q pc L (.ref a :: st) u m :=
  g_getv fl ht hdg (by rw [hty]; exact kk)
theorem g_getJ {i c k : Nat} (fl : fm_FL (mY M).cls i c k) (hty : fm_ty c k = .long) (ht : (tg m a).1 = c) (hdg : decode (mC M) pc = .ok (.getfield i, 3)) (kk : G g M Q (pc + 3) L (.long (jm m a k) :: st) u m) : G g M Q pc L (.ref a :: st) u m :=
  g_getv fl ht hdg (by rw [hty]; exact kk)
theorem g_getR {i c k : Nat} (q : Nat) (fl : fm_FL (mY M).cls i c k) (hty : ∀ I R J, fm_fv (fm_ty c k) I R J k = va_rf (R k)) (ht : (tg m a).1 = c) (hr : rf m a k = some q) (hdg : decode (mC M) pc = .ok (.getfield i, 3)) (kk : G g M Q (pc + 3) L (.ref q :: st) u m) : G g M Q pc L (.ref a :: st) u m :=
  g_getv fl ht hdg (by rw [hty, hr]; exact kk)
theorem g_putv {i c k : Nat} {v : Value} {m1 : Mm} (fw : fm_FW (mY M).cls i c k) (ht : (tg m a).1 = c) (hn : narrow (fm_ty c k) v = v) (hfit : fits (fm_ty c k) v = true)
    (hm : ∀ j, fm_fv (fm_ty c j) (im m1 a) (rf m1 a) (jm m1 a) j = if j = k then v else fm_fv (fm_ty c j) (im m a) (rf m a) (jm m a) j)
    (ez : fz m1 = fz m) (et : tg m1 = tg m) (ei : ∀ q, q ≠ a → im m1 q = im m q) (er : ∀ q, q ≠ a → rf m1 q = rf m q) (ej : ∀ q, q ≠ a → jm m1 q = jm m q)
    (hdg : decode (mC M) pc = .ok (.putfield i, 3)) (kk : G g M Q (pc + 3) L st u m1) : G g M Q pc L (v :: .ref a :: st) u m := by
  intro p l e s mm args below meth c0 H locs ls C hW hB hS hl
  obtain ⟨r, hr, hk, hlk, hfin⟩ := fw
  obtain ⟨hin, hty, hnm, hc⟩ := fm_C hr
  subst ht
  obtain ⟨r', cC, iS, cell, e1, hKn, e3, e4, e5, e6⟩ := (hW.2.2.2 a).1 hc
  cases Option.some.inj (e1.symm.trans hr)
  have hts : ∀ w ∈ wA, w.before args s = true := fun w h => cx_w C h
  have hap : ∀ x y, x < r.2.2 → y < r.2.2 → x ≠ y → iS x ≠ iS y := by
    intro x y hx hy hne
    obtain ⟨_, _, _, fa, hia, ea⟩ := hKn.1 x hx
    obtain ⟨_, _, _, fb, hib, eb⟩ := hKn.1 y hy
    rw [← ea, ← eb]
    refine u_apart (u_lays hts hin hx) (u_lays hts hin hy) hia hib ?_
    rw [(State.fieldFound?_type hia (hty x hx)).1, (State.fieldFound?_type hib (hty y hy)).1]
    exact hnm x hx y hy hne
  obtain ⟨cf, kf, fi, f, hi, hsl⟩ := hKn.1 k hk
  obtain ⟨hfc, kC, hkC, hkind⟩ := id hKn.2
  have hlay := hts _ (hin _ (u_in_lay hk))
  unfold u_lay at hlay
  rw [if_neg (by rw [hfin]; decide)] at hlay
  have hst := (u_facts hfc hkC (u_lays hts hin hk) hi).1
  have h6 := u_store hfc hkC hkind hlay hi (hty k hk) hn hfit
  refine W.putK C.1 C.2.1 (f := f) ⟨C.2.2.2.2.1, cx_w C hlk, ⟨_, _, _, hi⟩, hst⟩ (by rw [e4]; exact h6) e3 e5 (by rw [hsl]; exact k2_hasslot (e6 k hk)) rfl rfl hdg fun H' w1 w2 w3 => ?_
  refine kk p l e s mm args below meth c0 H' _ ls C (hW.set w2 w3 ez et ei er ej (fm_noO hc ⟨_, cC, iS, _, e1, hKn, w1, e4, e5, fun j hj => ?_⟩)) hB (hS.put w2 w3 (hW.2.2.1 a (by omega))) hl
  rw [hm j]
  have h9 := t_set e6 hap hk v j hj
  rw [hsl]
  exact h9
theorem g_putI {i c k : Nat} {x : Int32} (fw : fm_FW (mY M).cls i c k) (hty : fm_ty c k = .int) (ht : (tg m a).1 = c) (hdg : decode (mC M) pc = .ok (.putfield i, 3)) (kk : G g M Q (pc + 3) L st u (sI m a k x)) : G g M Q pc L (.int x :: .ref a :: st) u m := by
  refine g_putv (m1 := sI m a k x) fw ht (by rw [hty]; rfl) (by rw [hty]; rfl) (fun j => ?_) rfl rfl (fun q hq => u2_o _ _ _ _ hq) (fun _ _ => rfl) (fun _ _ => rfl) hdg kk
  by_cases h : j = k
  · subst h
    rw [if_pos rfl, hty]
    show Value.int (u2 (im m) a j x a j) = _
    rw [u2_s]
  · rw [if_neg h]
    show fm_fv (fm_ty c j) (u2 (im m) a k x a) (rf m a) (jm m a) j = _
    cases fm_ty c j <;> simp only [fm_fv]
    all_goals rw [u2_n _ _ _ _ (fun z => h z.2)]
theorem g_putJ {i c k : Nat} {x : Int64} (fw : fm_FW (mY M).cls i c k) (hty : fm_ty c k = .long) (ht : (tg m a).1 = c) (hdg : decode (mC M) pc = .ok (.putfield i, 3)) (kk : G g M Q (pc + 3) L st u (sJ m a k x)) : G g M Q pc L (.long x :: .ref a :: st) u m := by
  refine g_putv (m1 := sJ m a k x) fw ht (by rw [hty]; rfl) (by rw [hty]; rfl) (fun j => ?_) rfl rfl (fun _ _ => rfl) (fun _ _ => rfl) (fun q hq => u2_o _ _ _ _ hq) hdg kk
  by_cases h : j = k
  · subst h
    rw [if_pos rfl, hty]
    show Value.long (u2 (jm m) a j x a j) = _
    rw [u2_s]
  · rw [if_neg h]
    show fm_fv (fm_ty c j) (im m a) (rf m a) (u2 (jm m) a k x a) j = _
    cases fm_ty c j <;> simp only [fm_fv]
    all_goals rw [u2_n _ _ _ _ (fun z => h z.2)]
/-- a reference type -/
def fm_rt : FieldType → Bool
  | .object _ => true
  | .array _ => true
  | _ => false
theorem g_putR {i c k q : Nat} (fw : fm_FW (mY M).cls i c k) (hty : fm_rt (fm_ty c k) = true) (ht : (tg m a).1 = c) (hdg : decode (mC M) pc = .ok (.putfield i, 3)) (kk : G g M Q (pc + 3) L st u (sR m a k (some q))) : G g M Q pc L (.ref q :: .ref a :: st) u m := by
  refine g_putv (m1 := sR m a k (some q)) fw ht (by cases h : fm_ty c k <;> rw [h] at hty <;> first | rfl | cases hty) (by cases h : fm_ty c k <;> rw [h] at hty <;> first | rfl | cases hty) (fun j => ?_) rfl rfl (fun _ _ => rfl) (fun q hq => u2_o _ _ _ _ hq) (fun _ _ => rfl) hdg kk
  by_cases h : j = k
  · subst h
    rw [if_pos rfl]
    show fm_fv (fm_ty c j) (im m a) (u2 (rf m) a j (some q) a) (jm m a) j = _
    cases h : fm_ty c j <;> rw [h] at hty <;> first | (simp only [fm_fv]; rw [u2_s]; rfl) | cases hty
  · rw [if_neg h]
    show fm_fv (fm_ty c j) (im m a) (u2 (rf m) a k (some q) a) (jm m a) j = _
    cases fm_ty c j <;> simp only [fm_fv]
    all_goals rw [u2_n _ _ _ _ (fun z => h z.2)]
/-! ===== arrays ===== -/
theorem g_iald {i : Int32} (j : Nat) (ht : (tg m a).1 = 11) (hi : i.toInt = (j : Int)) (hj : j < (tg m a).2) (hdg : decode (mC M) pc = .ok (.iaload, 1)) (kk : G g M Q (pc + 1) L (.int (im m a j) :: st) u m) : G g M Q pc L (.int i :: .ref a :: st) u m := by
  intro p l e s mm args below meth c0 H locs ls C hW hB hS hl
  obtain ⟨cA, e1, e2⟩ := (hW.2.2.2 a).2.1 ht
  obtain ⟨h1, h2⟩ := ix_in hi hj
  exact W.iald (v := .int (im m a j)) C.1 C.2.1 e1 (e2 _ _) (fun q => by cases q) (by rw [arrV_size]; exact h1) (by rw [h2, arrV_read _ _ hj]) rfl rfl hdg (kk p l e s mm args below meth c0 H locs ls C hW hB hS hl)
theorem g_iald19 {i : Int32} (j : Nat) (ht : (tg m a).1 = 19) (hi : i.toInt = (j : Int)) (hj : j < (tg m a).2) (hdg : decode (mC M) pc = .ok (.iaload, 1)) (kk : G g M Q (pc + 1) L (.int (im m a j) :: st) u m) : G g M Q pc L (.int i :: .ref a :: st) u m := by
  intro p l e s mm args below meth c0 H locs ls C hW hB hS hl
  obtain ⟨scr, e1, e2, e3, e4, e5⟩ := (hW.2.2.2 a).2.2.2.2 ht
  obtain ⟨h1, h2⟩ := ix_in hi hj
  exact W.iald (v := .int (im m a j)) C.1 C.2.1 e1 e2 e3 (by rw [e4]; exact h1) (by rw [h2]; exact e5 j hj) rfl rfl hdg (kk p l e s mm args below meth c0 H locs ls C hW hB hS hl)
theorem g_lald {i : Int32} (j : Nat) (ht : (tg m a).1 = 18) (hi : i.toInt = (j : Int)) (hj : j < (tg m a).2) (hdg : decode (mC M) pc = .ok (.laload, 1)) (kk : G g M Q (pc + 1) L (.long (jm m a j) :: st) u m) : G g M Q pc L (.int i :: .ref a :: st) u m := by
  intro p l e s mm args below meth c0 H locs ls C hW hB hS hl
  obtain ⟨cA, e1, e2⟩ := (hW.2.2.2 a).2.2.1 ht
  obtain ⟨h1, h2⟩ := ix_in hi hj
  exact W.lald (v := .long (jm m a j)) C.1 C.2.1 e1 (e2 _ _) (fun q => by cases q) (by rw [arrV_size]; exact h1) (by rw [h2, arrV_read _ _ hj]) rfl rfl hdg (kk p l e s mm args below meth c0 H locs ls C hW hB hS hl)
theorem g_aald {i : Int32} (j q : Nat) (ht : 11 < (tg m a).1 ∧ (tg m a).1 < 18) (hi : i.toInt = (j : Int)) (hj : j < (tg m a).2) (hq : rf m a j = some q) (hdg : decode (mC M) pc = .ok (.aaload, 1)) (kk : G g M Q (pc + 1) L (.ref q :: st) u m) : G g M Q pc L (.int i :: .ref a :: st) u m := by
  intro p l e s mm args below meth c0 H locs ls C hW hB hS hl
  obtain ⟨cA, e1, e2, -⟩ := (hW.2.2.2 a).2.2.2.1 ht
  obtain ⟨h1, h2⟩ := ix_in hi hj
  exact W.aald (v := .ref q) (ty := .object (fm_el (tg m a).1)) C.1 C.2.1 e1 (e2 _ _) rfl (fun q => by cases q) (by rw [arrV_size]; exact h1) (by rw [h2, arrV_read _ _ hj, hq]; rfl) rfl rfl hdg (kk p l e s mm args below meth c0 H locs ls C hW hB hS hl)
theorem g_alen (ht : 11 ≤ (tg m a).1 ∧ (tg m a).1 < 20) (hdg : decode (mC M) pc = .ok (.arraylength, 1)) (kk : G g M Q (pc + 1) L (.int (nI (tg m a).2) :: st) u m) : G g M Q pc L (.ref a :: st) u m := by
  intro p l e s mm args below meth c0 H locs ls C hW hB hS hl
  have K := kk p l e s mm args below meth c0 H locs ls C hW hB hS hl
  obtain ⟨-, h2, h3, h4, h5⟩ := hW.2.2.2 a
  by_cases q2 : (tg m a).1 = 11
  · obtain ⟨cA, e1, e2⟩ := h2 q2
    exact W.alen (n := nI (tg m a).2) C.1 C.2.1 e1 (e2 _ _) (by rw [arrV_size]; rfl) rfl rfl hdg K
  · by_cases q3 : (tg m a).1 = 18
    · obtain ⟨cA, e1, e2⟩ := h3 q3
      exact W.alen (n := nI (tg m a).2) C.1 C.2.1 e1 (e2 _ _) (by rw [arrV_size]; rfl) rfl rfl hdg K
    · by_cases q4 : (tg m a).1 = 19
      · obtain ⟨scr, e1, e2, e3, e4, e5⟩ := h5 q4
        exact W.alen (n := nI (tg m a).2) C.1 C.2.1 e1 e2 (by rw [e4]; rfl) rfl rfl hdg K
      · obtain ⟨cA, e1, e2, -⟩ := h4 (by omega)
        exact W.alen (n := nI (tg m a).2) C.1 C.2.1 e1 (e2 _ _) (by rw [arrV_size]; rfl) rfl rfl hdg K
theorem g_iast {i x : Int32} (j : Nat) (ht : (tg m a).1 = 11) (hi : i.toInt = (j : Int)) (hj : j < (tg m a).2) (hdg : decode (mC M) pc = .ok (.iastore, 1)) (kk : G g M Q (pc + 1) L st u (sI m a j x)) : G g M Q pc L (.int x :: .int i :: .ref a :: st) u m := by
  intro p l e s mm args below meth c0 H locs ls C hW hB hS hl
  obtain ⟨cA, e1, e2⟩ := (hW.2.2.2 a).2.1 ht
  obtain ⟨h1, h2⟩ := ix_in hi hj
  refine W.iast C.1 C.2.1 e1 (e2 _ _) (fun q => by cases q) (by rw [arrV_size]; exact h1) rfl rfl hdg fun H1 w1 w2 w3 => ?_
  refine kk p l e s mm args below meth c0 H1 _ ls C (hW.set (m1 := sI m a j x) w2 w3 rfl rfl (fun q hq => u2_o _ _ _ _ hq) (fun _ _ => rfl) (fun _ _ => rfl) ⟨fun z => absurd z (by omega), fun _ => ⟨cA, ?_, e2⟩, fun z => absurd z (by omega), fun z => absurd z (by omega), fun z => absurd z (by omega)⟩) hB (hS.put w2 w3 (hW.2.2.1 a (by omega))) hl
  rw [w1, arrV_store, h2]
  congr 2
  funext q
  show updV _ j (.int x) q = .int (u2 (im m) a j x a q)
  by_cases hq : q = j
  · subst hq
    rw [u2_s]; simp [updV]
  · rw [u2_n _ _ _ _ (fun z => hq z.2)]; simp [updV, hq]
theorem g_last {i : Int32} {x : Int64} (j : Nat) (ht : (tg m a).1 = 18) (hi : i.toInt = (j : Int)) (hj : j < (tg m a).2) (hdg : decode (mC M) pc = .ok (.lastore, 1)) (kk : G g M Q (pc + 1) L st u (sJ m a j x)) : G g M Q pc L (.long x :: .int i :: .ref a :: st) u m := by
  intro p l e s mm args below meth c0 H locs ls C hW hB hS hl
  obtain ⟨cA, e1, e2⟩ := (hW.2.2.2 a).2.2.1 ht
  obtain ⟨h1, h2⟩ := ix_in hi hj
  refine W.last C.1 C.2.1 e1 (e2 _ _) (fun q => by cases q) (by rw [arrV_size]; exact h1) rfl rfl hdg fun H1 w1 w2 w3 => ?_
  refine kk p l e s mm args below meth c0 H1 _ ls C (hW.set (m1 := sJ m a j x) w2 w3 rfl rfl (fun _ _ => rfl) (fun _ _ => rfl) (fun q hq => u2_o _ _ _ _ hq) ⟨fun z => absurd z (by omega), fun z => absurd z (by omega), fun _ => ⟨cA, ?_, e2⟩, fun z => absurd z (by omega), fun z => absurd z (by omega)⟩) hB (hS.put w2 w3 (hW.2.2.1 a (by omega))) hl
  rw [w1, arrV_store, h2]
  congr 2
  funext q
  show updV _ j (.long x) q = .long (u2 (jm m) a j x a q)
  by_cases hq : q = j
  · subst hq
    rw [u2_s]; simp [updV]
  · rw [u2_n _ _ _ _ (fun z => hq z.2)]; simp [updV, hq]
theorem g_aast {i : Int32} {v : Nat} (j : Nat) {r : vw_C} (ht : 11 < (tg m a).1 ∧ (tg m a).1 < 18) (hi : i.toInt = (j : Int)) (hj : j < (tg m a).2) (hr : vwCl[(tg m v).1]? = some r) (hre : r.1 = fm_el (tg m a).1) (hdg : decode (mC M) pc = .ok (.aastore, 1)) (kk : G g M Q (pc + 1) L st u (sR m a j (some v))) : G g M Q pc L (.ref v :: .int i :: .ref a :: st) u m := by
  intro p l e s mm args below meth c0 H locs ls C hW hB hS hl
  obtain ⟨cA, e1, e2, kA, comp, k1, k2, k3, k4⟩ := (hW.2.2.2 a).2.2.2.1 ht
  obtain ⟨h1, h2⟩ := ix_in hi hj
  obtain ⟨-, -, -, hc⟩ := fm_C hr
  obtain ⟨r', cC, iS, cellV, q1, ⟨-, hcls⟩, q3, q4, q5, -⟩ := (hW.2.2.2 v).1 hc
  cases Option.some.inj (q1.symm.trans hr)
  have hcomp : comp = cC := Option.some.inj ((by rw [hre]; exact k3.symm : some comp = s.vm.findClass r.1).trans hcls.1)
  subst hcomp
  obtain ⟨kC, hkC, -⟩ := hcls.2
  refine W.aast C.1 C.2.1 e1 (fun q h => by cases h) (fun h => by cases h) k1 k2 rfl hkC ⟨fun z => h1 (Or.inl z), by rw [arrV_size, h2]; exact hj⟩ q3 (fun q h => by rw [q5] at h; cases h) (by rw [q4]; exact hkC) (by rw [q4]; exact va_assign hcls) rfl rfl hdg fun H1 w1 w2 w3 => ?_
  refine kk p l e s mm args below meth c0 H1 _ ls C (hW.set (m1 := sR m a j (some v)) w2 w3 rfl rfl (fun _ _ => rfl) (fun q hq => u2_o _ _ _ _ hq) (fun _ _ => rfl) ⟨fun z => absurd z (by omega), fun z => absurd z (by omega), fun z => absurd z (by omega), fun _ => ⟨cA, ?_, e2, kA, comp, k1, k2, k3, k4⟩, fun z => absurd z (by omega)⟩) hB (hS.put w2 w3 (hW.2.2.1 a (by omega))) hl
  rw [w1, arrV_store, h2]
  congr 2
  funext q
  show updV _ j (.ref v) q = va_rf (u2 (rf m) a j (some v) a q)
  by_cases hq : q = j
  · subst hq
    rw [u2_s]; simp [updV, va_rf]
  · rw [u2_n _ _ _ _ (fun z => hq z.2)]; simp [updV, hq]
end GHEAP
end
section
/-! kit/laws/EXCEPTIONS.to-paste, the constructors and the nest mates (pasted whole) -/
/-! ===== BEGIN a constructor that throws (launches without stack traces) ===== -/
section VXIA
variable {p : Program} {l : Launch} {e : Env} {R : Room} {s : State} {m : MethodId} {args : Array Value} {below : List Frame} {meth : Method} {c : Code} {T : State} {locs : List Loc} {cells slots : Nat}
theorem vx_callI (X : Stand p l e R s m args below meth c T locs cells slots) (hexec : p.tables.exec = Jvm.exec) {own : String} {index : Nat} {y : MethodName} {bytes : ByteArray} {maxL : Nat}
    (hown : s.vm.findClass own = some m.cls) (hy1 : y.name = "<init>") (hlink : (Cond.methodLink own index y).before args s = true) (hinst : (Cond.instanceMethod y).before args s = true)
    (hcode : (Cond.code y bytes maxL none).before args s = true) (hy : y.cls ≠ "java/lang/invoke/MethodHandle" ∧ y.cls ≠ "java/lang/invoke/VarHandle")
    {W9 : Nat} {Pre : Pt → Array Value → Prop} {Post : Pt → Array Value → Option Value → Pt → Prop} {PostX : Pt → Array Value → Addr → Pt → Prop} (hK : vx_Back l R p e below s args y 3 W9 Pre Post PostX)
    {g : JFrame} (hg : g.method = m) (hsize : g.locals.size = c.maxLocals) {a : Addr} {argsL rest : List Value} (hlen : ∀ sig, parseMethodDescriptor y.desc = some sig → argsL.length = sig.parameters.length)
    (hstack : g.stack = argsL.reverse ++ .ref a :: rest) (hW : 2 * g.monitorRoom + (rest.map fun v => v.category).sum ≤ W9) (hdg : decode c.code g.pc = .ok (.invokespecial index, 3))
    (hpre : ∀ vm₁, s.WarmedH vm₁ → Pre ⟨T.setVm vm₁, locs, cells, slots⟩ (Value.ref a :: argsL).toArray) :
    (∃ (v : Option Value) (vm₁ : Vm) (B : Pt), s.WarmedH vm₁ ∧ Stand p l e R s m args below meth c B.U B.locs B.cells B.slots ∧ Post ⟨T.setVm vm₁, locs, cells, slots⟩ (Value.ref a :: argsL).toArray v B ∧
      ∀ target, Steps p.tables e below (B.U.setTop { g with pc := g.pc + 3, stack := v.toList ++ rest }) target → Steps p.tables e below (T.setTop g) target) ∨
    (∃ (q : Addr) (vm₁ : Vm) (B : Pt), s.WarmedH vm₁ ∧ Stand p l e R s m args below meth c B.U B.locs B.cells B.slots ∧ PostX ⟨T.setVm vm₁, locs, cells, slots⟩ (Value.ref a :: argsL).toArray q B ∧
      Steps p.tables e below (T.setTop g) ((B.U.setTop { g with stack := rest }).pushFrame (.throwing q))) := by
  subst hg
  have hpl : e.platform.magicAccessors = ({} : Platform).magicAccessors := by rw [X.admits.platform]
  obtain ⟨mk, methM, cM, kP, vm₁, hnamed, hmethM, hcodeM, -, hlocalsM, -, hkP, -, hW₁, hstep₁⟩ := Steps.initColdArgs (e := e) X.here hexec X.warmed hpl hown hy1 hy hlink hinst hcode (f := g) rfl hlen hstack hdg
  have X₁ := X.noted hW₁
  rcases hK g.method meth c ⟨T.setVm vm₁, locs, cells, slots⟩ { g with stack := rest } (.invokespecial index) mk (Value.ref a :: argsL).toArray X₁ rfl hsize hdg hW (X₁.named hnamed) (hpre vm₁ X₁.warmed) with ⟨v, B, X', hpost, hsteps⟩ | ⟨q, B, X', hpost, hsteps⟩
  · exact Or.inl ⟨v, vm₁, B, X₁.warmed, X', hpost, fun target h => hstep₁ _ fun acts => by rw [doInvoke_state]; exact hsteps.trans h⟩
  · exact Or.inr ⟨q, vm₁, B, X₁.warmed, X', hpost, hstep₁ _ fun acts => by rw [doInvoke_state]; exact hsteps⟩
end VXIA
section VXIB
variable {p : Program} {l : Launch} {e : Env} {R : Room} {s : State} {m : MethodId} {args : Array Value} {below : List Frame} {meth : Method} {c : Code} {H : Heap} {locs : List Loc} {cells slots : Nat}
variable {y : MethodName} {bytes cc : ByteArray} {maxL nL mc ms n index : Nat} {ret : Option FieldType} {ws : List Cond} {rm : Room} {Pc : Array Value → State → Prop} {Qc : Array Value → State → Outcome → State → Prop} {XC : String → State → State → Prop} {free : Addr → Prop} {Ts : List Cond} {own C : String} {b : Addr} {As rest : List Value} {g : JFrame}
theorem vx_runI (S : CallFix p m c cc nL s args Ts own) (hM : vx_Met l y ws rm Pc Qc XC mc ms free) (cw : CallB R s args own index y bytes maxL none ws rm mc ms n ∧ y.name = "<init>" ∧ (Cond.instanceMethod y).before args s = true) (hp : PreS s H Pc (.ref b :: As))
    (hg : g.method = m) (hn : As.length = n) (hsize : g.locals.size = nL) (hstack : g.stack = As.reverse ++ .ref b :: rest) (hW : 2 * g.monitorRoom + (rest.map fun v => v.category).sum ≤ 8) (hdg : decode cc g.pc = .ok (.invokespecial index, 3)) (hf : cells + mc ≤ R.cells ∧ slots + ms ≤ R.slots) :
    vx_Run p l e R s m args below meth c H locs cells slots mc ms g rest (Qc (Value.ref b :: As).toArray) XC free := by
  have hK : vx_Back l R p e below s args y 3 8 (PreOf R mc ms Pc) (PostOf Qc mc ms free) (vx_Post XC mc ms free) := vx_callBack cw.1 hM hp.1
  obtain ⟨⟨-, -, -, -, -, -, hcode, -, hy, hlen, hl⟩, hy1, hin⟩ := cw
  obtain ⟨hx, hb, hml, ho, -⟩ := S
  have hPc := hp.2
  intro T hT X
  rcases vx_callI X hx (bytes := bytes) (maxL := maxL) ho hy1 hl hin hcode hy hK hg (hsize.trans hml.symm) (a := b) (argsL := As) (rest := rest) (fun sig h => hn.trans (hlen sig h)) hstack hW (by rw [hb]; exact hdg)
    (fun vm₁ hW₁ => ⟨hf.1, hf.2, hPc (T.setVm vm₁) hT hW₁⟩) with ⟨v, vm₁, ⟨U', l2, c2, s2⟩, hW₁, X', ⟨g', mk, t, L, e1, e2, hq, h1, hL, h2, h3⟩, st⟩ | ⟨q, vm₁, ⟨U', l2, c2, s2⟩, hW₁, X', ⟨g', mk, t, L, E, ce, e1, e2, hq, hce, hcv, hcl, h1, hL, h2, h3⟩, st⟩
  · dsimp only [Pt.U, Pt.locs, Pt.cells, Pt.slots] at X' e1 e2 h1 h2 h3 st
    subst h1; subst h2; subst h3
    exact Or.inl ⟨v, (T.setVm vm₁).calling g' mk (Value.ref b :: As).toArray, t, U', L, hT, X', hL, e1, e2, hq, st⟩
  · dsimp only [Pt.U, Pt.locs, Pt.cells, Pt.slots] at X' e1 e2 h1 h2 h3 st hcl
    subst h1; subst h2; subst h3
    exact Or.inr ⟨q, (T.setVm vm₁).calling g' mk (Value.ref b :: As).toArray, t, U', L, E, ce, hT, X', hL, e1, e2, hq, hce, hcv, vx_cls hW₁ hcl, st⟩
end VXIB
/-! ===== END ===== -/
/-! ===== BEGIN a private constructor of a nest mate that throws ===== -/
section VXIC
variable {p : Program} {l : Launch} {e : Env} {R : Room} {s : State} {m : MethodId} {args : Array Value} {below : List Frame} {meth : Method} {c : Code} {T : State} {locs : List Loc} {cells slots : Nat}
theorem vx_callIN (X : Stand p l e R s m args below meth c T locs cells slots) (hexec : p.tables.exec = Jvm.exec) {own : String} {index : Nat} {host : String} {y : MethodName} {bytes : ByteArray} {maxL : Nat}
    (hown : s.vm.findClass own = some m.cls) (hy1 : y.name = "<init>") (hlink : (Cond.methodLinkNest own index y host).before args s = true) (hinst : (Cond.instanceMethod y).before args s = true)
    (hcode : (Cond.code y bytes maxL none).before args s = true) (hy : y.cls ≠ "java/lang/invoke/MethodHandle" ∧ y.cls ≠ "java/lang/invoke/VarHandle")
    {W9 : Nat} {Pre : Pt → Array Value → Prop} {Post : Pt → Array Value → Option Value → Pt → Prop} {PostX : Pt → Array Value → Addr → Pt → Prop} (hK : vx_Back l R p e below s args y 3 W9 Pre Post PostX)
    {g : JFrame} (hg : g.method = m) (hsize : g.locals.size = c.maxLocals) {a : Addr} {argsL rest : List Value} (hlen : ∀ sig, parseMethodDescriptor y.desc = some sig → argsL.length = sig.parameters.length)
    (hstack : g.stack = argsL.reverse ++ .ref a :: rest) (hW : 2 * g.monitorRoom + (rest.map fun v => v.category).sum ≤ W9) (hdg : decode c.code g.pc = .ok (.invokespecial index, 3))
    (hpre : ∀ vm₁, s.WarmedH vm₁ → Pre ⟨T.setVm vm₁, locs, cells, slots⟩ (Value.ref a :: argsL).toArray) :
    (∃ (v : Option Value) (vm₁ : Vm) (B : Pt), s.WarmedH vm₁ ∧ Stand p l e R s m args below meth c B.U B.locs B.cells B.slots ∧ Post ⟨T.setVm vm₁, locs, cells, slots⟩ (Value.ref a :: argsL).toArray v B ∧
      ∀ target, Steps p.tables e below (B.U.setTop { g with pc := g.pc + 3, stack := v.toList ++ rest }) target → Steps p.tables e below (T.setTop g) target) ∨
    (∃ (q : Addr) (vm₁ : Vm) (B : Pt), s.WarmedH vm₁ ∧ Stand p l e R s m args below meth c B.U B.locs B.cells B.slots ∧ PostX ⟨T.setVm vm₁, locs, cells, slots⟩ (Value.ref a :: argsL).toArray q B ∧
      Steps p.tables e below (T.setTop g) ((B.U.setTop { g with stack := rest }).pushFrame (.throwing q))) := by
  subst hg
  have hpl : e.platform.magicAccessors = ({} : Platform).magicAccessors := by rw [X.admits.platform]
  obtain ⟨mk, methM, cM, kP, vm₁, hnamed, hmethM, hcodeM, -, hlocalsM, -, hkP, -, hW₁, hstep₁⟩ := Steps.initColdArgsNest (e := e) X.here hexec X.warmed hpl hown hy1 hy hlink hinst hcode (f := g) rfl hlen hstack hdg
  have X₁ := X.noted hW₁
  rcases hK g.method meth c ⟨T.setVm vm₁, locs, cells, slots⟩ { g with stack := rest } (.invokespecial index) mk (Value.ref a :: argsL).toArray X₁ rfl hsize hdg hW (X₁.named hnamed) (hpre vm₁ X₁.warmed) with ⟨v, B, X', hpost, hsteps⟩ | ⟨q, B, X', hpost, hsteps⟩
  · exact Or.inl ⟨v, vm₁, B, X₁.warmed, X', hpost, fun target h => hstep₁ _ fun acts => by rw [doInvoke_state]; exact hsteps.trans h⟩
  · exact Or.inr ⟨q, vm₁, B, X₁.warmed, X', hpost, hstep₁ _ fun acts => by rw [doInvoke_state]; exact hsteps⟩
end VXIC
section VXID
variable {p : Program} {l : Launch} {e : Env} {R : Room} {s : State} {m : MethodId} {args : Array Value} {below : List Frame} {meth : Method} {c : Code} {H : Heap} {locs : List Loc} {cells slots : Nat}
theorem vx_runIN {y : MethodName} {bytes cc : ByteArray} {maxL nL mc ms n index : Nat} {ws : List Cond} {rm : Room} {Pc : Array Value → State → Prop} {Qc : Array Value → State → Outcome → State → Prop} {XC : String → State → State → Prop} {free : Addr → Prop} {Ts : List Cond} {own host : String} {b : Addr} {As rest : List Value} {g : JFrame}
    (S : CallFix p m c cc nL s args Ts own) (hM : vx_Met l y ws rm Pc Qc XC mc ms free) (cw : va_CN R s args own index y host bytes maxL none ws rm mc ms n ∧ y.name = "<init>" ∧ (Cond.instanceMethod y).before args s = true) (hp : PreS s H Pc (.ref b :: As))
    (hg : g.method = m) (hn : As.length = n) (hsize : g.locals.size = nL) (hstack : g.stack = As.reverse ++ .ref b :: rest) (hW : 2 * g.monitorRoom + (rest.map fun v => v.category).sum ≤ 8) (hdg : decode cc g.pc = .ok (.invokespecial index, 3)) (hf : cells + mc ≤ R.cells ∧ slots + ms ≤ R.slots) :
    vx_Run p l e R s m args below meth c H locs cells slots mc ms g rest (Qc (Value.ref b :: As).toArray) XC free := by
  obtain ⟨⟨⟨hrc, hrs, hfr, hlo, hws, hcw⟩, hcode, hini, hy, hlen, hl⟩, hx1, hx2⟩ := cw
  have hK : vx_Back l R p e below s args y 3 8 (PreOf R mc ms Pc) (PostOf Qc mc ms free) (vx_Post XC mc ms free) := vx_back (bytes := bytes) (maxL := maxL) (ret := none) hM hp.1 hrc hrs hfr hlo hws hcw (fun a' U hW => word_at hW (Or.inl (by first | rfl | simp [Cond.onTables, Cond.keeps, Cond.steady])) hini)
  obtain ⟨hx, hb, hml, ho, -⟩ := S
  have hPc := hp.2
  intro T hT X
  rcases vx_callIN X hx (bytes := bytes) (maxL := maxL) ho hx1 hl hx2 hcode hy hK hg (hsize.trans hml.symm) (a := b) (argsL := As) (rest := rest) (fun sig h => hn.trans (hlen sig h)) hstack hW (by rw [hb]; exact hdg)
    (fun vm₁ hW₁ => ⟨hf.1, hf.2, hPc (T.setVm vm₁) hT hW₁⟩) with ⟨v, vm₁, ⟨U', l2, c2, s2⟩, hW₁, X', ⟨g', mk, t, L, e1, e2, hq, h1, hL, h2, h3⟩, st⟩ | ⟨q, vm₁, ⟨U', l2, c2, s2⟩, hW₁, X', ⟨g', mk, t, L, E, ce, e1, e2, hq, hce, hcv, hcl, h1, hL, h2, h3⟩, st⟩
  · dsimp only [Pt.U, Pt.locs, Pt.cells, Pt.slots] at X' e1 e2 h1 h2 h3 st
    subst h1; subst h2; subst h3
    exact Or.inl ⟨v, (T.setVm vm₁).calling g' mk (Value.ref b :: As).toArray, t, U', L, hT, X', hL, e1, e2, hq, st⟩
  · dsimp only [Pt.U, Pt.locs, Pt.cells, Pt.slots] at X' e1 e2 h1 h2 h3 st hcl
    subst h1; subst h2; subst h3
    exact Or.inr ⟨q, (T.setVm vm₁).calling g' mk (Value.ref b :: As).toArray, t, U', L, E, ce, hT, X', hL, e1, e2, hq, hce, hcv, vx_cls hW₁ hcl, st⟩
end VXID
/-! ===== END ===== -/
/-! ===== BEGIN a private method of a nest mate that may throw (follows va_callVN, va_callSN, va_runVN, va_runSN) ===== -/
section
variable {p : Program} {l : Launch} {e : Env} {R : Room} {s : State} {m : MethodId} {args : Array Value} {below : List Frame} {meth : Method} {c : Code} {H : Heap} {locs : List Loc} {cells slots : Nat}
variable {T : State}
theorem vx_callVN (X : Stand p l e R s m args below meth c T locs cells slots) (hexec : p.tables.exec = Jvm.exec) {own C : String} {index : Nat} {host : String} {y : MethodName} {bytes : ByteArray} {maxL : Nat} {ret : Option FieldType}
    (hown : s.vm.findClass own = some m.cls) (hlink : (Cond.methodLinkNest own index y host).before args s = true) (hinst : (Cond.instanceMethod y).before args s = true) (hsel : (Cond.selects C y y).before args s = true)
    (hcode : (Cond.code y bytes maxL ret).before args s = true) (hy : y.cls ≠ "java/lang/invoke/MethodHandle" ∧ y.cls ≠ "java/lang/invoke/VarHandle")
    {W : Nat} {Pre : Pt → Array Value → Prop} {Post : Pt → Array Value → Option Value → Pt → Prop} {PostX : Pt → Array Value → Addr → Pt → Prop} (hK : vx_Back l R p e below s args y 3 W Pre Post PostX)
    {b : Addr} {cellB : Cell} (hcell : T.heap[b]? = some cellB) (hobj : cellB.vm.isStatics = false) (hcls : s.vm.findClass C = some cellB.cls)
    {g : JFrame} (hg : g.method = m) (hsize : g.locals.size = c.maxLocals) {argsL rest : List Value} (hlen : ∀ sig, parseMethodDescriptor y.desc = some sig → argsL.length = sig.parameters.length)
    (hstack : g.stack = argsL.reverse ++ .ref b :: rest) (hW : 2 * g.monitorRoom + (rest.map fun v => v.category).sum ≤ W) (hdg : decode c.code g.pc = .ok (.invokevirtual index, 3))
    (hpre : ∀ vm₁, s.WarmedH vm₁ → Pre ⟨T.setVm vm₁, locs, cells, slots⟩ (Value.ref b :: argsL).toArray) :
    (∃ (v : Option Value) (vm₁ : Vm) (B : Pt), s.WarmedH vm₁ ∧ Stand p l e R s m args below meth c B.U B.locs B.cells B.slots ∧ Post ⟨T.setVm vm₁, locs, cells, slots⟩ (Value.ref b :: argsL).toArray v B ∧
      ∀ target, Steps p.tables e below (B.U.setTop { g with pc := g.pc + 3, stack := v.toList ++ rest }) target → Steps p.tables e below (T.setTop g) target) ∨
    (∃ (q : Addr) (vm₁ : Vm) (B : Pt), s.WarmedH vm₁ ∧ Stand p l e R s m args below meth c B.U B.locs B.cells B.slots ∧ PostX ⟨T.setVm vm₁, locs, cells, slots⟩ (Value.ref b :: argsL).toArray q B ∧
      Steps p.tables e below (T.setTop g) ((B.U.setTop { g with stack := rest }).pushFrame (.throwing q))) := by
  obtain ⟨mk, methM, hnamed, hmethM, hstM, habM⟩ := Cond.instanceMethod_spec hinst
  obtain ⟨methM', cM, hmethM', -, -, -, -, -, -, hsigM⟩ := Cond.code_spec hnamed hcode
  cases hmethM.symm.trans hmethM'
  obtain ⟨c2, r2, m2, q1, q2, q3, q4, kP, hkP, hkPi⟩ := Cond.selects_spec hsel
  cases hcls.symm.trans q1
  cases (State.methodFound?_of_named hnamed hy).symm.trans q2
  cases hnamed.symm.trans q3
  have hselP : selectMethod e.platform s.vm cellB.cls mk = .method mk := by rw [Launch.admits_selectMethod X.admits]; exact q4
  obtain ⟨vm₁, X₁, hstep₁⟩ := X.invokevirtualNest hexec hown hlink hnamed hmethM hstM hkP hkPi hy (a := b) (cell := cellB) hcell
    (fun z h => by rw [h] at hobj; cases hobj) hselP hmethM habM hkP hkPi (g := g) hg (argsL := argsL) (rest := rest) (hlen _ hsigM) hstack hdg
  rcases hK m meth c ⟨T.setVm vm₁, locs, cells, slots⟩ { g with stack := rest } (.invokevirtual index) mk (Value.ref b :: argsL).toArray X₁ hg hsize hdg hW (X₁.named hnamed) (hpre vm₁ X₁.warmed) with ⟨v, B, X', hpost, hsteps⟩ | ⟨q, B, X', hpost, hsteps⟩
  · exact Or.inl ⟨v, vm₁, B, X₁.warmed, X', hpost, fun target h => hstep₁ _ fun acts => by rw [doInvoke_state]; exact hsteps.trans h⟩
  · exact Or.inr ⟨q, vm₁, B, X₁.warmed, X', hpost, hstep₁ _ fun acts => by rw [doInvoke_state]; exact hsteps⟩
theorem vx_callSN (X : Stand p l e R s m args below meth c T locs cells slots) (hexec : p.tables.exec = Jvm.exec) {own : String} {index : Nat} {host : String} {y : MethodName} {bytes : ByteArray} {maxL : Nat} {ret : Option FieldType}
    (hown : s.vm.findClass own = some m.cls) (hlink : (Cond.methodLinkNest own index y host).before args s = true) (hstat : (Cond.static y).before args s = true) (hinit : (Cond.initialized y.cls).before args s = true)
    (hcode : (Cond.code y bytes maxL ret).before args s = true) (hy : y.cls ≠ "java/lang/invoke/MethodHandle" ∧ y.cls ≠ "java/lang/invoke/VarHandle")
    {W : Nat} {Pre : Pt → Array Value → Prop} {Post : Pt → Array Value → Option Value → Pt → Prop} {PostX : Pt → Array Value → Addr → Pt → Prop} (hK : vx_Back l R p e below s args y 3 W Pre Post PostX)
    {g : JFrame} (hg : g.method = m) (hsize : g.locals.size = c.maxLocals) {argsL rest : List Value} (hlen : ∀ sig, parseMethodDescriptor y.desc = some sig → argsL.length = sig.parameters.length)
    (hstack : g.stack = argsL.reverse ++ rest) (hW : 2 * g.monitorRoom + (rest.map fun v => v.category).sum ≤ W) (hdg : decode c.code g.pc = .ok (.invokestatic index, 3))
    (hpre : ∀ vm₁, s.WarmedH vm₁ → Pre ⟨T.setVm vm₁, locs, cells, slots⟩ argsL.toArray) :
    (∃ (v : Option Value) (vm₁ : Vm) (B : Pt), s.WarmedH vm₁ ∧ Stand p l e R s m args below meth c B.U B.locs B.cells B.slots ∧ Post ⟨T.setVm vm₁, locs, cells, slots⟩ argsL.toArray v B ∧
      ∀ target, Steps p.tables e below (B.U.setTop { g with pc := g.pc + 3, stack := v.toList ++ rest }) target → Steps p.tables e below (T.setTop g) target) ∨
    (∃ (q : Addr) (vm₁ : Vm) (B : Pt), s.WarmedH vm₁ ∧ Stand p l e R s m args below meth c B.U B.locs B.cells B.slots ∧ PostX ⟨T.setVm vm₁, locs, cells, slots⟩ argsL.toArray q B ∧
      Steps p.tables e below (T.setTop g) ((B.U.setTop { g with stack := rest }).pushFrame (.throwing q))) := by
  obtain ⟨mk, hnamed⟩ := Cond.code_named hcode
  obtain ⟨methM, cM, hmethM, -, -, -, -, -, -, hsigM⟩ := Cond.code_spec hnamed hcode
  have hstatic : methM.isStatic = true := Cond.static_spec hnamed hmethM hstat
  obtain ⟨kP, hkP, -⟩ := className_of_methodNamed hnamed
  have hinitP : kP.init = .initialized := Cond.initialized_spec (findClass_of_methodNamed hnamed) hkP hinit
  obtain ⟨vm₁, X₁, hstep₁⟩ := X.invokestaticNest hexec hown hlink hnamed hmethM hstatic hkP hinitP hy (g := g) hg (argsL := argsL) (rest := rest) (hlen _ hsigM) hstack hdg
  rcases hK m meth c ⟨T.setVm vm₁, locs, cells, slots⟩ { g with stack := rest } (.invokestatic index) mk argsL.toArray X₁ hg hsize hdg hW (X₁.named hnamed) (hpre vm₁ X₁.warmed) with ⟨v, B, X', hpost, hsteps⟩ | ⟨q, B, X', hpost, hsteps⟩
  · exact Or.inl ⟨v, vm₁, B, X₁.warmed, X', hpost, fun target h => hstep₁ _ fun acts => by rw [doInvoke_state]; exact hsteps.trans h⟩
  · exact Or.inr ⟨q, vm₁, B, X₁.warmed, X', hpost, hstep₁ _ fun acts => by rw [doInvoke_state]; exact hsteps⟩
theorem vx_runVN {y : MethodName} {bytes cc : ByteArray} {maxL nL mc ms n index : Nat} {ret : Option FieldType} {ws : List Cond} {rm : Room} {Pc : Array Value → State → Prop} {Qc : Array Value → State → Outcome → State → Prop} {XC : String → State → State → Prop} {free : Addr → Prop} {Ts : List Cond} {own C host : String} {b : Addr} {As rest : List Value} {g : JFrame}
    (S : CallFix p m c cc nL s args Ts own) (hM : vx_Met l y ws rm Pc Qc XC mc ms free) (cw : va_CN R s args own index y host bytes maxL ret ws rm mc ms n ∧ (Cond.instanceMethod y).before args s = true ∧ (Cond.selects C y y).before args s = true) (hp : PreV s H C b Pc As)
    (hg : g.method = m) (hn : As.length = n) (hsize : g.locals.size = nL) (hstack : g.stack = As.reverse ++ .ref b :: rest) (hW : 2 * g.monitorRoom + (rest.map fun v => v.category).sum ≤ 8) (hdg : decode cc g.pc = .ok (.invokevirtual index, 3)) (hf : cells + mc ≤ R.cells ∧ slots + ms ≤ R.slots) :
    vx_Run p l e R s m args below meth c H locs cells slots mc ms g rest (Qc (Value.ref b :: As).toArray) XC free := by
  obtain ⟨⟨⟨hrc, hrs, hfr, hlo, hws, hcw⟩, hcode, hini, hy, hlen, hl⟩, hx1, hx2⟩ := cw
  have hK : vx_Back l R p e below s args y 3 8 (PreOf R mc ms Pc) (PostOf Qc mc ms free) (vx_Post XC mc ms free) := vx_back (bytes := bytes) (maxL := maxL) (ret := ret) hM hp.1 hrc hrs hfr hlo hws hcw (fun a' U hW => word_at hW (Or.inl (by first | rfl | simp [Cond.onTables, Cond.keeps, Cond.steady])) hini)
  obtain ⟨hx, hb, hml, ho, -⟩ := S
  obtain ⟨-, ⟨cellB, hcB, hoB, hclB⟩, hPc⟩ := hp
  intro T hT X
  rcases vx_callVN X hx (C := C) (bytes := bytes) (maxL := maxL) (ret := ret) ho hl hx1 hx2 hcode hy hK (by rw [hT]; exact hcB) hoB hclB hg (hsize.trans hml.symm) (argsL := As) (rest := rest) (fun sig h => hn.trans (hlen sig h)) hstack hW (by rw [hb]; exact hdg)
    (fun vm₁ hW₁ => ⟨hf.1, hf.2, hPc (T.setVm vm₁) hT hW₁⟩) with ⟨v, vm₁, ⟨U', l2, c2, s2⟩, hW₁, X', ⟨g', mk, t, L, e1, e2, hq, h1, hL, h2, h3⟩, st⟩ | ⟨q, vm₁, ⟨U', l2, c2, s2⟩, hW₁, X', ⟨g', mk, t, L, E, ce, e1, e2, hq, hce, hcv, hcl, h1, hL, h2, h3⟩, st⟩
  · dsimp only [Pt.U, Pt.locs, Pt.cells, Pt.slots] at X' e1 e2 h1 h2 h3 st
    subst h1; subst h2; subst h3
    exact Or.inl ⟨v, (T.setVm vm₁).calling g' mk (Value.ref b :: As).toArray, t, U', L, hT, X', hL, e1, e2, hq, st⟩
  · dsimp only [Pt.U, Pt.locs, Pt.cells, Pt.slots] at X' e1 e2 h1 h2 h3 st hcl
    subst h1; subst h2; subst h3
    exact Or.inr ⟨q, (T.setVm vm₁).calling g' mk (Value.ref b :: As).toArray, t, U', L, E, ce, hT, X', hL, e1, e2, hq, hce, hcv, vx_cls hW₁ hcl, st⟩
theorem vx_runSN {y : MethodName} {bytes cc : ByteArray} {maxL nL mc ms n index : Nat} {ret : Option FieldType} {ws : List Cond} {rm : Room} {Pc : Array Value → State → Prop} {Qc : Array Value → State → Outcome → State → Prop} {XC : String → State → State → Prop} {free : Addr → Prop} {Ts : List Cond} {own host : String} {As rest : List Value} {g : JFrame}
    (S : CallFix p m c cc nL s args Ts own) (hM : vx_Met l y ws rm Pc Qc XC mc ms free) (cw : va_CN R s args own index y host bytes maxL ret ws rm mc ms n ∧ (Cond.static y).before args s = true ∧ True) (hp : PreS s H Pc As)
    (hg : g.method = m) (hn : As.length = n) (hsize : g.locals.size = nL) (hstack : g.stack = As.reverse ++ rest) (hW : 2 * g.monitorRoom + (rest.map fun v => v.category).sum ≤ 8) (hdg : decode cc g.pc = .ok (.invokestatic index, 3)) (hf : cells + mc ≤ R.cells ∧ slots + ms ≤ R.slots) :
    vx_Run p l e R s m args below meth c H locs cells slots mc ms g rest (Qc As.toArray) XC free := by
  obtain ⟨⟨⟨hrc, hrs, hfr, hlo, hws, hcw⟩, hcode, hini, hy, hlen, hl⟩, hx1, hx2⟩ := cw
  have hK : vx_Back l R p e below s args y 3 8 (PreOf R mc ms Pc) (PostOf Qc mc ms free) (vx_Post XC mc ms free) := vx_back (bytes := bytes) (maxL := maxL) (ret := ret) hM hp.1 hrc hrs hfr hlo hws hcw (fun a' U hW => word_at hW (Or.inl (by first | rfl | simp [Cond.onTables, Cond.keeps, Cond.steady])) hini)
  obtain ⟨hx, hb, hml, ho, -⟩ := S
  have hPc := hp.2
  intro T hT X
  rcases vx_callSN X hx (bytes := bytes) (maxL := maxL) (ret := ret) ho hl hx1 hini hcode hy hK hg (hsize.trans hml.symm) (argsL := As) (rest := rest) (fun sig h => hn.trans (hlen sig h)) hstack hW (by rw [hb]; exact hdg)
    (fun vm₁ hW₁ => ⟨hf.1, hf.2, hPc (T.setVm vm₁) hT hW₁⟩) with ⟨v, vm₁, ⟨U', l2, c2, s2⟩, hW₁, X', ⟨g', mk, t, L, e1, e2, hq, h1, hL, h2, h3⟩, st⟩ | ⟨q, vm₁, ⟨U', l2, c2, s2⟩, hW₁, X', ⟨g', mk, t, L, E, ce, e1, e2, hq, hce, hcv, hcl, h1, hL, h2, h3⟩, st⟩
  · dsimp only [Pt.U, Pt.locs, Pt.cells, Pt.slots] at X' e1 e2 h1 h2 h3 st
    subst h1; subst h2; subst h3
    exact Or.inl ⟨v, (T.setVm vm₁).calling g' mk As.toArray, t, U', L, hT, X', hL, e1, e2, hq, st⟩
  · dsimp only [Pt.U, Pt.locs, Pt.cells, Pt.slots] at X' e1 e2 h1 h2 h3 st hcl
    subst h1; subst h2; subst h3
    exact Or.inr ⟨q, (T.setVm vm₁).calling g' mk As.toArray, t, U', L, E, ce, hT, X', hL, e1, e2, hq, hce, hcv, vx_cls hW₁ hcl, st⟩
end
/-! ===== END ===== -/
end
section
/-! ROWS OF G: making cells, statics, calls, throws. -/
def fm_M (My : MI) (n : Nat) : Prop := Cond.code (mY My) (mC My) (mL My) (mT My) ∈ wA ∧ Cond.initialized (mY My).cls ∈ wA ∧ ((mY My).cls ≠ "java/lang/invoke/MethodHandle" ∧ (mY My).cls ≠ "java/lang/invoke/VarHandle" ∧ (parseMethodDescriptor (mY My).desc).map (fun d => d.parameters.length) = some n)
abbrev fm_fit (M My : MI) : Prop := (mR My).frames + 1 ≤ (mR M).frames ∧ 8 + (mL My + 11) + (mR My).locals ≤ (mR M).locals
theorem fm_blind (g : Gp) (av : List Value) (m : Mm) : FrameBlind (fm_Pc g av m) := fun _ U _ _ h => ⟨h.1, h.2.1.moved (Vm.Alike.refl U.vm), h.2.2.calling⟩
theorem fm_goodIn {M My : MI} (h : Cond.code (mY My) (mC My) (mL My) (mT My) ∈ wA) : GoodIn (mW M) (mW My) := by
  intro w hw
  rcases List.mem_cons.mp hw with rfl | hw
  · exact ⟨List.mem_cons_of_mem _ h, good_of_word (wA_good h)⟩
  · exact ⟨List.mem_cons_of_mem _ hw, good_of_word (wA_good hw)⟩
theorem fm_PreS {g : Gp} {av : List Value} {m : Mm} {s : State} {H : Heap} (hW : fm_Wd g s H m) (hB : fm_B g s H) : PreS s H (fm_Pc g av m) av :=
  ⟨fm_blind g av m, fun U hU hw => ⟨rfl, by rw [hU]; exact hW.moved hw.alike, by rw [hU]; exact hB.warm hw⟩⟩
theorem fm_Bat {g : Gp} {s : State} {H : Heap} {locs : List Loc} (hB : fm_B g s s.heap) (hS : va_S (fm_A g) s.heap H locs) : fm_B g s H := hB.kept hS.2.1
theorem fm_k11 {s : State} {N : Nat} {I : Nat → Int32} {R : Nat → Option Nat} {J : Nat → Int64} {oc : Option Cell} (h : ∃ cA : ClassId, oc = some (arrV cA N (fun j => .int (I j))) ∧ ArrOfT s cA .int) : fm_cell s (11, N) I R J oc :=
  ⟨fun z => absurd (show 11 < 11 from z) (by decide), fun _ => h, fun z => absurd (show 11 = 18 from z) (by decide), fun z => absurd (show 11 < 11 ∧ 11 < 18 from z) (by decide), fun z => absurd (show 11 = 19 from z) (by decide)⟩
theorem fm_k18 {s : State} {N : Nat} {I : Nat → Int32} {R : Nat → Option Nat} {J : Nat → Int64} {oc : Option Cell} (h : ∃ cA : ClassId, oc = some (arrV cA N (fun j => .long (J j))) ∧ ArrOfT s cA .long) : fm_cell s (18, N) I R J oc :=
  ⟨fun z => absurd (show 18 < 11 from z) (by decide), fun z => absurd (show 18 = 11 from z) (by decide), fun _ => h, fun z => absurd (show 11 < 18 ∧ 18 < 18 from z) (by decide), fun z => absurd (show 18 = 19 from z) (by decide)⟩
section GCALL
variable {g : Gp} {M : MI} {Q : Rs → Mm → Prop} {pc : Nat} {L : List (Nat × Value)} {st : List Value} {u : Nat × Nat} {m : Mm}
/-- behind a call's run -/
theorem g_run {My : MI} {av rest : List Value} {Qy : Rs → Mm → Prop} (hu : u.1 + (mR My).cells ≤ (mR M).cells ∧ u.2 + (mR My).slots ≤ (mR M).slots)
    (hr : ∀ (p : Program) (l : Launch) (e : Env) (s : State) (mm : MethodId) (args : Array Value) (below : List Frame) (meth : Method) (c : Code) (H : Heap) (locs : List Loc) (ls : Array Slot), Cx l M p s mm args meth c → fm_Wd g s H m → fm_B g s s.heap → va_S (fm_A g) s.heap H locs → lv_has ls (mL M) L →
      vx_Run p l e (mR M) s mm args below meth c H locs u.1 u.2 (mR My).cells (mR My).slots (F0 mm pc ls st) rest (fm_Qc g Qy av.toArray) (fm_Xc g Qy) (fm_A g))
    (k : ∀ (v : Option Value) (m1 : Mm), Qy (.inl v) m1 → G g M Q (pc + 3) L (v.toList ++ rest) (u.1 + (mR My).cells, u.2 + (mR My).slots) m1) (kx : ∀ (E : String) (m1 : Mm), Qy (.inr E) m1 → Q (.inr E) m1) : G g M Q pc L st u m := by
  intro p l e s mm args below meth c H locs ls C hW hB hS hl T hT X
  rcases hr p l e s mm args below meth c H locs ls C hW hB hS hl T hT X with ⟨v, st₀, t, T', Lc, h0, X', hLc, e1, e2, ⟨v', m', hv, hq, hw', hF⟩, st'⟩ | ⟨q, st₀, t, T', Lc, E, ce, h0, X', hLc, e1, e2, ⟨m', hq, hw', hF⟩, hce, hcv, hcl, stp⟩
  · cases hv
    obtain ⟨k1, k2, k3⟩ := vx_keep h0 e1 hS (fun _ _ h => h) (fun _ h => h) hLc hF
    have hal : t.vm.Alike s.vm := by rw [← e2]; exact X'.warmed.alike.symm
    obtain ⟨t2, a1, b1⟩ := k v m' hq p l e s mm args below meth c T'.heap (locs ++ Lc) ls C (by rw [e1]; exact hw'.moved hal) hB k3 hl T' rfl X'
    exact ⟨t2, st' t2 a1, b1⟩
  · obtain ⟨k1, k2, k3⟩ := vx_keep h0 e1 hS (fun _ _ h => h) (fun _ h => h) hLc hF
    have K := vx_out (p := p) (l := l) (e := e) (R := mR M) (s := s) (m := mm) (args := args) (below := below) (meth := meth) (c := c) (H := T'.heap) (locs := locs ++ Lc) (cells := u.1 + (mR My).cells) (slots := u.2 + (mR My).slots) (free := fm_A g) (ls := ls) (rest := rest) (Qc := fm_Qc g Q) (XC := fm_Xc g Q) (pc := pc) (E := E) (ce := ce) (q := q) (mc := (mR M).cells) (ms := (mR M).slots)
      (fun x hx => (C.2.2.2.2.2.2.2.1 x hx).elim) C.2.2.2.2.2.2.1 (by rw [e1]; exact hce) hcv hcl (fun t2 ht2 ha2 => ⟨m', kx E m' hq, by rw [ht2, e1]; exact hw'.moved (by rw [← e2]; exact X'.warmed.alike.symm.trans ha2), k3.F ht2⟩) k3.2.2 hu.1 hu.2
    obtain ⟨t2, a1, b1⟩ := K T' rfl X'
    exact ⟨t2, stp.trans a1, b1⟩
theorem g_callS {i n : Nat} {My : MI} {Qy : Rs → Mm → Prop} (av rest : List Value) (hC : Cn g My av m Qy) (hM : fm_M My n) (hlk : Cond.methodLink (mY M).cls i (mY My) ∈ wA) (hst : Cond.static (mY My) ∈ wA) (hn : av.length = n) (hfit : fm_fit M My) (hrest : (rest.map fun v => v.category).sum ≤ 8)
    (hu : u.1 + (mR My).cells ≤ (mR M).cells ∧ u.2 + (mR My).slots ≤ (mR M).slots) (hdg : decode (mC M) pc = .ok (.invokestatic i, 3)) (hstk : st = av.reverse ++ rest)
    (k : ∀ (v : Option Value) (m1 : Mm), Qy (.inl v) m1 → G g M Q (pc + 3) L (v.toList ++ rest) (u.1 + (mR My).cells, u.2 + (mR My).slots) m1) (kx : ∀ (E : String) (m1 : Mm), Qy (.inr E) m1 → Q (.inr E) m1) : G g M Q pc L st u m := by
  refine g_run hu (av := av) (fun p l e s mm args below meth c H locs ls C hW hB hS hl => ?_) k kx
  exact vx_runS (As := av) ⟨C.1, C.2.1, C.2.2.2.1, C.2.2.2.2.1, C.2.2.2.2.2.1⟩ (hC l C.2.2.2.2.2.2.2.2.2) ⟨callB_of n C.2.2.2.2.2.1 (fm_goodIn hM.1) rfl rfl rfl (cx_w C hM.2.1) (cx_w C hlk) hM.2.2 hfit, cx_w C hst⟩ (fm_PreS hW (fm_Bat hB hS)) rfl hn hl.1 hstk (lv_room hrest) hdg hu
theorem fm_recv {g : Gp} {s : State} {H : Heap} {m : Mm} {b : Nat} {r : vw_C} (hW : fm_Wd g s H m) (hr : vwCl[(tg m b).1]? = some r) : ∃ cellB : Cell, H[b]? = some cellB ∧ cellB.vm.isStatics = false ∧ s.vm.findClass r.1 = some cellB.cls := by
  obtain ⟨-, -, -, hc⟩ := fm_C hr
  obtain ⟨r', cC, iS, cellV, q1, ⟨-, hcls⟩, q3, q4, q5, -⟩ := (hW.2.2.2 b).1 hc
  cases Option.some.inj (q1.symm.trans hr)
  exact ⟨cellV, q3, by rw [q5]; rfl, by rw [q4]; exact hcls.1⟩
theorem g_callV {i n b : Nat} {My : MI} {Qy : Rs → Mm → Prop} {r : vw_C} (av rest : List Value) (hC : Cn g My (.ref b :: av) m Qy) (hM : fm_M My n) (hlk : Cond.methodLink (mY M).cls i (mY My) ∈ wA) (hin : Cond.instanceMethod (mY My) ∈ wA) (hse : Cond.selects (mY My).cls (mY My) (mY My) ∈ wA) (hr : vwCl[(tg m b).1]? = some r) (hre : r.1 = (mY My).cls) (hn : av.length = n) (hfit : fm_fit M My) (hrest : (rest.map fun v => v.category).sum ≤ 8)
    (hu : u.1 + (mR My).cells ≤ (mR M).cells ∧ u.2 + (mR My).slots ≤ (mR M).slots) (hdg : decode (mC M) pc = .ok (.invokevirtual i, 3)) (hstk : st = av.reverse ++ .ref b :: rest)
    (k : ∀ (v : Option Value) (m1 : Mm), Qy (.inl v) m1 → G g M Q (pc + 3) L (v.toList ++ rest) (u.1 + (mR My).cells, u.2 + (mR My).slots) m1) (kx : ∀ (E : String) (m1 : Mm), Qy (.inr E) m1 → Q (.inr E) m1) : G g M Q pc L st u m := by
  refine g_run hu (av := .ref b :: av) (fun p l e s mm args below meth c H locs ls C hW hB hS hl => ?_) k kx
  have hp := fm_PreS (av := .ref b :: av) hW (fm_Bat hB hS)
  exact vx_runV (As := av) (b := b) (C := (mY My).cls) ⟨C.1, C.2.1, C.2.2.2.1, C.2.2.2.2.1, C.2.2.2.2.2.1⟩ (hC l C.2.2.2.2.2.2.2.2.2) ⟨callB_of n C.2.2.2.2.2.1 (fm_goodIn hM.1) rfl rfl rfl (cx_w C hM.2.1) (cx_w C hlk) hM.2.2 hfit, cx_w C hin, cx_w C hse⟩ ⟨hp.1, by rw [← hre]; exact fm_recv hW hr, hp.2⟩ rfl hn hl.1 hstk (lv_room hrest) hdg hu
theorem g_callI {i n b : Nat} {My : MI} {Qy : Rs → Mm → Prop} (av rest : List Value) (hC : Cn g My (.ref b :: av) m Qy) (hM : fm_M My n) (hT : mT My = none) (hnm : (mY My).name = "<init>") (hlk : Cond.methodLink (mY M).cls i (mY My) ∈ wA) (hin : Cond.instanceMethod (mY My) ∈ wA) (hn : av.length = n) (hfit : fm_fit M My) (hrest : (rest.map fun v => v.category).sum ≤ 8)
    (hu : u.1 + (mR My).cells ≤ (mR M).cells ∧ u.2 + (mR My).slots ≤ (mR M).slots) (hdg : decode (mC M) pc = .ok (.invokespecial i, 3)) (hstk : st = av.reverse ++ .ref b :: rest)
    (k : ∀ (v : Option Value) (m1 : Mm), Qy (.inl v) m1 → G g M Q (pc + 3) L (v.toList ++ rest) (u.1 + (mR My).cells, u.2 + (mR My).slots) m1) (kx : ∀ (E : String) (m1 : Mm), Qy (.inr E) m1 → Q (.inr E) m1) : G g M Q pc L st u m := by
  refine g_run hu (av := .ref b :: av) (fun p l e s mm args below meth c H locs ls C hW hB hS hl => ?_) k kx
  exact vx_runI (As := av) (b := b) ⟨C.1, C.2.1, C.2.2.2.1, C.2.2.2.2.1, C.2.2.2.2.2.1⟩ (hC l C.2.2.2.2.2.2.2.2.2) ⟨callB_of n C.2.2.2.2.2.1 (fm_goodIn hM.1) (by unfold mW; rw [hT]) rfl rfl (cx_w C hM.2.1) (cx_w C hlk) hM.2.2 hfit, hnm, cx_w C hin⟩ (fm_PreS hW (fm_Bat hB hS)) rfl hn hl.1 hstk (lv_room hrest) hdg hu
theorem g_callIN {i n b : Nat} {host : String} {My : MI} {Qy : Rs → Mm → Prop} (av rest : List Value) (hC : Cn g My (.ref b :: av) m Qy) (hM : fm_M My n) (hT : mT My = none) (hnm : (mY My).name = "<init>") (hlk : Cond.methodLinkNest (mY M).cls i (mY My) host ∈ wN) (hin : Cond.instanceMethod (mY My) ∈ wA) (hn : av.length = n) (hfit : fm_fit M My) (hrest : (rest.map fun v => v.category).sum ≤ 8)
    (hu : u.1 + (mR My).cells ≤ (mR M).cells ∧ u.2 + (mR My).slots ≤ (mR M).slots) (hdg : decode (mC M) pc = .ok (.invokespecial i, 3)) (hstk : st = av.reverse ++ .ref b :: rest)
    (k : ∀ (v : Option Value) (m1 : Mm), Qy (.inl v) m1 → G g M Q (pc + 3) L (v.toList ++ rest) (u.1 + (mR My).cells, u.2 + (mR My).slots) m1) (kx : ∀ (E : String) (m1 : Mm), Qy (.inr E) m1 → Q (.inr E) m1) : G g M Q pc L st u m := by
  refine g_run hu (av := .ref b :: av) (fun p l e s mm args below meth c H locs ls C hW hB hS hl => ?_) k kx
  exact vx_runIN (As := av) (b := b) ⟨C.1, C.2.1, C.2.2.2.1, C.2.2.2.2.1, C.2.2.2.2.2.1⟩ (hC l C.2.2.2.2.2.2.2.2.2) ⟨va_cnB n C.2.2.2.2.2.1 (fm_goodIn hM.1) (by unfold mW; rw [hT]) rfl rfl (hB.2.2.2.2.2.2.2.2.2.2 _ hlk) (cx_w C hM.2.1) hM.2.2 hfit, hnm, cx_w C hin⟩ (fm_PreS hW (fm_Bat hB hS)) rfl hn hl.1 hstk (lv_room hrest) hdg hu
theorem g_callSN {i n : Nat} {host : String} {My : MI} {Qy : Rs → Mm → Prop} (av rest : List Value) (hC : Cn g My av m Qy) (hM : fm_M My n) (hlk : Cond.methodLinkNest (mY M).cls i (mY My) host ∈ wN) (hst : Cond.static (mY My) ∈ wA) (hn : av.length = n) (hfit : fm_fit M My) (hrest : (rest.map fun v => v.category).sum ≤ 8)
    (hu : u.1 + (mR My).cells ≤ (mR M).cells ∧ u.2 + (mR My).slots ≤ (mR M).slots) (hdg : decode (mC M) pc = .ok (.invokestatic i, 3)) (hstk : st = av.reverse ++ rest)
    (k : ∀ (v : Option Value) (m1 : Mm), Qy (.inl v) m1 → G g M Q (pc + 3) L (v.toList ++ rest) (u.1 + (mR My).cells, u.2 + (mR My).slots) m1) (kx : ∀ (E : String) (m1 : Mm), Qy (.inr E) m1 → Q (.inr E) m1) : G g M Q pc L st u m := by
  refine g_run hu (av := av) (fun p l e s mm args below meth c H locs ls C hW hB hS hl => ?_) k kx
  exact vx_runSN (As := av) ⟨C.1, C.2.1, C.2.2.2.1, C.2.2.2.2.1, C.2.2.2.2.2.1⟩ (hC l C.2.2.2.2.2.2.2.2.2) ⟨va_cnB n C.2.2.2.2.2.1 (fm_goodIn hM.1) rfl rfl rfl (hB.2.2.2.2.2.2.2.2.2.2 _ hlk) (cx_w C hM.2.1) hM.2.2 hfit, cx_w C hst, trivial⟩ (fm_PreS hW (fm_Bat hB hS)) rfl hn hl.1 hstk (lv_room hrest) hdg hu
theorem g_objInit {i a : Nat} (hlk : Cond.methodLink (mY M).cls i objectInit ∈ wA) (hin : Cond.instanceMethod objectInit ∈ wA) (hco : Cond.code objectInit ⟨#[0xb1]⟩ 1 none ∈ wA) (hfr : 1 ≤ (mR M).frames) (hlo : (st.map fun v => v.category).sum + 12 ≤ (mR M).locals) (hdg : decode (mC M) pc = .ok (.invokespecial i, 3)) (k : G g M Q (pc + 3) L st u m) : G g M Q pc L (.ref a :: st) u m :=
  fun p l e s mm args below meth c H locs ls C hW hB hS hl => W.objInit C.1 C.2.1 C.2.2.2.2.1 (cx_w C hlk) (cx_w C hin) (cx_w C hco) rfl (hl.1.trans C.2.2.2.1.symm) rfl hdg hfr (by show 2 * 0 + _ + 12 ≤ _; omega) (k p l e s mm args below meth c H locs ls C hW hB hS hl)
theorem g_new {i c : Nat} {r : vw_C} (hr : vwCl[c]? = some r) (hcl : Cond.classLink (mY M).cls i r.1 ∈ wA) (hin : Cond.instantiable r.1 r.2.2 ∈ wA) (hini : Cond.initialized r.1 ∈ wA) (hdf : ∀ j, j < r.2.2 → defaultValue (fm_ty c j) = fm_fv (fm_ty c j) (fun _ => 0) (fun _ => none) (fun _ => 0) j) (hu : u.1 + 1 ≤ (mR M).cells ∧ u.2 + r.2.2 ≤ (mR M).slots) (hdg : decode (mC M) pc = .ok (.new i, 3))
    (k : G g M Q (pc + 3) L (.ref (fz m) :: st) (u.1 + 1, u.2 + r.2.2) (nw m (c, 0))) : G g M Q pc L st u m := by
  intro p l e s mm args below meth c0 H locs ls C hW hB hS hl
  obtain ⟨hws, hty, hnm, hc⟩ := fm_C hr
  have hts : ∀ w ∈ wA, w.before args s = true := fun w h => cx_w C h
  obtain ⟨cC, iS, hKn⟩ := u_known hts hws (cx_w C hin)
  refine W.newcK C.1 C.2.1 C.2.2.2.2.1 (cx_w C hcl) (cx_w C hin) (cx_w C hini) rfl hdg hu.1 hu.2 hKn.2.1 rfl fun H1 kC hkC e1 z1 o1 => ?_
  have hB1 := u_born (fm_ty c) hts hws hKn hkC e1 hty
  obtain ⟨cell, b1, b2, b3, b4⟩ := hB1
  have K := k p l e s mm args below meth c0 H1 locs ls C (hW.new z1 o1 (fm_noO hc ⟨r, cC, iS, cell, hr, hKn, b1, b2, b3, fun j hj => (b4 j hj).trans (congrArg some (hdf j hj))⟩)) hB ⟨Nat.le_trans hS.1 (by omega), fun x h1 h2 => (o1 x (Nat.lt_of_lt_of_le h1 hS.1)).trans (hS.2.1 x h1 h2), hS.2.2⟩ hl
  rw [hW.2.1] at K
  exact K
theorem g_newI {n : Int32} (N : Nat) (hn : n.toInt = (N : Int)) (hb : N * 4 ≤ 536870912) (hu : u.1 + 1 ≤ (mR M).cells ∧ u.2 + N ≤ (mR M).slots) (hdg : decode (mC M) pc = .ok (.newarray .int, 2)) (hA : Cond.arrayClass .int ∈ wA)
    (k : G g M Q (pc + 2) L (.ref (fz m) :: st) (u.1 + 1, u.2 + N) (nw m (11, N))) : G g M Q pc L (.int n :: st) u m := by
  intro p l e s mm args below meth c0 H locs ls C hW hB hS hl
  obtain ⟨h1, h2⟩ := ix_in hn (Nat.lt_succ_self N)
  refine va_newaK (atype := .int) C.1 C.2.1 (cx_w C hA) rfl hdg rfl (fun z => h1 (Or.inl z)) h2 hb hu.1 hu.2 rfl fun H1 cA e1 z1 o1 hAr _ => ?_
  have K := k p l e s mm args below meth c0 H1 locs ls C (hW.new z1 o1 (fm_k11 ⟨cA, e1, hAr⟩)) hB ⟨Nat.le_trans hS.1 (by omega), fun x h1 h2 => (o1 x (Nat.lt_of_lt_of_le h1 hS.1)).trans (hS.2.1 x h1 h2), hS.2.2⟩ hl
  rw [hW.2.1] at K
  exact K
theorem g_newJ {n : Int32} (N : Nat) (hn : n.toInt = (N : Int)) (hb : N * 8 ≤ 536870912) (hu : u.1 + 1 ≤ (mR M).cells ∧ u.2 + N ≤ (mR M).slots) (hdg : decode (mC M) pc = .ok (.newarray .long, 2)) (hA : Cond.arrayClass .long ∈ wA)
    (k : G g M Q (pc + 2) L (.ref (fz m) :: st) (u.1 + 1, u.2 + N) (nw m (18, N))) : G g M Q pc L (.int n :: st) u m := by
  intro p l e s mm args below meth c0 H locs ls C hW hB hS hl
  obtain ⟨h1, h2⟩ := ix_in hn (Nat.lt_succ_self N)
  refine va_newaK (atype := .long) C.1 C.2.1 (cx_w C hA) rfl hdg rfl (fun z => h1 (Or.inl z)) h2 hb hu.1 hu.2 rfl fun H1 cA e1 z1 o1 hAr _ => ?_
  have K := k p l e s mm args below meth c0 H1 locs ls C (hW.new z1 o1 (fm_k18 ⟨cA, e1, hAr⟩)) hB ⟨Nat.le_trans hS.1 (by omega), fun x h1 h2 => (o1 x (Nat.lt_of_lt_of_le h1 hS.1)).trans (hS.2.1 x h1 h2), hS.2.2⟩ hl
  rw [hW.2.1] at K
  exact K
theorem g_newQ {i : Nat} {n : Int32} (κ N : Nat) (hκ : 11 < κ ∧ κ < 18) (hn : n.toInt = (N : Int)) (hb : N * 4 ≤ 536870912) (hu : u.1 + 1 ≤ (mR M).cells ∧ u.2 + N ≤ (mR M).slots) (hdg : decode (mC M) pc = .ok (.anewarray i, 3)) (hcl : Cond.classLink (mY M).cls i (fm_el κ) ∈ wA) (hA : Cond.arrayOver (.object (fm_el κ)) ∈ wN)
    (k : G g M Q (pc + 3) L (.ref (fz m) :: st) (u.1 + 1, u.2 + N) (nw m (κ, N))) : G g M Q pc L (.int n :: st) u m := by
  intro p l e s mm args below meth c0 H locs ls C hW hB hS hl
  obtain ⟨h1, h2⟩ := ix_in hn (Nat.lt_succ_self N)
  subst h2
  refine W.anew C.1 C.2.1 C.2.2.2.2.1 (cx_w C hcl) (va_AO.use (hB.2.2.2.2.2.2.2.2.2.2 _ hA)) rfl hdg rfl (fun z => h1 (Or.inl z)) hb hu.1 hu.2 fun cA kA comp f1 f2 f3 f4 => ?_
  generalize hH1 : H.push ({ cls := cA, slots := Array.replicate n.toNatClampNeg .null, vm := .none } : Cell) = H1
  have z1 : H1.size = H.size + 1 := by rw [← hH1, Array.size_push]
  have e1 : H1[H.size]? = some (arrV cA n.toNatClampNeg (fun _ => .null)) := by rw [← hH1, Array.getElem?_push_size, ← arrV_new]
  have o1 : ∀ q : Nat, q < H.size → H1[q]? = H[q]? := fun q hq => by rw [← hH1, Array.getElem?_push, if_neg (Nat.ne_of_lt hq)]
  have hAr : ArrOfT s cA (.object (fm_el κ)) := fun N z => ⟨(fun k h => by cases h), kA, f2, comp, f3⟩
  have K := k p l e s mm args below meth c0 H1 locs ls C (hW.new z1 o1 ⟨fun z => absurd z (by omega), fun z => absurd z (by omega), fun z => absurd z (by omega), fun _ => ⟨cA, e1, hAr, kA, comp, f2, f3, f4, f1⟩, fun z => absurd z (by omega)⟩) hB ⟨Nat.le_trans hS.1 (by omega), fun x h1 h2 => (o1 x (Nat.lt_of_lt_of_le h1 hS.1)).trans (hS.2.1 x h1 h2), hS.2.2⟩ hl
  rw [hW.2.1] at K
  exact K
/-- the three rows of constants -/
theorem g_gets0 {i : Nat} {host : String} (hlk : Cond.fieldLinkNest (mY M).cls i "MemoryDesk" "FIRST_PERCENTS" "[I" host ∈ wN) (hdg : decode (mC M) pc = .ok (.getstatic i, 3)) (k : G g M Q (pc + 3) L (.ref g.2.1 :: st) u m) : G g M Q pc L st u m :=
  fun p l e s mm args below meth c H locs ls C hW hB hS hl => va_getsN C.1 C.2.1 hB.2.2.2.2.2.2.2.1 hS C.2.2.2.2.1 (va_Nw.use rfl (hB.2.2.2.2.2.2.2.2.2.2 _ hlk)) (fun _ h => h) hdg (k p l e s mm args below meth c H locs ls C hW hB hS hl)
theorem g_gets1 {i : Nat} (hlk : Cond.fieldLink (mY M).cls i "MemoryDesk" "HIGHEST_SETTINGS" "[I" ∈ wA) (hdg : decode (mC M) pc = .ok (.getstatic i, 3)) (k : G g M Q (pc + 3) L (.ref g.2.2.1 :: st) u m) : G g M Q pc L st u m :=
  fun p l e s mm args below meth c H locs ls C hW hB hS hl => va_gets C.1 C.2.1 hB.2.2.2.2.2.2.2.2.1 hS C.2.2.2.2.1 (cx_w C hlk) (fun _ h => h) hdg (k p l e s mm args below meth c H locs ls C hW hB hS hl)
theorem g_gets2 {i : Nat} {host : String} (hlk : Cond.fieldLinkNest (mY M).cls i "MemoryDesk" "LOWEST_MATCHES" "[I" host ∈ wN) (hdg : decode (mC M) pc = .ok (.getstatic i, 3)) (k : G g M Q (pc + 3) L (.ref g.2.2.2 :: st) u m) : G g M Q pc L st u m :=
  fun p l e s mm args below meth c H locs ls C hW hB hS hl => va_getsN C.1 C.2.1 hB.2.2.2.2.2.2.2.2.2.1 hS C.2.2.2.2.1 (va_Nw.use rfl (hB.2.2.2.2.2.2.2.2.2.2 _ hlk)) (fun _ h => h) hdg (k p l e s mm args below meth c H locs ls C hW hB hS hl)
end GCALL
end
