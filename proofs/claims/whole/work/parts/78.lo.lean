/-! THE LAW: one call of the script -/
/-- the law's room, whatever the Statement gives -/
abbrev lw_rc : Nat := room_1.cells
abbrev lw_rs : Nat := room_1.slots
def ML_law : MI := (yL_law, cL_law, 9, (some .boolean), room_1)
theorem lg_cmp_s (x : Int64) : lg_cmp x x = nI 0 := by
  unfold lg_cmp
  simp
  try rfl
section GWD
variable {g : Gp} {M : MI} {Q : Rs → Mm → Prop} {pc : Nat} {L : List (Nat × Value)} {st : List Value} {u : Nat × Nat} {m : Mm}
theorem g_wide (u2 : Nat × Nat) (h1 : u.1 ≤ u2.1) (h2 : u.2 ≤ u2.2) (k : G g M Q pc L st u2 m) : G g M Q pc L st u m :=
  fun p l e s mm args below meth c H locs ls C hW hB hS hl => W.widen h1 h2 (k p l e s mm args below meth c H locs ls C hW hB hS hl)
end GWD
set_option maxRecDepth 100000 in
theorem op_rate (g : Gp) {m : Mm} {a d o b Ls i c : Nat} {X : Nat → Int32} {v : Int32} {cs : Nat × Nat} {P : Mm → Prop} {P2 : Mm → Mm → Prop} {u : Nat × Nat} {Q : Rs → Mm → Prop} (hi : i + 4 ≤ Ls) (hLs : Ls ≤ 2048) (hb : tg m b = (19, Ls)) (hX : im m b = X)
    (HC : Hn g (ML_rate cs) hhL_rate [.ref d, .int (X (i + 1)), .int (X (i + 2)), .ref o] m (fun r m1 => r = .inl (some (.int (nI c))) ∧ P m1)) (hcs : cs.1 ≤ 30 ∧ cs.2 ≤ 230) (hc : c ≤ 3)
    (hP : ∀ m1, P m1 → tg m1 b = (19, Ls) ∧ im m1 b = X ∧ tg m1 a = (10, 0) ∧ Cn g (MX10_rate (0, 0)) [.ref a, .int (X (i + 1)), .int (X (i + 2))] m1 (fun r m2 => r = .inl (some (.int v)) ∧ P2 m1 m2))
    (hP2 : ∀ m1, P m1 → ∀ m2, P2 m1 m2 → MdOk m2 a ∧ tg m2 o = (18, 1) ∧ im m2 a 6 = nI c ∧ (c = 0 → jm m2 o 0 = v.toInt64)) (hu : u.1 + 30 ≤ lw_rc ∧ u.2 + 230 ≤ lw_rs)
    (K : ∀ m1, P m1 → ∀ m2, P2 m1 m2 → ∀ x5 x6 : Int32, G g ML_law Q 1834 [(6, .int x6), (5, .int x5), (4, .int (nI i)), (3, .ref o), (2, .ref a), (1, .ref d), (0, .ref b)] [] (u.1 + 30, u.2 + 230) m2) : G g ML_law Q 168 [(4, .int (nI (i))), (3, .ref (o)), (2, .ref (a)), (1, .ref (d)), (0, .ref (b))] [] u m := by
  have hi4 := hi
  have hL4 := hLs
  refine g_aload_n 1 dL_law_168 rfl rfl ?_
  refine g_aload_n 0 dL_law_169 rfl rfl ?_
  refine g_iload 4 dL_law_170 rfl ?_
  refine gN_iconst 1 dL_law_172 (by decide) ?_
  refine gN_iadd (i + 1) dL_law_173 rfl ?_
  refine gN_iald19 Ls (hb) (by first | omega | exact b01_lt _) (by first | omega | exact b01_lt _) dL_law_174 ?_
  refine g_eI (X (i + 1)) (congrFun hX _) ?_
  refine g_aload_n 0 dL_law_175 rfl rfl ?_
  refine g_iload 4 dL_law_176 rfl ?_
  refine gN_iconst 2 dL_law_178 (by decide) ?_
  refine gN_iadd (i + 2) dL_law_179 rfl ?_
  refine gN_iald19 Ls (hb) (by first | omega | exact b01_lt _) (by first | omega | exact b01_lt _) dL_law_180 ?_
  refine g_eI (X (i + 2)) (congrFun hX _) ?_
  refine g_aload_n 3 dL_law_181 rfl rfl ?_
  refine g_callH _ _ HC (ok_L_rate _) mlL_95 st_L_rate rfl ⟨Nat.le_of_ble_eq_true rfl, Nat.le_of_ble_eq_true rfl⟩ (by exact Nat.le_of_ble_eq_true rfl) ⟨Nat.le_trans (Nat.add_le_add_left hcs.1 _) hu.1, Nat.le_trans (Nat.add_le_add_left hcs.2 _) hu.2⟩ dL_law_182 rfl (fun v9 m1 h9 => ?_) (fun E m1 h9 => by cases h9.1)
  obtain ⟨h90, h91⟩ := h9
  cases h90
  obtain ⟨hb, hX, hta, hM9⟩ := hP m1 h91
  refine g_wide (u.1 + 30, u.2 + 230) (Nat.add_le_add_left hcs.1 _) (Nat.add_le_add_left hcs.2 _) ?_
  refine g_istore 5 [(5, .int (nI (c))), (4, .int (nI (i))), (3, .ref (o)), (2, .ref (a)), (1, .ref (d)), (0, .ref (b))] dL_law_185 (Nat.le_of_ble_eq_true rfl) rfl ?_
  refine g_aload_n 2 dL_law_187 rfl rfl ?_
  refine g_aload_n 0 dL_law_188 rfl rfl ?_
  refine g_iload 4 dL_law_189 rfl ?_
  refine gN_iconst 1 dL_law_191 (by decide) ?_
  refine gN_iadd (i + 1) dL_law_192 rfl ?_
  refine gN_iald19 Ls (hb) (by first | omega | exact b01_lt _) (by first | omega | exact b01_lt _) dL_law_193 ?_
  refine g_eI (X (i + 1)) (congrFun hX _) ?_
  refine g_aload_n 0 dL_law_194 rfl rfl ?_
  refine g_iload 4 dL_law_195 rfl ?_
  refine gN_iconst 2 dL_law_197 (by decide) ?_
  refine gN_iadd (i + 2) dL_law_198 rfl ?_
  refine gN_iald19 Ls (hb) (by first | omega | exact b01_lt _) (by first | omega | exact b01_lt _) dL_law_199 ?_
  refine g_eI (X (i + 2)) (congrFun hX _) ?_
  refine g_callV _ _ hM9 (ok_X10_rate _) mlL_100 in_X10_rate se_X10_rate (by rw [hta]; rfl) rfl rfl ⟨Nat.le_of_ble_eq_true rfl, Nat.le_of_ble_eq_true rfl⟩ (by exact Nat.le_of_ble_eq_true rfl) ⟨hu.1, hu.2⟩ dL_law_200 rfl (fun v9 m2 h9 => ?_) (fun E m2 h9 => by cases h9.1)
  obtain ⟨h90, h92⟩ := h9
  cases h90
  obtain ⟨hM, hto, h6, hj⟩ := hP2 m1 h91 m2 h92
  refine g_wide (u.1 + 30, u.2 + 230) (Nat.le_refl _) (Nat.le_refl _) ?_
  refine g_istore 6 [(6, .int (v)), (5, .int (nI (c))), (4, .int (nI (i))), (3, .ref (o)), (2, .ref (a)), (1, .ref (d)), (0, .ref (b))] dL_law_203 (Nat.le_of_ble_eq_true rfl) rfl ?_
  refine g_aload_n 2 dL_law_205 rfl rfl ?_
  refine gd_callV _ _ _ _ (cn_X10_thrown g (0, 0) hM) ⟨rfl, rfl⟩ (ok_X10_thrown _) mlL_101 in_X10_thrown se_X10_thrown 10 0 (hM.t) rfl rfl rfl ⟨Nat.le_of_ble_eq_true rfl, Nat.le_of_ble_eq_true rfl⟩ (by exact Nat.le_of_ble_eq_true rfl) ⟨hu.1, hu.2⟩ dL_law_206 rfl ?_
  refine g_ei (nI c) h6 ?_
  refine g_iload 5 dL_law_209 rfl ?_
  refine gN_icmp_eq 216 dL_law_211 (by decide) (by first | omega | exact b01_lt _) (by first | omega | exact b01_lt _) (fun h_211 => ?_) (fun h_211 => ?_)
  · refine g_iload 5 dL_law_216 rfl ?_
    refine gN_if_ne 233 dL_law_218 (by decide) (by first | omega | exact b01_lt _) (fun h_218 => ?_) (fun h_218 => ?_)
    · refine g_goto 1834 dL_law_233 (by decide) ?_
      refine g_pick [0, 1, 2, 3, 4, 5, 6] rfl ?_
      exact K m1 h91 m2 h92 _ _
    · refine g_aload_n 3 dL_law_221 rfl rfl ?_
      refine gN_iconst 0 dL_law_222 (by decide) ?_
      refine g_lald 0 (by rw [hto]) (by decide) (by rw [hto]; decide) dL_law_223 ?_
      refine g_eJ (v.toInt64) (hj h_218) ?_
      refine g_iload 6 dL_law_224 rfl ?_
      refine g_i2l dL_law_226 ?_
      refine g_lcmp dL_law_227 ?_
      refine g_ei (nI (0)) (lg_cmp_s _) ?_
      refine gN_if_eq 233 dL_law_228 (by decide) (by first | omega | exact b01_lt _) (fun h_228 => ?_) (fun h_228 => ?_)
      · refine g_goto 1834 dL_law_233 (by decide) ?_
        refine g_pick [0, 1, 2, 3, 4, 5, 6] rfl ?_
        exact K m1 h91 m2 h92 _ _
      · exact absurd h_228 (by decide)
  · exact absurd rfl h_211
set_option maxRecDepth 100000 in
theorem op_pays (g : Gp) {m : Mm} {a d o b Ls i c : Nat} {X : Nat → Int32} {v : Int32} {cs : Nat × Nat} {P : Mm → Prop} {P2 : Mm → Mm → Prop} {u : Nat × Nat} {Q : Rs → Mm → Prop} (hi : i + 4 ≤ Ls) (hLs : Ls ≤ 2048) (hb : tg m b = (19, Ls)) (hX : im m b = X)
    (HC : Hn g (ML_pays cs) hhL_pays [.ref d, .int (X (i + 1)), .int (X (i + 2)), .ref o] m (fun r m1 => r = .inl (some (.int (nI c))) ∧ P m1)) (hcs : cs.1 ≤ 30 ∧ cs.2 ≤ 230) (hc : c ≤ 3)
    (hP : ∀ m1, P m1 → tg m1 b = (19, Ls) ∧ im m1 b = X ∧ tg m1 a = (10, 0) ∧ Cn g (MX10_pays (0, 0)) [.ref a, .int (X (i + 1)), .int (X (i + 2))] m1 (fun r m2 => r = .inl (some (.int v)) ∧ P2 m1 m2))
    (hP2 : ∀ m1, P m1 → ∀ m2, P2 m1 m2 → MdOk m2 a ∧ tg m2 o = (18, 1) ∧ im m2 a 6 = nI c ∧ (c = 0 → jm m2 o 0 = v.toInt64)) (hu : u.1 + 30 ≤ lw_rc ∧ u.2 + 230 ≤ lw_rs)
    (K : ∀ m1, P m1 → ∀ m2, P2 m1 m2 → ∀ x5 x6 : Int32, G g ML_law Q 1834 [(6, .int x6), (5, .int x5), (4, .int (nI i)), (3, .ref o), (2, .ref a), (1, .ref d), (0, .ref b)] [] (u.1 + 30, u.2 + 230) m2) : G g ML_law Q 236 [(4, .int (nI (i))), (3, .ref (o)), (2, .ref (a)), (1, .ref (d)), (0, .ref (b))] [] u m := by
  have hi4 := hi
  have hL4 := hLs
  refine g_aload_n 1 dL_law_236 rfl rfl ?_
  refine g_aload_n 0 dL_law_237 rfl rfl ?_
  refine g_iload 4 dL_law_238 rfl ?_
  refine gN_iconst 1 dL_law_240 (by decide) ?_
  refine gN_iadd (i + 1) dL_law_241 rfl ?_
  refine gN_iald19 Ls (hb) (by first | omega | exact b01_lt _) (by first | omega | exact b01_lt _) dL_law_242 ?_
  refine g_eI (X (i + 1)) (congrFun hX _) ?_
  refine g_aload_n 0 dL_law_243 rfl rfl ?_
  refine g_iload 4 dL_law_244 rfl ?_
  refine gN_iconst 2 dL_law_246 (by decide) ?_
  refine gN_iadd (i + 2) dL_law_247 rfl ?_
  refine gN_iald19 Ls (hb) (by first | omega | exact b01_lt _) (by first | omega | exact b01_lt _) dL_law_248 ?_
  refine g_eI (X (i + 2)) (congrFun hX _) ?_
  refine g_aload_n 3 dL_law_249 rfl rfl ?_
  refine g_callH _ _ HC (ok_L_pays _) mlL_104 st_L_pays rfl ⟨Nat.le_of_ble_eq_true rfl, Nat.le_of_ble_eq_true rfl⟩ (by exact Nat.le_of_ble_eq_true rfl) ⟨Nat.le_trans (Nat.add_le_add_left hcs.1 _) hu.1, Nat.le_trans (Nat.add_le_add_left hcs.2 _) hu.2⟩ dL_law_250 rfl (fun v9 m1 h9 => ?_) (fun E m1 h9 => by cases h9.1)
  obtain ⟨h90, h91⟩ := h9
  cases h90
  obtain ⟨hb, hX, hta, hM9⟩ := hP m1 h91
  refine g_wide (u.1 + 30, u.2 + 230) (Nat.add_le_add_left hcs.1 _) (Nat.add_le_add_left hcs.2 _) ?_
  refine g_istore 5 [(5, .int (nI (c))), (4, .int (nI (i))), (3, .ref (o)), (2, .ref (a)), (1, .ref (d)), (0, .ref (b))] dL_law_253 (Nat.le_of_ble_eq_true rfl) rfl ?_
  refine g_aload_n 2 dL_law_255 rfl rfl ?_
  refine g_aload_n 0 dL_law_256 rfl rfl ?_
  refine g_iload 4 dL_law_257 rfl ?_
  refine gN_iconst 1 dL_law_259 (by decide) ?_
  refine gN_iadd (i + 1) dL_law_260 rfl ?_
  refine gN_iald19 Ls (hb) (by first | omega | exact b01_lt _) (by first | omega | exact b01_lt _) dL_law_261 ?_
  refine g_eI (X (i + 1)) (congrFun hX _) ?_
  refine g_aload_n 0 dL_law_262 rfl rfl ?_
  refine g_iload 4 dL_law_263 rfl ?_
  refine gN_iconst 2 dL_law_265 (by decide) ?_
  refine gN_iadd (i + 2) dL_law_266 rfl ?_
  refine gN_iald19 Ls (hb) (by first | omega | exact b01_lt _) (by first | omega | exact b01_lt _) dL_law_267 ?_
  refine g_eI (X (i + 2)) (congrFun hX _) ?_
  refine g_callV _ _ hM9 (ok_X10_pays _) mlL_106 in_X10_pays se_X10_pays (by rw [hta]; rfl) rfl rfl ⟨Nat.le_of_ble_eq_true rfl, Nat.le_of_ble_eq_true rfl⟩ (by exact Nat.le_of_ble_eq_true rfl) ⟨hu.1, hu.2⟩ dL_law_268 rfl (fun v9 m2 h9 => ?_) (fun E m2 h9 => by cases h9.1)
  obtain ⟨h90, h92⟩ := h9
  cases h90
  obtain ⟨hM, hto, h6, hj⟩ := hP2 m1 h91 m2 h92
  refine g_wide (u.1 + 30, u.2 + 230) (Nat.le_refl _) (Nat.le_refl _) ?_
  refine g_istore 6 [(6, .int (v)), (5, .int (nI (c))), (4, .int (nI (i))), (3, .ref (o)), (2, .ref (a)), (1, .ref (d)), (0, .ref (b))] dL_law_271 (Nat.le_of_ble_eq_true rfl) rfl ?_
  refine g_aload_n 2 dL_law_273 rfl rfl ?_
  refine gd_callV _ _ _ _ (cn_X10_thrown g (0, 0) hM) ⟨rfl, rfl⟩ (ok_X10_thrown _) mlL_101 in_X10_thrown se_X10_thrown 10 0 (hM.t) rfl rfl rfl ⟨Nat.le_of_ble_eq_true rfl, Nat.le_of_ble_eq_true rfl⟩ (by exact Nat.le_of_ble_eq_true rfl) ⟨hu.1, hu.2⟩ dL_law_274 rfl ?_
  refine g_ei (nI c) h6 ?_
  refine g_iload 5 dL_law_277 rfl ?_
  refine gN_icmp_eq 284 dL_law_279 (by decide) (by first | omega | exact b01_lt _) (by first | omega | exact b01_lt _) (fun h_279 => ?_) (fun h_279 => ?_)
  · refine g_iload 5 dL_law_284 rfl ?_
    refine gN_if_ne 301 dL_law_286 (by decide) (by first | omega | exact b01_lt _) (fun h_286 => ?_) (fun h_286 => ?_)
    · refine g_goto 1834 dL_law_301 (by decide) ?_
      refine g_pick [0, 1, 2, 3, 4, 5, 6] rfl ?_
      exact K m1 h91 m2 h92 _ _
    · refine g_aload_n 3 dL_law_289 rfl rfl ?_
      refine gN_iconst 0 dL_law_290 (by decide) ?_
      refine g_lald 0 (by rw [hto]) (by decide) (by rw [hto]; decide) dL_law_291 ?_
      refine g_eJ (v.toInt64) (hj h_286) ?_
      refine g_iload 6 dL_law_292 rfl ?_
      refine g_i2l dL_law_294 ?_
      refine g_lcmp dL_law_295 ?_
      refine g_ei (nI (0)) (lg_cmp_s _) ?_
      refine gN_if_eq 301 dL_law_296 (by decide) (by first | omega | exact b01_lt _) (fun h_296 => ?_) (fun h_296 => ?_)
      · refine g_goto 1834 dL_law_301 (by decide) ?_
        refine g_pick [0, 1, 2, 3, 4, 5, 6] rfl ?_
        exact K m1 h91 m2 h92 _ _
      · exact absurd h_296 (by decide)
  · exact absurd rfl h_279
set_option maxRecDepth 100000 in
theorem op_set (g : Gp) {m : Mm} {a d o b Ls i c : Nat} {X : Nat → Int32} {v : Int32} {cs : Nat × Nat} {P : Mm → Prop} {P2 : Mm → Mm → Prop} {u : Nat × Nat} {Q : Rs → Mm → Prop} (hi : i + 4 ≤ Ls) (hLs : Ls ≤ 2048) (hb : tg m b = (19, Ls)) (hX : im m b = X)
    (HC : Hn g (ML_set cs) hhL_set [.ref d, .int (X (i + 1)), .int (X (i + 2)), .ref o] m (fun r m1 => r = .inl (some (.int (nI c))) ∧ P m1)) (hcs : cs.1 ≤ 30 ∧ cs.2 ≤ 230) (hc : c ≤ 3)
    (hP : ∀ m1, P m1 → tg m1 b = (19, Ls) ∧ im m1 b = X ∧ tg m1 a = (10, 0) ∧ Cn g (MX10_set (0, 0)) [.ref a, .int (X (i + 1)), .int (X (i + 2))] m1 (fun r m2 => r = .inl (some (.int v)) ∧ P2 m1 m2))
    (hP2 : ∀ m1, P m1 → ∀ m2, P2 m1 m2 → MdOk m2 a ∧ tg m2 o = (18, 1) ∧ im m2 a 6 = nI c ∧ (c = 0 → jm m2 o 0 = v.toInt64)) (hu : u.1 + 30 ≤ lw_rc ∧ u.2 + 230 ≤ lw_rs)
    (K : ∀ m1, P m1 → ∀ m2, P2 m1 m2 → ∀ x5 x6 : Int32, G g ML_law Q 1834 [(6, .int x6), (5, .int x5), (4, .int (nI i)), (3, .ref o), (2, .ref a), (1, .ref d), (0, .ref b)] [] (u.1 + 30, u.2 + 230) m2) : G g ML_law Q 304 [(4, .int (nI (i))), (3, .ref (o)), (2, .ref (a)), (1, .ref (d)), (0, .ref (b))] [] u m := by
  have hi4 := hi
  have hL4 := hLs
  refine g_aload_n 1 dL_law_304 rfl rfl ?_
  refine g_aload_n 0 dL_law_305 rfl rfl ?_
  refine g_iload 4 dL_law_306 rfl ?_
  refine gN_iconst 1 dL_law_308 (by decide) ?_
  refine gN_iadd (i + 1) dL_law_309 rfl ?_
  refine gN_iald19 Ls (hb) (by first | omega | exact b01_lt _) (by first | omega | exact b01_lt _) dL_law_310 ?_
  refine g_eI (X (i + 1)) (congrFun hX _) ?_
  refine g_aload_n 0 dL_law_311 rfl rfl ?_
  refine g_iload 4 dL_law_312 rfl ?_
  refine gN_iconst 2 dL_law_314 (by decide) ?_
  refine gN_iadd (i + 2) dL_law_315 rfl ?_
  refine gN_iald19 Ls (hb) (by first | omega | exact b01_lt _) (by first | omega | exact b01_lt _) dL_law_316 ?_
  refine g_eI (X (i + 2)) (congrFun hX _) ?_
  refine g_aload_n 3 dL_law_317 rfl rfl ?_
  refine g_callH _ _ HC (ok_L_set _) mlL_107 st_L_set rfl ⟨Nat.le_of_ble_eq_true rfl, Nat.le_of_ble_eq_true rfl⟩ (by exact Nat.le_of_ble_eq_true rfl) ⟨Nat.le_trans (Nat.add_le_add_left hcs.1 _) hu.1, Nat.le_trans (Nat.add_le_add_left hcs.2 _) hu.2⟩ dL_law_318 rfl (fun v9 m1 h9 => ?_) (fun E m1 h9 => by cases h9.1)
  obtain ⟨h90, h91⟩ := h9
  cases h90
  obtain ⟨hb, hX, hta, hM9⟩ := hP m1 h91
  refine g_wide (u.1 + 30, u.2 + 230) (Nat.add_le_add_left hcs.1 _) (Nat.add_le_add_left hcs.2 _) ?_
  refine g_istore 5 [(5, .int (nI (c))), (4, .int (nI (i))), (3, .ref (o)), (2, .ref (a)), (1, .ref (d)), (0, .ref (b))] dL_law_321 (Nat.le_of_ble_eq_true rfl) rfl ?_
  refine g_aload_n 2 dL_law_323 rfl rfl ?_
  refine g_aload_n 0 dL_law_324 rfl rfl ?_
  refine g_iload 4 dL_law_325 rfl ?_
  refine gN_iconst 1 dL_law_327 (by decide) ?_
  refine gN_iadd (i + 1) dL_law_328 rfl ?_
  refine gN_iald19 Ls (hb) (by first | omega | exact b01_lt _) (by first | omega | exact b01_lt _) dL_law_329 ?_
  refine g_eI (X (i + 1)) (congrFun hX _) ?_
  refine g_aload_n 0 dL_law_330 rfl rfl ?_
  refine g_iload 4 dL_law_331 rfl ?_
  refine gN_iconst 2 dL_law_333 (by decide) ?_
  refine gN_iadd (i + 2) dL_law_334 rfl ?_
  refine gN_iald19 Ls (hb) (by first | omega | exact b01_lt _) (by first | omega | exact b01_lt _) dL_law_335 ?_
  refine g_eI (X (i + 2)) (congrFun hX _) ?_
  refine g_callV _ _ hM9 (ok_X10_set _) mlL_109 in_X10_set se_X10_set (by rw [hta]; rfl) rfl rfl ⟨Nat.le_of_ble_eq_true rfl, Nat.le_of_ble_eq_true rfl⟩ (by exact Nat.le_of_ble_eq_true rfl) ⟨hu.1, hu.2⟩ dL_law_336 rfl (fun v9 m2 h9 => ?_) (fun E m2 h9 => by cases h9.1)
  obtain ⟨h90, h92⟩ := h9
  cases h90
  obtain ⟨hM, hto, h6, hj⟩ := hP2 m1 h91 m2 h92
  refine g_wide (u.1 + 30, u.2 + 230) (Nat.le_refl _) (Nat.le_refl _) ?_
  refine g_istore 6 [(6, .int (v)), (5, .int (nI (c))), (4, .int (nI (i))), (3, .ref (o)), (2, .ref (a)), (1, .ref (d)), (0, .ref (b))] dL_law_339 (Nat.le_of_ble_eq_true rfl) rfl ?_
  refine g_aload_n 2 dL_law_341 rfl rfl ?_
  refine gd_callV _ _ _ _ (cn_X10_thrown g (0, 0) hM) ⟨rfl, rfl⟩ (ok_X10_thrown _) mlL_101 in_X10_thrown se_X10_thrown 10 0 (hM.t) rfl rfl rfl ⟨Nat.le_of_ble_eq_true rfl, Nat.le_of_ble_eq_true rfl⟩ (by exact Nat.le_of_ble_eq_true rfl) ⟨hu.1, hu.2⟩ dL_law_342 rfl ?_
  refine g_ei (nI c) h6 ?_
  refine g_iload 5 dL_law_345 rfl ?_
  refine gN_icmp_eq 352 dL_law_347 (by decide) (by first | omega | exact b01_lt _) (by first | omega | exact b01_lt _) (fun h_347 => ?_) (fun h_347 => ?_)
  · refine g_iload 5 dL_law_352 rfl ?_
    refine gN_if_ne 369 dL_law_354 (by decide) (by first | omega | exact b01_lt _) (fun h_354 => ?_) (fun h_354 => ?_)
    · refine g_goto 1834 dL_law_369 (by decide) ?_
      refine g_pick [0, 1, 2, 3, 4, 5, 6] rfl ?_
      exact K m1 h91 m2 h92 _ _
    · refine g_aload_n 3 dL_law_357 rfl rfl ?_
      refine gN_iconst 0 dL_law_358 (by decide) ?_
      refine g_lald 0 (by rw [hto]) (by decide) (by rw [hto]; decide) dL_law_359 ?_
      refine g_eJ (v.toInt64) (hj h_354) ?_
      refine g_iload 6 dL_law_360 rfl ?_
      refine g_i2l dL_law_362 ?_
      refine g_lcmp dL_law_363 ?_
      refine g_ei (nI (0)) (lg_cmp_s _) ?_
      refine gN_if_eq 369 dL_law_364 (by decide) (by first | omega | exact b01_lt _) (fun h_364 => ?_) (fun h_364 => ?_)
      · refine g_goto 1834 dL_law_369 (by decide) ?_
        refine g_pick [0, 1, 2, 3, 4, 5, 6] rfl ?_
        exact K m1 h91 m2 h92 _ _
      · exact absurd h_364 (by decide)
  · exact absurd rfl h_347
set_option maxRecDepth 100000 in
theorem op_assign (g : Gp) {m : Mm} {a d o b Ls i c : Nat} {X : Nat → Int32} {v : Int32} {cs : Nat × Nat} {P : Mm → Prop} {P2 : Mm → Mm → Prop} {u : Nat × Nat} {Q : Rs → Mm → Prop} (hi : i + 4 ≤ Ls) (hLs : Ls ≤ 2048) (hb : tg m b = (19, Ls)) (hX : im m b = X)
    (HC : Hn g (ML_assign cs) hhL_assign [.ref d, .int (X (i + 1)), .int (X (i + 2)), .ref o] m (fun r m1 => r = .inl (some (.int (nI c))) ∧ P m1)) (hcs : cs.1 ≤ 30 ∧ cs.2 ≤ 230) (hc : c ≤ 3)
    (hP : ∀ m1, P m1 → tg m1 b = (19, Ls) ∧ im m1 b = X ∧ tg m1 a = (10, 0) ∧ Cn g (MX10_assign (0, 0)) [.ref a, .int (X (i + 1)), .int (X (i + 2))] m1 (fun r m2 => r = .inl (some (.int v)) ∧ P2 m1 m2))
    (hP2 : ∀ m1, P m1 → ∀ m2, P2 m1 m2 → MdOk m2 a ∧ tg m2 o = (18, 1) ∧ im m2 a 6 = nI c ∧ (c = 0 → jm m2 o 0 = v.toInt64)) (hu : u.1 + 30 ≤ lw_rc ∧ u.2 + 230 ≤ lw_rs)
    (K : ∀ m1, P m1 → ∀ m2, P2 m1 m2 → ∀ x5 x6 : Int32, G g ML_law Q 1834 [(6, .int x6), (5, .int x5), (4, .int (nI i)), (3, .ref o), (2, .ref a), (1, .ref d), (0, .ref b)] [] (u.1 + 30, u.2 + 230) m2) : G g ML_law Q 372 [(4, .int (nI (i))), (3, .ref (o)), (2, .ref (a)), (1, .ref (d)), (0, .ref (b))] [] u m := by
  have hi4 := hi
  have hL4 := hLs
  refine g_aload_n 1 dL_law_372 rfl rfl ?_
  refine g_aload_n 0 dL_law_373 rfl rfl ?_
  refine g_iload 4 dL_law_374 rfl ?_
  refine gN_iconst 1 dL_law_376 (by decide) ?_
  refine gN_iadd (i + 1) dL_law_377 rfl ?_
  refine gN_iald19 Ls (hb) (by first | omega | exact b01_lt _) (by first | omega | exact b01_lt _) dL_law_378 ?_
  refine g_eI (X (i + 1)) (congrFun hX _) ?_
  refine g_aload_n 0 dL_law_379 rfl rfl ?_
  refine g_iload 4 dL_law_380 rfl ?_
  refine gN_iconst 2 dL_law_382 (by decide) ?_
  refine gN_iadd (i + 2) dL_law_383 rfl ?_
  refine gN_iald19 Ls (hb) (by first | omega | exact b01_lt _) (by first | omega | exact b01_lt _) dL_law_384 ?_
  refine g_eI (X (i + 2)) (congrFun hX _) ?_
  refine g_aload_n 3 dL_law_385 rfl rfl ?_
  refine g_callH _ _ HC (ok_L_assign _) mlL_110 st_L_assign rfl ⟨Nat.le_of_ble_eq_true rfl, Nat.le_of_ble_eq_true rfl⟩ (by exact Nat.le_of_ble_eq_true rfl) ⟨Nat.le_trans (Nat.add_le_add_left hcs.1 _) hu.1, Nat.le_trans (Nat.add_le_add_left hcs.2 _) hu.2⟩ dL_law_386 rfl (fun v9 m1 h9 => ?_) (fun E m1 h9 => by cases h9.1)
  obtain ⟨h90, h91⟩ := h9
  cases h90
  obtain ⟨hb, hX, hta, hM9⟩ := hP m1 h91
  refine g_wide (u.1 + 30, u.2 + 230) (Nat.add_le_add_left hcs.1 _) (Nat.add_le_add_left hcs.2 _) ?_
  refine g_istore 5 [(5, .int (nI (c))), (4, .int (nI (i))), (3, .ref (o)), (2, .ref (a)), (1, .ref (d)), (0, .ref (b))] dL_law_389 (Nat.le_of_ble_eq_true rfl) rfl ?_
  refine g_aload_n 2 dL_law_391 rfl rfl ?_
  refine g_aload_n 0 dL_law_392 rfl rfl ?_
  refine g_iload 4 dL_law_393 rfl ?_
  refine gN_iconst 1 dL_law_395 (by decide) ?_
  refine gN_iadd (i + 1) dL_law_396 rfl ?_
  refine gN_iald19 Ls (hb) (by first | omega | exact b01_lt _) (by first | omega | exact b01_lt _) dL_law_397 ?_
  refine g_eI (X (i + 1)) (congrFun hX _) ?_
  refine g_aload_n 0 dL_law_398 rfl rfl ?_
  refine g_iload 4 dL_law_399 rfl ?_
  refine gN_iconst 2 dL_law_401 (by decide) ?_
  refine gN_iadd (i + 2) dL_law_402 rfl ?_
  refine gN_iald19 Ls (hb) (by first | omega | exact b01_lt _) (by first | omega | exact b01_lt _) dL_law_403 ?_
  refine g_eI (X (i + 2)) (congrFun hX _) ?_
  refine g_callV _ _ hM9 (ok_X10_assign _) mlL_112 in_X10_assign se_X10_assign (by rw [hta]; rfl) rfl rfl ⟨Nat.le_of_ble_eq_true rfl, Nat.le_of_ble_eq_true rfl⟩ (by exact Nat.le_of_ble_eq_true rfl) ⟨hu.1, hu.2⟩ dL_law_404 rfl (fun v9 m2 h9 => ?_) (fun E m2 h9 => by cases h9.1)
  obtain ⟨h90, h92⟩ := h9
  cases h90
  obtain ⟨hM, hto, h6, hj⟩ := hP2 m1 h91 m2 h92
  refine g_wide (u.1 + 30, u.2 + 230) (Nat.le_refl _) (Nat.le_refl _) ?_
  refine g_istore 6 [(6, .int (v)), (5, .int (nI (c))), (4, .int (nI (i))), (3, .ref (o)), (2, .ref (a)), (1, .ref (d)), (0, .ref (b))] dL_law_407 (Nat.le_of_ble_eq_true rfl) rfl ?_
  refine g_aload_n 2 dL_law_409 rfl rfl ?_
  refine gd_callV _ _ _ _ (cn_X10_thrown g (0, 0) hM) ⟨rfl, rfl⟩ (ok_X10_thrown _) mlL_101 in_X10_thrown se_X10_thrown 10 0 (hM.t) rfl rfl rfl ⟨Nat.le_of_ble_eq_true rfl, Nat.le_of_ble_eq_true rfl⟩ (by exact Nat.le_of_ble_eq_true rfl) ⟨hu.1, hu.2⟩ dL_law_410 rfl ?_
  refine g_ei (nI c) h6 ?_
  refine g_iload 5 dL_law_413 rfl ?_
  refine gN_icmp_eq 420 dL_law_415 (by decide) (by first | omega | exact b01_lt _) (by first | omega | exact b01_lt _) (fun h_415 => ?_) (fun h_415 => ?_)
  · refine g_iload 5 dL_law_420 rfl ?_
    refine gN_if_ne 437 dL_law_422 (by decide) (by first | omega | exact b01_lt _) (fun h_422 => ?_) (fun h_422 => ?_)
    · refine g_goto 1834 dL_law_437 (by decide) ?_
      refine g_pick [0, 1, 2, 3, 4, 5, 6] rfl ?_
      exact K m1 h91 m2 h92 _ _
    · refine g_aload_n 3 dL_law_425 rfl rfl ?_
      refine gN_iconst 0 dL_law_426 (by decide) ?_
      refine g_lald 0 (by rw [hto]) (by decide) (by rw [hto]; decide) dL_law_427 ?_
      refine g_eJ (v.toInt64) (hj h_422) ?_
      refine g_iload 6 dL_law_428 rfl ?_
      refine g_i2l dL_law_430 ?_
      refine g_lcmp dL_law_431 ?_
      refine g_ei (nI (0)) (lg_cmp_s _) ?_
      refine gN_if_eq 437 dL_law_432 (by decide) (by first | omega | exact b01_lt _) (fun h_432 => ?_) (fun h_432 => ?_)
      · refine g_goto 1834 dL_law_437 (by decide) ?_
        refine g_pick [0, 1, 2, 3, 4, 5, 6] rfl ?_
        exact K m1 h91 m2 h92 _ _
      · exact absurd h_432 (by decide)
  · exact absurd rfl h_415
set_option maxRecDepth 100000 in
theorem op_deliver (g : Gp) {m : Mm} {a d o b Ls i c : Nat} {X : Nat → Int32} {v : Int32} {cs : Nat × Nat} {P : Mm → Prop} {P2 : Mm → Mm → Prop} {u : Nat × Nat} {Q : Rs → Mm → Prop} (hi : i + 4 ≤ Ls) (hLs : Ls ≤ 2048) (hb : tg m b = (19, Ls)) (hX : im m b = X)
    (HC : Hn g (ML_deliver cs) hhL_deliver [.ref d, .int (X (i + 1)), .ref o] m (fun r m1 => r = .inl (some (.int (nI c))) ∧ P m1)) (hcs : cs.1 ≤ 30 ∧ cs.2 ≤ 230) (hc : c ≤ 3)
    (hP : ∀ m1, P m1 → tg m1 b = (19, Ls) ∧ im m1 b = X ∧ tg m1 a = (10, 0) ∧ Cn g (MX10_deliver (0, 0)) [.ref a, .int (X (i + 1))] m1 (fun r m2 => r = .inl (some (.int v)) ∧ P2 m1 m2))
    (hP2 : ∀ m1, P m1 → ∀ m2, P2 m1 m2 → MdOk m2 a ∧ tg m2 o = (18, 1) ∧ im m2 a 6 = nI c ∧ (c = 0 → jm m2 o 0 = v.toInt64)) (hu : u.1 + 30 ≤ lw_rc ∧ u.2 + 230 ≤ lw_rs)
    (K : ∀ m1, P m1 → ∀ m2, P2 m1 m2 → ∀ x5 x6 : Int32, G g ML_law Q 1834 [(6, .int x6), (5, .int x5), (4, .int (nI i)), (3, .ref o), (2, .ref a), (1, .ref d), (0, .ref b)] [] (u.1 + 30, u.2 + 230) m2) : G g ML_law Q 440 [(4, .int (nI (i))), (3, .ref (o)), (2, .ref (a)), (1, .ref (d)), (0, .ref (b))] [] u m := by
  have hi4 := hi
  have hL4 := hLs
  refine g_aload_n 1 dL_law_440 rfl rfl ?_
  refine g_aload_n 0 dL_law_441 rfl rfl ?_
  refine g_iload 4 dL_law_442 rfl ?_
  refine gN_iconst 1 dL_law_444 (by decide) ?_
  refine gN_iadd (i + 1) dL_law_445 rfl ?_
  refine gN_iald19 Ls (hb) (by first | omega | exact b01_lt _) (by first | omega | exact b01_lt _) dL_law_446 ?_
  refine g_eI (X (i + 1)) (congrFun hX _) ?_
  refine g_aload_n 3 dL_law_447 rfl rfl ?_
  refine g_callH _ _ HC (ok_L_deliver _) mlL_113 st_L_deliver rfl ⟨Nat.le_of_ble_eq_true rfl, Nat.le_of_ble_eq_true rfl⟩ (by exact Nat.le_of_ble_eq_true rfl) ⟨Nat.le_trans (Nat.add_le_add_left hcs.1 _) hu.1, Nat.le_trans (Nat.add_le_add_left hcs.2 _) hu.2⟩ dL_law_448 rfl (fun v9 m1 h9 => ?_) (fun E m1 h9 => by cases h9.1)
  obtain ⟨h90, h91⟩ := h9
  cases h90
  obtain ⟨hb, hX, hta, hM9⟩ := hP m1 h91
  refine g_wide (u.1 + 30, u.2 + 230) (Nat.add_le_add_left hcs.1 _) (Nat.add_le_add_left hcs.2 _) ?_
  refine g_istore 5 [(5, .int (nI (c))), (4, .int (nI (i))), (3, .ref (o)), (2, .ref (a)), (1, .ref (d)), (0, .ref (b))] dL_law_451 (Nat.le_of_ble_eq_true rfl) rfl ?_
  refine g_aload_n 2 dL_law_453 rfl rfl ?_
  refine g_aload_n 0 dL_law_454 rfl rfl ?_
  refine g_iload 4 dL_law_455 rfl ?_
  refine gN_iconst 1 dL_law_457 (by decide) ?_
  refine gN_iadd (i + 1) dL_law_458 rfl ?_
  refine gN_iald19 Ls (hb) (by first | omega | exact b01_lt _) (by first | omega | exact b01_lt _) dL_law_459 ?_
  refine g_eI (X (i + 1)) (congrFun hX _) ?_
  refine g_callV _ _ hM9 (ok_X10_deliver _) mlL_116 in_X10_deliver se_X10_deliver (by rw [hta]; rfl) rfl rfl ⟨Nat.le_of_ble_eq_true rfl, Nat.le_of_ble_eq_true rfl⟩ (by exact Nat.le_of_ble_eq_true rfl) ⟨hu.1, hu.2⟩ dL_law_460 rfl (fun v9 m2 h9 => ?_) (fun E m2 h9 => by cases h9.1)
  obtain ⟨h90, h92⟩ := h9
  cases h90
  obtain ⟨hM, hto, h6, hj⟩ := hP2 m1 h91 m2 h92
  refine g_wide (u.1 + 30, u.2 + 230) (Nat.le_refl _) (Nat.le_refl _) ?_
  refine g_istore 6 [(6, .int (v)), (5, .int (nI (c))), (4, .int (nI (i))), (3, .ref (o)), (2, .ref (a)), (1, .ref (d)), (0, .ref (b))] dL_law_463 (Nat.le_of_ble_eq_true rfl) rfl ?_
  refine g_aload_n 2 dL_law_465 rfl rfl ?_
  refine gd_callV _ _ _ _ (cn_X10_thrown g (0, 0) hM) ⟨rfl, rfl⟩ (ok_X10_thrown _) mlL_101 in_X10_thrown se_X10_thrown 10 0 (hM.t) rfl rfl rfl ⟨Nat.le_of_ble_eq_true rfl, Nat.le_of_ble_eq_true rfl⟩ (by exact Nat.le_of_ble_eq_true rfl) ⟨hu.1, hu.2⟩ dL_law_466 rfl ?_
  refine g_ei (nI c) h6 ?_
  refine g_iload 5 dL_law_469 rfl ?_
  refine gN_icmp_eq 476 dL_law_471 (by decide) (by first | omega | exact b01_lt _) (by first | omega | exact b01_lt _) (fun h_471 => ?_) (fun h_471 => ?_)
  · refine g_iload 5 dL_law_476 rfl ?_
    refine gN_if_ne 493 dL_law_478 (by decide) (by first | omega | exact b01_lt _) (fun h_478 => ?_) (fun h_478 => ?_)
    · refine g_goto 1834 dL_law_493 (by decide) ?_
      refine g_pick [0, 1, 2, 3, 4, 5, 6] rfl ?_
      exact K m1 h91 m2 h92 _ _
    · refine g_aload_n 3 dL_law_481 rfl rfl ?_
      refine gN_iconst 0 dL_law_482 (by decide) ?_
      refine g_lald 0 (by rw [hto]) (by decide) (by rw [hto]; decide) dL_law_483 ?_
      refine g_eJ (v.toInt64) (hj h_478) ?_
      refine g_iload 6 dL_law_484 rfl ?_
      refine g_i2l dL_law_486 ?_
      refine g_lcmp dL_law_487 ?_
      refine g_ei (nI (0)) (lg_cmp_s _) ?_
      refine gN_if_eq 493 dL_law_488 (by decide) (by first | omega | exact b01_lt _) (fun h_488 => ?_) (fun h_488 => ?_)
      · refine g_goto 1834 dL_law_493 (by decide) ?_
        refine g_pick [0, 1, 2, 3, 4, 5, 6] rfl ?_
        exact K m1 h91 m2 h92 _ _
      · exact absurd h_488 (by decide)
  · exact absurd rfl h_471
set_option maxRecDepth 100000 in
theorem op_revise (g : Gp) {m : Mm} {a d o b Ls i c : Nat} {X : Nat → Int32} {v : Int32} {cs : Nat × Nat} {P : Mm → Prop} {P2 : Mm → Mm → Prop} {u : Nat × Nat} {Q : Rs → Mm → Prop} (hi : i + 4 ≤ Ls) (hLs : Ls ≤ 2048) (hb : tg m b = (19, Ls)) (hX : im m b = X)
    (HC : Hn g (ML_revise cs) hhL_revise [.ref d, .int (X (i + 1)), .int (X (i + 2)), .int (X (i + 3)), .ref o] m (fun r m1 => r = .inl (some (.int (nI c))) ∧ P m1)) (hcs : cs.1 ≤ 30 ∧ cs.2 ≤ 230) (hc : c ≤ 3)
    (hP : ∀ m1, P m1 → tg m1 b = (19, Ls) ∧ im m1 b = X ∧ tg m1 a = (10, 0) ∧ Cn g (MX10_revise (0, 0)) [.ref a, .int (X (i + 1)), .int (X (i + 2)), .int (X (i + 3))] m1 (fun r m2 => r = .inl (some (.int v)) ∧ P2 m1 m2))
    (hP2 : ∀ m1, P m1 → ∀ m2, P2 m1 m2 → MdOk m2 a ∧ tg m2 o = (18, 1) ∧ im m2 a 6 = nI c ∧ (c = 0 → jm m2 o 0 = v.toInt64)) (hu : u.1 + 30 ≤ lw_rc ∧ u.2 + 230 ≤ lw_rs)
    (K : ∀ m1, P m1 → ∀ m2, P2 m1 m2 → ∀ x5 x6 : Int32, G g ML_law Q 1834 [(6, .int x6), (5, .int x5), (4, .int (nI i)), (3, .ref o), (2, .ref a), (1, .ref d), (0, .ref b)] [] (u.1 + 30, u.2 + 230) m2) : G g ML_law Q 496 [(4, .int (nI (i))), (3, .ref (o)), (2, .ref (a)), (1, .ref (d)), (0, .ref (b))] [] u m := by
  have hi4 := hi
  have hL4 := hLs
  refine g_aload_n 1 dL_law_496 rfl rfl ?_
  refine g_aload_n 0 dL_law_497 rfl rfl ?_
  refine g_iload 4 dL_law_498 rfl ?_
  refine gN_iconst 1 dL_law_500 (by decide) ?_
  refine gN_iadd (i + 1) dL_law_501 rfl ?_
  refine gN_iald19 Ls (hb) (by first | omega | exact b01_lt _) (by first | omega | exact b01_lt _) dL_law_502 ?_
  refine g_eI (X (i + 1)) (congrFun hX _) ?_
  refine g_aload_n 0 dL_law_503 rfl rfl ?_
  refine g_iload 4 dL_law_504 rfl ?_
  refine gN_iconst 2 dL_law_506 (by decide) ?_
  refine gN_iadd (i + 2) dL_law_507 rfl ?_
  refine gN_iald19 Ls (hb) (by first | omega | exact b01_lt _) (by first | omega | exact b01_lt _) dL_law_508 ?_
  refine g_eI (X (i + 2)) (congrFun hX _) ?_
  refine g_aload_n 0 dL_law_509 rfl rfl ?_
  refine g_iload 4 dL_law_510 rfl ?_
  refine gN_iconst 3 dL_law_512 (by decide) ?_
  refine gN_iadd (i + 3) dL_law_513 rfl ?_
  refine gN_iald19 Ls (hb) (by first | omega | exact b01_lt _) (by first | omega | exact b01_lt _) dL_law_514 ?_
  refine g_eI (X (i + 3)) (congrFun hX _) ?_
  refine g_aload_n 3 dL_law_515 rfl rfl ?_
  refine g_callH _ _ HC (ok_L_revise _) mlL_117 st_L_revise rfl ⟨Nat.le_of_ble_eq_true rfl, Nat.le_of_ble_eq_true rfl⟩ (by exact Nat.le_of_ble_eq_true rfl) ⟨Nat.le_trans (Nat.add_le_add_left hcs.1 _) hu.1, Nat.le_trans (Nat.add_le_add_left hcs.2 _) hu.2⟩ dL_law_516 rfl (fun v9 m1 h9 => ?_) (fun E m1 h9 => by cases h9.1)
  obtain ⟨h90, h91⟩ := h9
  cases h90
  obtain ⟨hb, hX, hta, hM9⟩ := hP m1 h91
  refine g_wide (u.1 + 30, u.2 + 230) (Nat.add_le_add_left hcs.1 _) (Nat.add_le_add_left hcs.2 _) ?_
  refine g_istore 5 [(5, .int (nI (c))), (4, .int (nI (i))), (3, .ref (o)), (2, .ref (a)), (1, .ref (d)), (0, .ref (b))] dL_law_519 (Nat.le_of_ble_eq_true rfl) rfl ?_
  refine g_aload_n 2 dL_law_521 rfl rfl ?_
  refine g_aload_n 0 dL_law_522 rfl rfl ?_
  refine g_iload 4 dL_law_523 rfl ?_
  refine gN_iconst 1 dL_law_525 (by decide) ?_
  refine gN_iadd (i + 1) dL_law_526 rfl ?_
  refine gN_iald19 Ls (hb) (by first | omega | exact b01_lt _) (by first | omega | exact b01_lt _) dL_law_527 ?_
  refine g_eI (X (i + 1)) (congrFun hX _) ?_
  refine g_aload_n 0 dL_law_528 rfl rfl ?_
  refine g_iload 4 dL_law_529 rfl ?_
  refine gN_iconst 2 dL_law_531 (by decide) ?_
  refine gN_iadd (i + 2) dL_law_532 rfl ?_
  refine gN_iald19 Ls (hb) (by first | omega | exact b01_lt _) (by first | omega | exact b01_lt _) dL_law_533 ?_
  refine g_eI (X (i + 2)) (congrFun hX _) ?_
  refine g_aload_n 0 dL_law_534 rfl rfl ?_
  refine g_iload 4 dL_law_535 rfl ?_
  refine gN_iconst 3 dL_law_537 (by decide) ?_
  refine gN_iadd (i + 3) dL_law_538 rfl ?_
  refine gN_iald19 Ls (hb) (by first | omega | exact b01_lt _) (by first | omega | exact b01_lt _) dL_law_539 ?_
  refine g_eI (X (i + 3)) (congrFun hX _) ?_
  refine g_callV _ _ hM9 (ok_X10_revise _) mlL_120 in_X10_revise se_X10_revise (by rw [hta]; rfl) rfl rfl ⟨Nat.le_of_ble_eq_true rfl, Nat.le_of_ble_eq_true rfl⟩ (by exact Nat.le_of_ble_eq_true rfl) ⟨hu.1, hu.2⟩ dL_law_540 rfl (fun v9 m2 h9 => ?_) (fun E m2 h9 => by cases h9.1)
  obtain ⟨h90, h92⟩ := h9
  cases h90
  obtain ⟨hM, hto, h6, hj⟩ := hP2 m1 h91 m2 h92
  refine g_wide (u.1 + 30, u.2 + 230) (Nat.le_refl _) (Nat.le_refl _) ?_
  refine g_istore 6 [(6, .int (v)), (5, .int (nI (c))), (4, .int (nI (i))), (3, .ref (o)), (2, .ref (a)), (1, .ref (d)), (0, .ref (b))] dL_law_543 (Nat.le_of_ble_eq_true rfl) rfl ?_
  refine g_aload_n 2 dL_law_545 rfl rfl ?_
  refine gd_callV _ _ _ _ (cn_X10_thrown g (0, 0) hM) ⟨rfl, rfl⟩ (ok_X10_thrown _) mlL_101 in_X10_thrown se_X10_thrown 10 0 (hM.t) rfl rfl rfl ⟨Nat.le_of_ble_eq_true rfl, Nat.le_of_ble_eq_true rfl⟩ (by exact Nat.le_of_ble_eq_true rfl) ⟨hu.1, hu.2⟩ dL_law_546 rfl ?_
  refine g_ei (nI c) h6 ?_
  refine g_iload 5 dL_law_549 rfl ?_
  refine gN_icmp_eq 556 dL_law_551 (by decide) (by first | omega | exact b01_lt _) (by first | omega | exact b01_lt _) (fun h_551 => ?_) (fun h_551 => ?_)
  · refine g_iload 5 dL_law_556 rfl ?_
    refine gN_if_ne 573 dL_law_558 (by decide) (by first | omega | exact b01_lt _) (fun h_558 => ?_) (fun h_558 => ?_)
    · refine g_goto 1834 dL_law_573 (by decide) ?_
      refine g_pick [0, 1, 2, 3, 4, 5, 6] rfl ?_
      exact K m1 h91 m2 h92 _ _
    · refine g_aload_n 3 dL_law_561 rfl rfl ?_
      refine gN_iconst 0 dL_law_562 (by decide) ?_
      refine g_lald 0 (by rw [hto]) (by decide) (by rw [hto]; decide) dL_law_563 ?_
      refine g_eJ (v.toInt64) (hj h_558) ?_
      refine g_iload 6 dL_law_564 rfl ?_
      refine g_i2l dL_law_566 ?_
      refine g_lcmp dL_law_567 ?_
      refine g_ei (nI (0)) (lg_cmp_s _) ?_
      refine gN_if_eq 573 dL_law_568 (by decide) (by first | omega | exact b01_lt _) (fun h_568 => ?_) (fun h_568 => ?_)
      · refine g_goto 1834 dL_law_573 (by decide) ?_
        refine g_pick [0, 1, 2, 3, 4, 5, 6] rfl ?_
        exact K m1 h91 m2 h92 _ _
      · exact absurd h_568 (by decide)
  · exact absurd rfl h_551
set_option maxRecDepth 100000 in
theorem op_propose (g : Gp) {m : Mm} {a d o b Ls i c : Nat} {X : Nat → Int32} {v : Int32} {cs : Nat × Nat} {P : Mm → Prop} {P2 : Mm → Mm → Prop} {u : Nat × Nat} {Q : Rs → Mm → Prop} (hi : i + 4 ≤ Ls) (hLs : Ls ≤ 2048) (hb : tg m b = (19, Ls)) (hX : im m b = X)
    (HC : Hn g (ML_propose cs) hhL_propose [.ref d, .int (X (i + 1)), .int (X (i + 2)), .int (X (i + 3)), .ref o] m (fun r m1 => r = .inl (some (.int (nI c))) ∧ P m1)) (hcs : cs.1 ≤ 30 ∧ cs.2 ≤ 230) (hc : c ≤ 3)
    (hP : ∀ m1, P m1 → tg m1 b = (19, Ls) ∧ im m1 b = X ∧ tg m1 a = (10, 0) ∧ Cn g (MX10_propose (0, 0)) [.ref a, .int (X (i + 1)), .int (X (i + 2)), .int (X (i + 3))] m1 (fun r m2 => r = .inl (some (.int v)) ∧ P2 m1 m2))
    (hP2 : ∀ m1, P m1 → ∀ m2, P2 m1 m2 → MdOk m2 a ∧ tg m2 o = (18, 1) ∧ im m2 a 6 = nI c ∧ (c = 0 → jm m2 o 0 = v.toInt64)) (hu : u.1 + 30 ≤ lw_rc ∧ u.2 + 230 ≤ lw_rs)
    (K : ∀ m1, P m1 → ∀ m2, P2 m1 m2 → ∀ x5 x6 : Int32, G g ML_law Q 1834 [(6, .int x6), (5, .int x5), (4, .int (nI i)), (3, .ref o), (2, .ref a), (1, .ref d), (0, .ref b)] [] (u.1 + 30, u.2 + 230) m2) : G g ML_law Q 576 [(4, .int (nI (i))), (3, .ref (o)), (2, .ref (a)), (1, .ref (d)), (0, .ref (b))] [] u m := by
  have hi4 := hi
  have hL4 := hLs
  refine g_aload_n 1 dL_law_576 rfl rfl ?_
  refine g_aload_n 0 dL_law_577 rfl rfl ?_
  refine g_iload 4 dL_law_578 rfl ?_
  refine gN_iconst 1 dL_law_580 (by decide) ?_
  refine gN_iadd (i + 1) dL_law_581 rfl ?_
  refine gN_iald19 Ls (hb) (by first | omega | exact b01_lt _) (by first | omega | exact b01_lt _) dL_law_582 ?_
  refine g_eI (X (i + 1)) (congrFun hX _) ?_
  refine g_aload_n 0 dL_law_583 rfl rfl ?_
  refine g_iload 4 dL_law_584 rfl ?_
  refine gN_iconst 2 dL_law_586 (by decide) ?_
  refine gN_iadd (i + 2) dL_law_587 rfl ?_
  refine gN_iald19 Ls (hb) (by first | omega | exact b01_lt _) (by first | omega | exact b01_lt _) dL_law_588 ?_
  refine g_eI (X (i + 2)) (congrFun hX _) ?_
  refine g_aload_n 0 dL_law_589 rfl rfl ?_
  refine g_iload 4 dL_law_590 rfl ?_
  refine gN_iconst 3 dL_law_592 (by decide) ?_
  refine gN_iadd (i + 3) dL_law_593 rfl ?_
  refine gN_iald19 Ls (hb) (by first | omega | exact b01_lt _) (by first | omega | exact b01_lt _) dL_law_594 ?_
  refine g_eI (X (i + 3)) (congrFun hX _) ?_
  refine g_aload_n 3 dL_law_595 rfl rfl ?_
  refine g_callH _ _ HC (ok_L_propose _) mlL_121 st_L_propose rfl ⟨Nat.le_of_ble_eq_true rfl, Nat.le_of_ble_eq_true rfl⟩ (by exact Nat.le_of_ble_eq_true rfl) ⟨Nat.le_trans (Nat.add_le_add_left hcs.1 _) hu.1, Nat.le_trans (Nat.add_le_add_left hcs.2 _) hu.2⟩ dL_law_596 rfl (fun v9 m1 h9 => ?_) (fun E m1 h9 => by cases h9.1)
  obtain ⟨h90, h91⟩ := h9
  cases h90
  obtain ⟨hb, hX, hta, hM9⟩ := hP m1 h91
  refine g_wide (u.1 + 30, u.2 + 230) (Nat.add_le_add_left hcs.1 _) (Nat.add_le_add_left hcs.2 _) ?_
  refine g_istore 5 [(5, .int (nI (c))), (4, .int (nI (i))), (3, .ref (o)), (2, .ref (a)), (1, .ref (d)), (0, .ref (b))] dL_law_599 (Nat.le_of_ble_eq_true rfl) rfl ?_
  refine g_aload_n 2 dL_law_601 rfl rfl ?_
  refine g_aload_n 0 dL_law_602 rfl rfl ?_
  refine g_iload 4 dL_law_603 rfl ?_
  refine gN_iconst 1 dL_law_605 (by decide) ?_
  refine gN_iadd (i + 1) dL_law_606 rfl ?_
  refine gN_iald19 Ls (hb) (by first | omega | exact b01_lt _) (by first | omega | exact b01_lt _) dL_law_607 ?_
  refine g_eI (X (i + 1)) (congrFun hX _) ?_
  refine g_aload_n 0 dL_law_608 rfl rfl ?_
  refine g_iload 4 dL_law_609 rfl ?_
  refine gN_iconst 2 dL_law_611 (by decide) ?_
  refine gN_iadd (i + 2) dL_law_612 rfl ?_
  refine gN_iald19 Ls (hb) (by first | omega | exact b01_lt _) (by first | omega | exact b01_lt _) dL_law_613 ?_
  refine g_eI (X (i + 2)) (congrFun hX _) ?_
  refine g_aload_n 0 dL_law_614 rfl rfl ?_
  refine g_iload 4 dL_law_615 rfl ?_
  refine gN_iconst 3 dL_law_617 (by decide) ?_
  refine gN_iadd (i + 3) dL_law_618 rfl ?_
  refine gN_iald19 Ls (hb) (by first | omega | exact b01_lt _) (by first | omega | exact b01_lt _) dL_law_619 ?_
  refine g_eI (X (i + 3)) (congrFun hX _) ?_
  refine g_callV _ _ hM9 (ok_X10_propose _) mlL_123 in_X10_propose se_X10_propose (by rw [hta]; rfl) rfl rfl ⟨Nat.le_of_ble_eq_true rfl, Nat.le_of_ble_eq_true rfl⟩ (by exact Nat.le_of_ble_eq_true rfl) ⟨hu.1, hu.2⟩ dL_law_620 rfl (fun v9 m2 h9 => ?_) (fun E m2 h9 => by cases h9.1)
  obtain ⟨h90, h92⟩ := h9
  cases h90
  obtain ⟨hM, hto, h6, hj⟩ := hP2 m1 h91 m2 h92
  refine g_wide (u.1 + 30, u.2 + 230) (Nat.le_refl _) (Nat.le_refl _) ?_
  refine g_istore 6 [(6, .int (v)), (5, .int (nI (c))), (4, .int (nI (i))), (3, .ref (o)), (2, .ref (a)), (1, .ref (d)), (0, .ref (b))] dL_law_623 (Nat.le_of_ble_eq_true rfl) rfl ?_
  refine g_aload_n 2 dL_law_625 rfl rfl ?_
  refine gd_callV _ _ _ _ (cn_X10_thrown g (0, 0) hM) ⟨rfl, rfl⟩ (ok_X10_thrown _) mlL_101 in_X10_thrown se_X10_thrown 10 0 (hM.t) rfl rfl rfl ⟨Nat.le_of_ble_eq_true rfl, Nat.le_of_ble_eq_true rfl⟩ (by exact Nat.le_of_ble_eq_true rfl) ⟨hu.1, hu.2⟩ dL_law_626 rfl ?_
  refine g_ei (nI c) h6 ?_
  refine g_iload 5 dL_law_629 rfl ?_
  refine gN_icmp_eq 636 dL_law_631 (by decide) (by first | omega | exact b01_lt _) (by first | omega | exact b01_lt _) (fun h_631 => ?_) (fun h_631 => ?_)
  · refine g_iload 5 dL_law_636 rfl ?_
    refine gN_if_ne 653 dL_law_638 (by decide) (by first | omega | exact b01_lt _) (fun h_638 => ?_) (fun h_638 => ?_)
    · refine g_goto 1834 dL_law_653 (by decide) ?_
      refine g_pick [0, 1, 2, 3, 4, 5, 6] rfl ?_
      exact K m1 h91 m2 h92 _ _
    · refine g_aload_n 3 dL_law_641 rfl rfl ?_
      refine gN_iconst 0 dL_law_642 (by decide) ?_
      refine g_lald 0 (by rw [hto]) (by decide) (by rw [hto]; decide) dL_law_643 ?_
      refine g_eJ (v.toInt64) (hj h_638) ?_
      refine g_iload 6 dL_law_644 rfl ?_
      refine g_i2l dL_law_646 ?_
      refine g_lcmp dL_law_647 ?_
      refine g_ei (nI (0)) (lg_cmp_s _) ?_
      refine gN_if_eq 653 dL_law_648 (by decide) (by first | omega | exact b01_lt _) (fun h_648 => ?_) (fun h_648 => ?_)
      · refine g_goto 1834 dL_law_653 (by decide) ?_
        refine g_pick [0, 1, 2, 3, 4, 5, 6] rfl ?_
        exact K m1 h91 m2 h92 _ _
      · exact absurd h_648 (by decide)
  · exact absurd rfl h_631
set_option maxRecDepth 100000 in
theorem op_rule (g : Gp) {m : Mm} {a d o b Ls i c : Nat} {X : Nat → Int32} {v : Int32} {cs : Nat × Nat} {P : Mm → Prop} {P2 : Mm → Mm → Prop} {u : Nat × Nat} {Q : Rs → Mm → Prop} (hi : i + 4 ≤ Ls) (hLs : Ls ≤ 2048) (hb : tg m b = (19, Ls)) (hX : im m b = X)
    (HC : Hn g (ML_rule cs) hhL_rule [.ref d, .int (X (i + 1)), .int (X (i + 2)), .ref o] m (fun r m1 => r = .inl (some (.int (nI c))) ∧ P m1)) (hcs : cs.1 ≤ 30 ∧ cs.2 ≤ 230) (hc : c ≤ 3)
    (hP : ∀ m1, P m1 → tg m1 b = (19, Ls) ∧ im m1 b = X ∧ tg m1 a = (10, 0) ∧ Cn g (MX10_rule (0, 0)) [.ref a, .int (X (i + 1)), .int (X (i + 2))] m1 (fun r m2 => r = .inl (some (.int v)) ∧ P2 m1 m2))
    (hP2 : ∀ m1, P m1 → ∀ m2, P2 m1 m2 → MdOk m2 a ∧ tg m2 o = (18, 1) ∧ im m2 a 6 = nI c ∧ (c = 0 → jm m2 o 0 = v.toInt64)) (hu : u.1 + 30 ≤ lw_rc ∧ u.2 + 230 ≤ lw_rs)
    (K : ∀ m1, P m1 → ∀ m2, P2 m1 m2 → ∀ x5 x6 : Int32, G g ML_law Q 1834 [(6, .int x6), (5, .int x5), (4, .int (nI i)), (3, .ref o), (2, .ref a), (1, .ref d), (0, .ref b)] [] (u.1 + 30, u.2 + 230) m2) : G g ML_law Q 656 [(4, .int (nI (i))), (3, .ref (o)), (2, .ref (a)), (1, .ref (d)), (0, .ref (b))] [] u m := by
  have hi4 := hi
  have hL4 := hLs
  refine g_aload_n 1 dL_law_656 rfl rfl ?_
  refine g_aload_n 0 dL_law_657 rfl rfl ?_
  refine g_iload 4 dL_law_658 rfl ?_
  refine gN_iconst 1 dL_law_660 (by decide) ?_
  refine gN_iadd (i + 1) dL_law_661 rfl ?_
  refine gN_iald19 Ls (hb) (by first | omega | exact b01_lt _) (by first | omega | exact b01_lt _) dL_law_662 ?_
  refine g_eI (X (i + 1)) (congrFun hX _) ?_
  refine g_aload_n 0 dL_law_663 rfl rfl ?_
  refine g_iload 4 dL_law_664 rfl ?_
  refine gN_iconst 2 dL_law_666 (by decide) ?_
  refine gN_iadd (i + 2) dL_law_667 rfl ?_
  refine gN_iald19 Ls (hb) (by first | omega | exact b01_lt _) (by first | omega | exact b01_lt _) dL_law_668 ?_
  refine g_eI (X (i + 2)) (congrFun hX _) ?_
  refine g_aload_n 3 dL_law_669 rfl rfl ?_
  refine g_callH _ _ HC (ok_L_rule _) mlL_124 st_L_rule rfl ⟨Nat.le_of_ble_eq_true rfl, Nat.le_of_ble_eq_true rfl⟩ (by exact Nat.le_of_ble_eq_true rfl) ⟨Nat.le_trans (Nat.add_le_add_left hcs.1 _) hu.1, Nat.le_trans (Nat.add_le_add_left hcs.2 _) hu.2⟩ dL_law_670 rfl (fun v9 m1 h9 => ?_) (fun E m1 h9 => by cases h9.1)
  obtain ⟨h90, h91⟩ := h9
  cases h90
  obtain ⟨hb, hX, hta, hM9⟩ := hP m1 h91
  refine g_wide (u.1 + 30, u.2 + 230) (Nat.add_le_add_left hcs.1 _) (Nat.add_le_add_left hcs.2 _) ?_
  refine g_istore 5 [(5, .int (nI (c))), (4, .int (nI (i))), (3, .ref (o)), (2, .ref (a)), (1, .ref (d)), (0, .ref (b))] dL_law_673 (Nat.le_of_ble_eq_true rfl) rfl ?_
  refine g_aload_n 2 dL_law_675 rfl rfl ?_
  refine g_aload_n 0 dL_law_676 rfl rfl ?_
  refine g_iload 4 dL_law_677 rfl ?_
  refine gN_iconst 1 dL_law_679 (by decide) ?_
  refine gN_iadd (i + 1) dL_law_680 rfl ?_
  refine gN_iald19 Ls (hb) (by first | omega | exact b01_lt _) (by first | omega | exact b01_lt _) dL_law_681 ?_
  refine g_eI (X (i + 1)) (congrFun hX _) ?_
  refine g_aload_n 0 dL_law_682 rfl rfl ?_
  refine g_iload 4 dL_law_683 rfl ?_
  refine gN_iconst 2 dL_law_685 (by decide) ?_
  refine gN_iadd (i + 2) dL_law_686 rfl ?_
  refine gN_iald19 Ls (hb) (by first | omega | exact b01_lt _) (by first | omega | exact b01_lt _) dL_law_687 ?_
  refine g_eI (X (i + 2)) (congrFun hX _) ?_
  refine g_callV _ _ hM9 (ok_X10_rule _) mlL_126 in_X10_rule se_X10_rule (by rw [hta]; rfl) rfl rfl ⟨Nat.le_of_ble_eq_true rfl, Nat.le_of_ble_eq_true rfl⟩ (by exact Nat.le_of_ble_eq_true rfl) ⟨hu.1, hu.2⟩ dL_law_688 rfl (fun v9 m2 h9 => ?_) (fun E m2 h9 => by cases h9.1)
  obtain ⟨h90, h92⟩ := h9
  cases h90
  obtain ⟨hM, hto, h6, hj⟩ := hP2 m1 h91 m2 h92
  refine g_wide (u.1 + 30, u.2 + 230) (Nat.le_refl _) (Nat.le_refl _) ?_
  refine g_istore 6 [(6, .int (v)), (5, .int (nI (c))), (4, .int (nI (i))), (3, .ref (o)), (2, .ref (a)), (1, .ref (d)), (0, .ref (b))] dL_law_691 (Nat.le_of_ble_eq_true rfl) rfl ?_
  refine g_aload_n 2 dL_law_693 rfl rfl ?_
  refine gd_callV _ _ _ _ (cn_X10_thrown g (0, 0) hM) ⟨rfl, rfl⟩ (ok_X10_thrown _) mlL_101 in_X10_thrown se_X10_thrown 10 0 (hM.t) rfl rfl rfl ⟨Nat.le_of_ble_eq_true rfl, Nat.le_of_ble_eq_true rfl⟩ (by exact Nat.le_of_ble_eq_true rfl) ⟨hu.1, hu.2⟩ dL_law_694 rfl ?_
  refine g_ei (nI c) h6 ?_
  refine g_iload 5 dL_law_697 rfl ?_
  refine gN_icmp_eq 704 dL_law_699 (by decide) (by first | omega | exact b01_lt _) (by first | omega | exact b01_lt _) (fun h_699 => ?_) (fun h_699 => ?_)
  · refine g_iload 5 dL_law_704 rfl ?_
    refine gN_if_ne 721 dL_law_706 (by decide) (by first | omega | exact b01_lt _) (fun h_706 => ?_) (fun h_706 => ?_)
    · refine g_goto 1834 dL_law_721 (by decide) ?_
      refine g_pick [0, 1, 2, 3, 4, 5, 6] rfl ?_
      exact K m1 h91 m2 h92 _ _
    · refine g_aload_n 3 dL_law_709 rfl rfl ?_
      refine gN_iconst 0 dL_law_710 (by decide) ?_
      refine g_lald 0 (by rw [hto]) (by decide) (by rw [hto]; decide) dL_law_711 ?_
      refine g_eJ (v.toInt64) (hj h_706) ?_
      refine g_iload 6 dL_law_712 rfl ?_
      refine g_i2l dL_law_714 ?_
      refine g_lcmp dL_law_715 ?_
      refine g_ei (nI (0)) (lg_cmp_s _) ?_
      refine gN_if_eq 721 dL_law_716 (by decide) (by first | omega | exact b01_lt _) (fun h_716 => ?_) (fun h_716 => ?_)
      · refine g_goto 1834 dL_law_721 (by decide) ?_
        refine g_pick [0, 1, 2, 3, 4, 5, 6] rfl ?_
        exact K m1 h91 m2 h92 _ _
      · exact absurd h_716 (by decide)
  · exact absurd rfl h_699
set_option maxRecDepth 100000 in
theorem op_append (g : Gp) {m : Mm} {a d o b Ls i c : Nat} {X : Nat → Int32} {v : Int32} {cs : Nat × Nat} {P : Mm → Prop} {P2 : Mm → Mm → Prop} {u : Nat × Nat} {Q : Rs → Mm → Prop} (hi : i + 4 ≤ Ls) (hLs : Ls ≤ 2048) (hb : tg m b = (19, Ls)) (hX : im m b = X)
    (HC : Hn g (ML_append cs) hhL_append [.ref d, .int (X (i + 1)), .ref o] m (fun r m1 => r = .inl (some (.int (nI c))) ∧ P m1)) (hcs : cs.1 ≤ 30 ∧ cs.2 ≤ 230) (hc : c ≤ 3)
    (hP : ∀ m1, P m1 → tg m1 b = (19, Ls) ∧ im m1 b = X ∧ tg m1 a = (10, 0) ∧ Cn g (MX10_append (0, 0)) [.ref a, .int (X (i + 1))] m1 (fun r m2 => r = .inl (some (.int v)) ∧ P2 m1 m2))
    (hP2 : ∀ m1, P m1 → ∀ m2, P2 m1 m2 → MdOk m2 a ∧ tg m2 o = (18, 1) ∧ im m2 a 6 = nI c ∧ (c = 0 → jm m2 o 0 = v.toInt64)) (hu : u.1 + 30 ≤ lw_rc ∧ u.2 + 230 ≤ lw_rs)
    (K : ∀ m1, P m1 → ∀ m2, P2 m1 m2 → ∀ x5 x6 : Int32, G g ML_law Q 1834 [(6, .int x6), (5, .int x5), (4, .int (nI i)), (3, .ref o), (2, .ref a), (1, .ref d), (0, .ref b)] [] (u.1 + 30, u.2 + 230) m2) : G g ML_law Q 724 [(4, .int (nI (i))), (3, .ref (o)), (2, .ref (a)), (1, .ref (d)), (0, .ref (b))] [] u m := by
  have hi4 := hi
  have hL4 := hLs
  refine g_aload_n 1 dL_law_724 rfl rfl ?_
  refine g_aload_n 0 dL_law_725 rfl rfl ?_
  refine g_iload 4 dL_law_726 rfl ?_
  refine gN_iconst 1 dL_law_728 (by decide) ?_
  refine gN_iadd (i + 1) dL_law_729 rfl ?_
  refine gN_iald19 Ls (hb) (by first | omega | exact b01_lt _) (by first | omega | exact b01_lt _) dL_law_730 ?_
  refine g_eI (X (i + 1)) (congrFun hX _) ?_
  refine g_aload_n 3 dL_law_731 rfl rfl ?_
  refine g_callH _ _ HC (ok_L_append _) mlL_127 st_L_append rfl ⟨Nat.le_of_ble_eq_true rfl, Nat.le_of_ble_eq_true rfl⟩ (by exact Nat.le_of_ble_eq_true rfl) ⟨Nat.le_trans (Nat.add_le_add_left hcs.1 _) hu.1, Nat.le_trans (Nat.add_le_add_left hcs.2 _) hu.2⟩ dL_law_732 rfl (fun v9 m1 h9 => ?_) (fun E m1 h9 => by cases h9.1)
  obtain ⟨h90, h91⟩ := h9
  cases h90
  obtain ⟨hb, hX, hta, hM9⟩ := hP m1 h91
  refine g_wide (u.1 + 30, u.2 + 230) (Nat.add_le_add_left hcs.1 _) (Nat.add_le_add_left hcs.2 _) ?_
  refine g_istore 5 [(5, .int (nI (c))), (4, .int (nI (i))), (3, .ref (o)), (2, .ref (a)), (1, .ref (d)), (0, .ref (b))] dL_law_735 (Nat.le_of_ble_eq_true rfl) rfl ?_
  refine g_aload_n 2 dL_law_737 rfl rfl ?_
  refine g_aload_n 0 dL_law_738 rfl rfl ?_
  refine g_iload 4 dL_law_739 rfl ?_
  refine gN_iconst 1 dL_law_741 (by decide) ?_
  refine gN_iadd (i + 1) dL_law_742 rfl ?_
  refine gN_iald19 Ls (hb) (by first | omega | exact b01_lt _) (by first | omega | exact b01_lt _) dL_law_743 ?_
  refine g_eI (X (i + 1)) (congrFun hX _) ?_
  refine g_callV _ _ hM9 (ok_X10_append _) mlL_129 in_X10_append se_X10_append (by rw [hta]; rfl) rfl rfl ⟨Nat.le_of_ble_eq_true rfl, Nat.le_of_ble_eq_true rfl⟩ (by exact Nat.le_of_ble_eq_true rfl) ⟨hu.1, hu.2⟩ dL_law_744 rfl (fun v9 m2 h9 => ?_) (fun E m2 h9 => by cases h9.1)
  obtain ⟨h90, h92⟩ := h9
  cases h90
  obtain ⟨hM, hto, h6, hj⟩ := hP2 m1 h91 m2 h92
  refine g_wide (u.1 + 30, u.2 + 230) (Nat.le_refl _) (Nat.le_refl _) ?_
  refine g_istore 6 [(6, .int (v)), (5, .int (nI (c))), (4, .int (nI (i))), (3, .ref (o)), (2, .ref (a)), (1, .ref (d)), (0, .ref (b))] dL_law_747 (Nat.le_of_ble_eq_true rfl) rfl ?_
  refine g_aload_n 2 dL_law_749 rfl rfl ?_
  refine gd_callV _ _ _ _ (cn_X10_thrown g (0, 0) hM) ⟨rfl, rfl⟩ (ok_X10_thrown _) mlL_101 in_X10_thrown se_X10_thrown 10 0 (hM.t) rfl rfl rfl ⟨Nat.le_of_ble_eq_true rfl, Nat.le_of_ble_eq_true rfl⟩ (by exact Nat.le_of_ble_eq_true rfl) ⟨hu.1, hu.2⟩ dL_law_750 rfl ?_
  refine g_ei (nI c) h6 ?_
  refine g_iload 5 dL_law_753 rfl ?_
  refine gN_icmp_eq 760 dL_law_755 (by decide) (by first | omega | exact b01_lt _) (by first | omega | exact b01_lt _) (fun h_755 => ?_) (fun h_755 => ?_)
  · refine g_iload 5 dL_law_760 rfl ?_
    refine gN_if_ne 777 dL_law_762 (by decide) (by first | omega | exact b01_lt _) (fun h_762 => ?_) (fun h_762 => ?_)
    · refine g_goto 1834 dL_law_777 (by decide) ?_
      refine g_pick [0, 1, 2, 3, 4, 5, 6] rfl ?_
      exact K m1 h91 m2 h92 _ _
    · refine g_aload_n 3 dL_law_765 rfl rfl ?_
      refine gN_iconst 0 dL_law_766 (by decide) ?_
      refine g_lald 0 (by rw [hto]) (by decide) (by rw [hto]; decide) dL_law_767 ?_
      refine g_eJ (v.toInt64) (hj h_762) ?_
      refine g_iload 6 dL_law_768 rfl ?_
      refine g_i2l dL_law_770 ?_
      refine g_lcmp dL_law_771 ?_
      refine g_ei (nI (0)) (lg_cmp_s _) ?_
      refine gN_if_eq 777 dL_law_772 (by decide) (by first | omega | exact b01_lt _) (fun h_772 => ?_) (fun h_772 => ?_)
      · refine g_goto 1834 dL_law_777 (by decide) ?_
        refine g_pick [0, 1, 2, 3, 4, 5, 6] rfl ?_
        exact K m1 h91 m2 h92 _ _
      · exact absurd h_772 (by decide)
  · exact absurd rfl h_755
set_option maxRecDepth 100000 in
theorem op_add (g : Gp) {m : Mm} {a d o b Ls i c : Nat} {X : Nat → Int32} {v : Int32} {cs : Nat × Nat} {P : Mm → Prop} {P2 : Mm → Mm → Prop} {u : Nat × Nat} {Q : Rs → Mm → Prop} (hi : i + 4 ≤ Ls) (hLs : Ls ≤ 2048) (hb : tg m b = (19, Ls)) (hX : im m b = X)
    (HC : Hn g (ML_add cs) hhL_add [.ref d, .ref o] m (fun r m1 => r = .inl (some (.int (nI c))) ∧ P m1)) (hcs : cs.1 ≤ 30 ∧ cs.2 ≤ 230) (hc : c ≤ 3)
    (hP : ∀ m1, P m1 → tg m1 b = (19, Ls) ∧ im m1 b = X ∧ tg m1 a = (10, 0) ∧ Cn g (MX10_add (0, 0)) [.ref a] m1 (fun r m2 => r = .inl (some (.int v)) ∧ P2 m1 m2))
    (hP2 : ∀ m1, P m1 → ∀ m2, P2 m1 m2 → MdOk m2 a ∧ tg m2 o = (18, 1) ∧ im m2 a 6 = nI c ∧ (c = 0 → jm m2 o 0 = v.toInt64)) (hu : u.1 + 30 ≤ lw_rc ∧ u.2 + 230 ≤ lw_rs)
    (K : ∀ m1, P m1 → ∀ m2, P2 m1 m2 → ∀ x5 x6 : Int32, G g ML_law Q 1834 [(6, .int x6), (5, .int x5), (4, .int (nI i)), (3, .ref o), (2, .ref a), (1, .ref d), (0, .ref b)] [] (u.1 + 30, u.2 + 230) m2) : G g ML_law Q 806 [(4, .int (nI (i))), (3, .ref (o)), (2, .ref (a)), (1, .ref (d)), (0, .ref (b))] [] u m := by
  have hi4 := hi
  have hL4 := hLs
  refine g_aload_n 1 dL_law_806 rfl rfl ?_
  refine g_aload_n 3 dL_law_807 rfl rfl ?_
  refine g_callH _ _ HC (ok_L_add _) mlL_138 st_L_add rfl ⟨Nat.le_of_ble_eq_true rfl, Nat.le_of_ble_eq_true rfl⟩ (by exact Nat.le_of_ble_eq_true rfl) ⟨Nat.le_trans (Nat.add_le_add_left hcs.1 _) hu.1, Nat.le_trans (Nat.add_le_add_left hcs.2 _) hu.2⟩ dL_law_808 rfl (fun v9 m1 h9 => ?_) (fun E m1 h9 => by cases h9.1)
  obtain ⟨h90, h91⟩ := h9
  cases h90
  obtain ⟨hb, hX, hta, hM9⟩ := hP m1 h91
  refine g_wide (u.1 + 30, u.2 + 230) (Nat.add_le_add_left hcs.1 _) (Nat.add_le_add_left hcs.2 _) ?_
  refine g_istore 5 [(5, .int (nI (c))), (4, .int (nI (i))), (3, .ref (o)), (2, .ref (a)), (1, .ref (d)), (0, .ref (b))] dL_law_811 (Nat.le_of_ble_eq_true rfl) rfl ?_
  refine g_aload_n 2 dL_law_813 rfl rfl ?_
  refine g_callV _ _ hM9 (ok_X10_add _) mlL_141 in_X10_add se_X10_add (by rw [hta]; rfl) rfl rfl ⟨Nat.le_of_ble_eq_true rfl, Nat.le_of_ble_eq_true rfl⟩ (by exact Nat.le_of_ble_eq_true rfl) ⟨hu.1, hu.2⟩ dL_law_814 rfl (fun v9 m2 h9 => ?_) (fun E m2 h9 => by cases h9.1)
  obtain ⟨h90, h92⟩ := h9
  cases h90
  obtain ⟨hM, hto, h6, hj⟩ := hP2 m1 h91 m2 h92
  refine g_wide (u.1 + 30, u.2 + 230) (Nat.le_refl _) (Nat.le_refl _) ?_
  refine g_istore 6 [(6, .int (v)), (5, .int (nI (c))), (4, .int (nI (i))), (3, .ref (o)), (2, .ref (a)), (1, .ref (d)), (0, .ref (b))] dL_law_817 (Nat.le_of_ble_eq_true rfl) rfl ?_
  refine g_aload_n 2 dL_law_819 rfl rfl ?_
  refine gd_callV _ _ _ _ (cn_X10_thrown g (0, 0) hM) ⟨rfl, rfl⟩ (ok_X10_thrown _) mlL_101 in_X10_thrown se_X10_thrown 10 0 (hM.t) rfl rfl rfl ⟨Nat.le_of_ble_eq_true rfl, Nat.le_of_ble_eq_true rfl⟩ (by exact Nat.le_of_ble_eq_true rfl) ⟨hu.1, hu.2⟩ dL_law_820 rfl ?_
  refine g_ei (nI c) h6 ?_
  refine g_iload 5 dL_law_823 rfl ?_
  refine gN_icmp_eq 830 dL_law_825 (by decide) (by first | omega | exact b01_lt _) (by first | omega | exact b01_lt _) (fun h_825 => ?_) (fun h_825 => ?_)
  · refine g_iload 5 dL_law_830 rfl ?_
    refine gN_if_ne 847 dL_law_832 (by decide) (by first | omega | exact b01_lt _) (fun h_832 => ?_) (fun h_832 => ?_)
    · refine g_goto 1834 dL_law_847 (by decide) ?_
      refine g_pick [0, 1, 2, 3, 4, 5, 6] rfl ?_
      exact K m1 h91 m2 h92 _ _
    · refine g_aload_n 3 dL_law_835 rfl rfl ?_
      refine gN_iconst 0 dL_law_836 (by decide) ?_
      refine g_lald 0 (by rw [hto]) (by decide) (by rw [hto]; decide) dL_law_837 ?_
      refine g_eJ (v.toInt64) (hj h_832) ?_
      refine g_iload 6 dL_law_838 rfl ?_
      refine g_i2l dL_law_840 ?_
      refine g_lcmp dL_law_841 ?_
      refine g_ei (nI (0)) (lg_cmp_s _) ?_
      refine gN_if_eq 847 dL_law_842 (by decide) (by first | omega | exact b01_lt _) (fun h_842 => ?_) (fun h_842 => ?_)
      · refine g_goto 1834 dL_law_847 (by decide) ?_
        refine g_pick [0, 1, 2, 3, 4, 5, 6] rfl ?_
        exact K m1 h91 m2 h92 _ _
      · exact absurd h_842 (by decide)
  · exact absurd rfl h_825
set_option maxRecDepth 100000 in
theorem op_change (g : Gp) {m : Mm} {a d o b Ls i c : Nat} {X : Nat → Int32} {v : Int32} {cs : Nat × Nat} {P : Mm → Prop} {P2 : Mm → Mm → Prop} {u : Nat × Nat} {Q : Rs → Mm → Prop} (hi : i + 4 ≤ Ls) (hLs : Ls ≤ 2048) (hb : tg m b = (19, Ls)) (hX : im m b = X)
    (HC : Hn g (ML_change cs) hhL_change [.ref d, .int (X (i + 1)), .ref o] m (fun r m1 => r = .inl (some (.int (nI c))) ∧ P m1)) (hcs : cs.1 ≤ 30 ∧ cs.2 ≤ 230) (hc : c ≤ 3)
    (hP : ∀ m1, P m1 → tg m1 b = (19, Ls) ∧ im m1 b = X ∧ tg m1 a = (10, 0) ∧ Cn g (MX10_change (0, 0)) [.ref a, .int (X (i + 1))] m1 (fun r m2 => r = .inl (some (.int v)) ∧ P2 m1 m2))
    (hP2 : ∀ m1, P m1 → ∀ m2, P2 m1 m2 → MdOk m2 a ∧ tg m2 o = (18, 1) ∧ im m2 a 6 = nI c ∧ (c = 0 → jm m2 o 0 = v.toInt64)) (hu : u.1 + 30 ≤ lw_rc ∧ u.2 + 230 ≤ lw_rs)
    (K : ∀ m1, P m1 → ∀ m2, P2 m1 m2 → ∀ x5 x6 : Int32, G g ML_law Q 1834 [(6, .int x6), (5, .int x5), (4, .int (nI i)), (3, .ref o), (2, .ref a), (1, .ref d), (0, .ref b)] [] (u.1 + 30, u.2 + 230) m2) : G g ML_law Q 850 [(4, .int (nI (i))), (3, .ref (o)), (2, .ref (a)), (1, .ref (d)), (0, .ref (b))] [] u m := by
  have hi4 := hi
  have hL4 := hLs
  refine g_aload_n 1 dL_law_850 rfl rfl ?_
  refine g_aload_n 0 dL_law_851 rfl rfl ?_
  refine g_iload 4 dL_law_852 rfl ?_
  refine gN_iconst 1 dL_law_854 (by decide) ?_
  refine gN_iadd (i + 1) dL_law_855 rfl ?_
  refine gN_iald19 Ls (hb) (by first | omega | exact b01_lt _) (by first | omega | exact b01_lt _) dL_law_856 ?_
  refine g_eI (X (i + 1)) (congrFun hX _) ?_
  refine g_aload_n 3 dL_law_857 rfl rfl ?_
  refine g_callH _ _ HC (ok_L_change _) mlL_142 st_L_change rfl ⟨Nat.le_of_ble_eq_true rfl, Nat.le_of_ble_eq_true rfl⟩ (by exact Nat.le_of_ble_eq_true rfl) ⟨Nat.le_trans (Nat.add_le_add_left hcs.1 _) hu.1, Nat.le_trans (Nat.add_le_add_left hcs.2 _) hu.2⟩ dL_law_858 rfl (fun v9 m1 h9 => ?_) (fun E m1 h9 => by cases h9.1)
  obtain ⟨h90, h91⟩ := h9
  cases h90
  obtain ⟨hb, hX, hta, hM9⟩ := hP m1 h91
  refine g_wide (u.1 + 30, u.2 + 230) (Nat.add_le_add_left hcs.1 _) (Nat.add_le_add_left hcs.2 _) ?_
  refine g_istore 5 [(5, .int (nI (c))), (4, .int (nI (i))), (3, .ref (o)), (2, .ref (a)), (1, .ref (d)), (0, .ref (b))] dL_law_861 (Nat.le_of_ble_eq_true rfl) rfl ?_
  refine g_aload_n 2 dL_law_863 rfl rfl ?_
  refine g_aload_n 0 dL_law_864 rfl rfl ?_
  refine g_iload 4 dL_law_865 rfl ?_
  refine gN_iconst 1 dL_law_867 (by decide) ?_
  refine gN_iadd (i + 1) dL_law_868 rfl ?_
  refine gN_iald19 Ls (hb) (by first | omega | exact b01_lt _) (by first | omega | exact b01_lt _) dL_law_869 ?_
  refine g_eI (X (i + 1)) (congrFun hX _) ?_
  refine g_callV _ _ hM9 (ok_X10_change _) mlL_144 in_X10_change se_X10_change (by rw [hta]; rfl) rfl rfl ⟨Nat.le_of_ble_eq_true rfl, Nat.le_of_ble_eq_true rfl⟩ (by exact Nat.le_of_ble_eq_true rfl) ⟨hu.1, hu.2⟩ dL_law_870 rfl (fun v9 m2 h9 => ?_) (fun E m2 h9 => by cases h9.1)
  obtain ⟨h90, h92⟩ := h9
  cases h90
  obtain ⟨hM, hto, h6, hj⟩ := hP2 m1 h91 m2 h92
  refine g_wide (u.1 + 30, u.2 + 230) (Nat.le_refl _) (Nat.le_refl _) ?_
  refine g_istore 6 [(6, .int (v)), (5, .int (nI (c))), (4, .int (nI (i))), (3, .ref (o)), (2, .ref (a)), (1, .ref (d)), (0, .ref (b))] dL_law_873 (Nat.le_of_ble_eq_true rfl) rfl ?_
  refine g_aload_n 2 dL_law_875 rfl rfl ?_
  refine gd_callV _ _ _ _ (cn_X10_thrown g (0, 0) hM) ⟨rfl, rfl⟩ (ok_X10_thrown _) mlL_101 in_X10_thrown se_X10_thrown 10 0 (hM.t) rfl rfl rfl ⟨Nat.le_of_ble_eq_true rfl, Nat.le_of_ble_eq_true rfl⟩ (by exact Nat.le_of_ble_eq_true rfl) ⟨hu.1, hu.2⟩ dL_law_876 rfl ?_
  refine g_ei (nI c) h6 ?_
  refine g_iload 5 dL_law_879 rfl ?_
  refine gN_icmp_eq 886 dL_law_881 (by decide) (by first | omega | exact b01_lt _) (by first | omega | exact b01_lt _) (fun h_881 => ?_) (fun h_881 => ?_)
  · refine g_iload 5 dL_law_886 rfl ?_
    refine gN_if_ne 903 dL_law_888 (by decide) (by first | omega | exact b01_lt _) (fun h_888 => ?_) (fun h_888 => ?_)
    · refine g_goto 1834 dL_law_903 (by decide) ?_
      refine g_pick [0, 1, 2, 3, 4, 5, 6] rfl ?_
      exact K m1 h91 m2 h92 _ _
    · refine g_aload_n 3 dL_law_891 rfl rfl ?_
      refine gN_iconst 0 dL_law_892 (by decide) ?_
      refine g_lald 0 (by rw [hto]) (by decide) (by rw [hto]; decide) dL_law_893 ?_
      refine g_eJ (v.toInt64) (hj h_888) ?_
      refine g_iload 6 dL_law_894 rfl ?_
      refine g_i2l dL_law_896 ?_
      refine g_lcmp dL_law_897 ?_
      refine g_ei (nI (0)) (lg_cmp_s _) ?_
      refine gN_if_eq 903 dL_law_898 (by decide) (by first | omega | exact b01_lt _) (fun h_898 => ?_) (fun h_898 => ?_)
      · refine g_goto 1834 dL_law_903 (by decide) ?_
        refine g_pick [0, 1, 2, 3, 4, 5, 6] rfl ?_
        exact K m1 h91 m2 h92 _ _
      · exact absurd h_898 (by decide)
  · exact absurd rfl h_881
set_option maxRecDepth 100000 in
theorem op_undo (g : Gp) {m : Mm} {a d o b Ls i c : Nat} {X : Nat → Int32} {v : Int32} {cs : Nat × Nat} {P : Mm → Prop} {P2 : Mm → Mm → Prop} {u : Nat × Nat} {Q : Rs → Mm → Prop} (hi : i + 4 ≤ Ls) (hLs : Ls ≤ 2048) (hb : tg m b = (19, Ls)) (hX : im m b = X)
    (HC : Hn g (ML_undo cs) hhL_undo [.ref d, .ref o] m (fun r m1 => r = .inl (some (.int (nI c))) ∧ P m1)) (hcs : cs.1 ≤ 30 ∧ cs.2 ≤ 230) (hc : c ≤ 3)
    (hP : ∀ m1, P m1 → tg m1 b = (19, Ls) ∧ im m1 b = X ∧ tg m1 a = (10, 0) ∧ Cn g (MX10_undo (0, 0)) [.ref a] m1 (fun r m2 => r = .inl (some (.int v)) ∧ P2 m1 m2))
    (hP2 : ∀ m1, P m1 → ∀ m2, P2 m1 m2 → MdOk m2 a ∧ tg m2 o = (18, 1) ∧ im m2 a 6 = nI c ∧ (c = 0 → jm m2 o 0 = v.toInt64)) (hu : u.1 + 30 ≤ lw_rc ∧ u.2 + 230 ≤ lw_rs)
    (K : ∀ m1, P m1 → ∀ m2, P2 m1 m2 → ∀ x5 x6 : Int32, G g ML_law Q 1834 [(6, .int x6), (5, .int x5), (4, .int (nI i)), (3, .ref o), (2, .ref a), (1, .ref d), (0, .ref b)] [] (u.1 + 30, u.2 + 230) m2) : G g ML_law Q 906 [(4, .int (nI (i))), (3, .ref (o)), (2, .ref (a)), (1, .ref (d)), (0, .ref (b))] [] u m := by
  have hi4 := hi
  have hL4 := hLs
  refine g_aload_n 1 dL_law_906 rfl rfl ?_
  refine g_aload_n 3 dL_law_907 rfl rfl ?_
  refine g_callH _ _ HC (ok_L_undo _) mlL_145 st_L_undo rfl ⟨Nat.le_of_ble_eq_true rfl, Nat.le_of_ble_eq_true rfl⟩ (by exact Nat.le_of_ble_eq_true rfl) ⟨Nat.le_trans (Nat.add_le_add_left hcs.1 _) hu.1, Nat.le_trans (Nat.add_le_add_left hcs.2 _) hu.2⟩ dL_law_908 rfl (fun v9 m1 h9 => ?_) (fun E m1 h9 => by cases h9.1)
  obtain ⟨h90, h91⟩ := h9
  cases h90
  obtain ⟨hb, hX, hta, hM9⟩ := hP m1 h91
  refine g_wide (u.1 + 30, u.2 + 230) (Nat.add_le_add_left hcs.1 _) (Nat.add_le_add_left hcs.2 _) ?_
  refine g_istore 5 [(5, .int (nI (c))), (4, .int (nI (i))), (3, .ref (o)), (2, .ref (a)), (1, .ref (d)), (0, .ref (b))] dL_law_911 (Nat.le_of_ble_eq_true rfl) rfl ?_
  refine g_aload_n 2 dL_law_913 rfl rfl ?_
  refine g_callV _ _ hM9 (ok_X10_undo _) mlL_147 in_X10_undo se_X10_undo (by rw [hta]; rfl) rfl rfl ⟨Nat.le_of_ble_eq_true rfl, Nat.le_of_ble_eq_true rfl⟩ (by exact Nat.le_of_ble_eq_true rfl) ⟨hu.1, hu.2⟩ dL_law_914 rfl (fun v9 m2 h9 => ?_) (fun E m2 h9 => by cases h9.1)
  obtain ⟨h90, h92⟩ := h9
  cases h90
  obtain ⟨hM, hto, h6, hj⟩ := hP2 m1 h91 m2 h92
  refine g_wide (u.1 + 30, u.2 + 230) (Nat.le_refl _) (Nat.le_refl _) ?_
  refine g_istore 6 [(6, .int (v)), (5, .int (nI (c))), (4, .int (nI (i))), (3, .ref (o)), (2, .ref (a)), (1, .ref (d)), (0, .ref (b))] dL_law_917 (Nat.le_of_ble_eq_true rfl) rfl ?_
  refine g_aload_n 2 dL_law_919 rfl rfl ?_
  refine gd_callV _ _ _ _ (cn_X10_thrown g (0, 0) hM) ⟨rfl, rfl⟩ (ok_X10_thrown _) mlL_101 in_X10_thrown se_X10_thrown 10 0 (hM.t) rfl rfl rfl ⟨Nat.le_of_ble_eq_true rfl, Nat.le_of_ble_eq_true rfl⟩ (by exact Nat.le_of_ble_eq_true rfl) ⟨hu.1, hu.2⟩ dL_law_920 rfl ?_
  refine g_ei (nI c) h6 ?_
  refine g_iload 5 dL_law_923 rfl ?_
  refine gN_icmp_eq 930 dL_law_925 (by decide) (by first | omega | exact b01_lt _) (by first | omega | exact b01_lt _) (fun h_925 => ?_) (fun h_925 => ?_)
  · refine g_iload 5 dL_law_930 rfl ?_
    refine gN_if_ne 947 dL_law_932 (by decide) (by first | omega | exact b01_lt _) (fun h_932 => ?_) (fun h_932 => ?_)
    · refine g_goto 1834 dL_law_947 (by decide) ?_
      refine g_pick [0, 1, 2, 3, 4, 5, 6] rfl ?_
      exact K m1 h91 m2 h92 _ _
    · refine g_aload_n 3 dL_law_935 rfl rfl ?_
      refine gN_iconst 0 dL_law_936 (by decide) ?_
      refine g_lald 0 (by rw [hto]) (by decide) (by rw [hto]; decide) dL_law_937 ?_
      refine g_eJ (v.toInt64) (hj h_932) ?_
      refine g_iload 6 dL_law_938 rfl ?_
      refine g_i2l dL_law_940 ?_
      refine g_lcmp dL_law_941 ?_
      refine g_ei (nI (0)) (lg_cmp_s _) ?_
      refine gN_if_eq 947 dL_law_942 (by decide) (by first | omega | exact b01_lt _) (fun h_942 => ?_) (fun h_942 => ?_)
      · refine g_goto 1834 dL_law_947 (by decide) ?_
        refine g_pick [0, 1, 2, 3, 4, 5, 6] rfl ?_
        exact K m1 h91 m2 h92 _ _
      · exact absurd h_942 (by decide)
  · exact absurd rfl h_925
set_option maxRecDepth 100000 in
theorem op_segment (g : Gp) {m : Mm} {a d o b Ls i c : Nat} {X : Nat → Int32} {v : Int32} {cs : Nat × Nat} {P : Mm → Prop} {P2 : Mm → Mm → Prop} {u : Nat × Nat} {Q : Rs → Mm → Prop} (hi : i + 4 ≤ Ls) (hLs : Ls ≤ 2048) (hb : tg m b = (19, Ls)) (hX : im m b = X)
    (HC : Hn g (ML_segment cs) hhL_segment [.ref d, .int (X (i + 1)), .int (X (i + 2)), .ref o] m (fun r m1 => r = .inl (some (.int (nI c))) ∧ P m1)) (hcs : cs.1 ≤ 30 ∧ cs.2 ≤ 230) (hc : c ≤ 3)
    (hP : ∀ m1, P m1 → tg m1 b = (19, Ls) ∧ im m1 b = X ∧ tg m1 a = (10, 0) ∧ Cn g (MX10_segment (0, 0)) [.ref a, .int (X (i + 1)), .int (X (i + 2))] m1 (fun r m2 => r = .inl (some (.int v)) ∧ P2 m1 m2))
    (hP2 : ∀ m1, P m1 → ∀ m2, P2 m1 m2 → MdOk m2 a ∧ tg m2 o = (18, 1) ∧ im m2 a 6 = nI c ∧ (c = 0 → jm m2 o 0 = v.toInt64)) (hu : u.1 + 30 ≤ lw_rc ∧ u.2 + 230 ≤ lw_rs)
    (K : ∀ m1, P m1 → ∀ m2, P2 m1 m2 → ∀ x5 x6 : Int32, G g ML_law Q 1834 [(6, .int x6), (5, .int x5), (4, .int (nI i)), (3, .ref o), (2, .ref a), (1, .ref d), (0, .ref b)] [] (u.1 + 30, u.2 + 230) m2) : G g ML_law Q 950 [(4, .int (nI (i))), (3, .ref (o)), (2, .ref (a)), (1, .ref (d)), (0, .ref (b))] [] u m := by
  have hi4 := hi
  have hL4 := hLs
  refine g_aload_n 1 dL_law_950 rfl rfl ?_
  refine g_aload_n 0 dL_law_951 rfl rfl ?_
  refine g_iload 4 dL_law_952 rfl ?_
  refine gN_iconst 1 dL_law_954 (by decide) ?_
  refine gN_iadd (i + 1) dL_law_955 rfl ?_
  refine gN_iald19 Ls (hb) (by first | omega | exact b01_lt _) (by first | omega | exact b01_lt _) dL_law_956 ?_
  refine g_eI (X (i + 1)) (congrFun hX _) ?_
  refine g_aload_n 0 dL_law_957 rfl rfl ?_
  refine g_iload 4 dL_law_958 rfl ?_
  refine gN_iconst 2 dL_law_960 (by decide) ?_
  refine gN_iadd (i + 2) dL_law_961 rfl ?_
  refine gN_iald19 Ls (hb) (by first | omega | exact b01_lt _) (by first | omega | exact b01_lt _) dL_law_962 ?_
  refine g_eI (X (i + 2)) (congrFun hX _) ?_
  refine g_aload_n 3 dL_law_963 rfl rfl ?_
  refine g_callH _ _ HC (ok_L_segment _) mlL_148 st_L_segment rfl ⟨Nat.le_of_ble_eq_true rfl, Nat.le_of_ble_eq_true rfl⟩ (by exact Nat.le_of_ble_eq_true rfl) ⟨Nat.le_trans (Nat.add_le_add_left hcs.1 _) hu.1, Nat.le_trans (Nat.add_le_add_left hcs.2 _) hu.2⟩ dL_law_964 rfl (fun v9 m1 h9 => ?_) (fun E m1 h9 => by cases h9.1)
  obtain ⟨h90, h91⟩ := h9
  cases h90
  obtain ⟨hb, hX, hta, hM9⟩ := hP m1 h91
  refine g_wide (u.1 + 30, u.2 + 230) (Nat.add_le_add_left hcs.1 _) (Nat.add_le_add_left hcs.2 _) ?_
  refine g_istore 5 [(5, .int (nI (c))), (4, .int (nI (i))), (3, .ref (o)), (2, .ref (a)), (1, .ref (d)), (0, .ref (b))] dL_law_967 (Nat.le_of_ble_eq_true rfl) rfl ?_
  refine g_aload_n 2 dL_law_969 rfl rfl ?_
  refine g_aload_n 0 dL_law_970 rfl rfl ?_
  refine g_iload 4 dL_law_971 rfl ?_
  refine gN_iconst 1 dL_law_973 (by decide) ?_
  refine gN_iadd (i + 1) dL_law_974 rfl ?_
  refine gN_iald19 Ls (hb) (by first | omega | exact b01_lt _) (by first | omega | exact b01_lt _) dL_law_975 ?_
  refine g_eI (X (i + 1)) (congrFun hX _) ?_
  refine g_aload_n 0 dL_law_976 rfl rfl ?_
  refine g_iload 4 dL_law_977 rfl ?_
  refine gN_iconst 2 dL_law_979 (by decide) ?_
  refine gN_iadd (i + 2) dL_law_980 rfl ?_
  refine gN_iald19 Ls (hb) (by first | omega | exact b01_lt _) (by first | omega | exact b01_lt _) dL_law_981 ?_
  refine g_eI (X (i + 2)) (congrFun hX _) ?_
  refine g_callV _ _ hM9 (ok_X10_segment _) mlL_150 in_X10_segment se_X10_segment (by rw [hta]; rfl) rfl rfl ⟨Nat.le_of_ble_eq_true rfl, Nat.le_of_ble_eq_true rfl⟩ (by exact Nat.le_of_ble_eq_true rfl) ⟨hu.1, hu.2⟩ dL_law_982 rfl (fun v9 m2 h9 => ?_) (fun E m2 h9 => by cases h9.1)
  obtain ⟨h90, h92⟩ := h9
  cases h90
  obtain ⟨hM, hto, h6, hj⟩ := hP2 m1 h91 m2 h92
  refine g_wide (u.1 + 30, u.2 + 230) (Nat.le_refl _) (Nat.le_refl _) ?_
  refine g_istore 6 [(6, .int (v)), (5, .int (nI (c))), (4, .int (nI (i))), (3, .ref (o)), (2, .ref (a)), (1, .ref (d)), (0, .ref (b))] dL_law_985 (Nat.le_of_ble_eq_true rfl) rfl ?_
  refine g_aload_n 2 dL_law_987 rfl rfl ?_
  refine gd_callV _ _ _ _ (cn_X10_thrown g (0, 0) hM) ⟨rfl, rfl⟩ (ok_X10_thrown _) mlL_101 in_X10_thrown se_X10_thrown 10 0 (hM.t) rfl rfl rfl ⟨Nat.le_of_ble_eq_true rfl, Nat.le_of_ble_eq_true rfl⟩ (by exact Nat.le_of_ble_eq_true rfl) ⟨hu.1, hu.2⟩ dL_law_988 rfl ?_
  refine g_ei (nI c) h6 ?_
  refine g_iload 5 dL_law_991 rfl ?_
  refine gN_icmp_eq 998 dL_law_993 (by decide) (by first | omega | exact b01_lt _) (by first | omega | exact b01_lt _) (fun h_993 => ?_) (fun h_993 => ?_)
  · refine g_iload 5 dL_law_998 rfl ?_
    refine gN_if_ne 1015 dL_law_1000 (by decide) (by first | omega | exact b01_lt _) (fun h_1000 => ?_) (fun h_1000 => ?_)
    · refine g_goto 1834 dL_law_1015 (by decide) ?_
      refine g_pick [0, 1, 2, 3, 4, 5, 6] rfl ?_
      exact K m1 h91 m2 h92 _ _
    · refine g_aload_n 3 dL_law_1003 rfl rfl ?_
      refine gN_iconst 0 dL_law_1004 (by decide) ?_
      refine g_lald 0 (by rw [hto]) (by decide) (by rw [hto]; decide) dL_law_1005 ?_
      refine g_eJ (v.toInt64) (hj h_1000) ?_
      refine g_iload 6 dL_law_1006 rfl ?_
      refine g_i2l dL_law_1008 ?_
      refine g_lcmp dL_law_1009 ?_
      refine g_ei (nI (0)) (lg_cmp_s _) ?_
      refine gN_if_eq 1015 dL_law_1010 (by decide) (by first | omega | exact b01_lt _) (fun h_1010 => ?_) (fun h_1010 => ?_)
      · refine g_goto 1834 dL_law_1015 (by decide) ?_
        refine g_pick [0, 1, 2, 3, 4, 5, 6] rfl ?_
        exact K m1 h91 m2 h92 _ _
      · exact absurd h_1010 (by decide)
  · exact absurd rfl h_993
set_option maxRecDepth 100000 in
theorem op_word (g : Gp) {m : Mm} {a d o b Ls i c : Nat} {X : Nat → Int32} {v : Int32} {cs : Nat × Nat} {P : Mm → Prop} {P2 : Mm → Mm → Prop} {u : Nat × Nat} {Q : Rs → Mm → Prop} (hi : i + 4 ≤ Ls) (hLs : Ls ≤ 2048) (hb : tg m b = (19, Ls)) (hX : im m b = X)
    (HC : Hn g (ML_word cs) hhL_word [.ref d, .int (X (i + 1)), .int (X (i + 2)), .ref o] m (fun r m1 => r = .inl (some (.int (nI c))) ∧ P m1)) (hcs : cs.1 ≤ 30 ∧ cs.2 ≤ 230) (hc : c ≤ 3)
    (hP : ∀ m1, P m1 → tg m1 b = (19, Ls) ∧ im m1 b = X ∧ tg m1 a = (10, 0) ∧ Cn g (MX10_word (0, 0)) [.ref a, .int (X (i + 1)), .int (X (i + 2))] m1 (fun r m2 => r = .inl (some (.int v)) ∧ P2 m1 m2))
    (hP2 : ∀ m1, P m1 → ∀ m2, P2 m1 m2 → MdOk m2 a ∧ tg m2 o = (18, 1) ∧ im m2 a 6 = nI c ∧ (c = 0 → jm m2 o 0 = v.toInt64)) (hu : u.1 + 30 ≤ lw_rc ∧ u.2 + 230 ≤ lw_rs)
    (K : ∀ m1, P m1 → ∀ m2, P2 m1 m2 → ∀ x5 x6 : Int32, G g ML_law Q 1834 [(6, .int x6), (5, .int x5), (4, .int (nI i)), (3, .ref o), (2, .ref a), (1, .ref d), (0, .ref b)] [] (u.1 + 30, u.2 + 230) m2) : G g ML_law Q 1018 [(4, .int (nI (i))), (3, .ref (o)), (2, .ref (a)), (1, .ref (d)), (0, .ref (b))] [] u m := by
  have hi4 := hi
  have hL4 := hLs
  refine g_aload_n 1 dL_law_1018 rfl rfl ?_
  refine g_aload_n 0 dL_law_1019 rfl rfl ?_
  refine g_iload 4 dL_law_1020 rfl ?_
  refine gN_iconst 1 dL_law_1022 (by decide) ?_
  refine gN_iadd (i + 1) dL_law_1023 rfl ?_
  refine gN_iald19 Ls (hb) (by first | omega | exact b01_lt _) (by first | omega | exact b01_lt _) dL_law_1024 ?_
  refine g_eI (X (i + 1)) (congrFun hX _) ?_
  refine g_aload_n 0 dL_law_1025 rfl rfl ?_
  refine g_iload 4 dL_law_1026 rfl ?_
  refine gN_iconst 2 dL_law_1028 (by decide) ?_
  refine gN_iadd (i + 2) dL_law_1029 rfl ?_
  refine gN_iald19 Ls (hb) (by first | omega | exact b01_lt _) (by first | omega | exact b01_lt _) dL_law_1030 ?_
  refine g_eI (X (i + 2)) (congrFun hX _) ?_
  refine g_aload_n 3 dL_law_1031 rfl rfl ?_
  refine g_callH _ _ HC (ok_L_word _) mlL_151 st_L_word rfl ⟨Nat.le_of_ble_eq_true rfl, Nat.le_of_ble_eq_true rfl⟩ (by exact Nat.le_of_ble_eq_true rfl) ⟨Nat.le_trans (Nat.add_le_add_left hcs.1 _) hu.1, Nat.le_trans (Nat.add_le_add_left hcs.2 _) hu.2⟩ dL_law_1032 rfl (fun v9 m1 h9 => ?_) (fun E m1 h9 => by cases h9.1)
  obtain ⟨h90, h91⟩ := h9
  cases h90
  obtain ⟨hb, hX, hta, hM9⟩ := hP m1 h91
  refine g_wide (u.1 + 30, u.2 + 230) (Nat.add_le_add_left hcs.1 _) (Nat.add_le_add_left hcs.2 _) ?_
  refine g_istore 5 [(5, .int (nI (c))), (4, .int (nI (i))), (3, .ref (o)), (2, .ref (a)), (1, .ref (d)), (0, .ref (b))] dL_law_1035 (Nat.le_of_ble_eq_true rfl) rfl ?_
  refine g_aload_n 2 dL_law_1037 rfl rfl ?_
  refine g_aload_n 0 dL_law_1038 rfl rfl ?_
  refine g_iload 4 dL_law_1039 rfl ?_
  refine gN_iconst 1 dL_law_1041 (by decide) ?_
  refine gN_iadd (i + 1) dL_law_1042 rfl ?_
  refine gN_iald19 Ls (hb) (by first | omega | exact b01_lt _) (by first | omega | exact b01_lt _) dL_law_1043 ?_
  refine g_eI (X (i + 1)) (congrFun hX _) ?_
  refine g_aload_n 0 dL_law_1044 rfl rfl ?_
  refine g_iload 4 dL_law_1045 rfl ?_
  refine gN_iconst 2 dL_law_1047 (by decide) ?_
  refine gN_iadd (i + 2) dL_law_1048 rfl ?_
  refine gN_iald19 Ls (hb) (by first | omega | exact b01_lt _) (by first | omega | exact b01_lt _) dL_law_1049 ?_
  refine g_eI (X (i + 2)) (congrFun hX _) ?_
  refine g_callV _ _ hM9 (ok_X10_word _) mlL_153 in_X10_word se_X10_word (by rw [hta]; rfl) rfl rfl ⟨Nat.le_of_ble_eq_true rfl, Nat.le_of_ble_eq_true rfl⟩ (by exact Nat.le_of_ble_eq_true rfl) ⟨hu.1, hu.2⟩ dL_law_1050 rfl (fun v9 m2 h9 => ?_) (fun E m2 h9 => by cases h9.1)
  obtain ⟨h90, h92⟩ := h9
  cases h90
  obtain ⟨hM, hto, h6, hj⟩ := hP2 m1 h91 m2 h92
  refine g_wide (u.1 + 30, u.2 + 230) (Nat.le_refl _) (Nat.le_refl _) ?_
  refine g_istore 6 [(6, .int (v)), (5, .int (nI (c))), (4, .int (nI (i))), (3, .ref (o)), (2, .ref (a)), (1, .ref (d)), (0, .ref (b))] dL_law_1053 (Nat.le_of_ble_eq_true rfl) rfl ?_
  refine g_aload_n 2 dL_law_1055 rfl rfl ?_
  refine gd_callV _ _ _ _ (cn_X10_thrown g (0, 0) hM) ⟨rfl, rfl⟩ (ok_X10_thrown _) mlL_101 in_X10_thrown se_X10_thrown 10 0 (hM.t) rfl rfl rfl ⟨Nat.le_of_ble_eq_true rfl, Nat.le_of_ble_eq_true rfl⟩ (by exact Nat.le_of_ble_eq_true rfl) ⟨hu.1, hu.2⟩ dL_law_1056 rfl ?_
  refine g_ei (nI c) h6 ?_
  refine g_iload 5 dL_law_1059 rfl ?_
  refine gN_icmp_eq 1066 dL_law_1061 (by decide) (by first | omega | exact b01_lt _) (by first | omega | exact b01_lt _) (fun h_1061 => ?_) (fun h_1061 => ?_)
  · refine g_iload 5 dL_law_1066 rfl ?_
    refine gN_if_ne 1083 dL_law_1068 (by decide) (by first | omega | exact b01_lt _) (fun h_1068 => ?_) (fun h_1068 => ?_)
    · refine g_goto 1834 dL_law_1083 (by decide) ?_
      refine g_pick [0, 1, 2, 3, 4, 5, 6] rfl ?_
      exact K m1 h91 m2 h92 _ _
    · refine g_aload_n 3 dL_law_1071 rfl rfl ?_
      refine gN_iconst 0 dL_law_1072 (by decide) ?_
      refine g_lald 0 (by rw [hto]) (by decide) (by rw [hto]; decide) dL_law_1073 ?_
      refine g_eJ (v.toInt64) (hj h_1068) ?_
      refine g_iload 6 dL_law_1074 rfl ?_
      refine g_i2l dL_law_1076 ?_
      refine g_lcmp dL_law_1077 ?_
      refine g_ei (nI (0)) (lg_cmp_s _) ?_
      refine gN_if_eq 1083 dL_law_1078 (by decide) (by first | omega | exact b01_lt _) (fun h_1078 => ?_) (fun h_1078 => ?_)
      · refine g_goto 1834 dL_law_1083 (by decide) ?_
        refine g_pick [0, 1, 2, 3, 4, 5, 6] rfl ?_
        exact K m1 h91 m2 h92 _ _
      · exact absurd h_1078 (by decide)
  · exact absurd rfl h_1061
set_option maxRecDepth 100000 in
theorem op_remembered (g : Gp) {m : Mm} {a d o b Ls i c : Nat} {X : Nat → Int32} {v : Int32} {cs : Nat × Nat} {P : Mm → Prop} {P2 : Mm → Mm → Prop} {u : Nat × Nat} {Q : Rs → Mm → Prop} (hi : i + 4 ≤ Ls) (hLs : Ls ≤ 2048) (hb : tg m b = (19, Ls)) (hX : im m b = X)
    (HC : Hn g (ML_remembered cs) hhL_remembered [.ref d, .int (X (i + 1)), .int (X (i + 2)), .ref o] m (fun r m1 => r = .inl (some (.int (nI c))) ∧ P m1)) (hcs : cs.1 ≤ 30 ∧ cs.2 ≤ 230) (hc : c ≤ 3)
    (hP : ∀ m1, P m1 → tg m1 b = (19, Ls) ∧ im m1 b = X ∧ tg m1 a = (10, 0) ∧ Cn g (MX10_remembered (0, 0)) [.ref a, .int (X (i + 1)), .int (X (i + 2))] m1 (fun r m2 => r = .inl (some (.int v)) ∧ P2 m1 m2))
    (hP2 : ∀ m1, P m1 → ∀ m2, P2 m1 m2 → MdOk m2 a ∧ tg m2 o = (18, 1) ∧ im m2 a 6 = nI c ∧ (c = 0 → jm m2 o 0 = v.toInt64)) (hu : u.1 + 30 ≤ lw_rc ∧ u.2 + 230 ≤ lw_rs)
    (K : ∀ m1, P m1 → ∀ m2, P2 m1 m2 → ∀ x5 x6 : Int32, G g ML_law Q 1834 [(6, .int x6), (5, .int x5), (4, .int (nI i)), (3, .ref o), (2, .ref a), (1, .ref d), (0, .ref b)] [] (u.1 + 30, u.2 + 230) m2) : G g ML_law Q 1086 [(4, .int (nI (i))), (3, .ref (o)), (2, .ref (a)), (1, .ref (d)), (0, .ref (b))] [] u m := by
  have hi4 := hi
  have hL4 := hLs
  refine g_aload_n 1 dL_law_1086 rfl rfl ?_
  refine g_aload_n 0 dL_law_1087 rfl rfl ?_
  refine g_iload 4 dL_law_1088 rfl ?_
  refine gN_iconst 1 dL_law_1090 (by decide) ?_
  refine gN_iadd (i + 1) dL_law_1091 rfl ?_
  refine gN_iald19 Ls (hb) (by first | omega | exact b01_lt _) (by first | omega | exact b01_lt _) dL_law_1092 ?_
  refine g_eI (X (i + 1)) (congrFun hX _) ?_
  refine g_aload_n 0 dL_law_1093 rfl rfl ?_
  refine g_iload 4 dL_law_1094 rfl ?_
  refine gN_iconst 2 dL_law_1096 (by decide) ?_
  refine gN_iadd (i + 2) dL_law_1097 rfl ?_
  refine gN_iald19 Ls (hb) (by first | omega | exact b01_lt _) (by first | omega | exact b01_lt _) dL_law_1098 ?_
  refine g_eI (X (i + 2)) (congrFun hX _) ?_
  refine g_aload_n 3 dL_law_1099 rfl rfl ?_
  refine g_callH _ _ HC (ok_L_remembered _) mlL_154 st_L_remembered rfl ⟨Nat.le_of_ble_eq_true rfl, Nat.le_of_ble_eq_true rfl⟩ (by exact Nat.le_of_ble_eq_true rfl) ⟨Nat.le_trans (Nat.add_le_add_left hcs.1 _) hu.1, Nat.le_trans (Nat.add_le_add_left hcs.2 _) hu.2⟩ dL_law_1100 rfl (fun v9 m1 h9 => ?_) (fun E m1 h9 => by cases h9.1)
  obtain ⟨h90, h91⟩ := h9
  cases h90
  obtain ⟨hb, hX, hta, hM9⟩ := hP m1 h91
  refine g_wide (u.1 + 30, u.2 + 230) (Nat.add_le_add_left hcs.1 _) (Nat.add_le_add_left hcs.2 _) ?_
  refine g_istore 5 [(5, .int (nI (c))), (4, .int (nI (i))), (3, .ref (o)), (2, .ref (a)), (1, .ref (d)), (0, .ref (b))] dL_law_1103 (Nat.le_of_ble_eq_true rfl) rfl ?_
  refine g_aload_n 2 dL_law_1105 rfl rfl ?_
  refine g_aload_n 0 dL_law_1106 rfl rfl ?_
  refine g_iload 4 dL_law_1107 rfl ?_
  refine gN_iconst 1 dL_law_1109 (by decide) ?_
  refine gN_iadd (i + 1) dL_law_1110 rfl ?_
  refine gN_iald19 Ls (hb) (by first | omega | exact b01_lt _) (by first | omega | exact b01_lt _) dL_law_1111 ?_
  refine g_eI (X (i + 1)) (congrFun hX _) ?_
  refine g_aload_n 0 dL_law_1112 rfl rfl ?_
  refine g_iload 4 dL_law_1113 rfl ?_
  refine gN_iconst 2 dL_law_1115 (by decide) ?_
  refine gN_iadd (i + 2) dL_law_1116 rfl ?_
  refine gN_iald19 Ls (hb) (by first | omega | exact b01_lt _) (by first | omega | exact b01_lt _) dL_law_1117 ?_
  refine g_eI (X (i + 2)) (congrFun hX _) ?_
  refine g_callV _ _ hM9 (ok_X10_remembered _) mlL_156 in_X10_remembered se_X10_remembered (by rw [hta]; rfl) rfl rfl ⟨Nat.le_of_ble_eq_true rfl, Nat.le_of_ble_eq_true rfl⟩ (by exact Nat.le_of_ble_eq_true rfl) ⟨hu.1, hu.2⟩ dL_law_1118 rfl (fun v9 m2 h9 => ?_) (fun E m2 h9 => by cases h9.1)
  obtain ⟨h90, h92⟩ := h9
  cases h90
  obtain ⟨hM, hto, h6, hj⟩ := hP2 m1 h91 m2 h92
  refine g_wide (u.1 + 30, u.2 + 230) (Nat.le_refl _) (Nat.le_refl _) ?_
  refine g_istore 6 [(6, .int (v)), (5, .int (nI (c))), (4, .int (nI (i))), (3, .ref (o)), (2, .ref (a)), (1, .ref (d)), (0, .ref (b))] dL_law_1121 (Nat.le_of_ble_eq_true rfl) rfl ?_
  refine g_aload_n 2 dL_law_1123 rfl rfl ?_
  refine gd_callV _ _ _ _ (cn_X10_thrown g (0, 0) hM) ⟨rfl, rfl⟩ (ok_X10_thrown _) mlL_101 in_X10_thrown se_X10_thrown 10 0 (hM.t) rfl rfl rfl ⟨Nat.le_of_ble_eq_true rfl, Nat.le_of_ble_eq_true rfl⟩ (by exact Nat.le_of_ble_eq_true rfl) ⟨hu.1, hu.2⟩ dL_law_1124 rfl ?_
  refine g_ei (nI c) h6 ?_
  refine g_iload 5 dL_law_1127 rfl ?_
  refine gN_icmp_eq 1134 dL_law_1129 (by decide) (by first | omega | exact b01_lt _) (by first | omega | exact b01_lt _) (fun h_1129 => ?_) (fun h_1129 => ?_)
  · refine g_iload 5 dL_law_1134 rfl ?_
    refine gN_if_ne 1151 dL_law_1136 (by decide) (by first | omega | exact b01_lt _) (fun h_1136 => ?_) (fun h_1136 => ?_)
    · refine g_goto 1834 dL_law_1151 (by decide) ?_
      refine g_pick [0, 1, 2, 3, 4, 5, 6] rfl ?_
      exact K m1 h91 m2 h92 _ _
    · refine g_aload_n 3 dL_law_1139 rfl rfl ?_
      refine gN_iconst 0 dL_law_1140 (by decide) ?_
      refine g_lald 0 (by rw [hto]) (by decide) (by rw [hto]; decide) dL_law_1141 ?_
      refine g_eJ (v.toInt64) (hj h_1136) ?_
      refine g_iload 6 dL_law_1142 rfl ?_
      refine g_i2l dL_law_1144 ?_
      refine g_lcmp dL_law_1145 ?_
      refine g_ei (nI (0)) (lg_cmp_s _) ?_
      refine gN_if_eq 1151 dL_law_1146 (by decide) (by first | omega | exact b01_lt _) (fun h_1146 => ?_) (fun h_1146 => ?_)
      · refine g_goto 1834 dL_law_1151 (by decide) ?_
        refine g_pick [0, 1, 2, 3, 4, 5, 6] rfl ?_
        exact K m1 h91 m2 h92 _ _
      · exact absurd h_1146 (by decide)
  · exact absurd rfl h_1129
set_option maxRecDepth 100000 in
theorem op_translator (g : Gp) {m : Mm} {a d o b Ls i c : Nat} {X : Nat → Int32} {v : Int32} {cs : Nat × Nat} {P : Mm → Prop} {P2 : Mm → Mm → Prop} {u : Nat × Nat} {Q : Rs → Mm → Prop} (hi : i + 4 ≤ Ls) (hLs : Ls ≤ 2048) (hb : tg m b = (19, Ls)) (hX : im m b = X)
    (HC : Hn g (ML_translator cs) hhL_translator [.ref d, .int (X (i + 1)), .int (X (i + 2)), .ref o] m (fun r m1 => r = .inl (some (.int (nI c))) ∧ P m1)) (hcs : cs.1 ≤ 30 ∧ cs.2 ≤ 230) (hc : c ≤ 3)
    (hP : ∀ m1, P m1 → tg m1 b = (19, Ls) ∧ im m1 b = X ∧ tg m1 a = (10, 0) ∧ Cn g (MX10_translator (0, 0)) [.ref a, .int (X (i + 1)), .int (X (i + 2))] m1 (fun r m2 => r = .inl (some (.int v)) ∧ P2 m1 m2))
    (hP2 : ∀ m1, P m1 → ∀ m2, P2 m1 m2 → MdOk m2 a ∧ tg m2 o = (18, 1) ∧ im m2 a 6 = nI c ∧ (c = 0 → jm m2 o 0 = v.toInt64)) (hu : u.1 + 30 ≤ lw_rc ∧ u.2 + 230 ≤ lw_rs)
    (K : ∀ m1, P m1 → ∀ m2, P2 m1 m2 → ∀ x5 x6 : Int32, G g ML_law Q 1834 [(6, .int x6), (5, .int x5), (4, .int (nI i)), (3, .ref o), (2, .ref a), (1, .ref d), (0, .ref b)] [] (u.1 + 30, u.2 + 230) m2) : G g ML_law Q 1154 [(4, .int (nI (i))), (3, .ref (o)), (2, .ref (a)), (1, .ref (d)), (0, .ref (b))] [] u m := by
  have hi4 := hi
  have hL4 := hLs
  refine g_aload_n 1 dL_law_1154 rfl rfl ?_
  refine g_aload_n 0 dL_law_1155 rfl rfl ?_
  refine g_iload 4 dL_law_1156 rfl ?_
  refine gN_iconst 1 dL_law_1158 (by decide) ?_
  refine gN_iadd (i + 1) dL_law_1159 rfl ?_
  refine gN_iald19 Ls (hb) (by first | omega | exact b01_lt _) (by first | omega | exact b01_lt _) dL_law_1160 ?_
  refine g_eI (X (i + 1)) (congrFun hX _) ?_
  refine g_aload_n 0 dL_law_1161 rfl rfl ?_
  refine g_iload 4 dL_law_1162 rfl ?_
  refine gN_iconst 2 dL_law_1164 (by decide) ?_
  refine gN_iadd (i + 2) dL_law_1165 rfl ?_
  refine gN_iald19 Ls (hb) (by first | omega | exact b01_lt _) (by first | omega | exact b01_lt _) dL_law_1166 ?_
  refine g_eI (X (i + 2)) (congrFun hX _) ?_
  refine g_aload_n 3 dL_law_1167 rfl rfl ?_
  refine g_callH _ _ HC (ok_L_translator _) mlL_157 st_L_translator rfl ⟨Nat.le_of_ble_eq_true rfl, Nat.le_of_ble_eq_true rfl⟩ (by exact Nat.le_of_ble_eq_true rfl) ⟨Nat.le_trans (Nat.add_le_add_left hcs.1 _) hu.1, Nat.le_trans (Nat.add_le_add_left hcs.2 _) hu.2⟩ dL_law_1168 rfl (fun v9 m1 h9 => ?_) (fun E m1 h9 => by cases h9.1)
  obtain ⟨h90, h91⟩ := h9
  cases h90
  obtain ⟨hb, hX, hta, hM9⟩ := hP m1 h91
  refine g_wide (u.1 + 30, u.2 + 230) (Nat.add_le_add_left hcs.1 _) (Nat.add_le_add_left hcs.2 _) ?_
  refine g_istore 5 [(5, .int (nI (c))), (4, .int (nI (i))), (3, .ref (o)), (2, .ref (a)), (1, .ref (d)), (0, .ref (b))] dL_law_1171 (Nat.le_of_ble_eq_true rfl) rfl ?_
  refine g_aload_n 2 dL_law_1173 rfl rfl ?_
  refine g_aload_n 0 dL_law_1174 rfl rfl ?_
  refine g_iload 4 dL_law_1175 rfl ?_
  refine gN_iconst 1 dL_law_1177 (by decide) ?_
  refine gN_iadd (i + 1) dL_law_1178 rfl ?_
  refine gN_iald19 Ls (hb) (by first | omega | exact b01_lt _) (by first | omega | exact b01_lt _) dL_law_1179 ?_
  refine g_eI (X (i + 1)) (congrFun hX _) ?_
  refine g_aload_n 0 dL_law_1180 rfl rfl ?_
  refine g_iload 4 dL_law_1181 rfl ?_
  refine gN_iconst 2 dL_law_1183 (by decide) ?_
  refine gN_iadd (i + 2) dL_law_1184 rfl ?_
  refine gN_iald19 Ls (hb) (by first | omega | exact b01_lt _) (by first | omega | exact b01_lt _) dL_law_1185 ?_
  refine g_eI (X (i + 2)) (congrFun hX _) ?_
  refine g_callV _ _ hM9 (ok_X10_translator _) mlL_159 in_X10_translator se_X10_translator (by rw [hta]; rfl) rfl rfl ⟨Nat.le_of_ble_eq_true rfl, Nat.le_of_ble_eq_true rfl⟩ (by exact Nat.le_of_ble_eq_true rfl) ⟨hu.1, hu.2⟩ dL_law_1186 rfl (fun v9 m2 h9 => ?_) (fun E m2 h9 => by cases h9.1)
  obtain ⟨h90, h92⟩ := h9
  cases h90
  obtain ⟨hM, hto, h6, hj⟩ := hP2 m1 h91 m2 h92
  refine g_wide (u.1 + 30, u.2 + 230) (Nat.le_refl _) (Nat.le_refl _) ?_
  refine g_istore 6 [(6, .int (v)), (5, .int (nI (c))), (4, .int (nI (i))), (3, .ref (o)), (2, .ref (a)), (1, .ref (d)), (0, .ref (b))] dL_law_1189 (Nat.le_of_ble_eq_true rfl) rfl ?_
  refine g_aload_n 2 dL_law_1191 rfl rfl ?_
  refine gd_callV _ _ _ _ (cn_X10_thrown g (0, 0) hM) ⟨rfl, rfl⟩ (ok_X10_thrown _) mlL_101 in_X10_thrown se_X10_thrown 10 0 (hM.t) rfl rfl rfl ⟨Nat.le_of_ble_eq_true rfl, Nat.le_of_ble_eq_true rfl⟩ (by exact Nat.le_of_ble_eq_true rfl) ⟨hu.1, hu.2⟩ dL_law_1192 rfl ?_
  refine g_ei (nI c) h6 ?_
  refine g_iload 5 dL_law_1195 rfl ?_
  refine gN_icmp_eq 1202 dL_law_1197 (by decide) (by first | omega | exact b01_lt _) (by first | omega | exact b01_lt _) (fun h_1197 => ?_) (fun h_1197 => ?_)
  · refine g_iload 5 dL_law_1202 rfl ?_
    refine gN_if_ne 1219 dL_law_1204 (by decide) (by first | omega | exact b01_lt _) (fun h_1204 => ?_) (fun h_1204 => ?_)
    · refine g_goto 1834 dL_law_1219 (by decide) ?_
      refine g_pick [0, 1, 2, 3, 4, 5, 6] rfl ?_
      exact K m1 h91 m2 h92 _ _
    · refine g_aload_n 3 dL_law_1207 rfl rfl ?_
      refine gN_iconst 0 dL_law_1208 (by decide) ?_
      refine g_lald 0 (by rw [hto]) (by decide) (by rw [hto]; decide) dL_law_1209 ?_
      refine g_eJ (v.toInt64) (hj h_1204) ?_
      refine g_iload 6 dL_law_1210 rfl ?_
      refine g_i2l dL_law_1212 ?_
      refine g_lcmp dL_law_1213 ?_
      refine g_ei (nI (0)) (lg_cmp_s _) ?_
      refine gN_if_eq 1219 dL_law_1214 (by decide) (by first | omega | exact b01_lt _) (fun h_1214 => ?_) (fun h_1214 => ?_)
      · refine g_goto 1834 dL_law_1219 (by decide) ?_
        refine g_pick [0, 1, 2, 3, 4, 5, 6] rfl ?_
        exact K m1 h91 m2 h92 _ _
      · exact absurd h_1214 (by decide)
  · exact absurd rfl h_1197
set_option maxRecDepth 100000 in
theorem op_term (g : Gp) {m : Mm} {a d o b Ls i c : Nat} {X : Nat → Int32} {v : Int32} {cs : Nat × Nat} {P : Mm → Prop} {P2 : Mm → Mm → Prop} {u : Nat × Nat} {Q : Rs → Mm → Prop} (hi : i + 4 ≤ Ls) (hLs : Ls ≤ 2048) (hb : tg m b = (19, Ls)) (hX : im m b = X)
    (HC : Hn g (ML_term cs) hhL_term [.ref d, .int (X (i + 1)), .int (X (i + 2)), .ref o] m (fun r m1 => r = .inl (some (.int (nI c))) ∧ P m1)) (hcs : cs.1 ≤ 30 ∧ cs.2 ≤ 230) (hc : c ≤ 3)
    (hP : ∀ m1, P m1 → tg m1 b = (19, Ls) ∧ im m1 b = X ∧ tg m1 a = (10, 0) ∧ Cn g (MX10_term (0, 0)) [.ref a, .int (X (i + 1)), .int (X (i + 2))] m1 (fun r m2 => r = .inl (some (.int v)) ∧ P2 m1 m2))
    (hP2 : ∀ m1, P m1 → ∀ m2, P2 m1 m2 → MdOk m2 a ∧ tg m2 o = (18, 1) ∧ im m2 a 6 = nI c ∧ (c = 0 → jm m2 o 0 = v.toInt64)) (hu : u.1 + 30 ≤ lw_rc ∧ u.2 + 230 ≤ lw_rs)
    (K : ∀ m1, P m1 → ∀ m2, P2 m1 m2 → ∀ x5 x6 : Int32, G g ML_law Q 1834 [(6, .int x6), (5, .int x5), (4, .int (nI i)), (3, .ref o), (2, .ref a), (1, .ref d), (0, .ref b)] [] (u.1 + 30, u.2 + 230) m2) : G g ML_law Q 1222 [(4, .int (nI (i))), (3, .ref (o)), (2, .ref (a)), (1, .ref (d)), (0, .ref (b))] [] u m := by
  have hi4 := hi
  have hL4 := hLs
  refine g_aload_n 1 dL_law_1222 rfl rfl ?_
  refine g_aload_n 0 dL_law_1223 rfl rfl ?_
  refine g_iload 4 dL_law_1224 rfl ?_
  refine gN_iconst 1 dL_law_1226 (by decide) ?_
  refine gN_iadd (i + 1) dL_law_1227 rfl ?_
  refine gN_iald19 Ls (hb) (by first | omega | exact b01_lt _) (by first | omega | exact b01_lt _) dL_law_1228 ?_
  refine g_eI (X (i + 1)) (congrFun hX _) ?_
  refine g_aload_n 0 dL_law_1229 rfl rfl ?_
  refine g_iload 4 dL_law_1230 rfl ?_
  refine gN_iconst 2 dL_law_1232 (by decide) ?_
  refine gN_iadd (i + 2) dL_law_1233 rfl ?_
  refine gN_iald19 Ls (hb) (by first | omega | exact b01_lt _) (by first | omega | exact b01_lt _) dL_law_1234 ?_
  refine g_eI (X (i + 2)) (congrFun hX _) ?_
  refine g_aload_n 3 dL_law_1235 rfl rfl ?_
  refine g_callH _ _ HC (ok_L_term _) mlL_160 st_L_term rfl ⟨Nat.le_of_ble_eq_true rfl, Nat.le_of_ble_eq_true rfl⟩ (by exact Nat.le_of_ble_eq_true rfl) ⟨Nat.le_trans (Nat.add_le_add_left hcs.1 _) hu.1, Nat.le_trans (Nat.add_le_add_left hcs.2 _) hu.2⟩ dL_law_1236 rfl (fun v9 m1 h9 => ?_) (fun E m1 h9 => by cases h9.1)
  obtain ⟨h90, h91⟩ := h9
  cases h90
  obtain ⟨hb, hX, hta, hM9⟩ := hP m1 h91
  refine g_wide (u.1 + 30, u.2 + 230) (Nat.add_le_add_left hcs.1 _) (Nat.add_le_add_left hcs.2 _) ?_
  refine g_istore 5 [(5, .int (nI (c))), (4, .int (nI (i))), (3, .ref (o)), (2, .ref (a)), (1, .ref (d)), (0, .ref (b))] dL_law_1239 (Nat.le_of_ble_eq_true rfl) rfl ?_
  refine g_aload_n 2 dL_law_1241 rfl rfl ?_
  refine g_aload_n 0 dL_law_1242 rfl rfl ?_
  refine g_iload 4 dL_law_1243 rfl ?_
  refine gN_iconst 1 dL_law_1245 (by decide) ?_
  refine gN_iadd (i + 1) dL_law_1246 rfl ?_
  refine gN_iald19 Ls (hb) (by first | omega | exact b01_lt _) (by first | omega | exact b01_lt _) dL_law_1247 ?_
  refine g_eI (X (i + 1)) (congrFun hX _) ?_
  refine g_aload_n 0 dL_law_1248 rfl rfl ?_
  refine g_iload 4 dL_law_1249 rfl ?_
  refine gN_iconst 2 dL_law_1251 (by decide) ?_
  refine gN_iadd (i + 2) dL_law_1252 rfl ?_
  refine gN_iald19 Ls (hb) (by first | omega | exact b01_lt _) (by first | omega | exact b01_lt _) dL_law_1253 ?_
  refine g_eI (X (i + 2)) (congrFun hX _) ?_
  refine g_callV _ _ hM9 (ok_X10_term _) mlL_162 in_X10_term se_X10_term (by rw [hta]; rfl) rfl rfl ⟨Nat.le_of_ble_eq_true rfl, Nat.le_of_ble_eq_true rfl⟩ (by exact Nat.le_of_ble_eq_true rfl) ⟨hu.1, hu.2⟩ dL_law_1254 rfl (fun v9 m2 h9 => ?_) (fun E m2 h9 => by cases h9.1)
  obtain ⟨h90, h92⟩ := h9
  cases h90
  obtain ⟨hM, hto, h6, hj⟩ := hP2 m1 h91 m2 h92
  refine g_wide (u.1 + 30, u.2 + 230) (Nat.le_refl _) (Nat.le_refl _) ?_
  refine g_istore 6 [(6, .int (v)), (5, .int (nI (c))), (4, .int (nI (i))), (3, .ref (o)), (2, .ref (a)), (1, .ref (d)), (0, .ref (b))] dL_law_1257 (Nat.le_of_ble_eq_true rfl) rfl ?_
  refine g_aload_n 2 dL_law_1259 rfl rfl ?_
  refine gd_callV _ _ _ _ (cn_X10_thrown g (0, 0) hM) ⟨rfl, rfl⟩ (ok_X10_thrown _) mlL_101 in_X10_thrown se_X10_thrown 10 0 (hM.t) rfl rfl rfl ⟨Nat.le_of_ble_eq_true rfl, Nat.le_of_ble_eq_true rfl⟩ (by exact Nat.le_of_ble_eq_true rfl) ⟨hu.1, hu.2⟩ dL_law_1260 rfl ?_
  refine g_ei (nI c) h6 ?_
  refine g_iload 5 dL_law_1263 rfl ?_
  refine gN_icmp_eq 1270 dL_law_1265 (by decide) (by first | omega | exact b01_lt _) (by first | omega | exact b01_lt _) (fun h_1265 => ?_) (fun h_1265 => ?_)
  · refine g_iload 5 dL_law_1270 rfl ?_
    refine gN_if_ne 1287 dL_law_1272 (by decide) (by first | omega | exact b01_lt _) (fun h_1272 => ?_) (fun h_1272 => ?_)
    · refine g_goto 1834 dL_law_1287 (by decide) ?_
      refine g_pick [0, 1, 2, 3, 4, 5, 6] rfl ?_
      exact K m1 h91 m2 h92 _ _
    · refine g_aload_n 3 dL_law_1275 rfl rfl ?_
      refine gN_iconst 0 dL_law_1276 (by decide) ?_
      refine g_lald 0 (by rw [hto]) (by decide) (by rw [hto]; decide) dL_law_1277 ?_
      refine g_eJ (v.toInt64) (hj h_1272) ?_
      refine g_iload 6 dL_law_1278 rfl ?_
      refine g_i2l dL_law_1280 ?_
      refine g_lcmp dL_law_1281 ?_
      refine g_ei (nI (0)) (lg_cmp_s _) ?_
      refine gN_if_eq 1287 dL_law_1282 (by decide) (by first | omega | exact b01_lt _) (fun h_1282 => ?_) (fun h_1282 => ?_)
      · refine g_goto 1834 dL_law_1287 (by decide) ?_
        refine g_pick [0, 1, 2, 3, 4, 5, 6] rfl ?_
        exact K m1 h91 m2 h92 _ _
      · exact absurd h_1282 (by decide)
  · exact absurd rfl h_1265
set_option maxRecDepth 100000 in
theorem op_band (g : Gp) {m : Mm} {a d o b Ls i c : Nat} {X : Nat → Int32} {v : Int32} {cs : Nat × Nat} {P : Mm → Prop} {P2 : Mm → Mm → Prop} {u : Nat × Nat} {Q : Rs → Mm → Prop} (hi : i + 4 ≤ Ls) (hLs : Ls ≤ 2048) (hb : tg m b = (19, Ls)) (hX : im m b = X)
    (HC : Hn g (ML_band cs) hhL_band [.ref d, .int (X (i + 1)), .int (X (i + 2)), .ref o] m (fun r m1 => r = .inl (some (.int (nI c))) ∧ P m1)) (hcs : cs.1 ≤ 30 ∧ cs.2 ≤ 230) (hc : c ≤ 3)
    (hP : ∀ m1, P m1 → tg m1 b = (19, Ls) ∧ im m1 b = X ∧ tg m1 a = (10, 0) ∧ Cn g (MX10_band (0, 0)) [.ref a, .int (X (i + 1)), .int (X (i + 2))] m1 (fun r m2 => r = .inl (some (.int v)) ∧ P2 m1 m2))
    (hP2 : ∀ m1, P m1 → ∀ m2, P2 m1 m2 → MdOk m2 a ∧ tg m2 o = (18, 1) ∧ im m2 a 6 = nI c ∧ (c = 0 → jm m2 o 0 = v.toInt64)) (hu : u.1 + 30 ≤ lw_rc ∧ u.2 + 230 ≤ lw_rs)
    (K : ∀ m1, P m1 → ∀ m2, P2 m1 m2 → ∀ x5 x6 : Int32, G g ML_law Q 1834 [(6, .int x6), (5, .int x5), (4, .int (nI i)), (3, .ref o), (2, .ref a), (1, .ref d), (0, .ref b)] [] (u.1 + 30, u.2 + 230) m2) : G g ML_law Q 1290 [(4, .int (nI (i))), (3, .ref (o)), (2, .ref (a)), (1, .ref (d)), (0, .ref (b))] [] u m := by
  have hi4 := hi
  have hL4 := hLs
  refine g_aload_n 1 dL_law_1290 rfl rfl ?_
  refine g_aload_n 0 dL_law_1291 rfl rfl ?_
  refine g_iload 4 dL_law_1292 rfl ?_
  refine gN_iconst 1 dL_law_1294 (by decide) ?_
  refine gN_iadd (i + 1) dL_law_1295 rfl ?_
  refine gN_iald19 Ls (hb) (by first | omega | exact b01_lt _) (by first | omega | exact b01_lt _) dL_law_1296 ?_
  refine g_eI (X (i + 1)) (congrFun hX _) ?_
  refine g_aload_n 0 dL_law_1297 rfl rfl ?_
  refine g_iload 4 dL_law_1298 rfl ?_
  refine gN_iconst 2 dL_law_1300 (by decide) ?_
  refine gN_iadd (i + 2) dL_law_1301 rfl ?_
  refine gN_iald19 Ls (hb) (by first | omega | exact b01_lt _) (by first | omega | exact b01_lt _) dL_law_1302 ?_
  refine g_eI (X (i + 2)) (congrFun hX _) ?_
  refine g_aload_n 3 dL_law_1303 rfl rfl ?_
  refine g_callH _ _ HC (ok_L_band _) mlL_163 st_L_band rfl ⟨Nat.le_of_ble_eq_true rfl, Nat.le_of_ble_eq_true rfl⟩ (by exact Nat.le_of_ble_eq_true rfl) ⟨Nat.le_trans (Nat.add_le_add_left hcs.1 _) hu.1, Nat.le_trans (Nat.add_le_add_left hcs.2 _) hu.2⟩ dL_law_1304 rfl (fun v9 m1 h9 => ?_) (fun E m1 h9 => by cases h9.1)
  obtain ⟨h90, h91⟩ := h9
  cases h90
  obtain ⟨hb, hX, hta, hM9⟩ := hP m1 h91
  refine g_wide (u.1 + 30, u.2 + 230) (Nat.add_le_add_left hcs.1 _) (Nat.add_le_add_left hcs.2 _) ?_
  refine g_istore 5 [(5, .int (nI (c))), (4, .int (nI (i))), (3, .ref (o)), (2, .ref (a)), (1, .ref (d)), (0, .ref (b))] dL_law_1307 (Nat.le_of_ble_eq_true rfl) rfl ?_
  refine g_aload_n 2 dL_law_1309 rfl rfl ?_
  refine g_aload_n 0 dL_law_1310 rfl rfl ?_
  refine g_iload 4 dL_law_1311 rfl ?_
  refine gN_iconst 1 dL_law_1313 (by decide) ?_
  refine gN_iadd (i + 1) dL_law_1314 rfl ?_
  refine gN_iald19 Ls (hb) (by first | omega | exact b01_lt _) (by first | omega | exact b01_lt _) dL_law_1315 ?_
  refine g_eI (X (i + 1)) (congrFun hX _) ?_
  refine g_aload_n 0 dL_law_1316 rfl rfl ?_
  refine g_iload 4 dL_law_1317 rfl ?_
  refine gN_iconst 2 dL_law_1319 (by decide) ?_
  refine gN_iadd (i + 2) dL_law_1320 rfl ?_
  refine gN_iald19 Ls (hb) (by first | omega | exact b01_lt _) (by first | omega | exact b01_lt _) dL_law_1321 ?_
  refine g_eI (X (i + 2)) (congrFun hX _) ?_
  refine g_callV _ _ hM9 (ok_X10_band _) mlL_165 in_X10_band se_X10_band (by rw [hta]; rfl) rfl rfl ⟨Nat.le_of_ble_eq_true rfl, Nat.le_of_ble_eq_true rfl⟩ (by exact Nat.le_of_ble_eq_true rfl) ⟨hu.1, hu.2⟩ dL_law_1322 rfl (fun v9 m2 h9 => ?_) (fun E m2 h9 => by cases h9.1)
  obtain ⟨h90, h92⟩ := h9
  cases h90
  obtain ⟨hM, hto, h6, hj⟩ := hP2 m1 h91 m2 h92
  refine g_wide (u.1 + 30, u.2 + 230) (Nat.le_refl _) (Nat.le_refl _) ?_
  refine g_istore 6 [(6, .int (v)), (5, .int (nI (c))), (4, .int (nI (i))), (3, .ref (o)), (2, .ref (a)), (1, .ref (d)), (0, .ref (b))] dL_law_1325 (Nat.le_of_ble_eq_true rfl) rfl ?_
  refine g_aload_n 2 dL_law_1327 rfl rfl ?_
  refine gd_callV _ _ _ _ (cn_X10_thrown g (0, 0) hM) ⟨rfl, rfl⟩ (ok_X10_thrown _) mlL_101 in_X10_thrown se_X10_thrown 10 0 (hM.t) rfl rfl rfl ⟨Nat.le_of_ble_eq_true rfl, Nat.le_of_ble_eq_true rfl⟩ (by exact Nat.le_of_ble_eq_true rfl) ⟨hu.1, hu.2⟩ dL_law_1328 rfl ?_
  refine g_ei (nI c) h6 ?_
  refine g_iload 5 dL_law_1331 rfl ?_
  refine gN_icmp_eq 1338 dL_law_1333 (by decide) (by first | omega | exact b01_lt _) (by first | omega | exact b01_lt _) (fun h_1333 => ?_) (fun h_1333 => ?_)
  · refine g_iload 5 dL_law_1338 rfl ?_
    refine gN_if_ne 1355 dL_law_1340 (by decide) (by first | omega | exact b01_lt _) (fun h_1340 => ?_) (fun h_1340 => ?_)
    · refine g_goto 1834 dL_law_1355 (by decide) ?_
      refine g_pick [0, 1, 2, 3, 4, 5, 6] rfl ?_
      exact K m1 h91 m2 h92 _ _
    · refine g_aload_n 3 dL_law_1343 rfl rfl ?_
      refine gN_iconst 0 dL_law_1344 (by decide) ?_
      refine g_lald 0 (by rw [hto]) (by decide) (by rw [hto]; decide) dL_law_1345 ?_
      refine g_eJ (v.toInt64) (hj h_1340) ?_
      refine g_iload 6 dL_law_1346 rfl ?_
      refine g_i2l dL_law_1348 ?_
      refine g_lcmp dL_law_1349 ?_
      refine g_ei (nI (0)) (lg_cmp_s _) ?_
      refine gN_if_eq 1355 dL_law_1350 (by decide) (by first | omega | exact b01_lt _) (fun h_1350 => ?_) (fun h_1350 => ?_)
      · refine g_goto 1834 dL_law_1355 (by decide) ?_
        refine g_pick [0, 1, 2, 3, 4, 5, 6] rfl ?_
        exact K m1 h91 m2 h92 _ _
      · exact absurd h_1350 (by decide)
  · exact absurd rfl h_1333
set_option maxRecDepth 100000 in
theorem op_count (g : Gp) {m : Mm} {a d o b Ls i c : Nat} {X : Nat → Int32} {v : Int32} {cs : Nat × Nat} {P : Mm → Prop} {P2 : Mm → Mm → Prop} {u : Nat × Nat} {Q : Rs → Mm → Prop} (hi : i + 4 ≤ Ls) (hLs : Ls ≤ 2048) (hb : tg m b = (19, Ls)) (hX : im m b = X)
    (HC : Hn g (ML_count cs) hhL_count [.ref d, .int (X (i + 1)), .ref o] m (fun r m1 => r = .inl (some (.int (nI c))) ∧ P m1)) (hcs : cs.1 ≤ 30 ∧ cs.2 ≤ 230) (hc : c ≤ 3)
    (hP : ∀ m1, P m1 → tg m1 b = (19, Ls) ∧ im m1 b = X ∧ tg m1 a = (10, 0) ∧ Cn g (MX10_count (0, 0)) [.ref a, .int (X (i + 1))] m1 (fun r m2 => r = .inl (some (.int v)) ∧ P2 m1 m2))
    (hP2 : ∀ m1, P m1 → ∀ m2, P2 m1 m2 → MdOk m2 a ∧ tg m2 o = (18, 1) ∧ im m2 a 6 = nI c ∧ (c = 0 → jm m2 o 0 = v.toInt64)) (hu : u.1 + 30 ≤ lw_rc ∧ u.2 + 230 ≤ lw_rs)
    (K : ∀ m1, P m1 → ∀ m2, P2 m1 m2 → ∀ x5 x6 : Int32, G g ML_law Q 1834 [(6, .int x6), (5, .int x5), (4, .int (nI i)), (3, .ref o), (2, .ref a), (1, .ref d), (0, .ref b)] [] (u.1 + 30, u.2 + 230) m2) : G g ML_law Q 1358 [(4, .int (nI (i))), (3, .ref (o)), (2, .ref (a)), (1, .ref (d)), (0, .ref (b))] [] u m := by
  have hi4 := hi
  have hL4 := hLs
  refine g_aload_n 1 dL_law_1358 rfl rfl ?_
  refine g_aload_n 0 dL_law_1359 rfl rfl ?_
  refine g_iload 4 dL_law_1360 rfl ?_
  refine gN_iconst 1 dL_law_1362 (by decide) ?_
  refine gN_iadd (i + 1) dL_law_1363 rfl ?_
  refine gN_iald19 Ls (hb) (by first | omega | exact b01_lt _) (by first | omega | exact b01_lt _) dL_law_1364 ?_
  refine g_eI (X (i + 1)) (congrFun hX _) ?_
  refine g_aload_n 3 dL_law_1365 rfl rfl ?_
  refine g_callH _ _ HC (ok_L_count _) mlL_166 st_L_count rfl ⟨Nat.le_of_ble_eq_true rfl, Nat.le_of_ble_eq_true rfl⟩ (by exact Nat.le_of_ble_eq_true rfl) ⟨Nat.le_trans (Nat.add_le_add_left hcs.1 _) hu.1, Nat.le_trans (Nat.add_le_add_left hcs.2 _) hu.2⟩ dL_law_1366 rfl (fun v9 m1 h9 => ?_) (fun E m1 h9 => by cases h9.1)
  obtain ⟨h90, h91⟩ := h9
  cases h90
  obtain ⟨hb, hX, hta, hM9⟩ := hP m1 h91
  refine g_wide (u.1 + 30, u.2 + 230) (Nat.add_le_add_left hcs.1 _) (Nat.add_le_add_left hcs.2 _) ?_
  refine g_istore 5 [(5, .int (nI (c))), (4, .int (nI (i))), (3, .ref (o)), (2, .ref (a)), (1, .ref (d)), (0, .ref (b))] dL_law_1369 (Nat.le_of_ble_eq_true rfl) rfl ?_
  refine g_aload_n 2 dL_law_1371 rfl rfl ?_
  refine g_aload_n 0 dL_law_1372 rfl rfl ?_
  refine g_iload 4 dL_law_1373 rfl ?_
  refine gN_iconst 1 dL_law_1375 (by decide) ?_
  refine gN_iadd (i + 1) dL_law_1376 rfl ?_
  refine gN_iald19 Ls (hb) (by first | omega | exact b01_lt _) (by first | omega | exact b01_lt _) dL_law_1377 ?_
  refine g_eI (X (i + 1)) (congrFun hX _) ?_
  refine g_callV _ _ hM9 (ok_X10_count _) mlL_168 in_X10_count se_X10_count (by rw [hta]; rfl) rfl rfl ⟨Nat.le_of_ble_eq_true rfl, Nat.le_of_ble_eq_true rfl⟩ (by exact Nat.le_of_ble_eq_true rfl) ⟨hu.1, hu.2⟩ dL_law_1378 rfl (fun v9 m2 h9 => ?_) (fun E m2 h9 => by cases h9.1)
  obtain ⟨h90, h92⟩ := h9
  cases h90
  obtain ⟨hM, hto, h6, hj⟩ := hP2 m1 h91 m2 h92
  refine g_wide (u.1 + 30, u.2 + 230) (Nat.le_refl _) (Nat.le_refl _) ?_
  refine g_istore 6 [(6, .int (v)), (5, .int (nI (c))), (4, .int (nI (i))), (3, .ref (o)), (2, .ref (a)), (1, .ref (d)), (0, .ref (b))] dL_law_1381 (Nat.le_of_ble_eq_true rfl) rfl ?_
  refine g_aload_n 2 dL_law_1383 rfl rfl ?_
  refine gd_callV _ _ _ _ (cn_X10_thrown g (0, 0) hM) ⟨rfl, rfl⟩ (ok_X10_thrown _) mlL_101 in_X10_thrown se_X10_thrown 10 0 (hM.t) rfl rfl rfl ⟨Nat.le_of_ble_eq_true rfl, Nat.le_of_ble_eq_true rfl⟩ (by exact Nat.le_of_ble_eq_true rfl) ⟨hu.1, hu.2⟩ dL_law_1384 rfl ?_
  refine g_ei (nI c) h6 ?_
  refine g_iload 5 dL_law_1387 rfl ?_
  refine gN_icmp_eq 1394 dL_law_1389 (by decide) (by first | omega | exact b01_lt _) (by first | omega | exact b01_lt _) (fun h_1389 => ?_) (fun h_1389 => ?_)
  · refine g_iload 5 dL_law_1394 rfl ?_
    refine gN_if_ne 1411 dL_law_1396 (by decide) (by first | omega | exact b01_lt _) (fun h_1396 => ?_) (fun h_1396 => ?_)
    · refine g_goto 1834 dL_law_1411 (by decide) ?_
      refine g_pick [0, 1, 2, 3, 4, 5, 6] rfl ?_
      exact K m1 h91 m2 h92 _ _
    · refine g_aload_n 3 dL_law_1399 rfl rfl ?_
      refine gN_iconst 0 dL_law_1400 (by decide) ?_
      refine g_lald 0 (by rw [hto]) (by decide) (by rw [hto]; decide) dL_law_1401 ?_
      refine g_eJ (v.toInt64) (hj h_1396) ?_
      refine g_iload 6 dL_law_1402 rfl ?_
      refine g_i2l dL_law_1404 ?_
      refine g_lcmp dL_law_1405 ?_
      refine g_ei (nI (0)) (lg_cmp_s _) ?_
      refine gN_if_eq 1411 dL_law_1406 (by decide) (by first | omega | exact b01_lt _) (fun h_1406 => ?_) (fun h_1406 => ?_)
      · refine g_goto 1834 dL_law_1411 (by decide) ?_
        refine g_pick [0, 1, 2, 3, 4, 5, 6] rfl ?_
        exact K m1 h91 m2 h92 _ _
      · exact absurd h_1406 (by decide)
  · exact absurd rfl h_1389
set_option maxRecDepth 100000 in
theorem op_setting (g : Gp) {m : Mm} {a d o b Ls i c : Nat} {X : Nat → Int32} {v : Int32} {cs : Nat × Nat} {P : Mm → Prop} {P2 : Mm → Mm → Prop} {u : Nat × Nat} {Q : Rs → Mm → Prop} (hi : i + 4 ≤ Ls) (hLs : Ls ≤ 2048) (hb : tg m b = (19, Ls)) (hX : im m b = X)
    (HC : Hn g (ML_setting cs) hhL_setting [.ref d, .int (X (i + 1)), .ref o] m (fun r m1 => r = .inl (some (.int (nI c))) ∧ P m1)) (hcs : cs.1 ≤ 30 ∧ cs.2 ≤ 230) (hc : c ≤ 3)
    (hP : ∀ m1, P m1 → tg m1 b = (19, Ls) ∧ im m1 b = X ∧ tg m1 a = (10, 0) ∧ Cn g (MX10_setting (0, 0)) [.ref a, .int (X (i + 1))] m1 (fun r m2 => r = .inl (some (.int v)) ∧ P2 m1 m2))
    (hP2 : ∀ m1, P m1 → ∀ m2, P2 m1 m2 → MdOk m2 a ∧ tg m2 o = (18, 1) ∧ im m2 a 6 = nI c ∧ (c = 0 → jm m2 o 0 = v.toInt64)) (hu : u.1 + 30 ≤ lw_rc ∧ u.2 + 230 ≤ lw_rs)
    (K : ∀ m1, P m1 → ∀ m2, P2 m1 m2 → ∀ x5 x6 : Int32, G g ML_law Q 1834 [(6, .int x6), (5, .int x5), (4, .int (nI i)), (3, .ref o), (2, .ref a), (1, .ref d), (0, .ref b)] [] (u.1 + 30, u.2 + 230) m2) : G g ML_law Q 1414 [(4, .int (nI (i))), (3, .ref (o)), (2, .ref (a)), (1, .ref (d)), (0, .ref (b))] [] u m := by
  have hi4 := hi
  have hL4 := hLs
  refine g_aload_n 1 dL_law_1414 rfl rfl ?_
  refine g_aload_n 0 dL_law_1415 rfl rfl ?_
  refine g_iload 4 dL_law_1416 rfl ?_
  refine gN_iconst 1 dL_law_1418 (by decide) ?_
  refine gN_iadd (i + 1) dL_law_1419 rfl ?_
  refine gN_iald19 Ls (hb) (by first | omega | exact b01_lt _) (by first | omega | exact b01_lt _) dL_law_1420 ?_
  refine g_eI (X (i + 1)) (congrFun hX _) ?_
  refine g_aload_n 3 dL_law_1421 rfl rfl ?_
  refine g_callH _ _ HC (ok_L_setting _) mlL_169 st_L_setting rfl ⟨Nat.le_of_ble_eq_true rfl, Nat.le_of_ble_eq_true rfl⟩ (by exact Nat.le_of_ble_eq_true rfl) ⟨Nat.le_trans (Nat.add_le_add_left hcs.1 _) hu.1, Nat.le_trans (Nat.add_le_add_left hcs.2 _) hu.2⟩ dL_law_1422 rfl (fun v9 m1 h9 => ?_) (fun E m1 h9 => by cases h9.1)
  obtain ⟨h90, h91⟩ := h9
  cases h90
  obtain ⟨hb, hX, hta, hM9⟩ := hP m1 h91
  refine g_wide (u.1 + 30, u.2 + 230) (Nat.add_le_add_left hcs.1 _) (Nat.add_le_add_left hcs.2 _) ?_
  refine g_istore 5 [(5, .int (nI (c))), (4, .int (nI (i))), (3, .ref (o)), (2, .ref (a)), (1, .ref (d)), (0, .ref (b))] dL_law_1425 (Nat.le_of_ble_eq_true rfl) rfl ?_
  refine g_aload_n 2 dL_law_1427 rfl rfl ?_
  refine g_aload_n 0 dL_law_1428 rfl rfl ?_
  refine g_iload 4 dL_law_1429 rfl ?_
  refine gN_iconst 1 dL_law_1431 (by decide) ?_
  refine gN_iadd (i + 1) dL_law_1432 rfl ?_
  refine gN_iald19 Ls (hb) (by first | omega | exact b01_lt _) (by first | omega | exact b01_lt _) dL_law_1433 ?_
  refine g_eI (X (i + 1)) (congrFun hX _) ?_
  refine g_callV _ _ hM9 (ok_X10_setting _) mlL_171 in_X10_setting se_X10_setting (by rw [hta]; rfl) rfl rfl ⟨Nat.le_of_ble_eq_true rfl, Nat.le_of_ble_eq_true rfl⟩ (by exact Nat.le_of_ble_eq_true rfl) ⟨hu.1, hu.2⟩ dL_law_1434 rfl (fun v9 m2 h9 => ?_) (fun E m2 h9 => by cases h9.1)
  obtain ⟨h90, h92⟩ := h9
  cases h90
  obtain ⟨hM, hto, h6, hj⟩ := hP2 m1 h91 m2 h92
  refine g_wide (u.1 + 30, u.2 + 230) (Nat.le_refl _) (Nat.le_refl _) ?_
  refine g_istore 6 [(6, .int (v)), (5, .int (nI (c))), (4, .int (nI (i))), (3, .ref (o)), (2, .ref (a)), (1, .ref (d)), (0, .ref (b))] dL_law_1437 (Nat.le_of_ble_eq_true rfl) rfl ?_
  refine g_aload_n 2 dL_law_1439 rfl rfl ?_
  refine gd_callV _ _ _ _ (cn_X10_thrown g (0, 0) hM) ⟨rfl, rfl⟩ (ok_X10_thrown _) mlL_101 in_X10_thrown se_X10_thrown 10 0 (hM.t) rfl rfl rfl ⟨Nat.le_of_ble_eq_true rfl, Nat.le_of_ble_eq_true rfl⟩ (by exact Nat.le_of_ble_eq_true rfl) ⟨hu.1, hu.2⟩ dL_law_1440 rfl ?_
  refine g_ei (nI c) h6 ?_
  refine g_iload 5 dL_law_1443 rfl ?_
  refine gN_icmp_eq 1450 dL_law_1445 (by decide) (by first | omega | exact b01_lt _) (by first | omega | exact b01_lt _) (fun h_1445 => ?_) (fun h_1445 => ?_)
  · refine g_iload 5 dL_law_1450 rfl ?_
    refine gN_if_ne 1467 dL_law_1452 (by decide) (by first | omega | exact b01_lt _) (fun h_1452 => ?_) (fun h_1452 => ?_)
    · refine g_goto 1834 dL_law_1467 (by decide) ?_
      refine g_pick [0, 1, 2, 3, 4, 5, 6] rfl ?_
      exact K m1 h91 m2 h92 _ _
    · refine g_aload_n 3 dL_law_1455 rfl rfl ?_
      refine gN_iconst 0 dL_law_1456 (by decide) ?_
      refine g_lald 0 (by rw [hto]) (by decide) (by rw [hto]; decide) dL_law_1457 ?_
      refine g_eJ (v.toInt64) (hj h_1452) ?_
      refine g_iload 6 dL_law_1458 rfl ?_
      refine g_i2l dL_law_1460 ?_
      refine g_lcmp dL_law_1461 ?_
      refine g_ei (nI (0)) (lg_cmp_s _) ?_
      refine gN_if_eq 1467 dL_law_1462 (by decide) (by first | omega | exact b01_lt _) (fun h_1462 => ?_) (fun h_1462 => ?_)
      · refine g_goto 1834 dL_law_1467 (by decide) ?_
        refine g_pick [0, 1, 2, 3, 4, 5, 6] rfl ?_
        exact K m1 h91 m2 h92 _ _
      · exact absurd h_1462 (by decide)
  · exact absurd rfl h_1445
set_option maxRecDepth 100000 in
theorem op_near (g : Gp) {m : Mm} {a d o b Ls i c : Nat} {X : Nat → Int32} {v : Int32} {cs : Nat × Nat} {P : Mm → Prop} {P2 : Mm → Mm → Prop} {u : Nat × Nat} {Q : Rs → Mm → Prop} (hi : i + 4 ≤ Ls) (hLs : Ls ≤ 2048) (hb : tg m b = (19, Ls)) (hX : im m b = X)
    (HC : Hn g (ML_near cs) hhL_near [.ref d, .int (X (i + 1)), .int (X (i + 2)), .int (X (i + 3)), .ref o] m (fun r m1 => r = .inl (some (.int (nI c))) ∧ P m1)) (hcs : cs.1 ≤ 30 ∧ cs.2 ≤ 230) (hc : c ≤ 3)
    (hP : ∀ m1, P m1 → tg m1 b = (19, Ls) ∧ im m1 b = X ∧ tg m1 a = (10, 0) ∧ Cn g (MX10_near (0, 0)) [.ref a, .int (X (i + 1)), .int (X (i + 2)), .int (X (i + 3))] m1 (fun r m2 => r = .inl (some (.int v)) ∧ P2 m1 m2))
    (hP2 : ∀ m1, P m1 → ∀ m2, P2 m1 m2 → MdOk m2 a ∧ tg m2 o = (18, 1) ∧ im m2 a 6 = nI c ∧ (c = 0 → jm m2 o 0 = v.toInt64)) (hu : u.1 + 30 ≤ lw_rc ∧ u.2 + 230 ≤ lw_rs)
    (K : ∀ m1, P m1 → ∀ m2, P2 m1 m2 → ∀ x5 x6 : Int32, G g ML_law Q 1834 [(6, .int x6), (5, .int x5), (4, .int (nI i)), (3, .ref o), (2, .ref a), (1, .ref d), (0, .ref b)] [] (u.1 + 30, u.2 + 230) m2) : G g ML_law Q 1470 [(4, .int (nI (i))), (3, .ref (o)), (2, .ref (a)), (1, .ref (d)), (0, .ref (b))] [] u m := by
  have hi4 := hi
  have hL4 := hLs
  refine g_aload_n 1 dL_law_1470 rfl rfl ?_
  refine g_aload_n 0 dL_law_1471 rfl rfl ?_
  refine g_iload 4 dL_law_1472 rfl ?_
  refine gN_iconst 1 dL_law_1474 (by decide) ?_
  refine gN_iadd (i + 1) dL_law_1475 rfl ?_
  refine gN_iald19 Ls (hb) (by first | omega | exact b01_lt _) (by first | omega | exact b01_lt _) dL_law_1476 ?_
  refine g_eI (X (i + 1)) (congrFun hX _) ?_
  refine g_aload_n 0 dL_law_1477 rfl rfl ?_
  refine g_iload 4 dL_law_1478 rfl ?_
  refine gN_iconst 2 dL_law_1480 (by decide) ?_
  refine gN_iadd (i + 2) dL_law_1481 rfl ?_
  refine gN_iald19 Ls (hb) (by first | omega | exact b01_lt _) (by first | omega | exact b01_lt _) dL_law_1482 ?_
  refine g_eI (X (i + 2)) (congrFun hX _) ?_
  refine g_aload_n 0 dL_law_1483 rfl rfl ?_
  refine g_iload 4 dL_law_1484 rfl ?_
  refine gN_iconst 3 dL_law_1486 (by decide) ?_
  refine gN_iadd (i + 3) dL_law_1487 rfl ?_
  refine gN_iald19 Ls (hb) (by first | omega | exact b01_lt _) (by first | omega | exact b01_lt _) dL_law_1488 ?_
  refine g_eI (X (i + 3)) (congrFun hX _) ?_
  refine g_aload_n 3 dL_law_1489 rfl rfl ?_
  refine g_callH _ _ HC (ok_L_near _) mlL_172 st_L_near rfl ⟨Nat.le_of_ble_eq_true rfl, Nat.le_of_ble_eq_true rfl⟩ (by exact Nat.le_of_ble_eq_true rfl) ⟨Nat.le_trans (Nat.add_le_add_left hcs.1 _) hu.1, Nat.le_trans (Nat.add_le_add_left hcs.2 _) hu.2⟩ dL_law_1490 rfl (fun v9 m1 h9 => ?_) (fun E m1 h9 => by cases h9.1)
  obtain ⟨h90, h91⟩ := h9
  cases h90
  obtain ⟨hb, hX, hta, hM9⟩ := hP m1 h91
  refine g_wide (u.1 + 30, u.2 + 230) (Nat.add_le_add_left hcs.1 _) (Nat.add_le_add_left hcs.2 _) ?_
  refine g_istore 5 [(5, .int (nI (c))), (4, .int (nI (i))), (3, .ref (o)), (2, .ref (a)), (1, .ref (d)), (0, .ref (b))] dL_law_1493 (Nat.le_of_ble_eq_true rfl) rfl ?_
  refine g_aload_n 2 dL_law_1495 rfl rfl ?_
  refine g_aload_n 0 dL_law_1496 rfl rfl ?_
  refine g_iload 4 dL_law_1497 rfl ?_
  refine gN_iconst 1 dL_law_1499 (by decide) ?_
  refine gN_iadd (i + 1) dL_law_1500 rfl ?_
  refine gN_iald19 Ls (hb) (by first | omega | exact b01_lt _) (by first | omega | exact b01_lt _) dL_law_1501 ?_
  refine g_eI (X (i + 1)) (congrFun hX _) ?_
  refine g_aload_n 0 dL_law_1502 rfl rfl ?_
  refine g_iload 4 dL_law_1503 rfl ?_
  refine gN_iconst 2 dL_law_1505 (by decide) ?_
  refine gN_iadd (i + 2) dL_law_1506 rfl ?_
  refine gN_iald19 Ls (hb) (by first | omega | exact b01_lt _) (by first | omega | exact b01_lt _) dL_law_1507 ?_
  refine g_eI (X (i + 2)) (congrFun hX _) ?_
  refine g_aload_n 0 dL_law_1508 rfl rfl ?_
  refine g_iload 4 dL_law_1509 rfl ?_
  refine gN_iconst 3 dL_law_1511 (by decide) ?_
  refine gN_iadd (i + 3) dL_law_1512 rfl ?_
  refine gN_iald19 Ls (hb) (by first | omega | exact b01_lt _) (by first | omega | exact b01_lt _) dL_law_1513 ?_
  refine g_eI (X (i + 3)) (congrFun hX _) ?_
  refine g_callV _ _ hM9 (ok_X10_near _) mlL_174 in_X10_near se_X10_near (by rw [hta]; rfl) rfl rfl ⟨Nat.le_of_ble_eq_true rfl, Nat.le_of_ble_eq_true rfl⟩ (by exact Nat.le_of_ble_eq_true rfl) ⟨hu.1, hu.2⟩ dL_law_1514 rfl (fun v9 m2 h9 => ?_) (fun E m2 h9 => by cases h9.1)
  obtain ⟨h90, h92⟩ := h9
  cases h90
  obtain ⟨hM, hto, h6, hj⟩ := hP2 m1 h91 m2 h92
  refine g_wide (u.1 + 30, u.2 + 230) (Nat.le_refl _) (Nat.le_refl _) ?_
  refine g_istore 6 [(6, .int (v)), (5, .int (nI (c))), (4, .int (nI (i))), (3, .ref (o)), (2, .ref (a)), (1, .ref (d)), (0, .ref (b))] dL_law_1517 (Nat.le_of_ble_eq_true rfl) rfl ?_
  refine g_aload_n 2 dL_law_1519 rfl rfl ?_
  refine gd_callV _ _ _ _ (cn_X10_thrown g (0, 0) hM) ⟨rfl, rfl⟩ (ok_X10_thrown _) mlL_101 in_X10_thrown se_X10_thrown 10 0 (hM.t) rfl rfl rfl ⟨Nat.le_of_ble_eq_true rfl, Nat.le_of_ble_eq_true rfl⟩ (by exact Nat.le_of_ble_eq_true rfl) ⟨hu.1, hu.2⟩ dL_law_1520 rfl ?_
  refine g_ei (nI c) h6 ?_
  refine g_iload 5 dL_law_1523 rfl ?_
  refine gN_icmp_eq 1530 dL_law_1525 (by decide) (by first | omega | exact b01_lt _) (by first | omega | exact b01_lt _) (fun h_1525 => ?_) (fun h_1525 => ?_)
  · refine g_iload 5 dL_law_1530 rfl ?_
    refine gN_if_ne 1547 dL_law_1532 (by decide) (by first | omega | exact b01_lt _) (fun h_1532 => ?_) (fun h_1532 => ?_)
    · refine g_goto 1834 dL_law_1547 (by decide) ?_
      refine g_pick [0, 1, 2, 3, 4, 5, 6] rfl ?_
      exact K m1 h91 m2 h92 _ _
    · refine g_aload_n 3 dL_law_1535 rfl rfl ?_
      refine gN_iconst 0 dL_law_1536 (by decide) ?_
      refine g_lald 0 (by rw [hto]) (by decide) (by rw [hto]; decide) dL_law_1537 ?_
      refine g_eJ (v.toInt64) (hj h_1532) ?_
      refine g_iload 6 dL_law_1538 rfl ?_
      refine g_i2l dL_law_1540 ?_
      refine g_lcmp dL_law_1541 ?_
      refine g_ei (nI (0)) (lg_cmp_s _) ?_
      refine gN_if_eq 1547 dL_law_1542 (by decide) (by first | omega | exact b01_lt _) (fun h_1542 => ?_) (fun h_1542 => ?_)
      · refine g_goto 1834 dL_law_1547 (by decide) ?_
        refine g_pick [0, 1, 2, 3, 4, 5, 6] rfl ?_
        exact K m1 h91 m2 h92 _ _
      · exact absurd h_1542 (by decide)
  · exact absurd rfl h_1525
set_option maxRecDepth 100000 in
theorem op_common (g : Gp) {m : Mm} {a d o b Ls i c : Nat} {X : Nat → Int32} {v : Int32} {cs : Nat × Nat} {P : Mm → Prop} {P2 : Mm → Mm → Prop} {u : Nat × Nat} {Q : Rs → Mm → Prop} (hi : i + 4 ≤ Ls) (hLs : Ls ≤ 2048) (hb : tg m b = (19, Ls)) (hX : im m b = X)
    (HC : Hn g (ML_common cs) hhL_common [.ref d, .int (X (i + 1)), .int (X (i + 2)), .int (X (i + 3)), .ref o] m (fun r m1 => r = .inl (some (.int (nI c))) ∧ P m1)) (hcs : cs.1 ≤ 30 ∧ cs.2 ≤ 230) (hc : c ≤ 3)
    (hP : ∀ m1, P m1 → tg m1 b = (19, Ls) ∧ im m1 b = X ∧ tg m1 a = (10, 0) ∧ Cn g (MX10_common (0, 0)) [.ref a, .int (X (i + 1)), .int (X (i + 2)), .int (X (i + 3))] m1 (fun r m2 => r = .inl (some (.int v)) ∧ P2 m1 m2))
    (hP2 : ∀ m1, P m1 → ∀ m2, P2 m1 m2 → MdOk m2 a ∧ tg m2 o = (18, 1) ∧ im m2 a 6 = nI c ∧ (c = 0 → jm m2 o 0 = v.toInt64)) (hu : u.1 + 30 ≤ lw_rc ∧ u.2 + 230 ≤ lw_rs)
    (K : ∀ m1, P m1 → ∀ m2, P2 m1 m2 → ∀ x5 x6 : Int32, G g ML_law Q 1834 [(6, .int x6), (5, .int x5), (4, .int (nI i)), (3, .ref o), (2, .ref a), (1, .ref d), (0, .ref b)] [] (u.1 + 30, u.2 + 230) m2) : G g ML_law Q 1550 [(4, .int (nI (i))), (3, .ref (o)), (2, .ref (a)), (1, .ref (d)), (0, .ref (b))] [] u m := by
  have hi4 := hi
  have hL4 := hLs
  refine g_aload_n 1 dL_law_1550 rfl rfl ?_
  refine g_aload_n 0 dL_law_1551 rfl rfl ?_
  refine g_iload 4 dL_law_1552 rfl ?_
  refine gN_iconst 1 dL_law_1554 (by decide) ?_
  refine gN_iadd (i + 1) dL_law_1555 rfl ?_
  refine gN_iald19 Ls (hb) (by first | omega | exact b01_lt _) (by first | omega | exact b01_lt _) dL_law_1556 ?_
  refine g_eI (X (i + 1)) (congrFun hX _) ?_
  refine g_aload_n 0 dL_law_1557 rfl rfl ?_
  refine g_iload 4 dL_law_1558 rfl ?_
  refine gN_iconst 2 dL_law_1560 (by decide) ?_
  refine gN_iadd (i + 2) dL_law_1561 rfl ?_
  refine gN_iald19 Ls (hb) (by first | omega | exact b01_lt _) (by first | omega | exact b01_lt _) dL_law_1562 ?_
  refine g_eI (X (i + 2)) (congrFun hX _) ?_
  refine g_aload_n 0 dL_law_1563 rfl rfl ?_
  refine g_iload 4 dL_law_1564 rfl ?_
  refine gN_iconst 3 dL_law_1566 (by decide) ?_
  refine gN_iadd (i + 3) dL_law_1567 rfl ?_
  refine gN_iald19 Ls (hb) (by first | omega | exact b01_lt _) (by first | omega | exact b01_lt _) dL_law_1568 ?_
  refine g_eI (X (i + 3)) (congrFun hX _) ?_
  refine g_aload_n 3 dL_law_1569 rfl rfl ?_
  refine g_callH _ _ HC (ok_L_common _) mlL_175 st_L_common rfl ⟨Nat.le_of_ble_eq_true rfl, Nat.le_of_ble_eq_true rfl⟩ (by exact Nat.le_of_ble_eq_true rfl) ⟨Nat.le_trans (Nat.add_le_add_left hcs.1 _) hu.1, Nat.le_trans (Nat.add_le_add_left hcs.2 _) hu.2⟩ dL_law_1570 rfl (fun v9 m1 h9 => ?_) (fun E m1 h9 => by cases h9.1)
  obtain ⟨h90, h91⟩ := h9
  cases h90
  obtain ⟨hb, hX, hta, hM9⟩ := hP m1 h91
  refine g_wide (u.1 + 30, u.2 + 230) (Nat.add_le_add_left hcs.1 _) (Nat.add_le_add_left hcs.2 _) ?_
  refine g_istore 5 [(5, .int (nI (c))), (4, .int (nI (i))), (3, .ref (o)), (2, .ref (a)), (1, .ref (d)), (0, .ref (b))] dL_law_1573 (Nat.le_of_ble_eq_true rfl) rfl ?_
  refine g_aload_n 2 dL_law_1575 rfl rfl ?_
  refine g_aload_n 0 dL_law_1576 rfl rfl ?_
  refine g_iload 4 dL_law_1577 rfl ?_
  refine gN_iconst 1 dL_law_1579 (by decide) ?_
  refine gN_iadd (i + 1) dL_law_1580 rfl ?_
  refine gN_iald19 Ls (hb) (by first | omega | exact b01_lt _) (by first | omega | exact b01_lt _) dL_law_1581 ?_
  refine g_eI (X (i + 1)) (congrFun hX _) ?_
  refine g_aload_n 0 dL_law_1582 rfl rfl ?_
  refine g_iload 4 dL_law_1583 rfl ?_
  refine gN_iconst 2 dL_law_1585 (by decide) ?_
  refine gN_iadd (i + 2) dL_law_1586 rfl ?_
  refine gN_iald19 Ls (hb) (by first | omega | exact b01_lt _) (by first | omega | exact b01_lt _) dL_law_1587 ?_
  refine g_eI (X (i + 2)) (congrFun hX _) ?_
  refine g_aload_n 0 dL_law_1588 rfl rfl ?_
  refine g_iload 4 dL_law_1589 rfl ?_
  refine gN_iconst 3 dL_law_1591 (by decide) ?_
  refine gN_iadd (i + 3) dL_law_1592 rfl ?_
  refine gN_iald19 Ls (hb) (by first | omega | exact b01_lt _) (by first | omega | exact b01_lt _) dL_law_1593 ?_
  refine g_eI (X (i + 3)) (congrFun hX _) ?_
  refine g_callV _ _ hM9 (ok_X10_common _) mlL_177 in_X10_common se_X10_common (by rw [hta]; rfl) rfl rfl ⟨Nat.le_of_ble_eq_true rfl, Nat.le_of_ble_eq_true rfl⟩ (by exact Nat.le_of_ble_eq_true rfl) ⟨hu.1, hu.2⟩ dL_law_1594 rfl (fun v9 m2 h9 => ?_) (fun E m2 h9 => by cases h9.1)
  obtain ⟨h90, h92⟩ := h9
  cases h90
  obtain ⟨hM, hto, h6, hj⟩ := hP2 m1 h91 m2 h92
  refine g_wide (u.1 + 30, u.2 + 230) (Nat.le_refl _) (Nat.le_refl _) ?_
  refine g_istore 6 [(6, .int (v)), (5, .int (nI (c))), (4, .int (nI (i))), (3, .ref (o)), (2, .ref (a)), (1, .ref (d)), (0, .ref (b))] dL_law_1597 (Nat.le_of_ble_eq_true rfl) rfl ?_
  refine g_aload_n 2 dL_law_1599 rfl rfl ?_
  refine gd_callV _ _ _ _ (cn_X10_thrown g (0, 0) hM) ⟨rfl, rfl⟩ (ok_X10_thrown _) mlL_101 in_X10_thrown se_X10_thrown 10 0 (hM.t) rfl rfl rfl ⟨Nat.le_of_ble_eq_true rfl, Nat.le_of_ble_eq_true rfl⟩ (by exact Nat.le_of_ble_eq_true rfl) ⟨hu.1, hu.2⟩ dL_law_1600 rfl ?_
  refine g_ei (nI c) h6 ?_
  refine g_iload 5 dL_law_1603 rfl ?_
  refine gN_icmp_eq 1610 dL_law_1605 (by decide) (by first | omega | exact b01_lt _) (by first | omega | exact b01_lt _) (fun h_1605 => ?_) (fun h_1605 => ?_)
  · refine g_iload 5 dL_law_1610 rfl ?_
    refine gN_if_ne 1627 dL_law_1612 (by decide) (by first | omega | exact b01_lt _) (fun h_1612 => ?_) (fun h_1612 => ?_)
    · refine g_goto 1834 dL_law_1627 (by decide) ?_
      refine g_pick [0, 1, 2, 3, 4, 5, 6] rfl ?_
      exact K m1 h91 m2 h92 _ _
    · refine g_aload_n 3 dL_law_1615 rfl rfl ?_
      refine gN_iconst 0 dL_law_1616 (by decide) ?_
      refine g_lald 0 (by rw [hto]) (by decide) (by rw [hto]; decide) dL_law_1617 ?_
      refine g_eJ (v.toInt64) (hj h_1612) ?_
      refine g_iload 6 dL_law_1618 rfl ?_
      refine g_i2l dL_law_1620 ?_
      refine g_lcmp dL_law_1621 ?_
      refine g_ei (nI (0)) (lg_cmp_s _) ?_
      refine gN_if_eq 1627 dL_law_1622 (by decide) (by first | omega | exact b01_lt _) (fun h_1622 => ?_) (fun h_1622 => ?_)
      · refine g_goto 1834 dL_law_1627 (by decide) ?_
        refine g_pick [0, 1, 2, 3, 4, 5, 6] rfl ?_
        exact K m1 h91 m2 h92 _ _
      · exact absurd h_1622 (by decide)
  · exact absurd rfl h_1605
set_option maxRecDepth 100000 in
theorem op_ifPaid (g : Gp) {m : Mm} {a d o b Ls i c : Nat} {X : Nat → Int32} {v : Int32} {cs : Nat × Nat} {P : Mm → Prop} {P2 : Mm → Mm → Prop} {u : Nat × Nat} {Q : Rs → Mm → Prop} (hi : i + 4 ≤ Ls) (hLs : Ls ≤ 2048) (hb : tg m b = (19, Ls)) (hX : im m b = X)
    (HC : Hn g (ML_ifPaid cs) hhL_ifPaid [.ref d, .int (X (i + 1)), .int (X (i + 2)), .ref o] m (fun r m1 => r = .inl (some (.int (nI c))) ∧ P m1)) (hcs : cs.1 ≤ 30 ∧ cs.2 ≤ 230) (hc : c ≤ 3)
    (hP : ∀ m1, P m1 → tg m1 b = (19, Ls) ∧ im m1 b = X ∧ tg m1 a = (10, 0) ∧ Cn g (MX10_ifPaid (0, 0)) [.ref a, .int (X (i + 1)), .int (X (i + 2))] m1 (fun r m2 => r = .inl (some (.int v)) ∧ P2 m1 m2))
    (hP2 : ∀ m1, P m1 → ∀ m2, P2 m1 m2 → MdOk m2 a ∧ tg m2 o = (18, 1) ∧ im m2 a 6 = nI c ∧ (c = 0 → jm m2 o 0 = v.toInt64)) (hu : u.1 + 30 ≤ lw_rc ∧ u.2 + 230 ≤ lw_rs)
    (K : ∀ m1, P m1 → ∀ m2, P2 m1 m2 → ∀ x5 x6 : Int32, G g ML_law Q 1834 [(6, .int x6), (5, .int x5), (4, .int (nI i)), (3, .ref o), (2, .ref a), (1, .ref d), (0, .ref b)] [] (u.1 + 30, u.2 + 230) m2) : G g ML_law Q 1630 [(4, .int (nI (i))), (3, .ref (o)), (2, .ref (a)), (1, .ref (d)), (0, .ref (b))] [] u m := by
  have hi4 := hi
  have hL4 := hLs
  refine g_aload_n 1 dL_law_1630 rfl rfl ?_
  refine g_aload_n 0 dL_law_1631 rfl rfl ?_
  refine g_iload 4 dL_law_1632 rfl ?_
  refine gN_iconst 1 dL_law_1634 (by decide) ?_
  refine gN_iadd (i + 1) dL_law_1635 rfl ?_
  refine gN_iald19 Ls (hb) (by first | omega | exact b01_lt _) (by first | omega | exact b01_lt _) dL_law_1636 ?_
  refine g_eI (X (i + 1)) (congrFun hX _) ?_
  refine g_aload_n 0 dL_law_1637 rfl rfl ?_
  refine g_iload 4 dL_law_1638 rfl ?_
  refine gN_iconst 2 dL_law_1640 (by decide) ?_
  refine gN_iadd (i + 2) dL_law_1641 rfl ?_
  refine gN_iald19 Ls (hb) (by first | omega | exact b01_lt _) (by first | omega | exact b01_lt _) dL_law_1642 ?_
  refine g_eI (X (i + 2)) (congrFun hX _) ?_
  refine g_aload_n 3 dL_law_1643 rfl rfl ?_
  refine g_callH _ _ HC (ok_L_ifPaid _) mlL_178 st_L_ifPaid rfl ⟨Nat.le_of_ble_eq_true rfl, Nat.le_of_ble_eq_true rfl⟩ (by exact Nat.le_of_ble_eq_true rfl) ⟨Nat.le_trans (Nat.add_le_add_left hcs.1 _) hu.1, Nat.le_trans (Nat.add_le_add_left hcs.2 _) hu.2⟩ dL_law_1644 rfl (fun v9 m1 h9 => ?_) (fun E m1 h9 => by cases h9.1)
  obtain ⟨h90, h91⟩ := h9
  cases h90
  obtain ⟨hb, hX, hta, hM9⟩ := hP m1 h91
  refine g_wide (u.1 + 30, u.2 + 230) (Nat.add_le_add_left hcs.1 _) (Nat.add_le_add_left hcs.2 _) ?_
  refine g_istore 5 [(5, .int (nI (c))), (4, .int (nI (i))), (3, .ref (o)), (2, .ref (a)), (1, .ref (d)), (0, .ref (b))] dL_law_1647 (Nat.le_of_ble_eq_true rfl) rfl ?_
  refine g_aload_n 2 dL_law_1649 rfl rfl ?_
  refine g_aload_n 0 dL_law_1650 rfl rfl ?_
  refine g_iload 4 dL_law_1651 rfl ?_
  refine gN_iconst 1 dL_law_1653 (by decide) ?_
  refine gN_iadd (i + 1) dL_law_1654 rfl ?_
  refine gN_iald19 Ls (hb) (by first | omega | exact b01_lt _) (by first | omega | exact b01_lt _) dL_law_1655 ?_
  refine g_eI (X (i + 1)) (congrFun hX _) ?_
  refine g_aload_n 0 dL_law_1656 rfl rfl ?_
  refine g_iload 4 dL_law_1657 rfl ?_
  refine gN_iconst 2 dL_law_1659 (by decide) ?_
  refine gN_iadd (i + 2) dL_law_1660 rfl ?_
  refine gN_iald19 Ls (hb) (by first | omega | exact b01_lt _) (by first | omega | exact b01_lt _) dL_law_1661 ?_
  refine g_eI (X (i + 2)) (congrFun hX _) ?_
  refine g_callV _ _ hM9 (ok_X10_ifPaid _) mlL_180 in_X10_ifPaid se_X10_ifPaid (by rw [hta]; rfl) rfl rfl ⟨Nat.le_of_ble_eq_true rfl, Nat.le_of_ble_eq_true rfl⟩ (by exact Nat.le_of_ble_eq_true rfl) ⟨hu.1, hu.2⟩ dL_law_1662 rfl (fun v9 m2 h9 => ?_) (fun E m2 h9 => by cases h9.1)
  obtain ⟨h90, h92⟩ := h9
  cases h90
  obtain ⟨hM, hto, h6, hj⟩ := hP2 m1 h91 m2 h92
  refine g_wide (u.1 + 30, u.2 + 230) (Nat.le_refl _) (Nat.le_refl _) ?_
  refine g_istore 6 [(6, .int (v)), (5, .int (nI (c))), (4, .int (nI (i))), (3, .ref (o)), (2, .ref (a)), (1, .ref (d)), (0, .ref (b))] dL_law_1665 (Nat.le_of_ble_eq_true rfl) rfl ?_
  refine g_aload_n 2 dL_law_1667 rfl rfl ?_
  refine gd_callV _ _ _ _ (cn_X10_thrown g (0, 0) hM) ⟨rfl, rfl⟩ (ok_X10_thrown _) mlL_101 in_X10_thrown se_X10_thrown 10 0 (hM.t) rfl rfl rfl ⟨Nat.le_of_ble_eq_true rfl, Nat.le_of_ble_eq_true rfl⟩ (by exact Nat.le_of_ble_eq_true rfl) ⟨hu.1, hu.2⟩ dL_law_1668 rfl ?_
  refine g_ei (nI c) h6 ?_
  refine g_iload 5 dL_law_1671 rfl ?_
  refine gN_icmp_eq 1678 dL_law_1673 (by decide) (by first | omega | exact b01_lt _) (by first | omega | exact b01_lt _) (fun h_1673 => ?_) (fun h_1673 => ?_)
  · refine g_iload 5 dL_law_1678 rfl ?_
    refine gN_if_ne 1695 dL_law_1680 (by decide) (by first | omega | exact b01_lt _) (fun h_1680 => ?_) (fun h_1680 => ?_)
    · refine g_goto 1834 dL_law_1695 (by decide) ?_
      refine g_pick [0, 1, 2, 3, 4, 5, 6] rfl ?_
      exact K m1 h91 m2 h92 _ _
    · refine g_aload_n 3 dL_law_1683 rfl rfl ?_
      refine gN_iconst 0 dL_law_1684 (by decide) ?_
      refine g_lald 0 (by rw [hto]) (by decide) (by rw [hto]; decide) dL_law_1685 ?_
      refine g_eJ (v.toInt64) (hj h_1680) ?_
      refine g_iload 6 dL_law_1686 rfl ?_
      refine g_i2l dL_law_1688 ?_
      refine g_lcmp dL_law_1689 ?_
      refine g_ei (nI (0)) (lg_cmp_s _) ?_
      refine gN_if_eq 1695 dL_law_1690 (by decide) (by first | omega | exact b01_lt _) (fun h_1690 => ?_) (fun h_1690 => ?_)
      · refine g_goto 1834 dL_law_1695 (by decide) ?_
        refine g_pick [0, 1, 2, 3, 4, 5, 6] rfl ?_
        exact K m1 h91 m2 h92 _ _
      · exact absurd h_1690 (by decide)
  · exact absurd rfl h_1673
set_option maxRecDepth 100000 in
theorem op_orderMatters (g : Gp) {m : Mm} {a d o b Ls i c : Nat} {X : Nat → Int32} {v : Int32} {cs : Nat × Nat} {P : Mm → Prop} {P2 : Mm → Mm → Prop} {u : Nat × Nat} {Q : Rs → Mm → Prop} (hi : i + 4 ≤ Ls) (hLs : Ls ≤ 2048) (hb : tg m b = (19, Ls)) (hX : im m b = X)
    (HC : Hn g (ML_orderMatters cs) hhL_orderMatters [.ref d, .int (X (i + 1)), .int (X (i + 2)), .ref o] m (fun r m1 => r = .inl (some (.int (nI c))) ∧ P m1)) (hcs : cs.1 ≤ 30 ∧ cs.2 ≤ 230) (hc : c ≤ 3)
    (hP : ∀ m1, P m1 → tg m1 b = (19, Ls) ∧ im m1 b = X ∧ tg m1 a = (10, 0) ∧ Cn g (MX10_orderMatters (0, 0)) [.ref a, .int (X (i + 1)), .int (X (i + 2))] m1 (fun r m2 => r = .inl (some (.int v)) ∧ P2 m1 m2))
    (hP2 : ∀ m1, P m1 → ∀ m2, P2 m1 m2 → MdOk m2 a ∧ tg m2 o = (18, 1) ∧ im m2 a 6 = nI c ∧ (c = 0 → jm m2 o 0 = v.toInt64)) (hu : u.1 + 30 ≤ lw_rc ∧ u.2 + 230 ≤ lw_rs)
    (K : ∀ m1, P m1 → ∀ m2, P2 m1 m2 → ∀ x5 x6 : Int32, G g ML_law Q 1834 [(6, .int x6), (5, .int x5), (4, .int (nI i)), (3, .ref o), (2, .ref a), (1, .ref d), (0, .ref b)] [] (u.1 + 30, u.2 + 230) m2) : G g ML_law Q 1698 [(4, .int (nI (i))), (3, .ref (o)), (2, .ref (a)), (1, .ref (d)), (0, .ref (b))] [] u m := by
  have hi4 := hi
  have hL4 := hLs
  refine g_aload_n 1 dL_law_1698 rfl rfl ?_
  refine g_aload_n 0 dL_law_1699 rfl rfl ?_
  refine g_iload 4 dL_law_1700 rfl ?_
  refine gN_iconst 1 dL_law_1702 (by decide) ?_
  refine gN_iadd (i + 1) dL_law_1703 rfl ?_
  refine gN_iald19 Ls (hb) (by first | omega | exact b01_lt _) (by first | omega | exact b01_lt _) dL_law_1704 ?_
  refine g_eI (X (i + 1)) (congrFun hX _) ?_
  refine g_aload_n 0 dL_law_1705 rfl rfl ?_
  refine g_iload 4 dL_law_1706 rfl ?_
  refine gN_iconst 2 dL_law_1708 (by decide) ?_
  refine gN_iadd (i + 2) dL_law_1709 rfl ?_
  refine gN_iald19 Ls (hb) (by first | omega | exact b01_lt _) (by first | omega | exact b01_lt _) dL_law_1710 ?_
  refine g_eI (X (i + 2)) (congrFun hX _) ?_
  refine g_aload_n 3 dL_law_1711 rfl rfl ?_
  refine g_callH _ _ HC (ok_L_orderMatters _) mlL_181 st_L_orderMatters rfl ⟨Nat.le_of_ble_eq_true rfl, Nat.le_of_ble_eq_true rfl⟩ (by exact Nat.le_of_ble_eq_true rfl) ⟨Nat.le_trans (Nat.add_le_add_left hcs.1 _) hu.1, Nat.le_trans (Nat.add_le_add_left hcs.2 _) hu.2⟩ dL_law_1712 rfl (fun v9 m1 h9 => ?_) (fun E m1 h9 => by cases h9.1)
  obtain ⟨h90, h91⟩ := h9
  cases h90
  obtain ⟨hb, hX, hta, hM9⟩ := hP m1 h91
  refine g_wide (u.1 + 30, u.2 + 230) (Nat.add_le_add_left hcs.1 _) (Nat.add_le_add_left hcs.2 _) ?_
  refine g_istore 5 [(5, .int (nI (c))), (4, .int (nI (i))), (3, .ref (o)), (2, .ref (a)), (1, .ref (d)), (0, .ref (b))] dL_law_1715 (Nat.le_of_ble_eq_true rfl) rfl ?_
  refine g_aload_n 2 dL_law_1717 rfl rfl ?_
  refine g_aload_n 0 dL_law_1718 rfl rfl ?_
  refine g_iload 4 dL_law_1719 rfl ?_
  refine gN_iconst 1 dL_law_1721 (by decide) ?_
  refine gN_iadd (i + 1) dL_law_1722 rfl ?_
  refine gN_iald19 Ls (hb) (by first | omega | exact b01_lt _) (by first | omega | exact b01_lt _) dL_law_1723 ?_
  refine g_eI (X (i + 1)) (congrFun hX _) ?_
  refine g_aload_n 0 dL_law_1724 rfl rfl ?_
  refine g_iload 4 dL_law_1725 rfl ?_
  refine gN_iconst 2 dL_law_1727 (by decide) ?_
  refine gN_iadd (i + 2) dL_law_1728 rfl ?_
  refine gN_iald19 Ls (hb) (by first | omega | exact b01_lt _) (by first | omega | exact b01_lt _) dL_law_1729 ?_
  refine g_eI (X (i + 2)) (congrFun hX _) ?_
  refine g_callV _ _ hM9 (ok_X10_orderMatters _) mlL_183 in_X10_orderMatters se_X10_orderMatters (by rw [hta]; rfl) rfl rfl ⟨Nat.le_of_ble_eq_true rfl, Nat.le_of_ble_eq_true rfl⟩ (by exact Nat.le_of_ble_eq_true rfl) ⟨hu.1, hu.2⟩ dL_law_1730 rfl (fun v9 m2 h9 => ?_) (fun E m2 h9 => by cases h9.1)
  obtain ⟨h90, h92⟩ := h9
  cases h90
  obtain ⟨hM, hto, h6, hj⟩ := hP2 m1 h91 m2 h92
  refine g_wide (u.1 + 30, u.2 + 230) (Nat.le_refl _) (Nat.le_refl _) ?_
  refine g_istore 6 [(6, .int (v)), (5, .int (nI (c))), (4, .int (nI (i))), (3, .ref (o)), (2, .ref (a)), (1, .ref (d)), (0, .ref (b))] dL_law_1733 (Nat.le_of_ble_eq_true rfl) rfl ?_
  refine g_aload_n 2 dL_law_1735 rfl rfl ?_
  refine gd_callV _ _ _ _ (cn_X10_thrown g (0, 0) hM) ⟨rfl, rfl⟩ (ok_X10_thrown _) mlL_101 in_X10_thrown se_X10_thrown 10 0 (hM.t) rfl rfl rfl ⟨Nat.le_of_ble_eq_true rfl, Nat.le_of_ble_eq_true rfl⟩ (by exact Nat.le_of_ble_eq_true rfl) ⟨hu.1, hu.2⟩ dL_law_1736 rfl ?_
  refine g_ei (nI c) h6 ?_
  refine g_iload 5 dL_law_1739 rfl ?_
  refine gN_icmp_eq 1746 dL_law_1741 (by decide) (by first | omega | exact b01_lt _) (by first | omega | exact b01_lt _) (fun h_1741 => ?_) (fun h_1741 => ?_)
  · refine g_iload 5 dL_law_1746 rfl ?_
    refine gN_if_ne 1763 dL_law_1748 (by decide) (by first | omega | exact b01_lt _) (fun h_1748 => ?_) (fun h_1748 => ?_)
    · refine g_goto 1834 dL_law_1763 (by decide) ?_
      refine g_pick [0, 1, 2, 3, 4, 5, 6] rfl ?_
      exact K m1 h91 m2 h92 _ _
    · refine g_aload_n 3 dL_law_1751 rfl rfl ?_
      refine gN_iconst 0 dL_law_1752 (by decide) ?_
      refine g_lald 0 (by rw [hto]) (by decide) (by rw [hto]; decide) dL_law_1753 ?_
      refine g_eJ (v.toInt64) (hj h_1748) ?_
      refine g_iload 6 dL_law_1754 rfl ?_
      refine g_i2l dL_law_1756 ?_
      refine g_lcmp dL_law_1757 ?_
      refine g_ei (nI (0)) (lg_cmp_s _) ?_
      refine gN_if_eq 1763 dL_law_1758 (by decide) (by first | omega | exact b01_lt _) (fun h_1758 => ?_) (fun h_1758 => ?_)
      · refine g_goto 1834 dL_law_1763 (by decide) ?_
        refine g_pick [0, 1, 2, 3, 4, 5, 6] rfl ?_
        exact K m1 h91 m2 h92 _ _
      · exact absurd h_1758 (by decide)
  · exact absurd rfl h_1741
set_option maxRecDepth 100000 in
theorem op_clearBuffer (g : Gp) {m : Mm} {a d o b i : Nat} {v : Int32} {P : Mm → Prop} {P2 : Mm → Mm → Prop} {u : Nat × Nat} {Q : Rs → Mm → Prop} (htd : tg m d = (9, 0))
    (HC : Cn g (MX9_clearBuffer (0, 0)) [.ref d] m (fun r m1 => r = .inl (some (.int v)) ∧ P m1))
    (hP : ∀ m1, P m1 → tg m1 a = (10, 0) ∧ Cn g (MX10_clearBuffer (0, 0)) [.ref a] m1 (fun r m2 => r = .inl (some (.int v)) ∧ P2 m1 m2)) (hu : u.1 + 30 ≤ lw_rc ∧ u.2 + 230 ≤ lw_rs)
    (K : ∀ m1, P m1 → ∀ m2, P2 m1 m2 → G g ML_law Q 1834 [(4, .int (nI (i))), (3, .ref (o)), (2, .ref (a)), (1, .ref (d)), (0, .ref (b))] [] (u.1 + 30, u.2 + 230) m2) : G g ML_law Q 780 [(4, .int (nI (i))), (3, .ref (o)), (2, .ref (a)), (1, .ref (d)), (0, .ref (b))] [] u m := by
  refine g_aload_n 1 dL_law_780 rfl rfl ?_
  refine g_callV _ _ HC (ok_X9_clearBuffer _) mlL_130 in_X9_clearBuffer se_X9_clearBuffer (by rw [htd]; rfl) rfl rfl ⟨Nat.le_of_ble_eq_true rfl, Nat.le_of_ble_eq_true rfl⟩ (by exact Nat.le_of_ble_eq_true rfl) ⟨Nat.le_trans (Nat.le_add_right _ 30) hu.1, Nat.le_trans (Nat.le_add_right _ 230) hu.2⟩ dL_law_781 rfl (fun v9 m1 h9 => ?_) (fun E m1 h9 => by cases h9.1)
  obtain ⟨h90, h91⟩ := h9
  cases h90
  obtain ⟨hta, hM9⟩ := hP m1 h91
  refine g_wide (u.1 + 30, u.2 + 230) (Nat.le_add_right _ _) (Nat.le_add_right _ _) ?_
  refine g_aload_n 2 dL_law_784 rfl rfl ?_
  refine g_callV _ _ hM9 (ok_X10_clearBuffer _) mlL_133 in_X10_clearBuffer se_X10_clearBuffer (by rw [hta]; rfl) rfl rfl ⟨Nat.le_of_ble_eq_true rfl, Nat.le_of_ble_eq_true rfl⟩ (by exact Nat.le_of_ble_eq_true rfl) ⟨hu.1, hu.2⟩ dL_law_785 rfl (fun v9 m2 h9 => ?_) (fun E m2 h9 => by cases h9.1)
  obtain ⟨h90, h92⟩ := h9
  cases h90
  refine g_wide (u.1 + 30, u.2 + 230) (Nat.le_refl _) (Nat.le_refl _) ?_
  refine g_icmp_eq 1834 dL_law_788 (by decide) (fun h_788 => ?_) (fun h_788 => ?_)
  · refine g_pick [0, 1, 2, 3, 4] rfl ?_
    exact K m1 h91 m2 h92
  · exact absurd rfl h_788
set_option maxRecDepth 100000 in
theorem op_firstError (g : Gp) {m : Mm} {a d o b i : Nat} {v : Int32} {P : Mm → Prop} {P2 : Mm → Mm → Prop} {u : Nat × Nat} {Q : Rs → Mm → Prop} (htd : tg m d = (9, 0))
    (HC : Cn g (MX9_firstError (0, 0)) [.ref d] m (fun r m1 => r = .inl (some (.int v)) ∧ P m1))
    (hP : ∀ m1, P m1 → tg m1 a = (10, 0) ∧ Cn g (MX10_firstError (0, 0)) [.ref a] m1 (fun r m2 => r = .inl (some (.int v)) ∧ P2 m1 m2)) (hu : u.1 + 30 ≤ lw_rc ∧ u.2 + 230 ≤ lw_rs)
    (K : ∀ m1, P m1 → ∀ m2, P2 m1 m2 → G g ML_law Q 1834 [(4, .int (nI (i))), (3, .ref (o)), (2, .ref (a)), (1, .ref (d)), (0, .ref (b))] [] (u.1 + 30, u.2 + 230) m2) : G g ML_law Q 793 [(4, .int (nI (i))), (3, .ref (o)), (2, .ref (a)), (1, .ref (d)), (0, .ref (b))] [] u m := by
  refine g_aload_n 1 dL_law_793 rfl rfl ?_
  refine g_callV _ _ HC (ok_X9_firstError _) mlL_134 in_X9_firstError se_X9_firstError (by rw [htd]; rfl) rfl rfl ⟨Nat.le_of_ble_eq_true rfl, Nat.le_of_ble_eq_true rfl⟩ (by exact Nat.le_of_ble_eq_true rfl) ⟨Nat.le_trans (Nat.le_add_right _ 30) hu.1, Nat.le_trans (Nat.le_add_right _ 230) hu.2⟩ dL_law_794 rfl (fun v9 m1 h9 => ?_) (fun E m1 h9 => by cases h9.1)
  obtain ⟨h90, h91⟩ := h9
  cases h90
  obtain ⟨hta, hM9⟩ := hP m1 h91
  refine g_wide (u.1 + 30, u.2 + 230) (Nat.le_add_right _ _) (Nat.le_add_right _ _) ?_
  refine g_aload_n 2 dL_law_797 rfl rfl ?_
  refine g_callV _ _ hM9 (ok_X10_firstError _) mlL_137 in_X10_firstError se_X10_firstError (by rw [hta]; rfl) rfl rfl ⟨Nat.le_of_ble_eq_true rfl, Nat.le_of_ble_eq_true rfl⟩ (by exact Nat.le_of_ble_eq_true rfl) ⟨hu.1, hu.2⟩ dL_law_798 rfl (fun v9 m2 h9 => ?_) (fun E m2 h9 => by cases h9.1)
  obtain ⟨h90, h92⟩ := h9
  cases h90
  refine g_wide (u.1 + 30, u.2 + 230) (Nat.le_refl _) (Nat.le_refl _) ?_
  refine g_icmp_eq 1834 dL_law_801 (by decide) (fun h_801 => ?_) (fun h_801 => ?_)
  · refine g_pick [0, 1, 2, 3, 4] rfl ?_
    exact K m1 h91 m2 h92
  · exact absurd rfl h_801
set_option maxRecDepth 100000 in
theorem op_saved (g : Gp) {m : Mm} {a d o b i : Nat} {v : Int32} {P : Mm → Prop} {P2 : Mm → Mm → Prop} {u : Nat × Nat} {Q : Rs → Mm → Prop} (htd : tg m d = (9, 0))
    (HC : Cn g (MX9_saved (0, 0)) [.ref d] m (fun r m1 => r = .inl (some (.int v)) ∧ P m1))
    (hP : ∀ m1, P m1 → tg m1 a = (10, 0) ∧ Cn g (MX10_saved (0, 0)) [.ref a] m1 (fun r m2 => r = .inl (some (.int v)) ∧ P2 m1 m2)) (hu : u.1 + 30 ≤ lw_rc ∧ u.2 + 230 ≤ lw_rs)
    (K : ∀ m1, P m1 → ∀ m2, P2 m1 m2 → G g ML_law Q 1834 [(4, .int (nI (i))), (3, .ref (o)), (2, .ref (a)), (1, .ref (d)), (0, .ref (b))] [] (u.1 + 30, u.2 + 230) m2) : G g ML_law Q 1766 [(4, .int (nI (i))), (3, .ref (o)), (2, .ref (a)), (1, .ref (d)), (0, .ref (b))] [] u m := by
  refine g_aload_n 1 dL_law_1766 rfl rfl ?_
  refine g_callV _ _ HC (ok_X9_saved _) mlL_184 in_X9_saved se_X9_saved (by rw [htd]; rfl) rfl rfl ⟨Nat.le_of_ble_eq_true rfl, Nat.le_of_ble_eq_true rfl⟩ (by exact Nat.le_of_ble_eq_true rfl) ⟨Nat.le_trans (Nat.le_add_right _ 30) hu.1, Nat.le_trans (Nat.le_add_right _ 230) hu.2⟩ dL_law_1767 rfl (fun v9 m1 h9 => ?_) (fun E m1 h9 => by cases h9.1)
  obtain ⟨h90, h91⟩ := h9
  cases h90
  obtain ⟨hta, hM9⟩ := hP m1 h91
  refine g_wide (u.1 + 30, u.2 + 230) (Nat.le_add_right _ _) (Nat.le_add_right _ _) ?_
  refine g_aload_n 2 dL_law_1770 rfl rfl ?_
  refine g_callV _ _ hM9 (ok_X10_saved _) mlL_187 in_X10_saved se_X10_saved (by rw [hta]; rfl) rfl rfl ⟨Nat.le_of_ble_eq_true rfl, Nat.le_of_ble_eq_true rfl⟩ (by exact Nat.le_of_ble_eq_true rfl) ⟨hu.1, hu.2⟩ dL_law_1771 rfl (fun v9 m2 h9 => ?_) (fun E m2 h9 => by cases h9.1)
  obtain ⟨h90, h92⟩ := h9
  cases h90
  refine g_wide (u.1 + 30, u.2 + 230) (Nat.le_refl _) (Nat.le_refl _) ?_
  refine g_icmp_eq 1834 dL_law_1774 (by decide) (fun h_1774 => ?_) (fun h_1774 => ?_)
  · refine g_pick [0, 1, 2, 3, 4] rfl ?_
    exact K m1 h91 m2 h92
  · exact absurd rfl h_1774
