/-! THE LAW: its walk over the script -/
section Lwi
variable {xs : List Int32} {d m2 n k i : Nat} {hs : List (Nat × Nat)} {tt : ab_T} {rr : List ab_I} {qq : Nat × Nat × Nat} {Lc st : List Value} {σ M : Nat → Nat → Nat} {μ : Nat → Nat} {ν : Nat → Value} {R h : ab_H} {a : Int64} {b : UInt64} {y6 y7 y8 : Value}
set_option maxRecDepth 100000 in
theorem lxl (hl : xs.length < 2000000) : rt xs d m2 hs tt ((.arraylength, qq) :: rr) (Lc, .retAddr 1 :: st, h) = rt xs d m2 hs tt rr (Lc, .int (nI xs.length) :: st, h) := by
  apply rt_s
  show ab_alen (ab_fx xs) (Lc, .retAddr 1 :: st, h) = _
  have e : (ab_fx xs 1).length < 2000000 := hl
  simp only [ab_alen, e, and_self, if_true]
  rfl
set_option maxRecDepth 100000 in
theorem lend {l i : Nat} (hl : l ≤ 2048) (hi : i ≤ 4096) : (nI l - nI 4 < nI i) = (l < i + 4) := by
  by_cases h : 4 ≤ l
  · rw [iN_sub h, iN_lt (by omega) (by omega)]
    exact propext ⟨fun z => by omega, fun z => by omega⟩
  · have e : nI l - nI 4 = nI (l + 4294967292) := by
      have : l = 0 ∨ l = 1 ∨ l = 2 ∨ l = 3 := by omega
      rcases this with rfl | rfl | rfl | rfl <;> decide
    have := iN_ltg (a := l + 4294967292) (b := i) (by omega) (by omega)
    rw [e, this]
    exact propext ⟨fun z => by omega, fun z => by omega⟩
set_option maxRecDepth 100000 in
theorem sur (x : Int32) : ∃ p, p < 4294967296 ∧ x = nI p := iN_sur x
-- one step of the walk
set_option maxRecDepth 100000 in
theorem L_step (h : LST n σ M ν R) (hn : n < 1000) (hl : xs.length ≤ 2048) (h4 : 4 * n + 4 ≤ xs.length) : ∃ σ' M' μ' ν' a' b' R' z6 z7 z8, ev xs (d + 30) 312 3 ([.retAddr 1, .ref 0, .ref 62, .ref 73, .ref 74, .int (nI (4 * n)), y6, y7, y8], [], mh σ M σ μ ν (QH a b R)) = ev xs (d + 30) 312 3 ([.retAddr 1, .ref 0, .ref 62, .ref 73, .ref 74, .int (nI (4 * (n + 1))), z6, z7, z8], [], mh σ' M' σ' μ' ν' (QH a' b' R')) ∧ LST (n + 1) σ' M' ν' R' := by
  have hi : 4 * n < 2000000 := by omega
  obtain ⟨p0, hp0, e0⟩ := sur (xs[4 * n]'(by omega))
  obtain ⟨p1, hp1, e1⟩ := sur (xs[4 * n + 1]'(by omega))
  obtain ⟨p2, hp2, e2⟩ := sur (xs[4 * n + 2]'(by omega))
  obtain ⟨p3, hp3, e3⟩ := sur (xs[4 * n + 3]'(by omega))
  have hx0 : xs[4 * n]? = some (nI p0) := by rw [← e0]; exact List.getElem?_eq_getElem _
  have hx1 : xs[4 * n + 1]? = some (nI p1) := by rw [← e1]; exact List.getElem?_eq_getElem _
  have hx2 : xs[4 * n + 2]? = some (nI p2) := by rw [← e2]; exact List.getElem?_eq_getElem _
  have hx3 : xs[4 * n + 3]? = some (nI p3) := by rw [← e3]; exact List.getElem?_eq_getElem _
  have hle := lend (l := xs.length) (i := 4 * n) hl (by omega)
  have hle2 : ¬ xs.length < 4 * n + 4 := by omega
  have hq : p0 &&& 63 < 64 := Nat.and_lt_two_pow (n := 6) p0 (by decide)
  have hxl : xs.length < 2000000 := by omega
  have hi2 : 4 * n < 2147483648 := by omega
  have hq2 : p0 &&& 63 < 2147483648 := by omega
  -- to the switch
  have st : ∀ h, ev xs (d + 30) 312 3 ([.retAddr 1, .ref 0, .ref 62, .ref 73, .ref 74, .int (nI (4 * n)), y6, y7, y8], [], h) = ev xs (d + 30) 312 (swt 0 [5, 14, 23, 32, 41, 50, 59, 68, 77, 86, 90, 102, 111, 120, 129, 138, 147, 156, 165, 169, 173, 177, 186, 198, 207, 216, 225, 234, 238, 242, 251, 260, 269, 273, 282, 291, 300, 309, 313, 324, 335, 339] (p0 &&& 63)) ([.retAddr 1, .ref 0, .ref 62, .ref 73, .ref 74, .int (nI (4 * n)), y6, y7, y8], [], h) := by
    intro h
    rw [eb_312_3]
    simp (disch := first | assumption | omega | exact st8_a (Nat.le_of_ble_eq_true rfl)) only [lxl hxl, hle, hle2, lxs hx0, xt_t0 hq2, eb_312_4, kl_a, kl_d, kl_f, kl_i, kl_l, kl_n, kl_r, xr_1, xr_10, xr_11, xr_115, xr_12, xr_120, xr_13, xr_135, xr_136, xr_137, xr_138, xr_139, xr_14, xr_146, xr_147, xr_148, xr_149, xr_15, xr_150, xr_158, xr_159, xr_16, xr_160, xr_161, xr_162, xr_17, xr_175, xr_176, xr_177, xr_178, xr_179, xr_18, xr_180, xr_184, xr_19, xr_2, xr_20, xr_21, xr_22, xr_23, xr_230, xr_231, xr_232, xr_233, xr_234, xr_235, xr_236, xr_237, xr_238, xr_239, xr_24, xr_240, xr_25, xr_27, xr_3, xr_35, xr_36, xr_38, xr_4, xr_44, xr_5, xr_56, xr_57, xr_61, xr_62, xr_65, xr_67, xr_71, xr_77, xr_8, xr_80, xr_81, xr_82, xr_83, xr_84, xr_9, af_0, af_1, xt_goto, xt_ib, xt_ic, xt_ic_eq, xt_ic_gt, xt_if_eq, xt_if_ne, xt_ir, xt_nop, xt_t0, xt_t2, sw_312_4_0, sw_312_4_1, sw_312_4_2, sw_312_4_3, sw_312_4_4, sw_312_4_5, sw_312_4_6, sw_312_4_7, sw_312_4_8, sw_312_4_9, sw_312_4_10, sw_312_4_11, sw_312_4_12, sw_312_4_13, sw_312_4_14, sw_312_4_15, sw_312_4_16, sw_312_4_17, sw_312_4_18, sw_312_4_19, sw_312_4_20, sw_312_4_21, sw_312_4_22, sw_312_4_23, sw_312_4_24, sw_312_4_25, sw_312_4_26, sw_312_4_27, sw_312_4_28, sw_312_4_29, sw_312_4_30, sw_312_4_31, sw_312_4_32, sw_312_4_33, sw_312_4_34, sw_312_4_35, sw_312_4_36, sw_312_4_37, sw_312_4_38, sw_312_4_39, sw_312_4_40, sw_312_4_41, sw_312_4_42, xq_121_100_special, xq_131_11_virtualc, xq_140_11_virtualc, xq_141_11_virtualc, xq_142_11_virtualc, xq_149_11_virtualc, xq_150_11_virtualc, xq_154_11_virtualc, xq_159_11_virtualc, xq_162_11_virtualc, xq_185_100_special, xq_186_13_virtualm mh_Mo, xq_223_13_virtualm mh_Mo, xq_224_13_virtualm mh_Mo, xq_225_13_virtualm mh_Mo, xq_226_13_virtualm mh_Mo, xq_227_13_virtualm mh_Mo, xq_229_13_virtualm mh_Mo, xq_230_13_virtualm mh_Mo, xq_231_13_virtualm mh_Mo, xq_232_13_virtualm mh_Mo, xq_233_13_virtualm mh_Mo, xq_235_13_virtualm mh_Mo, xq_236_13_virtualm mh_Mo, xq_237_13_virtualm mh_Mo, xq_238_13_virtualm mh_Mo, xq_239_13_virtualm mh_Mo, xq_240_13_virtualm mh_Mo, xq_241_13_virtualm mh_Mo, xq_242_13_virtualm mh_Mo, xq_243_13_virtualm mh_Mo, xq_246_13_virtualm mh_Mo, xq_248_13_virtualm mh_Mo, xq_249_13_virtualm mh_Mo, xq_250_13_virtualm mh_Mo, xq_253_13_virtualm mh_Mo, xq_254_13_virtualm mh_Mo, xq_255_13_virtualm mh_Mo, xq_256_13_virtualm mh_Mo, xq_257_13_virtualm mh_Mo, xq_258_13_virtualm mh_Mo, xq_260_13_virtualm mh_Mo, xq_262_13_virtualm mh_Mo, xq_263_13_virtualm mh_Mo, xq_264_13_virtualm mh_Mo, xq_265_13_virtualm mh_Mo, xq_269_13_virtualm mh_Mo, xq_270_13_virtualm mh_Mo, xq_271_13_virtualm mh_Mo, xq_272_13_virtualm mh_Mo, xq_273_13_virtualm mh_Mo, xq_274_13_virtualm mh_Mo, xq_275_13_virtualm mh_Mo, xq_279_201_static, xq_280_201_static, xq_281_201_static, xq_282_201_static, xq_283_201_static, xq_284_201_static, xq_285_201_static, xq_286_201_static, xq_287_201_static, xq_288_201_static, xq_289_201_static, xq_290_201_static, xq_291_201_static, xq_292_201_static, xq_293_201_static, xq_294_201_static, xq_295_201_static, xq_296_201_static, xq_297_201_static, xq_298_201_static, xq_299_201_static, xq_300_201_static, xq_301_201_static, xq_302_201_static, xq_303_201_static, xq_304_201_static, xq_305_201_static, xq_306_201_static, xq_307_201_static, xq_308_201_static, xq_309_201_static, xq_310_201_static, iN_add, iN_mul, iN_and, iN_or, iN_clr, iN_shl, iN_shr, tb_r1, b1_z, b1_or, b1_and, b1_or0, b1_or1, b1_0or, b1_t, b1_f, iN_lt, iN_inj, reduceIte, if_true, if_false, Nat.zero_add, Nat.add_zero, Bool.false_eq_true, Bool.true_eq_false, Nat.lt_irrefl, iN_az, not_true_eq_false, not_false_eq_true, Nat.reduceEqDiff, Nat.reduceLT, Nat.reduceAdd, Nat.reduceMul, Nat.reduceSub]
  have en : ∀ h z6 z7 z8, ev xs (d + 30) 312 339 ([.retAddr 1, .ref 0, .ref 62, .ref 73, .ref 74, .int (nI (4 * n)), z6, z7, z8], [], h) = ev xs (d + 30) 312 3 ([.retAddr 1, .ref 0, .ref 62, .ref 73, .ref 74, .int (nI (4 * (n + 1))), z6, z7, z8], [], h) := by
    intro h z6 z7 z8
    rw [show 4 * (n + 1) = 4 * n + 4 by omega]
    simp (disch := first | assumption | omega | exact st8_a (Nat.le_of_ble_eq_true rfl)) only [eb_312_339, kl_a, kl_d, kl_f, kl_i, kl_l, kl_n, kl_r, xr_1, xr_10, xr_11, xr_115, xr_12, xr_120, xr_13, xr_135, xr_136, xr_137, xr_138, xr_139, xr_14, xr_146, xr_147, xr_148, xr_149, xr_15, xr_150, xr_158, xr_159, xr_16, xr_160, xr_161, xr_162, xr_17, xr_175, xr_176, xr_177, xr_178, xr_179, xr_18, xr_180, xr_184, xr_19, xr_2, xr_20, xr_21, xr_22, xr_23, xr_230, xr_231, xr_232, xr_233, xr_234, xr_235, xr_236, xr_237, xr_238, xr_239, xr_24, xr_240, xr_25, xr_27, xr_3, xr_35, xr_36, xr_38, xr_4, xr_44, xr_5, xr_56, xr_57, xr_61, xr_62, xr_65, xr_67, xr_71, xr_77, xr_8, xr_80, xr_81, xr_82, xr_83, xr_84, xr_9, af_0, af_1, xt_goto, xt_ib, xt_ic, xt_ic_eq, xt_ic_gt, xt_if_eq, xt_if_ne, xt_ir, xt_nop, xt_t0, xt_t2, sw_312_4_0, sw_312_4_1, sw_312_4_2, sw_312_4_3, sw_312_4_4, sw_312_4_5, sw_312_4_6, sw_312_4_7, sw_312_4_8, sw_312_4_9, sw_312_4_10, sw_312_4_11, sw_312_4_12, sw_312_4_13, sw_312_4_14, sw_312_4_15, sw_312_4_16, sw_312_4_17, sw_312_4_18, sw_312_4_19, sw_312_4_20, sw_312_4_21, sw_312_4_22, sw_312_4_23, sw_312_4_24, sw_312_4_25, sw_312_4_26, sw_312_4_27, sw_312_4_28, sw_312_4_29, sw_312_4_30, sw_312_4_31, sw_312_4_32, sw_312_4_33, sw_312_4_34, sw_312_4_35, sw_312_4_36, sw_312_4_37, sw_312_4_38, sw_312_4_39, sw_312_4_40, sw_312_4_41, sw_312_4_42, xq_121_100_special, xq_131_11_virtualc, xq_140_11_virtualc, xq_141_11_virtualc, xq_142_11_virtualc, xq_149_11_virtualc, xq_150_11_virtualc, xq_154_11_virtualc, xq_159_11_virtualc, xq_162_11_virtualc, xq_185_100_special, xq_186_13_virtualm mh_Mo, xq_223_13_virtualm mh_Mo, xq_224_13_virtualm mh_Mo, xq_225_13_virtualm mh_Mo, xq_226_13_virtualm mh_Mo, xq_227_13_virtualm mh_Mo, xq_229_13_virtualm mh_Mo, xq_230_13_virtualm mh_Mo, xq_231_13_virtualm mh_Mo, xq_232_13_virtualm mh_Mo, xq_233_13_virtualm mh_Mo, xq_235_13_virtualm mh_Mo, xq_236_13_virtualm mh_Mo, xq_237_13_virtualm mh_Mo, xq_238_13_virtualm mh_Mo, xq_239_13_virtualm mh_Mo, xq_240_13_virtualm mh_Mo, xq_241_13_virtualm mh_Mo, xq_242_13_virtualm mh_Mo, xq_243_13_virtualm mh_Mo, xq_246_13_virtualm mh_Mo, xq_248_13_virtualm mh_Mo, xq_249_13_virtualm mh_Mo, xq_250_13_virtualm mh_Mo, xq_253_13_virtualm mh_Mo, xq_254_13_virtualm mh_Mo, xq_255_13_virtualm mh_Mo, xq_256_13_virtualm mh_Mo, xq_257_13_virtualm mh_Mo, xq_258_13_virtualm mh_Mo, xq_260_13_virtualm mh_Mo, xq_262_13_virtualm mh_Mo, xq_263_13_virtualm mh_Mo, xq_264_13_virtualm mh_Mo, xq_265_13_virtualm mh_Mo, xq_269_13_virtualm mh_Mo, xq_270_13_virtualm mh_Mo, xq_271_13_virtualm mh_Mo, xq_272_13_virtualm mh_Mo, xq_273_13_virtualm mh_Mo, xq_274_13_virtualm mh_Mo, xq_275_13_virtualm mh_Mo, xq_279_201_static, xq_280_201_static, xq_281_201_static, xq_282_201_static, xq_283_201_static, xq_284_201_static, xq_285_201_static, xq_286_201_static, xq_287_201_static, xq_288_201_static, xq_289_201_static, xq_290_201_static, xq_291_201_static, xq_292_201_static, xq_293_201_static, xq_294_201_static, xq_295_201_static, xq_296_201_static, xq_297_201_static, xq_298_201_static, xq_299_201_static, xq_300_201_static, xq_301_201_static, xq_302_201_static, xq_303_201_static, xq_304_201_static, xq_305_201_static, xq_306_201_static, xq_307_201_static, xq_308_201_static, xq_309_201_static, xq_310_201_static, iN_add, iN_mul, iN_sub, iN_and, iN_or, iN_clr, iN_shl, iN_shr, tb_r1, b1_z, b1_or, b1_and, b1_or0, b1_or1, b1_0or, b1_t, b1_f, iN_lt, iN_inj, reduceIte, if_true, if_false, Nat.zero_add, Nat.add_zero, Bool.false_eq_true, Bool.true_eq_false, Nat.lt_irrefl, iN_az, not_true_eq_false, not_false_eq_true, Nat.reduceEqDiff, Nat.reduceLT, Nat.reduceAdd, Nat.reduceMul, Nat.reduceSub]
  have fin : ∀ start, swt 0 [5, 14, 23, 32, 41, 50, 59, 68, 77, 86, 90, 102, 111, 120, 129, 138, 147, 156, 165, 169, 173, 177, 186, 198, 207, 216, 225, 234, 238, 242, 251, 260, 269, 273, 282, 291, 300, 309, 313, 324, 335, 339] (p0 &&& 63) = start → SR xs d start (4 * n) n σ M μ ν a b R y6 y7 y8 → ∃ σ' M' μ' ν' a' b' R' z6 z7 z8, ev xs (d + 30) 312 3 ([.retAddr 1, .ref 0, .ref 62, .ref 73, .ref 74, .int (nI (4 * n)), y6, y7, y8], [], mh σ M σ μ ν (QH a b R)) = ev xs (d + 30) 312 3 ([.retAddr 1, .ref 0, .ref 62, .ref 73, .ref 74, .int (nI (4 * (n + 1))), z6, z7, z8], [], mh σ' M' σ' μ' ν' (QH a' b' R')) ∧ LST (n + 1) σ' M' ν' R' := by
    intro start hs hr
    obtain ⟨σ', M', μ', ν', a', b', R', z6, z7, z8, e, hL⟩ := hr
    refine ⟨σ', M', μ', ν', a', b', R', z6, z7, z8, ?_, hL⟩
    rw [st, hs, e, en]
  generalize hpq : p0 &&& 63 = q at *
  by_cases hbig : 41 ≤ q
  · refine fin 339 ?_ ⟨σ, M, μ, ν, a, b, R, y6, y7, y8, rfl, LST_0 h⟩
    unfold swt
    rw [if_pos (.inr hbig)]
    rfl
  · have hcase : q = 0 ∨ q = 1 ∨ q = 2 ∨ q = 3 ∨ q = 4 ∨ q = 5 ∨ q = 6 ∨ q = 7 ∨ q = 8 ∨ q = 9 ∨ q = 10 ∨ q = 11 ∨ q = 12 ∨ q = 13 ∨ q = 14 ∨ q = 15 ∨ q = 16 ∨ q = 17 ∨ q = 18 ∨ q = 19 ∨ q = 20 ∨ q = 21 ∨ q = 22 ∨ q = 23 ∨ q = 24 ∨ q = 25 ∨ q = 26 ∨ q = 27 ∨ q = 28 ∨ q = 29 ∨ q = 30 ∨ q = 31 ∨ q = 32 ∨ q = 33 ∨ q = 34 ∨ q = 35 ∨ q = 36 ∨ q = 37 ∨ q = 38 ∨ q = 39 ∨ q = 40 := by omega
    clear hpq
    rcases hcase with rfl | rfl | rfl | rfl | rfl | rfl | rfl | rfl | rfl | rfl | rfl | rfl | rfl | rfl | rfl | rfl | rfl | rfl | rfl | rfl | rfl | rfl | rfl | rfl | rfl | rfl | rfl | rfl | rfl | rfl | rfl | rfl | rfl | rfl | rfl | rfl | rfl | rfl | rfl | rfl | rfl
    · exact fin 5 rfl (S_0 h hn hi hx1 hp1 hx2 hp2)
    · exact fin 14 rfl (S_1 h hn hi hx1 hp1 hx2 hp2)
    · exact fin 23 rfl (S_2 h hn hi)
    · exact fin 32 rfl (S_3 h hn hi hx1 hp1)
    · exact fin 41 rfl (S_4 h hn hi hx1 hp1 hx2 hp2 hx3 hp3)
    · exact fin 50 rfl (S_5 h hn hi hx1 hp1 hx2 hp2 hx3 hp3)
    · exact fin 59 rfl (S_6 h hn hi hx1 hp1)
    · exact fin 68 rfl (S_7 h hi hx1 hp1)
    · exact fin 77 rfl (S_8 h hi hx1 hp1 hx2 hp2)
    · exact fin 86 rfl (S_9 h hi)
    · exact fin 90 rfl (S_10 h hi)
    · exact fin 102 rfl (S_11 h hi hx1 hp1 hx2 hp2 hx3 hp3)
    · exact fin 111 rfl (S_12 h hi hx1 hp1)
    · exact fin 120 rfl (S_13 h hi)
    · exact fin 129 rfl (S_14 h hi)
    · exact fin 138 rfl (S_15 h hi)
    · exact fin 147 rfl (S_16 h hi)
    · exact fin 156 rfl (S_17 h hi hx1 hp1 hx2 hp2)
    · exact fin 165 rfl (S_18 h hi hx1 hp1)
    · exact fin 169 rfl (S_19 h hi)
    · exact fin 173 rfl (S_20 h hi)
    · exact fin 177 rfl (S_21 h hi hx1 hp1)
    · exact fin 186 rfl (S_22 h hi hx1 hp1)
    · exact fin 198 rfl (S_23 h hi hx1 hp1)
    · exact fin 207 rfl (S_24 h hi hx1 hp1)
    · exact fin 216 rfl (S_25 h hi hx1 hp1 hx2 hp2 hx3 hp3)
    · exact fin 225 rfl (S_26 h hi)
    · exact fin 234 rfl (S_27 h hi)
    · exact fin 238 rfl (S_28 h hi)
    · exact fin 242 rfl (S_29 h hi)
    · exact fin 251 rfl (S_30 h hi hx1 hp1 hx2 hp2)
    · exact fin 260 rfl (S_31 h hi hx1 hp1 hx2 hp2)
    · exact fin 269 rfl (S_32 h hi)
    · exact fin 273 rfl (S_33 h hi hx1 hp1)
    · exact fin 282 rfl (S_34 h hi hx1 hp1)
    · exact fin 291 rfl (S_35 h hi hx1 hp1 hx2 hp2)
    · exact fin 300 rfl (S_36 h hi hx1 hp1)
    · exact fin 309 rfl (S_37 h hi)
    · exact fin 313 rfl (S_38 h hi)
    · exact fin 324 rfl (S_39 h hi)
    · exact fin 335 rfl (S_40 h hi)
end Lwi
