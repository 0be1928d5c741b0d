/-! THE LAW: the whole walk -/
section Lwj
variable {xs : List Int32} {d n k i : Nat} {σ M : Nat → Nat → Nat} {μ : Nat → Nat} {ν : Nat → Value} {R h : ab_H} {a : Int64} {b : UInt64} {y6 y7 y8 : Value}
set_option maxRecDepth 100000 in
theorem L_walk (hl : xs.length ≤ 2048) : ∀ k n, n + k = 600 → 4 * n ≤ xs.length → ∀ σ M μ ν a b R y6 y7 y8, LST n σ M ν R → ∃ n' σ' M' μ' ν' a' b' R', ev xs (d + 30) 312 3 ([.retAddr 1, .ref 0, .ref 62, .ref 73, .ref 74, .int (nI (4 * n)), y6, y7, y8], [], mh σ M σ μ ν (QH a b R)) = some (.inl (some (.int (nI (1)))), mh σ' M' σ' μ' ν' (QH a' b' R')) ∧ n' ≤ 512 ∧ LST n' σ' M' ν' R' := by
  intro k
  induction k with
  | zero => intro n h1 h2; omega
  | succ k ih =>
    intro n h1 h2 σ M μ ν a b R y6 y7 y8 h
    by_cases h3 : 4 * n + 4 ≤ xs.length
    · obtain ⟨σ', M', μ', ν', a', b', R', z6, z7, z8, e, hL⟩ := L_step (d := d) (μ := μ) (a := a) (b := b) (y6 := y6) (y7 := y7) (y8 := y8) h (by omega) hl h3
      rw [e]
      exact ih (n + 1) (by omega) (by omega) σ' M' μ' ν' a' b' R' z6 z7 z8 hL
    · refine ⟨n, σ, M, μ, ν, a, b, R, ?_, by omega, h⟩
      have hle := lend (l := xs.length) (i := 4 * n) hl (by omega)
      have hle2 : xs.length < 4 * n + 4 := by omega
      have hxl : xs.length < 2000000 := by omega
      clear h ih
      rw [eb_312_3]
      simp (disch := first | assumption | omega | exact st8_a (Nat.le_of_ble_eq_true rfl)) only [lxl hxl, hle, hle2, eb_312_340, kl_a, kl_d, kl_f, kl_i, kl_l, kl_n, kl_r, xr_1, xr_10, xr_11, xr_115, xr_12, xr_120, xr_13, xr_135, xr_136, xr_137, xr_138, xr_139, xr_14, xr_146, xr_147, xr_148, xr_149, xr_15, xr_150, xr_158, xr_159, xr_16, xr_160, xr_161, xr_162, xr_17, xr_175, xr_176, xr_177, xr_178, xr_179, xr_18, xr_180, xr_184, xr_19, xr_2, xr_20, xr_21, xr_22, xr_23, xr_230, xr_231, xr_232, xr_233, xr_234, xr_235, xr_236, xr_237, xr_238, xr_239, xr_24, xr_240, xr_25, xr_27, xr_3, xr_35, xr_36, xr_38, xr_4, xr_44, xr_5, xr_56, xr_57, xr_61, xr_62, xr_65, xr_67, xr_71, xr_77, xr_8, xr_80, xr_81, xr_82, xr_83, xr_84, xr_9, af_0, af_1, xt_goto, xt_ib, xt_ic, xt_ic_eq, xt_ic_gt, xt_if_eq, xt_if_ne, xt_ir, xt_nop, xt_t0, xt_t2, sw_312_4_0, sw_312_4_1, sw_312_4_2, sw_312_4_3, sw_312_4_4, sw_312_4_5, sw_312_4_6, sw_312_4_7, sw_312_4_8, sw_312_4_9, sw_312_4_10, sw_312_4_11, sw_312_4_12, sw_312_4_13, sw_312_4_14, sw_312_4_15, sw_312_4_16, sw_312_4_17, sw_312_4_18, sw_312_4_19, sw_312_4_20, sw_312_4_21, sw_312_4_22, sw_312_4_23, sw_312_4_24, sw_312_4_25, sw_312_4_26, sw_312_4_27, sw_312_4_28, sw_312_4_29, sw_312_4_30, sw_312_4_31, sw_312_4_32, sw_312_4_33, sw_312_4_34, sw_312_4_35, sw_312_4_36, sw_312_4_37, sw_312_4_38, sw_312_4_39, sw_312_4_40, sw_312_4_41, sw_312_4_42, xq_121_100_special, xq_131_11_virtualc, xq_140_11_virtualc, xq_141_11_virtualc, xq_142_11_virtualc, xq_149_11_virtualc, xq_150_11_virtualc, xq_154_11_virtualc, xq_159_11_virtualc, xq_162_11_virtualc, xq_185_100_special, xq_186_13_virtualm mh_Mo, xq_223_13_virtualm mh_Mo, xq_224_13_virtualm mh_Mo, xq_225_13_virtualm mh_Mo, xq_226_13_virtualm mh_Mo, xq_227_13_virtualm mh_Mo, xq_229_13_virtualm mh_Mo, xq_230_13_virtualm mh_Mo, xq_231_13_virtualm mh_Mo, xq_232_13_virtualm mh_Mo, xq_233_13_virtualm mh_Mo, xq_235_13_virtualm mh_Mo, xq_236_13_virtualm mh_Mo, xq_237_13_virtualm mh_Mo, xq_238_13_virtualm mh_Mo, xq_239_13_virtualm mh_Mo, xq_240_13_virtualm mh_Mo, xq_241_13_virtualm mh_Mo, xq_242_13_virtualm mh_Mo, xq_243_13_virtualm mh_Mo, xq_246_13_virtualm mh_Mo, xq_248_13_virtualm mh_Mo, xq_249_13_virtualm mh_Mo, xq_250_13_virtualm mh_Mo, xq_253_13_virtualm mh_Mo, xq_254_13_virtualm mh_Mo, xq_255_13_virtualm mh_Mo, xq_256_13_virtualm mh_Mo, xq_257_13_virtualm mh_Mo, xq_258_13_virtualm mh_Mo, xq_260_13_virtualm mh_Mo, xq_262_13_virtualm mh_Mo, xq_263_13_virtualm mh_Mo, xq_264_13_virtualm mh_Mo, xq_265_13_virtualm mh_Mo, xq_269_13_virtualm mh_Mo, xq_270_13_virtualm mh_Mo, xq_271_13_virtualm mh_Mo, xq_272_13_virtualm mh_Mo, xq_273_13_virtualm mh_Mo, xq_274_13_virtualm mh_Mo, xq_275_13_virtualm mh_Mo, xq_279_201_static, xq_280_201_static, xq_281_201_static, xq_282_201_static, xq_283_201_static, xq_284_201_static, xq_285_201_static, xq_286_201_static, xq_287_201_static, xq_288_201_static, xq_289_201_static, xq_290_201_static, xq_291_201_static, xq_292_201_static, xq_293_201_static, xq_294_201_static, xq_295_201_static, xq_296_201_static, xq_297_201_static, xq_298_201_static, xq_299_201_static, xq_300_201_static, xq_301_201_static, xq_302_201_static, xq_303_201_static, xq_304_201_static, xq_305_201_static, xq_306_201_static, xq_307_201_static, xq_308_201_static, xq_309_201_static, xq_310_201_static, iN_add, iN_mul, iN_and, iN_or, iN_clr, iN_shl, iN_shr, tb_r1, b1_z, b1_or, b1_and, b1_or0, b1_or1, b1_0or, b1_t, b1_f, iN_lt, iN_inj, reduceIte, if_true, if_false, Nat.zero_add, Nat.add_zero, Bool.false_eq_true, Bool.true_eq_false, Nat.lt_irrefl, iN_az, not_true_eq_false, not_false_eq_true, Nat.reduceEqDiff, Nat.reduceLT, Nat.reduceAdd, Nat.reduceMul, Nat.reduceSub]
set_option maxRecDepth 100000 in
theorem hsz_c : ab_hsz (hc σ M []) ≤ 5000000 := by
  have e : ab_hsz (hc σ M []) = ab_hsz (hc (fun _ _ => 0) (fun _ _ => 0) []) := rfl
  rw [e]
  decide +kernel
end Lwj
