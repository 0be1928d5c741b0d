/-! THE CLASS ITSELF: what is left, sets of rules, exams, the table -/
section Cld
variable {xs : List Int32} {σ M N K M' : Nat → Nat → Nat} {R : ab_H} {d e k a b c u i n m l x y v set g t : Nat} {s r s0 r0 : Nat → Nat}
set_option maxRecDepth 100000 in
theorem VS_sr (h : VS σ (M 38)) (hl : l < (σ 1 6)) : ∀ i, (M 38 l).testBit i = true → ∃ s r, i = s * 3 + r ∧ s < (σ 1 2) ∧ r < (σ 1 5) := fun i hi => by
  obtain ⟨s, r, h1, h2, h3, -⟩ := h.1.1 l hl i hi
  exact ⟨s, r, h1, h2, h3⟩
set_option maxRecDepth 100000 in
theorem s_129x (O : Ok σ) (hu : u < 4294967296) (h : ¬ u < (σ 1 6)) : ev xs (d + 1) 129 0 ([.ref 0, .int (nI u)], [], hc σ M R) = some (.inr 2, hc σ M (R ++ [ex9])) := by
  have e := (s_166 (xs := xs) (d := d) (M := M) (R := R) O hu).2 h
  simp (disch := first | assumption | omega | exact st8_a (Nat.le_of_ble_eq_true rfl)) only [e, af_x, eb_129_0, xr_1, xr_2, xr_28, xr_3, xr_4, xr_5, af_0, af_1, xt_ib, xt_ic, xt_ir, gF_37_2, gF_0_6, gA_2, gA_3, gA_4, gA_5, gA_6, gA_7, gA_8, gA_9, gA_10, gA_11, gA_13, gA_14, gA_16, gA_17, gA_20, gA_21, gA_22, gA_23, gA_24, gA_25, gA_26, gA_27, gA_30, gA_31, gA_32, gA_33, gA_34, gA_35, gA_36, gA_38, gA_39, gA_41, gA_42, gA_46, gA_47, gA_49, gA_50, gA_51, gA_53, gA_56, gA_57, gA_59, gA_60, xq_104_10_virtualc, xq_166_11_virtualc, xq_277_200_static, iN_add, iN_mul, iN_sub, iN_and, iN_or, iN_clr, iN_shl, iN_shr, tb_r1, b1_z, b1_or, b1_and, b1_or0, b1_or1, b1_0or, b1_t, b1_f, iN_lt, iN_inj, reduceIte, if_true, if_false, Nat.zero_add, Nat.add_zero, Bool.false_eq_true, Bool.true_eq_false, Nat.lt_irrefl, iN_az, not_true_eq_false, not_false_eq_true, Nat.reduceEqDiff, Nat.reduceLT, Nat.reduceAdd, Nat.reduceMul, Nat.reduceSub]
set_option maxRecDepth 100000 in
theorem s_129 (O : Ok σ) (hC' : CIv σ M) (hl : l < (σ 1 6)) : ∃ M', ev xs (d + 7) 129 0 ([.ref 0, .int (nI l)], [], hc σ M R) = some (.inl (some (.int (nI (pc 18 (M' 38 l))))), hc σ M' R) ∧ PB M M' ∧ CIv σ M' ∧ VS σ (M' 38) := by
  obtain ⟨hD1, hD2, hH1, hH2, hS, hC, hT, hR, hL, hQ⟩ := Ok_b O
  have e := (s_166 (xs := xs) (d := d + 6) (M := M) (R := R) O (show l < 4294967296 by omega)).1 hl
  obtain ⟨M', e1, f1, f2, f3, f4⟩ := s_104 (xs := xs) (d := d) (R := R) O hC'.1
  have hb := VS_b O f3.1 l hl
  have e2 := s_277v (xs := xs) (d := d + 6) (h := hc σ M' R) hb
  refine ⟨M', ?_, Fr_PB f1 rfl, CIv_v hC' f2 f1, f3⟩
  clear hC' f1 f2 f3 f4
  simp (disch := first | assumption | omega | exact st8_a (Nat.le_of_ble_eq_true rfl)) only [e, e1, e2, eb_129_0, eb_129_1, eb_129_2, eb_129_3, xr_1, xr_2, xr_28, xr_3, xr_4, xr_5, af_0, af_1, xt_ib, xt_ic, xt_ir, gF_37_2, gF_0_6, gA_2, gA_3, gA_4, gA_5, gA_6, gA_7, gA_8, gA_9, gA_10, gA_11, gA_13, gA_14, gA_16, gA_17, gA_20, gA_21, gA_22, gA_23, gA_24, gA_25, gA_26, gA_27, gA_30, gA_31, gA_32, gA_33, gA_34, gA_35, gA_36, gA_38, gA_39, gA_41, gA_42, gA_46, gA_47, gA_49, gA_50, gA_51, gA_53, gA_56, gA_57, gA_59, gA_60, xq_104_10_virtualc, xq_166_11_virtualc, xq_277_200_static, iN_add, iN_mul, iN_sub, iN_and, iN_or, iN_clr, iN_shl, iN_shr, tb_r1, b1_z, b1_or, b1_and, b1_or0, b1_or1, b1_0or, b1_t, b1_f, iN_lt, iN_inj, reduceIte, if_true, if_false, Nat.zero_add, Nat.add_zero, Bool.false_eq_true, Bool.true_eq_false, Nat.lt_irrefl, iN_az, not_true_eq_false, not_false_eq_true, Nat.reduceEqDiff, Nat.reduceLT, Nat.reduceAdd, Nat.reduceMul, Nat.reduceSub]
set_option maxRecDepth 100000 in
theorem s_130x (O : Ok σ) (hu : u < 4294967296) (h : ¬ u < (σ 1 6)) {y : Int32} : ev xs (d + 1) 130 0 ([.ref 0, .int (nI u), .int y], [], hc σ M R) = some (.inr 2, hc σ M (R ++ [ex9])) := by
  have e := (s_166 (xs := xs) (d := d) (M := M) (R := R) O hu).2 h
  simp (disch := first | assumption | omega | exact st8_a (Nat.le_of_ble_eq_true rfl)) only [e, af_x, eb_130_0, xr_1, xr_2, xr_28, xr_3, xr_31, xr_4, xr_5, af_0, af_1, xt_ib, xt_ic, xt_ic_lt, xt_if_lt, xt_ir, xt_th, gF_37_2, gF_0_6, gA_2, gA_3, gA_4, gA_5, gA_6, gA_7, gA_8, gA_9, gA_10, gA_11, gA_13, gA_14, gA_16, gA_17, gA_20, gA_21, gA_22, gA_23, gA_24, gA_25, gA_26, gA_27, gA_30, gA_31, gA_32, gA_33, gA_34, gA_35, gA_36, gA_38, gA_39, gA_41, gA_42, gA_46, gA_47, gA_49, gA_50, gA_51, gA_53, gA_56, gA_57, gA_59, gA_60, xq_104_10_virtualc, xq_105_10_virtualc, xq_166_11_virtualc, xq_277_200_static, iN_add, iN_mul, iN_sub, iN_and, iN_or, iN_clr, iN_shl, iN_shr, tb_r1, b1_z, b1_or, b1_and, b1_or0, b1_or1, b1_0or, b1_t, b1_f, iN_lt, iN_inj, reduceIte, if_true, if_false, Nat.zero_add, Nat.add_zero, Bool.false_eq_true, Bool.true_eq_false, Nat.lt_irrefl, iN_az, not_true_eq_false, not_false_eq_true, Nat.reduceEqDiff, Nat.reduceLT, Nat.reduceAdd, Nat.reduceMul, Nat.reduceSub]
set_option maxRecDepth 100000 in
theorem s_130 (O : Ok σ) (hC' : CIv σ M) (hl : l < (σ 1 6)) (hu : u < 4294967296) : ∃ M', PB M M' ∧ CIv σ M' ∧ VS σ (M' 38) ∧ ((¬ u < pc 18 (M' 38 l) ∧ ev xs (d + 7) 130 0 ([.ref 0, .int (nI l), .int (nI u)], [], hc σ M R) = some (.inr 3, hc σ M' (R ++ [ex9]))) ∨ ∃ s r, s < (σ 1 2) ∧ r < (σ 1 5) ∧ (M' 38 l).testBit (s * 3 + r) = true ∧ pc (s * 3 + r) (M' 38 l) = u ∧ ev xs (d + 7) 130 0 ([.ref 0, .int (nI l), .int (nI u)], [], hc σ M R) = some (.inl (some (.int (nI (10 * s + r)))), hc σ M' R)) := by
  obtain ⟨hD1, hD2, hH1, hH2, hS, hC, hT, hR, hL, hQ⟩ := Ok_b O
  have e := (s_166 (xs := xs) (d := d + 6) (M := M) (R := R) O (show l < 4294967296 by omega)).1 hl
  obtain ⟨M', e1, f1, f2, f3, f4⟩ := s_104 (xs := xs) (d := d) (R := R) O hC'.1
  have hb := VS_b O f3.1 l hl
  have e2 := s_277v (xs := xs) (d := d + 6) (h := hc σ M' R) hb
  have hpc := pc_le 18 (M' 38 l)
  refine ⟨M', Fr_PB f1 rfl, CIv_v hC' f2 f1, f3, ?_⟩
  by_cases h : u < pc 18 (M' 38 l)
  · obtain ⟨s, r, q1, q2, q3, q4, e3⟩ := s_105 (xs := xs) (d := d + 5) (R := R) O hl (VS_sr f3 hl) h
    refine .inr ⟨s, r, q1, q2, q3, q4, ?_⟩
    clear hC' f1 f2 f3 f4 q3 q4
    simp (disch := first | assumption | omega | exact st8_a (Nat.le_of_ble_eq_true rfl)) only [Nat.not_lt_zero, e, e1, e2, h, e3, eb_130_0, eb_130_1, eb_130_2, eb_130_3, eb_130_4, eb_130_6, eb_130_7, xr_1, xr_2, xr_28, xr_3, xr_31, xr_4, xr_5, af_0, af_1, xt_ib, xt_ic, xt_ic_lt, xt_if_lt, xt_ir, xt_th, gF_37_2, gF_0_6, gA_2, gA_3, gA_4, gA_5, gA_6, gA_7, gA_8, gA_9, gA_10, gA_11, gA_13, gA_14, gA_16, gA_17, gA_20, gA_21, gA_22, gA_23, gA_24, gA_25, gA_26, gA_27, gA_30, gA_31, gA_32, gA_33, gA_34, gA_35, gA_36, gA_38, gA_39, gA_41, gA_42, gA_46, gA_47, gA_49, gA_50, gA_51, gA_53, gA_56, gA_57, gA_59, gA_60, xq_104_10_virtualc, xq_105_10_virtualc, xq_166_11_virtualc, xq_277_200_static, iN_add, iN_mul, iN_sub, iN_and, iN_or, iN_clr, iN_shl, iN_shr, tb_r1, b1_z, b1_or, b1_and, b1_or0, b1_or1, b1_0or, b1_t, b1_f, iN_lt, iN_inj, reduceIte, if_true, if_false, Nat.zero_add, Nat.add_zero, Bool.false_eq_true, Bool.true_eq_false, Nat.lt_irrefl, iN_az, not_true_eq_false, not_false_eq_true, Nat.reduceEqDiff, Nat.reduceLT, Nat.reduceAdd, Nat.reduceMul, Nat.reduceSub]
  · refine .inl ⟨h, ?_⟩
    clear hC' f1 f2 f3 f4
    by_cases h2 : 2147483648 ≤ u
    · simp (disch := first | assumption | omega | exact st8_a (Nat.le_of_ble_eq_true rfl)) only [eq_true (iN_neg h2 hu), e, e1, e2, hc_app, eb_130_0, eb_130_1, eb_130_2, eb_130_5, xr_1, xr_2, xr_28, xr_3, xr_31, xr_4, xr_5, af_0, af_1, xt_ib, xt_ic, xt_ic_lt, xt_if_lt, xt_ir, xt_th, gF_37_2, gF_0_6, gA_2, gA_3, gA_4, gA_5, gA_6, gA_7, gA_8, gA_9, gA_10, gA_11, gA_13, gA_14, gA_16, gA_17, gA_20, gA_21, gA_22, gA_23, gA_24, gA_25, gA_26, gA_27, gA_30, gA_31, gA_32, gA_33, gA_34, gA_35, gA_36, gA_38, gA_39, gA_41, gA_42, gA_46, gA_47, gA_49, gA_50, gA_51, gA_53, gA_56, gA_57, gA_59, gA_60, xq_104_10_virtualc, xq_105_10_virtualc, xq_166_11_virtualc, xq_277_200_static, iN_add, iN_mul, iN_sub, iN_and, iN_or, iN_clr, iN_shl, iN_shr, tb_r1, b1_z, b1_or, b1_and, b1_or0, b1_or1, b1_0or, b1_t, b1_f, iN_lt, iN_inj, reduceIte, if_true, if_false, Nat.zero_add, Nat.add_zero, Bool.false_eq_true, Bool.true_eq_false, Nat.lt_irrefl, iN_az, not_true_eq_false, not_false_eq_true, Nat.reduceEqDiff, Nat.reduceLT, Nat.reduceAdd, Nat.reduceMul, Nat.reduceSub]
    · simp (disch := first | assumption | omega | exact st8_a (Nat.le_of_ble_eq_true rfl)) only [Nat.not_lt_zero, e, e1, e2, h, hc_app, eb_130_0, eb_130_1, eb_130_2, eb_130_3, eb_130_4, eb_130_5, xr_1, xr_2, xr_28, xr_3, xr_31, xr_4, xr_5, af_0, af_1, xt_ib, xt_ic, xt_ic_lt, xt_if_lt, xt_ir, xt_th, gF_37_2, gF_0_6, gA_2, gA_3, gA_4, gA_5, gA_6, gA_7, gA_8, gA_9, gA_10, gA_11, gA_13, gA_14, gA_16, gA_17, gA_20, gA_21, gA_22, gA_23, gA_24, gA_25, gA_26, gA_27, gA_30, gA_31, gA_32, gA_33, gA_34, gA_35, gA_36, gA_38, gA_39, gA_41, gA_42, gA_46, gA_47, gA_49, gA_50, gA_51, gA_53, gA_56, gA_57, gA_59, gA_60, xq_104_10_virtualc, xq_105_10_virtualc, xq_166_11_virtualc, xq_277_200_static, iN_add, iN_mul, iN_sub, iN_and, iN_or, iN_clr, iN_shl, iN_shr, tb_r1, b1_z, b1_or, b1_and, b1_or0, b1_or1, b1_0or, b1_t, b1_f, iN_lt, iN_inj, reduceIte, if_true, if_false, Nat.zero_add, Nat.add_zero, Bool.false_eq_true, Bool.true_eq_false, Nat.lt_irrefl, iN_az, not_true_eq_false, not_false_eq_true, Nat.reduceEqDiff, Nat.reduceLT, Nat.reduceAdd, Nat.reduceMul, Nat.reduceSub]
set_option maxRecDepth 100000 in
theorem s_141 (O : Ok σ) (hC' : CIv σ M) : ∃ M' v, ev xs (d + 21) 141 0 ([.ref 0], [], hc σ M R) = some (.inl (some (.int (nI (v)))), hc σ M' R) ∧ PB M M' ∧ CIv σ M' ∧ ((KB σ 4294967295 0 (alr σ) ∧ v = 4294967295) ∨ (¬ KB σ 4294967295 0 (alr σ) ∧ v < 1024 ∧ ST σ 4294967295 0 (σ 1 7) (alr σ) v)) := by
  obtain ⟨M', v, e1, f1, f2, f3⟩ := s_51 (xs := xs) (e := d) (R := R) (t := 4294967295) (y := 0) O hC'.1.1 (.inl rfl)
  refine ⟨M', v, ?_, Fr_PB f1 rfl, CIv_f hC' f2 (Fr_w f1 fun a ha => by simp at ha ⊢; omega), f3⟩
  clear hC' f1 f2 f3
  simp (disch := first | assumption | omega | exact st8_a (Nat.le_of_ble_eq_true rfl)) only [e1, eb_141_0, eb_141_1, xr_1, xr_10, xr_2, xr_3, xr_4, xr_5, xr_64, af_0, af_1, xt_ib, xt_ic, xt_ir, gF_0_7, xq_51_5_virtualc, iN_add, iN_mul, iN_sub, iN_and, iN_or, iN_clr, iN_shl, iN_shr, tb_r1, b1_z, b1_or, b1_and, b1_or0, b1_or1, b1_0or, b1_t, b1_f, iN_lt, iN_inj, reduceIte, if_true, if_false, Nat.zero_add, Nat.add_zero, Bool.false_eq_true, Bool.true_eq_false, Nat.lt_irrefl, iN_az, not_true_eq_false, not_false_eq_true, Nat.reduceEqDiff, Nat.reduceLT, Nat.reduceAdd, Nat.reduceMul, Nat.reduceSub]
set_option maxRecDepth 100000 in
theorem s_142 (O : Ok σ) (hC' : CIv σ M) : ∃ M', ev xs (d + 22) 142 0 ([.ref 0], [], hc σ M R) = some (.inl (some (.int (nI (M' 40 5)))), hc σ M' R) ∧ PB M M' ∧ CIv σ M' ∧ RS σ (M' 40 5) (M' 41) ∧ M' 40 5 ≤ 252 := by
  obtain ⟨M', e1, f1, f2, f3, f4⟩ := s_52 (xs := xs) (e := d) (R := R) O hC'.2.1
  refine ⟨M', ?_, Fr_PB f1 rfl, CIv_r hC' f2 f1, f3, f4⟩
  clear hC' f1 f2 f3 f4
  simp (disch := first | assumption | omega | exact st8_a (Nat.le_of_ble_eq_true rfl)) only [e1, eb_142_0, eb_142_1, xr_1, xr_2, xr_3, xr_4, xr_5, af_0, af_1, xt_ib, xt_ic, xt_ir, gF_0_7, gF_40_5, xq_52_5_virtualc, iN_add, iN_mul, iN_sub, iN_and, iN_or, iN_clr, iN_shl, iN_shr, tb_r1, b1_z, b1_or, b1_and, b1_or0, b1_or1, b1_0or, b1_t, b1_f, iN_lt, iN_inj, reduceIte, if_true, if_false, Nat.zero_add, Nat.add_zero, Bool.false_eq_true, Bool.true_eq_false, Nat.lt_irrefl, iN_az, not_true_eq_false, not_false_eq_true, Nat.reduceEqDiff, Nat.reduceLT, Nat.reduceAdd, Nat.reduceMul, Nat.reduceSub]
set_option maxRecDepth 100000 in
theorem s_143 (O : Ok σ) (hC' : CIv σ M) (hu : u < 4294967296) : ∃ M', ev xs (d + 22) 143 0 ([.ref 0, .int (nI u)], [], hc σ M R) = (if u < M' 40 5 then some (.inl (some (.int (nI (M' 41 u)))), hc σ M' R) else some (.inr 3, hc σ M' (R ++ [ex9]))) ∧ PB M M' ∧ CIv σ M' ∧ RS σ (M' 40 5) (M' 41) ∧ M' 40 5 ≤ 252 := by
  obtain ⟨M', e1, f1, f2, f3, f4⟩ := s_52 (xs := xs) (e := d) (R := R) O hC'.2.1
  refine ⟨M', ?_, Fr_PB f1 rfl, CIv_r hC' f2 f1, f3, f4⟩
  clear hC' f1 f2 f3
  by_cases h : u < M' 40 5
  · rw [if_pos h]
    simp (disch := first | assumption | omega | exact st8_a (Nat.le_of_ble_eq_true rfl)) only [Nat.not_lt_zero, e1, h, eb_143_0, eb_143_1, eb_143_2, eb_143_4, xr_1, xr_2, xr_28, xr_3, xr_4, xr_5, af_0, af_1, xt_ib, xt_ic, xt_ic_lt, xt_if_lt, xt_ir, xt_th, gF_0_7, gF_40_4, gF_40_5, gA_2, gA_3, gA_4, gA_5, gA_6, gA_7, gA_8, gA_9, gA_10, gA_11, gA_13, gA_14, gA_16, gA_17, gA_20, gA_21, gA_22, gA_23, gA_24, gA_25, gA_26, gA_27, gA_30, gA_31, gA_32, gA_33, gA_34, gA_35, gA_36, gA_38, gA_39, gA_41, gA_42, gA_46, gA_47, gA_49, gA_50, gA_51, gA_53, gA_56, gA_57, gA_59, gA_60, xq_52_5_virtualc, iN_add, iN_mul, iN_sub, iN_and, iN_or, iN_clr, iN_shl, iN_shr, tb_r1, b1_z, b1_or, b1_and, b1_or0, b1_or1, b1_0or, b1_t, b1_f, iN_lt, iN_inj, reduceIte, if_true, if_false, Nat.zero_add, Nat.add_zero, Bool.false_eq_true, Bool.true_eq_false, Nat.lt_irrefl, iN_az, not_true_eq_false, not_false_eq_true, Nat.reduceEqDiff, Nat.reduceLT, Nat.reduceAdd, Nat.reduceMul, Nat.reduceSub]
  · rw [if_neg h]
    by_cases h2 : 2147483648 ≤ u
    · simp (disch := first | assumption | omega | exact st8_a (Nat.le_of_ble_eq_true rfl)) only [eq_true (iN_neg h2 hu), e1, hc_app, eb_143_0, eb_143_1, eb_143_3, xr_1, xr_2, xr_28, xr_3, xr_4, xr_5, af_0, af_1, xt_ib, xt_ic, xt_ic_lt, xt_if_lt, xt_ir, xt_th, gF_0_7, gF_40_4, gF_40_5, gA_2, gA_3, gA_4, gA_5, gA_6, gA_7, gA_8, gA_9, gA_10, gA_11, gA_13, gA_14, gA_16, gA_17, gA_20, gA_21, gA_22, gA_23, gA_24, gA_25, gA_26, gA_27, gA_30, gA_31, gA_32, gA_33, gA_34, gA_35, gA_36, gA_38, gA_39, gA_41, gA_42, gA_46, gA_47, gA_49, gA_50, gA_51, gA_53, gA_56, gA_57, gA_59, gA_60, xq_52_5_virtualc, iN_add, iN_mul, iN_sub, iN_and, iN_or, iN_clr, iN_shl, iN_shr, tb_r1, b1_z, b1_or, b1_and, b1_or0, b1_or1, b1_0or, b1_t, b1_f, iN_lt, iN_inj, reduceIte, if_true, if_false, Nat.zero_add, Nat.add_zero, Bool.false_eq_true, Bool.true_eq_false, Nat.lt_irrefl, iN_az, not_true_eq_false, not_false_eq_true, Nat.reduceEqDiff, Nat.reduceLT, Nat.reduceAdd, Nat.reduceMul, Nat.reduceSub]
    · simp (disch := first | assumption | omega | exact st8_a (Nat.le_of_ble_eq_true rfl)) only [Nat.not_lt_zero, e1, h, hc_app, eb_143_0, eb_143_1, eb_143_2, eb_143_3, xr_1, xr_2, xr_28, xr_3, xr_4, xr_5, af_0, af_1, xt_ib, xt_ic, xt_ic_lt, xt_if_lt, xt_ir, xt_th, gF_0_7, gF_40_4, gF_40_5, gA_2, gA_3, gA_4, gA_5, gA_6, gA_7, gA_8, gA_9, gA_10, gA_11, gA_13, gA_14, gA_16, gA_17, gA_20, gA_21, gA_22, gA_23, gA_24, gA_25, gA_26, gA_27, gA_30, gA_31, gA_32, gA_33, gA_34, gA_35, gA_36, gA_38, gA_39, gA_41, gA_42, gA_46, gA_47, gA_49, gA_50, gA_51, gA_53, gA_56, gA_57, gA_59, gA_60, xq_52_5_virtualc, iN_add, iN_mul, iN_sub, iN_and, iN_or, iN_clr, iN_shl, iN_shr, tb_r1, b1_z, b1_or, b1_and, b1_or0, b1_or1, b1_0or, b1_t, b1_f, iN_lt, iN_inj, reduceIte, if_true, if_false, Nat.zero_add, Nat.add_zero, Bool.false_eq_true, Bool.true_eq_false, Nat.lt_irrefl, iN_az, not_true_eq_false, not_false_eq_true, Nat.reduceEqDiff, Nat.reduceLT, Nat.reduceAdd, Nat.reduceMul, Nat.reduceSub]
set_option maxRecDepth 100000 in
theorem s_144x (O : Ok σ) (hu : u < 4294967296) (h : ¬ u < (σ 1 7)) : ev xs (d + 1) 144 0 ([.ref 0, .int (nI u), .retAddr 9], [], hc σ M R) = some (.inr 2, hc σ M (R ++ [ex9])) := by
  have e := (s_171 (xs := xs) (d := d) (M := M) (R := R) O hu).2 h
  simp (disch := first | assumption | omega | exact st8_a (Nat.le_of_ble_eq_true rfl)) only [e, af_x, eb_144_0, kl_a, kl_d, kl_f, kl_i, kl_l, kl_n, kl_r, xr_1, xr_10, xr_2, xr_27, xr_28, xr_3, xr_30, xr_31, xr_4, xr_44, xr_5, xr_58, xr_64, xr_75, af_0, af_1, xt_goto, xt_ib, xt_ic, xt_if_eq, xt_if_ne, xt_ir, xt_nop, gF_0_0, gF_0_7, xq_171_11_virtualc, xq_50_5_virtualc, xq_56_6_virtualc, iN_add, iN_mul, iN_sub, iN_and, iN_or, iN_clr, iN_shl, iN_shr, tb_r1, b1_z, b1_or, b1_and, b1_or0, b1_or1, b1_0or, b1_t, b1_f, iN_lt, iN_inj, reduceIte, if_true, if_false, Nat.zero_add, Nat.add_zero, Bool.false_eq_true, Bool.true_eq_false, Nat.lt_irrefl, iN_az, not_true_eq_false, not_false_eq_true, Nat.reduceEqDiff, Nat.reduceLT, Nat.reduceAdd, Nat.reduceMul, Nat.reduceSub]
set_option maxRecDepth 100000 in
theorem s_144 (O : Ok σ) (hC' : CIv σ M) (hu : u < (σ 1 7)) : ∃ M', ∃ b : Bool, ev xs (d + 20) 144 0 ([.ref 0, .int (nI u), .retAddr 9], [], hc σ M R) = some (.inl (some (.int (nI (b1 b)))), hc σ M' R) ∧ PB M M' ∧ CIv σ M' ∧ (b = true ↔ ¬ KS σ (alr σ) ∧ KS σ (clr (alr σ) (1 <<< u))) := by
  obtain ⟨hD1, hD2, hH1, hH2, hS, hC, hT, hR, hL, hQ⟩ := Ok_b O
  have e := (s_171 (xs := xs) (d := d + 19) (M := M) (R := R) O (show u < 4294967296 by omega)).1 hu
  have e9 := s_56 (xs := xs) (d := d + 19) (M := M) (R := R) O
  rw [ea_r] at e9
  have hal := alr_lt O
  obtain ⟨N, c1, e1, f1, f2, f3⟩ := s_50 (xs := xs) (e := d) (R := R) (t := 4294967295) (y := 0) O hC'.1.1 hal (.inl rfl)
  rw [KS_KB] at f3
  cases c1
  · obtain ⟨K, c2, e2, g1, g2, g3⟩ := s_50 (xs := xs) (e := d) (R := R) (t := 4294967295) (y := 0) O f2 (clr_lt (n := 10) (b := 1 <<< u) hal) (.inl rfl)
    rw [KS_KB] at g3
    have fr : Fr TQS M K := Fr_t (Fr_w f1 fun a ha => by simp at ha ⊢; omega) (Fr_w g1 fun a ha => by simp at ha ⊢; omega)
    have hno : ¬ KS σ (alr σ) := fun z => by have := f3.mpr z; cases this
    refine ⟨K, c2, ?_, Fr_PB (Fr_t f1 g1) rfl, CIv_f hC' g2 fr, by rw [g3]; exact ⟨fun h => ⟨hno, h⟩, fun h => h.2⟩⟩
    clear hC' f1 f2 f3 g1 g2 g3 fr hno
    cases c2
    · simp (disch := first | assumption | omega | exact st8_a (Nat.le_of_ble_eq_true rfl)) only [e, e9, e1, e2, eb_144_0, eb_144_1, eb_144_2, eb_144_3, eb_144_4, eb_144_5, eb_144_7, eb_144_8, kl_a, kl_d, kl_f, kl_i, kl_l, kl_n, kl_r, xr_1, xr_10, xr_2, xr_27, xr_28, xr_3, xr_30, xr_31, xr_4, xr_44, xr_5, xr_58, xr_64, xr_75, af_0, af_1, xt_goto, xt_ib, xt_ic, xt_if_eq, xt_if_ne, xt_ir, xt_nop, gF_0_0, gF_0_7, xq_171_11_virtualc, xq_50_5_virtualc, xq_56_6_virtualc, iN_add, iN_mul, iN_sub, iN_and, iN_or, iN_clr, iN_shl, iN_shr, tb_r1, b1_z, b1_or, b1_and, b1_or0, b1_or1, b1_0or, b1_t, b1_f, iN_lt, iN_inj, reduceIte, if_true, if_false, Nat.zero_add, Nat.add_zero, Bool.false_eq_true, Bool.true_eq_false, Nat.lt_irrefl, iN_az, not_true_eq_false, not_false_eq_true, Nat.reduceEqDiff, Nat.reduceLT, Nat.reduceAdd, Nat.reduceMul, Nat.reduceSub]
    · simp (disch := first | assumption | omega | exact st8_a (Nat.le_of_ble_eq_true rfl)) only [e, e9, e1, e2, eb_144_0, eb_144_1, eb_144_2, eb_144_3, eb_144_4, eb_144_5, eb_144_6, eb_144_8, kl_a, kl_d, kl_f, kl_i, kl_l, kl_n, kl_r, xr_1, xr_10, xr_2, xr_27, xr_28, xr_3, xr_30, xr_31, xr_4, xr_44, xr_5, xr_58, xr_64, xr_75, af_0, af_1, xt_goto, xt_ib, xt_ic, xt_if_eq, xt_if_ne, xt_ir, xt_nop, gF_0_0, gF_0_7, xq_171_11_virtualc, xq_50_5_virtualc, xq_56_6_virtualc, iN_add, iN_mul, iN_sub, iN_and, iN_or, iN_clr, iN_shl, iN_shr, tb_r1, b1_z, b1_or, b1_and, b1_or0, b1_or1, b1_0or, b1_t, b1_f, iN_lt, iN_inj, reduceIte, if_true, if_false, Nat.zero_add, Nat.add_zero, Bool.false_eq_true, Bool.true_eq_false, Nat.lt_irrefl, iN_az, not_true_eq_false, not_false_eq_true, Nat.reduceEqDiff, Nat.reduceLT, Nat.reduceAdd, Nat.reduceMul, Nat.reduceSub]
  · refine ⟨N, false, ?_, Fr_PB f1 rfl, CIv_f hC' f2 (Fr_w f1 fun a ha => by simp at ha ⊢; omega), ⟨fun z => (by cases z), fun h => absurd (f3.mp rfl) h.1⟩⟩
    clear hC' f1 f2 f3
    simp (disch := first | assumption | omega | exact st8_a (Nat.le_of_ble_eq_true rfl)) only [e, e9, e1, eb_144_0, eb_144_1, eb_144_2, eb_144_3, eb_144_7, eb_144_8, kl_a, kl_d, kl_f, kl_i, kl_l, kl_n, kl_r, xr_1, xr_10, xr_2, xr_27, xr_28, xr_3, xr_30, xr_31, xr_4, xr_44, xr_5, xr_58, xr_64, xr_75, af_0, af_1, xt_goto, xt_ib, xt_ic, xt_if_eq, xt_if_ne, xt_ir, xt_nop, gF_0_0, gF_0_7, xq_171_11_virtualc, xq_50_5_virtualc, xq_56_6_virtualc, iN_add, iN_mul, iN_sub, iN_and, iN_or, iN_clr, iN_shl, iN_shr, tb_r1, b1_z, b1_or, b1_and, b1_or0, b1_or1, b1_0or, b1_t, b1_f, iN_lt, iN_inj, reduceIte, if_true, if_false, Nat.zero_add, Nat.add_zero, Bool.false_eq_true, Bool.true_eq_false, Nat.lt_irrefl, iN_az, not_true_eq_false, not_false_eq_true, Nat.reduceEqDiff, Nat.reduceLT, Nat.reduceAdd, Nat.reduceMul, Nat.reduceSub]
set_option maxRecDepth 100000 in
theorem s_150 (O : Ok σ) (hC' : CIv σ M) : ∃ M' v, ev xs (d + 7) 150 0 ([.ref 0], [], hc σ M R) = some (.inl (some (.int (nI (v)))), hc σ M' R) ∧ PB M M' ∧ CIv σ M' ∧ VS σ (M' 38) ∧ ((∃ l, l < (σ 1 6) ∧ M' 38 l = 0) ∧ v = 4294967295 ∨ (∀ l, l < (σ 1 6) → M' 38 l ≠ 0) ∧ v = sm (σ 1 6) (lwt σ (M' 38))) := by
  obtain ⟨M', e1, f1, f2, f3, f4⟩ := s_104 (xs := xs) (d := d) (R := R) O hC'.1
  obtain ⟨v, e2, q⟩ := s_107 (xs := xs) (d := d + 3) (R := R) O fun l hl => VS_sr f3 hl
  refine ⟨M', v, ?_, Fr_PB f1 rfl, CIv_v hC' f2 f1, f3, q⟩
  clear hC' f1 f2 f3 f4 q
  simp (disch := first | assumption | omega | exact st8_a (Nat.le_of_ble_eq_true rfl)) only [e1, e2, eb_150_0, eb_150_1, eb_150_2, xr_1, xr_2, xr_3, xr_4, xr_5, af_0, af_1, xt_ib, xt_ic, xt_ir, gF_0_6, xq_104_10_virtualc, xq_107_10_virtualc, iN_add, iN_mul, iN_sub, iN_and, iN_or, iN_clr, iN_shl, iN_shr, tb_r1, b1_z, b1_or, b1_and, b1_or0, b1_or1, b1_0or, b1_t, b1_f, iN_lt, iN_inj, reduceIte, if_true, if_false, Nat.zero_add, Nat.add_zero, Bool.false_eq_true, Bool.true_eq_false, Nat.lt_irrefl, iN_az, not_true_eq_false, not_false_eq_true, Nat.reduceEqDiff, Nat.reduceLT, Nat.reduceAdd, Nat.reduceMul, Nat.reduceSub]
set_option maxRecDepth 100000 in
theorem s_153x (O : Ok σ) (ht : t < 4294967296) (hy : y < 4294967296) (h : ¬ (t < (σ 1 4) ∧ y < (σ 1 0))) : ev xs (d + 1) 153 0 ([.ref 0, .int (nI t), .int (nI y)], [], hc σ M R) = some (.inr 2, hc σ M (R ++ [ex9])) := by
  by_cases h1 : t < (σ 1 4)
  · have e := (s_167 (xs := xs) (d := d) (M := M) (R := R) O ht).1 h1
    have e2 := (s_170 (xs := xs) (d := d) (M := M) (R := R) O hy).2 fun z => h ⟨h1, z⟩
    simp (disch := first | assumption | omega | exact st8_a (Nat.le_of_ble_eq_true rfl)) only [e, e2, af_x, eb_153_0, eb_153_1, xr_1, xr_2, xr_28, xr_3, xr_31, xr_4, xr_5, af_0, af_1, xt_ib, xt_ic, xt_ir, gF_0_7, xq_167_11_virtualc, xq_170_11_virtualc, xq_51_5_virtualc, iN_add, iN_mul, iN_sub, iN_and, iN_or, iN_clr, iN_shl, iN_shr, tb_r1, b1_z, b1_or, b1_and, b1_or0, b1_or1, b1_0or, b1_t, b1_f, iN_lt, iN_inj, reduceIte, if_true, if_false, Nat.zero_add, Nat.add_zero, Bool.false_eq_true, Bool.true_eq_false, Nat.lt_irrefl, iN_az, not_true_eq_false, not_false_eq_true, Nat.reduceEqDiff, Nat.reduceLT, Nat.reduceAdd, Nat.reduceMul, Nat.reduceSub]
  · have e := (s_167 (xs := xs) (d := d) (M := M) (R := R) O ht).2 h1
    simp (disch := first | assumption | omega | exact st8_a (Nat.le_of_ble_eq_true rfl)) only [e, af_x, eb_153_0, xr_1, xr_2, xr_28, xr_3, xr_31, xr_4, xr_5, af_0, af_1, xt_ib, xt_ic, xt_ir, gF_0_7, xq_167_11_virtualc, xq_170_11_virtualc, xq_51_5_virtualc, iN_add, iN_mul, iN_sub, iN_and, iN_or, iN_clr, iN_shl, iN_shr, tb_r1, b1_z, b1_or, b1_and, b1_or0, b1_or1, b1_0or, b1_t, b1_f, iN_lt, iN_inj, reduceIte, if_true, if_false, Nat.zero_add, Nat.add_zero, Bool.false_eq_true, Bool.true_eq_false, Nat.lt_irrefl, iN_az, not_true_eq_false, not_false_eq_true, Nat.reduceEqDiff, Nat.reduceLT, Nat.reduceAdd, Nat.reduceMul, Nat.reduceSub]
set_option maxRecDepth 100000 in
theorem s_153 (O : Ok σ) (hC' : CIv σ M) (ht : t < (σ 1 4)) (hy : y < (σ 1 0)) : ∃ M' v, ev xs (d + 21) 153 0 ([.ref 0, .int (nI t), .int (nI y)], [], hc σ M R) = some (.inl (some (.int (nI (v)))), hc σ M' R) ∧ PB M M' ∧ CIv σ M' ∧ ((KB σ t y (alr σ) ∧ v = 4294967295) ∨ (¬ KB σ t y (alr σ) ∧ v < 1024 ∧ ST σ t y (σ 1 7) (alr σ) v)) := by
  obtain ⟨hD1, hD2, hH1, hH2, hS, hC, hT, hR, hL, hQ⟩ := Ok_b O
  have a1 := (s_167 (xs := xs) (d := d + 20) (M := M) (R := R) O (show t < 4294967296 by omega)).1 ht
  have a2 := (s_170 (xs := xs) (d := d + 20) (M := M) (R := R) O (show y < 4294967296 by omega)).1 hy
  obtain ⟨M', v, e1, f1, f2, f3⟩ := s_51 (xs := xs) (e := d) (R := R) (t := t) (y := y) O hC'.1.1 (.inr ⟨ht, hy⟩)
  refine ⟨M', v, ?_, Fr_PB f1 rfl, CIv_f hC' f2 (Fr_w f1 fun a ha => by simp at ha ⊢; omega), f3⟩
  clear hC' f1 f2 f3
  simp (disch := first | assumption | omega | exact st8_a (Nat.le_of_ble_eq_true rfl)) only [a1, a2, e1, eb_153_0, eb_153_1, eb_153_2, eb_153_3, xr_1, xr_2, xr_28, xr_3, xr_31, xr_4, xr_5, af_0, af_1, xt_ib, xt_ic, xt_ir, gF_0_7, xq_167_11_virtualc, xq_170_11_virtualc, xq_51_5_virtualc, iN_add, iN_mul, iN_sub, iN_and, iN_or, iN_clr, iN_shl, iN_shr, tb_r1, b1_z, b1_or, b1_and, b1_or0, b1_or1, b1_0or, b1_t, b1_f, iN_lt, iN_inj, reduceIte, if_true, if_false, Nat.zero_add, Nat.add_zero, Bool.false_eq_true, Bool.true_eq_false, Nat.lt_irrefl, iN_az, not_true_eq_false, not_false_eq_true, Nat.reduceEqDiff, Nat.reduceLT, Nat.reduceAdd, Nat.reduceMul, Nat.reduceSub]
set_option maxRecDepth 100000 in
theorem s_152x (O : Ok σ) (ht : t < 4294967296) (hy : y < 4294967296) (h : ¬ (t < (σ 1 4) ∧ y < (σ 1 0))) : ev xs (d + 1) 152 0 ([.ref 0, .int (nI t), .int (nI y), .retAddr 9], [], hc σ M R) = some (.inr 2, hc σ M (R ++ [ex9])) := by
  by_cases h1 : t < (σ 1 4)
  · have e := (s_167 (xs := xs) (d := d) (M := M) (R := R) O ht).1 h1
    have e2 := (s_170 (xs := xs) (d := d) (M := M) (R := R) O hy).2 fun z => h ⟨h1, z⟩
    simp (disch := first | assumption | omega | exact st8_a (Nat.le_of_ble_eq_true rfl)) only [e, e2, af_x, eb_152_0, eb_152_1, kl_a, kl_d, kl_f, kl_i, kl_l, kl_n, kl_r, xr_1, xr_2, xr_28, xr_3, xr_31, xr_32, xr_37, xr_4, xr_5, xr_53, xr_54, af_0, af_1, xt_ib, xt_ic, xt_ir, gF_0_0, gF_0_1, gF_0_4, gF_0_5, xq_163_11_virtualc, xq_165_11_virtualc, xq_167_11_virtualc, xq_170_11_virtualc, xq_26_3_virtualc, xq_38_3_virtualc, xq_41_3_virtualc, xq_56_6_virtualc, xq_60_6_virtualc, xq_75_7_virtualc, iN_add, iN_mul, iN_sub, iN_and, iN_or, iN_clr, iN_shl, iN_shr, tb_r1, b1_z, b1_or, b1_and, b1_or0, b1_or1, b1_0or, b1_t, b1_f, iN_lt, iN_inj, reduceIte, if_true, if_false, Nat.zero_add, Nat.add_zero, Bool.false_eq_true, Bool.true_eq_false, Nat.lt_irrefl, iN_az, not_true_eq_false, not_false_eq_true, Nat.reduceEqDiff, Nat.reduceLT, Nat.reduceAdd, Nat.reduceMul, Nat.reduceSub]
  · have e := (s_167 (xs := xs) (d := d) (M := M) (R := R) O ht).2 h1
    simp (disch := first | assumption | omega | exact st8_a (Nat.le_of_ble_eq_true rfl)) only [e, af_x, eb_152_0, kl_a, kl_d, kl_f, kl_i, kl_l, kl_n, kl_r, xr_1, xr_2, xr_28, xr_3, xr_31, xr_32, xr_37, xr_4, xr_5, xr_53, xr_54, af_0, af_1, xt_ib, xt_ic, xt_ir, gF_0_0, gF_0_1, gF_0_4, gF_0_5, xq_163_11_virtualc, xq_165_11_virtualc, xq_167_11_virtualc, xq_170_11_virtualc, xq_26_3_virtualc, xq_38_3_virtualc, xq_41_3_virtualc, xq_56_6_virtualc, xq_60_6_virtualc, xq_75_7_virtualc, iN_add, iN_mul, iN_sub, iN_and, iN_or, iN_clr, iN_shl, iN_shr, tb_r1, b1_z, b1_or, b1_and, b1_or0, b1_or1, b1_0or, b1_t, b1_f, iN_lt, iN_inj, reduceIte, if_true, if_false, Nat.zero_add, Nat.add_zero, Bool.false_eq_true, Bool.true_eq_false, Nat.lt_irrefl, iN_az, not_true_eq_false, not_false_eq_true, Nat.reduceEqDiff, Nat.reduceLT, Nat.reduceAdd, Nat.reduceMul, Nat.reduceSub]
set_option maxRecDepth 100000 in
theorem s_152y (O : Ok σ) (ht : t < (σ 1 4)) (hy : y < (σ 1 0)) (h12 : M 12 0 = 0) : ev xs (d + 1) 152 0 ([.ref 0, .int (nI t), .int (nI y), .retAddr 9], [], hc σ M R) = some (.inr 1, hc σ M (R ++ [ex9])) := by
  obtain ⟨hD1, hD2, hH1, hH2, hS, hC, hT, hR, hL, hQ⟩ := Ok_b O
  have a1 := (s_167 (xs := xs) (d := d) (M := M) (R := R) O (show t < 4294967296 by omega)).1 ht
  have a2 := (s_170 (xs := xs) (d := d) (M := M) (R := R) O (show y < 4294967296 by omega)).1 hy
  have a3 := (s_165 (xs := xs) (d := d) (σ := σ) (M := M) (R := R) (by rw [h12]; decide)).2 (by omega)
  simp (disch := first | assumption | omega | exact st8_a (Nat.le_of_ble_eq_true rfl)) only [a1, a2, a3, af_x, eb_152_0, eb_152_1, eb_152_2, kl_a, kl_d, kl_f, kl_i, kl_l, kl_n, kl_r, xr_1, xr_2, xr_28, xr_3, xr_31, xr_32, xr_37, xr_4, xr_5, xr_53, xr_54, af_0, af_1, xt_ib, xt_ic, xt_ir, gF_0_0, gF_0_1, gF_0_4, gF_0_5, xq_163_11_virtualc, xq_165_11_virtualc, xq_167_11_virtualc, xq_170_11_virtualc, xq_26_3_virtualc, xq_38_3_virtualc, xq_41_3_virtualc, xq_56_6_virtualc, xq_60_6_virtualc, xq_75_7_virtualc, iN_add, iN_mul, iN_sub, iN_and, iN_or, iN_clr, iN_shl, iN_shr, tb_r1, b1_z, b1_or, b1_and, b1_or0, b1_or1, b1_0or, b1_t, b1_f, iN_lt, iN_inj, reduceIte, if_true, if_false, Nat.zero_add, Nat.add_zero, Bool.false_eq_true, Bool.true_eq_false, Nat.lt_irrefl, iN_az, not_true_eq_false, not_false_eq_true, Nat.reduceEqDiff, Nat.reduceLT, Nat.reduceAdd, Nat.reduceMul, Nat.reduceSub]
set_option maxRecDepth 100000 in
theorem areL (h : u < 4294967296) : u < 1 <<< (σ 1 6) ↔ ∀ i, u.testBit i = true → i < (σ 1 6) := by
  rw [Nat.one_shiftLeft]
  constructor
  · intro h i hi
    refine Nat.lt_of_not_le fun z => ?_
    rw [Nat.testBit_lt_two_pow (Nat.lt_of_lt_of_le h (Nat.pow_le_pow_right (by decide) z))] at hi
    cases hi
  · exact mask_lt
set_option maxRecDepth 100000 in
theorem L64 (O : Ok σ) (h : u < 1 <<< (σ 1 6)) : u < 64 := by
  obtain ⟨hD1, hD2, hH1, hH2, hS, hC, hT, hR, hL, hQ⟩ := Ok_b O
  rw [Nat.one_shiftLeft] at h
  exact Nat.lt_of_lt_of_le h (Nat.pow_le_pow_right (n := 2) (j := 6) (by decide) hL)
set_option maxRecDepth 100000 in
theorem s_156x (O : Ok σ) (hu : u < 4294967296) (h : ¬ u < 1 <<< (σ 1 6)) : ev xs (d + 1) 156 0 ([.ref 0, .int (nI u)], [], hc σ M R) = some (.inr 0, hc σ M (R ++ [ex9])) := by
  have e := s_57 (xs := xs) (d := d) (M := M) (R := R) O hu
  rw [decide_eq_false h] at e
  simp (disch := first | assumption | omega | exact st8_a (Nat.le_of_ble_eq_true rfl)) only [e, hc_app, eb_156_0, eb_156_1, eb_156_2, xr_1, xr_2, xr_28, xr_3, xr_4, xr_5, af_0, af_1, xt_ib, xt_ic, xt_if_ne, xt_ir, xt_th, gF_0_0, gF_0_10, xq_57_6_virtualc, xq_9_1_virtualc, iN_add, iN_mul, iN_sub, iN_and, iN_or, iN_clr, iN_shl, iN_shr, tb_r1, b1_z, b1_or, b1_and, b1_or0, b1_or1, b1_0or, b1_t, b1_f, iN_lt, iN_inj, reduceIte, if_true, if_false, Nat.zero_add, Nat.add_zero, Bool.false_eq_true, Bool.true_eq_false, Nat.lt_irrefl, iN_az, not_true_eq_false, not_false_eq_true, Nat.reduceEqDiff, Nat.reduceLT, Nat.reduceAdd, Nat.reduceMul, Nat.reduceSub]
set_option maxRecDepth 100000 in
theorem s_156 (O : Ok σ) (hC' : CIv σ M) (h : u < 1 <<< (σ 1 6)) : ∃ f v, ev xs (d + 10) 156 0 ([.ref 0, .int (nI u)], [], hc σ M R) = some (.inl (some (.int (nI (v)))), hc σ (ur M 53 f) R) ∧ (∀ j, f j < 4294967296) ∧ v ≤ 6 ∧ XS σ u f v := by
  have h64 := L64 O h
  have e := s_57 (xs := xs) (d := d + 9) (M := M) (R := R) O (show u < 4294967296 by omega)
  rw [decide_eq_true h] at e
  obtain ⟨f, v, e1, q⟩ := s_9 (xs := xs) (d := d) (R := R) O h64 hC'.2.2.2
  refine ⟨f, v, ?_, q⟩
  clear hC' q h
  simp (disch := first | assumption | omega | exact st8_a (Nat.le_of_ble_eq_true rfl)) only [e, e1, eb_156_0, eb_156_1, eb_156_3, eb_156_4, xr_1, xr_2, xr_28, xr_3, xr_4, xr_5, af_0, af_1, xt_ib, xt_ic, xt_if_ne, xt_ir, xt_th, gF_0_0, gF_0_10, xq_57_6_virtualc, xq_9_1_virtualc, iN_add, iN_mul, iN_sub, iN_and, iN_or, iN_clr, iN_shl, iN_shr, tb_r1, b1_z, b1_or, b1_and, b1_or0, b1_or1, b1_0or, b1_t, b1_f, iN_lt, iN_inj, reduceIte, if_true, if_false, Nat.zero_add, Nat.add_zero, Bool.false_eq_true, Bool.true_eq_false, Nat.lt_irrefl, iN_az, not_true_eq_false, not_false_eq_true, Nat.reduceEqDiff, Nat.reduceLT, Nat.reduceAdd, Nat.reduceMul, Nat.reduceSub]
set_option maxRecDepth 100000 in
theorem s_157x (O : Ok σ) (hu : u < 4294967296) (hl : l < 4294967296) (h : ¬ l < (σ 1 6)) : ev xs (d + 1) 157 0 ([.ref 0, .int (nI u), .int (nI l)], [], hc σ M R) = some (.inr 2, hc σ M (R ++ [ex9])) := by
  have e := (s_166 (xs := xs) (d := d) (M := M) (R := R) O hl).2 h
  simp (disch := first | assumption | omega | exact st8_a (Nat.le_of_ble_eq_true rfl)) only [e, af_x, eb_157_0, xr_1, xr_2, xr_27, xr_28, xr_3, xr_31, xr_4, xr_44, xr_5, xr_53, xr_54, xr_55, af_0, af_1, xt_ib, xt_ic, xt_if_eq, xt_if_ne, xt_ir, xt_th, gF_0_0, gF_0_10, gF_52_1, gA_2, gA_3, gA_4, gA_5, gA_6, gA_7, gA_8, gA_9, gA_10, gA_11, gA_13, gA_14, gA_16, gA_17, gA_20, gA_21, gA_22, gA_23, gA_24, gA_25, gA_26, gA_27, gA_30, gA_31, gA_32, gA_33, gA_34, gA_35, gA_36, gA_38, gA_39, gA_41, gA_42, gA_46, gA_47, gA_49, gA_50, gA_51, gA_53, gA_56, gA_57, gA_59, gA_60, xq_166_11_virtualc, xq_57_6_virtualc, xq_9_1_virtualc, iN_add, iN_mul, iN_sub, iN_and, iN_or, iN_clr, iN_shl, iN_shr, tb_r1, b1_z, b1_or, b1_and, b1_or0, b1_or1, b1_0or, b1_t, b1_f, iN_lt, iN_inj, reduceIte, if_true, if_false, Nat.zero_add, Nat.add_zero, Bool.false_eq_true, Bool.true_eq_false, Nat.lt_irrefl, iN_az, not_true_eq_false, not_false_eq_true, Nat.reduceEqDiff, Nat.reduceLT, Nat.reduceAdd, Nat.reduceMul, Nat.reduceSub]
set_option maxRecDepth 100000 in
theorem s_157y (O : Ok σ) (hu : u < 4294967296) (hl : l < (σ 1 6)) (h : ¬ (u < 1 <<< (σ 1 6) ∧ u.testBit l = true)) : ev xs (d + 1) 157 0 ([.ref 0, .int (nI u), .int (nI l)], [], hc σ M R) = some (.inr 0, hc σ M (R ++ [ex9])) := by
  obtain ⟨hD1, hD2, hH1, hH2, hS, hC, hT, hR, hL, hQ⟩ := Ok_b O
  have e := (s_166 (xs := xs) (d := d) (M := M) (R := R) O (show l < 4294967296 by omega)).1 hl
  have e2 := s_57 (xs := xs) (d := d) (M := M) (R := R) O hu
  by_cases h1 : u < 1 <<< (σ 1 6)
  · have h64 := L64 O h1
    have h2 : u.testBit l = false := by
      cases h3 : u.testBit l
      · rfl
      · exact absurd ⟨h1, h3⟩ h
    rw [decide_eq_true h1] at e2
    clear h h1
    simp (disch := first | assumption | omega | exact st8_a (Nat.le_of_ble_eq_true rfl)) only [e, e2, h2, hc_app, eb_157_0, eb_157_1, eb_157_2, eb_157_3, eb_157_4, xr_1, xr_2, xr_27, xr_28, xr_3, xr_31, xr_4, xr_44, xr_5, xr_53, xr_54, xr_55, af_0, af_1, xt_ib, xt_ic, xt_if_eq, xt_if_ne, xt_ir, xt_th, gF_0_0, gF_0_10, gF_52_1, gA_2, gA_3, gA_4, gA_5, gA_6, gA_7, gA_8, gA_9, gA_10, gA_11, gA_13, gA_14, gA_16, gA_17, gA_20, gA_21, gA_22, gA_23, gA_24, gA_25, gA_26, gA_27, gA_30, gA_31, gA_32, gA_33, gA_34, gA_35, gA_36, gA_38, gA_39, gA_41, gA_42, gA_46, gA_47, gA_49, gA_50, gA_51, gA_53, gA_56, gA_57, gA_59, gA_60, xq_166_11_virtualc, xq_57_6_virtualc, xq_9_1_virtualc, iN_add, iN_mul, iN_sub, iN_and, iN_or, iN_clr, iN_shl, iN_shr, tb_r1, b1_z, b1_or, b1_and, b1_or0, b1_or1, b1_0or, b1_t, b1_f, iN_lt, iN_inj, reduceIte, if_true, if_false, Nat.zero_add, Nat.add_zero, Bool.false_eq_true, Bool.true_eq_false, Nat.lt_irrefl, iN_az, not_true_eq_false, not_false_eq_true, Nat.reduceEqDiff, Nat.reduceLT, Nat.reduceAdd, Nat.reduceMul, Nat.reduceSub]
  · rw [decide_eq_false h1] at e2
    clear h h1
    simp (disch := first | assumption | omega | exact st8_a (Nat.le_of_ble_eq_true rfl)) only [e, e2, hc_app, eb_157_0, eb_157_1, eb_157_2, eb_157_4, xr_1, xr_2, xr_27, xr_28, xr_3, xr_31, xr_4, xr_44, xr_5, xr_53, xr_54, xr_55, af_0, af_1, xt_ib, xt_ic, xt_if_eq, xt_if_ne, xt_ir, xt_th, gF_0_0, gF_0_10, gF_52_1, gA_2, gA_3, gA_4, gA_5, gA_6, gA_7, gA_8, gA_9, gA_10, gA_11, gA_13, gA_14, gA_16, gA_17, gA_20, gA_21, gA_22, gA_23, gA_24, gA_25, gA_26, gA_27, gA_30, gA_31, gA_32, gA_33, gA_34, gA_35, gA_36, gA_38, gA_39, gA_41, gA_42, gA_46, gA_47, gA_49, gA_50, gA_51, gA_53, gA_56, gA_57, gA_59, gA_60, xq_166_11_virtualc, xq_57_6_virtualc, xq_9_1_virtualc, iN_add, iN_mul, iN_sub, iN_and, iN_or, iN_clr, iN_shl, iN_shr, tb_r1, b1_z, b1_or, b1_and, b1_or0, b1_or1, b1_0or, b1_t, b1_f, iN_lt, iN_inj, reduceIte, if_true, if_false, Nat.zero_add, Nat.add_zero, Bool.false_eq_true, Bool.true_eq_false, Nat.lt_irrefl, iN_az, not_true_eq_false, not_false_eq_true, Nat.reduceEqDiff, Nat.reduceLT, Nat.reduceAdd, Nat.reduceMul, Nat.reduceSub]
set_option maxRecDepth 100000 in
theorem s_157 (O : Ok σ) (hC' : CIv σ M) (hl : l < (σ 1 6)) (h : u < 1 <<< (σ 1 6)) (h2 : u.testBit l = true) : ∃ f v, ev xs (d + 10) 157 0 ([.ref 0, .int (nI u), .int (nI l)], [], hc σ M R) = some (.inl (some (.int (nI (f l)))), hc σ (ur M 53 f) R) ∧ (∀ j, f j < 4294967296) ∧ v ≤ 6 ∧ XS σ u f v := by
  obtain ⟨hD1, hD2, hH1, hH2, hS, hC, hT, hR, hL, hQ⟩ := Ok_b O
  have h64 := L64 O h
  have e := (s_166 (xs := xs) (d := d + 9) (M := M) (R := R) O (show l < 4294967296 by omega)).1 hl
  have e2 := s_57 (xs := xs) (d := d + 9) (M := M) (R := R) O (show u < 4294967296 by omega)
  rw [decide_eq_true h] at e2
  obtain ⟨f, v, e1, q⟩ := s_9 (xs := xs) (d := d) (R := R) O h64 hC'.2.2.2
  refine ⟨f, v, ?_, q⟩
  clear hC' q h
  simp (disch := first | assumption | omega | exact st8_a (Nat.le_of_ble_eq_true rfl)) only [e, e2, e1, h2, ur_s, eb_157_0, eb_157_1, eb_157_2, eb_157_3, eb_157_5, eb_157_6, xr_1, xr_2, xr_27, xr_28, xr_3, xr_31, xr_4, xr_44, xr_5, xr_53, xr_54, xr_55, af_0, af_1, xt_ib, xt_ic, xt_if_eq, xt_if_ne, xt_ir, xt_th, gF_0_0, gF_0_10, gF_52_1, gA_2, gA_3, gA_4, gA_5, gA_6, gA_7, gA_8, gA_9, gA_10, gA_11, gA_13, gA_14, gA_16, gA_17, gA_20, gA_21, gA_22, gA_23, gA_24, gA_25, gA_26, gA_27, gA_30, gA_31, gA_32, gA_33, gA_34, gA_35, gA_36, gA_38, gA_39, gA_41, gA_42, gA_46, gA_47, gA_49, gA_50, gA_51, gA_53, gA_56, gA_57, gA_59, gA_60, xq_166_11_virtualc, xq_57_6_virtualc, xq_9_1_virtualc, iN_add, iN_mul, iN_sub, iN_and, iN_or, iN_clr, iN_shl, iN_shr, tb_r1, b1_z, b1_or, b1_and, b1_or0, b1_or1, b1_0or, b1_t, b1_f, iN_lt, iN_inj, reduceIte, if_true, if_false, Nat.zero_add, Nat.add_zero, Bool.false_eq_true, Bool.true_eq_false, Nat.lt_irrefl, iN_az, not_true_eq_false, not_false_eq_true, Nat.reduceEqDiff, Nat.reduceLT, Nat.reduceAdd, Nat.reduceMul, Nat.reduceSub]
end Cld
