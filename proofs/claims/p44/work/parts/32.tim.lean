/-! LOOPS OF School; Timetable; Integer.bitCount, Arrays.fill -/
section Tm
variable {xs : List Int32} {d : Nat} {σ M : Nat → Nat → Nat} {R : ab_H} {l o s u r q t : Nat} {h : ab_H}
set_option maxRecDepth 100000 in
theorem s_57 (O : Ok σ) (hu : u < 4294967296) : ev xs d 57 0 ([.ref 1, .int (nI u)], [], hc σ M R) = some (.inl (some (.int (nI (b1 (decide (u < 1 <<< (σ 1 6))))))), hc σ M R) := by
  obtain ⟨hD1, hD2, hH1, hH2, hS, hC, hT, hR, hL, hQ⟩ := Ok_b O
  have h1 : 1 <<< (σ 1 6) < 2 ^ 7 := s1_lt (by omega)
  have h2 : (2 : Nat) ^ 7 = 128 := rfl
  by_cases h3 : 2147483648 ≤ u
  · have h4 : ¬ u < 1 <<< (σ 1 6) := by omega
    have h5 : (u + 2147483648) % 4294967296 < (0 + 2147483648) % 4294967296 := by omega
    simp (disch := first | assumption | omega | exact st8_a (Nat.le_of_ble_eq_true rfl)) only [iN_ltg, h4, h5, decide_false, eb_57_0, eb_57_1, eb_57_2, eb_57_3, eb_57_4, xr_1, xr_10, xr_2, xr_27, xr_28, xr_3, xr_4, xr_5, xr_58, xt_goto, xt_ib, xt_ic, xt_ic_ge, xt_if_lt, xt_ir, xt_nop, gF_1_6, iN_add, iN_mul, iN_sub, iN_and, iN_or, iN_clr, iN_shl, iN_shr, tb_r1, b1_z, b1_or, b1_and, b1_or0, b1_or1, b1_0or, b1_t, b1_f, iN_inj, reduceIte, if_true, if_false, Nat.zero_add, Nat.add_zero, Bool.false_eq_true, Bool.true_eq_false, Nat.lt_irrefl, iN_az, not_true_eq_false, not_false_eq_true, Nat.reduceEqDiff, Nat.reduceLT, Nat.reduceAdd, Nat.reduceMul, Nat.reduceSub]
  · by_cases h4 : u < 1 <<< (σ 1 6)
    · simp (disch := first | assumption | omega | exact st8_a (Nat.le_of_ble_eq_true rfl)) only [h4, decide_true, Nat.not_lt_zero, eb_57_0, eb_57_1, eb_57_2, eb_57_3, eb_57_4, xr_1, xr_10, xr_2, xr_27, xr_28, xr_3, xr_4, xr_5, xr_58, xt_goto, xt_ib, xt_ic, xt_ic_ge, xt_if_lt, xt_ir, xt_nop, gF_1_6, iN_add, iN_mul, iN_sub, iN_and, iN_or, iN_clr, iN_shl, iN_shr, tb_r1, b1_z, b1_or, b1_and, b1_or0, b1_or1, b1_0or, b1_t, b1_f, iN_lt, iN_inj, reduceIte, if_true, if_false, Nat.zero_add, Nat.add_zero, Bool.false_eq_true, Bool.true_eq_false, Nat.lt_irrefl, iN_az, not_true_eq_false, not_false_eq_true, Nat.reduceEqDiff, Nat.reduceLT, Nat.reduceAdd, Nat.reduceMul, Nat.reduceSub]
    · simp (disch := first | assumption | omega | exact st8_a (Nat.le_of_ble_eq_true rfl)) only [h4, decide_false, Nat.not_lt_zero, eb_57_0, eb_57_1, eb_57_2, eb_57_3, eb_57_4, xr_1, xr_10, xr_2, xr_27, xr_28, xr_3, xr_4, xr_5, xr_58, xt_goto, xt_ib, xt_ic, xt_ic_ge, xt_if_lt, xt_ir, xt_nop, gF_1_6, iN_add, iN_mul, iN_sub, iN_and, iN_or, iN_clr, iN_shl, iN_shr, tb_r1, b1_z, b1_or, b1_and, b1_or0, b1_or1, b1_0or, b1_t, b1_f, iN_lt, iN_inj, reduceIte, if_true, if_false, Nat.zero_add, Nat.add_zero, Bool.false_eq_true, Bool.true_eq_false, Nat.lt_irrefl, iN_az, not_true_eq_false, not_false_eq_true, Nat.reduceEqDiff, Nat.reduceLT, Nat.reduceAdd, Nat.reduceMul, Nat.reduceSub]
set_option maxRecDepth 100000 in
theorem lh_or (O : Ok σ) : lh σ = orn (σ 1 0) fun y => 1 <<< (y * (σ 1 1) + (σ 1 1) - 1) := by
  obtain ⟨hD1, hD2, hH1, hH2, hS, hC, hT, hR, hL, hQ⟩ := Ok_b O
  have h1 : (σ 1 1) = 1 ∨ (σ 1 1) = 2 ∨ (σ 1 1) = 3 := by omega
  have h2 : (σ 1 0) = 1 ∨ (σ 1 0) = 2 := by omega
  unfold lh
  rcases h1 with h | h | h <;> rw [h] <;> rcases h2 with h2 | h2 <;> rw [h2] <;> decide
set_option maxRecDepth 100000 in
theorem s_61 (O : Ok σ) : ev xs d 61 0 ([.ref 1, .retAddr 9, .retAddr 9], [], hc σ M R) = some (.inl (some (.int (nI (lh σ)))), hc σ M R) := by
  obtain ⟨hD1, hD2, hH1, hH2, hS, hC, hT, hR, hL, hQ⟩ := Ok_b O
  rw [lh_or O]
  have key : ev xs d 61 1 ([.ref 1, .int (nI (orn 0 fun y => 1 <<< (y * (σ 1 1) + (σ 1 1) - 1))), .int (nI 0)], [], hc σ M R) = some (.inl (some (.int (nI (orn (σ 1 0) fun y => 1 <<< (y * (σ 1 1) + (σ 1 1) - 1))))), hc σ M R) := by
    refine lp0 (P := fun k => ev xs d 61 1 ([.ref 1, .int (nI (orn k fun y => 1 <<< (y * (σ 1 1) + (σ 1 1) - 1))), .int (nI k)], [], hc σ M R) = some (.inl (some (.int (nI (orn (σ 1 0) fun y => 1 <<< (y * (σ 1 1) + (σ 1 1) - 1))))), hc σ M R)) (σ 1 0) ?_ ?_
    · rw [eb_61_1]
      simp (disch := first | assumption | omega | exact st8_a (Nat.le_of_ble_eq_true rfl)) only [eb_61_0, eb_61_2, eb_61_3, kl_a, kl_d, kl_f, kl_i, kl_l, kl_n, kl_r, xr_1, xr_10, xr_2, xr_27, xr_28, xr_29, xr_3, xr_30, xr_31, xr_38, xr_4, xr_41, xr_42, xr_45, xr_5, xr_58, xr_77, xt_goto, xt_ib, xt_ic, xt_ic_ge, xt_ir, xt_nop, gF_1_0, gF_1_1, iN_add, iN_mul, iN_sub, iN_and, iN_or, iN_clr, iN_shl, iN_shr, tb_r1, b1_z, b1_or, b1_and, b1_or0, b1_or1, b1_0or, b1_t, b1_f, iN_lt, iN_inj, reduceIte, if_true, if_false, Nat.zero_add, Nat.add_zero, Bool.false_eq_true, Bool.true_eq_false, Nat.lt_irrefl, iN_az, not_true_eq_false, not_false_eq_true, Nat.reduceEqDiff, Nat.reduceLT, Nat.reduceAdd, Nat.reduceMul, Nat.reduceSub]
    · intro k hk ih
      have h3 : k * (σ 1 1) < 10 := by
        have : k = 0 ∨ k = 1 := by omega
        rcases this with rfl | rfl <;> omega
      have h4 : 1 ≤ k * (σ 1 1) + (σ 1 1) := by omega
      have h5 : k * (σ 1 1) + (σ 1 1) - 1 < 32 := by omega
      rw [eb_61_1]
      simp (disch := first | assumption | omega | exact st8_a (Nat.le_of_ble_eq_true rfl)) only [hk, eb_61_0, eb_61_2, eb_61_3, kl_a, kl_d, kl_f, kl_i, kl_l, kl_n, kl_r, xr_1, xr_10, xr_2, xr_27, xr_28, xr_29, xr_3, xr_30, xr_31, xr_38, xr_4, xr_41, xr_42, xr_45, xr_5, xr_58, xr_77, xt_goto, xt_ib, xt_ic, xt_ic_ge, xt_ir, xt_nop, gF_1_0, gF_1_1, iN_add, iN_mul, iN_sub, iN_and, iN_or, iN_clr, iN_shl, iN_shr, tb_r1, b1_z, b1_or, b1_and, b1_or0, b1_or1, b1_0or, b1_t, b1_f, iN_lt, iN_inj, reduceIte, if_true, if_false, Nat.zero_add, Nat.add_zero, Bool.false_eq_true, Bool.true_eq_false, Nat.lt_irrefl, iN_az, not_true_eq_false, not_false_eq_true, Nat.reduceEqDiff, Nat.reduceLT, Nat.reduceAdd, Nat.reduceMul, Nat.reduceSub]
      exact ih
  simp (disch := first | assumption | omega | exact st8_a (Nat.le_of_ble_eq_true rfl)) only [eb_61_0, eb_61_2, eb_61_3, kl_a, kl_d, kl_f, kl_i, kl_l, kl_n, kl_r, xr_1, xr_10, xr_2, xr_27, xr_28, xr_29, xr_3, xr_30, xr_31, xr_38, xr_4, xr_41, xr_42, xr_45, xr_5, xr_58, xr_77, xt_goto, xt_ib, xt_ic, xt_ic_ge, xt_ir, xt_nop, gF_1_0, gF_1_1, iN_add, iN_mul, iN_sub, iN_and, iN_or, iN_clr, iN_shl, iN_shr, tb_r1, b1_z, b1_or, b1_and, b1_or0, b1_or1, b1_0or, b1_t, b1_f, iN_lt, iN_inj, reduceIte, if_true, if_false, Nat.zero_add, Nat.add_zero, Bool.false_eq_true, Bool.true_eq_false, Nat.lt_irrefl, iN_az, not_true_eq_false, not_false_eq_true, Nat.reduceEqDiff, Nat.reduceLT, Nat.reduceAdd, Nat.reduceMul, Nat.reduceSub]
  exact key
set_option maxRecDepth 100000 in
theorem s_68 (O : Ok σ) (hl : l < (σ 1 6)) (hs : s < (σ 1 2)) (hr : r < (σ 1 5)) : ev xs (d + 1) 68 0 ([.ref 1, .int (nI l), .int (nI s), .int (nI r), .retAddr 9, .retAddr 9], [], hc σ M R) = some (.inl (some (.int (nI (wv σ l s r)))), hc σ M R) := by
  obtain ⟨hD1, hD2, hH1, hH2, hS, hC, hT, hR, hL, hQ⟩ := Ok_b O
  obtain ⟨h1, h2, h3⟩ := Ok_l O hl
  have h4 := Ok_c O h1
  have h5 := las_lt (l := l) hs
  have h8 : ¬ r = 4294967295 := by omega
  by_cases h6 : σ 3 (σ 5 l) = 4294967295
  · simp (disch := first | assumption | omega | exact st8_a (Nat.le_of_ble_eq_true rfl)) only [s_62 O hl hs, s_59 O h5, wv, h6, ne_eq, false_and, eb_68_0, eb_68_1, eb_68_2, eb_68_3, eb_68_4, eb_68_5, eb_68_6, eb_68_7, eb_68_8, eb_68_9, kl_a, kl_d, kl_f, kl_i, kl_l, kl_n, kl_r, xr_1, xr_10, xr_2, xr_27, xr_28, xr_3, xr_31, xr_33, xr_34, xr_35, xr_36, xr_37, xr_38, xr_4, xr_41, xr_5, xr_64, af_0, af_1, xt_goto, xt_ib, xt_ic, xt_ic_eq, xt_if_eq, xt_ir, xt_nop, gF_1_10, gF_1_12, gF_1_18, gA_2, gA_3, gA_4, gA_5, gA_6, gA_7, gA_8, gA_9, gA_10, gA_11, gA_13, gA_14, gA_16, gA_17, gA_20, gA_21, gA_22, gA_23, gA_24, gA_25, gA_26, gA_27, gA_30, gA_31, gA_32, gA_33, gA_34, gA_35, gA_36, gA_38, gA_39, gA_41, gA_42, gA_46, gA_47, gA_49, gA_50, gA_51, gA_53, gA_56, gA_57, gA_59, gA_60, xq_59_6_virtualc, xq_62_6_virtualc, iN_add, iN_mul, iN_sub, iN_and, iN_or, iN_clr, iN_shl, iN_shr, tb_r1, b1_z, b1_or, b1_and, b1_or0, b1_or1, b1_0or, b1_t, b1_f, iN_lt, iN_inj, reduceIte, if_true, if_false, Nat.zero_add, Nat.add_zero, Bool.false_eq_true, Bool.true_eq_false, Nat.lt_irrefl, iN_az, not_true_eq_false, not_false_eq_true, Nat.reduceEqDiff, Nat.reduceLT, Nat.reduceAdd, Nat.reduceMul, Nat.reduceSub]
  · by_cases h7 : σ 3 (σ 5 l) = r
    · simp (disch := first | assumption | omega | exact st8_a (Nat.le_of_ble_eq_true rfl)) only [s_62 O hl hs, s_59 O h5, wv, h6, h7, h8, ne_eq, and_false, eb_68_0, eb_68_1, eb_68_2, eb_68_3, eb_68_4, eb_68_5, eb_68_6, eb_68_7, eb_68_8, eb_68_9, kl_a, kl_d, kl_f, kl_i, kl_l, kl_n, kl_r, xr_1, xr_10, xr_2, xr_27, xr_28, xr_3, xr_31, xr_33, xr_34, xr_35, xr_36, xr_37, xr_38, xr_4, xr_41, xr_5, xr_64, af_0, af_1, xt_goto, xt_ib, xt_ic, xt_ic_eq, xt_if_eq, xt_ir, xt_nop, gF_1_10, gF_1_12, gF_1_18, gA_2, gA_3, gA_4, gA_5, gA_6, gA_7, gA_8, gA_9, gA_10, gA_11, gA_13, gA_14, gA_16, gA_17, gA_20, gA_21, gA_22, gA_23, gA_24, gA_25, gA_26, gA_27, gA_30, gA_31, gA_32, gA_33, gA_34, gA_35, gA_36, gA_38, gA_39, gA_41, gA_42, gA_46, gA_47, gA_49, gA_50, gA_51, gA_53, gA_56, gA_57, gA_59, gA_60, xq_59_6_virtualc, xq_62_6_virtualc, iN_add, iN_mul, iN_sub, iN_and, iN_or, iN_clr, iN_shl, iN_shr, tb_r1, b1_z, b1_or, b1_and, b1_or0, b1_or1, b1_0or, b1_t, b1_f, iN_lt, iN_inj, reduceIte, if_true, if_false, Nat.zero_add, Nat.add_zero, Bool.false_eq_true, Bool.true_eq_false, Nat.lt_irrefl, iN_az, not_true_eq_false, not_false_eq_true, Nat.reduceEqDiff, Nat.reduceLT, Nat.reduceAdd, Nat.reduceMul, Nat.reduceSub]
    · simp (disch := first | assumption | omega | exact st8_a (Nat.le_of_ble_eq_true rfl)) only [s_62 O hl hs, s_59 O h5, wv, h6, h7, h8, ne_eq, and_true, eb_68_0, eb_68_1, eb_68_2, eb_68_3, eb_68_4, eb_68_5, eb_68_6, eb_68_7, eb_68_8, eb_68_9, kl_a, kl_d, kl_f, kl_i, kl_l, kl_n, kl_r, xr_1, xr_10, xr_2, xr_27, xr_28, xr_3, xr_31, xr_33, xr_34, xr_35, xr_36, xr_37, xr_38, xr_4, xr_41, xr_5, xr_64, af_0, af_1, xt_goto, xt_ib, xt_ic, xt_ic_eq, xt_if_eq, xt_ir, xt_nop, gF_1_10, gF_1_12, gF_1_18, gA_2, gA_3, gA_4, gA_5, gA_6, gA_7, gA_8, gA_9, gA_10, gA_11, gA_13, gA_14, gA_16, gA_17, gA_20, gA_21, gA_22, gA_23, gA_24, gA_25, gA_26, gA_27, gA_30, gA_31, gA_32, gA_33, gA_34, gA_35, gA_36, gA_38, gA_39, gA_41, gA_42, gA_46, gA_47, gA_49, gA_50, gA_51, gA_53, gA_56, gA_57, gA_59, gA_60, xq_59_6_virtualc, xq_62_6_virtualc, iN_add, iN_mul, iN_sub, iN_and, iN_or, iN_clr, iN_shl, iN_shr, tb_r1, b1_z, b1_or, b1_and, b1_or0, b1_or1, b1_0or, b1_t, b1_f, iN_lt, iN_inj, reduceIte, if_true, if_false, Nat.zero_add, Nat.add_zero, Bool.false_eq_true, Bool.true_eq_false, Nat.lt_irrefl, iN_az, not_true_eq_false, not_false_eq_true, Nat.reduceEqDiff, Nat.reduceLT, Nat.reduceAdd, Nat.reduceMul, Nat.reduceSub]
set_option maxRecDepth 100000 in
theorem s_72 (O : Ok σ) (hq : q < (σ 1 7)) (h2 : 2 ≤ σ 8 q) (h5 : σ 8 q ≤ 5) (ha : σ 9 q < (σ 1 6)) (hb : σ 10 q < (σ 1 6)) (hs : s < (σ 1 2)) (hu : u < (σ 1 2)) : ev xs (d + 1) 72 0 ([.ref 1, .int (nI q), .int (nI s), .int (nI u), .retAddr 9, .retAddr 9], [], hc σ M R) = some (.inl (some (.int (nI (b1 (kp2 σ q s u))))), hc σ M R) := by
  obtain ⟨hD1, hD2, hH1, hH2, hS, hC, hT, hR, hL, hQ⟩ := Ok_b O
  have h6 := las_lt (l := σ 9 q) hs
  have h7 := las_lt (l := σ 10 q) hu
  have k1 : dy σ s < 2 := by unfold dy; split <;> omega
  have k2 : dy σ u < 2 := by unfold dy; split <;> omega
  have h8 : σ 8 q = 2 ∨ σ 8 q = 3 ∨ σ 8 q = 4 ∨ σ 8 q = 5 := by omega
  unfold kp2
  rcases h8 with h8 | h8 | h8 | h8
  · by_cases e : s = u
    · simp (disch := first | assumption | omega | exact st8_a (Nat.le_of_ble_eq_true rfl)) only [s_62 O ha hs, h8, eq_true e, decide_true, eb_72_0, eb_72_1, eb_72_2, eb_72_3, eb_72_4, eb_72_5, eb_72_6, eb_72_7, eb_72_8, eb_72_9, eb_72_10, eb_72_11, eb_72_12, eb_72_13, eb_72_14, eb_72_15, eb_72_16, eb_72_17, eb_72_18, eb_72_19, eb_72_20, eb_72_21, eb_72_22, eb_72_23, eb_72_24, kl_a, kl_d, kl_f, kl_i, kl_l, kl_n, kl_r, xr_1, xr_10, xr_2, xr_27, xr_28, xr_3, xr_31, xr_33, xr_34, xr_35, xr_36, xr_37, xr_38, xr_4, xr_5, af_0, af_1, xt_goto, xt_ib, xt_ic, xt_ic_eq, xt_ic_ge, xt_ic_ne, xt_ir, xt_nop, xt_t0, xt_t2, sw_72_1_0, sw_72_1_1, sw_72_1_2, sw_72_1_3, sw_72_1_4, sw_72_1_5, sw_72_1_6, gF_1_15, gF_1_16, gF_1_17, gA_2, gA_3, gA_4, gA_5, gA_6, gA_7, gA_8, gA_9, gA_10, gA_11, gA_13, gA_14, gA_16, gA_17, gA_20, gA_21, gA_22, gA_23, gA_24, gA_25, gA_26, gA_27, gA_30, gA_31, gA_32, gA_33, gA_34, gA_35, gA_36, gA_38, gA_39, gA_41, gA_42, gA_46, gA_47, gA_49, gA_50, gA_51, gA_53, gA_56, gA_57, gA_59, gA_60, xq_58_6_virtualc, xq_62_6_virtualc, iN_add, iN_mul, iN_sub, iN_and, iN_or, iN_clr, iN_shl, iN_shr, tb_r1, b1_z, b1_or, b1_and, b1_or0, b1_or1, b1_0or, b1_t, b1_f, iN_lt, iN_inj, reduceIte, if_true, if_false, Nat.zero_add, Nat.add_zero, Bool.false_eq_true, Bool.true_eq_false, Nat.lt_irrefl, iN_az, not_true_eq_false, not_false_eq_true, Nat.reduceEqDiff, Nat.reduceLT, Nat.reduceAdd, Nat.reduceMul, Nat.reduceSub]
    · simp (disch := first | assumption | omega | exact st8_a (Nat.le_of_ble_eq_true rfl)) only [s_62 O ha hs, h8, e, decide_false, eb_72_0, eb_72_1, eb_72_2, eb_72_3, eb_72_4, eb_72_5, eb_72_6, eb_72_7, eb_72_8, eb_72_9, eb_72_10, eb_72_11, eb_72_12, eb_72_13, eb_72_14, eb_72_15, eb_72_16, eb_72_17, eb_72_18, eb_72_19, eb_72_20, eb_72_21, eb_72_22, eb_72_23, eb_72_24, kl_a, kl_d, kl_f, kl_i, kl_l, kl_n, kl_r, xr_1, xr_10, xr_2, xr_27, xr_28, xr_3, xr_31, xr_33, xr_34, xr_35, xr_36, xr_37, xr_38, xr_4, xr_5, af_0, af_1, xt_goto, xt_ib, xt_ic, xt_ic_eq, xt_ic_ge, xt_ic_ne, xt_ir, xt_nop, xt_t0, xt_t2, sw_72_1_0, sw_72_1_1, sw_72_1_2, sw_72_1_3, sw_72_1_4, sw_72_1_5, sw_72_1_6, gF_1_15, gF_1_16, gF_1_17, gA_2, gA_3, gA_4, gA_5, gA_6, gA_7, gA_8, gA_9, gA_10, gA_11, gA_13, gA_14, gA_16, gA_17, gA_20, gA_21, gA_22, gA_23, gA_24, gA_25, gA_26, gA_27, gA_30, gA_31, gA_32, gA_33, gA_34, gA_35, gA_36, gA_38, gA_39, gA_41, gA_42, gA_46, gA_47, gA_49, gA_50, gA_51, gA_53, gA_56, gA_57, gA_59, gA_60, xq_58_6_virtualc, xq_62_6_virtualc, iN_add, iN_mul, iN_sub, iN_and, iN_or, iN_clr, iN_shl, iN_shr, tb_r1, b1_z, b1_or, b1_and, b1_or0, b1_or1, b1_0or, b1_t, b1_f, iN_lt, iN_inj, reduceIte, if_true, if_false, Nat.zero_add, Nat.add_zero, Bool.false_eq_true, Bool.true_eq_false, Nat.lt_irrefl, iN_az, not_true_eq_false, not_false_eq_true, Nat.reduceEqDiff, Nat.reduceLT, Nat.reduceAdd, Nat.reduceMul, Nat.reduceSub]
  · by_cases e : dy σ s = dy σ u
    · simp (disch := first | assumption | omega | exact st8_a (Nat.le_of_ble_eq_true rfl)) only [s_62 O ha hs, s_58 O hs, s_58 O hu, h8, eq_true e, Nat.reduceEqDiff, ne_eq, decide_false, eb_72_0, eb_72_1, eb_72_2, eb_72_3, eb_72_4, eb_72_5, eb_72_6, eb_72_7, eb_72_8, eb_72_9, eb_72_10, eb_72_11, eb_72_12, eb_72_13, eb_72_14, eb_72_15, eb_72_16, eb_72_17, eb_72_18, eb_72_19, eb_72_20, eb_72_21, eb_72_22, eb_72_23, eb_72_24, kl_a, kl_d, kl_f, kl_i, kl_l, kl_n, kl_r, xr_1, xr_10, xr_2, xr_27, xr_28, xr_3, xr_31, xr_33, xr_34, xr_35, xr_36, xr_37, xr_38, xr_4, xr_5, af_0, af_1, xt_goto, xt_ib, xt_ic, xt_ic_eq, xt_ic_ge, xt_ic_ne, xt_ir, xt_nop, xt_t0, xt_t2, sw_72_1_0, sw_72_1_1, sw_72_1_2, sw_72_1_3, sw_72_1_4, sw_72_1_5, sw_72_1_6, gF_1_15, gF_1_16, gF_1_17, gA_2, gA_3, gA_4, gA_5, gA_6, gA_7, gA_8, gA_9, gA_10, gA_11, gA_13, gA_14, gA_16, gA_17, gA_20, gA_21, gA_22, gA_23, gA_24, gA_25, gA_26, gA_27, gA_30, gA_31, gA_32, gA_33, gA_34, gA_35, gA_36, gA_38, gA_39, gA_41, gA_42, gA_46, gA_47, gA_49, gA_50, gA_51, gA_53, gA_56, gA_57, gA_59, gA_60, xq_58_6_virtualc, xq_62_6_virtualc, iN_add, iN_mul, iN_sub, iN_and, iN_or, iN_clr, iN_shl, iN_shr, tb_r1, b1_z, b1_or, b1_and, b1_or0, b1_or1, b1_0or, b1_t, b1_f, iN_lt, iN_inj, reduceIte, if_true, if_false, Nat.zero_add, Nat.add_zero, Bool.false_eq_true, Bool.true_eq_false, Nat.lt_irrefl, iN_az, not_true_eq_false, not_false_eq_true, Nat.reduceLT, Nat.reduceAdd, Nat.reduceMul, Nat.reduceSub]
    · simp (disch := first | assumption | omega | exact st8_a (Nat.le_of_ble_eq_true rfl)) only [s_62 O ha hs, s_58 O hs, s_58 O hu, h8, e, Nat.reduceEqDiff, ne_eq, decide_true, eb_72_0, eb_72_1, eb_72_2, eb_72_3, eb_72_4, eb_72_5, eb_72_6, eb_72_7, eb_72_8, eb_72_9, eb_72_10, eb_72_11, eb_72_12, eb_72_13, eb_72_14, eb_72_15, eb_72_16, eb_72_17, eb_72_18, eb_72_19, eb_72_20, eb_72_21, eb_72_22, eb_72_23, eb_72_24, kl_a, kl_d, kl_f, kl_i, kl_l, kl_n, kl_r, xr_1, xr_10, xr_2, xr_27, xr_28, xr_3, xr_31, xr_33, xr_34, xr_35, xr_36, xr_37, xr_38, xr_4, xr_5, af_0, af_1, xt_goto, xt_ib, xt_ic, xt_ic_eq, xt_ic_ge, xt_ic_ne, xt_ir, xt_nop, xt_t0, xt_t2, sw_72_1_0, sw_72_1_1, sw_72_1_2, sw_72_1_3, sw_72_1_4, sw_72_1_5, sw_72_1_6, gF_1_15, gF_1_16, gF_1_17, gA_2, gA_3, gA_4, gA_5, gA_6, gA_7, gA_8, gA_9, gA_10, gA_11, gA_13, gA_14, gA_16, gA_17, gA_20, gA_21, gA_22, gA_23, gA_24, gA_25, gA_26, gA_27, gA_30, gA_31, gA_32, gA_33, gA_34, gA_35, gA_36, gA_38, gA_39, gA_41, gA_42, gA_46, gA_47, gA_49, gA_50, gA_51, gA_53, gA_56, gA_57, gA_59, gA_60, xq_58_6_virtualc, xq_62_6_virtualc, iN_add, iN_mul, iN_sub, iN_and, iN_or, iN_clr, iN_shl, iN_shr, tb_r1, b1_z, b1_or, b1_and, b1_or0, b1_or1, b1_0or, b1_t, b1_f, iN_lt, iN_inj, reduceIte, if_true, if_false, Nat.zero_add, Nat.add_zero, Bool.false_eq_true, Bool.true_eq_false, Nat.lt_irrefl, iN_az, not_true_eq_false, not_false_eq_true, Nat.reduceLT, Nat.reduceAdd, Nat.reduceMul, Nat.reduceSub]
  · by_cases e : las σ (σ 9 q) s < u
    · simp (disch := first | assumption | omega | exact st8_a (Nat.le_of_ble_eq_true rfl)) only [s_62 O ha hs, h8, e, Nat.reduceEqDiff, decide_true, eb_72_0, eb_72_1, eb_72_2, eb_72_3, eb_72_4, eb_72_5, eb_72_6, eb_72_7, eb_72_8, eb_72_9, eb_72_10, eb_72_11, eb_72_12, eb_72_13, eb_72_14, eb_72_15, eb_72_16, eb_72_17, eb_72_18, eb_72_19, eb_72_20, eb_72_21, eb_72_22, eb_72_23, eb_72_24, kl_a, kl_d, kl_f, kl_i, kl_l, kl_n, kl_r, xr_1, xr_10, xr_2, xr_27, xr_28, xr_3, xr_31, xr_33, xr_34, xr_35, xr_36, xr_37, xr_38, xr_4, xr_5, af_0, af_1, xt_goto, xt_ib, xt_ic, xt_ic_eq, xt_ic_ge, xt_ic_ne, xt_ir, xt_nop, xt_t0, xt_t2, sw_72_1_0, sw_72_1_1, sw_72_1_2, sw_72_1_3, sw_72_1_4, sw_72_1_5, sw_72_1_6, gF_1_15, gF_1_16, gF_1_17, gA_2, gA_3, gA_4, gA_5, gA_6, gA_7, gA_8, gA_9, gA_10, gA_11, gA_13, gA_14, gA_16, gA_17, gA_20, gA_21, gA_22, gA_23, gA_24, gA_25, gA_26, gA_27, gA_30, gA_31, gA_32, gA_33, gA_34, gA_35, gA_36, gA_38, gA_39, gA_41, gA_42, gA_46, gA_47, gA_49, gA_50, gA_51, gA_53, gA_56, gA_57, gA_59, gA_60, xq_58_6_virtualc, xq_62_6_virtualc, iN_add, iN_mul, iN_sub, iN_and, iN_or, iN_clr, iN_shl, iN_shr, tb_r1, b1_z, b1_or, b1_and, b1_or0, b1_or1, b1_0or, b1_t, b1_f, iN_lt, iN_inj, reduceIte, if_true, if_false, Nat.zero_add, Nat.add_zero, Bool.false_eq_true, Bool.true_eq_false, Nat.lt_irrefl, iN_az, not_true_eq_false, not_false_eq_true, Nat.reduceLT, Nat.reduceAdd, Nat.reduceMul, Nat.reduceSub]
    · simp (disch := first | assumption | omega | exact st8_a (Nat.le_of_ble_eq_true rfl)) only [s_62 O ha hs, h8, e, Nat.reduceEqDiff, decide_false, eb_72_0, eb_72_1, eb_72_2, eb_72_3, eb_72_4, eb_72_5, eb_72_6, eb_72_7, eb_72_8, eb_72_9, eb_72_10, eb_72_11, eb_72_12, eb_72_13, eb_72_14, eb_72_15, eb_72_16, eb_72_17, eb_72_18, eb_72_19, eb_72_20, eb_72_21, eb_72_22, eb_72_23, eb_72_24, kl_a, kl_d, kl_f, kl_i, kl_l, kl_n, kl_r, xr_1, xr_10, xr_2, xr_27, xr_28, xr_3, xr_31, xr_33, xr_34, xr_35, xr_36, xr_37, xr_38, xr_4, xr_5, af_0, af_1, xt_goto, xt_ib, xt_ic, xt_ic_eq, xt_ic_ge, xt_ic_ne, xt_ir, xt_nop, xt_t0, xt_t2, sw_72_1_0, sw_72_1_1, sw_72_1_2, sw_72_1_3, sw_72_1_4, sw_72_1_5, sw_72_1_6, gF_1_15, gF_1_16, gF_1_17, gA_2, gA_3, gA_4, gA_5, gA_6, gA_7, gA_8, gA_9, gA_10, gA_11, gA_13, gA_14, gA_16, gA_17, gA_20, gA_21, gA_22, gA_23, gA_24, gA_25, gA_26, gA_27, gA_30, gA_31, gA_32, gA_33, gA_34, gA_35, gA_36, gA_38, gA_39, gA_41, gA_42, gA_46, gA_47, gA_49, gA_50, gA_51, gA_53, gA_56, gA_57, gA_59, gA_60, xq_58_6_virtualc, xq_62_6_virtualc, iN_add, iN_mul, iN_sub, iN_and, iN_or, iN_clr, iN_shl, iN_shr, tb_r1, b1_z, b1_or, b1_and, b1_or0, b1_or1, b1_0or, b1_t, b1_f, iN_lt, iN_inj, reduceIte, if_true, if_false, Nat.zero_add, Nat.add_zero, Bool.false_eq_true, Bool.true_eq_false, Nat.lt_irrefl, iN_az, not_true_eq_false, not_false_eq_true, Nat.reduceLT, Nat.reduceAdd, Nat.reduceMul, Nat.reduceSub]
  · by_cases e : dy σ s = dy σ u
    · by_cases e1 : u = las σ (σ 9 q) s + 1
      · simp (disch := first | assumption | omega | exact st8_a (Nat.le_of_ble_eq_true rfl)) only [s_62 O ha hs, s_62 O hb hu, s_58 O hs, s_58 O hu, h8, eq_true e, eq_true e1, Nat.reduceEqDiff, decide_true, Bool.true_or, Bool.true_and, eb_72_0, eb_72_1, eb_72_2, eb_72_3, eb_72_4, eb_72_5, eb_72_6, eb_72_7, eb_72_8, eb_72_9, eb_72_10, eb_72_11, eb_72_12, eb_72_13, eb_72_14, eb_72_15, eb_72_16, eb_72_17, eb_72_18, eb_72_19, eb_72_20, eb_72_21, eb_72_22, eb_72_23, eb_72_24, kl_a, kl_d, kl_f, kl_i, kl_l, kl_n, kl_r, xr_1, xr_10, xr_2, xr_27, xr_28, xr_3, xr_31, xr_33, xr_34, xr_35, xr_36, xr_37, xr_38, xr_4, xr_5, af_0, af_1, xt_goto, xt_ib, xt_ic, xt_ic_eq, xt_ic_ge, xt_ic_ne, xt_ir, xt_nop, xt_t0, xt_t2, sw_72_1_0, sw_72_1_1, sw_72_1_2, sw_72_1_3, sw_72_1_4, sw_72_1_5, sw_72_1_6, gF_1_15, gF_1_16, gF_1_17, gA_2, gA_3, gA_4, gA_5, gA_6, gA_7, gA_8, gA_9, gA_10, gA_11, gA_13, gA_14, gA_16, gA_17, gA_20, gA_21, gA_22, gA_23, gA_24, gA_25, gA_26, gA_27, gA_30, gA_31, gA_32, gA_33, gA_34, gA_35, gA_36, gA_38, gA_39, gA_41, gA_42, gA_46, gA_47, gA_49, gA_50, gA_51, gA_53, gA_56, gA_57, gA_59, gA_60, xq_58_6_virtualc, xq_62_6_virtualc, iN_add, iN_mul, iN_sub, iN_and, iN_or, iN_clr, iN_shl, iN_shr, tb_r1, b1_z, b1_or, b1_and, b1_or0, b1_or1, b1_0or, b1_t, b1_f, iN_lt, iN_inj, reduceIte, if_true, if_false, Nat.zero_add, Nat.add_zero, Bool.false_eq_true, Bool.true_eq_false, Nat.lt_irrefl, iN_az, not_true_eq_false, not_false_eq_true, Nat.reduceLT, Nat.reduceAdd, Nat.reduceMul, Nat.reduceSub]
      · by_cases e2 : s = las σ (σ 10 q) u + 1
        · simp (disch := first | assumption | omega | exact st8_a (Nat.le_of_ble_eq_true rfl)) only [s_62 O ha hs, s_62 O hb hu, s_58 O hs, s_58 O hu, h8, eq_true e, e1, eq_true e2, Nat.reduceEqDiff, decide_true, decide_false, Bool.false_or, Bool.true_and, eb_72_0, eb_72_1, eb_72_2, eb_72_3, eb_72_4, eb_72_5, eb_72_6, eb_72_7, eb_72_8, eb_72_9, eb_72_10, eb_72_11, eb_72_12, eb_72_13, eb_72_14, eb_72_15, eb_72_16, eb_72_17, eb_72_18, eb_72_19, eb_72_20, eb_72_21, eb_72_22, eb_72_23, eb_72_24, kl_a, kl_d, kl_f, kl_i, kl_l, kl_n, kl_r, xr_1, xr_10, xr_2, xr_27, xr_28, xr_3, xr_31, xr_33, xr_34, xr_35, xr_36, xr_37, xr_38, xr_4, xr_5, af_0, af_1, xt_goto, xt_ib, xt_ic, xt_ic_eq, xt_ic_ge, xt_ic_ne, xt_ir, xt_nop, xt_t0, xt_t2, sw_72_1_0, sw_72_1_1, sw_72_1_2, sw_72_1_3, sw_72_1_4, sw_72_1_5, sw_72_1_6, gF_1_15, gF_1_16, gF_1_17, gA_2, gA_3, gA_4, gA_5, gA_6, gA_7, gA_8, gA_9, gA_10, gA_11, gA_13, gA_14, gA_16, gA_17, gA_20, gA_21, gA_22, gA_23, gA_24, gA_25, gA_26, gA_27, gA_30, gA_31, gA_32, gA_33, gA_34, gA_35, gA_36, gA_38, gA_39, gA_41, gA_42, gA_46, gA_47, gA_49, gA_50, gA_51, gA_53, gA_56, gA_57, gA_59, gA_60, xq_58_6_virtualc, xq_62_6_virtualc, iN_add, iN_mul, iN_sub, iN_and, iN_or, iN_clr, iN_shl, iN_shr, tb_r1, b1_z, b1_or, b1_and, b1_or0, b1_or1, b1_0or, b1_t, b1_f, iN_lt, iN_inj, reduceIte, if_true, if_false, Nat.zero_add, Nat.add_zero, Bool.false_eq_true, Bool.true_eq_false, Nat.lt_irrefl, iN_az, not_true_eq_false, not_false_eq_true, Nat.reduceLT, Nat.reduceAdd, Nat.reduceMul, Nat.reduceSub]
        · simp (disch := first | assumption | omega | exact st8_a (Nat.le_of_ble_eq_true rfl)) only [s_62 O ha hs, s_62 O hb hu, s_58 O hs, s_58 O hu, h8, eq_true e, e1, e2, Nat.reduceEqDiff, decide_true, decide_false, Bool.false_or, Bool.true_and, eb_72_0, eb_72_1, eb_72_2, eb_72_3, eb_72_4, eb_72_5, eb_72_6, eb_72_7, eb_72_8, eb_72_9, eb_72_10, eb_72_11, eb_72_12, eb_72_13, eb_72_14, eb_72_15, eb_72_16, eb_72_17, eb_72_18, eb_72_19, eb_72_20, eb_72_21, eb_72_22, eb_72_23, eb_72_24, kl_a, kl_d, kl_f, kl_i, kl_l, kl_n, kl_r, xr_1, xr_10, xr_2, xr_27, xr_28, xr_3, xr_31, xr_33, xr_34, xr_35, xr_36, xr_37, xr_38, xr_4, xr_5, af_0, af_1, xt_goto, xt_ib, xt_ic, xt_ic_eq, xt_ic_ge, xt_ic_ne, xt_ir, xt_nop, xt_t0, xt_t2, sw_72_1_0, sw_72_1_1, sw_72_1_2, sw_72_1_3, sw_72_1_4, sw_72_1_5, sw_72_1_6, gF_1_15, gF_1_16, gF_1_17, gA_2, gA_3, gA_4, gA_5, gA_6, gA_7, gA_8, gA_9, gA_10, gA_11, gA_13, gA_14, gA_16, gA_17, gA_20, gA_21, gA_22, gA_23, gA_24, gA_25, gA_26, gA_27, gA_30, gA_31, gA_32, gA_33, gA_34, gA_35, gA_36, gA_38, gA_39, gA_41, gA_42, gA_46, gA_47, gA_49, gA_50, gA_51, gA_53, gA_56, gA_57, gA_59, gA_60, xq_58_6_virtualc, xq_62_6_virtualc, iN_add, iN_mul, iN_sub, iN_and, iN_or, iN_clr, iN_shl, iN_shr, tb_r1, b1_z, b1_or, b1_and, b1_or0, b1_or1, b1_0or, b1_t, b1_f, iN_lt, iN_inj, reduceIte, if_true, if_false, Nat.zero_add, Nat.add_zero, Bool.false_eq_true, Bool.true_eq_false, Nat.lt_irrefl, iN_az, not_true_eq_false, not_false_eq_true, Nat.reduceLT, Nat.reduceAdd, Nat.reduceMul, Nat.reduceSub]
    · simp (disch := first | assumption | omega | exact st8_a (Nat.le_of_ble_eq_true rfl)) only [s_62 O ha hs, s_62 O hb hu, s_58 O hs, s_58 O hu, h8, e, Nat.reduceEqDiff, decide_false, Bool.false_and, eb_72_0, eb_72_1, eb_72_2, eb_72_3, eb_72_4, eb_72_5, eb_72_6, eb_72_7, eb_72_8, eb_72_9, eb_72_10, eb_72_11, eb_72_12, eb_72_13, eb_72_14, eb_72_15, eb_72_16, eb_72_17, eb_72_18, eb_72_19, eb_72_20, eb_72_21, eb_72_22, eb_72_23, eb_72_24, kl_a, kl_d, kl_f, kl_i, kl_l, kl_n, kl_r, xr_1, xr_10, xr_2, xr_27, xr_28, xr_3, xr_31, xr_33, xr_34, xr_35, xr_36, xr_37, xr_38, xr_4, xr_5, af_0, af_1, xt_goto, xt_ib, xt_ic, xt_ic_eq, xt_ic_ge, xt_ic_ne, xt_ir, xt_nop, xt_t0, xt_t2, sw_72_1_0, sw_72_1_1, sw_72_1_2, sw_72_1_3, sw_72_1_4, sw_72_1_5, sw_72_1_6, gF_1_15, gF_1_16, gF_1_17, gA_2, gA_3, gA_4, gA_5, gA_6, gA_7, gA_8, gA_9, gA_10, gA_11, gA_13, gA_14, gA_16, gA_17, gA_20, gA_21, gA_22, gA_23, gA_24, gA_25, gA_26, gA_27, gA_30, gA_31, gA_32, gA_33, gA_34, gA_35, gA_36, gA_38, gA_39, gA_41, gA_42, gA_46, gA_47, gA_49, gA_50, gA_51, gA_53, gA_56, gA_57, gA_59, gA_60, xq_58_6_virtualc, xq_62_6_virtualc, iN_add, iN_mul, iN_sub, iN_and, iN_or, iN_clr, iN_shl, iN_shr, tb_r1, b1_z, b1_or, b1_and, b1_or0, b1_or1, b1_0or, b1_t, b1_f, iN_lt, iN_inj, reduceIte, if_true, if_false, Nat.zero_add, Nat.add_zero, Bool.false_eq_true, Bool.true_eq_false, Nat.lt_irrefl, iN_az, not_true_eq_false, not_false_eq_true, Nat.reduceLT, Nat.reduceAdd, Nat.reduceMul, Nat.reduceSub]
set_option maxRecDepth 100000 in
theorem iN_ush {a k : Nat} (ha : a < 4294967296) (hk : k < 32) : ((nI a).toUInt32 >>> ((nI k).toUInt32 &&& Int32.toUInt32 31)).toInt32 = nI (a >>> k) := by
  have e : ∀ k, k < 32 → ((nI k).toUInt32 &&& Int32.toUInt32 31).toNat % 32 = k := by decide +kernel
  apply Int32.toBitVec_inj.1
  apply BitVec.eq_of_toNat_eq
  rw [iN_bv, BitVec.toNat_ofNat]
  show ((nI a).toUInt32 >>> ((nI k).toUInt32 &&& Int32.toUInt32 31)).toNat = _
  rw [UInt32.toNat_shiftRight, e k hk]
  show (BitVec.ofNat 32 a).toNat >>> k = _
  rw [BitVec.toNat_ofNat, Nat.mod_eq_of_lt ha, Nat.mod_eq_of_lt]
  exact Nat.lt_of_le_of_lt (Nat.shiftRight_le a k) ha
def swa (a : Nat) : Nat := a - ((a >>> 1) &&& 1431655765)
def swb (a : Nat) : Nat := (a &&& 858993459) + ((a >>> 2) &&& 858993459)
def swc (a : Nat) : Nat := (a + (a >>> 4)) &&& 252645135
def swd (a : Nat) : Nat := a + (a >>> 8)
def swe (a : Nat) : Nat := a + (a >>> 16)
set_option maxRecDepth 100000 in
theorem sw_0 : ∀ b, b < 64 → Nat.beq (swe (swd (swc (swb (swa (0 + b))))) &&& 63) (pc 10 (0 + b)) = true := by decide +kernel
set_option maxRecDepth 100000 in
theorem sw_1 : ∀ b, b < 64 → Nat.beq (swe (swd (swc (swb (swa (64 + b))))) &&& 63) (pc 10 (64 + b)) = true := by decide +kernel
set_option maxRecDepth 100000 in
theorem sw_2 : ∀ b, b < 64 → Nat.beq (swe (swd (swc (swb (swa (128 + b))))) &&& 63) (pc 10 (128 + b)) = true := by decide +kernel
set_option maxRecDepth 100000 in
theorem sw_3 : ∀ b, b < 64 → Nat.beq (swe (swd (swc (swb (swa (192 + b))))) &&& 63) (pc 10 (192 + b)) = true := by decide +kernel
set_option maxRecDepth 100000 in
theorem sw_4 : ∀ b, b < 64 → Nat.beq (swe (swd (swc (swb (swa (256 + b))))) &&& 63) (pc 10 (256 + b)) = true := by decide +kernel
set_option maxRecDepth 100000 in
theorem sw_5 : ∀ b, b < 64 → Nat.beq (swe (swd (swc (swb (swa (320 + b))))) &&& 63) (pc 10 (320 + b)) = true := by decide +kernel
set_option maxRecDepth 100000 in
theorem sw_6 : ∀ b, b < 64 → Nat.beq (swe (swd (swc (swb (swa (384 + b))))) &&& 63) (pc 10 (384 + b)) = true := by decide +kernel
set_option maxRecDepth 100000 in
theorem sw_7 : ∀ b, b < 64 → Nat.beq (swe (swd (swc (swb (swa (448 + b))))) &&& 63) (pc 10 (448 + b)) = true := by decide +kernel
set_option maxRecDepth 100000 in
theorem sw_8 : ∀ b, b < 64 → Nat.beq (swe (swd (swc (swb (swa (512 + b))))) &&& 63) (pc 10 (512 + b)) = true := by decide +kernel
set_option maxRecDepth 100000 in
theorem sw_9 : ∀ b, b < 64 → Nat.beq (swe (swd (swc (swb (swa (576 + b))))) &&& 63) (pc 10 (576 + b)) = true := by decide +kernel
set_option maxRecDepth 100000 in
theorem sw_10 : ∀ b, b < 64 → Nat.beq (swe (swd (swc (swb (swa (640 + b))))) &&& 63) (pc 10 (640 + b)) = true := by decide +kernel
set_option maxRecDepth 100000 in
theorem sw_11 : ∀ b, b < 64 → Nat.beq (swe (swd (swc (swb (swa (704 + b))))) &&& 63) (pc 10 (704 + b)) = true := by decide +kernel
set_option maxRecDepth 100000 in
theorem sw_12 : ∀ b, b < 64 → Nat.beq (swe (swd (swc (swb (swa (768 + b))))) &&& 63) (pc 10 (768 + b)) = true := by decide +kernel
set_option maxRecDepth 100000 in
theorem sw_13 : ∀ b, b < 64 → Nat.beq (swe (swd (swc (swb (swa (832 + b))))) &&& 63) (pc 10 (832 + b)) = true := by decide +kernel
set_option maxRecDepth 100000 in
theorem sw_14 : ∀ b, b < 64 → Nat.beq (swe (swd (swc (swb (swa (896 + b))))) &&& 63) (pc 10 (896 + b)) = true := by decide +kernel
set_option maxRecDepth 100000 in
theorem sw_15 : ∀ b, b < 64 → Nat.beq (swe (swd (swc (swb (swa (960 + b))))) &&& 63) (pc 10 (960 + b)) = true := by decide +kernel
set_option maxRecDepth 100000 in
theorem sw_k : ∀ a, a < 1024 → (swe (swd (swc (swb (swa a)))) &&& 63) = pc 10 a := by
  intro a ha
  apply Nat.eq_of_beq_eq_true
  have h : a / 64 = 0 ∨ a / 64 = 1 ∨ a / 64 = 2 ∨ a / 64 = 3 ∨ a / 64 = 4 ∨ a / 64 = 5 ∨ a / 64 = 6 ∨ a / 64 = 7 ∨ a / 64 = 8 ∨ a / 64 = 9 ∨ a / 64 = 10 ∨ a / 64 = 11 ∨ a / 64 = 12 ∨ a / 64 = 13 ∨ a / 64 = 14 ∨ a / 64 = 15 := by omega
  rcases h with h | h | h | h | h | h | h | h | h | h | h | h | h | h | h | h
  · have := sw_0 (a - 0) (by omega)
    rwa [show 0 + (a - 0) = a by omega] at this
  · have := sw_1 (a - 64) (by omega)
    rwa [show 64 + (a - 64) = a by omega] at this
  · have := sw_2 (a - 128) (by omega)
    rwa [show 128 + (a - 128) = a by omega] at this
  · have := sw_3 (a - 192) (by omega)
    rwa [show 192 + (a - 192) = a by omega] at this
  · have := sw_4 (a - 256) (by omega)
    rwa [show 256 + (a - 256) = a by omega] at this
  · have := sw_5 (a - 320) (by omega)
    rwa [show 320 + (a - 320) = a by omega] at this
  · have := sw_6 (a - 384) (by omega)
    rwa [show 384 + (a - 384) = a by omega] at this
  · have := sw_7 (a - 448) (by omega)
    rwa [show 448 + (a - 448) = a by omega] at this
  · have := sw_8 (a - 512) (by omega)
    rwa [show 512 + (a - 512) = a by omega] at this
  · have := sw_9 (a - 576) (by omega)
    rwa [show 576 + (a - 576) = a by omega] at this
  · have := sw_10 (a - 640) (by omega)
    rwa [show 640 + (a - 640) = a by omega] at this
  · have := sw_11 (a - 704) (by omega)
    rwa [show 704 + (a - 704) = a by omega] at this
  · have := sw_12 (a - 768) (by omega)
    rwa [show 768 + (a - 768) = a by omega] at this
  · have := sw_13 (a - 832) (by omega)
    rwa [show 832 + (a - 832) = a by omega] at this
  · have := sw_14 (a - 896) (by omega)
    rwa [show 896 + (a - 896) = a by omega] at this
  · have := sw_15 (a - 960) (by omega)
    rwa [show 960 + (a - 960) = a by omega] at this
set_option maxRecDepth 100000 in
theorem sw_all {a : Nat} (ha : a < 1024) : swa a < 1024 ∧ swb (swa a) < 4096 ∧ swc (swb (swa a)) < 8192 ∧ swd (swc (swb (swa a))) < 16384 := by
  have h1 : swa a < 1024 := Nat.lt_of_le_of_lt (Nat.sub_le _ _) ha
  have h2 : ∀ x, x < 1024 → swb x < 4096 := by
    intro x hx
    have k1 : x &&& 858993459 ≤ x := Nat.and_le_left
    have k2 : (x >>> 2) &&& 858993459 ≤ x >>> 2 := Nat.and_le_left
    have k3 := Nat.shiftRight_le x 2
    unfold swb
    omega
  have h3 : ∀ x, x < 4096 → swc x < 8192 := by
    intro x hx
    have k1 : (x + (x >>> 4)) &&& 252645135 ≤ x + (x >>> 4) := Nat.and_le_left
    have k3 := Nat.shiftRight_le x 4
    unfold swc
    omega
  have h4 : ∀ x, x < 8192 → swd x < 16384 := by
    intro x hx
    have k3 := Nat.shiftRight_le x 8
    unfold swd
    omega
  exact ⟨h1, h2 _ h1, h3 _ (h2 _ h1), h4 _ (h3 _ (h2 _ h1))⟩
set_option maxRecDepth 100000 in
theorem bc1 {a : Nat} (ha : a < 1024) : nI a - (((nI a).toUInt32 >>> ((nI 1).toUInt32 &&& Int32.toUInt32 31)).toInt32 &&& nI 1431655765) = nI (swa a) := by
  have e1 : (a >>> 1) &&& 1431655765 ≤ a := Nat.le_trans Nat.and_le_left (Nat.shiftRight_le a 1)
  rw [iN_ush (by omega) (by decide), iN_and, iN_sub e1]
  rfl
set_option maxRecDepth 100000 in
theorem bc2 {a : Nat} (ha : a < 16384) : (nI a &&& nI 858993459) + (((nI a).toUInt32 >>> ((nI 2).toUInt32 &&& Int32.toUInt32 31)).toInt32 &&& nI 858993459) = nI (swb a) := by
  rw [iN_ush (by omega) (by decide), iN_and, iN_and, iN_add]
  rfl
set_option maxRecDepth 100000 in
theorem bc3 {a : Nat} (ha : a < 16384) : (nI a + ((nI a).toUInt32 >>> ((nI 4).toUInt32 &&& Int32.toUInt32 31)).toInt32) &&& nI 252645135 = nI (swc a) := by
  rw [iN_ush (by omega) (by decide), iN_add, iN_and]
  rfl
set_option maxRecDepth 100000 in
theorem bc4 {a : Nat} (ha : a < 16384) : nI a + ((nI a).toUInt32 >>> ((nI 8).toUInt32 &&& Int32.toUInt32 31)).toInt32 = nI (swd a) := by
  rw [iN_ush (by omega) (by decide), iN_add]
  rfl
set_option maxRecDepth 100000 in
theorem bc5 {a : Nat} (ha : a < 16384) : (nI a + ((nI a).toUInt32 >>> ((nI 16).toUInt32 &&& Int32.toUInt32 31)).toInt32) &&& nI 63 = nI (swe a &&& 63) := by
  rw [iN_ush (by omega) (by decide), iN_add, iN_and]
  rfl
def bxa (a : Int32) : Int32 := a - ((((a).toUInt32 >>> ((nI 1).toUInt32 &&& Int32.toUInt32 31)).toInt32) &&& nI 1431655765)
def bxb (a : Int32) : Int32 := (a &&& nI 858993459) + ((((a).toUInt32 >>> ((nI 2).toUInt32 &&& Int32.toUInt32 31)).toInt32) &&& nI 858993459)
def bxc (a : Int32) : Int32 := (a + (((a).toUInt32 >>> ((nI 4).toUInt32 &&& Int32.toUInt32 31)).toInt32)) &&& nI 252645135
def bxd (a : Int32) : Int32 := a + (((a).toUInt32 >>> ((nI 8).toUInt32 &&& Int32.toUInt32 31)).toInt32)
def bxe (a : Int32) : Int32 := (a + (((a).toUInt32 >>> ((nI 16).toUInt32 &&& Int32.toUInt32 31)).toInt32)) &&& nI 63
set_option maxRecDepth 100000 in
theorem s_277a {a : Int32} : ev xs d 277 0 ([.int a], [], h) = some (.inl (some (.int (bxe (bxd (bxc (bxb (bxa a))))))), h) := by
  rw [eb_277_0]
  rfl
set_option maxRecDepth 100000 in
theorem s_277 {a : Nat} (ha : a < 1024) : ev xs d 277 0 ([.int (nI a)], [], h) = some (.inl (some (.int (nI (pc 10 a)))), h) := by
  obtain ⟨h1, h2, h3, h4⟩ := sw_all ha
  rw [s_277a, show bxa (nI a) = nI (swa a) from bc1 ha, show bxb (nI (swa a)) = nI (swb (swa a)) from bc2 (by omega), show bxc (nI (swb (swa a))) = nI (swc (swb (swa a))) from bc3 (by omega), show bxd (nI (swc (swb (swa a)))) = nI (swd (swc (swb (swa a)))) from bc4 (by omega), show bxe (nI (swd (swc (swb (swa a))))) = _ from bc5 h4, sw_k a ha]
set_option maxRecDepth 100000 in
theorem s_278 {a n v : Nat} {f : Nat → Nat} (ha : h[a]? = some (oI (ar n f))) (hn : n < 2000000) : ev xs d 278 0 ([.ref a, .int (nI v), .retAddr 9, .retAddr 9], [], h) = some (.inl none, h.set a (oI (ar n fun _ => v))) := by
  have hal : a < h.length := (List.getElem?_eq_some_iff.mp ha).1
  have key : ∀ k, k ≤ n → ∀ g : Nat → Nat, (∀ i, i < k → g i = v) → ev xs d 278 1 ([.ref a, .int (nI v), .int (nI k), .int (nI n)], [], h.set a (oI (ar n g))) = some (.inl none, h.set a (oI (ar n fun _ => v))) := by
    refine lp n ?_ ?_
    · intro g hg
      rw [eb_278_1]
      simp (disch := first | assumption | omega | exact st8_a (Nat.le_of_ble_eq_true rfl)) only [eb_278_0, eb_278_2, eb_278_3, kl_a, kl_d, kl_f, kl_i, kl_l, kl_n, kl_r, xr_1, xr_10, xr_2, xr_28, xr_3, xr_30, xr_31, xr_32, xr_37, xr_4, xr_42, xr_5, xt_goto, xt_ic_ge, xt_nop, xt_re, iN_add, iN_mul, iN_sub, iN_and, iN_or, iN_clr, iN_shl, iN_shr, tb_r1, b1_z, b1_or, b1_and, b1_or0, b1_or1, b1_0or, b1_t, b1_f, iN_lt, iN_inj, reduceIte, if_true, if_false, Nat.zero_add, Nat.add_zero, Bool.false_eq_true, Bool.true_eq_false, Nat.lt_irrefl, iN_az, not_true_eq_false, not_false_eq_true, Nat.reduceEqDiff, Nat.reduceLT, Nat.reduceAdd, Nat.reduceMul, Nat.reduceSub]
      rw [show ar n g = ar n fun _ => v from List.map_congr_left fun i hi => by rw [hg i (List.mem_range.mp hi)]]
    · intro k hk ih g hg
      have e : (h.set a (oI (ar n g)))[a]? = some (oI (ar n g)) := by rw [List.getElem?_set_self hal]
      rw [eb_278_1]
      simp (disch := first | assumption | omega | exact st8_a (Nat.le_of_ble_eq_true rfl)) only [hk, q_is e, eb_278_0, eb_278_2, eb_278_3, kl_a, kl_d, kl_f, kl_i, kl_l, kl_n, kl_r, xr_1, xr_10, xr_2, xr_28, xr_3, xr_30, xr_31, xr_32, xr_37, xr_4, xr_42, xr_5, xt_goto, xt_ic_ge, xt_nop, xt_re, iN_add, iN_mul, iN_sub, iN_and, iN_or, iN_clr, iN_shl, iN_shr, tb_r1, b1_z, b1_or, b1_and, b1_or0, b1_or1, b1_0or, b1_t, b1_f, iN_lt, iN_inj, reduceIte, if_true, if_false, Nat.zero_add, Nat.add_zero, Bool.false_eq_true, Bool.true_eq_false, Nat.lt_irrefl, iN_az, not_true_eq_false, not_false_eq_true, Nat.reduceEqDiff, Nat.reduceLT, Nat.reduceAdd, Nat.reduceMul, Nat.reduceSub]
      rw [List.set_set]
      refine ih _ fun i hi => ?_
      unfold u1
      split
      · rfl
      · exact hg i (by omega)
  have e0 : h.set a (oI (ar n f)) = h := by
    apply List.ext_getElem?
    intro i
    rw [List.getElem?_set]
    split
    · rename_i hh
      subst hh
      exact ha.symm
    · rfl
  have k0 := key 0 (Nat.zero_le _) f (fun i hi => absurd hi (Nat.not_lt_zero i))
  rw [e0] at k0
  simp (disch := first | assumption | omega | exact st8_a (Nat.le_of_ble_eq_true rfl)) only [q_ln ha, eb_278_0, eb_278_2, eb_278_3, kl_a, kl_d, kl_f, kl_i, kl_l, kl_n, kl_r, xr_1, xr_10, xr_2, xr_28, xr_3, xr_30, xr_31, xr_32, xr_37, xr_4, xr_42, xr_5, xt_goto, xt_ic_ge, xt_nop, xt_re, iN_add, iN_mul, iN_sub, iN_and, iN_or, iN_clr, iN_shl, iN_shr, tb_r1, b1_z, b1_or, b1_and, b1_or0, b1_or1, b1_0or, b1_t, b1_f, iN_lt, iN_inj, reduceIte, if_true, if_false, Nat.zero_add, Nat.add_zero, Bool.false_eq_true, Bool.true_eq_false, Nat.lt_irrefl, iN_az, not_true_eq_false, not_false_eq_true, Nat.reduceEqDiff, Nat.reduceLT, Nat.reduceAdd, Nat.reduceMul, Nat.reduceSub]
  exact k0
set_option maxRecDepth 100000 in
theorem s_100 (ht : TT t) (hl : l < 6) : ev xs d 100 0 ([.ref t, .int (nI l)], [], hc σ M R) = some (.inl (some (.int (nI (10 * M (t + 1) l + M (t + 2) l)))), hc σ M R) := by
  simp (disch := first | assumption | omega | exact st8_a (Nat.le_of_ble_eq_true rfl)) only [eb_100_0, xr_1, xr_2, xr_28, xr_3, xr_38, xr_4, xr_41, xr_5, xr_86, xt_ib, xt_ic, xt_ir, gA_2, gA_3, gA_4, gA_5, gA_6, gA_7, gA_8, gA_9, gA_10, gA_11, gA_13, gA_14, gA_16, gA_17, gA_20, gA_21, gA_22, gA_23, gA_24, gA_25, gA_26, gA_27, gA_30, gA_31, gA_32, gA_33, gA_34, gA_35, gA_36, gA_38, gA_39, gA_41, gA_42, gA_46, gA_47, gA_49, gA_50, gA_51, gA_53, gA_56, gA_57, gA_59, gA_60, tF_0 ht, tF_1 ht, tF_2 ht, tF_3 ht, tA_1 ht, tA_2 ht, tW_1 ht, tW_2 ht, tP_0 ht, tP_1 ht, iN_add, iN_mul, iN_sub, iN_and, iN_or, iN_clr, iN_shl, iN_shr, tb_r1, b1_z, b1_or, b1_and, b1_or0, b1_or1, b1_0or, b1_t, b1_f, iN_lt, iN_inj, reduceIte, if_true, if_false, Nat.zero_add, Nat.add_zero, Bool.false_eq_true, Bool.true_eq_false, Nat.lt_irrefl, iN_az, not_true_eq_false, not_false_eq_true, Nat.reduceEqDiff, Nat.reduceLT, Nat.reduceAdd, Nat.reduceMul, Nat.reduceSub]
/-- how many of n lessons have another value -/
def dif (n : Nat) (s r s2 r2 : Nat → Nat) : Nat := sm n fun l => b1 (decide (s l ≠ s2 l) || decide (r l ≠ r2 l))
set_option maxRecDepth 100000 in
theorem s_101 {t2 n : Nat} (ht : TT t) (ht2 : TT t2) (hn : M t 1 = n) (hn6 : n ≤ 6) (b1' : ∀ l, l < n → M (t + 1) l < 2147483648 ∧ M (t + 2) l < 2147483648 ∧ M (t2 + 1) l < 2147483648 ∧ M (t2 + 2) l < 2147483648) : ev xs d 101 0 ([.ref t, .ref t2, .retAddr 9, .retAddr 9], [], hc σ M R) = some (.inl (some (.int (nI (dif n (M (t + 1)) (M (t + 2)) (M (t2 + 1)) (M (t2 + 2)))))), hc σ M R) := by
  have key : ∀ k, k ≤ n → ev xs d 101 1 ([.ref t, .ref t2, .int (nI (sm k fun l => b1 (decide (M (t + 1) l ≠ M (t2 + 1) l) || decide (M (t + 2) l ≠ M (t2 + 2) l)))), .int (nI k)], [], hc σ M R) = some (.inl (some (.int (nI (dif n (M (t + 1)) (M (t + 2)) (M (t2 + 1)) (M (t2 + 2)))))), hc σ M R) := by
    refine lp n ?_ ?_
    · rw [eb_101_1]
      simp (disch := first | assumption | omega | exact st8_a (Nat.le_of_ble_eq_true rfl)) only [hn, dif, eb_101_0, eb_101_2, eb_101_3, eb_101_4, eb_101_5, eb_101_6, kl_a, kl_d, kl_f, kl_i, kl_l, kl_n, kl_r, xr_1, xr_10, xr_11, xr_12, xr_13, xr_14, xr_15, xr_2, xr_3, xr_30, xr_31, xr_32, xr_37, xr_4, xr_42, xr_43, xr_5, xt_goto, xt_ib, xt_ic, xt_ic_eq, xt_ic_ge, xt_ic_ne, xt_ir, xt_nop, gA_2, gA_3, gA_4, gA_5, gA_6, gA_7, gA_8, gA_9, gA_10, gA_11, gA_13, gA_14, gA_16, gA_17, gA_20, gA_21, gA_22, gA_23, gA_24, gA_25, gA_26, gA_27, gA_30, gA_31, gA_32, gA_33, gA_34, gA_35, gA_36, gA_38, gA_39, gA_41, gA_42, gA_46, gA_47, gA_49, gA_50, gA_51, gA_53, gA_56, gA_57, gA_59, gA_60, tF_0 ht, tF_1 ht, tF_2 ht, tF_3 ht, tA_1 ht, tA_2 ht, tW_1 ht, tW_2 ht, tP_0 ht, tP_1 ht, tF_0 ht2, tF_1 ht2, tF_2 ht2, tF_3 ht2, tA_1 ht2, tA_2 ht2, tW_1 ht2, tW_2 ht2, tP_0 ht2, tP_1 ht2, tC_1 ht ht2, tC_2 ht ht2, tC_1 ht2 ht, tC_2 ht2 ht, iN_add, iN_mul, iN_sub, iN_and, iN_or, iN_clr, iN_shl, iN_shr, tb_r1, b1_z, b1_or, b1_and, b1_or0, b1_or1, b1_0or, b1_t, b1_f, iN_lt, iN_inj, reduceIte, if_true, if_false, Nat.zero_add, Nat.add_zero, Bool.false_eq_true, Bool.true_eq_false, Nat.lt_irrefl, iN_az, not_true_eq_false, not_false_eq_true, Nat.reduceEqDiff, Nat.reduceLT, Nat.reduceAdd, Nat.reduceMul, Nat.reduceSub]
    · intro k hk ih
      obtain ⟨q1, q2, q3, q4⟩ := b1' k hk
      rw [eb_101_1]
      rw [sm] at ih
      by_cases h1 : M (t + 1) k = M (t2 + 1) k
      · by_cases h2 : M (t + 2) k = M (t2 + 2) k
        · rw [show b1 (decide (M (t + 1) k ≠ M (t2 + 1) k) || decide (M (t + 2) k ≠ M (t2 + 2) k)) = 0 by rw [h1, h2]; simp [b1]] at ih
          simp (disch := first | assumption | omega | exact st8_a (Nat.le_of_ble_eq_true rfl)) only [hn, hk, eq_true h1, eq_true h2, eb_101_0, eb_101_2, eb_101_3, eb_101_4, eb_101_5, eb_101_6, kl_a, kl_d, kl_f, kl_i, kl_l, kl_n, kl_r, xr_1, xr_10, xr_11, xr_12, xr_13, xr_14, xr_15, xr_2, xr_3, xr_30, xr_31, xr_32, xr_37, xr_4, xr_42, xr_43, xr_5, xt_goto, xt_ib, xt_ic, xt_ic_eq, xt_ic_ge, xt_ic_ne, xt_ir, xt_nop, gA_2, gA_3, gA_4, gA_5, gA_6, gA_7, gA_8, gA_9, gA_10, gA_11, gA_13, gA_14, gA_16, gA_17, gA_20, gA_21, gA_22, gA_23, gA_24, gA_25, gA_26, gA_27, gA_30, gA_31, gA_32, gA_33, gA_34, gA_35, gA_36, gA_38, gA_39, gA_41, gA_42, gA_46, gA_47, gA_49, gA_50, gA_51, gA_53, gA_56, gA_57, gA_59, gA_60, tF_0 ht, tF_1 ht, tF_2 ht, tF_3 ht, tA_1 ht, tA_2 ht, tW_1 ht, tW_2 ht, tP_0 ht, tP_1 ht, tF_0 ht2, tF_1 ht2, tF_2 ht2, tF_3 ht2, tA_1 ht2, tA_2 ht2, tW_1 ht2, tW_2 ht2, tP_0 ht2, tP_1 ht2, tC_1 ht ht2, tC_2 ht ht2, tC_1 ht2 ht, tC_2 ht2 ht, iN_add, iN_mul, iN_sub, iN_and, iN_or, iN_clr, iN_shl, iN_shr, tb_r1, b1_z, b1_or, b1_and, b1_or0, b1_or1, b1_0or, b1_t, b1_f, iN_lt, iN_inj, reduceIte, if_true, if_false, Nat.zero_add, Nat.add_zero, Bool.false_eq_true, Bool.true_eq_false, Nat.lt_irrefl, iN_az, not_true_eq_false, not_false_eq_true, Nat.reduceEqDiff, Nat.reduceLT, Nat.reduceAdd, Nat.reduceMul, Nat.reduceSub]
          exact ih
        · rw [show b1 (decide (M (t + 1) k ≠ M (t2 + 1) k) || decide (M (t + 2) k ≠ M (t2 + 2) k)) = 1 by simp [h2, b1]] at ih
          simp (disch := first | assumption | omega | exact st8_a (Nat.le_of_ble_eq_true rfl)) only [hn, hk, eq_true h1, h2, eb_101_0, eb_101_2, eb_101_3, eb_101_4, eb_101_5, eb_101_6, kl_a, kl_d, kl_f, kl_i, kl_l, kl_n, kl_r, xr_1, xr_10, xr_11, xr_12, xr_13, xr_14, xr_15, xr_2, xr_3, xr_30, xr_31, xr_32, xr_37, xr_4, xr_42, xr_43, xr_5, xt_goto, xt_ib, xt_ic, xt_ic_eq, xt_ic_ge, xt_ic_ne, xt_ir, xt_nop, gA_2, gA_3, gA_4, gA_5, gA_6, gA_7, gA_8, gA_9, gA_10, gA_11, gA_13, gA_14, gA_16, gA_17, gA_20, gA_21, gA_22, gA_23, gA_24, gA_25, gA_26, gA_27, gA_30, gA_31, gA_32, gA_33, gA_34, gA_35, gA_36, gA_38, gA_39, gA_41, gA_42, gA_46, gA_47, gA_49, gA_50, gA_51, gA_53, gA_56, gA_57, gA_59, gA_60, tF_0 ht, tF_1 ht, tF_2 ht, tF_3 ht, tA_1 ht, tA_2 ht, tW_1 ht, tW_2 ht, tP_0 ht, tP_1 ht, tF_0 ht2, tF_1 ht2, tF_2 ht2, tF_3 ht2, tA_1 ht2, tA_2 ht2, tW_1 ht2, tW_2 ht2, tP_0 ht2, tP_1 ht2, tC_1 ht ht2, tC_2 ht ht2, tC_1 ht2 ht, tC_2 ht2 ht, iN_add, iN_mul, iN_sub, iN_and, iN_or, iN_clr, iN_shl, iN_shr, tb_r1, b1_z, b1_or, b1_and, b1_or0, b1_or1, b1_0or, b1_t, b1_f, iN_lt, iN_inj, reduceIte, if_true, if_false, Nat.zero_add, Nat.add_zero, Bool.false_eq_true, Bool.true_eq_false, Nat.lt_irrefl, iN_az, not_true_eq_false, not_false_eq_true, Nat.reduceEqDiff, Nat.reduceLT, Nat.reduceAdd, Nat.reduceMul, Nat.reduceSub]
          exact ih
      · rw [show b1 (decide (M (t + 1) k ≠ M (t2 + 1) k) || decide (M (t + 2) k ≠ M (t2 + 2) k)) = 1 by simp [h1, b1]] at ih
        simp (disch := first | assumption | omega | exact st8_a (Nat.le_of_ble_eq_true rfl)) only [hn, hk, h1, eb_101_0, eb_101_2, eb_101_3, eb_101_4, eb_101_5, eb_101_6, kl_a, kl_d, kl_f, kl_i, kl_l, kl_n, kl_r, xr_1, xr_10, xr_11, xr_12, xr_13, xr_14, xr_15, xr_2, xr_3, xr_30, xr_31, xr_32, xr_37, xr_4, xr_42, xr_43, xr_5, xt_goto, xt_ib, xt_ic, xt_ic_eq, xt_ic_ge, xt_ic_ne, xt_ir, xt_nop, gA_2, gA_3, gA_4, gA_5, gA_6, gA_7, gA_8, gA_9, gA_10, gA_11, gA_13, gA_14, gA_16, gA_17, gA_20, gA_21, gA_22, gA_23, gA_24, gA_25, gA_26, gA_27, gA_30, gA_31, gA_32, gA_33, gA_34, gA_35, gA_36, gA_38, gA_39, gA_41, gA_42, gA_46, gA_47, gA_49, gA_50, gA_51, gA_53, gA_56, gA_57, gA_59, gA_60, tF_0 ht, tF_1 ht, tF_2 ht, tF_3 ht, tA_1 ht, tA_2 ht, tW_1 ht, tW_2 ht, tP_0 ht, tP_1 ht, tF_0 ht2, tF_1 ht2, tF_2 ht2, tF_3 ht2, tA_1 ht2, tA_2 ht2, tW_1 ht2, tW_2 ht2, tP_0 ht2, tP_1 ht2, tC_1 ht ht2, tC_2 ht ht2, tC_1 ht2 ht, tC_2 ht2 ht, iN_add, iN_mul, iN_sub, iN_and, iN_or, iN_clr, iN_shl, iN_shr, tb_r1, b1_z, b1_or, b1_and, b1_or0, b1_or1, b1_0or, b1_t, b1_f, iN_lt, iN_inj, reduceIte, if_true, if_false, Nat.zero_add, Nat.add_zero, Bool.false_eq_true, Bool.true_eq_false, Nat.lt_irrefl, iN_az, not_true_eq_false, not_false_eq_true, Nat.reduceEqDiff, Nat.reduceLT, Nat.reduceAdd, Nat.reduceMul, Nat.reduceSub]
        exact ih
  simp (disch := first | assumption | omega | exact st8_a (Nat.le_of_ble_eq_true rfl)) only [eb_101_0, eb_101_2, eb_101_3, eb_101_4, eb_101_5, eb_101_6, kl_a, kl_d, kl_f, kl_i, kl_l, kl_n, kl_r, xr_1, xr_10, xr_11, xr_12, xr_13, xr_14, xr_15, xr_2, xr_3, xr_30, xr_31, xr_32, xr_37, xr_4, xr_42, xr_43, xr_5, xt_goto, xt_ib, xt_ic, xt_ic_eq, xt_ic_ge, xt_ic_ne, xt_ir, xt_nop, gA_2, gA_3, gA_4, gA_5, gA_6, gA_7, gA_8, gA_9, gA_10, gA_11, gA_13, gA_14, gA_16, gA_17, gA_20, gA_21, gA_22, gA_23, gA_24, gA_25, gA_26, gA_27, gA_30, gA_31, gA_32, gA_33, gA_34, gA_35, gA_36, gA_38, gA_39, gA_41, gA_42, gA_46, gA_47, gA_49, gA_50, gA_51, gA_53, gA_56, gA_57, gA_59, gA_60, tF_0 ht, tF_1 ht, tF_2 ht, tF_3 ht, tA_1 ht, tA_2 ht, tW_1 ht, tW_2 ht, tP_0 ht, tP_1 ht, tF_0 ht2, tF_1 ht2, tF_2 ht2, tF_3 ht2, tA_1 ht2, tA_2 ht2, tW_1 ht2, tW_2 ht2, tP_0 ht2, tP_1 ht2, tC_1 ht ht2, tC_2 ht ht2, tC_1 ht2 ht, tC_2 ht2 ht, iN_add, iN_mul, iN_sub, iN_and, iN_or, iN_clr, iN_shl, iN_shr, tb_r1, b1_z, b1_or, b1_and, b1_or0, b1_or1, b1_0or, b1_t, b1_f, iN_lt, iN_inj, reduceIte, if_true, if_false, Nat.zero_add, Nat.add_zero, Bool.false_eq_true, Bool.true_eq_false, Nat.lt_irrefl, iN_az, not_true_eq_false, not_false_eq_true, Nat.reduceEqDiff, Nat.reduceLT, Nat.reduceAdd, Nat.reduceMul, Nat.reduceSub]
  exact key 0 (Nat.zero_le _)
set_option maxRecDepth 100000 in
theorem s_102 {n : Nat} (O : Ok σ) (ht : TT t) (hn : M t 1 = n) (hn6 : n ≤ 6) (b1' : ∀ l, l < n → M (t + 1) l < 2147483648 ∧ M (t + 2) l < 2147483648) : ∃ b : Bool, (b = true ↔ ∀ l, l < n → M (t + 1) l < (σ 1 2) ∧ M (t + 2) l < (σ 1 5)) ∧ ev xs d 102 0 ([.ref t, .ref 1, .retAddr 9], [], hc σ M R) = some (.inl (some (.int (nI (b1 b)))), hc σ M R) := by
  obtain ⟨hD1, hD2, hH1, hH2, hS, hC, hT, hR, hL, hQ⟩ := Ok_b O
  have key : ∀ k, k ≤ n → ∃ b : Bool, (b = true ↔ ∀ l, k ≤ l → l < n → M (t + 1) l < (σ 1 2) ∧ M (t + 2) l < (σ 1 5)) ∧ ev xs d 102 1 ([.ref t, .ref 1, .int (nI k)], [], hc σ M R) = some (.inl (some (.int (nI (b1 b)))), hc σ M R) := by
    refine lp n ?_ ?_
    · refine ⟨true, by simp; intro l h1 h2; omega, ?_⟩
      rw [eb_102_1]
      simp (disch := first | assumption | omega | exact st8_a (Nat.le_of_ble_eq_true rfl)) only [hn, eb_102_0, eb_102_2, eb_102_3, eb_102_4, eb_102_5, eb_102_6, kl_a, kl_d, kl_f, kl_i, kl_l, kl_n, kl_r, xr_1, xr_10, xr_11, xr_12, xr_13, xr_14, xr_15, xr_2, xr_27, xr_3, xr_30, xr_31, xr_4, xr_42, xr_5, xt_goto, xt_ib, xt_ic, xt_ic_ge, xt_ic_lt, xt_ir, xt_nop, gF_1_2, gF_1_5, gA_2, gA_3, gA_4, gA_5, gA_6, gA_7, gA_8, gA_9, gA_10, gA_11, gA_13, gA_14, gA_16, gA_17, gA_20, gA_21, gA_22, gA_23, gA_24, gA_25, gA_26, gA_27, gA_30, gA_31, gA_32, gA_33, gA_34, gA_35, gA_36, gA_38, gA_39, gA_41, gA_42, gA_46, gA_47, gA_49, gA_50, gA_51, gA_53, gA_56, gA_57, gA_59, gA_60, tF_0 ht, tF_1 ht, tF_2 ht, tF_3 ht, tA_1 ht, tA_2 ht, tW_1 ht, tW_2 ht, tP_0 ht, tP_1 ht, iN_add, iN_mul, iN_sub, iN_and, iN_or, iN_clr, iN_shl, iN_shr, tb_r1, b1_z, b1_or, b1_and, b1_or0, b1_or1, b1_0or, b1_t, b1_f, iN_lt, iN_inj, reduceIte, if_true, if_false, Nat.zero_add, Nat.add_zero, Bool.false_eq_true, Bool.true_eq_false, Nat.lt_irrefl, iN_az, not_true_eq_false, not_false_eq_true, Nat.reduceEqDiff, Nat.reduceLT, Nat.reduceAdd, Nat.reduceMul, Nat.reduceSub]
    · intro k hk ⟨b, hb, ih⟩
      obtain ⟨q1, q2⟩ := b1' k hk
      rw [eb_102_1]
      by_cases h1 : M (t + 1) k < (σ 1 2)
      · by_cases h2 : M (t + 2) k < (σ 1 5)
        · refine ⟨b, ?_, ?_⟩
          · rw [hb]
            constructor
            · intro h l hl hln
              by_cases e : l = k
              · subst e; exact ⟨h1, h2⟩
              · exact h l (by omega) hln
            · intro h l hl hln
              exact h l (by omega) hln
          · simp (disch := first | assumption | omega | exact st8_a (Nat.le_of_ble_eq_true rfl)) only [hn, hk, h1, h2, eb_102_0, eb_102_2, eb_102_3, eb_102_4, eb_102_5, eb_102_6, kl_a, kl_d, kl_f, kl_i, kl_l, kl_n, kl_r, xr_1, xr_10, xr_11, xr_12, xr_13, xr_14, xr_15, xr_2, xr_27, xr_3, xr_30, xr_31, xr_4, xr_42, xr_5, xt_goto, xt_ib, xt_ic, xt_ic_ge, xt_ic_lt, xt_ir, xt_nop, gF_1_2, gF_1_5, gA_2, gA_3, gA_4, gA_5, gA_6, gA_7, gA_8, gA_9, gA_10, gA_11, gA_13, gA_14, gA_16, gA_17, gA_20, gA_21, gA_22, gA_23, gA_24, gA_25, gA_26, gA_27, gA_30, gA_31, gA_32, gA_33, gA_34, gA_35, gA_36, gA_38, gA_39, gA_41, gA_42, gA_46, gA_47, gA_49, gA_50, gA_51, gA_53, gA_56, gA_57, gA_59, gA_60, tF_0 ht, tF_1 ht, tF_2 ht, tF_3 ht, tA_1 ht, tA_2 ht, tW_1 ht, tW_2 ht, tP_0 ht, tP_1 ht, iN_add, iN_mul, iN_sub, iN_and, iN_or, iN_clr, iN_shl, iN_shr, tb_r1, b1_z, b1_or, b1_and, b1_or0, b1_or1, b1_0or, b1_t, b1_f, iN_lt, iN_inj, reduceIte, if_true, if_false, Nat.zero_add, Nat.add_zero, Bool.false_eq_true, Bool.true_eq_false, Nat.lt_irrefl, iN_az, not_true_eq_false, not_false_eq_true, Nat.reduceEqDiff, Nat.reduceLT, Nat.reduceAdd, Nat.reduceMul, Nat.reduceSub]
            exact ih
        · refine ⟨false, ?_, ?_⟩
          · simp
            exact ⟨k, Nat.le_refl _, hk, fun _ => by omega⟩
          · simp (disch := first | assumption | omega | exact st8_a (Nat.le_of_ble_eq_true rfl)) only [hn, hk, h1, h2, eb_102_0, eb_102_2, eb_102_3, eb_102_4, eb_102_5, eb_102_6, kl_a, kl_d, kl_f, kl_i, kl_l, kl_n, kl_r, xr_1, xr_10, xr_11, xr_12, xr_13, xr_14, xr_15, xr_2, xr_27, xr_3, xr_30, xr_31, xr_4, xr_42, xr_5, xt_goto, xt_ib, xt_ic, xt_ic_ge, xt_ic_lt, xt_ir, xt_nop, gF_1_2, gF_1_5, gA_2, gA_3, gA_4, gA_5, gA_6, gA_7, gA_8, gA_9, gA_10, gA_11, gA_13, gA_14, gA_16, gA_17, gA_20, gA_21, gA_22, gA_23, gA_24, gA_25, gA_26, gA_27, gA_30, gA_31, gA_32, gA_33, gA_34, gA_35, gA_36, gA_38, gA_39, gA_41, gA_42, gA_46, gA_47, gA_49, gA_50, gA_51, gA_53, gA_56, gA_57, gA_59, gA_60, tF_0 ht, tF_1 ht, tF_2 ht, tF_3 ht, tA_1 ht, tA_2 ht, tW_1 ht, tW_2 ht, tP_0 ht, tP_1 ht, iN_add, iN_mul, iN_sub, iN_and, iN_or, iN_clr, iN_shl, iN_shr, tb_r1, b1_z, b1_or, b1_and, b1_or0, b1_or1, b1_0or, b1_t, b1_f, iN_lt, iN_inj, reduceIte, if_true, if_false, Nat.zero_add, Nat.add_zero, Bool.false_eq_true, Bool.true_eq_false, Nat.lt_irrefl, iN_az, not_true_eq_false, not_false_eq_true, Nat.reduceEqDiff, Nat.reduceLT, Nat.reduceAdd, Nat.reduceMul, Nat.reduceSub]
      · refine ⟨false, ?_, ?_⟩
        · simp
          exact ⟨k, Nat.le_refl _, hk, fun q => by omega⟩
        · simp (disch := first | assumption | omega | exact st8_a (Nat.le_of_ble_eq_true rfl)) only [hn, hk, h1, eb_102_0, eb_102_2, eb_102_3, eb_102_4, eb_102_5, eb_102_6, kl_a, kl_d, kl_f, kl_i, kl_l, kl_n, kl_r, xr_1, xr_10, xr_11, xr_12, xr_13, xr_14, xr_15, xr_2, xr_27, xr_3, xr_30, xr_31, xr_4, xr_42, xr_5, xt_goto, xt_ib, xt_ic, xt_ic_ge, xt_ic_lt, xt_ir, xt_nop, gF_1_2, gF_1_5, gA_2, gA_3, gA_4, gA_5, gA_6, gA_7, gA_8, gA_9, gA_10, gA_11, gA_13, gA_14, gA_16, gA_17, gA_20, gA_21, gA_22, gA_23, gA_24, gA_25, gA_26, gA_27, gA_30, gA_31, gA_32, gA_33, gA_34, gA_35, gA_36, gA_38, gA_39, gA_41, gA_42, gA_46, gA_47, gA_49, gA_50, gA_51, gA_53, gA_56, gA_57, gA_59, gA_60, tF_0 ht, tF_1 ht, tF_2 ht, tF_3 ht, tA_1 ht, tA_2 ht, tW_1 ht, tW_2 ht, tP_0 ht, tP_1 ht, iN_add, iN_mul, iN_sub, iN_and, iN_or, iN_clr, iN_shl, iN_shr, tb_r1, b1_z, b1_or, b1_and, b1_or0, b1_or1, b1_0or, b1_t, b1_f, iN_lt, iN_inj, reduceIte, if_true, if_false, Nat.zero_add, Nat.add_zero, Bool.false_eq_true, Bool.true_eq_false, Nat.lt_irrefl, iN_az, not_true_eq_false, not_false_eq_true, Nat.reduceEqDiff, Nat.reduceLT, Nat.reduceAdd, Nat.reduceMul, Nat.reduceSub]
  obtain ⟨b, hb, h⟩ := key 0 (Nat.zero_le _)
  refine ⟨b, by rw [hb]; simp, ?_⟩
  simp (disch := first | assumption | omega | exact st8_a (Nat.le_of_ble_eq_true rfl)) only [eb_102_0, eb_102_2, eb_102_3, eb_102_4, eb_102_5, eb_102_6, kl_a, kl_d, kl_f, kl_i, kl_l, kl_n, kl_r, xr_1, xr_10, xr_11, xr_12, xr_13, xr_14, xr_15, xr_2, xr_27, xr_3, xr_30, xr_31, xr_4, xr_42, xr_5, xt_goto, xt_ib, xt_ic, xt_ic_ge, xt_ic_lt, xt_ir, xt_nop, gF_1_2, gF_1_5, gA_2, gA_3, gA_4, gA_5, gA_6, gA_7, gA_8, gA_9, gA_10, gA_11, gA_13, gA_14, gA_16, gA_17, gA_20, gA_21, gA_22, gA_23, gA_24, gA_25, gA_26, gA_27, gA_30, gA_31, gA_32, gA_33, gA_34, gA_35, gA_36, gA_38, gA_39, gA_41, gA_42, gA_46, gA_47, gA_49, gA_50, gA_51, gA_53, gA_56, gA_57, gA_59, gA_60, tF_0 ht, tF_1 ht, tF_2 ht, tF_3 ht, tA_1 ht, tA_2 ht, tW_1 ht, tW_2 ht, tP_0 ht, tP_1 ht, iN_add, iN_mul, iN_sub, iN_and, iN_or, iN_clr, iN_shl, iN_shr, tb_r1, b1_z, b1_or, b1_and, b1_or0, b1_or1, b1_0or, b1_t, b1_f, iN_lt, iN_inj, reduceIte, if_true, if_false, Nat.zero_add, Nat.add_zero, Bool.false_eq_true, Bool.true_eq_false, Nat.lt_irrefl, iN_az, not_true_eq_false, not_false_eq_true, Nat.reduceEqDiff, Nat.reduceLT, Nat.reduceAdd, Nat.reduceMul, Nat.reduceSub]
  exact h
/-- the picture after copyFrom -/
def cpt (M : Nat → Nat → Nat) (t o : Nat) : Nat → Nat → Nat := ur (ur (up (up M t 0 (M o 0)) t 1 (M o 1)) (t + 1) (M (o + 1))) (t + 2) (M (o + 2))
set_option maxRecDepth 100000 in
theorem s_99 {t2 : Nat} (ht : TT t) (ht2 : TT t2) (hne : t ≠ t2) (hb : M t2 0 < 2) : ev xs d 99 0 ([.ref t, .ref t2], [], hc σ M R) = some (.inl none, hc σ (cpt M t t2) R) := by
  have e1 : ∀ v, up M t 0 v t2 = M t2 := fun v => if_neg (fun h => hne h.symm)
  have e2 : ∀ v w, up (up M t 0 v) t 1 w (t2 + 1) = M (t2 + 1) := by
    intro v w
    have : t2 + 1 ≠ t := by rcases ht with rfl | rfl | rfl | rfl | rfl | rfl | rfl <;> rcases ht2 with rfl | rfl | rfl | rfl | rfl | rfl | rfl <;> omega
    unfold up
    rw [if_neg this, if_neg this]
  have e3 : ∀ v w f, ur (up (up M t 0 v) t 1 w) (t + 1) f (t2 + 2) = M (t2 + 2) := by
    intro v w f
    have q1 : t2 + 2 ≠ t := by rcases ht with rfl | rfl | rfl | rfl | rfl | rfl | rfl <;> rcases ht2 with rfl | rfl | rfl | rfl | rfl | rfl | rfl <;> omega
    have q2 : t2 + 2 ≠ t + 1 := by rcases ht with rfl | rfl | rfl | rfl | rfl | rfl | rfl <;> rcases ht2 with rfl | rfl | rfl | rfl | rfl | rfl | rfl <;> omega
    unfold ur up
    rw [if_neg q2, if_neg q1, if_neg q1]
  simp (disch := first | assumption | omega | exact st8_a (Nat.le_of_ble_eq_true rfl)) only [e1, e2, e3, cpt, eb_99_0, xr_1, xr_10, xr_11, xr_12, xr_13, xr_14, xr_15, xr_2, xr_3, xr_4, xr_48, xr_5, xt_re, gC_24_23, gC_34_30, gC_35_31, tF_0 ht, tF_1 ht, tF_2 ht, tF_3 ht, tA_1 ht, tA_2 ht, tW_1 ht, tW_2 ht, tP_0 ht, tP_1 ht, tF_0 ht2, tF_1 ht2, tF_2 ht2, tF_3 ht2, tA_1 ht2, tA_2 ht2, tW_1 ht2, tW_2 ht2, tP_0 ht2, tP_1 ht2, tC_1 ht ht2, tC_2 ht ht2, tC_1 ht2 ht, tC_2 ht2 ht, iN_add, iN_mul, iN_sub, iN_and, iN_or, iN_clr, iN_shl, iN_shr, tb_r1, b1_z, b1_or, b1_and, b1_or0, b1_or1, b1_0or, b1_t, b1_f, iN_lt, iN_inj, reduceIte, if_true, if_false, Nat.zero_add, Nat.add_zero, Bool.false_eq_true, Bool.true_eq_false, Nat.lt_irrefl, iN_az, not_true_eq_false, not_false_eq_true, Nat.reduceEqDiff, Nat.reduceLT, Nat.reduceAdd, Nat.reduceMul, Nat.reduceSub]
set_option maxRecDepth 100000 in
theorem s_98 {n : Nat} (ht : TT t) : ev xs (d + 1) 98 0 ([.ref t, .int (nI n)], [], hc σ M R) = some (.inl none, hc σ (ur (ur (up (up M t 0 1) t 1 n) (t + 1) fun _ => 0) (t + 2) fun _ => 0) R) := by
  have q1 : ∀ M', ev xs d 278 0 ([.ref (t + 1), .int (nI 0), .retAddr 9, .retAddr 9], [], hc σ M' R) = some (.inl none, hc σ (ur M' (t + 1) fun _ => 0) R) := fun M' => by
    rw [s_278 (tc_1 ht) (by decide), tU_1 ht]
  have q2 : ∀ M', ev xs d 278 0 ([.ref (t + 2), .int (nI 0), .retAddr 9, .retAddr 9], [], hc σ M' R) = some (.inl none, hc σ (ur M' (t + 2) fun _ => 0) R) := fun M' => by
    rw [s_278 (tc_2 ht) (by decide), tU_2 ht]
  simp (disch := first | assumption | omega | exact st8_a (Nat.le_of_ble_eq_true rfl)) only [q1, q2, eb_98_0, eb_98_1, eb_98_2, xr_1, xr_10, xr_2, xr_27, xr_28, xr_3, xr_4, xr_5, af_0, af_1, xt_re, tF_0 ht, tF_1 ht, tF_2 ht, tF_3 ht, tA_1 ht, tA_2 ht, tW_1 ht, tW_2 ht, tP_0 ht, tP_1 ht, xq_278_200_static, iN_add, iN_mul, iN_sub, iN_and, iN_or, iN_clr, iN_shl, iN_shr, tb_r1, b1_z, b1_or, b1_and, b1_or0, b1_or1, b1_0or, b1_t, b1_f, iN_lt, iN_inj, reduceIte, if_true, if_false, Nat.zero_add, Nat.add_zero, Bool.false_eq_true, Bool.true_eq_false, Nat.lt_irrefl, iN_az, not_true_eq_false, not_false_eq_true, Nat.reduceEqDiff, Nat.reduceLT, Nat.reduceAdd, Nat.reduceMul, Nat.reduceSub]
end Tm
