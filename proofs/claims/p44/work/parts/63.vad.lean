/-! THE CLASS Values: dropCovering -/
section Vd
variable {xs : List Int32} {σ M : Nat → Nat → Nat} {R : ab_H} {d l s r o u n : Nat} {T : (Nat → Nat) → Prop} {X Y Z W V : Nat → Nat} {b : Bool}
set_option maxRecDepth 100000 in
theorem cl_tb {i : Nat} : (cl σ Y l).testBit i = true ↔ ∃ s, s < (σ 1 2) ∧ Y l &&& sl7 s ≠ 0 ∧ (cov σ l s).testBit i = true := by
  unfold cl
  rw [orn_tb]
  constructor
  · rintro ⟨k, h1, h2⟩
    by_cases h : Y l >>> (k * 3) &&& 7 = 0
    · rw [if_pos h, Nat.zero_testBit] at h2
      cases h2
    · rw [if_neg h] at h2
      exact ⟨k, h1, fun z => h (sl7_z.mp z), h2⟩
  · rintro ⟨k, h1, h2, h3⟩
    exact ⟨k, h1, by rw [if_neg fun z => h2 (sl7_z.mpr z)]; exact h3⟩
set_option maxRecDepth 100000 in
theorem cl_sub (hl : l < (σ 1 6)) (h : Su σ X Y) {i : Nat} (hi : (cl σ X l).testBit i = true) : (cl σ Y l).testBit i = true := by
  obtain ⟨s, h1, h2, h3⟩ := cl_tb.mp hi
  refine cl_tb.mpr ⟨s, h1, ?_, h3⟩
  obtain ⟨j, hj⟩ := nz_tb.mp h2
  rw [Nat.testBit_and, Bool.and_eq_true] at hj
  exact nz_tb.mpr ⟨j, by rw [Nat.testBit_and, h l hl j hj.1, hj.2]; rfl⟩
set_option maxRecDepth 100000 in
theorem s_120 (O : Ok σ) {c : Nat} (hu : u < 64) (hc6 : c < 64) (hc25 : ∀ l, l < (σ 1 6) → ∀ s, s < (σ 1 2) → M 25 (l * 6 + s) = cov σ l s) (hX : ∀ X, T X → Su σ X Y → ∀ l, l < (σ 1 6) → u.testBit l = true → ∀ s, s < (σ 1 2) → cov σ l s &&& c ≠ 0 → X l &&& sl7 s = 0) (hY : ∀ l, l < (σ 1 6) → Y l < 262144) (hV : CV σ Y V) : ∃ Z V2 b, ev xs (d + 3) 120 0 ([.ref 37, .int (nI u), .int (nI c), .retAddr 9, .retAddr 9, .retAddr 9, .retAddr 9], [], hc σ (ur (ur M 38 Y) 39 V) R) = some (.inl (some (.int (nI (b1 b)))), hc σ (ur (ur M 38 Z) 39 V2) R) ∧ DR σ T Y Z b ∧ CV σ Z V2 ∧ (b = false → ∀ l, l < (σ 1 6) → u.testBit l = true → ∀ s, s < (σ 1 2) → Y l &&& sl7 s ≠ 0 → cov σ l s &&& c = 0) := by
  obtain ⟨hD1, hD2, hH1, hH2, hS, hC, hT, hR, hL, hQ⟩ := Ok_b O
  have k1 : ∀ l, l ≤ (σ 1 6) → ∀ (Y V : Nat → Nat), (∀ X, T X → Su σ X Y → ∀ l, l < (σ 1 6) → u.testBit l = true → ∀ s, s < (σ 1 2) → cov σ l s &&& c ≠ 0 → X l &&& sl7 s = 0) → (∀ l, l < (σ 1 6) → Y l < 262144) → CV σ Y V → ∀ (a : Bool) y z, ∃ Z V2 b, ev xs (d + 3) 120 1 ([.ref 37, .int (nI u), .int (nI c), .int (nI (b1 a)), .int (nI l), y, z], [], hc σ (ur (ur M 38 Y) 39 V) R) = some (.inl (some (.int (nI (b1 (a || b))))), hc σ (ur (ur M 38 Z) 39 V2) R) ∧ DR σ T Y Z b ∧ CV σ Z V2 ∧ (b = false → ∀ l', l' < (σ 1 6) → l ≤ l' → u.testBit l' = true → ∀ s, s < (σ 1 2) → Y l' &&& sl7 s ≠ 0 → cov σ l' s &&& c = 0) := by
    refine lp (σ 1 6) ?_ ?_
    · intro Y V hX hY hV a y z
      refine ⟨Y, V, false, ?_, DR_r, hV, fun _ l' h1 h2 => by omega⟩
      rw [eb_120_1, Bool.or_false]
      clear hX hV
      simp (disch := first | assumption | omega | exact st8_a (Nat.le_of_ble_eq_true rfl)) only [eb_120_11, kl_a, kl_d, kl_f, kl_i, kl_l, kl_n, kl_r, xr_1, xr_10, xr_2, xr_27, xr_28, xr_3, xr_31, xr_32, xr_33, xr_34, xr_35, xr_36, xr_37, xr_38, xr_39, xr_4, xr_40, xr_41, xr_44, xr_48, xr_5, xr_55, xr_56, xr_57, xr_58, xr_64, xr_71, xr_74, xr_75, xr_87, af_0, af_1, xt_goto, xt_ib, xt_ic, xt_ic_ge, xt_if_eq, xt_ir, xt_nop, gF_37_0, gF_37_1, gF_37_2, gF_37_3, gF_19_6, gF_1_2, gF_1_6, gA_2, gA_3, gA_4, gA_5, gA_6, gA_7, gA_8, gA_9, gA_10, gA_11, gA_13, gA_14, gA_16, gA_17, gA_20, gA_21, gA_22, gA_23, gA_24, gA_25, gA_26, gA_27, gA_30, gA_31, gA_32, gA_33, gA_34, gA_35, gA_36, gA_38, gA_39, gA_41, gA_42, gA_46, gA_47, gA_49, gA_50, gA_51, gA_53, gA_56, gA_57, gA_59, gA_60, gW_2, gW_3, gW_4, gW_5, gW_6, gW_7, gW_8, gW_9, gW_10, gW_11, gW_13, gW_14, gW_16, gW_17, gW_20, gW_21, gW_22, gW_23, gW_24, gW_25, gW_26, gW_27, gW_30, gW_31, gW_32, gW_33, gW_34, gW_35, gW_36, gW_38, gW_39, gW_41, gW_42, gW_46, gW_47, gW_49, gW_50, gW_51, gW_53, gW_56, gW_57, gW_59, gW_60, xq_116_10_virtualc, iN_add, iN_mul, iN_sub, iN_and, iN_or, iN_clr, iN_shl, iN_shr, tb_r1, b1_z, b1_or, b1_and, b1_or0, b1_or1, b1_0or, b1_t, b1_f, iN_lt, iN_inj, reduceIte, if_true, if_false, Nat.zero_add, Nat.add_zero, Bool.false_eq_true, Bool.true_eq_false, Nat.lt_irrefl, iN_az, not_true_eq_false, not_false_eq_true, Nat.reduceEqDiff, Nat.reduceLT, Nat.reduceAdd, Nat.reduceMul, Nat.reduceSub]
    · intro l hl ih1 Y V hX hY hV a y z
      have k2 : ∀ s, s ≤ (σ 1 2) → ∀ (Y V : Nat → Nat), (∀ X, T X → Su σ X Y → ∀ l, l < (σ 1 6) → u.testBit l = true → ∀ s, s < (σ 1 2) → cov σ l s &&& c ≠ 0 → X l &&& sl7 s = 0) → (∀ l, l < (σ 1 6) → Y l < 262144) → CV σ Y V → ∀ (a : Bool) z, ∃ Z V2 b, ev xs (d + 3) 120 3 ([.ref 37, .int (nI u), .int (nI c), .int (nI (b1 a)), .int (nI l), .int (nI s), z], [], hc σ (ur (ur M 38 Y) 39 V) R) = some (.inl (some (.int (nI (b1 (a || b))))), hc σ (ur (ur M 38 Z) 39 V2) R) ∧ DR σ T Y Z b ∧ CV σ Z V2 ∧ (b = false → ∀ l', l' < (σ 1 6) → ∀ s', s' < (σ 1 2) → (l < l' ∨ l = l' ∧ s ≤ s') → u.testBit l' = true → Y l' &&& sl7 s' ≠ 0 → cov σ l' s' &&& c = 0) := by
        refine lp (σ 1 2) ?_ ?_
        · intro Y V hX hY hV a z
          obtain ⟨Z, V2, b, e, q1, q2, q3⟩ := ih1 Y V hX hY hV a (.int (nI (σ 1 2))) z
          refine ⟨Z, V2, b, ?_, q1, q2, fun h l' h1 s' h2 h4 h5 => q3 h l' h1 (by omega) h5 s' h2⟩
          rw [eb_120_3]
          clear q1 q2 q3 ih1 hX hV
          simp (disch := first | assumption | omega | exact st8_a (Nat.le_of_ble_eq_true rfl)) only [eb_120_10, kl_a, kl_d, kl_f, kl_i, kl_l, kl_n, kl_r, xr_1, xr_10, xr_2, xr_27, xr_28, xr_3, xr_31, xr_32, xr_33, xr_34, xr_35, xr_36, xr_37, xr_38, xr_39, xr_4, xr_40, xr_41, xr_44, xr_48, xr_5, xr_55, xr_56, xr_57, xr_58, xr_64, xr_71, xr_74, xr_75, xr_87, af_0, af_1, xt_goto, xt_ib, xt_ic, xt_ic_ge, xt_if_eq, xt_ir, xt_nop, gF_37_0, gF_37_1, gF_37_2, gF_37_3, gF_19_6, gF_1_2, gF_1_6, gA_2, gA_3, gA_4, gA_5, gA_6, gA_7, gA_8, gA_9, gA_10, gA_11, gA_13, gA_14, gA_16, gA_17, gA_20, gA_21, gA_22, gA_23, gA_24, gA_25, gA_26, gA_27, gA_30, gA_31, gA_32, gA_33, gA_34, gA_35, gA_36, gA_38, gA_39, gA_41, gA_42, gA_46, gA_47, gA_49, gA_50, gA_51, gA_53, gA_56, gA_57, gA_59, gA_60, gW_2, gW_3, gW_4, gW_5, gW_6, gW_7, gW_8, gW_9, gW_10, gW_11, gW_13, gW_14, gW_16, gW_17, gW_20, gW_21, gW_22, gW_23, gW_24, gW_25, gW_26, gW_27, gW_30, gW_31, gW_32, gW_33, gW_34, gW_35, gW_36, gW_38, gW_39, gW_41, gW_42, gW_46, gW_47, gW_49, gW_50, gW_51, gW_53, gW_56, gW_57, gW_59, gW_60, xq_116_10_virtualc, iN_add, iN_mul, iN_sub, iN_and, iN_or, iN_clr, iN_shl, iN_shr, tb_r1, b1_z, b1_or, b1_and, b1_or0, b1_or1, b1_0or, b1_t, b1_f, iN_lt, iN_inj, reduceIte, if_true, if_false, Nat.zero_add, Nat.add_zero, Bool.false_eq_true, Bool.true_eq_false, Nat.lt_irrefl, iN_az, not_true_eq_false, not_false_eq_true, Nat.reduceEqDiff, Nat.reduceLT, Nat.reduceAdd, Nat.reduceMul, Nat.reduceSub]
          exact e
        · intro s hs ih2 Y V hX hY hV a z
          have hw := hY l hl
          have e1 := hc25 l hl s hs
          have c1 := cov_lt O (l := l) hs
          have hcc : cov σ l s &&& c < 64 := Nat.lt_of_le_of_lt Nat.and_le_left c1
          have hyy : Y l &&& 7 <<< (s * 3) < 262144 := Nat.lt_of_le_of_lt Nat.and_le_left hw
          have stay : (u.testBit l = true → Y l &&& sl7 s ≠ 0 → cov σ l s &&& c = 0) → ∀ b : Bool, (b = false → ∀ l', l' < (σ 1 6) → ∀ s', s' < (σ 1 2) → (l < l' ∨ l = l' ∧ s + 1 ≤ s') → u.testBit l' = true → Y l' &&& sl7 s' ≠ 0 → cov σ l' s' &&& c = 0) → (b = false → ∀ l', l' < (σ 1 6) → ∀ s', s' < (σ 1 2) → (l < l' ∨ l = l' ∧ s ≤ s') → u.testBit l' = true → Y l' &&& sl7 s' ≠ 0 → cov σ l' s' &&& c = 0) := by
            intro hA b q2 h l' h1 s' h2 h4
            by_cases hh : l' = l ∧ s' = s
            · obtain ⟨rfl, rfl⟩ := hh
              exact hA
            · exact q2 h l' h1 s' h2 (by omega)
          rw [eb_120_3]
          cases h1 : u.testBit l
          · obtain ⟨Z, V2, b, e, q1, q2, q3⟩ := ih2 Y V hX hY hV a (.int (nI (7 <<< (s * 3))))
            refine ⟨Z, V2, b, ?_, q1, q2, stay (fun z => by rw [h1] at z; cases z) b q3⟩
            clear q1 q2 q3 ih1 ih2 hX hV stay
            simp (disch := first | assumption | omega | exact st8_a (Nat.le_of_ble_eq_true rfl)) only [hs, h1, eb_120_4, eb_120_9, kl_a, kl_d, kl_f, kl_i, kl_l, kl_n, kl_r, xr_1, xr_10, xr_2, xr_27, xr_28, xr_3, xr_31, xr_32, xr_33, xr_34, xr_35, xr_36, xr_37, xr_38, xr_39, xr_4, xr_40, xr_41, xr_44, xr_48, xr_5, xr_55, xr_56, xr_57, xr_58, xr_64, xr_71, xr_74, xr_75, xr_87, af_0, af_1, xt_goto, xt_ib, xt_ic, xt_ic_ge, xt_if_eq, xt_ir, xt_nop, gF_37_0, gF_37_1, gF_37_2, gF_37_3, gF_19_6, gF_1_2, gF_1_6, gA_2, gA_3, gA_4, gA_5, gA_6, gA_7, gA_8, gA_9, gA_10, gA_11, gA_13, gA_14, gA_16, gA_17, gA_20, gA_21, gA_22, gA_23, gA_24, gA_25, gA_26, gA_27, gA_30, gA_31, gA_32, gA_33, gA_34, gA_35, gA_36, gA_38, gA_39, gA_41, gA_42, gA_46, gA_47, gA_49, gA_50, gA_51, gA_53, gA_56, gA_57, gA_59, gA_60, gW_2, gW_3, gW_4, gW_5, gW_6, gW_7, gW_8, gW_9, gW_10, gW_11, gW_13, gW_14, gW_16, gW_17, gW_20, gW_21, gW_22, gW_23, gW_24, gW_25, gW_26, gW_27, gW_30, gW_31, gW_32, gW_33, gW_34, gW_35, gW_36, gW_38, gW_39, gW_41, gW_42, gW_46, gW_47, gW_49, gW_50, gW_51, gW_53, gW_56, gW_57, gW_59, gW_60, xq_116_10_virtualc, iN_add, iN_mul, iN_sub, iN_and, iN_or, iN_clr, iN_shl, iN_shr, tb_r1, b1_z, b1_or, b1_and, b1_or0, b1_or1, b1_0or, b1_t, b1_f, iN_lt, iN_inj, reduceIte, if_true, if_false, Nat.zero_add, Nat.add_zero, Bool.false_eq_true, Bool.true_eq_false, Nat.lt_irrefl, iN_az, not_true_eq_false, not_false_eq_true, Nat.reduceEqDiff, Nat.reduceLT, Nat.reduceAdd, Nat.reduceMul, Nat.reduceSub]
            exact e
          · by_cases h2 : Y l &&& 7 <<< (s * 3) = 0
            · obtain ⟨Z, V2, b, e, q1, q2, q3⟩ := ih2 Y V hX hY hV a (.int (nI (7 <<< (s * 3))))
              refine ⟨Z, V2, b, ?_, q1, q2, stay (fun _ z => absurd h2 z) b q3⟩
              clear q1 q2 q3 ih1 ih2 hX hV stay
              simp (disch := first | assumption | omega | exact st8_a (Nat.le_of_ble_eq_true rfl)) only [hs, h1, ur_s, ur_n, h2, eb_120_4, eb_120_5, eb_120_9, kl_a, kl_d, kl_f, kl_i, kl_l, kl_n, kl_r, xr_1, xr_10, xr_2, xr_27, xr_28, xr_3, xr_31, xr_32, xr_33, xr_34, xr_35, xr_36, xr_37, xr_38, xr_39, xr_4, xr_40, xr_41, xr_44, xr_48, xr_5, xr_55, xr_56, xr_57, xr_58, xr_64, xr_71, xr_74, xr_75, xr_87, af_0, af_1, xt_goto, xt_ib, xt_ic, xt_ic_ge, xt_if_eq, xt_ir, xt_nop, gF_37_0, gF_37_1, gF_37_2, gF_37_3, gF_19_6, gF_1_2, gF_1_6, gA_2, gA_3, gA_4, gA_5, gA_6, gA_7, gA_8, gA_9, gA_10, gA_11, gA_13, gA_14, gA_16, gA_17, gA_20, gA_21, gA_22, gA_23, gA_24, gA_25, gA_26, gA_27, gA_30, gA_31, gA_32, gA_33, gA_34, gA_35, gA_36, gA_38, gA_39, gA_41, gA_42, gA_46, gA_47, gA_49, gA_50, gA_51, gA_53, gA_56, gA_57, gA_59, gA_60, gW_2, gW_3, gW_4, gW_5, gW_6, gW_7, gW_8, gW_9, gW_10, gW_11, gW_13, gW_14, gW_16, gW_17, gW_20, gW_21, gW_22, gW_23, gW_24, gW_25, gW_26, gW_27, gW_30, gW_31, gW_32, gW_33, gW_34, gW_35, gW_36, gW_38, gW_39, gW_41, gW_42, gW_46, gW_47, gW_49, gW_50, gW_51, gW_53, gW_56, gW_57, gW_59, gW_60, xq_116_10_virtualc, iN_add, iN_mul, iN_sub, iN_and, iN_or, iN_clr, iN_shl, iN_shr, tb_r1, b1_z, b1_or, b1_and, b1_or0, b1_or1, b1_0or, b1_t, b1_f, iN_lt, iN_inj, reduceIte, if_true, if_false, Nat.zero_add, Nat.add_zero, Bool.false_eq_true, Bool.true_eq_false, Nat.lt_irrefl, iN_az, not_true_eq_false, not_false_eq_true, Nat.reduceEqDiff, Nat.reduceLT, Nat.reduceAdd, Nat.reduceMul, Nat.reduceSub]
              exact e
            · by_cases h3 : cov σ l s &&& c = 0
              · obtain ⟨Z, V2, b, e, q1, q2, q3⟩ := ih2 Y V hX hY hV a (.int (nI (7 <<< (s * 3))))
                refine ⟨Z, V2, b, ?_, q1, q2, stay (fun _ _ => h3) b q3⟩
                clear q1 q2 q3 ih1 ih2 hX hV stay
                simp (disch := first | assumption | omega | exact st8_a (Nat.le_of_ble_eq_true rfl)) only [hs, h1, ur_s, ur_n, h2, e1, h3, eb_120_4, eb_120_5, eb_120_6, eb_120_9, kl_a, kl_d, kl_f, kl_i, kl_l, kl_n, kl_r, xr_1, xr_10, xr_2, xr_27, xr_28, xr_3, xr_31, xr_32, xr_33, xr_34, xr_35, xr_36, xr_37, xr_38, xr_39, xr_4, xr_40, xr_41, xr_44, xr_48, xr_5, xr_55, xr_56, xr_57, xr_58, xr_64, xr_71, xr_74, xr_75, xr_87, af_0, af_1, xt_goto, xt_ib, xt_ic, xt_ic_ge, xt_if_eq, xt_ir, xt_nop, gF_37_0, gF_37_1, gF_37_2, gF_37_3, gF_19_6, gF_1_2, gF_1_6, gA_2, gA_3, gA_4, gA_5, gA_6, gA_7, gA_8, gA_9, gA_10, gA_11, gA_13, gA_14, gA_16, gA_17, gA_20, gA_21, gA_22, gA_23, gA_24, gA_25, gA_26, gA_27, gA_30, gA_31, gA_32, gA_33, gA_34, gA_35, gA_36, gA_38, gA_39, gA_41, gA_42, gA_46, gA_47, gA_49, gA_50, gA_51, gA_53, gA_56, gA_57, gA_59, gA_60, gW_2, gW_3, gW_4, gW_5, gW_6, gW_7, gW_8, gW_9, gW_10, gW_11, gW_13, gW_14, gW_16, gW_17, gW_20, gW_21, gW_22, gW_23, gW_24, gW_25, gW_26, gW_27, gW_30, gW_31, gW_32, gW_33, gW_34, gW_35, gW_36, gW_38, gW_39, gW_41, gW_42, gW_46, gW_47, gW_49, gW_50, gW_51, gW_53, gW_56, gW_57, gW_59, gW_60, xq_116_10_virtualc, iN_add, iN_mul, iN_sub, iN_and, iN_or, iN_clr, iN_shl, iN_shr, tb_r1, b1_z, b1_or, b1_and, b1_or0, b1_or1, b1_0or, b1_t, b1_f, iN_lt, iN_inj, reduceIte, if_true, if_false, Nat.zero_add, Nat.add_zero, Bool.false_eq_true, Bool.true_eq_false, Nat.lt_irrefl, iN_az, not_true_eq_false, not_false_eq_true, Nat.reduceEqDiff, Nat.reduceLT, Nat.reduceAdd, Nat.reduceMul, Nat.reduceSub]
                exact e
              · have hDR : DR σ T Y (u1 Y l (clr (Y l) (7 <<< (s * 3)))) true := DR_m hl hw h2 fun X hT hS => hX X hT hS l hl h1 s hs h3
                have hY2 := Su_lt hDR.1 hY
                have e4 := s_116 (xs := xs) (d := d + 2) (M := ur (ur M 38 (u1 Y l (clr (Y l) (7 <<< (s * 3))))) 39 V) (R := R) O hl (by rw [ur_n (by decide), ur_s]; exact hY2 l hl) (fun s hs => by rw [ur_n (by decide), ur_n (by decide)]; exact hc25 l hl s hs)
                rw [ur_n (by decide), ur_s] at e4
                have e5 : up (ur (ur M 38 Y) 39 V) 38 l (clr (Y l) (7 <<< (s * 3))) = ur (ur M 38 (u1 Y l (clr (Y l) (7 <<< (s * 3))))) 39 V := by
                  funext b j
                  unfold ur up u1
                  by_cases h1 : b = 38
                  · subst h1; simp
                  · by_cases h2 : b = 39
                    · subst h2; simp
                    · simp [h1, h2]
                have hcl := cl_lt O (Y := u1 Y l (clr (Y l) (7 <<< (s * 3)))) (l := l)
                obtain ⟨Z, V2, b, e, q1, q2, q3⟩ := ih2 (u1 Y l (clr (Y l) (7 <<< (s * 3)))) (u1 V l (cl σ (u1 Y l (clr (Y l) (7 <<< (s * 3)))) l)) (fun X hT hS => hX X hT (Su_t hS hDR.1)) hY2 (fun k hk => by
                  by_cases h : k = l
                  · subst h; rw [u1_s]
                  · rw [u1_n h, hV k hk]
                    exact cl_cg (by rw [u1_n h])) true (.int (nI (7 <<< (s * 3))))
                refine ⟨Z, V2, true, ?_, by have := DR_t hDR q1; rwa [Bool.true_or] at this, q2, fun h => by cases h⟩
                rw [Bool.true_or] at e
                rw [Bool.or_true]
                clear q1 q2 q3 ih1 ih2 hX hV stay hDR hY2
                simp (disch := first | assumption | omega | exact st8_a (Nat.le_of_ble_eq_true rfl)) only [hs, h1, ur_s, ur_n, h2, e1, h3, e5, e4, ur_up, eb_120_4, eb_120_5, eb_120_6, eb_120_7, eb_120_8, eb_120_9, kl_a, kl_d, kl_f, kl_i, kl_l, kl_n, kl_r, xr_1, xr_10, xr_2, xr_27, xr_28, xr_3, xr_31, xr_32, xr_33, xr_34, xr_35, xr_36, xr_37, xr_38, xr_39, xr_4, xr_40, xr_41, xr_44, xr_48, xr_5, xr_55, xr_56, xr_57, xr_58, xr_64, xr_71, xr_74, xr_75, xr_87, af_0, af_1, xt_goto, xt_ib, xt_ic, xt_ic_ge, xt_if_eq, xt_ir, xt_nop, gF_37_0, gF_37_1, gF_37_2, gF_37_3, gF_19_6, gF_1_2, gF_1_6, gA_2, gA_3, gA_4, gA_5, gA_6, gA_7, gA_8, gA_9, gA_10, gA_11, gA_13, gA_14, gA_16, gA_17, gA_20, gA_21, gA_22, gA_23, gA_24, gA_25, gA_26, gA_27, gA_30, gA_31, gA_32, gA_33, gA_34, gA_35, gA_36, gA_38, gA_39, gA_41, gA_42, gA_46, gA_47, gA_49, gA_50, gA_51, gA_53, gA_56, gA_57, gA_59, gA_60, gW_2, gW_3, gW_4, gW_5, gW_6, gW_7, gW_8, gW_9, gW_10, gW_11, gW_13, gW_14, gW_16, gW_17, gW_20, gW_21, gW_22, gW_23, gW_24, gW_25, gW_26, gW_27, gW_30, gW_31, gW_32, gW_33, gW_34, gW_35, gW_36, gW_38, gW_39, gW_41, gW_42, gW_46, gW_47, gW_49, gW_50, gW_51, gW_53, gW_56, gW_57, gW_59, gW_60, xq_116_10_virtualc, iN_add, iN_mul, iN_sub, iN_and, iN_or, iN_clr, iN_shl, iN_shr, tb_r1, b1_z, b1_or, b1_and, b1_or0, b1_or1, b1_0or, b1_t, b1_f, iN_lt, iN_inj, reduceIte, if_true, if_false, Nat.zero_add, Nat.add_zero, Bool.false_eq_true, Bool.true_eq_false, Nat.lt_irrefl, iN_az, not_true_eq_false, not_false_eq_true, Nat.reduceEqDiff, Nat.reduceLT, Nat.reduceAdd, Nat.reduceMul, Nat.reduceSub]
                exact e
      obtain ⟨Z, V2, b, e, q1, q2, q3⟩ := k2 0 (Nat.zero_le _) Y V hX hY hV a z
      refine ⟨Z, V2, b, ?_, q1, q2, fun h l' h1 h2 h3 s' h4 => q3 h l' h1 s' h4 (by omega) h3⟩
      rw [eb_120_1]
      clear q1 q2 q3 ih1 k2 hX hV
      simp (disch := first | assumption | omega | exact st8_a (Nat.le_of_ble_eq_true rfl)) only [hl, eb_120_2, kl_a, kl_d, kl_f, kl_i, kl_l, kl_n, kl_r, xr_1, xr_10, xr_2, xr_27, xr_28, xr_3, xr_31, xr_32, xr_33, xr_34, xr_35, xr_36, xr_37, xr_38, xr_39, xr_4, xr_40, xr_41, xr_44, xr_48, xr_5, xr_55, xr_56, xr_57, xr_58, xr_64, xr_71, xr_74, xr_75, xr_87, af_0, af_1, xt_goto, xt_ib, xt_ic, xt_ic_ge, xt_if_eq, xt_ir, xt_nop, gF_37_0, gF_37_1, gF_37_2, gF_37_3, gF_19_6, gF_1_2, gF_1_6, gA_2, gA_3, gA_4, gA_5, gA_6, gA_7, gA_8, gA_9, gA_10, gA_11, gA_13, gA_14, gA_16, gA_17, gA_20, gA_21, gA_22, gA_23, gA_24, gA_25, gA_26, gA_27, gA_30, gA_31, gA_32, gA_33, gA_34, gA_35, gA_36, gA_38, gA_39, gA_41, gA_42, gA_46, gA_47, gA_49, gA_50, gA_51, gA_53, gA_56, gA_57, gA_59, gA_60, gW_2, gW_3, gW_4, gW_5, gW_6, gW_7, gW_8, gW_9, gW_10, gW_11, gW_13, gW_14, gW_16, gW_17, gW_20, gW_21, gW_22, gW_23, gW_24, gW_25, gW_26, gW_27, gW_30, gW_31, gW_32, gW_33, gW_34, gW_35, gW_36, gW_38, gW_39, gW_41, gW_42, gW_46, gW_47, gW_49, gW_50, gW_51, gW_53, gW_56, gW_57, gW_59, gW_60, xq_116_10_virtualc, iN_add, iN_mul, iN_sub, iN_and, iN_or, iN_clr, iN_shl, iN_shr, tb_r1, b1_z, b1_or, b1_and, b1_or0, b1_or1, b1_0or, b1_t, b1_f, iN_lt, iN_inj, reduceIte, if_true, if_false, Nat.zero_add, Nat.add_zero, Bool.false_eq_true, Bool.true_eq_false, Nat.lt_irrefl, iN_az, not_true_eq_false, not_false_eq_true, Nat.reduceEqDiff, Nat.reduceLT, Nat.reduceAdd, Nat.reduceMul, Nat.reduceSub]
      exact e
  obtain ⟨Z, V2, b, e, q1, q2, q3⟩ := k1 0 (Nat.zero_le _) Y V hX hY hV false (.retAddr 9) (.retAddr 9)
  refine ⟨Z, V2, b, ?_, q1, q2, fun h l hl h3 => q3 h l hl (Nat.zero_le _) h3⟩
  rw [Bool.false_or] at e
  clear q1 q2 q3 k1 hX hV
  simp (disch := first | assumption | omega | exact st8_a (Nat.le_of_ble_eq_true rfl)) only [eb_120_0, kl_a, kl_d, kl_f, kl_i, kl_l, kl_n, kl_r, xr_1, xr_10, xr_2, xr_27, xr_28, xr_3, xr_31, xr_32, xr_33, xr_34, xr_35, xr_36, xr_37, xr_38, xr_39, xr_4, xr_40, xr_41, xr_44, xr_48, xr_5, xr_55, xr_56, xr_57, xr_58, xr_64, xr_71, xr_74, xr_75, xr_87, af_0, af_1, xt_goto, xt_ib, xt_ic, xt_ic_ge, xt_if_eq, xt_ir, xt_nop, gF_37_0, gF_37_1, gF_37_2, gF_37_3, gF_19_6, gF_1_2, gF_1_6, gA_2, gA_3, gA_4, gA_5, gA_6, gA_7, gA_8, gA_9, gA_10, gA_11, gA_13, gA_14, gA_16, gA_17, gA_20, gA_21, gA_22, gA_23, gA_24, gA_25, gA_26, gA_27, gA_30, gA_31, gA_32, gA_33, gA_34, gA_35, gA_36, gA_38, gA_39, gA_41, gA_42, gA_46, gA_47, gA_49, gA_50, gA_51, gA_53, gA_56, gA_57, gA_59, gA_60, gW_2, gW_3, gW_4, gW_5, gW_6, gW_7, gW_8, gW_9, gW_10, gW_11, gW_13, gW_14, gW_16, gW_17, gW_20, gW_21, gW_22, gW_23, gW_24, gW_25, gW_26, gW_27, gW_30, gW_31, gW_32, gW_33, gW_34, gW_35, gW_36, gW_38, gW_39, gW_41, gW_42, gW_46, gW_47, gW_49, gW_50, gW_51, gW_53, gW_56, gW_57, gW_59, gW_60, xq_116_10_virtualc, iN_add, iN_mul, iN_sub, iN_and, iN_or, iN_clr, iN_shl, iN_shr, tb_r1, b1_z, b1_or, b1_and, b1_or0, b1_or1, b1_0or, b1_t, b1_f, iN_lt, iN_inj, reduceIte, if_true, if_false, Nat.zero_add, Nat.add_zero, Bool.false_eq_true, Bool.true_eq_false, Nat.lt_irrefl, iN_az, not_true_eq_false, not_false_eq_true, Nat.reduceEqDiff, Nat.reduceLT, Nat.reduceAdd, Nat.reduceMul, Nat.reduceSub]
  exact e
end Vd
