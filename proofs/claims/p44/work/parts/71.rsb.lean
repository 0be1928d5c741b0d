/-! THE CLASS RuleSets: stubborn -/
section Rb
variable {xs : List Int32} {σ M N : Nat → Nat → Nat} {R : ab_H} {d e l s r o u n t y v w k : Nat}
set_option maxRecDepth 100000 in
theorem s_51 (O : Ok σ) (hI : KI σ M) (ht : t = 4294967295 ∨ (t < (σ 1 4) ∧ y < (σ 1 0))) : ∃ M', ∃ v, ev xs (e + 20) 51 0 ([.ref 40, .int (nI t), .int (nI y), .retAddr 9, .retAddr 9, .retAddr 9], [], hc σ M R) = some (.inl (some (.int (nI (v)))), hc σ M' R) ∧ Fr QS M M' ∧ KI σ M' ∧ ((KB σ t y (alr σ) ∧ v = 4294967295) ∨ (¬ KB σ t y (alr σ) ∧ v < 1024 ∧ ST σ t y (σ 1 7) (alr σ) v)) := by
  obtain ⟨hD1, hD2, hH1, hH2, hS, hC, hT, hR, hL, hQ⟩ := Ok_b O
  obtain ⟨N, b, e0, f1, f2, f3⟩ := s_50 (xs := xs) (e := e) (R := R) (M := M) O hI (alr_lt O) ht
  have hal := alr_lt O
  have ea : (1 <<< (σ 1 7)) - 1 = alr σ := rfl
  cases b
  · have lp1 : ∀ k, k ≤ (σ 1 7) → ∀ N u z, u < 1024 → Fr QS M N → KI σ N → ∃ M', ∃ v, ev xs (e + 20) 51 5 ([.ref 40, .int (nI t), .int (nI y), .int (nI u), .int (nI k - nI 1), z], [], hc σ N R) = some (.inl (some (.int (nI (v)))), hc σ M' R) ∧ Fr QS M M' ∧ KI σ M' ∧ v < 1024 ∧ ST σ t y k u v := by
      intro k
      induction k with
      | zero =>
        intro hk N u z hu g1 g2
        refine ⟨N, u, ?_, g1, g2, hu, rfl⟩
        have e0 : nI 0 - nI 1 = nI 4294967295 := rfl
        have e1 : nI 4294967295 < nI 0 := by
          rw [iN_ltg (by decide) (by decide)]
          decide
        rw [e0, eb_51_5]
        simp (disch := first | assumption | omega | exact st8_a (Nat.le_of_ble_eq_true rfl)) only [e1, eb_51_0, eb_51_1, eb_51_2, eb_51_3, eb_51_4, eb_51_6, eb_51_7, eb_51_8, eb_51_9, eb_51_10, kl_a, kl_d, kl_f, kl_i, kl_l, kl_n, kl_r, xr_1, xr_2, xr_27, xr_28, xr_3, xr_31, xr_32, xr_33, xr_34, xr_35, xr_36, xr_37, xr_4, xr_44, xr_5, xr_58, xr_64, xr_75, xr_77, xr_85, af_0, af_1, xt_goto, xt_ib, xt_ic, xt_if_eq, xt_if_lt, xt_if_ne, xt_ir, xt_nop, gF_40_0, gF_1_7, xq_50_5_virtualc, xq_56_6_virtualc, iN_add, iN_mul, iN_sub, iN_and, iN_or, iN_clr, iN_shl, iN_shr, tb_r1, b1_z, b1_or, b1_and, b1_or0, b1_or1, b1_0or, b1_t, b1_f, iN_lt, iN_inj, reduceIte, if_true, if_false, Nat.zero_add, Nat.add_zero, Bool.false_eq_true, Bool.true_eq_false, Nat.lt_irrefl, iN_az, not_true_eq_false, not_false_eq_true, Nat.reduceEqDiff, Nat.reduceLT, Nat.reduceAdd, Nat.reduceMul, Nat.reduceSub]
      | succ k ih =>
        intro hk N u z hu g1 g2
        have hu2 : clr u (1 <<< k) < 1024 := clr_lt (n := 10) hu
        obtain ⟨N1, b, e1, h1, h2, h3⟩ := s_50 (xs := xs) (e := e) (R := R) (M := N) O g2 hu2 ht
        have em1 : nI (k + 1) - nI 1 = nI k := by rw [iN_sub (by omega), Nat.add_sub_cancel]
        rw [em1, eb_51_5]
        cases b
        · obtain ⟨M', v, e2, q1, q2, q3, q4⟩ := ih (by omega) N1 (clr u (1 <<< k)) (.int (nI (clr u (1 <<< k)))) hu2 (Fr_t g1 h1) h2
          refine ⟨M', v, ?_, q1, q2, q3, fun z => ?_, fun _ => q4⟩
          · clear q1 q2 q3 q4 ih h3 f3 ht
            simp (disch := first | assumption | omega | exact st8_a (Nat.le_of_ble_eq_true rfl)) only [Nat.not_lt_zero, e1, eb_51_0, eb_51_1, eb_51_2, eb_51_3, eb_51_4, eb_51_6, eb_51_7, eb_51_8, eb_51_9, eb_51_10, kl_a, kl_d, kl_f, kl_i, kl_l, kl_n, kl_r, xr_1, xr_2, xr_27, xr_28, xr_3, xr_31, xr_32, xr_33, xr_34, xr_35, xr_36, xr_37, xr_4, xr_44, xr_5, xr_58, xr_64, xr_75, xr_77, xr_85, af_0, af_1, xt_goto, xt_ib, xt_ic, xt_if_eq, xt_if_lt, xt_if_ne, xt_ir, xt_nop, gF_40_0, gF_1_7, xq_50_5_virtualc, xq_56_6_virtualc, iN_add, iN_mul, iN_and, iN_or, iN_clr, iN_shl, iN_shr, tb_r1, b1_z, b1_or, b1_and, b1_or0, b1_or1, b1_0or, b1_t, b1_f, iN_lt, iN_inj, reduceIte, if_true, if_false, Nat.zero_add, Nat.add_zero, Bool.false_eq_true, Bool.true_eq_false, Nat.lt_irrefl, iN_az, not_true_eq_false, not_false_eq_true, Nat.reduceEqDiff, Nat.reduceLT, Nat.reduceAdd, Nat.reduceMul, Nat.reduceSub]
            exact e2
          · have := h3.mpr z
            cases this
        · obtain ⟨M', v, e2, q1, q2, q3, q4⟩ := ih (by omega) N1 u (.int (nI (clr u (1 <<< k)))) hu (Fr_t g1 h1) h2
          refine ⟨M', v, ?_, q1, q2, q3, fun z => q4, fun z => absurd (h3.mp rfl) z⟩
          clear q1 q2 q3 q4 ih h3 f3 ht
          simp (disch := first | assumption | omega | exact st8_a (Nat.le_of_ble_eq_true rfl)) only [Nat.not_lt_zero, e1, eb_51_0, eb_51_1, eb_51_2, eb_51_3, eb_51_4, eb_51_6, eb_51_7, eb_51_8, eb_51_9, eb_51_10, kl_a, kl_d, kl_f, kl_i, kl_l, kl_n, kl_r, xr_1, xr_2, xr_27, xr_28, xr_3, xr_31, xr_32, xr_33, xr_34, xr_35, xr_36, xr_37, xr_4, xr_44, xr_5, xr_58, xr_64, xr_75, xr_77, xr_85, af_0, af_1, xt_goto, xt_ib, xt_ic, xt_if_eq, xt_if_lt, xt_if_ne, xt_ir, xt_nop, gF_40_0, gF_1_7, xq_50_5_virtualc, xq_56_6_virtualc, iN_add, iN_mul, iN_and, iN_or, iN_clr, iN_shl, iN_shr, tb_r1, b1_z, b1_or, b1_and, b1_or0, b1_or1, b1_0or, b1_t, b1_f, iN_lt, iN_inj, reduceIte, if_true, if_false, Nat.zero_add, Nat.add_zero, Bool.false_eq_true, Bool.true_eq_false, Nat.lt_irrefl, iN_az, not_true_eq_false, not_false_eq_true, Nat.reduceEqDiff, Nat.reduceLT, Nat.reduceAdd, Nat.reduceMul, Nat.reduceSub]
          exact e2
    obtain ⟨M', v, e2, q1, q2, q3, q4⟩ := lp1 (σ 1 7) (Nat.le_refl _) N (alr σ) (.retAddr 9) hal f1 f2
    refine ⟨M', v, ?_, q1, q2, Or.inr ⟨fun z => ?_, q3, q4⟩⟩
    · have e9 := s_56 (xs := xs) (d := e + 19) (M := M) (R := R) O
      rw [ea] at e9
      rw [b1_f] at e0
      clear q1 q2 q3 q4 lp1 f3 ht
      simp (disch := first | assumption | omega | exact st8_a (Nat.le_of_ble_eq_true rfl)) only [e9, e0, eb_51_0, eb_51_1, eb_51_2, eb_51_4, kl_a, kl_d, kl_f, kl_i, kl_l, kl_n, kl_r, xr_1, xr_2, xr_27, xr_28, xr_3, xr_31, xr_32, xr_33, xr_34, xr_35, xr_36, xr_37, xr_4, xr_44, xr_5, xr_58, xr_64, xr_75, xr_77, xr_85, af_0, af_1, xt_goto, xt_ib, xt_ic, xt_if_eq, xt_if_lt, xt_if_ne, xt_ir, xt_nop, gF_40_0, gF_1_7, xq_50_5_virtualc, xq_56_6_virtualc, iN_add, iN_mul, iN_and, iN_or, iN_clr, iN_shl, iN_shr, tb_r1, b1_z, b1_or, b1_and, b1_or0, b1_or1, b1_0or, b1_t, b1_f, iN_lt, iN_inj, reduceIte, if_true, if_false, Nat.zero_add, Nat.add_zero, Bool.false_eq_true, Bool.true_eq_false, Nat.lt_irrefl, iN_az, not_true_eq_false, not_false_eq_true, Nat.reduceEqDiff, Nat.reduceLT, Nat.reduceAdd, Nat.reduceMul, Nat.reduceSub]
      exact e2
    · have := f3.mpr z
      cases this
  · refine ⟨N, 4294967295, ?_, f1, f2, Or.inl ⟨f3.mp rfl, rfl⟩⟩
    have e9 := s_56 (xs := xs) (d := e + 19) (M := M) (R := R) O
    rw [ea] at e9
    rw [b1_t] at e0
    clear f3 ht
    simp (disch := first | assumption | omega | exact st8_a (Nat.le_of_ble_eq_true rfl)) only [e9, e0, eb_51_0, eb_51_1, eb_51_2, eb_51_3, kl_a, kl_d, kl_f, kl_i, kl_l, kl_n, kl_r, xr_1, xr_2, xr_27, xr_28, xr_3, xr_31, xr_32, xr_33, xr_34, xr_35, xr_36, xr_37, xr_4, xr_44, xr_5, xr_58, xr_64, xr_75, xr_77, xr_85, af_0, af_1, xt_goto, xt_ib, xt_ic, xt_if_eq, xt_if_lt, xt_if_ne, xt_ir, xt_nop, gF_40_0, gF_1_7, xq_50_5_virtualc, xq_56_6_virtualc, iN_add, iN_mul, iN_sub, iN_and, iN_or, iN_clr, iN_shl, iN_shr, tb_r1, b1_z, b1_or, b1_and, b1_or0, b1_or1, b1_0or, b1_t, b1_f, iN_lt, iN_inj, reduceIte, if_true, if_false, Nat.zero_add, Nat.add_zero, Bool.false_eq_true, Bool.true_eq_false, Nat.lt_irrefl, iN_az, not_true_eq_false, not_false_eq_true, Nat.reduceEqDiff, Nat.reduceLT, Nat.reduceAdd, Nat.reduceMul, Nat.reduceSub]
end Rb
