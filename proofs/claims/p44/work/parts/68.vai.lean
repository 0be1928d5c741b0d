/-! THE CLASS Values: leastWeight -/
section Vi
variable {xs : List Int32} {σ M : Nat → Nat → Nat} {R : ab_H} {d l s r o u n g set j : Nat} {X Y Z W V : Nat → Nat}
set_option maxRecDepth 100000 in
theorem lwt_le (O : Ok σ) (h : Y l ≠ 0) (hb : ∀ i, (Y l).testBit i = true → ∃ s r, i = s * 3 + r ∧ s < (σ 1 2) ∧ r < (σ 1 5)) : lwt σ Y l ≤ 27 := by
  obtain ⟨i, hi⟩ := nz_tb.mp h
  obtain ⟨s, r, rfl, hs, hr⟩ := hb i hi
  have h1 : lwt σ Y l ≤ lwq σ Y l s := mno_le hs
  have h2 : lwq σ Y l s ≤ lwr σ Y l s r := mno_le hr
  have h3 := wv_le O (l := l) (r := r) hs
  unfold lwr at h2
  rw [if_pos hi] at h2
  omega
set_option maxRecDepth 100000 in
theorem s_107 (O : Ok σ) (hb : ∀ l, l < (σ 1 6) → ∀ i, (M 38 l).testBit i = true → ∃ s r, i = s * 3 + r ∧ s < (σ 1 2) ∧ r < (σ 1 5)) : ∃ v, ev xs (d + 3) 107 0 ([.ref 37, .retAddr 9, .retAddr 9], [], hc σ M R) = some (.inl (some (.int (nI (v)))), hc σ M R) ∧ ((∃ l, l < (σ 1 6) ∧ M 38 l = 0) ∧ v = 4294967295 ∨ (∀ l, l < (σ 1 6) → M 38 l ≠ 0) ∧ v = sm (σ 1 6) (lwt σ (M 38))) := by
  obtain ⟨hD1, hD2, hH1, hH2, hS, hC, hT, hR, hL, hQ⟩ := Ok_b O
  have key : ∀ k, k ≤ (σ 1 6) → (∀ l, l < k → M 38 l ≠ 0) → ∃ v, ev xs (d + 3) 107 1 ([.ref 37, .int (nI (sm k (lwt σ (M 38)))), .int (nI k)], [], hc σ M R) = some (.inl (some (.int (nI (v)))), hc σ M R) ∧ ((∃ l, l < (σ 1 6) ∧ M 38 l = 0) ∧ v = 4294967295 ∨ (∀ l, l < (σ 1 6) → M 38 l ≠ 0) ∧ v = sm (σ 1 6) (lwt σ (M 38))) := by
    refine lp (σ 1 6) ?_ ?_
    · intro h
      refine ⟨_, ?_, Or.inr ⟨h, rfl⟩⟩
      rw [eb_107_1]
      clear h
      simp (disch := first | assumption | omega | exact st8_a (Nat.le_of_ble_eq_true rfl)) only [eb_107_6, kl_a, kl_d, kl_f, kl_i, kl_l, kl_n, kl_r, xr_1, xr_10, xr_2, xr_28, xr_29, xr_3, xr_30, xr_31, xr_38, xr_4, xr_42, xr_5, xr_64, af_0, af_1, xt_goto, xt_ib, xt_ic, xt_ic_ge, xt_if_ne, xt_ir, xt_nop, gF_37_0, gF_37_2, gF_1_6, gA_2, gA_3, gA_4, gA_5, gA_6, gA_7, gA_8, gA_9, gA_10, gA_11, gA_13, gA_14, gA_16, gA_17, gA_20, gA_21, gA_22, gA_23, gA_24, gA_25, gA_26, gA_27, gA_30, gA_31, gA_32, gA_33, gA_34, gA_35, gA_36, gA_38, gA_39, gA_41, gA_42, gA_46, gA_47, gA_49, gA_50, gA_51, gA_53, gA_56, gA_57, gA_59, gA_60, xq_108_10_virtualc, iN_add, iN_mul, iN_sub, iN_and, iN_or, iN_clr, iN_shl, iN_shr, tb_r1, b1_z, b1_or, b1_and, b1_or0, b1_or1, b1_0or, b1_t, b1_f, iN_lt, iN_inj, reduceIte, if_true, if_false, Nat.zero_add, Nat.add_zero, Bool.false_eq_true, Bool.true_eq_false, Nat.lt_irrefl, iN_az, not_true_eq_false, not_false_eq_true, Nat.reduceEqDiff, Nat.reduceLT, Nat.reduceAdd, Nat.reduceMul, Nat.reduceSub]
    · intro k hk ih h
      have hw : M 38 k < 262144 := mask_lt (n := 18) fun i hi => by
        obtain ⟨s, r, h1, h2, h3⟩ := hb k hk i hi
        omega
      by_cases h0 : M 38 k = 0
      · refine ⟨4294967295, ?_, Or.inl ⟨⟨k, hk, h0⟩, rfl⟩⟩
        rw [eb_107_1]
        clear h ih
        simp (disch := first | assumption | omega | exact st8_a (Nat.le_of_ble_eq_true rfl)) only [hk, h0, eb_107_2, eb_107_3, kl_a, kl_d, kl_f, kl_i, kl_l, kl_n, kl_r, xr_1, xr_10, xr_2, xr_28, xr_29, xr_3, xr_30, xr_31, xr_38, xr_4, xr_42, xr_5, xr_64, af_0, af_1, xt_goto, xt_ib, xt_ic, xt_ic_ge, xt_if_ne, xt_ir, xt_nop, gF_37_0, gF_37_2, gF_1_6, gA_2, gA_3, gA_4, gA_5, gA_6, gA_7, gA_8, gA_9, gA_10, gA_11, gA_13, gA_14, gA_16, gA_17, gA_20, gA_21, gA_22, gA_23, gA_24, gA_25, gA_26, gA_27, gA_30, gA_31, gA_32, gA_33, gA_34, gA_35, gA_36, gA_38, gA_39, gA_41, gA_42, gA_46, gA_47, gA_49, gA_50, gA_51, gA_53, gA_56, gA_57, gA_59, gA_60, xq_108_10_virtualc, iN_add, iN_mul, iN_sub, iN_and, iN_or, iN_clr, iN_shl, iN_shr, tb_r1, b1_z, b1_or, b1_and, b1_or0, b1_or1, b1_0or, b1_t, b1_f, iN_lt, iN_inj, reduceIte, if_true, if_false, Nat.zero_add, Nat.add_zero, Bool.false_eq_true, Bool.true_eq_false, Nat.lt_irrefl, iN_az, not_true_eq_false, not_false_eq_true, Nat.reduceEqDiff, Nat.reduceLT, Nat.reduceAdd, Nat.reduceMul, Nat.reduceSub]
      · have e1 := s_108 (xs := xs) (d := d) (M := M) (R := R) O hk hw
        have h27 := lwt_le O h0 (hb k hk)
        rw [Nat.min_eq_right (show lwt σ (M 38) k ≤ 100000 by omega)] at e1
        have hsm : sm k (lwt σ (M 38)) ≤ k * 27 := sm_le fun i hi => lwt_le O (h i hi) (hb i (by omega))
        obtain ⟨v, e, q⟩ := ih fun l hl => by
          by_cases hlk : l = k
          · rw [hlk]; exact h0
          · exact h l (by omega)
        refine ⟨v, ?_, q⟩
        rw [sm] at e
        rw [eb_107_1]
        clear h ih q
        simp (disch := first | assumption | omega | exact st8_a (Nat.le_of_ble_eq_true rfl)) only [hk, h0, e1, eb_107_2, eb_107_4, eb_107_5, kl_a, kl_d, kl_f, kl_i, kl_l, kl_n, kl_r, xr_1, xr_10, xr_2, xr_28, xr_29, xr_3, xr_30, xr_31, xr_38, xr_4, xr_42, xr_5, xr_64, af_0, af_1, xt_goto, xt_ib, xt_ic, xt_ic_ge, xt_if_ne, xt_ir, xt_nop, gF_37_0, gF_37_2, gF_1_6, gA_2, gA_3, gA_4, gA_5, gA_6, gA_7, gA_8, gA_9, gA_10, gA_11, gA_13, gA_14, gA_16, gA_17, gA_20, gA_21, gA_22, gA_23, gA_24, gA_25, gA_26, gA_27, gA_30, gA_31, gA_32, gA_33, gA_34, gA_35, gA_36, gA_38, gA_39, gA_41, gA_42, gA_46, gA_47, gA_49, gA_50, gA_51, gA_53, gA_56, gA_57, gA_59, gA_60, xq_108_10_virtualc, iN_add, iN_mul, iN_sub, iN_and, iN_or, iN_clr, iN_shl, iN_shr, tb_r1, b1_z, b1_or, b1_and, b1_or0, b1_or1, b1_0or, b1_t, b1_f, iN_lt, iN_inj, reduceIte, if_true, if_false, Nat.zero_add, Nat.add_zero, Bool.false_eq_true, Bool.true_eq_false, Nat.lt_irrefl, iN_az, not_true_eq_false, not_false_eq_true, Nat.reduceEqDiff, Nat.reduceLT, Nat.reduceAdd, Nat.reduceMul, Nat.reduceSub]
        exact e
  obtain ⟨v, e, q⟩ := key 0 (Nat.zero_le _) fun l hl => by omega
  refine ⟨v, ?_, q⟩
  clear q key
  simp (disch := first | assumption | omega | exact st8_a (Nat.le_of_ble_eq_true rfl)) only [eb_107_0, kl_a, kl_d, kl_f, kl_i, kl_l, kl_n, kl_r, xr_1, xr_10, xr_2, xr_28, xr_29, xr_3, xr_30, xr_31, xr_38, xr_4, xr_42, xr_5, xr_64, af_0, af_1, xt_goto, xt_ib, xt_ic, xt_ic_ge, xt_if_ne, xt_ir, xt_nop, gF_37_0, gF_37_2, gF_1_6, gA_2, gA_3, gA_4, gA_5, gA_6, gA_7, gA_8, gA_9, gA_10, gA_11, gA_13, gA_14, gA_16, gA_17, gA_20, gA_21, gA_22, gA_23, gA_24, gA_25, gA_26, gA_27, gA_30, gA_31, gA_32, gA_33, gA_34, gA_35, gA_36, gA_38, gA_39, gA_41, gA_42, gA_46, gA_47, gA_49, gA_50, gA_51, gA_53, gA_56, gA_57, gA_59, gA_60, xq_108_10_virtualc, iN_add, iN_mul, iN_sub, iN_and, iN_or, iN_clr, iN_shl, iN_shr, tb_r1, b1_z, b1_or, b1_and, b1_or0, b1_or1, b1_0or, b1_t, b1_f, iN_lt, iN_inj, reduceIte, if_true, if_false, Nat.zero_add, Nat.add_zero, Bool.false_eq_true, Bool.true_eq_false, Nat.lt_irrefl, iN_az, not_true_eq_false, not_false_eq_true, Nat.reduceEqDiff, Nat.reduceLT, Nat.reduceAdd, Nat.reduceMul, Nat.reduceSub]
  exact e
end Vi
