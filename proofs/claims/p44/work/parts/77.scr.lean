/-! THE CLASS School: its rules -/
/-- what lies behind a place moves one place down, below k -/
def shf (q k : Nat) (f : Nat → Nat) : Nat → Nat := fun i => if q ≤ i ∧ i + 1 < k then f (i + 1) else f i
def rmr (σ : Nat → Nat → Nat) (q k : Nat) : Nat → Nat → Nat := ur (ur (ur σ 8 (shf q k (σ 8))) 9 (shf q k (σ 9))) 10 (shf q k (σ 10))
section Sr
variable {xs : List Int32} {σ M N : Nat → Nat → Nat} {R : ab_H} {d e l s r o u n t y v w k m q : Nat}
set_option maxRecDepth 100000 in
theorem s_69 (O : Ok σ) : ev xs d 69 0 ([.ref 1, .retAddr 9], [], hc σ M R) = some (.inl (some (.int (nI (b1 (an (σ 1 7) fun q => decide (σ 8 q = 0) || decide (σ 8 q = 7)))))), hc σ M R) := by
  obtain ⟨hD1, hD2, hH1, hH2, hS, hC, hT, hR, hL, hQ⟩ := Ok_b O
  have key : ∀ k, k ≤ (σ 1 7) → (∀ q, q < k → ¬ σ 8 q = 0 ∧ ¬ σ 8 q = 7) → ev xs d 69 1 ([.ref 1, .int (nI k)], [], hc σ M R) = some (.inl (some (.int (nI (b1 (an (σ 1 7) fun q => decide (σ 8 q = 0) || decide (σ 8 q = 7)))))), hc σ M R) := by
    refine lp (σ 1 7) ?_ ?_
    · intro h
      have e : (an (σ 1 7) fun q => decide (σ 8 q = 0) || decide (σ 8 q = 7)) = false := by
        cases hh : an (σ 1 7) fun q => decide (σ 8 q = 0) || decide (σ 8 q = 7)
        · rfl
        · obtain ⟨q, hq, h2⟩ := an_t.mp hh
          have := h q hq
          simp [this.1, this.2] at h2
      rw [e, eb_69_1]
      clear h e
      simp (disch := first | assumption | omega | exact st8_a (Nat.le_of_ble_eq_true rfl)) only [eb_69_6, kl_a, kl_d, kl_f, kl_i, kl_l, kl_n, kl_r, xr_1, xr_10, xr_2, xr_27, xr_28, xr_29, xr_3, xr_4, xr_5, xr_73, xr_87, xt_goto, xt_ib, xt_ic, xt_ic_ge, xt_ic_ne, xt_if_eq, xt_ir, xt_nop, gF_1_15, gF_1_7, gA_2, gA_3, gA_4, gA_5, gA_6, gA_7, gA_8, gA_9, gA_10, gA_11, gA_13, gA_14, gA_16, gA_17, gA_20, gA_21, gA_22, gA_23, gA_24, gA_25, gA_26, gA_27, gA_30, gA_31, gA_32, gA_33, gA_34, gA_35, gA_36, gA_38, gA_39, gA_41, gA_42, gA_46, gA_47, gA_49, gA_50, gA_51, gA_53, gA_56, gA_57, gA_59, gA_60, iN_add, iN_mul, iN_sub, iN_and, iN_or, iN_clr, iN_shl, iN_shr, tb_r1, b1_z, b1_or, b1_and, b1_or0, b1_or1, b1_0or, b1_t, b1_f, iN_lt, iN_inj, reduceIte, if_true, if_false, Nat.zero_add, Nat.add_zero, Bool.false_eq_true, Bool.true_eq_false, Nat.lt_irrefl, iN_az, not_true_eq_false, not_false_eq_true, Nat.reduceEqDiff, Nat.reduceLT, Nat.reduceAdd, Nat.reduceMul, Nat.reduceSub]
    · intro k hk ih h
      have hq := Ok_q O hk
      have h7 : σ 8 k < 4294967296 := by
        have : σ 8 k ≤ 7 := by
          unfold rok at hq
          by_cases h0 : σ 8 k ≤ 7
          · exact h0
          · rw [if_neg (by omega), if_neg (by omega), if_neg (by omega), if_neg (by omega), decide_eq_false (by omega)] at hq
            cases hq
        omega
      rw [eb_69_1]
      by_cases h0 : σ 8 k = 0
      · have e : (an (σ 1 7) fun q => decide (σ 8 q = 0) || decide (σ 8 q = 7)) = true := an_t.mpr ⟨k, hk, by rw [decide_eq_true h0]; rfl⟩
        rw [e]
        clear h e ih
        simp (disch := first | assumption | omega | exact st8_a (Nat.le_of_ble_eq_true rfl)) only [hk, h0, eb_69_2, eb_69_4, kl_a, kl_d, kl_f, kl_i, kl_l, kl_n, kl_r, xr_1, xr_10, xr_2, xr_27, xr_28, xr_29, xr_3, xr_4, xr_5, xr_73, xr_87, xt_goto, xt_ib, xt_ic, xt_ic_ge, xt_ic_ne, xt_if_eq, xt_ir, xt_nop, gF_1_15, gF_1_7, gA_2, gA_3, gA_4, gA_5, gA_6, gA_7, gA_8, gA_9, gA_10, gA_11, gA_13, gA_14, gA_16, gA_17, gA_20, gA_21, gA_22, gA_23, gA_24, gA_25, gA_26, gA_27, gA_30, gA_31, gA_32, gA_33, gA_34, gA_35, gA_36, gA_38, gA_39, gA_41, gA_42, gA_46, gA_47, gA_49, gA_50, gA_51, gA_53, gA_56, gA_57, gA_59, gA_60, iN_add, iN_mul, iN_sub, iN_and, iN_or, iN_clr, iN_shl, iN_shr, tb_r1, b1_z, b1_or, b1_and, b1_or0, b1_or1, b1_0or, b1_t, b1_f, iN_lt, iN_inj, reduceIte, if_true, if_false, Nat.zero_add, Nat.add_zero, Bool.false_eq_true, Bool.true_eq_false, Nat.lt_irrefl, iN_az, not_true_eq_false, not_false_eq_true, Nat.reduceEqDiff, Nat.reduceLT, Nat.reduceAdd, Nat.reduceMul, Nat.reduceSub]
      · by_cases h8 : σ 8 k = 7
        · have e : (an (σ 1 7) fun q => decide (σ 8 q = 0) || decide (σ 8 q = 7)) = true := an_t.mpr ⟨k, hk, by rw [decide_eq_true h8, Bool.or_true]⟩
          rw [e]
          clear h e ih
          simp (disch := first | assumption | omega | exact st8_a (Nat.le_of_ble_eq_true rfl)) only [hk, h0, h8, eb_69_2, eb_69_3, eb_69_4, kl_a, kl_d, kl_f, kl_i, kl_l, kl_n, kl_r, xr_1, xr_10, xr_2, xr_27, xr_28, xr_29, xr_3, xr_4, xr_5, xr_73, xr_87, xt_goto, xt_ib, xt_ic, xt_ic_ge, xt_ic_ne, xt_if_eq, xt_ir, xt_nop, gF_1_15, gF_1_7, gA_2, gA_3, gA_4, gA_5, gA_6, gA_7, gA_8, gA_9, gA_10, gA_11, gA_13, gA_14, gA_16, gA_17, gA_20, gA_21, gA_22, gA_23, gA_24, gA_25, gA_26, gA_27, gA_30, gA_31, gA_32, gA_33, gA_34, gA_35, gA_36, gA_38, gA_39, gA_41, gA_42, gA_46, gA_47, gA_49, gA_50, gA_51, gA_53, gA_56, gA_57, gA_59, gA_60, iN_add, iN_mul, iN_sub, iN_and, iN_or, iN_clr, iN_shl, iN_shr, tb_r1, b1_z, b1_or, b1_and, b1_or0, b1_or1, b1_0or, b1_t, b1_f, iN_lt, iN_inj, reduceIte, if_true, if_false, Nat.zero_add, Nat.add_zero, Bool.false_eq_true, Bool.true_eq_false, Nat.lt_irrefl, iN_az, not_true_eq_false, not_false_eq_true, Nat.reduceEqDiff, Nat.reduceLT, Nat.reduceAdd, Nat.reduceMul, Nat.reduceSub]
        · have := ih fun q hq => by
            by_cases hqk : q = k
            · rw [hqk]; exact ⟨h0, h8⟩
            · exact h q (by omega)
          clear h ih
          simp (disch := first | assumption | omega | exact st8_a (Nat.le_of_ble_eq_true rfl)) only [hk, h0, h8, eb_69_2, eb_69_3, eb_69_5, kl_a, kl_d, kl_f, kl_i, kl_l, kl_n, kl_r, xr_1, xr_10, xr_2, xr_27, xr_28, xr_29, xr_3, xr_4, xr_5, xr_73, xr_87, xt_goto, xt_ib, xt_ic, xt_ic_ge, xt_ic_ne, xt_if_eq, xt_ir, xt_nop, gF_1_15, gF_1_7, gA_2, gA_3, gA_4, gA_5, gA_6, gA_7, gA_8, gA_9, gA_10, gA_11, gA_13, gA_14, gA_16, gA_17, gA_20, gA_21, gA_22, gA_23, gA_24, gA_25, gA_26, gA_27, gA_30, gA_31, gA_32, gA_33, gA_34, gA_35, gA_36, gA_38, gA_39, gA_41, gA_42, gA_46, gA_47, gA_49, gA_50, gA_51, gA_53, gA_56, gA_57, gA_59, gA_60, iN_add, iN_mul, iN_sub, iN_and, iN_or, iN_clr, iN_shl, iN_shr, tb_r1, b1_z, b1_or, b1_and, b1_or0, b1_or1, b1_0or, b1_t, b1_f, iN_lt, iN_inj, reduceIte, if_true, if_false, Nat.zero_add, Nat.add_zero, Bool.false_eq_true, Bool.true_eq_false, Nat.lt_irrefl, iN_az, not_true_eq_false, not_false_eq_true, Nat.reduceEqDiff, Nat.reduceLT, Nat.reduceAdd, Nat.reduceMul, Nat.reduceSub]
          exact this
  have := key 0 (Nat.zero_le _) fun q hq => by omega
  clear key
  simp (disch := first | assumption | omega | exact st8_a (Nat.le_of_ble_eq_true rfl)) only [eb_69_0, kl_a, kl_d, kl_f, kl_i, kl_l, kl_n, kl_r, xr_1, xr_10, xr_2, xr_27, xr_28, xr_29, xr_3, xr_4, xr_5, xr_73, xr_87, xt_goto, xt_ib, xt_ic, xt_ic_ge, xt_ic_ne, xt_if_eq, xt_ir, xt_nop, gF_1_15, gF_1_7, gA_2, gA_3, gA_4, gA_5, gA_6, gA_7, gA_8, gA_9, gA_10, gA_11, gA_13, gA_14, gA_16, gA_17, gA_20, gA_21, gA_22, gA_23, gA_24, gA_25, gA_26, gA_27, gA_30, gA_31, gA_32, gA_33, gA_34, gA_35, gA_36, gA_38, gA_39, gA_41, gA_42, gA_46, gA_47, gA_49, gA_50, gA_51, gA_53, gA_56, gA_57, gA_59, gA_60, iN_add, iN_mul, iN_sub, iN_and, iN_or, iN_clr, iN_shl, iN_shr, tb_r1, b1_z, b1_or, b1_and, b1_or0, b1_or1, b1_0or, b1_t, b1_f, iN_lt, iN_inj, reduceIte, if_true, if_false, Nat.zero_add, Nat.add_zero, Bool.false_eq_true, Bool.true_eq_false, Nat.lt_irrefl, iN_az, not_true_eq_false, not_false_eq_true, Nat.reduceEqDiff, Nat.reduceLT, Nat.reduceAdd, Nat.reduceMul, Nat.reduceSub]
  exact this
set_option maxRecDepth 100000 in
theorem shf_st {f : Nat → Nat} (h : q < k) : u1 (shf q k f) (k - 1) (f k) = shf q (k + 1) f := by
  funext i
  by_cases hi : i = k - 1
  · rw [hi, u1_s]
    unfold shf
    rw [if_pos (by omega), show k - 1 + 1 = k by omega]
  · rw [u1_n hi]
    unfold shf
    by_cases h1 : q ≤ i ∧ i + 1 < k
    · rw [if_pos h1, if_pos (by omega)]
    · rw [if_neg h1, if_neg (by omega)]
set_option maxRecDepth 100000 in
theorem shf_k {f : Nat → Nat} : shf q k f k = f k := by
  unfold shf
  rw [if_neg (by omega)]
set_option maxRecDepth 100000 in
theorem shf_0 {f : Nat → Nat} : shf q (q + 1) f = f := by
  funext i
  unfold shf
  rw [if_neg (by omega)]
end Sr
