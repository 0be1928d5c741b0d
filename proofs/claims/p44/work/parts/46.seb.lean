/-! THE CLASS Search: lower bounds, narrow -/
set_option maxRecDepth 100000 in
theorem q_pw {xs : List Int32} {d m : Nat} {hs : List (Nat × Nat)} {t : ab_T} {r : List ab_I} {q : Nat × Nat × Nat} {L st : List Value} {h : ab_H} {k : Nat} (hk : k < 7) : rt xs d m hs t ((.iaload, q) :: r) (L, .int (nI k) :: .retAddr 0 :: st, h) = rt xs d m hs t r (L, .int (nI (5 ^ k)) :: st, h) := by
  apply rt_s
  have : k = 0 ∨ k = 1 ∨ k = 2 ∨ k = 3 ∨ k = 4 ∨ k = 5 ∨ k = 6 := by omega
  rcases this with rfl | rfl | rfl | rfl | rfl | rfl | rfl <;> rfl
/-- a timetable's slots go on from where the search is -/
def EX (σ M : Nat → Nat → Nat) (depth p : Nat) (s : Nat → Nat) : Prop := (∀ l, l < (σ 1 6) → p.testBit l = true → s l = M 34 l) ∧ ∀ l, l < (σ 1 6) → p.testBit l = false → (M 32 (depth * 6 + l)).testBit (s l) = true
def cfl (σ M : Nat → Nat → Nat) (depth p t m : Nat) : Bool := an (σ 1 6) fun l => !p.testBit l && (decide (σ 6 l = t) && (M 32 (depth * 6 + l)).testBit m)
def sgp (σ M : Nat → Nat → Nat) (depth p : Nat) : Nat := sm (σ 1 4) fun t => sm (σ 1 0) fun y => b1 (decide ((M 36 t &&& dm σ y) >>> (y * (σ 1 1)) = 5) && !cfl σ M depth p t (y * (σ 1 1) + 1))
def mel (σ M : Nat → Nat → Nat) (depth p l : Nat) : Bool := al (σ 1 2) fun i => !(if p.testBit l = true then decide (i = M 34 l) else (M 32 (depth * 6 + l)).testBit i) || decide (cov σ l i &&& lh σ ≠ 0)
def lws (σ M : Nat → Nat → Nat) (depth p : Nat) : Nat := sm (σ 1 4) fun t => 5 ^ min (sm (σ 1 6) fun l => b1 (decide (σ 6 l = t) && mel σ M depth p l)) 6
section Sd
variable {xs : List Int32} {d : Nat} {σ M : Nat → Nat → Nat} {R h : ab_H} {l o s i u q n k t p depth : Nat}
set_option maxRecDepth 100000 in
theorem PS_so (O : Ok σ) (hW : QW σ M) (hP : PS σ M depth p) (hl : l < (σ 1 6)) (hp : p.testBit l = true) : M 34 l < (σ 1 2) := (hW.1 l hl _ (hP.1 l hl hp)).1
set_option maxRecDepth 100000 in
theorem PS_us (O : Ok σ) (hW : QW σ M) (hP : PS σ M depth p) (ht : t < (σ 1 4)) : M 36 t < 64 := by
  rw [hP.2.2.1 t ht]
  exact usd_lt O fun l hl hp => PS_so O hW hP hl hp
set_option maxRecDepth 100000 in
theorem s_89 (O : Ok σ) (hd : depth ≤ 6) (hp : p < 64) (hd6 : (∃ l, l < (σ 1 6) ∧ p.testBit l = false) → depth < 6) (hdom : ∀ j, M 32 j < 64) (hus : ∀ t, t < (σ 1 4) → M 36 t < 64) : ev xs (d + 1) 89 0 ([.ref 28, .int (nI depth), .int (nI p), .retAddr 9, .retAddr 9, .retAddr 9, .retAddr 9], [], hc σ M R) = some (.inl (some (.int (nI (sgp σ M depth p)))), hc σ M R) := by
  obtain ⟨hD1, hD2, hH1, hH2, hS, hC, hT, hR, hL, hQ⟩ := Ok_b O
  have key : ∀ k, k ≤ (σ 1 4) → ∀ acc y5 y6, acc = (sm k fun t => sm (σ 1 0) fun y => b1 (decide ((M 36 t &&& dm σ y) >>> (y * (σ 1 1)) = 5) && !cfl σ M depth p t (y * (σ 1 1) + 1))) → ev xs (d + 1) 89 1 ([.ref 28, .int (nI depth), .int (nI p), .int (nI acc), .int (nI k), y5, y6], [], hc σ M R) = some (.inl (some (.int (nI (sgp σ M depth p)))), hc σ M R) := by
    refine lp (σ 1 4) ?_ ?_
    · intro acc y5 y6 ha
      rw [eb_89_1]
      simp (disch := first | assumption | omega | exact st8_a (Nat.le_of_ble_eq_true rfl)) only [eb_89_0, eb_89_2, eb_89_4, eb_89_5, eb_89_6, eb_89_7, eb_89_8, eb_89_9, eb_89_10, eb_89_11, kl_a, kl_d, kl_f, kl_i, kl_l, kl_n, kl_r, xr_1, xr_10, xr_2, xr_27, xr_28, xr_3, xr_31, xr_32, xr_33, xr_34, xr_35, xr_36, xr_37, xr_38, xr_39, xr_4, xr_40, xr_41, xr_43, xr_44, xr_5, xr_55, xr_56, xr_57, xr_66, af_0, af_1, xt_goto, xt_ib, xt_ic, xt_ic_ge, xt_ic_ne, xt_if_ne, xt_ir, xt_nop, gF_1_0, gF_1_1, gF_1_4, gF_28_0, gF_28_7, gA_2, gA_3, gA_4, gA_5, gA_6, gA_7, gA_8, gA_9, gA_10, gA_11, gA_13, gA_14, gA_16, gA_17, gA_20, gA_21, gA_22, gA_23, gA_24, gA_25, gA_26, gA_27, gA_30, gA_31, gA_32, gA_33, gA_34, gA_35, gA_36, gA_38, gA_39, gA_41, gA_42, gA_46, gA_47, gA_49, gA_50, gA_51, gA_53, gA_56, gA_57, gA_59, gA_60, xq_60_6_virtualc, xq_90_7_virtualc, iN_add, iN_mul, iN_sub, iN_and, iN_or, iN_clr, iN_shl, iN_shr, tb_r1, b1_z, b1_or, b1_and, b1_or0, b1_or1, b1_0or, b1_t, b1_f, iN_lt, iN_inj, reduceIte, if_true, if_false, Nat.zero_add, Nat.add_zero, Bool.false_eq_true, Bool.true_eq_false, Nat.lt_irrefl, iN_az, not_true_eq_false, not_false_eq_true, Nat.reduceEqDiff, Nat.reduceLT, Nat.reduceAdd, Nat.reduceMul, Nat.reduceSub]
      rw [ha]
      rfl
    · intro k hk ih acc y5 y6 ha
      have inn : ∀ j, j ≤ (σ 1 0) → ∀ acc y6, acc = (sm k fun t => sm (σ 1 0) fun y => b1 (decide ((M 36 t &&& dm σ y) >>> (y * (σ 1 1)) = 5) && !cfl σ M depth p t (y * (σ 1 1) + 1))) + (sm j fun y => b1 (decide ((M 36 k &&& dm σ y) >>> (y * (σ 1 1)) = 5) && !cfl σ M depth p k (y * (σ 1 1) + 1))) → ev xs (d + 1) 89 3 ([.ref 28, .int (nI depth), .int (nI p), .int (nI acc), .int (nI k), .int (nI j), y6], [], hc σ M R) = some (.inl (some (.int (nI (sgp σ M depth p)))), hc σ M R) := by
        refine lp (σ 1 0) ?_ ?_
        · intro acc y6 ha
          rw [eb_89_3]
          simp (disch := first | assumption | omega | exact st8_a (Nat.le_of_ble_eq_true rfl)) only [eb_89_0, eb_89_2, eb_89_4, eb_89_5, eb_89_6, eb_89_7, eb_89_8, eb_89_9, eb_89_10, eb_89_11, kl_a, kl_d, kl_f, kl_i, kl_l, kl_n, kl_r, xr_1, xr_10, xr_2, xr_27, xr_28, xr_3, xr_31, xr_32, xr_33, xr_34, xr_35, xr_36, xr_37, xr_38, xr_39, xr_4, xr_40, xr_41, xr_43, xr_44, xr_5, xr_55, xr_56, xr_57, xr_66, af_0, af_1, xt_goto, xt_ib, xt_ic, xt_ic_ge, xt_ic_ne, xt_if_ne, xt_ir, xt_nop, gF_1_0, gF_1_1, gF_1_4, gF_28_0, gF_28_7, gA_2, gA_3, gA_4, gA_5, gA_6, gA_7, gA_8, gA_9, gA_10, gA_11, gA_13, gA_14, gA_16, gA_17, gA_20, gA_21, gA_22, gA_23, gA_24, gA_25, gA_26, gA_27, gA_30, gA_31, gA_32, gA_33, gA_34, gA_35, gA_36, gA_38, gA_39, gA_41, gA_42, gA_46, gA_47, gA_49, gA_50, gA_51, gA_53, gA_56, gA_57, gA_59, gA_60, xq_60_6_virtualc, xq_90_7_virtualc, iN_add, iN_mul, iN_sub, iN_and, iN_or, iN_clr, iN_shl, iN_shr, tb_r1, b1_z, b1_or, b1_and, b1_or0, b1_or1, b1_0or, b1_t, b1_f, iN_lt, iN_inj, reduceIte, if_true, if_false, Nat.zero_add, Nat.add_zero, Bool.false_eq_true, Bool.true_eq_false, Nat.lt_irrefl, iN_az, not_true_eq_false, not_false_eq_true, Nat.reduceEqDiff, Nat.reduceLT, Nat.reduceAdd, Nat.reduceMul, Nat.reduceSub]
          exact ih _ _ _ (by rw [ha, sm])
        · intro j hj ih2 acc y6 ha
          have h0 := hus k hk
          have h1 : M 36 k &&& dm σ j < 64 := Nat.lt_of_le_of_lt Nat.and_le_left h0
          have h3 : (M 36 k &&& dm σ j) >>> (j * (σ 1 1)) < 64 := Nat.lt_of_le_of_lt (Nat.shiftRight_le _ _) h1
          have h2 : j * (σ 1 1) + 1 < 10 := by
            have : j = 0 ∨ j = 1 := by omega
            rcases this with rfl | rfl <;> omega
          have h5 : j * (σ 1 1) < 32 := by omega
          obtain ⟨b, hb, e⟩ := s_90 (xs := xs) (d := d) (M := M) (R := R) (u := k) O hd hp (by omega) h2 hd6 (fun l hl _ => hdom _)
          have hcf : b = cfl σ M depth p k (j * (σ 1 1) + 1) := by
            rw [Bool.eq_iff_iff, hb]
            unfold cfl
            rw [an_t]
            simp
          rw [eb_89_3]
          by_cases h4 : (M 36 k &&& dm σ j) >>> (j * (σ 1 1)) = 5
          · cases hbb : b
            · rw [hbb] at e hcf
              simp (disch := first | assumption | omega | exact st8_a (Nat.le_of_ble_eq_true rfl)) only [hj, s_60 O hj, eq_true h4, e, eb_89_0, eb_89_2, eb_89_4, eb_89_5, eb_89_6, eb_89_7, eb_89_8, eb_89_9, eb_89_10, eb_89_11, kl_a, kl_d, kl_f, kl_i, kl_l, kl_n, kl_r, xr_1, xr_10, xr_2, xr_27, xr_28, xr_3, xr_31, xr_32, xr_33, xr_34, xr_35, xr_36, xr_37, xr_38, xr_39, xr_4, xr_40, xr_41, xr_43, xr_44, xr_5, xr_55, xr_56, xr_57, xr_66, af_0, af_1, xt_goto, xt_ib, xt_ic, xt_ic_ge, xt_ic_ne, xt_if_ne, xt_ir, xt_nop, gF_1_0, gF_1_1, gF_1_4, gF_28_0, gF_28_7, gA_2, gA_3, gA_4, gA_5, gA_6, gA_7, gA_8, gA_9, gA_10, gA_11, gA_13, gA_14, gA_16, gA_17, gA_20, gA_21, gA_22, gA_23, gA_24, gA_25, gA_26, gA_27, gA_30, gA_31, gA_32, gA_33, gA_34, gA_35, gA_36, gA_38, gA_39, gA_41, gA_42, gA_46, gA_47, gA_49, gA_50, gA_51, gA_53, gA_56, gA_57, gA_59, gA_60, xq_60_6_virtualc, xq_90_7_virtualc, iN_add, iN_mul, iN_sub, iN_and, iN_or, iN_clr, iN_shl, iN_shr, tb_r1, b1_z, b1_or, b1_and, b1_or0, b1_or1, b1_0or, b1_t, b1_f, iN_lt, iN_inj, reduceIte, if_true, if_false, Nat.zero_add, Nat.add_zero, Bool.false_eq_true, Bool.true_eq_false, Nat.lt_irrefl, iN_az, not_true_eq_false, not_false_eq_true, Nat.reduceEqDiff, Nat.reduceLT, Nat.reduceAdd, Nat.reduceMul, Nat.reduceSub]
              exact ih2 _ _ (by rw [ha, sm, decide_eq_true h4, ← hcf]; rfl)
            · rw [hbb] at e hcf
              simp (disch := first | assumption | omega | exact st8_a (Nat.le_of_ble_eq_true rfl)) only [hj, s_60 O hj, eq_true h4, e, eb_89_0, eb_89_2, eb_89_4, eb_89_5, eb_89_6, eb_89_7, eb_89_8, eb_89_9, eb_89_10, eb_89_11, kl_a, kl_d, kl_f, kl_i, kl_l, kl_n, kl_r, xr_1, xr_10, xr_2, xr_27, xr_28, xr_3, xr_31, xr_32, xr_33, xr_34, xr_35, xr_36, xr_37, xr_38, xr_39, xr_4, xr_40, xr_41, xr_43, xr_44, xr_5, xr_55, xr_56, xr_57, xr_66, af_0, af_1, xt_goto, xt_ib, xt_ic, xt_ic_ge, xt_ic_ne, xt_if_ne, xt_ir, xt_nop, gF_1_0, gF_1_1, gF_1_4, gF_28_0, gF_28_7, gA_2, gA_3, gA_4, gA_5, gA_6, gA_7, gA_8, gA_9, gA_10, gA_11, gA_13, gA_14, gA_16, gA_17, gA_20, gA_21, gA_22, gA_23, gA_24, gA_25, gA_26, gA_27, gA_30, gA_31, gA_32, gA_33, gA_34, gA_35, gA_36, gA_38, gA_39, gA_41, gA_42, gA_46, gA_47, gA_49, gA_50, gA_51, gA_53, gA_56, gA_57, gA_59, gA_60, xq_60_6_virtualc, xq_90_7_virtualc, iN_add, iN_mul, iN_sub, iN_and, iN_or, iN_clr, iN_shl, iN_shr, tb_r1, b1_z, b1_or, b1_and, b1_or0, b1_or1, b1_0or, b1_t, b1_f, iN_lt, iN_inj, reduceIte, if_true, if_false, Nat.zero_add, Nat.add_zero, Bool.false_eq_true, Bool.true_eq_false, Nat.lt_irrefl, iN_az, not_true_eq_false, not_false_eq_true, Nat.reduceEqDiff, Nat.reduceLT, Nat.reduceAdd, Nat.reduceMul, Nat.reduceSub]
              exact ih2 _ _ (by rw [ha, sm, decide_eq_true h4, ← hcf]; rfl)
          · simp (disch := first | assumption | omega | exact st8_a (Nat.le_of_ble_eq_true rfl)) only [hj, s_60 O hj, h4, eb_89_0, eb_89_2, eb_89_4, eb_89_5, eb_89_6, eb_89_7, eb_89_8, eb_89_9, eb_89_10, eb_89_11, kl_a, kl_d, kl_f, kl_i, kl_l, kl_n, kl_r, xr_1, xr_10, xr_2, xr_27, xr_28, xr_3, xr_31, xr_32, xr_33, xr_34, xr_35, xr_36, xr_37, xr_38, xr_39, xr_4, xr_40, xr_41, xr_43, xr_44, xr_5, xr_55, xr_56, xr_57, xr_66, af_0, af_1, xt_goto, xt_ib, xt_ic, xt_ic_ge, xt_ic_ne, xt_if_ne, xt_ir, xt_nop, gF_1_0, gF_1_1, gF_1_4, gF_28_0, gF_28_7, gA_2, gA_3, gA_4, gA_5, gA_6, gA_7, gA_8, gA_9, gA_10, gA_11, gA_13, gA_14, gA_16, gA_17, gA_20, gA_21, gA_22, gA_23, gA_24, gA_25, gA_26, gA_27, gA_30, gA_31, gA_32, gA_33, gA_34, gA_35, gA_36, gA_38, gA_39, gA_41, gA_42, gA_46, gA_47, gA_49, gA_50, gA_51, gA_53, gA_56, gA_57, gA_59, gA_60, xq_60_6_virtualc, xq_90_7_virtualc, iN_add, iN_mul, iN_sub, iN_and, iN_or, iN_clr, iN_shl, iN_shr, tb_r1, b1_z, b1_or, b1_and, b1_or0, b1_or1, b1_0or, b1_t, b1_f, iN_lt, iN_inj, reduceIte, if_true, if_false, Nat.zero_add, Nat.add_zero, Bool.false_eq_true, Bool.true_eq_false, Nat.lt_irrefl, iN_az, not_true_eq_false, not_false_eq_true, Nat.reduceEqDiff, Nat.reduceLT, Nat.reduceAdd, Nat.reduceMul, Nat.reduceSub]
            exact ih2 _ _ (by rw [ha, sm, decide_eq_false h4]; rfl)
      rw [eb_89_1]
      simp (disch := first | assumption | omega | exact st8_a (Nat.le_of_ble_eq_true rfl)) only [hk, eb_89_0, eb_89_2, eb_89_4, eb_89_5, eb_89_6, eb_89_7, eb_89_8, eb_89_9, eb_89_10, eb_89_11, kl_a, kl_d, kl_f, kl_i, kl_l, kl_n, kl_r, xr_1, xr_10, xr_2, xr_27, xr_28, xr_3, xr_31, xr_32, xr_33, xr_34, xr_35, xr_36, xr_37, xr_38, xr_39, xr_4, xr_40, xr_41, xr_43, xr_44, xr_5, xr_55, xr_56, xr_57, xr_66, af_0, af_1, xt_goto, xt_ib, xt_ic, xt_ic_ge, xt_ic_ne, xt_if_ne, xt_ir, xt_nop, gF_1_0, gF_1_1, gF_1_4, gF_28_0, gF_28_7, gA_2, gA_3, gA_4, gA_5, gA_6, gA_7, gA_8, gA_9, gA_10, gA_11, gA_13, gA_14, gA_16, gA_17, gA_20, gA_21, gA_22, gA_23, gA_24, gA_25, gA_26, gA_27, gA_30, gA_31, gA_32, gA_33, gA_34, gA_35, gA_36, gA_38, gA_39, gA_41, gA_42, gA_46, gA_47, gA_49, gA_50, gA_51, gA_53, gA_56, gA_57, gA_59, gA_60, xq_60_6_virtualc, xq_90_7_virtualc, iN_add, iN_mul, iN_sub, iN_and, iN_or, iN_clr, iN_shl, iN_shr, tb_r1, b1_z, b1_or, b1_and, b1_or0, b1_or1, b1_0or, b1_t, b1_f, iN_lt, iN_inj, reduceIte, if_true, if_false, Nat.zero_add, Nat.add_zero, Bool.false_eq_true, Bool.true_eq_false, Nat.lt_irrefl, iN_az, not_true_eq_false, not_false_eq_true, Nat.reduceEqDiff, Nat.reduceLT, Nat.reduceAdd, Nat.reduceMul, Nat.reduceSub]
      exact inn 0 (Nat.zero_le _) _ _ (by rw [ha, sm]; rfl)
  simp (disch := first | assumption | omega | exact st8_a (Nat.le_of_ble_eq_true rfl)) only [eb_89_0, eb_89_2, eb_89_4, eb_89_5, eb_89_6, eb_89_7, eb_89_8, eb_89_9, eb_89_10, eb_89_11, kl_a, kl_d, kl_f, kl_i, kl_l, kl_n, kl_r, xr_1, xr_10, xr_2, xr_27, xr_28, xr_3, xr_31, xr_32, xr_33, xr_34, xr_35, xr_36, xr_37, xr_38, xr_39, xr_4, xr_40, xr_41, xr_43, xr_44, xr_5, xr_55, xr_56, xr_57, xr_66, af_0, af_1, xt_goto, xt_ib, xt_ic, xt_ic_ge, xt_ic_ne, xt_if_ne, xt_ir, xt_nop, gF_1_0, gF_1_1, gF_1_4, gF_28_0, gF_28_7, gA_2, gA_3, gA_4, gA_5, gA_6, gA_7, gA_8, gA_9, gA_10, gA_11, gA_13, gA_14, gA_16, gA_17, gA_20, gA_21, gA_22, gA_23, gA_24, gA_25, gA_26, gA_27, gA_30, gA_31, gA_32, gA_33, gA_34, gA_35, gA_36, gA_38, gA_39, gA_41, gA_42, gA_46, gA_47, gA_49, gA_50, gA_51, gA_53, gA_56, gA_57, gA_59, gA_60, xq_60_6_virtualc, xq_90_7_virtualc, iN_add, iN_mul, iN_sub, iN_and, iN_or, iN_clr, iN_shl, iN_shr, tb_r1, b1_z, b1_or, b1_and, b1_or0, b1_or1, b1_0or, b1_t, b1_f, iN_lt, iN_inj, reduceIte, if_true, if_false, Nat.zero_add, Nat.add_zero, Bool.false_eq_true, Bool.true_eq_false, Nat.lt_irrefl, iN_az, not_true_eq_false, not_false_eq_true, Nat.reduceEqDiff, Nat.reduceLT, Nat.reduceAdd, Nat.reduceMul, Nat.reduceSub]
  exact key 0 (Nat.zero_le _) _ _ _ rfl
set_option maxRecDepth 100000 in
theorem s_91 (O : Ok σ) (hd : depth ≤ 6) (hp : p < 64) (hc25 : ∀ l, l < (σ 1 6) → ∀ s, s < (σ 1 2) → M 25 (l * 6 + s) = cov σ l s) (h9 : M 19 9 = lh σ) (hso : ∀ l, l < (σ 1 6) → p.testBit l = true → M 34 l < (σ 1 2)) (hd6 : ∀ l, l < (σ 1 6) → p.testBit l = false → depth < 6) (hdom : ∀ j, M 32 j < 64) : ev xs (d + 1) 91 0 ([.ref 28, .int (nI depth), .int (nI p), .retAddr 9, .retAddr 9, .retAddr 9, .retAddr 9], [], hc σ M R) = some (.inl (some (.int (nI (lws σ M depth p)))), hc σ M R) := by
  obtain ⟨hD1, hD2, hH1, hH2, hS, hC, hT, hR, hL, hQ⟩ := Ok_b O
  have key : ∀ k, k ≤ (σ 1 4) → ∀ y5 y6, ev xs (d + 1) 91 1 ([.ref 28, .int (nI depth), .int (nI p), .int (nI (sm k fun t => 5 ^ min (sm (σ 1 6) fun l => b1 (decide (σ 6 l = t) && mel σ M depth p l)) 6)), .int (nI k), y5, y6], [], hc σ M R) = some (.inl (some (.int (nI (lws σ M depth p)))), hc σ M R) := by
    refine lp (σ 1 4) ?_ ?_
    · intro y5 y6
      rw [eb_91_1]
      simp (disch := first | assumption | omega | exact st8_a (Nat.le_of_ble_eq_true rfl)) only [eb_91_0, eb_91_2, eb_91_4, eb_91_5, eb_91_6, eb_91_7, eb_91_8, eb_91_9, eb_91_10, kl_a, kl_d, kl_f, kl_i, kl_l, kl_n, kl_r, xr_1, xr_10, xr_2, xr_28, xr_3, xr_31, xr_32, xr_33, xr_34, xr_35, xr_36, xr_37, xr_38, xr_39, xr_4, xr_40, xr_47, xr_48, xr_5, xr_56, xr_57, xr_63, xr_99, af_0, af_1, xt_goto, xt_ib, xt_ic, xt_ic_ge, xt_ic_ne, xt_if_eq, xt_ir, xt_nop, gF_1_13, gF_1_4, gF_1_6, gF_28_0, gA_2, gA_3, gA_4, gA_5, gA_6, gA_7, gA_8, gA_9, gA_10, gA_11, gA_13, gA_14, gA_16, gA_17, gA_20, gA_21, gA_22, gA_23, gA_24, gA_25, gA_26, gA_27, gA_30, gA_31, gA_32, gA_33, gA_34, gA_35, gA_36, gA_38, gA_39, gA_41, gA_42, gA_46, gA_47, gA_49, gA_50, gA_51, gA_53, gA_56, gA_57, gA_59, gA_60, xq_92_7_virtualc, iN_add, iN_mul, iN_sub, iN_and, iN_or, iN_clr, iN_shl, iN_shr, tb_r1, b1_z, b1_or, b1_and, b1_or0, b1_or1, b1_0or, b1_t, b1_f, iN_lt, iN_inj, reduceIte, if_true, if_false, Nat.zero_add, Nat.add_zero, Bool.false_eq_true, Bool.true_eq_false, Nat.lt_irrefl, iN_az, not_true_eq_false, not_false_eq_true, Nat.reduceEqDiff, Nat.reduceLT, Nat.reduceAdd, Nat.reduceMul, Nat.reduceSub]
      rfl
    · intro k hk ih y5 y6
      have inn : ∀ j, j ≤ (σ 1 6) → ev xs (d + 1) 91 3 ([.ref 28, .int (nI depth), .int (nI p), .int (nI (sm k fun t => 5 ^ min (sm (σ 1 6) fun l => b1 (decide (σ 6 l = t) && mel σ M depth p l)) 6)), .int (nI k), .int (nI (sm j fun l => b1 (decide (σ 6 l = k) && mel σ M depth p l))), .int (nI j)], [], hc σ M R) = some (.inl (some (.int (nI (lws σ M depth p)))), hc σ M R) := by
        refine lp (σ 1 6) ?_ ?_
        · have h1 := sm_le (n := (σ 1 6)) (c := 1) (f := fun l => b1 (decide (σ 6 l = k) && mel σ M depth p l)) fun i _ => Nat.le_of_lt_succ (b1_lt _)
          have h2 : min (sm (σ 1 6) fun l => b1 (decide (σ 6 l = k) && mel σ M depth p l)) 6 < 7 := by omega
          have ih := ih (.int (nI (sm (σ 1 6) fun l => b1 (decide (σ 6 l = k) && mel σ M depth p l)))) (.int (nI (σ 1 6)))
          rw [sm] at ih
          rw [eb_91_3]
          simp (disch := first | assumption | omega | exact st8_a (Nat.le_of_ble_eq_true rfl)) only [q_pw, eb_91_0, eb_91_2, eb_91_4, eb_91_5, eb_91_6, eb_91_7, eb_91_8, eb_91_9, eb_91_10, kl_a, kl_d, kl_f, kl_i, kl_l, kl_n, kl_r, xr_1, xr_10, xr_2, xr_28, xr_3, xr_31, xr_32, xr_33, xr_34, xr_35, xr_36, xr_37, xr_38, xr_39, xr_4, xr_40, xr_47, xr_48, xr_5, xr_56, xr_57, xr_63, xr_99, af_0, af_1, xt_goto, xt_ib, xt_ic, xt_ic_ge, xt_ic_ne, xt_if_eq, xt_ir, xt_nop, gF_1_13, gF_1_4, gF_1_6, gF_28_0, gA_2, gA_3, gA_4, gA_5, gA_6, gA_7, gA_8, gA_9, gA_10, gA_11, gA_13, gA_14, gA_16, gA_17, gA_20, gA_21, gA_22, gA_23, gA_24, gA_25, gA_26, gA_27, gA_30, gA_31, gA_32, gA_33, gA_34, gA_35, gA_36, gA_38, gA_39, gA_41, gA_42, gA_46, gA_47, gA_49, gA_50, gA_51, gA_53, gA_56, gA_57, gA_59, gA_60, xq_92_7_virtualc, iN_add, iN_mul, iN_sub, iN_and, iN_or, iN_clr, iN_shl, iN_shr, tb_r1, b1_z, b1_or, b1_and, b1_or0, b1_or1, b1_0or, b1_t, b1_f, iN_lt, iN_inj, reduceIte, if_true, if_false, Nat.zero_add, Nat.add_zero, Bool.false_eq_true, Bool.true_eq_false, Nat.lt_irrefl, iN_az, not_true_eq_false, not_false_eq_true, Nat.reduceEqDiff, Nat.reduceLT, Nat.reduceAdd, Nat.reduceMul, Nat.reduceSub]
          exact ih
        · intro j hj ih2
          have kt := Ok_l O hj
          obtain ⟨b, hb, e⟩ := s_92 (xs := xs) (d := d) (M := M) (R := R) O hd hp hj (hc25 j hj) h9 (hso j hj) (fun z => ⟨hd6 j hj z, hdom _⟩)
          have hme : b = mel σ M depth p j := by
            rw [Bool.eq_iff_iff, hb]
            unfold mel
            rw [al_t]
            constructor
            · intro h i hi
              rw [Bool.or_eq_true, Bool.not_eq_true', decide_eq_true_eq]
              cases hh : (if p.testBit j = true then decide (i = M 34 j) else (M 32 (depth * 6 + j)).testBit i)
              · exact .inl rfl
              · refine .inr (h i hi ?_)
                split at hh
                · rename_i h2
                  rw [if_pos h2]
                  exact of_decide_eq_true hh
                · rename_i h2
                  rw [if_neg h2]
                  exact hh
            · intro h i hi h2
              have h3 := h i hi
              rw [Bool.or_eq_true, Bool.not_eq_true', decide_eq_true_eq] at h3
              rcases h3 with h3 | h3
              · split at h2
                · rename_i h4
                  rw [if_pos h4, decide_eq_false_iff_not] at h3
                  exact absurd h2 h3
                · rename_i h4
                  rw [if_neg h4, h2] at h3
                  cases h3
              · exact h3
          rw [eb_91_3]
          rw [sm] at ih2
          by_cases h1 : σ 6 j = k
          · cases hbb : b
            · rw [hbb] at e hme
              rw [decide_eq_true h1, ← hme] at ih2
              simp (disch := first | assumption | omega | exact st8_a (Nat.le_of_ble_eq_true rfl)) only [hj, eq_true h1, e, eb_91_0, eb_91_2, eb_91_4, eb_91_5, eb_91_6, eb_91_7, eb_91_8, eb_91_9, eb_91_10, kl_a, kl_d, kl_f, kl_i, kl_l, kl_n, kl_r, xr_1, xr_10, xr_2, xr_28, xr_3, xr_31, xr_32, xr_33, xr_34, xr_35, xr_36, xr_37, xr_38, xr_39, xr_4, xr_40, xr_47, xr_48, xr_5, xr_56, xr_57, xr_63, xr_99, af_0, af_1, xt_goto, xt_ib, xt_ic, xt_ic_ge, xt_ic_ne, xt_if_eq, xt_ir, xt_nop, gF_1_13, gF_1_4, gF_1_6, gF_28_0, gA_2, gA_3, gA_4, gA_5, gA_6, gA_7, gA_8, gA_9, gA_10, gA_11, gA_13, gA_14, gA_16, gA_17, gA_20, gA_21, gA_22, gA_23, gA_24, gA_25, gA_26, gA_27, gA_30, gA_31, gA_32, gA_33, gA_34, gA_35, gA_36, gA_38, gA_39, gA_41, gA_42, gA_46, gA_47, gA_49, gA_50, gA_51, gA_53, gA_56, gA_57, gA_59, gA_60, xq_92_7_virtualc, iN_add, iN_mul, iN_sub, iN_and, iN_or, iN_clr, iN_shl, iN_shr, tb_r1, b1_z, b1_or, b1_and, b1_or0, b1_or1, b1_0or, b1_t, b1_f, iN_lt, iN_inj, reduceIte, if_true, if_false, Nat.zero_add, Nat.add_zero, Bool.false_eq_true, Bool.true_eq_false, Nat.lt_irrefl, iN_az, not_true_eq_false, not_false_eq_true, Nat.reduceEqDiff, Nat.reduceLT, Nat.reduceAdd, Nat.reduceMul, Nat.reduceSub]
              exact ih2
            · rw [hbb] at e hme
              rw [decide_eq_true h1, ← hme] at ih2
              simp (disch := first | assumption | omega | exact st8_a (Nat.le_of_ble_eq_true rfl)) only [hj, eq_true h1, e, eb_91_0, eb_91_2, eb_91_4, eb_91_5, eb_91_6, eb_91_7, eb_91_8, eb_91_9, eb_91_10, kl_a, kl_d, kl_f, kl_i, kl_l, kl_n, kl_r, xr_1, xr_10, xr_2, xr_28, xr_3, xr_31, xr_32, xr_33, xr_34, xr_35, xr_36, xr_37, xr_38, xr_39, xr_4, xr_40, xr_47, xr_48, xr_5, xr_56, xr_57, xr_63, xr_99, af_0, af_1, xt_goto, xt_ib, xt_ic, xt_ic_ge, xt_ic_ne, xt_if_eq, xt_ir, xt_nop, gF_1_13, gF_1_4, gF_1_6, gF_28_0, gA_2, gA_3, gA_4, gA_5, gA_6, gA_7, gA_8, gA_9, gA_10, gA_11, gA_13, gA_14, gA_16, gA_17, gA_20, gA_21, gA_22, gA_23, gA_24, gA_25, gA_26, gA_27, gA_30, gA_31, gA_32, gA_33, gA_34, gA_35, gA_36, gA_38, gA_39, gA_41, gA_42, gA_46, gA_47, gA_49, gA_50, gA_51, gA_53, gA_56, gA_57, gA_59, gA_60, xq_92_7_virtualc, iN_add, iN_mul, iN_sub, iN_and, iN_or, iN_clr, iN_shl, iN_shr, tb_r1, b1_z, b1_or, b1_and, b1_or0, b1_or1, b1_0or, b1_t, b1_f, iN_lt, iN_inj, reduceIte, if_true, if_false, Nat.zero_add, Nat.add_zero, Bool.false_eq_true, Bool.true_eq_false, Nat.lt_irrefl, iN_az, not_true_eq_false, not_false_eq_true, Nat.reduceEqDiff, Nat.reduceLT, Nat.reduceAdd, Nat.reduceMul, Nat.reduceSub]
              exact ih2
          · rw [decide_eq_false h1] at ih2
            simp (disch := first | assumption | omega | exact st8_a (Nat.le_of_ble_eq_true rfl)) only [hj, h1, eb_91_0, eb_91_2, eb_91_4, eb_91_5, eb_91_6, eb_91_7, eb_91_8, eb_91_9, eb_91_10, kl_a, kl_d, kl_f, kl_i, kl_l, kl_n, kl_r, xr_1, xr_10, xr_2, xr_28, xr_3, xr_31, xr_32, xr_33, xr_34, xr_35, xr_36, xr_37, xr_38, xr_39, xr_4, xr_40, xr_47, xr_48, xr_5, xr_56, xr_57, xr_63, xr_99, af_0, af_1, xt_goto, xt_ib, xt_ic, xt_ic_ge, xt_ic_ne, xt_if_eq, xt_ir, xt_nop, gF_1_13, gF_1_4, gF_1_6, gF_28_0, gA_2, gA_3, gA_4, gA_5, gA_6, gA_7, gA_8, gA_9, gA_10, gA_11, gA_13, gA_14, gA_16, gA_17, gA_20, gA_21, gA_22, gA_23, gA_24, gA_25, gA_26, gA_27, gA_30, gA_31, gA_32, gA_33, gA_34, gA_35, gA_36, gA_38, gA_39, gA_41, gA_42, gA_46, gA_47, gA_49, gA_50, gA_51, gA_53, gA_56, gA_57, gA_59, gA_60, xq_92_7_virtualc, iN_add, iN_mul, iN_sub, iN_and, iN_or, iN_clr, iN_shl, iN_shr, tb_r1, b1_z, b1_or, b1_and, b1_or0, b1_or1, b1_0or, b1_t, b1_f, iN_lt, iN_inj, reduceIte, if_true, if_false, Nat.zero_add, Nat.add_zero, Bool.false_eq_true, Bool.true_eq_false, Nat.lt_irrefl, iN_az, not_true_eq_false, not_false_eq_true, Nat.reduceEqDiff, Nat.reduceLT, Nat.reduceAdd, Nat.reduceMul, Nat.reduceSub]
            exact ih2
      rw [eb_91_1]
      simp (disch := first | assumption | omega | exact st8_a (Nat.le_of_ble_eq_true rfl)) only [hk, eb_91_0, eb_91_2, eb_91_4, eb_91_5, eb_91_6, eb_91_7, eb_91_8, eb_91_9, eb_91_10, kl_a, kl_d, kl_f, kl_i, kl_l, kl_n, kl_r, xr_1, xr_10, xr_2, xr_28, xr_3, xr_31, xr_32, xr_33, xr_34, xr_35, xr_36, xr_37, xr_38, xr_39, xr_4, xr_40, xr_47, xr_48, xr_5, xr_56, xr_57, xr_63, xr_99, af_0, af_1, xt_goto, xt_ib, xt_ic, xt_ic_ge, xt_ic_ne, xt_if_eq, xt_ir, xt_nop, gF_1_13, gF_1_4, gF_1_6, gF_28_0, gA_2, gA_3, gA_4, gA_5, gA_6, gA_7, gA_8, gA_9, gA_10, gA_11, gA_13, gA_14, gA_16, gA_17, gA_20, gA_21, gA_22, gA_23, gA_24, gA_25, gA_26, gA_27, gA_30, gA_31, gA_32, gA_33, gA_34, gA_35, gA_36, gA_38, gA_39, gA_41, gA_42, gA_46, gA_47, gA_49, gA_50, gA_51, gA_53, gA_56, gA_57, gA_59, gA_60, xq_92_7_virtualc, iN_add, iN_mul, iN_sub, iN_and, iN_or, iN_clr, iN_shl, iN_shr, tb_r1, b1_z, b1_or, b1_and, b1_or0, b1_or1, b1_0or, b1_t, b1_f, iN_lt, iN_inj, reduceIte, if_true, if_false, Nat.zero_add, Nat.add_zero, Bool.false_eq_true, Bool.true_eq_false, Nat.lt_irrefl, iN_az, not_true_eq_false, not_false_eq_true, Nat.reduceEqDiff, Nat.reduceLT, Nat.reduceAdd, Nat.reduceMul, Nat.reduceSub]
      exact inn 0 (Nat.zero_le _)
  simp (disch := first | assumption | omega | exact st8_a (Nat.le_of_ble_eq_true rfl)) only [eb_91_0, eb_91_2, eb_91_4, eb_91_5, eb_91_6, eb_91_7, eb_91_8, eb_91_9, eb_91_10, kl_a, kl_d, kl_f, kl_i, kl_l, kl_n, kl_r, xr_1, xr_10, xr_2, xr_28, xr_3, xr_31, xr_32, xr_33, xr_34, xr_35, xr_36, xr_37, xr_38, xr_39, xr_4, xr_40, xr_47, xr_48, xr_5, xr_56, xr_57, xr_63, xr_99, af_0, af_1, xt_goto, xt_ib, xt_ic, xt_ic_ge, xt_ic_ne, xt_if_eq, xt_ir, xt_nop, gF_1_13, gF_1_4, gF_1_6, gF_28_0, gA_2, gA_3, gA_4, gA_5, gA_6, gA_7, gA_8, gA_9, gA_10, gA_11, gA_13, gA_14, gA_16, gA_17, gA_20, gA_21, gA_22, gA_23, gA_24, gA_25, gA_26, gA_27, gA_30, gA_31, gA_32, gA_33, gA_34, gA_35, gA_36, gA_38, gA_39, gA_41, gA_42, gA_46, gA_47, gA_49, gA_50, gA_51, gA_53, gA_56, gA_57, gA_59, gA_60, xq_92_7_virtualc, iN_add, iN_mul, iN_sub, iN_and, iN_or, iN_clr, iN_shl, iN_shr, tb_r1, b1_z, b1_or, b1_and, b1_or0, b1_or1, b1_0or, b1_t, b1_f, iN_lt, iN_inj, reduceIte, if_true, if_false, Nat.zero_add, Nat.add_zero, Bool.false_eq_true, Bool.true_eq_false, Nat.lt_irrefl, iN_az, not_true_eq_false, not_false_eq_true, Nat.reduceEqDiff, Nat.reduceLT, Nat.reduceAdd, Nat.reduceMul, Nat.reduceSub]
  exact key 0 (Nat.zero_le _) _ _
set_option maxRecDepth 100000 in
theorem EX_s (O : Ok σ) (hW : QW σ M) (hP : PS σ M depth p) {s : Nat → Nat} (hE : EX σ M depth p s) (hl : l < (σ 1 6)) : (M 20 l).testBit (s l) = true := by
  cases h : p.testBit l
  · exact ((hP.2.2.2.2 l hl h _).mp (hE.2 l hl h)).1
  · rw [hE.1 l hl h]
    exact hP.1 l hl h
set_option maxRecDepth 100000 in
theorem us_sub (O : Ok σ) (hP : PS σ M depth p) {s : Nat → Nat} (hE : EX σ M depth p s) (ht : t < (σ 1 4)) (hi : (M 36 t).testBit i = true) : ∃ l, l < (σ 1 6) ∧ p.testBit l = true ∧ σ 6 l = t ∧ (cov σ l (s l)).testBit i = true := by
  rw [hP.2.2.1 t ht] at hi
  unfold usd at hi
  obtain ⟨l, hl, h⟩ := orn_tb.mp hi
  split at h
  · rename_i h2
    refine ⟨l, hl, h2.1, h2.2, ?_⟩
    rw [hE.1 l hl h2.1]
    exact h
  · simp at h
set_option maxRecDepth 100000 in
theorem ctc_tb {s : Nat → Nat} : (ctc σ s t).testBit i = true ↔ ∃ l, l < (σ 1 6) ∧ σ 6 l = t ∧ (cov σ l (s l)).testBit i = true := by
  unfold ctc
  rw [orn_tb]
  constructor
  · rintro ⟨l, hl, h⟩
    split at h
    · rename_i h2
      exact ⟨l, hl, h2, h⟩
    · simp at h
  · rintro ⟨l, hl, h2, h⟩
    exact ⟨l, hl, by rw [if_pos h2]; exact h⟩
set_option maxRecDepth 100000 in
theorem sgp_le (O : Ok σ) (hW : QW σ M) (hP : PS σ M depth p) {s : Nat → Nat} (hE : EX σ M depth p s) : sgp σ M depth p ≤ sm (σ 1 4) fun t => gap σ (ctc σ s t) := by
  have hs : ∀ l, l < (σ 1 6) → s l < (σ 1 2) := fun l hl => (hW.1 l hl _ (EX_s O hW hP hE hl)).1
  refine sm_mono fun t ht => ?_
  unfold gap
  refine sm_mono fun y hy => ?_
  by_cases h1 : (M 36 t &&& dm σ y) >>> (y * (σ 1 1)) = 5
  · cases h2 : cfl σ M depth p t (y * (σ 1 1) + 1)
    · have h3 := (gap_b O (PS_us O hW hP ht) hy).mp h1
      obtain ⟨g0, g1, g2, g3⟩ := h3
      have h4 : (ctc σ s t &&& dm σ y) >>> (y * (σ 1 1)) = 5 := by
        rw [gap_b O (ctc_lt O hs t) hy]
        refine ⟨g0, ?_, ?_, ?_⟩
        · obtain ⟨l, hl, -, q1, q2⟩ := us_sub O hP hE ht g1
          exact ctc_tb.mpr ⟨l, hl, q1, q2⟩
        · cases h5 : (ctc σ s t).testBit (y * (σ 1 1) + 1)
          · rfl
          · obtain ⟨l, hl, q1, q2⟩ := ctc_tb.mp h5
            cases h6 : p.testBit l
            · have h7 := hE.2 l hl h6
              have h8 : (M 32 (depth * 6 + l)).testBit (y * (σ 1 1) + 1) = false := by
                cases h9 : (M 32 (depth * 6 + l)).testBit (y * (σ 1 1) + 1)
                · rfl
                · have : cfl σ M depth p t (y * (σ 1 1) + 1) = true := by
                    unfold cfl
                    rw [an_t]
                    exact ⟨l, hl, by simp [h6, q1, h9]⟩
                  rw [h2] at this
                  cases this
              rcases cov_tb.mp q2 with e | ⟨e1, e2, e3⟩
              · rw [← e, h8] at h7
                cases h7
              · have e4 : s l = y * (σ 1 1) := by omega
                obtain ⟨k, hk, w1, w2, w3⟩ := us_sub O hP hE ht g1
                have h9 := ((hP.2.2.2.2 l hl h6 _).mp h7).2.1 k hk w1
                have hkl : k ≠ l := fun z => by rw [z, h6] at w1; cases w1
                rw [← hE.1 k hk w1] at h9
                have h10 := (hW.2.2.1 k (s k) l (s l) hk hl hkl (hs k hk) h9).2.2 (by unfold stc; rw [w2, q1]; simp)
                have h11 : (cov σ k (s k) &&& cov σ l (s l)).testBit (y * (σ 1 1)) = true := by
                  rw [Nat.testBit_and, w3, Bool.true_and]
                  exact cov_tb.mpr (.inl e4.symm)
                rw [h10, Nat.zero_testBit] at h11
                cases h11
            · have h7 : (M 36 t).testBit (y * (σ 1 1) + 1) = true := by
                rw [hP.2.2.1 t ht]
                unfold usd
                rw [orn_tb]
                exact ⟨l, hl, by rw [if_pos ⟨h6, q1⟩, ← hE.1 l hl h6]; exact q2⟩
              rw [g2] at h7
              cases h7
        · obtain ⟨l, hl, -, q1, q2⟩ := us_sub O hP hE ht g3
          exact ctc_tb.mpr ⟨l, hl, q1, q2⟩
      rw [decide_eq_true h1, decide_eq_true h4]
      exact Nat.le_refl _
    · rw [Bool.not_true, Bool.and_false]
      exact Nat.zero_le _
  · rw [decide_eq_false h1]
    exact Nat.zero_le _
set_option maxRecDepth 100000 in
theorem us_all (hP : PS σ M depth p) (hall : ∀ l, l < (σ 1 6) → p.testBit l = true) (ht : t < (σ 1 4)) : M 36 t = ctc σ (M 34) t := by
  rw [hP.2.2.1 t ht]
  unfold usd ctc
  refine orn_cg fun l hl => ?_
  rw [hall l hl]
  simp
set_option maxRecDepth 100000 in
theorem sgp_all (hP : PS σ M depth p) (hall : ∀ l, l < (σ 1 6) → p.testBit l = true) : sgp σ M depth p = sm (σ 1 4) fun t => gap σ (ctc σ (M 34) t) := by
  refine sm_cg fun t ht => ?_
  unfold gap
  refine sm_cg fun y hy => ?_
  have : cfl σ M depth p t (y * (σ 1 1) + 1) = false := by
    cases h : cfl σ M depth p t (y * (σ 1 1) + 1)
    · rfl
    · unfold cfl at h
      obtain ⟨l, hl, h2⟩ := an_t.mp h
      rw [hall l hl] at h2
      cases h2
  rw [this, us_all hP hall ht, Bool.not_false, Bool.and_true]
set_option maxRecDepth 100000 in
theorem mel_t : mel σ M depth p l = true ↔ ∀ i, i < (σ 1 2) → (if p.testBit l = true then decide (i = M 34 l) else (M 32 (depth * 6 + l)).testBit i) = true → cov σ l i &&& lh σ ≠ 0 := by
  unfold mel
  rw [al_t]
  constructor
  · intro h i hi h2
    have h3 := h i hi
    rw [h2] at h3
    simpa using h3
  · intro h i hi
    cases hh : (if p.testBit l = true then decide (i = M 34 l) else (M 32 (depth * 6 + l)).testBit i)
    · rfl
    · rw [decide_eq_true (h i hi hh)]
      rfl
set_option maxRecDepth 100000 in
theorem lws_le (O : Ok σ) (hW : QW σ M) (hP : PS σ M depth p) {s : Nat → Nat} (hE : EX σ M depth p s) : lws σ M depth p ≤ sm (σ 1 4) fun t => 5 ^ shr σ s t := by
  have hs : ∀ l, l < (σ 1 6) → s l < (σ 1 2) := fun l hl => (hW.1 l hl _ (EX_s O hW hP hE hl)).1
  refine sm_mono fun t ht => ?_
  refine Nat.pow_le_pow_right (by decide) (Nat.le_trans (Nat.min_le_left _ _) ?_)
  unfold shr
  refine sm_mono fun l hl => ?_
  cases h : mel σ M depth p l
  · rw [Bool.and_false]
    exact Nat.zero_le _
  · have h2 := mel_t.mp h (s l) (hs l hl) (by
      cases h3 : p.testBit l
      · simpa using hE.2 l hl h3
      · simpa using hE.1 l hl h3)
    rw [decide_eq_true h2]
    exact Nat.le_refl _
set_option maxRecDepth 100000 in
theorem lws_all (O : Ok σ) (hW : QW σ M) (hP : PS σ M depth p) (hall : ∀ l, l < (σ 1 6) → p.testBit l = true) : lws σ M depth p = sm (σ 1 4) fun t => 5 ^ shr σ (M 34) t := by
  obtain ⟨hD1, hD2, hH1, hH2, hS, hC, hT, hR, hL, hQ⟩ := Ok_b O
  refine sm_cg fun t ht => ?_
  have h1 := sm_le (n := (σ 1 6)) (c := 1) (f := fun l => b1 (decide (σ 6 l = t) && mel σ M depth p l)) fun i _ => Nat.le_of_lt_succ (b1_lt _)
  rw [Nat.min_eq_left (by omega)]
  congr 1
  unfold shr
  refine sm_cg fun l hl => ?_
  have h2 : mel σ M depth p l = decide (cov σ l (M 34 l) &&& lh σ ≠ 0) := by
    rw [Bool.eq_iff_iff, mel_t, decide_eq_true_eq]
    constructor
    · intro h
      exact h _ (PS_so O hW hP hl (hall l hl)) (by rw [hall l hl]; simp)
    · intro h i hi h2
      rw [hall l hl] at h2
      simp at h2
      rw [h2]
      exact h
  rw [h2]
set_option maxRecDepth 100000 in
theorem gap_sm (O : Ok σ) (f : Nat → Nat) : (sm (σ 1 4) fun t => gap σ (f t)) ≤ 8 := by
  obtain ⟨hD1, hD2, hH1, hH2, hS, hC, hT, hR, hL, hQ⟩ := Ok_b O
  have := sm_le (n := (σ 1 4)) (c := 2) (f := fun t => gap σ (f t)) fun i _ => gap_le O _
  omega
set_option maxRecDepth 100000 in
theorem lws_b (O : Ok σ) (M : Nat → Nat → Nat) : lws σ M depth p ≤ 62500 := by
  obtain ⟨hD1, hD2, hH1, hH2, hS, hC, hT, hR, hL, hQ⟩ := Ok_b O
  have := sm_le (n := (σ 1 4)) (c := 15625) (f := fun t => 5 ^ min (sm (σ 1 6) fun l => b1 (decide (σ 6 l = t) && mel σ M depth p l)) 6) fun i _ => Nat.le_trans (Nat.pow_le_pow_right (by decide) (Nat.min_le_right _ _)) (by decide)
  unfold lws
  omega
-- the lower bound of a place of the search
set_option maxRecDepth 100000 in
theorem s_87 (O : Ok σ) (hW : QW σ M) (hP : PS σ M depth p) (hr0 : ∀ l, l < (σ 1 6) → M 21 l ≠ 0) (hd : depth ≤ 6) (hp : p < 64) (hd6 : ∀ l, l < (σ 1 6) → p.testBit l = false → depth < 6) (hdom : ∀ j, M 32 j < 64) : ∃ low, low ≤ 700000 ∧ (∀ s, EX σ M depth p s → low ≤ kco σ M s + gco σ M s) ∧ ((∀ l, l < (σ 1 6) → p.testBit l = true) → low = kco σ M (M 34) + gco σ M (M 34)) ∧ ev xs (d + 2) 87 0 ([.ref 28, .int (nI depth), .int (nI p), .retAddr 9, .retAddr 9], [], hc σ M R) = some (.inl (some (.int (nI (low)))), hc σ M R) := by
  obtain ⟨hD1, hD2, hH1, hH2, hS, hC, hT, hR, hL, hQ⟩ := Ok_b O
  obtain ⟨w1, w2, w3, w4, w5, w6, w7, w8, w9, w10⟩ := hW
  have hW : QW σ M := ⟨w1, w2, w3, w4, w5, w6, w7, w8, w9, w10⟩
  have hw2 := Ok_w O (i := 2) (by decide)
  have k0 : (M 19 10 = 0 ∨ M 19 10 = 3) → ∀ s, (∀ l, l < (σ 1 6) → s l < (σ 1 2)) → kco σ M s = 0 := by
    intro hg s hs
    refine sm_z.mpr fun l hl => ?_
    obtain ⟨r, hr⟩ := nz_tb.mp (hr0 l hl)
    have h1 := (w9 l hl (s l) (hs l hl)).2 r (w2 l hl r hr) hr
    rw [w10 hg] at h1
    omega
  have hg4 : M 19 10 = 0 ∨ M 19 10 = 3 ∨ M 19 10 = 1 ∨ M 19 10 = 2 := by omega
  have hss : ∀ s, EX σ M depth p s → ∀ l, l < (σ 1 6) → s l < (σ 1 2) := fun s hE l hl => (w1 l hl _ (EX_s O hW hP hE hl)).1
  rcases hg4 with hg | hg | hg
  · refine ⟨0, by decide, fun _ _ => Nat.zero_le _, fun hall => ?_, ?_⟩
    · rw [k0 (.inl hg) _ fun l hl => PS_so O hW hP hl (hall l hl)]
      unfold gco
      rw [if_neg (by omega), if_neg (by omega)]
    · simp (disch := first | assumption | omega | exact st8_a (Nat.le_of_ble_eq_true rfl)) only [hg, eb_87_0, eb_87_1, eb_87_2, eb_87_3, eb_87_4, eb_87_5, eb_87_6, eb_87_7, eb_87_8, eb_87_9, eb_87_11, eb_87_12, eb_87_13, eb_87_14, eb_87_15, eb_87_16, kl_a, kl_d, kl_f, kl_i, kl_l, kl_n, kl_r, xr_1, xr_10, xr_2, xr_27, xr_28, xr_3, xr_31, xr_32, xr_33, xr_34, xr_37, xr_38, xr_4, xr_40, xr_41, xr_44, xr_48, xr_5, xr_55, xr_65, xr_71, af_0, af_1, xt_goto, xt_ib, xt_ic, xt_ic_ge, xt_ic_ne, xt_if_eq, xt_if_ne, xt_ir, xt_nop, gF_19_10, gF_19_8, gF_1_18, gF_1_6, gF_28_0, gF_28_1, gF_28_3, gF_28_5, gA_2, gA_3, gA_4, gA_5, gA_6, gA_7, gA_8, gA_9, gA_10, gA_11, gA_13, gA_14, gA_16, gA_17, gA_20, gA_21, gA_22, gA_23, gA_24, gA_25, gA_26, gA_27, gA_30, gA_31, gA_32, gA_33, gA_34, gA_35, gA_36, gA_38, gA_39, gA_41, gA_42, gA_46, gA_47, gA_49, gA_50, gA_51, gA_53, gA_56, gA_57, gA_59, gA_60, xq_88_7_virtualc, xq_89_7_virtualc, xq_91_7_virtualc, iN_add, iN_mul, iN_sub, iN_and, iN_or, iN_clr, iN_shl, iN_shr, tb_r1, b1_z, b1_or, b1_and, b1_or0, b1_or1, b1_0or, b1_t, b1_f, iN_lt, iN_inj, reduceIte, if_true, if_false, Nat.zero_add, Nat.add_zero, Bool.false_eq_true, Bool.true_eq_false, Nat.lt_irrefl, iN_az, not_true_eq_false, not_false_eq_true, Nat.reduceEqDiff, Nat.reduceLT, Nat.reduceAdd, Nat.reduceMul, Nat.reduceSub]
  · refine ⟨lws σ M depth p, Nat.le_trans (lws_b O M) (by decide), fun s hE => ?_, fun hall => ?_, ?_⟩
    · rw [k0 (.inr hg) s (hss s hE), Nat.zero_add]
      unfold gco
      rw [if_neg (by omega), if_pos hg]
      exact lws_le O hW hP hE
    · rw [k0 (.inr hg) _ fun l hl => PS_so O hW hP hl (hall l hl), Nat.zero_add]
      unfold gco
      rw [if_neg (by omega), if_pos hg]
      exact lws_all O hW hP hall
    · simp (disch := first | assumption | omega | exact st8_a (Nat.le_of_ble_eq_true rfl)) only [hg, s_91 O hd hp w5 w6 (fun l hl hh => PS_so O hW hP hl hh) hd6 hdom, eb_87_0, eb_87_1, eb_87_2, eb_87_3, eb_87_4, eb_87_5, eb_87_6, eb_87_7, eb_87_8, eb_87_9, eb_87_11, eb_87_12, eb_87_13, eb_87_14, eb_87_15, eb_87_16, kl_a, kl_d, kl_f, kl_i, kl_l, kl_n, kl_r, xr_1, xr_10, xr_2, xr_27, xr_28, xr_3, xr_31, xr_32, xr_33, xr_34, xr_37, xr_38, xr_4, xr_40, xr_41, xr_44, xr_48, xr_5, xr_55, xr_65, xr_71, af_0, af_1, xt_goto, xt_ib, xt_ic, xt_ic_ge, xt_ic_ne, xt_if_eq, xt_if_ne, xt_ir, xt_nop, gF_19_10, gF_19_8, gF_1_18, gF_1_6, gF_28_0, gF_28_1, gF_28_3, gF_28_5, gA_2, gA_3, gA_4, gA_5, gA_6, gA_7, gA_8, gA_9, gA_10, gA_11, gA_13, gA_14, gA_16, gA_17, gA_20, gA_21, gA_22, gA_23, gA_24, gA_25, gA_26, gA_27, gA_30, gA_31, gA_32, gA_33, gA_34, gA_35, gA_36, gA_38, gA_39, gA_41, gA_42, gA_46, gA_47, gA_49, gA_50, gA_51, gA_53, gA_56, gA_57, gA_59, gA_60, xq_88_7_virtualc, xq_89_7_virtualc, xq_91_7_virtualc, iN_add, iN_mul, iN_sub, iN_and, iN_or, iN_clr, iN_shl, iN_shr, tb_r1, b1_z, b1_or, b1_and, b1_or0, b1_or1, b1_0or, b1_t, b1_f, iN_lt, iN_inj, reduceIte, if_true, if_false, Nat.zero_add, Nat.add_zero, Bool.false_eq_true, Bool.true_eq_false, Nat.lt_irrefl, iN_az, not_true_eq_false, not_false_eq_true, Nat.reduceEqDiff, Nat.reduceLT, Nat.reduceAdd, Nat.reduceMul, Nat.reduceSub]
  · have main : ∀ g, g ≤ 72 → (∀ s, EX σ M depth p s → g ≤ gco σ M s) → ((∀ l, l < (σ 1 6) → p.testBit l = true) → g = gco σ M (M 34)) → ∃ low, low ≤ 700000 ∧ (∀ s, EX σ M depth p s → low ≤ kco σ M s + gco σ M s) ∧ ((∀ l, l < (σ 1 6) → p.testBit l = true) → low = kco σ M (M 34) + gco σ M (M 34)) ∧ ev xs (d + 2) 87 10 ([.ref 28, .int (nI depth), .int (nI p), .int (nI g), .int (nI 0)], [], hc σ M R) = some (.inl (some (.int (nI (low)))), hc σ M R) := by
      intro g hg1 hg2 hg3
      have key : ∀ k, k ≤ (σ 1 6) → ∀ x, x ≤ 72 + k * 100000 → (∀ s, EX σ M depth p s → x ≤ sm k (fun l => M 27 (l * 6 + s l)) + gco σ M s) → ((∀ l, l < (σ 1 6) → p.testBit l = true) → x = sm k (fun l => M 27 (l * 6 + M 34 l)) + gco σ M (M 34)) → ∃ low, low ≤ 700000 ∧ (∀ s, EX σ M depth p s → low ≤ kco σ M s + gco σ M s) ∧ ((∀ l, l < (σ 1 6) → p.testBit l = true) → low = kco σ M (M 34) + gco σ M (M 34)) ∧ ev xs (d + 2) 87 10 ([.ref 28, .int (nI depth), .int (nI p), .int (nI x), .int (nI k)], [], hc σ M R) = some (.inl (some (.int (nI (low)))), hc σ M R) := by
        refine lp (σ 1 6) ?_ ?_
        · intro x h1 h2 h3
          refine ⟨x, by omega, h2, h3, ?_⟩
          rw [eb_87_10]
          simp (disch := first | assumption | omega | exact st8_a (Nat.le_of_ble_eq_true rfl)) only [eb_87_0, eb_87_1, eb_87_2, eb_87_3, eb_87_4, eb_87_5, eb_87_6, eb_87_7, eb_87_8, eb_87_9, eb_87_11, eb_87_12, eb_87_13, eb_87_14, eb_87_15, eb_87_16, kl_a, kl_d, kl_f, kl_i, kl_l, kl_n, kl_r, xr_1, xr_10, xr_2, xr_27, xr_28, xr_3, xr_31, xr_32, xr_33, xr_34, xr_37, xr_38, xr_4, xr_40, xr_41, xr_44, xr_48, xr_5, xr_55, xr_65, xr_71, af_0, af_1, xt_goto, xt_ib, xt_ic, xt_ic_ge, xt_ic_ne, xt_if_eq, xt_if_ne, xt_ir, xt_nop, gF_19_10, gF_19_8, gF_1_18, gF_1_6, gF_28_0, gF_28_1, gF_28_3, gF_28_5, gA_2, gA_3, gA_4, gA_5, gA_6, gA_7, gA_8, gA_9, gA_10, gA_11, gA_13, gA_14, gA_16, gA_17, gA_20, gA_21, gA_22, gA_23, gA_24, gA_25, gA_26, gA_27, gA_30, gA_31, gA_32, gA_33, gA_34, gA_35, gA_36, gA_38, gA_39, gA_41, gA_42, gA_46, gA_47, gA_49, gA_50, gA_51, gA_53, gA_56, gA_57, gA_59, gA_60, xq_88_7_virtualc, xq_89_7_virtualc, xq_91_7_virtualc, iN_add, iN_mul, iN_sub, iN_and, iN_or, iN_clr, iN_shl, iN_shr, tb_r1, b1_z, b1_or, b1_and, b1_or0, b1_or1, b1_0or, b1_t, b1_f, iN_lt, iN_inj, reduceIte, if_true, if_false, Nat.zero_add, Nat.add_zero, Bool.false_eq_true, Bool.true_eq_false, Nat.lt_irrefl, iN_az, not_true_eq_false, not_false_eq_true, Nat.reduceEqDiff, Nat.reduceLT, Nat.reduceAdd, Nat.reduceMul, Nat.reduceSub]
        · intro k hk ih x h1 h2 h3
          cases h4 : p.testBit k
          · have h5 := hd6 k hk h4
            obtain ⟨c, c1, c2, e⟩ := s_88 (xs := xs) (d := d + 1) (M := M) (R := R) O hk (fun s hs => (w9 k hk s hs).1) (hdom (depth * 6 + k))
            obtain ⟨low, q1, q2, q3, e2⟩ := ih (x + c) (by omega) (fun s hE => by
              have h6 := h2 s hE
              have h7 := c2 (s k) (hss s hE k hk) (hE.2 k hk h4)
              rw [sm]
              omega) (fun hall => by
              have := hall k hk
              rw [h4] at this
              cases this)
            refine ⟨low, q1, q2, q3, ?_⟩
            rw [eb_87_10]
            simp (disch := first | assumption | omega | exact st8_a (Nat.le_of_ble_eq_true rfl)) only [hk, h4, e, eb_87_0, eb_87_1, eb_87_2, eb_87_3, eb_87_4, eb_87_5, eb_87_6, eb_87_7, eb_87_8, eb_87_9, eb_87_11, eb_87_12, eb_87_13, eb_87_14, eb_87_15, eb_87_16, kl_a, kl_d, kl_f, kl_i, kl_l, kl_n, kl_r, xr_1, xr_10, xr_2, xr_27, xr_28, xr_3, xr_31, xr_32, xr_33, xr_34, xr_37, xr_38, xr_4, xr_40, xr_41, xr_44, xr_48, xr_5, xr_55, xr_65, xr_71, af_0, af_1, xt_goto, xt_ib, xt_ic, xt_ic_ge, xt_ic_ne, xt_if_eq, xt_if_ne, xt_ir, xt_nop, gF_19_10, gF_19_8, gF_1_18, gF_1_6, gF_28_0, gF_28_1, gF_28_3, gF_28_5, gA_2, gA_3, gA_4, gA_5, gA_6, gA_7, gA_8, gA_9, gA_10, gA_11, gA_13, gA_14, gA_16, gA_17, gA_20, gA_21, gA_22, gA_23, gA_24, gA_25, gA_26, gA_27, gA_30, gA_31, gA_32, gA_33, gA_34, gA_35, gA_36, gA_38, gA_39, gA_41, gA_42, gA_46, gA_47, gA_49, gA_50, gA_51, gA_53, gA_56, gA_57, gA_59, gA_60, xq_88_7_virtualc, xq_89_7_virtualc, xq_91_7_virtualc, iN_add, iN_mul, iN_sub, iN_and, iN_or, iN_clr, iN_shl, iN_shr, tb_r1, b1_z, b1_or, b1_and, b1_or0, b1_or1, b1_0or, b1_t, b1_f, iN_lt, iN_inj, reduceIte, if_true, if_false, Nat.zero_add, Nat.add_zero, Bool.false_eq_true, Bool.true_eq_false, Nat.lt_irrefl, iN_az, not_true_eq_false, not_false_eq_true, Nat.reduceEqDiff, Nat.reduceLT, Nat.reduceAdd, Nat.reduceMul, Nat.reduceSub]
            exact e2
          · have h5 := PS_so O hW hP hk h4
            have h8 := (w9 k hk (M 34 k) h5).1
            obtain ⟨low, q1, q2, q3, e2⟩ := ih (x + M 27 (k * 6 + M 34 k)) (by omega) (fun s hE => by
              have h6 := h2 s hE
              rw [sm, hE.1 k hk h4]
              omega) (fun hall => by
              have h6 := h3 hall
              rw [sm]
              omega)
            refine ⟨low, q1, q2, q3, ?_⟩
            rw [eb_87_10]
            simp (disch := first | assumption | omega | exact st8_a (Nat.le_of_ble_eq_true rfl)) only [hk, h4, eb_87_0, eb_87_1, eb_87_2, eb_87_3, eb_87_4, eb_87_5, eb_87_6, eb_87_7, eb_87_8, eb_87_9, eb_87_11, eb_87_12, eb_87_13, eb_87_14, eb_87_15, eb_87_16, kl_a, kl_d, kl_f, kl_i, kl_l, kl_n, kl_r, xr_1, xr_10, xr_2, xr_27, xr_28, xr_3, xr_31, xr_32, xr_33, xr_34, xr_37, xr_38, xr_4, xr_40, xr_41, xr_44, xr_48, xr_5, xr_55, xr_65, xr_71, af_0, af_1, xt_goto, xt_ib, xt_ic, xt_ic_ge, xt_ic_ne, xt_if_eq, xt_if_ne, xt_ir, xt_nop, gF_19_10, gF_19_8, gF_1_18, gF_1_6, gF_28_0, gF_28_1, gF_28_3, gF_28_5, gA_2, gA_3, gA_4, gA_5, gA_6, gA_7, gA_8, gA_9, gA_10, gA_11, gA_13, gA_14, gA_16, gA_17, gA_20, gA_21, gA_22, gA_23, gA_24, gA_25, gA_26, gA_27, gA_30, gA_31, gA_32, gA_33, gA_34, gA_35, gA_36, gA_38, gA_39, gA_41, gA_42, gA_46, gA_47, gA_49, gA_50, gA_51, gA_53, gA_56, gA_57, gA_59, gA_60, xq_88_7_virtualc, xq_89_7_virtualc, xq_91_7_virtualc, iN_add, iN_mul, iN_sub, iN_and, iN_or, iN_clr, iN_shl, iN_shr, tb_r1, b1_z, b1_or, b1_and, b1_or0, b1_or1, b1_0or, b1_t, b1_f, iN_lt, iN_inj, reduceIte, if_true, if_false, Nat.zero_add, Nat.add_zero, Bool.false_eq_true, Bool.true_eq_false, Nat.lt_irrefl, iN_az, not_true_eq_false, not_false_eq_true, Nat.reduceEqDiff, Nat.reduceLT, Nat.reduceAdd, Nat.reduceMul, Nat.reduceSub]
            exact e2
      exact key 0 (Nat.zero_le _) g (by omega) (fun s hE => by rw [sm, Nat.zero_add]; exact hg2 s hE) (fun hall => by rw [sm, Nat.zero_add]; exact hg3 hall)
    rcases hg with hg | hg
    · have hsg : sgp σ M depth p ≤ 8 := by
        unfold sgp
        have h1 := sm_le (n := (σ 1 4)) (c := 2) (f := fun t => sm (σ 1 0) fun y => b1 (decide ((M 36 t &&& dm σ y) >>> (y * (σ 1 1)) = 5) && !cfl σ M depth p t (y * (σ 1 1) + 1))) fun t _ => by
          have h2 := sm_le (n := (σ 1 0)) (c := 1) (f := fun y => b1 (decide ((M 36 t &&& dm σ y) >>> (y * (σ 1 1)) = 5) && !cfl σ M depth p t (y * (σ 1 1) + 1))) fun i _ => Nat.le_of_lt_succ (b1_lt _)
          omega
        omega
      have hmul : σ 11 2 * sgp σ M depth p ≤ 9 * 8 := Nat.mul_le_mul hw2 hsg
      obtain ⟨low, q1, q2, q3, e⟩ := main (σ 11 2 * sgp σ M depth p) hmul (fun s hE => by
        unfold gco
        rw [if_pos hg]
        exact Nat.mul_le_mul_left _ (sgp_le O hW hP hE)) (fun hall => by
        unfold gco
        rw [if_pos hg, sgp_all hP hall])
      refine ⟨low, q1, q2, q3, ?_⟩
      simp (disch := first | assumption | omega | exact st8_a (Nat.le_of_ble_eq_true rfl)) only [hg, s_89 O hd hp (fun ⟨l, hl, h⟩ => hd6 l hl h) hdom (fun t ht => PS_us O hW hP ht), eb_87_0, eb_87_1, eb_87_2, eb_87_3, eb_87_4, eb_87_5, eb_87_6, eb_87_7, eb_87_8, eb_87_9, eb_87_11, eb_87_12, eb_87_13, eb_87_14, eb_87_15, eb_87_16, kl_a, kl_d, kl_f, kl_i, kl_l, kl_n, kl_r, xr_1, xr_10, xr_2, xr_27, xr_28, xr_3, xr_31, xr_32, xr_33, xr_34, xr_37, xr_38, xr_4, xr_40, xr_41, xr_44, xr_48, xr_5, xr_55, xr_65, xr_71, af_0, af_1, xt_goto, xt_ib, xt_ic, xt_ic_ge, xt_ic_ne, xt_if_eq, xt_if_ne, xt_ir, xt_nop, gF_19_10, gF_19_8, gF_1_18, gF_1_6, gF_28_0, gF_28_1, gF_28_3, gF_28_5, gA_2, gA_3, gA_4, gA_5, gA_6, gA_7, gA_8, gA_9, gA_10, gA_11, gA_13, gA_14, gA_16, gA_17, gA_20, gA_21, gA_22, gA_23, gA_24, gA_25, gA_26, gA_27, gA_30, gA_31, gA_32, gA_33, gA_34, gA_35, gA_36, gA_38, gA_39, gA_41, gA_42, gA_46, gA_47, gA_49, gA_50, gA_51, gA_53, gA_56, gA_57, gA_59, gA_60, xq_88_7_virtualc, xq_89_7_virtualc, xq_91_7_virtualc, iN_add, iN_mul, iN_sub, iN_and, iN_or, iN_clr, iN_shl, iN_shr, tb_r1, b1_z, b1_or, b1_and, b1_or0, b1_or1, b1_0or, b1_t, b1_f, iN_lt, iN_inj, reduceIte, if_true, if_false, Nat.zero_add, Nat.add_zero, Bool.false_eq_true, Bool.true_eq_false, Nat.lt_irrefl, iN_az, not_true_eq_false, not_false_eq_true, Nat.reduceEqDiff, Nat.reduceLT, Nat.reduceAdd, Nat.reduceMul, Nat.reduceSub]
      exact e
    · obtain ⟨low, q1, q2, q3, e⟩ := main 0 (by decide) (fun s hE => Nat.zero_le _) (fun hall => by
        unfold gco
        rw [if_neg (by omega), if_neg (by omega)])
      refine ⟨low, q1, q2, q3, ?_⟩
      simp (disch := first | assumption | omega | exact st8_a (Nat.le_of_ble_eq_true rfl)) only [hg, eb_87_0, eb_87_1, eb_87_2, eb_87_3, eb_87_4, eb_87_5, eb_87_6, eb_87_7, eb_87_8, eb_87_9, eb_87_11, eb_87_12, eb_87_13, eb_87_14, eb_87_15, eb_87_16, kl_a, kl_d, kl_f, kl_i, kl_l, kl_n, kl_r, xr_1, xr_10, xr_2, xr_27, xr_28, xr_3, xr_31, xr_32, xr_33, xr_34, xr_37, xr_38, xr_4, xr_40, xr_41, xr_44, xr_48, xr_5, xr_55, xr_65, xr_71, af_0, af_1, xt_goto, xt_ib, xt_ic, xt_ic_ge, xt_ic_ne, xt_if_eq, xt_if_ne, xt_ir, xt_nop, gF_19_10, gF_19_8, gF_1_18, gF_1_6, gF_28_0, gF_28_1, gF_28_3, gF_28_5, gA_2, gA_3, gA_4, gA_5, gA_6, gA_7, gA_8, gA_9, gA_10, gA_11, gA_13, gA_14, gA_16, gA_17, gA_20, gA_21, gA_22, gA_23, gA_24, gA_25, gA_26, gA_27, gA_30, gA_31, gA_32, gA_33, gA_34, gA_35, gA_36, gA_38, gA_39, gA_41, gA_42, gA_46, gA_47, gA_49, gA_50, gA_51, gA_53, gA_56, gA_57, gA_59, gA_60, xq_88_7_virtualc, xq_89_7_virtualc, xq_91_7_virtualc, iN_add, iN_mul, iN_sub, iN_and, iN_or, iN_clr, iN_shl, iN_shr, tb_r1, b1_z, b1_or, b1_and, b1_or0, b1_or1, b1_0or, b1_t, b1_f, iN_lt, iN_inj, reduceIte, if_true, if_false, Nat.zero_add, Nat.add_zero, Bool.false_eq_true, Bool.true_eq_false, Nat.lt_irrefl, iN_az, not_true_eq_false, not_false_eq_true, Nat.reduceEqDiff, Nat.reduceLT, Nat.reduceAdd, Nat.reduceMul, Nat.reduceSub]
      exact e
/-- what stays of the slots of a lesson when another one gets its slot -/
def wth (σ M : Nat → Nat → Nat) (o i : Nat) : Prop := ¬ (M 22 (σ 6 o) < (σ 1 1) ∧ i < (σ 1 2) ∧ M 22 (σ 6 o) < pc 10 ((M 36 (σ 6 o) ||| cov σ o i) &&& dm σ (dy σ i)))
set_option maxRecDepth 100000 in
theorem s_81 (O : Ok σ) (hW : QW σ M) (hd : depth < 6) (hd5 : (∃ o, o < (σ 1 6) ∧ p.testBit o = false) → depth < 5) (hp : p < 64) (hl : l < (σ 1 6)) (hpl : p.testBit l = true) (hs : s < (σ 1 2)) (hdom : ∀ j, M 32 j < 64) (hus : ∀ t, t < (σ 1 4) → M 36 t < 64) : ∃ g, ∃ b : Bool, ev xs (d + 2) 81 0 ([.ref 28, .int (nI depth), .int (nI p), .int (nI l), .int (nI s), .retAddr 9, .retAddr 9, .retAddr 9, .retAddr 9], [], hc σ M R) = some (.inl (some (.int (nI (b1 b)))), hc σ (ur M 32 g) R) ∧ (∀ j, j < (depth + 1) * 6 → g j = M 32 j) ∧ (∀ j, g j < 64) ∧ (b = true → ∀ o, o < (σ 1 6) → p.testBit o = false → ∀ i, (g ((depth + 1) * 6 + o)).testBit i = true ↔ (M 32 (depth * 6 + o)).testBit i = true ∧ fb (M 23) l s o i = true ∧ (stc σ l o = true → wth σ M o i)) ∧ (b = false → ∃ o, o < (σ 1 6) ∧ p.testBit o = false ∧ ∀ i, ¬ ((M 32 (depth * 6 + o)).testBit i = true ∧ fb (M 23) l s o i = true ∧ (stc σ l o = true → wth σ M o i))) := by
  obtain ⟨hD1, hD2, hH1, hH2, hS, hC, hT, hR, hL, hQ⟩ := Ok_b O
  have key : ∀ k, k ≤ (σ 1 6) → ∀ g0 y, (∀ j, j < (depth + 1) * 6 → g0 j = M 32 j) → (∀ j, g0 j < 64) → (∀ o, o < k → p.testBit o = false → ∀ i, (g0 ((depth + 1) * 6 + o)).testBit i = true ↔ (M 32 (depth * 6 + o)).testBit i = true ∧ fb (M 23) l s o i = true ∧ (stc σ l o = true → wth σ M o i)) → ∃ g, ∃ b : Bool, ev xs (d + 2) 81 1 ([.ref 28, .int (nI depth), .int (nI p), .int (nI l), .int (nI s), .int (nI (depth * 6)), .int (nI (depth * 6 + 6)), .int (nI k), y], [], hc σ (ur M 32 g0) R) = some (.inl (some (.int (nI (b1 b)))), hc σ (ur M 32 g) R) ∧ (∀ j, j < (depth + 1) * 6 → g j = M 32 j) ∧ (∀ j, g j < 64) ∧ (b = true → ∀ o, o < (σ 1 6) → p.testBit o = false → ∀ i, (g ((depth + 1) * 6 + o)).testBit i = true ↔ (M 32 (depth * 6 + o)).testBit i = true ∧ fb (M 23) l s o i = true ∧ (stc σ l o = true → wth σ M o i)) ∧ (b = false → ∃ o, o < (σ 1 6) ∧ p.testBit o = false ∧ ∀ i, ¬ ((M 32 (depth * 6 + o)).testBit i = true ∧ fb (M 23) l s o i = true ∧ (stc σ l o = true → wth σ M o i))) := by
    refine lp (σ 1 6) ?_ ?_
    · intro g0 y h1 h2 h3
      refine ⟨g0, true, ?_, h1, h2, fun _ => h3, fun h => (by cases h)⟩
      rw [eb_81_1]
      simp (disch := first | assumption | omega | exact st8_a (Nat.le_of_ble_eq_true rfl)) only [eb_81_0, eb_81_2, eb_81_3, eb_81_4, eb_81_5, eb_81_6, eb_81_7, eb_81_8, eb_81_9, eb_81_10, eb_81_11, eb_81_12, kl_a, kl_d, kl_f, kl_i, kl_l, kl_n, kl_r, xr_1, xr_10, xr_2, xr_27, xr_28, xr_3, xr_31, xr_34, xr_35, xr_36, xr_37, xr_38, xr_4, xr_41, xr_44, xr_48, xr_5, xr_55, xr_56, xr_57, xr_61, xr_62, xr_91, xr_96, xr_98, af_0, af_1, xt_goto, xt_ib, xt_ic, xt_ic_ge, xt_if_eq, xt_if_ne, xt_ir, xt_nop, gF_19_4, gF_1_6, gF_28_0, gF_28_1, gF_28_3, gA_2, gA_3, gA_4, gA_5, gA_6, gA_7, gA_8, gA_9, gA_10, gA_11, gA_13, gA_14, gA_16, gA_17, gA_20, gA_21, gA_22, gA_23, gA_24, gA_25, gA_26, gA_27, gA_30, gA_31, gA_32, gA_33, gA_34, gA_35, gA_36, gA_38, gA_39, gA_41, gA_42, gA_46, gA_47, gA_49, gA_50, gA_51, gA_53, gA_56, gA_57, gA_59, gA_60, gW_2, gW_3, gW_4, gW_5, gW_6, gW_7, gW_8, gW_9, gW_10, gW_11, gW_13, gW_14, gW_16, gW_17, gW_20, gW_21, gW_22, gW_23, gW_24, gW_25, gW_26, gW_27, gW_30, gW_31, gW_32, gW_33, gW_34, gW_35, gW_36, gW_38, gW_39, gW_41, gW_42, gW_46, gW_47, gW_49, gW_50, gW_51, gW_53, gW_56, gW_57, gW_59, gW_60, xq_27_200_static, xq_67_6_virtualc, xq_82_7_virtualc, iN_add, iN_mul, iN_sub, iN_and, iN_or, iN_clr, iN_shl, iN_shr, tb_r1, b1_z, b1_or, b1_and, b1_or0, b1_or1, b1_0or, b1_t, b1_f, iN_lt, iN_inj, reduceIte, if_true, if_false, Nat.zero_add, Nat.add_zero, Bool.false_eq_true, Bool.true_eq_false, Nat.lt_irrefl, iN_az, not_true_eq_false, not_false_eq_true, Nat.reduceEqDiff, Nat.reduceLT, Nat.reduceAdd, Nat.reduceMul, Nat.reduceSub]
    · intro k hk ih g0 y h1 h2 h3
      have kt := Ok_l O hk
      rw [eb_81_1]
      cases h4 : p.testBit k
      · have hd5 := hd5 ⟨k, hk, h4⟩
        have hkl : l ≠ k := fun z => by rw [← z, hpl] at h4; cases h4
        have hpi : pi l s k < 216 := by unfold pi; omega
        have e1 : g0 (depth * 6 + k) = M 32 (depth * 6 + k) := h1 _ (by omega)
        have e3 : ur M 32 g0 23 = M 23 := ur_n (by decide)
        have h5 := hdom (depth * 6 + k)
        have h6 : M 32 (depth * 6 + k) &&& M 23 (pi l s k) < 64 := Nat.lt_of_le_of_lt Nat.and_le_left h5
        have s1 := s_67 (xs := xs) (d := d + 1) (M := ur M 32 g0) (R := R) O hl hk
        have fin : ∀ x, x < 64 → (∀ i, x.testBit i = true ↔ (M 32 (depth * 6 + k)).testBit i = true ∧ fb (M 23) l s k i = true ∧ (stc σ l k = true → wth σ M k i)) → ∃ g, ∃ b : Bool, ev xs (d + 2) 81 8 ([.ref 28, .int (nI depth), .int (nI p), .int (nI l), .int (nI s), .int (nI (depth * 6)), .int (nI (depth * 6 + 6)), .int (nI k), .int (nI x)], [], hc σ (ur M 32 g0) R) = some (.inl (some (.int (nI (b1 b)))), hc σ (ur M 32 g) R) ∧ (∀ j, j < (depth + 1) * 6 → g j = M 32 j) ∧ (∀ j, g j < 64) ∧ (b = true → ∀ o, o < (σ 1 6) → p.testBit o = false → ∀ i, (g ((depth + 1) * 6 + o)).testBit i = true ↔ (M 32 (depth * 6 + o)).testBit i = true ∧ fb (M 23) l s o i = true ∧ (stc σ l o = true → wth σ M o i)) ∧ (b = false → ∃ o, o < (σ 1 6) ∧ p.testBit o = false ∧ ∀ i, ¬ ((M 32 (depth * 6 + o)).testBit i = true ∧ fb (M 23) l s o i = true ∧ (stc σ l o = true → wth σ M o i))) := by
          intro x hx hx2
          by_cases hx0 : x = 0
          · refine ⟨g0, false, ?_, h1, h2, fun h => (by cases h), fun _ => ⟨k, hk, h4, fun i hi => ?_⟩⟩
            · simp (disch := first | assumption | omega | exact st8_a (Nat.le_of_ble_eq_true rfl)) only [hx0, eb_81_0, eb_81_2, eb_81_3, eb_81_4, eb_81_5, eb_81_6, eb_81_7, eb_81_8, eb_81_9, eb_81_10, eb_81_11, eb_81_12, kl_a, kl_d, kl_f, kl_i, kl_l, kl_n, kl_r, xr_1, xr_10, xr_2, xr_27, xr_28, xr_3, xr_31, xr_34, xr_35, xr_36, xr_37, xr_38, xr_4, xr_41, xr_44, xr_48, xr_5, xr_55, xr_56, xr_57, xr_61, xr_62, xr_91, xr_96, xr_98, af_0, af_1, xt_goto, xt_ib, xt_ic, xt_ic_ge, xt_if_eq, xt_if_ne, xt_ir, xt_nop, gF_19_4, gF_1_6, gF_28_0, gF_28_1, gF_28_3, gA_2, gA_3, gA_4, gA_5, gA_6, gA_7, gA_8, gA_9, gA_10, gA_11, gA_13, gA_14, gA_16, gA_17, gA_20, gA_21, gA_22, gA_23, gA_24, gA_25, gA_26, gA_27, gA_30, gA_31, gA_32, gA_33, gA_34, gA_35, gA_36, gA_38, gA_39, gA_41, gA_42, gA_46, gA_47, gA_49, gA_50, gA_51, gA_53, gA_56, gA_57, gA_59, gA_60, gW_2, gW_3, gW_4, gW_5, gW_6, gW_7, gW_8, gW_9, gW_10, gW_11, gW_13, gW_14, gW_16, gW_17, gW_20, gW_21, gW_22, gW_23, gW_24, gW_25, gW_26, gW_27, gW_30, gW_31, gW_32, gW_33, gW_34, gW_35, gW_36, gW_38, gW_39, gW_41, gW_42, gW_46, gW_47, gW_49, gW_50, gW_51, gW_53, gW_56, gW_57, gW_59, gW_60, xq_27_200_static, xq_67_6_virtualc, xq_82_7_virtualc, iN_add, iN_mul, iN_sub, iN_and, iN_or, iN_clr, iN_shl, iN_shr, tb_r1, b1_z, b1_or, b1_and, b1_or0, b1_or1, b1_0or, b1_t, b1_f, iN_lt, iN_inj, reduceIte, if_true, if_false, Nat.zero_add, Nat.add_zero, Bool.false_eq_true, Bool.true_eq_false, Nat.lt_irrefl, iN_az, not_true_eq_false, not_false_eq_true, Nat.reduceEqDiff, Nat.reduceLT, Nat.reduceAdd, Nat.reduceMul, Nat.reduceSub]
            · have := (hx2 i).mpr hi
              rw [hx0, Nat.zero_testBit] at this
              cases this
          · obtain ⟨g, b, e, q⟩ := ih (u1 g0 (depth * 6 + 6 + k) x) (.int (nI x)) (fun j hj => by rw [u1_n (by omega)]; exact h1 j hj) (fun j => by
              unfold u1
              split
              · exact hx
              · exact h2 j) (fun o ho hpo i => by
              by_cases e : o = k
              · subst e
                rw [show (depth + 1) * 6 + o = depth * 6 + 6 + o by omega, u1_s]
                exact hx2 i
              · rw [u1_n (by omega)]
                exact h3 o (by omega) hpo i)
            refine ⟨g, b, ?_, q⟩
            simp (disch := first | assumption | omega | exact st8_a (Nat.le_of_ble_eq_true rfl)) only [hx0, ur_up, eb_81_0, eb_81_2, eb_81_3, eb_81_4, eb_81_5, eb_81_6, eb_81_7, eb_81_8, eb_81_9, eb_81_10, eb_81_11, eb_81_12, kl_a, kl_d, kl_f, kl_i, kl_l, kl_n, kl_r, xr_1, xr_10, xr_2, xr_27, xr_28, xr_3, xr_31, xr_34, xr_35, xr_36, xr_37, xr_38, xr_4, xr_41, xr_44, xr_48, xr_5, xr_55, xr_56, xr_57, xr_61, xr_62, xr_91, xr_96, xr_98, af_0, af_1, xt_goto, xt_ib, xt_ic, xt_ic_ge, xt_if_eq, xt_if_ne, xt_ir, xt_nop, gF_19_4, gF_1_6, gF_28_0, gF_28_1, gF_28_3, gA_2, gA_3, gA_4, gA_5, gA_6, gA_7, gA_8, gA_9, gA_10, gA_11, gA_13, gA_14, gA_16, gA_17, gA_20, gA_21, gA_22, gA_23, gA_24, gA_25, gA_26, gA_27, gA_30, gA_31, gA_32, gA_33, gA_34, gA_35, gA_36, gA_38, gA_39, gA_41, gA_42, gA_46, gA_47, gA_49, gA_50, gA_51, gA_53, gA_56, gA_57, gA_59, gA_60, gW_2, gW_3, gW_4, gW_5, gW_6, gW_7, gW_8, gW_9, gW_10, gW_11, gW_13, gW_14, gW_16, gW_17, gW_20, gW_21, gW_22, gW_23, gW_24, gW_25, gW_26, gW_27, gW_30, gW_31, gW_32, gW_33, gW_34, gW_35, gW_36, gW_38, gW_39, gW_41, gW_42, gW_46, gW_47, gW_49, gW_50, gW_51, gW_53, gW_56, gW_57, gW_59, gW_60, xq_27_200_static, xq_67_6_virtualc, xq_82_7_virtualc, iN_add, iN_mul, iN_sub, iN_and, iN_or, iN_clr, iN_shl, iN_shr, tb_r1, b1_z, b1_or, b1_and, b1_or0, b1_or1, b1_0or, b1_t, b1_f, iN_lt, iN_inj, reduceIte, if_true, if_false, Nat.zero_add, Nat.add_zero, Bool.false_eq_true, Bool.true_eq_false, Nat.lt_irrefl, iN_az, not_true_eq_false, not_false_eq_true, Nat.reduceEqDiff, Nat.reduceLT, Nat.reduceAdd, Nat.reduceMul, Nat.reduceSub]
            exact e
        cases h7 : stc σ l k
        · rw [h7] at s1
          obtain ⟨g, b, e, q⟩ := fin (M 32 (depth * 6 + k) &&& M 23 (pi l s k)) h6 fun i => by
            rw [Nat.testBit_and, Bool.and_eq_true, h7]
            unfold fb
            simp
          refine ⟨g, b, ?_, q⟩
          simp (disch := first | assumption | omega | exact st8_a (Nat.le_of_ble_eq_true rfl)) only [hk, h4, s_27, ur_s, e1, e3, s1, eb_81_0, eb_81_2, eb_81_3, eb_81_4, eb_81_5, eb_81_6, eb_81_7, eb_81_9, eb_81_10, eb_81_11, eb_81_12, kl_a, kl_d, kl_f, kl_i, kl_l, kl_n, kl_r, xr_1, xr_10, xr_2, xr_27, xr_28, xr_3, xr_31, xr_34, xr_35, xr_36, xr_37, xr_38, xr_4, xr_41, xr_44, xr_48, xr_5, xr_55, xr_56, xr_57, xr_61, xr_62, xr_91, xr_96, xr_98, af_0, af_1, xt_goto, xt_ib, xt_ic, xt_ic_ge, xt_if_eq, xt_if_ne, xt_ir, xt_nop, gF_19_4, gF_1_6, gF_28_0, gF_28_1, gF_28_3, gA_2, gA_3, gA_4, gA_5, gA_6, gA_7, gA_8, gA_9, gA_10, gA_11, gA_13, gA_14, gA_16, gA_17, gA_20, gA_21, gA_22, gA_23, gA_24, gA_25, gA_26, gA_27, gA_30, gA_31, gA_32, gA_33, gA_34, gA_35, gA_36, gA_38, gA_39, gA_41, gA_42, gA_46, gA_47, gA_49, gA_50, gA_51, gA_53, gA_56, gA_57, gA_59, gA_60, gW_2, gW_3, gW_4, gW_5, gW_6, gW_7, gW_8, gW_9, gW_10, gW_11, gW_13, gW_14, gW_16, gW_17, gW_20, gW_21, gW_22, gW_23, gW_24, gW_25, gW_26, gW_27, gW_30, gW_31, gW_32, gW_33, gW_34, gW_35, gW_36, gW_38, gW_39, gW_41, gW_42, gW_46, gW_47, gW_49, gW_50, gW_51, gW_53, gW_56, gW_57, gW_59, gW_60, xq_27_200_static, xq_67_6_virtualc, xq_82_7_virtualc, iN_add, iN_mul, iN_sub, iN_and, iN_or, iN_clr, iN_shl, iN_shr, tb_r1, b1_z, b1_or, b1_and, b1_or0, b1_or1, b1_0or, b1_t, b1_f, iN_lt, iN_inj, reduceIte, if_true, if_false, Nat.zero_add, Nat.add_zero, Bool.false_eq_true, Bool.true_eq_false, Nat.lt_irrefl, iN_az, not_true_eq_false, not_false_eq_true, Nat.reduceEqDiff, Nat.reduceLT, Nat.reduceAdd, Nat.reduceMul, Nat.reduceSub]
          exact e
        · rw [h7] at s1
          obtain ⟨x, e2, q2⟩ := s_82 (xs := xs) (d := d) (M := ur M 32 g0) (R := R) (sl := M 32 (depth * 6 + k) &&& M 23 (pi l s k)) O hk (by rw [ur_n (by decide)]; exact hus _ kt.2.1) (by rw [ur_n (by decide)]; exact hW.2.2.2.1 _ kt.2.1) (fun s hs => by rw [ur_n (by decide)]; exact hW.2.2.2.2.1 k hk s hs)
          rw [ur_n (by decide), ur_n (by decide)] at q2
          have hxx : x < 64 := mask_lt (n := 6) fun i hi => by
            rw [q2 i, Bool.and_eq_true] at hi
            by_cases hi6 : i < 6
            · exact hi6
            · rw [Nat.testBit_lt_two_pow (Nat.lt_of_lt_of_le h6 (Nat.pow_le_pow_right (n := 2) (i := 6) (by decide) (by omega)))] at hi
              exact absurd hi.1 (by decide)
          obtain ⟨g, b, e, q⟩ := fin x hxx fun i => by
            rw [q2 i, Nat.testBit_and, h7]
            unfold fb wth
            simp only [Bool.and_eq_true, Bool.not_eq_true', Bool.and_eq_false_iff, decide_eq_false_iff_not, true_implies, and_assoc]
            constructor
            · rintro ⟨z1, z2, z3⟩
              refine ⟨z1, z2, fun ⟨v1, v2, v3⟩ => ?_⟩
              rcases z3 with z3 | z3 | z3
              · exact z3 v1
              · exact z3 v2
              · exact z3 v3
            · rintro ⟨z1, z2, z3⟩
              refine ⟨z1, z2, ?_⟩
              by_cases v1 : M 22 (σ 6 k) < (σ 1 1)
              · by_cases v2 : i < (σ 1 2)
                · exact .inr (.inr fun v3 => z3 ⟨v1, v2, v3⟩)
                · exact .inr (.inl v2)
              · exact .inl v1
          refine ⟨g, b, ?_, q⟩
          simp (disch := first | assumption | omega | exact st8_a (Nat.le_of_ble_eq_true rfl)) only [hk, h4, s_27, ur_s, e1, e3, s1, e2, eb_81_0, eb_81_2, eb_81_3, eb_81_4, eb_81_5, eb_81_6, eb_81_7, eb_81_9, eb_81_10, eb_81_11, eb_81_12, kl_a, kl_d, kl_f, kl_i, kl_l, kl_n, kl_r, xr_1, xr_10, xr_2, xr_27, xr_28, xr_3, xr_31, xr_34, xr_35, xr_36, xr_37, xr_38, xr_4, xr_41, xr_44, xr_48, xr_5, xr_55, xr_56, xr_57, xr_61, xr_62, xr_91, xr_96, xr_98, af_0, af_1, xt_goto, xt_ib, xt_ic, xt_ic_ge, xt_if_eq, xt_if_ne, xt_ir, xt_nop, gF_19_4, gF_1_6, gF_28_0, gF_28_1, gF_28_3, gA_2, gA_3, gA_4, gA_5, gA_6, gA_7, gA_8, gA_9, gA_10, gA_11, gA_13, gA_14, gA_16, gA_17, gA_20, gA_21, gA_22, gA_23, gA_24, gA_25, gA_26, gA_27, gA_30, gA_31, gA_32, gA_33, gA_34, gA_35, gA_36, gA_38, gA_39, gA_41, gA_42, gA_46, gA_47, gA_49, gA_50, gA_51, gA_53, gA_56, gA_57, gA_59, gA_60, gW_2, gW_3, gW_4, gW_5, gW_6, gW_7, gW_8, gW_9, gW_10, gW_11, gW_13, gW_14, gW_16, gW_17, gW_20, gW_21, gW_22, gW_23, gW_24, gW_25, gW_26, gW_27, gW_30, gW_31, gW_32, gW_33, gW_34, gW_35, gW_36, gW_38, gW_39, gW_41, gW_42, gW_46, gW_47, gW_49, gW_50, gW_51, gW_53, gW_56, gW_57, gW_59, gW_60, xq_27_200_static, xq_67_6_virtualc, xq_82_7_virtualc, iN_add, iN_mul, iN_sub, iN_and, iN_or, iN_clr, iN_shl, iN_shr, tb_r1, b1_z, b1_or, b1_and, b1_or0, b1_or1, b1_0or, b1_t, b1_f, iN_lt, iN_inj, reduceIte, if_true, if_false, Nat.zero_add, Nat.add_zero, Bool.false_eq_true, Bool.true_eq_false, Nat.lt_irrefl, iN_az, not_true_eq_false, not_false_eq_true, Nat.reduceEqDiff, Nat.reduceLT, Nat.reduceAdd, Nat.reduceMul, Nat.reduceSub]
          exact e
      · obtain ⟨g, b, e, q⟩ := ih g0 y h1 h2 (fun o ho hpo i => by
          by_cases e : o = k
          · subst e; rw [h4] at hpo; cases hpo
          · exact h3 o (by omega) hpo i)
        refine ⟨g, b, ?_, q⟩
        simp (disch := first | assumption | omega | exact st8_a (Nat.le_of_ble_eq_true rfl)) only [hk, h4, eb_81_0, eb_81_2, eb_81_3, eb_81_4, eb_81_5, eb_81_6, eb_81_7, eb_81_8, eb_81_9, eb_81_10, eb_81_11, eb_81_12, kl_a, kl_d, kl_f, kl_i, kl_l, kl_n, kl_r, xr_1, xr_10, xr_2, xr_27, xr_28, xr_3, xr_31, xr_34, xr_35, xr_36, xr_37, xr_38, xr_4, xr_41, xr_44, xr_48, xr_5, xr_55, xr_56, xr_57, xr_61, xr_62, xr_91, xr_96, xr_98, af_0, af_1, xt_goto, xt_ib, xt_ic, xt_ic_ge, xt_if_eq, xt_if_ne, xt_ir, xt_nop, gF_19_4, gF_1_6, gF_28_0, gF_28_1, gF_28_3, gA_2, gA_3, gA_4, gA_5, gA_6, gA_7, gA_8, gA_9, gA_10, gA_11, gA_13, gA_14, gA_16, gA_17, gA_20, gA_21, gA_22, gA_23, gA_24, gA_25, gA_26, gA_27, gA_30, gA_31, gA_32, gA_33, gA_34, gA_35, gA_36, gA_38, gA_39, gA_41, gA_42, gA_46, gA_47, gA_49, gA_50, gA_51, gA_53, gA_56, gA_57, gA_59, gA_60, gW_2, gW_3, gW_4, gW_5, gW_6, gW_7, gW_8, gW_9, gW_10, gW_11, gW_13, gW_14, gW_16, gW_17, gW_20, gW_21, gW_22, gW_23, gW_24, gW_25, gW_26, gW_27, gW_30, gW_31, gW_32, gW_33, gW_34, gW_35, gW_36, gW_38, gW_39, gW_41, gW_42, gW_46, gW_47, gW_49, gW_50, gW_51, gW_53, gW_56, gW_57, gW_59, gW_60, xq_27_200_static, xq_67_6_virtualc, xq_82_7_virtualc, iN_add, iN_mul, iN_sub, iN_and, iN_or, iN_clr, iN_shl, iN_shr, tb_r1, b1_z, b1_or, b1_and, b1_or0, b1_or1, b1_0or, b1_t, b1_f, iN_lt, iN_inj, reduceIte, if_true, if_false, Nat.zero_add, Nat.add_zero, Bool.false_eq_true, Bool.true_eq_false, Nat.lt_irrefl, iN_az, not_true_eq_false, not_false_eq_true, Nat.reduceEqDiff, Nat.reduceLT, Nat.reduceAdd, Nat.reduceMul, Nat.reduceSub]
        exact e
  obtain ⟨g, b, e, q⟩ := key 0 (Nat.zero_le _) (M 32) (.retAddr 9) (fun _ _ => rfl) hdom (fun o ho => absurd ho (Nat.not_lt_zero o))
  refine ⟨g, b, ?_, q⟩
  rw [ur_id] at e
  simp (disch := first | assumption | omega | exact st8_a (Nat.le_of_ble_eq_true rfl)) only [eb_81_0, eb_81_2, eb_81_3, eb_81_4, eb_81_5, eb_81_6, eb_81_7, eb_81_8, eb_81_9, eb_81_10, eb_81_11, eb_81_12, kl_a, kl_d, kl_f, kl_i, kl_l, kl_n, kl_r, xr_1, xr_10, xr_2, xr_27, xr_28, xr_3, xr_31, xr_34, xr_35, xr_36, xr_37, xr_38, xr_4, xr_41, xr_44, xr_48, xr_5, xr_55, xr_56, xr_57, xr_61, xr_62, xr_91, xr_96, xr_98, af_0, af_1, xt_goto, xt_ib, xt_ic, xt_ic_ge, xt_if_eq, xt_if_ne, xt_ir, xt_nop, gF_19_4, gF_1_6, gF_28_0, gF_28_1, gF_28_3, gA_2, gA_3, gA_4, gA_5, gA_6, gA_7, gA_8, gA_9, gA_10, gA_11, gA_13, gA_14, gA_16, gA_17, gA_20, gA_21, gA_22, gA_23, gA_24, gA_25, gA_26, gA_27, gA_30, gA_31, gA_32, gA_33, gA_34, gA_35, gA_36, gA_38, gA_39, gA_41, gA_42, gA_46, gA_47, gA_49, gA_50, gA_51, gA_53, gA_56, gA_57, gA_59, gA_60, gW_2, gW_3, gW_4, gW_5, gW_6, gW_7, gW_8, gW_9, gW_10, gW_11, gW_13, gW_14, gW_16, gW_17, gW_20, gW_21, gW_22, gW_23, gW_24, gW_25, gW_26, gW_27, gW_30, gW_31, gW_32, gW_33, gW_34, gW_35, gW_36, gW_38, gW_39, gW_41, gW_42, gW_46, gW_47, gW_49, gW_50, gW_51, gW_53, gW_56, gW_57, gW_59, gW_60, xq_27_200_static, xq_67_6_virtualc, xq_82_7_virtualc, iN_add, iN_mul, iN_sub, iN_and, iN_or, iN_clr, iN_shl, iN_shr, tb_r1, b1_z, b1_or, b1_and, b1_or0, b1_or1, b1_0or, b1_t, b1_f, iN_lt, iN_inj, reduceIte, if_true, if_false, Nat.zero_add, Nat.add_zero, Bool.false_eq_true, Bool.true_eq_false, Nat.lt_irrefl, iN_az, not_true_eq_false, not_false_eq_true, Nat.reduceEqDiff, Nat.reduceLT, Nat.reduceAdd, Nat.reduceMul, Nat.reduceSub]
  exact e
end Sd
