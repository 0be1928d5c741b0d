/-! THE CLASS Values: methods that only read -/
set_option maxRecDepth 100000 in
theorem sh7_tb (a s r : Nat) : ((a >>> (s * 3)) &&& 7).testBit r = (decide (r < 3) && a.testBit (s * 3 + r)) := by
  have h := Nat.testBit_two_pow_sub_one 3 r
  rw [show (2 : Nat) ^ 3 - 1 = 7 from rfl] at h
  rw [Nat.testBit_and, Nat.testBit_shiftRight, h, Bool.and_comm]
set_option maxRecDepth 100000 in
theorem sh7_z (a s : Nat) : (a >>> (s * 3)) &&& 7 = 0 ↔ ∀ r, r < 3 → a.testBit (s * 3 + r) = false := by
  rw [z_tb]
  constructor
  · intro h r hr
    have := h r
    rw [sh7_tb, decide_eq_true hr, Bool.true_and] at this
    exact this
  · intro h r
    rw [sh7_tb]
    by_cases hr : r < 3
    · rw [h r hr, Bool.and_false]
    · simp [hr]
/-- the slots that the values left of a lesson cover; those of some lessons; their lengths -/
def cl (σ : Nat → Nat → Nat) (w : Nat → Nat) (l : Nat) : Nat := orn (σ 1 2) fun s => if (w l >>> (s * 3)) &&& 7 = 0 then 0 else cov σ l s
def cst (σ : Nat → Nat → Nat) (cv : Nat → Nat) (set : Nat) : Nat := orn (σ 1 6) fun l => if set.testBit l = true then cv l else 0
def lns (σ : Nat → Nat → Nat) (set : Nat) : Nat := sm (σ 1 6) fun l => if set.testBit l = true then σ 7 l else 0
section Va
variable {xs : List Int32} {σ M : Nat → Nat → Nat} {R : ab_H} {d l s r o u n : Nat}
set_option maxRecDepth 100000 in
theorem s_106 (O : Ok σ) (hl : l < (σ 1 6)) (hs : s < (σ 1 2)) (hr : r < (σ 1 5)) (hw : M 38 l < 262144) : ev xs d 106 0 ([.ref 37, .int (nI l), .int (nI s), .int (nI r)], [], hc σ M R) = some (.inl (some (.int (nI (b1 ((M 38 l).testBit (s * 3 + r)))))), hc σ M R) := by
  obtain ⟨hD1, hD2, hH1, hH2, hS, hC, hT, hR, hL, hQ⟩ := Ok_b O
  cases h : (M 38 l).testBit (s * 3 + r) <;> simp (disch := first | assumption | omega | exact st8_a (Nat.le_of_ble_eq_true rfl)) only [h, eb_106_0, eb_106_1, eb_106_2, eb_106_3, xr_1, xr_10, xr_2, xr_27, xr_28, xr_3, xr_31, xr_37, xr_38, xr_4, xr_41, xr_44, xr_5, xr_55, xr_71, xt_goto, xt_ib, xt_ic, xt_if_eq, xt_ir, xt_nop, gF_37_2, gA_2, gA_3, gA_4, gA_5, gA_6, gA_7, gA_8, gA_9, gA_10, gA_11, gA_13, gA_14, gA_16, gA_17, gA_20, gA_21, gA_22, gA_23, gA_24, gA_25, gA_26, gA_27, gA_30, gA_31, gA_32, gA_33, gA_34, gA_35, gA_36, gA_38, gA_39, gA_41, gA_42, gA_46, gA_47, gA_49, gA_50, gA_51, gA_53, gA_56, gA_57, gA_59, gA_60, iN_add, iN_mul, iN_sub, iN_and, iN_or, iN_clr, iN_shl, iN_shr, tb_r1, b1_z, b1_or, b1_and, b1_or0, b1_or1, b1_0or, b1_t, b1_f, iN_lt, iN_inj, reduceIte, if_true, if_false, Nat.zero_add, Nat.add_zero, Bool.false_eq_true, Bool.true_eq_false, Nat.lt_irrefl, iN_az, not_true_eq_false, not_false_eq_true, Nat.reduceEqDiff, Nat.reduceLT, Nat.reduceAdd, Nat.reduceMul, Nat.reduceSub]
set_option maxRecDepth 100000 in
theorem s_109 (O : Ok σ) (hl : l < (σ 1 6)) (h20 : M 20 l < 64) (h21 : M 21 l < 8) : ev xs d 109 0 ([.ref 37, .int (nI l), .retAddr 9, .retAddr 9], [], hc σ M R) = some (.inl (some (.int (nI (orn (σ 1 2) fun s => if (M 20 l).testBit s = true then M 21 l <<< (s * 3) else 0)))), hc σ M R) := by
  obtain ⟨hD1, hD2, hH1, hH2, hS, hC, hT, hR, hL, hQ⟩ := Ok_b O
  have key : ∀ k, k ≤ (σ 1 2) → ev xs d 109 1 ([.ref 37, .int (nI l), .int (nI (orn k fun s => if (M 20 l).testBit s = true then M 21 l <<< (s * 3) else 0)), .int (nI k)], [], hc σ M R) = some (.inl (some (.int (nI (orn (σ 1 2) fun s => if (M 20 l).testBit s = true then M 21 l <<< (s * 3) else 0)))), hc σ M R) := by
    refine lp (σ 1 2) ?_ ?_
    · rw [eb_109_1]
      simp (disch := first | assumption | omega | exact st8_a (Nat.le_of_ble_eq_true rfl)) only [eb_109_0, eb_109_2, eb_109_3, eb_109_4, eb_109_5, kl_a, kl_d, kl_f, kl_i, kl_l, kl_n, kl_r, xr_1, xr_10, xr_2, xr_27, xr_28, xr_3, xr_30, xr_31, xr_32, xr_37, xr_4, xr_41, xr_43, xr_44, xr_45, xr_5, xr_55, xr_58, xr_71, xt_goto, xt_ib, xt_ic, xt_ic_ge, xt_if_eq, xt_ir, xt_nop, gF_37_0, gF_37_1, gF_19_1, gF_19_2, gF_1_2, gA_2, gA_3, gA_4, gA_5, gA_6, gA_7, gA_8, gA_9, gA_10, gA_11, gA_13, gA_14, gA_16, gA_17, gA_20, gA_21, gA_22, gA_23, gA_24, gA_25, gA_26, gA_27, gA_30, gA_31, gA_32, gA_33, gA_34, gA_35, gA_36, gA_38, gA_39, gA_41, gA_42, gA_46, gA_47, gA_49, gA_50, gA_51, gA_53, gA_56, gA_57, gA_59, gA_60, iN_add, iN_mul, iN_sub, iN_and, iN_or, iN_clr, iN_shl, iN_shr, tb_r1, b1_z, b1_or, b1_and, b1_or0, b1_or1, b1_0or, b1_t, b1_f, iN_lt, iN_inj, reduceIte, if_true, if_false, Nat.zero_add, Nat.add_zero, Bool.false_eq_true, Bool.true_eq_false, Nat.lt_irrefl, iN_az, not_true_eq_false, not_false_eq_true, Nat.reduceEqDiff, Nat.reduceLT, Nat.reduceAdd, Nat.reduceMul, Nat.reduceSub]
    · intro k hk ih
      rw [eb_109_1]
      rw [orn] at ih
      cases h : (M 20 l).testBit k
      · rw [h] at ih
        simp only [Bool.false_eq_true, if_false, Nat.or_zero] at ih
        simp (disch := first | assumption | omega | exact st8_a (Nat.le_of_ble_eq_true rfl)) only [hk, h, eb_109_0, eb_109_2, eb_109_3, eb_109_4, eb_109_5, kl_a, kl_d, kl_f, kl_i, kl_l, kl_n, kl_r, xr_1, xr_10, xr_2, xr_27, xr_28, xr_3, xr_30, xr_31, xr_32, xr_37, xr_4, xr_41, xr_43, xr_44, xr_45, xr_5, xr_55, xr_58, xr_71, xt_goto, xt_ib, xt_ic, xt_ic_ge, xt_if_eq, xt_ir, xt_nop, gF_37_0, gF_37_1, gF_19_1, gF_19_2, gF_1_2, gA_2, gA_3, gA_4, gA_5, gA_6, gA_7, gA_8, gA_9, gA_10, gA_11, gA_13, gA_14, gA_16, gA_17, gA_20, gA_21, gA_22, gA_23, gA_24, gA_25, gA_26, gA_27, gA_30, gA_31, gA_32, gA_33, gA_34, gA_35, gA_36, gA_38, gA_39, gA_41, gA_42, gA_46, gA_47, gA_49, gA_50, gA_51, gA_53, gA_56, gA_57, gA_59, gA_60, iN_add, iN_mul, iN_sub, iN_and, iN_or, iN_clr, iN_shl, iN_shr, tb_r1, b1_z, b1_or, b1_and, b1_or0, b1_or1, b1_0or, b1_t, b1_f, iN_lt, iN_inj, reduceIte, if_true, if_false, Nat.zero_add, Nat.add_zero, Bool.false_eq_true, Bool.true_eq_false, Nat.lt_irrefl, iN_az, not_true_eq_false, not_false_eq_true, Nat.reduceEqDiff, Nat.reduceLT, Nat.reduceAdd, Nat.reduceMul, Nat.reduceSub]
        exact ih
      · rw [h, if_pos rfl] at ih
        simp (disch := first | assumption | omega | exact st8_a (Nat.le_of_ble_eq_true rfl)) only [hk, h, eb_109_0, eb_109_2, eb_109_3, eb_109_4, eb_109_5, kl_a, kl_d, kl_f, kl_i, kl_l, kl_n, kl_r, xr_1, xr_10, xr_2, xr_27, xr_28, xr_3, xr_30, xr_31, xr_32, xr_37, xr_4, xr_41, xr_43, xr_44, xr_45, xr_5, xr_55, xr_58, xr_71, xt_goto, xt_ib, xt_ic, xt_ic_ge, xt_if_eq, xt_ir, xt_nop, gF_37_0, gF_37_1, gF_19_1, gF_19_2, gF_1_2, gA_2, gA_3, gA_4, gA_5, gA_6, gA_7, gA_8, gA_9, gA_10, gA_11, gA_13, gA_14, gA_16, gA_17, gA_20, gA_21, gA_22, gA_23, gA_24, gA_25, gA_26, gA_27, gA_30, gA_31, gA_32, gA_33, gA_34, gA_35, gA_36, gA_38, gA_39, gA_41, gA_42, gA_46, gA_47, gA_49, gA_50, gA_51, gA_53, gA_56, gA_57, gA_59, gA_60, iN_add, iN_mul, iN_sub, iN_and, iN_or, iN_clr, iN_shl, iN_shr, tb_r1, b1_z, b1_or, b1_and, b1_or0, b1_or1, b1_0or, b1_t, b1_f, iN_lt, iN_inj, reduceIte, if_true, if_false, Nat.zero_add, Nat.add_zero, Bool.false_eq_true, Bool.true_eq_false, Nat.lt_irrefl, iN_az, not_true_eq_false, not_false_eq_true, Nat.reduceEqDiff, Nat.reduceLT, Nat.reduceAdd, Nat.reduceMul, Nat.reduceSub]
        exact ih
  simp (disch := first | assumption | omega | exact st8_a (Nat.le_of_ble_eq_true rfl)) only [eb_109_0, eb_109_2, eb_109_3, eb_109_4, eb_109_5, kl_a, kl_d, kl_f, kl_i, kl_l, kl_n, kl_r, xr_1, xr_10, xr_2, xr_27, xr_28, xr_3, xr_30, xr_31, xr_32, xr_37, xr_4, xr_41, xr_43, xr_44, xr_45, xr_5, xr_55, xr_58, xr_71, xt_goto, xt_ib, xt_ic, xt_ic_ge, xt_if_eq, xt_ir, xt_nop, gF_37_0, gF_37_1, gF_19_1, gF_19_2, gF_1_2, gA_2, gA_3, gA_4, gA_5, gA_6, gA_7, gA_8, gA_9, gA_10, gA_11, gA_13, gA_14, gA_16, gA_17, gA_20, gA_21, gA_22, gA_23, gA_24, gA_25, gA_26, gA_27, gA_30, gA_31, gA_32, gA_33, gA_34, gA_35, gA_36, gA_38, gA_39, gA_41, gA_42, gA_46, gA_47, gA_49, gA_50, gA_51, gA_53, gA_56, gA_57, gA_59, gA_60, iN_add, iN_mul, iN_sub, iN_and, iN_or, iN_clr, iN_shl, iN_shr, tb_r1, b1_z, b1_or, b1_and, b1_or0, b1_or1, b1_0or, b1_t, b1_f, iN_lt, iN_inj, reduceIte, if_true, if_false, Nat.zero_add, Nat.add_zero, Bool.false_eq_true, Bool.true_eq_false, Nat.lt_irrefl, iN_az, not_true_eq_false, not_false_eq_true, Nat.reduceEqDiff, Nat.reduceLT, Nat.reduceAdd, Nat.reduceMul, Nat.reduceSub]
  exact key 0 (Nat.zero_le _)
set_option maxRecDepth 100000 in
theorem s_112 (O : Ok σ) (hl : l < (σ 1 6)) (hs : s < (σ 1 2)) (hr : r < (σ 1 5)) (ho : o < (σ 1 6)) (h23 : M 23 (pi l s o) < 64) (hw : M 38 o < 262144) (hc25 : ∀ l, l < (σ 1 6) → ∀ s, s < (σ 1 2) → M 25 (l * 6 + s) = cov σ l s) : ∃ b : Bool, ev xs (d + 1) 112 0 ([.ref 37, .int (nI l), .int (nI s), .int (nI r), .int (nI o), .retAddr 9, .retAddr 9, .retAddr 9, .retAddr 9], [], hc σ M R) = some (.inl (some (.int (nI (b1 b)))), hc σ M R) ∧ (b = true ↔ ∃ i, i < (σ 1 2) ∧ fb (M 23) l s o i = true ∧ ∃ r2, r2 < 3 ∧ (M 38 o).testBit (i * 3 + r2) = true ∧ (cov σ l s &&& cov σ o i ≠ 0 → r2 ≠ r)) := by
  obtain ⟨hD1, hD2, hH1, hH2, hS, hC, hT, hR, hL, hQ⟩ := Ok_b O
  have hpi : pi l s o < 216 := by unfold pi; omega
  have e1 := hc25 l hl s hs
  have c1 := cov_lt O (l := l) hs
  have key : ∀ k, k ≤ (σ 1 2) → ∀ y, ∃ b : Bool, ev xs (d + 1) 112 2 ([.ref 37, .int (nI l), .int (nI s), .int (nI r), .int (nI o), .int (nI (M 23 (pi l s o))), .int (nI (cov σ l s)), .int (nI k), y], [], hc σ M R) = some (.inl (some (.int (nI (b1 b)))), hc σ M R) ∧ (b = true ↔ ∃ i, k ≤ i ∧ i < (σ 1 2) ∧ fb (M 23) l s o i = true ∧ ∃ r2, r2 < 3 ∧ (M 38 o).testBit (i * 3 + r2) = true ∧ (cov σ l s &&& cov σ o i ≠ 0 → r2 ≠ r)) := by
    refine lp (σ 1 2) ?_ ?_
    · intro y
      refine ⟨false, ?_, ⟨fun h => (by cases h), fun ⟨i, h1, h2, _⟩ => by omega⟩⟩
      rw [eb_112_2]
      simp (disch := first | assumption | omega | exact st8_a (Nat.le_of_ble_eq_true rfl)) only [eb_112_0, eb_112_1, eb_112_3, eb_112_4, eb_112_5, eb_112_6, eb_112_7, eb_112_8, eb_112_9, kl_a, kl_d, kl_f, kl_i, kl_l, kl_n, kl_r, xr_1, xr_10, xr_2, xr_27, xr_28, xr_3, xr_31, xr_34, xr_35, xr_36, xr_37, xr_38, xr_4, xr_41, xr_44, xr_48, xr_5, xr_55, xr_56, xr_57, xr_58, xr_61, xr_62, xr_64, xr_71, xr_75, xr_87, xr_91, xr_96, xr_98, af_0, af_1, xt_goto, xt_ib, xt_ic, xt_ic_ge, xt_if_eq, xt_ir, xt_nop, gF_37_0, gF_37_1, gF_37_2, gF_19_4, gF_19_6, gF_1_2, gA_2, gA_3, gA_4, gA_5, gA_6, gA_7, gA_8, gA_9, gA_10, gA_11, gA_13, gA_14, gA_16, gA_17, gA_20, gA_21, gA_22, gA_23, gA_24, gA_25, gA_26, gA_27, gA_30, gA_31, gA_32, gA_33, gA_34, gA_35, gA_36, gA_38, gA_39, gA_41, gA_42, gA_46, gA_47, gA_49, gA_50, gA_51, gA_53, gA_56, gA_57, gA_59, gA_60, xq_27_200_static, iN_add, iN_mul, iN_sub, iN_and, iN_or, iN_clr, iN_shl, iN_shr, tb_r1, b1_z, b1_or, b1_and, b1_or0, b1_or1, b1_0or, b1_t, b1_f, iN_lt, iN_inj, reduceIte, if_true, if_false, Nat.zero_add, Nat.add_zero, Bool.false_eq_true, Bool.true_eq_false, Nat.lt_irrefl, iN_az, not_true_eq_false, not_false_eq_true, Nat.reduceEqDiff, Nat.reduceLT, Nat.reduceAdd, Nat.reduceMul, Nat.reduceSub]
    · intro k hk ih y
      have e2 := hc25 o ho k hk
      have sk : (¬ (fb (M 23) l s o k = true ∧ ∃ r2, r2 < 3 ∧ (M 38 o).testBit (k * 3 + r2) = true ∧ (cov σ l s &&& cov σ o k ≠ 0 → r2 ≠ r))) → ∀ b : Bool, (b = true ↔ ∃ i, k + 1 ≤ i ∧ i < (σ 1 2) ∧ fb (M 23) l s o i = true ∧ ∃ r2, r2 < 3 ∧ (M 38 o).testBit (i * 3 + r2) = true ∧ (cov σ l s &&& cov σ o i ≠ 0 → r2 ≠ r)) → (b = true ↔ ∃ i, k ≤ i ∧ i < (σ 1 2) ∧ fb (M 23) l s o i = true ∧ ∃ r2, r2 < 3 ∧ (M 38 o).testBit (i * 3 + r2) = true ∧ (cov σ l s &&& cov σ o i ≠ 0 → r2 ≠ r)) := by
        intro hn b hb
        rw [hb]
        constructor
        · rintro ⟨i, h1, h2⟩
          exact ⟨i, by omega, h2⟩
        · rintro ⟨i, h1, h2, h3⟩
          by_cases h : i = k
          · subst h; exact absurd h3 hn
          · exact ⟨i, by omega, h2, h3⟩
      rw [eb_112_2]
      cases h1 : (M 23 (pi l s o)).testBit k
      · obtain ⟨b, e3, q⟩ := ih y
        refine ⟨b, ?_, sk (fun z => by unfold fb at z; rw [h1] at z; exact absurd z.1 (by decide)) b q⟩
        clear q sk
        simp (disch := first | assumption | omega | exact st8_a (Nat.le_of_ble_eq_true rfl)) only [hk, h1, eb_112_3, eb_112_8, kl_a, kl_d, kl_f, kl_i, kl_l, kl_n, kl_r, xr_1, xr_10, xr_2, xr_27, xr_28, xr_3, xr_31, xr_34, xr_35, xr_36, xr_37, xr_38, xr_4, xr_41, xr_44, xr_48, xr_5, xr_55, xr_56, xr_57, xr_58, xr_61, xr_62, xr_64, xr_71, xr_75, xr_87, xr_91, xr_96, xr_98, af_0, af_1, xt_goto, xt_ib, xt_ic, xt_ic_ge, xt_if_eq, xt_ir, xt_nop, gF_37_0, gF_37_1, gF_37_2, gF_19_4, gF_19_6, gF_1_2, gA_2, gA_3, gA_4, gA_5, gA_6, gA_7, gA_8, gA_9, gA_10, gA_11, gA_13, gA_14, gA_16, gA_17, gA_20, gA_21, gA_22, gA_23, gA_24, gA_25, gA_26, gA_27, gA_30, gA_31, gA_32, gA_33, gA_34, gA_35, gA_36, gA_38, gA_39, gA_41, gA_42, gA_46, gA_47, gA_49, gA_50, gA_51, gA_53, gA_56, gA_57, gA_59, gA_60, xq_27_200_static, iN_add, iN_mul, iN_sub, iN_and, iN_or, iN_clr, iN_shl, iN_shr, tb_r1, b1_z, b1_or, b1_and, b1_or0, b1_or1, b1_0or, b1_t, b1_f, iN_lt, iN_inj, reduceIte, if_true, if_false, Nat.zero_add, Nat.add_zero, Bool.false_eq_true, Bool.true_eq_false, Nat.lt_irrefl, iN_az, not_true_eq_false, not_false_eq_true, Nat.reduceEqDiff, Nat.reduceLT, Nat.reduceAdd, Nat.reduceMul, Nat.reduceSub]
        exact e3
      · have h7 : M 38 o >>> (k * 3) &&& 7 < 8 := Nat.lt_of_le_of_lt Nat.and_le_right (by decide)
        by_cases h2 : cov σ l s &&& cov σ o k = 0
        · by_cases h3 : M 38 o >>> (k * 3) &&& 7 = 0
          · obtain ⟨b, e3, q⟩ := ih (.int (nI (M 38 o >>> (k * 3) &&& 7)))
            refine ⟨b, ?_, sk (fun ⟨_, r2, z1, z2, _⟩ => by rw [(sh7_z _ _).mp h3 r2 z1] at z2; cases z2) b q⟩
            rw [h3] at e3
            clear q sk
            simp (disch := first | assumption | omega | exact st8_a (Nat.le_of_ble_eq_true rfl)) only [hk, h1, e2, h2, h3, eb_112_3, eb_112_4, eb_112_6, eb_112_8, kl_a, kl_d, kl_f, kl_i, kl_l, kl_n, kl_r, xr_1, xr_10, xr_2, xr_27, xr_28, xr_3, xr_31, xr_34, xr_35, xr_36, xr_37, xr_38, xr_4, xr_41, xr_44, xr_48, xr_5, xr_55, xr_56, xr_57, xr_58, xr_61, xr_62, xr_64, xr_71, xr_75, xr_87, xr_91, xr_96, xr_98, af_0, af_1, xt_goto, xt_ib, xt_ic, xt_ic_ge, xt_if_eq, xt_ir, xt_nop, gF_37_0, gF_37_1, gF_37_2, gF_19_4, gF_19_6, gF_1_2, gA_2, gA_3, gA_4, gA_5, gA_6, gA_7, gA_8, gA_9, gA_10, gA_11, gA_13, gA_14, gA_16, gA_17, gA_20, gA_21, gA_22, gA_23, gA_24, gA_25, gA_26, gA_27, gA_30, gA_31, gA_32, gA_33, gA_34, gA_35, gA_36, gA_38, gA_39, gA_41, gA_42, gA_46, gA_47, gA_49, gA_50, gA_51, gA_53, gA_56, gA_57, gA_59, gA_60, xq_27_200_static, iN_add, iN_mul, iN_sub, iN_and, iN_or, iN_clr, iN_shl, iN_shr, tb_r1, b1_z, b1_or, b1_and, b1_or0, b1_or1, b1_0or, b1_t, b1_f, iN_lt, iN_inj, reduceIte, if_true, if_false, Nat.zero_add, Nat.add_zero, Bool.false_eq_true, Bool.true_eq_false, Nat.lt_irrefl, iN_az, not_true_eq_false, not_false_eq_true, Nat.reduceEqDiff, Nat.reduceLT, Nat.reduceAdd, Nat.reduceMul, Nat.reduceSub]
            exact e3
          · refine ⟨true, ?_, ⟨fun _ => ?_, fun _ => rfl⟩⟩
            · clear sk ih
              simp (disch := first | assumption | omega | exact st8_a (Nat.le_of_ble_eq_true rfl)) only [hk, h1, e2, h2, h3, eb_112_3, eb_112_4, eb_112_6, eb_112_7, kl_a, kl_d, kl_f, kl_i, kl_l, kl_n, kl_r, xr_1, xr_10, xr_2, xr_27, xr_28, xr_3, xr_31, xr_34, xr_35, xr_36, xr_37, xr_38, xr_4, xr_41, xr_44, xr_48, xr_5, xr_55, xr_56, xr_57, xr_58, xr_61, xr_62, xr_64, xr_71, xr_75, xr_87, xr_91, xr_96, xr_98, af_0, af_1, xt_goto, xt_ib, xt_ic, xt_ic_ge, xt_if_eq, xt_ir, xt_nop, gF_37_0, gF_37_1, gF_37_2, gF_19_4, gF_19_6, gF_1_2, gA_2, gA_3, gA_4, gA_5, gA_6, gA_7, gA_8, gA_9, gA_10, gA_11, gA_13, gA_14, gA_16, gA_17, gA_20, gA_21, gA_22, gA_23, gA_24, gA_25, gA_26, gA_27, gA_30, gA_31, gA_32, gA_33, gA_34, gA_35, gA_36, gA_38, gA_39, gA_41, gA_42, gA_46, gA_47, gA_49, gA_50, gA_51, gA_53, gA_56, gA_57, gA_59, gA_60, xq_27_200_static, iN_add, iN_mul, iN_sub, iN_and, iN_or, iN_clr, iN_shl, iN_shr, tb_r1, b1_z, b1_or, b1_and, b1_or0, b1_or1, b1_0or, b1_t, b1_f, iN_lt, iN_inj, reduceIte, if_true, if_false, Nat.zero_add, Nat.add_zero, Bool.false_eq_true, Bool.true_eq_false, Nat.lt_irrefl, iN_az, not_true_eq_false, not_false_eq_true, Nat.reduceEqDiff, Nat.reduceLT, Nat.reduceAdd, Nat.reduceMul, Nat.reduceSub]
            · obtain ⟨r2, z⟩ := nz_tb.mp h3
              rw [sh7_tb, Bool.and_eq_true, decide_eq_true_eq] at z
              exact ⟨k, Nat.le_refl _, hk, h1, r2, z.1, z.2, fun w => absurd h2 w⟩
        · have hcz : clr (M 38 o >>> (k * 3) &&& 7) (1 <<< r) = 0 ↔ ∀ r2, r2 < 3 → (M 38 o).testBit (k * 3 + r2) = true → r2 = r := by
            rw [z_tb]
            constructor
            · intro h r2 hr2 hb
              have := h r2
              rw [clr_b, sh7_tb, decide_eq_true hr2, hb] at this
              simpa using this
            · intro h r2
              rw [clr_b, sh7_tb]
              by_cases hr2 : r2 < 3
              · cases hb : (M 38 o).testBit (k * 3 + r2)
                · simp
                · simp [h r2 hr2 hb]
              · simp [hr2]
          have hc8 : clr (M 38 o >>> (k * 3) &&& 7) (1 <<< r) < 2 ^ 3 := clr_lt (n := 3) (Nat.lt_of_le_of_lt Nat.and_le_right (by decide))
          by_cases h3 : clr (M 38 o >>> (k * 3) &&& 7) (1 <<< r) = 0
          · obtain ⟨b, e3, q⟩ := ih (.int (nI (clr (M 38 o >>> (k * 3) &&& 7) (1 <<< r))))
            refine ⟨b, ?_, sk (fun ⟨_, r2, z1, z2, z3⟩ => z3 h2 (hcz.mp h3 r2 z1 z2)) b q⟩
            rw [h3] at e3
            clear q sk hcz
            simp (disch := first | assumption | omega | exact st8_a (Nat.le_of_ble_eq_true rfl)) only [hk, h1, e2, h2, h3, eb_112_3, eb_112_4, eb_112_5, eb_112_6, eb_112_8, kl_a, kl_d, kl_f, kl_i, kl_l, kl_n, kl_r, xr_1, xr_10, xr_2, xr_27, xr_28, xr_3, xr_31, xr_34, xr_35, xr_36, xr_37, xr_38, xr_4, xr_41, xr_44, xr_48, xr_5, xr_55, xr_56, xr_57, xr_58, xr_61, xr_62, xr_64, xr_71, xr_75, xr_87, xr_91, xr_96, xr_98, af_0, af_1, xt_goto, xt_ib, xt_ic, xt_ic_ge, xt_if_eq, xt_ir, xt_nop, gF_37_0, gF_37_1, gF_37_2, gF_19_4, gF_19_6, gF_1_2, gA_2, gA_3, gA_4, gA_5, gA_6, gA_7, gA_8, gA_9, gA_10, gA_11, gA_13, gA_14, gA_16, gA_17, gA_20, gA_21, gA_22, gA_23, gA_24, gA_25, gA_26, gA_27, gA_30, gA_31, gA_32, gA_33, gA_34, gA_35, gA_36, gA_38, gA_39, gA_41, gA_42, gA_46, gA_47, gA_49, gA_50, gA_51, gA_53, gA_56, gA_57, gA_59, gA_60, xq_27_200_static, iN_add, iN_mul, iN_sub, iN_and, iN_or, iN_clr, iN_shl, iN_shr, tb_r1, b1_z, b1_or, b1_and, b1_or0, b1_or1, b1_0or, b1_t, b1_f, iN_lt, iN_inj, reduceIte, if_true, if_false, Nat.zero_add, Nat.add_zero, Bool.false_eq_true, Bool.true_eq_false, Nat.lt_irrefl, iN_az, not_true_eq_false, not_false_eq_true, Nat.reduceEqDiff, Nat.reduceLT, Nat.reduceAdd, Nat.reduceMul, Nat.reduceSub]
            exact e3
          · refine ⟨true, ?_, ⟨fun _ => ?_, fun _ => rfl⟩⟩
            · clear sk ih hcz
              simp (disch := first | assumption | omega | exact st8_a (Nat.le_of_ble_eq_true rfl)) only [hk, h1, e2, h2, h3, eb_112_3, eb_112_4, eb_112_5, eb_112_6, eb_112_7, kl_a, kl_d, kl_f, kl_i, kl_l, kl_n, kl_r, xr_1, xr_10, xr_2, xr_27, xr_28, xr_3, xr_31, xr_34, xr_35, xr_36, xr_37, xr_38, xr_4, xr_41, xr_44, xr_48, xr_5, xr_55, xr_56, xr_57, xr_58, xr_61, xr_62, xr_64, xr_71, xr_75, xr_87, xr_91, xr_96, xr_98, af_0, af_1, xt_goto, xt_ib, xt_ic, xt_ic_ge, xt_if_eq, xt_ir, xt_nop, gF_37_0, gF_37_1, gF_37_2, gF_19_4, gF_19_6, gF_1_2, gA_2, gA_3, gA_4, gA_5, gA_6, gA_7, gA_8, gA_9, gA_10, gA_11, gA_13, gA_14, gA_16, gA_17, gA_20, gA_21, gA_22, gA_23, gA_24, gA_25, gA_26, gA_27, gA_30, gA_31, gA_32, gA_33, gA_34, gA_35, gA_36, gA_38, gA_39, gA_41, gA_42, gA_46, gA_47, gA_49, gA_50, gA_51, gA_53, gA_56, gA_57, gA_59, gA_60, xq_27_200_static, iN_add, iN_mul, iN_sub, iN_and, iN_or, iN_clr, iN_shl, iN_shr, tb_r1, b1_z, b1_or, b1_and, b1_or0, b1_or1, b1_0or, b1_t, b1_f, iN_lt, iN_inj, reduceIte, if_true, if_false, Nat.zero_add, Nat.add_zero, Bool.false_eq_true, Bool.true_eq_false, Nat.lt_irrefl, iN_az, not_true_eq_false, not_false_eq_true, Nat.reduceEqDiff, Nat.reduceLT, Nat.reduceAdd, Nat.reduceMul, Nat.reduceSub]
            · obtain ⟨r2, z⟩ := nz_tb.mp h3
              rw [clr_b, sh7_tb, Bool.and_eq_true, Bool.and_eq_true, decide_eq_true_eq] at z
              refine ⟨k, Nat.le_refl _, hk, h1, r2, z.1.1, z.1.2, fun _ w => ?_⟩
              have := z.2
              simp [w] at this
  obtain ⟨b, e3, q⟩ := key 0 (Nat.zero_le _) (.retAddr 9)
  refine ⟨b, ?_, by rw [q]; simp⟩
  clear q key
  simp (disch := first | assumption | omega | exact st8_a (Nat.le_of_ble_eq_true rfl)) only [s_27, e1, eb_112_0, eb_112_1, eb_112_3, eb_112_4, eb_112_5, eb_112_6, eb_112_7, eb_112_8, eb_112_9, kl_a, kl_d, kl_f, kl_i, kl_l, kl_n, kl_r, xr_1, xr_10, xr_2, xr_27, xr_28, xr_3, xr_31, xr_34, xr_35, xr_36, xr_37, xr_38, xr_4, xr_41, xr_44, xr_48, xr_5, xr_55, xr_56, xr_57, xr_58, xr_61, xr_62, xr_64, xr_71, xr_75, xr_87, xr_91, xr_96, xr_98, af_0, af_1, xt_goto, xt_ib, xt_ic, xt_ic_ge, xt_if_eq, xt_ir, xt_nop, gF_37_0, gF_37_1, gF_37_2, gF_19_4, gF_19_6, gF_1_2, gA_2, gA_3, gA_4, gA_5, gA_6, gA_7, gA_8, gA_9, gA_10, gA_11, gA_13, gA_14, gA_16, gA_17, gA_20, gA_21, gA_22, gA_23, gA_24, gA_25, gA_26, gA_27, gA_30, gA_31, gA_32, gA_33, gA_34, gA_35, gA_36, gA_38, gA_39, gA_41, gA_42, gA_46, gA_47, gA_49, gA_50, gA_51, gA_53, gA_56, gA_57, gA_59, gA_60, xq_27_200_static, iN_add, iN_mul, iN_sub, iN_and, iN_or, iN_clr, iN_shl, iN_shr, tb_r1, b1_z, b1_or, b1_and, b1_or0, b1_or1, b1_0or, b1_t, b1_f, iN_lt, iN_inj, reduceIte, if_true, if_false, Nat.zero_add, Nat.add_zero, Bool.false_eq_true, Bool.true_eq_false, Nat.lt_irrefl, iN_az, not_true_eq_false, not_false_eq_true, Nat.reduceEqDiff, Nat.reduceLT, Nat.reduceAdd, Nat.reduceMul, Nat.reduceSub]
  exact e3
set_option maxRecDepth 100000 in
theorem s_111 (O : Ok σ) (hl : l < (σ 1 6)) (hs : s < (σ 1 2)) (hr : r < (σ 1 5)) (h23 : ∀ o, o < (σ 1 6) → o ≠ l → M 23 (pi l s o) < 64) (hw : ∀ o, o < (σ 1 6) → M 38 o < 262144) (hc25 : ∀ l, l < (σ 1 6) → ∀ s, s < (σ 1 2) → M 25 (l * 6 + s) = cov σ l s) : ∃ b : Bool, ev xs (d + 2) 111 0 ([.ref 37, .int (nI l), .int (nI s), .int (nI r), .retAddr 9], [], hc σ M R) = some (.inl (some (.int (nI (b1 b)))), hc σ M R) ∧ (b = true ↔ ∃ o, o < (σ 1 6) ∧ o ≠ l ∧ ¬ ∃ i, i < (σ 1 2) ∧ fb (M 23) l s o i = true ∧ ∃ r2, r2 < 3 ∧ (M 38 o).testBit (i * 3 + r2) = true ∧ (cov σ l s &&& cov σ o i ≠ 0 → r2 ≠ r)) := by
  obtain ⟨hD1, hD2, hH1, hH2, hS, hC, hT, hR, hL, hQ⟩ := Ok_b O
  have key : ∀ k, k ≤ (σ 1 6) → ∃ b : Bool, ev xs (d + 2) 111 1 ([.ref 37, .int (nI l), .int (nI s), .int (nI r), .int (nI k)], [], hc σ M R) = some (.inl (some (.int (nI (b1 b)))), hc σ M R) ∧ (b = true ↔ ∃ o, k ≤ o ∧ o < (σ 1 6) ∧ o ≠ l ∧ ¬ ∃ i, i < (σ 1 2) ∧ fb (M 23) l s o i = true ∧ ∃ r2, r2 < 3 ∧ (M 38 o).testBit (i * 3 + r2) = true ∧ (cov σ l s &&& cov σ o i ≠ 0 → r2 ≠ r)) := by
    refine lp (σ 1 6) ?_ ?_
    · refine ⟨false, ?_, ⟨fun h => (by cases h), fun ⟨i, h1, h2, _⟩ => by omega⟩⟩
      rw [eb_111_1]
      simp (disch := first | assumption | omega | exact st8_a (Nat.le_of_ble_eq_true rfl)) only [eb_111_0, eb_111_2, eb_111_3, eb_111_4, eb_111_5, eb_111_6, eb_111_7, kl_a, kl_d, kl_f, kl_i, kl_l, kl_n, kl_r, xr_1, xr_10, xr_2, xr_27, xr_28, xr_3, xr_31, xr_33, xr_34, xr_37, xr_4, xr_40, xr_5, af_0, af_1, xt_goto, xt_ib, xt_ic, xt_ic_eq, xt_ic_ge, xt_if_ne, xt_ir, xt_nop, gF_37_0, gF_1_6, xq_112_10_virtualc, iN_add, iN_mul, iN_sub, iN_and, iN_or, iN_clr, iN_shl, iN_shr, tb_r1, b1_z, b1_or, b1_and, b1_or0, b1_or1, b1_0or, b1_t, b1_f, iN_lt, iN_inj, reduceIte, if_true, if_false, Nat.zero_add, Nat.add_zero, Bool.false_eq_true, Bool.true_eq_false, Nat.lt_irrefl, iN_az, not_true_eq_false, not_false_eq_true, Nat.reduceEqDiff, Nat.reduceLT, Nat.reduceAdd, Nat.reduceMul, Nat.reduceSub]
    · intro k hk ⟨b, e1, q⟩
      have sk : ¬ (k ≠ l ∧ ¬ ∃ i, i < (σ 1 2) ∧ fb (M 23) l s k i = true ∧ ∃ r2, r2 < 3 ∧ (M 38 k).testBit (i * 3 + r2) = true ∧ (cov σ l s &&& cov σ k i ≠ 0 → r2 ≠ r)) → (b = true ↔ ∃ o, k ≤ o ∧ o < (σ 1 6) ∧ o ≠ l ∧ ¬ ∃ i, i < (σ 1 2) ∧ fb (M 23) l s o i = true ∧ ∃ r2, r2 < 3 ∧ (M 38 o).testBit (i * 3 + r2) = true ∧ (cov σ l s &&& cov σ o i ≠ 0 → r2 ≠ r)) := by
        intro hn
        rw [q]
        constructor
        · rintro ⟨o, h1, h2⟩
          exact ⟨o, by omega, h2⟩
        · rintro ⟨o, h1, h2, h3⟩
          by_cases h : o = k
          · subst h; exact absurd h3 hn
          · exact ⟨o, by omega, h2, h3⟩
      rw [eb_111_1]
      by_cases h1 : k = l
      · refine ⟨b, ?_, sk fun z => z.1 h1⟩
        clear q sk
        simp (disch := first | assumption | omega | exact st8_a (Nat.le_of_ble_eq_true rfl)) only [hk, eq_true h1, eb_111_0, eb_111_2, eb_111_3, eb_111_4, eb_111_5, eb_111_6, eb_111_7, kl_a, kl_d, kl_f, kl_i, kl_l, kl_n, kl_r, xr_1, xr_10, xr_2, xr_27, xr_28, xr_3, xr_31, xr_33, xr_34, xr_37, xr_4, xr_40, xr_5, af_0, af_1, xt_goto, xt_ib, xt_ic, xt_ic_eq, xt_ic_ge, xt_if_ne, xt_ir, xt_nop, gF_37_0, gF_1_6, xq_112_10_virtualc, iN_add, iN_mul, iN_sub, iN_and, iN_or, iN_clr, iN_shl, iN_shr, tb_r1, b1_z, b1_or, b1_and, b1_or0, b1_or1, b1_0or, b1_t, b1_f, iN_lt, iN_inj, reduceIte, if_true, if_false, Nat.zero_add, Nat.add_zero, Bool.false_eq_true, Bool.true_eq_false, Nat.lt_irrefl, iN_az, not_true_eq_false, not_false_eq_true, Nat.reduceEqDiff, Nat.reduceLT, Nat.reduceAdd, Nat.reduceMul, Nat.reduceSub]
        exact e1
      · obtain ⟨b2, e2, q2⟩ := s_112 (xs := xs) (d := d) (R := R) O hl hs hr hk (h23 k hk h1) (hw k hk) hc25
        cases b2
        · refine ⟨true, ?_, ⟨fun _ => ⟨k, Nat.le_refl _, hk, h1, fun z => by have := q2.mpr z; cases this⟩, fun _ => rfl⟩⟩
          clear q sk q2
          simp (disch := first | assumption | omega | exact st8_a (Nat.le_of_ble_eq_true rfl)) only [hk, h1, e2, eb_111_0, eb_111_2, eb_111_3, eb_111_4, eb_111_5, eb_111_6, eb_111_7, kl_a, kl_d, kl_f, kl_i, kl_l, kl_n, kl_r, xr_1, xr_10, xr_2, xr_27, xr_28, xr_3, xr_31, xr_33, xr_34, xr_37, xr_4, xr_40, xr_5, af_0, af_1, xt_goto, xt_ib, xt_ic, xt_ic_eq, xt_ic_ge, xt_if_ne, xt_ir, xt_nop, gF_37_0, gF_1_6, xq_112_10_virtualc, iN_add, iN_mul, iN_sub, iN_and, iN_or, iN_clr, iN_shl, iN_shr, tb_r1, b1_z, b1_or, b1_and, b1_or0, b1_or1, b1_0or, b1_t, b1_f, iN_lt, iN_inj, reduceIte, if_true, if_false, Nat.zero_add, Nat.add_zero, Bool.false_eq_true, Bool.true_eq_false, Nat.lt_irrefl, iN_az, not_true_eq_false, not_false_eq_true, Nat.reduceEqDiff, Nat.reduceLT, Nat.reduceAdd, Nat.reduceMul, Nat.reduceSub]
        · refine ⟨b, ?_, sk fun z => z.2 (q2.mp rfl)⟩
          clear q sk q2
          simp (disch := first | assumption | omega | exact st8_a (Nat.le_of_ble_eq_true rfl)) only [hk, h1, e2, eb_111_0, eb_111_2, eb_111_3, eb_111_4, eb_111_5, eb_111_6, eb_111_7, kl_a, kl_d, kl_f, kl_i, kl_l, kl_n, kl_r, xr_1, xr_10, xr_2, xr_27, xr_28, xr_3, xr_31, xr_33, xr_34, xr_37, xr_4, xr_40, xr_5, af_0, af_1, xt_goto, xt_ib, xt_ic, xt_ic_eq, xt_ic_ge, xt_if_ne, xt_ir, xt_nop, gF_37_0, gF_1_6, xq_112_10_virtualc, iN_add, iN_mul, iN_sub, iN_and, iN_or, iN_clr, iN_shl, iN_shr, tb_r1, b1_z, b1_or, b1_and, b1_or0, b1_or1, b1_0or, b1_t, b1_f, iN_lt, iN_inj, reduceIte, if_true, if_false, Nat.zero_add, Nat.add_zero, Bool.false_eq_true, Bool.true_eq_false, Nat.lt_irrefl, iN_az, not_true_eq_false, not_false_eq_true, Nat.reduceEqDiff, Nat.reduceLT, Nat.reduceAdd, Nat.reduceMul, Nat.reduceSub]
          exact e1
  obtain ⟨b, e3, q⟩ := key 0 (Nat.zero_le _)
  refine ⟨b, ?_, by rw [q]; simp⟩
  clear q key
  simp (disch := first | assumption | omega | exact st8_a (Nat.le_of_ble_eq_true rfl)) only [eb_111_0, eb_111_2, eb_111_3, eb_111_4, eb_111_5, eb_111_6, eb_111_7, kl_a, kl_d, kl_f, kl_i, kl_l, kl_n, kl_r, xr_1, xr_10, xr_2, xr_27, xr_28, xr_3, xr_31, xr_33, xr_34, xr_37, xr_4, xr_40, xr_5, af_0, af_1, xt_goto, xt_ib, xt_ic, xt_ic_eq, xt_ic_ge, xt_if_ne, xt_ir, xt_nop, gF_37_0, gF_1_6, xq_112_10_virtualc, iN_add, iN_mul, iN_sub, iN_and, iN_or, iN_clr, iN_shl, iN_shr, tb_r1, b1_z, b1_or, b1_and, b1_or0, b1_or1, b1_0or, b1_t, b1_f, iN_lt, iN_inj, reduceIte, if_true, if_false, Nat.zero_add, Nat.add_zero, Bool.false_eq_true, Bool.true_eq_false, Nat.lt_irrefl, iN_az, not_true_eq_false, not_false_eq_true, Nat.reduceEqDiff, Nat.reduceLT, Nat.reduceAdd, Nat.reduceMul, Nat.reduceSub]
  exact e3
set_option maxRecDepth 100000 in
theorem s_114 (O : Ok σ) {p : Nat} (hp : p = 5 ∨ p = 6) (hu : u < 2147483648) : ev xs d 114 0 ([.ref 37, .ref p, .int (nI u), .retAddr 9, .retAddr 9], [], hc σ M R) = some (.inl (some (.int (nI (en (σ 1 6) fun l => decide (σ p l = u))))), hc σ M R) := by
  obtain ⟨hD1, hD2, hH1, hH2, hS, hC, hT, hR, hL, hQ⟩ := Ok_b O
  have key : ∀ k, k ≤ (σ 1 6) → ev xs d 114 1 ([.ref 37, .ref p, .int (nI u), .int (nI (en k fun l => decide (σ p l = u))), .int (nI k)], [], hc σ M R) = some (.inl (some (.int (nI (en (σ 1 6) fun l => decide (σ p l = u))))), hc σ M R) := by
    refine lp (σ 1 6) ?_ ?_
    · rw [eb_114_1]
      simp (disch := first | assumption | omega | exact st8_a (Nat.le_of_ble_eq_true rfl)) only [eb_114_0, eb_114_2, eb_114_3, eb_114_4, eb_114_5, kl_a, kl_d, kl_f, kl_i, kl_l, kl_n, kl_r, xr_1, xr_10, xr_11, xr_12, xr_13, xr_14, xr_15, xr_2, xr_27, xr_3, xr_31, xr_32, xr_33, xr_34, xr_37, xr_4, xr_40, xr_45, xr_5, xr_58, xt_goto, xt_ib, xt_ic, xt_ic_ge, xt_ic_ne, xt_ir, xt_nop, gF_37_0, gF_1_6, gA_2, gA_3, gA_4, gA_5, gA_6, gA_7, gA_8, gA_9, gA_10, gA_11, gA_13, gA_14, gA_16, gA_17, gA_20, gA_21, gA_22, gA_23, gA_24, gA_25, gA_26, gA_27, gA_30, gA_31, gA_32, gA_33, gA_34, gA_35, gA_36, gA_38, gA_39, gA_41, gA_42, gA_46, gA_47, gA_49, gA_50, gA_51, gA_53, gA_56, gA_57, gA_59, gA_60, iN_add, iN_mul, iN_sub, iN_and, iN_or, iN_clr, iN_shl, iN_shr, tb_r1, b1_z, b1_or, b1_and, b1_or0, b1_or1, b1_0or, b1_t, b1_f, iN_lt, iN_inj, reduceIte, if_true, if_false, Nat.zero_add, Nat.add_zero, Bool.false_eq_true, Bool.true_eq_false, Nat.lt_irrefl, iN_az, not_true_eq_false, not_false_eq_true, Nat.reduceEqDiff, Nat.reduceLT, Nat.reduceAdd, Nat.reduceMul, Nat.reduceSub]
    · intro k hk ih
      have kl := Ok_l O hk
      rw [eb_114_1]
      rw [en_st] at ih
      rcases hp with rfl | rfl
      · by_cases h : σ 5 k = u
        · rw [if_pos (decide_eq_true h)] at ih
          simp (disch := first | assumption | omega | exact st8_a (Nat.le_of_ble_eq_true rfl)) only [hk, eq_true h, eb_114_0, eb_114_2, eb_114_3, eb_114_4, eb_114_5, kl_a, kl_d, kl_f, kl_i, kl_l, kl_n, kl_r, xr_1, xr_10, xr_11, xr_12, xr_13, xr_14, xr_15, xr_2, xr_27, xr_3, xr_31, xr_32, xr_33, xr_34, xr_37, xr_4, xr_40, xr_45, xr_5, xr_58, xt_goto, xt_ib, xt_ic, xt_ic_ge, xt_ic_ne, xt_ir, xt_nop, gF_37_0, gF_1_6, gA_2, gA_3, gA_4, gA_5, gA_6, gA_7, gA_8, gA_9, gA_10, gA_11, gA_13, gA_14, gA_16, gA_17, gA_20, gA_21, gA_22, gA_23, gA_24, gA_25, gA_26, gA_27, gA_30, gA_31, gA_32, gA_33, gA_34, gA_35, gA_36, gA_38, gA_39, gA_41, gA_42, gA_46, gA_47, gA_49, gA_50, gA_51, gA_53, gA_56, gA_57, gA_59, gA_60, iN_add, iN_mul, iN_sub, iN_and, iN_or, iN_clr, iN_shl, iN_shr, tb_r1, b1_z, b1_or, b1_and, b1_or0, b1_or1, b1_0or, b1_t, b1_f, iN_lt, iN_inj, reduceIte, if_true, if_false, Nat.zero_add, Nat.add_zero, Bool.false_eq_true, Bool.true_eq_false, Nat.lt_irrefl, iN_az, not_true_eq_false, not_false_eq_true, Nat.reduceEqDiff, Nat.reduceLT, Nat.reduceAdd, Nat.reduceMul, Nat.reduceSub]
          exact ih
        · rw [if_neg (by simp [h])] at ih
          simp (disch := first | assumption | omega | exact st8_a (Nat.le_of_ble_eq_true rfl)) only [hk, h, eb_114_0, eb_114_2, eb_114_3, eb_114_4, eb_114_5, kl_a, kl_d, kl_f, kl_i, kl_l, kl_n, kl_r, xr_1, xr_10, xr_11, xr_12, xr_13, xr_14, xr_15, xr_2, xr_27, xr_3, xr_31, xr_32, xr_33, xr_34, xr_37, xr_4, xr_40, xr_45, xr_5, xr_58, xt_goto, xt_ib, xt_ic, xt_ic_ge, xt_ic_ne, xt_ir, xt_nop, gF_37_0, gF_1_6, gA_2, gA_3, gA_4, gA_5, gA_6, gA_7, gA_8, gA_9, gA_10, gA_11, gA_13, gA_14, gA_16, gA_17, gA_20, gA_21, gA_22, gA_23, gA_24, gA_25, gA_26, gA_27, gA_30, gA_31, gA_32, gA_33, gA_34, gA_35, gA_36, gA_38, gA_39, gA_41, gA_42, gA_46, gA_47, gA_49, gA_50, gA_51, gA_53, gA_56, gA_57, gA_59, gA_60, iN_add, iN_mul, iN_sub, iN_and, iN_or, iN_clr, iN_shl, iN_shr, tb_r1, b1_z, b1_or, b1_and, b1_or0, b1_or1, b1_0or, b1_t, b1_f, iN_lt, iN_inj, reduceIte, if_true, if_false, Nat.zero_add, Nat.add_zero, Bool.false_eq_true, Bool.true_eq_false, Nat.lt_irrefl, iN_az, not_true_eq_false, not_false_eq_true, Nat.reduceEqDiff, Nat.reduceLT, Nat.reduceAdd, Nat.reduceMul, Nat.reduceSub]
          exact ih
      · by_cases h : σ 6 k = u
        · rw [if_pos (decide_eq_true h)] at ih
          simp (disch := first | assumption | omega | exact st8_a (Nat.le_of_ble_eq_true rfl)) only [hk, eq_true h, eb_114_0, eb_114_2, eb_114_3, eb_114_4, eb_114_5, kl_a, kl_d, kl_f, kl_i, kl_l, kl_n, kl_r, xr_1, xr_10, xr_11, xr_12, xr_13, xr_14, xr_15, xr_2, xr_27, xr_3, xr_31, xr_32, xr_33, xr_34, xr_37, xr_4, xr_40, xr_45, xr_5, xr_58, xt_goto, xt_ib, xt_ic, xt_ic_ge, xt_ic_ne, xt_ir, xt_nop, gF_37_0, gF_1_6, gA_2, gA_3, gA_4, gA_5, gA_6, gA_7, gA_8, gA_9, gA_10, gA_11, gA_13, gA_14, gA_16, gA_17, gA_20, gA_21, gA_22, gA_23, gA_24, gA_25, gA_26, gA_27, gA_30, gA_31, gA_32, gA_33, gA_34, gA_35, gA_36, gA_38, gA_39, gA_41, gA_42, gA_46, gA_47, gA_49, gA_50, gA_51, gA_53, gA_56, gA_57, gA_59, gA_60, iN_add, iN_mul, iN_sub, iN_and, iN_or, iN_clr, iN_shl, iN_shr, tb_r1, b1_z, b1_or, b1_and, b1_or0, b1_or1, b1_0or, b1_t, b1_f, iN_lt, iN_inj, reduceIte, if_true, if_false, Nat.zero_add, Nat.add_zero, Bool.false_eq_true, Bool.true_eq_false, Nat.lt_irrefl, iN_az, not_true_eq_false, not_false_eq_true, Nat.reduceEqDiff, Nat.reduceLT, Nat.reduceAdd, Nat.reduceMul, Nat.reduceSub]
          exact ih
        · rw [if_neg (by simp [h])] at ih
          simp (disch := first | assumption | omega | exact st8_a (Nat.le_of_ble_eq_true rfl)) only [hk, h, eb_114_0, eb_114_2, eb_114_3, eb_114_4, eb_114_5, kl_a, kl_d, kl_f, kl_i, kl_l, kl_n, kl_r, xr_1, xr_10, xr_11, xr_12, xr_13, xr_14, xr_15, xr_2, xr_27, xr_3, xr_31, xr_32, xr_33, xr_34, xr_37, xr_4, xr_40, xr_45, xr_5, xr_58, xt_goto, xt_ib, xt_ic, xt_ic_ge, xt_ic_ne, xt_ir, xt_nop, gF_37_0, gF_1_6, gA_2, gA_3, gA_4, gA_5, gA_6, gA_7, gA_8, gA_9, gA_10, gA_11, gA_13, gA_14, gA_16, gA_17, gA_20, gA_21, gA_22, gA_23, gA_24, gA_25, gA_26, gA_27, gA_30, gA_31, gA_32, gA_33, gA_34, gA_35, gA_36, gA_38, gA_39, gA_41, gA_42, gA_46, gA_47, gA_49, gA_50, gA_51, gA_53, gA_56, gA_57, gA_59, gA_60, iN_add, iN_mul, iN_sub, iN_and, iN_or, iN_clr, iN_shl, iN_shr, tb_r1, b1_z, b1_or, b1_and, b1_or0, b1_or1, b1_0or, b1_t, b1_f, iN_lt, iN_inj, reduceIte, if_true, if_false, Nat.zero_add, Nat.add_zero, Bool.false_eq_true, Bool.true_eq_false, Nat.lt_irrefl, iN_az, not_true_eq_false, not_false_eq_true, Nat.reduceEqDiff, Nat.reduceLT, Nat.reduceAdd, Nat.reduceMul, Nat.reduceSub]
          exact ih
  simp (disch := first | assumption | omega | exact st8_a (Nat.le_of_ble_eq_true rfl)) only [eb_114_0, eb_114_2, eb_114_3, eb_114_4, eb_114_5, kl_a, kl_d, kl_f, kl_i, kl_l, kl_n, kl_r, xr_1, xr_10, xr_11, xr_12, xr_13, xr_14, xr_15, xr_2, xr_27, xr_3, xr_31, xr_32, xr_33, xr_34, xr_37, xr_4, xr_40, xr_45, xr_5, xr_58, xt_goto, xt_ib, xt_ic, xt_ic_ge, xt_ic_ne, xt_ir, xt_nop, gF_37_0, gF_1_6, gA_2, gA_3, gA_4, gA_5, gA_6, gA_7, gA_8, gA_9, gA_10, gA_11, gA_13, gA_14, gA_16, gA_17, gA_20, gA_21, gA_22, gA_23, gA_24, gA_25, gA_26, gA_27, gA_30, gA_31, gA_32, gA_33, gA_34, gA_35, gA_36, gA_38, gA_39, gA_41, gA_42, gA_46, gA_47, gA_49, gA_50, gA_51, gA_53, gA_56, gA_57, gA_59, gA_60, iN_add, iN_mul, iN_sub, iN_and, iN_or, iN_clr, iN_shl, iN_shr, tb_r1, b1_z, b1_or, b1_and, b1_or0, b1_or1, b1_0or, b1_t, b1_f, iN_lt, iN_inj, reduceIte, if_true, if_false, Nat.zero_add, Nat.add_zero, Bool.false_eq_true, Bool.true_eq_false, Nat.lt_irrefl, iN_az, not_true_eq_false, not_false_eq_true, Nat.reduceEqDiff, Nat.reduceLT, Nat.reduceAdd, Nat.reduceMul, Nat.reduceSub]
  exact key 0 (Nat.zero_le _)
set_option maxRecDepth 100000 in
theorem s_116 (O : Ok σ) (hl : l < (σ 1 6)) (hw : M 38 l < 262144) (hc25 : ∀ s, s < (σ 1 2) → M 25 (l * 6 + s) = cov σ l s) : ev xs d 116 0 ([.ref 37, .int (nI l), .retAddr 9, .retAddr 9], [], hc σ M R) = some (.inl (some (.int (nI (cl σ (M 38) l)))), hc σ M R) := by
  obtain ⟨hD1, hD2, hH1, hH2, hS, hC, hT, hR, hL, hQ⟩ := Ok_b O
  have key : ∀ k, k ≤ (σ 1 2) → ev xs d 116 1 ([.ref 37, .int (nI l), .int (nI (orn k fun s => if (M 38 l >>> (s * 3)) &&& 7 = 0 then 0 else cov σ l s)), .int (nI k)], [], hc σ M R) = some (.inl (some (.int (nI (cl σ (M 38) l)))), hc σ M R) := by
    refine lp (σ 1 2) ?_ ?_
    · rw [eb_116_1]
      simp (disch := first | assumption | omega | exact st8_a (Nat.le_of_ble_eq_true rfl)) only [eb_116_0, eb_116_2, eb_116_3, eb_116_4, eb_116_5, kl_a, kl_d, kl_f, kl_i, kl_l, kl_n, kl_r, xr_1, xr_10, xr_2, xr_28, xr_3, xr_30, xr_31, xr_32, xr_37, xr_38, xr_4, xr_41, xr_43, xr_44, xr_45, xr_48, xr_5, xr_55, xr_71, xr_87, xt_goto, xt_ib, xt_ic, xt_ic_ge, xt_if_eq, xt_ir, xt_nop, gF_37_0, gF_37_1, gF_37_2, gF_19_6, gF_1_2, gA_2, gA_3, gA_4, gA_5, gA_6, gA_7, gA_8, gA_9, gA_10, gA_11, gA_13, gA_14, gA_16, gA_17, gA_20, gA_21, gA_22, gA_23, gA_24, gA_25, gA_26, gA_27, gA_30, gA_31, gA_32, gA_33, gA_34, gA_35, gA_36, gA_38, gA_39, gA_41, gA_42, gA_46, gA_47, gA_49, gA_50, gA_51, gA_53, gA_56, gA_57, gA_59, gA_60, iN_add, iN_mul, iN_sub, iN_and, iN_or, iN_clr, iN_shl, iN_shr, tb_r1, b1_z, b1_or, b1_and, b1_or0, b1_or1, b1_0or, b1_t, b1_f, iN_lt, iN_inj, reduceIte, if_true, if_false, Nat.zero_add, Nat.add_zero, Bool.false_eq_true, Bool.true_eq_false, Nat.lt_irrefl, iN_az, not_true_eq_false, not_false_eq_true, Nat.reduceEqDiff, Nat.reduceLT, Nat.reduceAdd, Nat.reduceMul, Nat.reduceSub]
      rfl
    · intro k hk ih
      have e1 := hc25 k hk
      have h7 : M 38 l >>> (k * 3) &&& 7 < 8 := Nat.lt_of_le_of_lt Nat.and_le_right (by decide)
      rw [eb_116_1]
      rw [orn] at ih
      by_cases h : M 38 l >>> (k * 3) &&& 7 = 0
      · rw [if_pos h, Nat.or_zero] at ih
        simp (disch := first | assumption | omega | exact st8_a (Nat.le_of_ble_eq_true rfl)) only [hk, h, eb_116_0, eb_116_2, eb_116_3, eb_116_4, eb_116_5, kl_a, kl_d, kl_f, kl_i, kl_l, kl_n, kl_r, xr_1, xr_10, xr_2, xr_28, xr_3, xr_30, xr_31, xr_32, xr_37, xr_38, xr_4, xr_41, xr_43, xr_44, xr_45, xr_48, xr_5, xr_55, xr_71, xr_87, xt_goto, xt_ib, xt_ic, xt_ic_ge, xt_if_eq, xt_ir, xt_nop, gF_37_0, gF_37_1, gF_37_2, gF_19_6, gF_1_2, gA_2, gA_3, gA_4, gA_5, gA_6, gA_7, gA_8, gA_9, gA_10, gA_11, gA_13, gA_14, gA_16, gA_17, gA_20, gA_21, gA_22, gA_23, gA_24, gA_25, gA_26, gA_27, gA_30, gA_31, gA_32, gA_33, gA_34, gA_35, gA_36, gA_38, gA_39, gA_41, gA_42, gA_46, gA_47, gA_49, gA_50, gA_51, gA_53, gA_56, gA_57, gA_59, gA_60, iN_add, iN_mul, iN_sub, iN_and, iN_or, iN_clr, iN_shl, iN_shr, tb_r1, b1_z, b1_or, b1_and, b1_or0, b1_or1, b1_0or, b1_t, b1_f, iN_lt, iN_inj, reduceIte, if_true, if_false, Nat.zero_add, Nat.add_zero, Bool.false_eq_true, Bool.true_eq_false, Nat.lt_irrefl, iN_az, not_true_eq_false, not_false_eq_true, Nat.reduceEqDiff, Nat.reduceLT, Nat.reduceAdd, Nat.reduceMul, Nat.reduceSub]
        exact ih
      · rw [if_neg h] at ih
        simp (disch := first | assumption | omega | exact st8_a (Nat.le_of_ble_eq_true rfl)) only [hk, h, e1, eb_116_0, eb_116_2, eb_116_3, eb_116_4, eb_116_5, kl_a, kl_d, kl_f, kl_i, kl_l, kl_n, kl_r, xr_1, xr_10, xr_2, xr_28, xr_3, xr_30, xr_31, xr_32, xr_37, xr_38, xr_4, xr_41, xr_43, xr_44, xr_45, xr_48, xr_5, xr_55, xr_71, xr_87, xt_goto, xt_ib, xt_ic, xt_ic_ge, xt_if_eq, xt_ir, xt_nop, gF_37_0, gF_37_1, gF_37_2, gF_19_6, gF_1_2, gA_2, gA_3, gA_4, gA_5, gA_6, gA_7, gA_8, gA_9, gA_10, gA_11, gA_13, gA_14, gA_16, gA_17, gA_20, gA_21, gA_22, gA_23, gA_24, gA_25, gA_26, gA_27, gA_30, gA_31, gA_32, gA_33, gA_34, gA_35, gA_36, gA_38, gA_39, gA_41, gA_42, gA_46, gA_47, gA_49, gA_50, gA_51, gA_53, gA_56, gA_57, gA_59, gA_60, iN_add, iN_mul, iN_sub, iN_and, iN_or, iN_clr, iN_shl, iN_shr, tb_r1, b1_z, b1_or, b1_and, b1_or0, b1_or1, b1_0or, b1_t, b1_f, iN_lt, iN_inj, reduceIte, if_true, if_false, Nat.zero_add, Nat.add_zero, Bool.false_eq_true, Bool.true_eq_false, Nat.lt_irrefl, iN_az, not_true_eq_false, not_false_eq_true, Nat.reduceEqDiff, Nat.reduceLT, Nat.reduceAdd, Nat.reduceMul, Nat.reduceSub]
        exact ih
  simp (disch := first | assumption | omega | exact st8_a (Nat.le_of_ble_eq_true rfl)) only [eb_116_0, eb_116_2, eb_116_3, eb_116_4, eb_116_5, kl_a, kl_d, kl_f, kl_i, kl_l, kl_n, kl_r, xr_1, xr_10, xr_2, xr_28, xr_3, xr_30, xr_31, xr_32, xr_37, xr_38, xr_4, xr_41, xr_43, xr_44, xr_45, xr_48, xr_5, xr_55, xr_71, xr_87, xt_goto, xt_ib, xt_ic, xt_ic_ge, xt_if_eq, xt_ir, xt_nop, gF_37_0, gF_37_1, gF_37_2, gF_19_6, gF_1_2, gA_2, gA_3, gA_4, gA_5, gA_6, gA_7, gA_8, gA_9, gA_10, gA_11, gA_13, gA_14, gA_16, gA_17, gA_20, gA_21, gA_22, gA_23, gA_24, gA_25, gA_26, gA_27, gA_30, gA_31, gA_32, gA_33, gA_34, gA_35, gA_36, gA_38, gA_39, gA_41, gA_42, gA_46, gA_47, gA_49, gA_50, gA_51, gA_53, gA_56, gA_57, gA_59, gA_60, iN_add, iN_mul, iN_sub, iN_and, iN_or, iN_clr, iN_shl, iN_shr, tb_r1, b1_z, b1_or, b1_and, b1_or0, b1_or1, b1_0or, b1_t, b1_f, iN_lt, iN_inj, reduceIte, if_true, if_false, Nat.zero_add, Nat.add_zero, Bool.false_eq_true, Bool.true_eq_false, Nat.lt_irrefl, iN_az, not_true_eq_false, not_false_eq_true, Nat.reduceEqDiff, Nat.reduceLT, Nat.reduceAdd, Nat.reduceMul, Nat.reduceSub]
  exact key 0 (Nat.zero_le _)
set_option maxRecDepth 100000 in
theorem s_117 (O : Ok σ) (hu : u < 64) : ev xs d 117 0 ([.ref 37, .int (nI u), .retAddr 9, .retAddr 9], [], hc σ M R) = some (.inl (some (.int (nI (cst σ (M 39) u)))), hc σ M R) := by
  obtain ⟨hD1, hD2, hH1, hH2, hS, hC, hT, hR, hL, hQ⟩ := Ok_b O
  have key : ∀ k, k ≤ (σ 1 6) → ev xs d 117 1 ([.ref 37, .int (nI u), .int (nI (orn k fun l => if u.testBit l = true then M 39 l else 0)), .int (nI k)], [], hc σ M R) = some (.inl (some (.int (nI (cst σ (M 39) u)))), hc σ M R) := by
    refine lp (σ 1 6) ?_ ?_
    · rw [eb_117_1]
      simp (disch := first | assumption | omega | exact st8_a (Nat.le_of_ble_eq_true rfl)) only [eb_117_0, eb_117_2, eb_117_3, eb_117_4, eb_117_5, kl_a, kl_d, kl_f, kl_i, kl_l, kl_n, kl_r, xr_1, xr_10, xr_2, xr_27, xr_28, xr_3, xr_30, xr_31, xr_32, xr_37, xr_4, xr_43, xr_44, xr_45, xr_5, xr_55, xt_goto, xt_ib, xt_ic, xt_ic_ge, xt_if_eq, xt_ir, xt_nop, gF_37_0, gF_37_3, gF_1_6, gA_2, gA_3, gA_4, gA_5, gA_6, gA_7, gA_8, gA_9, gA_10, gA_11, gA_13, gA_14, gA_16, gA_17, gA_20, gA_21, gA_22, gA_23, gA_24, gA_25, gA_26, gA_27, gA_30, gA_31, gA_32, gA_33, gA_34, gA_35, gA_36, gA_38, gA_39, gA_41, gA_42, gA_46, gA_47, gA_49, gA_50, gA_51, gA_53, gA_56, gA_57, gA_59, gA_60, iN_add, iN_mul, iN_sub, iN_and, iN_or, iN_clr, iN_shl, iN_shr, tb_r1, b1_z, b1_or, b1_and, b1_or0, b1_or1, b1_0or, b1_t, b1_f, iN_lt, iN_inj, reduceIte, if_true, if_false, Nat.zero_add, Nat.add_zero, Bool.false_eq_true, Bool.true_eq_false, Nat.lt_irrefl, iN_az, not_true_eq_false, not_false_eq_true, Nat.reduceEqDiff, Nat.reduceLT, Nat.reduceAdd, Nat.reduceMul, Nat.reduceSub]
      rfl
    · intro k hk ih
      rw [eb_117_1]
      rw [orn] at ih
      cases h : u.testBit k
      · rw [h] at ih
        simp only [Bool.false_eq_true, if_false, Nat.or_zero] at ih
        simp (disch := first | assumption | omega | exact st8_a (Nat.le_of_ble_eq_true rfl)) only [hk, h, eb_117_0, eb_117_2, eb_117_3, eb_117_4, eb_117_5, kl_a, kl_d, kl_f, kl_i, kl_l, kl_n, kl_r, xr_1, xr_10, xr_2, xr_27, xr_28, xr_3, xr_30, xr_31, xr_32, xr_37, xr_4, xr_43, xr_44, xr_45, xr_5, xr_55, xt_goto, xt_ib, xt_ic, xt_ic_ge, xt_if_eq, xt_ir, xt_nop, gF_37_0, gF_37_3, gF_1_6, gA_2, gA_3, gA_4, gA_5, gA_6, gA_7, gA_8, gA_9, gA_10, gA_11, gA_13, gA_14, gA_16, gA_17, gA_20, gA_21, gA_22, gA_23, gA_24, gA_25, gA_26, gA_27, gA_30, gA_31, gA_32, gA_33, gA_34, gA_35, gA_36, gA_38, gA_39, gA_41, gA_42, gA_46, gA_47, gA_49, gA_50, gA_51, gA_53, gA_56, gA_57, gA_59, gA_60, iN_add, iN_mul, iN_sub, iN_and, iN_or, iN_clr, iN_shl, iN_shr, tb_r1, b1_z, b1_or, b1_and, b1_or0, b1_or1, b1_0or, b1_t, b1_f, iN_lt, iN_inj, reduceIte, if_true, if_false, Nat.zero_add, Nat.add_zero, Bool.false_eq_true, Bool.true_eq_false, Nat.lt_irrefl, iN_az, not_true_eq_false, not_false_eq_true, Nat.reduceEqDiff, Nat.reduceLT, Nat.reduceAdd, Nat.reduceMul, Nat.reduceSub]
        exact ih
      · rw [h, if_pos rfl] at ih
        simp (disch := first | assumption | omega | exact st8_a (Nat.le_of_ble_eq_true rfl)) only [hk, h, eb_117_0, eb_117_2, eb_117_3, eb_117_4, eb_117_5, kl_a, kl_d, kl_f, kl_i, kl_l, kl_n, kl_r, xr_1, xr_10, xr_2, xr_27, xr_28, xr_3, xr_30, xr_31, xr_32, xr_37, xr_4, xr_43, xr_44, xr_45, xr_5, xr_55, xt_goto, xt_ib, xt_ic, xt_ic_ge, xt_if_eq, xt_ir, xt_nop, gF_37_0, gF_37_3, gF_1_6, gA_2, gA_3, gA_4, gA_5, gA_6, gA_7, gA_8, gA_9, gA_10, gA_11, gA_13, gA_14, gA_16, gA_17, gA_20, gA_21, gA_22, gA_23, gA_24, gA_25, gA_26, gA_27, gA_30, gA_31, gA_32, gA_33, gA_34, gA_35, gA_36, gA_38, gA_39, gA_41, gA_42, gA_46, gA_47, gA_49, gA_50, gA_51, gA_53, gA_56, gA_57, gA_59, gA_60, iN_add, iN_mul, iN_sub, iN_and, iN_or, iN_clr, iN_shl, iN_shr, tb_r1, b1_z, b1_or, b1_and, b1_or0, b1_or1, b1_0or, b1_t, b1_f, iN_lt, iN_inj, reduceIte, if_true, if_false, Nat.zero_add, Nat.add_zero, Bool.false_eq_true, Bool.true_eq_false, Nat.lt_irrefl, iN_az, not_true_eq_false, not_false_eq_true, Nat.reduceEqDiff, Nat.reduceLT, Nat.reduceAdd, Nat.reduceMul, Nat.reduceSub]
        exact ih
  simp (disch := first | assumption | omega | exact st8_a (Nat.le_of_ble_eq_true rfl)) only [eb_117_0, eb_117_2, eb_117_3, eb_117_4, eb_117_5, kl_a, kl_d, kl_f, kl_i, kl_l, kl_n, kl_r, xr_1, xr_10, xr_2, xr_27, xr_28, xr_3, xr_30, xr_31, xr_32, xr_37, xr_4, xr_43, xr_44, xr_45, xr_5, xr_55, xt_goto, xt_ib, xt_ic, xt_ic_ge, xt_if_eq, xt_ir, xt_nop, gF_37_0, gF_37_3, gF_1_6, gA_2, gA_3, gA_4, gA_5, gA_6, gA_7, gA_8, gA_9, gA_10, gA_11, gA_13, gA_14, gA_16, gA_17, gA_20, gA_21, gA_22, gA_23, gA_24, gA_25, gA_26, gA_27, gA_30, gA_31, gA_32, gA_33, gA_34, gA_35, gA_36, gA_38, gA_39, gA_41, gA_42, gA_46, gA_47, gA_49, gA_50, gA_51, gA_53, gA_56, gA_57, gA_59, gA_60, iN_add, iN_mul, iN_sub, iN_and, iN_or, iN_clr, iN_shl, iN_shr, tb_r1, b1_z, b1_or, b1_and, b1_or0, b1_or1, b1_0or, b1_t, b1_f, iN_lt, iN_inj, reduceIte, if_true, if_false, Nat.zero_add, Nat.add_zero, Bool.false_eq_true, Bool.true_eq_false, Nat.lt_irrefl, iN_az, not_true_eq_false, not_false_eq_true, Nat.reduceEqDiff, Nat.reduceLT, Nat.reduceAdd, Nat.reduceMul, Nat.reduceSub]
  exact key 0 (Nat.zero_le _)
set_option maxRecDepth 100000 in
theorem s_118 (O : Ok σ) (hu : u < 64) : ev xs d 118 0 ([.ref 37, .int (nI u), .retAddr 9, .retAddr 9], [], hc σ M R) = some (.inl (some (.int (nI (lns σ u)))), hc σ M R) := by
  obtain ⟨hD1, hD2, hH1, hH2, hS, hC, hT, hR, hL, hQ⟩ := Ok_b O
  have key : ∀ k, k ≤ (σ 1 6) → ev xs d 118 1 ([.ref 37, .int (nI u), .int (nI (sm k fun l => if u.testBit l = true then σ 7 l else 0)), .int (nI k)], [], hc σ M R) = some (.inl (some (.int (nI (lns σ u)))), hc σ M R) := by
    refine lp (σ 1 6) ?_ ?_
    · rw [eb_118_1]
      simp (disch := first | assumption | omega | exact st8_a (Nat.le_of_ble_eq_true rfl)) only [eb_118_0, eb_118_2, eb_118_3, eb_118_4, eb_118_5, kl_a, kl_d, kl_f, kl_i, kl_l, kl_n, kl_r, xr_1, xr_10, xr_2, xr_27, xr_28, xr_3, xr_30, xr_31, xr_32, xr_37, xr_38, xr_4, xr_43, xr_44, xr_5, xr_55, xt_goto, xt_ib, xt_ic, xt_ic_ge, xt_if_eq, xt_ir, xt_nop, gF_37_0, gF_1_14, gF_1_6, gA_2, gA_3, gA_4, gA_5, gA_6, gA_7, gA_8, gA_9, gA_10, gA_11, gA_13, gA_14, gA_16, gA_17, gA_20, gA_21, gA_22, gA_23, gA_24, gA_25, gA_26, gA_27, gA_30, gA_31, gA_32, gA_33, gA_34, gA_35, gA_36, gA_38, gA_39, gA_41, gA_42, gA_46, gA_47, gA_49, gA_50, gA_51, gA_53, gA_56, gA_57, gA_59, gA_60, iN_add, iN_mul, iN_sub, iN_and, iN_or, iN_clr, iN_shl, iN_shr, tb_r1, b1_z, b1_or, b1_and, b1_or0, b1_or1, b1_0or, b1_t, b1_f, iN_lt, iN_inj, reduceIte, if_true, if_false, Nat.zero_add, Nat.add_zero, Bool.false_eq_true, Bool.true_eq_false, Nat.lt_irrefl, iN_az, not_true_eq_false, not_false_eq_true, Nat.reduceEqDiff, Nat.reduceLT, Nat.reduceAdd, Nat.reduceMul, Nat.reduceSub]
      rfl
    · intro k hk ih
      rw [eb_118_1]
      rw [sm] at ih
      cases h : u.testBit k
      · rw [h] at ih
        simp only [Bool.false_eq_true, if_false, Nat.add_zero] at ih
        simp (disch := first | assumption | omega | exact st8_a (Nat.le_of_ble_eq_true rfl)) only [hk, h, eb_118_0, eb_118_2, eb_118_3, eb_118_4, eb_118_5, kl_a, kl_d, kl_f, kl_i, kl_l, kl_n, kl_r, xr_1, xr_10, xr_2, xr_27, xr_28, xr_3, xr_30, xr_31, xr_32, xr_37, xr_38, xr_4, xr_43, xr_44, xr_5, xr_55, xt_goto, xt_ib, xt_ic, xt_ic_ge, xt_if_eq, xt_ir, xt_nop, gF_37_0, gF_1_14, gF_1_6, gA_2, gA_3, gA_4, gA_5, gA_6, gA_7, gA_8, gA_9, gA_10, gA_11, gA_13, gA_14, gA_16, gA_17, gA_20, gA_21, gA_22, gA_23, gA_24, gA_25, gA_26, gA_27, gA_30, gA_31, gA_32, gA_33, gA_34, gA_35, gA_36, gA_38, gA_39, gA_41, gA_42, gA_46, gA_47, gA_49, gA_50, gA_51, gA_53, gA_56, gA_57, gA_59, gA_60, iN_add, iN_mul, iN_sub, iN_and, iN_or, iN_clr, iN_shl, iN_shr, tb_r1, b1_z, b1_or, b1_and, b1_or0, b1_or1, b1_0or, b1_t, b1_f, iN_lt, iN_inj, reduceIte, if_true, if_false, Nat.zero_add, Nat.add_zero, Bool.false_eq_true, Bool.true_eq_false, Nat.lt_irrefl, iN_az, not_true_eq_false, not_false_eq_true, Nat.reduceEqDiff, Nat.reduceLT, Nat.reduceAdd, Nat.reduceMul, Nat.reduceSub]
        exact ih
      · rw [h, if_pos rfl] at ih
        simp (disch := first | assumption | omega | exact st8_a (Nat.le_of_ble_eq_true rfl)) only [hk, h, eb_118_0, eb_118_2, eb_118_3, eb_118_4, eb_118_5, kl_a, kl_d, kl_f, kl_i, kl_l, kl_n, kl_r, xr_1, xr_10, xr_2, xr_27, xr_28, xr_3, xr_30, xr_31, xr_32, xr_37, xr_38, xr_4, xr_43, xr_44, xr_5, xr_55, xt_goto, xt_ib, xt_ic, xt_ic_ge, xt_if_eq, xt_ir, xt_nop, gF_37_0, gF_1_14, gF_1_6, gA_2, gA_3, gA_4, gA_5, gA_6, gA_7, gA_8, gA_9, gA_10, gA_11, gA_13, gA_14, gA_16, gA_17, gA_20, gA_21, gA_22, gA_23, gA_24, gA_25, gA_26, gA_27, gA_30, gA_31, gA_32, gA_33, gA_34, gA_35, gA_36, gA_38, gA_39, gA_41, gA_42, gA_46, gA_47, gA_49, gA_50, gA_51, gA_53, gA_56, gA_57, gA_59, gA_60, iN_add, iN_mul, iN_sub, iN_and, iN_or, iN_clr, iN_shl, iN_shr, tb_r1, b1_z, b1_or, b1_and, b1_or0, b1_or1, b1_0or, b1_t, b1_f, iN_lt, iN_inj, reduceIte, if_true, if_false, Nat.zero_add, Nat.add_zero, Bool.false_eq_true, Bool.true_eq_false, Nat.lt_irrefl, iN_az, not_true_eq_false, not_false_eq_true, Nat.reduceEqDiff, Nat.reduceLT, Nat.reduceAdd, Nat.reduceMul, Nat.reduceSub]
        exact ih
  simp (disch := first | assumption | omega | exact st8_a (Nat.le_of_ble_eq_true rfl)) only [eb_118_0, eb_118_2, eb_118_3, eb_118_4, eb_118_5, kl_a, kl_d, kl_f, kl_i, kl_l, kl_n, kl_r, xr_1, xr_10, xr_2, xr_27, xr_28, xr_3, xr_30, xr_31, xr_32, xr_37, xr_38, xr_4, xr_43, xr_44, xr_5, xr_55, xt_goto, xt_ib, xt_ic, xt_ic_ge, xt_if_eq, xt_ir, xt_nop, gF_37_0, gF_1_14, gF_1_6, gA_2, gA_3, gA_4, gA_5, gA_6, gA_7, gA_8, gA_9, gA_10, gA_11, gA_13, gA_14, gA_16, gA_17, gA_20, gA_21, gA_22, gA_23, gA_24, gA_25, gA_26, gA_27, gA_30, gA_31, gA_32, gA_33, gA_34, gA_35, gA_36, gA_38, gA_39, gA_41, gA_42, gA_46, gA_47, gA_49, gA_50, gA_51, gA_53, gA_56, gA_57, gA_59, gA_60, iN_add, iN_mul, iN_sub, iN_and, iN_or, iN_clr, iN_shl, iN_shr, tb_r1, b1_z, b1_or, b1_and, b1_or0, b1_or1, b1_0or, b1_t, b1_f, iN_lt, iN_inj, reduceIte, if_true, if_false, Nat.zero_add, Nat.add_zero, Bool.false_eq_true, Bool.true_eq_false, Nat.lt_irrefl, iN_az, not_true_eq_false, not_false_eq_true, Nat.reduceEqDiff, Nat.reduceLT, Nat.reduceAdd, Nat.reduceMul, Nat.reduceSub]
  exact key 0 (Nat.zero_le _)
end Va
