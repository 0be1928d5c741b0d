/-! THE CLASS SlotRooms -/
/-- the rooms that fit a lesson of a set -/
def rfs (σ : Nat → Nat → Nat) (u r : Nat) : Bool := an (σ 1 6) fun l => u.testBit l && sts σ l r
def rfo (σ : Nat → Nat → Nat) (u : Nat) : Nat := sm (σ 1 5) fun r => b1 (rfs σ u r)
/-- how many more lessons than rooms, at most, over the sets below k that lie in u -/
def dfc (σ : Nat → Nat → Nat) (u k : Nat) : Nat := mxn k fun v => if clr v u = 0 then pc 10 v - rfo σ v else 0
set_option maxRecDepth 100000 in
theorem mx_neg : ∀ p, p < 11 → ∀ q, q < 4 → p < q → ∀ x, x < 11 → ¬ nI x < nI p - nI q := by decide +kernel
section Sl2
variable {xs : List Int32} {σ M N : Nat → Nat → Nat} {R : ab_H} {d e l s r o u n t y v w k m : Nat}
set_option maxRecDepth 100000 in
theorem rfo_le (O : Ok σ) : rfo σ u ≤ 3 := by
  obtain ⟨hD1, hD2, hH1, hH2, hS, hC, hT, hR, hL, hQ⟩ := Ok_b O
  have := sm_le (n := (σ 1 5)) (c := 1) (f := fun r => b1 (rfs σ u r)) fun r _ => by
    have := b1_lt (rfs σ u r)
    show b1 (rfs σ u r) ≤ 1
    omega
  unfold rfo
  omega
set_option maxRecDepth 100000 in
theorem dfc_le : dfc σ u k ≤ 10 := by
  unfold dfc
  rw [mxn_le]
  intro i _
  have := pc_le 10 i
  split <;> omega
set_option maxRecDepth 100000 in
theorem s_311 (O : Ok σ) (hr : r < (σ 1 5)) (hu : u < 64) : ev xs (d + 1) 311 0 ([.ref 43, .int (nI u), .int (nI r), .retAddr 9], [], hc σ M R) = some (.inl (some (.int (nI (b1 (rfs σ u r))))), hc σ M R) := by
  obtain ⟨hD1, hD2, hH1, hH2, hS, hC, hT, hR, hL, hQ⟩ := Ok_b O
  have key : ∀ j, j ≤ (σ 1 6) → (∀ i, i < j → (u.testBit i && sts σ i r) = false) → ev xs (d + 1) 311 1 ([.ref 43, .int (nI u), .int (nI r), .int (nI j)], [], hc σ M R) = some (.inl (some (.int (nI (b1 (rfs σ u r))))), hc σ M R) := by
    refine lp (σ 1 6) ?_ ?_
    · intro h
      have h0 : rfs σ u r = false := by
        cases h1 : rfs σ u r
        · rfl
        · obtain ⟨i, h2, h3⟩ := an_t.mp h1
          rw [h i h2] at h3
          cases h3
      rw [eb_311_1, h0]
      simp (disch := first | assumption | omega | exact st8_a (Nat.le_of_ble_eq_true rfl)) only [eb_311_7, kl_a, kl_d, kl_f, kl_i, kl_l, kl_n, kl_r, xr_1, xr_10, xr_2, xr_27, xr_28, xr_3, xr_31, xr_32, xr_37, xr_4, xr_43, xr_44, xr_5, xr_55, af_0, af_1, xt_goto, xt_ib, xt_ic, xt_ic_ge, xt_if_eq, xt_ir, xt_nop, gF_1_6, gF_43_0, xq_65_6_virtualc, iN_add, iN_mul, iN_sub, iN_and, iN_or, iN_clr, iN_shl, iN_shr, tb_r1, b1_z, b1_or, b1_and, b1_or0, b1_or1, b1_0or, b1_t, b1_f, iN_lt, iN_inj, reduceIte, if_true, if_false, Nat.zero_add, Nat.add_zero, Bool.false_eq_true, Bool.true_eq_false, Nat.lt_irrefl, iN_az, not_true_eq_false, not_false_eq_true, Nat.reduceEqDiff, Nat.reduceLT, Nat.reduceAdd, Nat.reduceMul, Nat.reduceSub]
    · intro j hj ih h
      have e1 := s_65 (xs := xs) (d := d) (M := M) (R := R) O hj hr
      by_cases h9 : (u.testBit j && sts σ j r) = true
      · have h0 : rfs σ u r = true := an_t.mpr ⟨j, hj, h9⟩
        rw [Bool.and_eq_true] at h9
        rw [h9.2] at e1
        have h1 := h9.1
        rw [eb_311_1, h0]
        clear ih h h9 h0
        simp (disch := first | assumption | omega | exact st8_a (Nat.le_of_ble_eq_true rfl)) only [hj, h1, e1, eb_311_2, eb_311_3, eb_311_4, eb_311_5, kl_a, kl_d, kl_f, kl_i, kl_l, kl_n, kl_r, xr_1, xr_10, xr_2, xr_27, xr_28, xr_3, xr_31, xr_32, xr_37, xr_4, xr_43, xr_44, xr_5, xr_55, af_0, af_1, xt_goto, xt_ib, xt_ic, xt_ic_ge, xt_if_eq, xt_ir, xt_nop, gF_1_6, gF_43_0, xq_65_6_virtualc, iN_add, iN_mul, iN_sub, iN_and, iN_or, iN_clr, iN_shl, iN_shr, tb_r1, b1_z, b1_or, b1_and, b1_or0, b1_or1, b1_0or, b1_t, b1_f, iN_lt, iN_inj, reduceIte, if_true, if_false, Nat.zero_add, Nat.add_zero, Bool.false_eq_true, Bool.true_eq_false, Nat.lt_irrefl, iN_az, not_true_eq_false, not_false_eq_true, Nat.reduceEqDiff, Nat.reduceLT, Nat.reduceAdd, Nat.reduceMul, Nat.reduceSub]
      · rw [Bool.not_eq_true] at h9
        have i2 := ih fun i hi => by
          by_cases h3 : i = j
          · rw [h3]; exact h9
          · exact h i (by omega)
        rw [eb_311_1]
        clear ih h
        cases h1 : u.testBit j
        · clear h9
          simp (disch := first | assumption | omega | exact st8_a (Nat.le_of_ble_eq_true rfl)) only [hj, h1, eb_311_2, eb_311_6, kl_a, kl_d, kl_f, kl_i, kl_l, kl_n, kl_r, xr_1, xr_10, xr_2, xr_27, xr_28, xr_3, xr_31, xr_32, xr_37, xr_4, xr_43, xr_44, xr_5, xr_55, af_0, af_1, xt_goto, xt_ib, xt_ic, xt_ic_ge, xt_if_eq, xt_ir, xt_nop, gF_1_6, gF_43_0, xq_65_6_virtualc, iN_add, iN_mul, iN_sub, iN_and, iN_or, iN_clr, iN_shl, iN_shr, tb_r1, b1_z, b1_or, b1_and, b1_or0, b1_or1, b1_0or, b1_t, b1_f, iN_lt, iN_inj, reduceIte, if_true, if_false, Nat.zero_add, Nat.add_zero, Bool.false_eq_true, Bool.true_eq_false, Nat.lt_irrefl, iN_az, not_true_eq_false, not_false_eq_true, Nat.reduceEqDiff, Nat.reduceLT, Nat.reduceAdd, Nat.reduceMul, Nat.reduceSub]
          exact i2
        · rw [h1, Bool.true_and] at h9
          rw [h9] at e1
          clear h9
          simp (disch := first | assumption | omega | exact st8_a (Nat.le_of_ble_eq_true rfl)) only [hj, h1, e1, eb_311_2, eb_311_3, eb_311_4, eb_311_6, kl_a, kl_d, kl_f, kl_i, kl_l, kl_n, kl_r, xr_1, xr_10, xr_2, xr_27, xr_28, xr_3, xr_31, xr_32, xr_37, xr_4, xr_43, xr_44, xr_5, xr_55, af_0, af_1, xt_goto, xt_ib, xt_ic, xt_ic_ge, xt_if_eq, xt_ir, xt_nop, gF_1_6, gF_43_0, xq_65_6_virtualc, iN_add, iN_mul, iN_sub, iN_and, iN_or, iN_clr, iN_shl, iN_shr, tb_r1, b1_z, b1_or, b1_and, b1_or0, b1_or1, b1_0or, b1_t, b1_f, iN_lt, iN_inj, reduceIte, if_true, if_false, Nat.zero_add, Nat.add_zero, Bool.false_eq_true, Bool.true_eq_false, Nat.lt_irrefl, iN_az, not_true_eq_false, not_false_eq_true, Nat.reduceEqDiff, Nat.reduceLT, Nat.reduceAdd, Nat.reduceMul, Nat.reduceSub]
          exact i2
  have e := key 0 (Nat.zero_le _) fun i hi => absurd hi (Nat.not_lt_zero _)
  clear key
  simp (disch := first | assumption | omega | exact st8_a (Nat.le_of_ble_eq_true rfl)) only [eb_311_0, kl_a, kl_d, kl_f, kl_i, kl_l, kl_n, kl_r, xr_1, xr_10, xr_2, xr_27, xr_28, xr_3, xr_31, xr_32, xr_37, xr_4, xr_43, xr_44, xr_5, xr_55, af_0, af_1, xt_goto, xt_ib, xt_ic, xt_ic_ge, xt_if_eq, xt_ir, xt_nop, gF_1_6, gF_43_0, xq_65_6_virtualc, iN_add, iN_mul, iN_sub, iN_and, iN_or, iN_clr, iN_shl, iN_shr, tb_r1, b1_z, b1_or, b1_and, b1_or0, b1_or1, b1_0or, b1_t, b1_f, iN_lt, iN_inj, reduceIte, if_true, if_false, Nat.zero_add, Nat.add_zero, Bool.false_eq_true, Bool.true_eq_false, Nat.lt_irrefl, iN_az, not_true_eq_false, not_false_eq_true, Nat.reduceEqDiff, Nat.reduceLT, Nat.reduceAdd, Nat.reduceMul, Nat.reduceSub]
  exact e
set_option maxRecDepth 100000 in
theorem s_96 (O : Ok σ) (hu : u < 64) : ev xs (d + 2) 96 0 ([.ref 43, .int (nI u), .retAddr 9, .retAddr 9], [], hc σ M R) = some (.inl (some (.int (nI (rfo σ u)))), hc σ M R) := by
  obtain ⟨hD1, hD2, hH1, hH2, hS, hC, hT, hR, hL, hQ⟩ := Ok_b O
  have key : ∀ k, k ≤ (σ 1 5) → ev xs (d + 2) 96 1 ([.ref 43, .int (nI u), .int (nI (sm k fun r => b1 (rfs σ u r))), .int (nI k)], [], hc σ M R) = some (.inl (some (.int (nI (rfo σ u)))), hc σ M R) := by
    refine lp (σ 1 5) ?_ ?_
    · rw [eb_96_1]
      simp (disch := first | assumption | omega | exact st8_a (Nat.le_of_ble_eq_true rfl)) only [eb_96_7, kl_a, kl_d, kl_f, kl_i, kl_l, kl_n, kl_r, xr_1, xr_10, xr_2, xr_27, xr_28, xr_3, xr_30, xr_31, xr_32, xr_37, xr_38, xr_4, xr_43, xr_5, af_0, af_1, xt_goto, xt_ib, xt_ic, xt_ic_ge, xt_if_eq, xt_ir, xt_nop, gF_1_5, gF_43_0, xq_311_8_virtualc, iN_add, iN_mul, iN_sub, iN_and, iN_or, iN_clr, iN_shl, iN_shr, tb_r1, b1_z, b1_or, b1_and, b1_or0, b1_or1, b1_0or, b1_t, b1_f, iN_lt, iN_inj, reduceIte, if_true, if_false, Nat.zero_add, Nat.add_zero, Bool.false_eq_true, Bool.true_eq_false, Nat.lt_irrefl, iN_az, not_true_eq_false, not_false_eq_true, Nat.reduceEqDiff, Nat.reduceLT, Nat.reduceAdd, Nat.reduceMul, Nat.reduceSub]
      rfl
    · intro k hk ih
      have hsm : sm k (fun r => b1 (rfs σ u r)) ≤ k * 1 := sm_le fun i _ => by
        have := b1_lt (rfs σ u i)
        show b1 (rfs σ u i) ≤ 1
        omega
      have e1 := s_311 (xs := xs) (d := d) (M := M) (R := R) (u := u) O hk hu
      rw [sm] at ih
      rw [eb_96_1]
      cases h : rfs σ u k
      · rw [h, b1_f, Nat.add_zero] at ih
        rw [h] at e1
        simp (disch := first | assumption | omega | exact st8_a (Nat.le_of_ble_eq_true rfl)) only [hk, e1, eb_96_2, eb_96_3, eb_96_5, eb_96_6, kl_a, kl_d, kl_f, kl_i, kl_l, kl_n, kl_r, xr_1, xr_10, xr_2, xr_27, xr_28, xr_3, xr_30, xr_31, xr_32, xr_37, xr_38, xr_4, xr_43, xr_5, af_0, af_1, xt_goto, xt_ib, xt_ic, xt_ic_ge, xt_if_eq, xt_ir, xt_nop, gF_1_5, gF_43_0, xq_311_8_virtualc, iN_add, iN_mul, iN_sub, iN_and, iN_or, iN_clr, iN_shl, iN_shr, tb_r1, b1_z, b1_or, b1_and, b1_or0, b1_or1, b1_0or, b1_t, b1_f, iN_lt, iN_inj, reduceIte, if_true, if_false, Nat.zero_add, Nat.add_zero, Bool.false_eq_true, Bool.true_eq_false, Nat.lt_irrefl, iN_az, not_true_eq_false, not_false_eq_true, Nat.reduceEqDiff, Nat.reduceLT, Nat.reduceAdd, Nat.reduceMul, Nat.reduceSub]
        exact ih
      · rw [h, b1_t] at ih
        rw [h] at e1
        simp (disch := first | assumption | omega | exact st8_a (Nat.le_of_ble_eq_true rfl)) only [hk, e1, eb_96_2, eb_96_3, eb_96_4, eb_96_6, kl_a, kl_d, kl_f, kl_i, kl_l, kl_n, kl_r, xr_1, xr_10, xr_2, xr_27, xr_28, xr_3, xr_30, xr_31, xr_32, xr_37, xr_38, xr_4, xr_43, xr_5, af_0, af_1, xt_goto, xt_ib, xt_ic, xt_ic_ge, xt_if_eq, xt_ir, xt_nop, gF_1_5, gF_43_0, xq_311_8_virtualc, iN_add, iN_mul, iN_sub, iN_and, iN_or, iN_clr, iN_shl, iN_shr, tb_r1, b1_z, b1_or, b1_and, b1_or0, b1_or1, b1_0or, b1_t, b1_f, iN_lt, iN_inj, reduceIte, if_true, if_false, Nat.zero_add, Nat.add_zero, Bool.false_eq_true, Bool.true_eq_false, Nat.lt_irrefl, iN_az, not_true_eq_false, not_false_eq_true, Nat.reduceEqDiff, Nat.reduceLT, Nat.reduceAdd, Nat.reduceMul, Nat.reduceSub]
        exact ih
  have e := key 0 (Nat.zero_le _)
  clear key
  simp (disch := first | assumption | omega | exact st8_a (Nat.le_of_ble_eq_true rfl)) only [eb_96_0, kl_a, kl_d, kl_f, kl_i, kl_l, kl_n, kl_r, xr_1, xr_10, xr_2, xr_27, xr_28, xr_3, xr_30, xr_31, xr_32, xr_37, xr_38, xr_4, xr_43, xr_5, af_0, af_1, xt_goto, xt_ib, xt_ic, xt_ic_ge, xt_if_eq, xt_ir, xt_nop, gF_1_5, gF_43_0, xq_311_8_virtualc, iN_add, iN_mul, iN_sub, iN_and, iN_or, iN_clr, iN_shl, iN_shr, tb_r1, b1_z, b1_or, b1_and, b1_or0, b1_or1, b1_0or, b1_t, b1_f, iN_lt, iN_inj, reduceIte, if_true, if_false, Nat.zero_add, Nat.add_zero, Bool.false_eq_true, Bool.true_eq_false, Nat.lt_irrefl, iN_az, not_true_eq_false, not_false_eq_true, Nat.reduceEqDiff, Nat.reduceLT, Nat.reduceAdd, Nat.reduceMul, Nat.reduceSub]
  exact e
end Sl2
