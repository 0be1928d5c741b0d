/-! THE CLASS SlotRooms: mostSeated, fewestUnseated -/
/-- the set that fewestUnseated has found among those below k -/
def fun1 (σ : Nat → Nat → Nat) (u : Nat) : Nat → Nat
  | 0 => 0
  | k + 1 => if clr k u = 0 ∧ rfo σ k < pc 10 k ∧ (fun1 σ u k = 0 ∨ pc 10 k < pc 10 (fun1 σ u k)) then k else fun1 σ u k
section Sm2
variable {xs : List Int32} {σ M N : Nat → Nat → Nat} {R : ab_H} {d e l s r o u n t y v w k m : Nat}
set_option maxRecDepth 100000 in
theorem rfo_0 : rfo σ 0 = 0 := sm_z.mpr fun i _ => by
  have : rfs σ 0 i = false := by
    cases h : rfs σ 0 i
    · rfl
    · obtain ⟨l, _, h2⟩ := an_t.mp h
      rw [Nat.zero_testBit] at h2
      cases h2
  rw [this]
  rfl
set_option maxRecDepth 100000 in
theorem fun1_lt (h : u < 1024) : ∀ k, k ≤ u + 1 → fun1 σ u k ≤ u := by
  intro k
  induction k with
  | zero => intro _; exact Nat.zero_le _
  | succ k ih =>
    intro hk
    rw [fun1]
    split
    · omega
    · exact ih (by omega)
set_option maxRecDepth 100000 in
theorem s_94 (O : Ok σ) (hu : u < 64) : ev xs (d + 3) 94 0 ([.ref 43, .int (nI u), .retAddr 9, .retAddr 9], [], hc σ M R) = some (.inl (some (.int (nI (pc 10 u) - nI (dfc σ u (u + 1))))), hc σ M R) := by
  obtain ⟨hD1, hD2, hH1, hH2, hS, hC, hT, hR, hL, hQ⟩ := Ok_b O
  have key : ∀ k, k ≤ u + 1 → ev xs (d + 3) 94 1 ([.ref 43, .int (nI u), .int (nI (dfc σ u k)), .int (nI k)], [], hc σ M R) = some (.inl (some (.int (nI (pc 10 u) - nI (dfc σ u (u + 1))))), hc σ M R) := by
    refine lp (u + 1) ?_ ?_
    · have h9 : (u < u + 1) = True := eq_true (Nat.lt_succ_self _)
      have hu2 : u < 1024 := by omega
      rw [eb_94_1]
      simp (disch := first | assumption | omega | exact st8_a (Nat.le_of_ble_eq_true rfl)) only [h9, s_277, eb_94_7, eb_94_8, kl_a, kl_d, kl_f, kl_i, kl_l, kl_n, kl_r, xr_1, xr_10, xr_2, xr_27, xr_28, xr_3, xr_30, xr_31, xr_32, xr_37, xr_4, xr_43, xr_44, xr_5, xr_60, xr_64, xr_75, xr_77, af_0, af_1, xt_goto, xt_ib, xt_ic, xt_ic_gt, xt_if_ne, xt_ir, xt_nop, xq_277_200_static, xq_96_8_virtualc, iN_add, iN_mul, iN_and, iN_or, iN_clr, iN_shl, iN_shr, tb_r1, b1_z, b1_or, b1_and, b1_or0, b1_or1, b1_0or, b1_t, b1_f, iN_lt, iN_inj, reduceIte, if_true, if_false, Nat.zero_add, Nat.add_zero, Bool.false_eq_true, Bool.true_eq_false, Nat.lt_irrefl, iN_az, not_true_eq_false, not_false_eq_true, Nat.reduceEqDiff, Nat.reduceLT, Nat.reduceAdd, Nat.reduceMul, Nat.reduceSub]
    · intro k hk ih
      have hk2 : ¬ u < k := by omega
      have hk3 : k < 1024 := by omega
      have e1 := s_96 (xs := xs) (d := d) (M := M) (R := R) (u := k) O (by omega)
      have hp := pc_le 10 k
      have hr := rfo_le O (u := k)
      have hd := dfc_le (σ := σ) (u := u) (k := k)
      rw [show dfc σ u (k + 1) = max (dfc σ u k) (if clr k u = 0 then pc 10 k - rfo σ k else 0) from rfl] at ih
      have hcl : clr k u < 64 := clr_lt (n := 6) (by omega)
      rw [eb_94_1]
      by_cases h1 : clr k u = 0
      · rw [if_pos h1] at ih
        by_cases h2 : rfo σ k ≤ pc 10 k
        · simp (disch := first | assumption | omega | exact st8_a (Nat.le_of_ble_eq_true rfl)) only [hk2, h1, s_277, e1, eb_94_2, eb_94_3, eb_94_4, eb_94_5, eb_94_6, kl_a, kl_d, kl_f, kl_i, kl_l, kl_n, kl_r, xr_1, xr_10, xr_2, xr_27, xr_28, xr_3, xr_30, xr_31, xr_32, xr_37, xr_4, xr_43, xr_44, xr_5, xr_60, xr_64, xr_75, xr_77, af_0, af_1, xt_goto, xt_ib, xt_ic, xt_ic_gt, xt_if_ne, xt_ir, xt_nop, xq_277_200_static, xq_96_8_virtualc, iN_add, iN_mul, iN_sub, iN_and, iN_or, iN_clr, iN_shl, iN_shr, tb_r1, b1_z, b1_or, b1_and, b1_or0, b1_or1, b1_0or, b1_t, b1_f, iN_lt, iN_inj, reduceIte, if_true, if_false, Nat.zero_add, Nat.add_zero, Bool.false_eq_true, Bool.true_eq_false, Nat.lt_irrefl, iN_az, not_true_eq_false, not_false_eq_true, Nat.reduceEqDiff, Nat.reduceLT, Nat.reduceAdd, Nat.reduceMul, Nat.reduceSub]
          exact ih
        · rw [show pc 10 k - rfo σ k = 0 by omega, Nat.max_eq_left (Nat.zero_le _)] at ih
          have e4 := eq_false (mx_neg _ (show pc 10 k < 11 by omega) _ (show rfo σ k < 4 by omega) (by omega) _ (show dfc σ u k < 11 by omega))
          simp (disch := first | assumption | omega | exact st8_a (Nat.le_of_ble_eq_true rfl)) only [hk2, h1, s_277, e1, xr_59, e4, eb_94_2, eb_94_3, eb_94_4, eb_94_5, eb_94_6, kl_a, kl_d, kl_f, kl_i, kl_l, kl_n, kl_r, xr_1, xr_10, xr_2, xr_27, xr_28, xr_3, xr_30, xr_31, xr_32, xr_37, xr_4, xr_43, xr_44, xr_5, xr_60, xr_64, xr_75, xr_77, af_0, af_1, xt_goto, xt_ib, xt_ic, xt_ic_gt, xt_if_ne, xt_ir, xt_nop, xq_277_200_static, xq_96_8_virtualc, iN_add, iN_mul, iN_sub, iN_and, iN_or, iN_clr, iN_shl, iN_shr, tb_r1, b1_z, b1_or, b1_and, b1_or0, b1_or1, b1_0or, b1_t, b1_f, iN_lt, iN_inj, reduceIte, if_true, if_false, Nat.zero_add, Nat.add_zero, Bool.false_eq_true, Bool.true_eq_false, Nat.lt_irrefl, iN_az, not_true_eq_false, not_false_eq_true, Nat.reduceEqDiff, Nat.reduceLT, Nat.reduceAdd, Nat.reduceMul, Nat.reduceSub]
          exact ih
      · rw [if_neg h1, Nat.max_eq_left (Nat.zero_le _)] at ih
        simp (disch := first | assumption | omega | exact st8_a (Nat.le_of_ble_eq_true rfl)) only [hk2, h1, eb_94_2, eb_94_6, kl_a, kl_d, kl_f, kl_i, kl_l, kl_n, kl_r, xr_1, xr_10, xr_2, xr_27, xr_28, xr_3, xr_30, xr_31, xr_32, xr_37, xr_4, xr_43, xr_44, xr_5, xr_60, xr_64, xr_75, xr_77, af_0, af_1, xt_goto, xt_ib, xt_ic, xt_ic_gt, xt_if_ne, xt_ir, xt_nop, xq_277_200_static, xq_96_8_virtualc, iN_add, iN_mul, iN_sub, iN_and, iN_or, iN_clr, iN_shl, iN_shr, tb_r1, b1_z, b1_or, b1_and, b1_or0, b1_or1, b1_0or, b1_t, b1_f, iN_lt, iN_inj, reduceIte, if_true, if_false, Nat.zero_add, Nat.add_zero, Bool.false_eq_true, Bool.true_eq_false, Nat.lt_irrefl, iN_az, not_true_eq_false, not_false_eq_true, Nat.reduceEqDiff, Nat.reduceLT, Nat.reduceAdd, Nat.reduceMul, Nat.reduceSub]
        exact ih
  have h1 := key 1 (by omega)
  have h0 : dfc σ u 1 = 0 := by
    unfold dfc
    rw [mxn, mxn]
    have : pc 10 0 = 0 := by decide
    rw [this]
    split <;> simp
  rw [h0] at h1
  clear key
  simp (disch := first | assumption | omega | exact st8_a (Nat.le_of_ble_eq_true rfl)) only [eb_94_0, kl_a, kl_d, kl_f, kl_i, kl_l, kl_n, kl_r, xr_1, xr_10, xr_2, xr_27, xr_28, xr_3, xr_30, xr_31, xr_32, xr_37, xr_4, xr_43, xr_44, xr_5, xr_60, xr_64, xr_75, xr_77, af_0, af_1, xt_goto, xt_ib, xt_ic, xt_ic_gt, xt_if_ne, xt_ir, xt_nop, xq_277_200_static, xq_96_8_virtualc, iN_add, iN_mul, iN_and, iN_or, iN_clr, iN_shl, iN_shr, tb_r1, b1_z, b1_or, b1_and, b1_or0, b1_or1, b1_0or, b1_t, b1_f, iN_lt, iN_inj, reduceIte, if_true, if_false, Nat.zero_add, Nat.add_zero, Bool.false_eq_true, Bool.true_eq_false, Nat.lt_irrefl, iN_az, not_true_eq_false, not_false_eq_true, Nat.reduceEqDiff, Nat.reduceLT, Nat.reduceAdd, Nat.reduceMul, Nat.reduceSub]
  exact h1
set_option maxRecDepth 100000 in
theorem s_95 (O : Ok σ) (hu : u < 64) : ev xs (d + 3) 95 0 ([.ref 43, .int (nI u), .retAddr 9, .retAddr 9], [], hc σ M R) = some (.inl (some (.int (nI (fun1 σ u (u + 1))))), hc σ M R) := by
  obtain ⟨hD1, hD2, hH1, hH2, hS, hC, hT, hR, hL, hQ⟩ := Ok_b O
  have key : ∀ k, k ≤ u + 1 → ev xs (d + 3) 95 1 ([.ref 43, .int (nI u), .int (nI (fun1 σ u k)), .int (nI k)], [], hc σ M R) = some (.inl (some (.int (nI (fun1 σ u (u + 1))))), hc σ M R) := by
    refine lp (u + 1) ?_ ?_
    · have h9 : (u < u + 1) = True := eq_true (Nat.lt_succ_self _)
      rw [eb_95_1]
      simp (disch := first | assumption | omega | exact st8_a (Nat.le_of_ble_eq_true rfl)) only [h9, eb_95_12, kl_a, kl_d, kl_f, kl_i, kl_l, kl_n, kl_r, xr_1, xr_10, xr_2, xr_27, xr_28, xr_3, xr_30, xr_31, xr_32, xr_37, xr_4, xr_43, xr_44, xr_5, xr_64, xr_75, af_0, af_1, xt_goto, xt_ib, xt_ic, xt_ic_ge, xt_ic_gt, xt_ic_le, xt_if_eq, xt_if_ne, xt_ir, xt_nop, xq_277_200_static, xq_96_8_virtualc, iN_add, iN_mul, iN_sub, iN_and, iN_or, iN_clr, iN_shl, iN_shr, tb_r1, b1_z, b1_or, b1_and, b1_or0, b1_or1, b1_0or, b1_t, b1_f, iN_lt, iN_inj, reduceIte, if_true, if_false, Nat.zero_add, Nat.add_zero, Bool.false_eq_true, Bool.true_eq_false, Nat.lt_irrefl, iN_az, not_true_eq_false, not_false_eq_true, Nat.reduceEqDiff, Nat.reduceLT, Nat.reduceAdd, Nat.reduceMul, Nat.reduceSub]
    · intro k hk ih
      have hk2 : ¬ u < k := by omega
      have hk3 : k < 1024 := by omega
      have e1 := s_96 (xs := xs) (d := d) (M := M) (R := R) (u := k) O (by omega)
      have hp := pc_le 10 k
      have hr := rfo_le O (u := k)
      have hf := fun1_lt (σ := σ) (u := u) (by omega) k (by omega)
      have hf2 : fun1 σ u k < 1024 := by omega
      have hpf := pc_le 10 (fun1 σ u k)
      have hcl : clr k u < 64 := clr_lt (n := 6) (by omega)
      rw [fun1] at ih
      rw [eb_95_1]
      by_cases h1 : clr k u = 0
      · by_cases h2 : rfo σ k < pc 10 k
        · have h2' : ¬ pc 10 k ≤ rfo σ k := by omega
          by_cases h3 : fun1 σ u k = 0
          · rw [if_pos ⟨h1, h2, Or.inl h3⟩] at ih
            rw [h3]
            simp (disch := first | assumption | omega | exact st8_a (Nat.le_of_ble_eq_true rfl)) only [hk2, h1, s_277, e1, h2, h2', eb_95_2, eb_95_3, eb_95_4, eb_95_5, eb_95_6, eb_95_10, eb_95_11, kl_a, kl_d, kl_f, kl_i, kl_l, kl_n, kl_r, xr_1, xr_10, xr_2, xr_27, xr_28, xr_3, xr_30, xr_31, xr_32, xr_37, xr_4, xr_43, xr_44, xr_5, xr_64, xr_75, af_0, af_1, xt_goto, xt_ib, xt_ic, xt_ic_ge, xt_ic_gt, xt_ic_le, xt_if_eq, xt_if_ne, xt_ir, xt_nop, xq_277_200_static, xq_96_8_virtualc, iN_add, iN_mul, iN_sub, iN_and, iN_or, iN_clr, iN_shl, iN_shr, tb_r1, b1_z, b1_or, b1_and, b1_or0, b1_or1, b1_0or, b1_t, b1_f, iN_lt, iN_inj, reduceIte, if_true, if_false, Nat.zero_add, Nat.add_zero, Bool.false_eq_true, Bool.true_eq_false, Nat.lt_irrefl, iN_az, not_true_eq_false, not_false_eq_true, Nat.reduceEqDiff, Nat.reduceLT, Nat.reduceAdd, Nat.reduceMul, Nat.reduceSub]
            exact ih
          · by_cases h4 : pc 10 k < pc 10 (fun1 σ u k)
            · rw [if_pos ⟨h1, h2, Or.inr h4⟩] at ih
              simp (disch := first | assumption | omega | exact st8_a (Nat.le_of_ble_eq_true rfl)) only [hk2, h1, s_277, e1, h2, h2', h3, h4, eb_95_2, eb_95_3, eb_95_4, eb_95_5, eb_95_6, eb_95_7, eb_95_8, eb_95_9, eb_95_10, eb_95_11, kl_a, kl_d, kl_f, kl_i, kl_l, kl_n, kl_r, xr_1, xr_10, xr_2, xr_27, xr_28, xr_3, xr_30, xr_31, xr_32, xr_37, xr_4, xr_43, xr_44, xr_5, xr_64, xr_75, af_0, af_1, xt_goto, xt_ib, xt_ic, xt_ic_ge, xt_ic_gt, xt_ic_le, xt_if_eq, xt_if_ne, xt_ir, xt_nop, xq_277_200_static, xq_96_8_virtualc, iN_add, iN_mul, iN_sub, iN_and, iN_or, iN_clr, iN_shl, iN_shr, tb_r1, b1_z, b1_or, b1_and, b1_or0, b1_or1, b1_0or, b1_t, b1_f, iN_lt, iN_inj, reduceIte, if_true, if_false, Nat.zero_add, Nat.add_zero, Bool.false_eq_true, Bool.true_eq_false, Nat.lt_irrefl, iN_az, not_true_eq_false, not_false_eq_true, Nat.reduceEqDiff, Nat.reduceLT, Nat.reduceAdd, Nat.reduceMul, Nat.reduceSub]
              exact ih
            · rw [if_neg fun z => by omega] at ih
              simp (disch := first | assumption | omega | exact st8_a (Nat.le_of_ble_eq_true rfl)) only [hk2, h1, s_277, e1, h2, h2', h3, h4, eb_95_2, eb_95_3, eb_95_4, eb_95_5, eb_95_6, eb_95_7, eb_95_8, eb_95_9, eb_95_11, kl_a, kl_d, kl_f, kl_i, kl_l, kl_n, kl_r, xr_1, xr_10, xr_2, xr_27, xr_28, xr_3, xr_30, xr_31, xr_32, xr_37, xr_4, xr_43, xr_44, xr_5, xr_64, xr_75, af_0, af_1, xt_goto, xt_ib, xt_ic, xt_ic_ge, xt_ic_gt, xt_ic_le, xt_if_eq, xt_if_ne, xt_ir, xt_nop, xq_277_200_static, xq_96_8_virtualc, iN_add, iN_mul, iN_sub, iN_and, iN_or, iN_clr, iN_shl, iN_shr, tb_r1, b1_z, b1_or, b1_and, b1_or0, b1_or1, b1_0or, b1_t, b1_f, iN_lt, iN_inj, reduceIte, if_true, if_false, Nat.zero_add, Nat.add_zero, Bool.false_eq_true, Bool.true_eq_false, Nat.lt_irrefl, iN_az, not_true_eq_false, not_false_eq_true, Nat.reduceEqDiff, Nat.reduceLT, Nat.reduceAdd, Nat.reduceMul, Nat.reduceSub]
              exact ih
        · rw [if_neg fun z => h2 z.2.1] at ih
          have h2' : pc 10 k ≤ rfo σ k := by omega
          simp (disch := first | assumption | omega | exact st8_a (Nat.le_of_ble_eq_true rfl)) only [hk2, h1, s_277, e1, h2, h2', eb_95_2, eb_95_3, eb_95_4, eb_95_5, eb_95_11, kl_a, kl_d, kl_f, kl_i, kl_l, kl_n, kl_r, xr_1, xr_10, xr_2, xr_27, xr_28, xr_3, xr_30, xr_31, xr_32, xr_37, xr_4, xr_43, xr_44, xr_5, xr_64, xr_75, af_0, af_1, xt_goto, xt_ib, xt_ic, xt_ic_ge, xt_ic_gt, xt_ic_le, xt_if_eq, xt_if_ne, xt_ir, xt_nop, xq_277_200_static, xq_96_8_virtualc, iN_add, iN_mul, iN_sub, iN_and, iN_or, iN_clr, iN_shl, iN_shr, tb_r1, b1_z, b1_or, b1_and, b1_or0, b1_or1, b1_0or, b1_t, b1_f, iN_lt, iN_inj, reduceIte, if_true, if_false, Nat.zero_add, Nat.add_zero, Bool.false_eq_true, Bool.true_eq_false, Nat.lt_irrefl, iN_az, not_true_eq_false, not_false_eq_true, Nat.reduceEqDiff, Nat.reduceLT, Nat.reduceAdd, Nat.reduceMul, Nat.reduceSub]
          exact ih
      · rw [if_neg fun z => h1 z.1] at ih
        simp (disch := first | assumption | omega | exact st8_a (Nat.le_of_ble_eq_true rfl)) only [hk2, h1, eb_95_2, eb_95_11, kl_a, kl_d, kl_f, kl_i, kl_l, kl_n, kl_r, xr_1, xr_10, xr_2, xr_27, xr_28, xr_3, xr_30, xr_31, xr_32, xr_37, xr_4, xr_43, xr_44, xr_5, xr_64, xr_75, af_0, af_1, xt_goto, xt_ib, xt_ic, xt_ic_ge, xt_ic_gt, xt_ic_le, xt_if_eq, xt_if_ne, xt_ir, xt_nop, xq_277_200_static, xq_96_8_virtualc, iN_add, iN_mul, iN_sub, iN_and, iN_or, iN_clr, iN_shl, iN_shr, tb_r1, b1_z, b1_or, b1_and, b1_or0, b1_or1, b1_0or, b1_t, b1_f, iN_lt, iN_inj, reduceIte, if_true, if_false, Nat.zero_add, Nat.add_zero, Bool.false_eq_true, Bool.true_eq_false, Nat.lt_irrefl, iN_az, not_true_eq_false, not_false_eq_true, Nat.reduceEqDiff, Nat.reduceLT, Nat.reduceAdd, Nat.reduceMul, Nat.reduceSub]
        exact ih
  have h1 := key 1 (by omega)
  have h0 : fun1 σ u 1 = 0 := by
    rw [fun1, rfo_0]
    have : pc 10 0 = 0 := by decide
    rw [this, if_neg (by omega)]
    rfl
  rw [h0] at h1
  clear key
  simp (disch := first | assumption | omega | exact st8_a (Nat.le_of_ble_eq_true rfl)) only [eb_95_0, kl_a, kl_d, kl_f, kl_i, kl_l, kl_n, kl_r, xr_1, xr_10, xr_2, xr_27, xr_28, xr_3, xr_30, xr_31, xr_32, xr_37, xr_4, xr_43, xr_44, xr_5, xr_64, xr_75, af_0, af_1, xt_goto, xt_ib, xt_ic, xt_ic_ge, xt_ic_gt, xt_ic_le, xt_if_eq, xt_if_ne, xt_ir, xt_nop, xq_277_200_static, xq_96_8_virtualc, iN_add, iN_mul, iN_sub, iN_and, iN_or, iN_clr, iN_shl, iN_shr, tb_r1, b1_z, b1_or, b1_and, b1_or0, b1_or1, b1_0or, b1_t, b1_f, iN_lt, iN_inj, reduceIte, if_true, if_false, Nat.zero_add, Nat.add_zero, Bool.false_eq_true, Bool.true_eq_false, Nat.lt_irrefl, iN_az, not_true_eq_false, not_false_eq_true, Nat.reduceEqDiff, Nat.reduceLT, Nat.reduceAdd, Nat.reduceMul, Nat.reduceSub]
  exact h1
end Sm2
