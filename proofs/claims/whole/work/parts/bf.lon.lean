/-! LONGS; the model's bitAt -/
section Lon
variable {xs : List Int32} {d a b c k n u : Nat} {h : ab_H}
set_option maxRecDepth 100000 in
theorem lN_ti (h : a < 9223372036854775808) : (lN a).toInt = a := by
  unfold lN
  exact Int64.toInt_ofNat_of_lt h
set_option maxRecDepth 100000 in
theorem lN_i2l (h : a < 2147483648) : (nI a).toInt64 = lN a := by
  apply Int64.toInt_inj.mp
  rw [lN_ti (by omega), Int32.toInt_toInt64, iN_tn h]
set_option maxRecDepth 100000 in
theorem lc_gt (ha : a < 2147483648) (hb : b < 2147483648) (h : b < a) : lg_cmp (lN a) (lN b) = nI 1 := if_pos ((lN_lt (by omega) (by omega)).mpr h)
set_option maxRecDepth 100000 in
theorem lc_eq : lg_cmp (lN a) (lN a) = nI 0 := by
  unfold lg_cmp
  rw [if_neg (Int64.lt_irrefl), if_pos rfl]
  rfl
set_option maxRecDepth 100000 in
theorem lc_lt (ha : a < 2147483648) (hb : b < 2147483648) (h : a < b) : lg_cmp (lN a) (lN b) = nI 4294967295 := by
  unfold lg_cmp
  rw [if_neg fun z => by have := (lN_lt (by omega) (by omega)).mp z; omega, if_neg fun z => by have := (lN_eq (by omega) (by omega)).mp z; omega]
  rfl
set_option maxRecDepth 100000 in
theorem m_276 (hu : u < 262144) (hk : k < pc 18 u) : ∃ v, v < 18 ∧ u.testBit v = true ∧ pc v u = k ∧ ev xs d 276 0 ([.int (nI u), .int (nI k), .retAddr 9, .retAddr 9], [], h) = some (.inl (some (.int (nI (v)))), h) := by
  have h18 := pc_le 18 u
  have key : ∀ j, j ≤ 18 → pc j u ≤ k → ∃ v, v < 18 ∧ u.testBit v = true ∧ pc v u = k ∧ ev xs d 276 1 ([.int (nI u), .int (nI k), .int (nI (k - pc j u)), .int (nI j)], [], h) = some (.inl (some (.int (nI (v)))), h) := by
    refine lp 18 ?_ ?_
    · intro h1
      omega
    · intro j hj ih h1
      have hj32 : j < 32 := by omega
      cases hb : u.testBit j
      · have hp : pc (j + 1) u = pc j u := by rw [pc, hb, b1_f, Nat.add_zero]
        obtain ⟨v, q1, q2, q3, e⟩ := ih (by omega)
        rw [hp] at e
        refine ⟨v, q1, q2, q3, ?_⟩
        rw [← e, eb_276_1]
        clear ih q1 q2 q3 e
        simp (disch := first | assumption | omega | exact st8_a (Nat.le_of_ble_eq_true rfl)) only [hb, Nat.sub_zero, eb_276_3, kl_a, kl_d, kl_f, kl_i, kl_l, kl_n, kl_r, xr_10, xr_27, xr_28, xr_30, xr_31, xr_32, xr_37, xr_43, xr_44, xr_55, xr_72, xr_77, xt_goto, xt_ib, xt_ic, xt_if_eq, xt_if_le, xt_ir, xt_nop, iN_add, iN_mul, iN_sub, iN_and, iN_or, iN_clr, iN_shl, iN_shr, tb_r1, b1_z, b1_or, b1_and, b1_or0, b1_or1, b1_0or, b1_t, b1_f, iN_lt, iN_inj, reduceIte, if_true, if_false, Nat.zero_add, Nat.add_zero, Bool.false_eq_true, Bool.true_eq_false, Nat.lt_irrefl, iN_az, not_true_eq_false, not_false_eq_true, Nat.reduceEqDiff, Nat.reduceLT, Nat.reduceAdd, Nat.reduceMul, Nat.reduceSub]
      · have hp : pc (j + 1) u = pc j u + 1 := by rw [pc, hb, b1_t]
        by_cases h2 : pc j u = k
        · refine ⟨j, hj, hb, h2, ?_⟩
          rw [h2, Nat.sub_self, eb_276_1]
          clear ih
          simp (disch := first | assumption | omega | exact st8_a (Nat.le_of_ble_eq_true rfl)) only [hb, eb_276_2, eb_276_4, kl_a, kl_d, kl_f, kl_i, kl_l, kl_n, kl_r, xr_10, xr_27, xr_28, xr_30, xr_31, xr_32, xr_37, xr_43, xr_44, xr_55, xr_72, xr_77, xt_goto, xt_ib, xt_ic, xt_if_eq, xt_if_le, xt_ir, xt_nop, iN_add, iN_mul, iN_sub, iN_and, iN_or, iN_clr, iN_shl, iN_shr, tb_r1, b1_z, b1_or, b1_and, b1_or0, b1_or1, b1_0or, b1_t, b1_f, iN_lt, iN_inj, reduceIte, if_true, if_false, Nat.zero_add, Nat.add_zero, Bool.false_eq_true, Bool.true_eq_false, Nat.lt_irrefl, iN_az, not_true_eq_false, not_false_eq_true, Nat.reduceEqDiff, Nat.reduceLT, Nat.reduceAdd, Nat.reduceMul, Nat.reduceSub]
        · obtain ⟨v, q1, q2, q3, e⟩ := ih (by omega)
          rw [hp] at e
          refine ⟨v, q1, q2, q3, ?_⟩
          have h3 : 0 < k - pc j u := by omega
          have h4 : k - pc j u - 1 = k - (pc j u + 1) := by omega
          rw [← e, eb_276_1]
          clear ih q1 q2 q3 e
          simp (disch := first | assumption | omega | exact st8_a (Nat.le_of_ble_eq_true rfl)) only [hb, h3, h4, eb_276_2, eb_276_3, kl_a, kl_d, kl_f, kl_i, kl_l, kl_n, kl_r, xr_10, xr_27, xr_28, xr_30, xr_31, xr_32, xr_37, xr_43, xr_44, xr_55, xr_72, xr_77, xt_goto, xt_ib, xt_ic, xt_if_eq, xt_if_le, xt_ir, xt_nop, iN_add, iN_mul, iN_sub, iN_and, iN_or, iN_clr, iN_shl, iN_shr, tb_r1, b1_z, b1_or, b1_and, b1_or0, b1_or1, b1_0or, b1_t, b1_f, iN_lt, iN_inj, reduceIte, if_true, if_false, Nat.zero_add, Nat.add_zero, Bool.false_eq_true, Bool.true_eq_false, Nat.lt_irrefl, iN_az, not_true_eq_false, not_false_eq_true, Nat.reduceEqDiff, Nat.reduceLT, Nat.reduceAdd, Nat.reduceMul, Nat.reduceSub]
  obtain ⟨v, q1, q2, q3, e⟩ := key 0 (Nat.zero_le _) (Nat.zero_le _)
  refine ⟨v, q1, q2, q3, ?_⟩
  rw [pc, Nat.sub_zero] at e
  rw [← e]
  clear key q1 q2 q3 e
  simp (disch := first | assumption | omega | exact st8_a (Nat.le_of_ble_eq_true rfl)) only [eb_276_0, kl_a, kl_d, kl_f, kl_i, kl_l, kl_n, kl_r, xr_10, xr_27, xr_28, xr_30, xr_31, xr_32, xr_37, xr_43, xr_44, xr_55, xr_72, xr_77, xt_goto, xt_ib, xt_ic, xt_if_eq, xt_if_le, xt_ir, xt_nop, iN_add, iN_mul, iN_sub, iN_and, iN_or, iN_clr, iN_shl, iN_shr, tb_r1, b1_z, b1_or, b1_and, b1_or0, b1_or1, b1_0or, b1_t, b1_f, iN_lt, iN_inj, reduceIte, if_true, if_false, Nat.zero_add, Nat.add_zero, Bool.false_eq_true, Bool.true_eq_false, Nat.lt_irrefl, iN_az, not_true_eq_false, not_false_eq_true, Nat.reduceEqDiff, Nat.reduceLT, Nat.reduceAdd, Nat.reduceMul, Nat.reduceSub]
end Lon
