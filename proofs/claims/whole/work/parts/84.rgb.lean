/-! THE CLASS Rings: weigh -/
/-- the first k lessons of a ring of m take what the next one has -/
def mvk (g f : Nat → Nat) (m : Nat) : Nat → Nat → Nat
  | 0 => f
  | k + 1 => u1 (mvk g f m k) (g k) (f (g (if k + 1 < m then k + 1 else 0)))
abbrev GG : List Nat := [44, 45, 46, 47, 48, 49, 50]
section Rh
variable {xs : List Int32} {σ M N : Nat → Nat → Nat} {R : ab_H} {d k a b u i v n m : Nat} {f g : Nat → Nat}
set_option maxRecDepth 100000 in
theorem mvk_b {n : Nat} (hf : ∀ l, l < n → f l < v) (hg : ∀ j, j < m → g j < n) : ∀ k, k ≤ m → ∀ l, l < n → mvk g f m k l < v := by
  intro k
  induction k with
  | zero => intro _; exact hf
  | succ k ih =>
    intro hk l hl
    rw [mvk]
    by_cases h : l = g k
    · rw [h, u1_s]
      refine hf _ (hg _ ?_)
      split <;> omega
    · rw [u1_n h]
      exact ih (by omega) l hl
set_option maxRecDepth 100000 in
theorem s_48a (O : Ok σ) (hm : m ≤ 4) (hg : ∀ j, j < m → N 51 j < (σ 1 6)) (h13 : ∀ l, l < (σ 1 6) → N 13 l < (σ 1 2)) (h14 : ∀ l, l < (σ 1 6) → N 14 l < (σ 1 5)) : ∀ k, k ≤ m → ∀ y, ∃ z, ev xs (d + 4) 48 2 ([.ref 44, .ref 12, .int (nI m), .int (nI k), y], [], hc σ (ur (ur N 46 (mvk (N 51) (N 13) m k)) 47 (mvk (N 51) (N 14) m k)) R) = ev xs (d + 4) 48 7 ([.ref 44, .ref 12, .int (nI m), .int (nI m), z], [], hc σ (ur (ur N 46 (mvk (N 51) (N 13) m m)) 47 (mvk (N 51) (N 14) m m)) R) := by
  obtain ⟨hD1, hD2, hH1, hH2, hS, hC, hT, hR, hL, hQ⟩ := Ok_b O
  have h12 : TT 12 := by decide
  have h45 : TT 45 := by decide
  refine lp m ?_ ?_
  · intro y
    refine ⟨y, ?_⟩
    rw [eb_48_2]
    simp (disch := first | assumption | omega | exact st8_a (Nat.le_of_ble_eq_true rfl)) only [eb_48_7, kl_a, kl_d, kl_f, kl_i, kl_l, kl_n, kl_r, xr_1, xr_10, xr_11, xr_12, xr_13, xr_14, xr_15, xr_2, xr_27, xr_3, xr_31, xr_32, xr_33, xr_34, xr_37, xr_38, xr_4, xr_43, xr_5, af_0, af_1, xt_goto, xt_ic_ge, xt_if_ne, xt_nop, xt_re, gF_44_1, gF_44_2, gF_44_3, gF_44_4, gF_44_5, gA_2, gA_3, gA_4, gA_5, gA_6, gA_7, gA_8, gA_9, gA_10, gA_11, gA_13, gA_14, gA_16, gA_17, gA_20, gA_21, gA_22, gA_23, gA_24, gA_25, gA_26, gA_27, gA_30, gA_31, gA_32, gA_33, gA_34, gA_35, gA_36, gA_38, gA_39, gA_41, gA_42, gA_46, gA_47, gA_49, gA_50, gA_51, gA_53, gA_56, gA_57, gA_59, gA_60, gW_2, gW_3, gW_4, gW_5, gW_6, gW_7, gW_8, gW_9, gW_10, gW_11, gW_13, gW_14, gW_16, gW_17, gW_20, gW_21, gW_22, gW_23, gW_24, gW_25, gW_26, gW_27, gW_30, gW_31, gW_32, gW_33, gW_34, gW_35, gW_36, gW_38, gW_39, gW_41, gW_42, gW_46, gW_47, gW_49, gW_50, gW_51, gW_53, gW_56, gW_57, gW_59, gW_60, gP_44_5, tF_0 h12, tF_1 h12, tF_2 h12, tF_3 h12, tA_1 h12, tA_2 h12, tW_1 h12, tW_2 h12, tP_0 h12, tP_1 h12, tF_0 h45, tF_1 h45, tF_2 h45, tF_3 h45, tA_1 h45, tA_2 h45, tW_1 h45, tW_2 h45, tP_0 h45, tP_1 h45, tC_1 h12 h45, tC_2 h12 h45, tC_1 h45 h12, tC_2 h45 h12, xq_13_2_virtualc, xq_15_2_virtualc, xq_22_2_virtualc, xq_99_9_virtualt h12, xq_99_9_virtualt h45, iN_add, iN_mul, iN_sub, iN_and, iN_or, iN_clr, iN_shl, iN_shr, tb_r1, b1_z, b1_or, b1_and, b1_or0, b1_or1, b1_0or, b1_t, b1_f, iN_lt, iN_inj, reduceIte, if_true, if_false, Nat.zero_add, Nat.add_zero, Bool.false_eq_true, Bool.true_eq_false, Nat.lt_irrefl, iN_az, not_true_eq_false, not_false_eq_true, Nat.reduceEqDiff, Nat.reduceLT, Nat.reduceAdd, Nat.reduceMul, Nat.reduceSub]
  · intro k hk ih y
    have g1 := hg k hk
    have e1 : N 51 k < 6 := by omega
    rw [eb_48_2]
    by_cases h1 : k + 1 < m
    · have g2 := hg (k + 1) h1
      have e2 : N 51 (k + 1) < 6 := by omega
      obtain ⟨z, e⟩ := ih (.int (nI (N 51 (k + 1))))
      refine ⟨z, ?_⟩
      rw [mvk, mvk, if_pos h1] at e
      have e3 : ∀ a b, up (up (ur (ur N 46 (mvk (N 51) (N 13) m k)) 47 (mvk (N 51) (N 14) m k)) 46 (N 51 k) a) 47 (N 51 k) b = ur (ur N 46 (u1 (mvk (N 51) (N 13) m k) (N 51 k) a)) 47 (u1 (mvk (N 51) (N 14) m k) (N 51 k) b) := fun a b => by
        rw [ur_c (a := 46) (c := 47) (by decide), ur_up, ur_c (a := 47) (c := 46) (by decide), ur_up]
      clear ih
      simp (disch := first | assumption | omega | exact st8_a (Nat.le_of_ble_eq_true rfl)) only [hk, h1, ur_n, up_n, e3, eb_48_3, eb_48_4, eb_48_6, kl_a, kl_d, kl_f, kl_i, kl_l, kl_n, kl_r, xr_1, xr_10, xr_11, xr_12, xr_13, xr_14, xr_15, xr_2, xr_27, xr_3, xr_31, xr_32, xr_33, xr_34, xr_37, xr_38, xr_4, xr_43, xr_5, af_0, af_1, xt_goto, xt_ic_ge, xt_if_ne, xt_nop, xt_re, gF_44_1, gF_44_2, gF_44_3, gF_44_4, gF_44_5, gA_2, gA_3, gA_4, gA_5, gA_6, gA_7, gA_8, gA_9, gA_10, gA_11, gA_13, gA_14, gA_16, gA_17, gA_20, gA_21, gA_22, gA_23, gA_24, gA_25, gA_26, gA_27, gA_30, gA_31, gA_32, gA_33, gA_34, gA_35, gA_36, gA_38, gA_39, gA_41, gA_42, gA_46, gA_47, gA_49, gA_50, gA_51, gA_53, gA_56, gA_57, gA_59, gA_60, gW_2, gW_3, gW_4, gW_5, gW_6, gW_7, gW_8, gW_9, gW_10, gW_11, gW_13, gW_14, gW_16, gW_17, gW_20, gW_21, gW_22, gW_23, gW_24, gW_25, gW_26, gW_27, gW_30, gW_31, gW_32, gW_33, gW_34, gW_35, gW_36, gW_38, gW_39, gW_41, gW_42, gW_46, gW_47, gW_49, gW_50, gW_51, gW_53, gW_56, gW_57, gW_59, gW_60, gP_44_5, tF_0 h12, tF_1 h12, tF_2 h12, tF_3 h12, tA_1 h12, tA_2 h12, tW_1 h12, tW_2 h12, tP_0 h12, tP_1 h12, tF_0 h45, tF_1 h45, tF_2 h45, tF_3 h45, tA_1 h45, tA_2 h45, tW_1 h45, tW_2 h45, tP_0 h45, tP_1 h45, tC_1 h12 h45, tC_2 h12 h45, tC_1 h45 h12, tC_2 h45 h12, xq_13_2_virtualc, xq_15_2_virtualc, xq_22_2_virtualc, xq_99_9_virtualt h12, xq_99_9_virtualt h45, iN_add, iN_mul, iN_sub, iN_and, iN_or, iN_clr, iN_shl, iN_shr, tb_r1, b1_z, b1_or, b1_and, b1_or0, b1_or1, b1_0or, b1_t, b1_f, iN_lt, iN_inj, reduceIte, if_true, if_false, Nat.zero_add, Nat.add_zero, Bool.false_eq_true, Bool.true_eq_false, Nat.lt_irrefl, iN_az, not_true_eq_false, not_false_eq_true, Nat.reduceEqDiff, Nat.reduceLT, Nat.reduceAdd, Nat.reduceMul, Nat.reduceSub]
      exact e
    · have g2 := hg 0 (by omega)
      have e2 : N 51 0 < 6 := by omega
      obtain ⟨z, e⟩ := ih (.int (nI (N 51 0)))
      refine ⟨z, ?_⟩
      rw [mvk, mvk, if_neg h1] at e
      have e3 : ∀ a b, up (up (ur (ur N 46 (mvk (N 51) (N 13) m k)) 47 (mvk (N 51) (N 14) m k)) 46 (N 51 k) a) 47 (N 51 k) b = ur (ur N 46 (u1 (mvk (N 51) (N 13) m k) (N 51 k) a)) 47 (u1 (mvk (N 51) (N 14) m k) (N 51 k) b) := fun a b => by
        rw [ur_c (a := 46) (c := 47) (by decide), ur_up, ur_c (a := 47) (c := 46) (by decide), ur_up]
      clear ih
      simp (disch := first | assumption | omega | exact st8_a (Nat.le_of_ble_eq_true rfl)) only [hk, h1, ur_n, up_n, e3, eb_48_3, eb_48_5, eb_48_6, kl_a, kl_d, kl_f, kl_i, kl_l, kl_n, kl_r, xr_1, xr_10, xr_11, xr_12, xr_13, xr_14, xr_15, xr_2, xr_27, xr_3, xr_31, xr_32, xr_33, xr_34, xr_37, xr_38, xr_4, xr_43, xr_5, af_0, af_1, xt_goto, xt_ic_ge, xt_if_ne, xt_nop, xt_re, gF_44_1, gF_44_2, gF_44_3, gF_44_4, gF_44_5, gA_2, gA_3, gA_4, gA_5, gA_6, gA_7, gA_8, gA_9, gA_10, gA_11, gA_13, gA_14, gA_16, gA_17, gA_20, gA_21, gA_22, gA_23, gA_24, gA_25, gA_26, gA_27, gA_30, gA_31, gA_32, gA_33, gA_34, gA_35, gA_36, gA_38, gA_39, gA_41, gA_42, gA_46, gA_47, gA_49, gA_50, gA_51, gA_53, gA_56, gA_57, gA_59, gA_60, gW_2, gW_3, gW_4, gW_5, gW_6, gW_7, gW_8, gW_9, gW_10, gW_11, gW_13, gW_14, gW_16, gW_17, gW_20, gW_21, gW_22, gW_23, gW_24, gW_25, gW_26, gW_27, gW_30, gW_31, gW_32, gW_33, gW_34, gW_35, gW_36, gW_38, gW_39, gW_41, gW_42, gW_46, gW_47, gW_49, gW_50, gW_51, gW_53, gW_56, gW_57, gW_59, gW_60, gP_44_5, tF_0 h12, tF_1 h12, tF_2 h12, tF_3 h12, tA_1 h12, tA_2 h12, tW_1 h12, tW_2 h12, tP_0 h12, tP_1 h12, tF_0 h45, tF_1 h45, tF_2 h45, tF_3 h45, tA_1 h45, tA_2 h45, tW_1 h45, tW_2 h45, tP_0 h45, tP_1 h45, tC_1 h12 h45, tC_2 h12 h45, tC_1 h45 h12, tC_2 h45 h12, xq_13_2_virtualc, xq_15_2_virtualc, xq_22_2_virtualc, xq_99_9_virtualt h12, xq_99_9_virtualt h45, iN_add, iN_mul, iN_sub, iN_and, iN_or, iN_clr, iN_shl, iN_shr, tb_r1, b1_z, b1_or, b1_and, b1_or0, b1_or1, b1_0or, b1_t, b1_f, iN_lt, iN_inj, reduceIte, if_true, if_false, Nat.zero_add, Nat.add_zero, Bool.false_eq_true, Bool.true_eq_false, Nat.lt_irrefl, iN_az, not_true_eq_false, not_false_eq_true, Nat.reduceEqDiff, Nat.reduceLT, Nat.reduceAdd, Nat.reduceMul, Nat.reduceSub]
      exact e
end Rh
