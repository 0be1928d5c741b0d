/-! THE CLASS Check: stands, clashesWithNone, countTimetables -/
def std (σ : Nat → Nat → Nat) (l s r : Nat) : Bool := sty σ l s && sts σ l r
/-- how many values of a lesson stand -/
def nst (σ : Nat → Nat → Nat) (l : Nat) : Nat := sm (σ 1 2) fun s => sm (σ 1 5) fun r => b1 (std σ l s r)
def prd (n : Nat) (f : Nat → Nat) : Nat := match n with
  | 0 => 1
  | n + 1 => prd n f * f n
set_option maxRecDepth 100000 in
theorem prd_le {n c : Nat} {f : Nat → Nat} (h : ∀ i, i < n → f i ≤ c) : prd n f ≤ c ^ n := by
  induction n with
  | zero => exact Nat.le_refl _
  | succ n ih =>
    rw [prd, Nat.pow_succ]
    exact Nat.mul_le_mul (ih fun i hi => h i (by omega)) (h n (by omega))
section Ch
variable {xs : List Int32} {σ M N : Nat → Nat → Nat} {R : ab_H} {d k a b u i v n m l s r : Nat}
set_option maxRecDepth 100000 in
theorem s_4 (O : Ok σ) (hl : l < (σ 1 6)) (hs : s < (σ 1 2)) (hr : r < (σ 1 5)) : ev xs (d + 2) 4 0 ([.ref 54, .int (nI l), .int (nI s), .int (nI r)], [], hc σ M R) = some (.inl (some (.int (nI (b1 (std σ l s r))))), hc σ M R) := by
  obtain ⟨hD1, hD2, hH1, hH2, hS, hC, hT, hR, hL, hQ⟩ := Ok_b O
  have e1 := s_64 (xs := xs) (d := d) (M := M) (R := R) O hl hs
  have e2 := s_65 (xs := xs) (d := d + 1) (M := M) (R := R) O hl hr
  unfold std
  cases h1 : sty σ l s
  · rw [h1] at e1
    rw [Bool.false_and]
    simp (disch := first | assumption | omega | exact st8_a (Nat.le_of_ble_eq_true rfl)) only [e1, eb_4_0, eb_4_1, eb_4_2, eb_4_3, eb_4_4, eb_4_5, eb_4_6, xr_1, xr_10, xr_2, xr_27, xr_28, xr_3, xr_31, xr_37, xr_4, xr_5, af_0, af_1, xt_goto, xt_ib, xt_ic, xt_if_eq, xt_ir, xt_nop, gF_54_0, xq_64_6_virtualc, xq_65_6_virtualc, iN_add, iN_mul, iN_sub, iN_and, iN_or, iN_clr, iN_shl, iN_shr, tb_r1, b1_z, b1_or, b1_and, b1_or0, b1_or1, b1_0or, b1_t, b1_f, iN_lt, iN_inj, reduceIte, if_true, if_false, Nat.zero_add, Nat.add_zero, Bool.false_eq_true, Bool.true_eq_false, Nat.lt_irrefl, iN_az, not_true_eq_false, not_false_eq_true, Nat.reduceEqDiff, Nat.reduceLT, Nat.reduceAdd, Nat.reduceMul, Nat.reduceSub]
  · rw [h1] at e1
    cases h2 : sts σ l r
    · rw [h2] at e2
      simp (disch := first | assumption | omega | exact st8_a (Nat.le_of_ble_eq_true rfl)) only [e1, e2, Bool.and_false, eb_4_0, eb_4_1, eb_4_2, eb_4_3, eb_4_4, eb_4_5, eb_4_6, xr_1, xr_10, xr_2, xr_27, xr_28, xr_3, xr_31, xr_37, xr_4, xr_5, af_0, af_1, xt_goto, xt_ib, xt_ic, xt_if_eq, xt_ir, xt_nop, gF_54_0, xq_64_6_virtualc, xq_65_6_virtualc, iN_add, iN_mul, iN_sub, iN_and, iN_or, iN_clr, iN_shl, iN_shr, tb_r1, b1_z, b1_or, b1_and, b1_or0, b1_or1, b1_0or, b1_t, b1_f, iN_lt, iN_inj, reduceIte, if_true, if_false, Nat.zero_add, Nat.add_zero, Bool.false_eq_true, Bool.true_eq_false, Nat.lt_irrefl, iN_az, not_true_eq_false, not_false_eq_true, Nat.reduceEqDiff, Nat.reduceLT, Nat.reduceAdd, Nat.reduceMul, Nat.reduceSub]
    · rw [h2] at e2
      simp (disch := first | assumption | omega | exact st8_a (Nat.le_of_ble_eq_true rfl)) only [e1, e2, Bool.and_self, eb_4_0, eb_4_1, eb_4_2, eb_4_3, eb_4_4, eb_4_5, eb_4_6, xr_1, xr_10, xr_2, xr_27, xr_28, xr_3, xr_31, xr_37, xr_4, xr_5, af_0, af_1, xt_goto, xt_ib, xt_ic, xt_if_eq, xt_ir, xt_nop, gF_54_0, xq_64_6_virtualc, xq_65_6_virtualc, iN_add, iN_mul, iN_sub, iN_and, iN_or, iN_clr, iN_shl, iN_shr, tb_r1, b1_z, b1_or, b1_and, b1_or0, b1_or1, b1_0or, b1_t, b1_f, iN_lt, iN_inj, reduceIte, if_true, if_false, Nat.zero_add, Nat.add_zero, Bool.false_eq_true, Bool.true_eq_false, Nat.lt_irrefl, iN_az, not_true_eq_false, not_false_eq_true, Nat.reduceEqDiff, Nat.reduceLT, Nat.reduceAdd, Nat.reduceMul, Nat.reduceSub]
set_option maxRecDepth 100000 in
theorem pf_le {s r : Nat → Nat} {o : Nat} : pf σ s r l o ≤ 3 := by
  unfold pf
  split
  · omega
  · have := b1_lt (sc σ l o)
    have := b1_lt (stc σ l o)
    have := b1_lt (decide (r l = r o))
    omega
set_option maxRecDepth 100000 in
theorem s_6 (O : Ok σ) (hl : l < (σ 1 6)) (hs : ∀ l, l < (σ 1 6) → M 56 l < (σ 1 2)) (hr : ∀ l, l < (σ 1 6) → M 57 l < (σ 1 5)) : ∃ b : Bool, ev xs (d + 2) 6 0 ([.ref 54, .int (nI l), .retAddr 9], [], hc σ M R) = some (.inl (some (.int (nI (b1 b)))), hc σ M R) ∧ (b = true ↔ ∀ o, o < l → pf σ (M 56) (M 57) l o = 0) := by
  obtain ⟨hD1, hD2, hH1, hH2, hS, hC, hT, hR, hL, hQ⟩ := Ok_b O
  have h55 : TT 55 := by decide
  have key : ∀ k, k ≤ l → ∃ b : Bool, ev xs (d + 2) 6 1 ([.ref 54, .int (nI l), .int (nI k)], [], hc σ M R) = some (.inl (some (.int (nI (b1 b)))), hc σ M R) ∧ (b = true ↔ ∀ o, k ≤ o → o < l → pf σ (M 56) (M 57) l o = 0) := by
    refine lp l ?_ ?_
    · refine ⟨true, ?_, ⟨fun _ o h1 h2 => by omega, fun _ => rfl⟩⟩
      rw [eb_6_1]
      simp (disch := first | assumption | omega | exact st8_a (Nat.le_of_ble_eq_true rfl)) only [eb_6_6, kl_a, kl_d, kl_f, kl_i, kl_l, kl_n, kl_r, xr_1, xr_10, xr_2, xr_27, xr_28, xr_3, xr_30, xr_31, xr_4, xr_42, xr_5, af_0, af_1, xt_goto, xt_ib, xt_ic, xt_ic_ge, xt_if_le, xt_ir, xt_nop, gF_54_1, gF_54_3, xq_14_2_virtualc, iN_add, iN_mul, iN_sub, iN_and, iN_or, iN_clr, iN_shl, iN_shr, tb_r1, b1_z, b1_or, b1_and, b1_or0, b1_or1, b1_0or, b1_t, b1_f, iN_lt, iN_inj, reduceIte, if_true, if_false, Nat.zero_add, Nat.add_zero, Bool.false_eq_true, Bool.true_eq_false, Nat.lt_irrefl, iN_az, not_true_eq_false, not_false_eq_true, Nat.reduceEqDiff, Nat.reduceLT, Nat.reduceAdd, Nat.reduceMul, Nat.reduceSub]
    · intro k hk ⟨b, e, q⟩
      have e1 := s_14 (xs := xs) (d := d) (M := M) (R := R) (t := 55) O h55 hs hr hl (show k < (σ 1 6) by omega)
      rw [show (55 : Nat) + 1 = 56 from rfl, show (55 : Nat) + 2 = 57 from rfl] at e1
      have hp := pf_le (σ := σ) (s := M 56) (r := M 57) (l := l) (o := k)
      rw [eb_6_1]
      by_cases h0 : pf σ (M 56) (M 57) l k = 0
      · refine ⟨b, ?_, ?_⟩
        · rw [h0] at e1
          clear q
          simp (disch := first | assumption | omega | exact st8_a (Nat.le_of_ble_eq_true rfl)) only [hk, e1, eb_6_2, eb_6_3, eb_6_5, kl_a, kl_d, kl_f, kl_i, kl_l, kl_n, kl_r, xr_1, xr_10, xr_2, xr_27, xr_28, xr_3, xr_30, xr_31, xr_4, xr_42, xr_5, af_0, af_1, xt_goto, xt_ib, xt_ic, xt_ic_ge, xt_if_le, xt_ir, xt_nop, gF_54_1, gF_54_3, xq_14_2_virtualc, iN_add, iN_mul, iN_sub, iN_and, iN_or, iN_clr, iN_shl, iN_shr, tb_r1, b1_z, b1_or, b1_and, b1_or0, b1_or1, b1_0or, b1_t, b1_f, iN_lt, iN_inj, reduceIte, if_true, if_false, Nat.zero_add, Nat.add_zero, Bool.false_eq_true, Bool.true_eq_false, Nat.lt_irrefl, iN_az, not_true_eq_false, not_false_eq_true, Nat.reduceEqDiff, Nat.reduceLT, Nat.reduceAdd, Nat.reduceMul, Nat.reduceSub]
          exact e
        · rw [q]
          constructor
          · intro h o h1 h2
            by_cases hok : o = k
            · rw [hok]; exact h0
            · exact h o (by omega) h2
          · intro h o h1 h2
            exact h o (by omega) h2
      · refine ⟨false, ?_, ⟨fun z => (by cases z), fun h => absurd (h k (Nat.le_refl _) hk) h0⟩⟩
        have h1 : (0 < pf σ (M 56) (M 57) l k) = True := eq_true (by omega)
        clear q
        simp (disch := first | assumption | omega | exact st8_a (Nat.le_of_ble_eq_true rfl)) only [hk, e1, h1, eb_6_2, eb_6_3, eb_6_4, kl_a, kl_d, kl_f, kl_i, kl_l, kl_n, kl_r, xr_1, xr_10, xr_2, xr_27, xr_28, xr_3, xr_30, xr_31, xr_4, xr_42, xr_5, af_0, af_1, xt_goto, xt_ib, xt_ic, xt_ic_ge, xt_if_le, xt_ir, xt_nop, gF_54_1, gF_54_3, xq_14_2_virtualc, iN_add, iN_mul, iN_sub, iN_and, iN_or, iN_clr, iN_shl, iN_shr, tb_r1, b1_z, b1_or, b1_and, b1_or0, b1_or1, b1_0or, b1_t, b1_f, iN_lt, iN_inj, reduceIte, if_true, if_false, Nat.zero_add, Nat.add_zero, Bool.false_eq_true, Bool.true_eq_false, Nat.lt_irrefl, iN_az, not_true_eq_false, not_false_eq_true, Nat.reduceEqDiff, Nat.reduceLT, Nat.reduceAdd, Nat.reduceMul, Nat.reduceSub]
  obtain ⟨b, e, q⟩ := key 0 (Nat.zero_le _)
  refine ⟨b, ?_, by rw [q]; exact ⟨fun h o => h o (Nat.zero_le _), fun h o _ => h o⟩⟩
  clear q key
  simp (disch := first | assumption | omega | exact st8_a (Nat.le_of_ble_eq_true rfl)) only [eb_6_0, kl_a, kl_d, kl_f, kl_i, kl_l, kl_n, kl_r, xr_1, xr_10, xr_2, xr_27, xr_28, xr_3, xr_30, xr_31, xr_4, xr_42, xr_5, af_0, af_1, xt_goto, xt_ib, xt_ic, xt_ic_ge, xt_if_le, xt_ir, xt_nop, gF_54_1, gF_54_3, xq_14_2_virtualc, iN_add, iN_mul, iN_sub, iN_and, iN_or, iN_clr, iN_shl, iN_shr, tb_r1, b1_z, b1_or, b1_and, b1_or0, b1_or1, b1_0or, b1_t, b1_f, iN_lt, iN_inj, reduceIte, if_true, if_false, Nat.zero_add, Nat.add_zero, Bool.false_eq_true, Bool.true_eq_false, Nat.lt_irrefl, iN_az, not_true_eq_false, not_false_eq_true, Nat.reduceEqDiff, Nat.reduceLT, Nat.reduceAdd, Nat.reduceMul, Nat.reduceSub]
  exact e
end Ch
