/-! THE CLASS Check: countTimetables, look -/
set_option maxRecDepth 100000 in
theorem up_id {M : Nat → Nat → Nat} {a i v : Nat} (h : M a i = v) : up M a i v = M := by
  funext b j
  by_cases h1 : b = a
  · subst h1
    rw [up_s]
    by_cases h2 : j = i
    · rw [h2, u1_s, h]
    · rw [u1_n h2]
  · rw [up_n h1]
/-- as two tables, below l -/
def AG (l : Nat) (s r s2 r2 : Nat → Nat) : Prop := ∀ j, j < l → s j = s2 j ∧ r j = r2 j
section Cc
variable {xs : List Int32} {σ M N : Nat → Nat → Nat} {R : ab_H} {d k a u i n m l : Nat} {s r s2 r2 t v : Nat → Nat} {W : Prop} {A B : (Nat → Nat) → (Nat → Nat) → Prop}
set_option maxRecDepth 100000 in
theorem nst_le (O : Ok σ) : nst σ l ≤ 18 := by
  obtain ⟨hD1, hD2, hH1, hH2, hS, hC, hT, hR, hL, hQ⟩ := Ok_b O
  have h1 := sm_le (n := (σ 1 2)) (c := 3) (f := fun s => sm (σ 1 5) fun r => b1 (std σ l s r)) fun s _ => by
    have := sm_le (n := (σ 1 5)) (c := 1) (f := fun r => b1 (std σ l s r)) fun r _ => Nat.le_of_lt_succ (b1_lt _)
    omega
  unfold nst
  omega
set_option maxRecDepth 100000 in
theorem prd_b (O : Ok σ) (hk : k ≤ (σ 1 6)) : prd k (nst σ) ≤ 34012224 := by
  obtain ⟨hD1, hD2, hH1, hH2, hS, hC, hT, hR, hL, hQ⟩ := Ok_b O
  have h1 := prd_le (n := k) (c := 18) (f := nst σ) fun i _ => nst_le O
  have h2 : 18 ^ k ≤ 18 ^ 6 := Nat.pow_le_pow_right (by decide) (by omega)
  have h3 : (18 : Nat) ^ 6 = 34012224 := rfl
  omega
set_option maxRecDepth 100000 in
theorem s_3 (O : Ok σ) : ev xs (d + 3) 3 0 ([.ref 54, .retAddr 9, .retAddr 9, .retAddr 9, .retAddr 9, .retAddr 9], [], hc σ M R) = some (.inl (some (.int (nI (prd (σ 1 6) (nst σ))))), hc σ M R) := by
  obtain ⟨hD1, hD2, hH1, hH2, hS, hC, hT, hR, hL, hQ⟩ := Ok_b O
  have key : ∀ k, k ≤ (σ 1 6) → ∀ p y3 y4 y5, p = prd k (nst σ) → ev xs (d + 3) 3 1 ([.ref 54, .int (nI p), .int (nI k), y3, y4, y5], [], hc σ M R) = some (.inl (some (.int (nI (prd (σ 1 6) (nst σ))))), hc σ M R) := by
    refine lp (σ 1 6) ?_ ?_
    · intro p y3 y4 y5 hp
      rw [eb_3_1]
      simp (disch := first | assumption | omega | exact st8_a (Nat.le_of_ble_eq_true rfl)) only [eb_3_13, kl_a, kl_d, kl_f, kl_i, kl_l, kl_n, kl_r, xr_1, xr_10, xr_2, xr_27, xr_28, xr_29, xr_3, xr_30, xr_31, xr_32, xr_33, xr_34, xr_35, xr_36, xr_37, xr_38, xr_39, xr_4, xr_40, xr_41, xr_42, xr_5, af_0, af_1, xt_goto, xt_ib, xt_ic, xt_ic_ge, xt_if_eq, xt_ir, xt_nop, gF_54_0, gF_1_2, gF_1_5, gF_1_6, xq_4_0_virtualc, iN_add, iN_mul, iN_sub, iN_and, iN_or, iN_clr, iN_shl, iN_shr, tb_r1, b1_z, b1_or, b1_and, b1_or0, b1_or1, b1_0or, b1_t, b1_f, iN_lt, iN_inj, reduceIte, if_true, if_false, Nat.zero_add, Nat.add_zero, Bool.false_eq_true, Bool.true_eq_false, Nat.lt_irrefl, iN_az, not_true_eq_false, not_false_eq_true, Nat.reduceEqDiff, Nat.reduceLT, Nat.reduceAdd, Nat.reduceMul, Nat.reduceSub]
      rw [hp]
    · intro k hk ih p y3 y4 y5 hp
      have hb := prd_b O (k := k) (by omega)
      have mid : ∀ j, j ≤ (σ 1 2) → ∀ acc y5, acc = (sm j fun s => sm (σ 1 5) fun r => b1 (std σ k s r)) → ev xs (d + 3) 3 3 ([.ref 54, .int (nI p), .int (nI k), .int (nI acc), .int (nI j), y5], [], hc σ M R) = some (.inl (some (.int (nI (prd (σ 1 6) (nst σ))))), hc σ M R) := by
        refine lp (σ 1 2) ?_ ?_
        · intro acc y5 ha
          rw [eb_3_3]
          simp (disch := first | assumption | omega | exact st8_a (Nat.le_of_ble_eq_true rfl)) only [eb_3_12, kl_a, kl_d, kl_f, kl_i, kl_l, kl_n, kl_r, xr_1, xr_10, xr_2, xr_27, xr_28, xr_29, xr_3, xr_30, xr_31, xr_32, xr_33, xr_34, xr_35, xr_36, xr_37, xr_38, xr_39, xr_4, xr_40, xr_41, xr_42, xr_5, af_0, af_1, xt_goto, xt_ib, xt_ic, xt_ic_ge, xt_if_eq, xt_ir, xt_nop, gF_54_0, gF_1_2, gF_1_5, gF_1_6, xq_4_0_virtualc, iN_add, iN_mul, iN_sub, iN_and, iN_or, iN_clr, iN_shl, iN_shr, tb_r1, b1_z, b1_or, b1_and, b1_or0, b1_or1, b1_0or, b1_t, b1_f, iN_lt, iN_inj, reduceIte, if_true, if_false, Nat.zero_add, Nat.add_zero, Bool.false_eq_true, Bool.true_eq_false, Nat.lt_irrefl, iN_az, not_true_eq_false, not_false_eq_true, Nat.reduceEqDiff, Nat.reduceLT, Nat.reduceAdd, Nat.reduceMul, Nat.reduceSub]
          exact ih _ _ _ _ (by rw [ha, hp]; rfl)
        · intro j hj ih2 acc y5 ha
          have inn : ∀ i, i ≤ (σ 1 5) → ∀ acc, acc = (sm j fun s => sm (σ 1 5) fun r => b1 (std σ k s r)) + (sm i fun r => b1 (std σ k j r)) → ev xs (d + 3) 3 5 ([.ref 54, .int (nI p), .int (nI k), .int (nI acc), .int (nI j), .int (nI i)], [], hc σ M R) = some (.inl (some (.int (nI (prd (σ 1 6) (nst σ))))), hc σ M R) := by
            refine lp (σ 1 5) ?_ ?_
            · intro acc ha
              rw [eb_3_5]
              simp (disch := first | assumption | omega | exact st8_a (Nat.le_of_ble_eq_true rfl)) only [eb_3_11, kl_a, kl_d, kl_f, kl_i, kl_l, kl_n, kl_r, xr_1, xr_10, xr_2, xr_27, xr_28, xr_29, xr_3, xr_30, xr_31, xr_32, xr_33, xr_34, xr_35, xr_36, xr_37, xr_38, xr_39, xr_4, xr_40, xr_41, xr_42, xr_5, af_0, af_1, xt_goto, xt_ib, xt_ic, xt_ic_ge, xt_if_eq, xt_ir, xt_nop, gF_54_0, gF_1_2, gF_1_5, gF_1_6, xq_4_0_virtualc, iN_add, iN_mul, iN_sub, iN_and, iN_or, iN_clr, iN_shl, iN_shr, tb_r1, b1_z, b1_or, b1_and, b1_or0, b1_or1, b1_0or, b1_t, b1_f, iN_lt, iN_inj, reduceIte, if_true, if_false, Nat.zero_add, Nat.add_zero, Bool.false_eq_true, Bool.true_eq_false, Nat.lt_irrefl, iN_az, not_true_eq_false, not_false_eq_true, Nat.reduceEqDiff, Nat.reduceLT, Nat.reduceAdd, Nat.reduceMul, Nat.reduceSub]
              exact ih2 _ _ (by rw [ha, sm])
            · intro i hi ih3 acc ha
              have e := s_4 (xs := xs) (d := d) (M := M) (R := R) O hk hj hi
              rw [eb_3_5]
              cases h : std σ k j i <;> rw [h] at e
              · simp (disch := first | assumption | omega | exact st8_a (Nat.le_of_ble_eq_true rfl)) only [hi, e, eb_3_6, eb_3_7, eb_3_9, eb_3_10, kl_a, kl_d, kl_f, kl_i, kl_l, kl_n, kl_r, xr_1, xr_10, xr_2, xr_27, xr_28, xr_29, xr_3, xr_30, xr_31, xr_32, xr_33, xr_34, xr_35, xr_36, xr_37, xr_38, xr_39, xr_4, xr_40, xr_41, xr_42, xr_5, af_0, af_1, xt_goto, xt_ib, xt_ic, xt_ic_ge, xt_if_eq, xt_ir, xt_nop, gF_54_0, gF_1_2, gF_1_5, gF_1_6, xq_4_0_virtualc, iN_add, iN_mul, iN_sub, iN_and, iN_or, iN_clr, iN_shl, iN_shr, tb_r1, b1_z, b1_or, b1_and, b1_or0, b1_or1, b1_0or, b1_t, b1_f, iN_lt, iN_inj, reduceIte, if_true, if_false, Nat.zero_add, Nat.add_zero, Bool.false_eq_true, Bool.true_eq_false, Nat.lt_irrefl, iN_az, not_true_eq_false, not_false_eq_true, Nat.reduceEqDiff, Nat.reduceLT, Nat.reduceAdd, Nat.reduceMul, Nat.reduceSub]
                exact ih3 _ (by rw [ha, sm, h]; rfl)
              · simp (disch := first | assumption | omega | exact st8_a (Nat.le_of_ble_eq_true rfl)) only [hi, e, eb_3_6, eb_3_7, eb_3_8, eb_3_10, kl_a, kl_d, kl_f, kl_i, kl_l, kl_n, kl_r, xr_1, xr_10, xr_2, xr_27, xr_28, xr_29, xr_3, xr_30, xr_31, xr_32, xr_33, xr_34, xr_35, xr_36, xr_37, xr_38, xr_39, xr_4, xr_40, xr_41, xr_42, xr_5, af_0, af_1, xt_goto, xt_ib, xt_ic, xt_ic_ge, xt_if_eq, xt_ir, xt_nop, gF_54_0, gF_1_2, gF_1_5, gF_1_6, xq_4_0_virtualc, iN_add, iN_mul, iN_sub, iN_and, iN_or, iN_clr, iN_shl, iN_shr, tb_r1, b1_z, b1_or, b1_and, b1_or0, b1_or1, b1_0or, b1_t, b1_f, iN_lt, iN_inj, reduceIte, if_true, if_false, Nat.zero_add, Nat.add_zero, Bool.false_eq_true, Bool.true_eq_false, Nat.lt_irrefl, iN_az, not_true_eq_false, not_false_eq_true, Nat.reduceEqDiff, Nat.reduceLT, Nat.reduceAdd, Nat.reduceMul, Nat.reduceSub]
                exact ih3 _ (by rw [ha, sm, h, b1_t]; omega)
          rw [eb_3_3]
          simp (disch := first | assumption | omega | exact st8_a (Nat.le_of_ble_eq_true rfl)) only [hj, eb_3_4, kl_a, kl_d, kl_f, kl_i, kl_l, kl_n, kl_r, xr_1, xr_10, xr_2, xr_27, xr_28, xr_29, xr_3, xr_30, xr_31, xr_32, xr_33, xr_34, xr_35, xr_36, xr_37, xr_38, xr_39, xr_4, xr_40, xr_41, xr_42, xr_5, af_0, af_1, xt_goto, xt_ib, xt_ic, xt_ic_ge, xt_if_eq, xt_ir, xt_nop, gF_54_0, gF_1_2, gF_1_5, gF_1_6, xq_4_0_virtualc, iN_add, iN_mul, iN_sub, iN_and, iN_or, iN_clr, iN_shl, iN_shr, tb_r1, b1_z, b1_or, b1_and, b1_or0, b1_or1, b1_0or, b1_t, b1_f, iN_lt, iN_inj, reduceIte, if_true, if_false, Nat.zero_add, Nat.add_zero, Bool.false_eq_true, Bool.true_eq_false, Nat.lt_irrefl, iN_az, not_true_eq_false, not_false_eq_true, Nat.reduceEqDiff, Nat.reduceLT, Nat.reduceAdd, Nat.reduceMul, Nat.reduceSub]
          exact inn 0 (Nat.zero_le _) _ (by rw [ha]; rfl)
      rw [eb_3_1]
      simp (disch := first | assumption | omega | exact st8_a (Nat.le_of_ble_eq_true rfl)) only [hk, eb_3_2, kl_a, kl_d, kl_f, kl_i, kl_l, kl_n, kl_r, xr_1, xr_10, xr_2, xr_27, xr_28, xr_29, xr_3, xr_30, xr_31, xr_32, xr_33, xr_34, xr_35, xr_36, xr_37, xr_38, xr_39, xr_4, xr_40, xr_41, xr_42, xr_5, af_0, af_1, xt_goto, xt_ib, xt_ic, xt_ic_ge, xt_if_eq, xt_ir, xt_nop, gF_54_0, gF_1_2, gF_1_5, gF_1_6, xq_4_0_virtualc, iN_add, iN_mul, iN_sub, iN_and, iN_or, iN_clr, iN_shl, iN_shr, tb_r1, b1_z, b1_or, b1_and, b1_or0, b1_or1, b1_0or, b1_t, b1_f, iN_lt, iN_inj, reduceIte, if_true, if_false, Nat.zero_add, Nat.add_zero, Bool.false_eq_true, Bool.true_eq_false, Nat.lt_irrefl, iN_az, not_true_eq_false, not_false_eq_true, Nat.reduceEqDiff, Nat.reduceLT, Nat.reduceAdd, Nat.reduceMul, Nat.reduceSub]
      exact mid 0 (Nat.zero_le _) _ _ rfl
  simp (disch := first | assumption | omega | exact st8_a (Nat.le_of_ble_eq_true rfl)) only [eb_3_0, kl_a, kl_d, kl_f, kl_i, kl_l, kl_n, kl_r, xr_1, xr_10, xr_2, xr_27, xr_28, xr_29, xr_3, xr_30, xr_31, xr_32, xr_33, xr_34, xr_35, xr_36, xr_37, xr_38, xr_39, xr_4, xr_40, xr_41, xr_42, xr_5, af_0, af_1, xt_goto, xt_ib, xt_ic, xt_ic_ge, xt_if_eq, xt_ir, xt_nop, gF_54_0, gF_1_2, gF_1_5, gF_1_6, xq_4_0_virtualc, iN_add, iN_mul, iN_sub, iN_and, iN_or, iN_clr, iN_shl, iN_shr, tb_r1, b1_z, b1_or, b1_and, b1_or0, b1_or1, b1_0or, b1_t, b1_f, iN_lt, iN_inj, reduceIte, if_true, if_false, Nat.zero_add, Nat.add_zero, Bool.false_eq_true, Bool.true_eq_false, Nat.lt_irrefl, iN_az, not_true_eq_false, not_false_eq_true, Nat.reduceEqDiff, Nat.reduceLT, Nat.reduceAdd, Nat.reduceMul, Nat.reduceSub]
  exact key 0 (Nat.zero_le _) _ _ _ _ rfl
set_option maxRecDepth 100000 in
theorem ctc_c2 (h : AG (σ 1 6) s r s2 r2) : ctc σ s u = ctc σ s2 u := ctc_cg fun l hl => (h l hl).1
set_option maxRecDepth 100000 in
theorem pf_cg (h : AG n s r s2 r2) (hl : l < n) (hi : i < n) : pf σ s r l i = pf σ s2 r2 l i := by
  unfold pf
  rw [(h l hl).1, (h l hl).2, (h i hi).1, (h i hi).2]
set_option maxRecDepth 100000 in
theorem flt_cg (h : AG (σ 1 6) s r s2 r2) : flt σ s r = flt σ s2 r2 := by
  unfold flt
  refine sm_cg fun l hl => ?_
  rw [(h l hl).1, (h l hl).2, sm_cg fun i hi => pf_cg h hl (show i < (σ 1 6) by omega)]
set_option maxRecDepth 100000 in
theorem kpq_cg (O : Ok σ) (h : AG (σ 1 6) s r s2 r2) (hq : i < (σ 1 7)) : kpq σ s r i = kpq σ s2 r2 i := by
  unfold kpq lgd
  rw [ctc_c2 h]
  rcases rk_c O hq with h0 | h0 | h0 | h0 | h0
  · rw [if_pos h0, if_pos h0, (h _ (rk_0 O hq h0).1).1]
  · rw [h0]
    rfl
  · rw [h0]
    show decide _ = decide _
    rw [(h _ (rk_6 O hq h0).1).2]
  · rw [h0]
    rfl
  · rw [(h _ (rk_2 O hq h0).1).1, (h _ (rk_2 O hq h0).1).2, (h _ (rk_2 O hq h0).2.1).1]
set_option maxRecDepth 100000 in
theorem Gd_cg (O : Ok σ) (h : AG (σ 1 6) s r s2 r2) (hG : Gd σ u s r) : Gd σ u s2 r2 := by
  obtain ⟨g1, g2, g3⟩ := hG
  refine ⟨fun l hl => ?_, by rw [← flt_cg h]; exact g2, fun q hq hu => by rw [← kpq_cg O h hq]; exact g3 q hq hu⟩
  rw [← (h l hl).1, ← (h l hl).2]
  exact g1 l hl
set_option maxRecDepth 100000 in
theorem AG_s (h : AG n s r s2 r2) : AG n s2 r2 s r := fun j hj => ⟨(h j hj).1.symm, (h j hj).2.symm⟩
set_option maxRecDepth 100000 in
theorem AG_t (h : AG n s r s2 r2) (h2 : AG n s2 r2 t v) : AG n s r t v := fun j hj => ⟨(h j hj).1.trans (h2 j hj).1, (h j hj).2.trans (h2 j hj).2⟩
set_option maxRecDepth 100000 in
theorem LX_as (h : LX n s r s2 r2) : ¬ LX n s2 r2 s r := by
  rintro ⟨j, hj, h1, h2⟩
  obtain ⟨k, hk, h3, h4⟩ := h
  by_cases e : j < k
  · have := h3 j e
    omega
  · by_cases e2 : k < j
    · have := h1 k e2
      omega
    · obtain rfl : j = k := by omega
      omega
set_option maxRecDepth 100000 in
theorem LX_c2 (h : AG n s2 r2 t v) (hx : LX n s r s2 r2) : LX n s r t v := LX_w hx h
set_option maxRecDepth 100000 in
theorem LX_c1 (h : AG n s r t v) (hx : LX n s r s2 r2) : LX n t v s2 r2 := by
  obtain ⟨k, hk, h3, h4⟩ := hx
  refine ⟨k, hk, fun l hl => ?_, ?_⟩
  · have := h l (by omega)
    have := h3 l hl
    omega
  · have := h k hk
    omega
set_option maxRecDepth 100000 in
theorem LX_tri (h1 : ¬ LX n s r s2 r2) (h2 : ¬ LX n s2 r2 s r) : AG n s r s2 r2 := by
  refine Classical.byContradiction fun h => ?_
  have key : ∀ k, k ≤ n → AG k s r s2 r2 := by
    intro k
    induction k with
    | zero => exact fun _ j hj => absurd hj (Nat.not_lt_zero _)
    | succ k ih =>
      intro hk
      have h3 := ih (by omega)
      have h4 : s k = s2 k ∧ r k = r2 k := by
        refine Classical.byContradiction fun h5 => ?_
        by_cases h6 : s k < s2 k ∨ (s k = s2 k ∧ r k < r2 k)
        · exact h1 ⟨k, by omega, h3, h6⟩
        · exact h2 ⟨k, by omega, AG_s h3, by omega⟩
      intro j hj
      by_cases e : j = k
      · rw [e]; exact h4
      · exact h3 j (by omega)
  exact h (key n (Nat.le_refl _))
set_option maxRecDepth 100000 in
theorem LX_s : LX (l + 1) t v s r ↔ LX l t v s r ∨ (AG l t v s r ∧ (t l < s l ∨ (t l = s l ∧ v l < r l))) := by
  constructor
  · rintro ⟨k, hk, h1, h2⟩
    by_cases e : k = l
    · subst e
      exact .inr ⟨h1, h2⟩
    · exact .inl ⟨k, by omega, h1, h2⟩
  · rintro (⟨k, hk, h1, h2⟩ | ⟨h1, h2⟩)
    · exact ⟨k, by omega, h1, h2⟩
    · exact ⟨l, by omega, h1, h2⟩
/-- what the check knows behind the tables A -/
def IV (σ : Nat → Nat → Nat) (W : Prop) (A : (Nat → Nat) → (Nat → Nat) → Prop) (M : Nat → Nat → Nat) : Prop :=
  M 54 6 = 0 ∧ M 54 10 < 2 ∧ (W → M 54 10 = 1 → ∃ s r, Gd σ (M 54 9) s r) ∧
  ((M 54 5 = 0 ∧ ∀ s r, Gd σ (alr σ) s r → ¬ A s r) ∨ (M 54 5 = 1 ∧ M 58 0 = 1 ∧ M 58 1 = (σ 1 6) ∧ A (M 59) (M 60) ∧ Gd σ (alr σ) (M 59) (M 60) ∧ (∀ s r, Gd σ (alr σ) s r → A s r → ¬ LX (σ 1 6) s r (M 59) (M 60)) ∧ ∃ s r, Gd σ (alr σ) s r ∧ M 54 7 = wt σ s r))
def WQ (σ M : Nat → Nat → Nat) : Prop := M 54 8 ≠ 0 ∧ M 54 8 < 2147483648 ∧ VS σ (M 38) ∧ M 55 0 = 1 ∧ M 55 1 = (σ 1 6) ∧ (∀ l, l < (σ 1 6) → M 56 l < (σ 1 2)) ∧ ∀ l, l < (σ 1 6) → M 57 l < (σ 1 5)
set_option maxRecDepth 100000 in
theorem IV_c (h : IV σ W A M) (hA : ∀ s r, Gd σ (alr σ) s r → (A s r ↔ B s r)) : IV σ W B M := by
  obtain ⟨h1, h2, h3, h4⟩ := h
  refine ⟨h1, h2, h3, ?_⟩
  rcases h4 with ⟨h5, h6⟩ | ⟨h5, h6, h7, h8, h9, h10, h11⟩
  · exact .inl ⟨h5, fun s r hg hb => h6 s r hg ((hA s r hg).mpr hb)⟩
  · exact .inr ⟨h5, h6, h7, (hA _ _ h9).mp h8, h9, fun s r hg hb => h10 s r hg ((hA s r hg).mpr hb), h11⟩
set_option maxRecDepth 100000 in
theorem IV_m (h : IV σ W A M) (h54 : N 54 = M 54) (h58 : N 58 = M 58) (h59 : N 59 = M 59) (h60 : N 60 = M 60) : IV σ W A N := by
  unfold IV at h ⊢
  rw [h54, h58, h59, h60]
  exact h
set_option maxRecDepth 100000 in
theorem or_b {a : Nat} (h : a < 2) : a ||| 1 < 2 ∧ a ||| 0 < 2 ∧ a ||| 1 = 1 ∧ a ||| 0 = a := by
  have : a = 0 ∨ a = 1 := by omega
  rcases this with rfl | rfl <;> decide
set_option maxRecDepth 100000 in
theorem brk_tb {q : Nat} : (brk σ s r).testBit q = true ↔ q < (σ 1 7) ∧ kpq σ s r q = false := by
  unfold brk
  rw [en_tb, Bool.and_eq_true, decide_eq_true_eq, Bool.not_eq_true']
set_option maxRecDepth 100000 in
theorem brk_and (h : brk σ s r &&& u = 0) : ∀ q, q < (σ 1 7) → u.testBit q = true → kpq σ s r q = true := by
  intro q hq hu
  have h1 := z_tb.mp h q
  rw [Nat.testBit_and, hu, Bool.and_true] at h1
  cases h2 : kpq σ s r q
  · rw [brk_tb.mpr ⟨hq, h2⟩] at h1
    cases h1
  · rfl
set_option maxRecDepth 100000 in
theorem s_7t (O : Ok σ) (h6 : M 54 6 = 0) (hv : VS σ (M 38)) (h56 : ∀ l, l < (σ 1 6) → M 56 l < (σ 1 2)) (h57 : ∀ l, l < (σ 1 6) → M 57 l < (σ 1 5)) (ho : ∀ l, l < (σ 1 6) → (M 38 l).testBit (M 56 l * 3 + M 57 l) = true) {x y : Int32} : ∀ k, k ≤ (σ 1 6) → ev xs (d + 4) 7 12 ([.ref 54, .int x, .int y, .int (nI k)], [], hc σ M R) = some (.inl none, hc σ M R) := by
  obtain ⟨hD1, hD2, hH1, hH2, hS, hC, hT, hR, hL, hQ⟩ := Ok_b O
  have hb := VS_b O hv.1
  have hz : up M 54 6 0 = M := up_id h6
  have h55 : TT 55 := by decide
  refine lp (σ 1 6) ?_ ?_
  · rw [eb_7_12]
    simp (disch := first | assumption | omega | exact st8_a (Nat.le_of_ble_eq_true rfl)) only [eb_7_19, kl_a, kl_d, kl_f, kl_i, kl_l, kl_n, kl_r, xr_1, xr_10, xr_2, xr_27, xr_28, xr_29, xr_3, xr_30, xr_31, xr_32, xr_37, xr_4, xr_43, xr_44, xr_47, xr_5, af_0, af_1, xt_goto, xt_ic_ge, xt_if_eq, xt_if_ne, xt_nop, xt_re, gF_54_0, gF_54_1, gF_54_10, gF_54_2, gF_54_3, gF_54_4, gF_54_5, gF_54_6, gF_54_7, gF_54_9, gF_1_6, gA_2, gA_3, gA_4, gA_5, gA_6, gA_7, gA_8, gA_9, gA_10, gA_11, gA_13, gA_14, gA_16, gA_17, gA_20, gA_21, gA_22, gA_23, gA_24, gA_25, gA_26, gA_27, gA_30, gA_31, gA_32, gA_33, gA_34, gA_35, gA_36, gA_38, gA_39, gA_41, gA_42, gA_46, gA_47, gA_49, gA_50, gA_51, gA_53, gA_56, gA_57, gA_59, gA_60, gP_54_10, gQ_54_10, gP_54_5, gQ_54_5, gP_54_6, gQ_54_6, gP_54_7, xq_106_10_virtualc, xq_15_2_virtualc, xq_22_2_virtualc, iN_add, iN_mul, iN_sub, iN_and, iN_or, iN_clr, iN_shl, iN_shr, tb_r1, b1_z, b1_or, b1_and, b1_or0, b1_or1, b1_0or, b1_t, b1_f, iN_lt, iN_inj, reduceIte, if_true, if_false, Nat.zero_add, Nat.add_zero, Bool.false_eq_true, Bool.true_eq_false, Nat.lt_irrefl, iN_az, not_true_eq_false, not_false_eq_true, Nat.reduceEqDiff, Nat.reduceLT, Nat.reduceAdd, Nat.reduceMul, Nat.reduceSub]
  · intro k hk ih
    have e := s_106 (xs := xs) (d := d + 3) (M := M) (R := R) O hk (h56 k hk) (h57 k hk) (hb k hk)
    rw [ho k hk] at e
    rw [eb_7_12]
    clear hv ho
    simp (disch := first | assumption | omega | exact st8_a (Nat.le_of_ble_eq_true rfl)) only [hk, e, h6, hz, eb_7_13, eb_7_14, eb_7_15, eb_7_17, eb_7_18, kl_a, kl_d, kl_f, kl_i, kl_l, kl_n, kl_r, xr_1, xr_10, xr_2, xr_27, xr_28, xr_29, xr_3, xr_30, xr_31, xr_32, xr_37, xr_4, xr_43, xr_44, xr_47, xr_5, af_0, af_1, xt_goto, xt_ic_ge, xt_if_eq, xt_if_ne, xt_nop, xt_re, gF_54_0, gF_54_1, gF_54_10, gF_54_2, gF_54_3, gF_54_4, gF_54_5, gF_54_6, gF_54_7, gF_54_9, gF_1_6, gA_2, gA_3, gA_4, gA_5, gA_6, gA_7, gA_8, gA_9, gA_10, gA_11, gA_13, gA_14, gA_16, gA_17, gA_20, gA_21, gA_22, gA_23, gA_24, gA_25, gA_26, gA_27, gA_30, gA_31, gA_32, gA_33, gA_34, gA_35, gA_36, gA_38, gA_39, gA_41, gA_42, gA_46, gA_47, gA_49, gA_50, gA_51, gA_53, gA_56, gA_57, gA_59, gA_60, gP_54_10, gQ_54_10, gP_54_5, gQ_54_5, gP_54_6, gQ_54_6, gP_54_7, tF_0 h55, tF_1 h55, tF_2 h55, tF_3 h55, tA_1 h55, tA_2 h55, tW_1 h55, tW_2 h55, tP_0 h55, tP_1 h55, xq_106_10_virtualc, xq_15_2_virtualc, xq_22_2_virtualc, xq_99_9_virtualt h55, iN_add, iN_mul, iN_sub, iN_and, iN_or, iN_clr, iN_shl, iN_shr, tb_r1, b1_z, b1_or, b1_and, b1_or0, b1_or1, b1_0or, b1_t, b1_f, iN_lt, iN_inj, reduceIte, if_true, if_false, Nat.zero_add, Nat.add_zero, Bool.false_eq_true, Bool.true_eq_false, Nat.lt_irrefl, iN_az, not_true_eq_false, not_false_eq_true, Nat.reduceEqDiff, Nat.reduceLT, Nat.reduceAdd, Nat.reduceMul, Nat.reduceSub]
    exact ih
end Cc
