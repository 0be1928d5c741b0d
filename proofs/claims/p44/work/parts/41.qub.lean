/-! THE CLASS Question: what it asks for -/
set_option maxRecDepth 100000 in
theorem iN_za {a b : Nat} (hb : b < 4294967296) : (nI (a &&& b) = nI 0) = (a &&& b = 0) := iN_inj (Nat.lt_of_le_of_lt Nat.and_le_right hb) (by decide)
def s0 (σ : Nat → Nat → Nat) (set k l s : Nat) : Prop := sty σ l s = true ∧ ∀ q, q < k → set.testBit q = true → (σ 8 q = 0 → σ 9 q = l → (cov σ l s).testBit (σ 10 q) = false) ∧ (σ 8 q = 7 → σ 9 q = σ 6 l → (cov σ l s).testBit (σ 10 q) = false)
def r0 (σ : Nat → Nat → Nat) (set k l r : Nat) : Prop := sts σ l r = true ∧ ∀ q, q < k → set.testBit q = true → σ 8 q = 6 → σ 9 q = l → r = σ 10 q
def f0 (σ : Nat → Nat → Nat) (set k l s o i : Nat) : Prop := ((sc σ l o = false ∧ stc σ l o = false) ∨ cov σ l s &&& cov σ o i = 0) ∧ ∀ q, q < k → set.testBit q = true → 2 ≤ σ 8 q → σ 8 q ≤ 5 → (σ 9 q = l → σ 10 q = o → kp2 σ q s i = true) ∧ (σ 9 q = o → σ 10 q = l → kp2 σ q i s = true)
def dq (σ : Nat → Nat → Nat) (set k t x : Nat) : Prop := (∀ q, q < k → set.testBit q = true → σ 8 q = 1 → σ 9 q = t → x ≤ σ 10 q) ∧ x ≤ 3 ∧ (x = 3 ∨ ∃ q, q < k ∧ set.testBit q = true ∧ σ 8 q = 1 ∧ σ 9 q = t ∧ x = σ 10 q)
/-- k rules are taken in -/
def AQ (σ : Nat → Nat → Nat) (set k : Nat) (M : Nat → Nat → Nat) : Prop :=
  (∀ l, l < (σ 1 6) → ∀ i, (M 20 l).testBit i = true ↔ i < (σ 1 2) ∧ s0 σ set k l i) ∧
  (∀ l, l < (σ 1 6) → ∀ i, (M 21 l).testBit i = true ↔ i < (σ 1 5) ∧ r0 σ set k l i) ∧
  (∀ l s o i, l < (σ 1 6) → o < (σ 1 6) → l ≠ o → s < (σ 1 2) → (fb (M 23) l s o i = true ↔ i < (σ 1 2) ∧ f0 σ set k l s o i)) ∧
  (∀ t, t < (σ 1 4) → dq σ set k t (M 22 t)) ∧
  (∀ l, l < (σ 1 6) → ∀ s, s < (σ 1 2) → M 25 (l * 6 + s) = cov σ l s)
set_option maxRecDepth 100000 in
theorem mask_lt {a n : Nat} (h : ∀ i, a.testBit i = true → i < n) : a < 2 ^ n := by
  apply Nat.lt_pow_two_of_testBit
  intro i hi
  cases hh : a.testBit i
  · rfl
  · have := h i hh
    omega
section Qb
variable {xs : List Int32} {d : Nat} {σ M : Nat → Nat → Nat} {R h : ab_H} {l o s i u q n set : Nat}
set_option maxRecDepth 100000 in
theorem s_38 (O : Ok σ) (hu : u < 2147483648) (hc25 : ∀ l, l < (σ 1 6) → ∀ s, s < (σ 1 2) → M 25 (l * 6 + s) = cov σ l s) {n : Nat} : ∃ g, ev xs (d + 1) 38 0 ([.ref 19, .int (nI u), .int (nI n), .retAddr 9], [], hc σ M R) = some (.inl none, hc σ (ur M 20 g) R) ∧ ∀ l, l < (σ 1 6) → ∀ i, (g l).testBit i = ((M 20 l).testBit i && !(decide (σ 6 l = u) && (decide (i < (σ 1 2)) && decide (cov σ l i &&& n ≠ 0)))) := by
  obtain ⟨hD1, hD2, hH1, hH2, hS, hC, hT, hR, hL, hQ⟩ := Ok_b O
  have key : ∀ k, k ≤ (σ 1 6) → ∀ g0, (∀ l, l < (σ 1 6) → (k ≤ l → g0 l = M 20 l) ∧ (l < k → ∀ i, (g0 l).testBit i = ((M 20 l).testBit i && !(decide (σ 6 l = u) && (decide (i < (σ 1 2)) && decide (cov σ l i &&& n ≠ 0)))))) → ∃ g, ev xs (d + 1) 38 1 ([.ref 19, .int (nI u), .int (nI n), .int (nI k)], [], hc σ (ur M 20 g0) R) = some (.inl none, hc σ (ur M 20 g) R) ∧ ∀ l, l < (σ 1 6) → ∀ i, (g l).testBit i = ((M 20 l).testBit i && !(decide (σ 6 l = u) && (decide (i < (σ 1 2)) && decide (cov σ l i &&& n ≠ 0)))) := by
    refine lp (σ 1 6) ?_ ?_
    · intro g0 hg
      refine ⟨g0, ?_, fun l hl => (hg l hl).2 hl⟩
      rw [eb_38_1]
      simp (disch := first | assumption | omega | exact st8_a (Nat.le_of_ble_eq_true rfl)) only [eb_38_0, eb_38_2, eb_38_3, eb_38_4, eb_38_5, kl_a, kl_d, kl_f, kl_i, kl_l, kl_n, kl_r, xr_1, xr_10, xr_2, xr_28, xr_3, xr_31, xr_32, xr_37, xr_4, xr_43, xr_5, af_0, af_1, xt_goto, xt_ic_ge, xt_ic_ne, xt_nop, xt_re, gF_19_0, gF_1_13, gF_1_6, gA_2, gA_3, gA_4, gA_5, gA_6, gA_7, gA_8, gA_9, gA_10, gA_11, gA_13, gA_14, gA_16, gA_17, gA_20, gA_21, gA_22, gA_23, gA_24, gA_25, gA_26, gA_27, gA_30, gA_31, gA_32, gA_33, gA_34, gA_35, gA_36, gA_38, gA_39, gA_41, gA_42, gA_46, gA_47, gA_49, gA_50, gA_51, gA_53, gA_56, gA_57, gA_59, gA_60, xq_37_3_virtualc, iN_add, iN_mul, iN_sub, iN_and, iN_or, iN_clr, iN_shl, iN_shr, tb_r1, b1_z, b1_or, b1_and, b1_or0, b1_or1, b1_0or, b1_t, b1_f, iN_lt, iN_inj, reduceIte, if_true, if_false, Nat.zero_add, Nat.add_zero, Bool.false_eq_true, Bool.true_eq_false, Nat.lt_irrefl, iN_az, not_true_eq_false, not_false_eq_true, Nat.reduceEqDiff, Nat.reduceLT, Nat.reduceAdd, Nat.reduceMul, Nat.reduceSub]
    · intro k hk ih g0 hg
      obtain ⟨k1, k2, k3⟩ := Ok_l O hk
      rw [eb_38_1]
      by_cases h1 : σ 6 k = u
      · obtain ⟨x, e1, q1⟩ := s_37 (xs := xs) (d := d) (M := ur M 20 g0) (R := R) (u := n) O hk (fun s hs => by rw [ur_n (by decide)]; exact hc25 k hk s hs)
        rw [ur_s, (hg k hk).1 (Nat.le_refl _)] at q1
        obtain ⟨g, e, q⟩ := ih (u1 g0 k x) fun l hl => by
          by_cases hlk : l = k
          · subst hlk
            refine ⟨fun h => by omega, fun _ i => ?_⟩
            rw [u1_s, q1 i]
            simp [h1]
          · rw [u1_n hlk]
            exact ⟨fun h => (hg l hl).1 (by omega), fun h => (hg l hl).2 (by omega)⟩
        refine ⟨g, ?_, q⟩
        simp (disch := first | assumption | omega | exact st8_a (Nat.le_of_ble_eq_true rfl)) only [hk, eq_true h1, e1, ur_up, eb_38_0, eb_38_2, eb_38_3, eb_38_4, eb_38_5, kl_a, kl_d, kl_f, kl_i, kl_l, kl_n, kl_r, xr_1, xr_10, xr_2, xr_28, xr_3, xr_31, xr_32, xr_37, xr_4, xr_43, xr_5, af_0, af_1, xt_goto, xt_ic_ge, xt_ic_ne, xt_nop, xt_re, gF_19_0, gF_1_13, gF_1_6, gA_2, gA_3, gA_4, gA_5, gA_6, gA_7, gA_8, gA_9, gA_10, gA_11, gA_13, gA_14, gA_16, gA_17, gA_20, gA_21, gA_22, gA_23, gA_24, gA_25, gA_26, gA_27, gA_30, gA_31, gA_32, gA_33, gA_34, gA_35, gA_36, gA_38, gA_39, gA_41, gA_42, gA_46, gA_47, gA_49, gA_50, gA_51, gA_53, gA_56, gA_57, gA_59, gA_60, xq_37_3_virtualc, iN_add, iN_mul, iN_sub, iN_and, iN_or, iN_clr, iN_shl, iN_shr, tb_r1, b1_z, b1_or, b1_and, b1_or0, b1_or1, b1_0or, b1_t, b1_f, iN_lt, iN_inj, reduceIte, if_true, if_false, Nat.zero_add, Nat.add_zero, Bool.false_eq_true, Bool.true_eq_false, Nat.lt_irrefl, iN_az, not_true_eq_false, not_false_eq_true, Nat.reduceEqDiff, Nat.reduceLT, Nat.reduceAdd, Nat.reduceMul, Nat.reduceSub]
        exact e
      · obtain ⟨g, e, q⟩ := ih g0 fun l hl => by
          refine ⟨fun h => (hg l hl).1 (by omega), fun h i => ?_⟩
          by_cases hlk : l = k
          · subst hlk
            rw [(hg l hl).1 (Nat.le_refl _)]
            simp [h1]
          · exact (hg l hl).2 (by omega) i
        refine ⟨g, ?_, q⟩
        simp (disch := first | assumption | omega | exact st8_a (Nat.le_of_ble_eq_true rfl)) only [hk, h1, eb_38_0, eb_38_2, eb_38_3, eb_38_4, eb_38_5, kl_a, kl_d, kl_f, kl_i, kl_l, kl_n, kl_r, xr_1, xr_10, xr_2, xr_28, xr_3, xr_31, xr_32, xr_37, xr_4, xr_43, xr_5, af_0, af_1, xt_goto, xt_ic_ge, xt_ic_ne, xt_nop, xt_re, gF_19_0, gF_1_13, gF_1_6, gA_2, gA_3, gA_4, gA_5, gA_6, gA_7, gA_8, gA_9, gA_10, gA_11, gA_13, gA_14, gA_16, gA_17, gA_20, gA_21, gA_22, gA_23, gA_24, gA_25, gA_26, gA_27, gA_30, gA_31, gA_32, gA_33, gA_34, gA_35, gA_36, gA_38, gA_39, gA_41, gA_42, gA_46, gA_47, gA_49, gA_50, gA_51, gA_53, gA_56, gA_57, gA_59, gA_60, xq_37_3_virtualc, iN_add, iN_mul, iN_sub, iN_and, iN_or, iN_clr, iN_shl, iN_shr, tb_r1, b1_z, b1_or, b1_and, b1_or0, b1_or1, b1_0or, b1_t, b1_f, iN_lt, iN_inj, reduceIte, if_true, if_false, Nat.zero_add, Nat.add_zero, Bool.false_eq_true, Bool.true_eq_false, Nat.lt_irrefl, iN_az, not_true_eq_false, not_false_eq_true, Nat.reduceEqDiff, Nat.reduceLT, Nat.reduceAdd, Nat.reduceMul, Nat.reduceSub]
        exact e
  obtain ⟨g, e, q⟩ := key 0 (Nat.zero_le _) (M 20) fun l hl => ⟨fun _ => rfl, fun h => absurd h (Nat.not_lt_zero l)⟩
  refine ⟨g, ?_, q⟩
  rw [ur_id] at e
  simp (disch := first | assumption | omega | exact st8_a (Nat.le_of_ble_eq_true rfl)) only [eb_38_0, eb_38_2, eb_38_3, eb_38_4, eb_38_5, kl_a, kl_d, kl_f, kl_i, kl_l, kl_n, kl_r, xr_1, xr_10, xr_2, xr_28, xr_3, xr_31, xr_32, xr_37, xr_4, xr_43, xr_5, af_0, af_1, xt_goto, xt_ic_ge, xt_ic_ne, xt_nop, xt_re, gF_19_0, gF_1_13, gF_1_6, gA_2, gA_3, gA_4, gA_5, gA_6, gA_7, gA_8, gA_9, gA_10, gA_11, gA_13, gA_14, gA_16, gA_17, gA_20, gA_21, gA_22, gA_23, gA_24, gA_25, gA_26, gA_27, gA_30, gA_31, gA_32, gA_33, gA_34, gA_35, gA_36, gA_38, gA_39, gA_41, gA_42, gA_46, gA_47, gA_49, gA_50, gA_51, gA_53, gA_56, gA_57, gA_59, gA_60, xq_37_3_virtualc, iN_add, iN_mul, iN_sub, iN_and, iN_or, iN_clr, iN_shl, iN_shr, tb_r1, b1_z, b1_or, b1_and, b1_or0, b1_or1, b1_0or, b1_t, b1_f, iN_lt, iN_inj, reduceIte, if_true, if_false, Nat.zero_add, Nat.add_zero, Bool.false_eq_true, Bool.true_eq_false, Nat.lt_irrefl, iN_az, not_true_eq_false, not_false_eq_true, Nat.reduceEqDiff, Nat.reduceLT, Nat.reduceAdd, Nat.reduceMul, Nat.reduceSub]
  exact e
set_option maxRecDepth 100000 in
theorem s_33 (O : Ok σ) (hq : q < (σ 1 7)) (h2 : 2 ≤ σ 8 q) (h5 : σ 8 q ≤ 5) : ∃ f, ev xs (d + 2) 33 0 ([.ref 19, .int (nI q), .int (nI (σ 9 q)), .int (nI (σ 10 q)), .retAddr 9, .retAddr 9], [], hc σ M R) = some (.inl none, hc σ (ur M 23 f) R) ∧ KP (σ 9 q) (σ 10 q) (fun s i => s < (σ 1 2) ∧ i < (σ 1 2) ∧ kp2 σ q s i = false) (M 23) f := by
  obtain ⟨hD1, hD2, hH1, hH2, hS, hC, hT, hR, hL, hQ⟩ := Ok_b O
  obtain ⟨ha, hb, hne⟩ := rk_2 O hq (by omega)
  have key : ∀ k, k ≤ (σ 1 2) → ∀ g y, KP (σ 9 q) (σ 10 q) (fun s i => s < (σ 1 2) ∧ i < (σ 1 2) ∧ s < k ∧ kp2 σ q s i = false) (M 23) g → ∃ f, ev xs (d + 2) 33 1 ([.ref 19, .int (nI q), .int (nI (σ 9 q)), .int (nI (σ 10 q)), .int (nI k), y], [], hc σ (ur M 23 g) R) = some (.inl none, hc σ (ur M 23 f) R) ∧ KP (σ 9 q) (σ 10 q) (fun s i => s < (σ 1 2) ∧ i < (σ 1 2) ∧ kp2 σ q s i = false) (M 23) f := by
    refine lp (σ 1 2) ?_ ?_
    · intro g y hg
      refine ⟨g, ?_, KP_c hg fun s i => ?_⟩
      · rw [eb_33_1]
        simp (disch := first | assumption | omega | exact st8_a (Nat.le_of_ble_eq_true rfl)) only [eb_33_0, eb_33_2, eb_33_4, eb_33_5, eb_33_6, eb_33_7, eb_33_8, eb_33_9, eb_33_10, eb_33_11, kl_a, kl_d, kl_f, kl_i, kl_l, kl_n, kl_r, xr_1, xr_10, xr_2, xr_27, xr_28, xr_3, xr_31, xr_33, xr_34, xr_35, xr_36, xr_37, xr_39, xr_4, xr_40, xr_44, xr_5, xr_58, xr_64, xr_74, xr_75, af_0, af_1, xt_goto, xt_ic_ge, xt_if_ne, xt_nop, xt_re, gF_19_0, gF_19_4, gF_1_2, gA_2, gA_3, gA_4, gA_5, gA_6, gA_7, gA_8, gA_9, gA_10, gA_11, gA_13, gA_14, gA_16, gA_17, gA_20, gA_21, gA_22, gA_23, gA_24, gA_25, gA_26, gA_27, gA_30, gA_31, gA_32, gA_33, gA_34, gA_35, gA_36, gA_38, gA_39, gA_41, gA_42, gA_46, gA_47, gA_49, gA_50, gA_51, gA_53, gA_56, gA_57, gA_59, gA_60, gW_2, gW_3, gW_4, gW_5, gW_6, gW_7, gW_8, gW_9, gW_10, gW_11, gW_13, gW_14, gW_16, gW_17, gW_20, gW_21, gW_22, gW_23, gW_24, gW_25, gW_26, gW_27, gW_30, gW_31, gW_32, gW_33, gW_34, gW_35, gW_36, gW_38, gW_39, gW_41, gW_42, gW_46, gW_47, gW_49, gW_50, gW_51, gW_53, gW_56, gW_57, gW_59, gW_60, xq_27_200_static, xq_72_6_virtualc, iN_add, iN_mul, iN_sub, iN_and, iN_or, iN_clr, iN_shl, iN_shr, tb_r1, b1_z, b1_or, b1_and, b1_or0, b1_or1, b1_0or, b1_t, b1_f, iN_lt, iN_inj, reduceIte, if_true, if_false, Nat.zero_add, Nat.add_zero, Bool.false_eq_true, Bool.true_eq_false, Nat.lt_irrefl, iN_az, not_true_eq_false, not_false_eq_true, Nat.reduceEqDiff, Nat.reduceLT, Nat.reduceAdd, Nat.reduceMul, Nat.reduceSub]
      · constructor
        · exact fun ⟨a, b, c, e⟩ => ⟨a, b, e⟩
        · exact fun ⟨a, b, e⟩ => ⟨a, b, a, e⟩
    · intro k hk ih g y hg
      have inn : ∀ j, j ≤ (σ 1 2) → ∀ g, KP (σ 9 q) (σ 10 q) (fun s i => s < (σ 1 2) ∧ i < (σ 1 2) ∧ (s < k ∨ s = k ∧ i < j) ∧ kp2 σ q s i = false) (M 23) g → ∃ f, ev xs (d + 2) 33 3 ([.ref 19, .int (nI q), .int (nI (σ 9 q)), .int (nI (σ 10 q)), .int (nI k), .int (nI j)], [], hc σ (ur M 23 g) R) = some (.inl none, hc σ (ur M 23 f) R) ∧ KP (σ 9 q) (σ 10 q) (fun s i => s < (σ 1 2) ∧ i < (σ 1 2) ∧ kp2 σ q s i = false) (M 23) f := by
        refine lp (σ 1 2) ?_ ?_
        · intro g hg
          obtain ⟨f, e, q1⟩ := ih g (.int (nI (σ 1 2))) (KP_c hg fun s i => by
            constructor
            · rintro ⟨a, b, c | ⟨c, c2⟩, e⟩
              · exact ⟨a, b, by omega, e⟩
              · exact ⟨a, b, by omega, e⟩
            · rintro ⟨a, b, c, e⟩
              exact ⟨a, b, by omega, e⟩)
          refine ⟨f, ?_, q1⟩
          rw [eb_33_3]
          simp (disch := first | assumption | omega | exact st8_a (Nat.le_of_ble_eq_true rfl)) only [eb_33_0, eb_33_2, eb_33_4, eb_33_5, eb_33_6, eb_33_7, eb_33_8, eb_33_9, eb_33_10, eb_33_11, kl_a, kl_d, kl_f, kl_i, kl_l, kl_n, kl_r, xr_1, xr_10, xr_2, xr_27, xr_28, xr_3, xr_31, xr_33, xr_34, xr_35, xr_36, xr_37, xr_39, xr_4, xr_40, xr_44, xr_5, xr_58, xr_64, xr_74, xr_75, af_0, af_1, xt_goto, xt_ic_ge, xt_if_ne, xt_nop, xt_re, gF_19_0, gF_19_4, gF_1_2, gA_2, gA_3, gA_4, gA_5, gA_6, gA_7, gA_8, gA_9, gA_10, gA_11, gA_13, gA_14, gA_16, gA_17, gA_20, gA_21, gA_22, gA_23, gA_24, gA_25, gA_26, gA_27, gA_30, gA_31, gA_32, gA_33, gA_34, gA_35, gA_36, gA_38, gA_39, gA_41, gA_42, gA_46, gA_47, gA_49, gA_50, gA_51, gA_53, gA_56, gA_57, gA_59, gA_60, gW_2, gW_3, gW_4, gW_5, gW_6, gW_7, gW_8, gW_9, gW_10, gW_11, gW_13, gW_14, gW_16, gW_17, gW_20, gW_21, gW_22, gW_23, gW_24, gW_25, gW_26, gW_27, gW_30, gW_31, gW_32, gW_33, gW_34, gW_35, gW_36, gW_38, gW_39, gW_41, gW_42, gW_46, gW_47, gW_49, gW_50, gW_51, gW_53, gW_56, gW_57, gW_59, gW_60, xq_27_200_static, xq_72_6_virtualc, iN_add, iN_mul, iN_sub, iN_and, iN_or, iN_clr, iN_shl, iN_shr, tb_r1, b1_z, b1_or, b1_and, b1_or0, b1_or1, b1_0or, b1_t, b1_f, iN_lt, iN_inj, reduceIte, if_true, if_false, Nat.zero_add, Nat.add_zero, Bool.false_eq_true, Bool.true_eq_false, Nat.lt_irrefl, iN_az, not_true_eq_false, not_false_eq_true, Nat.reduceEqDiff, Nat.reduceLT, Nat.reduceAdd, Nat.reduceMul, Nat.reduceSub]
          exact e
        · intro j hj ih2 g hg
          have p1 : pi (σ 9 q) k (σ 10 q) < 216 := by unfold pi; omega
          have p2 : pi (σ 10 q) j (σ 9 q) < 216 := by unfold pi; omega
          have s1 := s_72 (xs := xs) (d := d) (M := ur M 23 g) (R := R) O hq h2 h5 ha hb hk hj
          rw [eb_33_3]
          cases h1 : kp2 σ q k j
          · rw [h1] at s1
            obtain ⟨f, e, q1⟩ := ih2 _ (KP_c (KP_s hg (x := k) (y := j) (by omega) (by omega) (by omega) (by omega)) fun s i => by
              constructor
              · rintro (⟨a, b, c, e⟩ | ⟨a, b⟩)
                · exact ⟨a, b, by omega, e⟩
                · subst a; subst b; exact ⟨hk, hj, by omega, h1⟩
              · rintro ⟨a, b, c, e⟩
                by_cases hh : s = k ∧ i = j
                · exact .inr hh
                · exact .inl ⟨a, b, by omega, e⟩)
            refine ⟨f, ?_, q1⟩
            simp (disch := first | assumption | omega | exact st8_a (Nat.le_of_ble_eq_true rfl)) only [hj, s1, s_27, ur_s, ur_up, eb_33_0, eb_33_2, eb_33_4, eb_33_5, eb_33_6, eb_33_7, eb_33_8, eb_33_9, eb_33_10, eb_33_11, kl_a, kl_d, kl_f, kl_i, kl_l, kl_n, kl_r, xr_1, xr_10, xr_2, xr_27, xr_28, xr_3, xr_31, xr_33, xr_34, xr_35, xr_36, xr_37, xr_39, xr_4, xr_40, xr_44, xr_5, xr_58, xr_64, xr_74, xr_75, af_0, af_1, xt_goto, xt_ic_ge, xt_if_ne, xt_nop, xt_re, gF_19_0, gF_19_4, gF_1_2, gA_2, gA_3, gA_4, gA_5, gA_6, gA_7, gA_8, gA_9, gA_10, gA_11, gA_13, gA_14, gA_16, gA_17, gA_20, gA_21, gA_22, gA_23, gA_24, gA_25, gA_26, gA_27, gA_30, gA_31, gA_32, gA_33, gA_34, gA_35, gA_36, gA_38, gA_39, gA_41, gA_42, gA_46, gA_47, gA_49, gA_50, gA_51, gA_53, gA_56, gA_57, gA_59, gA_60, gW_2, gW_3, gW_4, gW_5, gW_6, gW_7, gW_8, gW_9, gW_10, gW_11, gW_13, gW_14, gW_16, gW_17, gW_20, gW_21, gW_22, gW_23, gW_24, gW_25, gW_26, gW_27, gW_30, gW_31, gW_32, gW_33, gW_34, gW_35, gW_36, gW_38, gW_39, gW_41, gW_42, gW_46, gW_47, gW_49, gW_50, gW_51, gW_53, gW_56, gW_57, gW_59, gW_60, xq_27_200_static, xq_72_6_virtualc, iN_add, iN_mul, iN_sub, iN_and, iN_or, iN_clr, iN_shl, iN_shr, tb_r1, b1_z, b1_or, b1_and, b1_or0, b1_or1, b1_0or, b1_t, b1_f, iN_lt, iN_inj, reduceIte, if_true, if_false, Nat.zero_add, Nat.add_zero, Bool.false_eq_true, Bool.true_eq_false, Nat.lt_irrefl, iN_az, not_true_eq_false, not_false_eq_true, Nat.reduceEqDiff, Nat.reduceLT, Nat.reduceAdd, Nat.reduceMul, Nat.reduceSub]
            exact e
          · rw [h1] at s1
            obtain ⟨f, e, q1⟩ := ih2 _ (KP_c hg fun s i => by
              constructor
              · rintro ⟨a, b, c, e⟩
                exact ⟨a, b, by omega, e⟩
              · rintro ⟨a, b, c, e⟩
                refine ⟨a, b, ?_, e⟩
                by_cases hh : s = k ∧ i = j
                · rw [hh.1, hh.2, h1] at e; cases e
                · omega)
            refine ⟨f, ?_, q1⟩
            simp (disch := first | assumption | omega | exact st8_a (Nat.le_of_ble_eq_true rfl)) only [hj, s1, eb_33_0, eb_33_2, eb_33_4, eb_33_5, eb_33_6, eb_33_7, eb_33_8, eb_33_9, eb_33_10, eb_33_11, kl_a, kl_d, kl_f, kl_i, kl_l, kl_n, kl_r, xr_1, xr_10, xr_2, xr_27, xr_28, xr_3, xr_31, xr_33, xr_34, xr_35, xr_36, xr_37, xr_39, xr_4, xr_40, xr_44, xr_5, xr_58, xr_64, xr_74, xr_75, af_0, af_1, xt_goto, xt_ic_ge, xt_if_ne, xt_nop, xt_re, gF_19_0, gF_19_4, gF_1_2, gA_2, gA_3, gA_4, gA_5, gA_6, gA_7, gA_8, gA_9, gA_10, gA_11, gA_13, gA_14, gA_16, gA_17, gA_20, gA_21, gA_22, gA_23, gA_24, gA_25, gA_26, gA_27, gA_30, gA_31, gA_32, gA_33, gA_34, gA_35, gA_36, gA_38, gA_39, gA_41, gA_42, gA_46, gA_47, gA_49, gA_50, gA_51, gA_53, gA_56, gA_57, gA_59, gA_60, gW_2, gW_3, gW_4, gW_5, gW_6, gW_7, gW_8, gW_9, gW_10, gW_11, gW_13, gW_14, gW_16, gW_17, gW_20, gW_21, gW_22, gW_23, gW_24, gW_25, gW_26, gW_27, gW_30, gW_31, gW_32, gW_33, gW_34, gW_35, gW_36, gW_38, gW_39, gW_41, gW_42, gW_46, gW_47, gW_49, gW_50, gW_51, gW_53, gW_56, gW_57, gW_59, gW_60, xq_27_200_static, xq_72_6_virtualc, iN_add, iN_mul, iN_sub, iN_and, iN_or, iN_clr, iN_shl, iN_shr, tb_r1, b1_z, b1_or, b1_and, b1_or0, b1_or1, b1_0or, b1_t, b1_f, iN_lt, iN_inj, reduceIte, if_true, if_false, Nat.zero_add, Nat.add_zero, Bool.false_eq_true, Bool.true_eq_false, Nat.lt_irrefl, iN_az, not_true_eq_false, not_false_eq_true, Nat.reduceEqDiff, Nat.reduceLT, Nat.reduceAdd, Nat.reduceMul, Nat.reduceSub]
            exact e
      obtain ⟨f, e, q1⟩ := inn 0 (Nat.zero_le _) g (KP_c hg fun s i => by
        constructor
        · rintro ⟨a, b, c, e⟩
          exact ⟨a, b, .inl c, e⟩
        · rintro ⟨a, b, c, e⟩
          exact ⟨a, b, by omega, e⟩)
      refine ⟨f, ?_, q1⟩
      rw [eb_33_1]
      simp (disch := first | assumption | omega | exact st8_a (Nat.le_of_ble_eq_true rfl)) only [hk, eb_33_0, eb_33_2, eb_33_4, eb_33_5, eb_33_6, eb_33_7, eb_33_8, eb_33_9, eb_33_10, eb_33_11, kl_a, kl_d, kl_f, kl_i, kl_l, kl_n, kl_r, xr_1, xr_10, xr_2, xr_27, xr_28, xr_3, xr_31, xr_33, xr_34, xr_35, xr_36, xr_37, xr_39, xr_4, xr_40, xr_44, xr_5, xr_58, xr_64, xr_74, xr_75, af_0, af_1, xt_goto, xt_ic_ge, xt_if_ne, xt_nop, xt_re, gF_19_0, gF_19_4, gF_1_2, gA_2, gA_3, gA_4, gA_5, gA_6, gA_7, gA_8, gA_9, gA_10, gA_11, gA_13, gA_14, gA_16, gA_17, gA_20, gA_21, gA_22, gA_23, gA_24, gA_25, gA_26, gA_27, gA_30, gA_31, gA_32, gA_33, gA_34, gA_35, gA_36, gA_38, gA_39, gA_41, gA_42, gA_46, gA_47, gA_49, gA_50, gA_51, gA_53, gA_56, gA_57, gA_59, gA_60, gW_2, gW_3, gW_4, gW_5, gW_6, gW_7, gW_8, gW_9, gW_10, gW_11, gW_13, gW_14, gW_16, gW_17, gW_20, gW_21, gW_22, gW_23, gW_24, gW_25, gW_26, gW_27, gW_30, gW_31, gW_32, gW_33, gW_34, gW_35, gW_36, gW_38, gW_39, gW_41, gW_42, gW_46, gW_47, gW_49, gW_50, gW_51, gW_53, gW_56, gW_57, gW_59, gW_60, xq_27_200_static, xq_72_6_virtualc, iN_add, iN_mul, iN_sub, iN_and, iN_or, iN_clr, iN_shl, iN_shr, tb_r1, b1_z, b1_or, b1_and, b1_or0, b1_or1, b1_0or, b1_t, b1_f, iN_lt, iN_inj, reduceIte, if_true, if_false, Nat.zero_add, Nat.add_zero, Bool.false_eq_true, Bool.true_eq_false, Nat.lt_irrefl, iN_az, not_true_eq_false, not_false_eq_true, Nat.reduceEqDiff, Nat.reduceLT, Nat.reduceAdd, Nat.reduceMul, Nat.reduceSub]
      exact e
  obtain ⟨f, e, q1⟩ := key 0 (Nat.zero_le _) (M 23) (.retAddr 9) (KP_c (KP_0 _ _ _) fun s i => by
    constructor
    · exact fun h => h.elim
    · rintro ⟨a, b, c, e⟩
      omega)
  refine ⟨f, ?_, q1⟩
  rw [ur_id] at e
  simp (disch := first | assumption | omega | exact st8_a (Nat.le_of_ble_eq_true rfl)) only [eb_33_0, eb_33_2, eb_33_4, eb_33_5, eb_33_6, eb_33_7, eb_33_8, eb_33_9, eb_33_10, eb_33_11, kl_a, kl_d, kl_f, kl_i, kl_l, kl_n, kl_r, xr_1, xr_10, xr_2, xr_27, xr_28, xr_3, xr_31, xr_33, xr_34, xr_35, xr_36, xr_37, xr_39, xr_4, xr_40, xr_44, xr_5, xr_58, xr_64, xr_74, xr_75, af_0, af_1, xt_goto, xt_ic_ge, xt_if_ne, xt_nop, xt_re, gF_19_0, gF_19_4, gF_1_2, gA_2, gA_3, gA_4, gA_5, gA_6, gA_7, gA_8, gA_9, gA_10, gA_11, gA_13, gA_14, gA_16, gA_17, gA_20, gA_21, gA_22, gA_23, gA_24, gA_25, gA_26, gA_27, gA_30, gA_31, gA_32, gA_33, gA_34, gA_35, gA_36, gA_38, gA_39, gA_41, gA_42, gA_46, gA_47, gA_49, gA_50, gA_51, gA_53, gA_56, gA_57, gA_59, gA_60, gW_2, gW_3, gW_4, gW_5, gW_6, gW_7, gW_8, gW_9, gW_10, gW_11, gW_13, gW_14, gW_16, gW_17, gW_20, gW_21, gW_22, gW_23, gW_24, gW_25, gW_26, gW_27, gW_30, gW_31, gW_32, gW_33, gW_34, gW_35, gW_36, gW_38, gW_39, gW_41, gW_42, gW_46, gW_47, gW_49, gW_50, gW_51, gW_53, gW_56, gW_57, gW_59, gW_60, xq_27_200_static, xq_72_6_virtualc, iN_add, iN_mul, iN_sub, iN_and, iN_or, iN_clr, iN_shl, iN_shr, tb_r1, b1_z, b1_or, b1_and, b1_or0, b1_or1, b1_0or, b1_t, b1_f, iN_lt, iN_inj, reduceIte, if_true, if_false, Nat.zero_add, Nat.add_zero, Bool.false_eq_true, Bool.true_eq_false, Nat.lt_irrefl, iN_az, not_true_eq_false, not_false_eq_true, Nat.reduceEqDiff, Nat.reduceLT, Nat.reduceAdd, Nat.reduceMul, Nat.reduceSub]
  exact e
/-- two lessons can have one room alone, and the same one -/
def kr (M : Nat → Nat → Nat) (l o : Nat) : Prop := M 21 l = M 21 o ∧ pc 10 (M 21 l) = 1
set_option maxRecDepth 100000 in
theorem s_34 (O : Ok σ) (hl : l < (σ 1 6)) (ho : o < (σ 1 6)) (hne : l ≠ o) (h21 : ∀ l, l < (σ 1 6) → M 21 l < 8) (hc25 : ∀ l, l < (σ 1 6) → ∀ s, s < (σ 1 2) → M 25 (l * 6 + s) = cov σ l s) : ∃ f, ev xs (d + 2) 34 0 ([.ref 19, .int (nI l), .int (nI o), .retAddr 9, .retAddr 9], [], hc σ M R) = some (.inl none, hc σ (ur M 23 f) R) ∧ KP l o (fun s i => kr M l o ∧ s < (σ 1 2) ∧ i < (σ 1 2) ∧ cov σ l s &&& cov σ o i ≠ 0) (M 23) f := by
  obtain ⟨hD1, hD2, hH1, hH2, hS, hC, hT, hR, hL, hQ⟩ := Ok_b O
  have b1' := h21 l hl
  have b2' := h21 o ho
  by_cases h1 : M 21 l = M 21 o
  · have hp := pc_le 10 (M 21 o)
    by_cases h2 : pc 10 (M 21 o) = 1
    · have hkr : kr M l o := ⟨h1, by rw [h1]; exact h2⟩
      have key : ∀ k, k ≤ (σ 1 2) → ∀ g y, KP l o (fun s i => s < (σ 1 2) ∧ i < (σ 1 2) ∧ s < k ∧ cov σ l s &&& cov σ o i ≠ 0) (M 23) g → ∃ f, ev xs (d + 2) 34 5 ([.ref 19, .int (nI l), .int (nI o), .int (nI k), y], [], hc σ (ur M 23 g) R) = some (.inl none, hc σ (ur M 23 f) R) ∧ KP l o (fun s i => kr M l o ∧ s < (σ 1 2) ∧ i < (σ 1 2) ∧ cov σ l s &&& cov σ o i ≠ 0) (M 23) f := by
        refine lp (σ 1 2) ?_ ?_
        · intro g y hg
          refine ⟨g, ?_, KP_c hg fun s i => ?_⟩
          · rw [eb_34_5]
            simp (disch := first | assumption | omega | exact st8_a (Nat.le_of_ble_eq_true rfl)) only [eb_34_0, eb_34_1, eb_34_2, eb_34_3, eb_34_4, eb_34_6, eb_34_8, eb_34_9, eb_34_10, eb_34_11, eb_34_12, eb_34_13, eb_34_14, kl_a, kl_d, kl_f, kl_i, kl_l, kl_n, kl_r, xr_1, xr_10, xr_2, xr_27, xr_28, xr_3, xr_31, xr_32, xr_33, xr_34, xr_37, xr_38, xr_4, xr_40, xr_41, xr_43, xr_44, xr_48, xr_5, xr_58, xr_64, xr_74, xr_75, af_0, af_1, xt_goto, xt_ic_eq, xt_ic_ge, xt_ic_ne, xt_if_eq, xt_nop, xt_re, gF_19_0, gF_19_2, gF_19_4, gF_19_6, gF_1_2, gA_2, gA_3, gA_4, gA_5, gA_6, gA_7, gA_8, gA_9, gA_10, gA_11, gA_13, gA_14, gA_16, gA_17, gA_20, gA_21, gA_22, gA_23, gA_24, gA_25, gA_26, gA_27, gA_30, gA_31, gA_32, gA_33, gA_34, gA_35, gA_36, gA_38, gA_39, gA_41, gA_42, gA_46, gA_47, gA_49, gA_50, gA_51, gA_53, gA_56, gA_57, gA_59, gA_60, gW_2, gW_3, gW_4, gW_5, gW_6, gW_7, gW_8, gW_9, gW_10, gW_11, gW_13, gW_14, gW_16, gW_17, gW_20, gW_21, gW_22, gW_23, gW_24, gW_25, gW_26, gW_27, gW_30, gW_31, gW_32, gW_33, gW_34, gW_35, gW_36, gW_38, gW_39, gW_41, gW_42, gW_46, gW_47, gW_49, gW_50, gW_51, gW_53, gW_56, gW_57, gW_59, gW_60, xq_277_200_static, xq_27_200_static, iN_add, iN_mul, iN_sub, iN_and, iN_or, iN_clr, iN_shl, iN_shr, tb_r1, b1_z, b1_or, b1_and, b1_or0, b1_or1, b1_0or, b1_t, b1_f, iN_lt, iN_inj, reduceIte, if_true, if_false, Nat.zero_add, Nat.add_zero, Bool.false_eq_true, Bool.true_eq_false, Nat.lt_irrefl, iN_az, not_true_eq_false, not_false_eq_true, Nat.reduceEqDiff, Nat.reduceLT, Nat.reduceAdd, Nat.reduceMul, Nat.reduceSub]
          · constructor
            · exact fun ⟨a, b, c, e⟩ => ⟨hkr, a, b, e⟩
            · exact fun ⟨_, a, b, e⟩ => ⟨a, b, a, e⟩
        · intro k hk ih g y hg
          have inn : ∀ j, j ≤ (σ 1 2) → ∀ g, KP l o (fun s i => s < (σ 1 2) ∧ i < (σ 1 2) ∧ (s < k ∨ s = k ∧ i < j) ∧ cov σ l s &&& cov σ o i ≠ 0) (M 23) g → ∃ f, ev xs (d + 2) 34 7 ([.ref 19, .int (nI l), .int (nI o), .int (nI k), .int (nI j)], [], hc σ (ur M 23 g) R) = some (.inl none, hc σ (ur M 23 f) R) ∧ KP l o (fun s i => kr M l o ∧ s < (σ 1 2) ∧ i < (σ 1 2) ∧ cov σ l s &&& cov σ o i ≠ 0) (M 23) f := by
            refine lp (σ 1 2) ?_ ?_
            · intro g hg
              obtain ⟨f, e, q1⟩ := ih g (.int (nI (σ 1 2))) (KP_c hg fun s i => by
                constructor
                · rintro ⟨a, b, c | ⟨c, c2⟩, e⟩
                  · exact ⟨a, b, by omega, e⟩
                  · exact ⟨a, b, by omega, e⟩
                · rintro ⟨a, b, c, e⟩
                  exact ⟨a, b, by omega, e⟩)
              refine ⟨f, ?_, q1⟩
              rw [eb_34_7]
              simp (disch := first | assumption | omega | exact st8_a (Nat.le_of_ble_eq_true rfl)) only [eb_34_0, eb_34_1, eb_34_2, eb_34_3, eb_34_4, eb_34_6, eb_34_8, eb_34_9, eb_34_10, eb_34_11, eb_34_12, eb_34_13, eb_34_14, kl_a, kl_d, kl_f, kl_i, kl_l, kl_n, kl_r, xr_1, xr_10, xr_2, xr_27, xr_28, xr_3, xr_31, xr_32, xr_33, xr_34, xr_37, xr_38, xr_4, xr_40, xr_41, xr_43, xr_44, xr_48, xr_5, xr_58, xr_64, xr_74, xr_75, af_0, af_1, xt_goto, xt_ic_eq, xt_ic_ge, xt_ic_ne, xt_if_eq, xt_nop, xt_re, gF_19_0, gF_19_2, gF_19_4, gF_19_6, gF_1_2, gA_2, gA_3, gA_4, gA_5, gA_6, gA_7, gA_8, gA_9, gA_10, gA_11, gA_13, gA_14, gA_16, gA_17, gA_20, gA_21, gA_22, gA_23, gA_24, gA_25, gA_26, gA_27, gA_30, gA_31, gA_32, gA_33, gA_34, gA_35, gA_36, gA_38, gA_39, gA_41, gA_42, gA_46, gA_47, gA_49, gA_50, gA_51, gA_53, gA_56, gA_57, gA_59, gA_60, gW_2, gW_3, gW_4, gW_5, gW_6, gW_7, gW_8, gW_9, gW_10, gW_11, gW_13, gW_14, gW_16, gW_17, gW_20, gW_21, gW_22, gW_23, gW_24, gW_25, gW_26, gW_27, gW_30, gW_31, gW_32, gW_33, gW_34, gW_35, gW_36, gW_38, gW_39, gW_41, gW_42, gW_46, gW_47, gW_49, gW_50, gW_51, gW_53, gW_56, gW_57, gW_59, gW_60, xq_277_200_static, xq_27_200_static, iN_add, iN_mul, iN_sub, iN_and, iN_or, iN_clr, iN_shl, iN_shr, tb_r1, b1_z, b1_or, b1_and, b1_or0, b1_or1, b1_0or, b1_t, b1_f, iN_lt, iN_inj, reduceIte, if_true, if_false, Nat.zero_add, Nat.add_zero, Bool.false_eq_true, Bool.true_eq_false, Nat.lt_irrefl, iN_az, not_true_eq_false, not_false_eq_true, Nat.reduceEqDiff, Nat.reduceLT, Nat.reduceAdd, Nat.reduceMul, Nat.reduceSub]
              exact e
            · intro j hj ih2 g hg
              have p1 : pi l k o < 216 := by unfold pi; omega
              have p2 : pi o j l < 216 := by unfold pi; omega
              have p3 : l * 6 + k < 36 := by omega
              have p4 : o * 6 + j < 36 := by omega
              have e1 : ur M 23 g 25 (l * 6 + k) = cov σ l k := by rw [ur_n (by decide)]; exact hc25 l hl k hk
              have e2 : ur M 23 g 25 (o * 6 + j) = cov σ o j := by rw [ur_n (by decide)]; exact hc25 o ho j hj
              have c1 := cov_lt O (l := l) hk
              rw [eb_34_7]
              by_cases h3 : cov σ l k &&& cov σ o j = 0
              · obtain ⟨f, e, q1⟩ := ih2 _ (KP_c hg fun s i => by
                  constructor
                  · rintro ⟨a, b, c, e⟩
                    exact ⟨a, b, by omega, e⟩
                  · rintro ⟨a, b, c, e⟩
                    refine ⟨a, b, ?_, e⟩
                    by_cases hh : s = k ∧ i = j
                    · rw [hh.1, hh.2] at e; exact absurd h3 e
                    · omega)
                refine ⟨f, ?_, q1⟩
                simp (disch := first | assumption | omega | exact st8_a (Nat.le_of_ble_eq_true rfl)) only [hj, e1, e2, h3, eb_34_0, eb_34_1, eb_34_2, eb_34_3, eb_34_4, eb_34_6, eb_34_8, eb_34_9, eb_34_10, eb_34_11, eb_34_12, eb_34_13, eb_34_14, kl_a, kl_d, kl_f, kl_i, kl_l, kl_n, kl_r, xr_1, xr_10, xr_2, xr_27, xr_28, xr_3, xr_31, xr_32, xr_33, xr_34, xr_37, xr_38, xr_4, xr_40, xr_41, xr_43, xr_44, xr_48, xr_5, xr_58, xr_64, xr_74, xr_75, af_0, af_1, xt_goto, xt_ic_eq, xt_ic_ge, xt_ic_ne, xt_if_eq, xt_nop, xt_re, gF_19_0, gF_19_2, gF_19_4, gF_19_6, gF_1_2, gA_2, gA_3, gA_4, gA_5, gA_6, gA_7, gA_8, gA_9, gA_10, gA_11, gA_13, gA_14, gA_16, gA_17, gA_20, gA_21, gA_22, gA_23, gA_24, gA_25, gA_26, gA_27, gA_30, gA_31, gA_32, gA_33, gA_34, gA_35, gA_36, gA_38, gA_39, gA_41, gA_42, gA_46, gA_47, gA_49, gA_50, gA_51, gA_53, gA_56, gA_57, gA_59, gA_60, gW_2, gW_3, gW_4, gW_5, gW_6, gW_7, gW_8, gW_9, gW_10, gW_11, gW_13, gW_14, gW_16, gW_17, gW_20, gW_21, gW_22, gW_23, gW_24, gW_25, gW_26, gW_27, gW_30, gW_31, gW_32, gW_33, gW_34, gW_35, gW_36, gW_38, gW_39, gW_41, gW_42, gW_46, gW_47, gW_49, gW_50, gW_51, gW_53, gW_56, gW_57, gW_59, gW_60, xq_277_200_static, xq_27_200_static, iN_add, iN_mul, iN_sub, iN_and, iN_or, iN_clr, iN_shl, iN_shr, tb_r1, b1_z, b1_or, b1_and, b1_or0, b1_or1, b1_0or, b1_t, b1_f, iN_lt, iN_inj, reduceIte, if_true, if_false, Nat.zero_add, Nat.add_zero, Bool.false_eq_true, Bool.true_eq_false, Nat.lt_irrefl, iN_az, not_true_eq_false, not_false_eq_true, Nat.reduceEqDiff, Nat.reduceLT, Nat.reduceAdd, Nat.reduceMul, Nat.reduceSub]
                exact e
              · obtain ⟨f, e, q1⟩ := ih2 _ (KP_c (KP_s hg (x := k) (y := j) (by omega) (by omega) (by omega) (by omega)) fun s i => by
                  constructor
                  · rintro (⟨a, b, c, e⟩ | ⟨a, b⟩)
                    · exact ⟨a, b, by omega, e⟩
                    · subst a; subst b; exact ⟨hk, hj, by omega, h3⟩
                  · rintro ⟨a, b, c, e⟩
                    by_cases hh : s = k ∧ i = j
                    · exact .inr hh
                    · exact .inl ⟨a, b, by omega, e⟩)
                refine ⟨f, ?_, q1⟩
                simp (disch := first | assumption | omega | exact st8_a (Nat.le_of_ble_eq_true rfl)) only [hj, e1, e2, h3, s_27, ur_s, ur_up, eb_34_0, eb_34_1, eb_34_2, eb_34_3, eb_34_4, eb_34_6, eb_34_8, eb_34_9, eb_34_10, eb_34_11, eb_34_12, eb_34_13, eb_34_14, kl_a, kl_d, kl_f, kl_i, kl_l, kl_n, kl_r, xr_1, xr_10, xr_2, xr_27, xr_28, xr_3, xr_31, xr_32, xr_33, xr_34, xr_37, xr_38, xr_4, xr_40, xr_41, xr_43, xr_44, xr_48, xr_5, xr_58, xr_64, xr_74, xr_75, af_0, af_1, xt_goto, xt_ic_eq, xt_ic_ge, xt_ic_ne, xt_if_eq, xt_nop, xt_re, gF_19_0, gF_19_2, gF_19_4, gF_19_6, gF_1_2, gA_2, gA_3, gA_4, gA_5, gA_6, gA_7, gA_8, gA_9, gA_10, gA_11, gA_13, gA_14, gA_16, gA_17, gA_20, gA_21, gA_22, gA_23, gA_24, gA_25, gA_26, gA_27, gA_30, gA_31, gA_32, gA_33, gA_34, gA_35, gA_36, gA_38, gA_39, gA_41, gA_42, gA_46, gA_47, gA_49, gA_50, gA_51, gA_53, gA_56, gA_57, gA_59, gA_60, gW_2, gW_3, gW_4, gW_5, gW_6, gW_7, gW_8, gW_9, gW_10, gW_11, gW_13, gW_14, gW_16, gW_17, gW_20, gW_21, gW_22, gW_23, gW_24, gW_25, gW_26, gW_27, gW_30, gW_31, gW_32, gW_33, gW_34, gW_35, gW_36, gW_38, gW_39, gW_41, gW_42, gW_46, gW_47, gW_49, gW_50, gW_51, gW_53, gW_56, gW_57, gW_59, gW_60, xq_277_200_static, xq_27_200_static, iN_add, iN_mul, iN_sub, iN_and, iN_or, iN_clr, iN_shl, iN_shr, tb_r1, b1_z, b1_or, b1_and, b1_or0, b1_or1, b1_0or, b1_t, b1_f, iN_lt, iN_inj, reduceIte, if_true, if_false, Nat.zero_add, Nat.add_zero, Bool.false_eq_true, Bool.true_eq_false, Nat.lt_irrefl, iN_az, not_true_eq_false, not_false_eq_true, Nat.reduceEqDiff, Nat.reduceLT, Nat.reduceAdd, Nat.reduceMul, Nat.reduceSub]
                exact e
          obtain ⟨f, e, q1⟩ := inn 0 (Nat.zero_le _) g (KP_c hg fun s i => by
            constructor
            · rintro ⟨a, b, c, e⟩
              exact ⟨a, b, .inl c, e⟩
            · rintro ⟨a, b, c, e⟩
              exact ⟨a, b, by omega, e⟩)
          refine ⟨f, ?_, q1⟩
          rw [eb_34_5]
          simp (disch := first | assumption | omega | exact st8_a (Nat.le_of_ble_eq_true rfl)) only [hk, eb_34_0, eb_34_1, eb_34_2, eb_34_3, eb_34_4, eb_34_6, eb_34_8, eb_34_9, eb_34_10, eb_34_11, eb_34_12, eb_34_13, eb_34_14, kl_a, kl_d, kl_f, kl_i, kl_l, kl_n, kl_r, xr_1, xr_10, xr_2, xr_27, xr_28, xr_3, xr_31, xr_32, xr_33, xr_34, xr_37, xr_38, xr_4, xr_40, xr_41, xr_43, xr_44, xr_48, xr_5, xr_58, xr_64, xr_74, xr_75, af_0, af_1, xt_goto, xt_ic_eq, xt_ic_ge, xt_ic_ne, xt_if_eq, xt_nop, xt_re, gF_19_0, gF_19_2, gF_19_4, gF_19_6, gF_1_2, gA_2, gA_3, gA_4, gA_5, gA_6, gA_7, gA_8, gA_9, gA_10, gA_11, gA_13, gA_14, gA_16, gA_17, gA_20, gA_21, gA_22, gA_23, gA_24, gA_25, gA_26, gA_27, gA_30, gA_31, gA_32, gA_33, gA_34, gA_35, gA_36, gA_38, gA_39, gA_41, gA_42, gA_46, gA_47, gA_49, gA_50, gA_51, gA_53, gA_56, gA_57, gA_59, gA_60, gW_2, gW_3, gW_4, gW_5, gW_6, gW_7, gW_8, gW_9, gW_10, gW_11, gW_13, gW_14, gW_16, gW_17, gW_20, gW_21, gW_22, gW_23, gW_24, gW_25, gW_26, gW_27, gW_30, gW_31, gW_32, gW_33, gW_34, gW_35, gW_36, gW_38, gW_39, gW_41, gW_42, gW_46, gW_47, gW_49, gW_50, gW_51, gW_53, gW_56, gW_57, gW_59, gW_60, xq_277_200_static, xq_27_200_static, iN_add, iN_mul, iN_sub, iN_and, iN_or, iN_clr, iN_shl, iN_shr, tb_r1, b1_z, b1_or, b1_and, b1_or0, b1_or1, b1_0or, b1_t, b1_f, iN_lt, iN_inj, reduceIte, if_true, if_false, Nat.zero_add, Nat.add_zero, Bool.false_eq_true, Bool.true_eq_false, Nat.lt_irrefl, iN_az, not_true_eq_false, not_false_eq_true, Nat.reduceEqDiff, Nat.reduceLT, Nat.reduceAdd, Nat.reduceMul, Nat.reduceSub]
          exact e
      obtain ⟨f, e, q1⟩ := key 0 (Nat.zero_le _) (M 23) (.retAddr 9) (KP_c (KP_0 _ _ _) fun s i => by
        constructor
        · exact fun h => h.elim
        · rintro ⟨a, b, c, e⟩
          omega)
      refine ⟨f, ?_, q1⟩
      rw [ur_id] at e
      simp (disch := first | assumption | omega | exact st8_a (Nat.le_of_ble_eq_true rfl)) only [h1, h2, s_277 (show M 21 o < 1024 by omega), eb_34_0, eb_34_1, eb_34_2, eb_34_3, eb_34_4, eb_34_6, eb_34_8, eb_34_9, eb_34_10, eb_34_11, eb_34_12, eb_34_13, eb_34_14, kl_a, kl_d, kl_f, kl_i, kl_l, kl_n, kl_r, xr_1, xr_10, xr_2, xr_27, xr_28, xr_3, xr_31, xr_32, xr_33, xr_34, xr_37, xr_38, xr_4, xr_40, xr_41, xr_43, xr_44, xr_48, xr_5, xr_58, xr_64, xr_74, xr_75, af_0, af_1, xt_goto, xt_ic_eq, xt_ic_ge, xt_ic_ne, xt_if_eq, xt_nop, xt_re, gF_19_0, gF_19_2, gF_19_4, gF_19_6, gF_1_2, gA_2, gA_3, gA_4, gA_5, gA_6, gA_7, gA_8, gA_9, gA_10, gA_11, gA_13, gA_14, gA_16, gA_17, gA_20, gA_21, gA_22, gA_23, gA_24, gA_25, gA_26, gA_27, gA_30, gA_31, gA_32, gA_33, gA_34, gA_35, gA_36, gA_38, gA_39, gA_41, gA_42, gA_46, gA_47, gA_49, gA_50, gA_51, gA_53, gA_56, gA_57, gA_59, gA_60, gW_2, gW_3, gW_4, gW_5, gW_6, gW_7, gW_8, gW_9, gW_10, gW_11, gW_13, gW_14, gW_16, gW_17, gW_20, gW_21, gW_22, gW_23, gW_24, gW_25, gW_26, gW_27, gW_30, gW_31, gW_32, gW_33, gW_34, gW_35, gW_36, gW_38, gW_39, gW_41, gW_42, gW_46, gW_47, gW_49, gW_50, gW_51, gW_53, gW_56, gW_57, gW_59, gW_60, xq_277_200_static, xq_27_200_static, iN_add, iN_mul, iN_sub, iN_and, iN_or, iN_clr, iN_shl, iN_shr, tb_r1, b1_z, b1_or, b1_and, b1_or0, b1_or1, b1_0or, b1_t, b1_f, iN_lt, iN_inj, reduceIte, if_true, if_false, Nat.zero_add, Nat.add_zero, Bool.false_eq_true, Bool.true_eq_false, Nat.lt_irrefl, iN_az, not_true_eq_false, not_false_eq_true, Nat.reduceEqDiff, Nat.reduceLT, Nat.reduceAdd, Nat.reduceMul, Nat.reduceSub]
      exact e
    · refine ⟨M 23, ?_, KP_c (KP_0 _ _ _) fun s i => ⟨fun h => h.elim, fun h => h2 (by have := h.1.2; rwa [h1] at this)⟩⟩
      rw [ur_id]
      simp (disch := first | assumption | omega | exact st8_a (Nat.le_of_ble_eq_true rfl)) only [h1, h2, s_277 (show M 21 o < 1024 by omega), eb_34_0, eb_34_1, eb_34_2, eb_34_3, eb_34_4, eb_34_6, eb_34_8, eb_34_9, eb_34_10, eb_34_11, eb_34_12, eb_34_13, eb_34_14, kl_a, kl_d, kl_f, kl_i, kl_l, kl_n, kl_r, xr_1, xr_10, xr_2, xr_27, xr_28, xr_3, xr_31, xr_32, xr_33, xr_34, xr_37, xr_38, xr_4, xr_40, xr_41, xr_43, xr_44, xr_48, xr_5, xr_58, xr_64, xr_74, xr_75, af_0, af_1, xt_goto, xt_ic_eq, xt_ic_ge, xt_ic_ne, xt_if_eq, xt_nop, xt_re, gF_19_0, gF_19_2, gF_19_4, gF_19_6, gF_1_2, gA_2, gA_3, gA_4, gA_5, gA_6, gA_7, gA_8, gA_9, gA_10, gA_11, gA_13, gA_14, gA_16, gA_17, gA_20, gA_21, gA_22, gA_23, gA_24, gA_25, gA_26, gA_27, gA_30, gA_31, gA_32, gA_33, gA_34, gA_35, gA_36, gA_38, gA_39, gA_41, gA_42, gA_46, gA_47, gA_49, gA_50, gA_51, gA_53, gA_56, gA_57, gA_59, gA_60, gW_2, gW_3, gW_4, gW_5, gW_6, gW_7, gW_8, gW_9, gW_10, gW_11, gW_13, gW_14, gW_16, gW_17, gW_20, gW_21, gW_22, gW_23, gW_24, gW_25, gW_26, gW_27, gW_30, gW_31, gW_32, gW_33, gW_34, gW_35, gW_36, gW_38, gW_39, gW_41, gW_42, gW_46, gW_47, gW_49, gW_50, gW_51, gW_53, gW_56, gW_57, gW_59, gW_60, xq_277_200_static, xq_27_200_static, iN_add, iN_mul, iN_sub, iN_and, iN_or, iN_clr, iN_shl, iN_shr, tb_r1, b1_z, b1_or, b1_and, b1_or0, b1_or1, b1_0or, b1_t, b1_f, iN_lt, iN_inj, reduceIte, if_true, if_false, Nat.zero_add, Nat.add_zero, Bool.false_eq_true, Bool.true_eq_false, Nat.lt_irrefl, iN_az, not_true_eq_false, not_false_eq_true, Nat.reduceEqDiff, Nat.reduceLT, Nat.reduceAdd, Nat.reduceMul, Nat.reduceSub]
  · refine ⟨M 23, ?_, KP_c (KP_0 _ _ _) fun s i => ⟨fun h => h.elim, fun h => h1 h.1.1⟩⟩
    rw [ur_id]
    simp (disch := first | assumption | omega | exact st8_a (Nat.le_of_ble_eq_true rfl)) only [h1, eb_34_0, eb_34_1, eb_34_2, eb_34_3, eb_34_4, eb_34_6, eb_34_8, eb_34_9, eb_34_10, eb_34_11, eb_34_12, eb_34_13, eb_34_14, kl_a, kl_d, kl_f, kl_i, kl_l, kl_n, kl_r, xr_1, xr_10, xr_2, xr_27, xr_28, xr_3, xr_31, xr_32, xr_33, xr_34, xr_37, xr_38, xr_4, xr_40, xr_41, xr_43, xr_44, xr_48, xr_5, xr_58, xr_64, xr_74, xr_75, af_0, af_1, xt_goto, xt_ic_eq, xt_ic_ge, xt_ic_ne, xt_if_eq, xt_nop, xt_re, gF_19_0, gF_19_2, gF_19_4, gF_19_6, gF_1_2, gA_2, gA_3, gA_4, gA_5, gA_6, gA_7, gA_8, gA_9, gA_10, gA_11, gA_13, gA_14, gA_16, gA_17, gA_20, gA_21, gA_22, gA_23, gA_24, gA_25, gA_26, gA_27, gA_30, gA_31, gA_32, gA_33, gA_34, gA_35, gA_36, gA_38, gA_39, gA_41, gA_42, gA_46, gA_47, gA_49, gA_50, gA_51, gA_53, gA_56, gA_57, gA_59, gA_60, gW_2, gW_3, gW_4, gW_5, gW_6, gW_7, gW_8, gW_9, gW_10, gW_11, gW_13, gW_14, gW_16, gW_17, gW_20, gW_21, gW_22, gW_23, gW_24, gW_25, gW_26, gW_27, gW_30, gW_31, gW_32, gW_33, gW_34, gW_35, gW_36, gW_38, gW_39, gW_41, gW_42, gW_46, gW_47, gW_49, gW_50, gW_51, gW_53, gW_56, gW_57, gW_59, gW_60, xq_277_200_static, xq_27_200_static, iN_add, iN_mul, iN_sub, iN_and, iN_or, iN_clr, iN_shl, iN_shr, tb_r1, b1_z, b1_or, b1_and, b1_or0, b1_or1, b1_0or, b1_t, b1_f, iN_lt, iN_inj, reduceIte, if_true, if_false, Nat.zero_add, Nat.add_zero, Bool.false_eq_true, Bool.true_eq_false, Nat.lt_irrefl, iN_az, not_true_eq_false, not_false_eq_true, Nat.reduceEqDiff, Nat.reduceLT, Nat.reduceAdd, Nat.reduceMul, Nat.reduceSub]
set_option maxRecDepth 100000 in
theorem s_36 (O : Ok σ) (hl : l < (σ 1 6)) (hs : s < (σ 1 2)) (h20 : ∀ l, l < (σ 1 6) → M 20 l < 64) : ∃ b : Bool, (b = true → ∃ o, o < (σ 1 6) ∧ o ≠ l ∧ M 23 (pi l s o) &&& M 20 o = 0) ∧ ev xs (d + 1) 36 0 ([.ref 19, .int (nI l), .int (nI s), .retAddr 9], [], hc σ M R) = some (.inl (some (.int (nI (b1 b)))), hc σ M R) := by
  obtain ⟨hD1, hD2, hH1, hH2, hS, hC, hT, hR, hL, hQ⟩ := Ok_b O
  have key : ∀ k, k ≤ (σ 1 6) → ∃ b : Bool, (b = true → ∃ o, o < (σ 1 6) ∧ o ≠ l ∧ M 23 (pi l s o) &&& M 20 o = 0) ∧ ev xs (d + 1) 36 1 ([.ref 19, .int (nI l), .int (nI s), .int (nI k)], [], hc σ M R) = some (.inl (some (.int (nI (b1 b)))), hc σ M R) := by
    refine lp (σ 1 6) ?_ ?_
    · refine ⟨false, fun h => (by cases h), ?_⟩
      rw [eb_36_1]
      simp (disch := first | assumption | omega | exact st8_a (Nat.le_of_ble_eq_true rfl)) only [eb_36_0, eb_36_2, eb_36_3, eb_36_4, eb_36_5, eb_36_6, eb_36_7, kl_a, kl_d, kl_f, kl_i, kl_l, kl_n, kl_r, xr_1, xr_10, xr_2, xr_27, xr_28, xr_3, xr_31, xr_32, xr_37, xr_4, xr_43, xr_44, xr_5, af_0, af_1, xt_goto, xt_ib, xt_ic, xt_ic_eq, xt_ic_ge, xt_if_ne, xt_ir, xt_nop, gF_19_0, gF_19_1, gF_19_4, gF_1_6, gA_2, gA_3, gA_4, gA_5, gA_6, gA_7, gA_8, gA_9, gA_10, gA_11, gA_13, gA_14, gA_16, gA_17, gA_20, gA_21, gA_22, gA_23, gA_24, gA_25, gA_26, gA_27, gA_30, gA_31, gA_32, gA_33, gA_34, gA_35, gA_36, gA_38, gA_39, gA_41, gA_42, gA_46, gA_47, gA_49, gA_50, gA_51, gA_53, gA_56, gA_57, gA_59, gA_60, xq_27_200_static, iN_add, iN_mul, iN_sub, iN_and, iN_or, iN_clr, iN_shl, iN_shr, tb_r1, b1_z, b1_or, b1_and, b1_or0, b1_or1, b1_0or, b1_t, b1_f, iN_lt, iN_inj, reduceIte, if_true, if_false, Nat.zero_add, Nat.add_zero, Bool.false_eq_true, Bool.true_eq_false, Nat.lt_irrefl, iN_az, not_true_eq_false, not_false_eq_true, Nat.reduceEqDiff, Nat.reduceLT, Nat.reduceAdd, Nat.reduceMul, Nat.reduceSub]
    · intro k hk ⟨b, hb, ih⟩
      have hpi : pi l s k < 216 := by unfold pi; omega
      have h3 := h20 k hk
      rw [eb_36_1]
      by_cases h1 : k = l
      · refine ⟨b, hb, ?_⟩
        simp (disch := first | assumption | omega | exact st8_a (Nat.le_of_ble_eq_true rfl)) only [hk, eq_true h1, eb_36_0, eb_36_2, eb_36_3, eb_36_4, eb_36_5, eb_36_6, eb_36_7, kl_a, kl_d, kl_f, kl_i, kl_l, kl_n, kl_r, xr_1, xr_10, xr_2, xr_27, xr_28, xr_3, xr_31, xr_32, xr_37, xr_4, xr_43, xr_44, xr_5, af_0, af_1, xt_goto, xt_ib, xt_ic, xt_ic_eq, xt_ic_ge, xt_if_ne, xt_ir, xt_nop, gF_19_0, gF_19_1, gF_19_4, gF_1_6, gA_2, gA_3, gA_4, gA_5, gA_6, gA_7, gA_8, gA_9, gA_10, gA_11, gA_13, gA_14, gA_16, gA_17, gA_20, gA_21, gA_22, gA_23, gA_24, gA_25, gA_26, gA_27, gA_30, gA_31, gA_32, gA_33, gA_34, gA_35, gA_36, gA_38, gA_39, gA_41, gA_42, gA_46, gA_47, gA_49, gA_50, gA_51, gA_53, gA_56, gA_57, gA_59, gA_60, xq_27_200_static, iN_add, iN_mul, iN_sub, iN_and, iN_or, iN_clr, iN_shl, iN_shr, tb_r1, b1_z, b1_or, b1_and, b1_or0, b1_or1, b1_0or, b1_t, b1_f, iN_lt, iN_inj, reduceIte, if_true, if_false, Nat.zero_add, Nat.add_zero, Bool.false_eq_true, Bool.true_eq_false, Nat.lt_irrefl, iN_az, not_true_eq_false, not_false_eq_true, Nat.reduceEqDiff, Nat.reduceLT, Nat.reduceAdd, Nat.reduceMul, Nat.reduceSub]
        exact ih
      · by_cases h2 : M 23 (pi l s k) &&& M 20 k = 0
        · refine ⟨true, fun _ => ⟨k, hk, h1, h2⟩, ?_⟩
          simp (disch := first | assumption | omega | exact st8_a (Nat.le_of_ble_eq_true rfl)) only [hk, h1, s_27, h2, iN_za, eb_36_0, eb_36_2, eb_36_3, eb_36_4, eb_36_5, eb_36_6, eb_36_7, kl_a, kl_d, kl_f, kl_i, kl_l, kl_n, kl_r, xr_1, xr_10, xr_2, xr_27, xr_28, xr_3, xr_31, xr_32, xr_37, xr_4, xr_43, xr_44, xr_5, af_0, af_1, xt_goto, xt_ib, xt_ic, xt_ic_eq, xt_ic_ge, xt_if_ne, xt_ir, xt_nop, gF_19_0, gF_19_1, gF_19_4, gF_1_6, gA_2, gA_3, gA_4, gA_5, gA_6, gA_7, gA_8, gA_9, gA_10, gA_11, gA_13, gA_14, gA_16, gA_17, gA_20, gA_21, gA_22, gA_23, gA_24, gA_25, gA_26, gA_27, gA_30, gA_31, gA_32, gA_33, gA_34, gA_35, gA_36, gA_38, gA_39, gA_41, gA_42, gA_46, gA_47, gA_49, gA_50, gA_51, gA_53, gA_56, gA_57, gA_59, gA_60, xq_27_200_static, iN_add, iN_mul, iN_sub, iN_and, iN_or, iN_clr, iN_shl, iN_shr, tb_r1, b1_z, b1_or, b1_and, b1_or0, b1_or1, b1_0or, b1_t, b1_f, iN_lt, iN_inj, reduceIte, if_true, if_false, Nat.zero_add, Nat.add_zero, Bool.false_eq_true, Bool.true_eq_false, Nat.lt_irrefl, iN_az, not_true_eq_false, not_false_eq_true, Nat.reduceEqDiff, Nat.reduceLT, Nat.reduceAdd, Nat.reduceMul, Nat.reduceSub]
        · refine ⟨b, hb, ?_⟩
          simp (disch := first | assumption | omega | exact st8_a (Nat.le_of_ble_eq_true rfl)) only [hk, h1, s_27, h2, iN_za, eb_36_0, eb_36_2, eb_36_3, eb_36_4, eb_36_5, eb_36_6, eb_36_7, kl_a, kl_d, kl_f, kl_i, kl_l, kl_n, kl_r, xr_1, xr_10, xr_2, xr_27, xr_28, xr_3, xr_31, xr_32, xr_37, xr_4, xr_43, xr_44, xr_5, af_0, af_1, xt_goto, xt_ib, xt_ic, xt_ic_eq, xt_ic_ge, xt_if_ne, xt_ir, xt_nop, gF_19_0, gF_19_1, gF_19_4, gF_1_6, gA_2, gA_3, gA_4, gA_5, gA_6, gA_7, gA_8, gA_9, gA_10, gA_11, gA_13, gA_14, gA_16, gA_17, gA_20, gA_21, gA_22, gA_23, gA_24, gA_25, gA_26, gA_27, gA_30, gA_31, gA_32, gA_33, gA_34, gA_35, gA_36, gA_38, gA_39, gA_41, gA_42, gA_46, gA_47, gA_49, gA_50, gA_51, gA_53, gA_56, gA_57, gA_59, gA_60, xq_27_200_static, iN_add, iN_mul, iN_sub, iN_and, iN_or, iN_clr, iN_shl, iN_shr, tb_r1, b1_z, b1_or, b1_and, b1_or0, b1_or1, b1_0or, b1_t, b1_f, iN_lt, iN_inj, reduceIte, if_true, if_false, Nat.zero_add, Nat.add_zero, Bool.false_eq_true, Bool.true_eq_false, Nat.lt_irrefl, iN_az, not_true_eq_false, not_false_eq_true, Nat.reduceEqDiff, Nat.reduceLT, Nat.reduceAdd, Nat.reduceMul, Nat.reduceSub]
          exact ih
  obtain ⟨b, hb, h⟩ := key 0 (Nat.zero_le _)
  refine ⟨b, hb, ?_⟩
  simp (disch := first | assumption | omega | exact st8_a (Nat.le_of_ble_eq_true rfl)) only [eb_36_0, eb_36_2, eb_36_3, eb_36_4, eb_36_5, eb_36_6, eb_36_7, kl_a, kl_d, kl_f, kl_i, kl_l, kl_n, kl_r, xr_1, xr_10, xr_2, xr_27, xr_28, xr_3, xr_31, xr_32, xr_37, xr_4, xr_43, xr_44, xr_5, af_0, af_1, xt_goto, xt_ib, xt_ic, xt_ic_eq, xt_ic_ge, xt_if_ne, xt_ir, xt_nop, gF_19_0, gF_19_1, gF_19_4, gF_1_6, gA_2, gA_3, gA_4, gA_5, gA_6, gA_7, gA_8, gA_9, gA_10, gA_11, gA_13, gA_14, gA_16, gA_17, gA_20, gA_21, gA_22, gA_23, gA_24, gA_25, gA_26, gA_27, gA_30, gA_31, gA_32, gA_33, gA_34, gA_35, gA_36, gA_38, gA_39, gA_41, gA_42, gA_46, gA_47, gA_49, gA_50, gA_51, gA_53, gA_56, gA_57, gA_59, gA_60, xq_27_200_static, iN_add, iN_mul, iN_sub, iN_and, iN_or, iN_clr, iN_shl, iN_shr, tb_r1, b1_z, b1_or, b1_and, b1_or0, b1_or1, b1_0or, b1_t, b1_f, iN_lt, iN_inj, reduceIte, if_true, if_false, Nat.zero_add, Nat.add_zero, Bool.false_eq_true, Bool.true_eq_false, Nat.lt_irrefl, iN_az, not_true_eq_false, not_false_eq_true, Nat.reduceEqDiff, Nat.reduceLT, Nat.reduceAdd, Nat.reduceMul, Nat.reduceSub]
  exact h
/-- values of lessons, each with a partner's slot in each other lesson -/
def FX (σ : Nat → Nat → Nat) (f : Nat → Nat) (X : Nat → Nat → Nat → Prop) : Prop := ∀ l, l < (σ 1 6) → ∀ s r, X l s r → s < (σ 1 2) ∧ ∀ o, o < (σ 1 6) → o ≠ l → ∃ s' r', X o s' r' ∧ fb f l s o s' = true
def JX (σ : Nat → Nat → Nat) (X : Nat → Nat → Nat → Prop) (g : Nat → Nat) : Prop := ∀ l, l < (σ 1 6) → ∀ s r, X l s r → (g l).testBit s = true
set_option maxRecDepth 100000 in
theorem s_35 (O : Ok σ) (h20 : ∀ l, l < (σ 1 6) → M 20 l < 64) : ∃ g, ∃ b : Bool, ev xs (d + 2) 35 0 ([.ref 19, .retAddr 9, .retAddr 9, .retAddr 9], [], hc σ M R) = some (.inl (some (.int (nI (b1 b)))), hc σ (ur M 20 g) R) ∧ (∀ l, l < (σ 1 6) → ∀ i, (g l).testBit i = true → (M 20 l).testBit i = true) ∧ ∀ X, FX σ (M 23) X → JX σ X (M 20) → JX σ X g := by
  obtain ⟨hD1, hD2, hH1, hH2, hS, hC, hT, hR, hL, hQ⟩ := Ok_b O
  have key : ∀ k, k ≤ (σ 1 6) → ∀ g0 (b : Bool) y, ((∀ l, l < (σ 1 6) → ∀ i, (g0 l).testBit i = true → (M 20 l).testBit i = true) ∧ ∀ X, FX σ (M 23) X → JX σ X (M 20) → JX σ X g0) → ∃ g, ∃ b2 : Bool, ev xs (d + 2) 35 1 ([.ref 19, .int (nI (b1 b)), .int (nI k), y], [], hc σ (ur M 20 g0) R) = some (.inl (some (.int (nI (b1 b2)))), hc σ (ur M 20 g) R) ∧ (∀ l, l < (σ 1 6) → ∀ i, (g l).testBit i = true → (M 20 l).testBit i = true) ∧ ∀ X, FX σ (M 23) X → JX σ X (M 20) → JX σ X g := by
    refine lp (σ 1 6) ?_ ?_
    · intro g0 b y hg
      refine ⟨g0, b, ?_, hg⟩
      rw [eb_35_1]
      simp (disch := first | assumption | omega | exact st8_a (Nat.le_of_ble_eq_true rfl)) only [eb_35_0, eb_35_2, eb_35_4, eb_35_5, eb_35_6, eb_35_7, eb_35_8, eb_35_9, eb_35_10, kl_a, kl_d, kl_f, kl_i, kl_l, kl_n, kl_r, xr_1, xr_10, xr_2, xr_27, xr_28, xr_29, xr_3, xr_30, xr_31, xr_32, xr_37, xr_4, xr_42, xr_43, xr_44, xr_5, xr_55, xr_58, xr_64, xr_74, xr_75, af_0, af_1, xt_goto, xt_ib, xt_ic, xt_ic_ge, xt_if_eq, xt_ir, xt_nop, gF_19_0, gF_19_1, gF_1_2, gF_1_6, gA_2, gA_3, gA_4, gA_5, gA_6, gA_7, gA_8, gA_9, gA_10, gA_11, gA_13, gA_14, gA_16, gA_17, gA_20, gA_21, gA_22, gA_23, gA_24, gA_25, gA_26, gA_27, gA_30, gA_31, gA_32, gA_33, gA_34, gA_35, gA_36, gA_38, gA_39, gA_41, gA_42, gA_46, gA_47, gA_49, gA_50, gA_51, gA_53, gA_56, gA_57, gA_59, gA_60, gW_2, gW_3, gW_4, gW_5, gW_6, gW_7, gW_8, gW_9, gW_10, gW_11, gW_13, gW_14, gW_16, gW_17, gW_20, gW_21, gW_22, gW_23, gW_24, gW_25, gW_26, gW_27, gW_30, gW_31, gW_32, gW_33, gW_34, gW_35, gW_36, gW_38, gW_39, gW_41, gW_42, gW_46, gW_47, gW_49, gW_50, gW_51, gW_53, gW_56, gW_57, gW_59, gW_60, xq_36_3_virtualc, iN_add, iN_mul, iN_sub, iN_and, iN_or, iN_clr, iN_shl, iN_shr, tb_r1, b1_z, b1_or, b1_and, b1_or0, b1_or1, b1_0or, b1_t, b1_f, iN_lt, iN_inj, reduceIte, if_true, if_false, Nat.zero_add, Nat.add_zero, Bool.false_eq_true, Bool.true_eq_false, Nat.lt_irrefl, iN_az, not_true_eq_false, not_false_eq_true, Nat.reduceEqDiff, Nat.reduceLT, Nat.reduceAdd, Nat.reduceMul, Nat.reduceSub]
    · intro k hk ih g0 b y hg
      have inn : ∀ j, j ≤ (σ 1 2) → ∀ g0 (b : Bool), ((∀ l, l < (σ 1 6) → ∀ i, (g0 l).testBit i = true → (M 20 l).testBit i = true) ∧ ∀ X, FX σ (M 23) X → JX σ X (M 20) → JX σ X g0) → ∃ g, ∃ b2 : Bool, ev xs (d + 2) 35 3 ([.ref 19, .int (nI (b1 b)), .int (nI k), .int (nI j)], [], hc σ (ur M 20 g0) R) = some (.inl (some (.int (nI (b1 b2)))), hc σ (ur M 20 g) R) ∧ (∀ l, l < (σ 1 6) → ∀ i, (g l).testBit i = true → (M 20 l).testBit i = true) ∧ ∀ X, FX σ (M 23) X → JX σ X (M 20) → JX σ X g := by
        refine lp (σ 1 2) ?_ ?_
        · intro g0 b hg
          obtain ⟨g, b2, e, q⟩ := ih g0 b (.int (nI (σ 1 2))) hg
          refine ⟨g, b2, ?_, q⟩
          rw [eb_35_3]
          simp (disch := first | assumption | omega | exact st8_a (Nat.le_of_ble_eq_true rfl)) only [eb_35_0, eb_35_2, eb_35_4, eb_35_5, eb_35_6, eb_35_7, eb_35_8, eb_35_9, eb_35_10, kl_a, kl_d, kl_f, kl_i, kl_l, kl_n, kl_r, xr_1, xr_10, xr_2, xr_27, xr_28, xr_29, xr_3, xr_30, xr_31, xr_32, xr_37, xr_4, xr_42, xr_43, xr_44, xr_5, xr_55, xr_58, xr_64, xr_74, xr_75, af_0, af_1, xt_goto, xt_ib, xt_ic, xt_ic_ge, xt_if_eq, xt_ir, xt_nop, gF_19_0, gF_19_1, gF_1_2, gF_1_6, gA_2, gA_3, gA_4, gA_5, gA_6, gA_7, gA_8, gA_9, gA_10, gA_11, gA_13, gA_14, gA_16, gA_17, gA_20, gA_21, gA_22, gA_23, gA_24, gA_25, gA_26, gA_27, gA_30, gA_31, gA_32, gA_33, gA_34, gA_35, gA_36, gA_38, gA_39, gA_41, gA_42, gA_46, gA_47, gA_49, gA_50, gA_51, gA_53, gA_56, gA_57, gA_59, gA_60, gW_2, gW_3, gW_4, gW_5, gW_6, gW_7, gW_8, gW_9, gW_10, gW_11, gW_13, gW_14, gW_16, gW_17, gW_20, gW_21, gW_22, gW_23, gW_24, gW_25, gW_26, gW_27, gW_30, gW_31, gW_32, gW_33, gW_34, gW_35, gW_36, gW_38, gW_39, gW_41, gW_42, gW_46, gW_47, gW_49, gW_50, gW_51, gW_53, gW_56, gW_57, gW_59, gW_60, xq_36_3_virtualc, iN_add, iN_mul, iN_sub, iN_and, iN_or, iN_clr, iN_shl, iN_shr, tb_r1, b1_z, b1_or, b1_and, b1_or0, b1_or1, b1_0or, b1_t, b1_f, iN_lt, iN_inj, reduceIte, if_true, if_false, Nat.zero_add, Nat.add_zero, Bool.false_eq_true, Bool.true_eq_false, Nat.lt_irrefl, iN_az, not_true_eq_false, not_false_eq_true, Nat.reduceEqDiff, Nat.reduceLT, Nat.reduceAdd, Nat.reduceMul, Nat.reduceSub]
          exact e
        · intro j hj ih2 g0 b hg
          have hb0 : ∀ l, l < (σ 1 6) → g0 l < 64 := fun l hl => by
            have := h20 l hl
            exact mask_lt (n := 6) fun i hi => by
              have h2 := hg.1 l hl i hi
              by_cases hi6 : i < 6
              · exact hi6
              · rw [Nat.testBit_lt_two_pow (Nat.lt_of_lt_of_le this (Nat.pow_le_pow_right (n := 2) (i := 6) (by decide) (by omega)))] at h2
                cases h2
          have h3 := hb0 k hk
          obtain ⟨bl, hbl, e1⟩ := s_36 (xs := xs) (d := d) (M := ur M 20 g0) (R := R) O hk hj (fun l hl => by rw [ur_s]; exact hb0 l hl)
          rw [eb_35_3]
          cases h1 : (g0 k).testBit j
          · obtain ⟨g, b2, e, q⟩ := ih2 g0 b hg
            refine ⟨g, b2, ?_, q⟩
            simp (disch := first | assumption | omega | exact st8_a (Nat.le_of_ble_eq_true rfl)) only [hj, ur_s, h1, eb_35_0, eb_35_2, eb_35_4, eb_35_5, eb_35_6, eb_35_7, eb_35_8, eb_35_9, eb_35_10, kl_a, kl_d, kl_f, kl_i, kl_l, kl_n, kl_r, xr_1, xr_10, xr_2, xr_27, xr_28, xr_29, xr_3, xr_30, xr_31, xr_32, xr_37, xr_4, xr_42, xr_43, xr_44, xr_5, xr_55, xr_58, xr_64, xr_74, xr_75, af_0, af_1, xt_goto, xt_ib, xt_ic, xt_ic_ge, xt_if_eq, xt_ir, xt_nop, gF_19_0, gF_19_1, gF_1_2, gF_1_6, gA_2, gA_3, gA_4, gA_5, gA_6, gA_7, gA_8, gA_9, gA_10, gA_11, gA_13, gA_14, gA_16, gA_17, gA_20, gA_21, gA_22, gA_23, gA_24, gA_25, gA_26, gA_27, gA_30, gA_31, gA_32, gA_33, gA_34, gA_35, gA_36, gA_38, gA_39, gA_41, gA_42, gA_46, gA_47, gA_49, gA_50, gA_51, gA_53, gA_56, gA_57, gA_59, gA_60, gW_2, gW_3, gW_4, gW_5, gW_6, gW_7, gW_8, gW_9, gW_10, gW_11, gW_13, gW_14, gW_16, gW_17, gW_20, gW_21, gW_22, gW_23, gW_24, gW_25, gW_26, gW_27, gW_30, gW_31, gW_32, gW_33, gW_34, gW_35, gW_36, gW_38, gW_39, gW_41, gW_42, gW_46, gW_47, gW_49, gW_50, gW_51, gW_53, gW_56, gW_57, gW_59, gW_60, xq_36_3_virtualc, iN_add, iN_mul, iN_sub, iN_and, iN_or, iN_clr, iN_shl, iN_shr, tb_r1, b1_z, b1_or, b1_and, b1_or0, b1_or1, b1_0or, b1_t, b1_f, iN_lt, iN_inj, reduceIte, if_true, if_false, Nat.zero_add, Nat.add_zero, Bool.false_eq_true, Bool.true_eq_false, Nat.lt_irrefl, iN_az, not_true_eq_false, not_false_eq_true, Nat.reduceEqDiff, Nat.reduceLT, Nat.reduceAdd, Nat.reduceMul, Nat.reduceSub]
            exact e
          · cases bl
            · obtain ⟨g, b2, e, q⟩ := ih2 g0 b hg
              refine ⟨g, b2, ?_, q⟩
              simp (disch := first | assumption | omega | exact st8_a (Nat.le_of_ble_eq_true rfl)) only [hj, ur_s, h1, e1, eb_35_0, eb_35_2, eb_35_4, eb_35_5, eb_35_6, eb_35_7, eb_35_8, eb_35_9, eb_35_10, kl_a, kl_d, kl_f, kl_i, kl_l, kl_n, kl_r, xr_1, xr_10, xr_2, xr_27, xr_28, xr_29, xr_3, xr_30, xr_31, xr_32, xr_37, xr_4, xr_42, xr_43, xr_44, xr_5, xr_55, xr_58, xr_64, xr_74, xr_75, af_0, af_1, xt_goto, xt_ib, xt_ic, xt_ic_ge, xt_if_eq, xt_ir, xt_nop, gF_19_0, gF_19_1, gF_1_2, gF_1_6, gA_2, gA_3, gA_4, gA_5, gA_6, gA_7, gA_8, gA_9, gA_10, gA_11, gA_13, gA_14, gA_16, gA_17, gA_20, gA_21, gA_22, gA_23, gA_24, gA_25, gA_26, gA_27, gA_30, gA_31, gA_32, gA_33, gA_34, gA_35, gA_36, gA_38, gA_39, gA_41, gA_42, gA_46, gA_47, gA_49, gA_50, gA_51, gA_53, gA_56, gA_57, gA_59, gA_60, gW_2, gW_3, gW_4, gW_5, gW_6, gW_7, gW_8, gW_9, gW_10, gW_11, gW_13, gW_14, gW_16, gW_17, gW_20, gW_21, gW_22, gW_23, gW_24, gW_25, gW_26, gW_27, gW_30, gW_31, gW_32, gW_33, gW_34, gW_35, gW_36, gW_38, gW_39, gW_41, gW_42, gW_46, gW_47, gW_49, gW_50, gW_51, gW_53, gW_56, gW_57, gW_59, gW_60, xq_36_3_virtualc, iN_add, iN_mul, iN_sub, iN_and, iN_or, iN_clr, iN_shl, iN_shr, tb_r1, b1_z, b1_or, b1_and, b1_or0, b1_or1, b1_0or, b1_t, b1_f, iN_lt, iN_inj, reduceIte, if_true, if_false, Nat.zero_add, Nat.add_zero, Bool.false_eq_true, Bool.true_eq_false, Nat.lt_irrefl, iN_az, not_true_eq_false, not_false_eq_true, Nat.reduceEqDiff, Nat.reduceLT, Nat.reduceAdd, Nat.reduceMul, Nat.reduceSub]
              exact e
            · obtain ⟨o, ho, hne, hz⟩ := hbl rfl
              rw [ur_n (by decide), ur_s] at hz
              obtain ⟨g, b2, e, q⟩ := ih2 (u1 g0 k (clr (g0 k) (1 <<< j))) true ⟨fun l hl i hi => by
                by_cases hlk : l = k
                · subst hlk
                  rw [u1_s, clr_b] at hi
                  simp at hi
                  exact hg.1 l hl i hi.1
                · rw [u1_n hlk] at hi
                  exact hg.1 l hl i hi, fun X hX hJ l hl s r hx => by
                have h5 := hg.2 X hX hJ l hl s r hx
                by_cases hlk : l = k
                · subst hlk
                  rw [u1_s, clr_b]
                  by_cases hsj : s = j
                  · subst hsj
                    obtain ⟨-, h6⟩ := hX l hl s r hx
                    obtain ⟨s', r', h7, h8⟩ := h6 o ho hne
                    have h9 := hg.2 X hX hJ o ho s' r' h7
                    have h10 : (M 23 (pi l s o) &&& g0 o).testBit s' = true := by
                      rw [Nat.testBit_and, h9, Bool.and_true]
                      exact h8
                    rw [hz, Nat.zero_testBit] at h10
                    cases h10
                  · simp [h5, hsj]
                · rw [u1_n hlk]
                  exact h5⟩
              refine ⟨g, b2, ?_, q⟩
              simp (disch := first | assumption | omega | exact st8_a (Nat.le_of_ble_eq_true rfl)) only [hj, ur_s, h1, e1, ur_up, eb_35_0, eb_35_2, eb_35_4, eb_35_5, eb_35_6, eb_35_7, eb_35_8, eb_35_9, eb_35_10, kl_a, kl_d, kl_f, kl_i, kl_l, kl_n, kl_r, xr_1, xr_10, xr_2, xr_27, xr_28, xr_29, xr_3, xr_30, xr_31, xr_32, xr_37, xr_4, xr_42, xr_43, xr_44, xr_5, xr_55, xr_58, xr_64, xr_74, xr_75, af_0, af_1, xt_goto, xt_ib, xt_ic, xt_ic_ge, xt_if_eq, xt_ir, xt_nop, gF_19_0, gF_19_1, gF_1_2, gF_1_6, gA_2, gA_3, gA_4, gA_5, gA_6, gA_7, gA_8, gA_9, gA_10, gA_11, gA_13, gA_14, gA_16, gA_17, gA_20, gA_21, gA_22, gA_23, gA_24, gA_25, gA_26, gA_27, gA_30, gA_31, gA_32, gA_33, gA_34, gA_35, gA_36, gA_38, gA_39, gA_41, gA_42, gA_46, gA_47, gA_49, gA_50, gA_51, gA_53, gA_56, gA_57, gA_59, gA_60, gW_2, gW_3, gW_4, gW_5, gW_6, gW_7, gW_8, gW_9, gW_10, gW_11, gW_13, gW_14, gW_16, gW_17, gW_20, gW_21, gW_22, gW_23, gW_24, gW_25, gW_26, gW_27, gW_30, gW_31, gW_32, gW_33, gW_34, gW_35, gW_36, gW_38, gW_39, gW_41, gW_42, gW_46, gW_47, gW_49, gW_50, gW_51, gW_53, gW_56, gW_57, gW_59, gW_60, xq_36_3_virtualc, iN_add, iN_mul, iN_sub, iN_and, iN_or, iN_clr, iN_shl, iN_shr, tb_r1, b1_z, b1_or, b1_and, b1_or0, b1_or1, b1_0or, b1_t, b1_f, iN_lt, iN_inj, reduceIte, if_true, if_false, Nat.zero_add, Nat.add_zero, Bool.false_eq_true, Bool.true_eq_false, Nat.lt_irrefl, iN_az, not_true_eq_false, not_false_eq_true, Nat.reduceEqDiff, Nat.reduceLT, Nat.reduceAdd, Nat.reduceMul, Nat.reduceSub]
              exact e
      obtain ⟨g, b2, e, q⟩ := inn 0 (Nat.zero_le _) g0 b hg
      refine ⟨g, b2, ?_, q⟩
      rw [eb_35_1]
      simp (disch := first | assumption | omega | exact st8_a (Nat.le_of_ble_eq_true rfl)) only [hk, eb_35_0, eb_35_2, eb_35_4, eb_35_5, eb_35_6, eb_35_7, eb_35_8, eb_35_9, eb_35_10, kl_a, kl_d, kl_f, kl_i, kl_l, kl_n, kl_r, xr_1, xr_10, xr_2, xr_27, xr_28, xr_29, xr_3, xr_30, xr_31, xr_32, xr_37, xr_4, xr_42, xr_43, xr_44, xr_5, xr_55, xr_58, xr_64, xr_74, xr_75, af_0, af_1, xt_goto, xt_ib, xt_ic, xt_ic_ge, xt_if_eq, xt_ir, xt_nop, gF_19_0, gF_19_1, gF_1_2, gF_1_6, gA_2, gA_3, gA_4, gA_5, gA_6, gA_7, gA_8, gA_9, gA_10, gA_11, gA_13, gA_14, gA_16, gA_17, gA_20, gA_21, gA_22, gA_23, gA_24, gA_25, gA_26, gA_27, gA_30, gA_31, gA_32, gA_33, gA_34, gA_35, gA_36, gA_38, gA_39, gA_41, gA_42, gA_46, gA_47, gA_49, gA_50, gA_51, gA_53, gA_56, gA_57, gA_59, gA_60, gW_2, gW_3, gW_4, gW_5, gW_6, gW_7, gW_8, gW_9, gW_10, gW_11, gW_13, gW_14, gW_16, gW_17, gW_20, gW_21, gW_22, gW_23, gW_24, gW_25, gW_26, gW_27, gW_30, gW_31, gW_32, gW_33, gW_34, gW_35, gW_36, gW_38, gW_39, gW_41, gW_42, gW_46, gW_47, gW_49, gW_50, gW_51, gW_53, gW_56, gW_57, gW_59, gW_60, xq_36_3_virtualc, iN_add, iN_mul, iN_sub, iN_and, iN_or, iN_clr, iN_shl, iN_shr, tb_r1, b1_z, b1_or, b1_and, b1_or0, b1_or1, b1_0or, b1_t, b1_f, iN_lt, iN_inj, reduceIte, if_true, if_false, Nat.zero_add, Nat.add_zero, Bool.false_eq_true, Bool.true_eq_false, Nat.lt_irrefl, iN_az, not_true_eq_false, not_false_eq_true, Nat.reduceEqDiff, Nat.reduceLT, Nat.reduceAdd, Nat.reduceMul, Nat.reduceSub]
      exact e
  obtain ⟨g, b2, e, q⟩ := key 0 (Nat.zero_le _) (M 20) false (.retAddr 9) ⟨fun _ _ _ h => h, fun _ _ h => h⟩
  refine ⟨g, b2, ?_, q⟩
  rw [ur_id] at e
  simp (disch := first | assumption | omega | exact st8_a (Nat.le_of_ble_eq_true rfl)) only [eb_35_0, eb_35_2, eb_35_4, eb_35_5, eb_35_6, eb_35_7, eb_35_8, eb_35_9, eb_35_10, kl_a, kl_d, kl_f, kl_i, kl_l, kl_n, kl_r, xr_1, xr_10, xr_2, xr_27, xr_28, xr_29, xr_3, xr_30, xr_31, xr_32, xr_37, xr_4, xr_42, xr_43, xr_44, xr_5, xr_55, xr_58, xr_64, xr_74, xr_75, af_0, af_1, xt_goto, xt_ib, xt_ic, xt_ic_ge, xt_if_eq, xt_ir, xt_nop, gF_19_0, gF_19_1, gF_1_2, gF_1_6, gA_2, gA_3, gA_4, gA_5, gA_6, gA_7, gA_8, gA_9, gA_10, gA_11, gA_13, gA_14, gA_16, gA_17, gA_20, gA_21, gA_22, gA_23, gA_24, gA_25, gA_26, gA_27, gA_30, gA_31, gA_32, gA_33, gA_34, gA_35, gA_36, gA_38, gA_39, gA_41, gA_42, gA_46, gA_47, gA_49, gA_50, gA_51, gA_53, gA_56, gA_57, gA_59, gA_60, gW_2, gW_3, gW_4, gW_5, gW_6, gW_7, gW_8, gW_9, gW_10, gW_11, gW_13, gW_14, gW_16, gW_17, gW_20, gW_21, gW_22, gW_23, gW_24, gW_25, gW_26, gW_27, gW_30, gW_31, gW_32, gW_33, gW_34, gW_35, gW_36, gW_38, gW_39, gW_41, gW_42, gW_46, gW_47, gW_49, gW_50, gW_51, gW_53, gW_56, gW_57, gW_59, gW_60, xq_36_3_virtualc, iN_add, iN_mul, iN_sub, iN_and, iN_or, iN_clr, iN_shl, iN_shr, tb_r1, b1_z, b1_or, b1_and, b1_or0, b1_or1, b1_0or, b1_t, b1_f, iN_lt, iN_inj, reduceIte, if_true, if_false, Nat.zero_add, Nat.add_zero, Bool.false_eq_true, Bool.true_eq_false, Nat.lt_irrefl, iN_az, not_true_eq_false, not_false_eq_true, Nat.reduceEqDiff, Nat.reduceLT, Nat.reduceAdd, Nat.reduceMul, Nat.reduceSub]
  exact e
end Qb
