/-! THE MODEL'S SCHOOL CHANGES -/
section Mdb
variable {xs : List Int32} {d m n k i j p a b c u v l q : Nat} {τ M σ : Nat → Nat → Nat} {μ μ0 : Nat → Nat} {ν ν0 : Nat → Value} {A B Q T h : ab_H} {s r g f : Nat → Nat} {st : List Value} {x y : Int32}
set_option maxRecDepth 100000 in
theorem en1 : ev xs d 187 0 ([.ref 62, .int (nI 1), .int (nI v)], [], mh τ M σ μ ν Q) = some (.inl (some (.int (nI (0)))), mh τ M σ (u1 μ 0 0) ν Q) := by
  have e := m_187 (xs := xs) (d := d) (τ := τ) (M := M) (σ := σ) (μ := μ) (ν := ν) (Q := Q) (v := v) (b := true)
  rw [if_pos rfl, Bool.not_true, b1_f, b1_t] at e
  exact e
set_option maxRecDepth 100000 in
theorem en0 : ev xs d 187 0 ([.ref 62, .int (nI 0), .int (nI v)], [], mh τ M σ μ ν Q) = some (.inl (some (.int (nI (1)))), mh τ M σ (u1 μ 0 v) ν Q) := by
  have e := m_187 (xs := xs) (d := d) (τ := τ) (M := M) (σ := σ) (μ := μ) (ν := ν) (Q := Q) (v := v) (b := false)
  rw [if_neg (by decide), Bool.not_false, b1_f, b1_t] at e
  exact e
set_option maxRecDepth 100000 in
theorem m_188c {lo hi : Nat} (ha : a < 4294967296) (hlo : lo ≤ hi) (hhi : hi < 2147483648) : ev xs d 188 0 ([.int (nI a), .int (nI lo), .int (nI hi)], [], h) = some (.inl (some (.int (nI (b1 (decide (lo ≤ a ∧ a ≤ hi)))))), h) := by
  rw [m_188]
  rcases rng ha hlo hhi with ⟨a1, a2, a3⟩ | ⟨a1, a2 | ⟨a2, a3⟩⟩
  · simp only [a2, a3, decide_false, Bool.not_false, Bool.and_self, decide_eq_true a1]
  · simp only [a2, decide_true, Bool.not_true, Bool.false_and, decide_eq_false a1]
  · simp only [a2, a3, decide_false, decide_true, Bool.not_true, Bool.not_false, Bool.and_false, decide_eq_false a1]
set_option maxRecDepth 100000 in
theorem m_188n (ha : a < 4294967296) (hn : n < 1000) : ev xs d 188 0 ([.int (nI a), .int (nI 0), .int (nI n - nI 1)], [], h) = some (.inl (some (.int (nI (b1 (decide (a < n)))))), h) := by
  rw [m_188, isn a n ha hn]
set_option maxRecDepth 100000 in
theorem rok_mo {τ : Nat → Nat → Nat} (h : rok σ k a b = true) (h1 : (σ 1 6) ≤ τ 1 6) (h2 : (σ 1 2) ≤ τ 1 2 ∨ (¬ k = 0 ∧ ¬ k = 7)) (h3 : (σ 1 4) ≤ τ 1 4) (h4 : (σ 1 5) ≤ τ 1 5) : rok τ k a b = true := by
  unfold rok at h ⊢
  split at h
  · rename_i h5
    rw [if_pos h5]
    simp at h ⊢
    omega
  · rename_i h5
    rw [if_neg h5]
    split at h
    · rename_i h6
      rw [if_pos h6]
      simp at h ⊢
      omega
    · rename_i h6
      rw [if_neg h6]
      split at h
      · rename_i h7
        rw [if_pos h7]
        simp at h ⊢
        omega
      · rename_i h7
        rw [if_neg h7]
        split at h
        · rename_i h8
          rw [if_pos h8]
          simp at h ⊢
          omega
        · rename_i h8
          rw [if_neg h8]
          simp at h ⊢
          omega
set_option maxRecDepth 100000 in
theorem Ok_grid (O : Ok σ) (ha : 1 ≤ a ∧ a ≤ 2) (hb : 1 ≤ b ∧ b ≤ 3) (hf : (an (σ 1 7) fun q => decide (σ 8 q = 0) || decide (σ 8 q = 7)) = false) : Ok (up (up (up σ 1 0 a) 1 1 b) 1 2 (a * b)) := by
  obtain ⟨o1, o2, o3, o4, o5, o6, o7, o8, o9⟩ := O
  refine ⟨ha, hb, rfl, o4, o5, o6, o7, o8, fun q hq => ?_⟩
  have hn : ¬ σ 8 q = 0 ∧ ¬ σ 8 q = 7 := by
    constructor
    · intro z
      have := an_t.mpr ⟨q, hq, by rw [decide_eq_true z]; rfl⟩
      rw [this] at hf
      cases hf
    · intro z
      have := an_t.mpr ⟨q, hq, by rw [decide_eq_true z, Bool.or_true]⟩
      rw [this] at hf
      cases hf
  exact rok_mo (o9 q hq) (Nat.le_refl _) (.inr hn) (Nat.le_refl _) (Nat.le_refl _)
set_option maxRecDepth 100000 in
theorem m_223l (O : Ok σ) {x y : Value} : ∀ i, i ≤ (σ 1 7) → ev xs d 223 1 ([.ref 62, x, y, .int (nI (b1 (!an i fun q => decide (σ 8 q = 0) || decide (σ 8 q = 7)))), .int (nI i)], [], mh τ M σ μ ν Q) = ev xs d 223 8 ([.ref 62, x, y, .int (nI (b1 (!an (σ 1 7) fun q => decide (σ 8 q = 0) || decide (σ 8 q = 7)))), .int (nI (σ 1 7))], [], mh τ M σ μ ν Q) := by
  obtain ⟨hD1, hD2, hH1, hH2, hS, hC, hT, hR, hL, hQ⟩ := Ok_b O
  refine lp (σ 1 7) ?_ ?_
  · rw [eb_223_1]
    simp (disch := first | assumption | omega | exact st8_a (Nat.le_of_ble_eq_true rfl)) only [kl_a, kl_d, kl_f, kl_i, kl_l, kl_n, kl_r, xr_1, xr_10, xr_157, xr_2, xr_27, xr_28, xr_3, xr_31, xr_32, xr_33, xr_34, xr_37, xr_4, xr_40, xr_5, xr_65, xr_71, xr_87, af_0, af_1, xt_goto, xt_ib, xt_ic, xt_ic_eq, xt_ic_ge, xt_if_eq, xt_if_ne, xt_ir, xt_nop, mF_12 mh_Mo, mF_13 mh_Mo, mA_63 mh_Mo, mA_64 mh_Mo, mA_65 mh_Mo, mA_66 mh_Mo, mA_67 mh_Mo, mA_68 mh_Mo, mA_69 mh_Mo, mA_70 mh_Mo, mA_71 mh_Mo, xq_187_13_virtualm mh_Mo, xq_188_200_static, xq_189_13_virtualm mh_Mo, pF_0, pF_1, pF_2, pF_5, pF_6, pF_8, pF_12, pF_16, pF_17, pF_18, pF_22, pF_24, pF_19, pF_20, pF_21, pF_23, pN_19, pN_20, pN_21, pN_23, pA_63, pA_64, pA_65, pA_66, pA_67, pA_68, pA_69, pA_70, pA_71, iN_add, iN_mul, iN_sub, iN_and, iN_or, iN_clr, iN_shl, iN_shr, tb_r1, b1_z, b1_or, b1_and, b1_or0, b1_or1, b1_0or, b1_t, b1_f, iN_lt, iN_inj, reduceIte, if_true, if_false, Nat.zero_add, Nat.add_zero, Bool.false_eq_true, Bool.true_eq_false, Nat.lt_irrefl, iN_az, not_true_eq_false, not_false_eq_true, Nat.reduceEqDiff, Nat.reduceLT, Nat.reduceAdd, Nat.reduceMul, Nat.reduceSub]
  · intro i hi ih
    have hr := (rok_b O (Ok_q O hi)).1
    rw [eb_223_1, ← ih, an]
    clear ih
    cases an i fun q => decide (σ 8 q = 0) || decide (σ 8 q = 7)
    · by_cases h0 : σ 8 i = 0
      · rw [decide_eq_true h0, Bool.true_or, Bool.or_true]
        simp (disch := first | assumption | omega | exact st8_a (Nat.le_of_ble_eq_true rfl)) only [hi, eq_true h0, Bool.not_true, Bool.not_false, eb_223_2, eb_223_3, eb_223_6, eb_223_7, kl_a, kl_d, kl_f, kl_i, kl_l, kl_n, kl_r, xr_1, xr_10, xr_157, xr_2, xr_27, xr_28, xr_3, xr_31, xr_32, xr_33, xr_34, xr_37, xr_4, xr_40, xr_5, xr_65, xr_71, xr_87, af_0, af_1, xt_goto, xt_ib, xt_ic, xt_ic_eq, xt_ic_ge, xt_if_eq, xt_if_ne, xt_ir, xt_nop, mF_12 mh_Mo, mF_13 mh_Mo, mA_63 mh_Mo, mA_64 mh_Mo, mA_65 mh_Mo, mA_66 mh_Mo, mA_67 mh_Mo, mA_68 mh_Mo, mA_69 mh_Mo, mA_70 mh_Mo, mA_71 mh_Mo, xq_187_13_virtualm mh_Mo, xq_188_200_static, xq_189_13_virtualm mh_Mo, pF_0, pF_1, pF_2, pF_5, pF_6, pF_8, pF_12, pF_16, pF_17, pF_18, pF_22, pF_24, pF_19, pF_20, pF_21, pF_23, pN_19, pN_20, pN_21, pN_23, pA_63, pA_64, pA_65, pA_66, pA_67, pA_68, pA_69, pA_70, pA_71, iN_add, iN_mul, iN_sub, iN_and, iN_or, iN_clr, iN_shl, iN_shr, tb_r1, b1_z, b1_or, b1_and, b1_or0, b1_or1, b1_0or, b1_t, b1_f, iN_lt, iN_inj, reduceIte, if_true, if_false, Nat.zero_add, Nat.add_zero, Bool.false_eq_true, Bool.true_eq_false, Nat.lt_irrefl, iN_az, not_true_eq_false, not_false_eq_true, Nat.reduceEqDiff, Nat.reduceLT, Nat.reduceAdd, Nat.reduceMul, Nat.reduceSub]
      · by_cases h7 : σ 8 i = 7
        · rw [decide_eq_true h7, Bool.or_true, Bool.or_true]
          simp (disch := first | assumption | omega | exact st8_a (Nat.le_of_ble_eq_true rfl)) only [hi, h0, eq_true h7, Bool.not_true, Bool.not_false, eb_223_2, eb_223_3, eb_223_4, eb_223_6, eb_223_7, kl_a, kl_d, kl_f, kl_i, kl_l, kl_n, kl_r, xr_1, xr_10, xr_157, xr_2, xr_27, xr_28, xr_3, xr_31, xr_32, xr_33, xr_34, xr_37, xr_4, xr_40, xr_5, xr_65, xr_71, xr_87, af_0, af_1, xt_goto, xt_ib, xt_ic, xt_ic_eq, xt_ic_ge, xt_if_eq, xt_if_ne, xt_ir, xt_nop, mF_12 mh_Mo, mF_13 mh_Mo, mA_63 mh_Mo, mA_64 mh_Mo, mA_65 mh_Mo, mA_66 mh_Mo, mA_67 mh_Mo, mA_68 mh_Mo, mA_69 mh_Mo, mA_70 mh_Mo, mA_71 mh_Mo, xq_187_13_virtualm mh_Mo, xq_188_200_static, xq_189_13_virtualm mh_Mo, pF_0, pF_1, pF_2, pF_5, pF_6, pF_8, pF_12, pF_16, pF_17, pF_18, pF_22, pF_24, pF_19, pF_20, pF_21, pF_23, pN_19, pN_20, pN_21, pN_23, pA_63, pA_64, pA_65, pA_66, pA_67, pA_68, pA_69, pA_70, pA_71, iN_add, iN_mul, iN_sub, iN_and, iN_or, iN_clr, iN_shl, iN_shr, tb_r1, b1_z, b1_or, b1_and, b1_or0, b1_or1, b1_0or, b1_t, b1_f, iN_lt, iN_inj, reduceIte, if_true, if_false, Nat.zero_add, Nat.add_zero, Bool.false_eq_true, Bool.true_eq_false, Nat.lt_irrefl, iN_az, not_true_eq_false, not_false_eq_true, Nat.reduceEqDiff, Nat.reduceLT, Nat.reduceAdd, Nat.reduceMul, Nat.reduceSub]
        · rw [decide_eq_false h0, decide_eq_false h7, Bool.or_false, Bool.or_false]
          simp (disch := first | assumption | omega | exact st8_a (Nat.le_of_ble_eq_true rfl)) only [hi, h0, h7, Bool.not_true, Bool.not_false, eb_223_2, eb_223_3, eb_223_4, eb_223_5, eb_223_7, kl_a, kl_d, kl_f, kl_i, kl_l, kl_n, kl_r, xr_1, xr_10, xr_157, xr_2, xr_27, xr_28, xr_3, xr_31, xr_32, xr_33, xr_34, xr_37, xr_4, xr_40, xr_5, xr_65, xr_71, xr_87, af_0, af_1, xt_goto, xt_ib, xt_ic, xt_ic_eq, xt_ic_ge, xt_if_eq, xt_if_ne, xt_ir, xt_nop, mF_12 mh_Mo, mF_13 mh_Mo, mA_63 mh_Mo, mA_64 mh_Mo, mA_65 mh_Mo, mA_66 mh_Mo, mA_67 mh_Mo, mA_68 mh_Mo, mA_69 mh_Mo, mA_70 mh_Mo, mA_71 mh_Mo, xq_187_13_virtualm mh_Mo, xq_188_200_static, xq_189_13_virtualm mh_Mo, pF_0, pF_1, pF_2, pF_5, pF_6, pF_8, pF_12, pF_16, pF_17, pF_18, pF_22, pF_24, pF_19, pF_20, pF_21, pF_23, pN_19, pN_20, pN_21, pN_23, pA_63, pA_64, pA_65, pA_66, pA_67, pA_68, pA_69, pA_70, pA_71, iN_add, iN_mul, iN_sub, iN_and, iN_or, iN_clr, iN_shl, iN_shr, tb_r1, b1_z, b1_or, b1_and, b1_or0, b1_or1, b1_0or, b1_t, b1_f, iN_lt, iN_inj, reduceIte, if_true, if_false, Nat.zero_add, Nat.add_zero, Bool.false_eq_true, Bool.true_eq_false, Nat.lt_irrefl, iN_az, not_true_eq_false, not_false_eq_true, Nat.reduceEqDiff, Nat.reduceLT, Nat.reduceAdd, Nat.reduceMul, Nat.reduceSub]
    · rw [Bool.true_or]
      simp (disch := first | assumption | omega | exact st8_a (Nat.le_of_ble_eq_true rfl)) only [hi, Bool.not_true, Bool.not_false, eb_223_2, eb_223_6, eb_223_7, kl_a, kl_d, kl_f, kl_i, kl_l, kl_n, kl_r, xr_1, xr_10, xr_157, xr_2, xr_27, xr_28, xr_3, xr_31, xr_32, xr_33, xr_34, xr_37, xr_4, xr_40, xr_5, xr_65, xr_71, xr_87, af_0, af_1, xt_goto, xt_ib, xt_ic, xt_ic_eq, xt_ic_ge, xt_if_eq, xt_if_ne, xt_ir, xt_nop, mF_12 mh_Mo, mF_13 mh_Mo, mA_63 mh_Mo, mA_64 mh_Mo, mA_65 mh_Mo, mA_66 mh_Mo, mA_67 mh_Mo, mA_68 mh_Mo, mA_69 mh_Mo, mA_70 mh_Mo, mA_71 mh_Mo, xq_187_13_virtualm mh_Mo, xq_188_200_static, xq_189_13_virtualm mh_Mo, pF_0, pF_1, pF_2, pF_5, pF_6, pF_8, pF_12, pF_16, pF_17, pF_18, pF_22, pF_24, pF_19, pF_20, pF_21, pF_23, pN_19, pN_20, pN_21, pN_23, pA_63, pA_64, pA_65, pA_66, pA_67, pA_68, pA_69, pA_70, pA_71, iN_add, iN_mul, iN_sub, iN_and, iN_or, iN_clr, iN_shl, iN_shr, tb_r1, b1_z, b1_or, b1_and, b1_or0, b1_or1, b1_0or, b1_t, b1_f, iN_lt, iN_inj, reduceIte, if_true, if_false, Nat.zero_add, Nat.add_zero, Bool.false_eq_true, Bool.true_eq_false, Nat.lt_irrefl, iN_az, not_true_eq_false, not_false_eq_true, Nat.reduceEqDiff, Nat.reduceLT, Nat.reduceAdd, Nat.reduceMul, Nat.reduceSub]
set_option maxRecDepth 100000 in
theorem m_223x (O : Ok σ) (ha : a < 4294967296) (hb : b < 4294967296) (hg : ¬ ((1 ≤ a ∧ a ≤ 2) ∧ (1 ≤ b ∧ b ≤ 3))) : ev xs (d + 1) 223 0 ([.ref 62, .int (nI a), .int (nI b), .retAddr 9, .retAddr 9], [], mh τ M σ μ ν Q) = some (.inl (some (.int (nI (0)))), mh τ M σ (u1 μ 0 1) ν Q) := by
  have e := m_223l (xs := xs) (d := d + 1) (τ := τ) (M := M) (μ := μ) (ν := ν) (Q := Q) (x := .int (nI a)) (y := .int (nI b)) O 0 (Nat.zero_le _)
  rw [an, Bool.not_false, b1_t] at e
  simp (disch := first | assumption | omega | exact st8_a (Nat.le_of_ble_eq_true rfl)) only [eb_223_0, kl_a, kl_d, kl_f, kl_i, kl_l, kl_n, kl_r, xr_1, xr_10, xr_157, xr_2, xr_27, xr_28, xr_3, xr_31, xr_32, xr_33, xr_34, xr_37, xr_4, xr_40, xr_5, xr_65, xr_71, xr_87, af_0, af_1, xt_goto, xt_ib, xt_ic, xt_ic_eq, xt_ic_ge, xt_if_eq, xt_if_ne, xt_ir, xt_nop, mF_12 mh_Mo, mF_13 mh_Mo, mA_63 mh_Mo, mA_64 mh_Mo, mA_65 mh_Mo, mA_66 mh_Mo, mA_67 mh_Mo, mA_68 mh_Mo, mA_69 mh_Mo, mA_70 mh_Mo, mA_71 mh_Mo, xq_187_13_virtualm mh_Mo, xq_188_200_static, xq_189_13_virtualm mh_Mo, pF_0, pF_1, pF_2, pF_5, pF_6, pF_8, pF_12, pF_16, pF_17, pF_18, pF_22, pF_24, pF_19, pF_20, pF_21, pF_23, pN_19, pN_20, pN_21, pN_23, pA_63, pA_64, pA_65, pA_66, pA_67, pA_68, pA_69, pA_70, pA_71, iN_add, iN_mul, iN_sub, iN_and, iN_or, iN_clr, iN_shl, iN_shr, tb_r1, b1_z, b1_or, b1_and, b1_or0, b1_or1, b1_0or, b1_t, b1_f, iN_lt, iN_inj, reduceIte, if_true, if_false, Nat.zero_add, Nat.add_zero, Bool.false_eq_true, Bool.true_eq_false, Nat.lt_irrefl, iN_az, not_true_eq_false, not_false_eq_true, Nat.reduceEqDiff, Nat.reduceLT, Nat.reduceAdd, Nat.reduceMul, Nat.reduceSub]
  rw [e, eb_223_8]
  clear e
  by_cases h1 : 1 ≤ a ∧ a ≤ 2
  · by_cases h2 : 1 ≤ b ∧ b ≤ 3
    · exact absurd ⟨h1, h2⟩ hg
    · simp (disch := first | assumption | omega | exact st8_a (Nat.le_of_ble_eq_true rfl)) only [m_188c ha, m_188c hb, decide_eq_true h1, decide_eq_false h2, en0, eb_223_9, eb_223_10, eb_223_11, eb_223_13, eb_223_14, eb_223_15, eb_223_18, kl_a, kl_d, kl_f, kl_i, kl_l, kl_n, kl_r, xr_1, xr_10, xr_157, xr_2, xr_27, xr_28, xr_3, xr_31, xr_32, xr_33, xr_34, xr_37, xr_4, xr_40, xr_5, xr_65, xr_71, xr_87, af_0, af_1, xt_goto, xt_ib, xt_ic, xt_ic_eq, xt_ic_ge, xt_if_eq, xt_if_ne, xt_ir, xt_nop, mF_12 mh_Mo, mF_13 mh_Mo, mA_63 mh_Mo, mA_64 mh_Mo, mA_65 mh_Mo, mA_66 mh_Mo, mA_67 mh_Mo, mA_68 mh_Mo, mA_69 mh_Mo, mA_70 mh_Mo, mA_71 mh_Mo, xq_187_13_virtualm mh_Mo, xq_188_200_static, xq_189_13_virtualm mh_Mo, pF_0, pF_1, pF_2, pF_5, pF_6, pF_8, pF_12, pF_16, pF_17, pF_18, pF_22, pF_24, pF_19, pF_20, pF_21, pF_23, pN_19, pN_20, pN_21, pN_23, pA_63, pA_64, pA_65, pA_66, pA_67, pA_68, pA_69, pA_70, pA_71, iN_add, iN_mul, iN_sub, iN_and, iN_or, iN_clr, iN_shl, iN_shr, tb_r1, b1_z, b1_or, b1_and, b1_or0, b1_or1, b1_0or, b1_t, b1_f, iN_lt, iN_inj, reduceIte, if_true, if_false, Nat.zero_add, Nat.add_zero, Bool.false_eq_true, Bool.true_eq_false, Nat.lt_irrefl, iN_az, not_true_eq_false, not_false_eq_true, Nat.reduceEqDiff, Nat.reduceLT, Nat.reduceAdd, Nat.reduceMul, Nat.reduceSub]
  · simp (disch := first | assumption | omega | exact st8_a (Nat.le_of_ble_eq_true rfl)) only [m_188c ha, decide_eq_false h1, en0, eb_223_9, eb_223_13, eb_223_14, eb_223_15, eb_223_18, kl_a, kl_d, kl_f, kl_i, kl_l, kl_n, kl_r, xr_1, xr_10, xr_157, xr_2, xr_27, xr_28, xr_3, xr_31, xr_32, xr_33, xr_34, xr_37, xr_4, xr_40, xr_5, xr_65, xr_71, xr_87, af_0, af_1, xt_goto, xt_ib, xt_ic, xt_ic_eq, xt_ic_ge, xt_if_eq, xt_if_ne, xt_ir, xt_nop, mF_12 mh_Mo, mF_13 mh_Mo, mA_63 mh_Mo, mA_64 mh_Mo, mA_65 mh_Mo, mA_66 mh_Mo, mA_67 mh_Mo, mA_68 mh_Mo, mA_69 mh_Mo, mA_70 mh_Mo, mA_71 mh_Mo, xq_187_13_virtualm mh_Mo, xq_188_200_static, xq_189_13_virtualm mh_Mo, pF_0, pF_1, pF_2, pF_5, pF_6, pF_8, pF_12, pF_16, pF_17, pF_18, pF_22, pF_24, pF_19, pF_20, pF_21, pF_23, pN_19, pN_20, pN_21, pN_23, pA_63, pA_64, pA_65, pA_66, pA_67, pA_68, pA_69, pA_70, pA_71, iN_add, iN_mul, iN_sub, iN_and, iN_or, iN_clr, iN_shl, iN_shr, tb_r1, b1_z, b1_or, b1_and, b1_or0, b1_or1, b1_0or, b1_t, b1_f, iN_lt, iN_inj, reduceIte, if_true, if_false, Nat.zero_add, Nat.add_zero, Bool.false_eq_true, Bool.true_eq_false, Nat.lt_irrefl, iN_az, not_true_eq_false, not_false_eq_true, Nat.reduceEqDiff, Nat.reduceLT, Nat.reduceAdd, Nat.reduceMul, Nat.reduceSub]
set_option maxRecDepth 100000 in
theorem m_223g (O : Ok σ) (ha : 1 ≤ a ∧ a ≤ 2) (hb : 1 ≤ b ∧ b ≤ 3) (f : Bool) (hf : (an (σ 1 7) fun q => decide (σ 8 q = 0) || decide (σ 8 q = 7)) = f) : ev xs (d + 1) 223 0 ([.ref 62, .int (nI a), .int (nI b), .retAddr 9, .retAddr 9], [], mh τ M σ μ ν Q) = if f = true then some (.inl (some (.int (nI (0)))), mh τ M σ (u1 (u1 μ 0 0) 0 2) ν Q) else some (.inl (some (.int (nI (a * b)))), mh τ M (up (up (up σ 1 0 a) 1 1 b) 1 2 (a * b)) (u1 (u1 μ 0 0) 0 0) (uv ν 0 .null) Q) := by
  have e := m_223l (xs := xs) (d := d + 1) (τ := τ) (M := M) (μ := μ) (ν := ν) (Q := Q) (x := .int (nI a)) (y := .int (nI b)) O 0 (Nat.zero_le _)
  rw [an, Bool.not_false, b1_t, hf] at e
  have ha2 : a < 4294967296 := by omega
  have hb2 : b < 4294967296 := by omega
  simp (disch := first | assumption | omega | exact st8_a (Nat.le_of_ble_eq_true rfl)) only [eb_223_0, kl_a, kl_d, kl_f, kl_i, kl_l, kl_n, kl_r, xr_1, xr_10, xr_157, xr_2, xr_27, xr_28, xr_3, xr_31, xr_32, xr_33, xr_34, xr_37, xr_4, xr_40, xr_5, xr_65, xr_71, xr_87, af_0, af_1, xt_goto, xt_ib, xt_ic, xt_ic_eq, xt_ic_ge, xt_if_eq, xt_if_ne, xt_ir, xt_nop, mF_12 mh_Mo, mF_13 mh_Mo, mA_63 mh_Mo, mA_64 mh_Mo, mA_65 mh_Mo, mA_66 mh_Mo, mA_67 mh_Mo, mA_68 mh_Mo, mA_69 mh_Mo, mA_70 mh_Mo, mA_71 mh_Mo, xq_187_13_virtualm mh_Mo, xq_188_200_static, xq_189_13_virtualm mh_Mo, pF_0, pF_1, pF_2, pF_5, pF_6, pF_8, pF_12, pF_16, pF_17, pF_18, pF_22, pF_24, pF_19, pF_20, pF_21, pF_23, pN_19, pN_20, pN_21, pN_23, pA_63, pA_64, pA_65, pA_66, pA_67, pA_68, pA_69, pA_70, pA_71, iN_add, iN_mul, iN_sub, iN_and, iN_or, iN_clr, iN_shl, iN_shr, tb_r1, b1_z, b1_or, b1_and, b1_or0, b1_or1, b1_0or, b1_t, b1_f, iN_lt, iN_inj, reduceIte, if_true, if_false, Nat.zero_add, Nat.add_zero, Bool.false_eq_true, Bool.true_eq_false, Nat.lt_irrefl, iN_az, not_true_eq_false, not_false_eq_true, Nat.reduceEqDiff, Nat.reduceLT, Nat.reduceAdd, Nat.reduceMul, Nat.reduceSub]
  rw [e, eb_223_8]
  clear e
  cases f
  · have O2 := Ok_grid O ha hb hf
    rw [if_neg (by decide)]
    have e2 := m_189 (xs := xs) (d := d) O2 (mh_Mo (τ := τ) (M := M) (μ := u1 (u1 μ 0 0) 0 0) (ν := uv ν 0 .null) (Q := Q))
    have e3 : mh τ M (up (up (up σ 1 0 a) 1 1 b) 1 2 (a * b)) (u1 (u1 μ 0 0) 0 0) (uv ν 0 .null) Q = mh τ M (up (up σ 1 0 a) 1 1 b) (u1 (u1 μ 0 0) 0 0) (uv ν 0 .null) Q := rfl
    have e4 : up (up (up σ 1 0 a) 1 1 b) 1 2 (a * b) 1 2 = a * b := rfl
    rw [e4, e3] at e2
    rw [e3]
    clear e3 hf O O2
    simp (disch := first | assumption | omega | exact st8_a (Nat.le_of_ble_eq_true rfl)) only [m_188c ha2, m_188c hb2, decide_eq_true ha, decide_eq_true hb, en1, en0, Bool.not_false, e2, eb_223_9, eb_223_10, eb_223_11, eb_223_12, eb_223_14, eb_223_15, eb_223_16, eb_223_17, eb_223_19, eb_223_20, kl_a, kl_d, kl_f, kl_i, kl_l, kl_n, kl_r, xr_1, xr_10, xr_157, xr_2, xr_27, xr_28, xr_3, xr_31, xr_32, xr_33, xr_34, xr_37, xr_4, xr_40, xr_5, xr_65, xr_71, xr_87, af_0, af_1, xt_goto, xt_ib, xt_ic, xt_ic_eq, xt_ic_ge, xt_if_eq, xt_if_ne, xt_ir, xt_nop, mF_12 mh_Mo, mF_13 mh_Mo, mA_63 mh_Mo, mA_64 mh_Mo, mA_65 mh_Mo, mA_66 mh_Mo, mA_67 mh_Mo, mA_68 mh_Mo, mA_69 mh_Mo, mA_70 mh_Mo, mA_71 mh_Mo, xq_187_13_virtualm mh_Mo, xq_188_200_static, xq_189_13_virtualm mh_Mo, pF_0, pF_1, pF_2, pF_5, pF_6, pF_8, pF_12, pF_16, pF_17, pF_18, pF_22, pF_24, pF_19, pF_20, pF_21, pF_23, pN_19, pN_20, pN_21, pN_23, pA_63, pA_64, pA_65, pA_66, pA_67, pA_68, pA_69, pA_70, pA_71, iN_add, iN_mul, iN_sub, iN_and, iN_or, iN_clr, iN_shl, iN_shr, tb_r1, b1_z, b1_or, b1_and, b1_or0, b1_or1, b1_0or, b1_t, b1_f, iN_lt, iN_inj, reduceIte, if_true, if_false, Nat.zero_add, Nat.add_zero, Bool.false_eq_true, Bool.true_eq_false, Nat.lt_irrefl, iN_az, not_true_eq_false, not_false_eq_true, Nat.reduceEqDiff, Nat.reduceLT, Nat.reduceAdd, Nat.reduceMul, Nat.reduceSub]
  · rw [if_pos rfl]
    clear hf O
    simp (disch := first | assumption | omega | exact st8_a (Nat.le_of_ble_eq_true rfl)) only [m_188c ha2, m_188c hb2, decide_eq_true ha, decide_eq_true hb, en1, en0, Bool.not_true, eb_223_9, eb_223_10, eb_223_11, eb_223_12, eb_223_14, eb_223_15, eb_223_16, eb_223_17, eb_223_18, kl_a, kl_d, kl_f, kl_i, kl_l, kl_n, kl_r, xr_1, xr_10, xr_157, xr_2, xr_27, xr_28, xr_3, xr_31, xr_32, xr_33, xr_34, xr_37, xr_4, xr_40, xr_5, xr_65, xr_71, xr_87, af_0, af_1, xt_goto, xt_ib, xt_ic, xt_ic_eq, xt_ic_ge, xt_if_eq, xt_if_ne, xt_ir, xt_nop, mF_12 mh_Mo, mF_13 mh_Mo, mA_63 mh_Mo, mA_64 mh_Mo, mA_65 mh_Mo, mA_66 mh_Mo, mA_67 mh_Mo, mA_68 mh_Mo, mA_69 mh_Mo, mA_70 mh_Mo, mA_71 mh_Mo, xq_187_13_virtualm mh_Mo, xq_188_200_static, xq_189_13_virtualm mh_Mo, pF_0, pF_1, pF_2, pF_5, pF_6, pF_8, pF_12, pF_16, pF_17, pF_18, pF_22, pF_24, pF_19, pF_20, pF_21, pF_23, pN_19, pN_20, pN_21, pN_23, pA_63, pA_64, pA_65, pA_66, pA_67, pA_68, pA_69, pA_70, pA_71, iN_add, iN_mul, iN_sub, iN_and, iN_or, iN_clr, iN_shl, iN_shr, tb_r1, b1_z, b1_or, b1_and, b1_or0, b1_or1, b1_0or, b1_t, b1_f, iN_lt, iN_inj, reduceIte, if_true, if_false, Nat.zero_add, Nat.add_zero, Bool.false_eq_true, Bool.true_eq_false, Nat.lt_irrefl, iN_az, not_true_eq_false, not_false_eq_true, Nat.reduceEqDiff, Nat.reduceLT, Nat.reduceAdd, Nat.reduceMul, Nat.reduceSub]
end Mdb
