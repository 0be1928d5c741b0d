/-! THE MODEL: unfit -/
/-- the fewest pupils of a set's lessons below k -/
def mnp (σ : Nat → Nat → Nat) (w : Nat) : Nat → Nat
  | 0 => 100
  | k + 1 => if w.testBit k = true then min (mnp σ w k) (σ 2 (σ 5 k)) else mnp σ w k
section Mdn
variable {xs : List Int32} {d m n k i j p a b c u v l q z w y t nn kd : Nat} {τ M σ W K : Nat → Nat → Nat} {μ μ0 : Nat → Nat} {ν ν0 : Nat → Value} {A B Q T T2 h : ab_H} {s r g f X Z Y tab s0 r0 F s2 r2 : Nat → Nat} {L st : List Value} {β : Value}
set_option maxRecDepth 100000 in
theorem mnp_b : ∀ k, mnp σ w k ≤ 100 := by
  intro k
  induction k with
  | zero => exact Nat.le_refl _
  | succ k ih =>
    rw [mnp]
    split
    · exact Nat.le_trans (Nat.min_le_left _ _) ih
    · exact ih
set_option maxRecDepth 100000 in
theorem mnp_le : ∀ k l, l < k → w.testBit l = true → mnp σ w k ≤ σ 2 (σ 5 l) := by
  intro k
  induction k with
  | zero => intro l hl; exact absurd hl (Nat.not_lt_zero l)
  | succ k ih =>
    intro l hl hb
    rw [mnp]
    by_cases e : l = k
    · rw [← e, if_pos hb]
      exact Nat.min_le_right _ _
    · have := ih l (by omega) hb
      split
      · exact Nat.le_trans (Nat.min_le_left _ _) this
      · exact this
set_option maxRecDepth 100000 in
theorem mnp_at : ∀ k, mnp σ w k = 100 ∨ ∃ l, l < k ∧ w.testBit l = true ∧ mnp σ w k = σ 2 (σ 5 l) := by
  intro k
  induction k with
  | zero => exact .inl rfl
  | succ k ih =>
    rw [mnp]
    by_cases hb : w.testBit k = true
    · rw [if_pos hb]
      by_cases e : σ 2 (σ 5 k) ≤ mnp σ w k
      · exact .inr ⟨k, Nat.lt_succ_self k, hb, Nat.min_eq_right e⟩
      · rw [Nat.min_eq_left (by omega)]
        rcases ih with h | ⟨l, h1, h2⟩
        · exact .inl h
        · exact .inr ⟨l, by omega, h2⟩
    · rw [if_neg hb]
      rcases ih with h | ⟨l, h1, h2⟩
      · exact .inl h
      · exact .inr ⟨l, by omega, h2⟩
set_option maxRecDepth 100000 in
theorem mnp_rfs (O : Ok σ) (hr : i < (σ 1 5)) : decide (mnp σ w (σ 1 6) ≤ σ 4 i) = rfs σ w i := by
  have hs := Ok_r O hr
  rw [Bool.eq_iff_iff, decide_eq_true_iff]
  unfold rfs
  rw [an_t]
  constructor
  · intro h
    rcases mnp_at (σ := σ) (w := w) (σ 1 6) with h1 | ⟨l, h1, h2, h3⟩
    · omega
    · exact ⟨l, h1, by rw [h2, Bool.true_and]; exact sts_t.mpr (by omega)⟩
  · rintro ⟨l, h1, h2⟩
    rw [Bool.and_eq_true] at h2
    have := mnp_le (σ := σ) (σ 1 6) l h1 h2.1
    have := sts_t.mp h2.2
    omega
set_option maxRecDepth 100000 in
theorem clr_0le (h : clr a b = 0) : a ≤ b := by
  have : a &&& b = a := Nat.eq_of_testBit_eq fun i => by
    have h2 : (clr a b).testBit i = false := by rw [h, Nat.zero_testBit]
    rw [clr_tb] at h2
    rw [Nat.testBit_and]
    cases ha : a.testBit i
    · rfl
    · rw [ha, Bool.true_and] at h2
      cases hb : b.testBit i
      · rw [hb] at h2
        cases h2
      · rfl
  rw [← this]
  exact Nat.and_le_right
set_option maxRecDepth 100000 in
theorem fun1_ge : ∀ k, u + 1 ≤ k → fun1 σ u k = fun1 σ u (u + 1) := by
  intro k
  induction k with
  | zero => intro h; omega
  | succ k ih =>
    intro h
    by_cases e : k = u
    · rw [e]
    · rw [fun1, if_neg fun z => by have := clr_0le z.1; omega]
      exact ih (by omega)
/-- a set's lessons below k lie in the set U -/
def sbq (U w k : Nat) : Bool := al k fun j => !w.testBit j || U.testBit j
set_option maxRecDepth 100000 in
theorem sbq_c (hw : w < 2 ^ n) : sbq u w n = true ↔ clr w u = 0 := by
  unfold sbq
  rw [al_t]
  constructor
  · intro h
    refine Nat.eq_of_testBit_eq fun i => ?_
    rw [clr_tb, Nat.zero_testBit]
    by_cases hi : i < n
    · have := h i hi
      cases h1 : w.testBit i
      · rfl
      · rw [h1, Bool.not_true, Bool.false_or] at this
        rw [this]
        rfl
    · rw [Nat.testBit_lt_two_pow (Nat.lt_of_lt_of_le hw (Nat.pow_le_pow_right (by decide) (by omega)))]
      rfl
  · intro h i _
    have h2 : (clr w u).testBit i = false := by rw [h, Nat.zero_testBit]
    rw [clr_tb] at h2
    cases h1 : w.testBit i
    · rfl
    · rw [h1, Bool.true_and] at h2
      cases h3 : u.testBit i
      · rw [h3] at h2
        cases h2
      · rfl
set_option maxRecDepth 100000 in
theorem m_254x (O : Ok σ) (hu : u < 4294967296) (h : ¬ u < (σ 1 2)) : ev xs (d + 2) 254 0 ([.ref 62, .int (nI u), .retAddr 9, .retAddr 9, .retAddr 9, .retAddr 9, .retAddr 9, .retAddr 9], [], mh τ M σ μ ν Q) = some (.inl (some (.int (nI (0)))), mh τ M σ (u1 μ 0 1) ν Q) := by
  simp (disch := first | assumption | omega | exact st8_a (Nat.le_of_ble_eq_true rfl)) only [m_193 O mh_Mo hu, decide_eq_false h, en0, eb_254_0, eb_254_1, eb_254_2, eb_254_5, kl_a, kl_d, kl_f, kl_i, kl_l, kl_n, kl_r, xr_1, xr_10, xr_174, xr_2, xr_27, xr_28, xr_3, xr_30, xr_31, xr_32, xr_33, xr_34, xr_35, xr_36, xr_37, xr_38, xr_4, xr_43, xr_44, xr_47, xr_5, xr_55, xr_56, xr_57, xr_58, xr_61, xr_62, xr_63, xr_65, xr_98, af_0, af_1, xt_goto, xt_ib, xt_ic, xt_ic_ge, xt_ic_le, xt_ic_lt, xt_ic_ne, xt_if_eq, xt_if_ne, xt_ir, xt_nop, mF_3 mh_Mo, mF_6 mh_Mo, mF_7 mh_Mo, mF_8 mh_Mo, mF_9 mh_Mo, mA_63 mh_Mo, mA_64 mh_Mo, mA_65 mh_Mo, mA_66 mh_Mo, mA_67 mh_Mo, mA_68 mh_Mo, mA_69 mh_Mo, mA_70 mh_Mo, mA_71 mh_Mo, xq_187_13_virtualm mh_Mo, xq_193_13_virtualm mh_Mo, xq_234_13_virtualm mh_Mo, xq_251_13_virtualm mh_Mo, xq_277_200_static, pF_0, pF_1, pF_2, pF_5, pF_6, pF_8, pF_12, pF_16, pF_17, pF_18, pF_22, pF_24, pF_19, pF_20, pF_21, pF_23, pN_19, pN_20, pN_21, pN_23, pA_63, pA_64, pA_65, pA_66, pA_67, pA_68, pA_69, pA_70, pA_71, iN_add, iN_mul, iN_sub, iN_and, iN_or, iN_clr, iN_shl, iN_shr, tb_r1, b1_z, b1_or, b1_and, b1_or0, b1_or1, b1_0or, b1_t, b1_f, iN_lt, iN_inj, reduceIte, if_true, if_false, Nat.zero_add, Nat.add_zero, Bool.false_eq_true, Bool.true_eq_false, Nat.lt_irrefl, iN_az, not_true_eq_false, not_false_eq_true, Nat.reduceEqDiff, Nat.reduceLT, Nat.reduceAdd, Nat.reduceMul, Nat.reduceSub]
set_option maxRecDepth 100000 in
theorem m_254n (O : Ok σ) (h : u < (σ 1 2)) (hν : ν 0 = .null) : ev xs (d + 2) 254 0 ([.ref 62, .int (nI u), .retAddr 9, .retAddr 9, .retAddr 9, .retAddr 9, .retAddr 9, .retAddr 9], [], mh τ M σ μ ν Q) = some (.inl (some (.int (nI (0)))), mh τ M σ (u1 μ 0 2) ν Q) := by
  obtain ⟨hD1, hD2, hH1, hH2, hS, hC, hT, hR, hL, hQ⟩ := Ok_b O
  have hu : u < 4294967296 := by omega
  simp (disch := first | assumption | omega | exact st8_a (Nat.le_of_ble_eq_true rfl)) only [m_193 O mh_Mo hu, decide_eq_true h, en1, m_234n hν, uu, eb_254_0, eb_254_1, eb_254_2, eb_254_3, eb_254_4, eb_254_5, kl_a, kl_d, kl_f, kl_i, kl_l, kl_n, kl_r, xr_1, xr_10, xr_174, xr_2, xr_27, xr_28, xr_3, xr_30, xr_31, xr_32, xr_33, xr_34, xr_35, xr_36, xr_37, xr_38, xr_4, xr_43, xr_44, xr_47, xr_5, xr_55, xr_56, xr_57, xr_58, xr_61, xr_62, xr_63, xr_65, xr_98, af_0, af_1, xt_goto, xt_ib, xt_ic, xt_ic_ge, xt_ic_le, xt_ic_lt, xt_ic_ne, xt_if_eq, xt_if_ne, xt_ir, xt_nop, mF_3 mh_Mo, mF_6 mh_Mo, mF_7 mh_Mo, mF_8 mh_Mo, mF_9 mh_Mo, mA_63 mh_Mo, mA_64 mh_Mo, mA_65 mh_Mo, mA_66 mh_Mo, mA_67 mh_Mo, mA_68 mh_Mo, mA_69 mh_Mo, mA_70 mh_Mo, mA_71 mh_Mo, xq_187_13_virtualm mh_Mo, xq_193_13_virtualm mh_Mo, xq_234_13_virtualm mh_Mo, xq_251_13_virtualm mh_Mo, xq_277_200_static, pF_0, pF_1, pF_2, pF_5, pF_6, pF_8, pF_12, pF_16, pF_17, pF_18, pF_22, pF_24, pF_19, pF_20, pF_21, pF_23, pN_19, pN_20, pN_21, pN_23, pA_63, pA_64, pA_65, pA_66, pA_67, pA_68, pA_69, pA_70, pA_71, iN_add, iN_mul, iN_sub, iN_and, iN_or, iN_clr, iN_shl, iN_shr, tb_r1, b1_z, b1_or, b1_and, b1_or0, b1_or1, b1_0or, b1_t, b1_f, iN_lt, iN_inj, reduceIte, if_true, if_false, Nat.zero_add, Nat.add_zero, Bool.false_eq_true, Bool.true_eq_false, Nat.lt_irrefl, iN_az, not_true_eq_false, not_false_eq_true, Nat.reduceEqDiff, Nat.reduceLT, Nat.reduceAdd, Nat.reduceMul, Nat.reduceSub]
set_option maxRecDepth 100000 in
theorem m_254 (O : Ok σ) (hy : y < (σ 1 2)) (hν : ν 0 = .ref (72 + i)) (hi : Q[i]? = some (oI (ar (σ 1 6) (tv σ s r)))) (hb : ∀ l, l < (σ 1 6) → s l < (σ 1 2) ∧ r l < (σ 1 5)) : ev xs (d + 4) 254 0 ([.ref 62, .int (nI y), .retAddr 9, .retAddr 9, .retAddr 9, .retAddr 9, .retAddr 9, .retAddr 9], [], mh τ M σ μ ν Q) = some (.inl (some (.int (nI (fun1 σ (lin σ s y) (lin σ s y + 1))))), mh τ M σ (u1 μ 0 0) ν Q) := by
  obtain ⟨hD1, hD2, hH1, hH2, hS, hC, hT, hR, hL, hQ⟩ := Ok_b O
  have hu : y < 4294967296 := by omega
  have hU : lin σ s y < 2 ^ (σ 1 6) := en_lt _ _
  have hUt : ∀ l, l < (σ 1 6) → (lin σ s y).testBit l = (cov σ l (s l)).testBit y := fun l hl => by
    unfold lin
    rw [en_tb, decide_eq_true hl, Bool.true_and]
  generalize hUU : lin σ s y = U at *
  have h2L : 1 <<< (σ 1 6) = 2 ^ (σ 1 6) := Nat.one_shiftLeft _
  have h64 : 2 ^ (σ 1 6) ≤ 64 := Nat.pow_le_pow_right (n := 2) (j := 6) (by decide) hL
  have isT : ∀ l, l < (σ 1 6) → ev xs (d + 3) 251 0 ([.ref 62, .int (nI l), .int (nI y)], [], mh τ M σ (u1 μ 0 0) ν Q) = some (.inl (some (.int (nI (b1 (U.testBit l))))), mh τ M σ (u1 μ 0 0) ν Q) := fun l hl => by
    have e := m_251 (xs := xs) (d := d) (y := y) O (mh_Mo (τ := τ) (M := M) (μ := u1 μ 0 0) (ν := ν) (Q := Q)) hν (mh_Q.trans hi) (fun l hl => tv_b (hb l hl).1 (hb l hl).2) hl hy
    rw [tv_d (hb l hl).2, ← hUt l hl] at e
    exact e
  clear hi hb hUt
  -- the lessons
  have k9 : ∀ w, w < 64 → ∀ (x2 : Int32) (x7 : Value) l, l ≤ (σ 1 6) → ev xs (d + 4) 254 9 ([.ref 62, .int (nI y), .int x2, .int (nI w), .int (nI (b1 (sbq U w l))), .int (nI (mnp σ w l)), .int (nI l), x7], [], mh τ M σ (u1 μ 0 0) ν Q) = ev xs (d + 4) 254 9 ([.ref 62, .int (nI y), .int x2, .int (nI w), .int (nI (b1 (sbq U w (σ 1 6)))), .int (nI (mnp σ w (σ 1 6))), .int (nI (σ 1 6)), x7], [], mh τ M σ (u1 μ 0 0) ν Q) := by
    intro w hw x2 x7
    refine lp (σ 1 6) rfl ?_
    intro l hl ih
    have hT := isT l hl
    have hl6 : l < 6 := by omega
    have c1 := (Ok_l O hl).1
    have c2 := (Ok_c O c1).1
    have hm := mnp_b (σ := σ) (w := w) l
    rw [← ih, eb_254_9]
    have e1 : sbq U w (l + 1) = (sbq U w l && (!w.testBit l || U.testBit l)) := rfl
    have e2 : mnp σ w (l + 1) = if w.testBit l = true then min (mnp σ w l) (σ 2 (σ 5 l)) else mnp σ w l := rfl
    rw [e1, e2]
    clear ih isT e1 e2
    by_cases h1 : w.testBit l = true
    · rw [h1, Bool.not_true, Bool.false_or, if_pos rfl]
      cases sbq U w l
      · rw [Bool.false_and]
        clear hT
        simp (disch := first | assumption | omega | exact st8_a (Nat.le_of_ble_eq_true rfl)) only [hl, h1, eb_254_10, eb_254_11, eb_254_15, eb_254_16, eb_254_17, kl_a, kl_d, kl_f, kl_i, kl_l, kl_n, kl_r, xr_1, xr_10, xr_174, xr_2, xr_27, xr_28, xr_3, xr_30, xr_31, xr_32, xr_33, xr_34, xr_35, xr_36, xr_37, xr_38, xr_4, xr_43, xr_44, xr_47, xr_5, xr_55, xr_56, xr_57, xr_58, xr_61, xr_62, xr_63, xr_65, xr_98, af_0, af_1, xt_goto, xt_ib, xt_ic, xt_ic_ge, xt_ic_le, xt_ic_lt, xt_ic_ne, xt_if_eq, xt_if_ne, xt_ir, xt_nop, mF_3 mh_Mo, mF_6 mh_Mo, mF_7 mh_Mo, mF_8 mh_Mo, mF_9 mh_Mo, mA_63 mh_Mo, mA_64 mh_Mo, mA_65 mh_Mo, mA_66 mh_Mo, mA_67 mh_Mo, mA_68 mh_Mo, mA_69 mh_Mo, mA_70 mh_Mo, mA_71 mh_Mo, xq_187_13_virtualm mh_Mo, xq_193_13_virtualm mh_Mo, xq_234_13_virtualm mh_Mo, xq_251_13_virtualm mh_Mo, xq_277_200_static, pF_0, pF_1, pF_2, pF_5, pF_6, pF_8, pF_12, pF_16, pF_17, pF_18, pF_22, pF_24, pF_19, pF_20, pF_21, pF_23, pN_19, pN_20, pN_21, pN_23, pA_63, pA_64, pA_65, pA_66, pA_67, pA_68, pA_69, pA_70, pA_71, iN_add, iN_mul, iN_sub, iN_and, iN_or, iN_clr, iN_shl, iN_shr, tb_r1, b1_z, b1_or, b1_and, b1_or0, b1_or1, b1_0or, b1_t, b1_f, iN_lt, iN_inj, reduceIte, if_true, if_false, Nat.zero_add, Nat.add_zero, Bool.false_eq_true, Bool.true_eq_false, Nat.lt_irrefl, iN_az, not_true_eq_false, not_false_eq_true, Nat.reduceEqDiff, Nat.reduceLT, Nat.reduceAdd, Nat.reduceMul, Nat.reduceSub]
      · rw [Bool.true_and]
        cases hUl : U.testBit l
        · rw [hUl] at hT
          simp (disch := first | assumption | omega | exact st8_a (Nat.le_of_ble_eq_true rfl)) only [hl, h1, hT, eb_254_10, eb_254_11, eb_254_12, eb_254_13, eb_254_15, eb_254_16, eb_254_17, kl_a, kl_d, kl_f, kl_i, kl_l, kl_n, kl_r, xr_1, xr_10, xr_174, xr_2, xr_27, xr_28, xr_3, xr_30, xr_31, xr_32, xr_33, xr_34, xr_35, xr_36, xr_37, xr_38, xr_4, xr_43, xr_44, xr_47, xr_5, xr_55, xr_56, xr_57, xr_58, xr_61, xr_62, xr_63, xr_65, xr_98, af_0, af_1, xt_goto, xt_ib, xt_ic, xt_ic_ge, xt_ic_le, xt_ic_lt, xt_ic_ne, xt_if_eq, xt_if_ne, xt_ir, xt_nop, mF_3 mh_Mo, mF_6 mh_Mo, mF_7 mh_Mo, mF_8 mh_Mo, mF_9 mh_Mo, mA_63 mh_Mo, mA_64 mh_Mo, mA_65 mh_Mo, mA_66 mh_Mo, mA_67 mh_Mo, mA_68 mh_Mo, mA_69 mh_Mo, mA_70 mh_Mo, mA_71 mh_Mo, xq_187_13_virtualm mh_Mo, xq_193_13_virtualm mh_Mo, xq_234_13_virtualm mh_Mo, xq_251_13_virtualm mh_Mo, xq_277_200_static, pF_0, pF_1, pF_2, pF_5, pF_6, pF_8, pF_12, pF_16, pF_17, pF_18, pF_22, pF_24, pF_19, pF_20, pF_21, pF_23, pN_19, pN_20, pN_21, pN_23, pA_63, pA_64, pA_65, pA_66, pA_67, pA_68, pA_69, pA_70, pA_71, iN_add, iN_mul, iN_sub, iN_and, iN_or, iN_clr, iN_shl, iN_shr, tb_r1, b1_z, b1_or, b1_and, b1_or0, b1_or1, b1_0or, b1_t, b1_f, iN_lt, iN_inj, reduceIte, if_true, if_false, Nat.zero_add, Nat.add_zero, Bool.false_eq_true, Bool.true_eq_false, Nat.lt_irrefl, iN_az, not_true_eq_false, not_false_eq_true, Nat.reduceEqDiff, Nat.reduceLT, Nat.reduceAdd, Nat.reduceMul, Nat.reduceSub]
        · rw [hUl] at hT
          simp (disch := first | assumption | omega | exact st8_a (Nat.le_of_ble_eq_true rfl)) only [hl, h1, hT, eb_254_10, eb_254_11, eb_254_12, eb_254_13, eb_254_14, eb_254_16, eb_254_17, kl_a, kl_d, kl_f, kl_i, kl_l, kl_n, kl_r, xr_1, xr_10, xr_174, xr_2, xr_27, xr_28, xr_3, xr_30, xr_31, xr_32, xr_33, xr_34, xr_35, xr_36, xr_37, xr_38, xr_4, xr_43, xr_44, xr_47, xr_5, xr_55, xr_56, xr_57, xr_58, xr_61, xr_62, xr_63, xr_65, xr_98, af_0, af_1, xt_goto, xt_ib, xt_ic, xt_ic_ge, xt_ic_le, xt_ic_lt, xt_ic_ne, xt_if_eq, xt_if_ne, xt_ir, xt_nop, mF_3 mh_Mo, mF_6 mh_Mo, mF_7 mh_Mo, mF_8 mh_Mo, mF_9 mh_Mo, mA_63 mh_Mo, mA_64 mh_Mo, mA_65 mh_Mo, mA_66 mh_Mo, mA_67 mh_Mo, mA_68 mh_Mo, mA_69 mh_Mo, mA_70 mh_Mo, mA_71 mh_Mo, xq_187_13_virtualm mh_Mo, xq_193_13_virtualm mh_Mo, xq_234_13_virtualm mh_Mo, xq_251_13_virtualm mh_Mo, xq_277_200_static, pF_0, pF_1, pF_2, pF_5, pF_6, pF_8, pF_12, pF_16, pF_17, pF_18, pF_22, pF_24, pF_19, pF_20, pF_21, pF_23, pN_19, pN_20, pN_21, pN_23, pA_63, pA_64, pA_65, pA_66, pA_67, pA_68, pA_69, pA_70, pA_71, iN_add, iN_mul, iN_sub, iN_and, iN_or, iN_clr, iN_shl, iN_shr, tb_r1, b1_z, b1_or, b1_and, b1_or0, b1_or1, b1_0or, b1_t, b1_f, iN_lt, iN_inj, reduceIte, if_true, if_false, Nat.zero_add, Nat.add_zero, Bool.false_eq_true, Bool.true_eq_false, Nat.lt_irrefl, iN_az, not_true_eq_false, not_false_eq_true, Nat.reduceEqDiff, Nat.reduceLT, Nat.reduceAdd, Nat.reduceMul, Nat.reduceSub]
    · have h1 : w.testBit l = false := by simpa using h1
      rw [h1, Bool.not_false, Bool.true_or, Bool.and_true, if_neg (by decide)]
      clear hT
      cases sbq U w l
      · simp (disch := first | assumption | omega | exact st8_a (Nat.le_of_ble_eq_true rfl)) only [hl, h1, eb_254_10, eb_254_17, kl_a, kl_d, kl_f, kl_i, kl_l, kl_n, kl_r, xr_1, xr_10, xr_174, xr_2, xr_27, xr_28, xr_3, xr_30, xr_31, xr_32, xr_33, xr_34, xr_35, xr_36, xr_37, xr_38, xr_4, xr_43, xr_44, xr_47, xr_5, xr_55, xr_56, xr_57, xr_58, xr_61, xr_62, xr_63, xr_65, xr_98, af_0, af_1, xt_goto, xt_ib, xt_ic, xt_ic_ge, xt_ic_le, xt_ic_lt, xt_ic_ne, xt_if_eq, xt_if_ne, xt_ir, xt_nop, mF_3 mh_Mo, mF_6 mh_Mo, mF_7 mh_Mo, mF_8 mh_Mo, mF_9 mh_Mo, mA_63 mh_Mo, mA_64 mh_Mo, mA_65 mh_Mo, mA_66 mh_Mo, mA_67 mh_Mo, mA_68 mh_Mo, mA_69 mh_Mo, mA_70 mh_Mo, mA_71 mh_Mo, xq_187_13_virtualm mh_Mo, xq_193_13_virtualm mh_Mo, xq_234_13_virtualm mh_Mo, xq_251_13_virtualm mh_Mo, xq_277_200_static, pF_0, pF_1, pF_2, pF_5, pF_6, pF_8, pF_12, pF_16, pF_17, pF_18, pF_22, pF_24, pF_19, pF_20, pF_21, pF_23, pN_19, pN_20, pN_21, pN_23, pA_63, pA_64, pA_65, pA_66, pA_67, pA_68, pA_69, pA_70, pA_71, iN_add, iN_mul, iN_sub, iN_and, iN_or, iN_clr, iN_shl, iN_shr, tb_r1, b1_z, b1_or, b1_and, b1_or0, b1_or1, b1_0or, b1_t, b1_f, iN_lt, iN_inj, reduceIte, if_true, if_false, Nat.zero_add, Nat.add_zero, Bool.false_eq_true, Bool.true_eq_false, Nat.lt_irrefl, iN_az, not_true_eq_false, not_false_eq_true, Nat.reduceEqDiff, Nat.reduceLT, Nat.reduceAdd, Nat.reduceMul, Nat.reduceSub]
      · simp (disch := first | assumption | omega | exact st8_a (Nat.le_of_ble_eq_true rfl)) only [hl, h1, eb_254_10, eb_254_17, kl_a, kl_d, kl_f, kl_i, kl_l, kl_n, kl_r, xr_1, xr_10, xr_174, xr_2, xr_27, xr_28, xr_3, xr_30, xr_31, xr_32, xr_33, xr_34, xr_35, xr_36, xr_37, xr_38, xr_4, xr_43, xr_44, xr_47, xr_5, xr_55, xr_56, xr_57, xr_58, xr_61, xr_62, xr_63, xr_65, xr_98, af_0, af_1, xt_goto, xt_ib, xt_ic, xt_ic_ge, xt_ic_le, xt_ic_lt, xt_ic_ne, xt_if_eq, xt_if_ne, xt_ir, xt_nop, mF_3 mh_Mo, mF_6 mh_Mo, mF_7 mh_Mo, mF_8 mh_Mo, mF_9 mh_Mo, mA_63 mh_Mo, mA_64 mh_Mo, mA_65 mh_Mo, mA_66 mh_Mo, mA_67 mh_Mo, mA_68 mh_Mo, mA_69 mh_Mo, mA_70 mh_Mo, mA_71 mh_Mo, xq_187_13_virtualm mh_Mo, xq_193_13_virtualm mh_Mo, xq_234_13_virtualm mh_Mo, xq_251_13_virtualm mh_Mo, xq_277_200_static, pF_0, pF_1, pF_2, pF_5, pF_6, pF_8, pF_12, pF_16, pF_17, pF_18, pF_22, pF_24, pF_19, pF_20, pF_21, pF_23, pN_19, pN_20, pN_21, pN_23, pA_63, pA_64, pA_65, pA_66, pA_67, pA_68, pA_69, pA_70, pA_71, iN_add, iN_mul, iN_sub, iN_and, iN_or, iN_clr, iN_shl, iN_shr, tb_r1, b1_z, b1_or, b1_and, b1_or0, b1_or1, b1_0or, b1_t, b1_f, iN_lt, iN_inj, reduceIte, if_true, if_false, Nat.zero_add, Nat.add_zero, Bool.false_eq_true, Bool.true_eq_false, Nat.lt_irrefl, iN_az, not_true_eq_false, not_false_eq_true, Nat.reduceEqDiff, Nat.reduceLT, Nat.reduceAdd, Nat.reduceMul, Nat.reduceSub]
  -- the rooms
  have k19 : ∀ w (x2 x3 x4 : Int32) t, t ≤ (σ 1 5) → ev xs (d + 4) 254 19 ([.ref 62, .int (nI y), .int x2, .int x3, .int x4, .int (nI (mnp σ w (σ 1 6))), .int (nI (sm t fun r => b1 (rfs σ w r))), .int (nI t)], [], mh τ M σ (u1 μ 0 0) ν Q) = ev xs (d + 4) 254 19 ([.ref 62, .int (nI y), .int x2, .int x3, .int x4, .int (nI (mnp σ w (σ 1 6))), .int (nI (rfo σ w)), .int (nI (σ 1 5))], [], mh τ M σ (u1 μ 0 0) ν Q) := by
    intro w x2 x3 x4
    refine lp (σ 1 5) rfl ?_
    intro t ht ih
    have ht3 : t < 3 := by omega
    have hsm := sm_b1 t fun r => rfs σ w r
    have hm := mnp_b (σ := σ) (w := w) (σ 1 6)
    have hs := Ok_r O ht
    have hr := mnp_rfs (w := w) O ht
    rw [sm, ← hr] at ih
    rw [← ih, eb_254_19]
    clear ih k9 isT hr
    by_cases h : mnp σ w (σ 1 6) ≤ σ 4 t
    · have h2 : ¬ σ 4 t < mnp σ w (σ 1 6) := by omega
      rw [decide_eq_true h]
      simp (disch := first | assumption | omega | exact st8_a (Nat.le_of_ble_eq_true rfl)) only [ht, h2, eb_254_20, eb_254_21, eb_254_23, kl_a, kl_d, kl_f, kl_i, kl_l, kl_n, kl_r, xr_1, xr_10, xr_174, xr_2, xr_27, xr_28, xr_3, xr_30, xr_31, xr_32, xr_33, xr_34, xr_35, xr_36, xr_37, xr_38, xr_4, xr_43, xr_44, xr_47, xr_5, xr_55, xr_56, xr_57, xr_58, xr_61, xr_62, xr_63, xr_65, xr_98, af_0, af_1, xt_goto, xt_ib, xt_ic, xt_ic_ge, xt_ic_le, xt_ic_lt, xt_ic_ne, xt_if_eq, xt_if_ne, xt_ir, xt_nop, mF_3 mh_Mo, mF_6 mh_Mo, mF_7 mh_Mo, mF_8 mh_Mo, mF_9 mh_Mo, mA_63 mh_Mo, mA_64 mh_Mo, mA_65 mh_Mo, mA_66 mh_Mo, mA_67 mh_Mo, mA_68 mh_Mo, mA_69 mh_Mo, mA_70 mh_Mo, mA_71 mh_Mo, xq_187_13_virtualm mh_Mo, xq_193_13_virtualm mh_Mo, xq_234_13_virtualm mh_Mo, xq_251_13_virtualm mh_Mo, xq_277_200_static, pF_0, pF_1, pF_2, pF_5, pF_6, pF_8, pF_12, pF_16, pF_17, pF_18, pF_22, pF_24, pF_19, pF_20, pF_21, pF_23, pN_19, pN_20, pN_21, pN_23, pA_63, pA_64, pA_65, pA_66, pA_67, pA_68, pA_69, pA_70, pA_71, iN_add, iN_mul, iN_sub, iN_and, iN_or, iN_clr, iN_shl, iN_shr, tb_r1, b1_z, b1_or, b1_and, b1_or0, b1_or1, b1_0or, b1_t, b1_f, iN_lt, iN_inj, reduceIte, if_true, if_false, Nat.zero_add, Nat.add_zero, Bool.false_eq_true, Bool.true_eq_false, Nat.lt_irrefl, iN_az, not_true_eq_false, not_false_eq_true, Nat.reduceEqDiff, Nat.reduceLT, Nat.reduceAdd, Nat.reduceMul, Nat.reduceSub]
    · have h2 : σ 4 t < mnp σ w (σ 1 6) := by omega
      rw [decide_eq_false h]
      simp (disch := first | assumption | omega | exact st8_a (Nat.le_of_ble_eq_true rfl)) only [ht, h2, eb_254_20, eb_254_22, eb_254_23, kl_a, kl_d, kl_f, kl_i, kl_l, kl_n, kl_r, xr_1, xr_10, xr_174, xr_2, xr_27, xr_28, xr_3, xr_30, xr_31, xr_32, xr_33, xr_34, xr_35, xr_36, xr_37, xr_38, xr_4, xr_43, xr_44, xr_47, xr_5, xr_55, xr_56, xr_57, xr_58, xr_61, xr_62, xr_63, xr_65, xr_98, af_0, af_1, xt_goto, xt_ib, xt_ic, xt_ic_ge, xt_ic_le, xt_ic_lt, xt_ic_ne, xt_if_eq, xt_if_ne, xt_ir, xt_nop, mF_3 mh_Mo, mF_6 mh_Mo, mF_7 mh_Mo, mF_8 mh_Mo, mF_9 mh_Mo, mA_63 mh_Mo, mA_64 mh_Mo, mA_65 mh_Mo, mA_66 mh_Mo, mA_67 mh_Mo, mA_68 mh_Mo, mA_69 mh_Mo, mA_70 mh_Mo, mA_71 mh_Mo, xq_187_13_virtualm mh_Mo, xq_193_13_virtualm mh_Mo, xq_234_13_virtualm mh_Mo, xq_251_13_virtualm mh_Mo, xq_277_200_static, pF_0, pF_1, pF_2, pF_5, pF_6, pF_8, pF_12, pF_16, pF_17, pF_18, pF_22, pF_24, pF_19, pF_20, pF_21, pF_23, pN_19, pN_20, pN_21, pN_23, pA_63, pA_64, pA_65, pA_66, pA_67, pA_68, pA_69, pA_70, pA_71, iN_add, iN_mul, iN_sub, iN_and, iN_or, iN_clr, iN_shl, iN_shr, tb_r1, b1_z, b1_or, b1_and, b1_or0, b1_or1, b1_0or, b1_t, b1_f, iN_lt, iN_inj, reduceIte, if_true, if_false, Nat.zero_add, Nat.add_zero, Bool.false_eq_true, Bool.true_eq_false, Nat.lt_irrefl, iN_az, not_true_eq_false, not_false_eq_true, Nat.reduceEqDiff, Nat.reduceLT, Nat.reduceAdd, Nat.reduceMul, Nat.reduceSub]
  -- the sets
  have k7 : ∀ w, w ≤ 2 ^ (σ 1 6) → ∀ x4 x5 x6 x7, ev xs (d + 4) 254 7 ([.ref 62, .int (nI y), .int (nI (fun1 σ U w)), .int (nI w), x4, x5, x6, x7], [], mh τ M σ (u1 μ 0 0) ν Q) = some (.inl (some (.int (nI (fun1 σ U (U + 1))))), mh τ M σ (u1 μ 0 0) ν Q) := by
    refine lp (2 ^ (σ 1 6)) ?_ ?_
    · intro x4 x5 x6 x7
      rw [fun1_ge _ hU, eb_254_7]
      clear k9 k19 isT
      simp (disch := first | assumption | omega | exact st8_a (Nat.le_of_ble_eq_true rfl)) only [h2L, eb_254_33, kl_a, kl_d, kl_f, kl_i, kl_l, kl_n, kl_r, xr_1, xr_10, xr_174, xr_2, xr_27, xr_28, xr_3, xr_30, xr_31, xr_32, xr_33, xr_34, xr_35, xr_36, xr_37, xr_38, xr_4, xr_43, xr_44, xr_47, xr_5, xr_55, xr_56, xr_57, xr_58, xr_61, xr_62, xr_63, xr_65, xr_98, af_0, af_1, xt_goto, xt_ib, xt_ic, xt_ic_ge, xt_ic_le, xt_ic_lt, xt_ic_ne, xt_if_eq, xt_if_ne, xt_ir, xt_nop, mF_3 mh_Mo, mF_6 mh_Mo, mF_7 mh_Mo, mF_8 mh_Mo, mF_9 mh_Mo, mA_63 mh_Mo, mA_64 mh_Mo, mA_65 mh_Mo, mA_66 mh_Mo, mA_67 mh_Mo, mA_68 mh_Mo, mA_69 mh_Mo, mA_70 mh_Mo, mA_71 mh_Mo, xq_187_13_virtualm mh_Mo, xq_193_13_virtualm mh_Mo, xq_234_13_virtualm mh_Mo, xq_251_13_virtualm mh_Mo, xq_277_200_static, pF_0, pF_1, pF_2, pF_5, pF_6, pF_8, pF_12, pF_16, pF_17, pF_18, pF_22, pF_24, pF_19, pF_20, pF_21, pF_23, pN_19, pN_20, pN_21, pN_23, pA_63, pA_64, pA_65, pA_66, pA_67, pA_68, pA_69, pA_70, pA_71, iN_add, iN_mul, iN_sub, iN_and, iN_or, iN_clr, iN_shl, iN_shr, tb_r1, b1_z, b1_or, b1_and, b1_or0, b1_or1, b1_0or, b1_t, b1_f, iN_lt, iN_inj, reduceIte, if_true, if_false, Nat.zero_add, Nat.add_zero, Bool.false_eq_true, Bool.true_eq_false, Nat.lt_irrefl, iN_az, not_true_eq_false, not_false_eq_true, Nat.reduceEqDiff, Nat.reduceLT, Nat.reduceAdd, Nat.reduceMul, Nat.reduceSub]
    · intro w hw ih x4 x5 x6 x7
      have hw64 : w < 64 := by omega
      have f9 := fun x2 x7 => k9 w hw64 x2 x7 0 (Nat.zero_le _)
      have f19 := fun x2 x3 x4 => k19 w x2 x3 x4 0 (Nat.zero_le _)
      have hc := sbq_c (u := U) hw
      have e1 : fun1 σ U (w + 1) = if clr w U = 0 ∧ rfo σ w < pc 10 w ∧ (fun1 σ U w = 0 ∨ pc 10 w < pc 10 (fun1 σ U w)) then w else fun1 σ U w := rfl
      have hp := pc_le 10 w
      have hr := rfo_le O (u := w)
      have hf : fun1 σ U w < 64 := by
        by_cases h : w ≤ U + 1
        · have := fun1_lt (σ := σ) (u := U) (by omega) w h
          omega
        · rw [fun1_ge w (by omega)]
          have := fun1_lt (σ := σ) (u := U) (by omega) (U + 1) (Nat.le_refl _)
          omega
      have hf2 : fun1 σ U w < 1024 := by omega
      have hw2 : w < 1024 := by omega
      have hpf := pc_le 10 (fun1 σ U w)
      rw [show mnp σ w 0 = 100 from rfl, show sbq U w 0 = true from rfl, b1_t] at f9
      rw [sm] at f19
      rw [e1] at ih
      have st : ev xs (d + 4) 254 7 ([.ref 62, .int (nI y), .int (nI (fun1 σ U w)), .int (nI w), x4, x5, x6, x7], [], mh τ M σ (u1 μ 0 0) ν Q) = ev xs (d + 4) 254 19 ([.ref 62, .int (nI y), .int (nI (fun1 σ U w)), .int (nI w), .int (nI (b1 (sbq U w (σ 1 6)))), .int (nI (mnp σ w (σ 1 6))), .int (nI (rfo σ w)), .int (nI (σ 1 5))], [], mh τ M σ (u1 μ 0 0) ν Q) := by
        rw [← f19, eb_254_7]
        clear k9 k19 ih isT hc e1 f19
        simp (disch := first | assumption | omega | exact st8_a (Nat.le_of_ble_eq_true rfl)) only [h2L, hw, eb_254_8, kl_a, kl_d, kl_f, kl_i, kl_l, kl_n, kl_r, xr_1, xr_10, xr_174, xr_2, xr_27, xr_28, xr_3, xr_30, xr_31, xr_32, xr_33, xr_34, xr_35, xr_36, xr_37, xr_38, xr_4, xr_43, xr_44, xr_47, xr_5, xr_55, xr_56, xr_57, xr_58, xr_61, xr_62, xr_63, xr_65, xr_98, af_0, af_1, xt_goto, xt_ib, xt_ic, xt_ic_ge, xt_ic_le, xt_ic_lt, xt_ic_ne, xt_if_eq, xt_if_ne, xt_ir, xt_nop, mF_3 mh_Mo, mF_6 mh_Mo, mF_7 mh_Mo, mF_8 mh_Mo, mF_9 mh_Mo, mA_63 mh_Mo, mA_64 mh_Mo, mA_65 mh_Mo, mA_66 mh_Mo, mA_67 mh_Mo, mA_68 mh_Mo, mA_69 mh_Mo, mA_70 mh_Mo, mA_71 mh_Mo, xq_187_13_virtualm mh_Mo, xq_193_13_virtualm mh_Mo, xq_234_13_virtualm mh_Mo, xq_251_13_virtualm mh_Mo, xq_277_200_static, pF_0, pF_1, pF_2, pF_5, pF_6, pF_8, pF_12, pF_16, pF_17, pF_18, pF_22, pF_24, pF_19, pF_20, pF_21, pF_23, pN_19, pN_20, pN_21, pN_23, pA_63, pA_64, pA_65, pA_66, pA_67, pA_68, pA_69, pA_70, pA_71, iN_add, iN_mul, iN_sub, iN_and, iN_or, iN_clr, iN_shl, iN_shr, tb_r1, b1_z, b1_or, b1_and, b1_or0, b1_or1, b1_0or, b1_t, b1_f, iN_lt, iN_inj, reduceIte, if_true, if_false, Nat.zero_add, Nat.add_zero, Bool.false_eq_true, Bool.true_eq_false, Nat.lt_irrefl, iN_az, not_true_eq_false, not_false_eq_true, Nat.reduceEqDiff, Nat.reduceLT, Nat.reduceAdd, Nat.reduceMul, Nat.reduceSub]
        rw [f9, eb_254_9]
        cases sbq U w (σ 1 6)
        · simp (disch := first | assumption | omega | exact st8_a (Nat.le_of_ble_eq_true rfl)) only [eb_254_18, kl_a, kl_d, kl_f, kl_i, kl_l, kl_n, kl_r, xr_1, xr_10, xr_174, xr_2, xr_27, xr_28, xr_3, xr_30, xr_31, xr_32, xr_33, xr_34, xr_35, xr_36, xr_37, xr_38, xr_4, xr_43, xr_44, xr_47, xr_5, xr_55, xr_56, xr_57, xr_58, xr_61, xr_62, xr_63, xr_65, xr_98, af_0, af_1, xt_goto, xt_ib, xt_ic, xt_ic_ge, xt_ic_le, xt_ic_lt, xt_ic_ne, xt_if_eq, xt_if_ne, xt_ir, xt_nop, mF_3 mh_Mo, mF_6 mh_Mo, mF_7 mh_Mo, mF_8 mh_Mo, mF_9 mh_Mo, mA_63 mh_Mo, mA_64 mh_Mo, mA_65 mh_Mo, mA_66 mh_Mo, mA_67 mh_Mo, mA_68 mh_Mo, mA_69 mh_Mo, mA_70 mh_Mo, mA_71 mh_Mo, xq_187_13_virtualm mh_Mo, xq_193_13_virtualm mh_Mo, xq_234_13_virtualm mh_Mo, xq_251_13_virtualm mh_Mo, xq_277_200_static, pF_0, pF_1, pF_2, pF_5, pF_6, pF_8, pF_12, pF_16, pF_17, pF_18, pF_22, pF_24, pF_19, pF_20, pF_21, pF_23, pN_19, pN_20, pN_21, pN_23, pA_63, pA_64, pA_65, pA_66, pA_67, pA_68, pA_69, pA_70, pA_71, iN_add, iN_mul, iN_sub, iN_and, iN_or, iN_clr, iN_shl, iN_shr, tb_r1, b1_z, b1_or, b1_and, b1_or0, b1_or1, b1_0or, b1_t, b1_f, iN_lt, iN_inj, reduceIte, if_true, if_false, Nat.zero_add, Nat.add_zero, Bool.false_eq_true, Bool.true_eq_false, Nat.lt_irrefl, iN_az, not_true_eq_false, not_false_eq_true, Nat.reduceEqDiff, Nat.reduceLT, Nat.reduceAdd, Nat.reduceMul, Nat.reduceSub]
        · simp (disch := first | assumption | omega | exact st8_a (Nat.le_of_ble_eq_true rfl)) only [eb_254_18, kl_a, kl_d, kl_f, kl_i, kl_l, kl_n, kl_r, xr_1, xr_10, xr_174, xr_2, xr_27, xr_28, xr_3, xr_30, xr_31, xr_32, xr_33, xr_34, xr_35, xr_36, xr_37, xr_38, xr_4, xr_43, xr_44, xr_47, xr_5, xr_55, xr_56, xr_57, xr_58, xr_61, xr_62, xr_63, xr_65, xr_98, af_0, af_1, xt_goto, xt_ib, xt_ic, xt_ic_ge, xt_ic_le, xt_ic_lt, xt_ic_ne, xt_if_eq, xt_if_ne, xt_ir, xt_nop, mF_3 mh_Mo, mF_6 mh_Mo, mF_7 mh_Mo, mF_8 mh_Mo, mF_9 mh_Mo, mA_63 mh_Mo, mA_64 mh_Mo, mA_65 mh_Mo, mA_66 mh_Mo, mA_67 mh_Mo, mA_68 mh_Mo, mA_69 mh_Mo, mA_70 mh_Mo, mA_71 mh_Mo, xq_187_13_virtualm mh_Mo, xq_193_13_virtualm mh_Mo, xq_234_13_virtualm mh_Mo, xq_251_13_virtualm mh_Mo, xq_277_200_static, pF_0, pF_1, pF_2, pF_5, pF_6, pF_8, pF_12, pF_16, pF_17, pF_18, pF_22, pF_24, pF_19, pF_20, pF_21, pF_23, pN_19, pN_20, pN_21, pN_23, pA_63, pA_64, pA_65, pA_66, pA_67, pA_68, pA_69, pA_70, pA_71, iN_add, iN_mul, iN_sub, iN_and, iN_or, iN_clr, iN_shl, iN_shr, tb_r1, b1_z, b1_or, b1_and, b1_or0, b1_or1, b1_0or, b1_t, b1_f, iN_lt, iN_inj, reduceIte, if_true, if_false, Nat.zero_add, Nat.add_zero, Bool.false_eq_true, Bool.true_eq_false, Nat.lt_irrefl, iN_az, not_true_eq_false, not_false_eq_true, Nat.reduceEqDiff, Nat.reduceLT, Nat.reduceAdd, Nat.reduceMul, Nat.reduceSub]
      rw [st, eb_254_19]
      clear st k9 k19 f9 f19 isT e1
      cases hsb : sbq U w (σ 1 6)
      · rw [if_neg fun z => by have := hc.mpr z.1; rw [hsb] at this; cases this] at ih
        clear hc
        simp (disch := first | assumption | omega | exact st8_a (Nat.le_of_ble_eq_true rfl)) only [s_277, eb_254_24, eb_254_25, eb_254_31, eb_254_32, kl_a, kl_d, kl_f, kl_i, kl_l, kl_n, kl_r, xr_1, xr_10, xr_174, xr_2, xr_27, xr_28, xr_3, xr_30, xr_31, xr_32, xr_33, xr_34, xr_35, xr_36, xr_37, xr_38, xr_4, xr_43, xr_44, xr_47, xr_5, xr_55, xr_56, xr_57, xr_58, xr_61, xr_62, xr_63, xr_65, xr_98, af_0, af_1, xt_goto, xt_ib, xt_ic, xt_ic_ge, xt_ic_le, xt_ic_lt, xt_ic_ne, xt_if_eq, xt_if_ne, xt_ir, xt_nop, mF_3 mh_Mo, mF_6 mh_Mo, mF_7 mh_Mo, mF_8 mh_Mo, mF_9 mh_Mo, mA_63 mh_Mo, mA_64 mh_Mo, mA_65 mh_Mo, mA_66 mh_Mo, mA_67 mh_Mo, mA_68 mh_Mo, mA_69 mh_Mo, mA_70 mh_Mo, mA_71 mh_Mo, xq_187_13_virtualm mh_Mo, xq_193_13_virtualm mh_Mo, xq_234_13_virtualm mh_Mo, xq_251_13_virtualm mh_Mo, xq_277_200_static, pF_0, pF_1, pF_2, pF_5, pF_6, pF_8, pF_12, pF_16, pF_17, pF_18, pF_22, pF_24, pF_19, pF_20, pF_21, pF_23, pN_19, pN_20, pN_21, pN_23, pA_63, pA_64, pA_65, pA_66, pA_67, pA_68, pA_69, pA_70, pA_71, iN_add, iN_mul, iN_sub, iN_and, iN_or, iN_clr, iN_shl, iN_shr, tb_r1, b1_z, b1_or, b1_and, b1_or0, b1_or1, b1_0or, b1_t, b1_f, iN_lt, iN_inj, reduceIte, if_true, if_false, Nat.zero_add, Nat.add_zero, Bool.false_eq_true, Bool.true_eq_false, Nat.lt_irrefl, iN_az, not_true_eq_false, not_false_eq_true, Nat.reduceEqDiff, Nat.reduceLT, Nat.reduceAdd, Nat.reduceMul, Nat.reduceSub]
        exact ih _ _ _ _
      · have h1 := hc.mp hsb
        by_cases h2 : rfo σ w < pc 10 w
        · have h2' : ¬ pc 10 w ≤ rfo σ w := by omega
          by_cases h3 : fun1 σ U w = 0
          · rw [if_pos ⟨h1, h2, Or.inl h3⟩] at ih
            clear hc
            rw [h3]
            simp (disch := first | assumption | omega | exact st8_a (Nat.le_of_ble_eq_true rfl)) only [s_277, h2, h2', eb_254_24, eb_254_25, eb_254_26, eb_254_27, eb_254_30, eb_254_32, kl_a, kl_d, kl_f, kl_i, kl_l, kl_n, kl_r, xr_1, xr_10, xr_174, xr_2, xr_27, xr_28, xr_3, xr_30, xr_31, xr_32, xr_33, xr_34, xr_35, xr_36, xr_37, xr_38, xr_4, xr_43, xr_44, xr_47, xr_5, xr_55, xr_56, xr_57, xr_58, xr_61, xr_62, xr_63, xr_65, xr_98, af_0, af_1, xt_goto, xt_ib, xt_ic, xt_ic_ge, xt_ic_le, xt_ic_lt, xt_ic_ne, xt_if_eq, xt_if_ne, xt_ir, xt_nop, mF_3 mh_Mo, mF_6 mh_Mo, mF_7 mh_Mo, mF_8 mh_Mo, mF_9 mh_Mo, mA_63 mh_Mo, mA_64 mh_Mo, mA_65 mh_Mo, mA_66 mh_Mo, mA_67 mh_Mo, mA_68 mh_Mo, mA_69 mh_Mo, mA_70 mh_Mo, mA_71 mh_Mo, xq_187_13_virtualm mh_Mo, xq_193_13_virtualm mh_Mo, xq_234_13_virtualm mh_Mo, xq_251_13_virtualm mh_Mo, xq_277_200_static, pF_0, pF_1, pF_2, pF_5, pF_6, pF_8, pF_12, pF_16, pF_17, pF_18, pF_22, pF_24, pF_19, pF_20, pF_21, pF_23, pN_19, pN_20, pN_21, pN_23, pA_63, pA_64, pA_65, pA_66, pA_67, pA_68, pA_69, pA_70, pA_71, iN_add, iN_mul, iN_sub, iN_and, iN_or, iN_clr, iN_shl, iN_shr, tb_r1, b1_z, b1_or, b1_and, b1_or0, b1_or1, b1_0or, b1_t, b1_f, iN_lt, iN_inj, reduceIte, if_true, if_false, Nat.zero_add, Nat.add_zero, Bool.false_eq_true, Bool.true_eq_false, Nat.lt_irrefl, iN_az, not_true_eq_false, not_false_eq_true, Nat.reduceEqDiff, Nat.reduceLT, Nat.reduceAdd, Nat.reduceMul, Nat.reduceSub]
            exact ih _ _ _ _
          · by_cases h4 : pc 10 w < pc 10 (fun1 σ U w)
            · rw [if_pos ⟨h1, h2, Or.inr h4⟩] at ih
              clear hc
              simp (disch := first | assumption | omega | exact st8_a (Nat.le_of_ble_eq_true rfl)) only [s_277, h2, h2', h3, h4, eb_254_24, eb_254_25, eb_254_26, eb_254_27, eb_254_28, eb_254_29, eb_254_30, eb_254_32, kl_a, kl_d, kl_f, kl_i, kl_l, kl_n, kl_r, xr_1, xr_10, xr_174, xr_2, xr_27, xr_28, xr_3, xr_30, xr_31, xr_32, xr_33, xr_34, xr_35, xr_36, xr_37, xr_38, xr_4, xr_43, xr_44, xr_47, xr_5, xr_55, xr_56, xr_57, xr_58, xr_61, xr_62, xr_63, xr_65, xr_98, af_0, af_1, xt_goto, xt_ib, xt_ic, xt_ic_ge, xt_ic_le, xt_ic_lt, xt_ic_ne, xt_if_eq, xt_if_ne, xt_ir, xt_nop, mF_3 mh_Mo, mF_6 mh_Mo, mF_7 mh_Mo, mF_8 mh_Mo, mF_9 mh_Mo, mA_63 mh_Mo, mA_64 mh_Mo, mA_65 mh_Mo, mA_66 mh_Mo, mA_67 mh_Mo, mA_68 mh_Mo, mA_69 mh_Mo, mA_70 mh_Mo, mA_71 mh_Mo, xq_187_13_virtualm mh_Mo, xq_193_13_virtualm mh_Mo, xq_234_13_virtualm mh_Mo, xq_251_13_virtualm mh_Mo, xq_277_200_static, pF_0, pF_1, pF_2, pF_5, pF_6, pF_8, pF_12, pF_16, pF_17, pF_18, pF_22, pF_24, pF_19, pF_20, pF_21, pF_23, pN_19, pN_20, pN_21, pN_23, pA_63, pA_64, pA_65, pA_66, pA_67, pA_68, pA_69, pA_70, pA_71, iN_add, iN_mul, iN_sub, iN_and, iN_or, iN_clr, iN_shl, iN_shr, tb_r1, b1_z, b1_or, b1_and, b1_or0, b1_or1, b1_0or, b1_t, b1_f, iN_lt, iN_inj, reduceIte, if_true, if_false, Nat.zero_add, Nat.add_zero, Bool.false_eq_true, Bool.true_eq_false, Nat.lt_irrefl, iN_az, not_true_eq_false, not_false_eq_true, Nat.reduceEqDiff, Nat.reduceLT, Nat.reduceAdd, Nat.reduceMul, Nat.reduceSub]
              exact ih _ _ _ _
            · rw [if_neg fun z => by omega] at ih
              clear hc
              simp (disch := first | assumption | omega | exact st8_a (Nat.le_of_ble_eq_true rfl)) only [s_277, h2, h2', h3, h4, eb_254_24, eb_254_25, eb_254_26, eb_254_27, eb_254_28, eb_254_29, eb_254_31, eb_254_32, kl_a, kl_d, kl_f, kl_i, kl_l, kl_n, kl_r, xr_1, xr_10, xr_174, xr_2, xr_27, xr_28, xr_3, xr_30, xr_31, xr_32, xr_33, xr_34, xr_35, xr_36, xr_37, xr_38, xr_4, xr_43, xr_44, xr_47, xr_5, xr_55, xr_56, xr_57, xr_58, xr_61, xr_62, xr_63, xr_65, xr_98, af_0, af_1, xt_goto, xt_ib, xt_ic, xt_ic_ge, xt_ic_le, xt_ic_lt, xt_ic_ne, xt_if_eq, xt_if_ne, xt_ir, xt_nop, mF_3 mh_Mo, mF_6 mh_Mo, mF_7 mh_Mo, mF_8 mh_Mo, mF_9 mh_Mo, mA_63 mh_Mo, mA_64 mh_Mo, mA_65 mh_Mo, mA_66 mh_Mo, mA_67 mh_Mo, mA_68 mh_Mo, mA_69 mh_Mo, mA_70 mh_Mo, mA_71 mh_Mo, xq_187_13_virtualm mh_Mo, xq_193_13_virtualm mh_Mo, xq_234_13_virtualm mh_Mo, xq_251_13_virtualm mh_Mo, xq_277_200_static, pF_0, pF_1, pF_2, pF_5, pF_6, pF_8, pF_12, pF_16, pF_17, pF_18, pF_22, pF_24, pF_19, pF_20, pF_21, pF_23, pN_19, pN_20, pN_21, pN_23, pA_63, pA_64, pA_65, pA_66, pA_67, pA_68, pA_69, pA_70, pA_71, iN_add, iN_mul, iN_sub, iN_and, iN_or, iN_clr, iN_shl, iN_shr, tb_r1, b1_z, b1_or, b1_and, b1_or0, b1_or1, b1_0or, b1_t, b1_f, iN_lt, iN_inj, reduceIte, if_true, if_false, Nat.zero_add, Nat.add_zero, Bool.false_eq_true, Bool.true_eq_false, Nat.lt_irrefl, iN_az, not_true_eq_false, not_false_eq_true, Nat.reduceEqDiff, Nat.reduceLT, Nat.reduceAdd, Nat.reduceMul, Nat.reduceSub]
              exact ih _ _ _ _
        · have h2' : pc 10 w ≤ rfo σ w := by omega
          rw [if_neg fun z => h2 z.2.1] at ih
          clear hc
          simp (disch := first | assumption | omega | exact st8_a (Nat.le_of_ble_eq_true rfl)) only [s_277, h2, h2', eb_254_24, eb_254_25, eb_254_26, eb_254_31, eb_254_32, kl_a, kl_d, kl_f, kl_i, kl_l, kl_n, kl_r, xr_1, xr_10, xr_174, xr_2, xr_27, xr_28, xr_3, xr_30, xr_31, xr_32, xr_33, xr_34, xr_35, xr_36, xr_37, xr_38, xr_4, xr_43, xr_44, xr_47, xr_5, xr_55, xr_56, xr_57, xr_58, xr_61, xr_62, xr_63, xr_65, xr_98, af_0, af_1, xt_goto, xt_ib, xt_ic, xt_ic_ge, xt_ic_le, xt_ic_lt, xt_ic_ne, xt_if_eq, xt_if_ne, xt_ir, xt_nop, mF_3 mh_Mo, mF_6 mh_Mo, mF_7 mh_Mo, mF_8 mh_Mo, mF_9 mh_Mo, mA_63 mh_Mo, mA_64 mh_Mo, mA_65 mh_Mo, mA_66 mh_Mo, mA_67 mh_Mo, mA_68 mh_Mo, mA_69 mh_Mo, mA_70 mh_Mo, mA_71 mh_Mo, xq_187_13_virtualm mh_Mo, xq_193_13_virtualm mh_Mo, xq_234_13_virtualm mh_Mo, xq_251_13_virtualm mh_Mo, xq_277_200_static, pF_0, pF_1, pF_2, pF_5, pF_6, pF_8, pF_12, pF_16, pF_17, pF_18, pF_22, pF_24, pF_19, pF_20, pF_21, pF_23, pN_19, pN_20, pN_21, pN_23, pA_63, pA_64, pA_65, pA_66, pA_67, pA_68, pA_69, pA_70, pA_71, iN_add, iN_mul, iN_sub, iN_and, iN_or, iN_clr, iN_shl, iN_shr, tb_r1, b1_z, b1_or, b1_and, b1_or0, b1_or1, b1_0or, b1_t, b1_f, iN_lt, iN_inj, reduceIte, if_true, if_false, Nat.zero_add, Nat.add_zero, Bool.false_eq_true, Bool.true_eq_false, Nat.lt_irrefl, iN_az, not_true_eq_false, not_false_eq_true, Nat.reduceEqDiff, Nat.reduceLT, Nat.reduceAdd, Nat.reduceMul, Nat.reduceSub]
          exact ih _ _ _ _
  have hp0 : 0 < 2 ^ (σ 1 6) := Nat.two_pow_pos _
  have e := k7 1 hp0 (.retAddr 9) (.retAddr 9) (.retAddr 9) (.retAddr 9)
  have h0 : fun1 σ U 1 = 0 := by
    rw [fun1, fun1]
    split <;> rfl
  rw [h0] at e
  rw [← e]
  clear e k7 k9 k19 isT
  simp (disch := first | assumption | omega | exact st8_a (Nat.le_of_ble_eq_true rfl)) only [m_193 O mh_Mo hu, decide_eq_true hy, en1, m_234r hν, uu, eb_254_0, eb_254_1, eb_254_2, eb_254_3, eb_254_4, eb_254_6, kl_a, kl_d, kl_f, kl_i, kl_l, kl_n, kl_r, xr_1, xr_10, xr_174, xr_2, xr_27, xr_28, xr_3, xr_30, xr_31, xr_32, xr_33, xr_34, xr_35, xr_36, xr_37, xr_38, xr_4, xr_43, xr_44, xr_47, xr_5, xr_55, xr_56, xr_57, xr_58, xr_61, xr_62, xr_63, xr_65, xr_98, af_0, af_1, xt_goto, xt_ib, xt_ic, xt_ic_ge, xt_ic_le, xt_ic_lt, xt_ic_ne, xt_if_eq, xt_if_ne, xt_ir, xt_nop, mF_3 mh_Mo, mF_6 mh_Mo, mF_7 mh_Mo, mF_8 mh_Mo, mF_9 mh_Mo, mA_63 mh_Mo, mA_64 mh_Mo, mA_65 mh_Mo, mA_66 mh_Mo, mA_67 mh_Mo, mA_68 mh_Mo, mA_69 mh_Mo, mA_70 mh_Mo, mA_71 mh_Mo, xq_187_13_virtualm mh_Mo, xq_193_13_virtualm mh_Mo, xq_234_13_virtualm mh_Mo, xq_251_13_virtualm mh_Mo, xq_277_200_static, pF_0, pF_1, pF_2, pF_5, pF_6, pF_8, pF_12, pF_16, pF_17, pF_18, pF_22, pF_24, pF_19, pF_20, pF_21, pF_23, pN_19, pN_20, pN_21, pN_23, pA_63, pA_64, pA_65, pA_66, pA_67, pA_68, pA_69, pA_70, pA_71, iN_add, iN_mul, iN_sub, iN_and, iN_or, iN_clr, iN_shl, iN_shr, tb_r1, b1_z, b1_or, b1_and, b1_or0, b1_or1, b1_0or, b1_t, b1_f, iN_lt, iN_inj, reduceIte, if_true, if_false, Nat.zero_add, Nat.add_zero, Bool.false_eq_true, Bool.true_eq_false, Nat.lt_irrefl, iN_az, not_true_eq_false, not_false_eq_true, Nat.reduceEqDiff, Nat.reduceLT, Nat.reduceAdd, Nat.reduceMul, Nat.reduceSub]
end Mdn
