/-! THE LAW: begin (the school is drawn, and given to the class) -/
set_option maxRecDepth 100000 in
theorem up_sw {M : Nat → Nat → Nat} {a b i j v w : Nat} (h : a ≠ b) : up (up M a i v) b j w = up (up M b j w) a i v := by
  funext c k
  unfold up u1
  by_cases h1 : c = a
  · by_cases h2 : c = b
    · exact absurd (h1.symm.trans h2) h
    · subst h1
      simp [h2]
  · by_cases h2 : c = b
    · subst h2
      simp [h1]
    · simp [h1, h2]
def hmv (v : Nat) : Nat := if v = 0 then 4294967295 else v - 1
set_option maxRecDepth 100000 in
theorem hmv_i (v : Nat) (h : v < 100) : nI v - nI 1 = nI (hmv v) := by
  unfold hmv
  by_cases h1 : v = 0
  · rw [if_pos h1, h1]
    decide
  · rw [if_neg h1, iN_sub (by omega)]
set_option maxRecDepth 100000 in
theorem rok_2 {σ : Nat → Nat → Nat} {k a b : Nat} (h : 2 ≤ k ∧ k ≤ 5) (ha : a < (σ 1 6)) (hb : b < (σ 1 6)) (hab : a ≠ b) : rok σ k a b = true := by
  unfold rok
  rw [if_neg (by omega), if_neg (by omega), if_neg (by omega), if_neg (by omega), decide_eq_true h.2, decide_eq_true ha, decide_eq_true hb, decide_eq_true hab]
  rfl
/-- what holds of the class's inside while the school grows -/
def BI (σ M : Nat → Nat → Nat) (c : Nat) : Prop := CIv σ M ∧ M 12 0 = 0 ∧ M 15 0 = 0 ∧ M 15 1 ≤ 6 ∧ M 1 8 ≤ c
def BS (σ : Nat → Nat → Nat) : Prop := (1 ≤ (σ 1 4) ∧ (σ 1 4) ≤ 3) ∧ (1 ≤ (σ 1 6) ∧ (σ 1 6) ≤ 4) ∧ (1 ≤ (σ 1 5) ∧ (σ 1 5) ≤ 3)
/-- what begin leaves -/
def BG (σ M : Nat → Nat → Nat) : Prop := Ok σ ∧ CIv σ M ∧ M 12 0 = 0 ∧ M 15 0 = 0 ∧ M 15 1 ≤ 6 ∧ BS σ ∧ (σ 1 7) ≤ 6
def BZ (xs : List Int32) (d k : Nat) (L : List Value) (h : ab_H) (N : Nat) (Ts : List (Option Nat)) (B : Nat → Nat) (Q : ab_H) : Prop := ∃ σ' M' ρ', BG σ' M' ∧ ev xs (d + 2) 293 k (L, [], h) = some (.inl none, hc σ' M' (LR ρ' σ' N Ts B Q))
section Pd
variable {xs : List Int32} {d : Nat} {σ σ2 M τ : Nat → Nat → Nat} {ρ : Int32} {N : Nat} {Ts : List (Option Nat)} {B : Nat → Nat} {Q : ab_H} {l o s r u v q t i n x p k c a b e : Nat} {w f : Nat → Nat} {h : ab_H}
set_option maxRecDepth 100000 in
theorem BI_n (h : BI σ M c) (hcc : c < 1000) : BI σ2 (nxc M) (c + 1) := by
  obtain ⟨h1, h2, h3, h4, h5⟩ := h
  exact ⟨CIv_n h1 (by omega) rfl rfl rfl rfl rfl rfl rfl, h2, h3, h4, Nat.succ_le_succ h5⟩
set_option maxRecDepth 100000 in
theorem BI_z (h : BI σ M c) (hcc : c < 1000) : BI σ2 (up (nxc M) 12 0 0) (c + 1) := by
  obtain ⟨h1, h2, h3, h4, h5⟩ := h
  exact ⟨CIv_n h1 (by omega) rfl rfl rfl rfl rfl rfl rfl, rfl, h3, h4, Nat.succ_le_succ h5⟩
-- the weights
set_option maxRecDepth 100000 in
theorem b_57 (O : Ok σ) (hI : BI σ M c) (hcc : c < 500) (hBS : BS σ) (hq : (σ 1 7) ≤ 6) {x3 : Int32} {y4 y5 y6 y7 y8 : Value} : BZ xs d 57 [.ref 0, .ref 63, .ref 62, .int x3, y4, y5, y6, y7, y8] (hc σ M (LR ρ σ N Ts B Q)) N Ts B Q := by
  obtain ⟨v0, ρ1, hv0, e1⟩ := p_292 (xs := xs) (d := d + 1) (σ := σ) (M := M) (τ := σ) (ρ := ρ) (N := N) (Ts := Ts) (B := B) (Q := Q) (k := 5) (by decide) (by decide)
  obtain ⟨v1, ρ2, hv1, e2⟩ := p_292 (xs := xs) (d := d + 1) (σ := σ) (M := M) (τ := up σ 11 0 v0) (ρ := ρ1) (N := N) (Ts := Ts) (B := B) (Q := Q) (k := 5) (by decide) (by decide)
  obtain ⟨v2, ρ3, hv2, e3⟩ := p_292 (xs := xs) (d := d + 1) (σ := σ) (M := M) (τ := up (up σ 11 0 v0) 11 1 v1) (ρ := ρ2) (N := N) (Ts := Ts) (B := B) (Q := Q) (k := 5) (by decide) (by decide)
  obtain ⟨τ', hτ⟩ : ∃ τ', up (up (up σ 11 0 v0) 11 1 v1) 11 2 v2 = τ' := ⟨_, rfl⟩
  have e4 := s_147 (xs := xs) (d := d + 1) (σ := σ) (M := M) (R := LR ρ3 τ' N Ts B Q) (a := v0) (b := v1) (c := v2) O (by omega) (by omega) (by omega)
  rw [if_neg (by omega)] at e4
  obtain ⟨h1, h2, h3, h4, h5⟩ := hI
  have t0 : τ' 11 0 = v0 := by rw [← hτ]; rfl
  have t1 : τ' 11 1 = v1 := by rw [← hτ]; rfl
  have t2 : τ' 11 2 = v2 := by rw [← hτ]; rfl
  rw [hτ] at e4
  have O2 := Ok_weights (p1 := v0) (p2 := v1) (p3 := v2) O ⟨by omega, by omega, by omega⟩
  have C2 := w_CI (p1 := v0) (p2 := v1) (p3 := v2) h1
  rw [hτ] at C2 O2
  have hz : τ' 1 = σ 1 := by rw [← hτ, up_n (by decide), up_n (by decide), up_n (by decide)]
  refine ⟨τ', M, ρ3, ⟨O2, C2, h2, h3, h4, by unfold BS; rw [hz]; exact hBS, by rw [hz]; exact hq⟩, ?_⟩
  have w0 := Ok_w O (i := 0) (by decide)
  clear O O2 C2 hz h1 h2 h3 h4 h5 hBS
  have g3 : ev xs (d + 2) 293 58 ([.ref 0, .ref 63, .ref 62, .int x3, .int (nI 3), y5, y6, y7, y8], [], hc σ M (LR ρ3 τ' N Ts B Q)) = some (.inl none, hc τ' M (LR ρ3 τ' N Ts B Q)) := by
    rw [eb_293_58]
    simp (disch := first | assumption | omega | exact st8_a (Nat.le_of_ble_eq_true rfl)) only [t0, t1, t2, e4, eb_293_61, eb_293_62, kl_a, kl_d, kl_f, kl_i, kl_l, kl_n, kl_r, xr_1, xr_10, xr_11, xr_12, xr_13, xr_14, xr_15, xr_16, xr_17, xr_18, xr_19, xr_2, xr_20, xr_228, xr_253, xr_27, xr_3, xr_32, xr_33, xr_34, xr_35, xr_36, xr_37, xr_38, xr_4, xr_40, xr_48, xr_5, xr_56, xr_57, xr_61, xr_62, xr_65, xr_66, xr_67, xr_71, xr_77, xr_8, xr_85, xr_86, xr_87, xr_9, xr_91, af_0, af_1, xt_goto, xt_ic_eq, xt_ic_ge, xt_ic_gt, xt_ic_lt, xt_ic_ne, xt_if_eq, xt_if_le, xt_if_ne, xt_nop, xt_re, lF_0, lF_1, lF_10, lF_11, lF_12, lF_13, lF_14, lF_15, lF_16, lF_2, lF_3, lF_4, lF_5, lF_6, lF_7, lF_8, lF_9, lA_64, lA_65, lA_66, lA_67, lA_68, lA_69, lA_70, lA_71, lA_72, lA_73, lA_75, lA_62, lW_64, lW_65, lW_66, lW_67, lW_68, lW_69, lW_70, lW_71, lW_72, lW_73, lW_75, lW_62, lP_0, lP_1, lP_12, lP_2, lP_4, lP_7, lP_8, xq_122_11_virtualc, xq_123_11_virtualc, xq_124_11_virtualc, xq_125_11_virtualc, xq_126_11_virtualc, xq_127_11_virtualc, xq_147_11_virtualc, xq_292_200_static, iN_add, iN_mul, iN_sub, iN_and, iN_or, iN_clr, iN_shl, iN_shr, tb_r1, b1_z, b1_or, b1_and, b1_or0, b1_or1, b1_0or, b1_t, b1_f, iN_lt, iN_inj, reduceIte, if_true, if_false, Nat.zero_add, Nat.add_zero, Bool.false_eq_true, Bool.true_eq_false, Nat.lt_irrefl, iN_az, not_true_eq_false, not_false_eq_true, Nat.reduceEqDiff, Nat.reduceLT, Nat.reduceAdd, Nat.reduceMul, Nat.reduceSub]
  have g2 : ev xs (d + 2) 293 58 ([.ref 0, .ref 63, .ref 62, .int x3, .int (nI 2), y5, y6, y7, y8], [], hc σ M (LR ρ2 (up (up σ 11 0 v0) 11 1 v1) N Ts B Q)) = some (.inl none, hc τ' M (LR ρ3 τ' N Ts B Q)) := by
    rw [eb_293_58]
    simp (disch := first | assumption | omega | exact st8_a (Nat.le_of_ble_eq_true rfl)) only [e3, hτ, eb_293_59, eb_293_60, kl_a, kl_d, kl_f, kl_i, kl_l, kl_n, kl_r, xr_1, xr_10, xr_11, xr_12, xr_13, xr_14, xr_15, xr_16, xr_17, xr_18, xr_19, xr_2, xr_20, xr_228, xr_253, xr_27, xr_3, xr_32, xr_33, xr_34, xr_35, xr_36, xr_37, xr_38, xr_4, xr_40, xr_48, xr_5, xr_56, xr_57, xr_61, xr_62, xr_65, xr_66, xr_67, xr_71, xr_77, xr_8, xr_85, xr_86, xr_87, xr_9, xr_91, af_0, af_1, xt_goto, xt_ic_eq, xt_ic_ge, xt_ic_gt, xt_ic_lt, xt_ic_ne, xt_if_eq, xt_if_le, xt_if_ne, xt_nop, xt_re, lF_0, lF_1, lF_10, lF_11, lF_12, lF_13, lF_14, lF_15, lF_16, lF_2, lF_3, lF_4, lF_5, lF_6, lF_7, lF_8, lF_9, lA_64, lA_65, lA_66, lA_67, lA_68, lA_69, lA_70, lA_71, lA_72, lA_73, lA_75, lA_62, lW_64, lW_65, lW_66, lW_67, lW_68, lW_69, lW_70, lW_71, lW_72, lW_73, lW_75, lW_62, lP_0, lP_1, lP_12, lP_2, lP_4, lP_7, lP_8, xq_122_11_virtualc, xq_123_11_virtualc, xq_124_11_virtualc, xq_125_11_virtualc, xq_126_11_virtualc, xq_127_11_virtualc, xq_147_11_virtualc, xq_292_200_static, iN_add, iN_mul, iN_sub, iN_and, iN_or, iN_clr, iN_shl, iN_shr, tb_r1, b1_z, b1_or, b1_and, b1_or0, b1_or1, b1_0or, b1_t, b1_f, iN_lt, iN_inj, reduceIte, if_true, if_false, Nat.zero_add, Nat.add_zero, Bool.false_eq_true, Bool.true_eq_false, Nat.lt_irrefl, iN_az, not_true_eq_false, not_false_eq_true, Nat.reduceEqDiff, Nat.reduceLT, Nat.reduceAdd, Nat.reduceMul, Nat.reduceSub]
    exact g3
  have g1 : ev xs (d + 2) 293 58 ([.ref 0, .ref 63, .ref 62, .int x3, .int (nI 1), y5, y6, y7, y8], [], hc σ M (LR ρ1 (up σ 11 0 v0) N Ts B Q)) = some (.inl none, hc τ' M (LR ρ3 τ' N Ts B Q)) := by
    rw [eb_293_58]
    simp (disch := first | assumption | omega | exact st8_a (Nat.le_of_ble_eq_true rfl)) only [e2, eb_293_59, eb_293_60, kl_a, kl_d, kl_f, kl_i, kl_l, kl_n, kl_r, xr_1, xr_10, xr_11, xr_12, xr_13, xr_14, xr_15, xr_16, xr_17, xr_18, xr_19, xr_2, xr_20, xr_228, xr_253, xr_27, xr_3, xr_32, xr_33, xr_34, xr_35, xr_36, xr_37, xr_38, xr_4, xr_40, xr_48, xr_5, xr_56, xr_57, xr_61, xr_62, xr_65, xr_66, xr_67, xr_71, xr_77, xr_8, xr_85, xr_86, xr_87, xr_9, xr_91, af_0, af_1, xt_goto, xt_ic_eq, xt_ic_ge, xt_ic_gt, xt_ic_lt, xt_ic_ne, xt_if_eq, xt_if_le, xt_if_ne, xt_nop, xt_re, lF_0, lF_1, lF_10, lF_11, lF_12, lF_13, lF_14, lF_15, lF_16, lF_2, lF_3, lF_4, lF_5, lF_6, lF_7, lF_8, lF_9, lA_64, lA_65, lA_66, lA_67, lA_68, lA_69, lA_70, lA_71, lA_72, lA_73, lA_75, lA_62, lW_64, lW_65, lW_66, lW_67, lW_68, lW_69, lW_70, lW_71, lW_72, lW_73, lW_75, lW_62, lP_0, lP_1, lP_12, lP_2, lP_4, lP_7, lP_8, xq_122_11_virtualc, xq_123_11_virtualc, xq_124_11_virtualc, xq_125_11_virtualc, xq_126_11_virtualc, xq_127_11_virtualc, xq_147_11_virtualc, xq_292_200_static, iN_add, iN_mul, iN_sub, iN_and, iN_or, iN_clr, iN_shl, iN_shr, tb_r1, b1_z, b1_or, b1_and, b1_or0, b1_or1, b1_0or, b1_t, b1_f, iN_lt, iN_inj, reduceIte, if_true, if_false, Nat.zero_add, Nat.add_zero, Bool.false_eq_true, Bool.true_eq_false, Nat.lt_irrefl, iN_az, not_true_eq_false, not_false_eq_true, Nat.reduceEqDiff, Nat.reduceLT, Nat.reduceAdd, Nat.reduceMul, Nat.reduceSub]
    exact g2
  have g0 : ev xs (d + 2) 293 58 ([.ref 0, .ref 63, .ref 62, .int x3, .int (nI 0), y5, y6, y7, y8], [], hc σ M (LR ρ σ N Ts B Q)) = some (.inl none, hc τ' M (LR ρ3 τ' N Ts B Q)) := by
    rw [eb_293_58]
    simp (disch := first | assumption | omega | exact st8_a (Nat.le_of_ble_eq_true rfl)) only [e1, eb_293_59, eb_293_60, kl_a, kl_d, kl_f, kl_i, kl_l, kl_n, kl_r, xr_1, xr_10, xr_11, xr_12, xr_13, xr_14, xr_15, xr_16, xr_17, xr_18, xr_19, xr_2, xr_20, xr_228, xr_253, xr_27, xr_3, xr_32, xr_33, xr_34, xr_35, xr_36, xr_37, xr_38, xr_4, xr_40, xr_48, xr_5, xr_56, xr_57, xr_61, xr_62, xr_65, xr_66, xr_67, xr_71, xr_77, xr_8, xr_85, xr_86, xr_87, xr_9, xr_91, af_0, af_1, xt_goto, xt_ic_eq, xt_ic_ge, xt_ic_gt, xt_ic_lt, xt_ic_ne, xt_if_eq, xt_if_le, xt_if_ne, xt_nop, xt_re, lF_0, lF_1, lF_10, lF_11, lF_12, lF_13, lF_14, lF_15, lF_16, lF_2, lF_3, lF_4, lF_5, lF_6, lF_7, lF_8, lF_9, lA_64, lA_65, lA_66, lA_67, lA_68, lA_69, lA_70, lA_71, lA_72, lA_73, lA_75, lA_62, lW_64, lW_65, lW_66, lW_67, lW_68, lW_69, lW_70, lW_71, lW_72, lW_73, lW_75, lW_62, lP_0, lP_1, lP_12, lP_2, lP_4, lP_7, lP_8, xq_122_11_virtualc, xq_123_11_virtualc, xq_124_11_virtualc, xq_125_11_virtualc, xq_126_11_virtualc, xq_127_11_virtualc, xq_147_11_virtualc, xq_292_200_static, iN_add, iN_mul, iN_sub, iN_and, iN_or, iN_clr, iN_shl, iN_shr, tb_r1, b1_z, b1_or, b1_and, b1_or0, b1_or1, b1_0or, b1_t, b1_f, iN_lt, iN_inj, reduceIte, if_true, if_false, Nat.zero_add, Nat.add_zero, Bool.false_eq_true, Bool.true_eq_false, Nat.lt_irrefl, iN_az, not_true_eq_false, not_false_eq_true, Nat.reduceEqDiff, Nat.reduceLT, Nat.reduceAdd, Nat.reduceMul, Nat.reduceSub]
    exact g1
  simp (disch := first | assumption | omega | exact st8_a (Nat.le_of_ble_eq_true rfl)) only [eb_293_57, kl_a, kl_d, kl_f, kl_i, kl_l, kl_n, kl_r, xr_1, xr_10, xr_11, xr_12, xr_13, xr_14, xr_15, xr_16, xr_17, xr_18, xr_19, xr_2, xr_20, xr_228, xr_253, xr_27, xr_3, xr_32, xr_33, xr_34, xr_35, xr_36, xr_37, xr_38, xr_4, xr_40, xr_48, xr_5, xr_56, xr_57, xr_61, xr_62, xr_65, xr_66, xr_67, xr_71, xr_77, xr_8, xr_85, xr_86, xr_87, xr_9, xr_91, af_0, af_1, xt_goto, xt_ic_eq, xt_ic_ge, xt_ic_gt, xt_ic_lt, xt_ic_ne, xt_if_eq, xt_if_le, xt_if_ne, xt_nop, xt_re, lF_0, lF_1, lF_10, lF_11, lF_12, lF_13, lF_14, lF_15, lF_16, lF_2, lF_3, lF_4, lF_5, lF_6, lF_7, lF_8, lF_9, lA_64, lA_65, lA_66, lA_67, lA_68, lA_69, lA_70, lA_71, lA_72, lA_73, lA_75, lA_62, lW_64, lW_65, lW_66, lW_67, lW_68, lW_69, lW_70, lW_71, lW_72, lW_73, lW_75, lW_62, lP_0, lP_1, lP_12, lP_2, lP_4, lP_7, lP_8, xq_122_11_virtualc, xq_123_11_virtualc, xq_124_11_virtualc, xq_125_11_virtualc, xq_126_11_virtualc, xq_127_11_virtualc, xq_147_11_virtualc, xq_292_200_static, iN_add, iN_mul, iN_sub, iN_and, iN_or, iN_clr, iN_shl, iN_shr, tb_r1, b1_z, b1_or, b1_and, b1_or0, b1_or1, b1_0or, b1_t, b1_f, iN_lt, iN_inj, reduceIte, if_true, if_false, Nat.zero_add, Nat.add_zero, Bool.false_eq_true, Bool.true_eq_false, Nat.lt_irrefl, iN_az, not_true_eq_false, not_false_eq_true, Nat.reduceEqDiff, Nat.reduceLT, Nat.reduceAdd, Nat.reduceMul, Nat.reduceSub]
  exact g0
-- a rule's two numbers
set_option maxRecDepth 100000 in
theorem b_36 (hBS : BS σ) (hv : v < 8) {x4 : Int32} {y3 y5 y6 y7 y8 : Value} : ∃ a ρ', a < (if v = 1 ∨ v = 7 then (σ 1 4) else (σ 1 6)) ∧ ev xs (d + 2) 293 36 ([.ref 0, .ref 63, .ref 62, y3, .int x4, y5, y6, y7, y8], [.int (nI v)], hc σ M (LR ρ σ N Ts B Q)) = ev xs (d + 2) 293 41 ([.ref 0, .ref 63, .ref 62, y3, .int x4, .int (nI v), y6, y7, y8], [.int (nI a)], hc σ M (LR ρ' σ N Ts B Q)) := by
  obtain ⟨⟨h1, h2⟩, ⟨h3, h4⟩, h5, h6⟩ := hBS
  by_cases g1 : v = 1
  · obtain ⟨a, ρ', ha, e⟩ := p_292 (xs := xs) (d := d + 1) (σ := σ) (M := M) (τ := σ) (ρ := ρ) (N := N) (Ts := Ts) (B := B) (Q := Q) (k := (σ 1 4)) (by omega) (by omega)
    refine ⟨a, ρ', by rw [if_pos (.inl g1)]; exact ha, ?_⟩
    simp (disch := first | assumption | omega | exact st8_a (Nat.le_of_ble_eq_true rfl)) only [eq_true g1, e, eb_293_36, eb_293_38, eb_293_40, kl_a, kl_d, kl_f, kl_i, kl_l, kl_n, kl_r, xr_1, xr_10, xr_11, xr_12, xr_13, xr_14, xr_15, xr_16, xr_17, xr_18, xr_19, xr_2, xr_20, xr_228, xr_253, xr_27, xr_3, xr_32, xr_33, xr_34, xr_35, xr_36, xr_37, xr_38, xr_4, xr_40, xr_48, xr_5, xr_56, xr_57, xr_61, xr_62, xr_65, xr_66, xr_67, xr_71, xr_77, xr_8, xr_85, xr_86, xr_87, xr_9, xr_91, af_0, af_1, xt_goto, xt_ic_eq, xt_ic_ge, xt_ic_gt, xt_ic_lt, xt_ic_ne, xt_if_eq, xt_if_le, xt_if_ne, xt_nop, xt_re, lF_0, lF_1, lF_10, lF_11, lF_12, lF_13, lF_14, lF_15, lF_16, lF_2, lF_3, lF_4, lF_5, lF_6, lF_7, lF_8, lF_9, lA_64, lA_65, lA_66, lA_67, lA_68, lA_69, lA_70, lA_71, lA_72, lA_73, lA_75, lA_62, lW_64, lW_65, lW_66, lW_67, lW_68, lW_69, lW_70, lW_71, lW_72, lW_73, lW_75, lW_62, lP_0, lP_1, lP_12, lP_2, lP_4, lP_7, lP_8, xq_122_11_virtualc, xq_123_11_virtualc, xq_124_11_virtualc, xq_125_11_virtualc, xq_126_11_virtualc, xq_127_11_virtualc, xq_147_11_virtualc, xq_292_200_static, iN_add, iN_mul, iN_sub, iN_and, iN_or, iN_clr, iN_shl, iN_shr, tb_r1, b1_z, b1_or, b1_and, b1_or0, b1_or1, b1_0or, b1_t, b1_f, iN_lt, iN_inj, reduceIte, if_true, if_false, Nat.zero_add, Nat.add_zero, Bool.false_eq_true, Bool.true_eq_false, Nat.lt_irrefl, iN_az, not_true_eq_false, not_false_eq_true, Nat.reduceEqDiff, Nat.reduceLT, Nat.reduceAdd, Nat.reduceMul, Nat.reduceSub] <;> rfl
  · by_cases g7 : v = 7
    · obtain ⟨a, ρ', ha, e⟩ := p_292 (xs := xs) (d := d + 1) (σ := σ) (M := M) (τ := σ) (ρ := ρ) (N := N) (Ts := Ts) (B := B) (Q := Q) (k := (σ 1 4)) (by omega) (by omega)
      refine ⟨a, ρ', by rw [if_pos (.inr g7)]; exact ha, ?_⟩
      simp (disch := first | assumption | omega | exact st8_a (Nat.le_of_ble_eq_true rfl)) only [g1, eq_true g7, e, eb_293_36, eb_293_37, eb_293_38, eb_293_40, kl_a, kl_d, kl_f, kl_i, kl_l, kl_n, kl_r, xr_1, xr_10, xr_11, xr_12, xr_13, xr_14, xr_15, xr_16, xr_17, xr_18, xr_19, xr_2, xr_20, xr_228, xr_253, xr_27, xr_3, xr_32, xr_33, xr_34, xr_35, xr_36, xr_37, xr_38, xr_4, xr_40, xr_48, xr_5, xr_56, xr_57, xr_61, xr_62, xr_65, xr_66, xr_67, xr_71, xr_77, xr_8, xr_85, xr_86, xr_87, xr_9, xr_91, af_0, af_1, xt_goto, xt_ic_eq, xt_ic_ge, xt_ic_gt, xt_ic_lt, xt_ic_ne, xt_if_eq, xt_if_le, xt_if_ne, xt_nop, xt_re, lF_0, lF_1, lF_10, lF_11, lF_12, lF_13, lF_14, lF_15, lF_16, lF_2, lF_3, lF_4, lF_5, lF_6, lF_7, lF_8, lF_9, lA_64, lA_65, lA_66, lA_67, lA_68, lA_69, lA_70, lA_71, lA_72, lA_73, lA_75, lA_62, lW_64, lW_65, lW_66, lW_67, lW_68, lW_69, lW_70, lW_71, lW_72, lW_73, lW_75, lW_62, lP_0, lP_1, lP_12, lP_2, lP_4, lP_7, lP_8, xq_122_11_virtualc, xq_123_11_virtualc, xq_124_11_virtualc, xq_125_11_virtualc, xq_126_11_virtualc, xq_127_11_virtualc, xq_147_11_virtualc, xq_292_200_static, iN_add, iN_mul, iN_sub, iN_and, iN_or, iN_clr, iN_shl, iN_shr, tb_r1, b1_z, b1_or, b1_and, b1_or0, b1_or1, b1_0or, b1_t, b1_f, iN_lt, iN_inj, reduceIte, if_true, if_false, Nat.zero_add, Nat.add_zero, Bool.false_eq_true, Bool.true_eq_false, Nat.lt_irrefl, iN_az, not_true_eq_false, not_false_eq_true, Nat.reduceEqDiff, Nat.reduceLT, Nat.reduceAdd, Nat.reduceMul, Nat.reduceSub] <;> rfl
    · obtain ⟨a, ρ', ha, e⟩ := p_292 (xs := xs) (d := d + 1) (σ := σ) (M := M) (τ := σ) (ρ := ρ) (N := N) (Ts := Ts) (B := B) (Q := Q) (k := (σ 1 6)) (by omega) (by omega)
      refine ⟨a, ρ', by rw [if_neg (by omega)]; exact ha, ?_⟩
      simp (disch := first | assumption | omega | exact st8_a (Nat.le_of_ble_eq_true rfl)) only [g1, g7, e, eb_293_36, eb_293_37, eb_293_39, eb_293_40, kl_a, kl_d, kl_f, kl_i, kl_l, kl_n, kl_r, xr_1, xr_10, xr_11, xr_12, xr_13, xr_14, xr_15, xr_16, xr_17, xr_18, xr_19, xr_2, xr_20, xr_228, xr_253, xr_27, xr_3, xr_32, xr_33, xr_34, xr_35, xr_36, xr_37, xr_38, xr_4, xr_40, xr_48, xr_5, xr_56, xr_57, xr_61, xr_62, xr_65, xr_66, xr_67, xr_71, xr_77, xr_8, xr_85, xr_86, xr_87, xr_9, xr_91, af_0, af_1, xt_goto, xt_ic_eq, xt_ic_ge, xt_ic_gt, xt_ic_lt, xt_ic_ne, xt_if_eq, xt_if_le, xt_if_ne, xt_nop, xt_re, lF_0, lF_1, lF_10, lF_11, lF_12, lF_13, lF_14, lF_15, lF_16, lF_2, lF_3, lF_4, lF_5, lF_6, lF_7, lF_8, lF_9, lA_64, lA_65, lA_66, lA_67, lA_68, lA_69, lA_70, lA_71, lA_72, lA_73, lA_75, lA_62, lW_64, lW_65, lW_66, lW_67, lW_68, lW_69, lW_70, lW_71, lW_72, lW_73, lW_75, lW_62, lP_0, lP_1, lP_12, lP_2, lP_4, lP_7, lP_8, xq_122_11_virtualc, xq_123_11_virtualc, xq_124_11_virtualc, xq_125_11_virtualc, xq_126_11_virtualc, xq_127_11_virtualc, xq_147_11_virtualc, xq_292_200_static, iN_add, iN_mul, iN_sub, iN_and, iN_or, iN_clr, iN_shl, iN_shr, tb_r1, b1_z, b1_or, b1_and, b1_or0, b1_or1, b1_0or, b1_t, b1_f, iN_lt, iN_inj, reduceIte, if_true, if_false, Nat.zero_add, Nat.add_zero, Bool.false_eq_true, Bool.true_eq_false, Nat.lt_irrefl, iN_az, not_true_eq_false, not_false_eq_true, Nat.reduceEqDiff, Nat.reduceLT, Nat.reduceAdd, Nat.reduceMul, Nat.reduceSub] <;> rfl
set_option maxRecDepth 100000 in
theorem b_41 (O : Ok σ) (hBS : BS σ) (hv : v < 8) {y4 y6 y7 y8 : Value} {x : Int32} : ∃ b ρ', b < (if v = 0 ∨ v = 7 then (σ 1 2) else if v = 1 then 4 else if v = 6 then (σ 1 5) else (σ 1 6)) ∧ ev xs (d + 2) 293 41 ([.ref 0, .ref 63, .ref 62, .int (nI (σ 1 2)), y4, .int (nI v), y6, y7, y8], [.int x], hc σ M (LR ρ σ N Ts B Q)) = ev xs (d + 2) 293 50 ([.ref 0, .ref 63, .ref 62, .int (nI (σ 1 2)), y4, .int (nI v), .int x, y7, y8], [.int (nI b)], hc σ M (LR ρ' σ N Ts B Q)) := by
  obtain ⟨hD1, hD2, hH1, hH2, hS, hC, hT, hR, hL, hQ⟩ := Ok_b O
  obtain ⟨⟨h1, h2⟩, ⟨h3, h4⟩, h5, h6⟩ := hBS
  by_cases g0 : v = 0
  · obtain ⟨b, ρ', hb, e⟩ := p_292 (xs := xs) (d := d + 1) (σ := σ) (M := M) (τ := σ) (ρ := ρ) (N := N) (Ts := Ts) (B := B) (Q := Q) (k := (σ 1 2)) (by omega) (by omega)
    refine ⟨b, ρ', by rw [if_pos (.inl g0)]; exact hb, ?_⟩
    simp (disch := first | assumption | omega | exact st8_a (Nat.le_of_ble_eq_true rfl)) only [eq_true g0, e, eb_293_41, eb_293_43, eb_293_49, kl_a, kl_d, kl_f, kl_i, kl_l, kl_n, kl_r, xr_1, xr_10, xr_11, xr_12, xr_13, xr_14, xr_15, xr_16, xr_17, xr_18, xr_19, xr_2, xr_20, xr_228, xr_253, xr_27, xr_3, xr_32, xr_33, xr_34, xr_35, xr_36, xr_37, xr_38, xr_4, xr_40, xr_48, xr_5, xr_56, xr_57, xr_61, xr_62, xr_65, xr_66, xr_67, xr_71, xr_77, xr_8, xr_85, xr_86, xr_87, xr_9, xr_91, af_0, af_1, xt_goto, xt_ic_eq, xt_ic_ge, xt_ic_gt, xt_ic_lt, xt_ic_ne, xt_if_eq, xt_if_le, xt_if_ne, xt_nop, xt_re, lF_0, lF_1, lF_10, lF_11, lF_12, lF_13, lF_14, lF_15, lF_16, lF_2, lF_3, lF_4, lF_5, lF_6, lF_7, lF_8, lF_9, lA_64, lA_65, lA_66, lA_67, lA_68, lA_69, lA_70, lA_71, lA_72, lA_73, lA_75, lA_62, lW_64, lW_65, lW_66, lW_67, lW_68, lW_69, lW_70, lW_71, lW_72, lW_73, lW_75, lW_62, lP_0, lP_1, lP_12, lP_2, lP_4, lP_7, lP_8, xq_122_11_virtualc, xq_123_11_virtualc, xq_124_11_virtualc, xq_125_11_virtualc, xq_126_11_virtualc, xq_127_11_virtualc, xq_147_11_virtualc, xq_292_200_static, iN_add, iN_mul, iN_sub, iN_and, iN_or, iN_clr, iN_shl, iN_shr, tb_r1, b1_z, b1_or, b1_and, b1_or0, b1_or1, b1_0or, b1_t, b1_f, iN_lt, iN_inj, reduceIte, if_true, if_false, Nat.zero_add, Nat.add_zero, Bool.false_eq_true, Bool.true_eq_false, Nat.lt_irrefl, iN_az, not_true_eq_false, not_false_eq_true, Nat.reduceEqDiff, Nat.reduceLT, Nat.reduceAdd, Nat.reduceMul, Nat.reduceSub] <;> rfl
  · by_cases g7 : v = 7
    · obtain ⟨b, ρ', hb, e⟩ := p_292 (xs := xs) (d := d + 1) (σ := σ) (M := M) (τ := σ) (ρ := ρ) (N := N) (Ts := Ts) (B := B) (Q := Q) (k := (σ 1 2)) (by omega) (by omega)
      refine ⟨b, ρ', by rw [if_pos (.inr g7)]; exact hb, ?_⟩
      simp (disch := first | assumption | omega | exact st8_a (Nat.le_of_ble_eq_true rfl)) only [g0, eq_true g7, e, eb_293_41, eb_293_42, eb_293_43, eb_293_49, kl_a, kl_d, kl_f, kl_i, kl_l, kl_n, kl_r, xr_1, xr_10, xr_11, xr_12, xr_13, xr_14, xr_15, xr_16, xr_17, xr_18, xr_19, xr_2, xr_20, xr_228, xr_253, xr_27, xr_3, xr_32, xr_33, xr_34, xr_35, xr_36, xr_37, xr_38, xr_4, xr_40, xr_48, xr_5, xr_56, xr_57, xr_61, xr_62, xr_65, xr_66, xr_67, xr_71, xr_77, xr_8, xr_85, xr_86, xr_87, xr_9, xr_91, af_0, af_1, xt_goto, xt_ic_eq, xt_ic_ge, xt_ic_gt, xt_ic_lt, xt_ic_ne, xt_if_eq, xt_if_le, xt_if_ne, xt_nop, xt_re, lF_0, lF_1, lF_10, lF_11, lF_12, lF_13, lF_14, lF_15, lF_16, lF_2, lF_3, lF_4, lF_5, lF_6, lF_7, lF_8, lF_9, lA_64, lA_65, lA_66, lA_67, lA_68, lA_69, lA_70, lA_71, lA_72, lA_73, lA_75, lA_62, lW_64, lW_65, lW_66, lW_67, lW_68, lW_69, lW_70, lW_71, lW_72, lW_73, lW_75, lW_62, lP_0, lP_1, lP_12, lP_2, lP_4, lP_7, lP_8, xq_122_11_virtualc, xq_123_11_virtualc, xq_124_11_virtualc, xq_125_11_virtualc, xq_126_11_virtualc, xq_127_11_virtualc, xq_147_11_virtualc, xq_292_200_static, iN_add, iN_mul, iN_sub, iN_and, iN_or, iN_clr, iN_shl, iN_shr, tb_r1, b1_z, b1_or, b1_and, b1_or0, b1_or1, b1_0or, b1_t, b1_f, iN_lt, iN_inj, reduceIte, if_true, if_false, Nat.zero_add, Nat.add_zero, Bool.false_eq_true, Bool.true_eq_false, Nat.lt_irrefl, iN_az, not_true_eq_false, not_false_eq_true, Nat.reduceEqDiff, Nat.reduceLT, Nat.reduceAdd, Nat.reduceMul, Nat.reduceSub] <;> rfl
    · by_cases g1 : v = 1
      · obtain ⟨b, ρ', hb, e⟩ := p_292 (xs := xs) (d := d + 1) (σ := σ) (M := M) (τ := σ) (ρ := ρ) (N := N) (Ts := Ts) (B := B) (Q := Q) (k := 4) (by decide) (by decide)
        refine ⟨b, ρ', by rw [if_neg (by omega), if_pos g1]; exact hb, ?_⟩
        simp (disch := first | assumption | omega | exact st8_a (Nat.le_of_ble_eq_true rfl)) only [g0, g7, eq_true g1, e, eb_293_41, eb_293_42, eb_293_44, eb_293_45, eb_293_49, kl_a, kl_d, kl_f, kl_i, kl_l, kl_n, kl_r, xr_1, xr_10, xr_11, xr_12, xr_13, xr_14, xr_15, xr_16, xr_17, xr_18, xr_19, xr_2, xr_20, xr_228, xr_253, xr_27, xr_3, xr_32, xr_33, xr_34, xr_35, xr_36, xr_37, xr_38, xr_4, xr_40, xr_48, xr_5, xr_56, xr_57, xr_61, xr_62, xr_65, xr_66, xr_67, xr_71, xr_77, xr_8, xr_85, xr_86, xr_87, xr_9, xr_91, af_0, af_1, xt_goto, xt_ic_eq, xt_ic_ge, xt_ic_gt, xt_ic_lt, xt_ic_ne, xt_if_eq, xt_if_le, xt_if_ne, xt_nop, xt_re, lF_0, lF_1, lF_10, lF_11, lF_12, lF_13, lF_14, lF_15, lF_16, lF_2, lF_3, lF_4, lF_5, lF_6, lF_7, lF_8, lF_9, lA_64, lA_65, lA_66, lA_67, lA_68, lA_69, lA_70, lA_71, lA_72, lA_73, lA_75, lA_62, lW_64, lW_65, lW_66, lW_67, lW_68, lW_69, lW_70, lW_71, lW_72, lW_73, lW_75, lW_62, lP_0, lP_1, lP_12, lP_2, lP_4, lP_7, lP_8, xq_122_11_virtualc, xq_123_11_virtualc, xq_124_11_virtualc, xq_125_11_virtualc, xq_126_11_virtualc, xq_127_11_virtualc, xq_147_11_virtualc, xq_292_200_static, iN_add, iN_mul, iN_sub, iN_and, iN_or, iN_clr, iN_shl, iN_shr, tb_r1, b1_z, b1_or, b1_and, b1_or0, b1_or1, b1_0or, b1_t, b1_f, iN_lt, iN_inj, reduceIte, if_true, if_false, Nat.zero_add, Nat.add_zero, Bool.false_eq_true, Bool.true_eq_false, Nat.lt_irrefl, iN_az, not_true_eq_false, not_false_eq_true, Nat.reduceEqDiff, Nat.reduceLT, Nat.reduceAdd, Nat.reduceMul, Nat.reduceSub] <;> rfl
      · by_cases g6 : v = 6
        · obtain ⟨b, ρ', hb, e⟩ := p_292 (xs := xs) (d := d + 1) (σ := σ) (M := M) (τ := σ) (ρ := ρ) (N := N) (Ts := Ts) (B := B) (Q := Q) (k := (σ 1 5)) (by omega) (by omega)
          refine ⟨b, ρ', by rw [if_neg (by omega), if_neg g1, if_pos g6]; exact hb, ?_⟩
          simp (disch := first | assumption | omega | exact st8_a (Nat.le_of_ble_eq_true rfl)) only [g0, g7, g1, eq_true g6, e, eb_293_41, eb_293_42, eb_293_44, eb_293_46, eb_293_47, eb_293_49, kl_a, kl_d, kl_f, kl_i, kl_l, kl_n, kl_r, xr_1, xr_10, xr_11, xr_12, xr_13, xr_14, xr_15, xr_16, xr_17, xr_18, xr_19, xr_2, xr_20, xr_228, xr_253, xr_27, xr_3, xr_32, xr_33, xr_34, xr_35, xr_36, xr_37, xr_38, xr_4, xr_40, xr_48, xr_5, xr_56, xr_57, xr_61, xr_62, xr_65, xr_66, xr_67, xr_71, xr_77, xr_8, xr_85, xr_86, xr_87, xr_9, xr_91, af_0, af_1, xt_goto, xt_ic_eq, xt_ic_ge, xt_ic_gt, xt_ic_lt, xt_ic_ne, xt_if_eq, xt_if_le, xt_if_ne, xt_nop, xt_re, lF_0, lF_1, lF_10, lF_11, lF_12, lF_13, lF_14, lF_15, lF_16, lF_2, lF_3, lF_4, lF_5, lF_6, lF_7, lF_8, lF_9, lA_64, lA_65, lA_66, lA_67, lA_68, lA_69, lA_70, lA_71, lA_72, lA_73, lA_75, lA_62, lW_64, lW_65, lW_66, lW_67, lW_68, lW_69, lW_70, lW_71, lW_72, lW_73, lW_75, lW_62, lP_0, lP_1, lP_12, lP_2, lP_4, lP_7, lP_8, xq_122_11_virtualc, xq_123_11_virtualc, xq_124_11_virtualc, xq_125_11_virtualc, xq_126_11_virtualc, xq_127_11_virtualc, xq_147_11_virtualc, xq_292_200_static, iN_add, iN_mul, iN_sub, iN_and, iN_or, iN_clr, iN_shl, iN_shr, tb_r1, b1_z, b1_or, b1_and, b1_or0, b1_or1, b1_0or, b1_t, b1_f, iN_lt, iN_inj, reduceIte, if_true, if_false, Nat.zero_add, Nat.add_zero, Bool.false_eq_true, Bool.true_eq_false, Nat.lt_irrefl, iN_az, not_true_eq_false, not_false_eq_true, Nat.reduceEqDiff, Nat.reduceLT, Nat.reduceAdd, Nat.reduceMul, Nat.reduceSub] <;> rfl
        · obtain ⟨b, ρ', hb, e⟩ := p_292 (xs := xs) (d := d + 1) (σ := σ) (M := M) (τ := σ) (ρ := ρ) (N := N) (Ts := Ts) (B := B) (Q := Q) (k := (σ 1 6)) (by omega) (by omega)
          refine ⟨b, ρ', by rw [if_neg (by omega), if_neg g1, if_neg g6]; exact hb, ?_⟩
          simp (disch := first | assumption | omega | exact st8_a (Nat.le_of_ble_eq_true rfl)) only [g0, g7, g1, g6, e, eb_293_41, eb_293_42, eb_293_44, eb_293_46, eb_293_48, eb_293_49, kl_a, kl_d, kl_f, kl_i, kl_l, kl_n, kl_r, xr_1, xr_10, xr_11, xr_12, xr_13, xr_14, xr_15, xr_16, xr_17, xr_18, xr_19, xr_2, xr_20, xr_228, xr_253, xr_27, xr_3, xr_32, xr_33, xr_34, xr_35, xr_36, xr_37, xr_38, xr_4, xr_40, xr_48, xr_5, xr_56, xr_57, xr_61, xr_62, xr_65, xr_66, xr_67, xr_71, xr_77, xr_8, xr_85, xr_86, xr_87, xr_9, xr_91, af_0, af_1, xt_goto, xt_ic_eq, xt_ic_ge, xt_ic_gt, xt_ic_lt, xt_ic_ne, xt_if_eq, xt_if_le, xt_if_ne, xt_nop, xt_re, lF_0, lF_1, lF_10, lF_11, lF_12, lF_13, lF_14, lF_15, lF_16, lF_2, lF_3, lF_4, lF_5, lF_6, lF_7, lF_8, lF_9, lA_64, lA_65, lA_66, lA_67, lA_68, lA_69, lA_70, lA_71, lA_72, lA_73, lA_75, lA_62, lW_64, lW_65, lW_66, lW_67, lW_68, lW_69, lW_70, lW_71, lW_72, lW_73, lW_75, lW_62, lP_0, lP_1, lP_12, lP_2, lP_4, lP_7, lP_8, xq_122_11_virtualc, xq_123_11_virtualc, xq_124_11_virtualc, xq_125_11_virtualc, xq_126_11_virtualc, xq_127_11_virtualc, xq_147_11_virtualc, xq_292_200_static, iN_add, iN_mul, iN_sub, iN_and, iN_or, iN_clr, iN_shl, iN_shr, tb_r1, b1_z, b1_or, b1_and, b1_or0, b1_or1, b1_0or, b1_t, b1_f, iN_lt, iN_inj, reduceIte, if_true, if_false, Nat.zero_add, Nat.add_zero, Bool.false_eq_true, Bool.true_eq_false, Nat.lt_irrefl, iN_az, not_true_eq_false, not_false_eq_true, Nat.reduceEqDiff, Nat.reduceLT, Nat.reduceAdd, Nat.reduceMul, Nat.reduceSub] <;> rfl
set_option maxRecDepth 100000 in
theorem rok_ab (hv : v < 8) (ha : a < (if v = 1 ∨ v = 7 then (σ 1 4) else (σ 1 6))) (hb : b < (if v = 0 ∨ v = 7 then (σ 1 2) else if v = 1 then 4 else if v = 6 then (σ 1 5) else (σ 1 6))) (hab : ¬ (2 ≤ v ∧ v ≤ 5 ∧ a = b)) : rok σ v a b = true := by
  unfold rok
  have : v = 0 ∨ v = 1 ∨ v = 2 ∨ v = 3 ∨ v = 4 ∨ v = 5 ∨ v = 6 ∨ v = 7 := by omega
  rcases this with rfl | rfl | rfl | rfl | rfl | rfl | rfl | rfl <;> simp at ha hb hab ⊢ <;> omega
-- the rules
set_option maxRecDepth 100000 in
theorem b_34 : ∀ (j : Nat) (σ M : Nat → Nat → Nat) (ρ : Int32) (c : Nat) (y5 y6 y7 y8 : Value), Ok σ → BI σ M c → c + j < 400 → BS σ → (σ 1 7) + j ≤ 6 → BZ xs d 34 [.ref 0, .ref 63, .ref 62, .int (nI (σ 1 2)), .int (nI j), y5, y6, y7, y8] (hc σ M (LR ρ σ N Ts B Q)) N Ts B Q := by
  intro j
  induction j with
  | zero =>
    intro σ M ρ c y5 y6 y7 y8 O hI hcc hBS hq
    obtain ⟨σ', M', ρ', hB, e⟩ := b_57 (xs := xs) (d := d) (ρ := ρ) (N := N) (Ts := Ts) (B := B) (Q := Q) (x3 := nI (σ 1 2)) (y4 := .int (nI 0)) (y5 := y5) (y6 := y6) (y7 := y7) (y8 := y8) O hI (by omega) hBS (by omega)
    refine ⟨σ', M', ρ', hB, ?_⟩
    rw [eb_293_34]
    clear O hI hBS hB
    simp (disch := first | assumption | omega | exact st8_a (Nat.le_of_ble_eq_true rfl)) only [kl_a, kl_d, kl_f, kl_i, kl_l, kl_n, kl_r, xr_1, xr_10, xr_11, xr_12, xr_13, xr_14, xr_15, xr_16, xr_17, xr_18, xr_19, xr_2, xr_20, xr_228, xr_253, xr_27, xr_3, xr_32, xr_33, xr_34, xr_35, xr_36, xr_37, xr_38, xr_4, xr_40, xr_48, xr_5, xr_56, xr_57, xr_61, xr_62, xr_65, xr_66, xr_67, xr_71, xr_77, xr_8, xr_85, xr_86, xr_87, xr_9, xr_91, af_0, af_1, xt_goto, xt_ic_eq, xt_ic_ge, xt_ic_gt, xt_ic_lt, xt_ic_ne, xt_if_eq, xt_if_le, xt_if_ne, xt_nop, xt_re, lF_0, lF_1, lF_10, lF_11, lF_12, lF_13, lF_14, lF_15, lF_16, lF_2, lF_3, lF_4, lF_5, lF_6, lF_7, lF_8, lF_9, lA_64, lA_65, lA_66, lA_67, lA_68, lA_69, lA_70, lA_71, lA_72, lA_73, lA_75, lA_62, lW_64, lW_65, lW_66, lW_67, lW_68, lW_69, lW_70, lW_71, lW_72, lW_73, lW_75, lW_62, lP_0, lP_1, lP_12, lP_2, lP_4, lP_7, lP_8, xq_122_11_virtualc, xq_123_11_virtualc, xq_124_11_virtualc, xq_125_11_virtualc, xq_126_11_virtualc, xq_127_11_virtualc, xq_147_11_virtualc, xq_292_200_static, iN_add, iN_mul, iN_sub, iN_and, iN_or, iN_clr, iN_shl, iN_shr, tb_r1, b1_z, b1_or, b1_and, b1_or0, b1_or1, b1_0or, b1_t, b1_f, iN_lt, iN_inj, reduceIte, if_true, if_false, Nat.zero_add, Nat.add_zero, Bool.false_eq_true, Bool.true_eq_false, Nat.lt_irrefl, iN_az, not_true_eq_false, not_false_eq_true, Nat.reduceEqDiff, Nat.reduceLT, Nat.reduceAdd, Nat.reduceMul, Nat.reduceSub]
    exact e
  | succ j ih =>
    intro σ M ρ c y5 y6 y7 y8 O hI hcc hBS hq
    obtain ⟨hD1, hD2, hH1, hH2, hS, hC, hT, hR, hL, hQ⟩ := Ok_b O
    obtain ⟨v, ρ1, hv, e1⟩ := p_292 (xs := xs) (d := d + 1) (σ := σ) (M := M) (τ := σ) (ρ := ρ) (N := N) (Ts := Ts) (B := B) (Q := Q) (k := 8) (by decide) (by decide)
    obtain ⟨a, ρ2, ha, e2⟩ := b_36 (xs := xs) (d := d) (M := M) (ρ := ρ1) (N := N) (Ts := Ts) (B := B) (Q := Q) (y3 := .int (nI (σ 1 2))) (x4 := nI (j + 1)) (y5 := y5) (y6 := y6) (y7 := y7) (y8 := y8) hBS hv
    obtain ⟨b, ρ3, hb, e3⟩ := b_41 (xs := xs) (d := d) (M := M) (ρ := ρ2) (N := N) (Ts := Ts) (B := B) (Q := Q) (y4 := .int (nI (j + 1))) (y6 := y6) (y7 := y7) (y8 := y8) (x := nI a) O hBS hv
    obtain ⟨⟨s1, s2⟩, ⟨s3, s4⟩, s5, s6⟩ := id hBS
    have ha2 : a < 100 := by
      split at ha <;> omega
    have hb2 : b < 100 := by
      split at hb
      · omega
      · split at hb
        · omega
        · split at hb <;> omega
    have hjj : 0 < j + 1 := Nat.succ_pos j
    have e5 : ev xs (d + 2) 293 34 ([.ref 0, .ref 63, .ref 62, .int (nI (σ 1 2)), .int (nI (j + 1)), y5, y6, y7, y8], [], hc σ M (LR ρ σ N Ts B Q)) = ev xs (d + 2) 293 50 ([.ref 0, .ref 63, .ref 62, .int (nI (σ 1 2)), .int (nI (j + 1)), .int (nI v), .int (nI a), y7, y8], [.int (nI b)], hc σ M (LR ρ3 σ N Ts B Q)) := by
      rw [← e3, ← e2, eb_293_34]
      clear O hI hBS ha hb ih e2 e3
      simp (disch := first | assumption | omega | exact st8_a (Nat.le_of_ble_eq_true rfl)) only [hjj, e1, eb_293_35, kl_a, kl_d, kl_f, kl_i, kl_l, kl_n, kl_r, xr_1, xr_10, xr_11, xr_12, xr_13, xr_14, xr_15, xr_16, xr_17, xr_18, xr_19, xr_2, xr_20, xr_228, xr_253, xr_27, xr_3, xr_32, xr_33, xr_34, xr_35, xr_36, xr_37, xr_38, xr_4, xr_40, xr_48, xr_5, xr_56, xr_57, xr_61, xr_62, xr_65, xr_66, xr_67, xr_71, xr_77, xr_8, xr_85, xr_86, xr_87, xr_9, xr_91, af_0, af_1, xt_goto, xt_ic_eq, xt_ic_ge, xt_ic_gt, xt_ic_lt, xt_ic_ne, xt_if_eq, xt_if_le, xt_if_ne, xt_nop, xt_re, lF_0, lF_1, lF_10, lF_11, lF_12, lF_13, lF_14, lF_15, lF_16, lF_2, lF_3, lF_4, lF_5, lF_6, lF_7, lF_8, lF_9, lA_64, lA_65, lA_66, lA_67, lA_68, lA_69, lA_70, lA_71, lA_72, lA_73, lA_75, lA_62, lW_64, lW_65, lW_66, lW_67, lW_68, lW_69, lW_70, lW_71, lW_72, lW_73, lW_75, lW_62, lP_0, lP_1, lP_12, lP_2, lP_4, lP_7, lP_8, xq_122_11_virtualc, xq_123_11_virtualc, xq_124_11_virtualc, xq_125_11_virtualc, xq_126_11_virtualc, xq_127_11_virtualc, xq_147_11_virtualc, xq_292_200_static, iN_add, iN_mul, iN_sub, iN_and, iN_or, iN_clr, iN_shl, iN_shr, tb_r1, b1_z, b1_or, b1_and, b1_or0, b1_or1, b1_0or, b1_t, b1_f, iN_lt, iN_inj, reduceIte, if_true, if_false, Nat.zero_add, Nat.add_zero, Bool.false_eq_true, Bool.true_eq_false, Nat.lt_irrefl, iN_az, not_true_eq_false, not_false_eq_true, Nat.reduceEqDiff, Nat.reduceLT, Nat.reduceAdd, Nat.reduceMul, Nat.reduceSub]
    by_cases hab : 2 ≤ v ∧ v ≤ 5 ∧ a = b
    · obtain ⟨σ', M', ρ', hB, e⟩ := ih σ M ρ3 c (.int (nI v)) (.int (nI a)) (.int (nI b)) y8 O hI (by omega) hBS (by omega)
      refine ⟨σ', M', ρ', hB, ?_⟩
      rw [e5]
      obtain ⟨a1, a2, a3⟩ := hab
      have a4 : ¬ v < 2 := by omega
      have a5 : ¬ 5 < v := by omega
      clear O hI hBS hB ha hb ih e2 e3 e5 e1 a1 a2
      simp (disch := first | assumption | omega | exact st8_a (Nat.le_of_ble_eq_true rfl)) only [a4, a5, eq_true a3, Nat.add_sub_cancel, eb_293_50, eb_293_51, eb_293_52, eb_293_53, eb_293_56, kl_a, kl_d, kl_f, kl_i, kl_l, kl_n, kl_r, xr_1, xr_10, xr_11, xr_12, xr_13, xr_14, xr_15, xr_16, xr_17, xr_18, xr_19, xr_2, xr_20, xr_228, xr_253, xr_27, xr_3, xr_32, xr_33, xr_34, xr_35, xr_36, xr_37, xr_38, xr_4, xr_40, xr_48, xr_5, xr_56, xr_57, xr_61, xr_62, xr_65, xr_66, xr_67, xr_71, xr_77, xr_8, xr_85, xr_86, xr_87, xr_9, xr_91, af_0, af_1, xt_goto, xt_ic_eq, xt_ic_ge, xt_ic_gt, xt_ic_lt, xt_ic_ne, xt_if_eq, xt_if_le, xt_if_ne, xt_nop, xt_re, lF_0, lF_1, lF_10, lF_11, lF_12, lF_13, lF_14, lF_15, lF_16, lF_2, lF_3, lF_4, lF_5, lF_6, lF_7, lF_8, lF_9, lA_64, lA_65, lA_66, lA_67, lA_68, lA_69, lA_70, lA_71, lA_72, lA_73, lA_75, lA_62, lW_64, lW_65, lW_66, lW_67, lW_68, lW_69, lW_70, lW_71, lW_72, lW_73, lW_75, lW_62, lP_0, lP_1, lP_12, lP_2, lP_4, lP_7, lP_8, xq_122_11_virtualc, xq_123_11_virtualc, xq_124_11_virtualc, xq_125_11_virtualc, xq_126_11_virtualc, xq_127_11_virtualc, xq_147_11_virtualc, xq_292_200_static, iN_add, iN_mul, iN_sub, iN_and, iN_or, iN_clr, iN_shl, iN_shr, tb_r1, b1_z, b1_or, b1_and, b1_or0, b1_or1, b1_0or, b1_t, b1_f, iN_lt, iN_inj, reduceIte, if_true, if_false, Nat.zero_add, Nat.add_zero, Bool.false_eq_true, Bool.true_eq_false, Nat.lt_irrefl, iN_az, not_true_eq_false, not_false_eq_true, Nat.reduceEqDiff, Nat.reduceLT, Nat.reduceAdd, Nat.reduceMul, Nat.reduceSub]
      exact e
    · have hrok := rok_ab hv ha hb hab
      have e4 := s_127 (xs := xs) (d := d) (σ := σ) (M := M) (R := LR ρ3 (up (up (up (up σ 8 (σ 1 7) v) 9 (σ 1 7) a) 10 (σ 1 7) b) 1 7 ((σ 1 7) + 1)) N Ts B Q) (a := v) (b := a) (c := b) O (by omega) (by omega) (by omega)
      rw [if_neg (by rw [hrok]; decide), if_neg (by omega)] at e4
      obtain ⟨σ', M', ρ', hB, e⟩ := ih (up (up (up (up σ 8 (σ 1 7) v) 9 (σ 1 7) a) 10 (σ 1 7) b) 1 7 ((σ 1 7) + 1)) (nxc M) ρ3 (c + 1) (.int (nI v)) (.int (nI a)) (.int (nI b)) (.int (nI (σ 1 7))) (Ok_rule O hrok (by omega)) (BI_n hI (by omega)) (by omega) hBS (by show (σ 1 7) + 1 + j ≤ 6; omega)
      refine ⟨σ', M', ρ', hB, ?_⟩
      rw [e5]
      have h10 : (σ 1 7) < 10 := by omega
      have fin : ev xs (d + 2) 293 54 ([.ref 0, .ref 63, .ref 62, .int (nI (σ 1 2)), .int (nI (j + 1)), .int (nI v), .int (nI a), .int (nI b), y8], [], hc σ M (LR ρ3 σ N Ts B Q)) = some (.inl none, hc σ' M' (LR ρ' σ' N Ts B Q)) := by
        clear O hI hBS hB ha hb ih e2 e3 e5 e1 hab hrok
        simp (disch := first | assumption | omega | exact st8_a (Nat.le_of_ble_eq_true rfl)) only [e4, up_n, Nat.add_sub_cancel, eb_293_54, eb_293_55, eb_293_56, kl_a, kl_d, kl_f, kl_i, kl_l, kl_n, kl_r, xr_1, xr_10, xr_11, xr_12, xr_13, xr_14, xr_15, xr_16, xr_17, xr_18, xr_19, xr_2, xr_20, xr_228, xr_253, xr_27, xr_3, xr_32, xr_33, xr_34, xr_35, xr_36, xr_37, xr_38, xr_4, xr_40, xr_48, xr_5, xr_56, xr_57, xr_61, xr_62, xr_65, xr_66, xr_67, xr_71, xr_77, xr_8, xr_85, xr_86, xr_87, xr_9, xr_91, af_0, af_1, xt_goto, xt_ic_eq, xt_ic_ge, xt_ic_gt, xt_ic_lt, xt_ic_ne, xt_if_eq, xt_if_le, xt_if_ne, xt_nop, xt_re, lF_0, lF_1, lF_10, lF_11, lF_12, lF_13, lF_14, lF_15, lF_16, lF_2, lF_3, lF_4, lF_5, lF_6, lF_7, lF_8, lF_9, lA_64, lA_65, lA_66, lA_67, lA_68, lA_69, lA_70, lA_71, lA_72, lA_73, lA_75, lA_62, lW_64, lW_65, lW_66, lW_67, lW_68, lW_69, lW_70, lW_71, lW_72, lW_73, lW_75, lW_62, lP_0, lP_1, lP_12, lP_2, lP_4, lP_7, lP_8, xq_122_11_virtualc, xq_123_11_virtualc, xq_124_11_virtualc, xq_125_11_virtualc, xq_126_11_virtualc, xq_127_11_virtualc, xq_147_11_virtualc, xq_292_200_static, iN_add, iN_mul, iN_sub, iN_and, iN_or, iN_clr, iN_shl, iN_shr, tb_r1, b1_z, b1_or, b1_and, b1_or0, b1_or1, b1_0or, b1_t, b1_f, iN_lt, iN_inj, reduceIte, if_true, if_false, Nat.zero_add, Nat.add_zero, Bool.false_eq_true, Bool.true_eq_false, Nat.lt_irrefl, iN_az, not_true_eq_false, not_false_eq_true, Nat.reduceEqDiff, Nat.reduceLT, Nat.reduceAdd, Nat.reduceMul, Nat.reduceSub]
        exact e
      clear O hI hBS hB ha hb ih e2 e3 e5 e1 hrok e4 e
      by_cases a4 : v < 2
      · clear hab
        simp (disch := first | assumption | omega | exact st8_a (Nat.le_of_ble_eq_true rfl)) only [a4, eb_293_50, kl_a, kl_d, kl_f, kl_i, kl_l, kl_n, kl_r, xr_1, xr_10, xr_11, xr_12, xr_13, xr_14, xr_15, xr_16, xr_17, xr_18, xr_19, xr_2, xr_20, xr_228, xr_253, xr_27, xr_3, xr_32, xr_33, xr_34, xr_35, xr_36, xr_37, xr_38, xr_4, xr_40, xr_48, xr_5, xr_56, xr_57, xr_61, xr_62, xr_65, xr_66, xr_67, xr_71, xr_77, xr_8, xr_85, xr_86, xr_87, xr_9, xr_91, af_0, af_1, xt_goto, xt_ic_eq, xt_ic_ge, xt_ic_gt, xt_ic_lt, xt_ic_ne, xt_if_eq, xt_if_le, xt_if_ne, xt_nop, xt_re, lF_0, lF_1, lF_10, lF_11, lF_12, lF_13, lF_14, lF_15, lF_16, lF_2, lF_3, lF_4, lF_5, lF_6, lF_7, lF_8, lF_9, lA_64, lA_65, lA_66, lA_67, lA_68, lA_69, lA_70, lA_71, lA_72, lA_73, lA_75, lA_62, lW_64, lW_65, lW_66, lW_67, lW_68, lW_69, lW_70, lW_71, lW_72, lW_73, lW_75, lW_62, lP_0, lP_1, lP_12, lP_2, lP_4, lP_7, lP_8, xq_122_11_virtualc, xq_123_11_virtualc, xq_124_11_virtualc, xq_125_11_virtualc, xq_126_11_virtualc, xq_127_11_virtualc, xq_147_11_virtualc, xq_292_200_static, iN_add, iN_mul, iN_sub, iN_and, iN_or, iN_clr, iN_shl, iN_shr, tb_r1, b1_z, b1_or, b1_and, b1_or0, b1_or1, b1_0or, b1_t, b1_f, iN_lt, iN_inj, reduceIte, if_true, if_false, Nat.zero_add, Nat.add_zero, Bool.false_eq_true, Bool.true_eq_false, Nat.lt_irrefl, iN_az, not_true_eq_false, not_false_eq_true, Nat.reduceEqDiff, Nat.reduceLT, Nat.reduceAdd, Nat.reduceMul, Nat.reduceSub]
        exact fin
      · by_cases a5 : 5 < v
        · clear hab
          simp (disch := first | assumption | omega | exact st8_a (Nat.le_of_ble_eq_true rfl)) only [a4, a5, eb_293_50, eb_293_51, kl_a, kl_d, kl_f, kl_i, kl_l, kl_n, kl_r, xr_1, xr_10, xr_11, xr_12, xr_13, xr_14, xr_15, xr_16, xr_17, xr_18, xr_19, xr_2, xr_20, xr_228, xr_253, xr_27, xr_3, xr_32, xr_33, xr_34, xr_35, xr_36, xr_37, xr_38, xr_4, xr_40, xr_48, xr_5, xr_56, xr_57, xr_61, xr_62, xr_65, xr_66, xr_67, xr_71, xr_77, xr_8, xr_85, xr_86, xr_87, xr_9, xr_91, af_0, af_1, xt_goto, xt_ic_eq, xt_ic_ge, xt_ic_gt, xt_ic_lt, xt_ic_ne, xt_if_eq, xt_if_le, xt_if_ne, xt_nop, xt_re, lF_0, lF_1, lF_10, lF_11, lF_12, lF_13, lF_14, lF_15, lF_16, lF_2, lF_3, lF_4, lF_5, lF_6, lF_7, lF_8, lF_9, lA_64, lA_65, lA_66, lA_67, lA_68, lA_69, lA_70, lA_71, lA_72, lA_73, lA_75, lA_62, lW_64, lW_65, lW_66, lW_67, lW_68, lW_69, lW_70, lW_71, lW_72, lW_73, lW_75, lW_62, lP_0, lP_1, lP_12, lP_2, lP_4, lP_7, lP_8, xq_122_11_virtualc, xq_123_11_virtualc, xq_124_11_virtualc, xq_125_11_virtualc, xq_126_11_virtualc, xq_127_11_virtualc, xq_147_11_virtualc, xq_292_200_static, iN_add, iN_mul, iN_sub, iN_and, iN_or, iN_clr, iN_shl, iN_shr, tb_r1, b1_z, b1_or, b1_and, b1_or0, b1_or1, b1_0or, b1_t, b1_f, iN_lt, iN_inj, reduceIte, if_true, if_false, Nat.zero_add, Nat.add_zero, Bool.false_eq_true, Bool.true_eq_false, Nat.lt_irrefl, iN_az, not_true_eq_false, not_false_eq_true, Nat.reduceEqDiff, Nat.reduceLT, Nat.reduceAdd, Nat.reduceMul, Nat.reduceSub]
          exact fin
        · have a6 : ¬ a = b := fun z => hab ⟨by omega, by omega, z⟩
          clear hab
          simp (disch := first | assumption | omega | exact st8_a (Nat.le_of_ble_eq_true rfl)) only [a4, a5, a6, eb_293_50, eb_293_51, eb_293_52, kl_a, kl_d, kl_f, kl_i, kl_l, kl_n, kl_r, xr_1, xr_10, xr_11, xr_12, xr_13, xr_14, xr_15, xr_16, xr_17, xr_18, xr_19, xr_2, xr_20, xr_228, xr_253, xr_27, xr_3, xr_32, xr_33, xr_34, xr_35, xr_36, xr_37, xr_38, xr_4, xr_40, xr_48, xr_5, xr_56, xr_57, xr_61, xr_62, xr_65, xr_66, xr_67, xr_71, xr_77, xr_8, xr_85, xr_86, xr_87, xr_9, xr_91, af_0, af_1, xt_goto, xt_ic_eq, xt_ic_ge, xt_ic_gt, xt_ic_lt, xt_ic_ne, xt_if_eq, xt_if_le, xt_if_ne, xt_nop, xt_re, lF_0, lF_1, lF_10, lF_11, lF_12, lF_13, lF_14, lF_15, lF_16, lF_2, lF_3, lF_4, lF_5, lF_6, lF_7, lF_8, lF_9, lA_64, lA_65, lA_66, lA_67, lA_68, lA_69, lA_70, lA_71, lA_72, lA_73, lA_75, lA_62, lW_64, lW_65, lW_66, lW_67, lW_68, lW_69, lW_70, lW_71, lW_72, lW_73, lW_75, lW_62, lP_0, lP_1, lP_12, lP_2, lP_4, lP_7, lP_8, xq_122_11_virtualc, xq_123_11_virtualc, xq_124_11_virtualc, xq_125_11_virtualc, xq_126_11_virtualc, xq_127_11_virtualc, xq_147_11_virtualc, xq_292_200_static, iN_add, iN_mul, iN_sub, iN_and, iN_or, iN_clr, iN_shl, iN_shr, tb_r1, b1_z, b1_or, b1_and, b1_or0, b1_or1, b1_0or, b1_t, b1_f, iN_lt, iN_inj, reduceIte, if_true, if_false, Nat.zero_add, Nat.add_zero, Bool.false_eq_true, Bool.true_eq_false, Nat.lt_irrefl, iN_az, not_true_eq_false, not_false_eq_true, Nat.reduceEqDiff, Nat.reduceLT, Nat.reduceAdd, Nat.reduceMul, Nat.reduceSub]
          exact fin
-- the lessons
set_option maxRecDepth 100000 in
theorem b_23 (hn : 1 ≤ n ∧ n ≤ 4) : ∀ k, k ≤ n → ∀ (σ M : Nat → Nat → Nat) (ρ : Int32) (c : Nat) (y5 y6 y7 y8 : Value), Ok σ → BI σ M c → c + n < 200 + k → (1 ≤ (σ 1 4) ∧ (σ 1 4) ≤ 3) → (1 ≤ (σ 1 3) ∧ (σ 1 3) ≤ 3) → (1 ≤ (σ 1 5) ∧ (σ 1 5) ≤ 3) → (σ 1 6) = k → (σ 1 7) = 0 → BZ xs d 23 [.ref 0, .ref 63, .ref 62, .int (nI (σ 1 2)), .int (nI k), y5, y6, y7, y8] (hc σ M (LR ρ (up σ 1 6 n) N Ts B Q)) N Ts B Q := by
  refine lp n ?_ ?_
  · intro σ M ρ c y5 y6 y7 y8 O hI hcc ht hC hr hL hq
    obtain ⟨v, ρ1, hv, e1⟩ := p_292 (xs := xs) (d := d + 1) (σ := σ) (M := M) (τ := σ) (ρ := ρ) (N := N) (Ts := Ts) (B := B) (Q := Q) (k := 7) (by decide) (by decide)
    obtain ⟨σ', M', ρ', hB, e⟩ := b_34 (xs := xs) (d := d) (N := N) (Ts := Ts) (B := B) (Q := Q) v σ M ρ1 c y5 y6 y7 y8 O hI (by omega) ⟨ht, by rw [hL]; exact hn, hr⟩ (by omega)
    refine ⟨σ', M', ρ', hB, ?_⟩
    rw [up_id hL, eb_293_23]
    clear O hI hB
    simp (disch := first | assumption | omega | exact st8_a (Nat.le_of_ble_eq_true rfl)) only [hL, e1, eb_293_32, eb_293_33, kl_a, kl_d, kl_f, kl_i, kl_l, kl_n, kl_r, xr_1, xr_10, xr_11, xr_12, xr_13, xr_14, xr_15, xr_16, xr_17, xr_18, xr_19, xr_2, xr_20, xr_228, xr_253, xr_27, xr_3, xr_32, xr_33, xr_34, xr_35, xr_36, xr_37, xr_38, xr_4, xr_40, xr_48, xr_5, xr_56, xr_57, xr_61, xr_62, xr_65, xr_66, xr_67, xr_71, xr_77, xr_8, xr_85, xr_86, xr_87, xr_9, xr_91, af_0, af_1, xt_goto, xt_ic_eq, xt_ic_ge, xt_ic_gt, xt_ic_lt, xt_ic_ne, xt_if_eq, xt_if_le, xt_if_ne, xt_nop, xt_re, lF_0, lF_1, lF_10, lF_11, lF_12, lF_13, lF_14, lF_15, lF_16, lF_2, lF_3, lF_4, lF_5, lF_6, lF_7, lF_8, lF_9, lA_64, lA_65, lA_66, lA_67, lA_68, lA_69, lA_70, lA_71, lA_72, lA_73, lA_75, lA_62, lW_64, lW_65, lW_66, lW_67, lW_68, lW_69, lW_70, lW_71, lW_72, lW_73, lW_75, lW_62, lP_0, lP_1, lP_12, lP_2, lP_4, lP_7, lP_8, xq_122_11_virtualc, xq_123_11_virtualc, xq_124_11_virtualc, xq_125_11_virtualc, xq_126_11_virtualc, xq_127_11_virtualc, xq_147_11_virtualc, xq_292_200_static, iN_add, iN_mul, iN_sub, iN_and, iN_or, iN_clr, iN_shl, iN_shr, tb_r1, b1_z, b1_or, b1_and, b1_or0, b1_or1, b1_0or, b1_t, b1_f, iN_lt, iN_inj, reduceIte, if_true, if_false, Nat.zero_add, Nat.add_zero, Bool.false_eq_true, Bool.true_eq_false, Nat.lt_irrefl, iN_az, not_true_eq_false, not_false_eq_true, Nat.reduceEqDiff, Nat.reduceLT, Nat.reduceAdd, Nat.reduceMul, Nat.reduceSub]
    exact e
  · intro k hk ih σ M ρ c y5 y6 y7 y8 O hI hcc ht hC hr hL hq
    obtain ⟨a, ρ1, ha, e1⟩ := p_292 (xs := xs) (d := d + 1) (σ := σ) (M := M) (τ := up σ 1 6 n) (ρ := ρ) (N := N) (Ts := Ts) (B := B) (Q := Q) (k := (σ 1 3)) (by omega) (by omega)
    obtain ⟨b, ρ2, hb, e2⟩ := p_292 (xs := xs) (d := d + 1) (σ := σ) (M := M) (τ := up (up σ 1 6 n) 5 k a) (ρ := ρ1) (N := N) (Ts := Ts) (B := B) (Q := Q) (k := (σ 1 4)) (by omega) (by omega)
    obtain ⟨e, ρ3, he, e3⟩ := p_292 (xs := xs) (d := d + 1) (σ := σ) (M := M) (τ := up (up (up σ 1 6 n) 5 k a) 6 k b) (ρ := ρ2) (N := N) (Ts := Ts) (B := B) (Q := Q) (k := 4) (by decide) (by decide)
    obtain ⟨z, hz⟩ : ∃ z, z = if e = 0 then 2 else 1 := ⟨_, rfl⟩
    have hz2 : 1 ≤ z ∧ z ≤ 2 := by rw [hz]; split <;> decide
    have e4 := s_126 (xs := xs) (d := d) (σ := σ) (M := M) (R := LR ρ3 (up (up (up (up σ 1 6 n) 5 k a) 6 k b) 7 k z) N Ts B Q) (a := a) (b := b) (c := z) O ha hb (by omega)
    rw [if_neg (by omega), if_neg (by omega), hL] at e4
    have O2 := Ok_lesson (p1 := a) (p2 := b) (p3 := z) O ha hb hz2 (by omega)
    rw [hL] at O2
    obtain ⟨σ', M', ρ', hB, e5⟩ := ih (up (up (up (up σ 5 k a) 6 k b) 7 k z) 1 6 (k + 1)) (up (nxc M) 12 0 0) ρ3 (c + 1) (.int (nI k)) y6 y7 y8 O2 (BI_z hI (by omega)) (by omega) ht hC hr rfl hq
    rw [up_up, up_sw (a := 7) (b := 1) (by decide), up_sw (a := 6) (b := 1) (by decide), up_sw (a := 5) (b := 1) (by decide)] at e5
    refine ⟨σ', M', ρ', hB, ?_⟩
    have k6 : k < 6 := by omega
    rw [eb_293_23]
    clear O O2 hI hB ih
    by_cases h0 : e = 0
    · rw [if_pos h0] at hz
      rw [hz] at e4 e5
      simp (disch := first | assumption | omega | exact st8_a (Nat.le_of_ble_eq_true rfl)) only [up_s, u1_s, up_n, u1_n, hk, e1, e2, e3, eq_true h0, e4, eb_293_24, eb_293_25, eb_293_26, eb_293_27, eb_293_28, eb_293_30, eb_293_31, kl_a, kl_d, kl_f, kl_i, kl_l, kl_n, kl_r, xr_1, xr_10, xr_11, xr_12, xr_13, xr_14, xr_15, xr_16, xr_17, xr_18, xr_19, xr_2, xr_20, xr_228, xr_253, xr_27, xr_3, xr_32, xr_33, xr_34, xr_35, xr_36, xr_37, xr_38, xr_4, xr_40, xr_48, xr_5, xr_56, xr_57, xr_61, xr_62, xr_65, xr_66, xr_67, xr_71, xr_77, xr_8, xr_85, xr_86, xr_87, xr_9, xr_91, af_0, af_1, xt_goto, xt_ic_eq, xt_ic_ge, xt_ic_gt, xt_ic_lt, xt_ic_ne, xt_if_eq, xt_if_le, xt_if_ne, xt_nop, xt_re, lF_0, lF_1, lF_10, lF_11, lF_12, lF_13, lF_14, lF_15, lF_16, lF_2, lF_3, lF_4, lF_5, lF_6, lF_7, lF_8, lF_9, lA_64, lA_65, lA_66, lA_67, lA_68, lA_69, lA_70, lA_71, lA_72, lA_73, lA_75, lA_62, lW_64, lW_65, lW_66, lW_67, lW_68, lW_69, lW_70, lW_71, lW_72, lW_73, lW_75, lW_62, lP_0, lP_1, lP_12, lP_2, lP_4, lP_7, lP_8, xq_122_11_virtualc, xq_123_11_virtualc, xq_124_11_virtualc, xq_125_11_virtualc, xq_126_11_virtualc, xq_127_11_virtualc, xq_147_11_virtualc, xq_292_200_static, iN_add, iN_mul, iN_sub, iN_and, iN_or, iN_clr, iN_shl, iN_shr, tb_r1, b1_z, b1_or, b1_and, b1_or0, b1_or1, b1_0or, b1_t, b1_f, iN_lt, iN_inj, reduceIte, if_true, if_false, Nat.zero_add, Nat.add_zero, Bool.false_eq_true, Bool.true_eq_false, Nat.lt_irrefl, iN_az, not_true_eq_false, not_false_eq_true, Nat.reduceEqDiff, Nat.reduceLT, Nat.reduceAdd, Nat.reduceMul, Nat.reduceSub]
      exact e5
    · rw [if_neg h0] at hz
      rw [hz] at e4 e5
      simp (disch := first | assumption | omega | exact st8_a (Nat.le_of_ble_eq_true rfl)) only [up_s, u1_s, up_n, u1_n, hk, e1, e2, e3, h0, e4, eb_293_24, eb_293_25, eb_293_26, eb_293_27, eb_293_29, eb_293_30, eb_293_31, kl_a, kl_d, kl_f, kl_i, kl_l, kl_n, kl_r, xr_1, xr_10, xr_11, xr_12, xr_13, xr_14, xr_15, xr_16, xr_17, xr_18, xr_19, xr_2, xr_20, xr_228, xr_253, xr_27, xr_3, xr_32, xr_33, xr_34, xr_35, xr_36, xr_37, xr_38, xr_4, xr_40, xr_48, xr_5, xr_56, xr_57, xr_61, xr_62, xr_65, xr_66, xr_67, xr_71, xr_77, xr_8, xr_85, xr_86, xr_87, xr_9, xr_91, af_0, af_1, xt_goto, xt_ic_eq, xt_ic_ge, xt_ic_gt, xt_ic_lt, xt_ic_ne, xt_if_eq, xt_if_le, xt_if_ne, xt_nop, xt_re, lF_0, lF_1, lF_10, lF_11, lF_12, lF_13, lF_14, lF_15, lF_16, lF_2, lF_3, lF_4, lF_5, lF_6, lF_7, lF_8, lF_9, lA_64, lA_65, lA_66, lA_67, lA_68, lA_69, lA_70, lA_71, lA_72, lA_73, lA_75, lA_62, lW_64, lW_65, lW_66, lW_67, lW_68, lW_69, lW_70, lW_71, lW_72, lW_73, lW_75, lW_62, lP_0, lP_1, lP_12, lP_2, lP_4, lP_7, lP_8, xq_122_11_virtualc, xq_123_11_virtualc, xq_124_11_virtualc, xq_125_11_virtualc, xq_126_11_virtualc, xq_127_11_virtualc, xq_147_11_virtualc, xq_292_200_static, iN_add, iN_mul, iN_sub, iN_and, iN_or, iN_clr, iN_shl, iN_shr, tb_r1, b1_z, b1_or, b1_and, b1_or0, b1_or1, b1_0or, b1_t, b1_f, iN_lt, iN_inj, reduceIte, if_true, if_false, Nat.zero_add, Nat.add_zero, Bool.false_eq_true, Bool.true_eq_false, Nat.lt_irrefl, iN_az, not_true_eq_false, not_false_eq_true, Nat.reduceEqDiff, Nat.reduceLT, Nat.reduceAdd, Nat.reduceMul, Nat.reduceSub]
      exact e5
-- the teachers
set_option maxRecDepth 100000 in
theorem b_18 (hn : 1 ≤ n ∧ n ≤ 3) : ∀ k, k ≤ n → ∀ (σ M : Nat → Nat → Nat) (ρ : Int32) (c : Nat) (y5 y6 y7 y8 : Value), Ok σ → BI σ M c → c + n < 150 + k → (1 ≤ (σ 1 3) ∧ (σ 1 3) ≤ 3) → (1 ≤ (σ 1 5) ∧ (σ 1 5) ≤ 3) → (σ 1 4) = k → (σ 1 6) = 0 → (σ 1 7) = 0 → BZ xs d 18 [.ref 0, .ref 63, .ref 62, .int (nI (σ 1 2)), .int (nI k), y5, y6, y7, y8] (hc σ M (LR ρ (up σ 1 4 n) N Ts B Q)) N Ts B Q := by
  refine lp n ?_ ?_
  · intro σ M ρ c y5 y6 y7 y8 O hI hcc hC hr hT hL hq
    obtain ⟨v, ρ1, hv, e1⟩ := p_292 (xs := xs) (d := d + 1) (σ := σ) (M := M) (τ := σ) (ρ := ρ) (N := N) (Ts := Ts) (B := B) (Q := Q) (k := 4) (by decide) (by decide)
    obtain ⟨σ', M', ρ', hB, e⟩ := b_23 (xs := xs) (d := d) (N := N) (Ts := Ts) (B := B) (Q := Q) (n := 1 + v) ⟨by omega, by omega⟩ 0 (Nat.zero_le _) σ M ρ1 c y5 y6 y7 y8 O hI (by omega) (by rw [hT]; exact hn) hC hr hL hq
    refine ⟨σ', M', ρ', hB, ?_⟩
    rw [up_id hT, eb_293_18]
    clear O hI hB
    simp (disch := first | assumption | omega | exact st8_a (Nat.le_of_ble_eq_true rfl)) only [hT, e1, eb_293_21, eb_293_22, kl_a, kl_d, kl_f, kl_i, kl_l, kl_n, kl_r, xr_1, xr_10, xr_11, xr_12, xr_13, xr_14, xr_15, xr_16, xr_17, xr_18, xr_19, xr_2, xr_20, xr_228, xr_253, xr_27, xr_3, xr_32, xr_33, xr_34, xr_35, xr_36, xr_37, xr_38, xr_4, xr_40, xr_48, xr_5, xr_56, xr_57, xr_61, xr_62, xr_65, xr_66, xr_67, xr_71, xr_77, xr_8, xr_85, xr_86, xr_87, xr_9, xr_91, af_0, af_1, xt_goto, xt_ic_eq, xt_ic_ge, xt_ic_gt, xt_ic_lt, xt_ic_ne, xt_if_eq, xt_if_le, xt_if_ne, xt_nop, xt_re, lF_0, lF_1, lF_10, lF_11, lF_12, lF_13, lF_14, lF_15, lF_16, lF_2, lF_3, lF_4, lF_5, lF_6, lF_7, lF_8, lF_9, lA_64, lA_65, lA_66, lA_67, lA_68, lA_69, lA_70, lA_71, lA_72, lA_73, lA_75, lA_62, lW_64, lW_65, lW_66, lW_67, lW_68, lW_69, lW_70, lW_71, lW_72, lW_73, lW_75, lW_62, lP_0, lP_1, lP_12, lP_2, lP_4, lP_7, lP_8, xq_122_11_virtualc, xq_123_11_virtualc, xq_124_11_virtualc, xq_125_11_virtualc, xq_126_11_virtualc, xq_127_11_virtualc, xq_147_11_virtualc, xq_292_200_static, iN_add, iN_mul, iN_sub, iN_and, iN_or, iN_clr, iN_shl, iN_shr, tb_r1, b1_z, b1_or, b1_and, b1_or0, b1_or1, b1_0or, b1_t, b1_f, iN_lt, iN_inj, reduceIte, if_true, if_false, Nat.zero_add, Nat.add_zero, Bool.false_eq_true, Bool.true_eq_false, Nat.lt_irrefl, iN_az, not_true_eq_false, not_false_eq_true, Nat.reduceEqDiff, Nat.reduceLT, Nat.reduceAdd, Nat.reduceMul, Nat.reduceSub]
    exact e
  · intro k hk ih σ M ρ c y5 y6 y7 y8 O hI hcc hC hr hT hL hq
    have e4 := s_124 (xs := xs) (d := d + 1) (σ := σ) (M := M) (R := LR ρ (up σ 1 4 n) N Ts B Q) O
    rw [if_neg (by omega), hT] at e4
    have O2 := Ok_teacher O (by omega)
    rw [hT] at O2
    obtain ⟨σ', M', ρ', hB, e5⟩ := ih (up σ 1 4 (k + 1)) (nxc M) ρ (c + 1) (.int (nI k)) y6 y7 y8 O2 (BI_n hI (by omega)) (by omega) hC hr rfl hL hq
    rw [up_up] at e5
    refine ⟨σ', M', ρ', hB, ?_⟩
    rw [eb_293_18]
    clear O O2 hI hB ih
    simp (disch := first | assumption | omega | exact st8_a (Nat.le_of_ble_eq_true rfl)) only [up_s, u1_s, hk, e4, eb_293_19, eb_293_20, kl_a, kl_d, kl_f, kl_i, kl_l, kl_n, kl_r, xr_1, xr_10, xr_11, xr_12, xr_13, xr_14, xr_15, xr_16, xr_17, xr_18, xr_19, xr_2, xr_20, xr_228, xr_253, xr_27, xr_3, xr_32, xr_33, xr_34, xr_35, xr_36, xr_37, xr_38, xr_4, xr_40, xr_48, xr_5, xr_56, xr_57, xr_61, xr_62, xr_65, xr_66, xr_67, xr_71, xr_77, xr_8, xr_85, xr_86, xr_87, xr_9, xr_91, af_0, af_1, xt_goto, xt_ic_eq, xt_ic_ge, xt_ic_gt, xt_ic_lt, xt_ic_ne, xt_if_eq, xt_if_le, xt_if_ne, xt_nop, xt_re, lF_0, lF_1, lF_10, lF_11, lF_12, lF_13, lF_14, lF_15, lF_16, lF_2, lF_3, lF_4, lF_5, lF_6, lF_7, lF_8, lF_9, lA_64, lA_65, lA_66, lA_67, lA_68, lA_69, lA_70, lA_71, lA_72, lA_73, lA_75, lA_62, lW_64, lW_65, lW_66, lW_67, lW_68, lW_69, lW_70, lW_71, lW_72, lW_73, lW_75, lW_62, lP_0, lP_1, lP_12, lP_2, lP_4, lP_7, lP_8, xq_122_11_virtualc, xq_123_11_virtualc, xq_124_11_virtualc, xq_125_11_virtualc, xq_126_11_virtualc, xq_127_11_virtualc, xq_147_11_virtualc, xq_292_200_static, iN_add, iN_mul, iN_sub, iN_and, iN_or, iN_clr, iN_shl, iN_shr, tb_r1, b1_z, b1_or, b1_and, b1_or0, b1_or1, b1_0or, b1_t, b1_f, iN_lt, iN_inj, reduceIte, if_true, if_false, Nat.zero_add, Nat.add_zero, Bool.false_eq_true, Bool.true_eq_false, Nat.lt_irrefl, iN_az, not_true_eq_false, not_false_eq_true, Nat.reduceEqDiff, Nat.reduceLT, Nat.reduceAdd, Nat.reduceMul, Nat.reduceSub]
    exact e5
-- the classes
set_option maxRecDepth 100000 in
theorem b_11 (hn : 1 ≤ n ∧ n ≤ 3) : ∀ k, k ≤ n → ∀ (σ M : Nat → Nat → Nat) (ρ : Int32) (c : Nat) (y5 y6 y7 y8 : Value), Ok σ → BI σ M c → c + n < 100 + k → (1 ≤ (σ 1 5) ∧ (σ 1 5) ≤ 3) → (σ 1 3) = k → (σ 1 4) = 0 → (σ 1 6) = 0 → (σ 1 7) = 0 → BZ xs d 11 [.ref 0, .ref 63, .ref 62, .int (nI (σ 1 2)), .int (nI k), y5, y6, y7, y8] (hc σ M (LR ρ (up σ 1 3 n) N Ts B Q)) N Ts B Q := by
  refine lp n ?_ ?_
  · intro σ M ρ c y5 y6 y7 y8 O hI hcc hr hC hT hL hq
    obtain ⟨v, ρ1, hv, e1⟩ := p_292 (xs := xs) (d := d + 1) (σ := σ) (M := M) (τ := σ) (ρ := ρ) (N := N) (Ts := Ts) (B := B) (Q := Q) (k := 3) (by decide) (by decide)
    obtain ⟨σ', M', ρ', hB, e⟩ := b_18 (xs := xs) (d := d) (N := N) (Ts := Ts) (B := B) (Q := Q) (n := 1 + v) ⟨by omega, by omega⟩ 0 (Nat.zero_le _) σ M ρ1 c y5 y6 y7 y8 O hI (by omega) (by rw [hC]; exact hn) hr hT hL hq
    refine ⟨σ', M', ρ', hB, ?_⟩
    rw [up_id hC, eb_293_11]
    clear O hI hB
    simp (disch := first | assumption | omega | exact st8_a (Nat.le_of_ble_eq_true rfl)) only [hC, e1, eb_293_16, eb_293_17, kl_a, kl_d, kl_f, kl_i, kl_l, kl_n, kl_r, xr_1, xr_10, xr_11, xr_12, xr_13, xr_14, xr_15, xr_16, xr_17, xr_18, xr_19, xr_2, xr_20, xr_228, xr_253, xr_27, xr_3, xr_32, xr_33, xr_34, xr_35, xr_36, xr_37, xr_38, xr_4, xr_40, xr_48, xr_5, xr_56, xr_57, xr_61, xr_62, xr_65, xr_66, xr_67, xr_71, xr_77, xr_8, xr_85, xr_86, xr_87, xr_9, xr_91, af_0, af_1, xt_goto, xt_ic_eq, xt_ic_ge, xt_ic_gt, xt_ic_lt, xt_ic_ne, xt_if_eq, xt_if_le, xt_if_ne, xt_nop, xt_re, lF_0, lF_1, lF_10, lF_11, lF_12, lF_13, lF_14, lF_15, lF_16, lF_2, lF_3, lF_4, lF_5, lF_6, lF_7, lF_8, lF_9, lA_64, lA_65, lA_66, lA_67, lA_68, lA_69, lA_70, lA_71, lA_72, lA_73, lA_75, lA_62, lW_64, lW_65, lW_66, lW_67, lW_68, lW_69, lW_70, lW_71, lW_72, lW_73, lW_75, lW_62, lP_0, lP_1, lP_12, lP_2, lP_4, lP_7, lP_8, xq_122_11_virtualc, xq_123_11_virtualc, xq_124_11_virtualc, xq_125_11_virtualc, xq_126_11_virtualc, xq_127_11_virtualc, xq_147_11_virtualc, xq_292_200_static, iN_add, iN_mul, iN_sub, iN_and, iN_or, iN_clr, iN_shl, iN_shr, tb_r1, b1_z, b1_or, b1_and, b1_or0, b1_or1, b1_0or, b1_t, b1_f, iN_lt, iN_inj, reduceIte, if_true, if_false, Nat.zero_add, Nat.add_zero, Bool.false_eq_true, Bool.true_eq_false, Nat.lt_irrefl, iN_az, not_true_eq_false, not_false_eq_true, Nat.reduceEqDiff, Nat.reduceLT, Nat.reduceAdd, Nat.reduceMul, Nat.reduceSub]
    exact e
  · intro k hk ih σ M ρ c y5 y6 y7 y8 O hI hcc hr hC hT hL hq
    obtain ⟨a, ρ1, ha, e1⟩ := p_292 (xs := xs) (d := d + 1) (σ := σ) (M := M) (τ := up σ 1 3 n) (ρ := ρ) (N := N) (Ts := Ts) (B := B) (Q := Q) (k := 20) (by decide) (by decide)
    obtain ⟨b, ρ2, hb, e2⟩ := p_292 (xs := xs) (d := d + 1) (σ := σ) (M := M) (τ := up (up σ 1 3 n) 2 k (5 + a)) (ρ := ρ1) (N := N) (Ts := Ts) (B := B) (Q := Q) (k := ((σ 1 5) + 1)) (by omega) (by omega)
    have hh := hmv_i b (by omega)
    have hhv : hmv b = 4294967295 ∨ hmv b < (σ 1 5) := by
      unfold hmv
      split <;> omega
    have e4 := s_123g (xs := xs) (d := d) (σ := σ) (M := M) (R := LR ρ2 (up (up (up σ 1 3 n) 2 k (5 + a)) 3 k (hmv b)) N Ts B Q) (a := 5 + a) (b := hmv b) O (by omega) (by omega) hhv
    rw [if_neg (by omega), if_neg (by omega), hC] at e4
    have O2 := Ok_class (p1 := 5 + a) (p2 := hmv b) O ⟨by omega, by omega⟩ hhv (by omega)
    rw [hC] at O2
    obtain ⟨σ', M', ρ', hB, e5⟩ := ih (up (up (up σ 2 k (5 + a)) 3 k (hmv b)) 1 3 (k + 1)) (nxc M) ρ2 (c + 1) (.int (nI k)) y6 y7 y8 O2 (BI_n hI (by omega)) (by omega) hr rfl hT hL hq
    rw [up_up, up_sw (a := 3) (b := 1) (by decide), up_sw (a := 2) (b := 1) (by decide)] at e5
    refine ⟨σ', M', ρ', hB, ?_⟩
    have k4 : k < 4 := by omega
    have hb5 : hmv b < 4294967296 := by omega
    rw [eb_293_11]
    clear O O2 hI hB ih hhv
    simp (disch := first | assumption | omega | exact st8_a (Nat.le_of_ble_eq_true rfl)) only [up_s, u1_s, up_n, u1_n, hk, e1, e2, hh, e4, eb_293_12, eb_293_13, eb_293_14, eb_293_15, kl_a, kl_d, kl_f, kl_i, kl_l, kl_n, kl_r, xr_1, xr_10, xr_11, xr_12, xr_13, xr_14, xr_15, xr_16, xr_17, xr_18, xr_19, xr_2, xr_20, xr_228, xr_253, xr_27, xr_3, xr_32, xr_33, xr_34, xr_35, xr_36, xr_37, xr_38, xr_4, xr_40, xr_48, xr_5, xr_56, xr_57, xr_61, xr_62, xr_65, xr_66, xr_67, xr_71, xr_77, xr_8, xr_85, xr_86, xr_87, xr_9, xr_91, af_0, af_1, xt_goto, xt_ic_eq, xt_ic_ge, xt_ic_gt, xt_ic_lt, xt_ic_ne, xt_if_eq, xt_if_le, xt_if_ne, xt_nop, xt_re, lF_0, lF_1, lF_10, lF_11, lF_12, lF_13, lF_14, lF_15, lF_16, lF_2, lF_3, lF_4, lF_5, lF_6, lF_7, lF_8, lF_9, lA_64, lA_65, lA_66, lA_67, lA_68, lA_69, lA_70, lA_71, lA_72, lA_73, lA_75, lA_62, lW_64, lW_65, lW_66, lW_67, lW_68, lW_69, lW_70, lW_71, lW_72, lW_73, lW_75, lW_62, lP_0, lP_1, lP_12, lP_2, lP_4, lP_7, lP_8, xq_122_11_virtualc, xq_123_11_virtualc, xq_124_11_virtualc, xq_125_11_virtualc, xq_126_11_virtualc, xq_127_11_virtualc, xq_147_11_virtualc, xq_292_200_static, iN_add, iN_mul, iN_and, iN_or, iN_clr, iN_shl, iN_shr, tb_r1, b1_z, b1_or, b1_and, b1_or0, b1_or1, b1_0or, b1_t, b1_f, iN_lt, iN_inj, reduceIte, if_true, if_false, Nat.zero_add, Nat.add_zero, Bool.false_eq_true, Bool.true_eq_false, Nat.lt_irrefl, iN_az, not_true_eq_false, not_false_eq_true, Nat.reduceEqDiff, Nat.reduceLT, Nat.reduceAdd, Nat.reduceMul, Nat.reduceSub]
    exact e5
-- the rooms
set_option maxRecDepth 100000 in
theorem b_5 (hn : 1 ≤ n ∧ n ≤ 3) : ∀ k, k ≤ n → ∀ (σ M : Nat → Nat → Nat) (ρ : Int32) (c : Nat) (y5 y6 y7 y8 : Value), Ok σ → BI σ M c → c + n < 50 + k → (σ 1 5) = k → (σ 1 3) = 0 → (σ 1 4) = 0 → (σ 1 6) = 0 → (σ 1 7) = 0 → BZ xs d 5 [.ref 0, .ref 63, .ref 62, .int (nI (σ 1 2)), .int (nI k), y5, y6, y7, y8] (hc σ M (LR ρ (up σ 1 5 n) N Ts B Q)) N Ts B Q := by
  refine lp n ?_ ?_
  · intro σ M ρ c y5 y6 y7 y8 O hI hcc hr hC hT hL hq
    obtain ⟨v, ρ1, hv, e1⟩ := p_292 (xs := xs) (d := d + 1) (σ := σ) (M := M) (τ := σ) (ρ := ρ) (N := N) (Ts := Ts) (B := B) (Q := Q) (k := 3) (by decide) (by decide)
    obtain ⟨σ', M', ρ', hB, e⟩ := b_11 (xs := xs) (d := d) (N := N) (Ts := Ts) (B := B) (Q := Q) (n := 1 + v) ⟨by omega, by omega⟩ 0 (Nat.zero_le _) σ M ρ1 c y5 y6 y7 y8 O hI (by omega) (by rw [hr]; exact hn) hC hT hL hq
    refine ⟨σ', M', ρ', hB, ?_⟩
    rw [up_id hr, eb_293_5]
    clear O hI hB
    simp (disch := first | assumption | omega | exact st8_a (Nat.le_of_ble_eq_true rfl)) only [hr, e1, eb_293_9, eb_293_10, kl_a, kl_d, kl_f, kl_i, kl_l, kl_n, kl_r, xr_1, xr_10, xr_11, xr_12, xr_13, xr_14, xr_15, xr_16, xr_17, xr_18, xr_19, xr_2, xr_20, xr_228, xr_253, xr_27, xr_3, xr_32, xr_33, xr_34, xr_35, xr_36, xr_37, xr_38, xr_4, xr_40, xr_48, xr_5, xr_56, xr_57, xr_61, xr_62, xr_65, xr_66, xr_67, xr_71, xr_77, xr_8, xr_85, xr_86, xr_87, xr_9, xr_91, af_0, af_1, xt_goto, xt_ic_eq, xt_ic_ge, xt_ic_gt, xt_ic_lt, xt_ic_ne, xt_if_eq, xt_if_le, xt_if_ne, xt_nop, xt_re, lF_0, lF_1, lF_10, lF_11, lF_12, lF_13, lF_14, lF_15, lF_16, lF_2, lF_3, lF_4, lF_5, lF_6, lF_7, lF_8, lF_9, lA_64, lA_65, lA_66, lA_67, lA_68, lA_69, lA_70, lA_71, lA_72, lA_73, lA_75, lA_62, lW_64, lW_65, lW_66, lW_67, lW_68, lW_69, lW_70, lW_71, lW_72, lW_73, lW_75, lW_62, lP_0, lP_1, lP_12, lP_2, lP_4, lP_7, lP_8, xq_122_11_virtualc, xq_123_11_virtualc, xq_124_11_virtualc, xq_125_11_virtualc, xq_126_11_virtualc, xq_127_11_virtualc, xq_147_11_virtualc, xq_292_200_static, iN_add, iN_mul, iN_sub, iN_and, iN_or, iN_clr, iN_shl, iN_shr, tb_r1, b1_z, b1_or, b1_and, b1_or0, b1_or1, b1_0or, b1_t, b1_f, iN_lt, iN_inj, reduceIte, if_true, if_false, Nat.zero_add, Nat.add_zero, Bool.false_eq_true, Bool.true_eq_false, Nat.lt_irrefl, iN_az, not_true_eq_false, not_false_eq_true, Nat.reduceEqDiff, Nat.reduceLT, Nat.reduceAdd, Nat.reduceMul, Nat.reduceSub]
    exact e
  · intro k hk ih σ M ρ c y5 y6 y7 y8 O hI hcc hr hC hT hL hq
    obtain ⟨a, ρ1, ha, e1⟩ := p_292 (xs := xs) (d := d + 1) (σ := σ) (M := M) (τ := up σ 1 5 n) (ρ := ρ) (N := N) (Ts := Ts) (B := B) (Q := Q) (k := 20) (by decide) (by decide)
    have e4 := s_125 (xs := xs) (d := d + 1) (σ := σ) (M := M) (R := LR ρ1 (up (up σ 1 5 n) 4 k (10 + a)) N Ts B Q) (a := 10 + a) O (by omega)
    rw [if_neg (by omega), if_neg (by omega), hr] at e4
    have O2 := Ok_room (p1 := 10 + a) O ⟨by omega, by omega⟩ (by omega)
    rw [hr] at O2
    obtain ⟨σ', M', ρ', hB, e5⟩ := ih (up (up σ 4 k (10 + a)) 1 5 (k + 1)) (nxc M) ρ1 (c + 1) (.int (nI k)) y6 y7 y8 O2 (BI_n hI (by omega)) (by omega) rfl hC hT hL hq
    rw [up_up, up_sw (a := 4) (b := 1) (by decide)] at e5
    refine ⟨σ', M', ρ', hB, ?_⟩
    have k3 : k < 3 := by omega
    rw [eb_293_5]
    clear O O2 hI hB ih
    simp (disch := first | assumption | omega | exact st8_a (Nat.le_of_ble_eq_true rfl)) only [up_s, u1_s, up_n, u1_n, hk, e1, e4, eb_293_6, eb_293_7, eb_293_8, kl_a, kl_d, kl_f, kl_i, kl_l, kl_n, kl_r, xr_1, xr_10, xr_11, xr_12, xr_13, xr_14, xr_15, xr_16, xr_17, xr_18, xr_19, xr_2, xr_20, xr_228, xr_253, xr_27, xr_3, xr_32, xr_33, xr_34, xr_35, xr_36, xr_37, xr_38, xr_4, xr_40, xr_48, xr_5, xr_56, xr_57, xr_61, xr_62, xr_65, xr_66, xr_67, xr_71, xr_77, xr_8, xr_85, xr_86, xr_87, xr_9, xr_91, af_0, af_1, xt_goto, xt_ic_eq, xt_ic_ge, xt_ic_gt, xt_ic_lt, xt_ic_ne, xt_if_eq, xt_if_le, xt_if_ne, xt_nop, xt_re, lF_0, lF_1, lF_10, lF_11, lF_12, lF_13, lF_14, lF_15, lF_16, lF_2, lF_3, lF_4, lF_5, lF_6, lF_7, lF_8, lF_9, lA_64, lA_65, lA_66, lA_67, lA_68, lA_69, lA_70, lA_71, lA_72, lA_73, lA_75, lA_62, lW_64, lW_65, lW_66, lW_67, lW_68, lW_69, lW_70, lW_71, lW_72, lW_73, lW_75, lW_62, lP_0, lP_1, lP_12, lP_2, lP_4, lP_7, lP_8, xq_122_11_virtualc, xq_123_11_virtualc, xq_124_11_virtualc, xq_125_11_virtualc, xq_126_11_virtualc, xq_127_11_virtualc, xq_147_11_virtualc, xq_292_200_static, iN_add, iN_mul, iN_sub, iN_and, iN_or, iN_clr, iN_shl, iN_shr, tb_r1, b1_z, b1_or, b1_and, b1_or0, b1_or1, b1_0or, b1_t, b1_f, iN_lt, iN_inj, reduceIte, if_true, if_false, Nat.zero_add, Nat.add_zero, Bool.false_eq_true, Bool.true_eq_false, Nat.lt_irrefl, iN_az, not_true_eq_false, not_false_eq_true, Nat.reduceEqDiff, Nat.reduceLT, Nat.reduceAdd, Nat.reduceMul, Nat.reduceSub]
    exact e5
-- the School as it is made, beside the class's own start
set_option maxRecDepth 100000 in
theorem p_293 (O : Ok σ) (hI : BI σ M 0) (h5 : (σ 1 5) = 0) (h3 : (σ 1 3) = 0) (h4 : (σ 1 4) = 0) (h6 : (σ 1 6) = 0) (h7 : (σ 1 7) = 0) (x0 x1 : Nat) : ∃ σ' M' ρ', BG σ' M' ∧ ev xs (d + 2) 293 0 ([.ref 0, .ref 63, .ref 62, .retAddr 9, .retAddr 9, .retAddr 9, .retAddr 9, .retAddr 9, .retAddr 9], [], hc σ M (LR ρ (up (up σ 1 0 x0) 1 1 x1) N Ts B Q)) = some (.inl none, hc σ' M' (LR ρ' σ' N Ts B Q)) := by
  obtain ⟨v0, ρ1, hv0, e1⟩ := p_292 (xs := xs) (d := d + 1) (σ := σ) (M := M) (τ := up (up σ 1 0 x0) 1 1 x1) (ρ := ρ) (N := N) (Ts := Ts) (B := B) (Q := Q) (k := 2) (by decide) (by decide)
  obtain ⟨v1, ρ2, hv1, e2⟩ := p_292 (xs := xs) (d := d + 1) (σ := σ) (M := M) (τ := up (up σ 1 0 (1 + v0)) 1 1 x1) (ρ := ρ1) (N := N) (Ts := Ts) (B := B) (Q := Q) (k := 3) (by decide) (by decide)
  have e3 := s_122g (xs := xs) (d := d) (σ := σ) (M := M) (R := LR ρ2 (up (up σ 1 0 (1 + v0)) 1 1 (1 + v1)) N Ts B Q) (a := 1 + v0) (b := 1 + v1) O ⟨by omega, by omega⟩ ⟨by omega, by omega⟩ false (by rw [h7]; rfl)
  rw [if_neg (by decide)] at e3
  have O2 := Ok_grid (a := 1 + v0) (b := 1 + v1) O ⟨by omega, by omega⟩ ⟨by omega, by omega⟩ (by rw [h7]; rfl)
  obtain ⟨σ2, hσ2⟩ : ∃ σ2, up (up (up σ 1 0 (1 + v0)) 1 1 (1 + v1)) 1 2 ((1 + v0) * (1 + v1)) = σ2 := ⟨_, rfl⟩
  have hLR : ∀ ρ, LR ρ (up (up σ 1 0 (1 + v0)) 1 1 (1 + v1)) N Ts B Q = LR ρ σ2 N Ts B Q := fun ρ => by rw [← hσ2]; rfl
  rw [hσ2] at e3 O2
  have hS2 : σ2 1 2 = (1 + v0) * (1 + v1) := by rw [← hσ2]; rfl
  rw [hLR] at e3
  have s0' : σ2 1 0 = 1 + v0 := by rw [← hσ2]; rfl
  have s1' : σ2 1 1 = 1 + v1 := by rw [← hσ2]; rfl
  have q5 : σ2 1 5 = 0 := by rw [← hσ2]; exact h5
  have q3 : σ2 1 3 = 0 := by rw [← hσ2]; exact h3
  have q4 : σ2 1 4 = 0 := by rw [← hσ2]; exact h4
  have q6 : σ2 1 6 = 0 := by rw [← hσ2]; exact h6
  have q7 : σ2 1 7 = 0 := by rw [← hσ2]; exact h7
  have t0 : (up (up σ 1 0 (1 + v0)) 1 1 (1 + v1)) 1 0 = 1 + v0 := rfl
  have t1 : (up (up σ 1 0 (1 + v0)) 1 1 (1 + v1)) 1 1 = 1 + v1 := rfl
  have u0 : up (up (up σ 1 0 x0) 1 1 x1) 1 0 (1 + v0) = up (up σ 1 0 (1 + v0)) 1 1 x1 := by
    funext b j
    unfold up u1
    by_cases h1 : b = 1
    · subst h1
      by_cases h2 : j = 0
      · subst h2; simp
      · simp [h2]
    · simp [h1]
  have u2 : up (up (up σ 1 0 (1 + v0)) 1 1 x1) 1 1 (1 + v1) = up (up σ 1 0 (1 + v0)) 1 1 (1 + v1) := up_up _ _ _ _ _
  obtain ⟨v2, ρ3, hv2, e4⟩ := p_292 (xs := xs) (d := d + 1) (σ := σ2) (M := up (nxc M) 12 0 0) (τ := σ2) (ρ := ρ2) (N := N) (Ts := Ts) (B := B) (Q := Q) (k := 3) (by decide) (by decide)
  obtain ⟨σ', M', ρ', hB, e⟩ := b_5 (xs := xs) (d := d) (N := N) (Ts := Ts) (B := B) (Q := Q) (n := 1 + v2) ⟨by omega, by omega⟩ 0 (Nat.zero_le _) σ2 (up (nxc M) 12 0 0) ρ3 1 (.retAddr 9) (.retAddr 9) (.retAddr 9) (.retAddr 9) O2 (BI_z hI (by omega)) (by omega) q5 q3 q4 q6 q7
  refine ⟨σ', M', ρ', hB, ?_⟩
  rw [hS2] at e
  clear O O2 hI hB
  simp (disch := first | assumption | omega | exact st8_a (Nat.le_of_ble_eq_true rfl)) only [e1, u0, e2, u2, t0, t1, s0', s1', hLR, e3, e4, eb_293_0, eb_293_1, eb_293_2, eb_293_3, eb_293_4, kl_a, kl_d, kl_f, kl_i, kl_l, kl_n, kl_r, xr_1, xr_10, xr_11, xr_12, xr_13, xr_14, xr_15, xr_16, xr_17, xr_18, xr_19, xr_2, xr_20, xr_228, xr_253, xr_27, xr_3, xr_32, xr_33, xr_34, xr_35, xr_36, xr_37, xr_38, xr_4, xr_40, xr_48, xr_5, xr_56, xr_57, xr_61, xr_62, xr_65, xr_66, xr_67, xr_71, xr_77, xr_8, xr_85, xr_86, xr_87, xr_9, xr_91, af_0, af_1, xt_goto, xt_ic_eq, xt_ic_ge, xt_ic_gt, xt_ic_lt, xt_ic_ne, xt_if_eq, xt_if_le, xt_if_ne, xt_nop, xt_re, lF_0, lF_1, lF_10, lF_11, lF_12, lF_13, lF_14, lF_15, lF_16, lF_2, lF_3, lF_4, lF_5, lF_6, lF_7, lF_8, lF_9, lA_64, lA_65, lA_66, lA_67, lA_68, lA_69, lA_70, lA_71, lA_72, lA_73, lA_75, lA_62, lW_64, lW_65, lW_66, lW_67, lW_68, lW_69, lW_70, lW_71, lW_72, lW_73, lW_75, lW_62, lP_0, lP_1, lP_12, lP_2, lP_4, lP_7, lP_8, xq_122_11_virtualc, xq_123_11_virtualc, xq_124_11_virtualc, xq_125_11_virtualc, xq_126_11_virtualc, xq_127_11_virtualc, xq_147_11_virtualc, xq_292_200_static, iN_add, iN_mul, iN_sub, iN_and, iN_or, iN_clr, iN_shl, iN_shr, tb_r1, b1_z, b1_or, b1_and, b1_or0, b1_or1, b1_0or, b1_t, b1_f, iN_lt, iN_inj, reduceIte, if_true, if_false, Nat.zero_add, Nat.add_zero, Bool.false_eq_true, Bool.true_eq_false, Nat.lt_irrefl, iN_az, not_true_eq_false, not_false_eq_true, Nat.reduceEqDiff, Nat.reduceLT, Nat.reduceAdd, Nat.reduceMul, Nat.reduceSub]
  exact e
end Pd
