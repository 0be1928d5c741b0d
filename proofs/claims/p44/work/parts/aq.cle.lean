/-! THE CLASS ITSELF: the present timetable -/
/-- c is the sign of the first lesson with p -/
def CHs (p : Nat → Prop) (n c : Nat) : Prop := (∃ l, l < n ∧ p l ∧ (∀ j, j < l → ¬ p j) ∧ c = 48 + l) ∨ ((∀ j, j < n → ¬ p j) ∧ c = 46)
def own (σ : Nat → Nat → Nat) (s r : Nat → Nat) (kd n y l : Nat) : Prop := (cov σ l (s l)).testBit y = true ∧ (if kd = 0 then σ 5 l else if kd = 1 then σ 6 l else r l) = n
/-- what print writes -/
def PRT (σ : Nat → Nat → Nat) (s r : Nat → Nat) (kd n : Nat) (f : Nat → Nat) : Prop := (∀ y, y < (σ 1 2) → CHs (own σ s r kd n y) (σ 1 6) (f (y + y / (σ 1 1)))) ∧ ((σ 1 0) = 2 → f (σ 1 1) = 124)
section Cle
variable {xs : List Int32} {σ M N K M' : Nat → Nat → Nat} {R : ab_H} {d e k a b c u i n m l x y v set g t kd : Nat} {s r s0 r0 f : Nat → Nat} {p : Nat → Prop}
set_option maxRecDepth 100000 in
theorem s_134x (O : Ok σ) (hu : u < 4294967296) (h : ¬ u < (σ 1 6)) : ev xs (d + 1) 134 0 ([.ref 0, .int (nI u)], [], hc σ M R) = some (.inr 2, hc σ M (R ++ [ex9])) := by
  have e := (s_166 (xs := xs) (d := d) (M := M) (R := R) O hu).2 h
  simp (disch := first | assumption | omega | exact st8_a (Nat.le_of_ble_eq_true rfl)) only [e, af_x, eb_134_0, xr_1, xr_2, xr_28, xr_3, xr_4, xr_5, af_0, af_1, xt_ib, xt_ic, xt_ir, gF_0_1, xq_165_11_virtualc, xq_166_11_virtualc, iN_add, iN_mul, iN_sub, iN_and, iN_or, iN_clr, iN_shl, iN_shr, tb_r1, b1_z, b1_or, b1_and, b1_or0, b1_or1, b1_0or, b1_t, b1_f, iN_lt, iN_inj, reduceIte, if_true, if_false, Nat.zero_add, Nat.add_zero, Bool.false_eq_true, Bool.true_eq_false, Nat.lt_irrefl, iN_az, not_true_eq_false, not_false_eq_true, Nat.reduceEqDiff, Nat.reduceLT, Nat.reduceAdd, Nat.reduceMul, Nat.reduceSub]
set_option maxRecDepth 100000 in
theorem s_134y (O : Ok σ) (hl : l < (σ 1 6)) (h12 : M 12 0 = 0) : ev xs (d + 1) 134 0 ([.ref 0, .int (nI l)], [], hc σ M R) = some (.inr 1, hc σ M (R ++ [ex9])) := by
  obtain ⟨hD1, hD2, hH1, hH2, hS, hC, hT, hR, hL, hQ⟩ := Ok_b O
  have e := (s_166 (xs := xs) (d := d) (M := M) (R := R) O (show l < 4294967296 by omega)).1 hl
  have a3 := (s_165 (xs := xs) (d := d) (σ := σ) (M := M) (R := R) (by rw [h12]; decide)).2 (by omega)
  simp (disch := first | assumption | omega | exact st8_a (Nat.le_of_ble_eq_true rfl)) only [e, a3, af_x, eb_134_0, eb_134_1, xr_1, xr_2, xr_28, xr_3, xr_4, xr_5, af_0, af_1, xt_ib, xt_ic, xt_ir, gF_0_1, xq_165_11_virtualc, xq_166_11_virtualc, iN_add, iN_mul, iN_sub, iN_and, iN_or, iN_clr, iN_shl, iN_shr, tb_r1, b1_z, b1_or, b1_and, b1_or0, b1_or1, b1_0or, b1_t, b1_f, iN_lt, iN_inj, reduceIte, if_true, if_false, Nat.zero_add, Nat.add_zero, Bool.false_eq_true, Bool.true_eq_false, Nat.lt_irrefl, iN_az, not_true_eq_false, not_false_eq_true, Nat.reduceEqDiff, Nat.reduceLT, Nat.reduceAdd, Nat.reduceMul, Nat.reduceSub]
set_option maxRecDepth 100000 in
theorem s_134 (O : Ok σ) (hl : l < (σ 1 6)) (h12 : M 12 0 = 1) : ev xs (d + 1) 134 0 ([.ref 0, .int (nI l)], [], hc σ M R) = some (.inl (some (.int (nI (10 * M 13 l + M 14 l)))), hc σ M R) := by
  obtain ⟨hD1, hD2, hH1, hH2, hS, hC, hT, hR, hL, hQ⟩ := Ok_b O
  have h12t : TT 12 := by decide
  have e := (s_166 (xs := xs) (d := d) (M := M) (R := R) O (show l < 4294967296 by omega)).1 hl
  have a3 := (s_165 (xs := xs) (d := d) (σ := σ) (M := M) (R := R) (by rw [h12]; decide)).1 h12
  have e2 := s_100 (xs := xs) (d := d) (σ := σ) (M := M) (R := R) h12t (show l < 6 by omega)
  simp (disch := first | assumption | omega | exact st8_a (Nat.le_of_ble_eq_true rfl)) only [e, a3, e2, eb_134_0, eb_134_1, eb_134_2, eb_134_3, xr_1, xr_2, xr_28, xr_3, xr_4, xr_5, af_0, af_1, xt_ib, xt_ic, xt_ir, gF_0_1, xq_100_9_virtualt h12t, xq_165_11_virtualc, xq_166_11_virtualc, iN_add, iN_mul, iN_sub, iN_and, iN_or, iN_clr, iN_shl, iN_shr, tb_r1, b1_z, b1_or, b1_and, b1_or0, b1_or1, b1_0or, b1_t, b1_f, iN_lt, iN_inj, reduceIte, if_true, if_false, Nat.zero_add, Nat.add_zero, Bool.false_eq_true, Bool.true_eq_false, Nat.lt_irrefl, iN_az, not_true_eq_false, not_false_eq_true, Nat.reduceEqDiff, Nat.reduceLT, Nat.reduceAdd, Nat.reduceMul, Nat.reduceSub]
set_option maxRecDepth 100000 in
theorem s_133x (O : Ok σ) (ha : a < 4294967296) (hb : b < 4294967296) (hcc : c < 4294967296) (h : ¬ (a < (σ 1 6) ∧ b < (σ 1 2) ∧ c < (σ 1 5))) : ev xs (d + 1) 133 0 ([.ref 0, .int (nI a), .int (nI b), .int (nI c), .retAddr 9], [], hc σ M R) = some (.inr 2, hc σ M (R ++ [ex9])) := by
  by_cases h1 : a < (σ 1 6)
  · have e := (s_166 (xs := xs) (d := d) (M := M) (R := R) O ha).1 h1
    by_cases h2 : b < (σ 1 2)
    · have e2 := (s_169 (xs := xs) (d := d) (M := M) (R := R) O hb).1 h2
      have e3 := (s_168 (xs := xs) (d := d) (M := M) (R := R) O hcc).2 fun z => h ⟨h1, h2, z⟩
      simp (disch := first | assumption | omega | exact st8_a (Nat.le_of_ble_eq_true rfl)) only [e, e2, e3, af_x, eb_133_0, eb_133_1, eb_133_2, kl_a, kl_d, kl_f, kl_i, kl_l, kl_n, kl_r, xr_1, xr_2, xr_28, xr_3, xr_31, xr_33, xr_34, xr_37, xr_4, xr_5, xr_64, af_0, af_1, xt_goto, xt_ib, xt_ic, xt_if_eq, xt_ir, gF_0_0, gF_0_1, gF_1_6, gW_2, gW_3, gW_4, gW_5, gW_6, gW_7, gW_8, gW_9, gW_10, gW_11, gW_13, gW_14, gW_16, gW_17, gW_20, gW_21, gW_22, gW_23, gW_24, gW_25, gW_26, gW_27, gW_30, gW_31, gW_32, gW_33, gW_34, gW_35, gW_36, gW_38, gW_39, gW_41, gW_42, gW_46, gW_47, gW_49, gW_50, gW_51, gW_53, gW_56, gW_57, gW_59, gW_60, xq_166_11_virtualc, xq_168_11_virtualc, xq_169_11_virtualc, iN_add, iN_mul, iN_sub, iN_and, iN_or, iN_clr, iN_shl, iN_shr, tb_r1, b1_z, b1_or, b1_and, b1_or0, b1_or1, b1_0or, b1_t, b1_f, iN_lt, iN_inj, reduceIte, if_true, if_false, Nat.zero_add, Nat.add_zero, Bool.false_eq_true, Bool.true_eq_false, Nat.lt_irrefl, iN_az, not_true_eq_false, not_false_eq_true, Nat.reduceEqDiff, Nat.reduceLT, Nat.reduceAdd, Nat.reduceMul, Nat.reduceSub]
    · have e2 := (s_169 (xs := xs) (d := d) (M := M) (R := R) O hb).2 h2
      simp (disch := first | assumption | omega | exact st8_a (Nat.le_of_ble_eq_true rfl)) only [e, e2, af_x, eb_133_0, eb_133_1, kl_a, kl_d, kl_f, kl_i, kl_l, kl_n, kl_r, xr_1, xr_2, xr_28, xr_3, xr_31, xr_33, xr_34, xr_37, xr_4, xr_5, xr_64, af_0, af_1, xt_goto, xt_ib, xt_ic, xt_if_eq, xt_ir, gF_0_0, gF_0_1, gF_1_6, gW_2, gW_3, gW_4, gW_5, gW_6, gW_7, gW_8, gW_9, gW_10, gW_11, gW_13, gW_14, gW_16, gW_17, gW_20, gW_21, gW_22, gW_23, gW_24, gW_25, gW_26, gW_27, gW_30, gW_31, gW_32, gW_33, gW_34, gW_35, gW_36, gW_38, gW_39, gW_41, gW_42, gW_46, gW_47, gW_49, gW_50, gW_51, gW_53, gW_56, gW_57, gW_59, gW_60, xq_166_11_virtualc, xq_168_11_virtualc, xq_169_11_virtualc, iN_add, iN_mul, iN_sub, iN_and, iN_or, iN_clr, iN_shl, iN_shr, tb_r1, b1_z, b1_or, b1_and, b1_or0, b1_or1, b1_0or, b1_t, b1_f, iN_lt, iN_inj, reduceIte, if_true, if_false, Nat.zero_add, Nat.add_zero, Bool.false_eq_true, Bool.true_eq_false, Nat.lt_irrefl, iN_az, not_true_eq_false, not_false_eq_true, Nat.reduceEqDiff, Nat.reduceLT, Nat.reduceAdd, Nat.reduceMul, Nat.reduceSub]
  · have e := (s_166 (xs := xs) (d := d) (M := M) (R := R) O ha).2 h1
    simp (disch := first | assumption | omega | exact st8_a (Nat.le_of_ble_eq_true rfl)) only [e, af_x, eb_133_0, kl_a, kl_d, kl_f, kl_i, kl_l, kl_n, kl_r, xr_1, xr_2, xr_28, xr_3, xr_31, xr_33, xr_34, xr_37, xr_4, xr_5, xr_64, af_0, af_1, xt_goto, xt_ib, xt_ic, xt_if_eq, xt_ir, gF_0_0, gF_0_1, gF_1_6, gW_2, gW_3, gW_4, gW_5, gW_6, gW_7, gW_8, gW_9, gW_10, gW_11, gW_13, gW_14, gW_16, gW_17, gW_20, gW_21, gW_22, gW_23, gW_24, gW_25, gW_26, gW_27, gW_30, gW_31, gW_32, gW_33, gW_34, gW_35, gW_36, gW_38, gW_39, gW_41, gW_42, gW_46, gW_47, gW_49, gW_50, gW_51, gW_53, gW_56, gW_57, gW_59, gW_60, xq_166_11_virtualc, xq_168_11_virtualc, xq_169_11_virtualc, iN_add, iN_mul, iN_sub, iN_and, iN_or, iN_clr, iN_shl, iN_shr, tb_r1, b1_z, b1_or, b1_and, b1_or0, b1_or1, b1_0or, b1_t, b1_f, iN_lt, iN_inj, reduceIte, if_true, if_false, Nat.zero_add, Nat.add_zero, Bool.false_eq_true, Bool.true_eq_false, Nat.lt_irrefl, iN_az, not_true_eq_false, not_false_eq_true, Nat.reduceEqDiff, Nat.reduceLT, Nat.reduceAdd, Nat.reduceMul, Nat.reduceSub]
set_option maxRecDepth 100000 in
theorem s_133 (O : Ok σ) (ha : a < (σ 1 6)) (hb : b < (σ 1 2)) (hcc : c < (σ 1 5)) (h12 : M 12 0 = 1) : ev xs (d + 2) 133 0 ([.ref 0, .int (nI a), .int (nI b), .int (nI c), .retAddr 9], [], hc σ M R) = some (.inl (some (.int (nI (10 * M 13 a + M 14 a)))), hc σ (up (up M 13 a b) 14 a c) R) := by
  obtain ⟨hD1, hD2, hH1, hH2, hS, hC, hT, hR, hL, hQ⟩ := Ok_b O
  have h12t : TT 12 := by decide
  have e1 := (s_166 (xs := xs) (d := d + 1) (M := M) (R := R) O (show a < 4294967296 by omega)).1 ha
  have e2 := (s_169 (xs := xs) (d := d + 1) (M := M) (R := R) O (show b < 4294967296 by omega)).1 hb
  have e3 := (s_168 (xs := xs) (d := d + 1) (M := M) (R := R) O (show c < 4294967296 by omega)).1 hcc
  have e4 := s_100 (xs := xs) (d := d + 1) (σ := σ) (M := M) (R := R) h12t (show a < 6 by omega)
  simp (disch := first | assumption | omega | exact st8_a (Nat.le_of_ble_eq_true rfl)) only [e1, e2, e3, e4, h12, eb_133_0, eb_133_1, eb_133_2, eb_133_3, eb_133_4, eb_133_5, eb_133_7, kl_a, kl_d, kl_f, kl_i, kl_l, kl_n, kl_r, xr_1, xr_2, xr_28, xr_3, xr_31, xr_33, xr_34, xr_37, xr_4, xr_5, xr_64, af_0, af_1, xt_goto, xt_ib, xt_ic, xt_if_eq, xt_ir, gF_0_0, gF_0_1, gF_1_6, gW_2, gW_3, gW_4, gW_5, gW_6, gW_7, gW_8, gW_9, gW_10, gW_11, gW_13, gW_14, gW_16, gW_17, gW_20, gW_21, gW_22, gW_23, gW_24, gW_25, gW_26, gW_27, gW_30, gW_31, gW_32, gW_33, gW_34, gW_35, gW_36, gW_38, gW_39, gW_41, gW_42, gW_46, gW_47, gW_49, gW_50, gW_51, gW_53, gW_56, gW_57, gW_59, gW_60, tF_0 h12t, tF_1 h12t, tF_2 h12t, tF_3 h12t, tA_1 h12t, tA_2 h12t, tW_1 h12t, tW_2 h12t, tP_0 h12t, tP_1 h12t, xq_100_9_virtualt h12t, xq_166_11_virtualc, xq_168_11_virtualc, xq_169_11_virtualc, xq_98_9_virtualt h12t, iN_add, iN_mul, iN_sub, iN_and, iN_or, iN_clr, iN_shl, iN_shr, tb_r1, b1_z, b1_or, b1_and, b1_or0, b1_or1, b1_0or, b1_t, b1_f, iN_lt, iN_inj, reduceIte, if_true, if_false, Nat.zero_add, Nat.add_zero, Bool.false_eq_true, Bool.true_eq_false, Nat.lt_irrefl, iN_az, not_true_eq_false, not_false_eq_true, Nat.reduceEqDiff, Nat.reduceLT, Nat.reduceAdd, Nat.reduceMul, Nat.reduceSub]
def beg (σ M : Nat → Nat → Nat) : Nat → Nat → Nat := ur (ur (up (up M 12 0 1) 12 1 (σ 1 6)) 13 fun _ => 0) 14 fun _ => 0
set_option maxRecDepth 100000 in
theorem s_133n (O : Ok σ) (ha : a < (σ 1 6)) (hb : b < (σ 1 2)) (hcc : c < (σ 1 5)) (h12 : M 12 0 = 0) : ev xs (d + 2) 133 0 ([.ref 0, .int (nI a), .int (nI b), .int (nI c), .retAddr 9], [], hc σ M R) = some (.inl (some (.int (nI (4294967295)))), hc σ (up (up (beg σ M) 13 a b) 14 a c) R) := by
  obtain ⟨hD1, hD2, hH1, hH2, hS, hC, hT, hR, hL, hQ⟩ := Ok_b O
  have h12t : TT 12 := by decide
  have e1 := (s_166 (xs := xs) (d := d + 1) (M := M) (R := R) O (show a < 4294967296 by omega)).1 ha
  have e2 := (s_169 (xs := xs) (d := d + 1) (M := M) (R := R) O (show b < 4294967296 by omega)).1 hb
  have e3 := (s_168 (xs := xs) (d := d + 1) (M := M) (R := R) O (show c < 4294967296 by omega)).1 hcc
  have e4 := s_98 (xs := xs) (d := d) (σ := σ) (M := M) (R := R) (n := (σ 1 6)) h12t
  rw [show ur (ur (up (up M 12 0 1) 12 1 (σ 1 6)) (12 + 1) fun _ => 0) (12 + 2) (fun _ => 0) = beg σ M from rfl] at e4
  simp (disch := first | assumption | omega | exact st8_a (Nat.le_of_ble_eq_true rfl)) only [e1, e2, e3, e4, h12, eb_133_0, eb_133_1, eb_133_2, eb_133_3, eb_133_6, eb_133_7, kl_a, kl_d, kl_f, kl_i, kl_l, kl_n, kl_r, xr_1, xr_2, xr_28, xr_3, xr_31, xr_33, xr_34, xr_37, xr_4, xr_5, xr_64, af_0, af_1, xt_goto, xt_ib, xt_ic, xt_if_eq, xt_ir, gF_0_0, gF_0_1, gF_1_6, gW_2, gW_3, gW_4, gW_5, gW_6, gW_7, gW_8, gW_9, gW_10, gW_11, gW_13, gW_14, gW_16, gW_17, gW_20, gW_21, gW_22, gW_23, gW_24, gW_25, gW_26, gW_27, gW_30, gW_31, gW_32, gW_33, gW_34, gW_35, gW_36, gW_38, gW_39, gW_41, gW_42, gW_46, gW_47, gW_49, gW_50, gW_51, gW_53, gW_56, gW_57, gW_59, gW_60, tF_0 h12t, tF_1 h12t, tF_2 h12t, tF_3 h12t, tA_1 h12t, tA_2 h12t, tW_1 h12t, tW_2 h12t, tP_0 h12t, tP_1 h12t, xq_100_9_virtualt h12t, xq_166_11_virtualc, xq_168_11_virtualc, xq_169_11_virtualc, xq_98_9_virtualt h12t, iN_add, iN_mul, iN_sub, iN_and, iN_or, iN_clr, iN_shl, iN_shr, tb_r1, b1_z, b1_or, b1_and, b1_or0, b1_or1, b1_0or, b1_t, b1_f, iN_lt, iN_inj, reduceIte, if_true, if_false, Nat.zero_add, Nat.add_zero, Bool.false_eq_true, Bool.true_eq_false, Nat.lt_irrefl, iN_az, not_true_eq_false, not_false_eq_true, Nat.reduceEqDiff, Nat.reduceLT, Nat.reduceAdd, Nat.reduceMul, Nat.reduceSub]
set_option maxRecDepth 100000 in
theorem s_135y (h12 : M 12 0 = 0) : ev xs (d + 1) 135 0 ([.ref 0], [], hc σ M R) = some (.inr 1, hc σ M (R ++ [ex9])) := by
  have a3 := (s_165 (xs := xs) (d := d) (σ := σ) (M := M) (R := R) (by rw [h12]; decide)).2 (by omega)
  simp (disch := first | assumption | omega | exact st8_a (Nat.le_of_ble_eq_true rfl)) only [a3, af_x, eb_135_0, xr_1, xr_2, xr_3, xr_4, xr_5, af_0, af_1, xt_ib, xt_ic, xt_ir, gF_0_1, gF_0_3, xq_15_2_virtualc, xq_165_11_virtualc, iN_add, iN_mul, iN_sub, iN_and, iN_or, iN_clr, iN_shl, iN_shr, tb_r1, b1_z, b1_or, b1_and, b1_or0, b1_or1, b1_0or, b1_t, b1_f, iN_lt, iN_inj, reduceIte, if_true, if_false, Nat.zero_add, Nat.add_zero, Bool.false_eq_true, Bool.true_eq_false, Nat.lt_irrefl, iN_az, not_true_eq_false, not_false_eq_true, Nat.reduceEqDiff, Nat.reduceLT, Nat.reduceAdd, Nat.reduceMul, Nat.reduceSub]
set_option maxRecDepth 100000 in
theorem s_135 (O : Ok σ) (h12 : M 12 0 = 1) (hb : ∀ l, l < (σ 1 6) → M 13 l < (σ 1 2) ∧ M 14 l < (σ 1 5)) : ev xs (d + 4) 135 0 ([.ref 0], [], hc σ M R) = some (.inl (some (.int (nI (brk σ (M 13) (M 14))))), hc σ M R) := by
  have h12t : TT 12 := by decide
  have a3 := (s_165 (xs := xs) (d := d + 3) (σ := σ) (M := M) (R := R) (by rw [h12]; decide)).1 h12
  have e := s_15 (xs := xs) (d := d) (M := M) (R := R) O h12t (fun l hl => (hb l hl).1) fun l hl => (hb l hl).2
  clear hb
  simp (disch := first | assumption | omega | exact st8_a (Nat.le_of_ble_eq_true rfl)) only [a3, e, eb_135_0, eb_135_1, eb_135_2, xr_1, xr_2, xr_3, xr_4, xr_5, af_0, af_1, xt_ib, xt_ic, xt_ir, gF_0_1, gF_0_3, xq_15_2_virtualc, xq_165_11_virtualc, iN_add, iN_mul, iN_sub, iN_and, iN_or, iN_clr, iN_shl, iN_shr, tb_r1, b1_z, b1_or, b1_and, b1_or0, b1_or1, b1_0or, b1_t, b1_f, iN_lt, iN_inj, reduceIte, if_true, if_false, Nat.zero_add, Nat.add_zero, Bool.false_eq_true, Bool.true_eq_false, Nat.lt_irrefl, iN_az, not_true_eq_false, not_false_eq_true, Nat.reduceEqDiff, Nat.reduceLT, Nat.reduceAdd, Nat.reduceMul, Nat.reduceSub]
set_option maxRecDepth 100000 in
theorem s_136y (h12 : M 12 0 = 0) : ev xs (d + 1) 136 0 ([.ref 0], [], hc σ M R) = some (.inr 1, hc σ M (R ++ [ex9])) := by
  have a3 := (s_165 (xs := xs) (d := d) (σ := σ) (M := M) (R := R) (by rw [h12]; decide)).2 (by omega)
  simp (disch := first | assumption | omega | exact st8_a (Nat.le_of_ble_eq_true rfl)) only [a3, af_x, eb_136_0, xr_1, xr_2, xr_3, xr_4, xr_5, af_0, af_1, xt_ib, xt_ic, xt_ir, gF_0_1, gF_0_3, xq_13_2_virtualc, xq_165_11_virtualc, iN_add, iN_mul, iN_sub, iN_and, iN_or, iN_clr, iN_shl, iN_shr, tb_r1, b1_z, b1_or, b1_and, b1_or0, b1_or1, b1_0or, b1_t, b1_f, iN_lt, iN_inj, reduceIte, if_true, if_false, Nat.zero_add, Nat.add_zero, Bool.false_eq_true, Bool.true_eq_false, Nat.lt_irrefl, iN_az, not_true_eq_false, not_false_eq_true, Nat.reduceEqDiff, Nat.reduceLT, Nat.reduceAdd, Nat.reduceMul, Nat.reduceSub]
set_option maxRecDepth 100000 in
theorem s_136 (O : Ok σ) (h12 : M 12 0 = 1) (hb : ∀ l, l < (σ 1 6) → M 13 l < (σ 1 2) ∧ M 14 l < (σ 1 5)) : ev xs (d + 3) 136 0 ([.ref 0], [], hc σ M R) = some (.inl (some (.int (nI (flt σ (M 13) (M 14))))), hc σ M R) := by
  have h12t : TT 12 := by decide
  have a3 := (s_165 (xs := xs) (d := d + 2) (σ := σ) (M := M) (R := R) (by rw [h12]; decide)).1 h12
  have e := s_13 (xs := xs) (d := d) (M := M) (R := R) O h12t (fun l hl => (hb l hl).1) fun l hl => (hb l hl).2
  clear hb
  simp (disch := first | assumption | omega | exact st8_a (Nat.le_of_ble_eq_true rfl)) only [a3, e, eb_136_0, eb_136_1, eb_136_2, xr_1, xr_2, xr_3, xr_4, xr_5, af_0, af_1, xt_ib, xt_ic, xt_ir, gF_0_1, gF_0_3, xq_13_2_virtualc, xq_165_11_virtualc, iN_add, iN_mul, iN_sub, iN_and, iN_or, iN_clr, iN_shl, iN_shr, tb_r1, b1_z, b1_or, b1_and, b1_or0, b1_or1, b1_0or, b1_t, b1_f, iN_lt, iN_inj, reduceIte, if_true, if_false, Nat.zero_add, Nat.add_zero, Bool.false_eq_true, Bool.true_eq_false, Nat.lt_irrefl, iN_az, not_true_eq_false, not_false_eq_true, Nat.reduceEqDiff, Nat.reduceLT, Nat.reduceAdd, Nat.reduceMul, Nat.reduceSub]
set_option maxRecDepth 100000 in
theorem s_132y (h12 : M 12 0 = 0) : ev xs (d + 1) 132 0 ([.ref 0], [], hc σ M R) = some (.inr 1, hc σ M (R ++ [ex9])) := by
  have a3 := (s_165 (xs := xs) (d := d) (σ := σ) (M := M) (R := R) (by rw [h12]; decide)).2 (by omega)
  simp (disch := first | assumption | omega | exact st8_a (Nat.le_of_ble_eq_true rfl)) only [a3, af_x, eb_132_0, xr_1, xr_10, xr_2, xr_3, xr_4, xr_5, xr_64, af_0, af_1, xt_goto, xt_ib, xt_ic, xt_if_eq, xt_ir, xt_nop, gF_0_1, gF_0_5, xq_163_11_virtualc, xq_165_11_virtualc, xq_76_7_virtualc, iN_add, iN_mul, iN_sub, iN_and, iN_or, iN_clr, iN_shl, iN_shr, tb_r1, b1_z, b1_or, b1_and, b1_or0, b1_or1, b1_0or, b1_t, b1_f, iN_lt, iN_inj, reduceIte, if_true, if_false, Nat.zero_add, Nat.add_zero, Bool.false_eq_true, Bool.true_eq_false, Nat.lt_irrefl, iN_az, not_true_eq_false, not_false_eq_true, Nat.reduceEqDiff, Nat.reduceLT, Nat.reduceAdd, Nat.reduceMul, Nat.reduceSub]
set_option maxRecDepth 100000 in
theorem s_137y (h12 : M 12 0 = 0) : ev xs (d + 1) 137 0 ([.ref 0, .retAddr 9, .retAddr 9], [], hc σ M R) = some (.inr 1, hc σ M (R ++ [ex9])) := by
  have a3 := (s_165 (xs := xs) (d := d) (σ := σ) (M := M) (R := R) (by rw [h12]; decide)).2 (by omega)
  simp (disch := first | assumption | omega | exact st8_a (Nat.le_of_ble_eq_true rfl)) only [a3, af_x, eb_137_0, kl_a, kl_d, kl_f, kl_i, kl_l, kl_n, kl_r, xr_1, xr_10, xr_2, xr_27, xr_28, xr_29, xr_3, xr_30, xr_31, xr_4, xr_5, xr_64, af_0, af_1, xt_goto, xt_ib, xt_ic, xt_ic_ne, xt_if_eq, xt_ir, xt_nop, gF_0_1, gF_0_2, xq_165_11_virtualc, iN_add, iN_mul, iN_sub, iN_and, iN_or, iN_clr, iN_shl, iN_shr, tb_r1, b1_z, b1_or, b1_and, b1_or0, b1_or1, b1_0or, b1_t, b1_f, iN_lt, iN_inj, reduceIte, if_true, if_false, Nat.zero_add, Nat.add_zero, Bool.false_eq_true, Bool.true_eq_false, Nat.lt_irrefl, iN_az, not_true_eq_false, not_false_eq_true, Nat.reduceEqDiff, Nat.reduceLT, Nat.reduceAdd, Nat.reduceMul, Nat.reduceSub]
set_option maxRecDepth 100000 in
theorem s_137 (O : Ok σ) (h12 : M 12 0 = 1) (h121 : M 12 1 = (σ 1 6)) (hb : ∀ l, l < (σ 1 6) → M 13 l < (σ 1 2) ∧ M 14 l < (σ 1 5)) (h15 : M 15 0 < 2) (h151 : M 15 1 ≤ 6) (hb2 : M 15 0 = 1 → ∀ l, l < M 15 1 → M 16 l < 6 ∧ M 17 l < 3) : ev xs (d + 1) 137 0 ([.ref 0, .retAddr 9, .retAddr 9], [], hc σ M R) = some (.inl (some (.int (nI (if M 15 0 = 1 ∧ M 15 1 = (σ 1 6) then dif (σ 1 6) (M 13) (M 14) (M 16) (M 17) else 4294967295)))), hc σ (cpt M 15 12) R) := by
  obtain ⟨hD1, hD2, hH1, hH2, hS, hC, hT, hR, hL, hQ⟩ := Ok_b O
  have h12t : TT 12 := by decide
  have h15t : TT 15 := by decide
  have a3 := (s_165 (xs := xs) (d := d) (σ := σ) (M := M) (R := R) (by rw [h12]; decide)).1 h12
  have e2 := s_99 (xs := xs) (d := d) (σ := σ) (M := M) (R := R) h15t h12t (by decide) (by rw [h12]; decide)
  by_cases h : M 15 0 = 1
  · by_cases h1 : M 15 1 = (σ 1 6)
    · have e1 := s_101 (xs := xs) (d := d) (σ := σ) (M := M) (R := R) (n := (σ 1 6)) h12t h15t h121 hL fun l hl => by
        have q1 := hb l hl
        have q2 := hb2 h l (by omega)
        show M 13 l < _ ∧ M 14 l < _ ∧ M 16 l < _ ∧ M 17 l < _
        omega
      rw [show (12 : Nat) + 1 = 13 from rfl, show (12 : Nat) + 2 = 14 from rfl, show (15 : Nat) + 1 = 16 from rfl, show (15 : Nat) + 2 = 17 from rfl] at e1
      rw [if_pos ⟨h, h1⟩]
      clear hb hb2
      simp (disch := first | assumption | omega | exact st8_a (Nat.le_of_ble_eq_true rfl)) only [a3, h, h1, h121, e1, e2, eb_137_0, eb_137_1, eb_137_2, eb_137_3, eb_137_5, eb_137_6, eb_137_7, eb_137_9, eb_137_10, kl_a, kl_d, kl_f, kl_i, kl_l, kl_n, kl_r, xr_1, xr_10, xr_2, xr_27, xr_28, xr_29, xr_3, xr_30, xr_31, xr_4, xr_5, xr_64, af_0, af_1, xt_goto, xt_ib, xt_ic, xt_ic_ne, xt_if_eq, xt_ir, xt_nop, gF_0_1, gF_0_2, tF_0 h12t, tF_1 h12t, tF_2 h12t, tF_3 h12t, tA_1 h12t, tA_2 h12t, tW_1 h12t, tW_2 h12t, tP_0 h12t, tP_1 h12t, tF_0 h15t, tF_1 h15t, tF_2 h15t, tF_3 h15t, tA_1 h15t, tA_2 h15t, tW_1 h15t, tW_2 h15t, tP_0 h15t, tP_1 h15t, tC_1 h12t h15t, tC_2 h12t h15t, tC_1 h15t h12t, tC_2 h15t h12t, xq_101_9_virtualt h12t, xq_101_9_virtualt h15t, xq_165_11_virtualc, xq_99_9_virtualt h12t, xq_99_9_virtualt h15t, iN_add, iN_mul, iN_sub, iN_and, iN_or, iN_clr, iN_shl, iN_shr, tb_r1, b1_z, b1_or, b1_and, b1_or0, b1_or1, b1_0or, b1_t, b1_f, iN_lt, iN_inj, reduceIte, if_true, if_false, Nat.zero_add, Nat.add_zero, Bool.false_eq_true, Bool.true_eq_false, Nat.lt_irrefl, iN_az, not_true_eq_false, not_false_eq_true, Nat.reduceEqDiff, Nat.reduceLT, Nat.reduceAdd, Nat.reduceMul, Nat.reduceSub]
    · rw [if_neg (fun z => h1 z.2)]
      clear hb hb2
      simp (disch := first | assumption | omega | exact st8_a (Nat.le_of_ble_eq_true rfl)) only [a3, h, h1, h121, e2, eb_137_0, eb_137_1, eb_137_2, eb_137_4, eb_137_5, eb_137_8, eb_137_9, eb_137_10, kl_a, kl_d, kl_f, kl_i, kl_l, kl_n, kl_r, xr_1, xr_10, xr_2, xr_27, xr_28, xr_29, xr_3, xr_30, xr_31, xr_4, xr_5, xr_64, af_0, af_1, xt_goto, xt_ib, xt_ic, xt_ic_ne, xt_if_eq, xt_ir, xt_nop, gF_0_1, gF_0_2, tF_0 h12t, tF_1 h12t, tF_2 h12t, tF_3 h12t, tA_1 h12t, tA_2 h12t, tW_1 h12t, tW_2 h12t, tP_0 h12t, tP_1 h12t, tF_0 h15t, tF_1 h15t, tF_2 h15t, tF_3 h15t, tA_1 h15t, tA_2 h15t, tW_1 h15t, tW_2 h15t, tP_0 h15t, tP_1 h15t, tC_1 h12t h15t, tC_2 h12t h15t, tC_1 h15t h12t, tC_2 h15t h12t, xq_101_9_virtualt h12t, xq_101_9_virtualt h15t, xq_165_11_virtualc, xq_99_9_virtualt h12t, xq_99_9_virtualt h15t, iN_add, iN_mul, iN_sub, iN_and, iN_or, iN_clr, iN_shl, iN_shr, tb_r1, b1_z, b1_or, b1_and, b1_or0, b1_or1, b1_0or, b1_t, b1_f, iN_lt, iN_inj, reduceIte, if_true, if_false, Nat.zero_add, Nat.add_zero, Bool.false_eq_true, Bool.true_eq_false, Nat.lt_irrefl, iN_az, not_true_eq_false, not_false_eq_true, Nat.reduceEqDiff, Nat.reduceLT, Nat.reduceAdd, Nat.reduceMul, Nat.reduceSub]
  · have h0 : M 15 0 = 0 := by omega
    rw [if_neg (fun z => h z.1)]
    clear hb hb2
    simp (disch := first | assumption | omega | exact st8_a (Nat.le_of_ble_eq_true rfl)) only [a3, h0, e2, eb_137_0, eb_137_1, eb_137_4, eb_137_5, eb_137_8, eb_137_9, eb_137_10, kl_a, kl_d, kl_f, kl_i, kl_l, kl_n, kl_r, xr_1, xr_10, xr_2, xr_27, xr_28, xr_29, xr_3, xr_30, xr_31, xr_4, xr_5, xr_64, af_0, af_1, xt_goto, xt_ib, xt_ic, xt_ic_ne, xt_if_eq, xt_ir, xt_nop, gF_0_1, gF_0_2, tF_0 h12t, tF_1 h12t, tF_2 h12t, tF_3 h12t, tA_1 h12t, tA_2 h12t, tW_1 h12t, tW_2 h12t, tP_0 h12t, tP_1 h12t, tF_0 h15t, tF_1 h15t, tF_2 h15t, tF_3 h15t, tA_1 h15t, tA_2 h15t, tW_1 h15t, tW_2 h15t, tP_0 h15t, tP_1 h15t, tC_1 h12t h15t, tC_2 h12t h15t, tC_1 h15t h12t, tC_2 h15t h12t, xq_101_9_virtualt h12t, xq_101_9_virtualt h15t, xq_165_11_virtualc, xq_99_9_virtualt h12t, xq_99_9_virtualt h15t, iN_add, iN_mul, iN_sub, iN_and, iN_or, iN_clr, iN_shl, iN_shr, tb_r1, b1_z, b1_or, b1_and, b1_or0, b1_or1, b1_0or, b1_t, b1_f, iN_lt, iN_inj, reduceIte, if_true, if_false, Nat.zero_add, Nat.add_zero, Bool.false_eq_true, Bool.true_eq_false, Nat.lt_irrefl, iN_az, not_true_eq_false, not_false_eq_true, Nat.reduceEqDiff, Nat.reduceLT, Nat.reduceAdd, Nat.reduceMul, Nat.reduceSub]
set_option maxRecDepth 100000 in
theorem s_138 (O : Ok σ) (h12 : M 12 0 < 2) (h121 : M 12 0 = 1 → M 12 1 = (σ 1 6)) (hb : M 12 0 = 1 → ∀ l, l < (σ 1 6) → M 13 l < (σ 1 2) ∧ M 14 l < (σ 1 5)) (h15 : M 15 0 < 2) (h151 : M 15 1 ≤ 6) (hb2 : M 15 0 = 1 → ∀ l, l < M 15 1 → M 16 l < 6 ∧ M 17 l < 3) : (¬ (M 15 0 = 1 ∧ M 15 1 = (σ 1 6) ∧ ∀ l, l < (σ 1 6) → M 16 l < (σ 1 2) ∧ M 17 l < (σ 1 5)) ∧ ev xs (d + 1) 138 0 ([.ref 0, .retAddr 9], [], hc σ M R) = some (.inr 1, hc σ M (R ++ [ex9]))) ∨ ((M 15 0 = 1 ∧ M 15 1 = (σ 1 6) ∧ ∀ l, l < (σ 1 6) → M 16 l < (σ 1 2) ∧ M 17 l < (σ 1 5)) ∧ ev xs (d + 1) 138 0 ([.ref 0, .retAddr 9], [], hc σ M R) = some (.inl (some (.int (nI (if M 12 0 = 1 then dif (σ 1 6) (M 13) (M 14) (M 16) (M 17) else 4294967295)))), hc σ (cpt M 12 15) R)) := by
  obtain ⟨hD1, hD2, hH1, hH2, hS, hC, hT, hR, hL, hQ⟩ := Ok_b O
  have h12t : TT 12 := by decide
  have h15t : TT 15 := by decide
  by_cases h : M 15 0 = 1
  · by_cases h1 : M 15 1 = (σ 1 6)
    · obtain ⟨bb, hbb, e0⟩ := s_102 (xs := xs) (d := d) (σ := σ) (M := M) (R := R) (n := (σ 1 6)) O h15t h1 hL fun l hl => by
        have q2 := hb2 h l (by omega)
        show M 16 l < _ ∧ M 17 l < _
        omega
      rw [show (15 : Nat) + 1 = 16 from rfl, show (15 : Nat) + 2 = 17 from rfl] at hbb
      cases bb
      · refine .inl ⟨fun z => ?_, ?_⟩
        · have := hbb.mpr z.2.2
          cases this
        · clear hb hb2 h121 hbb
          simp (disch := first | assumption | omega | exact st8_a (Nat.le_of_ble_eq_true rfl)) only [h, h1, e0, hc_app, eb_138_0, eb_138_1, eb_138_3, eb_138_4, eb_138_5, kl_a, kl_d, kl_f, kl_i, kl_l, kl_n, kl_r, xr_1, xr_2, xr_28, xr_29, xr_3, xr_4, xr_5, xr_64, af_0, af_1, xt_goto, xt_ib, xt_ic, xt_ic_eq, xt_if_eq, xt_if_ne, xt_ir, xt_nop, xt_th, gF_0_0, gF_0_1, gF_0_2, gF_1_6, tF_0 h12t, tF_1 h12t, tF_2 h12t, tF_3 h12t, tA_1 h12t, tA_2 h12t, tW_1 h12t, tW_2 h12t, tP_0 h12t, tP_1 h12t, tF_0 h15t, tF_1 h15t, tF_2 h15t, tF_3 h15t, tA_1 h15t, tA_2 h15t, tW_1 h15t, tW_2 h15t, tP_0 h15t, tP_1 h15t, tC_1 h12t h15t, tC_2 h12t h15t, tC_1 h15t h12t, tC_2 h15t h12t, xq_101_9_virtualt h12t, xq_101_9_virtualt h15t, xq_102_9_virtualt h12t, xq_102_9_virtualt h15t, xq_99_9_virtualt h12t, xq_99_9_virtualt h15t, iN_add, iN_mul, iN_sub, iN_and, iN_or, iN_clr, iN_shl, iN_shr, tb_r1, b1_z, b1_or, b1_and, b1_or0, b1_or1, b1_0or, b1_t, b1_f, iN_lt, iN_inj, reduceIte, if_true, if_false, Nat.zero_add, Nat.add_zero, Bool.false_eq_true, Bool.true_eq_false, Nat.lt_irrefl, iN_az, not_true_eq_false, not_false_eq_true, Nat.reduceEqDiff, Nat.reduceLT, Nat.reduceAdd, Nat.reduceMul, Nat.reduceSub]
      · have hst := hbb.mp rfl
        refine .inr ⟨⟨h, h1, hst⟩, ?_⟩
        have e2 := s_99 (xs := xs) (d := d) (σ := σ) (M := M) (R := R) h12t h15t (by decide) (by rw [h]; decide)
        by_cases h2 : M 12 0 = 1
        · have e1 := s_101 (xs := xs) (d := d) (σ := σ) (M := M) (R := R) (n := (σ 1 6)) h12t h15t (h121 h2) hL fun l hl => by
            have q1 := hb h2 l hl
            have q2 := hb2 h l (by omega)
            show M 13 l < _ ∧ M 14 l < _ ∧ M 16 l < _ ∧ M 17 l < _
            omega
          rw [show (12 : Nat) + 1 = 13 from rfl, show (12 : Nat) + 2 = 14 from rfl, show (15 : Nat) + 1 = 16 from rfl, show (15 : Nat) + 2 = 17 from rfl] at e1
          rw [if_pos h2]
          clear hb hb2 h121 hbb hst
          simp (disch := first | assumption | omega | exact st8_a (Nat.le_of_ble_eq_true rfl)) only [h, h1, e0, h2, e1, e2, eb_138_0, eb_138_1, eb_138_3, eb_138_4, eb_138_6, eb_138_7, eb_138_8, eb_138_10, eb_138_11, kl_a, kl_d, kl_f, kl_i, kl_l, kl_n, kl_r, xr_1, xr_2, xr_28, xr_29, xr_3, xr_4, xr_5, xr_64, af_0, af_1, xt_goto, xt_ib, xt_ic, xt_ic_eq, xt_if_eq, xt_if_ne, xt_ir, xt_nop, xt_th, gF_0_0, gF_0_1, gF_0_2, gF_1_6, tF_0 h12t, tF_1 h12t, tF_2 h12t, tF_3 h12t, tA_1 h12t, tA_2 h12t, tW_1 h12t, tW_2 h12t, tP_0 h12t, tP_1 h12t, tF_0 h15t, tF_1 h15t, tF_2 h15t, tF_3 h15t, tA_1 h15t, tA_2 h15t, tW_1 h15t, tW_2 h15t, tP_0 h15t, tP_1 h15t, tC_1 h12t h15t, tC_2 h12t h15t, tC_1 h15t h12t, tC_2 h15t h12t, xq_101_9_virtualt h12t, xq_101_9_virtualt h15t, xq_102_9_virtualt h12t, xq_102_9_virtualt h15t, xq_99_9_virtualt h12t, xq_99_9_virtualt h15t, iN_add, iN_mul, iN_sub, iN_and, iN_or, iN_clr, iN_shl, iN_shr, tb_r1, b1_z, b1_or, b1_and, b1_or0, b1_or1, b1_0or, b1_t, b1_f, iN_lt, iN_inj, reduceIte, if_true, if_false, Nat.zero_add, Nat.add_zero, Bool.false_eq_true, Bool.true_eq_false, Nat.lt_irrefl, iN_az, not_true_eq_false, not_false_eq_true, Nat.reduceEqDiff, Nat.reduceLT, Nat.reduceAdd, Nat.reduceMul, Nat.reduceSub]
        · have h0 : M 12 0 = 0 := by omega
          rw [if_neg h2]
          clear hb hb2 h121 hbb hst
          simp (disch := first | assumption | omega | exact st8_a (Nat.le_of_ble_eq_true rfl)) only [h, h1, e0, h0, e2, eb_138_0, eb_138_1, eb_138_3, eb_138_4, eb_138_6, eb_138_9, eb_138_10, eb_138_11, kl_a, kl_d, kl_f, kl_i, kl_l, kl_n, kl_r, xr_1, xr_2, xr_28, xr_29, xr_3, xr_4, xr_5, xr_64, af_0, af_1, xt_goto, xt_ib, xt_ic, xt_ic_eq, xt_if_eq, xt_if_ne, xt_ir, xt_nop, xt_th, gF_0_0, gF_0_1, gF_0_2, gF_1_6, tF_0 h12t, tF_1 h12t, tF_2 h12t, tF_3 h12t, tA_1 h12t, tA_2 h12t, tW_1 h12t, tW_2 h12t, tP_0 h12t, tP_1 h12t, tF_0 h15t, tF_1 h15t, tF_2 h15t, tF_3 h15t, tA_1 h15t, tA_2 h15t, tW_1 h15t, tW_2 h15t, tP_0 h15t, tP_1 h15t, tC_1 h12t h15t, tC_2 h12t h15t, tC_1 h15t h12t, tC_2 h15t h12t, xq_101_9_virtualt h12t, xq_101_9_virtualt h15t, xq_102_9_virtualt h12t, xq_102_9_virtualt h15t, xq_99_9_virtualt h12t, xq_99_9_virtualt h15t, iN_add, iN_mul, iN_sub, iN_and, iN_or, iN_clr, iN_shl, iN_shr, tb_r1, b1_z, b1_or, b1_and, b1_or0, b1_or1, b1_0or, b1_t, b1_f, iN_lt, iN_inj, reduceIte, if_true, if_false, Nat.zero_add, Nat.add_zero, Bool.false_eq_true, Bool.true_eq_false, Nat.lt_irrefl, iN_az, not_true_eq_false, not_false_eq_true, Nat.reduceEqDiff, Nat.reduceLT, Nat.reduceAdd, Nat.reduceMul, Nat.reduceSub]
    · refine .inl ⟨fun z => h1 z.2.1, ?_⟩
      clear hb hb2 h121
      simp (disch := first | assumption | omega | exact st8_a (Nat.le_of_ble_eq_true rfl)) only [h, h1, hc_app, eb_138_0, eb_138_1, eb_138_2, kl_a, kl_d, kl_f, kl_i, kl_l, kl_n, kl_r, xr_1, xr_2, xr_28, xr_29, xr_3, xr_4, xr_5, xr_64, af_0, af_1, xt_goto, xt_ib, xt_ic, xt_ic_eq, xt_if_eq, xt_if_ne, xt_ir, xt_nop, xt_th, gF_0_0, gF_0_1, gF_0_2, gF_1_6, tF_0 h12t, tF_1 h12t, tF_2 h12t, tF_3 h12t, tA_1 h12t, tA_2 h12t, tW_1 h12t, tW_2 h12t, tP_0 h12t, tP_1 h12t, tF_0 h15t, tF_1 h15t, tF_2 h15t, tF_3 h15t, tA_1 h15t, tA_2 h15t, tW_1 h15t, tW_2 h15t, tP_0 h15t, tP_1 h15t, tC_1 h12t h15t, tC_2 h12t h15t, tC_1 h15t h12t, tC_2 h15t h12t, xq_101_9_virtualt h12t, xq_101_9_virtualt h15t, xq_102_9_virtualt h12t, xq_102_9_virtualt h15t, xq_99_9_virtualt h12t, xq_99_9_virtualt h15t, iN_add, iN_mul, iN_sub, iN_and, iN_or, iN_clr, iN_shl, iN_shr, tb_r1, b1_z, b1_or, b1_and, b1_or0, b1_or1, b1_0or, b1_t, b1_f, iN_lt, iN_inj, reduceIte, if_true, if_false, Nat.zero_add, Nat.add_zero, Bool.false_eq_true, Bool.true_eq_false, Nat.lt_irrefl, iN_az, not_true_eq_false, not_false_eq_true, Nat.reduceEqDiff, Nat.reduceLT, Nat.reduceAdd, Nat.reduceMul, Nat.reduceSub]
  · have h0 : M 15 0 = 0 := by omega
    refine .inl ⟨fun z => h z.1, ?_⟩
    clear hb hb2 h121
    simp (disch := first | assumption | omega | exact st8_a (Nat.le_of_ble_eq_true rfl)) only [h0, hc_app, eb_138_0, eb_138_2, kl_a, kl_d, kl_f, kl_i, kl_l, kl_n, kl_r, xr_1, xr_2, xr_28, xr_29, xr_3, xr_4, xr_5, xr_64, af_0, af_1, xt_goto, xt_ib, xt_ic, xt_ic_eq, xt_if_eq, xt_if_ne, xt_ir, xt_nop, xt_th, gF_0_0, gF_0_1, gF_0_2, gF_1_6, tF_0 h12t, tF_1 h12t, tF_2 h12t, tF_3 h12t, tA_1 h12t, tA_2 h12t, tW_1 h12t, tW_2 h12t, tP_0 h12t, tP_1 h12t, tF_0 h15t, tF_1 h15t, tF_2 h15t, tF_3 h15t, tA_1 h15t, tA_2 h15t, tW_1 h15t, tW_2 h15t, tP_0 h15t, tP_1 h15t, tC_1 h12t h15t, tC_2 h12t h15t, tC_1 h15t h12t, tC_2 h15t h12t, xq_101_9_virtualt h12t, xq_101_9_virtualt h15t, xq_102_9_virtualt h12t, xq_102_9_virtualt h15t, xq_99_9_virtualt h12t, xq_99_9_virtualt h15t, iN_add, iN_mul, iN_sub, iN_and, iN_or, iN_clr, iN_shl, iN_shr, tb_r1, b1_z, b1_or, b1_and, b1_or0, b1_or1, b1_0or, b1_t, b1_f, iN_lt, iN_inj, reduceIte, if_true, if_false, Nat.zero_add, Nat.add_zero, Bool.false_eq_true, Bool.true_eq_false, Nat.lt_irrefl, iN_az, not_true_eq_false, not_false_eq_true, Nat.reduceEqDiff, Nat.reduceLT, Nat.reduceAdd, Nat.reduceMul, Nat.reduceSub]
set_option maxRecDepth 100000 in
theorem s_145x (O : Ok σ) (hu : u < 4294967296) (h : ¬ u < (σ 1 2)) : ev xs (d + 1) 145 0 ([.ref 0, .int (nI u)], [], hc σ M R) = some (.inr 2, hc σ M (R ++ [ex9])) := by
  have e := (s_169 (xs := xs) (d := d) (M := M) (R := R) O hu).2 h
  simp (disch := first | assumption | omega | exact st8_a (Nat.le_of_ble_eq_true rfl)) only [e, af_x, eb_145_0, xr_1, xr_2, xr_28, xr_3, xr_4, xr_5, af_0, af_1, xt_ib, xt_ic, xt_ir, gF_0_1, gF_0_3, gF_0_8, xq_165_11_virtualc, xq_169_11_virtualc, xq_20_2_virtualc, xq_94_8_virtualc, iN_add, iN_mul, iN_sub, iN_and, iN_or, iN_clr, iN_shl, iN_shr, tb_r1, b1_z, b1_or, b1_and, b1_or0, b1_or1, b1_0or, b1_t, b1_f, iN_lt, iN_inj, reduceIte, if_true, if_false, Nat.zero_add, Nat.add_zero, Bool.false_eq_true, Bool.true_eq_false, Nat.lt_irrefl, iN_az, not_true_eq_false, not_false_eq_true, Nat.reduceEqDiff, Nat.reduceLT, Nat.reduceAdd, Nat.reduceMul, Nat.reduceSub]
set_option maxRecDepth 100000 in
theorem s_145y (O : Ok σ) (hy : y < (σ 1 2)) (h12 : M 12 0 = 0) : ev xs (d + 1) 145 0 ([.ref 0, .int (nI y)], [], hc σ M R) = some (.inr 1, hc σ M (R ++ [ex9])) := by
  obtain ⟨hD1, hD2, hH1, hH2, hS, hC, hT, hR, hL, hQ⟩ := Ok_b O
  have e := (s_169 (xs := xs) (d := d) (M := M) (R := R) O (show y < 4294967296 by omega)).1 hy
  have a3 := (s_165 (xs := xs) (d := d) (σ := σ) (M := M) (R := R) (by rw [h12]; decide)).2 (by omega)
  simp (disch := first | assumption | omega | exact st8_a (Nat.le_of_ble_eq_true rfl)) only [e, a3, af_x, eb_145_0, eb_145_1, xr_1, xr_2, xr_28, xr_3, xr_4, xr_5, af_0, af_1, xt_ib, xt_ic, xt_ir, gF_0_1, gF_0_3, gF_0_8, xq_165_11_virtualc, xq_169_11_virtualc, xq_20_2_virtualc, xq_94_8_virtualc, iN_add, iN_mul, iN_sub, iN_and, iN_or, iN_clr, iN_shl, iN_shr, tb_r1, b1_z, b1_or, b1_and, b1_or0, b1_or1, b1_0or, b1_t, b1_f, iN_lt, iN_inj, reduceIte, if_true, if_false, Nat.zero_add, Nat.add_zero, Bool.false_eq_true, Bool.true_eq_false, Nat.lt_irrefl, iN_az, not_true_eq_false, not_false_eq_true, Nat.reduceEqDiff, Nat.reduceLT, Nat.reduceAdd, Nat.reduceMul, Nat.reduceSub]
set_option maxRecDepth 100000 in
theorem lin_64 (O : Ok σ) : lin σ s y < 64 := by
  obtain ⟨hD1, hD2, hH1, hH2, hS, hC, hT, hR, hL, hQ⟩ := Ok_b O
  exact Nat.lt_of_lt_of_le (en_lt _ _) (Nat.le_trans (Nat.pow_le_pow_right (by decide) hL) (by decide))
set_option maxRecDepth 100000 in
theorem s_145 (O : Ok σ) (hy : y < (σ 1 2)) (h12 : M 12 0 = 1) (hb : ∀ l, l < (σ 1 6) → M 13 l < (σ 1 2) ∧ M 14 l < (σ 1 5)) : ev xs (d + 4) 145 0 ([.ref 0, .int (nI y)], [], hc σ M R) = some (.inl (some (.int (nI (mtf σ (σ 1 5) 0 (lin σ (M 13) y))))), hc σ M R) := by
  obtain ⟨hD1, hD2, hH1, hH2, hS, hC, hT, hR, hL, hQ⟩ := Ok_b O
  have h12t : TT 12 := by decide
  have e := (s_169 (xs := xs) (d := d + 3) (M := M) (R := R) O (show y < 4294967296 by omega)).1 hy
  have a3 := (s_165 (xs := xs) (d := d + 3) (σ := σ) (M := M) (R := R) (by rw [h12]; decide)).1 h12
  have e1 := s_20 (xs := xs) (d := d + 2) (M := M) (R := R) O h12t (fun l hl => (hb l hl).1) hy
  have e2 := s_94 (xs := xs) (d := d) (M := M) (R := R) O (lin_64 (s := M 13) (y := y) O)
  have hd := mtf_d (σ := σ) (u := lin σ (M 13) y) hL fun i hi => by
    unfold lin at hi
    rw [en_tb, Bool.and_eq_true, decide_eq_true_eq] at hi
    exact hi.1
  have hv : nI (pc 10 (lin σ (M 13) y)) - nI (dfc σ (lin σ (M 13) y) (lin σ (M 13) y + 1)) = nI (mtf σ (σ 1 5) 0 (lin σ (M 13) y)) := by
    rw [iN_sub (by omega)]
    congr 1
    omega
  rw [hv] at e2
  clear hb hd hv
  simp (disch := first | assumption | omega | exact st8_a (Nat.le_of_ble_eq_true rfl)) only [e, a3, e1, e2, eb_145_0, eb_145_1, eb_145_2, eb_145_3, eb_145_4, xr_1, xr_2, xr_28, xr_3, xr_4, xr_5, af_0, af_1, xt_ib, xt_ic, xt_ir, gF_0_1, gF_0_3, gF_0_8, xq_165_11_virtualc, xq_169_11_virtualc, xq_20_2_virtualc, xq_94_8_virtualc, iN_add, iN_mul, iN_sub, iN_and, iN_or, iN_clr, iN_shl, iN_shr, tb_r1, b1_z, b1_or, b1_and, b1_or0, b1_or1, b1_0or, b1_t, b1_f, iN_lt, iN_inj, reduceIte, if_true, if_false, Nat.zero_add, Nat.add_zero, Bool.false_eq_true, Bool.true_eq_false, Nat.lt_irrefl, iN_az, not_true_eq_false, not_false_eq_true, Nat.reduceEqDiff, Nat.reduceLT, Nat.reduceAdd, Nat.reduceMul, Nat.reduceSub]
set_option maxRecDepth 100000 in
theorem s_146x (O : Ok σ) (hu : u < 4294967296) (h : ¬ u < (σ 1 2)) : ev xs (d + 1) 146 0 ([.ref 0, .int (nI u)], [], hc σ M R) = some (.inr 2, hc σ M (R ++ [ex9])) := by
  have e := (s_169 (xs := xs) (d := d) (M := M) (R := R) O hu).2 h
  simp (disch := first | assumption | omega | exact st8_a (Nat.le_of_ble_eq_true rfl)) only [e, af_x, eb_146_0, xr_1, xr_2, xr_28, xr_3, xr_4, xr_5, af_0, af_1, xt_ib, xt_ic, xt_ir, gF_0_1, gF_0_3, gF_0_8, xq_165_11_virtualc, xq_169_11_virtualc, xq_20_2_virtualc, xq_95_8_virtualc, iN_add, iN_mul, iN_sub, iN_and, iN_or, iN_clr, iN_shl, iN_shr, tb_r1, b1_z, b1_or, b1_and, b1_or0, b1_or1, b1_0or, b1_t, b1_f, iN_lt, iN_inj, reduceIte, if_true, if_false, Nat.zero_add, Nat.add_zero, Bool.false_eq_true, Bool.true_eq_false, Nat.lt_irrefl, iN_az, not_true_eq_false, not_false_eq_true, Nat.reduceEqDiff, Nat.reduceLT, Nat.reduceAdd, Nat.reduceMul, Nat.reduceSub]
set_option maxRecDepth 100000 in
theorem s_146y (O : Ok σ) (hy : y < (σ 1 2)) (h12 : M 12 0 = 0) : ev xs (d + 1) 146 0 ([.ref 0, .int (nI y)], [], hc σ M R) = some (.inr 1, hc σ M (R ++ [ex9])) := by
  obtain ⟨hD1, hD2, hH1, hH2, hS, hC, hT, hR, hL, hQ⟩ := Ok_b O
  have e := (s_169 (xs := xs) (d := d) (M := M) (R := R) O (show y < 4294967296 by omega)).1 hy
  have a3 := (s_165 (xs := xs) (d := d) (σ := σ) (M := M) (R := R) (by rw [h12]; decide)).2 (by omega)
  simp (disch := first | assumption | omega | exact st8_a (Nat.le_of_ble_eq_true rfl)) only [e, a3, af_x, eb_146_0, eb_146_1, xr_1, xr_2, xr_28, xr_3, xr_4, xr_5, af_0, af_1, xt_ib, xt_ic, xt_ir, gF_0_1, gF_0_3, gF_0_8, xq_165_11_virtualc, xq_169_11_virtualc, xq_20_2_virtualc, xq_95_8_virtualc, iN_add, iN_mul, iN_sub, iN_and, iN_or, iN_clr, iN_shl, iN_shr, tb_r1, b1_z, b1_or, b1_and, b1_or0, b1_or1, b1_0or, b1_t, b1_f, iN_lt, iN_inj, reduceIte, if_true, if_false, Nat.zero_add, Nat.add_zero, Bool.false_eq_true, Bool.true_eq_false, Nat.lt_irrefl, iN_az, not_true_eq_false, not_false_eq_true, Nat.reduceEqDiff, Nat.reduceLT, Nat.reduceAdd, Nat.reduceMul, Nat.reduceSub]
set_option maxRecDepth 100000 in
theorem s_146 (O : Ok σ) (hy : y < (σ 1 2)) (h12 : M 12 0 = 1) (hb : ∀ l, l < (σ 1 6) → M 13 l < (σ 1 2) ∧ M 14 l < (σ 1 5)) : ev xs (d + 4) 146 0 ([.ref 0, .int (nI y)], [], hc σ M R) = some (.inl (some (.int (nI (fun1 σ (lin σ (M 13) y) (lin σ (M 13) y + 1))))), hc σ M R) := by
  obtain ⟨hD1, hD2, hH1, hH2, hS, hC, hT, hR, hL, hQ⟩ := Ok_b O
  have h12t : TT 12 := by decide
  have e := (s_169 (xs := xs) (d := d + 3) (M := M) (R := R) O (show y < 4294967296 by omega)).1 hy
  have a3 := (s_165 (xs := xs) (d := d + 3) (σ := σ) (M := M) (R := R) (by rw [h12]; decide)).1 h12
  have e1 := s_20 (xs := xs) (d := d + 2) (M := M) (R := R) O h12t (fun l hl => (hb l hl).1) hy
  have e2 := s_95 (xs := xs) (d := d) (M := M) (R := R) O (lin_64 (s := M 13) (y := y) O)
  clear hb
  simp (disch := first | assumption | omega | exact st8_a (Nat.le_of_ble_eq_true rfl)) only [e, a3, e1, e2, eb_146_0, eb_146_1, eb_146_2, eb_146_3, eb_146_4, xr_1, xr_2, xr_28, xr_3, xr_4, xr_5, af_0, af_1, xt_ib, xt_ic, xt_ir, gF_0_1, gF_0_3, gF_0_8, xq_165_11_virtualc, xq_169_11_virtualc, xq_20_2_virtualc, xq_95_8_virtualc, iN_add, iN_mul, iN_sub, iN_and, iN_or, iN_clr, iN_shl, iN_shr, tb_r1, b1_z, b1_or, b1_and, b1_or0, b1_or1, b1_0or, b1_t, b1_f, iN_lt, iN_inj, reduceIte, if_true, if_false, Nat.zero_add, Nat.add_zero, Bool.false_eq_true, Bool.true_eq_false, Nat.lt_irrefl, iN_az, not_true_eq_false, not_false_eq_true, Nat.reduceEqDiff, Nat.reduceLT, Nat.reduceAdd, Nat.reduceMul, Nat.reduceSub]
set_option maxRecDepth 100000 in
theorem s_148y (h12 : M 12 0 = 0) : ev xs (d + 1) 148 0 ([.ref 0], [], hc σ M R) = some (.inr 1, hc σ M (R ++ [ex9])) := by
  have a3 := (s_165 (xs := xs) (d := d) (σ := σ) (M := M) (R := R) (by rw [h12]; decide)).2 (by omega)
  simp (disch := first | assumption | omega | exact st8_a (Nat.le_of_ble_eq_true rfl)) only [a3, af_x, eb_148_0, xr_1, xr_2, xr_3, xr_4, xr_5, af_0, af_1, xt_ib, xt_ic, xt_ir, gF_0_1, gF_0_3, xq_165_11_virtualc, xq_22_2_virtualc, iN_add, iN_mul, iN_sub, iN_and, iN_or, iN_clr, iN_shl, iN_shr, tb_r1, b1_z, b1_or, b1_and, b1_or0, b1_or1, b1_0or, b1_t, b1_f, iN_lt, iN_inj, reduceIte, if_true, if_false, Nat.zero_add, Nat.add_zero, Bool.false_eq_true, Bool.true_eq_false, Nat.lt_irrefl, iN_az, not_true_eq_false, not_false_eq_true, Nat.reduceEqDiff, Nat.reduceLT, Nat.reduceAdd, Nat.reduceMul, Nat.reduceSub]
set_option maxRecDepth 100000 in
theorem s_148 (O : Ok σ) (h12 : M 12 0 = 1) (hb : ∀ l, l < (σ 1 6) → M 13 l < (σ 1 2) ∧ M 14 l < (σ 1 5)) : ev xs (d + 3) 148 0 ([.ref 0], [], hc σ M R) = some (.inl (some (.int (nI (wt σ (M 13) (M 14))))), hc σ M R) := by
  have h12t : TT 12 := by decide
  have a3 := (s_165 (xs := xs) (d := d + 2) (σ := σ) (M := M) (R := R) (by rw [h12]; decide)).1 h12
  have e := s_22 (xs := xs) (d := d) (M := M) (R := R) O h12t (fun l hl => (hb l hl).1) fun l hl => (hb l hl).2
  clear hb
  simp (disch := first | assumption | omega | exact st8_a (Nat.le_of_ble_eq_true rfl)) only [a3, e, eb_148_0, eb_148_1, eb_148_2, xr_1, xr_2, xr_3, xr_4, xr_5, af_0, af_1, xt_ib, xt_ic, xt_ir, gF_0_1, gF_0_3, xq_165_11_virtualc, xq_22_2_virtualc, iN_add, iN_mul, iN_sub, iN_and, iN_or, iN_clr, iN_shl, iN_shr, tb_r1, b1_z, b1_or, b1_and, b1_or0, b1_or1, b1_0or, b1_t, b1_f, iN_lt, iN_inj, reduceIte, if_true, if_false, Nat.zero_add, Nat.add_zero, Bool.false_eq_true, Bool.true_eq_false, Nat.lt_irrefl, iN_az, not_true_eq_false, not_false_eq_true, Nat.reduceEqDiff, Nat.reduceLT, Nat.reduceAdd, Nat.reduceMul, Nat.reduceSub]
set_option maxRecDepth 100000 in
theorem s_151y (h12 : M 12 0 = 0) : ev xs (d + 1) 151 0 ([.ref 0], [], hc σ M R) = some (.inr 1, hc σ M (R ++ [ex9])) := by
  have a3 := (s_165 (xs := xs) (d := d) (σ := σ) (M := M) (R := R) (by rw [h12]; decide)).2 (by omega)
  simp (disch := first | assumption | omega | exact st8_a (Nat.le_of_ble_eq_true rfl)) only [a3, af_x, eb_151_0, xr_1, xr_2, xr_3, xr_4, xr_5, af_0, af_1, xt_ib, xt_ic, xt_if_ne, xt_ir, xt_th, gF_0_1, gF_0_3, gF_0_9, xq_165_11_virtualc, xq_16_2_virtualc, xq_45_4_virtualc, iN_add, iN_mul, iN_sub, iN_and, iN_or, iN_clr, iN_shl, iN_shr, tb_r1, b1_z, b1_or, b1_and, b1_or0, b1_or1, b1_0or, b1_t, b1_f, iN_lt, iN_inj, reduceIte, if_true, if_false, Nat.zero_add, Nat.add_zero, Bool.false_eq_true, Bool.true_eq_false, Nat.lt_irrefl, iN_az, not_true_eq_false, not_false_eq_true, Nat.reduceEqDiff, Nat.reduceLT, Nat.reduceAdd, Nat.reduceMul, Nat.reduceSub]
set_option maxRecDepth 100000 in
theorem s_151z (O : Ok σ) (h12 : M 12 0 = 1) (hb : ∀ l, l < (σ 1 6) → M 13 l < (σ 1 2) ∧ M 14 l < (σ 1 5)) (hg : ¬ (flt σ (M 13) (M 14) = 0 ∧ brk σ (M 13) (M 14) = 0)) : ev xs (d + 5) 151 0 ([.ref 0], [], hc σ M R) = some (.inr 1, hc σ M (R ++ [ex9])) := by
  have h12t : TT 12 := by decide
  have a3 := (s_165 (xs := xs) (d := d + 4) (σ := σ) (M := M) (R := R) (by rw [h12]; decide)).1 h12
  obtain ⟨b, h1, e⟩ := s_16 (xs := xs) (d := d) (M := M) (R := R) O h12t (fun l hl => (hb l hl).1) fun l hl => (hb l hl).2
  rw [show (12 : Nat) + 1 = 13 from rfl, show (12 : Nat) + 2 = 14 from rfl] at h1
  have hbf : b = false := by
    cases b
    · rfl
    · exact absurd (h1.mp rfl) hg
  subst hbf
  clear hb hg h1
  simp (disch := first | assumption | omega | exact st8_a (Nat.le_of_ble_eq_true rfl)) only [a3, e, hc_app, eb_151_0, eb_151_1, eb_151_2, eb_151_3, xr_1, xr_2, xr_3, xr_4, xr_5, af_0, af_1, xt_ib, xt_ic, xt_if_ne, xt_ir, xt_th, gF_0_1, gF_0_3, gF_0_9, xq_165_11_virtualc, xq_16_2_virtualc, xq_45_4_virtualc, iN_add, iN_mul, iN_sub, iN_and, iN_or, iN_clr, iN_shl, iN_shr, tb_r1, b1_z, b1_or, b1_and, b1_or0, b1_or1, b1_0or, b1_t, b1_f, iN_lt, iN_inj, reduceIte, if_true, if_false, Nat.zero_add, Nat.add_zero, Bool.false_eq_true, Bool.true_eq_false, Nat.lt_irrefl, iN_az, not_true_eq_false, not_false_eq_true, Nat.reduceEqDiff, Nat.reduceLT, Nat.reduceAdd, Nat.reduceMul, Nat.reduceSub]
set_option maxRecDepth 100000 in
theorem s_151 (O : Ok σ) (h12 : M 12 0 = 1) (h121 : M 12 1 = (σ 1 6)) (hb : ∀ l, l < (σ 1 6) → M 13 l < (σ 1 2) ∧ M 14 l < (σ 1 5)) (hg : flt σ (M 13) (M 14) = 0 ∧ brk σ (M 13) (M 14) = 0) : ∃ M', ev xs (d + 10) 151 0 ([.ref 0], [], hc σ M R) = some (.inl (some (.int (nI (wt σ (M 13) (M 14)) - nI (RO σ (M 13) (M 14)).1))), hc σ M' R) ∧ Fr (12 :: 13 :: 14 :: GR) M M' ∧ M' 12 0 = 1 ∧ M' 12 1 = (σ 1 6) ∧ M' 13 = (RO σ (M 13) (M 14)).2.1 ∧ M' 14 = (RO σ (M 13) (M 14)).2.2 := by
  have h12t : TT 12 := by decide
  have a3 := (s_165 (xs := xs) (d := d + 9) (σ := σ) (M := M) (R := R) (by rw [h12]; decide)).1 h12
  obtain ⟨b, h1, e⟩ := s_16 (xs := xs) (d := d + 5) (M := M) (R := R) O h12t (fun l hl => (hb l hl).1) fun l hl => (hb l hl).2
  rw [show (12 : Nat) + 1 = 13 from rfl, show (12 : Nat) + 2 = 14 from rfl] at h1
  have hbf : b = true := h1.mpr hg
  subst hbf
  obtain ⟨M', e2, q⟩ := s_45 (xs := xs) (d := d) (R := R) O h12 h121 (fun l hl => (hb l hl).1) fun l hl => (hb l hl).2
  refine ⟨M', ?_, q⟩
  clear hb hg h1 q
  simp (disch := first | assumption | omega | exact st8_a (Nat.le_of_ble_eq_true rfl)) only [a3, e, e2, eb_151_0, eb_151_1, eb_151_2, eb_151_4, eb_151_5, xr_1, xr_2, xr_3, xr_4, xr_5, af_0, af_1, xt_ib, xt_ic, xt_if_ne, xt_ir, xt_th, gF_0_1, gF_0_3, gF_0_9, xq_165_11_virtualc, xq_16_2_virtualc, xq_45_4_virtualc, iN_add, iN_mul, iN_sub, iN_and, iN_or, iN_clr, iN_shl, iN_shr, tb_r1, b1_z, b1_or, b1_and, b1_or0, b1_or1, b1_0or, b1_t, b1_f, iN_lt, iN_inj, reduceIte, if_true, if_false, Nat.zero_add, Nat.add_zero, Bool.false_eq_true, Bool.true_eq_false, Nat.lt_irrefl, iN_az, not_true_eq_false, not_false_eq_true, Nat.reduceEqDiff, Nat.reduceLT, Nat.reduceAdd, Nat.reduceMul, Nat.reduceSub]
end Cle
