/-! THE MODEL: print -/
/-- what is looked for in a lesson -/
def whn (σ : Nat → Nat → Nat) (r : Nat → Nat) (kd l : Nat) : Nat := if kd = 0 then σ 5 l else if kd = 1 then σ 6 l else r l
/-- the letter of an hour, by the lessons from k on -/
def CHd (p : Nat → Prop) (k n c : Nat) : Prop := (∃ l, k ≤ l ∧ l < n ∧ p l ∧ (∀ j, k ≤ j → j < l → ¬ p j) ∧ c = 48 + l) ∨ ((∀ j, k ≤ j → j < n → ¬ p j) ∧ c = 46)
section Mdl
variable {xs : List Int32} {d m n k i j p a b c u v l q z w y t nn kd : Nat} {τ M σ W K : Nat → Nat → Nat} {μ μ0 : Nat → Nat} {ν ν0 : Nat → Value} {A B Q T T2 h : ab_H} {s r g f X Z Y tab s0 r0 F s2 r2 : Nat → Nat} {L st : List Value} {β : Value}
set_option maxRecDepth 100000 in
theorem m_242x (O : Ok σ) (hk : kd < 4294967296) (h : ¬ kd ≤ 2) {y : Int32} : ev xs (d + 1) 242 0 ([.ref 62, .int (nI kd), .int y, .retAddr 9, .retAddr 9, .retAddr 9, .retAddr 9, .retAddr 9], [], mh τ M σ μ ν Q) = some (.inl (some (.int (nI (0)))), mh τ M σ (u1 μ 0 1) ν Q) := by
  have h0 : ¬ kd = 0 := by omega
  have h1 : ¬ kd = 1 := by omega
  have h2 : ¬ (0 ≤ kd ∧ kd ≤ 2) := by omega
  simp (disch := first | assumption | omega | exact st8_a (Nat.le_of_ble_eq_true rfl)) only [h0, h1, m_188c hk, decide_eq_false h2, en0, eb_242_0, eb_242_2, eb_242_4, eb_242_5, eb_242_6, eb_242_7, eb_242_13, kl_a, kl_d, kl_f, kl_i, kl_l, kl_n, kl_r, xr_1, xr_10, xr_111, xr_112, xr_113, xr_141, xr_143, xr_144, xr_2, xr_27, xr_28, xr_3, xr_31, xr_32, xr_33, xr_34, xr_35, xr_36, xr_37, xr_38, xr_4, xr_40, xr_44, xr_5, xr_55, xr_56, xr_57, xr_61, xr_62, xr_65, xr_71, xr_77, af_0, af_1, xt_goto, xt_ib, xt_ic, xt_ic_ge, xt_ic_ne, xt_if_eq, xt_if_lt, xt_if_ne, xt_ir, xt_nop, mF_0 mh_Mo, mF_1 mh_Mo, mF_10 mh_Mo, mF_19 mh_Mo, mF_2 mh_Mo, mF_21 mh_Mo, mF_5 mh_Mo, mF_6 mh_Mo, mF_8 mh_Mo, mF_9 mh_Mo, mA_63 mh_Mo, mA_64 mh_Mo, mA_65 mh_Mo, mA_66 mh_Mo, mA_67 mh_Mo, mA_68 mh_Mo, mA_69 mh_Mo, mA_70 mh_Mo, mA_71 mh_Mo, xq_187_13_virtualm mh_Mo, xq_188_200_static, xq_189_13_virtualm mh_Mo, xq_196_13_virtualm mh_Mo, xq_234_13_virtualm mh_Mo, pF_0, pF_1, pF_2, pF_5, pF_6, pF_8, pF_12, pF_16, pF_17, pF_18, pF_22, pF_24, pF_19, pF_20, pF_21, pF_23, pN_19, pN_20, pN_21, pN_23, pA_63, pA_64, pA_65, pA_66, pA_67, pA_68, pA_69, pA_70, pA_71, iN_add, iN_mul, iN_sub, iN_and, iN_or, iN_clr, iN_shl, iN_shr, tb_r1, b1_z, b1_or, b1_and, b1_or0, b1_or1, b1_0or, b1_t, b1_f, iN_lt, iN_inj, reduceIte, if_true, if_false, Nat.zero_add, Nat.add_zero, Bool.false_eq_true, Bool.true_eq_false, Nat.lt_irrefl, iN_az, not_true_eq_false, not_false_eq_true, Nat.reduceEqDiff, Nat.reduceLT, Nat.reduceAdd, Nat.reduceMul, Nat.reduceSub]
set_option maxRecDepth 100000 in
theorem m_242g (O : Ok σ) (h : kd ≤ 2) {y : Int32} : ev xs (d + 1) 242 0 ([.ref 62, .int (nI kd), .int y, .retAddr 9, .retAddr 9, .retAddr 9, .retAddr 9, .retAddr 9], [], mh τ M σ μ ν Q) = ev xs (d + 1) 242 8 ([.ref 62, .int (nI kd), .int y, .int (nI (bdk σ kd)), .retAddr 9, .retAddr 9, .retAddr 9, .retAddr 9], [], mh τ M σ (u1 μ 0 0) ν Q) := by
  have hk : kd < 4294967296 := by omega
  have h2 : 0 ≤ kd ∧ kd ≤ 2 := by omega
  unfold bdk
  have : kd = 0 ∨ kd = 1 ∨ kd = 2 := by omega
  rcases this with rfl | rfl | rfl
  · simp (disch := first | assumption | omega | exact st8_a (Nat.le_of_ble_eq_true rfl)) only [m_188c hk, decide_eq_true h2, en1, eb_242_0, eb_242_1, eb_242_5, eb_242_6, eb_242_7, kl_a, kl_d, kl_f, kl_i, kl_l, kl_n, kl_r, xr_1, xr_10, xr_111, xr_112, xr_113, xr_141, xr_143, xr_144, xr_2, xr_27, xr_28, xr_3, xr_31, xr_32, xr_33, xr_34, xr_35, xr_36, xr_37, xr_38, xr_4, xr_40, xr_44, xr_5, xr_55, xr_56, xr_57, xr_61, xr_62, xr_65, xr_71, xr_77, af_0, af_1, xt_goto, xt_ib, xt_ic, xt_ic_ge, xt_ic_ne, xt_if_eq, xt_if_lt, xt_if_ne, xt_ir, xt_nop, mF_0 mh_Mo, mF_1 mh_Mo, mF_10 mh_Mo, mF_19 mh_Mo, mF_2 mh_Mo, mF_21 mh_Mo, mF_5 mh_Mo, mF_6 mh_Mo, mF_8 mh_Mo, mF_9 mh_Mo, mA_63 mh_Mo, mA_64 mh_Mo, mA_65 mh_Mo, mA_66 mh_Mo, mA_67 mh_Mo, mA_68 mh_Mo, mA_69 mh_Mo, mA_70 mh_Mo, mA_71 mh_Mo, xq_187_13_virtualm mh_Mo, xq_188_200_static, xq_189_13_virtualm mh_Mo, xq_196_13_virtualm mh_Mo, xq_234_13_virtualm mh_Mo, pF_0, pF_1, pF_2, pF_5, pF_6, pF_8, pF_12, pF_16, pF_17, pF_18, pF_22, pF_24, pF_19, pF_20, pF_21, pF_23, pN_19, pN_20, pN_21, pN_23, pA_63, pA_64, pA_65, pA_66, pA_67, pA_68, pA_69, pA_70, pA_71, iN_add, iN_mul, iN_sub, iN_and, iN_or, iN_clr, iN_shl, iN_shr, tb_r1, b1_z, b1_or, b1_and, b1_or0, b1_or1, b1_0or, b1_t, b1_f, iN_lt, iN_inj, reduceIte, if_true, if_false, Nat.zero_add, Nat.add_zero, Bool.false_eq_true, Bool.true_eq_false, Nat.lt_irrefl, iN_az, not_true_eq_false, not_false_eq_true, Nat.reduceEqDiff, Nat.reduceLT, Nat.reduceAdd, Nat.reduceMul, Nat.reduceSub]
  · simp (disch := first | assumption | omega | exact st8_a (Nat.le_of_ble_eq_true rfl)) only [m_188c hk, decide_eq_true h2, en1, eb_242_0, eb_242_2, eb_242_3, eb_242_5, eb_242_6, eb_242_7, kl_a, kl_d, kl_f, kl_i, kl_l, kl_n, kl_r, xr_1, xr_10, xr_111, xr_112, xr_113, xr_141, xr_143, xr_144, xr_2, xr_27, xr_28, xr_3, xr_31, xr_32, xr_33, xr_34, xr_35, xr_36, xr_37, xr_38, xr_4, xr_40, xr_44, xr_5, xr_55, xr_56, xr_57, xr_61, xr_62, xr_65, xr_71, xr_77, af_0, af_1, xt_goto, xt_ib, xt_ic, xt_ic_ge, xt_ic_ne, xt_if_eq, xt_if_lt, xt_if_ne, xt_ir, xt_nop, mF_0 mh_Mo, mF_1 mh_Mo, mF_10 mh_Mo, mF_19 mh_Mo, mF_2 mh_Mo, mF_21 mh_Mo, mF_5 mh_Mo, mF_6 mh_Mo, mF_8 mh_Mo, mF_9 mh_Mo, mA_63 mh_Mo, mA_64 mh_Mo, mA_65 mh_Mo, mA_66 mh_Mo, mA_67 mh_Mo, mA_68 mh_Mo, mA_69 mh_Mo, mA_70 mh_Mo, mA_71 mh_Mo, xq_187_13_virtualm mh_Mo, xq_188_200_static, xq_189_13_virtualm mh_Mo, xq_196_13_virtualm mh_Mo, xq_234_13_virtualm mh_Mo, pF_0, pF_1, pF_2, pF_5, pF_6, pF_8, pF_12, pF_16, pF_17, pF_18, pF_22, pF_24, pF_19, pF_20, pF_21, pF_23, pN_19, pN_20, pN_21, pN_23, pA_63, pA_64, pA_65, pA_66, pA_67, pA_68, pA_69, pA_70, pA_71, iN_add, iN_mul, iN_sub, iN_and, iN_or, iN_clr, iN_shl, iN_shr, tb_r1, b1_z, b1_or, b1_and, b1_or0, b1_or1, b1_0or, b1_t, b1_f, iN_lt, iN_inj, reduceIte, if_true, if_false, Nat.zero_add, Nat.add_zero, Bool.false_eq_true, Bool.true_eq_false, Nat.lt_irrefl, iN_az, not_true_eq_false, not_false_eq_true, Nat.reduceEqDiff, Nat.reduceLT, Nat.reduceAdd, Nat.reduceMul, Nat.reduceSub]
  · simp (disch := first | assumption | omega | exact st8_a (Nat.le_of_ble_eq_true rfl)) only [m_188c hk, decide_eq_true h2, en1, eb_242_0, eb_242_2, eb_242_4, eb_242_5, eb_242_6, eb_242_7, kl_a, kl_d, kl_f, kl_i, kl_l, kl_n, kl_r, xr_1, xr_10, xr_111, xr_112, xr_113, xr_141, xr_143, xr_144, xr_2, xr_27, xr_28, xr_3, xr_31, xr_32, xr_33, xr_34, xr_35, xr_36, xr_37, xr_38, xr_4, xr_40, xr_44, xr_5, xr_55, xr_56, xr_57, xr_61, xr_62, xr_65, xr_71, xr_77, af_0, af_1, xt_goto, xt_ib, xt_ic, xt_ic_ge, xt_ic_ne, xt_if_eq, xt_if_lt, xt_if_ne, xt_ir, xt_nop, mF_0 mh_Mo, mF_1 mh_Mo, mF_10 mh_Mo, mF_19 mh_Mo, mF_2 mh_Mo, mF_21 mh_Mo, mF_5 mh_Mo, mF_6 mh_Mo, mF_8 mh_Mo, mF_9 mh_Mo, mA_63 mh_Mo, mA_64 mh_Mo, mA_65 mh_Mo, mA_66 mh_Mo, mA_67 mh_Mo, mA_68 mh_Mo, mA_69 mh_Mo, mA_70 mh_Mo, mA_71 mh_Mo, xq_187_13_virtualm mh_Mo, xq_188_200_static, xq_189_13_virtualm mh_Mo, xq_196_13_virtualm mh_Mo, xq_234_13_virtualm mh_Mo, pF_0, pF_1, pF_2, pF_5, pF_6, pF_8, pF_12, pF_16, pF_17, pF_18, pF_22, pF_24, pF_19, pF_20, pF_21, pF_23, pN_19, pN_20, pN_21, pN_23, pA_63, pA_64, pA_65, pA_66, pA_67, pA_68, pA_69, pA_70, pA_71, iN_add, iN_mul, iN_sub, iN_and, iN_or, iN_clr, iN_shl, iN_shr, tb_r1, b1_z, b1_or, b1_and, b1_or0, b1_or1, b1_0or, b1_t, b1_f, iN_lt, iN_inj, reduceIte, if_true, if_false, Nat.zero_add, Nat.add_zero, Bool.false_eq_true, Bool.true_eq_false, Nat.lt_irrefl, iN_az, not_true_eq_false, not_false_eq_true, Nat.reduceEqDiff, Nat.reduceLT, Nat.reduceAdd, Nat.reduceMul, Nat.reduceSub]
set_option maxRecDepth 100000 in
theorem m_242y (O : Ok σ) (h : kd ≤ 2) (hn : n < 4294967296) (hb : ¬ n < bdk σ kd) : ev xs (d + 1) 242 0 ([.ref 62, .int (nI kd), .int (nI n), .retAddr 9, .retAddr 9, .retAddr 9, .retAddr 9, .retAddr 9], [], mh τ M σ μ ν Q) = some (.inl (some (.int (nI (0)))), mh τ M σ (u1 μ 0 2) ν Q) := by
  obtain ⟨hD1, hD2, hH1, hH2, hS, hC, hT, hR, hL, hQ⟩ := Ok_b O
  have hb1 : bdk σ kd < 1000 := by
    unfold bdk
    split
    · omega
    · split <;> omega
  rw [m_242g O h]
  simp (disch := first | assumption | omega | exact st8_a (Nat.le_of_ble_eq_true rfl)) only [m_188n hn hb1, decide_eq_false hb, en0, uu, eb_242_8, eb_242_9, eb_242_10, eb_242_13, kl_a, kl_d, kl_f, kl_i, kl_l, kl_n, kl_r, xr_1, xr_10, xr_111, xr_112, xr_113, xr_141, xr_143, xr_144, xr_2, xr_27, xr_28, xr_3, xr_31, xr_32, xr_33, xr_34, xr_35, xr_36, xr_37, xr_38, xr_4, xr_40, xr_44, xr_5, xr_55, xr_56, xr_57, xr_61, xr_62, xr_65, xr_71, xr_77, af_0, af_1, xt_goto, xt_ib, xt_ic, xt_ic_ge, xt_ic_ne, xt_if_eq, xt_if_lt, xt_if_ne, xt_ir, xt_nop, mF_0 mh_Mo, mF_1 mh_Mo, mF_10 mh_Mo, mF_19 mh_Mo, mF_2 mh_Mo, mF_21 mh_Mo, mF_5 mh_Mo, mF_6 mh_Mo, mF_8 mh_Mo, mF_9 mh_Mo, mA_63 mh_Mo, mA_64 mh_Mo, mA_65 mh_Mo, mA_66 mh_Mo, mA_67 mh_Mo, mA_68 mh_Mo, mA_69 mh_Mo, mA_70 mh_Mo, mA_71 mh_Mo, xq_187_13_virtualm mh_Mo, xq_188_200_static, xq_189_13_virtualm mh_Mo, xq_196_13_virtualm mh_Mo, xq_234_13_virtualm mh_Mo, pF_0, pF_1, pF_2, pF_5, pF_6, pF_8, pF_12, pF_16, pF_17, pF_18, pF_22, pF_24, pF_19, pF_20, pF_21, pF_23, pN_19, pN_20, pN_21, pN_23, pA_63, pA_64, pA_65, pA_66, pA_67, pA_68, pA_69, pA_70, pA_71, iN_add, iN_mul, iN_and, iN_or, iN_clr, iN_shl, iN_shr, tb_r1, b1_z, b1_or, b1_and, b1_or0, b1_or1, b1_0or, b1_t, b1_f, iN_lt, iN_inj, reduceIte, if_true, if_false, Nat.zero_add, Nat.add_zero, Bool.false_eq_true, Bool.true_eq_false, Nat.lt_irrefl, iN_az, not_true_eq_false, not_false_eq_true, Nat.reduceEqDiff, Nat.reduceLT, Nat.reduceAdd, Nat.reduceMul, Nat.reduceSub]
set_option maxRecDepth 100000 in
theorem m_242n (O : Ok σ) (h : kd ≤ 2) (hb : n < bdk σ kd) (hν : ν 0 = .null) : ev xs (d + 2) 242 0 ([.ref 62, .int (nI kd), .int (nI n), .retAddr 9, .retAddr 9, .retAddr 9, .retAddr 9, .retAddr 9], [], mh τ M σ μ ν Q) = some (.inl (some (.int (nI (0)))), mh τ M σ (u1 μ 0 3) ν Q) := by
  obtain ⟨hD1, hD2, hH1, hH2, hS, hC, hT, hR, hL, hQ⟩ := Ok_b O
  have hb1 : bdk σ kd < 1000 := by
    unfold bdk
    split
    · omega
    · split <;> omega
  have hn : n < 4294967296 := by omega
  rw [m_242g O h]
  simp (disch := first | assumption | omega | exact st8_a (Nat.le_of_ble_eq_true rfl)) only [m_188n hn hb1, decide_eq_true hb, en1, m_234n hν, uu, eb_242_8, eb_242_9, eb_242_10, eb_242_11, eb_242_12, eb_242_13, kl_a, kl_d, kl_f, kl_i, kl_l, kl_n, kl_r, xr_1, xr_10, xr_111, xr_112, xr_113, xr_141, xr_143, xr_144, xr_2, xr_27, xr_28, xr_3, xr_31, xr_32, xr_33, xr_34, xr_35, xr_36, xr_37, xr_38, xr_4, xr_40, xr_44, xr_5, xr_55, xr_56, xr_57, xr_61, xr_62, xr_65, xr_71, xr_77, af_0, af_1, xt_goto, xt_ib, xt_ic, xt_ic_ge, xt_ic_ne, xt_if_eq, xt_if_lt, xt_if_ne, xt_ir, xt_nop, mF_0 mh_Mo, mF_1 mh_Mo, mF_10 mh_Mo, mF_19 mh_Mo, mF_2 mh_Mo, mF_21 mh_Mo, mF_5 mh_Mo, mF_6 mh_Mo, mF_8 mh_Mo, mF_9 mh_Mo, mA_63 mh_Mo, mA_64 mh_Mo, mA_65 mh_Mo, mA_66 mh_Mo, mA_67 mh_Mo, mA_68 mh_Mo, mA_69 mh_Mo, mA_70 mh_Mo, mA_71 mh_Mo, xq_187_13_virtualm mh_Mo, xq_188_200_static, xq_189_13_virtualm mh_Mo, xq_196_13_virtualm mh_Mo, xq_234_13_virtualm mh_Mo, pF_0, pF_1, pF_2, pF_5, pF_6, pF_8, pF_12, pF_16, pF_17, pF_18, pF_22, pF_24, pF_19, pF_20, pF_21, pF_23, pN_19, pN_20, pN_21, pN_23, pA_63, pA_64, pA_65, pA_66, pA_67, pA_68, pA_69, pA_70, pA_71, iN_add, iN_mul, iN_and, iN_or, iN_clr, iN_shl, iN_shr, tb_r1, b1_z, b1_or, b1_and, b1_or0, b1_or1, b1_0or, b1_t, b1_f, iN_lt, iN_inj, reduceIte, if_true, if_false, Nat.zero_add, Nat.add_zero, Bool.false_eq_true, Bool.true_eq_false, Nat.lt_irrefl, iN_az, not_true_eq_false, not_false_eq_true, Nat.reduceEqDiff, Nat.reduceLT, Nat.reduceAdd, Nat.reduceMul, Nat.reduceSub]
set_option maxRecDepth 100000 in
theorem m_242w (O : Ok σ) (h : kd ≤ 2) (hν : ν 0 = .ref (72 + i)) (hi : Q[i]? = some (oI (ar (σ 1 6) (tv σ s r)))) (hb : ∀ l, l < (σ 1 6) → s l < (σ 1 2) ∧ r l < (σ 1 5)) (hk : k < (σ 1 6)) {x2 x3 x4 x5 : Int32} {x7 : Value} : ev xs d 242 19 ([.ref 62, .int (nI kd), .int x2, .int x3, .int x4, .int x5, .int (nI k), x7], [], mh τ M σ μ ν Q) = ev xs d 242 25 ([.ref 62, .int (nI kd), .int x2, .int x3, .int x4, .int x5, .int (nI k), x7], [.int (nI (whn σ r kd k))], mh τ M σ μ ν Q) := by
  obtain ⟨hD1, hD2, hH1, hH2, hS, hC, hT, hR, hL, hQ⟩ := Ok_b O
  have hv := tv_b (σ := σ) (hb k hk).1 (hb k hk).2
  have hv2 := vle O
  have t1 := tv_m (σ := σ) (s := s) (hb k hk).2
  have hR0 : 0 < (σ 1 5) := by have := (hb k hk).2; omega
  have hv3 : tv σ s r k < 2147483648 := by omega
  have hk6 : k < 6 := by omega
  clear hb
  unfold whn
  have : kd = 0 ∨ kd = 1 ∨ kd = 2 := by omega
  rcases this with rfl | rfl | rfl
  · rw [eb_242_19]
    simp (disch := first | assumption | omega | exact st8_a (Nat.le_of_ble_eq_true rfl)) only [Nat.not_lt_zero, eb_242_20, eb_242_21, kl_a, kl_d, kl_f, kl_i, kl_l, kl_n, kl_r, xr_1, xr_10, xr_111, xr_112, xr_113, xr_141, xr_143, xr_144, xr_2, xr_27, xr_28, xr_3, xr_31, xr_32, xr_33, xr_34, xr_35, xr_36, xr_37, xr_38, xr_4, xr_40, xr_44, xr_5, xr_55, xr_56, xr_57, xr_61, xr_62, xr_65, xr_71, xr_77, af_0, af_1, xt_goto, xt_ib, xt_ic, xt_ic_ge, xt_ic_ne, xt_if_eq, xt_if_lt, xt_if_ne, xt_ir, xt_nop, mF_0 mh_Mo, mF_1 mh_Mo, mF_10 mh_Mo, mF_19 mh_Mo, mF_2 mh_Mo, mF_21 mh_Mo, mF_5 mh_Mo, mF_6 mh_Mo, mF_8 mh_Mo, mF_9 mh_Mo, mA_63 mh_Mo, mA_64 mh_Mo, mA_65 mh_Mo, mA_66 mh_Mo, mA_67 mh_Mo, mA_68 mh_Mo, mA_69 mh_Mo, mA_70 mh_Mo, mA_71 mh_Mo, xq_187_13_virtualm mh_Mo, xq_188_200_static, xq_189_13_virtualm mh_Mo, xq_196_13_virtualm mh_Mo, xq_234_13_virtualm mh_Mo, pF_0, pF_1, pF_2, pF_5, pF_6, pF_8, pF_12, pF_16, pF_17, pF_18, pF_22, pF_24, pF_19, pF_20, pF_21, pF_23, pN_19, pN_20, pN_21, pN_23, pA_63, pA_64, pA_65, pA_66, pA_67, pA_68, pA_69, pA_70, pA_71, iN_add, iN_mul, iN_sub, iN_and, iN_or, iN_clr, iN_shl, iN_shr, tb_r1, b1_z, b1_or, b1_and, b1_or0, b1_or1, b1_0or, b1_t, b1_f, iN_lt, iN_inj, reduceIte, if_true, if_false, Nat.zero_add, Nat.add_zero, Bool.false_eq_true, Bool.true_eq_false, Nat.lt_irrefl, iN_az, not_true_eq_false, not_false_eq_true, Nat.reduceEqDiff, Nat.reduceLT, Nat.reduceAdd, Nat.reduceMul, Nat.reduceSub]
  · rw [eb_242_19]
    simp (disch := first | assumption | omega | exact st8_a (Nat.le_of_ble_eq_true rfl)) only [Nat.not_lt_zero, eb_242_20, eb_242_22, eb_242_23, kl_a, kl_d, kl_f, kl_i, kl_l, kl_n, kl_r, xr_1, xr_10, xr_111, xr_112, xr_113, xr_141, xr_143, xr_144, xr_2, xr_27, xr_28, xr_3, xr_31, xr_32, xr_33, xr_34, xr_35, xr_36, xr_37, xr_38, xr_4, xr_40, xr_44, xr_5, xr_55, xr_56, xr_57, xr_61, xr_62, xr_65, xr_71, xr_77, af_0, af_1, xt_goto, xt_ib, xt_ic, xt_ic_ge, xt_ic_ne, xt_if_eq, xt_if_lt, xt_if_ne, xt_ir, xt_nop, mF_0 mh_Mo, mF_1 mh_Mo, mF_10 mh_Mo, mF_19 mh_Mo, mF_2 mh_Mo, mF_21 mh_Mo, mF_5 mh_Mo, mF_6 mh_Mo, mF_8 mh_Mo, mF_9 mh_Mo, mA_63 mh_Mo, mA_64 mh_Mo, mA_65 mh_Mo, mA_66 mh_Mo, mA_67 mh_Mo, mA_68 mh_Mo, mA_69 mh_Mo, mA_70 mh_Mo, mA_71 mh_Mo, xq_187_13_virtualm mh_Mo, xq_188_200_static, xq_189_13_virtualm mh_Mo, xq_196_13_virtualm mh_Mo, xq_234_13_virtualm mh_Mo, pF_0, pF_1, pF_2, pF_5, pF_6, pF_8, pF_12, pF_16, pF_17, pF_18, pF_22, pF_24, pF_19, pF_20, pF_21, pF_23, pN_19, pN_20, pN_21, pN_23, pA_63, pA_64, pA_65, pA_66, pA_67, pA_68, pA_69, pA_70, pA_71, iN_add, iN_mul, iN_sub, iN_and, iN_or, iN_clr, iN_shl, iN_shr, tb_r1, b1_z, b1_or, b1_and, b1_or0, b1_or1, b1_0or, b1_t, b1_f, iN_lt, iN_inj, reduceIte, if_true, if_false, Nat.zero_add, Nat.add_zero, Bool.false_eq_true, Bool.true_eq_false, Nat.lt_irrefl, iN_az, not_true_eq_false, not_false_eq_true, Nat.reduceEqDiff, Nat.reduceLT, Nat.reduceAdd, Nat.reduceMul, Nat.reduceSub]
  · rw [eb_242_19]
    simp (disch := first | assumption | omega | exact st8_a (Nat.le_of_ble_eq_true rfl)) only [Nat.not_lt_zero, hν, pQ_l hi, t1, eb_242_20, eb_242_22, eb_242_24, kl_a, kl_d, kl_f, kl_i, kl_l, kl_n, kl_r, xr_1, xr_10, xr_111, xr_112, xr_113, xr_141, xr_143, xr_144, xr_2, xr_27, xr_28, xr_3, xr_31, xr_32, xr_33, xr_34, xr_35, xr_36, xr_37, xr_38, xr_4, xr_40, xr_44, xr_5, xr_55, xr_56, xr_57, xr_61, xr_62, xr_65, xr_71, xr_77, af_0, af_1, xt_goto, xt_ib, xt_ic, xt_ic_ge, xt_ic_ne, xt_if_eq, xt_if_lt, xt_if_ne, xt_ir, xt_nop, mF_0 mh_Mo, mF_1 mh_Mo, mF_10 mh_Mo, mF_19 mh_Mo, mF_2 mh_Mo, mF_21 mh_Mo, mF_5 mh_Mo, mF_6 mh_Mo, mF_8 mh_Mo, mF_9 mh_Mo, mA_63 mh_Mo, mA_64 mh_Mo, mA_65 mh_Mo, mA_66 mh_Mo, mA_67 mh_Mo, mA_68 mh_Mo, mA_69 mh_Mo, mA_70 mh_Mo, mA_71 mh_Mo, xq_187_13_virtualm mh_Mo, xq_188_200_static, xq_189_13_virtualm mh_Mo, xq_196_13_virtualm mh_Mo, xq_234_13_virtualm mh_Mo, pF_0, pF_1, pF_2, pF_5, pF_6, pF_8, pF_12, pF_16, pF_17, pF_18, pF_22, pF_24, pF_19, pF_20, pF_21, pF_23, pN_19, pN_20, pN_21, pN_23, pA_63, pA_64, pA_65, pA_66, pA_67, pA_68, pA_69, pA_70, pA_71, iN_add, iN_mul, iN_sub, iN_and, iN_or, iN_clr, iN_shl, iN_shr, tb_r1, b1_z, b1_or, b1_and, b1_or0, b1_or1, b1_0or, b1_t, b1_f, iN_lt, iN_inj, reduceIte, if_true, if_false, Nat.zero_add, Nat.add_zero, Bool.false_eq_true, Bool.true_eq_false, Nat.lt_irrefl, iN_az, not_true_eq_false, not_false_eq_true, Nat.reduceEqDiff, Nat.reduceLT, Nat.reduceAdd, Nat.reduceMul, Nat.reduceSub]
set_option maxRecDepth 100000 in
theorem m_242i (O : Ok σ) (h : kd ≤ 2) (hν : ν 0 = .ref (72 + i)) (hi : Q[i]? = some (oI (ar (σ 1 6) (tv σ s r)))) (hb : ∀ l, l < (σ 1 6) → s l < (σ 1 2) ∧ r l < (σ 1 5)) (hν2 : ν 2 = .ref (72 + Q.length)) (hn : n < bdk σ kd) (hy : y < (σ 1 2)) (hN : m ≤ 7) (hx : z < m) {x3 : Int32} : ∀ k, k ≤ (σ 1 6) → ∀ c x7, CHd (own σ s r kd n y) k (σ 1 6) c → ∃ c' x6 x7', CHs (own σ s r kd n y) (σ 1 6) c' ∧ ev xs (d + 3) 242 19 ([.ref 62, .int (nI kd), .int (nI n), .int x3, .int (nI y), .int (nI z), .int (nI k - nI 1), x7], [], mh τ M σ μ ν (Q ++ [oI (ar m (u1 f z c))])) = ev xs (d + 3) 242 31 ([.ref 62, .int (nI kd), .int (nI n), .int x3, .int (nI y), .int (nI z), x6, x7'], [], mh τ M σ μ ν (Q ++ [oI (ar m (u1 f z c'))])) := by
  obtain ⟨hD1, hD2, hH1, hH2, hS, hC, hT, hR, hL, hQ⟩ := Ok_b O
  intro k
  induction k with
  | zero =>
    intro hk c x7 hc
    refine ⟨c, .int (nI 4294967295), x7, ?_, ?_⟩
    · rcases hc with ⟨l, h1, h2, h3, h4, h5⟩ | ⟨h1, h5⟩
      · exact .inl ⟨l, h2, h3, fun j hj => h4 j (Nat.zero_le _) hj, h5⟩
      · exact .inr ⟨fun j hj => h1 j (Nat.zero_le _) hj, h5⟩
    · rw [nI_m1, eb_242_19]
      clear hb hi hc
      simp (disch := first | assumption | omega | exact st8_a (Nat.le_of_ble_eq_true rfl)) only [nI_ng, kl_a, kl_d, kl_f, kl_i, kl_l, kl_n, kl_r, xr_1, xr_10, xr_111, xr_112, xr_113, xr_141, xr_143, xr_144, xr_2, xr_27, xr_28, xr_3, xr_31, xr_32, xr_33, xr_34, xr_35, xr_36, xr_37, xr_38, xr_4, xr_40, xr_44, xr_5, xr_55, xr_56, xr_57, xr_61, xr_62, xr_65, xr_71, xr_77, af_0, af_1, xt_goto, xt_ib, xt_ic, xt_ic_ge, xt_ic_ne, xt_if_eq, xt_if_lt, xt_if_ne, xt_ir, xt_nop, mF_0 mh_Mo, mF_1 mh_Mo, mF_10 mh_Mo, mF_19 mh_Mo, mF_2 mh_Mo, mF_21 mh_Mo, mF_5 mh_Mo, mF_6 mh_Mo, mF_8 mh_Mo, mF_9 mh_Mo, mA_63 mh_Mo, mA_64 mh_Mo, mA_65 mh_Mo, mA_66 mh_Mo, mA_67 mh_Mo, mA_68 mh_Mo, mA_69 mh_Mo, mA_70 mh_Mo, mA_71 mh_Mo, xq_187_13_virtualm mh_Mo, xq_188_200_static, xq_189_13_virtualm mh_Mo, xq_196_13_virtualm mh_Mo, xq_234_13_virtualm mh_Mo, pF_0, pF_1, pF_2, pF_5, pF_6, pF_8, pF_12, pF_16, pF_17, pF_18, pF_22, pF_24, pF_19, pF_20, pF_21, pF_23, pN_19, pN_20, pN_21, pN_23, pA_63, pA_64, pA_65, pA_66, pA_67, pA_68, pA_69, pA_70, pA_71, iN_add, iN_mul, iN_sub, iN_and, iN_or, iN_clr, iN_shl, iN_shr, tb_r1, b1_z, b1_or, b1_and, b1_or0, b1_or1, b1_0or, b1_t, b1_f, iN_lt, iN_inj, reduceIte, if_true, if_false, Nat.zero_add, Nat.add_zero, Bool.false_eq_true, Bool.true_eq_false, Nat.lt_irrefl, iN_az, not_true_eq_false, not_false_eq_true, Nat.reduceEqDiff, Nat.reduceLT, Nat.reduceAdd, Nat.reduceMul, Nat.reduceSub]
  | succ k ih =>
    intro hk c x7 hc
    have hkL : k < (σ 1 6) := by omega
    have em1 : nI (k + 1) - nI 1 = nI k := by rw [iN_sub (by omega), Nat.add_sub_cancel]
    have q1 := gt_last (B := Q) (x := oI (ar m (u1 f z c)))
    have q2 := gt_ap (T := [oI (ar m (u1 f z c))]) hi
    have e0 := m_242w (xs := xs) (d := d + 3) (τ := τ) (M := M) (μ := μ) (x2 := nI n) (x3 := x3) (x4 := nI y) (x5 := nI z) (x7 := x7) O h hν q2 hb hkL
    have e1 := m_196 (xs := xs) (d := d) O (mh_Mo (τ := τ) (M := M) (μ := μ) (ν := ν) (Q := Q ++ [oI (ar m (u1 f z c))])) hkL (tv_b (hb k hkL).1 (hb k hkL).2)
    rw [tv_d (hb k hkL).2] at e1
    have hc64 := cov_lt O (l := k) (hb k hkL).1
    have hr3 : r k < 3 := by have := (hb k hkL).2; omega
    have hw : whn σ r kd k < 4294967296 := by
      have := Ok_l O hkL
      unfold whn
      split
      · omega
      · split <;> omega
    have hn2 : n < 4294967296 := by
      have : bdk σ kd < 1000 := by
        unfold bdk
        split
        · omega
        · split <;> omega
      omega
    have hu : u1 (u1 f z c) z (48 + k) = u1 f z (48 + k) := uu
    have huc : u1 (u1 f z c) z c = u1 f z c := uu
    have hzc : u1 f z c z = c := u1_s _ _ _
    rw [em1, e0]
    clear e0
    by_cases ho : own σ s r kd n y k
    · obtain ⟨o1, o2⟩ := ho
      have o2' : whn σ r kd k = n := o2
      obtain ⟨c', x6, x7', g1, g2⟩ := ih (by omega) (48 + k) (.int (nI (whn σ r kd k))) (.inl ⟨k, Nat.le_refl _, hkL, ⟨o1, o2⟩, fun j h1 h2 => absurd h2 (by omega), rfl⟩)
      refine ⟨c', x6, x7', g1, ?_⟩
      rw [← g2, eb_242_25]
      clear hb hi hc ih g1 g2 o2
      simp (disch := first | assumption | omega | exact st8_a (Nat.le_of_ble_eq_true rfl)) only [hν, hν2, eq_true o2', pQ_l q2, e1, o1, pQ_s q1, st_last, hu, eb_242_26, eb_242_27, eb_242_28, eb_242_30, kl_a, kl_d, kl_f, kl_i, kl_l, kl_n, kl_r, xr_1, xr_10, xr_111, xr_112, xr_113, xr_141, xr_143, xr_144, xr_2, xr_27, xr_28, xr_3, xr_31, xr_32, xr_33, xr_34, xr_35, xr_36, xr_37, xr_38, xr_4, xr_40, xr_44, xr_5, xr_55, xr_56, xr_57, xr_61, xr_62, xr_65, xr_71, xr_77, af_0, af_1, xt_goto, xt_ib, xt_ic, xt_ic_ge, xt_ic_ne, xt_if_eq, xt_if_lt, xt_if_ne, xt_ir, xt_nop, mF_0 mh_Mo, mF_1 mh_Mo, mF_10 mh_Mo, mF_19 mh_Mo, mF_2 mh_Mo, mF_21 mh_Mo, mF_5 mh_Mo, mF_6 mh_Mo, mF_8 mh_Mo, mF_9 mh_Mo, mA_63 mh_Mo, mA_64 mh_Mo, mA_65 mh_Mo, mA_66 mh_Mo, mA_67 mh_Mo, mA_68 mh_Mo, mA_69 mh_Mo, mA_70 mh_Mo, mA_71 mh_Mo, xq_187_13_virtualm mh_Mo, xq_188_200_static, xq_189_13_virtualm mh_Mo, xq_196_13_virtualm mh_Mo, xq_234_13_virtualm mh_Mo, pF_0, pF_1, pF_2, pF_5, pF_6, pF_8, pF_12, pF_16, pF_17, pF_18, pF_22, pF_24, pF_19, pF_20, pF_21, pF_23, pN_19, pN_20, pN_21, pN_23, pA_63, pA_64, pA_65, pA_66, pA_67, pA_68, pA_69, pA_70, pA_71, iN_add, iN_mul, iN_and, iN_or, iN_clr, iN_shl, iN_shr, tb_r1, b1_z, b1_or, b1_and, b1_or0, b1_or1, b1_0or, b1_t, b1_f, iN_lt, iN_inj, reduceIte, if_true, if_false, Nat.zero_add, Nat.add_zero, Bool.false_eq_true, Bool.true_eq_false, Nat.lt_irrefl, iN_az, not_true_eq_false, not_false_eq_true, Nat.reduceEqDiff, Nat.reduceLT, Nat.reduceAdd, Nat.reduceMul, Nat.reduceSub]
    · obtain ⟨c', x6, x7', g1, g2⟩ := ih (by omega) c (.int (nI (whn σ r kd k))) (by
        rcases hc with ⟨l, h1, h2, h3, h4, h5⟩ | ⟨h1, h5⟩
        · refine .inl ⟨l, by omega, h2, h3, fun j h6 h7 => ?_, h5⟩
          by_cases e : j = k
          · rw [e]; exact ho
          · exact h4 j (by omega) h7
        · refine .inr ⟨fun j h6 h7 => ?_, h5⟩
          by_cases e : j = k
          · rw [e]; exact ho
          · exact h1 j (by omega) h7)
      refine ⟨c', x6, x7', g1, ?_⟩
      rw [← g2, eb_242_25]
      by_cases o2 : whn σ r kd k = n
      · have o1 : (cov σ k (s k)).testBit y = false := by
          cases hh : (cov σ k (s k)).testBit y
          · rfl
          · exact absurd ⟨hh, o2⟩ ho
        clear hb hi hc ih g1 g2 ho
        simp (disch := first | assumption | omega | exact st8_a (Nat.le_of_ble_eq_true rfl)) only [hν, hν2, eq_true o2, pQ_l q2, pQ_l q1, e1, o1, pQ_s q1, st_last, huc, hzc, eb_242_26, eb_242_27, eb_242_29, eb_242_30, kl_a, kl_d, kl_f, kl_i, kl_l, kl_n, kl_r, xr_1, xr_10, xr_111, xr_112, xr_113, xr_141, xr_143, xr_144, xr_2, xr_27, xr_28, xr_3, xr_31, xr_32, xr_33, xr_34, xr_35, xr_36, xr_37, xr_38, xr_4, xr_40, xr_44, xr_5, xr_55, xr_56, xr_57, xr_61, xr_62, xr_65, xr_71, xr_77, af_0, af_1, xt_goto, xt_ib, xt_ic, xt_ic_ge, xt_ic_ne, xt_if_eq, xt_if_lt, xt_if_ne, xt_ir, xt_nop, mF_0 mh_Mo, mF_1 mh_Mo, mF_10 mh_Mo, mF_19 mh_Mo, mF_2 mh_Mo, mF_21 mh_Mo, mF_5 mh_Mo, mF_6 mh_Mo, mF_8 mh_Mo, mF_9 mh_Mo, mA_63 mh_Mo, mA_64 mh_Mo, mA_65 mh_Mo, mA_66 mh_Mo, mA_67 mh_Mo, mA_68 mh_Mo, mA_69 mh_Mo, mA_70 mh_Mo, mA_71 mh_Mo, xq_187_13_virtualm mh_Mo, xq_188_200_static, xq_189_13_virtualm mh_Mo, xq_196_13_virtualm mh_Mo, xq_234_13_virtualm mh_Mo, pF_0, pF_1, pF_2, pF_5, pF_6, pF_8, pF_12, pF_16, pF_17, pF_18, pF_22, pF_24, pF_19, pF_20, pF_21, pF_23, pN_19, pN_20, pN_21, pN_23, pA_63, pA_64, pA_65, pA_66, pA_67, pA_68, pA_69, pA_70, pA_71, iN_add, iN_mul, iN_and, iN_or, iN_clr, iN_shl, iN_shr, tb_r1, b1_z, b1_or, b1_and, b1_or0, b1_or1, b1_0or, b1_t, b1_f, iN_lt, iN_inj, reduceIte, if_true, if_false, Nat.zero_add, Nat.add_zero, Bool.false_eq_true, Bool.true_eq_false, Nat.lt_irrefl, iN_az, not_true_eq_false, not_false_eq_true, Nat.reduceEqDiff, Nat.reduceLT, Nat.reduceAdd, Nat.reduceMul, Nat.reduceSub]
      · clear hb hi hc ih g1 g2 ho
        simp (disch := first | assumption | omega | exact st8_a (Nat.le_of_ble_eq_true rfl)) only [hν, hν2, o2, pQ_l q1, pQ_s q1, st_last, huc, hzc, eb_242_29, eb_242_30, kl_a, kl_d, kl_f, kl_i, kl_l, kl_n, kl_r, xr_1, xr_10, xr_111, xr_112, xr_113, xr_141, xr_143, xr_144, xr_2, xr_27, xr_28, xr_3, xr_31, xr_32, xr_33, xr_34, xr_35, xr_36, xr_37, xr_38, xr_4, xr_40, xr_44, xr_5, xr_55, xr_56, xr_57, xr_61, xr_62, xr_65, xr_71, xr_77, af_0, af_1, xt_goto, xt_ib, xt_ic, xt_ic_ge, xt_ic_ne, xt_if_eq, xt_if_lt, xt_if_ne, xt_ir, xt_nop, mF_0 mh_Mo, mF_1 mh_Mo, mF_10 mh_Mo, mF_19 mh_Mo, mF_2 mh_Mo, mF_21 mh_Mo, mF_5 mh_Mo, mF_6 mh_Mo, mF_8 mh_Mo, mF_9 mh_Mo, mA_63 mh_Mo, mA_64 mh_Mo, mA_65 mh_Mo, mA_66 mh_Mo, mA_67 mh_Mo, mA_68 mh_Mo, mA_69 mh_Mo, mA_70 mh_Mo, mA_71 mh_Mo, xq_187_13_virtualm mh_Mo, xq_188_200_static, xq_189_13_virtualm mh_Mo, xq_196_13_virtualm mh_Mo, xq_234_13_virtualm mh_Mo, pF_0, pF_1, pF_2, pF_5, pF_6, pF_8, pF_12, pF_16, pF_17, pF_18, pF_22, pF_24, pF_19, pF_20, pF_21, pF_23, pN_19, pN_20, pN_21, pN_23, pA_63, pA_64, pA_65, pA_66, pA_67, pA_68, pA_69, pA_70, pA_71, iN_add, iN_mul, iN_and, iN_or, iN_clr, iN_shl, iN_shr, tb_r1, b1_z, b1_or, b1_and, b1_or0, b1_or1, b1_0or, b1_t, b1_f, iN_lt, iN_inj, reduceIte, if_true, if_false, Nat.zero_add, Nat.add_zero, Bool.false_eq_true, Bool.true_eq_false, Nat.lt_irrefl, iN_az, not_true_eq_false, not_false_eq_true, Nat.reduceEqDiff, Nat.reduceLT, Nat.reduceAdd, Nat.reduceMul, Nat.reduceSub]
end Mdl
