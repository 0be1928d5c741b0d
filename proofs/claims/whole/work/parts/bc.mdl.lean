/-! THE MODEL: print -/
/-- what is looked for in a lesson -/
def whn (σ : Nat → Nat → Nat) (r : Nat → Nat) (kd l : Nat) : Nat := if kd = 0 then σ 5 l else if kd = 1 then σ 6 l else r l
/-- the letter of an hour, by the lessons from k on -/
def CHd (p : Nat → Prop) (k n c : Nat) : Prop := (∃ l, k ≤ l ∧ l < n ∧ p l ∧ (∀ j, k ≤ j → j < l → ¬ p j) ∧ c = 48 + l) ∨ ((∀ j, k ≤ j → j < n → ¬ p j) ∧ c = 46)
section Mdl
variable {xs : List Int32} {d m n k i j p a b c u v l q z w y t nn kd : Nat} {τ M σ W K : Nat → Nat → Nat} {μ μ0 : Nat → Nat} {ν ν0 : Nat → Value} {A B Q T T2 h : ab_H} {s r g f X Z Y tab s0 r0 F s2 r2 : Nat → Nat} {L st : List Value} {β : Value}
set_option maxRecDepth 100000 in
theorem m_242x (O : Ok σ) (hk : kd < 4294967296) (h : ¬ kd ≤ 2) {y : Int32} : ev xs (d + 1) 242 0 ([.ref 62, .int (nI kd), .int y, .retAddr 9, .retAddr 9, .retAddr 9, .retAddr 9, .retAddr 9], [], mh τ M σ μ ν Q) = some (.inl (some (.int (nI (0)))), mh τ M σ (u1 μ 0 1) ν Q) := by
  have h0 : ¬ kd = 0 := by omega
  have h1 : ¬ kd = 1 := by omega
  have h2 : ¬ (0 ≤ kd ∧ kd ≤ 2) := by omega
  simp (disch := first | assumption | omega | exact st8_a (Nat.le_of_ble_eq_true rfl)) only [h0, h1, m_188c hk, decide_eq_false h2, en0, eb_242_0, eb_242_2, eb_242_4, eb_242_5, eb_242_6, eb_242_7, eb_242_13, kl_a, kl_d, kl_f, kl_i, kl_l, kl_n, kl_r, xr_1, xr_10, xr_111, xr_112, xr_113, xr_141, xr_143, xr_144, xr_2, xr_27, xr_28, xr_3, xr_31, xr_32, xr_33, xr_34, xr_35, xr_36, xr_37, xr_38, xr_4, xr_40, xr_44, xr_5, xr_55, xr_56, xr_57, xr_61, xr_62, xr_65, xr_71, xr_77, af_0, af_1, xt_goto, xt_ib, xt_ic, xt_ic_ge, xt_ic_ne, xt_if_eq, xt_if_lt, xt_if_ne, xt_ir, xt_nop, mF_0 mh_Mo, mF_1 mh_Mo, mF_10 mh_Mo, mF_19 mh_Mo, mF_2 mh_Mo, mF_21 mh_Mo, mF_5 mh_Mo, mF_6 mh_Mo, mF_8 mh_Mo, mF_9 mh_Mo, mA_63 mh_Mo, mA_64 mh_Mo, mA_65 mh_Mo, mA_66 mh_Mo, mA_67 mh_Mo, mA_68 mh_Mo, mA_69 mh_Mo, mA_70 mh_Mo, mA_71 mh_Mo, xq_187_13_virtualm mh_Mo, xq_188_200_static, xq_189_13_virtualm mh_Mo, xq_196_13_virtualm mh_Mo, xq_234_13_virtualm mh_Mo, pF_0, pF_1, pF_2, pF_5, pF_6, pF_8, pF_12, pF_16, pF_17, pF_18, pF_22, pF_24, pF_19, pF_20, pF_21, pF_23, pN_19, pN_20, pN_21, pN_23, pA_63, pA_64, pA_65, pA_66, pA_67, pA_68, pA_69, pA_70, pA_71, iN_add, iN_mul, iN_sub, iN_and, iN_or, iN_clr, iN_shl, iN_shr, tb_r1, b1_z, b1_or, b1_and, b1_or0, b1_or1, b1_0or, b1_t, b1_f, iN_lt, iN_inj, reduceIte, if_true, if_false, Nat.zero_add, Nat.add_zero, Bool.false_eq_true, Bool.true_eq_false, Nat.lt_irrefl, iN_az, not_true_eq_false, not_false_eq_true, Nat.reduceEqDiff, Nat.reduceLT, Nat.reduceAdd, Nat.reduceMul, Nat.reduceSub]
set_option maxRecDepth 100000 in
theorem m_242g (O : Ok σ) (h : kd ≤ 2) {y : Int32} : ev xs (d + 1) 242 0 ([.ref 62, .int (nI kd), .int y, .retAddr 9, .retAddr 9, .retAddr 9, .retAddr 9, .retAddr 9], [], mh τ M σ μ ν Q) = ev xs (d + 1) 242 8 ([.ref 62, .int (nI kd), .int y, .int (nI (bdk σ kd)), .retAddr 9, .retAddr 9, .retAddr 9, .retAddr 9], [], mh τ M σ (u1 μ 0 0) ν Q) := by
  have hk : kd < 4294967296 := by omega
  have h2 : 0 ≤ kd ∧ kd ≤ 2 := by omega
  unfold bdk
  have : kd = 0 ∨ kd = 1 ∨ kd = 2 := by omega
  rcases this with rfl | rfl | rfl
  · simp (disch := first | assumption | omega | exact st8_a (Nat.le_of_ble_eq_true rfl)) only [m_188c hk, decide_eq_true h2, en1, eb_242_0, eb_242_1, eb_242_5, eb_242_6, eb_242_7, kl_a, kl_d, kl_f, kl_i, kl_l, kl_n, kl_r, xr_1, xr_10, xr_111, xr_112, xr_113, xr_141, xr_143, xr_144, xr_2, xr_27, xr_28, xr_3, xr_31, xr_32, xr_33, xr_34, xr_35, xr_36, xr_37, xr_38, xr_4, xr_40, xr_44, xr_5, xr_55, xr_56, xr_57, xr_61, xr_62, xr_65, xr_71, xr_77, af_0, af_1, xt_goto, xt_ib, xt_ic, xt_ic_ge, xt_ic_ne, xt_if_eq, xt_if_lt, xt_if_ne, xt_ir, xt_nop, mF_0 mh_Mo, mF_1 mh_Mo, mF_10 mh_Mo, mF_19 mh_Mo, mF_2 mh_Mo, mF_21 mh_Mo, mF_5 mh_Mo, mF_6 mh_Mo, mF_8 mh_Mo, mF_9 mh_Mo, mA_63 mh_Mo, mA_64 mh_Mo, mA_65 mh_Mo, mA_66 mh_Mo, mA_67 mh_Mo, mA_68 mh_Mo, mA_69 mh_Mo, mA_70 mh_Mo, mA_71 mh_Mo, xq_187_13_virtualm mh_Mo, xq_188_200_static, xq_189_13_virtualm mh_Mo, xq_196_13_virtualm mh_Mo, xq_234_13_virtualm mh_Mo, pF_0, pF_1, pF_2, pF_5, pF_6, pF_8, pF_12, pF_16, pF_17, pF_18, pF_22, pF_24, pF_19, pF_20, pF_21, pF_23, pN_19, pN_20, pN_21, pN_23, pA_63, pA_64, pA_65, pA_66, pA_67, pA_68, pA_69, pA_70, pA_71, iN_add, iN_mul, iN_sub, iN_and, iN_or, iN_clr, iN_shl, iN_shr, tb_r1, b1_z, b1_or, b1_and, b1_or0, b1_or1, b1_0or, b1_t, b1_f, iN_lt, iN_inj, reduceIte, if_true, if_false, Nat.zero_add, Nat.add_zero, Bool.false_eq_true, Bool.true_eq_false, Nat.lt_irrefl, iN_az, not_true_eq_false, not_false_eq_true, Nat.reduceEqDiff, Nat.reduceLT, Nat.reduceAdd, Nat.reduceMul, Nat.reduceSub]
  · simp (disch := first | assumption | omega | exact st8_a (Nat.le_of_ble_eq_true rfl)) only [m_188c hk, decide_eq_true h2, en1, eb_242_0, eb_242_2, eb_242_3, eb_242_5, eb_242_6, eb_242_7, kl_a, kl_d, kl_f, kl_i, kl_l, kl_n, kl_r, xr_1, xr_10, xr_111, xr_112, xr_113, xr_141, xr_143, xr_144, xr_2, xr_27, xr_28, xr_3, xr_31, xr_32, xr_33, xr_34, xr_35, xr_36, xr_37, xr_38, xr_4, xr_40, xr_44, xr_5, xr_55, xr_56, xr_57, xr_61, xr_62, xr_65, xr_71, xr_77, af_0, af_1, xt_goto, xt_ib, xt_ic, xt_ic_ge, xt_ic_ne, xt_if_eq, xt_if_lt, xt_if_ne, xt_ir, xt_nop, mF_0 mh_Mo, mF_1 mh_Mo, mF_10 mh_Mo, mF_19 mh_Mo, mF_2 mh_Mo, mF_21 mh_Mo, mF_5 mh_Mo, mF_6 mh_Mo, mF_8 mh_Mo, mF_9 mh_Mo, mA_63 mh_Mo, mA_64 mh_Mo, mA_65 mh_Mo, mA_66 mh_Mo, mA_67 mh_Mo, mA_68 mh_Mo, mA_69 mh_Mo, mA_70 mh_Mo, mA_71 mh_Mo, xq_187_13_virtualm mh_Mo, xq_188_200_static, xq_189_13_virtualm mh_Mo, xq_196_13_virtualm mh_Mo, xq_234_13_virtualm mh_Mo, pF_0, pF_1, pF_2, pF_5, pF_6, pF_8, pF_12, pF_16, pF_17, pF_18, pF_22, pF_24, pF_19, pF_20, pF_21, pF_23, pN_19, pN_20, pN_21, pN_23, pA_63, pA_64, pA_65, pA_66, pA_67, pA_68, pA_69, pA_70, pA_71, iN_add, iN_mul, iN_sub, iN_and, iN_or, iN_clr, iN_shl, iN_shr, tb_r1, b1_z, b1_or, b1_and, b1_or0, b1_or1, b1_0or, b1_t, b1_f, iN_lt, iN_inj, reduceIte, if_true, if_false, Nat.zero_add, Nat.add_zero, Bool.false_eq_true, Bool.true_eq_false, Nat.lt_irrefl, iN_az, not_true_eq_false, not_false_eq_true, Nat.reduceEqDiff, Nat.reduceLT, Nat.reduceAdd, Nat.reduceMul, Nat.reduceSub]
  · simp (disch := first | assumption | omega | exact st8_a (Nat.le_of_ble_eq_true rfl)) only [m_188c hk, decide_eq_true h2, en1, eb_242_0, eb_242_2, eb_242_4, eb_242_5, eb_242_6, eb_242_7, kl_a, kl_d, kl_f, kl_i, kl_l, kl_n, kl_r, xr_1, xr_10, xr_111, xr_112, xr_113, xr_141, xr_143, xr_144, xr_2, xr_27, xr_28, xr_3, xr_31, xr_32, xr_33, xr_34, xr_35, xr_36, xr_37, xr_38, xr_4, xr_40, xr_44, xr_5, xr_55, xr_56, xr_57, xr_61, xr_62, xr_65, xr_71, xr_77, af_0, af_1, xt_goto, xt_ib, xt_ic, xt_ic_ge, xt_ic_ne, xt_if_eq, xt_if_lt, xt_if_ne, xt_ir, xt_nop, mF_0 mh_Mo, mF_1 mh_Mo, mF_10 mh_Mo, mF_19 mh_Mo, mF_2 mh_Mo, mF_21 mh_Mo, mF_5 mh_Mo, mF_6 mh_Mo, mF_8 mh_Mo, mF_9 mh_Mo, mA_63 mh_Mo, mA_64 mh_Mo, mA_65 mh_Mo, mA_66 mh_Mo, mA_67 mh_Mo, mA_68 mh_Mo, mA_69 mh_Mo, mA_70 mh_Mo, mA_71 mh_Mo, xq_187_13_virtualm mh_Mo, xq_188_200_static, xq_189_13_virtualm mh_Mo, xq_196_13_virtualm mh_Mo, xq_234_13_virtualm mh_Mo, pF_0, pF_1, pF_2, pF_5, pF_6, pF_8, pF_12, pF_16, pF_17, pF_18, pF_22, pF_24, pF_19, pF_20, pF_21, pF_23, pN_19, pN_20, pN_21, pN_23, pA_63, pA_64, pA_65, pA_66, pA_67, pA_68, pA_69, pA_70, pA_71, iN_add, iN_mul, iN_sub, iN_and, iN_or, iN_clr, iN_shl, iN_shr, tb_r1, b1_z, b1_or, b1_and, b1_or0, b1_or1, b1_0or, b1_t, b1_f, iN_lt, iN_inj, reduceIte, if_true, if_false, Nat.zero_add, Nat.add_zero, Bool.false_eq_true, Bool.true_eq_false, Nat.lt_irrefl, iN_az, not_true_eq_false, not_false_eq_true, Nat.reduceEqDiff, Nat.reduceLT, Nat.reduceAdd, Nat.reduceMul, Nat.reduceSub]
set_option maxRecDepth 100000 in
theorem m_242y (O : Ok σ) (h : kd ≤ 2) (hn : n < 4294967296) (hb : ¬ n < bdk σ kd) : ev xs (d + 1) 242 0 ([.ref 62, .int (nI kd), .int (nI n), .retAddr 9, .retAddr 9, .retAddr 9, .retAddr 9, .retAddr 9], [], mh τ M σ μ ν Q) = some (.inl (some (.int (nI (0)))), mh τ M σ (u1 μ 0 2) ν Q) := by
  obtain ⟨hD1, hD2, hH1, hH2, hS, hC, hT, hR, hL, hQ⟩ := Ok_b O
  have hb1 : bdk σ kd < 1000 := by
    unfold bdk
    split
    · omega
    · split <;> omega
  rw [m_242g O h]
  simp (disch := first | assumption | omega | exact st8_a (Nat.le_of_ble_eq_true rfl)) only [m_188n hn hb1, decide_eq_false hb, en0, uu, eb_242_8, eb_242_9, eb_242_10, eb_242_13, kl_a, kl_d, kl_f, kl_i, kl_l, kl_n, kl_r, xr_1, xr_10, xr_111, xr_112, xr_113, xr_141, xr_143, xr_144, xr_2, xr_27, xr_28, xr_3, xr_31, xr_32, xr_33, xr_34, xr_35, xr_36, xr_37, xr_38, xr_4, xr_40, xr_44, xr_5, xr_55, xr_56, xr_57, xr_61, xr_62, xr_65, xr_71, xr_77, af_0, af_1, xt_goto, xt_ib, xt_ic, xt_ic_ge, xt_ic_ne, xt_if_eq, xt_if_lt, xt_if_ne, xt_ir, xt_nop, mF_0 mh_Mo, mF_1 mh_Mo, mF_10 mh_Mo, mF_19 mh_Mo, mF_2 mh_Mo, mF_21 mh_Mo, mF_5 mh_Mo, mF_6 mh_Mo, mF_8 mh_Mo, mF_9 mh_Mo, mA_63 mh_Mo, mA_64 mh_Mo, mA_65 mh_Mo, mA_66 mh_Mo, mA_67 mh_Mo, mA_68 mh_Mo, mA_69 mh_Mo, mA_70 mh_Mo, mA_71 mh_Mo, xq_187_13_virtualm mh_Mo, xq_188_200_static, xq_189_13_virtualm mh_Mo, xq_196_13_virtualm mh_Mo, xq_234_13_virtualm mh_Mo, pF_0, pF_1, pF_2, pF_5, pF_6, pF_8, pF_12, pF_16, pF_17, pF_18, pF_22, pF_24, pF_19, pF_20, pF_21, pF_23, pN_19, pN_20, pN_21, pN_23, pA_63, pA_64, pA_65, pA_66, pA_67, pA_68, pA_69, pA_70, pA_71, iN_add, iN_mul, iN_and, iN_or, iN_clr, iN_shl, iN_shr, tb_r1, b1_z, b1_or, b1_and, b1_or0, b1_or1, b1_0or, b1_t, b1_f, iN_lt, iN_inj, reduceIte, if_true, if_false, Nat.zero_add, Nat.add_zero, Bool.false_eq_true, Bool.true_eq_false, Nat.lt_irrefl, iN_az, not_true_eq_false, not_false_eq_true, Nat.reduceEqDiff, Nat.reduceLT, Nat.reduceAdd, Nat.reduceMul, Nat.reduceSub]
set_option maxRecDepth 100000 in
theorem m_242n (O : Ok σ) (h : kd ≤ 2) (hb : n < bdk σ kd) (hν : ν 0 = .null) : ev xs (d + 2) 242 0 ([.ref 62, .int (nI kd), .int (nI n), .retAddr 9, .retAddr 9, .retAddr 9, .retAddr 9, .retAddr 9], [], mh τ M σ μ ν Q) = some (.inl (some (.int (nI (0)))), mh τ M σ (u1 μ 0 3) ν Q) := by
  obtain ⟨hD1, hD2, hH1, hH2, hS, hC, hT, hR, hL, hQ⟩ := Ok_b O
  have hb1 : bdk σ kd < 1000 := by
    unfold bdk
    split
    · omega
    · split <;> omega
  have hn : n < 4294967296 := by omega
  rw [m_242g O h]
  simp (disch := first | assumption | omega | exact st8_a (Nat.le_of_ble_eq_true rfl)) only [m_188n hn hb1, decide_eq_true hb, en1, m_234n hν, uu, eb_242_8, eb_242_9, eb_242_10, eb_242_11, eb_242_12, eb_242_13, kl_a, kl_d, kl_f, kl_i, kl_l, kl_n, kl_r, xr_1, xr_10, xr_111, xr_112, xr_113, xr_141, xr_143, xr_144, xr_2, xr_27, xr_28, xr_3, xr_31, xr_32, xr_33, xr_34, xr_35, xr_36, xr_37, xr_38, xr_4, xr_40, xr_44, xr_5, xr_55, xr_56, xr_57, xr_61, xr_62, xr_65, xr_71, xr_77, af_0, af_1, xt_goto, xt_ib, xt_ic, xt_ic_ge, xt_ic_ne, xt_if_eq, xt_if_lt, xt_if_ne, xt_ir, xt_nop, mF_0 mh_Mo, mF_1 mh_Mo, mF_10 mh_Mo, mF_19 mh_Mo, mF_2 mh_Mo, mF_21 mh_Mo, mF_5 mh_Mo, mF_6 mh_Mo, mF_8 mh_Mo, mF_9 mh_Mo, mA_63 mh_Mo, mA_64 mh_Mo, mA_65 mh_Mo, mA_66 mh_Mo, mA_67 mh_Mo, mA_68 mh_Mo, mA_69 mh_Mo, mA_70 mh_Mo, mA_71 mh_Mo, xq_187_13_virtualm mh_Mo, xq_188_200_static, xq_189_13_virtualm mh_Mo, xq_196_13_virtualm mh_Mo, xq_234_13_virtualm mh_Mo, pF_0, pF_1, pF_2, pF_5, pF_6, pF_8, pF_12, pF_16, pF_17, pF_18, pF_22, pF_24, pF_19, pF_20, pF_21, pF_23, pN_19, pN_20, pN_21, pN_23, pA_63, pA_64, pA_65, pA_66, pA_67, pA_68, pA_69, pA_70, pA_71, iN_add, iN_mul, iN_and, iN_or, iN_clr, iN_shl, iN_shr, tb_r1, b1_z, b1_or, b1_and, b1_or0, b1_or1, b1_0or, b1_t, b1_f, iN_lt, iN_inj, reduceIte, if_true, if_false, Nat.zero_add, Nat.add_zero, Bool.false_eq_true, Bool.true_eq_false, Nat.lt_irrefl, iN_az, not_true_eq_false, not_false_eq_true, Nat.reduceEqDiff, Nat.reduceLT, Nat.reduceAdd, Nat.reduceMul, Nat.reduceSub]
set_option maxRecDepth 100000 in
theorem m_242w (O : Ok σ) (h : kd ≤ 2) (hν : ν 0 = .ref (72 + i)) (hi : Q[i]? = some (oI (ar (σ 1 6) (tv σ s r)))) (hb : ∀ l, l < (σ 1 6) → s l < (σ 1 2) ∧ r l < (σ 1 5)) (hk : k < (σ 1 6)) {x2 x3 x4 x5 : Int32} {x7 : Value} : ev xs d 242 19 ([.ref 62, .int (nI kd), .int x2, .int x3, .int x4, .int x5, .int (nI k), x7], [], mh τ M σ μ ν Q) = ev xs d 242 25 ([.ref 62, .int (nI kd), .int x2, .int x3, .int x4, .int x5, .int (nI k), x7], [.int (nI (whn σ r kd k))], mh τ M σ μ ν Q) := by
  obtain ⟨hD1, hD2, hH1, hH2, hS, hC, hT, hR, hL, hQ⟩ := Ok_b O
  have hv := tv_b (σ := σ) (hb k hk).1 (hb k hk).2
  have hv2 := vle O
  have t1 := tv_m (σ := σ) (s := s) (hb k hk).2
  have hR0 : 0 < (σ 1 5) := by have := (hb k hk).2; omega
  have hv3 : tv σ s r k < 2147483648 := by omega
  have hk6 : k < 6 := by omega
  clear hb
  unfold whn
  have : kd = 0 ∨ kd = 1 ∨ kd = 2 := by omega
  rcases this with rfl | rfl | rfl
  · rw [eb_242_19]
    simp (disch := first | assumption | omega | exact st8_a (Nat.le_of_ble_eq_true rfl)) only [Nat.not_lt_zero, eb_242_20, eb_242_21, kl_a, kl_d, kl_f, kl_i, kl_l, kl_n, kl_r, xr_1, xr_10, xr_111, xr_112, xr_113, xr_141, xr_143, xr_144, xr_2, xr_27, xr_28, xr_3, xr_31, xr_32, xr_33, xr_34, xr_35, xr_36, xr_37, xr_38, xr_4, xr_40, xr_44, xr_5, xr_55, xr_56, xr_57, xr_61, xr_62, xr_65, xr_71, xr_77, af_0, af_1, xt_goto, xt_ib, xt_ic, xt_ic_ge, xt_ic_ne, xt_if_eq, xt_if_lt, xt_if_ne, xt_ir, xt_nop, mF_0 mh_Mo, mF_1 mh_Mo, mF_10 mh_Mo, mF_19 mh_Mo, mF_2 mh_Mo, mF_21 mh_Mo, mF_5 mh_Mo, mF_6 mh_Mo, mF_8 mh_Mo, mF_9 mh_Mo, mA_63 mh_Mo, mA_64 mh_Mo, mA_65 mh_Mo, mA_66 mh_Mo, mA_67 mh_Mo, mA_68 mh_Mo, mA_69 mh_Mo, mA_70 mh_Mo, mA_71 mh_Mo, xq_187_13_virtualm mh_Mo, xq_188_200_static, xq_189_13_virtualm mh_Mo, xq_196_13_virtualm mh_Mo, xq_234_13_virtualm mh_Mo, pF_0, pF_1, pF_2, pF_5, pF_6, pF_8, pF_12, pF_16, pF_17, pF_18, pF_22, pF_24, pF_19, pF_20, pF_21, pF_23, pN_19, pN_20, pN_21, pN_23, pA_63, pA_64, pA_65, pA_66, pA_67, pA_68, pA_69, pA_70, pA_71, iN_add, iN_mul, iN_sub, iN_and, iN_or, iN_clr, iN_shl, iN_shr, tb_r1, b1_z, b1_or, b1_and, b1_or0, b1_or1, b1_0or, b1_t, b1_f, iN_lt, iN_inj, reduceIte, if_true, if_false, Nat.zero_add, Nat.add_zero, Bool.false_eq_true, Bool.true_eq_false, Nat.lt_irrefl, iN_az, not_true_eq_false, not_false_eq_true, Nat.reduceEqDiff, Nat.reduceLT, Nat.reduceAdd, Nat.reduceMul, Nat.reduceSub]
  · rw [eb_242_19]
    simp (disch := first | assumption | omega | exact st8_a (Nat.le_of_ble_eq_true rfl)) only [Nat.not_lt_zero, eb_242_20, eb_242_22, eb_242_23, kl_a, kl_d, kl_f, kl_i, kl_l, kl_n, kl_r, xr_1, xr_10, xr_111, xr_112, xr_113, xr_141, xr_143, xr_144, xr_2, xr_27, xr_28, xr_3, xr_31, xr_32, xr_33, xr_34, xr_35, xr_36, xr_37, xr_38, xr_4, xr_40, xr_44, xr_5, xr_55, xr_56, xr_57, xr_61, xr_62, xr_65, xr_71, xr_77, af_0, af_1, xt_goto, xt_ib, xt_ic, xt_ic_ge, xt_ic_ne, xt_if_eq, xt_if_lt, xt_if_ne, xt_ir, xt_nop, mF_0 mh_Mo, mF_1 mh_Mo, mF_10 mh_Mo, mF_19 mh_Mo, mF_2 mh_Mo, mF_21 mh_Mo, mF_5 mh_Mo, mF_6 mh_Mo, mF_8 mh_Mo, mF_9 mh_Mo, mA_63 mh_Mo, mA_64 mh_Mo, mA_65 mh_Mo, mA_66 mh_Mo, mA_67 mh_Mo, mA_68 mh_Mo, mA_69 mh_Mo, mA_70 mh_Mo, mA_71 mh_Mo, xq_187_13_virtualm mh_Mo, xq_188_200_static, xq_189_13_virtualm mh_Mo, xq_196_13_virtualm mh_Mo, xq_234_13_virtualm mh_Mo, pF_0, pF_1, pF_2, pF_5, pF_6, pF_8, pF_12, pF_16, pF_17, pF_18, pF_22, pF_24, pF_19, pF_20, pF_21, pF_23, pN_19, pN_20, pN_21, pN_23, pA_63, pA_64, pA_65, pA_66, pA_67, pA_68, pA_69, pA_70, pA_71, iN_add, iN_mul, iN_sub, iN_and, iN_or, iN_clr, iN_shl, iN_shr, tb_r1, b1_z, b1_or, b1_and, b1_or0, b1_or1, b1_0or, b1_t, b1_f, iN_lt, iN_inj, reduceIte, if_true, if_false, Nat.zero_add, Nat.add_zero, Bool.false_eq_true, Bool.true_eq_false, Nat.lt_irrefl, iN_az, not_true_eq_false, not_false_eq_true, Nat.reduceEqDiff, Nat.reduceLT, Nat.reduceAdd, Nat.reduceMul, Nat.reduceSub]
  · rw [eb_242_19]
    simp (disch := first | assumption | omega | exact st8_a (Nat.le_of_ble_eq_true rfl)) only [Nat.not_lt_zero, hν, pQ_l hi, t1, eb_242_20, eb_242_22, eb_242_24, kl_a, kl_d, kl_f, kl_i, kl_l, kl_n, kl_r, xr_1, xr_10, xr_111, xr_112, xr_113, xr_141, xr_143, xr_144, xr_2, xr_27, xr_28, xr_3, xr_31, xr_32, xr_33, xr_34, xr_35, xr_36, xr_37, xr_38, xr_4, xr_40, xr_44, xr_5, xr_55, xr_56, xr_57, xr_61, xr_62, xr_65, xr_71, xr_77, af_0, af_1, xt_goto, xt_ib, xt_ic, xt_ic_ge, xt_ic_ne, xt_if_eq, xt_if_lt, xt_if_ne, xt_ir, xt_nop, mF_0 mh_Mo, mF_1 mh_Mo, mF_10 mh_Mo, mF_19 mh_Mo, mF_2 mh_Mo, mF_21 mh_Mo, mF_5 mh_Mo, mF_6 mh_Mo, mF_8 mh_Mo, mF_9 mh_Mo, mA_63 mh_Mo, mA_64 mh_Mo, mA_65 mh_Mo, mA_66 mh_Mo, mA_67 mh_Mo, mA_68 mh_Mo, mA_69 mh_Mo, mA_70 mh_Mo, mA_71 mh_Mo, xq_187_13_virtualm mh_Mo, xq_188_200_static, xq_189_13_virtualm mh_Mo, xq_196_13_virtualm mh_Mo, xq_234_13_virtualm mh_Mo, pF_0, pF_1, pF_2, pF_5, pF_6, pF_8, pF_12, pF_16, pF_17, pF_18, pF_22, pF_24, pF_19, pF_20, pF_21, pF_23, pN_19, pN_20, pN_21, pN_23, pA_63, pA_64, pA_65, pA_66, pA_67, pA_68, pA_69, pA_70, pA_71, iN_add, iN_mul, iN_sub, iN_and, iN_or, iN_clr, iN_shl, iN_shr, tb_r1, b1_z, b1_or, b1_and, b1_or0, b1_or1, b1_0or, b1_t, b1_f, iN_lt, iN_inj, reduceIte, if_true, if_false, Nat.zero_add, Nat.add_zero, Bool.false_eq_true, Bool.true_eq_false, Nat.lt_irrefl, iN_az, not_true_eq_false, not_false_eq_true, Nat.reduceEqDiff, Nat.reduceLT, Nat.reduceAdd, Nat.reduceMul, Nat.reduceSub]
set_option maxRecDepth 100000 in
theorem m_242i (O : Ok σ) (h : kd ≤ 2) (hν : ν 0 = .ref (72 + i)) (hi : Q[i]? = some (oI (ar (σ 1 6) (tv σ s r)))) (hb : ∀ l, l < (σ 1 6) → s l < (σ 1 2) ∧ r l < (σ 1 5)) (hν2 : ν 2 = .ref (72 + Q.length)) (hn : n < bdk σ kd) (hy : y < (σ 1 2)) (hN : m ≤ 7) (hx : z < m) {x3 : Int32} : ∀ k, k ≤ (σ 1 6) → ∀ c x7, CHd (own σ s r kd n y) k (σ 1 6) c → ∃ c' x6 x7', CHs (own σ s r kd n y) (σ 1 6) c' ∧ ev xs (d + 3) 242 19 ([.ref 62, .int (nI kd), .int (nI n), .int x3, .int (nI y), .int (nI z), .int (nI k - nI 1), x7], [], mh τ M σ μ ν (Q ++ [oI (ar m (u1 f z c))])) = ev xs (d + 3) 242 31 ([.ref 62, .int (nI kd), .int (nI n), .int x3, .int (nI y), .int (nI z), x6, x7'], [], mh τ M σ μ ν (Q ++ [oI (ar m (u1 f z c'))])) := by
  obtain ⟨hD1, hD2, hH1, hH2, hS, hC, hT, hR, hL, hQ⟩ := Ok_b O
  intro k
  induction k with
  | zero =>
    intro hk c x7 hc
    refine ⟨c, .int (nI 4294967295), x7, ?_, ?_⟩
    · rcases hc with ⟨l, h1, h2, h3, h4, h5⟩ | ⟨h1, h5⟩
      · exact .inl ⟨l, h2, h3, fun j hj => h4 j (Nat.zero_le _) hj, h5⟩
      · exact .inr ⟨fun j hj => h1 j (Nat.zero_le _) hj, h5⟩
    · rw [nI_m1, eb_242_19]
      clear hb hi hc
      simp (disch := first | assumption | omega | exact st8_a (Nat.le_of_ble_eq_true rfl)) only [nI_ng, kl_a, kl_d, kl_f, kl_i, kl_l, kl_n, kl_r, xr_1, xr_10, xr_111, xr_112, xr_113, xr_141, xr_143, xr_144, xr_2, xr_27, xr_28, xr_3, xr_31, xr_32, xr_33, xr_34, xr_35, xr_36, xr_37, xr_38, xr_4, xr_40, xr_44, xr_5, xr_55, xr_56, xr_57, xr_61, xr_62, xr_65, xr_71, xr_77, af_0, af_1, xt_goto, xt_ib, xt_ic, xt_ic_ge, xt_ic_ne, xt_if_eq, xt_if_lt, xt_if_ne, xt_ir, xt_nop, mF_0 mh_Mo, mF_1 mh_Mo, mF_10 mh_Mo, mF_19 mh_Mo, mF_2 mh_Mo, mF_21 mh_Mo, mF_5 mh_Mo, mF_6 mh_Mo, mF_8 mh_Mo, mF_9 mh_Mo, mA_63 mh_Mo, mA_64 mh_Mo, mA_65 mh_Mo, mA_66 mh_Mo, mA_67 mh_Mo, mA_68 mh_Mo, mA_69 mh_Mo, mA_70 mh_Mo, mA_71 mh_Mo, xq_187_13_virtualm mh_Mo, xq_188_200_static, xq_189_13_virtualm mh_Mo, xq_196_13_virtualm mh_Mo, xq_234_13_virtualm mh_Mo, pF_0, pF_1, pF_2, pF_5, pF_6, pF_8, pF_12, pF_16, pF_17, pF_18, pF_22, pF_24, pF_19, pF_20, pF_21, pF_23, pN_19, pN_20, pN_21, pN_23, pA_63, pA_64, pA_65, pA_66, pA_67, pA_68, pA_69, pA_70, pA_71, iN_add, iN_mul, iN_sub, iN_and, iN_or, iN_clr, iN_shl, iN_shr, tb_r1, b1_z, b1_or, b1_and, b1_or0, b1_or1, b1_0or, b1_t, b1_f, iN_lt, iN_inj, reduceIte, if_true, if_false, Nat.zero_add, Nat.add_zero, Bool.false_eq_true, Bool.true_eq_false, Nat.lt_irrefl, iN_az, not_true_eq_false, not_false_eq_true, Nat.reduceEqDiff, Nat.reduceLT, Nat.reduceAdd, Nat.reduceMul, Nat.reduceSub]
  | succ k ih =>
    intro hk c x7 hc
    have hkL : k < (σ 1 6) := by omega
    have em1 : nI (k + 1) - nI 1 = nI k := by rw [iN_sub (by omega), Nat.add_sub_cancel]
    have q1 := gt_last (B := Q) (x := oI (ar m (u1 f z c)))
    have q2 := gt_ap (T := [oI (ar m (u1 f z c))]) hi
    have e0 := m_242w (xs := xs) (d := d + 3) (τ := τ) (M := M) (μ := μ) (x2 := nI n) (x3 := x3) (x4 := nI y) (x5 := nI z) (x7 := x7) O h hν q2 hb hkL
    have e1 := m_196 (xs := xs) (d := d) O (mh_Mo (τ := τ) (M := M) (μ := μ) (ν := ν) (Q := Q ++ [oI (ar m (u1 f z c))])) hkL (tv_b (hb k hkL).1 (hb k hkL).2)
    rw [tv_d (hb k hkL).2] at e1
    have hc64 := cov_lt O (l := k) (hb k hkL).1
    have hr3 : r k < 3 := by have := (hb k hkL).2; omega
    have hw : whn σ r kd k < 4294967296 := by
      have := Ok_l O hkL
      unfold whn
      split
      · omega
      · split <;> omega
    have hn2 : n < 4294967296 := by
      have : bdk σ kd < 1000 := by
        unfold bdk
        split
        · omega
        · split <;> omega
      omega
    have hu : u1 (u1 f z c) z (48 + k) = u1 f z (48 + k) := uu
    have huc : u1 (u1 f z c) z c = u1 f z c := uu
    have hzc : u1 f z c z = c := u1_s _ _ _
    rw [em1, e0]
    clear e0
    by_cases ho : own σ s r kd n y k
    · obtain ⟨o1, o2⟩ := ho
      have o2' : whn σ r kd k = n := o2
      obtain ⟨c', x6, x7', g1, g2⟩ := ih (by omega) (48 + k) (.int (nI (whn σ r kd k))) (.inl ⟨k, Nat.le_refl _, hkL, ⟨o1, o2⟩, fun j h1 h2 => absurd h2 (by omega), rfl⟩)
      refine ⟨c', x6, x7', g1, ?_⟩
      rw [← g2, eb_242_25]
      clear hb hi hc ih g1 g2 o2
      simp (disch := first | assumption | omega | exact st8_a (Nat.le_of_ble_eq_true rfl)) only [hν, hν2, eq_true o2', pQ_l q2, e1, o1, pQ_s q1, st_last, hu, eb_242_26, eb_242_27, eb_242_28, eb_242_30, kl_a, kl_d, kl_f, kl_i, kl_l, kl_n, kl_r, xr_1, xr_10, xr_111, xr_112, xr_113, xr_141, xr_143, xr_144, xr_2, xr_27, xr_28, xr_3, xr_31, xr_32, xr_33, xr_34, xr_35, xr_36, xr_37, xr_38, xr_4, xr_40, xr_44, xr_5, xr_55, xr_56, xr_57, xr_61, xr_62, xr_65, xr_71, xr_77, af_0, af_1, xt_goto, xt_ib, xt_ic, xt_ic_ge, xt_ic_ne, xt_if_eq, xt_if_lt, xt_if_ne, xt_ir, xt_nop, mF_0 mh_Mo, mF_1 mh_Mo, mF_10 mh_Mo, mF_19 mh_Mo, mF_2 mh_Mo, mF_21 mh_Mo, mF_5 mh_Mo, mF_6 mh_Mo, mF_8 mh_Mo, mF_9 mh_Mo, mA_63 mh_Mo, mA_64 mh_Mo, mA_65 mh_Mo, mA_66 mh_Mo, mA_67 mh_Mo, mA_68 mh_Mo, mA_69 mh_Mo, mA_70 mh_Mo, mA_71 mh_Mo, xq_187_13_virtualm mh_Mo, xq_188_200_static, xq_189_13_virtualm mh_Mo, xq_196_13_virtualm mh_Mo, xq_234_13_virtualm mh_Mo, pF_0, pF_1, pF_2, pF_5, pF_6, pF_8, pF_12, pF_16, pF_17, pF_18, pF_22, pF_24, pF_19, pF_20, pF_21, pF_23, pN_19, pN_20, pN_21, pN_23, pA_63, pA_64, pA_65, pA_66, pA_67, pA_68, pA_69, pA_70, pA_71, iN_add, iN_mul, iN_and, iN_or, iN_clr, iN_shl, iN_shr, tb_r1, b1_z, b1_or, b1_and, b1_or0, b1_or1, b1_0or, b1_t, b1_f, iN_lt, iN_inj, reduceIte, if_true, if_false, Nat.zero_add, Nat.add_zero, Bool.false_eq_true, Bool.true_eq_false, Nat.lt_irrefl, iN_az, not_true_eq_false, not_false_eq_true, Nat.reduceEqDiff, Nat.reduceLT, Nat.reduceAdd, Nat.reduceMul, Nat.reduceSub]
    · obtain ⟨c', x6, x7', g1, g2⟩ := ih (by omega) c (.int (nI (whn σ r kd k))) (by
        rcases hc with ⟨l, h1, h2, h3, h4, h5⟩ | ⟨h1, h5⟩
        · refine .inl ⟨l, by omega, h2, h3, fun j h6 h7 => ?_, h5⟩
          by_cases e : j = k
          · rw [e]; exact ho
          · exact h4 j (by omega) h7
        · refine .inr ⟨fun j h6 h7 => ?_, h5⟩
          by_cases e : j = k
          · rw [e]; exact ho
          · exact h1 j (by omega) h7)
      refine ⟨c', x6, x7', g1, ?_⟩
      rw [← g2, eb_242_25]
      by_cases o2 : whn σ r kd k = n
      · have o1 : (cov σ k (s k)).testBit y = false := by
          cases hh : (cov σ k (s k)).testBit y
          · rfl
          · exact absurd ⟨hh, o2⟩ ho
        clear hb hi hc ih g1 g2 ho
        simp (disch := first | assumption | omega | exact st8_a (Nat.le_of_ble_eq_true rfl)) only [hν, hν2, eq_true o2, pQ_l q2, pQ_l q1, e1, o1, pQ_s q1, st_last, huc, hzc, eb_242_26, eb_242_27, eb_242_29, eb_242_30, kl_a, kl_d, kl_f, kl_i, kl_l, kl_n, kl_r, xr_1, xr_10, xr_111, xr_112, xr_113, xr_141, xr_143, xr_144, xr_2, xr_27, xr_28, xr_3, xr_31, xr_32, xr_33, xr_34, xr_35, xr_36, xr_37, xr_38, xr_4, xr_40, xr_44, xr_5, xr_55, xr_56, xr_57, xr_61, xr_62, xr_65, xr_71, xr_77, af_0, af_1, xt_goto, xt_ib, xt_ic, xt_ic_ge, xt_ic_ne, xt_if_eq, xt_if_lt, xt_if_ne, xt_ir, xt_nop, mF_0 mh_Mo, mF_1 mh_Mo, mF_10 mh_Mo, mF_19 mh_Mo, mF_2 mh_Mo, mF_21 mh_Mo, mF_5 mh_Mo, mF_6 mh_Mo, mF_8 mh_Mo, mF_9 mh_Mo, mA_63 mh_Mo, mA_64 mh_Mo, mA_65 mh_Mo, mA_66 mh_Mo, mA_67 mh_Mo, mA_68 mh_Mo, mA_69 mh_Mo, mA_70 mh_Mo, mA_71 mh_Mo, xq_187_13_virtualm mh_Mo, xq_188_200_static, xq_189_13_virtualm mh_Mo, xq_196_13_virtualm mh_Mo, xq_234_13_virtualm mh_Mo, pF_0, pF_1, pF_2, pF_5, pF_6, pF_8, pF_12, pF_16, pF_17, pF_18, pF_22, pF_24, pF_19, pF_20, pF_21, pF_23, pN_19, pN_20, pN_21, pN_23, pA_63, pA_64, pA_65, pA_66, pA_67, pA_68, pA_69, pA_70, pA_71, iN_add, iN_mul, iN_and, iN_or, iN_clr, iN_shl, iN_shr, tb_r1, b1_z, b1_or, b1_and, b1_or0, b1_or1, b1_0or, b1_t, b1_f, iN_lt, iN_inj, reduceIte, if_true, if_false, Nat.zero_add, Nat.add_zero, Bool.false_eq_true, Bool.true_eq_false, Nat.lt_irrefl, iN_az, not_true_eq_false, not_false_eq_true, Nat.reduceEqDiff, Nat.reduceLT, Nat.reduceAdd, Nat.reduceMul, Nat.reduceSub]
      · clear hb hi hc ih g1 g2 ho
        simp (disch := first | assumption | omega | exact st8_a (Nat.le_of_ble_eq_true rfl)) only [hν, hν2, o2, pQ_l q1, pQ_s q1, st_last, huc, hzc, eb_242_29, eb_242_30, kl_a, kl_d, kl_f, kl_i, kl_l, kl_n, kl_r, xr_1, xr_10, xr_111, xr_112, xr_113, xr_141, xr_143, xr_144, xr_2, xr_27, xr_28, xr_3, xr_31, xr_32, xr_33, xr_34, xr_35, xr_36, xr_37, xr_38, xr_4, xr_40, xr_44, xr_5, xr_55, xr_56, xr_57, xr_61, xr_62, xr_65, xr_71, xr_77, af_0, af_1, xt_goto, xt_ib, xt_ic, xt_ic_ge, xt_ic_ne, xt_if_eq, xt_if_lt, xt_if_ne, xt_ir, xt_nop, mF_0 mh_Mo, mF_1 mh_Mo, mF_10 mh_Mo, mF_19 mh_Mo, mF_2 mh_Mo, mF_21 mh_Mo, mF_5 mh_Mo, mF_6 mh_Mo, mF_8 mh_Mo, mF_9 mh_Mo, mA_63 mh_Mo, mA_64 mh_Mo, mA_65 mh_Mo, mA_66 mh_Mo, mA_67 mh_Mo, mA_68 mh_Mo, mA_69 mh_Mo, mA_70 mh_Mo, mA_71 mh_Mo, xq_187_13_virtualm mh_Mo, xq_188_200_static, xq_189_13_virtualm mh_Mo, xq_196_13_virtualm mh_Mo, xq_234_13_virtualm mh_Mo, pF_0, pF_1, pF_2, pF_5, pF_6, pF_8, pF_12, pF_16, pF_17, pF_18, pF_22, pF_24, pF_19, pF_20, pF_21, pF_23, pN_19, pN_20, pN_21, pN_23, pA_63, pA_64, pA_65, pA_66, pA_67, pA_68, pA_69, pA_70, pA_71, iN_add, iN_mul, iN_and, iN_or, iN_clr, iN_shl, iN_shr, tb_r1, b1_z, b1_or, b1_and, b1_or0, b1_or1, b1_0or, b1_t, b1_f, iN_lt, iN_inj, reduceIte, if_true, if_false, Nat.zero_add, Nat.add_zero, Bool.false_eq_true, Bool.true_eq_false, Nat.lt_irrefl, iN_az, not_true_eq_false, not_false_eq_true, Nat.reduceEqDiff, Nat.reduceLT, Nat.reduceAdd, Nat.reduceMul, Nat.reduceSub]
set_option maxRecDepth 100000 in
theorem CHs_b {p : Nat → Prop} (hn : n ≤ 6) (h : CHs p n c) : c < 128 := by
  rcases h with ⟨l, h1, -, -, h5⟩ | ⟨-, h5⟩ <;> omega
set_option maxRecDepth 100000 in
theorem m_242o (O : Ok σ) (h : kd ≤ 2) (hν : ν 0 = .ref (72 + i)) (hi : Q[i]? = some (oI (ar (σ 1 6) (tv σ s r)))) (hb : ∀ l, l < (σ 1 6) → s l < (σ 1 2) ∧ r l < (σ 1 5)) (hν2 : ν 2 = .ref (72 + Q.length)) (hn : n < bdk σ kd) {x3 : Int32} : ∀ y, y ≤ (σ 1 2) → ∀ f x5 x6 x7, (∀ z, z < y → CHs (own σ s r kd n z) (σ 1 6) (f (z + z / (σ 1 1)))) → ((σ 1 1) ≤ y → (σ 1 0) = 2 → f (σ 1 1) = 124) → (∀ k, k < y + y / (σ 1 1) → k < (σ 1 2) + (σ 1 0) - 1 → f k < 128) → ∃ g, ev xs (d + 4) 242 16 ([.ref 62, .int (nI kd), .int (nI n), .int x3, .int (nI y), x5, x6, x7], [], mh τ M σ μ ν (Q ++ [oI (ar ((σ 1 2) + (σ 1 0) - 1) f)])) = some (.inl (some (.int (nI ((σ 1 2) + (σ 1 0) - 1)))), mh τ M σ μ ν (Q ++ [oI (ar ((σ 1 2) + (σ 1 0) - 1) g)])) ∧ PRT σ s r kd n g ∧ ∀ k, k < (σ 1 2) + (σ 1 0) - 1 → g k < 128 := by
  obtain ⟨hD1, hD2, hH1, hH2, hS, hC, hT, hR, hL, hQ⟩ := Ok_b O
  have e5 := fun d T => m_189 (xs := xs) (d := d) O (mh_Mo (τ := τ) (M := M) (μ := μ) (ν := ν) (Q := Q ++ T))
  refine lp (σ 1 2) ?_ ?_
  · intro f x5 x6 x7 h1 h2 h3
    refine ⟨f, ?_, ⟨h1, fun hD => h2 (by omega) hD⟩, fun k hk => h3 k ?_ hk⟩
    · have q4 : (mh τ M σ μ ν (Q ++ [oI (ar ((σ 1 2) + (σ 1 0) - 1) f)]))[72 + Q.length]? = _ := mh_Q.trans gt_last
      have hN7 : (σ 1 2) + (σ 1 0) - 1 < 2000000 := by omega
      rw [eb_242_16]
      clear h1 h2 h3 hb hi
      simp (disch := first | assumption | omega | exact st8_a (Nat.le_of_ble_eq_true rfl)) only [e5, hν2, q_ln q4, eb_242_17, eb_242_35, kl_a, kl_d, kl_f, kl_i, kl_l, kl_n, kl_r, xr_1, xr_10, xr_111, xr_112, xr_113, xr_141, xr_143, xr_144, xr_2, xr_27, xr_28, xr_3, xr_31, xr_32, xr_33, xr_34, xr_35, xr_36, xr_37, xr_38, xr_4, xr_40, xr_44, xr_5, xr_55, xr_56, xr_57, xr_61, xr_62, xr_65, xr_71, xr_77, af_0, af_1, xt_goto, xt_ib, xt_ic, xt_ic_ge, xt_ic_ne, xt_if_eq, xt_if_lt, xt_if_ne, xt_ir, xt_nop, mF_0 mh_Mo, mF_1 mh_Mo, mF_10 mh_Mo, mF_19 mh_Mo, mF_2 mh_Mo, mF_21 mh_Mo, mF_5 mh_Mo, mF_6 mh_Mo, mF_8 mh_Mo, mF_9 mh_Mo, mA_63 mh_Mo, mA_64 mh_Mo, mA_65 mh_Mo, mA_66 mh_Mo, mA_67 mh_Mo, mA_68 mh_Mo, mA_69 mh_Mo, mA_70 mh_Mo, mA_71 mh_Mo, xq_187_13_virtualm mh_Mo, xq_188_200_static, xq_189_13_virtualm mh_Mo, xq_196_13_virtualm mh_Mo, xq_234_13_virtualm mh_Mo, pF_0, pF_1, pF_2, pF_5, pF_6, pF_8, pF_12, pF_16, pF_17, pF_18, pF_22, pF_24, pF_19, pF_20, pF_21, pF_23, pN_19, pN_20, pN_21, pN_23, pA_63, pA_64, pA_65, pA_66, pA_67, pA_68, pA_69, pA_70, pA_71, iN_add, iN_mul, iN_sub, iN_and, iN_or, iN_clr, iN_shl, iN_shr, tb_r1, b1_z, b1_or, b1_and, b1_or0, b1_or1, b1_0or, b1_t, b1_f, iN_lt, iN_inj, reduceIte, if_true, if_false, Nat.zero_add, Nat.add_zero, Bool.false_eq_true, Bool.true_eq_false, Nat.lt_irrefl, iN_az, not_true_eq_false, not_false_eq_true, Nat.reduceEqDiff, Nat.reduceLT, Nat.reduceAdd, Nat.reduceMul, Nat.reduceSub]
    · rcases hS with ⟨a1, a2⟩ | ⟨a1, a2⟩
      · have : (σ 1 2) / (σ 1 1) = 1 := by rw [a2]; exact Nat.div_self (by omega)
        omega
      · have : (σ 1 2) / (σ 1 1) = 2 := by rw [a2]; exact Nat.mul_div_cancel _ (by omega)
        omega
  · intro y hy ih f x5 x6 x7 h1 h2 h3
    have hN : (σ 1 2) + (σ 1 0) - 1 ≤ 7 := by omega
    have hyd : y / (σ 1 1) = if y < (σ 1 1) then 0 else 1 := by
      split
      · exact Nat.div_eq_of_lt (by omega)
      · exact Nat.div_eq_of_lt_le (by omega) (by omega)
    have hyd2 : y / (σ 1 1) ≤ 1 ∧ ((σ 1 1) ≤ y → y / (σ 1 1) = 1) ∧ (y < (σ 1 1) → y / (σ 1 1) = 0) := by
      rw [hyd]
      split <;> omega
    have hx : y + y / (σ 1 1) < (σ 1 2) + (σ 1 0) - 1 := by omega
    have hm := hou_m O hy
    have hhou : hou σ y = if y < (σ 1 1) then y else y - (σ 1 1) := rfl
    have hz6 : y + y / (σ 1 1) < 7 := by omega
    have q1 := gt_last (B := Q) (x := oI (ar ((σ 1 2) + (σ 1 0) - 1) f))
    obtain ⟨c, x6', x7', c1, e1⟩ := m_242i (xs := xs) (d := d + 1) (τ := τ) (M := M) (μ := μ) (f := f) (m := (σ 1 2) + (σ 1 0) - 1) (z := y + y / (σ 1 1)) (x3 := x3) O h hν hi hb hν2 hn hy hN hx (σ 1 6) (Nat.le_refl _) 46 x7 (.inr ⟨fun j h6 h7 => absurd h7 (by omega), rfl⟩)
    have c2 := CHs_b hL c1
    have mono : ∀ z, z < y → z + z / (σ 1 1) < y + y / (σ 1 1) := fun z hz => by
      have := Nat.div_le_div_right (c := (σ 1 1)) (Nat.le_of_lt hz)
      omega
    have st : ev xs (d + 4) 242 16 ([.ref 62, .int (nI kd), .int (nI n), .int x3, .int (nI y), x5, x6, x7], [], mh τ M σ μ ν (Q ++ [oI (ar ((σ 1 2) + (σ 1 0) - 1) f)])) = ev xs (d + 4) 242 31 ([.ref 62, .int (nI kd), .int (nI n), .int x3, .int (nI y), .int (nI (y + y / (σ 1 1))), x6', x7'], [], mh τ M σ μ ν (Q ++ [oI (ar ((σ 1 2) + (σ 1 0) - 1) (u1 f (y + y / (σ 1 1)) c))])) := by
      rw [show d + 4 = d + 1 + 3 from rfl, ← e1, eb_242_16]
      clear h1 h2 h3 hb hi ih e1 c1 mono hyd
      simp (disch := first | assumption | omega | exact st8_a (Nat.le_of_ble_eq_true rfl)) only [hy, e5, hν2, pQ_s q1, st_last, eb_242_17, eb_242_18, kl_a, kl_d, kl_f, kl_i, kl_l, kl_n, kl_r, xr_1, xr_10, xr_111, xr_112, xr_113, xr_141, xr_143, xr_144, xr_2, xr_27, xr_28, xr_3, xr_31, xr_32, xr_33, xr_34, xr_35, xr_36, xr_37, xr_38, xr_4, xr_40, xr_44, xr_5, xr_55, xr_56, xr_57, xr_61, xr_62, xr_65, xr_71, xr_77, af_0, af_1, xt_goto, xt_ib, xt_ic, xt_ic_ge, xt_ic_ne, xt_if_eq, xt_if_lt, xt_if_ne, xt_ir, xt_nop, mF_0 mh_Mo, mF_1 mh_Mo, mF_10 mh_Mo, mF_19 mh_Mo, mF_2 mh_Mo, mF_21 mh_Mo, mF_5 mh_Mo, mF_6 mh_Mo, mF_8 mh_Mo, mF_9 mh_Mo, mA_63 mh_Mo, mA_64 mh_Mo, mA_65 mh_Mo, mA_66 mh_Mo, mA_67 mh_Mo, mA_68 mh_Mo, mA_69 mh_Mo, mA_70 mh_Mo, mA_71 mh_Mo, xq_187_13_virtualm mh_Mo, xq_188_200_static, xq_189_13_virtualm mh_Mo, xq_196_13_virtualm mh_Mo, xq_234_13_virtualm mh_Mo, pF_0, pF_1, pF_2, pF_5, pF_6, pF_8, pF_12, pF_16, pF_17, pF_18, pF_22, pF_24, pF_19, pF_20, pF_21, pF_23, pN_19, pN_20, pN_21, pN_23, pA_63, pA_64, pA_65, pA_66, pA_67, pA_68, pA_69, pA_70, pA_71, iN_add, iN_mul, iN_and, iN_or, iN_clr, iN_shl, iN_shr, tb_r1, b1_z, b1_or, b1_and, b1_or0, b1_or1, b1_0or, b1_t, b1_f, iN_lt, iN_inj, reduceIte, if_true, if_false, Nat.zero_add, Nat.add_zero, Bool.false_eq_true, Bool.true_eq_false, Nat.lt_irrefl, iN_az, not_true_eq_false, not_false_eq_true, Nat.reduceEqDiff, Nat.reduceLT, Nat.reduceAdd, Nat.reduceMul, Nat.reduceSub]
    have q5 := gt_last (B := Q) (x := oI (ar ((σ 1 2) + (σ 1 0) - 1) (u1 f (y + y / (σ 1 1)) c)))
    have q4 : (mh τ M σ μ ν (Q ++ [oI (ar ((σ 1 2) + (σ 1 0) - 1) (u1 f (y + y / (σ 1 1)) c))]))[72 + Q.length]? = _ := mh_Q.trans q5
    have hN7 : (σ 1 2) + (σ 1 0) - 1 < 2000000 := by omega
    have hh1 : hou σ y < 3 := by rw [hhou]; split <;> omega
    have go : ∀ g, (∀ z, z < y + 1 → CHs (own σ s r kd n z) (σ 1 6) (g (z + z / (σ 1 1)))) → ((σ 1 1) ≤ y + 1 → (σ 1 0) = 2 → g (σ 1 1) = 124) → (∀ k, k < (y + 1) + (y + 1) / (σ 1 1) → k < (σ 1 2) + (σ 1 0) - 1 → g k < 128) → ev xs (d + 4) 242 31 ([.ref 62, .int (nI kd), .int (nI n), .int x3, .int (nI y), .int (nI (y + y / (σ 1 1))), x6', x7'], [], mh τ M σ μ ν (Q ++ [oI (ar ((σ 1 2) + (σ 1 0) - 1) (u1 f (y + y / (σ 1 1)) c))])) = ev xs (d + 4) 242 16 ([.ref 62, .int (nI kd), .int (nI n), .int x3, .int (nI (y + 1)), .int (nI (y + y / (σ 1 1))), x6', x7'], [], mh τ M σ μ ν (Q ++ [oI (ar ((σ 1 2) + (σ 1 0) - 1) g)])) → ∃ g, ev xs (d + 4) 242 16 ([.ref 62, .int (nI kd), .int (nI n), .int x3, .int (nI y), x5, x6, x7], [], mh τ M σ μ ν (Q ++ [oI (ar ((σ 1 2) + (σ 1 0) - 1) f)])) = some (.inl (some (.int (nI ((σ 1 2) + (σ 1 0) - 1)))), mh τ M σ μ ν (Q ++ [oI (ar ((σ 1 2) + (σ 1 0) - 1) g)])) ∧ PRT σ s r kd n g ∧ ∀ k, k < (σ 1 2) + (σ 1 0) - 1 → g k < 128 := fun g a1 a2 a3 a4 => by
      obtain ⟨g2, w1, w2⟩ := ih g _ _ _ a1 a2 a3
      exact ⟨g2, by rw [st, a4]; exact w1, w2⟩
    have b1' : ∀ z, z < y + 1 → CHs (own σ s r kd n z) (σ 1 6) (u1 f (y + y / (σ 1 1)) c (z + z / (σ 1 1))) := fun z hz => by
      by_cases e : z = y
      · rw [e, u1_s]
        exact c1
      · rw [u1_n (by have := mono z (by omega); omega)]
        exact h1 z (by omega)
    by_cases hA : hou σ y = (σ 1 1) - 1
    · by_cases hB : y + y / (σ 1 1) + 1 < (σ 1 2) + (σ 1 0) - 1
      · have hyH : y + 1 = (σ 1 1) := by rw [hhou] at hA; split at hA <;> omega
        have hD : (σ 1 0) = 2 := by omega
        have hy0 : y / (σ 1 1) = 0 := hyd2.2.2 (by omega)
        refine go (u1 (u1 f (y + y / (σ 1 1)) c) (y + y / (σ 1 1) + 1) 124) (fun z hz => ?_) (fun _ _ => ?_) (fun k hk1 hk2 => ?_) ?_
        · have : z + z / (σ 1 1) ≠ y + y / (σ 1 1) + 1 := by
            by_cases e : z = y
            · rw [e]; omega
            · have := mono z (by omega); omega
          rw [u1_n this]
          exact b1' z hz
        · rw [hy0, Nat.add_zero, hyH, u1_s]
        · by_cases e : k = y + y / (σ 1 1) + 1
          · rw [e, u1_s]; decide
          · rw [u1_n e]
            by_cases e2 : k = y + y / (σ 1 1)
            · rw [e2, u1_s]; exact c2
            · rw [u1_n e2]
              refine h3 k ?_ hk2
              rw [hyH, Nat.div_self (by omega)] at hk1
              omega
        · rw [eb_242_31]
          clear h1 h2 h3 hb hi ih e1 c1 mono hyd st go b1' hyd2 hhou
          simp (disch := first | assumption | omega | exact st8_a (Nat.le_of_ble_eq_true rfl)) only [hm, hA, hB, hν2, q_ln q4, pQ_s q5, st_last, eb_242_32, eb_242_33, eb_242_34, kl_a, kl_d, kl_f, kl_i, kl_l, kl_n, kl_r, xr_1, xr_10, xr_111, xr_112, xr_113, xr_141, xr_143, xr_144, xr_2, xr_27, xr_28, xr_3, xr_31, xr_32, xr_33, xr_34, xr_35, xr_36, xr_37, xr_38, xr_4, xr_40, xr_44, xr_5, xr_55, xr_56, xr_57, xr_61, xr_62, xr_65, xr_71, xr_77, af_0, af_1, xt_goto, xt_ib, xt_ic, xt_ic_ge, xt_ic_ne, xt_if_eq, xt_if_lt, xt_if_ne, xt_ir, xt_nop, mF_0 mh_Mo, mF_1 mh_Mo, mF_10 mh_Mo, mF_19 mh_Mo, mF_2 mh_Mo, mF_21 mh_Mo, mF_5 mh_Mo, mF_6 mh_Mo, mF_8 mh_Mo, mF_9 mh_Mo, mA_63 mh_Mo, mA_64 mh_Mo, mA_65 mh_Mo, mA_66 mh_Mo, mA_67 mh_Mo, mA_68 mh_Mo, mA_69 mh_Mo, mA_70 mh_Mo, mA_71 mh_Mo, xq_187_13_virtualm mh_Mo, xq_188_200_static, xq_189_13_virtualm mh_Mo, xq_196_13_virtualm mh_Mo, xq_234_13_virtualm mh_Mo, pF_0, pF_1, pF_2, pF_5, pF_6, pF_8, pF_12, pF_16, pF_17, pF_18, pF_22, pF_24, pF_19, pF_20, pF_21, pF_23, pN_19, pN_20, pN_21, pN_23, pA_63, pA_64, pA_65, pA_66, pA_67, pA_68, pA_69, pA_70, pA_71, iN_add, iN_mul, iN_sub, iN_and, iN_or, iN_clr, iN_shl, iN_shr, tb_r1, b1_z, b1_or, b1_and, b1_or0, b1_or1, b1_0or, b1_t, b1_f, iN_lt, iN_inj, reduceIte, if_true, if_false, Nat.zero_add, Nat.add_zero, Bool.false_eq_true, Bool.true_eq_false, Nat.lt_irrefl, iN_az, not_true_eq_false, not_false_eq_true, Nat.reduceEqDiff, Nat.reduceLT, Nat.reduceAdd, Nat.reduceMul, Nat.reduceSub]
      · refine go (u1 f (y + y / (σ 1 1)) c) b1' (fun h6 h7 => ?_) (fun k hk1 hk2 => ?_) ?_
        · by_cases e : y + 1 = (σ 1 1)
          · have := hyd2.2.2 (by omega)
            omega
          · have := hyd2.2.1 (by omega)
            rw [u1_n (by omega)]
            exact h2 (by omega) h7
        · by_cases e2 : k = y + y / (σ 1 1)
          · rw [e2, u1_s]; exact c2
          · rw [u1_n e2]
            exact h3 k (by omega) hk2
        · rw [eb_242_31]
          clear h1 h2 h3 hb hi ih e1 c1 mono hyd st go b1' hyd2 hhou
          simp (disch := first | assumption | omega | exact st8_a (Nat.le_of_ble_eq_true rfl)) only [hm, hA, hB, hν2, q_ln q4, eb_242_32, eb_242_34, kl_a, kl_d, kl_f, kl_i, kl_l, kl_n, kl_r, xr_1, xr_10, xr_111, xr_112, xr_113, xr_141, xr_143, xr_144, xr_2, xr_27, xr_28, xr_3, xr_31, xr_32, xr_33, xr_34, xr_35, xr_36, xr_37, xr_38, xr_4, xr_40, xr_44, xr_5, xr_55, xr_56, xr_57, xr_61, xr_62, xr_65, xr_71, xr_77, af_0, af_1, xt_goto, xt_ib, xt_ic, xt_ic_ge, xt_ic_ne, xt_if_eq, xt_if_lt, xt_if_ne, xt_ir, xt_nop, mF_0 mh_Mo, mF_1 mh_Mo, mF_10 mh_Mo, mF_19 mh_Mo, mF_2 mh_Mo, mF_21 mh_Mo, mF_5 mh_Mo, mF_6 mh_Mo, mF_8 mh_Mo, mF_9 mh_Mo, mA_63 mh_Mo, mA_64 mh_Mo, mA_65 mh_Mo, mA_66 mh_Mo, mA_67 mh_Mo, mA_68 mh_Mo, mA_69 mh_Mo, mA_70 mh_Mo, mA_71 mh_Mo, xq_187_13_virtualm mh_Mo, xq_188_200_static, xq_189_13_virtualm mh_Mo, xq_196_13_virtualm mh_Mo, xq_234_13_virtualm mh_Mo, pF_0, pF_1, pF_2, pF_5, pF_6, pF_8, pF_12, pF_16, pF_17, pF_18, pF_22, pF_24, pF_19, pF_20, pF_21, pF_23, pN_19, pN_20, pN_21, pN_23, pA_63, pA_64, pA_65, pA_66, pA_67, pA_68, pA_69, pA_70, pA_71, iN_add, iN_mul, iN_sub, iN_and, iN_or, iN_clr, iN_shl, iN_shr, tb_r1, b1_z, b1_or, b1_and, b1_or0, b1_or1, b1_0or, b1_t, b1_f, iN_lt, iN_inj, reduceIte, if_true, if_false, Nat.zero_add, Nat.add_zero, Bool.false_eq_true, Bool.true_eq_false, Nat.lt_irrefl, iN_az, not_true_eq_false, not_false_eq_true, Nat.reduceEqDiff, Nat.reduceLT, Nat.reduceAdd, Nat.reduceMul, Nat.reduceSub]
    · refine go (u1 f (y + y / (σ 1 1)) c) b1' (fun h6 h7 => ?_) (fun k hk1 hk2 => ?_) ?_
      · have hyH : (σ 1 1) ≤ y := by
          rw [hhou] at hA
          split at hA <;> omega
        have := hyd2.2.1 hyH
        rw [u1_n (by omega)]
        exact h2 hyH h7
      · by_cases e2 : k = y + y / (σ 1 1)
        · rw [e2, u1_s]; exact c2
        · rw [u1_n e2]
          refine h3 k ?_ hk2
          have : (y + 1) / (σ 1 1) = y / (σ 1 1) := by
            rw [hhou] at hA
            split at hA
            · rw [Nat.div_eq_of_lt (by omega), Nat.div_eq_of_lt (by omega)]
            · rw [Nat.div_eq_of_lt_le (k := 1) (by omega) (by omega), Nat.div_eq_of_lt_le (k := 1) (by omega) (by omega)]
          omega
      · rw [eb_242_31]
        clear h1 h2 h3 hb hi ih e1 c1 mono hyd st go b1' hyd2 hhou
        simp (disch := first | assumption | omega | exact st8_a (Nat.le_of_ble_eq_true rfl)) only [hm, hA, eb_242_34, kl_a, kl_d, kl_f, kl_i, kl_l, kl_n, kl_r, xr_1, xr_10, xr_111, xr_112, xr_113, xr_141, xr_143, xr_144, xr_2, xr_27, xr_28, xr_3, xr_31, xr_32, xr_33, xr_34, xr_35, xr_36, xr_37, xr_38, xr_4, xr_40, xr_44, xr_5, xr_55, xr_56, xr_57, xr_61, xr_62, xr_65, xr_71, xr_77, af_0, af_1, xt_goto, xt_ib, xt_ic, xt_ic_ge, xt_ic_ne, xt_if_eq, xt_if_lt, xt_if_ne, xt_ir, xt_nop, mF_0 mh_Mo, mF_1 mh_Mo, mF_10 mh_Mo, mF_19 mh_Mo, mF_2 mh_Mo, mF_21 mh_Mo, mF_5 mh_Mo, mF_6 mh_Mo, mF_8 mh_Mo, mF_9 mh_Mo, mA_63 mh_Mo, mA_64 mh_Mo, mA_65 mh_Mo, mA_66 mh_Mo, mA_67 mh_Mo, mA_68 mh_Mo, mA_69 mh_Mo, mA_70 mh_Mo, mA_71 mh_Mo, xq_187_13_virtualm mh_Mo, xq_188_200_static, xq_189_13_virtualm mh_Mo, xq_196_13_virtualm mh_Mo, xq_234_13_virtualm mh_Mo, pF_0, pF_1, pF_2, pF_5, pF_6, pF_8, pF_12, pF_16, pF_17, pF_18, pF_22, pF_24, pF_19, pF_20, pF_21, pF_23, pN_19, pN_20, pN_21, pN_23, pA_63, pA_64, pA_65, pA_66, pA_67, pA_68, pA_69, pA_70, pA_71, iN_add, iN_mul, iN_sub, iN_and, iN_or, iN_clr, iN_shl, iN_shr, tb_r1, b1_z, b1_or, b1_and, b1_or0, b1_or1, b1_0or, b1_t, b1_f, iN_lt, iN_inj, reduceIte, if_true, if_false, Nat.zero_add, Nat.add_zero, Bool.false_eq_true, Bool.true_eq_false, Nat.lt_irrefl, iN_az, not_true_eq_false, not_false_eq_true, Nat.reduceEqDiff, Nat.reduceLT, Nat.reduceAdd, Nat.reduceMul, Nat.reduceSub]
set_option maxRecDepth 100000 in
theorem m_242 (O : Ok σ) (h : kd ≤ 2) (hν : ν 0 = .ref (72 + i)) (hi : Q[i]? = some (oI (ar (σ 1 6) (tv σ s r)))) (hb : ∀ l, l < (σ 1 6) → s l < (σ 1 2) ∧ r l < (σ 1 5)) (hn : n < bdk σ kd) : ∃ g, ev xs (d + 4) 242 0 ([.ref 62, .int (nI kd), .int (nI n), .retAddr 9, .retAddr 9, .retAddr 9, .retAddr 9, .retAddr 9], [], mh τ M σ μ ν Q) = some (.inl (some (.int (nI ((σ 1 2) + (σ 1 0) - 1)))), mh τ M σ (u1 μ 0 0) (uv ν 2 (.ref (72 + Q.length))) (Q ++ [oI (ar ((σ 1 2) + (σ 1 0) - 1) g)])) ∧ PRT σ s r kd n g ∧ ∀ k, k < (σ 1 2) + (σ 1 0) - 1 → g k < 128 := by
  obtain ⟨hD1, hD2, hH1, hH2, hS, hC, hT, hR, hL, hQ⟩ := Ok_b O
  have hb1 : bdk σ kd < 1000 := by
    unfold bdk
    split
    · omega
    · split <;> omega
  have hn2 : n < 4294967296 := by omega
  have hν3 : uv ν 2 (.ref (72 + Q.length)) 0 = .ref (72 + i) := (if_neg (by decide)).trans hν
  obtain ⟨g, e, q⟩ := m_242o (xs := xs) (d := d) (τ := τ) (M := M) (μ := u1 μ 0 0) (x3 := nI (bdk σ kd)) (kd := kd) (n := n) O h hν3 hi hb (if_pos rfl) hn 0 (Nat.zero_le _) (fun _ => 0) (.retAddr 9) (.retAddr 9) (.retAddr 9) (fun z hz => absurd hz (Nat.not_lt_zero z)) (fun z => absurd z (by omega)) (fun k hk => absurd hk (by rw [Nat.zero_div]; omega))
  refine ⟨g, ?_, q⟩
  have e5 := m_189 (xs := xs) (d := d + 3) O (mh_Mo (τ := τ) (M := M) (μ := u1 μ 0 0) (ν := ν) (Q := Q))
  have hs1 : nI ((σ 1 2) + (σ 1 0)) - nI 1 = nI ((σ 1 2) + (σ 1 0) - 1) := iN_sub (by omega)
  rw [← e, show d + 4 = d + 3 + 1 from rfl, m_242g O h]
  clear q e hb hi
  simp (disch := first | assumption | omega | exact st8_a (Nat.le_of_ble_eq_true rfl)) only [m_188n hn2 hb1, decide_eq_true hn, en1, m_234r hν, uu, e5, hs1, xr_49, mh_len, mh_app, eb_242_8, eb_242_9, eb_242_10, eb_242_11, eb_242_12, eb_242_14, eb_242_15, kl_a, kl_d, kl_f, kl_i, kl_l, kl_n, kl_r, xr_1, xr_10, xr_111, xr_112, xr_113, xr_141, xr_143, xr_144, xr_2, xr_27, xr_28, xr_3, xr_31, xr_32, xr_33, xr_34, xr_35, xr_36, xr_37, xr_38, xr_4, xr_40, xr_44, xr_5, xr_55, xr_56, xr_57, xr_61, xr_62, xr_65, xr_71, xr_77, af_0, af_1, xt_goto, xt_ib, xt_ic, xt_ic_ge, xt_ic_ne, xt_if_eq, xt_if_lt, xt_if_ne, xt_ir, xt_nop, mF_0 mh_Mo, mF_1 mh_Mo, mF_10 mh_Mo, mF_19 mh_Mo, mF_2 mh_Mo, mF_21 mh_Mo, mF_5 mh_Mo, mF_6 mh_Mo, mF_8 mh_Mo, mF_9 mh_Mo, mA_63 mh_Mo, mA_64 mh_Mo, mA_65 mh_Mo, mA_66 mh_Mo, mA_67 mh_Mo, mA_68 mh_Mo, mA_69 mh_Mo, mA_70 mh_Mo, mA_71 mh_Mo, xq_187_13_virtualm mh_Mo, xq_188_200_static, xq_189_13_virtualm mh_Mo, xq_196_13_virtualm mh_Mo, xq_234_13_virtualm mh_Mo, pF_0, pF_1, pF_2, pF_5, pF_6, pF_8, pF_12, pF_16, pF_17, pF_18, pF_22, pF_24, pF_19, pF_20, pF_21, pF_23, pN_19, pN_20, pN_21, pN_23, pA_63, pA_64, pA_65, pA_66, pA_67, pA_68, pA_69, pA_70, pA_71, iN_add, iN_mul, iN_and, iN_or, iN_clr, iN_shl, iN_shr, tb_r1, b1_z, b1_or, b1_and, b1_or0, b1_or1, b1_0or, b1_t, b1_f, iN_lt, iN_inj, reduceIte, if_true, if_false, Nat.zero_add, Nat.add_zero, Bool.false_eq_true, Bool.true_eq_false, Nat.lt_irrefl, iN_az, not_true_eq_false, not_false_eq_true, Nat.reduceEqDiff, Nat.reduceLT, Nat.reduceAdd, Nat.reduceMul, Nat.reduceSub]
end Mdl
