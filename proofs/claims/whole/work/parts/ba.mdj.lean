/-! THE MODEL: place, image, restore, outputByte -/
section Mdj
variable {xs : List Int32} {d m n k i j p a b c u v l q z w y t nn : Nat} {τ M σ W K : Nat → Nat → Nat} {μ μ0 : Nat → Nat} {ν ν0 : Nat → Value} {A B Q T T2 h : ab_H} {s r g f X Z Y tab s0 r0 F s2 r2 : Nat → Nat} {L st : List Value} {β : Value} {hs : List (Nat × Nat)} {tt : ab_T} {rr : List ab_I} {x : ab_O}
set_option maxRecDepth 100000 in
theorem tv_u : u1 (tv σ s r) a (b * (σ 1 5) + c) = tv σ (u1 s a b) (u1 r a c) := by
  funext l
  unfold tv
  by_cases h : l = a
  · rw [h, u1_s, u1_s, u1_s]
  · rw [u1_n h, u1_n h, u1_n h]
set_option maxRecDepth 100000 in
theorem tv_0 : (fun _ => 0 : Nat → Nat) = tv σ (fun _ => 0) fun _ => 0 := by
  funext l
  unfold tv
  rw [Nat.zero_mul]
  rfl
set_option maxRecDepth 100000 in
theorem m_236x (O : Ok σ) (ha : a < 4294967296) (hb : b < 4294967296) (hcc : c < 4294967296) (h : ¬ (a < (σ 1 6) ∧ b < (σ 1 2) ∧ c < (σ 1 5))) : ev xs (d + 2) 236 0 ([.ref 62, .int (nI a), .int (nI b), .int (nI c), .retAddr 9], [], mh τ M σ μ ν Q) = some (.inl (some (.int (nI (0)))), mh τ M σ (u1 μ 0 1) ν Q) := by
  by_cases h1 : a < (σ 1 6)
  · by_cases h2 : b < (σ 1 2)
    · by_cases h3 : c < (σ 1 5)
      · exact absurd ⟨h1, h2, h3⟩ h
      · simp (disch := first | assumption | omega | exact st8_a (Nat.le_of_ble_eq_true rfl)) only [m_190 O mh_Mo ha, m_193 O mh_Mo hb, m_192 O mh_Mo hcc, decide_eq_true h1, decide_eq_true h2, decide_eq_false h3, en0, eb_236_0, eb_236_1, eb_236_2, eb_236_3, eb_236_4, eb_236_5, eb_236_7, eb_236_8, eb_236_9, eb_236_10, kl_a, kl_d, kl_f, kl_i, kl_l, kl_n, kl_r, xr_1, xr_10, xr_2, xr_27, xr_28, xr_3, xr_31, xr_33, xr_34, xr_37, xr_38, xr_4, xr_41, xr_5, xr_64, af_0, af_1, xt_goto, xt_ib, xt_ic, xt_if_eq, xt_ir, xt_nn_0, xt_nn_1, xt_nop, mF_19 mh_Mo, mF_6 mh_Mo, mF_8 mh_Mo, mA_63 mh_Mo, mA_64 mh_Mo, mA_65 mh_Mo, mA_66 mh_Mo, mA_67 mh_Mo, mA_68 mh_Mo, mA_69 mh_Mo, mA_70 mh_Mo, mA_71 mh_Mo, xq_187_13_virtualm mh_Mo, xq_190_13_virtualm mh_Mo, xq_192_13_virtualm mh_Mo, xq_193_13_virtualm mh_Mo, xq_194_13_virtualm mh_Mo, pF_0, pF_1, pF_2, pF_5, pF_6, pF_8, pF_12, pF_16, pF_17, pF_18, pF_22, pF_24, pF_19, pF_20, pF_21, pF_23, pN_19, pN_20, pN_21, pN_23, pA_63, pA_64, pA_65, pA_66, pA_67, pA_68, pA_69, pA_70, pA_71, iN_add, iN_mul, iN_sub, iN_and, iN_or, iN_clr, iN_shl, iN_shr, tb_r1, b1_z, b1_or, b1_and, b1_or0, b1_or1, b1_0or, b1_t, b1_f, iN_lt, iN_inj, reduceIte, if_true, if_false, Nat.zero_add, Nat.add_zero, Bool.false_eq_true, Bool.true_eq_false, Nat.lt_irrefl, iN_az, not_true_eq_false, not_false_eq_true, Nat.reduceEqDiff, Nat.reduceLT, Nat.reduceAdd, Nat.reduceMul, Nat.reduceSub]
    · simp (disch := first | assumption | omega | exact st8_a (Nat.le_of_ble_eq_true rfl)) only [m_190 O mh_Mo ha, m_193 O mh_Mo hb, decide_eq_true h1, decide_eq_false h2, en0, eb_236_0, eb_236_1, eb_236_2, eb_236_3, eb_236_7, eb_236_8, eb_236_9, eb_236_10, kl_a, kl_d, kl_f, kl_i, kl_l, kl_n, kl_r, xr_1, xr_10, xr_2, xr_27, xr_28, xr_3, xr_31, xr_33, xr_34, xr_37, xr_38, xr_4, xr_41, xr_5, xr_64, af_0, af_1, xt_goto, xt_ib, xt_ic, xt_if_eq, xt_ir, xt_nn_0, xt_nn_1, xt_nop, mF_19 mh_Mo, mF_6 mh_Mo, mF_8 mh_Mo, mA_63 mh_Mo, mA_64 mh_Mo, mA_65 mh_Mo, mA_66 mh_Mo, mA_67 mh_Mo, mA_68 mh_Mo, mA_69 mh_Mo, mA_70 mh_Mo, mA_71 mh_Mo, xq_187_13_virtualm mh_Mo, xq_190_13_virtualm mh_Mo, xq_192_13_virtualm mh_Mo, xq_193_13_virtualm mh_Mo, xq_194_13_virtualm mh_Mo, pF_0, pF_1, pF_2, pF_5, pF_6, pF_8, pF_12, pF_16, pF_17, pF_18, pF_22, pF_24, pF_19, pF_20, pF_21, pF_23, pN_19, pN_20, pN_21, pN_23, pA_63, pA_64, pA_65, pA_66, pA_67, pA_68, pA_69, pA_70, pA_71, iN_add, iN_mul, iN_sub, iN_and, iN_or, iN_clr, iN_shl, iN_shr, tb_r1, b1_z, b1_or, b1_and, b1_or0, b1_or1, b1_0or, b1_t, b1_f, iN_lt, iN_inj, reduceIte, if_true, if_false, Nat.zero_add, Nat.add_zero, Bool.false_eq_true, Bool.true_eq_false, Nat.lt_irrefl, iN_az, not_true_eq_false, not_false_eq_true, Nat.reduceEqDiff, Nat.reduceLT, Nat.reduceAdd, Nat.reduceMul, Nat.reduceSub]
  · simp (disch := first | assumption | omega | exact st8_a (Nat.le_of_ble_eq_true rfl)) only [m_190 O mh_Mo ha, decide_eq_false h1, en0, eb_236_0, eb_236_1, eb_236_7, eb_236_8, eb_236_9, eb_236_10, kl_a, kl_d, kl_f, kl_i, kl_l, kl_n, kl_r, xr_1, xr_10, xr_2, xr_27, xr_28, xr_3, xr_31, xr_33, xr_34, xr_37, xr_38, xr_4, xr_41, xr_5, xr_64, af_0, af_1, xt_goto, xt_ib, xt_ic, xt_if_eq, xt_ir, xt_nn_0, xt_nn_1, xt_nop, mF_19 mh_Mo, mF_6 mh_Mo, mF_8 mh_Mo, mA_63 mh_Mo, mA_64 mh_Mo, mA_65 mh_Mo, mA_66 mh_Mo, mA_67 mh_Mo, mA_68 mh_Mo, mA_69 mh_Mo, mA_70 mh_Mo, mA_71 mh_Mo, xq_187_13_virtualm mh_Mo, xq_190_13_virtualm mh_Mo, xq_192_13_virtualm mh_Mo, xq_193_13_virtualm mh_Mo, xq_194_13_virtualm mh_Mo, pF_0, pF_1, pF_2, pF_5, pF_6, pF_8, pF_12, pF_16, pF_17, pF_18, pF_22, pF_24, pF_19, pF_20, pF_21, pF_23, pN_19, pN_20, pN_21, pN_23, pA_63, pA_64, pA_65, pA_66, pA_67, pA_68, pA_69, pA_70, pA_71, iN_add, iN_mul, iN_sub, iN_and, iN_or, iN_clr, iN_shl, iN_shr, tb_r1, b1_z, b1_or, b1_and, b1_or0, b1_or1, b1_0or, b1_t, b1_f, iN_lt, iN_inj, reduceIte, if_true, if_false, Nat.zero_add, Nat.add_zero, Bool.false_eq_true, Bool.true_eq_false, Nat.lt_irrefl, iN_az, not_true_eq_false, not_false_eq_true, Nat.reduceEqDiff, Nat.reduceLT, Nat.reduceAdd, Nat.reduceMul, Nat.reduceSub]
set_option maxRecDepth 100000 in
theorem m_236n (O : Ok σ) (h1 : a < (σ 1 6)) (h2 : b < (σ 1 2)) (h3 : c < (σ 1 5)) (hν : ν 0 = .null) : ev xs (d + 2) 236 0 ([.ref 62, .int (nI a), .int (nI b), .int (nI c), .retAddr 9], [], mh τ M σ μ ν Q) = some (.inl (some (.int (nI (4294967295)))), mh τ M σ (u1 μ 0 0) (uv ν 0 (.ref (72 + Q.length))) (Q ++ [oI (ar (σ 1 6) (tv σ (u1 (fun _ => 0) a b) (u1 (fun _ => 0) a c)))])) := by
  obtain ⟨hD1, hD2, hH1, hH2, hS, hC, hT, hR, hL, hQ⟩ := Ok_b O
  have ha : a < 4294967296 := by omega
  have hb : b < 4294967296 := by omega
  have hcc : c < 4294967296 := by omega
  have h4 := tv_b (σ := σ) (s := fun _ => b) (r := fun _ => c) (l := 0) h2 h3
  have h4 : b * (σ 1 5) + c < (σ 1 2) * (σ 1 5) := h4
  have h5 := vle O
  have q1 := gt_last (B := Q) (x := oI (ar (σ 1 6) fun _ => 0))
  rw [← tv_u, ← tv_0]
  have hu0 : uv ν 0 (.ref (72 + Q.length)) 0 = .ref (72 + Q.length) := if_pos rfl
  simp (disch := first | assumption | omega | exact st8_a (Nat.le_of_ble_eq_true rfl)) only [m_190 O mh_Mo ha, m_193 O mh_Mo hb, m_192 O mh_Mo hcc, decide_eq_true h1, decide_eq_true h2, decide_eq_true h3, en1, hν, xr_49, mh_len, mh_app, hu0, pQ_s q1, st_last, eb_236_0, eb_236_1, eb_236_2, eb_236_3, eb_236_4, eb_236_5, eb_236_6, eb_236_8, eb_236_9, eb_236_11, eb_236_12, eb_236_14, eb_236_15, eb_236_16, kl_a, kl_d, kl_f, kl_i, kl_l, kl_n, kl_r, xr_1, xr_10, xr_2, xr_27, xr_28, xr_3, xr_31, xr_33, xr_34, xr_37, xr_38, xr_4, xr_41, xr_5, xr_64, af_0, af_1, xt_goto, xt_ib, xt_ic, xt_if_eq, xt_ir, xt_nn_0, xt_nn_1, xt_nop, mF_19 mh_Mo, mF_6 mh_Mo, mF_8 mh_Mo, mA_63 mh_Mo, mA_64 mh_Mo, mA_65 mh_Mo, mA_66 mh_Mo, mA_67 mh_Mo, mA_68 mh_Mo, mA_69 mh_Mo, mA_70 mh_Mo, mA_71 mh_Mo, xq_187_13_virtualm mh_Mo, xq_190_13_virtualm mh_Mo, xq_192_13_virtualm mh_Mo, xq_193_13_virtualm mh_Mo, xq_194_13_virtualm mh_Mo, pF_0, pF_1, pF_2, pF_5, pF_6, pF_8, pF_12, pF_16, pF_17, pF_18, pF_22, pF_24, pF_19, pF_20, pF_21, pF_23, pN_19, pN_20, pN_21, pN_23, pA_63, pA_64, pA_65, pA_66, pA_67, pA_68, pA_69, pA_70, pA_71, iN_add, iN_mul, iN_sub, iN_and, iN_or, iN_clr, iN_shl, iN_shr, tb_r1, b1_z, b1_or, b1_and, b1_or0, b1_or1, b1_0or, b1_t, b1_f, iN_lt, iN_inj, reduceIte, if_true, if_false, Nat.zero_add, Nat.add_zero, Bool.false_eq_true, Bool.true_eq_false, Nat.lt_irrefl, iN_az, not_true_eq_false, not_false_eq_true, Nat.reduceEqDiff, Nat.reduceLT, Nat.reduceAdd, Nat.reduceMul, Nat.reduceSub]
set_option maxRecDepth 100000 in
theorem m_236 (O : Ok σ) (h1 : a < (σ 1 6)) (h2 : b < (σ 1 2)) (h3 : c < (σ 1 5)) (hν : ν 0 = .ref (72 + i)) (hi : Q[i]? = some (oI (ar (σ 1 6) (tv σ s r)))) (hb : ∀ l, l < (σ 1 6) → s l < (σ 1 2) ∧ r l < (σ 1 5)) : ev xs (d + 2) 236 0 ([.ref 62, .int (nI a), .int (nI b), .int (nI c), .retAddr 9], [], mh τ M σ μ ν Q) = some (.inl (some (.int (nI (10 * s a + r a)))), mh τ M σ (u1 μ 0 0) ν (Q.set i (oI (ar (σ 1 6) (tv σ (u1 s a b) (u1 r a c)))))) := by
  obtain ⟨hD1, hD2, hH1, hH2, hS, hC, hT, hR, hL, hQ⟩ := Ok_b O
  have ha : a < 4294967296 := by omega
  have hbb : b < 4294967296 := by omega
  have hcc : c < 4294967296 := by omega
  have h4 := tv_b (σ := σ) (s := fun _ => b) (r := fun _ => c) (l := 0) h2 h3
  have h4 : b * (σ 1 5) + c < (σ 1 2) * (σ 1 5) := h4
  have h5 := vle O
  have e := m_194 (xs := xs) (d := d + 1) O (mh_Mo (τ := τ) (M := M) (μ := u1 μ 0 0) (ν := ν) (Q := Q)) (tv_b (hb a h1).1 (hb a h1).2)
  rw [tv_d (hb a h1).2, tv_m (hb a h1).2, Nat.mul_comm] at e
  rw [← tv_u]
  clear hb
  simp (disch := first | assumption | omega | exact st8_a (Nat.le_of_ble_eq_true rfl)) only [m_190 O mh_Mo ha, m_193 O mh_Mo hbb, m_192 O mh_Mo hcc, decide_eq_true h1, decide_eq_true h2, decide_eq_true h3, en1, hν, pQ_l hi, e, pQ_s hi, eb_236_0, eb_236_1, eb_236_2, eb_236_3, eb_236_4, eb_236_5, eb_236_6, eb_236_8, eb_236_9, eb_236_11, eb_236_13, eb_236_14, eb_236_16, kl_a, kl_d, kl_f, kl_i, kl_l, kl_n, kl_r, xr_1, xr_10, xr_2, xr_27, xr_28, xr_3, xr_31, xr_33, xr_34, xr_37, xr_38, xr_4, xr_41, xr_5, xr_64, af_0, af_1, xt_goto, xt_ib, xt_ic, xt_if_eq, xt_ir, xt_nn_0, xt_nn_1, xt_nop, mF_19 mh_Mo, mF_6 mh_Mo, mF_8 mh_Mo, mA_63 mh_Mo, mA_64 mh_Mo, mA_65 mh_Mo, mA_66 mh_Mo, mA_67 mh_Mo, mA_68 mh_Mo, mA_69 mh_Mo, mA_70 mh_Mo, mA_71 mh_Mo, xq_187_13_virtualm mh_Mo, xq_190_13_virtualm mh_Mo, xq_192_13_virtualm mh_Mo, xq_193_13_virtualm mh_Mo, xq_194_13_virtualm mh_Mo, pF_0, pF_1, pF_2, pF_5, pF_6, pF_8, pF_12, pF_16, pF_17, pF_18, pF_22, pF_24, pF_19, pF_20, pF_21, pF_23, pN_19, pN_20, pN_21, pN_23, pA_63, pA_64, pA_65, pA_66, pA_67, pA_68, pA_69, pA_70, pA_71, iN_add, iN_mul, iN_sub, iN_and, iN_or, iN_clr, iN_shl, iN_shr, tb_r1, b1_z, b1_or, b1_and, b1_or0, b1_or1, b1_0or, b1_t, b1_f, iN_lt, iN_inj, reduceIte, if_true, if_false, Nat.zero_add, Nat.add_zero, Bool.false_eq_true, Bool.true_eq_false, Nat.lt_irrefl, iN_az, not_true_eq_false, not_false_eq_true, Nat.reduceEqDiff, Nat.reduceLT, Nat.reduceAdd, Nat.reduceMul, Nat.reduceSub]
set_option maxRecDepth 100000 in
theorem m_243 (hn : n ≤ 7) (hν : ν 2 = .ref (72 + i)) (hi : Q[i]? = some (oI (ar n f))) (hu : u < 4294967296) : ev xs (d + 1) 243 0 ([.ref 62, .int (nI u)], [], mh τ M σ μ ν Q) = some (.inl (some (.int (nI (if u < n then f u else 4294967295)))), mh τ M σ (u1 μ 0 0) ν Q) := by
  have hn3 : n < 1000 := by omega
  have q4 : (mh τ M σ (u1 μ 0 0) ν Q)[72 + i]? = _ := mh_Q.trans hi
  by_cases h : u < n
  · rw [if_pos h]
    simp (disch := first | assumption | omega | exact st8_a (Nat.le_of_ble_eq_true rfl)) only [hν, q_ln q4, m_188n hu hn3, decide_eq_true h, pQ_l hi, eb_243_0, eb_243_1, eb_243_2, eb_243_4, xr_1, xr_10, xr_2, xr_27, xr_28, xr_3, xr_4, xr_5, xr_64, xr_77, af_0, af_1, xt_goto, xt_ib, xt_ic, xt_if_eq, xt_ir, xt_nop, mF_21 mh_Mo, mA_63 mh_Mo, mA_64 mh_Mo, mA_65 mh_Mo, mA_66 mh_Mo, mA_67 mh_Mo, mA_68 mh_Mo, mA_69 mh_Mo, mA_70 mh_Mo, mA_71 mh_Mo, xq_188_200_static, pF_0, pF_1, pF_2, pF_5, pF_6, pF_8, pF_12, pF_16, pF_17, pF_18, pF_22, pF_24, pF_19, pF_20, pF_21, pF_23, pN_19, pN_20, pN_21, pN_23, pA_63, pA_64, pA_65, pA_66, pA_67, pA_68, pA_69, pA_70, pA_71, iN_add, iN_mul, iN_and, iN_or, iN_clr, iN_shl, iN_shr, tb_r1, b1_z, b1_or, b1_and, b1_or0, b1_or1, b1_0or, b1_t, b1_f, iN_lt, iN_inj, reduceIte, if_true, if_false, Nat.zero_add, Nat.add_zero, Bool.false_eq_true, Bool.true_eq_false, Nat.lt_irrefl, iN_az, not_true_eq_false, not_false_eq_true, Nat.reduceEqDiff, Nat.reduceLT, Nat.reduceAdd, Nat.reduceMul, Nat.reduceSub]
  · rw [if_neg h]
    simp (disch := first | assumption | omega | exact st8_a (Nat.le_of_ble_eq_true rfl)) only [hν, q_ln q4, m_188n hu hn3, decide_eq_false h, eb_243_0, eb_243_1, eb_243_3, eb_243_4, xr_1, xr_10, xr_2, xr_27, xr_28, xr_3, xr_4, xr_5, xr_64, xr_77, af_0, af_1, xt_goto, xt_ib, xt_ic, xt_if_eq, xt_ir, xt_nop, mF_21 mh_Mo, mA_63 mh_Mo, mA_64 mh_Mo, mA_65 mh_Mo, mA_66 mh_Mo, mA_67 mh_Mo, mA_68 mh_Mo, mA_69 mh_Mo, mA_70 mh_Mo, mA_71 mh_Mo, xq_188_200_static, pF_0, pF_1, pF_2, pF_5, pF_6, pF_8, pF_12, pF_16, pF_17, pF_18, pF_22, pF_24, pF_19, pF_20, pF_21, pF_23, pN_19, pN_20, pN_21, pN_23, pA_63, pA_64, pA_65, pA_66, pA_67, pA_68, pA_69, pA_70, pA_71, iN_add, iN_mul, iN_and, iN_or, iN_clr, iN_shl, iN_shr, tb_r1, b1_z, b1_or, b1_and, b1_or0, b1_or1, b1_0or, b1_t, b1_f, iN_lt, iN_inj, reduceIte, if_true, if_false, Nat.zero_add, Nat.add_zero, Bool.false_eq_true, Bool.true_eq_false, Nat.lt_irrefl, iN_az, not_true_eq_false, not_false_eq_true, Nat.reduceEqDiff, Nat.reduceLT, Nat.reduceAdd, Nat.reduceMul, Nat.reduceSub]
/-- the picture's first k places -/
def pct (s r : Nat → Nat) (k : Nat) : Nat → Nat := fun l => if l < k then 10 * s l + r l else 0
set_option maxRecDepth 100000 in
theorem pct_0 : pct s r 0 = fun _ => 0 := by
  funext l
  exact if_neg (Nat.not_lt_zero _)
set_option maxRecDepth 100000 in
theorem pct_s : u1 (pct s r k) k (10 * s k + r k) = pct s r (k + 1) := by
  funext l
  unfold pct
  by_cases h : l = k
  · rw [h, u1_s, if_pos (Nat.lt_succ_self k)]
  · rw [u1_n h]
    by_cases h2 : l < k
    · rw [if_pos h2, if_pos (by omega)]
    · rw [if_neg h2, if_neg (by omega)]
set_option maxRecDepth 100000 in
theorem m_240n (hν : ν 0 = .null) : ev xs (d + 2) 240 0 ([.ref 62, .retAddr 9, .retAddr 9, .retAddr 9], [], mh τ M σ μ ν Q) = some (.inl (some (.int (nI (0)))), mh τ M σ (u1 μ 0 1) ν Q) := by
  simp (disch := first | assumption | omega | exact st8_a (Nat.le_of_ble_eq_true rfl)) only [m_234n hν, eb_240_0, eb_240_1, eb_240_2, kl_a, kl_d, kl_f, kl_i, kl_l, kl_n, kl_r, xr_1, xr_10, xr_135, xr_136, xr_137, xr_138, xr_139, xr_16, xr_17, xr_18, xr_19, xr_2, xr_20, xr_27, xr_28, xr_29, xr_3, xr_32, xr_37, xr_38, xr_4, xr_43, xr_5, xr_64, af_0, af_1, xt_goto, xt_ib, xt_ic, xt_ic_eq, xt_ic_ge, xt_if_eq, xt_ir, xt_nop, xt_nu_0, xt_nu_1, mF_19 mh_Mo, mF_20 mh_Mo, mF_8 mh_Mo, mA_63 mh_Mo, mA_64 mh_Mo, mA_65 mh_Mo, mA_66 mh_Mo, mA_67 mh_Mo, mA_68 mh_Mo, mA_69 mh_Mo, mA_70 mh_Mo, mA_71 mh_Mo, xq_194_13_virtualm mh_Mo, xq_234_13_virtualm mh_Mo, pF_0, pF_1, pF_2, pF_5, pF_6, pF_8, pF_12, pF_16, pF_17, pF_18, pF_22, pF_24, pF_19, pF_20, pF_21, pF_23, pN_19, pN_20, pN_21, pN_23, pA_63, pA_64, pA_65, pA_66, pA_67, pA_68, pA_69, pA_70, pA_71, iN_add, iN_mul, iN_sub, iN_and, iN_or, iN_clr, iN_shl, iN_shr, tb_r1, b1_z, b1_or, b1_and, b1_or0, b1_or1, b1_0or, b1_t, b1_f, iN_lt, iN_inj, reduceIte, if_true, if_false, Nat.zero_add, Nat.add_zero, Bool.false_eq_true, Bool.true_eq_false, Nat.lt_irrefl, iN_az, not_true_eq_false, not_false_eq_true, Nat.reduceEqDiff, Nat.reduceLT, Nat.reduceAdd, Nat.reduceMul, Nat.reduceSub]
set_option maxRecDepth 100000 in
theorem m_240a (O : Ok σ) (hν : ν 0 = .ref (72 + i)) (hi : Q[i]? = some (oI (ar (σ 1 6) (tv σ s r)))) (hb : ∀ l, l < (σ 1 6) → s l < (σ 1 2) ∧ r l < (σ 1 5)) (h1 : ν 1 = .null ∨ (ν 1 = .ref (72 + j) ∧ Q[j]? = some (oI (ar n g)) ∧ n ≤ 6 ∧ n ≠ (σ 1 6))) : ev xs (d + 2) 240 0 ([.ref 62, .retAddr 9, .retAddr 9, .retAddr 9], [], mh τ M σ μ ν Q) = some (.inl (some (.int (nI (4294967295)))), mh τ M σ (u1 μ 0 0) (uv ν 1 (.ref (72 + Q.length))) (Q ++ [oI (ar (σ 1 6) fun l => 10 * s l + r l)])) := by
  obtain ⟨hD1, hD2, hH1, hH2, hS, hC, hT, hR, hL, hQ⟩ := Ok_b O
  have key : ∀ k, k ≤ (σ 1 6) → ev xs (d + 2) 240 8 ([.ref 62, .int (nI 4294967295), .ref (72 + Q.length), .int (nI k)], [], mh τ M σ (u1 μ 0 0) ν (Q ++ [oI (ar (σ 1 6) (pct s r k))])) = some (.inl (some (.int (nI (4294967295)))), mh τ M σ (u1 μ 0 0) (uv ν 1 (.ref (72 + Q.length))) (Q ++ [oI (ar (σ 1 6) fun l => 10 * s l + r l)])) := by
    refine lp (σ 1 6) ?_ ?_
    · rw [show ar (σ 1 6) (pct s r (σ 1 6)) = ar (σ 1 6) fun l => 10 * s l + r l from ar_cg fun l hl => if_pos hl, eb_240_8]
      clear h1 hb
      simp (disch := first | assumption | omega | exact st8_a (Nat.le_of_ble_eq_true rfl)) only [eb_240_15, kl_a, kl_d, kl_f, kl_i, kl_l, kl_n, kl_r, xr_1, xr_10, xr_135, xr_136, xr_137, xr_138, xr_139, xr_16, xr_17, xr_18, xr_19, xr_2, xr_20, xr_27, xr_28, xr_29, xr_3, xr_32, xr_37, xr_38, xr_4, xr_43, xr_5, xr_64, af_0, af_1, xt_goto, xt_ib, xt_ic, xt_ic_eq, xt_ic_ge, xt_if_eq, xt_ir, xt_nop, xt_nu_0, xt_nu_1, mF_19 mh_Mo, mF_20 mh_Mo, mF_8 mh_Mo, mA_63 mh_Mo, mA_64 mh_Mo, mA_65 mh_Mo, mA_66 mh_Mo, mA_67 mh_Mo, mA_68 mh_Mo, mA_69 mh_Mo, mA_70 mh_Mo, mA_71 mh_Mo, xq_194_13_virtualm mh_Mo, xq_234_13_virtualm mh_Mo, pF_0, pF_1, pF_2, pF_5, pF_6, pF_8, pF_12, pF_16, pF_17, pF_18, pF_22, pF_24, pF_19, pF_20, pF_21, pF_23, pN_19, pN_20, pN_21, pN_23, pA_63, pA_64, pA_65, pA_66, pA_67, pA_68, pA_69, pA_70, pA_71, iN_add, iN_mul, iN_sub, iN_and, iN_or, iN_clr, iN_shl, iN_shr, tb_r1, b1_z, b1_or, b1_and, b1_or0, b1_or1, b1_0or, b1_t, b1_f, iN_lt, iN_inj, reduceIte, if_true, if_false, Nat.zero_add, Nat.add_zero, Bool.false_eq_true, Bool.true_eq_false, Nat.lt_irrefl, iN_az, not_true_eq_false, not_false_eq_true, Nat.reduceEqDiff, Nat.reduceLT, Nat.reduceAdd, Nat.reduceMul, Nat.reduceSub]
    · intro k hk ih
      have q1 := gt_last (B := Q) (x := oI (ar (σ 1 6) (pct s r k)))
      have q2 := gt_ap (T := [oI (ar (σ 1 6) (pct s r k))]) hi
      have e := m_194 (xs := xs) (d := d + 1) O (mh_Mo (τ := τ) (M := M) (μ := u1 μ 0 0) (ν := ν) (Q := Q ++ [oI (ar (σ 1 6) (pct s r k))])) (tv_b (hb k hk).1 (hb k hk).2)
      rw [tv_d (hb k hk).2, tv_m (hb k hk).2, Nat.mul_comm] at e
      rw [← ih, eb_240_8]
      clear h1 hb ih
      simp (disch := first | assumption | omega | exact st8_a (Nat.le_of_ble_eq_true rfl)) only [hk, hν, pQ_l q2, e, pQ_s q1, st_last, pct_s, eb_240_9, eb_240_10, eb_240_13, eb_240_14, kl_a, kl_d, kl_f, kl_i, kl_l, kl_n, kl_r, xr_1, xr_10, xr_135, xr_136, xr_137, xr_138, xr_139, xr_16, xr_17, xr_18, xr_19, xr_2, xr_20, xr_27, xr_28, xr_29, xr_3, xr_32, xr_37, xr_38, xr_4, xr_43, xr_5, xr_64, af_0, af_1, xt_goto, xt_ib, xt_ic, xt_ic_eq, xt_ic_ge, xt_if_eq, xt_ir, xt_nop, xt_nu_0, xt_nu_1, mF_19 mh_Mo, mF_20 mh_Mo, mF_8 mh_Mo, mA_63 mh_Mo, mA_64 mh_Mo, mA_65 mh_Mo, mA_66 mh_Mo, mA_67 mh_Mo, mA_68 mh_Mo, mA_69 mh_Mo, mA_70 mh_Mo, mA_71 mh_Mo, xq_194_13_virtualm mh_Mo, xq_234_13_virtualm mh_Mo, pF_0, pF_1, pF_2, pF_5, pF_6, pF_8, pF_12, pF_16, pF_17, pF_18, pF_22, pF_24, pF_19, pF_20, pF_21, pF_23, pN_19, pN_20, pN_21, pN_23, pA_63, pA_64, pA_65, pA_66, pA_67, pA_68, pA_69, pA_70, pA_71, iN_add, iN_mul, iN_sub, iN_and, iN_or, iN_clr, iN_shl, iN_shr, tb_r1, b1_z, b1_or, b1_and, b1_or0, b1_or1, b1_0or, b1_t, b1_f, iN_lt, iN_inj, reduceIte, if_true, if_false, Nat.zero_add, Nat.add_zero, Bool.false_eq_true, Bool.true_eq_false, Nat.lt_irrefl, iN_az, not_true_eq_false, not_false_eq_true, Nat.reduceEqDiff, Nat.reduceLT, Nat.reduceAdd, Nat.reduceMul, Nat.reduceSub]
  have key := key 0 (Nat.zero_le _)
  rw [pct_0] at key
  clear hb hi
  rcases h1 with h1 | ⟨h1, h2, h3, h4⟩
  · simp (disch := first | assumption | omega | exact st8_a (Nat.le_of_ble_eq_true rfl)) only [m_234r hν, h1, xr_49, mh_len, mh_app, eb_240_0, eb_240_1, eb_240_3, eb_240_5, eb_240_7, kl_a, kl_d, kl_f, kl_i, kl_l, kl_n, kl_r, xr_1, xr_10, xr_135, xr_136, xr_137, xr_138, xr_139, xr_16, xr_17, xr_18, xr_19, xr_2, xr_20, xr_27, xr_28, xr_29, xr_3, xr_32, xr_37, xr_38, xr_4, xr_43, xr_5, xr_64, af_0, af_1, xt_goto, xt_ib, xt_ic, xt_ic_eq, xt_ic_ge, xt_if_eq, xt_ir, xt_nop, xt_nu_0, xt_nu_1, mF_19 mh_Mo, mF_20 mh_Mo, mF_8 mh_Mo, mA_63 mh_Mo, mA_64 mh_Mo, mA_65 mh_Mo, mA_66 mh_Mo, mA_67 mh_Mo, mA_68 mh_Mo, mA_69 mh_Mo, mA_70 mh_Mo, mA_71 mh_Mo, xq_194_13_virtualm mh_Mo, xq_234_13_virtualm mh_Mo, pF_0, pF_1, pF_2, pF_5, pF_6, pF_8, pF_12, pF_16, pF_17, pF_18, pF_22, pF_24, pF_19, pF_20, pF_21, pF_23, pN_19, pN_20, pN_21, pN_23, pA_63, pA_64, pA_65, pA_66, pA_67, pA_68, pA_69, pA_70, pA_71, iN_add, iN_mul, iN_sub, iN_and, iN_or, iN_clr, iN_shl, iN_shr, tb_r1, b1_z, b1_or, b1_and, b1_or0, b1_or1, b1_0or, b1_t, b1_f, iN_lt, iN_inj, reduceIte, if_true, if_false, Nat.zero_add, Nat.add_zero, Bool.false_eq_true, Bool.true_eq_false, Nat.lt_irrefl, iN_az, not_true_eq_false, not_false_eq_true, Nat.reduceEqDiff, Nat.reduceLT, Nat.reduceAdd, Nat.reduceMul, Nat.reduceSub]
    exact key
  · have q4 : (mh τ M σ (u1 μ 0 0) ν Q)[72 + j]? = _ := mh_Q.trans h2
    simp (disch := first | assumption | omega | exact st8_a (Nat.le_of_ble_eq_true rfl)) only [m_234r hν, h1, q_ln q4, h4, xr_49, mh_len, mh_app, eb_240_0, eb_240_1, eb_240_3, eb_240_4, eb_240_5, eb_240_7, kl_a, kl_d, kl_f, kl_i, kl_l, kl_n, kl_r, xr_1, xr_10, xr_135, xr_136, xr_137, xr_138, xr_139, xr_16, xr_17, xr_18, xr_19, xr_2, xr_20, xr_27, xr_28, xr_29, xr_3, xr_32, xr_37, xr_38, xr_4, xr_43, xr_5, xr_64, af_0, af_1, xt_goto, xt_ib, xt_ic, xt_ic_eq, xt_ic_ge, xt_if_eq, xt_ir, xt_nop, xt_nu_0, xt_nu_1, mF_19 mh_Mo, mF_20 mh_Mo, mF_8 mh_Mo, mA_63 mh_Mo, mA_64 mh_Mo, mA_65 mh_Mo, mA_66 mh_Mo, mA_67 mh_Mo, mA_68 mh_Mo, mA_69 mh_Mo, mA_70 mh_Mo, mA_71 mh_Mo, xq_194_13_virtualm mh_Mo, xq_234_13_virtualm mh_Mo, pF_0, pF_1, pF_2, pF_5, pF_6, pF_8, pF_12, pF_16, pF_17, pF_18, pF_22, pF_24, pF_19, pF_20, pF_21, pF_23, pN_19, pN_20, pN_21, pN_23, pA_63, pA_64, pA_65, pA_66, pA_67, pA_68, pA_69, pA_70, pA_71, iN_add, iN_mul, iN_sub, iN_and, iN_or, iN_clr, iN_shl, iN_shr, tb_r1, b1_z, b1_or, b1_and, b1_or0, b1_or1, b1_0or, b1_t, b1_f, iN_lt, iN_inj, reduceIte, if_true, if_false, Nat.zero_add, Nat.add_zero, Bool.false_eq_true, Bool.true_eq_false, Nat.lt_irrefl, iN_az, not_true_eq_false, not_false_eq_true, Nat.reduceEqDiff, Nat.reduceLT, Nat.reduceAdd, Nat.reduceMul, Nat.reduceSub]
    exact key
set_option maxRecDepth 100000 in
theorem dif_p (hr : ∀ l, l < n → r l < 10 ∧ r2 l < 10) (k : Nat) (hk : k ≤ n) : (sm k fun l => b1 (decide (10 * s l + r l ≠ 10 * s2 l + r2 l))) = dif k s r s2 r2 := by
  refine sm_cg fun l hl => ?_
  have := hr l (by omega)
  by_cases e : s l = s2 l ∧ r l = r2 l
  · rw [decide_eq_false (fun z => z (by rw [e.1, e.2])), decide_eq_false (fun z : s l ≠ s2 l => z e.1), decide_eq_false (fun z : r l ≠ r2 l => z e.2)]
    rfl
  · rw [decide_eq_true (show 10 * s l + r l ≠ 10 * s2 l + r2 l by omega)]
    by_cases e1 : s l = s2 l
    · have e2 : r l ≠ r2 l := fun z => e ⟨e1, z⟩
      rw [decide_eq_true e2, Bool.or_true]
    · rw [decide_eq_true (show s l ≠ s2 l from e1), Bool.true_or]
set_option maxRecDepth 100000 in
theorem sm_b1 (n : Nat) (p : Nat → Bool) : (sm n fun l => b1 (p l)) ≤ n := by
  have := sm_le (n := n) (c := 1) (f := fun l => b1 (p l)) fun l _ => Nat.le_of_lt_succ (b1_lt _)
  omega
set_option maxRecDepth 100000 in
theorem m_240b (O : Ok σ) (hν : ν 0 = .ref (72 + i)) (hi : Q[i]? = some (oI (ar (σ 1 6) (tv σ s r)))) (hb : ∀ l, l < (σ 1 6) → s l < (σ 1 2) ∧ r l < (σ 1 5)) (h1 : ν 1 = .ref (72 + j)) (hj : Q[j]? = some (oI (ar (σ 1 6) fun l => 10 * s2 l + r2 l))) (hb2 : ∀ l, l < (σ 1 6) → s2 l < 6 ∧ r2 l < 3) : ev xs (d + 2) 240 0 ([.ref 62, .retAddr 9, .retAddr 9, .retAddr 9], [], mh τ M σ μ ν Q) = some (.inl (some (.int (nI (dif (σ 1 6) s r s2 r2)))), mh τ M σ (u1 μ 0 0) (uv ν 1 (.ref (72 + Q.length))) (Q ++ [oI (ar (σ 1 6) fun l => 10 * s l + r l)])) := by
  obtain ⟨hD1, hD2, hH1, hH2, hS, hC, hT, hR, hL, hQ⟩ := Ok_b O
  have key : ∀ k, k ≤ (σ 1 6) → ∀ z, z = (sm k fun l => b1 (decide (10 * s l + r l ≠ 10 * s2 l + r2 l))) → ev xs (d + 2) 240 8 ([.ref 62, .int (nI z), .ref (72 + Q.length), .int (nI k)], [], mh τ M σ (u1 μ 0 0) ν (Q ++ [oI (ar (σ 1 6) (pct s r k))])) = some (.inl (some (.int (nI (dif (σ 1 6) s r s2 r2)))), mh τ M σ (u1 μ 0 0) (uv ν 1 (.ref (72 + Q.length))) (Q ++ [oI (ar (σ 1 6) fun l => 10 * s l + r l)])) := by
    refine lp (σ 1 6) ?_ ?_
    · intro z hz
      rw [hz, dif_p (n := (σ 1 6)) (fun l hl => by have := hb l hl; have := hb2 l hl; omega) (σ 1 6) (Nat.le_refl _), show ar (σ 1 6) (pct s r (σ 1 6)) = ar (σ 1 6) fun l => 10 * s l + r l from ar_cg fun l hl => if_pos hl, eb_240_8]
      clear hb hb2 hj hz
      simp (disch := first | assumption | omega | exact st8_a (Nat.le_of_ble_eq_true rfl)) only [eb_240_15, kl_a, kl_d, kl_f, kl_i, kl_l, kl_n, kl_r, xr_1, xr_10, xr_135, xr_136, xr_137, xr_138, xr_139, xr_16, xr_17, xr_18, xr_19, xr_2, xr_20, xr_27, xr_28, xr_29, xr_3, xr_32, xr_37, xr_38, xr_4, xr_43, xr_5, xr_64, af_0, af_1, xt_goto, xt_ib, xt_ic, xt_ic_eq, xt_ic_ge, xt_if_eq, xt_ir, xt_nop, xt_nu_0, xt_nu_1, mF_19 mh_Mo, mF_20 mh_Mo, mF_8 mh_Mo, mA_63 mh_Mo, mA_64 mh_Mo, mA_65 mh_Mo, mA_66 mh_Mo, mA_67 mh_Mo, mA_68 mh_Mo, mA_69 mh_Mo, mA_70 mh_Mo, mA_71 mh_Mo, xq_194_13_virtualm mh_Mo, xq_234_13_virtualm mh_Mo, pF_0, pF_1, pF_2, pF_5, pF_6, pF_8, pF_12, pF_16, pF_17, pF_18, pF_22, pF_24, pF_19, pF_20, pF_21, pF_23, pN_19, pN_20, pN_21, pN_23, pA_63, pA_64, pA_65, pA_66, pA_67, pA_68, pA_69, pA_70, pA_71, iN_add, iN_mul, iN_sub, iN_and, iN_or, iN_clr, iN_shl, iN_shr, tb_r1, b1_z, b1_or, b1_and, b1_or0, b1_or1, b1_0or, b1_t, b1_f, iN_lt, iN_inj, reduceIte, if_true, if_false, Nat.zero_add, Nat.add_zero, Bool.false_eq_true, Bool.true_eq_false, Nat.lt_irrefl, iN_az, not_true_eq_false, not_false_eq_true, Nat.reduceEqDiff, Nat.reduceLT, Nat.reduceAdd, Nat.reduceMul, Nat.reduceSub]
    · intro k hk ih z hz
      have hz7 : z ≤ 6 := by
        rw [hz]
        exact Nat.le_trans (sm_b1 k _) (by omega)
      have hz8 : ¬ z = 4294967295 := by omega
      have q1 := gt_last (B := Q) (x := oI (ar (σ 1 6) (pct s r k)))
      have q2 := gt_ap (T := [oI (ar (σ 1 6) (pct s r k))]) hi
      have q5 := gt_last (B := Q) (x := oI (ar (σ 1 6) (pct s r (k + 1))))
      have q6 := gt_ap (T := [oI (ar (σ 1 6) (pct s r (k + 1)))]) hj
      have e := m_194 (xs := xs) (d := d + 1) O (mh_Mo (τ := τ) (M := M) (μ := u1 μ 0 0) (ν := ν) (Q := Q ++ [oI (ar (σ 1 6) (pct s r k))])) (tv_b (hb k hk).1 (hb k hk).2)
      rw [tv_d (hb k hk).2, tv_m (hb k hk).2, Nat.mul_comm] at e
      have w1 := hb k hk
      have w2 := hb2 k hk
      have w3 : pct s r (k + 1) k = 10 * s k + r k := if_pos (Nat.lt_succ_self k)
      by_cases hd : 10 * s k + r k = 10 * s2 k + r2 k
      · rw [← ih z (by rw [hz, sm, decide_eq_false (fun z => z hd), b1_f, Nat.add_zero]), eb_240_8]
        clear hb hb2 ih hz hj hi
        simp (disch := first | assumption | omega | exact st8_a (Nat.le_of_ble_eq_true rfl)) only [hk, hν, pQ_l q2, e, pQ_s q1, st_last, pct_s, hz8, pQ_l q5, pQ_l q6, h1, w3, eq_true hd, eb_240_9, eb_240_10, eb_240_11, eb_240_13, eb_240_14, kl_a, kl_d, kl_f, kl_i, kl_l, kl_n, kl_r, xr_1, xr_10, xr_135, xr_136, xr_137, xr_138, xr_139, xr_16, xr_17, xr_18, xr_19, xr_2, xr_20, xr_27, xr_28, xr_29, xr_3, xr_32, xr_37, xr_38, xr_4, xr_43, xr_5, xr_64, af_0, af_1, xt_goto, xt_ib, xt_ic, xt_ic_eq, xt_ic_ge, xt_if_eq, xt_ir, xt_nop, xt_nu_0, xt_nu_1, mF_19 mh_Mo, mF_20 mh_Mo, mF_8 mh_Mo, mA_63 mh_Mo, mA_64 mh_Mo, mA_65 mh_Mo, mA_66 mh_Mo, mA_67 mh_Mo, mA_68 mh_Mo, mA_69 mh_Mo, mA_70 mh_Mo, mA_71 mh_Mo, xq_194_13_virtualm mh_Mo, xq_234_13_virtualm mh_Mo, pF_0, pF_1, pF_2, pF_5, pF_6, pF_8, pF_12, pF_16, pF_17, pF_18, pF_22, pF_24, pF_19, pF_20, pF_21, pF_23, pN_19, pN_20, pN_21, pN_23, pA_63, pA_64, pA_65, pA_66, pA_67, pA_68, pA_69, pA_70, pA_71, iN_add, iN_mul, iN_sub, iN_and, iN_or, iN_clr, iN_shl, iN_shr, tb_r1, b1_z, b1_or, b1_and, b1_or0, b1_or1, b1_0or, b1_t, b1_f, iN_lt, iN_inj, reduceIte, if_true, if_false, Nat.zero_add, Nat.add_zero, Bool.false_eq_true, Bool.true_eq_false, Nat.lt_irrefl, iN_az, not_true_eq_false, not_false_eq_true, Nat.reduceEqDiff, Nat.reduceLT, Nat.reduceAdd, Nat.reduceMul, Nat.reduceSub]
      · rw [← ih (z + 1) (by rw [hz, sm, decide_eq_true hd, b1_t]), eb_240_8]
        clear hb hb2 ih hz hj hi
        simp (disch := first | assumption | omega | exact st8_a (Nat.le_of_ble_eq_true rfl)) only [hk, hν, pQ_l q2, e, pQ_s q1, st_last, pct_s, hz8, pQ_l q5, pQ_l q6, h1, w3, hd, eb_240_9, eb_240_10, eb_240_11, eb_240_12, eb_240_14, kl_a, kl_d, kl_f, kl_i, kl_l, kl_n, kl_r, xr_1, xr_10, xr_135, xr_136, xr_137, xr_138, xr_139, xr_16, xr_17, xr_18, xr_19, xr_2, xr_20, xr_27, xr_28, xr_29, xr_3, xr_32, xr_37, xr_38, xr_4, xr_43, xr_5, xr_64, af_0, af_1, xt_goto, xt_ib, xt_ic, xt_ic_eq, xt_ic_ge, xt_if_eq, xt_ir, xt_nop, xt_nu_0, xt_nu_1, mF_19 mh_Mo, mF_20 mh_Mo, mF_8 mh_Mo, mA_63 mh_Mo, mA_64 mh_Mo, mA_65 mh_Mo, mA_66 mh_Mo, mA_67 mh_Mo, mA_68 mh_Mo, mA_69 mh_Mo, mA_70 mh_Mo, mA_71 mh_Mo, xq_194_13_virtualm mh_Mo, xq_234_13_virtualm mh_Mo, pF_0, pF_1, pF_2, pF_5, pF_6, pF_8, pF_12, pF_16, pF_17, pF_18, pF_22, pF_24, pF_19, pF_20, pF_21, pF_23, pN_19, pN_20, pN_21, pN_23, pA_63, pA_64, pA_65, pA_66, pA_67, pA_68, pA_69, pA_70, pA_71, iN_add, iN_mul, iN_sub, iN_and, iN_or, iN_clr, iN_shl, iN_shr, tb_r1, b1_z, b1_or, b1_and, b1_or0, b1_or1, b1_0or, b1_t, b1_f, iN_lt, iN_inj, reduceIte, if_true, if_false, Nat.zero_add, Nat.add_zero, Bool.false_eq_true, Bool.true_eq_false, Nat.lt_irrefl, iN_az, not_true_eq_false, not_false_eq_true, Nat.reduceEqDiff, Nat.reduceLT, Nat.reduceAdd, Nat.reduceMul, Nat.reduceSub]
  have key := key 0 (Nat.zero_le _) 0 rfl
  rw [pct_0] at key
  have q4 : (mh τ M σ (u1 μ 0 0) ν Q)[72 + j]? = _ := mh_Q.trans hj
  clear hb hi hb2
  simp (disch := first | assumption | omega | exact st8_a (Nat.le_of_ble_eq_true rfl)) only [m_234r hν, h1, q_ln q4, xr_49, mh_len, mh_app, eb_240_0, eb_240_1, eb_240_3, eb_240_4, eb_240_6, eb_240_7, kl_a, kl_d, kl_f, kl_i, kl_l, kl_n, kl_r, xr_1, xr_10, xr_135, xr_136, xr_137, xr_138, xr_139, xr_16, xr_17, xr_18, xr_19, xr_2, xr_20, xr_27, xr_28, xr_29, xr_3, xr_32, xr_37, xr_38, xr_4, xr_43, xr_5, xr_64, af_0, af_1, xt_goto, xt_ib, xt_ic, xt_ic_eq, xt_ic_ge, xt_if_eq, xt_ir, xt_nop, xt_nu_0, xt_nu_1, mF_19 mh_Mo, mF_20 mh_Mo, mF_8 mh_Mo, mA_63 mh_Mo, mA_64 mh_Mo, mA_65 mh_Mo, mA_66 mh_Mo, mA_67 mh_Mo, mA_68 mh_Mo, mA_69 mh_Mo, mA_70 mh_Mo, mA_71 mh_Mo, xq_194_13_virtualm mh_Mo, xq_234_13_virtualm mh_Mo, pF_0, pF_1, pF_2, pF_5, pF_6, pF_8, pF_12, pF_16, pF_17, pF_18, pF_22, pF_24, pF_19, pF_20, pF_21, pF_23, pN_19, pN_20, pN_21, pN_23, pA_63, pA_64, pA_65, pA_66, pA_67, pA_68, pA_69, pA_70, pA_71, iN_add, iN_mul, iN_sub, iN_and, iN_or, iN_clr, iN_shl, iN_shr, tb_r1, b1_z, b1_or, b1_and, b1_or0, b1_or1, b1_0or, b1_t, b1_f, iN_lt, iN_inj, reduceIte, if_true, if_false, Nat.zero_add, Nat.add_zero, Bool.false_eq_true, Bool.true_eq_false, Nat.lt_irrefl, iN_az, not_true_eq_false, not_false_eq_true, Nat.reduceEqDiff, Nat.reduceLT, Nat.reduceAdd, Nat.reduceMul, Nat.reduceSub]
  exact key
end Mdj
