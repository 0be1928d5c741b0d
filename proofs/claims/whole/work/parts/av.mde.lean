/-! THE MODEL'S SCHOOL CHANGES: dropRule, addRoom -/
section Mde
variable {xs : List Int32} {d m n k i j p a b c u v l q : Nat} {τ M σ : Nat → Nat → Nat} {μ μ0 : Nat → Nat} {ν ν0 : Nat → Value} {A B Q T h : ab_H} {s r g f : Nat → Nat} {st : List Value} {x y : Int32}
set_option maxRecDepth 100000 in
theorem rmr_s (h : q < k) : up (up (up (rmr σ q k) 8 (k - 1) (σ 8 k)) 9 (k - 1) (σ 9 k)) 10 (k - 1) (σ 10 k) = rmr σ q (k + 1) := by
  unfold rmr
  rw [← shf_st h, ← shf_st h, ← shf_st h]
  funext b j
  unfold up ur
  by_cases h1 : b = 8
  · subst h1; simp
  · by_cases h2 : b = 9
    · subst h2; simp
    · by_cases h3 : b = 10
      · subst h3; simp
      · simp [h1, h2, h3]
set_option maxRecDepth 100000 in
theorem up_17 {X : Nat → Nat → Nat} (hb : b ≠ 1) : up (up X 1 7 v) b i j = up (up X b i j) 1 7 v := by
  funext c k
  unfold up
  by_cases h1 : c = b
  · subst h1
    rw [if_pos rfl, if_neg hb, if_neg hb, if_pos rfl]
  · rw [if_neg h1]
    by_cases h2 : c = 1
    · subst h2
      rw [if_pos rfl, if_pos rfl, if_neg (Ne.symm hb)]
    · rw [if_neg h2, if_neg h2, if_neg h1]
set_option maxRecDepth 100000 in
theorem m_230 (O : Ok σ) (ha : a < 4294967296) : ev xs (d + 2) 230 0 ([.ref 62, .int (nI a), .retAddr 9], [], mh τ M σ μ ν Q) = if ¬ a < (σ 1 7) then some (.inl (some (.int (nI (0)))), mh τ M σ (u1 μ 0 1) ν Q) else some (.inl (some (.int (nI ((σ 1 7) - 1)))), mh τ M (up (rmr σ a (σ 1 7)) 1 7 ((σ 1 7) - 1)) (u1 μ 0 0) ν Q) := by
  obtain ⟨hD1, hD2, hH1, hH2, hS, hC, hT, hR, hL, hQ⟩ := Ok_b O
  have hQ2 : (σ 1 7) < 1000 := by omega
  by_cases h : a < (σ 1 7)
  · rw [if_neg fun z => z h]
    have e7 : ∀ k, rmr σ a k 1 = σ 1 := fun k => by
      unfold rmr
      rw [ur_n (by decide), ur_n (by decide), ur_n (by decide)]
    have a8 : ∀ k, rmr σ a k 8 = shf a k (σ 8) := fun k => by unfold rmr; rw [ur_n (by decide), ur_n (by decide), ur_s]
    have a9 : ∀ k, rmr σ a k 9 = shf a k (σ 9) := fun k => by unfold rmr; rw [ur_n (by decide), ur_s]
    have a10 : ∀ k, rmr σ a k 10 = shf a k (σ 10) := fun k => by unfold rmr; rw [ur_s]
    have key : ∀ i, i ≤ (σ 1 7) - 1 → a ≤ i → ev xs (d + 2) 230 5 ([.ref 62, .int (nI a), .int (nI i)], [], mh τ M (up (rmr σ a (i + 1)) 1 7 ((σ 1 7) - 1)) (u1 μ 0 0) ν Q) = some (.inl (some (.int (nI ((σ 1 7) - 1)))), mh τ M (up (rmr σ a (σ 1 7)) 1 7 ((σ 1 7) - 1)) (u1 μ 0 0) ν Q) := by
      refine lp ((σ 1 7) - 1) ?_ ?_
      · intro _
        rw [show (σ 1 7) - 1 + 1 = (σ 1 7) by omega, eb_230_5]
        clear e7 a8 a9 a10
        simp (disch := first | assumption | omega | exact st8_a (Nat.le_of_ble_eq_true rfl)) only [up_s, u1_s, eb_230_7, kl_a, kl_d, kl_f, kl_i, kl_l, kl_n, kl_r, xr_1, xr_10, xr_2, xr_27, xr_28, xr_3, xr_30, xr_31, xr_38, xr_4, xr_42, xr_5, xr_77, xr_8, xr_9, af_0, af_1, xt_goto, xt_ib, xt_ic, xt_ic_ge, xt_if_eq, xt_ir, xt_nop, mF_12 mh_Mo, mF_13 mh_Mo, mF_14 mh_Mo, mF_15 mh_Mo, mA_63 mh_Mo, mA_64 mh_Mo, mA_65 mh_Mo, mA_66 mh_Mo, mA_67 mh_Mo, mA_68 mh_Mo, mA_69 mh_Mo, mA_70 mh_Mo, mA_71 mh_Mo, xq_187_13_virtualm mh_Mo, xq_188_200_static, pF_0, pF_1, pF_2, pF_5, pF_6, pF_8, pF_12, pF_16, pF_17, pF_18, pF_22, pF_24, pF_19, pF_20, pF_21, pF_23, pN_19, pN_20, pN_21, pN_23, pA_63, pA_64, pA_65, pA_66, pA_67, pA_68, pA_69, pA_70, pA_71, iN_add, iN_mul, iN_sub, iN_and, iN_or, iN_clr, iN_shl, iN_shr, tb_r1, b1_z, b1_or, b1_and, b1_or0, b1_or1, b1_0or, b1_t, b1_f, iN_lt, iN_inj, reduceIte, if_true, if_false, Nat.zero_add, Nat.add_zero, Bool.false_eq_true, Bool.true_eq_false, Nat.lt_irrefl, iN_az, not_true_eq_false, not_false_eq_true, Nat.reduceEqDiff, Nat.reduceLT, Nat.reduceAdd, Nat.reduceMul, Nat.reduceSub]
      · intro i hi ih hai
        have ih2 := ih (by omega)
        have hs := rmr_s (σ := σ) (q := a) (k := i + 1) (by omega)
        rw [Nat.add_sub_cancel] at hs
        rw [← hs] at ih2
        have x2 : up (rmr σ a (i + 1)) 1 7 ((σ 1 7) - 1) 8 (i + 1) = σ 8 (i + 1) := by rw [up_n (by decide), a8, shf_k]
        have x3 : up (up (rmr σ a (i + 1)) 1 7 ((σ 1 7) - 1)) 8 i (σ 8 (i + 1)) 9 (i + 1) = σ 9 (i + 1) := by rw [up_n (by decide), up_n (by decide), a9, shf_k]
        have x4 : up (up (up (rmr σ a (i + 1)) 1 7 ((σ 1 7) - 1)) 8 i (σ 8 (i + 1))) 9 i (σ 9 (i + 1)) 10 (i + 1) = σ 10 (i + 1) := by rw [up_n (by decide), up_n (by decide), up_n (by decide), a10, shf_k]
        have x5 : up (up (up (up (rmr σ a (i + 1)) 1 7 ((σ 1 7) - 1)) 8 i (σ 8 (i + 1))) 9 i (σ 9 (i + 1))) 10 i (σ 10 (i + 1)) = up (up (up (up (rmr σ a (i + 1)) 8 i (σ 8 (i + 1))) 9 i (σ 9 (i + 1))) 10 i (σ 10 (i + 1))) 1 7 ((σ 1 7) - 1) := by
          rw [up_17 (by decide), up_17 (by decide), up_17 (by decide)]
        have i10 : i < 10 := by omega
        have i11 : i + 1 < 10 := by omega
        rw [eb_230_5]
        clear e7 a8 a9 a10 ih hs
        simp (disch := first | assumption | omega | exact st8_a (Nat.le_of_ble_eq_true rfl)) only [up_s, u1_s, hi, x2, x3, x4, x5, ih2, eb_230_6, kl_a, kl_d, kl_f, kl_i, kl_l, kl_n, kl_r, xr_1, xr_10, xr_2, xr_27, xr_28, xr_3, xr_30, xr_31, xr_38, xr_4, xr_42, xr_5, xr_77, xr_8, xr_9, af_0, af_1, xt_goto, xt_ib, xt_ic, xt_ic_ge, xt_if_eq, xt_ir, xt_nop, mF_12 mh_Mo, mF_13 mh_Mo, mF_14 mh_Mo, mF_15 mh_Mo, mA_63 mh_Mo, mA_64 mh_Mo, mA_65 mh_Mo, mA_66 mh_Mo, mA_67 mh_Mo, mA_68 mh_Mo, mA_69 mh_Mo, mA_70 mh_Mo, mA_71 mh_Mo, xq_187_13_virtualm mh_Mo, xq_188_200_static, pF_0, pF_1, pF_2, pF_5, pF_6, pF_8, pF_12, pF_16, pF_17, pF_18, pF_22, pF_24, pF_19, pF_20, pF_21, pF_23, pN_19, pN_20, pN_21, pN_23, pA_63, pA_64, pA_65, pA_66, pA_67, pA_68, pA_69, pA_70, pA_71, iN_add, iN_mul, iN_sub, iN_and, iN_or, iN_clr, iN_shl, iN_shr, tb_r1, b1_z, b1_or, b1_and, b1_or0, b1_or1, b1_0or, b1_t, b1_f, iN_lt, iN_inj, reduceIte, if_true, if_false, Nat.zero_add, Nat.add_zero, Bool.false_eq_true, Bool.true_eq_false, Nat.lt_irrefl, iN_az, not_true_eq_false, not_false_eq_true, Nat.reduceEqDiff, Nat.reduceLT, Nat.reduceAdd, Nat.reduceMul, Nat.reduceSub]
    have e := key a (by omega) (Nat.le_refl _)
    have e0 : rmr σ a (a + 1) = σ := by
      unfold rmr
      rw [shf_0, shf_0, shf_0, ur_id, ur_id, ur_id]
    rw [e0] at e
    have hs1 : nI (σ 1 7) - nI 1 = nI ((σ 1 7) - 1) := iN_sub (by omega)
    have e9 := fun {h} => m_188n (xs := xs) (d := d + 1) (h := h) ha hQ2
    rw [hs1] at e9
    clear e7 a8 a9 a10 key e0
    simp (disch := first | assumption | omega | exact st8_a (Nat.le_of_ble_eq_true rfl)) only [@e9, decide_eq_true h, en1, hs1, e, eb_230_0, eb_230_1, eb_230_2, eb_230_4, kl_a, kl_d, kl_f, kl_i, kl_l, kl_n, kl_r, xr_1, xr_10, xr_2, xr_27, xr_28, xr_3, xr_30, xr_31, xr_38, xr_4, xr_42, xr_5, xr_77, xr_8, xr_9, af_0, af_1, xt_goto, xt_ib, xt_ic, xt_ic_ge, xt_if_eq, xt_ir, xt_nop, mF_12 mh_Mo, mF_13 mh_Mo, mF_14 mh_Mo, mF_15 mh_Mo, mA_63 mh_Mo, mA_64 mh_Mo, mA_65 mh_Mo, mA_66 mh_Mo, mA_67 mh_Mo, mA_68 mh_Mo, mA_69 mh_Mo, mA_70 mh_Mo, mA_71 mh_Mo, xq_187_13_virtualm mh_Mo, xq_188_200_static, pF_0, pF_1, pF_2, pF_5, pF_6, pF_8, pF_12, pF_16, pF_17, pF_18, pF_22, pF_24, pF_19, pF_20, pF_21, pF_23, pN_19, pN_20, pN_21, pN_23, pA_63, pA_64, pA_65, pA_66, pA_67, pA_68, pA_69, pA_70, pA_71, iN_add, iN_mul, iN_and, iN_or, iN_clr, iN_shl, iN_shr, tb_r1, b1_z, b1_or, b1_and, b1_or0, b1_or1, b1_0or, b1_t, b1_f, iN_lt, iN_inj, reduceIte, if_true, if_false, Nat.zero_add, Nat.add_zero, Bool.false_eq_true, Bool.true_eq_false, Nat.lt_irrefl, iN_az, not_true_eq_false, not_false_eq_true, Nat.reduceEqDiff, Nat.reduceLT, Nat.reduceAdd, Nat.reduceMul, Nat.reduceSub]
  · rw [if_pos h]
    simp (disch := first | assumption | omega | exact st8_a (Nat.le_of_ble_eq_true rfl)) only [m_188n ha hQ2, decide_eq_false h, en0, eb_230_0, eb_230_1, eb_230_2, eb_230_3, kl_a, kl_d, kl_f, kl_i, kl_l, kl_n, kl_r, xr_1, xr_10, xr_2, xr_27, xr_28, xr_3, xr_30, xr_31, xr_38, xr_4, xr_42, xr_5, xr_77, xr_8, xr_9, af_0, af_1, xt_goto, xt_ib, xt_ic, xt_ic_ge, xt_if_eq, xt_ir, xt_nop, mF_12 mh_Mo, mF_13 mh_Mo, mF_14 mh_Mo, mF_15 mh_Mo, mA_63 mh_Mo, mA_64 mh_Mo, mA_65 mh_Mo, mA_66 mh_Mo, mA_67 mh_Mo, mA_68 mh_Mo, mA_69 mh_Mo, mA_70 mh_Mo, mA_71 mh_Mo, xq_187_13_virtualm mh_Mo, xq_188_200_static, pF_0, pF_1, pF_2, pF_5, pF_6, pF_8, pF_12, pF_16, pF_17, pF_18, pF_22, pF_24, pF_19, pF_20, pF_21, pF_23, pN_19, pN_20, pN_21, pN_23, pA_63, pA_64, pA_65, pA_66, pA_67, pA_68, pA_69, pA_70, pA_71, iN_add, iN_mul, iN_and, iN_or, iN_clr, iN_shl, iN_shr, tb_r1, b1_z, b1_or, b1_and, b1_or0, b1_or1, b1_0or, b1_t, b1_f, iN_lt, iN_inj, reduceIte, if_true, if_false, Nat.zero_add, Nat.add_zero, Bool.false_eq_true, Bool.true_eq_false, Nat.lt_irrefl, iN_az, not_true_eq_false, not_false_eq_true, Nat.reduceEqDiff, Nat.reduceLT, Nat.reduceAdd, Nat.reduceMul, Nat.reduceSub]
/-- the table's places when a room comes in -/
def rct (σ : Nat → Nat → Nat) (s r : Nat → Nat) (k : Nat) : Nat → Nat := fun l => if l < k then s l * ((σ 1 5) + 1) + r l else tv σ s r l
set_option maxRecDepth 100000 in
theorem rct_0 : rct σ s r 0 = tv σ s r := by
  funext l
  unfold rct
  rw [if_neg (Nat.not_lt_zero _)]
set_option maxRecDepth 100000 in
theorem rct_s : u1 (rct σ s r k) k (s k * ((σ 1 5) + 1) + r k) = rct σ s r (k + 1) := by
  funext l
  unfold rct
  by_cases h : l = k
  · rw [h, u1_s, if_pos (Nat.lt_succ_self k)]
  · rw [u1_n h]
    by_cases h2 : l < k
    · rw [if_pos h2, if_pos (by omega)]
    · rw [if_neg h2, if_neg (by omega)]
set_option maxRecDepth 100000 in
theorem m_226b (O : Ok σ) (hR4 : (σ 1 5) < 3) (hν : ν 0 = .ref (72 + i)) (hi : Q[i]? = some (oI (ar (σ 1 6) (tv σ s r)))) (hb : ∀ l, l < (σ 1 6) → s l < (σ 1 2) ∧ r l < (σ 1 5)) : ∀ k, k ≤ (σ 1 6) → ev xs d 226 10 ([.ref 62, .int x, .int (nI (σ 1 5)), .int (nI k)], [], mh τ M (up (up σ 4 (σ 1 5) a) 1 5 ((σ 1 5) + 1)) μ ν (Q.set i (oI (ar (σ 1 6) (rct σ s r k))))) = some (.inl (some (.int (nI ((σ 1 5))))), mh τ M (up (up σ 4 (σ 1 5) a) 1 5 ((σ 1 5) + 1)) μ ν (Q.set i (oI (ar (σ 1 6) (rct σ s r (σ 1 6)))))) := by
  obtain ⟨hD1, hD2, hH1, hH2, hS, hC, hT, hR, hL, hQ⟩ := Ok_b O
  obtain ⟨hiQ, -⟩ := List.getElem?_eq_some_iff.mp hi
  have al : ∀ f : Nat → Nat, (Q.set i (oI (ar (σ 1 6) f)))[i]? = some (oI (ar (σ 1 6) f)) := fun f => List.getElem?_set_self hiQ
  have al2 : ∀ f : Nat → Nat, (mh τ M (up (up σ 4 (σ 1 5) a) 1 5 ((σ 1 5) + 1)) μ ν (Q.set i (oI (ar (σ 1 6) f))))[72 + i]? = some (oI (ar (σ 1 6) f)) := fun f => mh_Q.trans (al f)
  have e1 : (σ 1 5) + 1 - 1 = (σ 1 5) := rfl
  refine lp (σ 1 6) ?_ ?_
  · have q1 := al (rct σ s r (σ 1 6))
    have q2 := al2 (rct σ s r (σ 1 6))
    rw [eb_226_10]
    clear hb hi al al2
    simp (disch := first | assumption | omega | exact st8_a (Nat.le_of_ble_eq_true rfl)) only [hν, q_ln q2, e1, up_s, u1_s, eb_226_11, eb_226_16, kl_a, kl_d, kl_f, kl_i, kl_l, kl_n, kl_r, xr_1, xr_10, xr_110, xr_141, xr_143, xr_2, xr_27, xr_28, xr_3, xr_30, xr_31, xr_32, xr_37, xr_38, xr_4, xr_41, xr_43, xr_5, xr_65, xr_71, xr_77, xr_8, xr_9, af_0, af_1, xt_goto, xt_ib, xt_ic, xt_ic_ge, xt_if_eq, xt_if_ne, xt_ir, xt_nop, xt_nu_0, xt_nu_1, mF_19 mh_Mo, mF_6 mh_Mo, mF_7 mh_Mo, mA_63 mh_Mo, mA_64 mh_Mo, mA_65 mh_Mo, mA_66 mh_Mo, mA_67 mh_Mo, mA_68 mh_Mo, mA_69 mh_Mo, mA_70 mh_Mo, mA_71 mh_Mo, xq_187_13_virtualm mh_Mo, xq_188_200_static, pF_0, pF_1, pF_2, pF_5, pF_6, pF_8, pF_12, pF_16, pF_17, pF_18, pF_22, pF_24, pF_19, pF_20, pF_21, pF_23, pN_19, pN_20, pN_21, pN_23, pA_63, pA_64, pA_65, pA_66, pA_67, pA_68, pA_69, pA_70, pA_71, iN_add, iN_mul, iN_sub, iN_and, iN_or, iN_clr, iN_shl, iN_shr, tb_r1, b1_z, b1_or, b1_and, b1_or0, b1_or1, b1_0or, b1_t, b1_f, iN_lt, iN_inj, reduceIte, if_true, if_false, Nat.zero_add, Nat.add_zero, Bool.false_eq_true, Bool.true_eq_false, Nat.lt_irrefl, iN_az, not_true_eq_false, not_false_eq_true, Nat.reduceEqDiff, Nat.reduceLT, Nat.reduceAdd, Nat.reduceMul, Nat.reduceSub]
  · intro k hk ih
    have q1 := al (rct σ s r k)
    have q2 := al2 (rct σ s r k)
    have hr := (hb k hk).2
    have hs := (hb k hk).1
    have hR0 : ¬ (σ 1 5) = 0 := by omega
    have hR1 : 0 < (σ 1 5) := by omega
    have t0 : rct σ s r k k = tv σ s r k := if_neg (Nat.lt_irrefl k)
    have t1 := tv_d (σ := σ) (s := s) hr
    have t2 := tv_m (σ := σ) (s := s) hr
    have t3 := tv_b (σ := σ) hs hr
    have t4 : (σ 1 2) * (σ 1 5) ≤ 6 * 3 := Nat.mul_le_mul (by omega) hR
    have t5 : tv σ s r k < 18 := by omega
    have t6 : (Q.set i (oI (ar (σ 1 6) (rct σ s r k)))).set i (oI (ar (σ 1 6) (u1 (rct σ s r k) k (s k * ((σ 1 5) + 1) + r k)))) = Q.set i (oI (ar (σ 1 6) (rct σ s r (k + 1)))) := by rw [List.set_set, rct_s]
    rw [← ih, eb_226_10]
    clear hb hi al al2 ih t3 t4
    simp (disch := first | assumption | omega | exact st8_a (Nat.le_of_ble_eq_true rfl)) only [hν, hk, q_ln q2, pQ_l q1, pQ_s q1, t0, t1, t2, t6, hR0, up_s, u1_s, eb_226_11, eb_226_12, eb_226_14, eb_226_15, kl_a, kl_d, kl_f, kl_i, kl_l, kl_n, kl_r, xr_1, xr_10, xr_110, xr_141, xr_143, xr_2, xr_27, xr_28, xr_3, xr_30, xr_31, xr_32, xr_37, xr_38, xr_4, xr_41, xr_43, xr_5, xr_65, xr_71, xr_77, xr_8, xr_9, af_0, af_1, xt_goto, xt_ib, xt_ic, xt_ic_ge, xt_if_eq, xt_if_ne, xt_ir, xt_nop, xt_nu_0, xt_nu_1, mF_19 mh_Mo, mF_6 mh_Mo, mF_7 mh_Mo, mA_63 mh_Mo, mA_64 mh_Mo, mA_65 mh_Mo, mA_66 mh_Mo, mA_67 mh_Mo, mA_68 mh_Mo, mA_69 mh_Mo, mA_70 mh_Mo, mA_71 mh_Mo, xq_187_13_virtualm mh_Mo, xq_188_200_static, pF_0, pF_1, pF_2, pF_5, pF_6, pF_8, pF_12, pF_16, pF_17, pF_18, pF_22, pF_24, pF_19, pF_20, pF_21, pF_23, pN_19, pN_20, pN_21, pN_23, pA_63, pA_64, pA_65, pA_66, pA_67, pA_68, pA_69, pA_70, pA_71, iN_add, iN_mul, iN_sub, iN_and, iN_or, iN_clr, iN_shl, iN_shr, tb_r1, b1_z, b1_or, b1_and, b1_or0, b1_or1, b1_0or, b1_t, b1_f, iN_lt, iN_inj, reduceIte, if_true, if_false, Nat.zero_add, Nat.add_zero, Bool.false_eq_true, Bool.true_eq_false, Nat.lt_irrefl, iN_az, not_true_eq_false, not_false_eq_true, Nat.reduceEqDiff, Nat.reduceLT, Nat.reduceAdd, Nat.reduceMul, Nat.reduceSub]
set_option maxRecDepth 100000 in
theorem ar_cg {n : Nat} {f g : Nat → Nat} (h : ∀ k, k < n → f k = g k) : ar n f = ar n g := by
  have e : (fun j => if j < n then f j else g j) = g := by
    funext j
    by_cases hj : j < n
    · rw [if_pos hj, h j hj]
    · rw [if_neg hj]
  rw [← ar_cp (f := f) (g := g), e]
set_option maxRecDepth 100000 in
theorem m_226x (O : Ok σ) (ha : a < 4294967296) (hb : ¬ ((1 ≤ a ∧ a ≤ 99) ∧ (σ 1 5) < 3)) : ev xs (d + 1) 226 0 ([.ref 62, .int (nI a), .retAddr 9, .retAddr 9], [], mh τ M σ μ ν Q) = some (.inl (some (.int (nI (0)))), mh τ M σ (u1 μ 0 (if 1 ≤ a ∧ a ≤ 99 then 2 else 1)) ν Q) := by
  obtain ⟨hD1, hD2, hH1, hH2, hS, hC, hT, hR, hL, hQ⟩ := Ok_b O
  by_cases h1 : 1 ≤ a ∧ a ≤ 99
  · have h2 : ¬ (σ 1 5) < 3 := fun z => hb ⟨h1, z⟩
    rw [if_pos h1]
    simp (disch := first | assumption | omega | exact st8_a (Nat.le_of_ble_eq_true rfl)) only [m_188c ha, decide_eq_true h1, h2, en1, en0, uu, eb_226_0, eb_226_1, eb_226_2, eb_226_3, eb_226_5, eb_226_6, eb_226_7, eb_226_8, kl_a, kl_d, kl_f, kl_i, kl_l, kl_n, kl_r, xr_1, xr_10, xr_110, xr_141, xr_143, xr_2, xr_27, xr_28, xr_3, xr_30, xr_31, xr_32, xr_37, xr_38, xr_4, xr_41, xr_43, xr_5, xr_65, xr_71, xr_77, xr_8, xr_9, af_0, af_1, xt_goto, xt_ib, xt_ic, xt_ic_ge, xt_if_eq, xt_if_ne, xt_ir, xt_nop, xt_nu_0, xt_nu_1, mF_19 mh_Mo, mF_6 mh_Mo, mF_7 mh_Mo, mA_63 mh_Mo, mA_64 mh_Mo, mA_65 mh_Mo, mA_66 mh_Mo, mA_67 mh_Mo, mA_68 mh_Mo, mA_69 mh_Mo, mA_70 mh_Mo, mA_71 mh_Mo, xq_187_13_virtualm mh_Mo, xq_188_200_static, pF_0, pF_1, pF_2, pF_5, pF_6, pF_8, pF_12, pF_16, pF_17, pF_18, pF_22, pF_24, pF_19, pF_20, pF_21, pF_23, pN_19, pN_20, pN_21, pN_23, pA_63, pA_64, pA_65, pA_66, pA_67, pA_68, pA_69, pA_70, pA_71, iN_add, iN_mul, iN_sub, iN_and, iN_or, iN_clr, iN_shl, iN_shr, tb_r1, b1_z, b1_or, b1_and, b1_or0, b1_or1, b1_0or, b1_t, b1_f, iN_lt, iN_inj, reduceIte, if_true, if_false, Nat.zero_add, Nat.add_zero, Bool.false_eq_true, Bool.true_eq_false, Nat.lt_irrefl, iN_az, not_true_eq_false, not_false_eq_true, Nat.reduceEqDiff, Nat.reduceLT, Nat.reduceAdd, Nat.reduceMul, Nat.reduceSub]
  · rw [if_neg h1]
    simp (disch := first | assumption | omega | exact st8_a (Nat.le_of_ble_eq_true rfl)) only [m_188c ha, decide_eq_false h1, en0, eb_226_0, eb_226_1, eb_226_2, eb_226_8, kl_a, kl_d, kl_f, kl_i, kl_l, kl_n, kl_r, xr_1, xr_10, xr_110, xr_141, xr_143, xr_2, xr_27, xr_28, xr_3, xr_30, xr_31, xr_32, xr_37, xr_38, xr_4, xr_41, xr_43, xr_5, xr_65, xr_71, xr_77, xr_8, xr_9, af_0, af_1, xt_goto, xt_ib, xt_ic, xt_ic_ge, xt_if_eq, xt_if_ne, xt_ir, xt_nop, xt_nu_0, xt_nu_1, mF_19 mh_Mo, mF_6 mh_Mo, mF_7 mh_Mo, mA_63 mh_Mo, mA_64 mh_Mo, mA_65 mh_Mo, mA_66 mh_Mo, mA_67 mh_Mo, mA_68 mh_Mo, mA_69 mh_Mo, mA_70 mh_Mo, mA_71 mh_Mo, xq_187_13_virtualm mh_Mo, xq_188_200_static, pF_0, pF_1, pF_2, pF_5, pF_6, pF_8, pF_12, pF_16, pF_17, pF_18, pF_22, pF_24, pF_19, pF_20, pF_21, pF_23, pN_19, pN_20, pN_21, pN_23, pA_63, pA_64, pA_65, pA_66, pA_67, pA_68, pA_69, pA_70, pA_71, iN_add, iN_mul, iN_sub, iN_and, iN_or, iN_clr, iN_shl, iN_shr, tb_r1, b1_z, b1_or, b1_and, b1_or0, b1_or1, b1_0or, b1_t, b1_f, iN_lt, iN_inj, reduceIte, if_true, if_false, Nat.zero_add, Nat.add_zero, Bool.false_eq_true, Bool.true_eq_false, Nat.lt_irrefl, iN_az, not_true_eq_false, not_false_eq_true, Nat.reduceEqDiff, Nat.reduceLT, Nat.reduceAdd, Nat.reduceMul, Nat.reduceSub]
set_option maxRecDepth 100000 in
theorem m_226n (O : Ok σ) (h1 : 1 ≤ a ∧ a ≤ 99) (h2 : (σ 1 5) < 3) (h : ν 0 = .null) : ev xs (d + 1) 226 0 ([.ref 62, .int (nI a), .retAddr 9, .retAddr 9], [], mh τ M σ μ ν Q) = some (.inl (some (.int (nI ((σ 1 5))))), mh τ M (up (up σ 4 (σ 1 5) a) 1 5 ((σ 1 5) + 1)) (u1 μ 0 0) ν Q) := by
  obtain ⟨hD1, hD2, hH1, hH2, hS, hC, hT, hR, hL, hQ⟩ := Ok_b O
  have ha : a < 4294967296 := by omega
  have e1 : (σ 1 5) + 1 - 1 = (σ 1 5) := rfl
  simp (disch := first | assumption | omega | exact st8_a (Nat.le_of_ble_eq_true rfl)) only [m_188c ha, decide_eq_true h1, h2, en1, uu, up_s, u1_s, up_n, eb_226_0, eb_226_1, eb_226_2, eb_226_3, eb_226_4, eb_226_6, eb_226_7, eb_226_9, kl_a, kl_d, kl_f, kl_i, kl_l, kl_n, kl_r, xr_1, xr_10, xr_110, xr_141, xr_143, xr_2, xr_27, xr_28, xr_3, xr_30, xr_31, xr_32, xr_37, xr_38, xr_4, xr_41, xr_43, xr_5, xr_65, xr_71, xr_77, xr_8, xr_9, af_0, af_1, xt_goto, xt_ib, xt_ic, xt_ic_ge, xt_if_eq, xt_if_ne, xt_ir, xt_nop, xt_nu_0, xt_nu_1, mF_19 mh_Mo, mF_6 mh_Mo, mF_7 mh_Mo, mA_63 mh_Mo, mA_64 mh_Mo, mA_65 mh_Mo, mA_66 mh_Mo, mA_67 mh_Mo, mA_68 mh_Mo, mA_69 mh_Mo, mA_70 mh_Mo, mA_71 mh_Mo, xq_187_13_virtualm mh_Mo, xq_188_200_static, pF_0, pF_1, pF_2, pF_5, pF_6, pF_8, pF_12, pF_16, pF_17, pF_18, pF_22, pF_24, pF_19, pF_20, pF_21, pF_23, pN_19, pN_20, pN_21, pN_23, pA_63, pA_64, pA_65, pA_66, pA_67, pA_68, pA_69, pA_70, pA_71, iN_add, iN_mul, iN_sub, iN_and, iN_or, iN_clr, iN_shl, iN_shr, tb_r1, b1_z, b1_or, b1_and, b1_or0, b1_or1, b1_0or, b1_t, b1_f, iN_lt, iN_inj, reduceIte, if_true, if_false, Nat.zero_add, Nat.add_zero, Bool.false_eq_true, Bool.true_eq_false, Nat.lt_irrefl, iN_az, not_true_eq_false, not_false_eq_true, Nat.reduceEqDiff, Nat.reduceLT, Nat.reduceAdd, Nat.reduceMul, Nat.reduceSub]
  rw [eb_226_10]
  simp (disch := first | assumption | omega | exact st8_a (Nat.le_of_ble_eq_true rfl)) only [h, e1, up_s, u1_s, eb_226_16, kl_a, kl_d, kl_f, kl_i, kl_l, kl_n, kl_r, xr_1, xr_10, xr_110, xr_141, xr_143, xr_2, xr_27, xr_28, xr_3, xr_30, xr_31, xr_32, xr_37, xr_38, xr_4, xr_41, xr_43, xr_5, xr_65, xr_71, xr_77, xr_8, xr_9, af_0, af_1, xt_goto, xt_ib, xt_ic, xt_ic_ge, xt_if_eq, xt_if_ne, xt_ir, xt_nop, xt_nu_0, xt_nu_1, mF_19 mh_Mo, mF_6 mh_Mo, mF_7 mh_Mo, mA_63 mh_Mo, mA_64 mh_Mo, mA_65 mh_Mo, mA_66 mh_Mo, mA_67 mh_Mo, mA_68 mh_Mo, mA_69 mh_Mo, mA_70 mh_Mo, mA_71 mh_Mo, xq_187_13_virtualm mh_Mo, xq_188_200_static, pF_0, pF_1, pF_2, pF_5, pF_6, pF_8, pF_12, pF_16, pF_17, pF_18, pF_22, pF_24, pF_19, pF_20, pF_21, pF_23, pN_19, pN_20, pN_21, pN_23, pA_63, pA_64, pA_65, pA_66, pA_67, pA_68, pA_69, pA_70, pA_71, iN_add, iN_mul, iN_sub, iN_and, iN_or, iN_clr, iN_shl, iN_shr, tb_r1, b1_z, b1_or, b1_and, b1_or0, b1_or1, b1_0or, b1_t, b1_f, iN_lt, iN_inj, reduceIte, if_true, if_false, Nat.zero_add, Nat.add_zero, Bool.false_eq_true, Bool.true_eq_false, Nat.lt_irrefl, iN_az, not_true_eq_false, not_false_eq_true, Nat.reduceEqDiff, Nat.reduceLT, Nat.reduceAdd, Nat.reduceMul, Nat.reduceSub]
set_option maxRecDepth 100000 in
theorem m_226r (O : Ok σ) (h1 : 1 ≤ a ∧ a ≤ 99) (h2 : (σ 1 5) < 3) (h : ν 0 = .ref (72 + i)) (h3 : Q[i]? = some (oI (ar (σ 1 6) (tv σ s r)))) (h4 : ∀ l, l < (σ 1 6) → s l < (σ 1 2) ∧ r l < (σ 1 5)) : ev xs (d + 1) 226 0 ([.ref 62, .int (nI a), .retAddr 9, .retAddr 9], [], mh τ M σ μ ν Q) = some (.inl (some (.int (nI ((σ 1 5))))), mh τ M (up (up σ 4 (σ 1 5) a) 1 5 ((σ 1 5) + 1)) (u1 μ 0 0) ν (Q.set i (oI (ar (σ 1 6) (tv (up (up σ 4 (σ 1 5) a) 1 5 ((σ 1 5) + 1)) s r))))) := by
  obtain ⟨hD1, hD2, hH1, hH2, hS, hC, hT, hR, hL, hQ⟩ := Ok_b O
  have ha : a < 4294967296 := by omega
  have e := m_226b (xs := xs) (d := d + 1) (τ := τ) (M := M) (μ := u1 μ 0 0) (a := a) (x := nI a) O h2 h h3 h4 0 (Nat.zero_le _)
  have hid : Q.set i (oI (ar (σ 1 6) (tv σ s r))) = Q := by
    obtain ⟨h5, h6⟩ := List.getElem?_eq_some_iff.mp h3
    rw [← h6, List.set_getElem_self]
  have hct : (ar (σ 1 6) (rct σ s r (σ 1 6))) = ar (σ 1 6) (tv (up (up σ 4 (σ 1 5) a) 1 5 ((σ 1 5) + 1)) s r) := ar_cg fun l hl => if_pos hl
  rw [rct_0, hid, hct] at e
  clear h3 h4 hid hct
  simp (disch := first | assumption | omega | exact st8_a (Nat.le_of_ble_eq_true rfl)) only [m_188c ha, decide_eq_true h1, h2, en1, uu, up_s, u1_s, up_n, eb_226_0, eb_226_1, eb_226_2, eb_226_3, eb_226_4, eb_226_6, eb_226_7, eb_226_9, kl_a, kl_d, kl_f, kl_i, kl_l, kl_n, kl_r, xr_1, xr_10, xr_110, xr_141, xr_143, xr_2, xr_27, xr_28, xr_3, xr_30, xr_31, xr_32, xr_37, xr_38, xr_4, xr_41, xr_43, xr_5, xr_65, xr_71, xr_77, xr_8, xr_9, af_0, af_1, xt_goto, xt_ib, xt_ic, xt_ic_ge, xt_if_eq, xt_if_ne, xt_ir, xt_nop, xt_nu_0, xt_nu_1, mF_19 mh_Mo, mF_6 mh_Mo, mF_7 mh_Mo, mA_63 mh_Mo, mA_64 mh_Mo, mA_65 mh_Mo, mA_66 mh_Mo, mA_67 mh_Mo, mA_68 mh_Mo, mA_69 mh_Mo, mA_70 mh_Mo, mA_71 mh_Mo, xq_187_13_virtualm mh_Mo, xq_188_200_static, pF_0, pF_1, pF_2, pF_5, pF_6, pF_8, pF_12, pF_16, pF_17, pF_18, pF_22, pF_24, pF_19, pF_20, pF_21, pF_23, pN_19, pN_20, pN_21, pN_23, pA_63, pA_64, pA_65, pA_66, pA_67, pA_68, pA_69, pA_70, pA_71, iN_add, iN_mul, iN_sub, iN_and, iN_or, iN_clr, iN_shl, iN_shr, tb_r1, b1_z, b1_or, b1_and, b1_or0, b1_or1, b1_0or, b1_t, b1_f, iN_lt, iN_inj, reduceIte, if_true, if_false, Nat.zero_add, Nat.add_zero, Bool.false_eq_true, Bool.true_eq_false, Nat.lt_irrefl, iN_az, not_true_eq_false, not_false_eq_true, Nat.reduceEqDiff, Nat.reduceLT, Nat.reduceAdd, Nat.reduceMul, Nat.reduceSub]
  exact e
end Mde
