/-! THE CLASS RuleSets: refresh, whole -/
section Re
variable {xs : List Int32} {σ M N : Nat → Nat → Nat} {R : ab_H} {d e l s r o u n t y v w k m : Nat}
set_option maxRecDepth 100000 in
theorem EN_252 (O : Ok σ) (hm : m ≤ (σ 1 7)) (h : EN (PP σ m) (alr σ + 1) n (M 41)) : n ≤ 252 := by
  obtain ⟨hD1, hD2, hH1, hH2, hS, hC, hT, hR, hL, hQ⟩ := Ok_b O
  have hal := alr_lt O
  have h1 := EN_c (m := m) (fun u h => h.1) h
  have h2 : cnp m (alr σ + 1) ≤ cnp m 1024 := sm_sbn (by omega)
  have h3 := cnp_252 m (by omega)
  omega
set_option maxRecDepth 100000 in
theorem s_52o (O : Ok σ) (hks : ¬ KS σ (alr σ)) : ∀ m, m ≤ (σ 1 7) + 1 → ∀ N z, RZ σ M N → N 40 5 = 0 → (∀ u, u ≤ alr σ → pc 10 u < m → KS σ u) → ∃ M', ev xs (e + 20) 52 7 ([.ref 40, .int (nI (alr σ)), .int (nI m), z], [], hc σ N R) = some (.inl none, hc σ M' R) ∧ RZ σ M M' ∧ RS σ (M' 40 5) (M' 41) ∧ M' 40 5 ≤ 252 := by
  obtain ⟨hD1, hD2, hH1, hH2, hS, hC, hT, hR, hL, hQ⟩ := Ok_b O
  refine lp ((σ 1 7) + 1) ?_ ?_
  · intro N z hz h5 hk
    exact absurd (hk _ (Nat.le_refl _) (by have := alr_pc O; omega)) hks
  · intro m hm ih N z hz h5 hk
    have hmq : ¬ (σ 1 7) < m := by omega
    obtain ⟨N1, e1, q1, q2⟩ := s_52i (xs := xs) (e := e) (R := R) (M := M) O (m := m) (by omega) 0 (Nat.zero_le _) N hz h5
    have fin : ∃ M', ev xs (e + 20) 52 7 ([.ref 40, .int (nI (alr σ)), .int (nI (m + 1)), .int (nI (alr σ + 1))], [], hc σ N1 R) = some (.inl none, hc σ M' R) ∧ RZ σ M M' ∧ RS σ (M' 40 5) (M' 41) ∧ M' 40 5 ≤ 252 := by
      by_cases h0 : N1 40 5 = 0
      · refine ih N1 _ q1 h0 fun u hu hp => ?_
        by_cases hpm : pc 10 u = m
        · by_cases hu2 : KS σ u
          · exact hu2
          · rw [h0] at q2
            exact absurd ⟨hpm, hu2⟩ (EN_z q2 u (by omega))
        · exact hk u hu (by omega)
      · have h252 := EN_252 O (by omega) q2
        refine ⟨N1, ?_, q1, Or.inr ⟨hks, m, hk, by omega, q2⟩, h252⟩
        rw [eb_52_7]
        by_cases hmq2 : (σ 1 7) < m + 1
        · clear q1 q2 ih hk hz
          simp (disch := first | assumption | omega | exact st8_a (Nat.le_of_ble_eq_true rfl)) only [h0, eq_true hmq2, eb_52_8, eb_52_19, kl_a, kl_d, kl_f, kl_i, kl_l, kl_n, kl_r, xr_1, xr_10, xr_2, xr_27, xr_28, xr_29, xr_3, xr_30, xr_31, xr_32, xr_37, xr_38, xr_4, xr_42, xr_43, xr_5, xr_78, xr_8, xr_9, af_0, af_1, xt_goto, xt_ic_ge, xt_ic_gt, xt_ic_ne, xt_if_eq, xt_if_ne, xt_nop, xt_re, gF_40_0, gF_40_4, gF_40_5, gF_40_8, gF_1_7, gF_1_8, gW_2, gW_3, gW_4, gW_5, gW_6, gW_7, gW_8, gW_9, gW_10, gW_11, gW_13, gW_14, gW_16, gW_17, gW_20, gW_21, gW_22, gW_23, gW_24, gW_25, gW_26, gW_27, gW_30, gW_31, gW_32, gW_33, gW_34, gW_35, gW_36, gW_38, gW_39, gW_41, gW_42, gW_46, gW_47, gW_49, gW_50, gW_51, gW_53, gW_56, gW_57, gW_59, gW_60, gP_40_5, gP_40_7, gP_40_8, xq_277_200_static, xq_53_5_virtualc, xq_56_6_virtualc, iN_add, iN_mul, iN_sub, iN_and, iN_or, iN_clr, iN_shl, iN_shr, tb_r1, b1_z, b1_or, b1_and, b1_or0, b1_or1, b1_0or, b1_t, b1_f, iN_lt, iN_inj, reduceIte, if_true, if_false, Nat.zero_add, Nat.add_zero, Bool.false_eq_true, Bool.true_eq_false, Nat.lt_irrefl, iN_az, not_true_eq_false, not_false_eq_true, Nat.reduceEqDiff, Nat.reduceLT, Nat.reduceAdd, Nat.reduceMul, Nat.reduceSub]
        · clear q1 q2 ih hk hz
          simp (disch := first | assumption | omega | exact st8_a (Nat.le_of_ble_eq_true rfl)) only [h0, hmq2, eb_52_8, eb_52_19, kl_a, kl_d, kl_f, kl_i, kl_l, kl_n, kl_r, xr_1, xr_10, xr_2, xr_27, xr_28, xr_29, xr_3, xr_30, xr_31, xr_32, xr_37, xr_38, xr_4, xr_42, xr_43, xr_5, xr_78, xr_8, xr_9, af_0, af_1, xt_goto, xt_ic_ge, xt_ic_gt, xt_ic_ne, xt_if_eq, xt_if_ne, xt_nop, xt_re, gF_40_0, gF_40_4, gF_40_5, gF_40_8, gF_1_7, gF_1_8, gW_2, gW_3, gW_4, gW_5, gW_6, gW_7, gW_8, gW_9, gW_10, gW_11, gW_13, gW_14, gW_16, gW_17, gW_20, gW_21, gW_22, gW_23, gW_24, gW_25, gW_26, gW_27, gW_30, gW_31, gW_32, gW_33, gW_34, gW_35, gW_36, gW_38, gW_39, gW_41, gW_42, gW_46, gW_47, gW_49, gW_50, gW_51, gW_53, gW_56, gW_57, gW_59, gW_60, gP_40_5, gP_40_7, gP_40_8, xq_277_200_static, xq_53_5_virtualc, xq_56_6_virtualc, iN_add, iN_mul, iN_sub, iN_and, iN_or, iN_clr, iN_shl, iN_shr, tb_r1, b1_z, b1_or, b1_and, b1_or0, b1_or1, b1_0or, b1_t, b1_f, iN_lt, iN_inj, reduceIte, if_true, if_false, Nat.zero_add, Nat.add_zero, Bool.false_eq_true, Bool.true_eq_false, Nat.lt_irrefl, iN_az, not_true_eq_false, not_false_eq_true, Nat.reduceEqDiff, Nat.reduceLT, Nat.reduceAdd, Nat.reduceMul, Nat.reduceSub]
    obtain ⟨M', e2, q⟩ := fin
    refine ⟨M', ?_, q⟩
    rw [eb_52_7]
    clear q q2 q1 ih hk hz
    simp (disch := first | assumption | omega | exact st8_a (Nat.le_of_ble_eq_true rfl)) only [hmq, h5, e1, eb_52_8, eb_52_9, kl_a, kl_d, kl_f, kl_i, kl_l, kl_n, kl_r, xr_1, xr_10, xr_2, xr_27, xr_28, xr_29, xr_3, xr_30, xr_31, xr_32, xr_37, xr_38, xr_4, xr_42, xr_43, xr_5, xr_78, xr_8, xr_9, af_0, af_1, xt_goto, xt_ic_ge, xt_ic_gt, xt_ic_ne, xt_if_eq, xt_if_ne, xt_nop, xt_re, gF_40_0, gF_40_4, gF_40_5, gF_40_8, gF_1_7, gF_1_8, gW_2, gW_3, gW_4, gW_5, gW_6, gW_7, gW_8, gW_9, gW_10, gW_11, gW_13, gW_14, gW_16, gW_17, gW_20, gW_21, gW_22, gW_23, gW_24, gW_25, gW_26, gW_27, gW_30, gW_31, gW_32, gW_33, gW_34, gW_35, gW_36, gW_38, gW_39, gW_41, gW_42, gW_46, gW_47, gW_49, gW_50, gW_51, gW_53, gW_56, gW_57, gW_59, gW_60, gP_40_5, gP_40_7, gP_40_8, xq_277_200_static, xq_53_5_virtualc, xq_56_6_virtualc, iN_add, iN_mul, iN_sub, iN_and, iN_or, iN_clr, iN_shl, iN_shr, tb_r1, b1_z, b1_or, b1_and, b1_or0, b1_or1, b1_0or, b1_t, b1_f, iN_lt, iN_inj, reduceIte, if_true, if_false, Nat.zero_add, Nat.add_zero, Bool.false_eq_true, Bool.true_eq_false, Nat.lt_irrefl, iN_az, not_true_eq_false, not_false_eq_true, Nat.reduceEqDiff, Nat.reduceLT, Nat.reduceAdd, Nat.reduceMul, Nat.reduceSub]
    exact e2
set_option maxRecDepth 100000 in
theorem s_52 (O : Ok σ) (hV : RV σ M) : ∃ M', ev xs (e + 21) 52 0 ([.ref 40, .retAddr 9, .retAddr 9, .retAddr 9], [], hc σ M R) = some (.inl none, hc σ M' R) ∧ Fr RF M M' ∧ RV σ M' ∧ RS σ (M' 40 5) (M' 41) ∧ M' 40 5 ≤ 252 := by
  obtain ⟨hD1, hD2, hH1, hH2, hS, hC, hT, hR, hL, hQ⟩ := Ok_b O
  obtain ⟨hK, h8, hS2⟩ := hV
  have hch := hK.1
  have h8b : M 40 8 < 4294967296 := by omega
  by_cases hk : M 40 8 = M 1 8
  · refine ⟨M, ?_, Fr_r _ _, ⟨hK, h8, hS2⟩, (hS2 hk).1, (hS2 hk).2⟩
    clear hS2
    simp (disch := first | assumption | omega | exact st8_a (Nat.le_of_ble_eq_true rfl)) only [hk, eb_52_0, eb_52_1, kl_a, kl_d, kl_f, kl_i, kl_l, kl_n, kl_r, xr_1, xr_10, xr_2, xr_27, xr_28, xr_29, xr_3, xr_30, xr_31, xr_32, xr_37, xr_38, xr_4, xr_42, xr_43, xr_5, xr_78, xr_8, xr_9, af_0, af_1, xt_goto, xt_ic_ge, xt_ic_gt, xt_ic_ne, xt_if_eq, xt_if_ne, xt_nop, xt_re, gF_40_0, gF_40_4, gF_40_5, gF_40_8, gF_1_7, gF_1_8, gW_2, gW_3, gW_4, gW_5, gW_6, gW_7, gW_8, gW_9, gW_10, gW_11, gW_13, gW_14, gW_16, gW_17, gW_20, gW_21, gW_22, gW_23, gW_24, gW_25, gW_26, gW_27, gW_30, gW_31, gW_32, gW_33, gW_34, gW_35, gW_36, gW_38, gW_39, gW_41, gW_42, gW_46, gW_47, gW_49, gW_50, gW_51, gW_53, gW_56, gW_57, gW_59, gW_60, gP_40_5, gP_40_7, gP_40_8, xq_277_200_static, xq_53_5_virtualc, xq_56_6_virtualc, iN_add, iN_mul, iN_sub, iN_and, iN_or, iN_clr, iN_shl, iN_shr, tb_r1, b1_z, b1_or, b1_and, b1_or0, b1_or1, b1_0or, b1_t, b1_f, iN_lt, iN_inj, reduceIte, if_true, if_false, Nat.zero_add, Nat.add_zero, Bool.false_eq_true, Bool.true_eq_false, Nat.lt_irrefl, iN_az, not_true_eq_false, not_false_eq_true, Nat.reduceEqDiff, Nat.reduceLT, Nat.reduceAdd, Nat.reduceMul, Nat.reduceSub]
  · have hal := alr_lt O
    obtain ⟨N, b, e1, f1, f2, f3, f4, f5⟩ := s_53 (xs := xs) (e := e + 1) (R := R) (M := up (up (up M 40 8 (M 1 8)) 40 5 0) 40 7 0) O (KI_fr (M := M) (by rw [up_n (by decide), up_n (by decide), up_n (by decide)]) (by rw [up_n (by decide), up_n (by decide), up_n (by decide)]) (by rw [up_n (by decide), up_n (by decide), up_n (by decide)]) (by rw [up_n (by decide), up_n (by decide), up_n (by decide)]) (by rw [up_n (by decide), up_n (by decide), up_n (by decide)]) hK) (by
      unfold RI
      rw [up_s, u1_s]
      exact ⟨by decide, fun i hi => by omega⟩) hal
    have x1 : N 1 = M 1 := by rw [f1 1 rfl, up_n (by decide), up_n (by decide), up_n (by decide)]
    have x8 : N 40 8 = M 1 8 := by rw [f4 8 (by decide), up_s, u1_n (by decide), up_s, u1_n (by decide), up_s, u1_s]
    have x5 : N 40 5 = 0 := by rw [f4 5 (by decide), up_s, u1_n (by decide), up_s, u1_s]
    have frw : Fr RF M N := Fr_t (Fr_p (Fr_p (Fr_p (Fr_r RF M) rfl) rfl) rfl) (Fr_w f1 fun a ha => by simp at ha ⊢; omega)
    have ea : (1 <<< (σ 1 7)) - 1 = alr σ := rfl
    have e9 := s_56 (xs := xs) (d := e + 20) (M := up (up (up M 40 8 (M 1 8)) 40 5 0) 40 7 0) (R := R) O
    rw [ea] at e9
    rw [show e + 1 + 19 = e + 20 from rfl] at e1
    cases b
    · have hks : ¬ KS σ (alr σ) := fun z => by have := f5.mpr z; cases this
      obtain ⟨M', e2, q1, q2, q3⟩ := s_52o (xs := xs) (e := e + 1) (R := R) (M := M) O hks 0 (Nat.zero_le _) N (.retAddr 9) ⟨frw, f2, f3, x8⟩ x5 (fun u _ h => by omega)
      obtain ⟨g1, g2, g3, g4⟩ := q1
      have y1 : M' 1 = M 1 := g1 1 rfl
      refine ⟨M', ?_, g1, ⟨g2, Or.inr (by rw [g4, y1]; exact Nat.le_refl _), fun _ => ⟨q2, q3⟩⟩, q2, q3⟩
      rw [show e + 1 + 20 = e + 21 from rfl] at e2
      clear q2 q3 g1 g2 f5 hks f3 frw f1 f2 hS2 hK
      simp (disch := first | assumption | omega | exact st8_a (Nat.le_of_ble_eq_true rfl)) only [hk, e9, e1, eb_52_0, eb_52_2, eb_52_3, eb_52_4, eb_52_6, kl_a, kl_d, kl_f, kl_i, kl_l, kl_n, kl_r, xr_1, xr_10, xr_2, xr_27, xr_28, xr_29, xr_3, xr_30, xr_31, xr_32, xr_37, xr_38, xr_4, xr_42, xr_43, xr_5, xr_78, xr_8, xr_9, af_0, af_1, xt_goto, xt_ic_ge, xt_ic_gt, xt_ic_ne, xt_if_eq, xt_if_ne, xt_nop, xt_re, gF_40_0, gF_40_4, gF_40_5, gF_40_8, gF_1_7, gF_1_8, gW_2, gW_3, gW_4, gW_5, gW_6, gW_7, gW_8, gW_9, gW_10, gW_11, gW_13, gW_14, gW_16, gW_17, gW_20, gW_21, gW_22, gW_23, gW_24, gW_25, gW_26, gW_27, gW_30, gW_31, gW_32, gW_33, gW_34, gW_35, gW_36, gW_38, gW_39, gW_41, gW_42, gW_46, gW_47, gW_49, gW_50, gW_51, gW_53, gW_56, gW_57, gW_59, gW_60, gP_40_5, gP_40_7, gP_40_8, xq_277_200_static, xq_53_5_virtualc, xq_56_6_virtualc, iN_add, iN_mul, iN_sub, iN_and, iN_or, iN_clr, iN_shl, iN_shr, tb_r1, b1_z, b1_or, b1_and, b1_or0, b1_or1, b1_0or, b1_t, b1_f, iN_lt, iN_inj, reduceIte, if_true, if_false, Nat.zero_add, Nat.add_zero, Bool.false_eq_true, Bool.true_eq_false, Nat.lt_irrefl, iN_az, not_true_eq_false, not_false_eq_true, Nat.reduceEqDiff, Nat.reduceLT, Nat.reduceAdd, Nat.reduceMul, Nat.reduceSub]
      exact e2
    · have hks := f5.mp rfl
      have hrs : RS σ (N 40 5) (N 41) := Or.inl ⟨hks, x5⟩
      refine ⟨N, ?_, frw, ⟨f2, Or.inr (by rw [x8, x1]; exact Nat.le_refl _), fun _ => ⟨hrs, by omega⟩⟩, hrs, by omega⟩
      clear hrs hks f5 f3 frw f1 f2 hS2 hK
      simp (disch := first | assumption | omega | exact st8_a (Nat.le_of_ble_eq_true rfl)) only [hk, e9, e1, eb_52_0, eb_52_2, eb_52_3, eb_52_4, eb_52_5, kl_a, kl_d, kl_f, kl_i, kl_l, kl_n, kl_r, xr_1, xr_10, xr_2, xr_27, xr_28, xr_29, xr_3, xr_30, xr_31, xr_32, xr_37, xr_38, xr_4, xr_42, xr_43, xr_5, xr_78, xr_8, xr_9, af_0, af_1, xt_goto, xt_ic_ge, xt_ic_gt, xt_ic_ne, xt_if_eq, xt_if_ne, xt_nop, xt_re, gF_40_0, gF_40_4, gF_40_5, gF_40_8, gF_1_7, gF_1_8, gW_2, gW_3, gW_4, gW_5, gW_6, gW_7, gW_8, gW_9, gW_10, gW_11, gW_13, gW_14, gW_16, gW_17, gW_20, gW_21, gW_22, gW_23, gW_24, gW_25, gW_26, gW_27, gW_30, gW_31, gW_32, gW_33, gW_34, gW_35, gW_36, gW_38, gW_39, gW_41, gW_42, gW_46, gW_47, gW_49, gW_50, gW_51, gW_53, gW_56, gW_57, gW_59, gW_60, gP_40_5, gP_40_7, gP_40_8, xq_277_200_static, xq_53_5_virtualc, xq_56_6_virtualc, iN_add, iN_mul, iN_sub, iN_and, iN_or, iN_clr, iN_shl, iN_shr, tb_r1, b1_z, b1_or, b1_and, b1_or0, b1_or1, b1_0or, b1_t, b1_f, iN_lt, iN_inj, reduceIte, if_true, if_false, Nat.zero_add, Nat.add_zero, Bool.false_eq_true, Bool.true_eq_false, Nat.lt_irrefl, iN_az, not_true_eq_false, not_false_eq_true, Nat.reduceEqDiff, Nat.reduceLT, Nat.reduceAdd, Nat.reduceMul, Nat.reduceSub]
end Re
