/-! THE MODEL: smallest -/
section Mcb
variable {xs : List Int32} {d n m m2 : Nat} {hs : List (Nat × Nat)} {tt : ab_T} {rr : List ab_I} {qq : Nat × Nat × Nat} {Lc st : List Value} {h h0 T : ab_H} {σ W N K : Nat → Nat → Nat} {μ : Nat → Nat} {ν : Nat → Value} {β : Value} {a b u k v w x y q set l i t B nn : Nat} {f g : Nat → Nat} {c : ab_O} {P : Nat → Prop}
set_option maxRecDepth 100000 in
theorem hw_Ts : (hw h0 nn W β T).set (h0.length + (18 + i)) c = hw h0 nn W β (T.set i c) := by
  unfold hw
  rw [List.set_append_right _ _ (Nat.le_add_right _ _), Nat.add_sub_cancel_left, List.set_append_right _ _ (Nat.le_add_right 18 i)]
  congr 2
  show T.set (18 + i - 18) c = _
  rw [Nat.add_sub_cancel_left]
set_option maxRecDepth 100000 in
theorem hT_st (hk : k < B) (hB : B ≤ 100000) : rt xs d m2 hs tt ((.iastore, qq) :: rr) (Lc, .int (nI v) :: .int (nI k) :: .ref (h0.length + 18) :: st, hw h0 nn W β [oI (ar B f)]) = rt xs d m2 hs tt rr (Lc, st, hw h0 nn W β [oI (ar B (u1 f k v))]) := by
  rw [q_is (hw_T (i := 0)) hk (by omega)]
  exact congrArg (fun z => rt xs d m2 hs tt rr (Lc, st, z)) (hw_Ts (i := 0))
set_option maxRecDepth 100000 in
theorem hT_cp {j : _} {n2 w : Nat} (hn : n ≤ B) (hB : B ≤ 100000) (h8 : st8 st = true) : rt xs d m2 hs tt ((.invokestatic j, n2, 0, w) :: rr) (Lc, .int (nI n) :: .int (nI 0) :: .ref (h0.length + 19) :: .int (nI 0) :: .ref (h0.length + 18) :: st, hw h0 nn W β [oI (ar B f), oI (ar n fun _ => 0)]) = rt xs d m2 hs tt rr (Lc, st, hw h0 nn W β [oI (ar B f), oI (ar n f)]) := by
  rw [q_cp (hw_T (i := 0)) (hw_T (i := 1)) hn (Nat.le_refl _) (by omega) h8, ar_cp]
  exact congrArg (fun z => rt xs d m2 hs tt rr (Lc, st, z)) (hw_Ts (i := 1))
set_option maxRecDepth 100000 in
theorem EN_le (h : EN P k n f) : n ≤ k := by
  induction k generalizing n with
  | zero =>
    have : n = 0 := h
    omega
  | succ k ih =>
    by_cases hp : P k
    · obtain ⟨a, rfl, -, a3⟩ := h.1 hp
      have := ih a3
      omega
    · have := ih (h.2 hp)
      omega
set_option maxRecDepth 100000 in
theorem KS_K2 {u : Nat} : KB σ 4294967295 0 u ↔ KS σ u := by
  constructor
  · rintro ⟨s, r, h, -⟩
    exact ⟨s, r, h⟩
  · rintro ⟨s, r, h⟩
    exact ⟨s, r, h, .inl rfl⟩
set_option maxRecDepth 100000 in
theorem m_247i (O : Ok σ) (H : Mo σ μ ν h0) (hB : B = alr σ + 1) {b0 : Int32} (hm : m ≤ (σ 1 7)) : ∀ k, k ≤ B → ∀ N n f, WX σ N → EN (PP σ m) k n f → ∃ N' n' f', ev xs (d + 15) 247 8 ([.ref 62, .ref h0.length, .ref (h0.length + 18), .int (nI n), .int b0, .int (nI m), .int (nI k)], [], hw h0 (σ 1 6) N .null [oI (ar B f)]) = ev xs (d + 15) 247 4 ([.ref 62, .ref h0.length, .ref (h0.length + 18), .int (nI n'), .int b0, .int (nI (m + 1)), .int (nI B)], [], hw h0 (σ 1 6) N' .null [oI (ar B f')]) ∧ WX σ N' ∧ EN (PP σ m) B n' f' := by
  obtain ⟨hD1, hD2, hH1, hH2, hS, hC, hT, hR, hL, hQ⟩ := Ok_b O
  have hal := alr_lt O
  have ea : 1 <<< (σ 1 7) = B := by
    have := one_shl (σ 1 7)
    rw [hB]
    unfold alr
    omega
  refine lp B ?_ ?_
  · intro N n f hX hE
    refine ⟨N, n, f, ?_, hX, hE⟩
    rw [eb_247_8]
    clear hX hE
    simp (disch := first | assumption | omega | exact st8_a (Nat.le_of_ble_eq_true rfl)) only [ea, eb_247_15, kl_a, kl_d, kl_f, kl_i, kl_l, kl_n, kl_r, xr_1, xr_10, xr_11, xr_12, xr_13, xr_135, xr_136, xr_137, xr_138, xr_139, xr_14, xr_145, xr_146, xr_147, xr_148, xr_149, xr_15, xr_150, xr_16, xr_164, xr_165, xr_166, xr_167, xr_168, xr_169, xr_17, xr_170, xr_171, xr_172, xr_173, xr_18, xr_19, xr_2, xr_20, xr_27, xr_3, xr_32, xr_33, xr_34, xr_35, xr_36, xr_37, xr_39, xr_4, xr_43, xr_5, xr_56, xr_57, xr_58, xr_63, xr_64, xr_8, xr_9, af_0, af_1, xt_ar, xt_goto, xt_ic_ge, xt_ic_gt, xt_ic_ne, xt_if_ne, xt_nop, wF_0, wF_1, wF_2, wF_3, wF_4, wF_5, wF_6, wF_7, wF_8, wF_9, wF_10, wF_11, wF_12, wF_13, wP_9, wP_10, wL_5, wC_5, wC_17, wD, hw_app, hw_len, wA_1, wA_2, wA_3, wA_4, wA_5, wA_6, wA_7, wA_8, wA_17, wW_1, wW_2, wW_3, wW_4, wW_5, wW_6, wW_7, wW_8, wW_17, mF_12 (Mo_hw H), xq_172_100_special, xq_217_13_virtualm (Mo_hw H), xq_244_200_static, xq_277_200_static, iN_add, iN_mul, iN_sub, iN_and, iN_or, iN_clr, iN_shl, iN_shr, tb_r1, b1_z, b1_or, b1_and, b1_or0, b1_or1, b1_0or, b1_t, b1_f, iN_lt, iN_inj, reduceIte, if_true, if_false, Nat.zero_add, Nat.add_zero, Bool.false_eq_true, Bool.true_eq_false, Nat.lt_irrefl, iN_az, not_true_eq_false, not_false_eq_true, Nat.reduceEqDiff, Nat.reduceLT, Nat.reduceAdd, Nat.reduceMul, Nat.reduceSub]
  · intro k hk ih N n f hX hE
    have hk2 : k < 1024 := by omega
    have hpk := pc_le 10 k
    have hnk := EN_le hE
    by_cases hp : pc 10 k = m
    · obtain ⟨N1, b, e1, f1, f2⟩ := m_244 (xs := xs) (d := d) (β := .null) (T := [oI (ar B f)]) (t := 4294967295) (y := 0) O H hX hk2 (.inl rfl)
      rw [KS_K2] at f2
      cases b
      · have hks : ¬ KS σ k := fun z => by have := f2.mpr z; cases this
        obtain ⟨N2, n2, g2, e2, q⟩ := ih N1 (n + 1) (u1 f n k) f1 ⟨fun _ => ⟨n, rfl, u1_s _ _ _, EN_cg (fun i hi => u1_n (by omega)) hE⟩, fun z => absurd ⟨hp, hks⟩ z⟩
        refine ⟨N2, n2, g2, ?_, q⟩
        rw [eb_247_8]
        clear hX hE ih q f1 f2 hks
        simp (disch := first | assumption | omega | exact st8_a (Nat.le_of_ble_eq_true rfl)) only [ea, hk, s_277, eq_true hp, e1, hT_st, eb_247_9, eb_247_10, eb_247_11, eb_247_12, eb_247_13, eb_247_14, kl_a, kl_d, kl_f, kl_i, kl_l, kl_n, kl_r, xr_1, xr_10, xr_11, xr_12, xr_13, xr_135, xr_136, xr_137, xr_138, xr_139, xr_14, xr_145, xr_146, xr_147, xr_148, xr_149, xr_15, xr_150, xr_16, xr_164, xr_165, xr_166, xr_167, xr_168, xr_169, xr_17, xr_170, xr_171, xr_172, xr_173, xr_18, xr_19, xr_2, xr_20, xr_27, xr_3, xr_32, xr_33, xr_34, xr_35, xr_36, xr_37, xr_39, xr_4, xr_43, xr_5, xr_56, xr_57, xr_58, xr_63, xr_64, xr_8, xr_9, af_0, af_1, xt_ar, xt_goto, xt_ic_ge, xt_ic_gt, xt_ic_ne, xt_if_ne, xt_nop, wF_0, wF_1, wF_2, wF_3, wF_4, wF_5, wF_6, wF_7, wF_8, wF_9, wF_10, wF_11, wF_12, wF_13, wP_9, wP_10, wL_5, wC_5, wC_17, wD, hw_app, hw_len, wA_1, wA_2, wA_3, wA_4, wA_5, wA_6, wA_7, wA_8, wA_17, wW_1, wW_2, wW_3, wW_4, wW_5, wW_6, wW_7, wW_8, wW_17, mF_12 (Mo_hw H), xq_172_100_special, xq_217_13_virtualm (Mo_hw H), xq_244_200_static, xq_277_200_static, iN_add, iN_mul, iN_sub, iN_and, iN_or, iN_clr, iN_shl, iN_shr, tb_r1, b1_z, b1_or, b1_and, b1_or0, b1_or1, b1_0or, b1_t, b1_f, iN_lt, iN_inj, reduceIte, if_true, if_false, Nat.zero_add, Nat.add_zero, Bool.false_eq_true, Bool.true_eq_false, Nat.lt_irrefl, iN_az, not_true_eq_false, not_false_eq_true, Nat.reduceEqDiff, Nat.reduceLT, Nat.reduceAdd, Nat.reduceMul, Nat.reduceSub]
        exact e2
      · have hks := f2.mp rfl
        obtain ⟨N2, n2, g2, e2, q⟩ := ih N1 n f f1 ⟨fun z => absurd hks z.2, fun _ => hE⟩
        refine ⟨N2, n2, g2, ?_, q⟩
        rw [eb_247_8]
        clear hX hE ih q f1 f2 hks
        simp (disch := first | assumption | omega | exact st8_a (Nat.le_of_ble_eq_true rfl)) only [ea, hk, s_277, eq_true hp, e1, eb_247_9, eb_247_10, eb_247_11, eb_247_12, eb_247_14, kl_a, kl_d, kl_f, kl_i, kl_l, kl_n, kl_r, xr_1, xr_10, xr_11, xr_12, xr_13, xr_135, xr_136, xr_137, xr_138, xr_139, xr_14, xr_145, xr_146, xr_147, xr_148, xr_149, xr_15, xr_150, xr_16, xr_164, xr_165, xr_166, xr_167, xr_168, xr_169, xr_17, xr_170, xr_171, xr_172, xr_173, xr_18, xr_19, xr_2, xr_20, xr_27, xr_3, xr_32, xr_33, xr_34, xr_35, xr_36, xr_37, xr_39, xr_4, xr_43, xr_5, xr_56, xr_57, xr_58, xr_63, xr_64, xr_8, xr_9, af_0, af_1, xt_ar, xt_goto, xt_ic_ge, xt_ic_gt, xt_ic_ne, xt_if_ne, xt_nop, wF_0, wF_1, wF_2, wF_3, wF_4, wF_5, wF_6, wF_7, wF_8, wF_9, wF_10, wF_11, wF_12, wF_13, wP_9, wP_10, wL_5, wC_5, wC_17, wD, hw_app, hw_len, wA_1, wA_2, wA_3, wA_4, wA_5, wA_6, wA_7, wA_8, wA_17, wW_1, wW_2, wW_3, wW_4, wW_5, wW_6, wW_7, wW_8, wW_17, mF_12 (Mo_hw H), xq_172_100_special, xq_217_13_virtualm (Mo_hw H), xq_244_200_static, xq_277_200_static, iN_add, iN_mul, iN_sub, iN_and, iN_or, iN_clr, iN_shl, iN_shr, tb_r1, b1_z, b1_or, b1_and, b1_or0, b1_or1, b1_0or, b1_t, b1_f, iN_lt, iN_inj, reduceIte, if_true, if_false, Nat.zero_add, Nat.add_zero, Bool.false_eq_true, Bool.true_eq_false, Nat.lt_irrefl, iN_az, not_true_eq_false, not_false_eq_true, Nat.reduceEqDiff, Nat.reduceLT, Nat.reduceAdd, Nat.reduceMul, Nat.reduceSub]
        exact e2
    · obtain ⟨N2, n2, g2, e2, q⟩ := ih N n f hX ⟨fun z => absurd z.1 hp, fun _ => hE⟩
      refine ⟨N2, n2, g2, ?_, q⟩
      rw [eb_247_8]
      clear hX hE ih q
      simp (disch := first | assumption | omega | exact st8_a (Nat.le_of_ble_eq_true rfl)) only [ea, hk, s_277, hp, eb_247_9, eb_247_10, eb_247_14, kl_a, kl_d, kl_f, kl_i, kl_l, kl_n, kl_r, xr_1, xr_10, xr_11, xr_12, xr_13, xr_135, xr_136, xr_137, xr_138, xr_139, xr_14, xr_145, xr_146, xr_147, xr_148, xr_149, xr_15, xr_150, xr_16, xr_164, xr_165, xr_166, xr_167, xr_168, xr_169, xr_17, xr_170, xr_171, xr_172, xr_173, xr_18, xr_19, xr_2, xr_20, xr_27, xr_3, xr_32, xr_33, xr_34, xr_35, xr_36, xr_37, xr_39, xr_4, xr_43, xr_5, xr_56, xr_57, xr_58, xr_63, xr_64, xr_8, xr_9, af_0, af_1, xt_ar, xt_goto, xt_ic_ge, xt_ic_gt, xt_ic_ne, xt_if_ne, xt_nop, wF_0, wF_1, wF_2, wF_3, wF_4, wF_5, wF_6, wF_7, wF_8, wF_9, wF_10, wF_11, wF_12, wF_13, wP_9, wP_10, wL_5, wC_5, wC_17, wD, hw_app, hw_len, wA_1, wA_2, wA_3, wA_4, wA_5, wA_6, wA_7, wA_8, wA_17, wW_1, wW_2, wW_3, wW_4, wW_5, wW_6, wW_7, wW_8, wW_17, mF_12 (Mo_hw H), xq_172_100_special, xq_217_13_virtualm (Mo_hw H), xq_244_200_static, xq_277_200_static, iN_add, iN_mul, iN_sub, iN_and, iN_or, iN_clr, iN_shl, iN_shr, tb_r1, b1_z, b1_or, b1_and, b1_or0, b1_or1, b1_0or, b1_t, b1_f, iN_lt, iN_inj, reduceIte, if_true, if_false, Nat.zero_add, Nat.add_zero, Bool.false_eq_true, Bool.true_eq_false, Nat.lt_irrefl, iN_az, not_true_eq_false, not_false_eq_true, Nat.reduceEqDiff, Nat.reduceLT, Nat.reduceAdd, Nat.reduceMul, Nat.reduceSub]
      exact e2
set_option maxRecDepth 100000 in
theorem m_247o (O : Ok σ) (H : Mo σ μ ν h0) (hB : B = alr σ + 1) (hks : ¬ KS σ (alr σ)) : ∀ m, m ≤ (σ 1 7) + 1 → ∀ N f y6, WX σ N → (∀ u, u ≤ alr σ → pc 10 u < m → KS σ u) → ∃ N' n' f' y5 y6', ev xs (d + 15) 247 4 ([.ref 62, .ref h0.length, .ref (h0.length + 18), .int (nI 0), .int (nI 0), .int (nI m), y6], [], hw h0 (σ 1 6) N .null [oI (ar B f)]) = ev xs (d + 15) 247 16 ([.ref 62, .ref h0.length, .ref (h0.length + 18), .int (nI n'), .int (nI 0), y5, y6'], [], hw h0 (σ 1 6) N' .null [oI (ar B f')]) ∧ n' ≤ B ∧ RS σ n' f' := by
  obtain ⟨hD1, hD2, hH1, hH2, hS, hC, hT, hR, hL, hQ⟩ := Ok_b O
  have hal := alr_lt O
  refine lp ((σ 1 7) + 1) ?_ ?_
  · intro N f y6 hX hk
    exact absurd (hk _ (Nat.le_refl _) (by have := alr_pc O; omega)) hks
  · intro m hm ih N f y6 hX hk
    have hmq : ¬ (σ 1 7) < m := by omega
    obtain ⟨N1, n1, f1, e1, q1, q2⟩ := m_247i (xs := xs) (d := d) (b0 := nI 0) O H hB (m := m) (by omega) 0 (Nat.zero_le _) N 0 f hX rfl
    have hn1 := EN_le q2
    have hst : ev xs (d + 15) 247 4 ([.ref 62, .ref h0.length, .ref (h0.length + 18), .int (nI 0), .int (nI 0), .int (nI m), y6], [], hw h0 (σ 1 6) N .null [oI (ar B f)]) = ev xs (d + 15) 247 4 ([.ref 62, .ref h0.length, .ref (h0.length + 18), .int (nI n1), .int (nI 0), .int (nI (m + 1)), .int (nI B)], [], hw h0 (σ 1 6) N1 .null [oI (ar B f1)]) := by
      rw [← e1, eb_247_4]
      clear ih hX hk q1 q2 e1
      simp (disch := first | assumption | omega | exact st8_a (Nat.le_of_ble_eq_true rfl)) only [hmq, eb_247_5, eb_247_6, eb_247_7, kl_a, kl_d, kl_f, kl_i, kl_l, kl_n, kl_r, xr_1, xr_10, xr_11, xr_12, xr_13, xr_135, xr_136, xr_137, xr_138, xr_139, xr_14, xr_145, xr_146, xr_147, xr_148, xr_149, xr_15, xr_150, xr_16, xr_164, xr_165, xr_166, xr_167, xr_168, xr_169, xr_17, xr_170, xr_171, xr_172, xr_173, xr_18, xr_19, xr_2, xr_20, xr_27, xr_3, xr_32, xr_33, xr_34, xr_35, xr_36, xr_37, xr_39, xr_4, xr_43, xr_5, xr_56, xr_57, xr_58, xr_63, xr_64, xr_8, xr_9, af_0, af_1, xt_ar, xt_goto, xt_ic_ge, xt_ic_gt, xt_ic_ne, xt_if_ne, xt_nop, wF_0, wF_1, wF_2, wF_3, wF_4, wF_5, wF_6, wF_7, wF_8, wF_9, wF_10, wF_11, wF_12, wF_13, wP_9, wP_10, wL_5, wC_5, wC_17, wD, hw_app, hw_len, wA_1, wA_2, wA_3, wA_4, wA_5, wA_6, wA_7, wA_8, wA_17, wW_1, wW_2, wW_3, wW_4, wW_5, wW_6, wW_7, wW_8, wW_17, mF_12 (Mo_hw H), xq_172_100_special, xq_217_13_virtualm (Mo_hw H), xq_244_200_static, xq_277_200_static, iN_add, iN_mul, iN_sub, iN_and, iN_or, iN_clr, iN_shl, iN_shr, tb_r1, b1_z, b1_or, b1_and, b1_or0, b1_or1, b1_0or, b1_t, b1_f, iN_lt, iN_inj, reduceIte, if_true, if_false, Nat.zero_add, Nat.add_zero, Bool.false_eq_true, Bool.true_eq_false, Nat.lt_irrefl, iN_az, not_true_eq_false, not_false_eq_true, Nat.reduceEqDiff, Nat.reduceLT, Nat.reduceAdd, Nat.reduceMul, Nat.reduceSub]
    by_cases h0' : n1 = 0
    · subst h0'
      obtain ⟨N', n', f', y5, y6', e, q⟩ := ih N1 f1 (.int (nI B)) q1 fun u hu hp => by
        by_cases hpm : pc 10 u = m
        · by_cases hu2 : KS σ u
          · exact hu2
          · exact absurd ⟨hpm, hu2⟩ (EN_z q2 u (by omega))
        · exact hk u hu (by omega)
      exact ⟨N', n', f', y5, y6', hst.trans e, q⟩
    · refine ⟨N1, n1, f1, .int (nI (m + 1)), .int (nI B), ?_, hn1, Or.inr ⟨hks, m, hk, by omega, by rw [← hB]; exact q2⟩⟩
      rw [hst, eb_247_4]
      by_cases hmq2 : (σ 1 7) < m + 1
      · clear q1 q2 ih hk hX hst e1
        simp (disch := first | assumption | omega | exact st8_a (Nat.le_of_ble_eq_true rfl)) only [h0', eq_true hmq2, eb_247_5, kl_a, kl_d, kl_f, kl_i, kl_l, kl_n, kl_r, xr_1, xr_10, xr_11, xr_12, xr_13, xr_135, xr_136, xr_137, xr_138, xr_139, xr_14, xr_145, xr_146, xr_147, xr_148, xr_149, xr_15, xr_150, xr_16, xr_164, xr_165, xr_166, xr_167, xr_168, xr_169, xr_17, xr_170, xr_171, xr_172, xr_173, xr_18, xr_19, xr_2, xr_20, xr_27, xr_3, xr_32, xr_33, xr_34, xr_35, xr_36, xr_37, xr_39, xr_4, xr_43, xr_5, xr_56, xr_57, xr_58, xr_63, xr_64, xr_8, xr_9, af_0, af_1, xt_ar, xt_goto, xt_ic_ge, xt_ic_gt, xt_ic_ne, xt_if_ne, xt_nop, wF_0, wF_1, wF_2, wF_3, wF_4, wF_5, wF_6, wF_7, wF_8, wF_9, wF_10, wF_11, wF_12, wF_13, wP_9, wP_10, wL_5, wC_5, wC_17, wD, hw_app, hw_len, wA_1, wA_2, wA_3, wA_4, wA_5, wA_6, wA_7, wA_8, wA_17, wW_1, wW_2, wW_3, wW_4, wW_5, wW_6, wW_7, wW_8, wW_17, mF_12 (Mo_hw H), xq_172_100_special, xq_217_13_virtualm (Mo_hw H), xq_244_200_static, xq_277_200_static, iN_add, iN_mul, iN_sub, iN_and, iN_or, iN_clr, iN_shl, iN_shr, tb_r1, b1_z, b1_or, b1_and, b1_or0, b1_or1, b1_0or, b1_t, b1_f, iN_lt, iN_inj, reduceIte, if_true, if_false, Nat.zero_add, Nat.add_zero, Bool.false_eq_true, Bool.true_eq_false, Nat.lt_irrefl, iN_az, not_true_eq_false, not_false_eq_true, Nat.reduceEqDiff, Nat.reduceLT, Nat.reduceAdd, Nat.reduceMul, Nat.reduceSub]
      · clear q1 q2 ih hk hX hst e1
        simp (disch := first | assumption | omega | exact st8_a (Nat.le_of_ble_eq_true rfl)) only [h0', hmq2, eb_247_5, kl_a, kl_d, kl_f, kl_i, kl_l, kl_n, kl_r, xr_1, xr_10, xr_11, xr_12, xr_13, xr_135, xr_136, xr_137, xr_138, xr_139, xr_14, xr_145, xr_146, xr_147, xr_148, xr_149, xr_15, xr_150, xr_16, xr_164, xr_165, xr_166, xr_167, xr_168, xr_169, xr_17, xr_170, xr_171, xr_172, xr_173, xr_18, xr_19, xr_2, xr_20, xr_27, xr_3, xr_32, xr_33, xr_34, xr_35, xr_36, xr_37, xr_39, xr_4, xr_43, xr_5, xr_56, xr_57, xr_58, xr_63, xr_64, xr_8, xr_9, af_0, af_1, xt_ar, xt_goto, xt_ic_ge, xt_ic_gt, xt_ic_ne, xt_if_ne, xt_nop, wF_0, wF_1, wF_2, wF_3, wF_4, wF_5, wF_6, wF_7, wF_8, wF_9, wF_10, wF_11, wF_12, wF_13, wP_9, wP_10, wL_5, wC_5, wC_17, wD, hw_app, hw_len, wA_1, wA_2, wA_3, wA_4, wA_5, wA_6, wA_7, wA_8, wA_17, wW_1, wW_2, wW_3, wW_4, wW_5, wW_6, wW_7, wW_8, wW_17, mF_12 (Mo_hw H), xq_172_100_special, xq_217_13_virtualm (Mo_hw H), xq_244_200_static, xq_277_200_static, iN_add, iN_mul, iN_sub, iN_and, iN_or, iN_clr, iN_shl, iN_shr, tb_r1, b1_z, b1_or, b1_and, b1_or0, b1_or1, b1_0or, b1_t, b1_f, iN_lt, iN_inj, reduceIte, if_true, if_false, Nat.zero_add, Nat.add_zero, Bool.false_eq_true, Bool.true_eq_false, Nat.lt_irrefl, iN_az, not_true_eq_false, not_false_eq_true, Nat.reduceEqDiff, Nat.reduceLT, Nat.reduceAdd, Nat.reduceMul, Nat.reduceSub]
-- the smallest sets that can't be kept
set_option maxRecDepth 100000 in
theorem m_247 (O : Ok σ) (H : Mo σ μ ν h0) : ∃ N n f, ev xs (d + 15) 247 0 ([.ref 62, .retAddr 9, .retAddr 9, .retAddr 9, .retAddr 9, .retAddr 9, .retAddr 9], [], h0) = some (.inl (some (.ref (h0.length + 19))), hw h0 (σ 1 6) N .null [oI (ar (alr σ + 1) f), oI (ar n f)]) ∧ n ≤ alr σ + 1 ∧ RS σ n f := by
  obtain ⟨hD1, hD2, hH1, hH2, hS, hC, hT, hR, hL, hQ⟩ := Ok_b O
  have hal := alr_lt O
  obtain ⟨W, e1, hB, hZ⟩ := m_172 (xs := xs) (d := d + 9) O H
  have hX : WX σ W := ⟨hB, fun i hi j _ => hZ (10 + i) (by omega) j⟩
  obtain ⟨B, hBe⟩ : ∃ B, B = alr σ + 1 := ⟨_, rfl⟩
  rw [← hBe]
  have ea : 1 <<< (σ 1 7) = B := by
    have := one_shl (σ 1 7)
    rw [hBe]
    unfold alr
    omega
  have e2 := m_217 (xs := xs) (d := d + 14) O (Mo_hw (nn := (σ 1 6)) (W := W) (β := .null) (T := [oI (ar B fun _ => 0)]) H)
  obtain ⟨N, b, e3, f1, f2⟩ := m_244 (xs := xs) (d := d) (β := .null) (T := [oI (ar B fun _ => 0)]) (t := 4294967295) (y := 0) O H hX hal (.inl rfl)
  rw [KS_K2] at f2
  -- the end
  have fin : ∀ N n f y4 y5 y6, n ≤ B → ev xs (d + 15) 247 16 ([.ref 62, .ref h0.length, .ref (h0.length + 18), .int (nI n), y4, y5, y6], [], hw h0 (σ 1 6) N .null [oI (ar B f)]) = some (.inl (some (.ref (h0.length + 19))), hw h0 (σ 1 6) N .null [oI (ar B f), oI (ar n f)]) := fun N n f y4 y5 y6 hn => by
    clear e1 hB hZ hX e2 e3 f1 f2
    simp (disch := first | assumption | omega | exact st8_a (Nat.le_of_ble_eq_true rfl)) only [xr_49, hT_cp, List.cons_append, List.nil_append, List.length_cons, List.length_nil, eb_247_16, kl_a, kl_d, kl_f, kl_i, kl_l, kl_n, kl_r, xr_1, xr_10, xr_11, xr_12, xr_13, xr_135, xr_136, xr_137, xr_138, xr_139, xr_14, xr_145, xr_146, xr_147, xr_148, xr_149, xr_15, xr_150, xr_16, xr_164, xr_165, xr_166, xr_167, xr_168, xr_169, xr_17, xr_170, xr_171, xr_172, xr_173, xr_18, xr_19, xr_2, xr_20, xr_27, xr_3, xr_32, xr_33, xr_34, xr_35, xr_36, xr_37, xr_39, xr_4, xr_43, xr_5, xr_56, xr_57, xr_58, xr_63, xr_64, xr_8, xr_9, af_0, af_1, xt_ar, xt_goto, xt_ic_ge, xt_ic_gt, xt_ic_ne, xt_if_ne, xt_nop, wF_0, wF_1, wF_2, wF_3, wF_4, wF_5, wF_6, wF_7, wF_8, wF_9, wF_10, wF_11, wF_12, wF_13, wP_9, wP_10, wL_5, wC_5, wC_17, wD, hw_app, hw_len, wA_1, wA_2, wA_3, wA_4, wA_5, wA_6, wA_7, wA_8, wA_17, wW_1, wW_2, wW_3, wW_4, wW_5, wW_6, wW_7, wW_8, wW_17, mF_12 (Mo_hw H), xq_172_100_special, xq_217_13_virtualm (Mo_hw H), xq_244_200_static, xq_277_200_static, iN_add, iN_mul, iN_sub, iN_and, iN_or, iN_clr, iN_shl, iN_shr, tb_r1, b1_z, b1_or, b1_and, b1_or0, b1_or1, b1_0or, b1_t, b1_f, iN_lt, iN_inj, reduceIte, if_true, if_false, Nat.zero_add, Nat.add_zero, Bool.false_eq_true, Bool.true_eq_false, Nat.lt_irrefl, iN_az, not_true_eq_false, not_false_eq_true, Nat.reduceEqDiff, Nat.reduceLT, Nat.reduceAdd, Nat.reduceMul, Nat.reduceSub]
  have go : ev xs (d + 15) 247 0 ([.ref 62, .retAddr 9, .retAddr 9, .retAddr 9, .retAddr 9, .retAddr 9, .retAddr 9], [], h0) = ev xs (d + 15) 247 4 ([.ref 62, .ref h0.length, .ref (h0.length + 18), .int (nI 0), .int (nI (b1 b)), .int (nI 0), .retAddr 9], [], hw h0 (σ 1 6) N .null [oI (ar B fun _ => 0)]) := by
    clear hB hZ hX f1 f2 fin
    simp (disch := first | assumption | omega | exact st8_a (Nat.le_of_ble_eq_true rfl)) only [xr_49, xr_145, ea, e1, e2, e3, List.cons_append, List.nil_append, List.length_cons, List.length_nil, eb_247_0, eb_247_1, eb_247_2, eb_247_3, kl_a, kl_d, kl_f, kl_i, kl_l, kl_n, kl_r, xr_1, xr_10, xr_11, xr_12, xr_13, xr_135, xr_136, xr_137, xr_138, xr_139, xr_14, xr_146, xr_147, xr_148, xr_149, xr_15, xr_150, xr_16, xr_164, xr_165, xr_166, xr_167, xr_168, xr_169, xr_17, xr_170, xr_171, xr_172, xr_173, xr_18, xr_19, xr_2, xr_20, xr_27, xr_3, xr_32, xr_33, xr_34, xr_35, xr_36, xr_37, xr_39, xr_4, xr_43, xr_5, xr_56, xr_57, xr_58, xr_63, xr_64, xr_8, xr_9, af_0, af_1, xt_ar, xt_goto, xt_ic_ge, xt_ic_gt, xt_ic_ne, xt_if_ne, xt_nop, wF_0, wF_1, wF_2, wF_3, wF_4, wF_5, wF_6, wF_7, wF_8, wF_9, wF_10, wF_11, wF_12, wF_13, wP_9, wP_10, wL_5, wC_5, wC_17, wD, hw_app, hw_len, wA_1, wA_2, wA_3, wA_4, wA_5, wA_6, wA_7, wA_8, wA_17, wW_1, wW_2, wW_3, wW_4, wW_5, wW_6, wW_7, wW_8, wW_17, mF_12 (Mo_hw H), xq_172_100_special, xq_217_13_virtualm (Mo_hw H), xq_244_200_static, xq_277_200_static, iN_add, iN_mul, iN_sub, iN_and, iN_or, iN_clr, iN_shl, iN_shr, tb_r1, b1_z, b1_or, b1_and, b1_or0, b1_or1, b1_0or, iN_lt, iN_inj, reduceIte, if_true, if_false, Nat.zero_add, Nat.add_zero, Bool.false_eq_true, Bool.true_eq_false, Nat.lt_irrefl, iN_az, not_true_eq_false, not_false_eq_true, Nat.reduceEqDiff, Nat.reduceLT, Nat.reduceAdd, Nat.reduceMul, Nat.reduceSub]
  cases b
  · obtain ⟨N', n', f', y5, y6, e4, q1, q2⟩ := m_247o (xs := xs) (d := d) O H hBe (fun z => by have := f2.mpr z; cases this) 0 (Nat.zero_le _) N (fun _ => 0) (.retAddr 9) f1 fun u _ h => absurd h (Nat.not_lt_zero _)
    exact ⟨N', n', f', go.trans (e4.trans (fin _ _ _ _ _ _ q1)), q1, q2⟩
  · refine ⟨N, 0, fun _ => 0, go.trans (Eq.trans ?_ (fin N 0 (fun _ => 0) (.int (nI 1)) (.int (nI 0)) (.retAddr 9) (Nat.zero_le _))), Nat.zero_le _, Or.inl ⟨f2.mp rfl, rfl⟩⟩
    have hz : ¬ (σ 1 7) < 0 := Nat.not_lt_zero _
    rw [eb_247_4]
    clear hB hZ hX f1 f2 fin go
    simp (disch := first | assumption | omega | exact st8_a (Nat.le_of_ble_eq_true rfl)) only [hz, eb_247_5, eb_247_6, kl_a, kl_d, kl_f, kl_i, kl_l, kl_n, kl_r, xr_1, xr_10, xr_11, xr_12, xr_13, xr_135, xr_136, xr_137, xr_138, xr_139, xr_14, xr_145, xr_146, xr_147, xr_148, xr_149, xr_15, xr_150, xr_16, xr_164, xr_165, xr_166, xr_167, xr_168, xr_169, xr_17, xr_170, xr_171, xr_172, xr_173, xr_18, xr_19, xr_2, xr_20, xr_27, xr_3, xr_32, xr_33, xr_34, xr_35, xr_36, xr_37, xr_39, xr_4, xr_43, xr_5, xr_56, xr_57, xr_58, xr_63, xr_64, xr_8, xr_9, af_0, af_1, xt_ar, xt_goto, xt_ic_ge, xt_ic_gt, xt_ic_ne, xt_if_ne, xt_nop, wF_0, wF_1, wF_2, wF_3, wF_4, wF_5, wF_6, wF_7, wF_8, wF_9, wF_10, wF_11, wF_12, wF_13, wP_9, wP_10, wL_5, wC_5, wC_17, wD, hw_app, hw_len, wA_1, wA_2, wA_3, wA_4, wA_5, wA_6, wA_7, wA_8, wA_17, wW_1, wW_2, wW_3, wW_4, wW_5, wW_6, wW_7, wW_8, wW_17, mF_12 (Mo_hw H), xq_172_100_special, xq_217_13_virtualm (Mo_hw H), xq_244_200_static, xq_277_200_static, iN_add, iN_mul, iN_sub, iN_and, iN_or, iN_clr, iN_shl, iN_shr, tb_r1, b1_z, b1_or, b1_and, b1_or0, b1_or1, b1_0or, b1_t, b1_f, iN_lt, iN_inj, reduceIte, if_true, if_false, Nat.zero_add, Nat.add_zero, Bool.false_eq_true, Bool.true_eq_false, Nat.lt_irrefl, iN_az, not_true_eq_false, not_false_eq_true, Nat.reduceEqDiff, Nat.reduceLT, Nat.reduceAdd, Nat.reduceMul, Nat.reduceSub]
end Mcb
