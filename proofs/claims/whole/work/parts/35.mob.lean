/-! THE MODEL'S LOOPS THAT ONLY READ -/
section Me
variable {xs : List Int32} {d : Nat} {σ : Nat → Nat → Nat} {μ : Nat → Nat} {ν : Nat → Value} {h : ab_H} {l o u v q p n : Nat} {tab : Nat → Nat}
/-- what a teacher's first lessons cover -/
def bus (σ : Nat → Nat → Nat) (t : Nat) (tab : Nat → Nat) (m : Nat) : Nat := orn m fun l => if σ 6 l = t then cov σ l (tab l / (σ 1 5)) else 0
set_option maxRecDepth 100000 in
theorem bus_ctc (t : Nat) (tab : Nat → Nat) : bus σ t tab (σ 1 6) = ctc σ (fun l => tab l / (σ 1 5)) t := rfl
set_option maxRecDepth 100000 in
theorem bus_lt (O : Ok σ) {t : Nat} {m : Nat} (hm : m ≤ (σ 1 6)) (ht : ∀ l, l < m → tab l < (σ 1 2) * (σ 1 5)) : bus σ t tab m < 64 := by
  refine orn_lt (e := 6) fun i hi => ?_
  split
  · exact cov_lt O (vb O (ht i hi)).2.1
  · decide
set_option maxRecDepth 100000 in
theorem m_204 (O : Ok σ) (H : Mo σ μ ν h) (hq : h[p]? = some (oI (ar n tab))) (hn : n ≤ 6) {m : Nat} (hm : m ≤ n) (hml : m ≤ (σ 1 6)) (ht : ∀ l, l < m → tab l < (σ 1 2) * (σ 1 5)) (hu : u < 2147483648) : ev xs (d + 3) 204 0 ([.ref 62, .int (nI u), .ref p, .int (nI m), .retAddr 9, .retAddr 9], [], h) = some (.inl (some (.int (nI (bus σ u tab m)))), h) := by
  obtain ⟨hD1, hD2, hH1, hH2, hS, hC, hT, hR, hL, hQ⟩ := Ok_b O
  have key : ∀ k, k ≤ m → ev xs (d + 3) 204 1 ([.ref 62, .int (nI u), .ref p, .int (nI m), .int (nI (orn k fun l => if σ 6 l = u then cov σ l (tab l / (σ 1 5)) else 0)), .int (nI k)], [], h) = some (.inl (some (.int (nI (bus σ u tab m)))), h) := by
    refine lp m ?_ ?_
    · rw [eb_204_1]
      simp (disch := first | assumption | omega | exact st8_a (Nat.le_of_ble_eq_true rfl)) only [eb_204_0, eb_204_2, eb_204_3, eb_204_4, eb_204_5, eb_204_6, eb_204_7, kl_a, kl_d, kl_f, kl_i, kl_l, kl_n, kl_r, xr_1, xr_10, xr_16, xr_17, xr_18, xr_19, xr_2, xr_20, xr_28, xr_3, xr_33, xr_34, xr_35, xr_36, xr_37, xr_39, xr_4, xr_45, xr_5, af_0, af_1, xt_goto, xt_ib, xt_ic, xt_ic_ge, xt_ic_ne, xt_ir, xt_nop, mF_10 H, mA_63 H, mA_64 H, mA_65 H, mA_66 H, mA_67 H, mA_68 H, mA_69 H, mA_70 H, mA_71 H, xq_196_13_virtualm H, iN_add, iN_mul, iN_sub, iN_and, iN_or, iN_clr, iN_shl, iN_shr, tb_r1, b1_z, b1_or, b1_and, b1_or0, b1_or1, b1_0or, b1_t, b1_f, iN_lt, iN_inj, reduceIte, if_true, if_false, Nat.zero_add, Nat.add_zero, Bool.false_eq_true, Bool.true_eq_false, Nat.lt_irrefl, iN_az, not_true_eq_false, not_false_eq_true, Nat.reduceEqDiff, Nat.reduceLT, Nat.reduceAdd, Nat.reduceMul, Nat.reduceSub]
      rfl
    · intro k hk ih
      have hkl : k < (σ 1 6) := by omega
      have h1 := Ok_l O hkl
      rw [eb_204_1]
      rw [orn] at ih
      by_cases h2 : σ 6 k = u
      · rw [if_pos h2] at ih
        simp (disch := first | assumption | omega | exact st8_a (Nat.le_of_ble_eq_true rfl)) only [hk, q_ia hq, m_196 O H hkl (ht k hk), eq_true h2, eb_204_0, eb_204_2, eb_204_3, eb_204_4, eb_204_5, eb_204_6, eb_204_7, kl_a, kl_d, kl_f, kl_i, kl_l, kl_n, kl_r, xr_1, xr_10, xr_16, xr_17, xr_18, xr_19, xr_2, xr_20, xr_28, xr_3, xr_33, xr_34, xr_35, xr_36, xr_37, xr_39, xr_4, xr_45, xr_5, af_0, af_1, xt_goto, xt_ib, xt_ic, xt_ic_ge, xt_ic_ne, xt_ir, xt_nop, mF_10 H, mA_63 H, mA_64 H, mA_65 H, mA_66 H, mA_67 H, mA_68 H, mA_69 H, mA_70 H, mA_71 H, xq_196_13_virtualm H, iN_add, iN_mul, iN_sub, iN_and, iN_or, iN_clr, iN_shl, iN_shr, tb_r1, b1_z, b1_or, b1_and, b1_or0, b1_or1, b1_0or, b1_t, b1_f, iN_lt, iN_inj, reduceIte, if_true, if_false, Nat.zero_add, Nat.add_zero, Bool.false_eq_true, Bool.true_eq_false, Nat.lt_irrefl, iN_az, not_true_eq_false, not_false_eq_true, Nat.reduceEqDiff, Nat.reduceLT, Nat.reduceAdd, Nat.reduceMul, Nat.reduceSub]
        exact ih
      · rw [if_neg h2] at ih
        simp (disch := first | assumption | omega | exact st8_a (Nat.le_of_ble_eq_true rfl)) only [hk, q_ia hq, h2, eb_204_0, eb_204_2, eb_204_3, eb_204_4, eb_204_5, eb_204_6, eb_204_7, kl_a, kl_d, kl_f, kl_i, kl_l, kl_n, kl_r, xr_1, xr_10, xr_16, xr_17, xr_18, xr_19, xr_2, xr_20, xr_28, xr_3, xr_33, xr_34, xr_35, xr_36, xr_37, xr_39, xr_4, xr_45, xr_5, af_0, af_1, xt_goto, xt_ib, xt_ic, xt_ic_ge, xt_ic_ne, xt_ir, xt_nop, mF_10 H, mA_63 H, mA_64 H, mA_65 H, mA_66 H, mA_67 H, mA_68 H, mA_69 H, mA_70 H, mA_71 H, xq_196_13_virtualm H, iN_add, iN_mul, iN_sub, iN_and, iN_or, iN_clr, iN_shl, iN_shr, tb_r1, b1_z, b1_or, b1_and, b1_or0, b1_or1, b1_0or, b1_t, b1_f, iN_lt, iN_inj, reduceIte, if_true, if_false, Nat.zero_add, Nat.add_zero, Bool.false_eq_true, Bool.true_eq_false, Nat.lt_irrefl, iN_az, not_true_eq_false, not_false_eq_true, Nat.reduceEqDiff, Nat.reduceLT, Nat.reduceAdd, Nat.reduceMul, Nat.reduceSub]
        exact ih
  simp (disch := first | assumption | omega | exact st8_a (Nat.le_of_ble_eq_true rfl)) only [eb_204_0, eb_204_2, eb_204_3, eb_204_4, eb_204_5, eb_204_6, eb_204_7, kl_a, kl_d, kl_f, kl_i, kl_l, kl_n, kl_r, xr_1, xr_10, xr_16, xr_17, xr_18, xr_19, xr_2, xr_20, xr_28, xr_3, xr_33, xr_34, xr_35, xr_36, xr_37, xr_39, xr_4, xr_45, xr_5, af_0, af_1, xt_goto, xt_ib, xt_ic, xt_ic_ge, xt_ic_ne, xt_ir, xt_nop, mF_10 H, mA_63 H, mA_64 H, mA_65 H, mA_66 H, mA_67 H, mA_68 H, mA_69 H, mA_70 H, mA_71 H, xq_196_13_virtualm H, iN_add, iN_mul, iN_sub, iN_and, iN_or, iN_clr, iN_shl, iN_shr, tb_r1, b1_z, b1_or, b1_and, b1_or0, b1_or1, b1_0or, b1_t, b1_f, iN_lt, iN_inj, reduceIte, if_true, if_false, Nat.zero_add, Nat.add_zero, Bool.false_eq_true, Bool.true_eq_false, Nat.lt_irrefl, iN_az, not_true_eq_false, not_false_eq_true, Nat.reduceEqDiff, Nat.reduceLT, Nat.reduceAdd, Nat.reduceMul, Nat.reduceSub]
  exact key 0 (Nat.zero_le _)
set_option maxRecDepth 100000 in
theorem m_206 (O : Ok σ) (H : Mo σ μ ν h) (hu : u < 64) (hv : v < 2147483648) : ev xs (d + 1) 206 0 ([.ref 62, .int (nI u), .int (nI v), .retAddr 9, .retAddr 9], [], h) = some (.inl (some (.int (nI (b1 (al (σ 1 0) fun y => decide (pc 10 (u &&& dm σ y) ≤ v)))))), h) := by
  obtain ⟨hD1, hD2, hH1, hH2, hS, hC, hT, hR, hL, hQ⟩ := Ok_b O
  have key : ∀ k, k ≤ (σ 1 0) → ev xs (d + 1) 206 1 ([.ref 62, .int (nI u), .int (nI v), .int (nI (b1 (al k fun y => decide (pc 10 (u &&& dm σ y) ≤ v)))), .int (nI k)], [], h) = some (.inl (some (.int (nI (b1 (al (σ 1 0) fun y => decide (pc 10 (u &&& dm σ y) ≤ v)))))), h) := by
    refine lp (σ 1 0) ?_ ?_
    · rw [eb_206_1]
      simp (disch := first | assumption | omega | exact st8_a (Nat.le_of_ble_eq_true rfl)) only [eb_206_0, eb_206_2, eb_206_3, eb_206_4, eb_206_5, eb_206_6, eb_206_7, eb_206_8, eb_206_9, kl_a, kl_d, kl_f, kl_i, kl_l, kl_n, kl_r, xr_1, xr_10, xr_2, xr_27, xr_28, xr_3, xr_31, xr_32, xr_33, xr_34, xr_37, xr_4, xr_40, xr_44, xr_5, af_0, af_1, xt_goto, xt_ib, xt_ic, xt_ic_ge, xt_ic_gt, xt_if_eq, xt_ir, xt_nop, mF_0 H, xq_205_13_virtualm H, xq_277_200_static, iN_add, iN_mul, iN_sub, iN_and, iN_or, iN_clr, iN_shl, iN_shr, tb_r1, b1_z, b1_or, b1_and, b1_or0, b1_or1, b1_0or, b1_t, b1_f, iN_lt, iN_inj, reduceIte, if_true, if_false, Nat.zero_add, Nat.add_zero, Bool.false_eq_true, Bool.true_eq_false, Nat.lt_irrefl, iN_az, not_true_eq_false, not_false_eq_true, Nat.reduceEqDiff, Nat.reduceLT, Nat.reduceAdd, Nat.reduceMul, Nat.reduceSub]
    · intro k hk ih
      have h1 : u &&& dm σ k < 1024 := Nat.lt_of_le_of_lt Nat.and_le_left (by omega)
      have h2 := pc_le 10 (u &&& dm σ k)
      rw [eb_206_1]
      rw [al] at ih
      cases h3 : al k fun y => decide (pc 10 (u &&& dm σ y) ≤ v)
      · rw [h3] at ih
        simp (disch := first | assumption | omega | exact st8_a (Nat.le_of_ble_eq_true rfl)) only [hk, h3, eb_206_0, eb_206_2, eb_206_3, eb_206_4, eb_206_5, eb_206_6, eb_206_7, eb_206_8, eb_206_9, kl_a, kl_d, kl_f, kl_i, kl_l, kl_n, kl_r, xr_1, xr_10, xr_2, xr_27, xr_28, xr_3, xr_31, xr_32, xr_33, xr_34, xr_37, xr_4, xr_40, xr_44, xr_5, af_0, af_1, xt_goto, xt_ib, xt_ic, xt_ic_ge, xt_ic_gt, xt_if_eq, xt_ir, xt_nop, mF_0 H, xq_205_13_virtualm H, xq_277_200_static, iN_add, iN_mul, iN_sub, iN_and, iN_or, iN_clr, iN_shl, iN_shr, tb_r1, b1_z, b1_or, b1_and, b1_or0, b1_or1, b1_0or, b1_t, b1_f, iN_lt, iN_inj, reduceIte, if_true, if_false, Nat.zero_add, Nat.add_zero, Bool.false_eq_true, Bool.true_eq_false, Nat.lt_irrefl, iN_az, not_true_eq_false, not_false_eq_true, Nat.reduceEqDiff, Nat.reduceLT, Nat.reduceAdd, Nat.reduceMul, Nat.reduceSub]
        exact ih
      · rw [h3] at ih
        by_cases h4 : v < pc 10 (u &&& dm σ k)
        · rw [decide_eq_false (by omega)] at ih
          simp (disch := first | assumption | omega | exact st8_a (Nat.le_of_ble_eq_true rfl)) only [hk, h3, h4, m_205 O H hk, s_277 h1, eb_206_0, eb_206_2, eb_206_3, eb_206_4, eb_206_5, eb_206_6, eb_206_7, eb_206_8, eb_206_9, kl_a, kl_d, kl_f, kl_i, kl_l, kl_n, kl_r, xr_1, xr_10, xr_2, xr_27, xr_28, xr_3, xr_31, xr_32, xr_33, xr_34, xr_37, xr_4, xr_40, xr_44, xr_5, af_0, af_1, xt_goto, xt_ib, xt_ic, xt_ic_ge, xt_ic_gt, xt_if_eq, xt_ir, xt_nop, mF_0 H, xq_205_13_virtualm H, xq_277_200_static, iN_add, iN_mul, iN_sub, iN_and, iN_or, iN_clr, iN_shl, iN_shr, tb_r1, b1_z, b1_or, b1_and, b1_or0, b1_or1, b1_0or, b1_t, b1_f, iN_lt, iN_inj, reduceIte, if_true, if_false, Nat.zero_add, Nat.add_zero, Bool.false_eq_true, Bool.true_eq_false, Nat.lt_irrefl, iN_az, not_true_eq_false, not_false_eq_true, Nat.reduceEqDiff, Nat.reduceLT, Nat.reduceAdd, Nat.reduceMul, Nat.reduceSub]
          exact ih
        · rw [decide_eq_true (by omega)] at ih
          simp (disch := first | assumption | omega | exact st8_a (Nat.le_of_ble_eq_true rfl)) only [hk, h3, h4, m_205 O H hk, s_277 h1, eb_206_0, eb_206_2, eb_206_3, eb_206_4, eb_206_5, eb_206_6, eb_206_7, eb_206_8, eb_206_9, kl_a, kl_d, kl_f, kl_i, kl_l, kl_n, kl_r, xr_1, xr_10, xr_2, xr_27, xr_28, xr_3, xr_31, xr_32, xr_33, xr_34, xr_37, xr_4, xr_40, xr_44, xr_5, af_0, af_1, xt_goto, xt_ib, xt_ic, xt_ic_ge, xt_ic_gt, xt_if_eq, xt_ir, xt_nop, mF_0 H, xq_205_13_virtualm H, xq_277_200_static, iN_add, iN_mul, iN_sub, iN_and, iN_or, iN_clr, iN_shl, iN_shr, tb_r1, b1_z, b1_or, b1_and, b1_or0, b1_or1, b1_0or, b1_t, b1_f, iN_lt, iN_inj, reduceIte, if_true, if_false, Nat.zero_add, Nat.add_zero, Bool.false_eq_true, Bool.true_eq_false, Nat.lt_irrefl, iN_az, not_true_eq_false, not_false_eq_true, Nat.reduceEqDiff, Nat.reduceLT, Nat.reduceAdd, Nat.reduceMul, Nat.reduceSub]
          exact ih
  simp (disch := first | assumption | omega | exact st8_a (Nat.le_of_ble_eq_true rfl)) only [eb_206_0, eb_206_2, eb_206_3, eb_206_4, eb_206_5, eb_206_6, eb_206_7, eb_206_8, eb_206_9, kl_a, kl_d, kl_f, kl_i, kl_l, kl_n, kl_r, xr_1, xr_10, xr_2, xr_27, xr_28, xr_3, xr_31, xr_32, xr_33, xr_34, xr_37, xr_4, xr_40, xr_44, xr_5, af_0, af_1, xt_goto, xt_ib, xt_ic, xt_ic_ge, xt_ic_gt, xt_if_eq, xt_ir, xt_nop, mF_0 H, xq_205_13_virtualm H, xq_277_200_static, iN_add, iN_mul, iN_sub, iN_and, iN_or, iN_clr, iN_shl, iN_shr, tb_r1, b1_z, b1_or, b1_and, b1_or0, b1_or1, b1_0or, b1_t, b1_f, iN_lt, iN_inj, reduceIte, if_true, if_false, Nat.zero_add, Nat.add_zero, Bool.false_eq_true, Bool.true_eq_false, Nat.lt_irrefl, iN_az, not_true_eq_false, not_false_eq_true, Nat.reduceEqDiff, Nat.reduceLT, Nat.reduceAdd, Nat.reduceMul, Nat.reduceSub]
  exact key 0 (Nat.zero_le _)
set_option maxRecDepth 100000 in
theorem al_lgd (u v : Nat) (s : Nat → Nat) : (al (σ 1 0) fun y => decide (pc 10 (ctc σ s u &&& dm σ y) ≤ v)) = decide (lgd σ s u ≤ v) := by
  rw [Bool.eq_iff_iff, al_t]
  simp only [decide_eq_true_eq]
  unfold lgd
  rw [mxn_le]
set_option maxRecDepth 100000 in
theorem al_ka0 (O : Ok σ) (hq : q < (σ 1 7)) (h0 : σ 8 q = 0) : (al (σ 1 6) fun l => ka σ q l (tab l)) = !(cov σ (σ 9 q) (tab (σ 9 q) / (σ 1 5))).testBit (σ 10 q) := by
  obtain ⟨ha, hb⟩ := rk_0 O hq h0
  rw [Bool.eq_iff_iff, al_t]
  unfold ka
  simp only [if_pos h0, Bool.or_eq_true, decide_eq_true_eq]
  constructor
  · intro h
    rcases h _ ha with h | h
    · exact absurd rfl h
    · exact h
  · intro h i hi
    by_cases e : σ 9 q = i
    · subst e; exact .inr h
    · exact .inl e
set_option maxRecDepth 100000 in
theorem al_ka6 (O : Ok σ) (hq : q < (σ 1 7)) (h0 : σ 8 q = 6) : (al (σ 1 6) fun l => ka σ q l (tab l)) = decide (tab (σ 9 q) % (σ 1 5) = σ 10 q) := by
  obtain ⟨ha, hb⟩ := rk_6 O hq h0
  rw [Bool.eq_iff_iff, al_t]
  unfold ka
  simp only [h0, Nat.reduceEqDiff, if_false, if_true, Bool.or_eq_true, decide_eq_true_eq]
  constructor
  · intro h
    rcases h _ ha with h | h
    · exact absurd rfl h
    · exact h
  · intro h i hi
    by_cases e : σ 9 q = i
    · subst e; exact .inr h
    · exact .inl e
set_option maxRecDepth 100000 in
theorem al_ka7 (O : Ok σ) (hq : q < (σ 1 7)) (h0 : σ 8 q = 7) : (al (σ 1 6) fun l => ka σ q l (tab l)) = !(ctc σ (fun l => tab l / (σ 1 5)) (σ 9 q)).testBit (σ 10 q) := by
  obtain ⟨ha, hb⟩ := rk_7 O hq h0
  rw [Bool.eq_iff_iff, al_t, Bool.not_eq_true', ← Bool.not_eq_true]
  unfold ka ctc
  simp only [h0, Nat.reduceEqDiff, if_false, if_true, Bool.or_eq_true, decide_eq_true_eq]
  rw [orn_tb]
  constructor
  · rintro h ⟨k, hk, h2⟩
    by_cases e : σ 6 k = σ 9 q
    · rw [if_pos e] at h2
      rcases h k hk with h | h
      · exact h e.symm
      · rw [h2] at h; cases h
    · rw [if_neg e] at h2
      simp at h2
  · intro h i hi
    by_cases e : σ 9 q = σ 6 i
    · right
      by_cases h2 : (cov σ i (tab i / (σ 1 5))).testBit (σ 10 q) = true
      · exact absurd ⟨i, hi, by rw [if_pos e.symm]; exact h2⟩ h
      · simpa using h2
    · exact .inl e
set_option maxRecDepth 100000 in
theorem m_207 (O : Ok σ) (H : Mo σ μ ν h) (hq : h[p]? = some (oI (ar n tab))) (hn : n ≤ 6) (hln : (σ 1 6) ≤ n) (ht : ∀ l, l < (σ 1 6) → tab l < (σ 1 2) * (σ 1 5)) (hr : q < (σ 1 7)) : ev xs (d + 4) 207 0 ([.ref 62, .int (nI q), .ref p, .retAddr 9, .retAddr 9], [], h) = some (.inl (some (.int (nI (b1 (kpq σ (fun l => tab l / (σ 1 5)) (fun l => tab l % (σ 1 5)) q))))), h) := by
  obtain ⟨hD1, hD2, hH1, hH2, hS, hC, hT, hR, hL, hQ⟩ := Ok_b O
  have rest : ∀ b, (al (σ 1 6) fun l => ka σ q l (tab l)) = b → ev xs (d + 4) 207 9 ([.ref 62, .int (nI q), .ref p, .int (nI 1), .int (nI 0)], [], h) = some (.inl (some (.int (nI (b1 b)))), h) := by
    intro b hb
    have key : ∀ k, k ≤ (σ 1 6) → ev xs (d + 4) 207 9 ([.ref 62, .int (nI q), .ref p, .int (nI (b1 (al k fun l => ka σ q l (tab l)))), .int (nI k)], [], h) = some (.inl (some (.int (nI (b1 b)))), h) := by
      refine lp (σ 1 6) ?_ ?_
      · rw [eb_207_9]
        simp (disch := first | assumption | omega | exact st8_a (Nat.le_of_ble_eq_true rfl)) only [hb, eb_207_0, eb_207_1, eb_207_2, eb_207_3, eb_207_4, eb_207_5, eb_207_6, eb_207_7, eb_207_8, eb_207_10, eb_207_11, eb_207_12, eb_207_13, eb_207_14, eb_207_15, eb_207_16, kl_a, kl_d, kl_f, kl_i, kl_l, kl_n, kl_r, xr_1, xr_10, xr_16, xr_17, xr_18, xr_19, xr_2, xr_20, xr_27, xr_28, xr_3, xr_32, xr_33, xr_34, xr_37, xr_4, xr_40, xr_5, af_0, af_1, xt_goto, xt_ib, xt_ic, xt_ic_ge, xt_ic_ne, xt_if_eq, xt_ir, xt_nop, mF_13 H, mF_14 H, mF_15 H, mF_8 H, mA_63 H, mA_64 H, mA_65 H, mA_66 H, mA_67 H, mA_68 H, mA_69 H, mA_70 H, mA_71 H, xq_201_13_virtualm H, xq_202_13_virtualm H, xq_203_13_virtualm H, xq_204_13_virtualm H, xq_206_13_virtualm H, iN_add, iN_mul, iN_sub, iN_and, iN_or, iN_clr, iN_shl, iN_shr, tb_r1, b1_z, b1_or, b1_and, b1_or0, b1_or1, b1_0or, b1_t, b1_f, iN_lt, iN_inj, reduceIte, if_true, if_false, Nat.zero_add, Nat.add_zero, Bool.false_eq_true, Bool.true_eq_false, Nat.lt_irrefl, iN_az, not_true_eq_false, not_false_eq_true, Nat.reduceEqDiff, Nat.reduceLT, Nat.reduceAdd, Nat.reduceMul, Nat.reduceSub]
      · intro k hk ih
        rw [eb_207_9]
        rw [al] at ih
        cases h3 : al k fun l => ka σ q l (tab l)
        · rw [h3] at ih
          simp (disch := first | assumption | omega | exact st8_a (Nat.le_of_ble_eq_true rfl)) only [hk, h3, eb_207_0, eb_207_1, eb_207_2, eb_207_3, eb_207_4, eb_207_5, eb_207_6, eb_207_7, eb_207_8, eb_207_10, eb_207_11, eb_207_12, eb_207_13, eb_207_14, eb_207_15, eb_207_16, kl_a, kl_d, kl_f, kl_i, kl_l, kl_n, kl_r, xr_1, xr_10, xr_16, xr_17, xr_18, xr_19, xr_2, xr_20, xr_27, xr_28, xr_3, xr_32, xr_33, xr_34, xr_37, xr_4, xr_40, xr_5, af_0, af_1, xt_goto, xt_ib, xt_ic, xt_ic_ge, xt_ic_ne, xt_if_eq, xt_ir, xt_nop, mF_13 H, mF_14 H, mF_15 H, mF_8 H, mA_63 H, mA_64 H, mA_65 H, mA_66 H, mA_67 H, mA_68 H, mA_69 H, mA_70 H, mA_71 H, xq_201_13_virtualm H, xq_202_13_virtualm H, xq_203_13_virtualm H, xq_204_13_virtualm H, xq_206_13_virtualm H, iN_add, iN_mul, iN_sub, iN_and, iN_or, iN_clr, iN_shl, iN_shr, tb_r1, b1_z, b1_or, b1_and, b1_or0, b1_or1, b1_0or, b1_t, b1_f, iN_lt, iN_inj, reduceIte, if_true, if_false, Nat.zero_add, Nat.add_zero, Bool.false_eq_true, Bool.true_eq_false, Nat.lt_irrefl, iN_az, not_true_eq_false, not_false_eq_true, Nat.reduceEqDiff, Nat.reduceLT, Nat.reduceAdd, Nat.reduceMul, Nat.reduceSub]
          exact ih
        · rw [h3] at ih
          cases h4 : ka σ q k (tab k)
          · rw [h4] at ih
            simp (disch := first | assumption | omega | exact st8_a (Nat.le_of_ble_eq_true rfl)) only [hk, h3, h4, q_ia hq, m_203 O H hr hk (ht k hk), eb_207_0, eb_207_1, eb_207_2, eb_207_3, eb_207_4, eb_207_5, eb_207_6, eb_207_7, eb_207_8, eb_207_10, eb_207_11, eb_207_12, eb_207_13, eb_207_14, eb_207_15, eb_207_16, kl_a, kl_d, kl_f, kl_i, kl_l, kl_n, kl_r, xr_1, xr_10, xr_16, xr_17, xr_18, xr_19, xr_2, xr_20, xr_27, xr_28, xr_3, xr_32, xr_33, xr_34, xr_37, xr_4, xr_40, xr_5, af_0, af_1, xt_goto, xt_ib, xt_ic, xt_ic_ge, xt_ic_ne, xt_if_eq, xt_ir, xt_nop, mF_13 H, mF_14 H, mF_15 H, mF_8 H, mA_63 H, mA_64 H, mA_65 H, mA_66 H, mA_67 H, mA_68 H, mA_69 H, mA_70 H, mA_71 H, xq_201_13_virtualm H, xq_202_13_virtualm H, xq_203_13_virtualm H, xq_204_13_virtualm H, xq_206_13_virtualm H, iN_add, iN_mul, iN_sub, iN_and, iN_or, iN_clr, iN_shl, iN_shr, tb_r1, b1_z, b1_or, b1_and, b1_or0, b1_or1, b1_0or, b1_t, b1_f, iN_lt, iN_inj, reduceIte, if_true, if_false, Nat.zero_add, Nat.add_zero, Bool.false_eq_true, Bool.true_eq_false, Nat.lt_irrefl, iN_az, not_true_eq_false, not_false_eq_true, Nat.reduceEqDiff, Nat.reduceLT, Nat.reduceAdd, Nat.reduceMul, Nat.reduceSub]
            exact ih
          · rw [h4] at ih
            simp (disch := first | assumption | omega | exact st8_a (Nat.le_of_ble_eq_true rfl)) only [hk, h3, h4, q_ia hq, m_203 O H hr hk (ht k hk), eb_207_0, eb_207_1, eb_207_2, eb_207_3, eb_207_4, eb_207_5, eb_207_6, eb_207_7, eb_207_8, eb_207_10, eb_207_11, eb_207_12, eb_207_13, eb_207_14, eb_207_15, eb_207_16, kl_a, kl_d, kl_f, kl_i, kl_l, kl_n, kl_r, xr_1, xr_10, xr_16, xr_17, xr_18, xr_19, xr_2, xr_20, xr_27, xr_28, xr_3, xr_32, xr_33, xr_34, xr_37, xr_4, xr_40, xr_5, af_0, af_1, xt_goto, xt_ib, xt_ic, xt_ic_ge, xt_ic_ne, xt_if_eq, xt_ir, xt_nop, mF_13 H, mF_14 H, mF_15 H, mF_8 H, mA_63 H, mA_64 H, mA_65 H, mA_66 H, mA_67 H, mA_68 H, mA_69 H, mA_70 H, mA_71 H, xq_201_13_virtualm H, xq_202_13_virtualm H, xq_203_13_virtualm H, xq_204_13_virtualm H, xq_206_13_virtualm H, iN_add, iN_mul, iN_sub, iN_and, iN_or, iN_clr, iN_shl, iN_shr, tb_r1, b1_z, b1_or, b1_and, b1_or0, b1_or1, b1_0or, b1_t, b1_f, iN_lt, iN_inj, reduceIte, if_true, if_false, Nat.zero_add, Nat.add_zero, Bool.false_eq_true, Bool.true_eq_false, Nat.lt_irrefl, iN_az, not_true_eq_false, not_false_eq_true, Nat.reduceEqDiff, Nat.reduceLT, Nat.reduceAdd, Nat.reduceMul, Nat.reduceSub]
            exact ih
    exact key 0 (Nat.zero_le _)
  rcases rk_c O hr with h0 | h0 | h0 | h0 | h0
  · obtain ⟨ha, hb⟩ := rk_0 O hr h0
    simp (disch := first | assumption | omega | exact st8_a (Nat.le_of_ble_eq_true rfl)) only [m_201 O H hr, h0, Nat.reduceLeDiff, decide_true, decide_false, Bool.false_and, Bool.and_false, Bool.and_true, eb_207_0, eb_207_1, eb_207_2, eb_207_3, eb_207_4, eb_207_5, eb_207_6, eb_207_7, eb_207_8, eb_207_10, eb_207_11, eb_207_12, eb_207_13, eb_207_14, eb_207_15, eb_207_16, kl_a, kl_d, kl_f, kl_i, kl_l, kl_n, kl_r, xr_1, xr_10, xr_16, xr_17, xr_18, xr_19, xr_2, xr_20, xr_27, xr_28, xr_3, xr_32, xr_33, xr_34, xr_37, xr_4, xr_40, xr_5, af_0, af_1, xt_goto, xt_ib, xt_ic, xt_ic_ge, xt_ic_ne, xt_if_eq, xt_ir, xt_nop, mF_13 H, mF_14 H, mF_15 H, mF_8 H, mA_63 H, mA_64 H, mA_65 H, mA_66 H, mA_67 H, mA_68 H, mA_69 H, mA_70 H, mA_71 H, xq_201_13_virtualm H, xq_202_13_virtualm H, xq_203_13_virtualm H, xq_204_13_virtualm H, xq_206_13_virtualm H, iN_add, iN_mul, iN_sub, iN_and, iN_or, iN_clr, iN_shl, iN_shr, tb_r1, b1_z, b1_or, b1_and, b1_or0, b1_or1, b1_0or, b1_t, b1_f, iN_lt, iN_inj, reduceIte, if_true, if_false, Nat.zero_add, Nat.add_zero, Bool.false_eq_true, Bool.true_eq_false, Nat.lt_irrefl, iN_az, not_true_eq_false, not_false_eq_true, Nat.reduceEqDiff, Nat.reduceLT, Nat.reduceAdd, Nat.reduceMul, Nat.reduceSub]
    exact rest _ (by rw [al_ka0 O hr h0]; unfold kpq; rw [if_pos h0])
  · obtain ⟨ha, hb⟩ := rk_1 O hr h0
    simp (disch := first | assumption | omega | exact st8_a (Nat.le_of_ble_eq_true rfl)) only [m_201 O H hr, m_204 O H hq hn hln (Nat.le_refl _) ht (show σ 9 q < 2147483648 by omega), m_206 O H (bus_lt O (Nat.le_refl _) ht) (show σ 10 q < 2147483648 by omega), h0, Nat.reduceLeDiff, decide_true, decide_false, Bool.false_and, Bool.and_false, Bool.and_true, eb_207_0, eb_207_1, eb_207_2, eb_207_3, eb_207_4, eb_207_5, eb_207_6, eb_207_7, eb_207_8, eb_207_10, eb_207_11, eb_207_12, eb_207_13, eb_207_14, eb_207_15, eb_207_16, kl_a, kl_d, kl_f, kl_i, kl_l, kl_n, kl_r, xr_1, xr_10, xr_16, xr_17, xr_18, xr_19, xr_2, xr_20, xr_27, xr_28, xr_3, xr_32, xr_33, xr_34, xr_37, xr_4, xr_40, xr_5, af_0, af_1, xt_goto, xt_ib, xt_ic, xt_ic_ge, xt_ic_ne, xt_if_eq, xt_ir, xt_nop, mF_13 H, mF_14 H, mF_15 H, mF_8 H, mA_63 H, mA_64 H, mA_65 H, mA_66 H, mA_67 H, mA_68 H, mA_69 H, mA_70 H, mA_71 H, xq_201_13_virtualm H, xq_202_13_virtualm H, xq_203_13_virtualm H, xq_204_13_virtualm H, xq_206_13_virtualm H, iN_add, iN_mul, iN_sub, iN_and, iN_or, iN_clr, iN_shl, iN_shr, tb_r1, b1_z, b1_or, b1_and, b1_or0, b1_or1, b1_0or, b1_t, b1_f, iN_lt, iN_inj, reduceIte, if_true, if_false, Nat.zero_add, Nat.add_zero, Bool.false_eq_true, Bool.true_eq_false, Nat.lt_irrefl, iN_az, not_true_eq_false, not_false_eq_true, Nat.reduceEqDiff, Nat.reduceLT, Nat.reduceAdd, Nat.reduceMul, Nat.reduceSub]
    unfold kpq
    rw [if_neg (by omega), if_pos h0, ← al_lgd]
    rfl
  · simp (disch := first | assumption | omega | exact st8_a (Nat.le_of_ble_eq_true rfl)) only [m_201 O H hr, h0, Nat.reduceLeDiff, decide_true, decide_false, Bool.false_and, Bool.and_false, Bool.and_true, eb_207_0, eb_207_1, eb_207_2, eb_207_3, eb_207_4, eb_207_5, eb_207_6, eb_207_7, eb_207_8, eb_207_10, eb_207_11, eb_207_12, eb_207_13, eb_207_14, eb_207_15, eb_207_16, kl_a, kl_d, kl_f, kl_i, kl_l, kl_n, kl_r, xr_1, xr_10, xr_16, xr_17, xr_18, xr_19, xr_2, xr_20, xr_27, xr_28, xr_3, xr_32, xr_33, xr_34, xr_37, xr_4, xr_40, xr_5, af_0, af_1, xt_goto, xt_ib, xt_ic, xt_ic_ge, xt_ic_ne, xt_if_eq, xt_ir, xt_nop, mF_13 H, mF_14 H, mF_15 H, mF_8 H, mA_63 H, mA_64 H, mA_65 H, mA_66 H, mA_67 H, mA_68 H, mA_69 H, mA_70 H, mA_71 H, xq_201_13_virtualm H, xq_202_13_virtualm H, xq_203_13_virtualm H, xq_204_13_virtualm H, xq_206_13_virtualm H, iN_add, iN_mul, iN_sub, iN_and, iN_or, iN_clr, iN_shl, iN_shr, tb_r1, b1_z, b1_or, b1_and, b1_or0, b1_or1, b1_0or, b1_t, b1_f, iN_lt, iN_inj, reduceIte, if_true, if_false, Nat.zero_add, Nat.add_zero, Bool.false_eq_true, Bool.true_eq_false, Nat.lt_irrefl, iN_az, not_true_eq_false, not_false_eq_true, Nat.reduceEqDiff, Nat.reduceLT, Nat.reduceAdd, Nat.reduceMul, Nat.reduceSub]
    exact rest _ (by rw [al_ka6 O hr h0]; unfold kpq; rw [if_neg (by omega), if_neg (by omega), if_pos h0])
  · simp (disch := first | assumption | omega | exact st8_a (Nat.le_of_ble_eq_true rfl)) only [m_201 O H hr, h0, Nat.reduceLeDiff, decide_true, decide_false, Bool.false_and, Bool.and_false, Bool.and_true, eb_207_0, eb_207_1, eb_207_2, eb_207_3, eb_207_4, eb_207_5, eb_207_6, eb_207_7, eb_207_8, eb_207_10, eb_207_11, eb_207_12, eb_207_13, eb_207_14, eb_207_15, eb_207_16, kl_a, kl_d, kl_f, kl_i, kl_l, kl_n, kl_r, xr_1, xr_10, xr_16, xr_17, xr_18, xr_19, xr_2, xr_20, xr_27, xr_28, xr_3, xr_32, xr_33, xr_34, xr_37, xr_4, xr_40, xr_5, af_0, af_1, xt_goto, xt_ib, xt_ic, xt_ic_ge, xt_ic_ne, xt_if_eq, xt_ir, xt_nop, mF_13 H, mF_14 H, mF_15 H, mF_8 H, mA_63 H, mA_64 H, mA_65 H, mA_66 H, mA_67 H, mA_68 H, mA_69 H, mA_70 H, mA_71 H, xq_201_13_virtualm H, xq_202_13_virtualm H, xq_203_13_virtualm H, xq_204_13_virtualm H, xq_206_13_virtualm H, iN_add, iN_mul, iN_sub, iN_and, iN_or, iN_clr, iN_shl, iN_shr, tb_r1, b1_z, b1_or, b1_and, b1_or0, b1_or1, b1_0or, b1_t, b1_f, iN_lt, iN_inj, reduceIte, if_true, if_false, Nat.zero_add, Nat.add_zero, Bool.false_eq_true, Bool.true_eq_false, Nat.lt_irrefl, iN_az, not_true_eq_false, not_false_eq_true, Nat.reduceEqDiff, Nat.reduceLT, Nat.reduceAdd, Nat.reduceMul, Nat.reduceSub]
    exact rest _ (by rw [al_ka7 O hr h0]; unfold kpq; rw [if_neg (by omega), if_neg (by omega), if_neg (by omega), if_pos h0])
  · obtain ⟨ha, hb, -⟩ := rk_2 O hr h0
    have q1 : 2 ≤ σ 8 q := by omega
    have q2 : σ 8 q ≤ 5 := by omega
    simp (disch := first | assumption | omega | exact st8_a (Nat.le_of_ble_eq_true rfl)) only [m_201 O H hr, q1, q2, q_ia hq, m_202 O H hr q1 q2 (ht _ ha) (ht _ hb), Nat.reduceLeDiff, decide_true, decide_false, Bool.false_and, Bool.and_false, Bool.and_true, eb_207_0, eb_207_1, eb_207_2, eb_207_3, eb_207_4, eb_207_5, eb_207_6, eb_207_7, eb_207_8, eb_207_10, eb_207_11, eb_207_12, eb_207_13, eb_207_14, eb_207_15, eb_207_16, kl_a, kl_d, kl_f, kl_i, kl_l, kl_n, kl_r, xr_1, xr_10, xr_16, xr_17, xr_18, xr_19, xr_2, xr_20, xr_27, xr_28, xr_3, xr_32, xr_33, xr_34, xr_37, xr_4, xr_40, xr_5, af_0, af_1, xt_goto, xt_ib, xt_ic, xt_ic_ge, xt_ic_ne, xt_if_eq, xt_ir, xt_nop, mF_13 H, mF_14 H, mF_15 H, mF_8 H, mA_63 H, mA_64 H, mA_65 H, mA_66 H, mA_67 H, mA_68 H, mA_69 H, mA_70 H, mA_71 H, xq_201_13_virtualm H, xq_202_13_virtualm H, xq_203_13_virtualm H, xq_204_13_virtualm H, xq_206_13_virtualm H, iN_add, iN_mul, iN_sub, iN_and, iN_or, iN_clr, iN_shl, iN_shr, tb_r1, b1_z, b1_or, b1_and, b1_or0, b1_or1, b1_0or, b1_t, b1_f, iN_lt, iN_inj, reduceIte, if_true, if_false, Nat.zero_add, Nat.add_zero, Bool.false_eq_true, Bool.true_eq_false, Nat.lt_irrefl, iN_az, not_true_eq_false, not_false_eq_true, Nat.reduceEqDiff, Nat.reduceLT, Nat.reduceAdd, Nat.reduceMul, Nat.reduceSub]
    unfold kpq
    rw [if_neg (by omega), if_neg (by omega), if_neg (by omega), if_neg (by omega)]
set_option maxRecDepth 100000 in
theorem m_208 (O : Ok σ) (H : Mo σ μ ν h) (hq : h[p]? = some (oI (ar n tab))) (hn : n ≤ 6) (hln : (σ 1 6) ≤ n) (ht : ∀ l, l < (σ 1 6) → tab l < (σ 1 2) * (σ 1 5)) : ev xs (d + 5) 208 0 ([.ref 62, .ref p, .retAddr 9, .retAddr 9], [], h) = some (.inl (some (.int (nI (brk σ (fun l => tab l / (σ 1 5)) (fun l => tab l % (σ 1 5)))))), h) := by
  obtain ⟨hD1, hD2, hH1, hH2, hS, hC, hT, hR, hL, hQ⟩ := Ok_b O
  have key : ∀ k, k ≤ (σ 1 7) → ev xs (d + 5) 208 1 ([.ref 62, .ref p, .int (nI (en k fun q => !kpq σ (fun l => tab l / (σ 1 5)) (fun l => tab l % (σ 1 5)) q)), .int (nI k)], [], h) = some (.inl (some (.int (nI (brk σ (fun l => tab l / (σ 1 5)) (fun l => tab l % (σ 1 5)))))), h) := by
    refine lp (σ 1 7) ?_ ?_
    · rw [eb_208_1]
      simp (disch := first | assumption | omega | exact st8_a (Nat.le_of_ble_eq_true rfl)) only [eb_208_0, eb_208_2, eb_208_3, eb_208_4, eb_208_5, eb_208_6, eb_208_7, kl_a, kl_d, kl_f, kl_i, kl_l, kl_n, kl_r, xr_1, xr_10, xr_11, xr_12, xr_13, xr_14, xr_15, xr_2, xr_27, xr_3, xr_30, xr_31, xr_32, xr_37, xr_4, xr_43, xr_45, xr_5, xr_58, af_0, af_1, xt_goto, xt_ib, xt_ic, xt_ic_ge, xt_if_eq, xt_ir, xt_nop, mF_12 H, xq_207_13_virtualm H, iN_add, iN_mul, iN_sub, iN_and, iN_or, iN_clr, iN_shl, iN_shr, tb_r1, b1_z, b1_or, b1_and, b1_or0, b1_or1, b1_0or, b1_t, b1_f, iN_lt, iN_inj, reduceIte, if_true, if_false, Nat.zero_add, Nat.add_zero, Bool.false_eq_true, Bool.true_eq_false, Nat.lt_irrefl, iN_az, not_true_eq_false, not_false_eq_true, Nat.reduceEqDiff, Nat.reduceLT, Nat.reduceAdd, Nat.reduceMul, Nat.reduceSub]
      rfl
    · intro k hk ih
      rw [eb_208_1]
      rw [en_st] at ih
      have s1 := m_207 (xs := xs) (d := d) O H hq hn hln ht hk
      cases h1 : kpq σ (fun l => tab l / (σ 1 5)) (fun l => tab l % (σ 1 5)) k
      · rw [h1] at ih s1
        simp (disch := first | assumption | omega | exact st8_a (Nat.le_of_ble_eq_true rfl)) only [hk, s1, eb_208_0, eb_208_2, eb_208_3, eb_208_4, eb_208_5, eb_208_6, eb_208_7, kl_a, kl_d, kl_f, kl_i, kl_l, kl_n, kl_r, xr_1, xr_10, xr_11, xr_12, xr_13, xr_14, xr_15, xr_2, xr_27, xr_3, xr_30, xr_31, xr_32, xr_37, xr_4, xr_43, xr_45, xr_5, xr_58, af_0, af_1, xt_goto, xt_ib, xt_ic, xt_ic_ge, xt_if_eq, xt_ir, xt_nop, mF_12 H, xq_207_13_virtualm H, iN_add, iN_mul, iN_sub, iN_and, iN_or, iN_clr, iN_shl, iN_shr, tb_r1, b1_z, b1_or, b1_and, b1_or0, b1_or1, b1_0or, b1_t, b1_f, iN_lt, iN_inj, reduceIte, if_true, if_false, Nat.zero_add, Nat.add_zero, Bool.false_eq_true, Bool.true_eq_false, Nat.lt_irrefl, iN_az, not_true_eq_false, not_false_eq_true, Nat.reduceEqDiff, Nat.reduceLT, Nat.reduceAdd, Nat.reduceMul, Nat.reduceSub]
        exact ih
      · rw [h1] at ih s1
        simp (disch := first | assumption | omega | exact st8_a (Nat.le_of_ble_eq_true rfl)) only [hk, s1, Nat.or_zero, eb_208_0, eb_208_2, eb_208_3, eb_208_4, eb_208_5, eb_208_6, eb_208_7, kl_a, kl_d, kl_f, kl_i, kl_l, kl_n, kl_r, xr_1, xr_10, xr_11, xr_12, xr_13, xr_14, xr_15, xr_2, xr_27, xr_3, xr_30, xr_31, xr_32, xr_37, xr_4, xr_43, xr_45, xr_5, xr_58, af_0, af_1, xt_goto, xt_ib, xt_ic, xt_ic_ge, xt_if_eq, xt_ir, xt_nop, mF_12 H, xq_207_13_virtualm H, iN_add, iN_mul, iN_sub, iN_and, iN_or, iN_clr, iN_shl, iN_shr, tb_r1, b1_z, b1_or, b1_and, b1_or0, b1_or1, b1_0or, b1_t, b1_f, iN_lt, iN_inj, reduceIte, if_true, if_false, Nat.zero_add, Nat.add_zero, Bool.false_eq_true, Bool.true_eq_false, Nat.lt_irrefl, iN_az, not_true_eq_false, not_false_eq_true, Nat.reduceEqDiff, Nat.reduceLT, Nat.reduceAdd, Nat.reduceMul, Nat.reduceSub]
        exact ih
  simp (disch := first | assumption | omega | exact st8_a (Nat.le_of_ble_eq_true rfl)) only [eb_208_0, eb_208_2, eb_208_3, eb_208_4, eb_208_5, eb_208_6, eb_208_7, kl_a, kl_d, kl_f, kl_i, kl_l, kl_n, kl_r, xr_1, xr_10, xr_11, xr_12, xr_13, xr_14, xr_15, xr_2, xr_27, xr_3, xr_30, xr_31, xr_32, xr_37, xr_4, xr_43, xr_45, xr_5, xr_58, af_0, af_1, xt_goto, xt_ib, xt_ic, xt_ic_ge, xt_if_eq, xt_ir, xt_nop, mF_12 H, xq_207_13_virtualm H, iN_add, iN_mul, iN_sub, iN_and, iN_or, iN_clr, iN_shl, iN_shr, tb_r1, b1_z, b1_or, b1_and, b1_or0, b1_or1, b1_0or, b1_t, b1_f, iN_lt, iN_inj, reduceIte, if_true, if_false, Nat.zero_add, Nat.add_zero, Bool.false_eq_true, Bool.true_eq_false, Nat.lt_irrefl, iN_az, not_true_eq_false, not_false_eq_true, Nat.reduceEqDiff, Nat.reduceLT, Nat.reduceAdd, Nat.reduceMul, Nat.reduceSub]
  exact key 0 (Nat.zero_le _)
set_option maxRecDepth 100000 in
theorem m_209 (O : Ok σ) (H : Mo σ μ ν h) (hq : h[p]? = some (oI (ar n tab))) (hn : n ≤ 6) (hln : (σ 1 6) ≤ n) (ht : ∀ l, l < (σ 1 6) → tab l < (σ 1 2) * (σ 1 5)) : ev xs (d + 4) 209 0 ([.ref 62, .ref p, .retAddr 9, .retAddr 9, .retAddr 9], [], h) = some (.inl (some (.int (nI (flt σ (fun l => tab l / (σ 1 5)) (fun l => tab l % (σ 1 5)))))), h) := by
  obtain ⟨hD1, hD2, hH1, hH2, hS, hC, hT, hR, hL, hQ⟩ := Ok_b O
  have key : ∀ k, k ≤ (σ 1 6) → ∀ acc y, acc = (sm k fun l => b1 (!sty σ l (tab l / (σ 1 5))) + b1 (!sts σ l (tab l % (σ 1 5))) + sm l fun o => cl2 σ l (tab l) o (tab o)) → ev xs (d + 4) 209 1 ([.ref 62, .ref p, .int (nI acc), .int (nI k), y], [], h) = some (.inl (some (.int (nI (flt σ (fun l => tab l / (σ 1 5)) (fun l => tab l % (σ 1 5)))))), h) := by
    refine lp (σ 1 6) ?_ ?_
    · intro acc y ha
      rw [eb_209_1]
      simp (disch := first | assumption | omega | exact st8_a (Nat.le_of_ble_eq_true rfl)) only [eb_209_0, eb_209_2, eb_209_3, eb_209_4, eb_209_5, eb_209_6, eb_209_7, eb_209_8, eb_209_9, eb_209_10, eb_209_12, eb_209_13, eb_209_14, eb_209_15, kl_a, kl_d, kl_f, kl_i, kl_l, kl_n, kl_r, xr_1, xr_10, xr_11, xr_12, xr_13, xr_14, xr_15, xr_2, xr_27, xr_3, xr_30, xr_31, xr_32, xr_33, xr_34, xr_37, xr_38, xr_4, xr_40, xr_43, xr_5, af_0, af_1, xt_goto, xt_ib, xt_ic, xt_ic_ge, xt_if_eq, xt_ir, xt_nop, mF_8 H, mA_63 H, mA_64 H, mA_65 H, mA_66 H, mA_67 H, mA_68 H, mA_69 H, mA_70 H, mA_71 H, xq_198_13_virtualm H, xq_199_13_virtualm H, xq_200_13_virtualm H, iN_add, iN_mul, iN_sub, iN_and, iN_or, iN_clr, iN_shl, iN_shr, tb_r1, b1_z, b1_or, b1_and, b1_or0, b1_or1, b1_0or, b1_t, b1_f, iN_lt, iN_inj, reduceIte, if_true, if_false, Nat.zero_add, Nat.add_zero, Bool.false_eq_true, Bool.true_eq_false, Nat.lt_irrefl, iN_az, not_true_eq_false, not_false_eq_true, Nat.reduceEqDiff, Nat.reduceLT, Nat.reduceAdd, Nat.reduceMul, Nat.reduceSub]
      rw [ha]
      rfl
    · intro k hk ih acc y ha
      have inn : ∀ j, j ≤ k → ∀ acc, acc = (sm k fun l => b1 (!sty σ l (tab l / (σ 1 5))) + b1 (!sts σ l (tab l % (σ 1 5))) + sm l fun o => cl2 σ l (tab l) o (tab o)) + (b1 (!sty σ k (tab k / (σ 1 5))) + b1 (!sts σ k (tab k % (σ 1 5))) + sm j fun o => cl2 σ k (tab k) o (tab o)) → ev xs (d + 4) 209 11 ([.ref 62, .ref p, .int (nI acc), .int (nI k), .int (nI j)], [], h) = some (.inl (some (.int (nI (flt σ (fun l => tab l / (σ 1 5)) (fun l => tab l % (σ 1 5)))))), h) := by
        refine lp k ?_ ?_
        · intro acc ha
          rw [eb_209_11]
          simp (disch := first | assumption | omega | exact st8_a (Nat.le_of_ble_eq_true rfl)) only [eb_209_0, eb_209_2, eb_209_3, eb_209_4, eb_209_5, eb_209_6, eb_209_7, eb_209_8, eb_209_9, eb_209_10, eb_209_12, eb_209_13, eb_209_14, eb_209_15, kl_a, kl_d, kl_f, kl_i, kl_l, kl_n, kl_r, xr_1, xr_10, xr_11, xr_12, xr_13, xr_14, xr_15, xr_2, xr_27, xr_3, xr_30, xr_31, xr_32, xr_33, xr_34, xr_37, xr_38, xr_4, xr_40, xr_43, xr_5, af_0, af_1, xt_goto, xt_ib, xt_ic, xt_ic_ge, xt_if_eq, xt_ir, xt_nop, mF_8 H, mA_63 H, mA_64 H, mA_65 H, mA_66 H, mA_67 H, mA_68 H, mA_69 H, mA_70 H, mA_71 H, xq_198_13_virtualm H, xq_199_13_virtualm H, xq_200_13_virtualm H, iN_add, iN_mul, iN_sub, iN_and, iN_or, iN_clr, iN_shl, iN_shr, tb_r1, b1_z, b1_or, b1_and, b1_or0, b1_or1, b1_0or, b1_t, b1_f, iN_lt, iN_inj, reduceIte, if_true, if_false, Nat.zero_add, Nat.add_zero, Bool.false_eq_true, Bool.true_eq_false, Nat.lt_irrefl, iN_az, not_true_eq_false, not_false_eq_true, Nat.reduceEqDiff, Nat.reduceLT, Nat.reduceAdd, Nat.reduceMul, Nat.reduceSub]
          exact ih _ _ (by rw [ha, sm])
        · intro j hj ih2 acc ha
          have hj2 : j < (σ 1 6) := by omega
          rw [eb_209_11]
          simp (disch := first | assumption | omega | exact st8_a (Nat.le_of_ble_eq_true rfl)) only [hj, q_ia hq, m_200 O H hk hj2 (ht k hk) (ht j hj2), eb_209_0, eb_209_2, eb_209_3, eb_209_4, eb_209_5, eb_209_6, eb_209_7, eb_209_8, eb_209_9, eb_209_10, eb_209_12, eb_209_13, eb_209_14, eb_209_15, kl_a, kl_d, kl_f, kl_i, kl_l, kl_n, kl_r, xr_1, xr_10, xr_11, xr_12, xr_13, xr_14, xr_15, xr_2, xr_27, xr_3, xr_30, xr_31, xr_32, xr_33, xr_34, xr_37, xr_38, xr_4, xr_40, xr_43, xr_5, af_0, af_1, xt_goto, xt_ib, xt_ic, xt_ic_ge, xt_if_eq, xt_ir, xt_nop, mF_8 H, mA_63 H, mA_64 H, mA_65 H, mA_66 H, mA_67 H, mA_68 H, mA_69 H, mA_70 H, mA_71 H, xq_198_13_virtualm H, xq_199_13_virtualm H, xq_200_13_virtualm H, iN_add, iN_mul, iN_sub, iN_and, iN_or, iN_clr, iN_shl, iN_shr, tb_r1, b1_z, b1_or, b1_and, b1_or0, b1_or1, b1_0or, b1_t, b1_f, iN_lt, iN_inj, reduceIte, if_true, if_false, Nat.zero_add, Nat.add_zero, Bool.false_eq_true, Bool.true_eq_false, Nat.lt_irrefl, iN_az, not_true_eq_false, not_false_eq_true, Nat.reduceEqDiff, Nat.reduceLT, Nat.reduceAdd, Nat.reduceMul, Nat.reduceSub]
          exact ih2 _ (by rw [ha, sm]; omega)
      have s1 := m_198 (xs := xs) (d := d + 3) O H hk (ht k hk)
      have s2 := m_199 (xs := xs) (d := d + 3) O H hk (ht k hk)
      rw [eb_209_1]
      cases h1 : sty σ k (tab k / (σ 1 5)) <;> cases h2 : sts σ k (tab k % (σ 1 5)) <;> rw [h1] at s1 inn <;> rw [h2] at s2 inn <;> simp (disch := first | assumption | omega | exact st8_a (Nat.le_of_ble_eq_true rfl)) only [hk, q_ia hq, s1, s2, eb_209_0, eb_209_2, eb_209_3, eb_209_4, eb_209_5, eb_209_6, eb_209_7, eb_209_8, eb_209_9, eb_209_10, eb_209_12, eb_209_13, eb_209_14, eb_209_15, kl_a, kl_d, kl_f, kl_i, kl_l, kl_n, kl_r, xr_1, xr_10, xr_11, xr_12, xr_13, xr_14, xr_15, xr_2, xr_27, xr_3, xr_30, xr_31, xr_32, xr_33, xr_34, xr_37, xr_38, xr_4, xr_40, xr_43, xr_5, af_0, af_1, xt_goto, xt_ib, xt_ic, xt_ic_ge, xt_if_eq, xt_ir, xt_nop, mF_8 H, mA_63 H, mA_64 H, mA_65 H, mA_66 H, mA_67 H, mA_68 H, mA_69 H, mA_70 H, mA_71 H, xq_198_13_virtualm H, xq_199_13_virtualm H, xq_200_13_virtualm H, iN_add, iN_mul, iN_sub, iN_and, iN_or, iN_clr, iN_shl, iN_shr, tb_r1, b1_z, b1_or, b1_and, b1_or0, b1_or1, b1_0or, b1_t, b1_f, iN_lt, iN_inj, reduceIte, if_true, if_false, Nat.zero_add, Nat.add_zero, Bool.false_eq_true, Bool.true_eq_false, Nat.lt_irrefl, iN_az, not_true_eq_false, not_false_eq_true, Nat.reduceEqDiff, Nat.reduceLT, Nat.reduceAdd, Nat.reduceMul, Nat.reduceSub] <;> exact inn 0 (Nat.zero_le _) _ (by rw [ha, sm]; simp [b1])
  simp (disch := first | assumption | omega | exact st8_a (Nat.le_of_ble_eq_true rfl)) only [eb_209_0, eb_209_2, eb_209_3, eb_209_4, eb_209_5, eb_209_6, eb_209_7, eb_209_8, eb_209_9, eb_209_10, eb_209_12, eb_209_13, eb_209_14, eb_209_15, kl_a, kl_d, kl_f, kl_i, kl_l, kl_n, kl_r, xr_1, xr_10, xr_11, xr_12, xr_13, xr_14, xr_15, xr_2, xr_27, xr_3, xr_30, xr_31, xr_32, xr_33, xr_34, xr_37, xr_38, xr_4, xr_40, xr_43, xr_5, af_0, af_1, xt_goto, xt_ib, xt_ic, xt_ic_ge, xt_if_eq, xt_ir, xt_nop, mF_8 H, mA_63 H, mA_64 H, mA_65 H, mA_66 H, mA_67 H, mA_68 H, mA_69 H, mA_70 H, mA_71 H, xq_198_13_virtualm H, xq_199_13_virtualm H, xq_200_13_virtualm H, iN_add, iN_mul, iN_sub, iN_and, iN_or, iN_clr, iN_shl, iN_shr, tb_r1, b1_z, b1_or, b1_and, b1_or0, b1_or1, b1_0or, b1_t, b1_f, iN_lt, iN_inj, reduceIte, if_true, if_false, Nat.zero_add, Nat.add_zero, Bool.false_eq_true, Bool.true_eq_false, Nat.lt_irrefl, iN_az, not_true_eq_false, not_false_eq_true, Nat.reduceEqDiff, Nat.reduceLT, Nat.reduceAdd, Nat.reduceMul, Nat.reduceSub]
  exact key 0 (Nat.zero_le _) _ _ rfl
set_option maxRecDepth 100000 in
theorem m_211 (O : Ok σ) (H : Mo σ μ ν h) (hl : l < (σ 1 6)) (hv : v < (σ 1 2) * (σ 1 5)) : ev xs (d + 2) 211 0 ([.ref 62, .int (nI l), .int (nI v), .retAddr 9], [], h) = some (.inl (some (.int (nI (wv σ l (v / (σ 1 5)) (v % (σ 1 5)))))), h) := by
  obtain ⟨hD1, hD2, hH1, hH2, hS, hC, hT, hR, hL, hQ⟩ := Ok_b O
  obtain ⟨v1, v2, v3, v4, v5⟩ := vb O hv
  obtain ⟨h1, h2, h3⟩ := Ok_l O hl
  have h4 := Ok_c O h1
  have h5 := las_lt (σ := σ) (l := l) v2
  have h8 : ¬ v % (σ 1 5) = 4294967295 := by omega
  by_cases h6 : σ 3 (σ 5 l) = 4294967295
  · simp (disch := first | assumption | omega | exact st8_a (Nat.le_of_ble_eq_true rfl)) only [m_195 O H hl hv, hou_m O h5, wv, h6, ne_eq, false_and, Nat.mul_zero, eb_211_0, eb_211_1, eb_211_2, eb_211_3, eb_211_4, eb_211_5, kl_a, kl_d, kl_f, kl_i, kl_l, kl_n, kl_r, xr_1, xr_10, xr_143, xr_2, xr_27, xr_28, xr_3, xr_31, xr_32, xr_37, xr_38, xr_4, xr_41, xr_5, xr_64, af_0, af_1, xt_goto, xt_ib, xt_ic, xt_ic_eq, xt_ir, xt_nop, mF_1 H, mF_16 H, mF_17 H, mF_4 H, mF_6 H, mF_9 H, mA_63 H, mA_64 H, mA_65 H, mA_66 H, mA_67 H, mA_68 H, mA_69 H, mA_70 H, mA_71 H, xq_195_13_virtualm H, iN_add, iN_mul, iN_sub, iN_and, iN_or, iN_clr, iN_shl, iN_shr, tb_r1, b1_z, b1_or, b1_and, b1_or0, b1_or1, b1_0or, b1_t, b1_f, iN_lt, iN_inj, reduceIte, if_true, if_false, Nat.zero_add, Nat.add_zero, Bool.false_eq_true, Bool.true_eq_false, Nat.lt_irrefl, iN_az, not_true_eq_false, not_false_eq_true, Nat.reduceEqDiff, Nat.reduceLT, Nat.reduceAdd, Nat.reduceMul, Nat.reduceSub]
  · by_cases h7 : σ 3 (σ 5 l) = v % (σ 1 5)
    · simp (disch := first | assumption | omega | exact st8_a (Nat.le_of_ble_eq_true rfl)) only [m_195 O H hl hv, hou_m O h5, wv, h6, h7, h8, ne_eq, and_false, Nat.mul_zero, eb_211_0, eb_211_1, eb_211_2, eb_211_3, eb_211_4, eb_211_5, kl_a, kl_d, kl_f, kl_i, kl_l, kl_n, kl_r, xr_1, xr_10, xr_143, xr_2, xr_27, xr_28, xr_3, xr_31, xr_32, xr_37, xr_38, xr_4, xr_41, xr_5, xr_64, af_0, af_1, xt_goto, xt_ib, xt_ic, xt_ic_eq, xt_ir, xt_nop, mF_1 H, mF_16 H, mF_17 H, mF_4 H, mF_6 H, mF_9 H, mA_63 H, mA_64 H, mA_65 H, mA_66 H, mA_67 H, mA_68 H, mA_69 H, mA_70 H, mA_71 H, xq_195_13_virtualm H, iN_add, iN_mul, iN_sub, iN_and, iN_or, iN_clr, iN_shl, iN_shr, tb_r1, b1_z, b1_or, b1_and, b1_or0, b1_or1, b1_0or, b1_t, b1_f, iN_lt, iN_inj, reduceIte, if_true, if_false, Nat.zero_add, Nat.add_zero, Bool.false_eq_true, Bool.true_eq_false, Nat.lt_irrefl, iN_az, not_true_eq_false, not_false_eq_true, Nat.reduceEqDiff, Nat.reduceLT, Nat.reduceAdd, Nat.reduceMul, Nat.reduceSub]
    · simp (disch := first | assumption | omega | exact st8_a (Nat.le_of_ble_eq_true rfl)) only [m_195 O H hl hv, hou_m O h5, wv, h6, h7, h8, ne_eq, and_true, Nat.mul_one, eb_211_0, eb_211_1, eb_211_2, eb_211_3, eb_211_4, eb_211_5, kl_a, kl_d, kl_f, kl_i, kl_l, kl_n, kl_r, xr_1, xr_10, xr_143, xr_2, xr_27, xr_28, xr_3, xr_31, xr_32, xr_37, xr_38, xr_4, xr_41, xr_5, xr_64, af_0, af_1, xt_goto, xt_ib, xt_ic, xt_ic_eq, xt_ir, xt_nop, mF_1 H, mF_16 H, mF_17 H, mF_4 H, mF_6 H, mF_9 H, mA_63 H, mA_64 H, mA_65 H, mA_66 H, mA_67 H, mA_68 H, mA_69 H, mA_70 H, mA_71 H, xq_195_13_virtualm H, iN_add, iN_mul, iN_sub, iN_and, iN_or, iN_clr, iN_shl, iN_shr, tb_r1, b1_z, b1_or, b1_and, b1_or0, b1_or1, b1_0or, b1_t, b1_f, iN_lt, iN_inj, reduceIte, if_true, if_false, Nat.zero_add, Nat.add_zero, Bool.false_eq_true, Bool.true_eq_false, Nat.lt_irrefl, iN_az, not_true_eq_false, not_false_eq_true, Nat.reduceEqDiff, Nat.reduceLT, Nat.reduceAdd, Nat.reduceMul, Nat.reduceSub]
set_option maxRecDepth 100000 in
theorem m_212 (O : Ok σ) (H : Mo σ μ ν h) (hq : h[p]? = some (oI (ar n tab))) (hn : n ≤ 6) (hln : (σ 1 6) ≤ n) (ht : ∀ l, l < (σ 1 6) → tab l < (σ 1 2) * (σ 1 5)) : ev xs (d + 4) 212 0 ([.ref 62, .ref p, .retAddr 9, .retAddr 9, .retAddr 9, .retAddr 9, .retAddr 9], [], h) = some (.inl (some (.int (nI (wt σ (fun l => tab l / (σ 1 5)) (fun l => tab l % (σ 1 5)))))), h) := by
  obtain ⟨hD1, hD2, hH1, hH2, hS, hC, hT, hR, hL, hQ⟩ := Ok_b O
  have hs : ∀ l, l < (σ 1 6) → (fun l => tab l / (σ 1 5)) l < (σ 1 2) := fun l hl => (vb O (ht l hl)).2.1
  have key2 : ∀ k, k ≤ (σ 1 4) → ∀ acc y1 y2 y3, acc = (sm (σ 1 6) fun l => wv σ l (tab l / (σ 1 5)) (tab l % (σ 1 5))) + (sm k fun u => σ 11 2 * gap σ (ctc σ (fun l => tab l / (σ 1 5)) u)) → ev xs (d + 4) 212 5 ([.ref 62, .ref p, .int (nI acc), .int (nI k), y1, y2, y3], [], h) = some (.inl (some (.int (nI (wt σ (fun l => tab l / (σ 1 5)) (fun l => tab l % (σ 1 5)))))), h) := by
    refine lp (σ 1 4) ?_ ?_
    · intro acc y1 y2 y3 ha
      rw [eb_212_5]
      simp (disch := first | assumption | omega | exact st8_a (Nat.le_of_ble_eq_true rfl)) only [eb_212_0, eb_212_2, eb_212_3, eb_212_4, eb_212_6, eb_212_7, eb_212_9, eb_212_10, eb_212_11, eb_212_12, eb_212_13, eb_212_14, eb_212_15, kl_a, kl_d, kl_f, kl_i, kl_l, kl_n, kl_r, xr_1, xr_10, xr_11, xr_12, xr_13, xr_14, xr_15, xr_2, xr_3, xr_30, xr_31, xr_32, xr_33, xr_34, xr_35, xr_36, xr_37, xr_38, xr_39, xr_4, xr_41, xr_43, xr_44, xr_5, xr_55, xr_56, xr_57, xr_66, af_0, af_1, xt_goto, xt_ib, xt_ic, xt_ic_ge, xt_ic_ne, xt_ir, xt_nop, mF_0 H, mF_1 H, mF_18 H, mF_5 H, mF_8 H, mA_63 H, mA_64 H, mA_65 H, mA_66 H, mA_67 H, mA_68 H, mA_69 H, mA_70 H, mA_71 H, xq_204_13_virtualm H, xq_205_13_virtualm H, xq_211_13_virtualm H, iN_add, iN_mul, iN_sub, iN_and, iN_or, iN_clr, iN_shl, iN_shr, tb_r1, b1_z, b1_or, b1_and, b1_or0, b1_or1, b1_0or, b1_t, b1_f, iN_lt, iN_inj, reduceIte, if_true, if_false, Nat.zero_add, Nat.add_zero, Bool.false_eq_true, Bool.true_eq_false, Nat.lt_irrefl, iN_az, not_true_eq_false, not_false_eq_true, Nat.reduceEqDiff, Nat.reduceLT, Nat.reduceAdd, Nat.reduceMul, Nat.reduceSub]
      rw [ha]
      rfl
    · intro k hk ih acc y1 y2 y3 ha
      have hb : bus σ k tab (σ 1 6) < 64 := bus_lt O (Nat.le_refl _) ht
      have inn : ∀ j, j ≤ (σ 1 0) → ∀ acc y3, acc = (sm (σ 1 6) fun l => wv σ l (tab l / (σ 1 5)) (tab l % (σ 1 5))) + (sm k fun u => σ 11 2 * gap σ (ctc σ (fun l => tab l / (σ 1 5)) u)) + σ 11 2 * (sm j fun y => b1 (decide ((bus σ k tab (σ 1 6) &&& dm σ y) >>> (y * (σ 1 1)) = 5))) → ev xs (d + 4) 212 8 ([.ref 62, .ref p, .int (nI acc), .int (nI k), .int (nI (bus σ k tab (σ 1 6))), .int (nI j), y3], [], h) = some (.inl (some (.int (nI (wt σ (fun l => tab l / (σ 1 5)) (fun l => tab l % (σ 1 5)))))), h) := by
        refine lp (σ 1 0) ?_ ?_
        · intro acc y3 ha
          rw [eb_212_8]
          simp (disch := first | assumption | omega | exact st8_a (Nat.le_of_ble_eq_true rfl)) only [eb_212_0, eb_212_2, eb_212_3, eb_212_4, eb_212_6, eb_212_7, eb_212_9, eb_212_10, eb_212_11, eb_212_12, eb_212_13, eb_212_14, eb_212_15, kl_a, kl_d, kl_f, kl_i, kl_l, kl_n, kl_r, xr_1, xr_10, xr_11, xr_12, xr_13, xr_14, xr_15, xr_2, xr_3, xr_30, xr_31, xr_32, xr_33, xr_34, xr_35, xr_36, xr_37, xr_38, xr_39, xr_4, xr_41, xr_43, xr_44, xr_5, xr_55, xr_56, xr_57, xr_66, af_0, af_1, xt_goto, xt_ib, xt_ic, xt_ic_ge, xt_ic_ne, xt_ir, xt_nop, mF_0 H, mF_1 H, mF_18 H, mF_5 H, mF_8 H, mA_63 H, mA_64 H, mA_65 H, mA_66 H, mA_67 H, mA_68 H, mA_69 H, mA_70 H, mA_71 H, xq_204_13_virtualm H, xq_205_13_virtualm H, xq_211_13_virtualm H, iN_add, iN_mul, iN_sub, iN_and, iN_or, iN_clr, iN_shl, iN_shr, tb_r1, b1_z, b1_or, b1_and, b1_or0, b1_or1, b1_0or, b1_t, b1_f, iN_lt, iN_inj, reduceIte, if_true, if_false, Nat.zero_add, Nat.add_zero, Bool.false_eq_true, Bool.true_eq_false, Nat.lt_irrefl, iN_az, not_true_eq_false, not_false_eq_true, Nat.reduceEqDiff, Nat.reduceLT, Nat.reduceAdd, Nat.reduceMul, Nat.reduceSub]
          exact ih _ _ _ _ (by rw [ha, sm, ← Nat.add_assoc]; rfl)
        · intro j hj ih2 acc y3 ha
          have h1 : bus σ k tab (σ 1 6) &&& dm σ j < 64 := Nat.lt_of_le_of_lt Nat.and_le_left hb
          have h3 : (bus σ k tab (σ 1 6) &&& dm σ j) >>> (j * (σ 1 1)) < 64 := Nat.lt_of_le_of_lt (Nat.shiftRight_le _ _) h1
          have h2 : j * (σ 1 1) < 32 := by
            have : j = 0 ∨ j = 1 := by omega
            rcases this with rfl | rfl <;> omega
          rw [eb_212_8]
          by_cases h4 : (bus σ k tab (σ 1 6) &&& dm σ j) >>> (j * (σ 1 1)) = 5
          · simp (disch := first | assumption | omega | exact st8_a (Nat.le_of_ble_eq_true rfl)) only [hj, m_205 O H hj, eq_true h4, eb_212_0, eb_212_2, eb_212_3, eb_212_4, eb_212_6, eb_212_7, eb_212_9, eb_212_10, eb_212_11, eb_212_12, eb_212_13, eb_212_14, eb_212_15, kl_a, kl_d, kl_f, kl_i, kl_l, kl_n, kl_r, xr_1, xr_10, xr_11, xr_12, xr_13, xr_14, xr_15, xr_2, xr_3, xr_30, xr_31, xr_32, xr_33, xr_34, xr_35, xr_36, xr_37, xr_38, xr_39, xr_4, xr_41, xr_43, xr_44, xr_5, xr_55, xr_56, xr_57, xr_66, af_0, af_1, xt_goto, xt_ib, xt_ic, xt_ic_ge, xt_ic_ne, xt_ir, xt_nop, mF_0 H, mF_1 H, mF_18 H, mF_5 H, mF_8 H, mA_63 H, mA_64 H, mA_65 H, mA_66 H, mA_67 H, mA_68 H, mA_69 H, mA_70 H, mA_71 H, xq_204_13_virtualm H, xq_205_13_virtualm H, xq_211_13_virtualm H, iN_add, iN_mul, iN_sub, iN_and, iN_or, iN_clr, iN_shl, iN_shr, tb_r1, b1_z, b1_or, b1_and, b1_or0, b1_or1, b1_0or, b1_t, b1_f, iN_lt, iN_inj, reduceIte, if_true, if_false, Nat.zero_add, Nat.add_zero, Bool.false_eq_true, Bool.true_eq_false, Nat.lt_irrefl, iN_az, not_true_eq_false, not_false_eq_true, Nat.reduceEqDiff, Nat.reduceLT, Nat.reduceAdd, Nat.reduceMul, Nat.reduceSub]
            exact ih2 _ _ (by rw [ha, sm, decide_eq_true h4, b1_t, Nat.mul_add, Nat.mul_one]; omega)
          · simp (disch := first | assumption | omega | exact st8_a (Nat.le_of_ble_eq_true rfl)) only [hj, m_205 O H hj, h4, eb_212_0, eb_212_2, eb_212_3, eb_212_4, eb_212_6, eb_212_7, eb_212_9, eb_212_10, eb_212_11, eb_212_12, eb_212_13, eb_212_14, eb_212_15, kl_a, kl_d, kl_f, kl_i, kl_l, kl_n, kl_r, xr_1, xr_10, xr_11, xr_12, xr_13, xr_14, xr_15, xr_2, xr_3, xr_30, xr_31, xr_32, xr_33, xr_34, xr_35, xr_36, xr_37, xr_38, xr_39, xr_4, xr_41, xr_43, xr_44, xr_5, xr_55, xr_56, xr_57, xr_66, af_0, af_1, xt_goto, xt_ib, xt_ic, xt_ic_ge, xt_ic_ne, xt_ir, xt_nop, mF_0 H, mF_1 H, mF_18 H, mF_5 H, mF_8 H, mA_63 H, mA_64 H, mA_65 H, mA_66 H, mA_67 H, mA_68 H, mA_69 H, mA_70 H, mA_71 H, xq_204_13_virtualm H, xq_205_13_virtualm H, xq_211_13_virtualm H, iN_add, iN_mul, iN_sub, iN_and, iN_or, iN_clr, iN_shl, iN_shr, tb_r1, b1_z, b1_or, b1_and, b1_or0, b1_or1, b1_0or, b1_t, b1_f, iN_lt, iN_inj, reduceIte, if_true, if_false, Nat.zero_add, Nat.add_zero, Bool.false_eq_true, Bool.true_eq_false, Nat.lt_irrefl, iN_az, not_true_eq_false, not_false_eq_true, Nat.reduceEqDiff, Nat.reduceLT, Nat.reduceAdd, Nat.reduceMul, Nat.reduceSub]
            exact ih2 _ _ (by rw [ha, sm, decide_eq_false h4, b1_f, Nat.add_zero])
      rw [eb_212_5]
      simp (disch := first | assumption | omega | exact st8_a (Nat.le_of_ble_eq_true rfl)) only [hk, m_204 O H hq hn hln (Nat.le_refl _) ht (show k < 2147483648 by omega), eb_212_0, eb_212_2, eb_212_3, eb_212_4, eb_212_6, eb_212_7, eb_212_9, eb_212_10, eb_212_11, eb_212_12, eb_212_13, eb_212_14, eb_212_15, kl_a, kl_d, kl_f, kl_i, kl_l, kl_n, kl_r, xr_1, xr_10, xr_11, xr_12, xr_13, xr_14, xr_15, xr_2, xr_3, xr_30, xr_31, xr_32, xr_33, xr_34, xr_35, xr_36, xr_37, xr_38, xr_39, xr_4, xr_41, xr_43, xr_44, xr_5, xr_55, xr_56, xr_57, xr_66, af_0, af_1, xt_goto, xt_ib, xt_ic, xt_ic_ge, xt_ic_ne, xt_ir, xt_nop, mF_0 H, mF_1 H, mF_18 H, mF_5 H, mF_8 H, mA_63 H, mA_64 H, mA_65 H, mA_66 H, mA_67 H, mA_68 H, mA_69 H, mA_70 H, mA_71 H, xq_204_13_virtualm H, xq_205_13_virtualm H, xq_211_13_virtualm H, iN_add, iN_mul, iN_sub, iN_and, iN_or, iN_clr, iN_shl, iN_shr, tb_r1, b1_z, b1_or, b1_and, b1_or0, b1_or1, b1_0or, b1_t, b1_f, iN_lt, iN_inj, reduceIte, if_true, if_false, Nat.zero_add, Nat.add_zero, Bool.false_eq_true, Bool.true_eq_false, Nat.lt_irrefl, iN_az, not_true_eq_false, not_false_eq_true, Nat.reduceEqDiff, Nat.reduceLT, Nat.reduceAdd, Nat.reduceMul, Nat.reduceSub]
      exact inn 0 (Nat.zero_le _) _ _ (by rw [ha, sm, Nat.mul_zero, Nat.add_zero])
  have key : ∀ k, k ≤ (σ 1 6) → ev xs (d + 4) 212 1 ([.ref 62, .ref p, .int (nI (sm k fun l => wv σ l (tab l / (σ 1 5)) (tab l % (σ 1 5)))), .int (nI k), .retAddr 9, .retAddr 9, .retAddr 9], [], h) = some (.inl (some (.int (nI (wt σ (fun l => tab l / (σ 1 5)) (fun l => tab l % (σ 1 5)))))), h) := by
    refine lp (σ 1 6) ?_ ?_
    · rw [eb_212_1]
      simp (disch := first | assumption | omega | exact st8_a (Nat.le_of_ble_eq_true rfl)) only [eb_212_0, eb_212_2, eb_212_3, eb_212_4, eb_212_6, eb_212_7, eb_212_9, eb_212_10, eb_212_11, eb_212_12, eb_212_13, eb_212_14, eb_212_15, kl_a, kl_d, kl_f, kl_i, kl_l, kl_n, kl_r, xr_1, xr_10, xr_11, xr_12, xr_13, xr_14, xr_15, xr_2, xr_3, xr_30, xr_31, xr_32, xr_33, xr_34, xr_35, xr_36, xr_37, xr_38, xr_39, xr_4, xr_41, xr_43, xr_44, xr_5, xr_55, xr_56, xr_57, xr_66, af_0, af_1, xt_goto, xt_ib, xt_ic, xt_ic_ge, xt_ic_ne, xt_ir, xt_nop, mF_0 H, mF_1 H, mF_18 H, mF_5 H, mF_8 H, mA_63 H, mA_64 H, mA_65 H, mA_66 H, mA_67 H, mA_68 H, mA_69 H, mA_70 H, mA_71 H, xq_204_13_virtualm H, xq_205_13_virtualm H, xq_211_13_virtualm H, iN_add, iN_mul, iN_sub, iN_and, iN_or, iN_clr, iN_shl, iN_shr, tb_r1, b1_z, b1_or, b1_and, b1_or0, b1_or1, b1_0or, b1_t, b1_f, iN_lt, iN_inj, reduceIte, if_true, if_false, Nat.zero_add, Nat.add_zero, Bool.false_eq_true, Bool.true_eq_false, Nat.lt_irrefl, iN_az, not_true_eq_false, not_false_eq_true, Nat.reduceEqDiff, Nat.reduceLT, Nat.reduceAdd, Nat.reduceMul, Nat.reduceSub]
      exact key2 0 (Nat.zero_le _) _ _ _ _ rfl
    · intro k hk ih
      rw [eb_212_1]
      rw [sm] at ih
      simp (disch := first | assumption | omega | exact st8_a (Nat.le_of_ble_eq_true rfl)) only [hk, q_ia hq, m_211 O H hk (ht k hk), eb_212_0, eb_212_2, eb_212_3, eb_212_4, eb_212_6, eb_212_7, eb_212_9, eb_212_10, eb_212_11, eb_212_12, eb_212_13, eb_212_14, eb_212_15, kl_a, kl_d, kl_f, kl_i, kl_l, kl_n, kl_r, xr_1, xr_10, xr_11, xr_12, xr_13, xr_14, xr_15, xr_2, xr_3, xr_30, xr_31, xr_32, xr_33, xr_34, xr_35, xr_36, xr_37, xr_38, xr_39, xr_4, xr_41, xr_43, xr_44, xr_5, xr_55, xr_56, xr_57, xr_66, af_0, af_1, xt_goto, xt_ib, xt_ic, xt_ic_ge, xt_ic_ne, xt_ir, xt_nop, mF_0 H, mF_1 H, mF_18 H, mF_5 H, mF_8 H, mA_63 H, mA_64 H, mA_65 H, mA_66 H, mA_67 H, mA_68 H, mA_69 H, mA_70 H, mA_71 H, xq_204_13_virtualm H, xq_205_13_virtualm H, xq_211_13_virtualm H, iN_add, iN_mul, iN_sub, iN_and, iN_or, iN_clr, iN_shl, iN_shr, tb_r1, b1_z, b1_or, b1_and, b1_or0, b1_or1, b1_0or, b1_t, b1_f, iN_lt, iN_inj, reduceIte, if_true, if_false, Nat.zero_add, Nat.add_zero, Bool.false_eq_true, Bool.true_eq_false, Nat.lt_irrefl, iN_az, not_true_eq_false, not_false_eq_true, Nat.reduceEqDiff, Nat.reduceLT, Nat.reduceAdd, Nat.reduceMul, Nat.reduceSub]
      exact ih
  simp (disch := first | assumption | omega | exact st8_a (Nat.le_of_ble_eq_true rfl)) only [eb_212_0, eb_212_2, eb_212_3, eb_212_4, eb_212_6, eb_212_7, eb_212_9, eb_212_10, eb_212_11, eb_212_12, eb_212_13, eb_212_14, eb_212_15, kl_a, kl_d, kl_f, kl_i, kl_l, kl_n, kl_r, xr_1, xr_10, xr_11, xr_12, xr_13, xr_14, xr_15, xr_2, xr_3, xr_30, xr_31, xr_32, xr_33, xr_34, xr_35, xr_36, xr_37, xr_38, xr_39, xr_4, xr_41, xr_43, xr_44, xr_5, xr_55, xr_56, xr_57, xr_66, af_0, af_1, xt_goto, xt_ib, xt_ic, xt_ic_ge, xt_ic_ne, xt_ir, xt_nop, mF_0 H, mF_1 H, mF_18 H, mF_5 H, mF_8 H, mA_63 H, mA_64 H, mA_65 H, mA_66 H, mA_67 H, mA_68 H, mA_69 H, mA_70 H, mA_71 H, xq_204_13_virtualm H, xq_205_13_virtualm H, xq_211_13_virtualm H, iN_add, iN_mul, iN_sub, iN_and, iN_or, iN_clr, iN_shl, iN_shr, tb_r1, b1_z, b1_or, b1_and, b1_or0, b1_or1, b1_0or, b1_t, b1_f, iN_lt, iN_inj, reduceIte, if_true, if_false, Nat.zero_add, Nat.add_zero, Bool.false_eq_true, Bool.true_eq_false, Nat.lt_irrefl, iN_az, not_true_eq_false, not_false_eq_true, Nat.reduceEqDiff, Nat.reduceLT, Nat.reduceAdd, Nat.reduceMul, Nat.reduceSub]
  exact key 0 (Nat.zero_le _)
set_option maxRecDepth 100000 in
theorem m_210 (O : Ok σ) (H : Mo σ μ ν h) (hq : h[p]? = some (oI (ar n tab))) (hn : n ≤ 6) (hln : (σ 1 6) ≤ n) (ht : ∀ l, l < (σ 1 6) → tab l < (σ 1 2) * (σ 1 5)) : ∃ b : Bool, (b = true ↔ flt σ (fun l => tab l / (σ 1 5)) (fun l => tab l % (σ 1 5)) = 0 ∧ brk σ (fun l => tab l / (σ 1 5)) (fun l => tab l % (σ 1 5)) = 0) ∧ ev xs (d + 6) 210 0 ([.ref 62, .ref p], [], h) = some (.inl (some (.int (nI (b1 b)))), h) := by
  obtain ⟨hD1, hD2, hH1, hH2, hS, hC, hT, hR, hL, hQ⟩ := Ok_b O
  have h1 : flt σ (fun l => tab l / (σ 1 5)) (fun l => tab l % (σ 1 5)) < 4294967296 := flt_lt O _ _
  have h2 : brk σ (fun l => tab l / (σ 1 5)) (fun l => tab l % (σ 1 5)) < 4294967296 := brk_lt O _ _
  by_cases h3 : flt σ (fun l => tab l / (σ 1 5)) (fun l => tab l % (σ 1 5)) = 0
  · by_cases h4 : brk σ (fun l => tab l / (σ 1 5)) (fun l => tab l % (σ 1 5)) = 0
    · refine ⟨true, by simp [h3, h4], ?_⟩
      simp (disch := first | assumption | omega | exact st8_a (Nat.le_of_ble_eq_true rfl)) only [m_209 O H hq hn hln ht, m_208 O H hq hn hln ht, h3, h4, eb_210_0, eb_210_1, eb_210_2, eb_210_3, eb_210_4, eb_210_5, eb_210_6, xr_1, xr_10, xr_11, xr_12, xr_13, xr_14, xr_15, xr_2, xr_27, xr_3, xr_4, xr_5, af_0, af_1, xt_goto, xt_ib, xt_ic, xt_if_ne, xt_ir, xt_nop, xq_208_13_virtualm H, xq_209_13_virtualm H, iN_add, iN_mul, iN_sub, iN_and, iN_or, iN_clr, iN_shl, iN_shr, tb_r1, b1_z, b1_or, b1_and, b1_or0, b1_or1, b1_0or, b1_t, b1_f, iN_lt, iN_inj, reduceIte, if_true, if_false, Nat.zero_add, Nat.add_zero, Bool.false_eq_true, Bool.true_eq_false, Nat.lt_irrefl, iN_az, not_true_eq_false, not_false_eq_true, Nat.reduceEqDiff, Nat.reduceLT, Nat.reduceAdd, Nat.reduceMul, Nat.reduceSub]
    · refine ⟨false, by simp [h4], ?_⟩
      simp (disch := first | assumption | omega | exact st8_a (Nat.le_of_ble_eq_true rfl)) only [m_209 O H hq hn hln ht, m_208 O H hq hn hln ht, h3, h4, eb_210_0, eb_210_1, eb_210_2, eb_210_3, eb_210_4, eb_210_5, eb_210_6, xr_1, xr_10, xr_11, xr_12, xr_13, xr_14, xr_15, xr_2, xr_27, xr_3, xr_4, xr_5, af_0, af_1, xt_goto, xt_ib, xt_ic, xt_if_ne, xt_ir, xt_nop, xq_208_13_virtualm H, xq_209_13_virtualm H, iN_add, iN_mul, iN_sub, iN_and, iN_or, iN_clr, iN_shl, iN_shr, tb_r1, b1_z, b1_or, b1_and, b1_or0, b1_or1, b1_0or, b1_t, b1_f, iN_lt, iN_inj, reduceIte, if_true, if_false, Nat.zero_add, Nat.add_zero, Bool.false_eq_true, Bool.true_eq_false, Nat.lt_irrefl, iN_az, not_true_eq_false, not_false_eq_true, Nat.reduceEqDiff, Nat.reduceLT, Nat.reduceAdd, Nat.reduceMul, Nat.reduceSub]
  · refine ⟨false, by simp [h3], ?_⟩
    simp (disch := first | assumption | omega | exact st8_a (Nat.le_of_ble_eq_true rfl)) only [m_209 O H hq hn hln ht, h3, eb_210_0, eb_210_1, eb_210_2, eb_210_3, eb_210_4, eb_210_5, eb_210_6, xr_1, xr_10, xr_11, xr_12, xr_13, xr_14, xr_15, xr_2, xr_27, xr_3, xr_4, xr_5, af_0, af_1, xt_goto, xt_ib, xt_ic, xt_if_ne, xt_ir, xt_nop, xq_208_13_virtualm H, xq_209_13_virtualm H, iN_add, iN_mul, iN_sub, iN_and, iN_or, iN_clr, iN_shl, iN_shr, tb_r1, b1_z, b1_or, b1_and, b1_or0, b1_or1, b1_0or, b1_t, b1_f, iN_lt, iN_inj, reduceIte, if_true, if_false, Nat.zero_add, Nat.add_zero, Bool.false_eq_true, Bool.true_eq_false, Nat.lt_irrefl, iN_az, not_true_eq_false, not_false_eq_true, Nat.reduceEqDiff, Nat.reduceLT, Nat.reduceAdd, Nat.reduceMul, Nat.reduceSub]
end Me
