/-! THE CLASS RuleSets: refresh -/
/-- f tells the n numbers below k with P, in their order -/
def EN (P : Nat → Prop) : Nat → Nat → (Nat → Nat) → Prop
  | 0, n, _ => n = 0
  | k + 1, n, f => (P k → ∃ n', n = n' + 1 ∧ f n' = k ∧ EN P k n' f) ∧ (¬ P k → EN P k n f)
def PP (σ : Nat → Nat → Nat) (m u : Nat) : Prop := pc 10 u = m ∧ ¬ KS σ u
def RS (σ : Nat → Nat → Nat) (n : Nat) (f : Nat → Nat) : Prop := (KS σ (alr σ) ∧ n = 0) ∨ (¬ KS σ (alr σ) ∧ ∃ m, (∀ u, u ≤ alr σ → pc 10 u < m → KS σ u) ∧ 0 < n ∧ EN (PP σ m) (alr σ + 1) n f)
abbrev RF : List Nat := [40, 41, 42, 19, 20, 21, 22, 23, 24, 25, 26, 27, 28, 29, 30, 31, 32, 33, 34, 35, 36]
def RV (σ M : Nat → Nat → Nat) : Prop := KI σ M ∧ (M 40 8 = 4294967295 ∨ M 40 8 ≤ M 1 8) ∧ (M 40 8 = M 1 8 → RS σ (M 40 5) (M 41) ∧ M 40 5 ≤ 252)
set_option maxRecDepth 100000 in
theorem EN_u {P : Nat → Prop} {k n n2 : Nat} {f f2 : Nat → Nat} (h : EN P k n f) (h2 : EN P k n2 f2) : n = n2 ∧ ∀ i, i < n → f i = f2 i := by
  induction k generalizing n n2 with
  | zero =>
    have a : n = 0 := h
    have b : n2 = 0 := h2
    exact ⟨a.trans b.symm, fun i hi => by omega⟩
  | succ k ih =>
    by_cases hp : P k
    · obtain ⟨a, rfl, a2, a3⟩ := h.1 hp
      obtain ⟨b, rfl, b2, b3⟩ := h2.1 hp
      obtain ⟨rfl, q⟩ := ih a3 b3
      refine ⟨rfl, fun i hi => ?_⟩
      by_cases hia : i = a
      · rw [hia, a2, b2]
      · exact q i (by omega)
    · exact ih (h.2 hp) (h2.2 hp)
set_option maxRecDepth 100000 in
theorem EN_cg {P : Nat → Prop} {k n : Nat} {f g : Nat → Nat} (hg : ∀ i, i < n → g i = f i) (h : EN P k n f) : EN P k n g := by
  induction k generalizing n with
  | zero => exact h
  | succ k ih =>
    refine ⟨fun hp => ?_, fun hp => ih hg (h.2 hp)⟩
    obtain ⟨a, rfl, a2, a3⟩ := h.1 hp
    exact ⟨a, rfl, by rw [hg a (by omega), a2], ih (fun i hi => hg i (by omega)) a3⟩
set_option maxRecDepth 100000 in
theorem EN_nz {P : Nat → Prop} {k n : Nat} {f : Nat → Nat} (h : EN P k n f) (hn : 0 < n) : ∃ u, u < k ∧ P u := by
  induction k generalizing n with
  | zero => have : n = 0 := h; omega
  | succ k ih =>
    by_cases hp : P k
    · exact ⟨k, by omega, hp⟩
    · obtain ⟨u, h1, h2⟩ := ih (h.2 hp) hn
      exact ⟨u, by omega, h2⟩
set_option maxRecDepth 100000 in
theorem EN_z {P : Nat → Prop} {k : Nat} {f : Nat → Nat} (h : EN P k 0 f) : ∀ u, u < k → ¬ P u := by
  induction k with
  | zero => intro u hu; omega
  | succ k ih =>
    intro u hu hp
    by_cases hk : P k
    · obtain ⟨a, h1, _⟩ := h.1 hk
      omega
    · by_cases huk : u = k
      · subst huk; exact hk hp
      · exact ih (h.2 hk) u (by omega) hp
def cnp (m k : Nat) : Nat := sm k fun u => b1 (decide (pc 10 u = m))
set_option maxRecDepth 100000 in
theorem EN_c {m k n : Nat} {P : Nat → Prop} {f : Nat → Nat} (hP : ∀ u, P u → pc 10 u = m) (h : EN P k n f) : n ≤ cnp m k := by
  induction k generalizing n with
  | zero => have : n = 0 := h; omega
  | succ k ih =>
    unfold cnp at ih ⊢
    rw [sm]
    by_cases hp : P k
    · obtain ⟨a, rfl, _, a3⟩ := h.1 hp
      rw [decide_eq_true (hP k hp), b1_t]
      have := ih a3
      omega
    · have := ih (h.2 hp)
      omega
set_option maxRecDepth 100000 in
theorem cnp_252 : ∀ m, m < 11 → cnp m 1024 ≤ 252 := by decide +kernel
set_option maxRecDepth 100000 in
theorem sm_sbn {n k : Nat} {f : Nat → Nat} (h : n ≤ k) : sm n f ≤ sm k f := by
  induction k with
  | zero =>
    have : n = 0 := by omega
    rw [this]
    exact Nat.le_refl _
  | succ k ih =>
    by_cases hn : n = k + 1
    · rw [hn]; exact Nat.le_refl _
    · have := ih (by omega)
      rw [sm]
      omega
set_option maxRecDepth 100000 in
theorem RS_u {σ : Nat → Nat → Nat} {n n2 : Nat} {f f2 : Nat → Nat} (h : RS σ n f) (h2 : RS σ n2 f2) : n = n2 ∧ ∀ i, i < n → f i = f2 i := by
  rcases h with ⟨a, b⟩ | ⟨a, m, b1', b2, b3⟩
  · rcases h2 with ⟨c, e⟩ | ⟨c, _⟩
    · exact ⟨b.trans e.symm, fun i hi => by omega⟩
    · exact absurd a c
  · rcases h2 with ⟨c, e⟩ | ⟨c, m2, c1, c2, c3⟩
    · exact absurd c a
    · obtain ⟨u, hu, hp⟩ := EN_nz b3 b2
      obtain ⟨u2, hu2, hp2⟩ := EN_nz c3 c2
      have e : m = m2 := by
        by_cases h3 : m < m2
        · exact absurd (c1 u (by omega) (by have := hp.1; omega)) hp.2
        · by_cases h4 : m2 < m
          · exact absurd (b1' u2 (by omega) (by have := hp2.1; omega)) hp2.2
          · omega
      subst e
      exact EN_u b3 c3
section Rd
variable {xs : List Int32} {σ M N : Nat → Nat → Nat} {R : ab_H} {d e l s r o u n t y v w k m : Nat}
set_option maxRecDepth 100000 in
theorem alr_pc (O : Ok σ) : pc 10 (alr σ) ≤ (σ 1 7) := by
  obtain ⟨hD1, hD2, hH1, hH2, hS, hC, hT, hR, hL, hQ⟩ := Ok_b O
  have : pc 10 (alr σ) = pc (σ 1 7) (alr σ) := pc_same (by omega) fun i h1 h2 => by
    unfold alr
    rw [Nat.one_shiftLeft, Nat.testBit_two_pow_sub_one]
    exact decide_eq_false (by omega)
  rw [this]
  exact pc_le _ _
/-- where the rows stand while refresh runs -/
def RZ (σ M N : Nat → Nat → Nat) : Prop := Fr RF M N ∧ KI σ N ∧ RI σ N ∧ N 40 8 = M 1 8
set_option maxRecDepth 100000 in
theorem s_52i (O : Ok σ) (hm : m ≤ (σ 1 7)) : ∀ k, k ≤ alr σ + 1 → ∀ N, RZ σ M N → EN (PP σ m) k (N 40 5) (N 41) → ∃ N', ev xs (e + 20) 52 10 ([.ref 40, .int (nI (alr σ)), .int (nI m), .int (nI k)], [], hc σ N R) = ev xs (e + 20) 52 7 ([.ref 40, .int (nI (alr σ)), .int (nI (m + 1)), .int (nI (alr σ + 1))], [], hc σ N' R) ∧ RZ σ M N' ∧ EN (PP σ m) (alr σ + 1) (N' 40 5) (N' 41) := by
  obtain ⟨hD1, hD2, hH1, hH2, hS, hC, hT, hR, hL, hQ⟩ := Ok_b O
  have hal := alr_lt O
  refine lp (alr σ + 1) ?_ ?_
  · intro N hz hE
    refine ⟨N, ?_, hz, hE⟩
    have h9 : (alr σ < alr σ + 1) = True := eq_true (Nat.lt_succ_self _)
    rw [eb_52_10]
    clear hz hE
    simp (disch := first | assumption | omega | exact st8_a (Nat.le_of_ble_eq_true rfl)) only [h9, eb_52_18, kl_a, kl_d, kl_f, kl_i, kl_l, kl_n, kl_r, xr_1, xr_10, xr_2, xr_27, xr_28, xr_29, xr_3, xr_30, xr_31, xr_32, xr_37, xr_38, xr_4, xr_42, xr_43, xr_5, xr_78, xr_8, xr_9, af_0, af_1, xt_goto, xt_ic_ge, xt_ic_gt, xt_ic_ne, xt_if_eq, xt_if_ne, xt_nop, xt_re, gF_40_0, gF_40_4, gF_40_5, gF_40_8, gF_1_7, gF_1_8, gW_2, gW_3, gW_4, gW_5, gW_6, gW_7, gW_8, gW_9, gW_10, gW_11, gW_13, gW_14, gW_16, gW_17, gW_20, gW_21, gW_22, gW_23, gW_24, gW_25, gW_26, gW_27, gW_30, gW_31, gW_32, gW_33, gW_34, gW_35, gW_36, gW_38, gW_39, gW_41, gW_42, gW_46, gW_47, gW_49, gW_50, gW_51, gW_53, gW_56, gW_57, gW_59, gW_60, gP_40_5, gP_40_7, gP_40_8, xq_277_200_static, xq_53_5_virtualc, xq_56_6_virtualc, iN_add, iN_mul, iN_sub, iN_and, iN_or, iN_clr, iN_shl, iN_shr, tb_r1, b1_z, b1_or, b1_and, b1_or0, b1_or1, b1_0or, b1_t, b1_f, iN_lt, iN_inj, reduceIte, if_true, if_false, Nat.zero_add, Nat.add_zero, Bool.false_eq_true, Bool.true_eq_false, Nat.lt_irrefl, iN_az, not_true_eq_false, not_false_eq_true, Nat.reduceEqDiff, Nat.reduceLT, Nat.reduceAdd, Nat.reduceMul, Nat.reduceSub]
  · intro k hk ih N hz hE
    have hk2 : k < 1024 := by omega
    have hk3 : ¬ alr σ < k := by omega
    have hpk := pc_le 10 k
    obtain ⟨z1, z2, z3, z4⟩ := hz
    rw [eb_52_10]
    by_cases hp : pc 10 k = m
    · obtain ⟨N1, b, e1, f1, f2, f3, f4, f5⟩ := s_53 (xs := xs) (e := e) (R := R) (M := N) O z2 z3 hk2
      have hN : N 40 5 < 252 ∨ 252 ≤ N 40 5 := by omega
      have hc1 := EN_c (m := m) (fun u h => h.1) hE
      have hc2 : cnp m (k + 1) ≤ cnp m 1024 := sm_sbn (by omega)
      have hc3 := cnp_252 m (by omega)
      have hc4 : cnp m (k + 1) = cnp m k + 1 := by
        unfold cnp
        rw [sm, decide_eq_true hp, b1_t]
      have h252 : N 40 5 < 252 := by omega
      have x8 : N1 40 8 = M 1 8 := by rw [f4 8 (by decide)]; exact z4
      have x5 : N1 40 5 = N 40 5 := f4 5 (by decide)
      have x41 : N1 41 = N 41 := f1 41 rfl
      have frw : Fr RF M N1 := Fr_t z1 (Fr_w f1 fun a ha => by simp at ha ⊢; omega)
      cases b
      · have hks : ¬ KS σ k := fun z => by have := f5.mpr z; cases this
        have em : up (up N1 41 (N1 40 5) k) 40 5 (N1 40 5 + 1) 40 5 = N1 40 5 + 1 := by rw [up_s, u1_s]
        obtain ⟨N2, e2, q1, q2⟩ := ih (up (up N1 41 (N1 40 5) k) 40 5 (N1 40 5 + 1)) ⟨Fr_p (Fr_p frw rfl) rfl, KI_fr (M := N1) (by rw [up_n (by decide), up_n (by decide)]) (by rw [up_n (by decide), up_n (by decide)]) (by rw [up_n (by decide), up_n (by decide)]) (by rw [up_n (by decide), up_n (by decide)]) (by rw [up_n (by decide), up_n (by decide)]) f2, by
          unfold RI
          rw [up_s, u1_n (by decide), up_n (by decide), up_n (by decide), up_n (by decide)]
          exact f3, by rw [up_s, u1_n (by decide), up_n (by decide)]; exact x8⟩ (by
          rw [em, up_n (by decide), up_s]
          refine ⟨fun _ => ⟨_, rfl, u1_s _ _ _, ?_⟩, fun z => absurd ⟨hp, hks⟩ z⟩
          refine EN_cg (f := N 41) (fun i hi => ?_) (by rw [x5]; exact hE)
          rw [u1_n (by omega), x41])
        refine ⟨N2, ?_, q1, q2⟩
        have h252b : N1 40 5 < 252 := by omega
        clear q1 q2 ih hE f5 hks z1 z2 z3 hN
        simp (disch := first | assumption | omega | exact st8_a (Nat.le_of_ble_eq_true rfl)) only [hk3, s_277, hp, h252, e1, eb_52_11, eb_52_12, eb_52_13, eb_52_14, eb_52_15, eb_52_16, eb_52_17, kl_a, kl_d, kl_f, kl_i, kl_l, kl_n, kl_r, xr_1, xr_10, xr_2, xr_27, xr_28, xr_29, xr_3, xr_30, xr_31, xr_32, xr_37, xr_38, xr_4, xr_42, xr_43, xr_5, xr_78, xr_8, xr_9, af_0, af_1, xt_goto, xt_ic_ge, xt_ic_gt, xt_ic_ne, xt_if_eq, xt_if_ne, xt_nop, xt_re, gF_40_0, gF_40_4, gF_40_5, gF_40_8, gF_1_7, gF_1_8, gW_2, gW_3, gW_4, gW_5, gW_6, gW_7, gW_8, gW_9, gW_10, gW_11, gW_13, gW_14, gW_16, gW_17, gW_20, gW_21, gW_22, gW_23, gW_24, gW_25, gW_26, gW_27, gW_30, gW_31, gW_32, gW_33, gW_34, gW_35, gW_36, gW_38, gW_39, gW_41, gW_42, gW_46, gW_47, gW_49, gW_50, gW_51, gW_53, gW_56, gW_57, gW_59, gW_60, gP_40_5, gP_40_7, gP_40_8, xq_277_200_static, xq_53_5_virtualc, xq_56_6_virtualc, iN_add, iN_mul, iN_sub, iN_and, iN_or, iN_clr, iN_shl, iN_shr, tb_r1, b1_z, b1_or, b1_and, b1_or0, b1_or1, b1_0or, b1_t, b1_f, iN_lt, iN_inj, reduceIte, if_true, if_false, Nat.zero_add, Nat.add_zero, Bool.false_eq_true, Bool.true_eq_false, Nat.lt_irrefl, iN_az, not_true_eq_false, not_false_eq_true, Nat.reduceEqDiff, Nat.reduceLT, Nat.reduceAdd, Nat.reduceMul, Nat.reduceSub]
        rw [up_n (by decide : (40 : Nat) ≠ 41)]
        exact e2
      · have hks := f5.mp rfl
        obtain ⟨N2, e2, q1, q2⟩ := ih N1 ⟨frw, f2, f3, x8⟩ ⟨fun z => absurd hks z.2, fun _ => by rw [x5, x41]; exact hE⟩
        refine ⟨N2, ?_, q1, q2⟩
        clear q1 q2 ih hE f5 hks z1 z2 z3 hN
        simp (disch := first | assumption | omega | exact st8_a (Nat.le_of_ble_eq_true rfl)) only [hk3, s_277, hp, h252, e1, eb_52_11, eb_52_12, eb_52_13, eb_52_14, eb_52_15, eb_52_17, kl_a, kl_d, kl_f, kl_i, kl_l, kl_n, kl_r, xr_1, xr_10, xr_2, xr_27, xr_28, xr_29, xr_3, xr_30, xr_31, xr_32, xr_37, xr_38, xr_4, xr_42, xr_43, xr_5, xr_78, xr_8, xr_9, af_0, af_1, xt_goto, xt_ic_ge, xt_ic_gt, xt_ic_ne, xt_if_eq, xt_if_ne, xt_nop, xt_re, gF_40_0, gF_40_4, gF_40_5, gF_40_8, gF_1_7, gF_1_8, gW_2, gW_3, gW_4, gW_5, gW_6, gW_7, gW_8, gW_9, gW_10, gW_11, gW_13, gW_14, gW_16, gW_17, gW_20, gW_21, gW_22, gW_23, gW_24, gW_25, gW_26, gW_27, gW_30, gW_31, gW_32, gW_33, gW_34, gW_35, gW_36, gW_38, gW_39, gW_41, gW_42, gW_46, gW_47, gW_49, gW_50, gW_51, gW_53, gW_56, gW_57, gW_59, gW_60, gP_40_5, gP_40_7, gP_40_8, xq_277_200_static, xq_53_5_virtualc, xq_56_6_virtualc, iN_add, iN_mul, iN_sub, iN_and, iN_or, iN_clr, iN_shl, iN_shr, tb_r1, b1_z, b1_or, b1_and, b1_or0, b1_or1, b1_0or, b1_t, b1_f, iN_lt, iN_inj, reduceIte, if_true, if_false, Nat.zero_add, Nat.add_zero, Bool.false_eq_true, Bool.true_eq_false, Nat.lt_irrefl, iN_az, not_true_eq_false, not_false_eq_true, Nat.reduceEqDiff, Nat.reduceLT, Nat.reduceAdd, Nat.reduceMul, Nat.reduceSub]
        exact e2
    · obtain ⟨N2, e2, q1, q2⟩ := ih N ⟨z1, z2, z3, z4⟩ ⟨fun z => absurd z.1 hp, fun _ => hE⟩
      refine ⟨N2, ?_, q1, q2⟩
      clear q1 q2 ih hE z1 z2 z3
      simp (disch := first | assumption | omega | exact st8_a (Nat.le_of_ble_eq_true rfl)) only [hk3, s_277, hp, eb_52_11, eb_52_12, eb_52_17, kl_a, kl_d, kl_f, kl_i, kl_l, kl_n, kl_r, xr_1, xr_10, xr_2, xr_27, xr_28, xr_29, xr_3, xr_30, xr_31, xr_32, xr_37, xr_38, xr_4, xr_42, xr_43, xr_5, xr_78, xr_8, xr_9, af_0, af_1, xt_goto, xt_ic_ge, xt_ic_gt, xt_ic_ne, xt_if_eq, xt_if_ne, xt_nop, xt_re, gF_40_0, gF_40_4, gF_40_5, gF_40_8, gF_1_7, gF_1_8, gW_2, gW_3, gW_4, gW_5, gW_6, gW_7, gW_8, gW_9, gW_10, gW_11, gW_13, gW_14, gW_16, gW_17, gW_20, gW_21, gW_22, gW_23, gW_24, gW_25, gW_26, gW_27, gW_30, gW_31, gW_32, gW_33, gW_34, gW_35, gW_36, gW_38, gW_39, gW_41, gW_42, gW_46, gW_47, gW_49, gW_50, gW_51, gW_53, gW_56, gW_57, gW_59, gW_60, gP_40_5, gP_40_7, gP_40_8, xq_277_200_static, xq_53_5_virtualc, xq_56_6_virtualc, iN_add, iN_mul, iN_sub, iN_and, iN_or, iN_clr, iN_shl, iN_shr, tb_r1, b1_z, b1_or, b1_and, b1_or0, b1_or1, b1_0or, b1_t, b1_f, iN_lt, iN_inj, reduceIte, if_true, if_false, Nat.zero_add, Nat.add_zero, Bool.false_eq_true, Bool.true_eq_false, Nat.lt_irrefl, iN_az, not_true_eq_false, not_false_eq_true, Nat.reduceEqDiff, Nat.reduceLT, Nat.reduceAdd, Nat.reduceMul, Nat.reduceSub]
      exact e2
end Rd
