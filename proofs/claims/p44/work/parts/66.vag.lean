/-! THE CLASS Values: refresh -/
/-- the values are stable: rules, partners, crowds -/
def SS (σ : Nat → Nat → Nat) (X : Nat → Nat) : Prop :=
  (∀ l, l < (σ 1 6) → ∀ i, (X l).testBit i = true → ∃ s r, i = s * 3 + r ∧ s < (σ 1 2) ∧ r < (σ 1 5) ∧ s0 σ (alr σ) (σ 1 7) l s ∧ r0 σ (alr σ) (σ 1 7) l r) ∧
  (∀ l, l < (σ 1 6) → ∀ s, s < (σ 1 2) → ∀ r, r < (σ 1 5) → (X l).testBit (s * 3 + r) = true → ∀ o, o < (σ 1 6) → o ≠ l → ∃ i, i < (σ 1 2) ∧ f0 σ (alr σ) (σ 1 7) l s o i ∧ ∃ r2, r2 < 3 ∧ (X o).testBit (i * 3 + r2) = true ∧ (cov σ l s &&& cov σ o i ≠ 0 → r2 ≠ r)) ∧
  CR σ X
/-- the largest stable values -/
def VS (σ : Nat → Nat → Nat) (Y : Nat → Nat) : Prop := SS σ Y ∧ ∀ X, SS σ X → Su σ X Y
def VI (σ M : Nat → Nat → Nat) : Prop := KI σ M ∧ (M 37 4 = 4294967295 ∨ M 37 4 ≤ M 1 8) ∧ (M 37 4 = M 1 8 → VS σ (M 38))
def Y0 (σ M : Nat → Nat → Nat) (l : Nat) : Nat := orn (σ 1 2) fun s => if (M 20 l).testBit s = true then M 21 l <<< (s * 3) else 0
set_option maxRecDepth 100000 in
theorem ur_c {M : Nat → Nat → Nat} {a c : Nat} (h : a ≠ c) {Y V : Nat → Nat} : ur (ur M a Y) c V = ur (ur M c V) a Y := by
  funext b
  unfold ur
  by_cases h1 : b = a
  · subst h1; simp [h]
  · by_cases h2 : b = c
    · subst h2; simp [h1]
    · simp [h1, h2]
set_option maxRecDepth 100000 in
theorem pc_one : ∀ a, a < 8 → ∀ i, i < 3 → ∀ j, j < 3 → (pc 10 a = 1 ∧ a.testBit i = true ∧ a.testBit j = true → i = j) := by decide +kernel
section Vg
variable {xs : List Int32} {σ M : Nat → Nat → Nat} {R : ab_H} {d l s r o u n g set : Nat} {X Y Z W V : Nat → Nat} {N : Nat → Nat → Nat} {b : Bool}
set_option maxRecDepth 100000 in
theorem VS_b (O : Ok σ) (h : SS σ Y) : ∀ l, l < (σ 1 6) → Y l < 262144 := fun l hl => mask_lt (n := 18) fun i hi => by
  obtain ⟨hD1, hD2, hH1, hH2, hS, hC, hT, hR, hL, hQ⟩ := Ok_b O
  obtain ⟨s, r, h1, h2, h3, _⟩ := h.1 l hl i hi
  omega
set_option maxRecDepth 100000 in
theorem A_20 (O : Ok σ) (hA : AskQ σ set M) (hl : l < (σ 1 6)) : M 20 l < 64 := mask_lt (n := 6) fun i hi => by
  obtain ⟨hD1, hD2, hH1, hH2, hS, hC, hT, hR, hL, hQ⟩ := Ok_b O
  have := (hA.1 l hl i hi).1
  omega
set_option maxRecDepth 100000 in
theorem A_21 (O : Ok σ) (hA : AskQ σ set M) (hl : l < (σ 1 6)) : M 21 l < 8 := mask_lt (n := 3) fun i hi => by
  obtain ⟨hD1, hD2, hH1, hH2, hS, hC, hT, hR, hL, hQ⟩ := Ok_b O
  have := ((hA.2.1 l hl i).mp hi).1
  omega
set_option maxRecDepth 100000 in
theorem A_23 (O : Ok σ) (hA : AskQ σ set M) (hl : l < (σ 1 6)) (hs : s < (σ 1 2)) (ho : o < (σ 1 6)) (hne : o ≠ l) : M 23 (pi l s o) < 64 := mask_lt (n := 6) fun i hi => by
  obtain ⟨hD1, hD2, hH1, hH2, hS, hC, hT, hR, hL, hQ⟩ := Ok_b O
  have := ((hA.2.2.1 l s o i hl ho (fun z => hne z.symm) hs).mp hi).1
  omega
set_option maxRecDepth 100000 in
theorem Y0_tb {i : Nat} : (Y0 σ M l).testBit i = true ↔ ∃ s, s < (σ 1 2) ∧ (M 20 l).testBit s = true ∧ s * 3 ≤ i ∧ (M 21 l).testBit (i - s * 3) = true := by
  unfold Y0
  rw [orn_tb]
  constructor
  · rintro ⟨k, h1, h2⟩
    by_cases h : (M 20 l).testBit k = true
    · rw [if_pos h, Nat.testBit_shiftLeft, Bool.and_eq_true, decide_eq_true_eq] at h2
      exact ⟨k, h1, h, h2⟩
    · rw [if_neg h, Nat.zero_testBit] at h2
      cases h2
  · rintro ⟨k, h1, h2, h3⟩
    exact ⟨k, h1, by rw [if_pos h2, Nat.testBit_shiftLeft, Bool.and_eq_true, decide_eq_true_eq]; exact h3⟩
set_option maxRecDepth 100000 in
theorem SS_LT (O : Ok σ) (hA : AskQ σ (alr σ) M) (hX : SS σ X) : LT σ (M 23) X := by
  obtain ⟨hD1, hD2, hH1, hH2, hS, hC, hT, hR, hL, hQ⟩ := Ok_b O
  intro l hl s hs r hr hx o ho hne
  obtain ⟨i, h1, h2, r2, h3, h4, h5⟩ := hX.2.1 l hl s hs r hr hx o ho hne
  refine ⟨i, h1, (hA.2.2.1 l s o i hl ho (fun z => hne z.symm) hs).mpr ⟨h1, h2, fun ⟨z1, z2⟩ => ?_⟩, r2, h3, h4, h5⟩
  obtain ⟨s', r', e1, e2, e3, -, e5⟩ := hX.1 l hl _ hx
  obtain ⟨s2, r2', f1, f2, f3, -, f5⟩ := hX.1 o ho _ h4
  have g1 : r = r' := by omega
  have g2 : r2 = r2' := by omega
  subst g1
  subst g2
  have m1 := (hA.2.1 l hl r).mpr ⟨e3, e5⟩
  have m2 := (hA.2.1 o ho r2).mpr ⟨f3, f5⟩
  rw [← z1.1] at m2
  exact h5 z2 (pc_one _ (A_21 O hA hl) r2 h3 r (by omega) ⟨z1.2, m2, m1⟩)
set_option maxRecDepth 100000 in
theorem SS_Y0 (O : Ok σ) (hA : AskQ σ (alr σ) M) (hX : SS σ X) : Su σ X (Y0 σ M) := by
  obtain ⟨hD1, hD2, hH1, hH2, hS, hC, hT, hR, hL, hQ⟩ := Ok_b O
  intro l hl i hi
  obtain ⟨s, r, h1, h2, h3, h4, h5⟩ := hX.1 l hl i hi
  refine Y0_tb.mpr ⟨s, h2, ?_, by omega, (hA.2.1 l hl _).mpr ⟨by omega, by rw [h1, Nat.add_sub_cancel_left]; exact h5⟩⟩
  have := hA.2.2.2.2.2 (fun l s r => l < (σ 1 6) ∧ s < (σ 1 2) ∧ r < (σ 1 5) ∧ (X l).testBit (s * 3 + r) = true) ?_ ?_ l hl s r ⟨hl, h2, h3, by rw [← h1]; exact hi⟩
  · exact this
  · intro l hl s r ⟨_, hs, hr, hx⟩
    refine ⟨hs, fun o ho hne => ?_⟩
    obtain ⟨i, z1, z2, r2, z3, z4, z5⟩ := SS_LT O hA hX l hl s hs r hr hx o ho hne
    obtain ⟨s2, r2', y1, y2, y3, _⟩ := hX.1 o ho _ z4
    exact ⟨i, r2, ⟨ho, z1, by omega, z4⟩, z2⟩
  · intro l hl s r ⟨_, hs, hr, hx⟩
    obtain ⟨s', r', y1, y2, y3, y4, y5⟩ := hX.1 l hl _ hx
    have : s = s' := by omega
    rw [this]
    exact y4
set_option maxRecDepth 100000 in
theorem SS_of (O : Ok σ) (hA : AskQ σ (alr σ) M) (h1 : Su σ Y (Y0 σ M)) (h2 : LT σ (M 23) Y) (h3 : CR σ Y) : SS σ Y := by
  obtain ⟨hD1, hD2, hH1, hH2, hS, hC, hT, hR, hL, hQ⟩ := Ok_b O
  refine ⟨fun l hl i hi => ?_, fun l hl s hs r hr hx o ho hne => ?_, h3⟩
  · obtain ⟨s, z1, z2, z3, z4⟩ := Y0_tb.mp (h1 l hl i hi)
    obtain ⟨y1, y2⟩ := (hA.2.1 l hl _).mp z4
    exact ⟨s, i - s * 3, by omega, z1, y1, (hA.1 l hl s z2).2, y2⟩
  · obtain ⟨i, z1, z2, z3⟩ := h2 l hl s hs r hr hx o ho hne
    exact ⟨i, z1, ((hA.2.2.1 l s o i hl ho (fun z => hne z.symm) hs).mp z2).2.1, z3⟩
set_option maxRecDepth 100000 in
theorem LT_cg {f : Nat → Nat} (h : ∀ l, l < (σ 1 6) → Z l = Y l) (hh : LT σ f Y) : LT σ f Z := by
  intro l hl s hs r hr hx o ho hne
  rw [h l hl] at hx
  obtain ⟨i, z1, z2, r2, z3, z4⟩ := hh l hl s hs r hr hx o ho hne
  exact ⟨i, z1, z2, r2, z3, by rw [h o ho]; exact z4⟩
set_option maxRecDepth 100000 in
theorem CR_cg (h : ∀ l, l < (σ 1 6) → Z l = Y l) (hh : CR σ Z) : CR σ Y := fun p hp u hu => CG_cg h (hh p hp u hu)
set_option maxRecDepth 100000 in
theorem tot_le (O : Ok σ) : tot σ Y ≤ 108 := by
  obtain ⟨hD1, hD2, hH1, hH2, hS, hC, hT, hR, hL, hQ⟩ := Ok_b O
  have := sm_le (n := (σ 1 6)) (c := 18) (f := fun l => pc 18 (Y l)) fun l _ => pc_le 18 _
  unfold tot
  omega
set_option maxRecDepth 100000 in
theorem s_104r (O : Ok σ) (hA : AskQ σ (alr σ) M) : ∀ j, j ≤ 109 → ∀ Y V (a : Bool) (y9 : Value), (∀ l, l < (σ 1 6) → Y l < 262144) → (a = true → tot σ Y + j ≤ 108) → (a = false → LT σ (M 23) Y ∧ CR σ Y) → ∃ Z V2, ev xs (d + 6) 104 9 ([.ref 37, .int (nI (b1 a)), .int (nI j), y9], [], hc σ (ur (ur M 38 Y) 39 V) R) = some (.inl none, hc σ (ur (ur M 38 Z) 39 V2) R) ∧ Su σ Z Y ∧ LT σ (M 23) Z ∧ CR σ Z ∧ ∀ X, SS σ X → Su σ X Y → Su σ X Z := by
  obtain ⟨hD1, hD2, hH1, hH2, hS, hC, hT, hR, hL, hQ⟩ := Ok_b O
  refine lp 109 ?_ ?_
  · intro Y V a y9 hY h1 h2
    cases a
    · obtain ⟨h3, h4⟩ := h2 rfl
      refine ⟨Y, V, ?_, Su_r, h3, h4, fun _ _ h => h⟩
      rw [eb_104_9]
      simp (disch := first | assumption | omega | exact st8_a (Nat.le_of_ble_eq_true rfl)) only [eb_104_18, kl_a, kl_d, kl_f, kl_i, kl_l, kl_n, kl_r, xr_1, xr_10, xr_2, xr_27, xr_28, xr_29, xr_3, xr_30, xr_31, xr_32, xr_37, xr_4, xr_42, xr_5, xr_70, xr_73, af_0, af_1, xt_goto, xt_ic_ge, xt_ic_gt, xt_ic_ne, xt_if_eq, xt_if_ne, xt_nop, xt_re, gF_37_0, gF_37_1, gF_37_2, gF_37_4, gF_1_6, gF_1_8, gW_2, gW_3, gW_4, gW_5, gW_6, gW_7, gW_8, gW_9, gW_10, gW_11, gW_13, gW_14, gW_16, gW_17, gW_20, gW_21, gW_22, gW_23, gW_24, gW_25, gW_26, gW_27, gW_30, gW_31, gW_32, gW_33, gW_34, gW_35, gW_36, gW_38, gW_39, gW_41, gW_42, gW_46, gW_47, gW_49, gW_50, gW_51, gW_53, gW_56, gW_57, gW_59, gW_60, gP_37_4, xq_109_10_virtualc, xq_110_10_virtualc, xq_113_10_virtualc, xq_26_3_virtualc, xq_56_6_virtualc, iN_add, iN_mul, iN_sub, iN_and, iN_or, iN_clr, iN_shl, iN_shr, tb_r1, b1_z, b1_or, b1_and, b1_or0, b1_or1, b1_0or, b1_t, b1_f, iN_lt, iN_inj, reduceIte, if_true, if_false, Nat.zero_add, Nat.add_zero, Bool.false_eq_true, Bool.true_eq_false, Nat.lt_irrefl, iN_az, not_true_eq_false, not_false_eq_true, Nat.reduceEqDiff, Nat.reduceLT, Nat.reduceAdd, Nat.reduceMul, Nat.reduceSub]
    · have := h1 rfl
      omega
  · intro j hj ih Y V a y9 hY h1 h2
    cases a
    · obtain ⟨h3, h4⟩ := h2 rfl
      refine ⟨Y, V, ?_, Su_r, h3, h4, fun _ _ h => h⟩
      have hj2 : ¬ 108 < j := by omega
      rw [eb_104_9]
      simp (disch := first | assumption | omega | exact st8_a (Nat.le_of_ble_eq_true rfl)) only [hj2, eb_104_10, eb_104_18, kl_a, kl_d, kl_f, kl_i, kl_l, kl_n, kl_r, xr_1, xr_10, xr_2, xr_27, xr_28, xr_29, xr_3, xr_30, xr_31, xr_32, xr_37, xr_4, xr_42, xr_5, xr_70, xr_73, af_0, af_1, xt_goto, xt_ic_ge, xt_ic_gt, xt_ic_ne, xt_if_eq, xt_if_ne, xt_nop, xt_re, gF_37_0, gF_37_1, gF_37_2, gF_37_4, gF_1_6, gF_1_8, gW_2, gW_3, gW_4, gW_5, gW_6, gW_7, gW_8, gW_9, gW_10, gW_11, gW_13, gW_14, gW_16, gW_17, gW_20, gW_21, gW_22, gW_23, gW_24, gW_25, gW_26, gW_27, gW_30, gW_31, gW_32, gW_33, gW_34, gW_35, gW_36, gW_38, gW_39, gW_41, gW_42, gW_46, gW_47, gW_49, gW_50, gW_51, gW_53, gW_56, gW_57, gW_59, gW_60, gP_37_4, xq_109_10_virtualc, xq_110_10_virtualc, xq_113_10_virtualc, xq_26_3_virtualc, xq_56_6_virtualc, iN_add, iN_mul, iN_sub, iN_and, iN_or, iN_clr, iN_shl, iN_shr, tb_r1, b1_z, b1_or, b1_and, b1_or0, b1_or1, b1_0or, b1_t, b1_f, iN_lt, iN_inj, reduceIte, if_true, if_false, Nat.zero_add, Nat.add_zero, Bool.false_eq_true, Bool.true_eq_false, Nat.lt_irrefl, iN_az, not_true_eq_false, not_false_eq_true, Nat.reduceEqDiff, Nat.reduceLT, Nat.reduceAdd, Nat.reduceMul, Nat.reduceSub]
    · have ht := h1 rfl
      obtain ⟨Z1, c1, e1, p1, p2⟩ := s_110 (xs := xs) (d := d + 2) (M := ur M 39 V) (R := R) (Y := Y) (T := SS σ) O (fun l hl s hs o ho hne => by rw [ur_n (by decide)]; exact A_23 O hA hl hs ho hne) (fun l hl s hs => by rw [ur_n (by decide)]; exact hA.2.2.2.2.1 l hl s hs) (fun X hX => by rw [ur_n (by decide)]; exact SS_LT O hA hX) hY
      rw [← ur_c (a := 38) (c := 39) (Y := Y) (by decide), ← ur_c (a := 38) (c := 39) (Y := Z1) (by decide), show d + 2 + 3 = d + 5 from rfl] at e1
      rw [ur_n (by decide)] at p2
      have hY1 := Su_lt p1.1 hY
      obtain ⟨Z2, V2, c2, e2, q1, q2⟩ := s_113 (xs := xs) (d := d) (M := M) (R := R) (Y := Z1) (V := V) (T := SS σ) O hA.2.2.2.2.1 (fun X hX => hX.2.2) hY1
      have hd := DR_t p1 q1
      obtain ⟨Z, V3, e, r1, r2, r3, r4⟩ := ih Z2 V2 (c1 || c2) (.int (nI (b1 c1))) (Su_lt q1.1 hY1) (fun h => by have := hd.2.2.1 h; omega) (fun h => by
        have hh := h
        rw [Bool.or_eq_false_iff] at hh
        refine ⟨LT_cg (hd.2.1 h) (p2 hh.1), CR_cg (fun l hl => ?_) (q2 hh.2)⟩
        exact (q1.2.1 hh.2 l hl).symm)
      refine ⟨Z, V3, ?_, Su_t r1 hd.1, r2, r3, fun X hX hS => r4 X hX (hd.2.2.2 X hX hS)⟩
      have hj2 : ¬ 108 < j := by omega
      rw [eb_104_9]
      clear r1 r2 r3 r4 hd q1 q2 p1 p2 ih h1 h2
      cases c2 <;> cases c1
      · simp (disch := first | assumption | omega | exact st8_a (Nat.le_of_ble_eq_true rfl)) only [hj2, e1, e2, eb_104_10, eb_104_11, eb_104_12, eb_104_13, eb_104_14, eb_104_16, eb_104_17, kl_a, kl_d, kl_f, kl_i, kl_l, kl_n, kl_r, xr_1, xr_10, xr_2, xr_27, xr_28, xr_29, xr_3, xr_30, xr_31, xr_32, xr_37, xr_4, xr_42, xr_5, xr_70, xr_73, af_0, af_1, xt_goto, xt_ic_ge, xt_ic_gt, xt_ic_ne, xt_if_eq, xt_if_ne, xt_nop, xt_re, gF_37_0, gF_37_1, gF_37_2, gF_37_4, gF_1_6, gF_1_8, gW_2, gW_3, gW_4, gW_5, gW_6, gW_7, gW_8, gW_9, gW_10, gW_11, gW_13, gW_14, gW_16, gW_17, gW_20, gW_21, gW_22, gW_23, gW_24, gW_25, gW_26, gW_27, gW_30, gW_31, gW_32, gW_33, gW_34, gW_35, gW_36, gW_38, gW_39, gW_41, gW_42, gW_46, gW_47, gW_49, gW_50, gW_51, gW_53, gW_56, gW_57, gW_59, gW_60, gP_37_4, xq_109_10_virtualc, xq_110_10_virtualc, xq_113_10_virtualc, xq_26_3_virtualc, xq_56_6_virtualc, iN_add, iN_mul, iN_sub, iN_and, iN_or, iN_clr, iN_shl, iN_shr, tb_r1, b1_z, b1_or, b1_and, b1_or0, b1_or1, b1_0or, b1_t, b1_f, iN_lt, iN_inj, reduceIte, if_true, if_false, Nat.zero_add, Nat.add_zero, Bool.false_eq_true, Bool.true_eq_false, Nat.lt_irrefl, iN_az, not_true_eq_false, not_false_eq_true, Nat.reduceEqDiff, Nat.reduceLT, Nat.reduceAdd, Nat.reduceMul, Nat.reduceSub]
        exact e
      · simp (disch := first | assumption | omega | exact st8_a (Nat.le_of_ble_eq_true rfl)) only [hj2, e1, e2, eb_104_10, eb_104_11, eb_104_12, eb_104_13, eb_104_14, eb_104_15, eb_104_17, kl_a, kl_d, kl_f, kl_i, kl_l, kl_n, kl_r, xr_1, xr_10, xr_2, xr_27, xr_28, xr_29, xr_3, xr_30, xr_31, xr_32, xr_37, xr_4, xr_42, xr_5, xr_70, xr_73, af_0, af_1, xt_goto, xt_ic_ge, xt_ic_gt, xt_ic_ne, xt_if_eq, xt_if_ne, xt_nop, xt_re, gF_37_0, gF_37_1, gF_37_2, gF_37_4, gF_1_6, gF_1_8, gW_2, gW_3, gW_4, gW_5, gW_6, gW_7, gW_8, gW_9, gW_10, gW_11, gW_13, gW_14, gW_16, gW_17, gW_20, gW_21, gW_22, gW_23, gW_24, gW_25, gW_26, gW_27, gW_30, gW_31, gW_32, gW_33, gW_34, gW_35, gW_36, gW_38, gW_39, gW_41, gW_42, gW_46, gW_47, gW_49, gW_50, gW_51, gW_53, gW_56, gW_57, gW_59, gW_60, gP_37_4, xq_109_10_virtualc, xq_110_10_virtualc, xq_113_10_virtualc, xq_26_3_virtualc, xq_56_6_virtualc, iN_add, iN_mul, iN_sub, iN_and, iN_or, iN_clr, iN_shl, iN_shr, tb_r1, b1_z, b1_or, b1_and, b1_or0, b1_or1, b1_0or, b1_t, b1_f, iN_lt, iN_inj, reduceIte, if_true, if_false, Nat.zero_add, Nat.add_zero, Bool.false_eq_true, Bool.true_eq_false, Nat.lt_irrefl, iN_az, not_true_eq_false, not_false_eq_true, Nat.reduceEqDiff, Nat.reduceLT, Nat.reduceAdd, Nat.reduceMul, Nat.reduceSub]
        exact e
      · simp (disch := first | assumption | omega | exact st8_a (Nat.le_of_ble_eq_true rfl)) only [hj2, e1, e2, eb_104_10, eb_104_11, eb_104_12, eb_104_13, eb_104_15, eb_104_17, kl_a, kl_d, kl_f, kl_i, kl_l, kl_n, kl_r, xr_1, xr_10, xr_2, xr_27, xr_28, xr_29, xr_3, xr_30, xr_31, xr_32, xr_37, xr_4, xr_42, xr_5, xr_70, xr_73, af_0, af_1, xt_goto, xt_ic_ge, xt_ic_gt, xt_ic_ne, xt_if_eq, xt_if_ne, xt_nop, xt_re, gF_37_0, gF_37_1, gF_37_2, gF_37_4, gF_1_6, gF_1_8, gW_2, gW_3, gW_4, gW_5, gW_6, gW_7, gW_8, gW_9, gW_10, gW_11, gW_13, gW_14, gW_16, gW_17, gW_20, gW_21, gW_22, gW_23, gW_24, gW_25, gW_26, gW_27, gW_30, gW_31, gW_32, gW_33, gW_34, gW_35, gW_36, gW_38, gW_39, gW_41, gW_42, gW_46, gW_47, gW_49, gW_50, gW_51, gW_53, gW_56, gW_57, gW_59, gW_60, gP_37_4, xq_109_10_virtualc, xq_110_10_virtualc, xq_113_10_virtualc, xq_26_3_virtualc, xq_56_6_virtualc, iN_add, iN_mul, iN_sub, iN_and, iN_or, iN_clr, iN_shl, iN_shr, tb_r1, b1_z, b1_or, b1_and, b1_or0, b1_or1, b1_0or, b1_t, b1_f, iN_lt, iN_inj, reduceIte, if_true, if_false, Nat.zero_add, Nat.add_zero, Bool.false_eq_true, Bool.true_eq_false, Nat.lt_irrefl, iN_az, not_true_eq_false, not_false_eq_true, Nat.reduceEqDiff, Nat.reduceLT, Nat.reduceAdd, Nat.reduceMul, Nat.reduceSub]
        exact e
      · simp (disch := first | assumption | omega | exact st8_a (Nat.le_of_ble_eq_true rfl)) only [hj2, e1, e2, eb_104_10, eb_104_11, eb_104_12, eb_104_13, eb_104_15, eb_104_17, kl_a, kl_d, kl_f, kl_i, kl_l, kl_n, kl_r, xr_1, xr_10, xr_2, xr_27, xr_28, xr_29, xr_3, xr_30, xr_31, xr_32, xr_37, xr_4, xr_42, xr_5, xr_70, xr_73, af_0, af_1, xt_goto, xt_ic_ge, xt_ic_gt, xt_ic_ne, xt_if_eq, xt_if_ne, xt_nop, xt_re, gF_37_0, gF_37_1, gF_37_2, gF_37_4, gF_1_6, gF_1_8, gW_2, gW_3, gW_4, gW_5, gW_6, gW_7, gW_8, gW_9, gW_10, gW_11, gW_13, gW_14, gW_16, gW_17, gW_20, gW_21, gW_22, gW_23, gW_24, gW_25, gW_26, gW_27, gW_30, gW_31, gW_32, gW_33, gW_34, gW_35, gW_36, gW_38, gW_39, gW_41, gW_42, gW_46, gW_47, gW_49, gW_50, gW_51, gW_53, gW_56, gW_57, gW_59, gW_60, gP_37_4, xq_109_10_virtualc, xq_110_10_virtualc, xq_113_10_virtualc, xq_26_3_virtualc, xq_56_6_virtualc, iN_add, iN_mul, iN_sub, iN_and, iN_or, iN_clr, iN_shl, iN_shr, tb_r1, b1_z, b1_or, b1_and, b1_or0, b1_or1, b1_0or, b1_t, b1_f, iN_lt, iN_inj, reduceIte, if_true, if_false, Nat.zero_add, Nat.add_zero, Bool.false_eq_true, Bool.true_eq_false, Nat.lt_irrefl, iN_az, not_true_eq_false, not_false_eq_true, Nat.reduceEqDiff, Nat.reduceLT, Nat.reduceAdd, Nat.reduceMul, Nat.reduceSub]
        exact e
set_option maxRecDepth 100000 in
theorem KI_fr (h1 : N 1 = M 1) (h19 : N 19 = M 19) (h24 : N 24 = M 24) (h25 : N 25 = M 25) (h32 : N 32 = M 32) (h : KI σ M) : KI σ N := by
  unfold KI at h ⊢
  rw [h1, h19, h32]
  exact ⟨h.1, h.2.1, fun z => GO_fr h24 h25 h19 (h.2.2.1 z), h.2.2.2⟩
set_option maxRecDepth 100000 in
theorem s_104 (O : Ok σ) (hV : VI σ M) : ∃ M', ev xs (d + 6) 104 0 ([.ref 37, .retAddr 9, .retAddr 9, .retAddr 9], [], hc σ M R) = some (.inl none, hc σ M' R) ∧ Fr (37 :: 38 :: 39 :: QQ) M M' ∧ VI σ M' ∧ VS σ (M' 38) ∧ M' 37 4 = M 1 8 := by
  obtain ⟨hD1, hD2, hH1, hH2, hS, hC, hT, hR, hL, hQ⟩ := Ok_b O
  obtain ⟨hK, h37, hVS⟩ := hV
  have hch := hK.1
  have h37b : M 37 4 < 4294967296 := by omega
  by_cases hk : M 37 4 = M 1 8
  · refine ⟨M, ?_, Fr_r _ _, ⟨hK, h37, hVS⟩, hVS hk, hk⟩
    clear hVS
    simp (disch := first | assumption | omega | exact st8_a (Nat.le_of_ble_eq_true rfl)) only [hk, eb_104_0, eb_104_1, kl_a, kl_d, kl_f, kl_i, kl_l, kl_n, kl_r, xr_1, xr_10, xr_2, xr_27, xr_28, xr_29, xr_3, xr_30, xr_31, xr_32, xr_37, xr_4, xr_42, xr_5, xr_70, xr_73, af_0, af_1, xt_goto, xt_ic_ge, xt_ic_gt, xt_ic_ne, xt_if_eq, xt_if_ne, xt_nop, xt_re, gF_37_0, gF_37_1, gF_37_2, gF_37_4, gF_1_6, gF_1_8, gW_2, gW_3, gW_4, gW_5, gW_6, gW_7, gW_8, gW_9, gW_10, gW_11, gW_13, gW_14, gW_16, gW_17, gW_20, gW_21, gW_22, gW_23, gW_24, gW_25, gW_26, gW_27, gW_30, gW_31, gW_32, gW_33, gW_34, gW_35, gW_36, gW_38, gW_39, gW_41, gW_42, gW_46, gW_47, gW_49, gW_50, gW_51, gW_53, gW_56, gW_57, gW_59, gW_60, gP_37_4, xq_109_10_virtualc, xq_110_10_virtualc, xq_113_10_virtualc, xq_26_3_virtualc, xq_56_6_virtualc, iN_add, iN_mul, iN_sub, iN_and, iN_or, iN_clr, iN_shl, iN_shr, tb_r1, b1_z, b1_or, b1_and, b1_or0, b1_or1, b1_0or, b1_t, b1_f, iN_lt, iN_inj, reduceIte, if_true, if_false, Nat.zero_add, Nat.add_zero, Bool.false_eq_true, Bool.true_eq_false, Nat.lt_irrefl, iN_az, not_true_eq_false, not_false_eq_true, Nat.reduceEqDiff, Nat.reduceLT, Nat.reduceAdd, Nat.reduceMul, Nat.reduceSub]
  · obtain ⟨N, e2, f2, kI, -, -, -, -, hA⟩ := ask_ok (xs := xs) (e := d + 1) (M := up M 37 4 (M 1 8)) (R := R) O (alr_lt O) (KI_fr (M := M) (up_n (by decide)) (up_n (by decide)) (up_n (by decide)) (up_n (by decide)) (up_n (by decide)) hK)
    have hN1 : N 1 = M 1 := by rw [f2 1 rfl, up_n (by decide)]
    have hN37 : N 37 4 = M 1 8 := by rw [f2 37 rfl, up_s, u1_s]
    have beg : ∀ k, k ≤ (σ 1 6) → ∀ Y, (∀ l, l < k → Y l = Y0 σ N l) → ∀ z y9, ∃ Z V, ev xs (d + 6) 104 5 ([.ref 37, .int (nI k), z, y9], [], hc σ (ur (ur N 38 Y) 39 (N 39)) R) = some (.inl none, hc σ (ur (ur N 38 Z) 39 V) R) ∧ VS σ Z := by
      refine lp (σ 1 6) ?_ ?_
      · intro Y hY z y9
        have hb : ∀ l, l < (σ 1 6) → Y l < 262144 := fun l hl => by
          rw [hY l hl]
          refine mask_lt (n := 18) fun i hi => ?_
          obtain ⟨s, z1, z2, z3, z4⟩ := Y0_tb.mp hi
          have := ((hA.2.1 l hl _).mp z4).1
          omega
        obtain ⟨Z, V, e, q1, q2, q3, q4⟩ := s_104r (xs := xs) (d := d) (R := R) (M := N) O hA 0 (by decide) Y (N 39) true y9 hb (fun _ => by have := tot_le O (Y := Y); omega) (fun h => by cases h)
        have hYY : Su σ Y (Y0 σ N) := fun l hl i hi => by rw [← hY l hl]; exact hi
        have hYZ : Su σ (Y0 σ N) Y := fun l hl i hi => by rw [hY l hl]; exact hi
        refine ⟨Z, V, ?_, SS_of O hA (Su_t q1 hYY) q2 q3, fun X hX => q4 X hX (Su_t (SS_Y0 O hA hX) hYZ)⟩
        rw [eb_104_5]
        clear q1 q2 q3 q4 hYY hYZ
        simp (disch := first | assumption | omega | exact st8_a (Nat.le_of_ble_eq_true rfl)) only [eb_104_8, kl_a, kl_d, kl_f, kl_i, kl_l, kl_n, kl_r, xr_1, xr_10, xr_2, xr_27, xr_28, xr_29, xr_3, xr_30, xr_31, xr_32, xr_37, xr_4, xr_42, xr_5, xr_70, xr_73, af_0, af_1, xt_goto, xt_ic_ge, xt_ic_gt, xt_ic_ne, xt_if_eq, xt_if_ne, xt_nop, xt_re, gF_37_0, gF_37_1, gF_37_2, gF_37_4, gF_1_6, gF_1_8, gW_2, gW_3, gW_4, gW_5, gW_6, gW_7, gW_8, gW_9, gW_10, gW_11, gW_13, gW_14, gW_16, gW_17, gW_20, gW_21, gW_22, gW_23, gW_24, gW_25, gW_26, gW_27, gW_30, gW_31, gW_32, gW_33, gW_34, gW_35, gW_36, gW_38, gW_39, gW_41, gW_42, gW_46, gW_47, gW_49, gW_50, gW_51, gW_53, gW_56, gW_57, gW_59, gW_60, gP_37_4, xq_109_10_virtualc, xq_110_10_virtualc, xq_113_10_virtualc, xq_26_3_virtualc, xq_56_6_virtualc, iN_add, iN_mul, iN_sub, iN_and, iN_or, iN_clr, iN_shl, iN_shr, tb_r1, b1_z, b1_or, b1_and, b1_or0, b1_or1, b1_0or, b1_t, b1_f, iN_lt, iN_inj, reduceIte, if_true, if_false, Nat.zero_add, Nat.add_zero, Bool.false_eq_true, Bool.true_eq_false, Nat.lt_irrefl, iN_az, not_true_eq_false, not_false_eq_true, Nat.reduceEqDiff, Nat.reduceLT, Nat.reduceAdd, Nat.reduceMul, Nat.reduceSub]
        exact e
      · intro k hk ih Y hY z y9
        have e1 := s_109 (xs := xs) (d := d + 5) (M := ur (ur N 38 Y) 39 (N 39)) (R := R) O hk (by rw [ur_n (by decide), ur_n (by decide)]; exact A_20 O hA hk) (by rw [ur_n (by decide), ur_n (by decide)]; exact A_21 O hA hk)
        rw [ur_n (by decide), ur_n (by decide), ur_n (by decide), ur_n (by decide)] at e1
        obtain ⟨Z, V, e, q⟩ := ih (u1 Y k (Y0 σ N k)) (fun l hl => by
          by_cases h : l = k
          · subst h; rw [u1_s]
          · rw [u1_n h]; exact hY l (by omega)) z y9
        refine ⟨Z, V, ?_, q⟩
        have e5 : up (ur (ur N 38 Y) 39 (N 39)) 38 k (Y0 σ N k) = ur (ur N 38 (u1 Y k (Y0 σ N k))) 39 (N 39) := by
          rw [ur_c (by decide), ur_up, ur_c (by decide)]
        unfold Y0 at e5 e
        rw [eb_104_5]
        clear q ih
        simp (disch := first | assumption | omega | exact st8_a (Nat.le_of_ble_eq_true rfl)) only [hk, e1, e5, eb_104_6, eb_104_7, kl_a, kl_d, kl_f, kl_i, kl_l, kl_n, kl_r, xr_1, xr_10, xr_2, xr_27, xr_28, xr_29, xr_3, xr_30, xr_31, xr_32, xr_37, xr_4, xr_42, xr_5, xr_70, xr_73, af_0, af_1, xt_goto, xt_ic_ge, xt_ic_gt, xt_ic_ne, xt_if_eq, xt_if_ne, xt_nop, xt_re, gF_37_0, gF_37_1, gF_37_2, gF_37_4, gF_1_6, gF_1_8, gW_2, gW_3, gW_4, gW_5, gW_6, gW_7, gW_8, gW_9, gW_10, gW_11, gW_13, gW_14, gW_16, gW_17, gW_20, gW_21, gW_22, gW_23, gW_24, gW_25, gW_26, gW_27, gW_30, gW_31, gW_32, gW_33, gW_34, gW_35, gW_36, gW_38, gW_39, gW_41, gW_42, gW_46, gW_47, gW_49, gW_50, gW_51, gW_53, gW_56, gW_57, gW_59, gW_60, gP_37_4, xq_109_10_virtualc, xq_110_10_virtualc, xq_113_10_virtualc, xq_26_3_virtualc, xq_56_6_virtualc, iN_add, iN_mul, iN_sub, iN_and, iN_or, iN_clr, iN_shl, iN_shr, tb_r1, b1_z, b1_or, b1_and, b1_or0, b1_or1, b1_0or, b1_t, b1_f, iN_lt, iN_inj, reduceIte, if_true, if_false, Nat.zero_add, Nat.add_zero, Bool.false_eq_true, Bool.true_eq_false, Nat.lt_irrefl, iN_az, not_true_eq_false, not_false_eq_true, Nat.reduceEqDiff, Nat.reduceLT, Nat.reduceAdd, Nat.reduceMul, Nat.reduceSub]
        exact e
    obtain ⟨Z, V, e, q⟩ := beg 0 (Nat.zero_le _) (N 38) (fun l hl => by omega) (.retAddr 9) (.retAddr 9)
    have hid : ur (ur N 38 (N 38)) 39 (N 39) = N := by rw [ur_id, ur_id]
    rw [hid] at e
    have hn : ∀ a, a ≠ 38 → a ≠ 39 → ur (ur N 38 Z) 39 V a = N a := fun a h1 h2 => by rw [ur_n h2, ur_n h1]
    refine ⟨ur (ur N 38 Z) 39 V, ?_, Fr_u (Fr_u (Fr_t (Fr_p (Fr_r _ _) rfl) (Fr_w f2 fun a ha => ?_)) rfl) rfl, ⟨KI_fr (M := N) (hn _ (by decide) (by decide)) (hn _ (by decide) (by decide)) (hn _ (by decide) (by decide)) (hn _ (by decide) (by decide)) (hn _ (by decide) (by decide)) kI, ?_, fun _ => ?_⟩, ?_, ?_⟩
    rotate_left
    · simp only [List.contains_cons, Bool.or_eq_true] at ha ⊢
      exact Or.inr (Or.inr (Or.inr ha))
    · exact Or.inr (by rw [hn 37 (by decide) (by decide), hN37, hn 1 (by decide) (by decide), hN1]; exact Nat.le_refl _)
    · rw [ur_n (by decide), ur_s]; exact q
    · rw [ur_n (by decide), ur_s]; exact q
    · rw [hn 37 (by decide) (by decide)]; exact hN37
    have e1 := s_56 (xs := xs) (d := d + 5) (M := up M 37 4 (M 1 8)) (R := R) O
    unfold alr at e2
    rw [show d + 1 + 4 = d + 5 from rfl] at e2
    clear beg q kI hA hVS hK
    simp (disch := first | assumption | omega | exact st8_a (Nat.le_of_ble_eq_true rfl)) only [hk, e1, e2, eb_104_0, eb_104_2, eb_104_3, eb_104_4, kl_a, kl_d, kl_f, kl_i, kl_l, kl_n, kl_r, xr_1, xr_10, xr_2, xr_27, xr_28, xr_29, xr_3, xr_30, xr_31, xr_32, xr_37, xr_4, xr_42, xr_5, xr_70, xr_73, af_0, af_1, xt_goto, xt_ic_ge, xt_ic_gt, xt_ic_ne, xt_if_eq, xt_if_ne, xt_nop, xt_re, gF_37_0, gF_37_1, gF_37_2, gF_37_4, gF_1_6, gF_1_8, gW_2, gW_3, gW_4, gW_5, gW_6, gW_7, gW_8, gW_9, gW_10, gW_11, gW_13, gW_14, gW_16, gW_17, gW_20, gW_21, gW_22, gW_23, gW_24, gW_25, gW_26, gW_27, gW_30, gW_31, gW_32, gW_33, gW_34, gW_35, gW_36, gW_38, gW_39, gW_41, gW_42, gW_46, gW_47, gW_49, gW_50, gW_51, gW_53, gW_56, gW_57, gW_59, gW_60, gP_37_4, xq_109_10_virtualc, xq_110_10_virtualc, xq_113_10_virtualc, xq_26_3_virtualc, xq_56_6_virtualc, iN_add, iN_mul, iN_sub, iN_and, iN_or, iN_clr, iN_shl, iN_shr, tb_r1, b1_z, b1_or, b1_and, b1_or0, b1_or1, b1_0or, b1_t, b1_f, iN_lt, iN_inj, reduceIte, if_true, if_false, Nat.zero_add, Nat.add_zero, Bool.false_eq_true, Bool.true_eq_false, Nat.lt_irrefl, iN_az, not_true_eq_false, not_false_eq_true, Nat.reduceEqDiff, Nat.reduceLT, Nat.reduceAdd, Nat.reduceMul, Nat.reduceSub]
    exact e
end Vg
