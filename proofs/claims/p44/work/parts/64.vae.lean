/-! THE CLASS Values: crowdGroup -/
def CI (σ : Nat → Nat → Nat) (Y : Nat → Nat) (g set : Nat) : Prop := (∀ l, l < (σ 1 6) → Y l = 0) ∨ (lns σ set ≤ pc 10 (cst σ (cl σ Y) set) ∧ (pc 10 (cst σ (cl σ Y) set) = lns σ set → ∀ l, l < (σ 1 6) → (clr g set).testBit l = true → ∀ s, s < (σ 1 2) → Y l &&& sl7 s ≠ 0 → cov σ l s &&& cst σ (cl σ Y) set = 0))
def CG (σ : Nat → Nat → Nat) (Y : Nat → Nat) (g : Nat) : Prop := ∀ set, clr set g = 0 → CI σ Y g set
set_option maxRecDepth 100000 in
theorem sp_neg : ∀ a, a < 11 → ∀ b, b < 13 → a < b → nI a - nI b < nI 0 := by decide +kernel
section Ve
variable {xs : List Int32} {σ M : Nat → Nat → Nat} {R : ab_H} {d l s r o u n g set : Nat} {T : (Nat → Nat) → Prop} {X Y Z W V : Nat → Nat} {b : Bool}
set_option maxRecDepth 100000 in
theorem cst_cg (h : ∀ l, l < (σ 1 6) → V l = W l) : cst σ V u = cst σ W u := by
  unfold cst
  exact orn_cg fun l hl => by rw [h l hl]
set_option maxRecDepth 100000 in
theorem cst_tb {i : Nat} : (cst σ V u).testBit i = true ↔ ∃ l, l < (σ 1 6) ∧ u.testBit l = true ∧ (V l).testBit i = true := by
  unfold cst
  rw [orn_tb]
  constructor
  · rintro ⟨k, h1, h2⟩
    by_cases h : u.testBit k = true
    · rw [if_pos h] at h2
      exact ⟨k, h1, h, h2⟩
    · rw [if_neg h, Nat.zero_testBit] at h2
      cases h2
  · rintro ⟨k, h1, h2, h3⟩
    exact ⟨k, h1, by rw [if_pos h2]; exact h3⟩
set_option maxRecDepth 100000 in
theorem cst_lt (O : Ok σ) : cst σ (cl σ Y) u < 64 := by
  unfold cst
  refine orn_lt (e := 6) fun i hi => ?_
  split
  · exact cl_lt O
  · decide
set_option maxRecDepth 100000 in
theorem cst_sub (h : Su σ X Y) {i : Nat} (hi : (cst σ (cl σ X) u).testBit i = true) : (cst σ (cl σ Y) u).testBit i = true := by
  obtain ⟨l, h1, h2, h3⟩ := cst_tb.mp hi
  exact cst_tb.mpr ⟨l, h1, h2, cl_sub h1 h h3⟩
set_option maxRecDepth 100000 in
theorem lns_le (O : Ok σ) : lns σ u ≤ 12 := by
  obtain ⟨hD1, hD2, hH1, hH2, hS, hC, hT, hR, hL, hQ⟩ := Ok_b O
  unfold lns
  have := sm_le (n := (σ 1 6)) (c := 2) (f := fun l => if u.testBit l = true then σ 7 l else 0) fun l hl => by
    have := Ok_l O hl
    show (if u.testBit l = true then σ 7 l else 0) ≤ 2
    split <;> omega
  omega
set_option maxRecDepth 100000 in
theorem CI_cg (h : ∀ l, l < (σ 1 6) → Z l = Y l) (hh : CI σ Z g set) : CI σ Y g set := by
  have e : cst σ (cl σ Z) set = cst σ (cl σ Y) set := cst_cg fun l hl => cl_cg (h l hl)
  unfold CI at hh ⊢
  rw [e] at hh
  rcases hh with h1 | ⟨h1, h2⟩
  · left
    intro l hl
    rw [← h l hl]
    exact h1 l hl
  · right
    refine ⟨h1, fun z l hl hg s hs hy => h2 z l hl hg s hs ?_⟩
    rw [h l hl]
    exact hy
set_option maxRecDepth 100000 in
theorem CI_neg (hX : CI σ X g set) (hS : Su σ X Y) (h : pc 10 (cst σ (cl σ Y) set) < lns σ set) : ∀ l, l < (σ 1 6) → X l = 0 := by
  rcases hX with h1 | ⟨h1, _⟩
  · exact h1
  · have := pc_sub (n := 10) (a := cst σ (cl σ X) set) (b := cst σ (cl σ Y) set) fun i hi => cst_sub hS hi
    omega
set_option maxRecDepth 100000 in
theorem CI_eq (O : Ok σ) (hX : CI σ X g set) (hS : Su σ X Y) (h : pc 10 (cst σ (cl σ Y) set) = lns σ set) : ∀ l, l < (σ 1 6) → (clr g set).testBit l = true → ∀ s, s < (σ 1 2) → cov σ l s &&& cst σ (cl σ Y) set ≠ 0 → X l &&& sl7 s = 0 := by
  intro l hl hg s hs hc2
  rcases hX with h1 | ⟨h1, h2⟩
  · rw [h1 l hl, Nat.zero_and]
  · have h3 := pc_sub (n := 10) (a := cst σ (cl σ X) set) (b := cst σ (cl σ Y) set) fun i hi => cst_sub hS hi
    have h4 : cst σ (cl σ X) set = cst σ (cl σ Y) set := by
      refine nat_ext (n := 10) (Nat.lt_trans (cst_lt O) (by decide)) (Nat.lt_trans (cst_lt O) (by decide)) fun i hi => ?_
      cases hy : (cst σ (cl σ Y) set).testBit i
      · cases hx : (cst σ (cl σ X) set).testBit i
        · rfl
        · rw [cst_sub hS hx] at hy; cases hy
      · cases hx : (cst σ (cl σ X) set).testBit i
        · have := pc_slt (n := 10) (a := cst σ (cl σ Y) set) (b := cst σ (cl σ X) set) (fun i hi => cst_sub hS hi) hi hy hx
          omega
        · rfl
    by_cases h5 : X l &&& sl7 s = 0
    · exact h5
    · have := h2 (by omega) l hl hg s hs h5
      rw [h4] at this
      exact absurd this hc2
set_option maxRecDepth 100000 in
theorem CI_0 : CI σ Y g 0 := by
  right
  have e1 : cst σ (cl σ Y) 0 = 0 := z_tb.mpr fun i => by
    cases h : (cst σ (cl σ Y) 0).testBit i
    · rfl
    · obtain ⟨l, _, h2, _⟩ := cst_tb.mp h
      rw [Nat.zero_testBit] at h2; cases h2
  have e2 : lns σ 0 = 0 := sm_z.mpr fun i _ => by rw [if_neg]; rw [Nat.zero_testBit]; decide
  rw [e1, e2]
  exact ⟨Nat.zero_le _, fun _ _ _ _ _ _ _ => Nat.and_zero _⟩
set_option maxRecDepth 100000 in
theorem s_115 (O : Ok σ) (hg : g < 64) (hc25 : ∀ l, l < (σ 1 6) → ∀ s, s < (σ 1 2) → M 25 (l * 6 + s) = cov σ l s) (hTT : ∀ X, T X → CG σ X g) (hY : ∀ l, l < (σ 1 6) → Y l < 262144) : ∃ Z V2 b, ev xs (d + 4) 115 0 ([.ref 37, .int (nI g), .retAddr 9, .retAddr 9, .retAddr 9, .retAddr 9], [], hc σ (ur (ur M 38 Y) 39 V) R) = some (.inl (some (.int (nI (b1 b)))), hc σ (ur (ur M 38 Z) 39 V2) R) ∧ DR σ T Y Z b ∧ (b = false → CG σ Y g) := by
  obtain ⟨hD1, hD2, hH1, hH2, hS, hC, hT, hR, hL, hQ⟩ := Ok_b O
  have lp2 : ∀ j, j ≤ g + 1 → ∀ (Y V : Nat → Nat), (∀ l, l < (σ 1 6) → Y l < 262144) → CV σ Y V → ∀ (a : Bool) y z, ∃ Z V2 b, ev xs (d + 4) 115 5 ([.ref 37, .int (nI g), .int (nI (b1 a)), .int (nI j), y, z], [], hc σ (ur (ur M 38 Y) 39 V) R) = some (.inl (some (.int (nI (b1 (a || b))))), hc σ (ur (ur M 38 Z) 39 V2) R) ∧ DR σ T Y Z b ∧ (b = false → ∀ set, j ≤ set → set ≤ g → clr set g = 0 → CI σ Y g set) := by
    refine lp (g + 1) ?_ ?_
    · intro Y V hY hV a y z
      refine ⟨Y, V, false, ?_, DR_r, fun _ set h1 h2 => by omega⟩
      rw [eb_115_5, Bool.or_false]
      clear hV
      have hgg : (g < g + 1) = True := eq_true (Nat.lt_succ_self g)
      simp (disch := first | assumption | omega | exact st8_a (Nat.le_of_ble_eq_true rfl)) only [hgg, eb_115_25, kl_a, kl_d, kl_f, kl_i, kl_l, kl_n, kl_r, xr_1, xr_10, xr_2, xr_27, xr_28, xr_3, xr_30, xr_31, xr_32, xr_33, xr_34, xr_35, xr_36, xr_37, xr_4, xr_42, xr_43, xr_44, xr_5, xr_64, xr_75, xr_77, af_0, af_1, xt_goto, xt_ib, xt_ic, xt_ic_ge, xt_ic_gt, xt_if_eq, xt_if_ge, xt_if_ne, xt_ir, xt_nop, gF_37_0, gF_37_3, gF_1_6, gW_2, gW_3, gW_4, gW_5, gW_6, gW_7, gW_8, gW_9, gW_10, gW_11, gW_13, gW_14, gW_16, gW_17, gW_20, gW_21, gW_22, gW_23, gW_24, gW_25, gW_26, gW_27, gW_30, gW_31, gW_32, gW_33, gW_34, gW_35, gW_36, gW_38, gW_39, gW_41, gW_42, gW_46, gW_47, gW_49, gW_50, gW_51, gW_53, gW_56, gW_57, gW_59, gW_60, xq_116_10_virtualc, xq_117_10_virtualc, xq_118_10_virtualc, xq_119_10_virtualc, xq_120_10_virtualc, xq_277_200_static, iN_add, iN_mul, iN_sub, iN_and, iN_or, iN_clr, iN_shl, iN_shr, tb_r1, b1_z, b1_or, b1_and, b1_or0, b1_or1, b1_0or, b1_t, b1_f, iN_lt, iN_inj, reduceIte, if_true, if_false, Nat.zero_add, Nat.add_zero, Bool.false_eq_true, Bool.true_eq_false, Nat.lt_irrefl, iN_az, not_true_eq_false, not_false_eq_true, Nat.reduceEqDiff, Nat.reduceLT, Nat.reduceAdd, Nat.reduceMul, Nat.reduceSub]
    · intro k hk ih Y V hY hV a y z
      have hcs : cst σ V k = cst σ (cl σ Y) k := cst_cg hV
      have h64 := cst_lt O (Y := Y) (u := k)
      have hln := lns_le O (u := k)
      have hpc := pc_le 10 (cst σ (cl σ Y) k)
      have hgk : ¬ g < k := by omega
      have hcl : clr k g < 64 := clr_lt (n := 6) (by omega)
      have e1 := s_117 (xs := xs) (d := d + 3) (M := ur (ur M 38 Y) 39 V) (R := R) O (u := k) (by omega)
      have e2 := s_118 (xs := xs) (d := d + 3) (M := ur (ur M 38 Y) 39 V) (R := R) O (u := k) (by omega)
      rw [ur_s, hcs] at e1
      have stay : ∀ Y2, (∀ l, l < (σ 1 6) → Y2 l = Y l) → (clr k g = 0 → CI σ Y g k) → (∀ set, k + 1 ≤ set → set ≤ g → clr set g = 0 → CI σ Y2 g set) → (∀ set, k ≤ set → set ≤ g → clr set g = 0 → CI σ Y g set) := by
        intro Y2 h0 hA q2 set h1 h2 h3
        by_cases hh : set = k
        · subst hh
          exact hA h3
        · exact CI_cg h0 (q2 set (by omega) h2 h3)
      rw [eb_115_5]
      by_cases h1 : clr k g = 0
      · have hTk : ∀ X, T X → CI σ X g k := fun X hX => hTT X hX k h1
        by_cases h2 : pc 10 (cst σ (cl σ Y) k) < lns σ k
        · obtain ⟨Z1, V1, b1', e3, p1, p2⟩ := s_119 (xs := xs) (d := d) (M := M) (R := R) (V := V) (T := T) O (fun X hX hS => CI_neg (hTk X hX) hS h2) hY
          obtain ⟨Z, V2, b, e, q1, q2⟩ := ih Z1 V1 (Su_lt p1.1 hY) (fun l hl => by rw [(p2 l hl).2, cl_0 (p2 l hl).1]) (a || b1') (.int (nI (cst σ (cl σ Y) k))) (.int (nI (pc 10 (cst σ (cl σ Y) k)) - nI (lns σ k)))
          refine ⟨Z, V2, b1' || b, ?_, DR_t p1 q1, fun h => ?_⟩
          · rw [← Bool.or_assoc]
            clear q1 q2 p1 p2 ih stay hTk hV
            have e9 := eq_true (sp_neg _ (by omega) _ (by omega) h2)
            cases b1' <;> cases a
            · simp (disch := first | assumption | omega | exact st8_a (Nat.le_of_ble_eq_true rfl)) only [hgk, h1, e1, e2, e3, s_277, e9, eb_115_6, eb_115_7, eb_115_8, eb_115_9, eb_115_10, eb_115_11, eb_115_12, eb_115_13, eb_115_15, eb_115_16, eb_115_24, kl_a, kl_d, kl_f, kl_i, kl_l, kl_n, kl_r, xr_1, xr_10, xr_2, xr_27, xr_28, xr_3, xr_30, xr_31, xr_32, xr_33, xr_34, xr_35, xr_36, xr_37, xr_4, xr_42, xr_43, xr_44, xr_5, xr_64, xr_75, xr_77, af_0, af_1, xt_goto, xt_ib, xt_ic, xt_ic_ge, xt_ic_gt, xt_if_eq, xt_if_ge, xt_if_ne, xt_ir, xt_nop, gF_37_0, gF_37_3, gF_1_6, gW_2, gW_3, gW_4, gW_5, gW_6, gW_7, gW_8, gW_9, gW_10, gW_11, gW_13, gW_14, gW_16, gW_17, gW_20, gW_21, gW_22, gW_23, gW_24, gW_25, gW_26, gW_27, gW_30, gW_31, gW_32, gW_33, gW_34, gW_35, gW_36, gW_38, gW_39, gW_41, gW_42, gW_46, gW_47, gW_49, gW_50, gW_51, gW_53, gW_56, gW_57, gW_59, gW_60, xq_116_10_virtualc, xq_117_10_virtualc, xq_118_10_virtualc, xq_119_10_virtualc, xq_120_10_virtualc, xq_277_200_static, iN_add, iN_mul, iN_sub, iN_and, iN_or, iN_clr, iN_shl, iN_shr, tb_r1, b1_z, b1_or, b1_and, b1_or0, b1_or1, b1_0or, b1_t, b1_f, iN_lt, iN_inj, reduceIte, if_true, if_false, Nat.zero_add, Nat.add_zero, Bool.false_eq_true, Bool.true_eq_false, Nat.lt_irrefl, iN_az, not_true_eq_false, not_false_eq_true, Nat.reduceEqDiff, Nat.reduceLT, Nat.reduceAdd, Nat.reduceMul, Nat.reduceSub]
              exact e
            · simp (disch := first | assumption | omega | exact st8_a (Nat.le_of_ble_eq_true rfl)) only [hgk, h1, e1, e2, e3, s_277, e9, eb_115_6, eb_115_7, eb_115_8, eb_115_9, eb_115_10, eb_115_11, eb_115_12, eb_115_13, eb_115_14, eb_115_16, eb_115_24, kl_a, kl_d, kl_f, kl_i, kl_l, kl_n, kl_r, xr_1, xr_10, xr_2, xr_27, xr_28, xr_3, xr_30, xr_31, xr_32, xr_33, xr_34, xr_35, xr_36, xr_37, xr_4, xr_42, xr_43, xr_44, xr_5, xr_64, xr_75, xr_77, af_0, af_1, xt_goto, xt_ib, xt_ic, xt_ic_ge, xt_ic_gt, xt_if_eq, xt_if_ge, xt_if_ne, xt_ir, xt_nop, gF_37_0, gF_37_3, gF_1_6, gW_2, gW_3, gW_4, gW_5, gW_6, gW_7, gW_8, gW_9, gW_10, gW_11, gW_13, gW_14, gW_16, gW_17, gW_20, gW_21, gW_22, gW_23, gW_24, gW_25, gW_26, gW_27, gW_30, gW_31, gW_32, gW_33, gW_34, gW_35, gW_36, gW_38, gW_39, gW_41, gW_42, gW_46, gW_47, gW_49, gW_50, gW_51, gW_53, gW_56, gW_57, gW_59, gW_60, xq_116_10_virtualc, xq_117_10_virtualc, xq_118_10_virtualc, xq_119_10_virtualc, xq_120_10_virtualc, xq_277_200_static, iN_add, iN_mul, iN_sub, iN_and, iN_or, iN_clr, iN_shl, iN_shr, tb_r1, b1_z, b1_or, b1_and, b1_or0, b1_or1, b1_0or, b1_t, b1_f, iN_lt, iN_inj, reduceIte, if_true, if_false, Nat.zero_add, Nat.add_zero, Bool.false_eq_true, Bool.true_eq_false, Nat.lt_irrefl, iN_az, not_true_eq_false, not_false_eq_true, Nat.reduceEqDiff, Nat.reduceLT, Nat.reduceAdd, Nat.reduceMul, Nat.reduceSub]
              exact e
            · simp (disch := first | assumption | omega | exact st8_a (Nat.le_of_ble_eq_true rfl)) only [hgk, h1, e1, e2, e3, s_277, e9, eb_115_6, eb_115_7, eb_115_8, eb_115_9, eb_115_10, eb_115_11, eb_115_12, eb_115_14, eb_115_16, eb_115_24, kl_a, kl_d, kl_f, kl_i, kl_l, kl_n, kl_r, xr_1, xr_10, xr_2, xr_27, xr_28, xr_3, xr_30, xr_31, xr_32, xr_33, xr_34, xr_35, xr_36, xr_37, xr_4, xr_42, xr_43, xr_44, xr_5, xr_64, xr_75, xr_77, af_0, af_1, xt_goto, xt_ib, xt_ic, xt_ic_ge, xt_ic_gt, xt_if_eq, xt_if_ge, xt_if_ne, xt_ir, xt_nop, gF_37_0, gF_37_3, gF_1_6, gW_2, gW_3, gW_4, gW_5, gW_6, gW_7, gW_8, gW_9, gW_10, gW_11, gW_13, gW_14, gW_16, gW_17, gW_20, gW_21, gW_22, gW_23, gW_24, gW_25, gW_26, gW_27, gW_30, gW_31, gW_32, gW_33, gW_34, gW_35, gW_36, gW_38, gW_39, gW_41, gW_42, gW_46, gW_47, gW_49, gW_50, gW_51, gW_53, gW_56, gW_57, gW_59, gW_60, xq_116_10_virtualc, xq_117_10_virtualc, xq_118_10_virtualc, xq_119_10_virtualc, xq_120_10_virtualc, xq_277_200_static, iN_add, iN_mul, iN_sub, iN_and, iN_or, iN_clr, iN_shl, iN_shr, tb_r1, b1_z, b1_or, b1_and, b1_or0, b1_or1, b1_0or, b1_t, b1_f, iN_lt, iN_inj, reduceIte, if_true, if_false, Nat.zero_add, Nat.add_zero, Bool.false_eq_true, Bool.true_eq_false, Nat.lt_irrefl, iN_az, not_true_eq_false, not_false_eq_true, Nat.reduceEqDiff, Nat.reduceLT, Nat.reduceAdd, Nat.reduceMul, Nat.reduceSub]
              exact e
            · simp (disch := first | assumption | omega | exact st8_a (Nat.le_of_ble_eq_true rfl)) only [hgk, h1, e1, e2, e3, s_277, e9, eb_115_6, eb_115_7, eb_115_8, eb_115_9, eb_115_10, eb_115_11, eb_115_12, eb_115_14, eb_115_16, eb_115_24, kl_a, kl_d, kl_f, kl_i, kl_l, kl_n, kl_r, xr_1, xr_10, xr_2, xr_27, xr_28, xr_3, xr_30, xr_31, xr_32, xr_33, xr_34, xr_35, xr_36, xr_37, xr_4, xr_42, xr_43, xr_44, xr_5, xr_64, xr_75, xr_77, af_0, af_1, xt_goto, xt_ib, xt_ic, xt_ic_ge, xt_ic_gt, xt_if_eq, xt_if_ge, xt_if_ne, xt_ir, xt_nop, gF_37_0, gF_37_3, gF_1_6, gW_2, gW_3, gW_4, gW_5, gW_6, gW_7, gW_8, gW_9, gW_10, gW_11, gW_13, gW_14, gW_16, gW_17, gW_20, gW_21, gW_22, gW_23, gW_24, gW_25, gW_26, gW_27, gW_30, gW_31, gW_32, gW_33, gW_34, gW_35, gW_36, gW_38, gW_39, gW_41, gW_42, gW_46, gW_47, gW_49, gW_50, gW_51, gW_53, gW_56, gW_57, gW_59, gW_60, xq_116_10_virtualc, xq_117_10_virtualc, xq_118_10_virtualc, xq_119_10_virtualc, xq_120_10_virtualc, xq_277_200_static, iN_add, iN_mul, iN_sub, iN_and, iN_or, iN_clr, iN_shl, iN_shr, tb_r1, b1_z, b1_or, b1_and, b1_or0, b1_or1, b1_0or, b1_t, b1_f, iN_lt, iN_inj, reduceIte, if_true, if_false, Nat.zero_add, Nat.add_zero, Bool.false_eq_true, Bool.true_eq_false, Nat.lt_irrefl, iN_az, not_true_eq_false, not_false_eq_true, Nat.reduceEqDiff, Nat.reduceLT, Nat.reduceAdd, Nat.reduceMul, Nat.reduceSub]
              exact e
          · rw [Bool.or_eq_false_iff] at h
            exact stay Z1 (p1.2.1 h.1) (fun _ => Or.inl fun l hl => by rw [← p1.2.1 h.1 l hl]; exact (p2 l hl).1) (q2 h.2)
        · by_cases h3 : pc 10 (cst σ (cl σ Y) k) = lns σ k
          · obtain ⟨Z1, V1, b1', e3, p1, p2, p3⟩ := s_120 (xs := xs) (d := d) (M := M) (R := R) (V := V) (T := T) (u := clr g k) (c := cst σ (cl σ Y) k) O (clr_lt (n := 6) hg) h64 hc25 (fun X hX hS => CI_eq O (hTk X hX) hS h3) hY hV
            obtain ⟨Z, V2, b, e, q1, q2⟩ := ih Z1 V1 (Su_lt p1.1 hY) p2 (a || b1') (.int (nI (cst σ (cl σ Y) k))) (.int (nI 0))
            refine ⟨Z, V2, b1' || b, ?_, DR_t p1 q1, fun h => ?_⟩
            · rw [← Bool.or_assoc]
              clear q1 q2 p1 p2 p3 ih stay hTk hV
              have h5 : pc 10 (cst σ (cl σ Y) k) - lns σ k = 0 := by omega
              clear h3
              cases b1' <;> cases a
              · simp (disch := first | assumption | omega | exact st8_a (Nat.le_of_ble_eq_true rfl)) only [hgk, h1, e1, e2, e3, s_277, h5, eb_115_6, eb_115_7, eb_115_8, eb_115_9, eb_115_10, eb_115_17, eb_115_18, eb_115_19, eb_115_20, eb_115_22, eb_115_23, eb_115_24, kl_a, kl_d, kl_f, kl_i, kl_l, kl_n, kl_r, xr_1, xr_10, xr_2, xr_27, xr_28, xr_3, xr_30, xr_31, xr_32, xr_33, xr_34, xr_35, xr_36, xr_37, xr_4, xr_42, xr_43, xr_44, xr_5, xr_64, xr_75, xr_77, af_0, af_1, xt_goto, xt_ib, xt_ic, xt_ic_ge, xt_ic_gt, xt_if_eq, xt_if_ge, xt_if_ne, xt_ir, xt_nop, gF_37_0, gF_37_3, gF_1_6, gW_2, gW_3, gW_4, gW_5, gW_6, gW_7, gW_8, gW_9, gW_10, gW_11, gW_13, gW_14, gW_16, gW_17, gW_20, gW_21, gW_22, gW_23, gW_24, gW_25, gW_26, gW_27, gW_30, gW_31, gW_32, gW_33, gW_34, gW_35, gW_36, gW_38, gW_39, gW_41, gW_42, gW_46, gW_47, gW_49, gW_50, gW_51, gW_53, gW_56, gW_57, gW_59, gW_60, xq_116_10_virtualc, xq_117_10_virtualc, xq_118_10_virtualc, xq_119_10_virtualc, xq_120_10_virtualc, xq_277_200_static, iN_add, iN_mul, iN_sub, iN_and, iN_or, iN_clr, iN_shl, iN_shr, tb_r1, b1_z, b1_or, b1_and, b1_or0, b1_or1, b1_0or, b1_t, b1_f, iN_lt, iN_inj, reduceIte, if_true, if_false, Nat.zero_add, Nat.add_zero, Bool.false_eq_true, Bool.true_eq_false, Nat.lt_irrefl, iN_az, not_true_eq_false, not_false_eq_true, Nat.reduceEqDiff, Nat.reduceLT, Nat.reduceAdd, Nat.reduceMul, Nat.reduceSub]
                exact e
              · simp (disch := first | assumption | omega | exact st8_a (Nat.le_of_ble_eq_true rfl)) only [hgk, h1, e1, e2, e3, s_277, h5, eb_115_6, eb_115_7, eb_115_8, eb_115_9, eb_115_10, eb_115_17, eb_115_18, eb_115_19, eb_115_20, eb_115_21, eb_115_23, eb_115_24, kl_a, kl_d, kl_f, kl_i, kl_l, kl_n, kl_r, xr_1, xr_10, xr_2, xr_27, xr_28, xr_3, xr_30, xr_31, xr_32, xr_33, xr_34, xr_35, xr_36, xr_37, xr_4, xr_42, xr_43, xr_44, xr_5, xr_64, xr_75, xr_77, af_0, af_1, xt_goto, xt_ib, xt_ic, xt_ic_ge, xt_ic_gt, xt_if_eq, xt_if_ge, xt_if_ne, xt_ir, xt_nop, gF_37_0, gF_37_3, gF_1_6, gW_2, gW_3, gW_4, gW_5, gW_6, gW_7, gW_8, gW_9, gW_10, gW_11, gW_13, gW_14, gW_16, gW_17, gW_20, gW_21, gW_22, gW_23, gW_24, gW_25, gW_26, gW_27, gW_30, gW_31, gW_32, gW_33, gW_34, gW_35, gW_36, gW_38, gW_39, gW_41, gW_42, gW_46, gW_47, gW_49, gW_50, gW_51, gW_53, gW_56, gW_57, gW_59, gW_60, xq_116_10_virtualc, xq_117_10_virtualc, xq_118_10_virtualc, xq_119_10_virtualc, xq_120_10_virtualc, xq_277_200_static, iN_add, iN_mul, iN_sub, iN_and, iN_or, iN_clr, iN_shl, iN_shr, tb_r1, b1_z, b1_or, b1_and, b1_or0, b1_or1, b1_0or, b1_t, b1_f, iN_lt, iN_inj, reduceIte, if_true, if_false, Nat.zero_add, Nat.add_zero, Bool.false_eq_true, Bool.true_eq_false, Nat.lt_irrefl, iN_az, not_true_eq_false, not_false_eq_true, Nat.reduceEqDiff, Nat.reduceLT, Nat.reduceAdd, Nat.reduceMul, Nat.reduceSub]
                exact e
              · simp (disch := first | assumption | omega | exact st8_a (Nat.le_of_ble_eq_true rfl)) only [hgk, h1, e1, e2, e3, s_277, h5, eb_115_6, eb_115_7, eb_115_8, eb_115_9, eb_115_10, eb_115_17, eb_115_18, eb_115_19, eb_115_21, eb_115_23, eb_115_24, kl_a, kl_d, kl_f, kl_i, kl_l, kl_n, kl_r, xr_1, xr_10, xr_2, xr_27, xr_28, xr_3, xr_30, xr_31, xr_32, xr_33, xr_34, xr_35, xr_36, xr_37, xr_4, xr_42, xr_43, xr_44, xr_5, xr_64, xr_75, xr_77, af_0, af_1, xt_goto, xt_ib, xt_ic, xt_ic_ge, xt_ic_gt, xt_if_eq, xt_if_ge, xt_if_ne, xt_ir, xt_nop, gF_37_0, gF_37_3, gF_1_6, gW_2, gW_3, gW_4, gW_5, gW_6, gW_7, gW_8, gW_9, gW_10, gW_11, gW_13, gW_14, gW_16, gW_17, gW_20, gW_21, gW_22, gW_23, gW_24, gW_25, gW_26, gW_27, gW_30, gW_31, gW_32, gW_33, gW_34, gW_35, gW_36, gW_38, gW_39, gW_41, gW_42, gW_46, gW_47, gW_49, gW_50, gW_51, gW_53, gW_56, gW_57, gW_59, gW_60, xq_116_10_virtualc, xq_117_10_virtualc, xq_118_10_virtualc, xq_119_10_virtualc, xq_120_10_virtualc, xq_277_200_static, iN_add, iN_mul, iN_sub, iN_and, iN_or, iN_clr, iN_shl, iN_shr, tb_r1, b1_z, b1_or, b1_and, b1_or0, b1_or1, b1_0or, b1_t, b1_f, iN_lt, iN_inj, reduceIte, if_true, if_false, Nat.zero_add, Nat.add_zero, Bool.false_eq_true, Bool.true_eq_false, Nat.lt_irrefl, iN_az, not_true_eq_false, not_false_eq_true, Nat.reduceEqDiff, Nat.reduceLT, Nat.reduceAdd, Nat.reduceMul, Nat.reduceSub]
                exact e
              · simp (disch := first | assumption | omega | exact st8_a (Nat.le_of_ble_eq_true rfl)) only [hgk, h1, e1, e2, e3, s_277, h5, eb_115_6, eb_115_7, eb_115_8, eb_115_9, eb_115_10, eb_115_17, eb_115_18, eb_115_19, eb_115_21, eb_115_23, eb_115_24, kl_a, kl_d, kl_f, kl_i, kl_l, kl_n, kl_r, xr_1, xr_10, xr_2, xr_27, xr_28, xr_3, xr_30, xr_31, xr_32, xr_33, xr_34, xr_35, xr_36, xr_37, xr_4, xr_42, xr_43, xr_44, xr_5, xr_64, xr_75, xr_77, af_0, af_1, xt_goto, xt_ib, xt_ic, xt_ic_ge, xt_ic_gt, xt_if_eq, xt_if_ge, xt_if_ne, xt_ir, xt_nop, gF_37_0, gF_37_3, gF_1_6, gW_2, gW_3, gW_4, gW_5, gW_6, gW_7, gW_8, gW_9, gW_10, gW_11, gW_13, gW_14, gW_16, gW_17, gW_20, gW_21, gW_22, gW_23, gW_24, gW_25, gW_26, gW_27, gW_30, gW_31, gW_32, gW_33, gW_34, gW_35, gW_36, gW_38, gW_39, gW_41, gW_42, gW_46, gW_47, gW_49, gW_50, gW_51, gW_53, gW_56, gW_57, gW_59, gW_60, xq_116_10_virtualc, xq_117_10_virtualc, xq_118_10_virtualc, xq_119_10_virtualc, xq_120_10_virtualc, xq_277_200_static, iN_add, iN_mul, iN_sub, iN_and, iN_or, iN_clr, iN_shl, iN_shr, tb_r1, b1_z, b1_or, b1_and, b1_or0, b1_or1, b1_0or, b1_t, b1_f, iN_lt, iN_inj, reduceIte, if_true, if_false, Nat.zero_add, Nat.add_zero, Bool.false_eq_true, Bool.true_eq_false, Nat.lt_irrefl, iN_az, not_true_eq_false, not_false_eq_true, Nat.reduceEqDiff, Nat.reduceLT, Nat.reduceAdd, Nat.reduceMul, Nat.reduceSub]
                exact e
            · rw [Bool.or_eq_false_iff] at h
              exact stay Z1 (p1.2.1 h.1) (fun _ => Or.inr ⟨by omega, fun _ l hl hgl s hs hy => p3 h.1 l hl hgl s hs hy⟩) (q2 h.2)
          · obtain ⟨Z, V2, b, e, q1, q2⟩ := ih Y V hY hV a (.int (nI (cst σ (cl σ Y) k))) (.int (nI (pc 10 (cst σ (cl σ Y) k) - lns σ k)))
            refine ⟨Z, V2, b, ?_, q1, fun h => stay Y (fun _ _ => rfl) (fun _ => Or.inr ⟨by omega, fun z => absurd z h3⟩) (q2 h)⟩
            clear q1 q2 ih stay hTk hV
            have h5 : ¬ pc 10 (cst σ (cl σ Y) k) - lns σ k = 0 := by omega
            clear h3
            simp (disch := first | assumption | omega | exact st8_a (Nat.le_of_ble_eq_true rfl)) only [hgk, h1, e1, e2, s_277, h5, eb_115_6, eb_115_7, eb_115_8, eb_115_9, eb_115_10, eb_115_17, eb_115_24, kl_a, kl_d, kl_f, kl_i, kl_l, kl_n, kl_r, xr_1, xr_10, xr_2, xr_27, xr_28, xr_3, xr_30, xr_31, xr_32, xr_33, xr_34, xr_35, xr_36, xr_37, xr_4, xr_42, xr_43, xr_44, xr_5, xr_64, xr_75, xr_77, af_0, af_1, xt_goto, xt_ib, xt_ic, xt_ic_ge, xt_ic_gt, xt_if_eq, xt_if_ge, xt_if_ne, xt_ir, xt_nop, gF_37_0, gF_37_3, gF_1_6, gW_2, gW_3, gW_4, gW_5, gW_6, gW_7, gW_8, gW_9, gW_10, gW_11, gW_13, gW_14, gW_16, gW_17, gW_20, gW_21, gW_22, gW_23, gW_24, gW_25, gW_26, gW_27, gW_30, gW_31, gW_32, gW_33, gW_34, gW_35, gW_36, gW_38, gW_39, gW_41, gW_42, gW_46, gW_47, gW_49, gW_50, gW_51, gW_53, gW_56, gW_57, gW_59, gW_60, xq_116_10_virtualc, xq_117_10_virtualc, xq_118_10_virtualc, xq_119_10_virtualc, xq_120_10_virtualc, xq_277_200_static, iN_add, iN_mul, iN_sub, iN_and, iN_or, iN_clr, iN_shl, iN_shr, tb_r1, b1_z, b1_or, b1_and, b1_or0, b1_or1, b1_0or, b1_t, b1_f, iN_lt, iN_inj, reduceIte, if_true, if_false, Nat.zero_add, Nat.add_zero, Bool.false_eq_true, Bool.true_eq_false, Nat.lt_irrefl, iN_az, not_true_eq_false, not_false_eq_true, Nat.reduceEqDiff, Nat.reduceLT, Nat.reduceAdd, Nat.reduceMul, Nat.reduceSub]
            exact e
      · obtain ⟨Z, V2, b, e, q1, q2⟩ := ih Y V hY hV a y z
        refine ⟨Z, V2, b, ?_, q1, fun h => stay Y (fun _ _ => rfl) (fun z => absurd z h1) (q2 h)⟩
        clear q1 q2 ih stay hV
        simp (disch := first | assumption | omega | exact st8_a (Nat.le_of_ble_eq_true rfl)) only [hgk, h1, eb_115_6, eb_115_24, kl_a, kl_d, kl_f, kl_i, kl_l, kl_n, kl_r, xr_1, xr_10, xr_2, xr_27, xr_28, xr_3, xr_30, xr_31, xr_32, xr_33, xr_34, xr_35, xr_36, xr_37, xr_4, xr_42, xr_43, xr_44, xr_5, xr_64, xr_75, xr_77, af_0, af_1, xt_goto, xt_ib, xt_ic, xt_ic_ge, xt_ic_gt, xt_if_eq, xt_if_ge, xt_if_ne, xt_ir, xt_nop, gF_37_0, gF_37_3, gF_1_6, gW_2, gW_3, gW_4, gW_5, gW_6, gW_7, gW_8, gW_9, gW_10, gW_11, gW_13, gW_14, gW_16, gW_17, gW_20, gW_21, gW_22, gW_23, gW_24, gW_25, gW_26, gW_27, gW_30, gW_31, gW_32, gW_33, gW_34, gW_35, gW_36, gW_38, gW_39, gW_41, gW_42, gW_46, gW_47, gW_49, gW_50, gW_51, gW_53, gW_56, gW_57, gW_59, gW_60, xq_116_10_virtualc, xq_117_10_virtualc, xq_118_10_virtualc, xq_119_10_virtualc, xq_120_10_virtualc, xq_277_200_static, iN_add, iN_mul, iN_sub, iN_and, iN_or, iN_clr, iN_shl, iN_shr, tb_r1, b1_z, b1_or, b1_and, b1_or0, b1_or1, b1_0or, b1_t, b1_f, iN_lt, iN_inj, reduceIte, if_true, if_false, Nat.zero_add, Nat.add_zero, Bool.false_eq_true, Bool.true_eq_false, Nat.lt_irrefl, iN_az, not_true_eq_false, not_false_eq_true, Nat.reduceEqDiff, Nat.reduceLT, Nat.reduceAdd, Nat.reduceMul, Nat.reduceSub]
        exact e
  have lp1 : ∀ k, k ≤ (σ 1 6) → ∀ V, (∀ l, l < k → V l = cl σ Y l) → ∀ y w z, ∃ Z V2 b, ev xs (d + 4) 115 1 ([.ref 37, .int (nI g), .int (nI k), y, w, z], [], hc σ (ur (ur M 38 Y) 39 V) R) = some (.inl (some (.int (nI (b1 b)))), hc σ (ur (ur M 38 Z) 39 V2) R) ∧ DR σ T Y Z b ∧ (b = false → CG σ Y g) := by
    refine lp (σ 1 6) ?_ ?_
    · intro V hV y w z
      obtain ⟨Z, V2, b, e, q1, q2⟩ := lp2 1 (by omega) Y V hY hV false w z
      refine ⟨Z, V2, b, ?_, q1, fun h set hs => ?_⟩
      · rw [Bool.false_or] at e
        rw [eb_115_1]
        clear q1 q2 hV lp2
        simp (disch := first | assumption | omega | exact st8_a (Nat.le_of_ble_eq_true rfl)) only [eb_115_4, kl_a, kl_d, kl_f, kl_i, kl_l, kl_n, kl_r, xr_1, xr_10, xr_2, xr_27, xr_28, xr_3, xr_30, xr_31, xr_32, xr_33, xr_34, xr_35, xr_36, xr_37, xr_4, xr_42, xr_43, xr_44, xr_5, xr_64, xr_75, xr_77, af_0, af_1, xt_goto, xt_ib, xt_ic, xt_ic_ge, xt_ic_gt, xt_if_eq, xt_if_ge, xt_if_ne, xt_ir, xt_nop, gF_37_0, gF_37_3, gF_1_6, gW_2, gW_3, gW_4, gW_5, gW_6, gW_7, gW_8, gW_9, gW_10, gW_11, gW_13, gW_14, gW_16, gW_17, gW_20, gW_21, gW_22, gW_23, gW_24, gW_25, gW_26, gW_27, gW_30, gW_31, gW_32, gW_33, gW_34, gW_35, gW_36, gW_38, gW_39, gW_41, gW_42, gW_46, gW_47, gW_49, gW_50, gW_51, gW_53, gW_56, gW_57, gW_59, gW_60, xq_116_10_virtualc, xq_117_10_virtualc, xq_118_10_virtualc, xq_119_10_virtualc, xq_120_10_virtualc, xq_277_200_static, iN_add, iN_mul, iN_sub, iN_and, iN_or, iN_clr, iN_shl, iN_shr, tb_r1, b1_z, b1_or, b1_and, b1_or0, b1_or1, b1_0or, b1_t, b1_f, iN_lt, iN_inj, reduceIte, if_true, if_false, Nat.zero_add, Nat.add_zero, Bool.false_eq_true, Bool.true_eq_false, Nat.lt_irrefl, iN_az, not_true_eq_false, not_false_eq_true, Nat.reduceEqDiff, Nat.reduceLT, Nat.reduceAdd, Nat.reduceMul, Nat.reduceSub]
        exact e
      · by_cases h0 : set = 0
        · subst h0
          exact CI_0
        · refine q2 h set (by omega) ?_ hs
          have : set = set &&& g := Nat.eq_of_testBit_eq fun i => by
            have := z_tb.mp hs i
            rw [clr_tb] at this
            rw [Nat.testBit_and]
            cases h1 : set.testBit i
            · rfl
            · rw [h1] at this
              simpa using this
          rw [this]
          exact Nat.and_le_right
    · intro k hk ih V hV y w z
      obtain ⟨Z, V2, b, e, q1, q2⟩ := ih (u1 V k (cl σ Y k)) (fun l hl => by
        by_cases h : l = k
        · subst h; rw [u1_s]
        · rw [u1_n h]; exact hV l (by omega)) y w z
      refine ⟨Z, V2, b, ?_, q1, q2⟩
      have hw := hY k hk
      have e1 := s_116 (xs := xs) (d := d + 3) (M := ur (ur M 38 Y) 39 V) (R := R) O hk (by rw [ur_n (by decide), ur_s]; exact hw) (fun s hs => by rw [ur_n (by decide), ur_n (by decide)]; exact hc25 k hk s hs)
      rw [ur_n (by decide), ur_s] at e1
      rw [eb_115_1]
      clear q1 q2 ih hV lp2
      simp (disch := first | assumption | omega | exact st8_a (Nat.le_of_ble_eq_true rfl)) only [hk, e1, ur_up, eb_115_2, eb_115_3, kl_a, kl_d, kl_f, kl_i, kl_l, kl_n, kl_r, xr_1, xr_10, xr_2, xr_27, xr_28, xr_3, xr_30, xr_31, xr_32, xr_33, xr_34, xr_35, xr_36, xr_37, xr_4, xr_42, xr_43, xr_44, xr_5, xr_64, xr_75, xr_77, af_0, af_1, xt_goto, xt_ib, xt_ic, xt_ic_ge, xt_ic_gt, xt_if_eq, xt_if_ge, xt_if_ne, xt_ir, xt_nop, gF_37_0, gF_37_3, gF_1_6, gW_2, gW_3, gW_4, gW_5, gW_6, gW_7, gW_8, gW_9, gW_10, gW_11, gW_13, gW_14, gW_16, gW_17, gW_20, gW_21, gW_22, gW_23, gW_24, gW_25, gW_26, gW_27, gW_30, gW_31, gW_32, gW_33, gW_34, gW_35, gW_36, gW_38, gW_39, gW_41, gW_42, gW_46, gW_47, gW_49, gW_50, gW_51, gW_53, gW_56, gW_57, gW_59, gW_60, xq_116_10_virtualc, xq_117_10_virtualc, xq_118_10_virtualc, xq_119_10_virtualc, xq_120_10_virtualc, xq_277_200_static, iN_add, iN_mul, iN_sub, iN_and, iN_or, iN_clr, iN_shl, iN_shr, tb_r1, b1_z, b1_or, b1_and, b1_or0, b1_or1, b1_0or, b1_t, b1_f, iN_lt, iN_inj, reduceIte, if_true, if_false, Nat.zero_add, Nat.add_zero, Bool.false_eq_true, Bool.true_eq_false, Nat.lt_irrefl, iN_az, not_true_eq_false, not_false_eq_true, Nat.reduceEqDiff, Nat.reduceLT, Nat.reduceAdd, Nat.reduceMul, Nat.reduceSub]
      exact e
  obtain ⟨Z, V2, b, e, q1, q2⟩ := lp1 0 (Nat.zero_le _) V (fun l hl => by omega) (.retAddr 9) (.retAddr 9) (.retAddr 9)
  refine ⟨Z, V2, b, ?_, q1, q2⟩
  clear q1 q2 lp1 lp2
  simp (disch := first | assumption | omega | exact st8_a (Nat.le_of_ble_eq_true rfl)) only [eb_115_0, kl_a, kl_d, kl_f, kl_i, kl_l, kl_n, kl_r, xr_1, xr_10, xr_2, xr_27, xr_28, xr_3, xr_30, xr_31, xr_32, xr_33, xr_34, xr_35, xr_36, xr_37, xr_4, xr_42, xr_43, xr_44, xr_5, xr_64, xr_75, xr_77, af_0, af_1, xt_goto, xt_ib, xt_ic, xt_ic_ge, xt_ic_gt, xt_if_eq, xt_if_ge, xt_if_ne, xt_ir, xt_nop, gF_37_0, gF_37_3, gF_1_6, gW_2, gW_3, gW_4, gW_5, gW_6, gW_7, gW_8, gW_9, gW_10, gW_11, gW_13, gW_14, gW_16, gW_17, gW_20, gW_21, gW_22, gW_23, gW_24, gW_25, gW_26, gW_27, gW_30, gW_31, gW_32, gW_33, gW_34, gW_35, gW_36, gW_38, gW_39, gW_41, gW_42, gW_46, gW_47, gW_49, gW_50, gW_51, gW_53, gW_56, gW_57, gW_59, gW_60, xq_116_10_virtualc, xq_117_10_virtualc, xq_118_10_virtualc, xq_119_10_virtualc, xq_120_10_virtualc, xq_277_200_static, iN_add, iN_mul, iN_sub, iN_and, iN_or, iN_clr, iN_shl, iN_shr, tb_r1, b1_z, b1_or, b1_and, b1_or0, b1_or1, b1_0or, b1_t, b1_f, iN_lt, iN_inj, reduceIte, if_true, if_false, Nat.zero_add, Nat.add_zero, Bool.false_eq_true, Bool.true_eq_false, Nat.lt_irrefl, iN_az, not_true_eq_false, not_false_eq_true, Nat.reduceEqDiff, Nat.reduceLT, Nat.reduceAdd, Nat.reduceMul, Nat.reduceSub]
  exact e
end Ve
