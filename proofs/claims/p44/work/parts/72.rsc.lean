/-! THE CLASS RuleSets: isKept -/
def KS (σ : Nat → Nat → Nat) (u : Nat) : Prop := ∃ s r, Gd σ u s r
def RI (σ M : Nat → Nat → Nat) : Prop := M 40 7 ≤ 64 ∧ ∀ i, i < M 40 7 → M 42 i < 1024 ∧ KS σ (M 42 i)
section Rc
variable {xs : List Int32} {σ M N : Nat → Nat → Nat} {R : ab_H} {d e l s r o u n t y v w k : Nat}
set_option maxRecDepth 100000 in
theorem KS_KB : KB σ 4294967295 y u ↔ KS σ u := ⟨fun ⟨s, r, h, _⟩ => ⟨s, r, h⟩, fun ⟨s, r, h⟩ => ⟨s, r, h, Or.inl rfl⟩⟩
set_option maxRecDepth 100000 in
theorem Gd_sub {s r : Nat → Nat} (h : Gd σ v s r) (hc2 : clr u v = 0) : Gd σ u s r := by
  refine ⟨h.1, h.2.1, fun q hq hu => h.2.2 q hq ?_⟩
  have := z_tb.mp hc2 q
  rw [clr_tb, hu, Bool.true_and] at this
  simpa using this
set_option maxRecDepth 100000 in
theorem KS_sub (h : KS σ v) (hc2 : clr u v = 0) : KS σ u := by
  obtain ⟨s, r, h⟩ := h
  exact ⟨s, r, Gd_sub h hc2⟩
set_option maxRecDepth 100000 in
theorem KS_brk {s r : Nat → Nat} (h : Gd σ u s r) : KS σ (clr (alr σ) (brk σ s r)) := by
  refine ⟨s, r, h.1, h.2.1, fun q hq hb => ?_⟩
  rw [clr_tb, Bool.and_eq_true] at hb
  have := hb.2
  unfold brk at this
  rw [en_tb, decide_eq_true hq, Bool.true_and, Bool.not_not] at this
  exact this
set_option maxRecDepth 100000 in
theorem s_53 (O : Ok σ) (hI : KI σ M) (hRI : RI σ M) (hu : u < 1024) : ∃ M', ∃ b : Bool, ev xs (e + 19) 53 0 ([.ref 40, .int (nI u), .retAddr 9], [], hc σ M R) = some (.inl (some (.int (nI (b1 b)))), hc σ M' R) ∧ Fr (40 :: 42 :: QS) M M' ∧ KI σ M' ∧ RI σ M' ∧ (∀ j, j ≠ 7 → M' 40 j = M 40 j) ∧ (b = true ↔ KS σ u) := by
  obtain ⟨hD1, hD2, hH1, hH2, hS, hC, hT, hR, hL, hQ⟩ := Ok_b O
  obtain ⟨hr1, hr2⟩ := hRI
  have key : ∀ k, k ≤ M 40 7 → ∃ M', ∃ b : Bool, ev xs (e + 19) 53 1 ([.ref 40, .int (nI u), .int (nI k)], [], hc σ M R) = some (.inl (some (.int (nI (b1 b)))), hc σ M' R) ∧ Fr (40 :: 42 :: QS) M M' ∧ KI σ M' ∧ RI σ M' ∧ (∀ j, j ≠ 7 → M' 40 j = M 40 j) ∧ (b = true ↔ KS σ u) := by
    refine lp (M 40 7) ?_ ?_
    · obtain ⟨N, e0, f1, f2, f3, f4, f5, f6, -⟩ := ask_ok (xs := xs) (e := e + 14) (R := R) O hu hI
      obtain ⟨M', v, e2, i1, i2, i3⟩ := s_74 (xs := xs) (e := e) (M := N) (R := R) (most := 0) O f3 f2.2.2.2 (by decide) false
      rw [b1_f] at e2
      have fr : Fr QS M M' := Fr_t (Fr_w f1 fun a ha => by simp at ha ⊢; omega) (Fr_w i1 fun a ha => by simp at ha ⊢; omega)
      have ki := KI_q i1 i2 f2
      have hq0 := QC_0 (σ := σ) f5 f6
      have x40 : M' 40 = M 40 := fr 40 rfl
      have x42 : M' 42 = M 42 := fr 42 rfl
      have frw : Fr (40 :: 42 :: QS) M M' := Fr_w fr fun a ha => by simp at ha ⊢; omega
      rcases i3 with ⟨z1, z2, z3, z4, z5⟩ | ⟨z1, z2, z3, z4, z5, -⟩
      · refine ⟨M', false, ?_, frw, ki, ⟨by rw [x40]; exact hr1, by rw [x40, x42]; exact hr2⟩, fun j _ => by rw [x40], ⟨fun h => (by cases h), fun ⟨s, r, h⟩ => ?_⟩⟩
        · subst z1
          rw [eb_53_1]
          clear hr2 z5
          simp (disch := first | assumption | omega | exact st8_a (Nat.le_of_ble_eq_true rfl)) only [e0, e2, eb_53_5, eb_53_6, eb_53_7, eb_53_8, kl_a, kl_d, kl_f, kl_i, kl_l, kl_n, kl_r, xr_1, xr_10, xr_2, xr_27, xr_28, xr_3, xr_30, xr_31, xr_38, xr_4, xr_42, xr_44, xr_5, xr_64, xr_75, xr_8, xr_9, af_0, af_1, xt_goto, xt_ib, xt_ic, xt_ic_ge, xt_ic_ne, xt_if_ne, xt_ir, xt_nop, gL_23, gL_42, gL_61, gF_40_0, gF_40_1, gF_40_2, gF_40_3, gF_40_6, gF_40_7, gF_28_2, gA_2, gA_3, gA_4, gA_5, gA_6, gA_7, gA_8, gA_9, gA_10, gA_11, gA_13, gA_14, gA_16, gA_17, gA_20, gA_21, gA_22, gA_23, gA_24, gA_25, gA_26, gA_27, gA_30, gA_31, gA_32, gA_33, gA_34, gA_35, gA_36, gA_38, gA_39, gA_41, gA_42, gA_46, gA_47, gA_49, gA_50, gA_51, gA_53, gA_56, gA_57, gA_59, gA_60, gW_2, gW_3, gW_4, gW_5, gW_6, gW_7, gW_8, gW_9, gW_10, gW_11, gW_13, gW_14, gW_16, gW_17, gW_20, gW_21, gW_22, gW_23, gW_24, gW_25, gW_26, gW_27, gW_30, gW_31, gW_32, gW_33, gW_34, gW_35, gW_36, gW_38, gW_39, gW_41, gW_42, gW_46, gW_47, gW_49, gW_50, gW_51, gW_53, gW_56, gW_57, gW_59, gW_60, gP_40_7, xq_15_2_virtualc, xq_26_3_virtualc, xq_56_6_virtualc, xq_74_7_virtualc, iN_add, iN_mul, iN_sub, iN_and, iN_or, iN_clr, iN_shl, iN_shr, tb_r1, b1_z, b1_or, b1_and, b1_or0, b1_or1, b1_0or, b1_t, b1_f, iN_lt, iN_inj, reduceIte, if_true, if_false, Nat.zero_add, Nat.add_zero, Bool.false_eq_true, Bool.true_eq_false, Nat.lt_irrefl, iN_az, not_true_eq_false, not_false_eq_true, Nat.reduceEqDiff, Nat.reduceLT, Nat.reduceAdd, Nat.reduceMul, Nat.reduceSub]
        · have := z5 s r ((f4 s r).mpr h)
          rw [hq0] at this
          omega
      · have hv : ¬ v = 4294967295 := by omega
        have hgd := (f4 _ _).mp z2
        by_cases hs64 : M 40 7 < 64
        · have h29 : TT 29 := by decide
          have e5 := s_15 (xs := xs) (d := e + 15) (M := M') (R := R) (t := 29) O h29 (fun l hl => (hgd.1 l hl).1) (fun l hl => (hgd.1 l hl).2)
          have e9 := s_56 (xs := xs) (d := e + 18) (M := M') (R := R) O
          have ea : (1 <<< (σ 1 7)) - 1 = alr σ := rfl
          rw [ea] at e9
          have hal := alr_lt O
          have hM40 : M' 40 7 < 64 := by rw [x40]; exact hs64
          refine ⟨up (up M' 42 (M' 40 7) (clr (alr σ) (brk σ (M' 30) (M' 31)))) 40 7 (M' 40 7 + 1), true, ?_, Fr_p (Fr_p frw rfl) rfl, KI_fr (M := M') ?_ ?_ ?_ ?_ ?_ ki, ⟨?_, ?_⟩, fun j hj => ?_, ⟨fun _ => ⟨_, _, hgd⟩, fun _ => rfl⟩⟩
          · rw [eb_53_1]
            clear hr2 hgd z2 frw
            simp (disch := first | assumption | omega | exact st8_a (Nat.le_of_ble_eq_true rfl)) only [e0, e2, hv, hM40, e5, e9, eb_53_5, eb_53_6, eb_53_7, eb_53_9, eb_53_10, eb_53_11, eb_53_12, eb_53_13, kl_a, kl_d, kl_f, kl_i, kl_l, kl_n, kl_r, xr_1, xr_10, xr_2, xr_27, xr_28, xr_3, xr_30, xr_31, xr_38, xr_4, xr_42, xr_44, xr_5, xr_64, xr_75, xr_8, xr_9, af_0, af_1, xt_goto, xt_ib, xt_ic, xt_ic_ge, xt_ic_ne, xt_if_ne, xt_ir, xt_nop, gL_23, gL_42, gL_61, gF_40_0, gF_40_1, gF_40_2, gF_40_3, gF_40_6, gF_40_7, gF_28_2, gA_2, gA_3, gA_4, gA_5, gA_6, gA_7, gA_8, gA_9, gA_10, gA_11, gA_13, gA_14, gA_16, gA_17, gA_20, gA_21, gA_22, gA_23, gA_24, gA_25, gA_26, gA_27, gA_30, gA_31, gA_32, gA_33, gA_34, gA_35, gA_36, gA_38, gA_39, gA_41, gA_42, gA_46, gA_47, gA_49, gA_50, gA_51, gA_53, gA_56, gA_57, gA_59, gA_60, gW_2, gW_3, gW_4, gW_5, gW_6, gW_7, gW_8, gW_9, gW_10, gW_11, gW_13, gW_14, gW_16, gW_17, gW_20, gW_21, gW_22, gW_23, gW_24, gW_25, gW_26, gW_27, gW_30, gW_31, gW_32, gW_33, gW_34, gW_35, gW_36, gW_38, gW_39, gW_41, gW_42, gW_46, gW_47, gW_49, gW_50, gW_51, gW_53, gW_56, gW_57, gW_59, gW_60, gP_40_7, xq_15_2_virtualc, xq_26_3_virtualc, xq_56_6_virtualc, xq_74_7_virtualc, iN_add, iN_mul, iN_sub, iN_and, iN_or, iN_clr, iN_shl, iN_shr, tb_r1, b1_z, b1_or, b1_and, b1_or0, b1_or1, b1_0or, b1_t, b1_f, iN_lt, iN_inj, reduceIte, if_true, if_false, Nat.zero_add, Nat.add_zero, Bool.false_eq_true, Bool.true_eq_false, Nat.lt_irrefl, iN_az, not_true_eq_false, not_false_eq_true, Nat.reduceEqDiff, Nat.reduceLT, Nat.reduceAdd, Nat.reduceMul, Nat.reduceSub]
            rw [up_n (by decide : (40 : Nat) ≠ 42)]
          · rw [up_n (by decide), up_n (by decide)]
          · rw [up_n (by decide), up_n (by decide)]
          · rw [up_n (by decide), up_n (by decide)]
          · rw [up_n (by decide), up_n (by decide)]
          · rw [up_n (by decide), up_n (by decide)]
          · rw [up_s, u1_s]; omega
          · intro i hi
            rw [up_s, u1_s] at hi
            rw [up_n (by decide), up_s]
            by_cases hii : i = M' 40 7
            · rw [hii, u1_s]
              exact ⟨clr_lt (n := 10) hal, KS_brk hgd⟩
            · rw [u1_n hii, x42]
              exact hr2 i (by rw [← x40]; omega)
          · rw [up_s, u1_n hj, up_n (by decide), x40]
        · have hM40 : ¬ M' 40 7 < 64 := by rw [x40]; exact hs64
          have h64 : M' 40 7 = 64 := by rw [x40]; omega
          refine ⟨M', true, ?_, frw, ki, ⟨by rw [x40]; exact hr1, by rw [x40, x42]; exact hr2⟩, fun j _ => by rw [x40], ⟨fun _ => ⟨_, _, hgd⟩, fun _ => rfl⟩⟩
          rw [eb_53_1]
          clear hr2 hgd z2 frw
          simp (disch := first | assumption | omega | exact st8_a (Nat.le_of_ble_eq_true rfl)) only [e0, e2, hv, h64, eb_53_5, eb_53_6, eb_53_7, eb_53_9, eb_53_13, kl_a, kl_d, kl_f, kl_i, kl_l, kl_n, kl_r, xr_1, xr_10, xr_2, xr_27, xr_28, xr_3, xr_30, xr_31, xr_38, xr_4, xr_42, xr_44, xr_5, xr_64, xr_75, xr_8, xr_9, af_0, af_1, xt_goto, xt_ib, xt_ic, xt_ic_ge, xt_ic_ne, xt_if_ne, xt_ir, xt_nop, gL_23, gL_42, gL_61, gF_40_0, gF_40_1, gF_40_2, gF_40_3, gF_40_6, gF_40_7, gF_28_2, gA_2, gA_3, gA_4, gA_5, gA_6, gA_7, gA_8, gA_9, gA_10, gA_11, gA_13, gA_14, gA_16, gA_17, gA_20, gA_21, gA_22, gA_23, gA_24, gA_25, gA_26, gA_27, gA_30, gA_31, gA_32, gA_33, gA_34, gA_35, gA_36, gA_38, gA_39, gA_41, gA_42, gA_46, gA_47, gA_49, gA_50, gA_51, gA_53, gA_56, gA_57, gA_59, gA_60, gW_2, gW_3, gW_4, gW_5, gW_6, gW_7, gW_8, gW_9, gW_10, gW_11, gW_13, gW_14, gW_16, gW_17, gW_20, gW_21, gW_22, gW_23, gW_24, gW_25, gW_26, gW_27, gW_30, gW_31, gW_32, gW_33, gW_34, gW_35, gW_36, gW_38, gW_39, gW_41, gW_42, gW_46, gW_47, gW_49, gW_50, gW_51, gW_53, gW_56, gW_57, gW_59, gW_60, gP_40_7, xq_15_2_virtualc, xq_26_3_virtualc, xq_56_6_virtualc, xq_74_7_virtualc, iN_add, iN_mul, iN_sub, iN_and, iN_or, iN_clr, iN_shl, iN_shr, tb_r1, b1_z, b1_or, b1_and, b1_or0, b1_or1, b1_0or, b1_t, b1_f, iN_lt, iN_inj, reduceIte, if_true, if_false, Nat.zero_add, Nat.add_zero, Bool.false_eq_true, Bool.true_eq_false, Nat.lt_irrefl, iN_az, not_true_eq_false, not_false_eq_true, Nat.reduceEqDiff, Nat.reduceLT, Nat.reduceAdd, Nat.reduceMul, Nat.reduceSub]
    · intro k hk ⟨M', b, e1, q1, q2, q3, q4, q5⟩
      have h42 := hr2 k hk
      have hk64 : k < 64 := by omega
      rw [eb_53_1]
      by_cases h1 : clr u (M 42 k) = 0
      · refine ⟨M, true, ?_, Fr_r _ _, hI, ⟨hr1, hr2⟩, fun _ _ => rfl, ⟨fun _ => KS_sub h42.2 h1, fun _ => rfl⟩⟩
        have h42' := h42.1
        clear hr2 q1 q2 q3 q4 q5 h42
        simp (disch := first | assumption | omega | exact st8_a (Nat.le_of_ble_eq_true rfl)) only [hk, h1, eb_53_2, eb_53_3, kl_a, kl_d, kl_f, kl_i, kl_l, kl_n, kl_r, xr_1, xr_10, xr_2, xr_27, xr_28, xr_3, xr_30, xr_31, xr_38, xr_4, xr_42, xr_44, xr_5, xr_64, xr_75, xr_8, xr_9, af_0, af_1, xt_goto, xt_ib, xt_ic, xt_ic_ge, xt_ic_ne, xt_if_ne, xt_ir, xt_nop, gL_23, gL_42, gL_61, gF_40_0, gF_40_1, gF_40_2, gF_40_3, gF_40_6, gF_40_7, gF_28_2, gA_2, gA_3, gA_4, gA_5, gA_6, gA_7, gA_8, gA_9, gA_10, gA_11, gA_13, gA_14, gA_16, gA_17, gA_20, gA_21, gA_22, gA_23, gA_24, gA_25, gA_26, gA_27, gA_30, gA_31, gA_32, gA_33, gA_34, gA_35, gA_36, gA_38, gA_39, gA_41, gA_42, gA_46, gA_47, gA_49, gA_50, gA_51, gA_53, gA_56, gA_57, gA_59, gA_60, gW_2, gW_3, gW_4, gW_5, gW_6, gW_7, gW_8, gW_9, gW_10, gW_11, gW_13, gW_14, gW_16, gW_17, gW_20, gW_21, gW_22, gW_23, gW_24, gW_25, gW_26, gW_27, gW_30, gW_31, gW_32, gW_33, gW_34, gW_35, gW_36, gW_38, gW_39, gW_41, gW_42, gW_46, gW_47, gW_49, gW_50, gW_51, gW_53, gW_56, gW_57, gW_59, gW_60, gP_40_7, xq_15_2_virtualc, xq_26_3_virtualc, xq_56_6_virtualc, xq_74_7_virtualc, iN_add, iN_mul, iN_sub, iN_and, iN_or, iN_clr, iN_shl, iN_shr, tb_r1, b1_z, b1_or, b1_and, b1_or0, b1_or1, b1_0or, b1_t, b1_f, iN_lt, iN_inj, reduceIte, if_true, if_false, Nat.zero_add, Nat.add_zero, Bool.false_eq_true, Bool.true_eq_false, Nat.lt_irrefl, iN_az, not_true_eq_false, not_false_eq_true, Nat.reduceEqDiff, Nat.reduceLT, Nat.reduceAdd, Nat.reduceMul, Nat.reduceSub]
      · refine ⟨M', b, ?_, q1, q2, q3, q4, q5⟩
        have h42' := h42.1
        have hcl : clr u (M 42 k) < 1024 := clr_lt (n := 10) hu
        clear hr2 q1 q2 q3 q4 q5 h42
        simp (disch := first | assumption | omega | exact st8_a (Nat.le_of_ble_eq_true rfl)) only [hk, h1, eb_53_2, eb_53_4, kl_a, kl_d, kl_f, kl_i, kl_l, kl_n, kl_r, xr_1, xr_10, xr_2, xr_27, xr_28, xr_3, xr_30, xr_31, xr_38, xr_4, xr_42, xr_44, xr_5, xr_64, xr_75, xr_8, xr_9, af_0, af_1, xt_goto, xt_ib, xt_ic, xt_ic_ge, xt_ic_ne, xt_if_ne, xt_ir, xt_nop, gL_23, gL_42, gL_61, gF_40_0, gF_40_1, gF_40_2, gF_40_3, gF_40_6, gF_40_7, gF_28_2, gA_2, gA_3, gA_4, gA_5, gA_6, gA_7, gA_8, gA_9, gA_10, gA_11, gA_13, gA_14, gA_16, gA_17, gA_20, gA_21, gA_22, gA_23, gA_24, gA_25, gA_26, gA_27, gA_30, gA_31, gA_32, gA_33, gA_34, gA_35, gA_36, gA_38, gA_39, gA_41, gA_42, gA_46, gA_47, gA_49, gA_50, gA_51, gA_53, gA_56, gA_57, gA_59, gA_60, gW_2, gW_3, gW_4, gW_5, gW_6, gW_7, gW_8, gW_9, gW_10, gW_11, gW_13, gW_14, gW_16, gW_17, gW_20, gW_21, gW_22, gW_23, gW_24, gW_25, gW_26, gW_27, gW_30, gW_31, gW_32, gW_33, gW_34, gW_35, gW_36, gW_38, gW_39, gW_41, gW_42, gW_46, gW_47, gW_49, gW_50, gW_51, gW_53, gW_56, gW_57, gW_59, gW_60, gP_40_7, xq_15_2_virtualc, xq_26_3_virtualc, xq_56_6_virtualc, xq_74_7_virtualc, iN_add, iN_mul, iN_sub, iN_and, iN_or, iN_clr, iN_shl, iN_shr, tb_r1, b1_z, b1_or, b1_and, b1_or0, b1_or1, b1_0or, b1_t, b1_f, iN_lt, iN_inj, reduceIte, if_true, if_false, Nat.zero_add, Nat.add_zero, Bool.false_eq_true, Bool.true_eq_false, Nat.lt_irrefl, iN_az, not_true_eq_false, not_false_eq_true, Nat.reduceEqDiff, Nat.reduceLT, Nat.reduceAdd, Nat.reduceMul, Nat.reduceSub]
        exact e1
  obtain ⟨M', b, e1, q⟩ := key 0 (Nat.zero_le _)
  refine ⟨M', b, ?_, q⟩
  clear q key hr2
  simp (disch := first | assumption | omega | exact st8_a (Nat.le_of_ble_eq_true rfl)) only [eb_53_0, kl_a, kl_d, kl_f, kl_i, kl_l, kl_n, kl_r, xr_1, xr_10, xr_2, xr_27, xr_28, xr_3, xr_30, xr_31, xr_38, xr_4, xr_42, xr_44, xr_5, xr_64, xr_75, xr_8, xr_9, af_0, af_1, xt_goto, xt_ib, xt_ic, xt_ic_ge, xt_ic_ne, xt_if_ne, xt_ir, xt_nop, gL_23, gL_42, gL_61, gF_40_0, gF_40_1, gF_40_2, gF_40_3, gF_40_6, gF_40_7, gF_28_2, gA_2, gA_3, gA_4, gA_5, gA_6, gA_7, gA_8, gA_9, gA_10, gA_11, gA_13, gA_14, gA_16, gA_17, gA_20, gA_21, gA_22, gA_23, gA_24, gA_25, gA_26, gA_27, gA_30, gA_31, gA_32, gA_33, gA_34, gA_35, gA_36, gA_38, gA_39, gA_41, gA_42, gA_46, gA_47, gA_49, gA_50, gA_51, gA_53, gA_56, gA_57, gA_59, gA_60, gW_2, gW_3, gW_4, gW_5, gW_6, gW_7, gW_8, gW_9, gW_10, gW_11, gW_13, gW_14, gW_16, gW_17, gW_20, gW_21, gW_22, gW_23, gW_24, gW_25, gW_26, gW_27, gW_30, gW_31, gW_32, gW_33, gW_34, gW_35, gW_36, gW_38, gW_39, gW_41, gW_42, gW_46, gW_47, gW_49, gW_50, gW_51, gW_53, gW_56, gW_57, gW_59, gW_60, gP_40_7, xq_15_2_virtualc, xq_26_3_virtualc, xq_56_6_virtualc, xq_74_7_virtualc, iN_add, iN_mul, iN_sub, iN_and, iN_or, iN_clr, iN_shl, iN_shr, tb_r1, b1_z, b1_or, b1_and, b1_or0, b1_or1, b1_0or, b1_t, b1_f, iN_lt, iN_inj, reduceIte, if_true, if_false, Nat.zero_add, Nat.add_zero, Bool.false_eq_true, Bool.true_eq_false, Nat.lt_irrefl, iN_az, not_true_eq_false, not_false_eq_true, Nat.reduceEqDiff, Nat.reduceLT, Nat.reduceAdd, Nat.reduceMul, Nat.reduceSub]
  exact e1
end Rc
