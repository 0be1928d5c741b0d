/-! THE CLASS Search: behind -/
abbrev QQ : List Nat := [19, 20, 21, 22, 23, 24, 25, 26, 27]
/-- what holds of the question and the search between calls -/
def KI (σ M : Nat → Nat → Nat) : Prop := M 1 8 < 4294967296 ∧ (M 19 11 = 4294967295 ∨ M 19 11 ≤ M 1 8) ∧ (M 19 11 = M 1 8 → GO σ M) ∧ ∀ j, M 32 j < 64
/-- all told rules -/
def alr (σ : Nat → Nat → Nat) : Nat := (1 <<< (σ 1 7)) - 1
section Sl
variable {xs : List Int32} {σ M N N2 M' : Nat → Nat → Nat} {R : ab_H} {e k l set sl ro : Nat}
set_option maxRecDepth 100000 in
theorem alr_lt (O : Ok σ) : alr σ < 1024 := by
  obtain ⟨hD1, hD2, hH1, hH2, hS, hC, hT, hR, hL, hQ⟩ := Ok_b O
  unfold alr
  rw [Nat.one_shiftLeft]
  have : 2 ^ (σ 1 7) ≤ 2 ^ 10 := Nat.pow_le_pow_right (by decide) hQ
  omega
set_option maxRecDepth 100000 in
theorem QC_0 (h10 : M 19 10 = 0) (h26 : ∀ j, M 26 j = 0) (s r : Nat → Nat) : QC σ M s r = 0 := by
  unfold QC gco
  rw [sm_z.mpr fun l _ => h26 _, if_neg (by omega), if_neg (by omega)]
set_option maxRecDepth 100000 in
theorem ask_ok (O : Ok σ) (hset : set < 1024) (hI : KI σ M) : ∃ M', ev xs (e + 4) 26 0 ([.ref 19, .int (nI set), .retAddr 9, .retAddr 9], [], hc σ M R) = some (.inl none, hc σ M' R) ∧ Fr QQ M M' ∧ KI σ M' ∧ QW σ M' ∧ (∀ s r, QA σ M' s r ↔ Gd σ set s r) ∧ M' 19 10 = 0 ∧ (∀ j, M' 26 j = 0) ∧ AskQ σ set M' := by
  obtain ⟨M', e1, f1, f2, f3, f4, f5, f6, f7⟩ := s_26 (xs := xs) (d := e) (M := M) (R := R) O hset hI.1 (by have h1 := hI.1; have h2 := hI.2.1; omega) hI.2.2.1
  exact ⟨M', e1, f1, ⟨by rw [f1 1 rfl]; exact hI.1, Or.inr (by rw [f5, f1 1 rfl]; exact Nat.le_refl _), fun _ => f2, by rw [f1 32 rfl]; exact hI.2.2.2⟩, AskQ_W O f3 f2.1 f4 f6 f7, QA_Gd O f3, f4, f6, f3⟩
set_option maxRecDepth 100000 in
theorem GO_fr (h24 : N 24 = M 24) (h25 : N 25 = M 25) (h19 : N 19 = M 19) (h : GO σ M) : GO σ N := by
  unfold GO
  rw [h24, h25, h19]
  exact h
set_option maxRecDepth 100000 in
theorem s_78 (O : Ok σ) (hW : QW σ M) (hl : l < (σ 1 6)) : ∃ N, ev xs (e + 3) 78 0 ([.ref 28, .int (nI l), .int (nI sl), .int (nI ro)], [], hc σ M R) = some (.inl none, hc σ N R) ∧ Fr [20, 21, 27] M N ∧ QW σ N ∧ ∀ s r, QA σ N s r ↔ QA σ M s r ∧ sl.testBit (s l) = true ∧ ro.testBit (r l) = true := by
  obtain ⟨hD1, hD2, hH1, hH2, hS, hC, hT, hR, hL, hQ⟩ := Ok_b O
  have h21 := QW_21 O hW hl
  have h1 : M 21 l &&& ro < 8 := Nat.lt_of_le_of_lt Nat.and_le_left h21
  obtain ⟨g, e1, q1, q2⟩ := s_39 (xs := xs) (d := e) (M := M) (R := R) (st := M 20 l &&& sl) O hl h1 (fun j _ => hW.2.2.2.2.2.2.2.1 j)
  refine ⟨_, ?_, Fr_u (Fr_p (Fr_p (Fr_r _ _) rfl) rfl) rfl, QW_al hW O hl (fun i hi => ?_) (fun i hi => ?_) q1 q2, fun s r => ?_⟩
  · simp (disch := first | assumption | omega | exact st8_a (Nat.le_of_ble_eq_true rfl)) only [e1, eb_78_0, eb_78_1, xr_1, xr_2, xr_28, xr_3, xr_31, xr_37, xr_4, xr_44, xr_5, af_0, af_1, xt_re, gF_19_1, gF_19_2, gF_28_1, gA_2, gA_3, gA_4, gA_5, gA_6, gA_7, gA_8, gA_9, gA_10, gA_11, gA_13, gA_14, gA_16, gA_17, gA_20, gA_21, gA_22, gA_23, gA_24, gA_25, gA_26, gA_27, gA_30, gA_31, gA_32, gA_33, gA_34, gA_35, gA_36, gA_38, gA_39, gA_41, gA_42, gA_46, gA_47, gA_49, gA_50, gA_51, gA_53, gA_56, gA_57, gA_59, gA_60, xq_39_3_virtualc, iN_add, iN_mul, iN_sub, iN_and, iN_or, iN_clr, iN_shl, iN_shr, tb_r1, b1_z, b1_or, b1_and, b1_or0, b1_or1, b1_0or, b1_t, b1_f, iN_lt, iN_inj, reduceIte, if_true, if_false, Nat.zero_add, Nat.add_zero, Bool.false_eq_true, Bool.true_eq_false, Nat.lt_irrefl, iN_az, not_true_eq_false, not_false_eq_true, Nat.reduceEqDiff, Nat.reduceLT, Nat.reduceAdd, Nat.reduceMul, Nat.reduceSub]
  · rw [Nat.testBit_and, Bool.and_eq_true] at hi
    exact hW.1 l hl i hi.1
  · rw [Nat.testBit_and, Bool.and_eq_true] at hi
    exact hW.2.1 l hl i hi.1
  · unfold QA
    have e20 : ∀ j, (ur (up (up M 20 l (M 20 l &&& sl)) 21 l (M 21 l &&& ro)) 27 g) 20 j = u1 (M 20) l (M 20 l &&& sl) j := fun _ => rfl
    have e21 : ∀ j, (ur (up (up M 20 l (M 20 l &&& sl)) 21 l (M 21 l &&& ro)) 27 g) 21 j = u1 (M 21) l (M 21 l &&& ro) j := fun _ => rfl
    constructor
    · rintro ⟨a1, a2, a3⟩
      have hll := a1 l hl
      rw [e20, e21, u1_s, u1_s, Nat.testBit_and, Nat.testBit_and, Bool.and_eq_true, Bool.and_eq_true] at hll
      refine ⟨⟨fun j hj => ?_, a2, a3⟩, hll.1.2, hll.2.2⟩
      by_cases h : j = l
      · subst h; exact ⟨hll.1.1, hll.2.1⟩
      · have := a1 j hj
        rw [e20, e21, u1_n h, u1_n h] at this
        exact this
    · rintro ⟨⟨a1, a2, a3⟩, b1', b2⟩
      refine ⟨fun j hj => ?_, a2, a3⟩
      rw [e20, e21]
      by_cases h : j = l
      · subst h
        rw [u1_s, u1_s, Nat.testBit_and, Nat.testBit_and, (a1 j hj).1, (a1 j hj).2, b1', b2]
        exact ⟨rfl, rfl⟩
      · rw [u1_n h, u1_n h]
        exact a1 j hj
set_option maxRecDepth 100000 in
theorem s_77 (O : Ok σ) (hI : KI σ M) (hl : l < (σ 1 6)) (hs : ∀ l, l < (σ 1 6) → M 13 l < (σ 1 2)) (hr : ∀ l, l < (σ 1 6) → M 14 l < (σ 1 5)) : ∃ M', ∃ b : Bool, ev xs (e + 20) 77 0 ([.ref 28, .ref 12, .int (nI l), .int (nI sl), .int (nI ro), .retAddr 9], [], hc σ M R) = some (.inl (some (.int (nI (b1 b)))), hc σ M' R) ∧ Fr QS M M' ∧ KI σ M' ∧ (b = false → M' 29 = M 29 ∧ M' 30 = M 30 ∧ M' 31 = M 31 ∧ ∀ s r, Gd σ (alr σ) s r → (∀ j, j < l → s j = M 13 j ∧ r j = M 14 j) → sl.testBit (s l) = true → ro.testBit (r l) = true → False) ∧ (b = true → QW σ M' ∧ M' 29 0 = 1 ∧ M' 29 1 = (σ 1 6) ∧ QA σ M' (M' 30) (M' 31) ∧ (∀ s r, QC σ M' s r = 0) ∧ ∀ s r, QA σ M' s r ↔ Gd σ (alr σ) s r ∧ (∀ j, j < l → s j = M 13 j ∧ r j = M 14 j) ∧ sl.testBit (s l) = true ∧ ro.testBit (r l) = true) := by
  obtain ⟨hD1, hD2, hH1, hH2, hS, hC, hT, hR, hL, hQ⟩ := Ok_b O
  have h12 : TT 12 := by decide
  obtain ⟨N0, e0, f1, f2, f3, f4, f5, f6, -⟩ := ask_ok (xs := xs) (e := e + 15) (R := R) O (alr_lt O) hI
  have lp1 : ∀ k, k ≤ l → ∀ N, (Fr QQ M N ∧ KI σ N ∧ QW σ N ∧ N 19 10 = 0 ∧ (∀ j, N 26 j = 0) ∧ ∀ s r, QA σ N s r ↔ Gd σ (alr σ) s r ∧ ∀ j, j < k → s j = M 13 j ∧ r j = M 14 j) → ∃ M', ∃ b : Bool, ev xs (e + 20) 77 3 ([.ref 28, .ref 12, .int (nI l), .int (nI sl), .int (nI ro), .int (nI k)], [], hc σ N R) = some (.inl (some (.int (nI (b1 b)))), hc σ M' R) ∧ Fr QS M M' ∧ KI σ M' ∧ (b = false → M' 29 = M 29 ∧ M' 30 = M 30 ∧ M' 31 = M 31 ∧ ∀ s r, Gd σ (alr σ) s r → (∀ j, j < l → s j = M 13 j ∧ r j = M 14 j) → sl.testBit (s l) = true → ro.testBit (r l) = true → False) ∧ (b = true → QW σ M' ∧ M' 29 0 = 1 ∧ M' 29 1 = (σ 1 6) ∧ QA σ M' (M' 30) (M' 31) ∧ (∀ s r, QC σ M' s r = 0) ∧ ∀ s r, QA σ M' s r ↔ Gd σ (alr σ) s r ∧ (∀ j, j < l → s j = M 13 j ∧ r j = M 14 j) ∧ sl.testBit (s l) = true ∧ ro.testBit (r l) = true) := by
    refine lp l ?_ ?_
    · rintro N ⟨g1, g2, g3, g4, g5, g6⟩
      obtain ⟨N1, e1, h1, h2, h3⟩ := s_78 (xs := xs) (e := e + 16) (M := N) (R := R) (sl := sl) (ro := ro) O g3 hl
      have kd : ∀ j, N1 32 j < 64 := by rw [h1 32 rfl]; exact g2.2.2.2
      obtain ⟨M', v, e2, i1, i2, i3⟩ := s_74 (xs := xs) (e := e + 1) (M := N1) (R := R) (most := 0) O h2 kd (by decide) false
      have c10 : N1 19 10 = 0 := by rw [h1 19 rfl]; exact g4
      have c26 : ∀ j, N1 26 j = 0 := by rw [h1 26 rfl]; exact g5
      have hq0 := QC_0 (σ := σ) c10 c26
      have fr : Fr QS M M' := Fr_t (Fr_w g1 fun a ha => by simp at ha ⊢; omega) (Fr_t (Fr_w h1 fun a ha => by simp at ha ⊢; omega) (Fr_w i1 fun a ha => by simp at ha ⊢; omega))
      have ki : KI σ M' := ⟨by rw [i1 1 rfl, h1 1 rfl]; exact g2.1, by rw [i1 19 rfl, h1 19 rfl, i1 1 rfl, h1 1 rfl]; exact g2.2.1, fun h => GO_fr ((i1 24 rfl).trans (h1 24 rfl)) ((i1 25 rfl).trans (h1 25 rfl)) ((i1 19 rfl).trans (h1 19 rfl)) (g2.2.2.1 (by rw [i1 19 rfl, h1 19 rfl, i1 1 rfl, h1 1 rfl] at h; exact h)), i2⟩
      rcases i3 with ⟨z1, z2, z3, z4, z5⟩ | ⟨z1, z2, z3, z4, z5, -⟩
      · refine ⟨M', false, ?_, fr, ki, fun _ => ⟨by rw [z2, h1 29 rfl, g1 29 rfl], by rw [z3, h1 30 rfl, g1 30 rfl], by rw [z4, h1 31 rfl, g1 31 rfl], fun s r hg hp hs hr => ?_⟩, fun h => (by cases h)⟩
        · rw [z1, b1_f] at e2
          rw [eb_77_3]
          simp (disch := first | assumption | omega | exact st8_a (Nat.le_of_ble_eq_true rfl)) only [e1, e2, eb_77_0, eb_77_1, eb_77_2, eb_77_4, eb_77_5, eb_77_6, eb_77_7, eb_77_8, eb_77_9, eb_77_10, eb_77_11, kl_a, kl_d, kl_f, kl_i, kl_l, kl_n, kl_r, xr_1, xr_10, xr_11, xr_12, xr_13, xr_14, xr_15, xr_2, xr_27, xr_3, xr_31, xr_34, xr_35, xr_36, xr_37, xr_39, xr_4, xr_5, xr_58, xr_64, af_0, af_1, xt_goto, xt_ib, xt_ic, xt_ic_eq, xt_ic_ge, xt_ir, xt_nop, gF_28_0, gF_28_1, gA_2, gA_3, gA_4, gA_5, gA_6, gA_7, gA_8, gA_9, gA_10, gA_11, gA_13, gA_14, gA_16, gA_17, gA_20, gA_21, gA_22, gA_23, gA_24, gA_25, gA_26, gA_27, gA_30, gA_31, gA_32, gA_33, gA_34, gA_35, gA_36, gA_38, gA_39, gA_41, gA_42, gA_46, gA_47, gA_49, gA_50, gA_51, gA_53, gA_56, gA_57, gA_59, gA_60, tF_0 h12, tF_1 h12, tF_2 h12, tF_3 h12, tA_1 h12, tA_2 h12, tW_1 h12, tW_2 h12, tP_0 h12, tP_1 h12, xq_26_3_virtualc, xq_56_6_virtualc, xq_74_7_virtualc, xq_78_7_virtualc, iN_add, iN_mul, iN_sub, iN_and, iN_or, iN_clr, iN_shl, iN_shr, tb_r1, b1_z, b1_or, b1_and, b1_or0, b1_or1, b1_0or, b1_t, b1_f, iN_lt, iN_inj, reduceIte, if_true, if_false, Nat.zero_add, Nat.add_zero, Bool.false_eq_true, Bool.true_eq_false, Nat.lt_irrefl, iN_az, not_true_eq_false, not_false_eq_true, Nat.reduceEqDiff, Nat.reduceLT, Nat.reduceAdd, Nat.reduceMul, Nat.reduceSub]
        · have := z5 s r ((h3 s r).mpr ⟨(g6 s r).mpr ⟨hg, hp⟩, hs, hr⟩)
          rw [hq0] at this
          omega
      · refine ⟨M', true, ?_, fr, ki, fun h => (by cases h), fun _ => ⟨by rw [QW_fr i1]; exact h2, z4, z5, by rw [QA_fr i1]; exact z2, fun s r => by rw [QC_fr i1]; exact hq0 s r, fun s r => by rw [QA_fr i1, h3 s r, g6 s r, and_assoc]⟩⟩
        have hv : ¬ v = 4294967295 := by omega
        rw [b1_f] at e2
        rw [eb_77_3]
        simp (disch := first | assumption | omega | exact st8_a (Nat.le_of_ble_eq_true rfl)) only [e1, e2, hv, eb_77_0, eb_77_1, eb_77_2, eb_77_4, eb_77_5, eb_77_6, eb_77_7, eb_77_8, eb_77_9, eb_77_10, eb_77_11, kl_a, kl_d, kl_f, kl_i, kl_l, kl_n, kl_r, xr_1, xr_10, xr_11, xr_12, xr_13, xr_14, xr_15, xr_2, xr_27, xr_3, xr_31, xr_34, xr_35, xr_36, xr_37, xr_39, xr_4, xr_5, xr_58, xr_64, af_0, af_1, xt_goto, xt_ib, xt_ic, xt_ic_eq, xt_ic_ge, xt_ir, xt_nop, gF_28_0, gF_28_1, gA_2, gA_3, gA_4, gA_5, gA_6, gA_7, gA_8, gA_9, gA_10, gA_11, gA_13, gA_14, gA_16, gA_17, gA_20, gA_21, gA_22, gA_23, gA_24, gA_25, gA_26, gA_27, gA_30, gA_31, gA_32, gA_33, gA_34, gA_35, gA_36, gA_38, gA_39, gA_41, gA_42, gA_46, gA_47, gA_49, gA_50, gA_51, gA_53, gA_56, gA_57, gA_59, gA_60, tF_0 h12, tF_1 h12, tF_2 h12, tF_3 h12, tA_1 h12, tA_2 h12, tW_1 h12, tW_2 h12, tP_0 h12, tP_1 h12, xq_26_3_virtualc, xq_56_6_virtualc, xq_74_7_virtualc, xq_78_7_virtualc, iN_add, iN_mul, iN_sub, iN_and, iN_or, iN_clr, iN_shl, iN_shr, tb_r1, b1_z, b1_or, b1_and, b1_or0, b1_or1, b1_0or, b1_t, b1_f, iN_lt, iN_inj, reduceIte, if_true, if_false, Nat.zero_add, Nat.add_zero, Bool.false_eq_true, Bool.true_eq_false, Nat.lt_irrefl, iN_az, not_true_eq_false, not_false_eq_true, Nat.reduceEqDiff, Nat.reduceLT, Nat.reduceAdd, Nat.reduceMul, Nat.reduceSub]
    · rintro k hk ih N ⟨g1, g2, g3, g4, g5, g6⟩
      have hkl : k < (σ 1 6) := by omega
      have w1 := hs k hkl
      have w2 := hr k hkl
      obtain ⟨N1, e1, h1, h2, h3⟩ := s_78 (xs := xs) (e := e + 16) (M := N) (R := R) (sl := 1 <<< M 13 k) (ro := 1 <<< M 14 k) O g3 hkl
      obtain ⟨M', b, e2, q⟩ := ih N1 ⟨Fr_t g1 (Fr_w h1 fun a ha => by simp at ha ⊢; omega), ⟨by rw [h1 1 rfl]; exact g2.1, by rw [h1 19 rfl, h1 1 rfl]; exact g2.2.1, fun h => GO_fr (h1 24 rfl) (h1 25 rfl) (h1 19 rfl) (g2.2.2.1 (by rw [h1 19 rfl, h1 1 rfl] at h; exact h)), by rw [h1 32 rfl]; exact g2.2.2.2⟩, h2, by rw [h1 19 rfl]; exact g4, by rw [h1 26 rfl]; exact g5, fun s r => by
        rw [h3 s r, g6 s r, tb_1s, tb_1s, decide_eq_true_eq, decide_eq_true_eq, and_assoc]
        constructor
        · rintro ⟨a, b, c, d⟩
          refine ⟨a, fun j hj => ?_⟩
          by_cases h : j = k
          · subst h; exact ⟨c, d⟩
          · exact b j (by omega)
        · rintro ⟨a, b⟩
          exact ⟨a, fun j hj => b j (by omega), b k (by omega)⟩⟩
      refine ⟨M', b, ?_, q⟩
      have e13 : N 13 k = M 13 k := by rw [g1 13 rfl]
      have e14 : N 14 k = M 14 k := by rw [g1 14 rfl]
      rw [eb_77_3]
      simp (disch := first | assumption | omega | exact st8_a (Nat.le_of_ble_eq_true rfl)) only [hk, e13, e14, e1, eb_77_0, eb_77_1, eb_77_2, eb_77_4, eb_77_5, eb_77_6, eb_77_7, eb_77_8, eb_77_9, eb_77_10, eb_77_11, kl_a, kl_d, kl_f, kl_i, kl_l, kl_n, kl_r, xr_1, xr_10, xr_11, xr_12, xr_13, xr_14, xr_15, xr_2, xr_27, xr_3, xr_31, xr_34, xr_35, xr_36, xr_37, xr_39, xr_4, xr_5, xr_58, xr_64, af_0, af_1, xt_goto, xt_ib, xt_ic, xt_ic_eq, xt_ic_ge, xt_ir, xt_nop, gF_28_0, gF_28_1, gA_2, gA_3, gA_4, gA_5, gA_6, gA_7, gA_8, gA_9, gA_10, gA_11, gA_13, gA_14, gA_16, gA_17, gA_20, gA_21, gA_22, gA_23, gA_24, gA_25, gA_26, gA_27, gA_30, gA_31, gA_32, gA_33, gA_34, gA_35, gA_36, gA_38, gA_39, gA_41, gA_42, gA_46, gA_47, gA_49, gA_50, gA_51, gA_53, gA_56, gA_57, gA_59, gA_60, tF_0 h12, tF_1 h12, tF_2 h12, tF_3 h12, tA_1 h12, tA_2 h12, tW_1 h12, tW_2 h12, tP_0 h12, tP_1 h12, xq_26_3_virtualc, xq_56_6_virtualc, xq_74_7_virtualc, xq_78_7_virtualc, iN_add, iN_mul, iN_sub, iN_and, iN_or, iN_clr, iN_shl, iN_shr, tb_r1, b1_z, b1_or, b1_and, b1_or0, b1_or1, b1_0or, b1_t, b1_f, iN_lt, iN_inj, reduceIte, if_true, if_false, Nat.zero_add, Nat.add_zero, Bool.false_eq_true, Bool.true_eq_false, Nat.lt_irrefl, iN_az, not_true_eq_false, not_false_eq_true, Nat.reduceEqDiff, Nat.reduceLT, Nat.reduceAdd, Nat.reduceMul, Nat.reduceSub]
      exact e2
  obtain ⟨M', b, e2, q⟩ := lp1 0 (Nat.zero_le _) N0 ⟨f1, f2, f3, f5, f6, fun s r => by rw [f4 s r]; exact ⟨fun h => ⟨h, fun j hj => absurd hj (Nat.not_lt_zero j)⟩, fun h => h.1⟩⟩
  refine ⟨M', b, ?_, q⟩
  have ea : (1 <<< (σ 1 7)) - 1 = alr σ := rfl
  simp (disch := first | assumption | omega | exact st8_a (Nat.le_of_ble_eq_true rfl)) only [s_56 O, ea, e0, eb_77_0, eb_77_1, eb_77_2, eb_77_4, eb_77_5, eb_77_6, eb_77_7, eb_77_8, eb_77_9, eb_77_10, eb_77_11, kl_a, kl_d, kl_f, kl_i, kl_l, kl_n, kl_r, xr_1, xr_10, xr_11, xr_12, xr_13, xr_14, xr_15, xr_2, xr_27, xr_3, xr_31, xr_34, xr_35, xr_36, xr_37, xr_39, xr_4, xr_5, xr_58, xr_64, af_0, af_1, xt_goto, xt_ib, xt_ic, xt_ic_eq, xt_ic_ge, xt_ir, xt_nop, gF_28_0, gF_28_1, gA_2, gA_3, gA_4, gA_5, gA_6, gA_7, gA_8, gA_9, gA_10, gA_11, gA_13, gA_14, gA_16, gA_17, gA_20, gA_21, gA_22, gA_23, gA_24, gA_25, gA_26, gA_27, gA_30, gA_31, gA_32, gA_33, gA_34, gA_35, gA_36, gA_38, gA_39, gA_41, gA_42, gA_46, gA_47, gA_49, gA_50, gA_51, gA_53, gA_56, gA_57, gA_59, gA_60, xq_26_3_virtualc, xq_56_6_virtualc, xq_74_7_virtualc, xq_78_7_virtualc, iN_add, iN_mul, iN_sub, iN_and, iN_or, iN_clr, iN_shl, iN_shr, tb_r1, b1_z, b1_or, b1_and, b1_or0, b1_or1, b1_0or, b1_t, b1_f, iN_lt, iN_inj, reduceIte, if_true, if_false, Nat.zero_add, Nat.add_zero, Bool.false_eq_true, Bool.true_eq_false, Nat.lt_irrefl, iN_az, not_true_eq_false, not_false_eq_true, Nat.reduceEqDiff, Nat.reduceLT, Nat.reduceAdd, Nat.reduceMul, Nat.reduceSub]
  exact e2
-- behind: the smallest good timetable that is greater than the present one
set_option maxRecDepth 100000 in
theorem s_76 (O : Ok σ) (hI : KI σ M) (hs : ∀ l, l < (σ 1 6) → M 13 l < (σ 1 2)) (hr : ∀ l, l < (σ 1 6) → M 14 l < (σ 1 5)) : ∃ M', ∃ b : Bool, ev xs (e + 24) 76 0 ([.ref 28, .ref 12, .retAddr 9, .retAddr 9, .retAddr 9, .retAddr 9], [], hc σ M R) = some (.inl (some (.int (nI (b1 b)))), hc σ M' R) ∧ Fr QS M M' ∧ KI σ M' ∧ (b = false → M' 29 = M 29 ∧ M' 30 = M 30 ∧ M' 31 = M 31 ∧ ∀ s r, Gd σ (alr σ) s r → ¬ LX (σ 1 6) (M 13) (M 14) s r) ∧ (b = true → M' 29 0 = 1 ∧ M' 29 1 = (σ 1 6) ∧ Gd σ (alr σ) (M' 30) (M' 31) ∧ LX (σ 1 6) (M 13) (M 14) (M' 30) (M' 31) ∧ ∀ s r, Gd σ (alr σ) s r → LX (σ 1 6) (M 13) (M 14) s r → ¬ LX (σ 1 6) s r (M' 30) (M' 31)) := by
  obtain ⟨hD1, hD2, hH1, hH2, hS, hC, hT, hR, hL, hQ⟩ := Ok_b O
  have h12 : TT 12 := by decide
  -- when one is there
  have win : ∀ (N : Nat → Nat → Nat) (m sl ro : Nat), m < (σ 1 6) → Fr QS M N → KI σ N → (QW σ N ∧ N 29 0 = 1 ∧ N 29 1 = (σ 1 6) ∧ QA σ N (N 30) (N 31) ∧ (∀ s r, QC σ N s r = 0) ∧ ∀ s r, QA σ N s r ↔ Gd σ (alr σ) s r ∧ (∀ j, j < m → s j = M 13 j ∧ r j = M 14 j) ∧ sl.testBit (s m) = true ∧ ro.testBit (r m) = true) → (∀ s r, Gd σ (alr σ) s r → (∀ j, j < m → s j = M 13 j ∧ r j = M 14 j) → sl.testBit (s m) = true → ro.testBit (r m) = true → M 13 m < s m ∨ (M 13 m = s m ∧ M 14 m < r m)) → (∀ s r, Gd σ (alr σ) s r → ∀ j, j < (σ 1 6) → (∀ i, i < j → s i = M 13 i ∧ r i = M 14 i) → (M 13 j < s j ∨ (M 13 j = s j ∧ M 14 j < r j)) → j < m ∨ (j = m ∧ ((sl.testBit (s m) = true ∧ ro.testBit (r m) = true) ∨ ∀ x y, sl.testBit x = true → ro.testBit y = true → x < s m))) → ∃ M', ev xs (e + 23) 79 0 ([.ref 28, .int (nI 0), .retAddr 9, .retAddr 9, .retAddr 9, .retAddr 9, .retAddr 9], [], hc σ N R) = some (.inl none, hc σ M' R) ∧ Fr QS M M' ∧ KI σ M' ∧ M' 29 0 = 1 ∧ M' 29 1 = (σ 1 6) ∧ Gd σ (alr σ) (M' 30) (M' 31) ∧ LX (σ 1 6) (M 13) (M 14) (M' 30) (M' 31) ∧ ∀ s r, Gd σ (alr σ) s r → LX (σ 1 6) (M 13) (M 14) s r → ¬ LX (σ 1 6) s r (M' 30) (M' 31) := by
    rintro N m sl ro hm f1 f2 ⟨q1, q2, q3, q4, q5, q6⟩ hgr hno
    obtain ⟨M', e1, g1, g2, g3, g4, g5, g6, g7⟩ := s_79 (xs := xs) (e := e + 3) (M := N) (R := R) (most := 0) O q1 f2.2.2.2 (by decide) q2 q3 q4 (by rw [q5]; exact Nat.le_refl _)
    obtain ⟨w1, w2, w3, w4⟩ := (q6 _ _).mp g5
    refine ⟨M', e1, Fr_t f1 (Fr_w g1 fun a ha => by simp at ha ⊢; omega), ⟨by rw [g1 1 rfl]; exact f2.1, by rw [g1 19 rfl, g1 1 rfl]; exact f2.2.1, fun h => GO_fr (g1 24 rfl) (g1 25 rfl) (g1 19 rfl) (f2.2.2.1 (by rw [g1 19 rfl, g1 1 rfl] at h; exact h)), g2⟩, g3, g4, w1, ⟨m, hm, fun l hl => ⟨(w2 l hl).1.symm, (w2 l hl).2.symm⟩, hgr _ _ w1 w2 w3 w4⟩, fun s r hg ⟨j, hj, a1, a2⟩ hlx => ?_⟩
    have a1' : ∀ i, i < j → s i = M 13 i ∧ r i = M 14 i := fun i hi => ⟨(a1 i hi).1.symm, (a1 i hi).2.symm⟩
    have a2' : M 13 j < s j ∨ (M 13 j = s j ∧ M 14 j < r j) := a2
    obtain ⟨i, hi, b1', b2⟩ := hlx
    rcases hno s r hg j hj a1' a2' with h | ⟨h, h3⟩
    · -- it parts from the present one before m: then it is greater than the witness
      by_cases hij : i < j
      · have := w2 i (by omega)
        have := a1' i hij
        omega
      · by_cases hij2 : i = j
        · subst hij2
          have := w2 i h
          omega
        · have h4 := b1' j (by omega)
          have h5 := w2 j h
          omega
    · subst h
      rcases h3 with h3 | h3
      · have hq : QA σ N s r := (q6 s r).mpr ⟨hg, a1', h3.1, h3.2⟩
        exact g7 s r hq (by rw [q5]; exact Nat.le_refl _) ⟨i, hi, b1', b2⟩
      · have h4 := h3 _ _ w3 w4
        by_cases hij : i < j
        · have := w2 i hij
          have := a1' i hij
          omega
        · by_cases hij2 : i = j
          · subst hij2
            omega
          · have h5 := b1' j (by omega)
            omega
  have loop : ∀ m, m ≤ (σ 1 6) → ∀ N y3 y4 y5, Fr QS M N → KI σ N → N 29 = M 29 → N 30 = M 30 → N 31 = M 31 → (∀ s r, Gd σ (alr σ) s r → ∀ j, m ≤ j → j < (σ 1 6) → (∀ i, i < j → s i = M 13 i ∧ r i = M 14 i) → ¬ (M 13 j < s j ∨ (M 13 j = s j ∧ M 14 j < r j))) → ∃ M', ∃ b : Bool, ev xs (e + 24) 76 1 ([.ref 28, .ref 12, .int (nI m - nI 1), y3, y4, y5], [], hc σ N R) = some (.inl (some (.int (nI (b1 b)))), hc σ M' R) ∧ Fr QS M M' ∧ KI σ M' ∧ (b = false → M' 29 = M 29 ∧ M' 30 = M 30 ∧ M' 31 = M 31 ∧ ∀ s r, Gd σ (alr σ) s r → ¬ LX (σ 1 6) (M 13) (M 14) s r) ∧ (b = true → M' 29 0 = 1 ∧ M' 29 1 = (σ 1 6) ∧ Gd σ (alr σ) (M' 30) (M' 31) ∧ LX (σ 1 6) (M 13) (M 14) (M' 30) (M' 31) ∧ ∀ s r, Gd σ (alr σ) s r → LX (σ 1 6) (M 13) (M 14) s r → ¬ LX (σ 1 6) s r (M' 30) (M' 31)) := by
    intro m
    induction m with
    | zero =>
      intro hm N y3 y4 y5 f1 f2 f3 f4 f5 hno
      refine ⟨N, false, ?_, f1, f2, fun _ => ⟨f3, f4, f5, fun s r hg ⟨j, hj, a1, a2⟩ => hno s r hg j (Nat.zero_le _) hj (fun i hi => ⟨(a1 i hi).1.symm, (a1 i hi).2.symm⟩) a2⟩, fun h => (by cases h)⟩
      have e0 : nI 0 - nI 1 = nI 4294967295 := rfl
      have e1 : nI 4294967295 < nI 0 := by
        rw [iN_ltg (by decide) (by decide)]
        decide
      rw [e0, eb_76_1]
      simp (disch := first | assumption | omega | exact st8_a (Nat.le_of_ble_eq_true rfl)) only [e1, eb_76_0, eb_76_2, eb_76_3, eb_76_4, eb_76_5, eb_76_6, eb_76_7, eb_76_8, eb_76_9, kl_a, kl_d, kl_f, kl_i, kl_l, kl_n, kl_r, xr_1, xr_10, xr_11, xr_12, xr_13, xr_14, xr_15, xr_2, xr_27, xr_3, xr_30, xr_31, xr_32, xr_33, xr_34, xr_35, xr_36, xr_37, xr_38, xr_4, xr_5, xr_58, xr_64, xr_77, xr_90, af_0, af_1, xt_goto, xt_ib, xt_ic, xt_if_eq, xt_if_lt, xt_if_ne, xt_ir, xt_nop, gF_1_6, gF_28_0, gA_2, gA_3, gA_4, gA_5, gA_6, gA_7, gA_8, gA_9, gA_10, gA_11, gA_13, gA_14, gA_16, gA_17, gA_20, gA_21, gA_22, gA_23, gA_24, gA_25, gA_26, gA_27, gA_30, gA_31, gA_32, gA_33, gA_34, gA_35, gA_36, gA_38, gA_39, gA_41, gA_42, gA_46, gA_47, gA_49, gA_50, gA_51, gA_53, gA_56, gA_57, gA_59, gA_60, xq_77_7_virtualc, xq_79_7_virtualc, iN_add, iN_mul, iN_sub, iN_and, iN_or, iN_clr, iN_shl, iN_shr, tb_r1, b1_z, b1_or, b1_and, b1_or0, b1_or1, b1_0or, b1_t, b1_f, iN_lt, iN_inj, reduceIte, if_true, if_false, Nat.zero_add, Nat.add_zero, Bool.false_eq_true, Bool.true_eq_false, Nat.lt_irrefl, iN_az, not_true_eq_false, not_false_eq_true, Nat.reduceEqDiff, Nat.reduceLT, Nat.reduceAdd, Nat.reduceMul, Nat.reduceSub]
    | succ m ih =>
      intro hm N y3 y4 y5 f1 f2 f3 f4 f5 hno
      have hml : m < (σ 1 6) := by omega
      have w1 := hs m hml
      have w2 := hr m hml
      have e13 : N 13 = M 13 := f1 13 rfl
      have e14 : N 14 = M 14 := f1 14 rfl
      have hsh : ∀ c i, i < 8 → (4294967295 <<< c).testBit i = decide (c ≤ i) := by
        intro c i hi
        rw [Nat.testBit_shiftLeft]
        by_cases h : c ≤ i
        · rw [tb_nn _ (by omega)]
          simp [h]
        · simp [h]
      obtain ⟨N1, b1', e1, g1, g2, g3, g4⟩ := s_77 (xs := xs) (e := e + 3) (M := N) (R := R) (l := m) (sl := 1 <<< M 13 m) (ro := 4294967295 <<< (M 14 m + 1)) O f2 hml (by rw [e13]; exact hs) (by rw [e14]; exact hr)
      rw [e13, e14] at g3 g4
      have em1 : nI (m + 1) - nI 1 = nI m := by rw [iN_sub (by omega), Nat.add_sub_cancel]
      rw [em1, eb_76_1]
      cases b1'
      · obtain ⟨h1, h2, h3, h4⟩ := g3 rfl
        have d13 : N1 13 = M 13 := (g1 13 rfl).trans e13
        have d14 : N1 14 = M 14 := (g1 14 rfl).trans e14
        obtain ⟨N2, b2', e2, i1, i2, i3, i4⟩ := s_77 (xs := xs) (e := e + 3) (M := N1) (R := R) (l := m) (sl := 4294967295 <<< (M 13 m + 1)) (ro := 4294967295) O g2 hml (by rw [d13]; exact hs) (by rw [d14]; exact hr)
        rw [d13, d14] at i3 i4
        have key1 : ∀ s r, Gd σ (alr σ) s r → (∀ i, i < m → s i = M 13 i ∧ r i = M 14 i) → ¬ (M 13 m = s m ∧ M 14 m < r m) := by
          rintro s r hg hp ⟨x1, x2⟩
          have hb := (hg.1 m hml).2
          exact h4 s r hg hp (by rw [tb_1s]; exact decide_eq_true x1.symm) (by rw [hsh _ _ (by omega)]; exact decide_eq_true (by omega))
        cases b2'
        · obtain ⟨j1, j2, j3, j4⟩ := i3 rfl
          obtain ⟨M', b, e3, q⟩ := ih (by omega) N2 (.int (nI (M 13 m))) (.int (nI (4294967295 <<< (M 14 m + 1)))) (.int (nI (4294967295 <<< (M 13 m + 1)))) (Fr_t f1 (Fr_t g1 i1)) i2 (j1.trans (h1.trans f3)) (j2.trans (h2.trans f4)) (j3.trans (h3.trans f5)) (fun s r hg j hj hjl hp => by
            by_cases hjm : j = m
            · subst hjm
              rintro (x | x)
              · have hb := hg.1 j hjl
                exact j4 s r hg hp (by rw [hsh _ _ (by omega)]; exact decide_eq_true (by omega)) (tb_nn _ (by omega))
              · exact key1 s r hg hp x
            · exact hno s r hg j (by omega) hjl hp)
          refine ⟨M', b, ?_, q⟩
          simp (disch := first | assumption | omega | exact st8_a (Nat.le_of_ble_eq_true rfl)) only [Nat.not_lt_zero, e13, e14, e1, e2, eb_76_0, eb_76_2, eb_76_3, eb_76_4, eb_76_5, eb_76_6, eb_76_7, eb_76_8, eb_76_9, kl_a, kl_d, kl_f, kl_i, kl_l, kl_n, kl_r, xr_1, xr_10, xr_11, xr_12, xr_13, xr_14, xr_15, xr_2, xr_27, xr_3, xr_30, xr_31, xr_32, xr_33, xr_34, xr_35, xr_36, xr_37, xr_38, xr_4, xr_5, xr_58, xr_64, xr_77, xr_90, af_0, af_1, xt_goto, xt_ib, xt_ic, xt_if_eq, xt_if_lt, xt_if_ne, xt_ir, xt_nop, gF_1_6, gF_28_0, gA_2, gA_3, gA_4, gA_5, gA_6, gA_7, gA_8, gA_9, gA_10, gA_11, gA_13, gA_14, gA_16, gA_17, gA_20, gA_21, gA_22, gA_23, gA_24, gA_25, gA_26, gA_27, gA_30, gA_31, gA_32, gA_33, gA_34, gA_35, gA_36, gA_38, gA_39, gA_41, gA_42, gA_46, gA_47, gA_49, gA_50, gA_51, gA_53, gA_56, gA_57, gA_59, gA_60, tF_0 h12, tF_1 h12, tF_2 h12, tF_3 h12, tA_1 h12, tA_2 h12, tW_1 h12, tW_2 h12, tP_0 h12, tP_1 h12, xq_77_7_virtualc, xq_79_7_virtualc, iN_add, iN_mul, iN_and, iN_or, iN_clr, iN_shl, iN_shr, tb_r1, b1_z, b1_or, b1_and, b1_or0, b1_or1, b1_0or, b1_t, b1_f, iN_lt, iN_inj, reduceIte, if_true, if_false, Nat.zero_add, Nat.add_zero, Bool.false_eq_true, Bool.true_eq_false, Nat.lt_irrefl, iN_az, not_true_eq_false, not_false_eq_true, Nat.reduceEqDiff, Nat.reduceLT, Nat.reduceAdd, Nat.reduceMul, Nat.reduceSub]
          exact e3
        · obtain ⟨M', e3, q1, q2, q3, q4, q5, q6, q7⟩ := win N2 m _ _ hml (Fr_t f1 (Fr_t g1 i1)) i2 (i4 rfl) (fun s r hg hp hsb hrb => by
            have hb := hg.1 m hml
            rw [hsh _ _ (by omega)] at hsb
            have := of_decide_eq_true hsb
            exact .inl (by omega)) (fun s r hg j hj hp hgt => by
            by_cases hjm : j < m
            · exact .inl hjm
            · by_cases hjm2 : j = m
              · subst hjm2
                refine .inr ⟨rfl, .inl ?_⟩
                have hb := hg.1 j hj
                rcases hgt with x | x
                · exact ⟨by rw [hsh _ _ (by omega)]; exact decide_eq_true (by omega), tb_nn _ (by omega)⟩
                · exact absurd x (key1 s r hg hp)
              · exact absurd hgt (hno s r hg j (by omega) hj hp))
          refine ⟨M', true, ?_, q1, q2, fun h => (by cases h), fun _ => ⟨q3, q4, q5, q6, q7⟩⟩
          simp (disch := first | assumption | omega | exact st8_a (Nat.le_of_ble_eq_true rfl)) only [Nat.not_lt_zero, e13, e14, e1, e2, e3, eb_76_0, eb_76_2, eb_76_3, eb_76_4, eb_76_5, eb_76_6, eb_76_7, eb_76_8, eb_76_9, kl_a, kl_d, kl_f, kl_i, kl_l, kl_n, kl_r, xr_1, xr_10, xr_11, xr_12, xr_13, xr_14, xr_15, xr_2, xr_27, xr_3, xr_30, xr_31, xr_32, xr_33, xr_34, xr_35, xr_36, xr_37, xr_38, xr_4, xr_5, xr_58, xr_64, xr_77, xr_90, af_0, af_1, xt_goto, xt_ib, xt_ic, xt_if_eq, xt_if_lt, xt_if_ne, xt_ir, xt_nop, gF_1_6, gF_28_0, gA_2, gA_3, gA_4, gA_5, gA_6, gA_7, gA_8, gA_9, gA_10, gA_11, gA_13, gA_14, gA_16, gA_17, gA_20, gA_21, gA_22, gA_23, gA_24, gA_25, gA_26, gA_27, gA_30, gA_31, gA_32, gA_33, gA_34, gA_35, gA_36, gA_38, gA_39, gA_41, gA_42, gA_46, gA_47, gA_49, gA_50, gA_51, gA_53, gA_56, gA_57, gA_59, gA_60, tF_0 h12, tF_1 h12, tF_2 h12, tF_3 h12, tA_1 h12, tA_2 h12, tW_1 h12, tW_2 h12, tP_0 h12, tP_1 h12, xq_77_7_virtualc, xq_79_7_virtualc, iN_add, iN_mul, iN_and, iN_or, iN_clr, iN_shl, iN_shr, tb_r1, b1_z, b1_or, b1_and, b1_or0, b1_or1, b1_0or, b1_t, b1_f, iN_lt, iN_inj, reduceIte, if_true, if_false, Nat.zero_add, Nat.add_zero, Bool.false_eq_true, Bool.true_eq_false, Nat.lt_irrefl, iN_az, not_true_eq_false, not_false_eq_true, Nat.reduceEqDiff, Nat.reduceLT, Nat.reduceAdd, Nat.reduceMul, Nat.reduceSub]
      · obtain ⟨M', e3, q1, q2, q3, q4, q5, q6, q7⟩ := win N1 m _ _ hml (Fr_t f1 g1) g2 (g4 rfl) (fun s r hg hp hsb hrb => by
          have hb := hg.1 m hml
          rw [tb_1s] at hsb
          rw [hsh _ _ (by omega)] at hrb
          have x1 := of_decide_eq_true hsb
          have x2 := of_decide_eq_true hrb
          exact .inr ⟨by omega, by omega⟩) (fun s r hg j hj hp hgt => by
          by_cases hjm : j < m
          · exact .inl hjm
          · by_cases hjm2 : j = m
            · subst hjm2
              have hb := hg.1 j hj
              rcases hgt with x | x
              · refine .inr ⟨rfl, .inr fun x1 y1 h1 _ => ?_⟩
                rw [tb_1s] at h1
                have := of_decide_eq_true h1
                omega
              · refine .inr ⟨rfl, .inl ⟨by rw [tb_1s]; exact decide_eq_true x.1.symm, by rw [hsh _ _ (by omega)]; exact decide_eq_true (by omega)⟩⟩
            · exact absurd hgt (hno s r hg j (by omega) hj hp))
        refine ⟨M', true, ?_, q1, q2, fun h => (by cases h), fun _ => ⟨q3, q4, q5, q6, q7⟩⟩
        simp (disch := first | assumption | omega | exact st8_a (Nat.le_of_ble_eq_true rfl)) only [Nat.not_lt_zero, e13, e14, e1, e3, eb_76_0, eb_76_2, eb_76_3, eb_76_4, eb_76_5, eb_76_6, eb_76_7, eb_76_8, eb_76_9, kl_a, kl_d, kl_f, kl_i, kl_l, kl_n, kl_r, xr_1, xr_10, xr_11, xr_12, xr_13, xr_14, xr_15, xr_2, xr_27, xr_3, xr_30, xr_31, xr_32, xr_33, xr_34, xr_35, xr_36, xr_37, xr_38, xr_4, xr_5, xr_58, xr_64, xr_77, xr_90, af_0, af_1, xt_goto, xt_ib, xt_ic, xt_if_eq, xt_if_lt, xt_if_ne, xt_ir, xt_nop, gF_1_6, gF_28_0, gA_2, gA_3, gA_4, gA_5, gA_6, gA_7, gA_8, gA_9, gA_10, gA_11, gA_13, gA_14, gA_16, gA_17, gA_20, gA_21, gA_22, gA_23, gA_24, gA_25, gA_26, gA_27, gA_30, gA_31, gA_32, gA_33, gA_34, gA_35, gA_36, gA_38, gA_39, gA_41, gA_42, gA_46, gA_47, gA_49, gA_50, gA_51, gA_53, gA_56, gA_57, gA_59, gA_60, tF_0 h12, tF_1 h12, tF_2 h12, tF_3 h12, tA_1 h12, tA_2 h12, tW_1 h12, tW_2 h12, tP_0 h12, tP_1 h12, xq_77_7_virtualc, xq_79_7_virtualc, iN_add, iN_mul, iN_and, iN_or, iN_clr, iN_shl, iN_shr, tb_r1, b1_z, b1_or, b1_and, b1_or0, b1_or1, b1_0or, b1_t, b1_f, iN_lt, iN_inj, reduceIte, if_true, if_false, Nat.zero_add, Nat.add_zero, Bool.false_eq_true, Bool.true_eq_false, Nat.lt_irrefl, iN_az, not_true_eq_false, not_false_eq_true, Nat.reduceEqDiff, Nat.reduceLT, Nat.reduceAdd, Nat.reduceMul, Nat.reduceSub]
  obtain ⟨M', b, e1, q⟩ := loop (σ 1 6) (Nat.le_refl _) M (.retAddr 9) (.retAddr 9) (.retAddr 9) (Fr_r _ _) hI rfl rfl rfl (fun s r _ j h1 h2 => by omega)
  refine ⟨M', b, ?_, q⟩
  simp (disch := first | assumption | omega | exact st8_a (Nat.le_of_ble_eq_true rfl)) only [eb_76_0, eb_76_2, eb_76_3, eb_76_4, eb_76_5, eb_76_6, eb_76_7, eb_76_8, eb_76_9, kl_a, kl_d, kl_f, kl_i, kl_l, kl_n, kl_r, xr_1, xr_10, xr_11, xr_12, xr_13, xr_14, xr_15, xr_2, xr_27, xr_3, xr_30, xr_31, xr_32, xr_33, xr_34, xr_35, xr_36, xr_37, xr_38, xr_4, xr_5, xr_58, xr_64, xr_77, xr_90, af_0, af_1, xt_goto, xt_ib, xt_ic, xt_if_eq, xt_if_lt, xt_if_ne, xt_ir, xt_nop, gF_1_6, gF_28_0, gA_2, gA_3, gA_4, gA_5, gA_6, gA_7, gA_8, gA_9, gA_10, gA_11, gA_13, gA_14, gA_16, gA_17, gA_20, gA_21, gA_22, gA_23, gA_24, gA_25, gA_26, gA_27, gA_30, gA_31, gA_32, gA_33, gA_34, gA_35, gA_36, gA_38, gA_39, gA_41, gA_42, gA_46, gA_47, gA_49, gA_50, gA_51, gA_53, gA_56, gA_57, gA_59, gA_60, xq_77_7_virtualc, xq_79_7_virtualc, iN_add, iN_mul, iN_and, iN_or, iN_clr, iN_shl, iN_shr, tb_r1, b1_z, b1_or, b1_and, b1_or0, b1_or1, b1_0or, b1_t, b1_f, iN_lt, iN_inj, reduceIte, if_true, if_false, Nat.zero_add, Nat.add_zero, Bool.false_eq_true, Bool.true_eq_false, Nat.lt_irrefl, iN_az, not_true_eq_false, not_false_eq_true, Nat.reduceEqDiff, Nat.reduceLT, Nat.reduceAdd, Nat.reduceMul, Nat.reduceSub]
  exact e1
end Sl
