/-! THE CLASS Check: look -/
abbrev CF : List Nat := [54, 56, 57, 58, 59, 60]
section Cd
variable {xs : List Int32} {σ M N : Nat → Nat → Nat} {R : ab_H} {d k a u i n m l : Nat} {s r s2 r2 t v : Nat → Nat} {W : Prop} {A B : (Nat → Nat) → (Nat → Nat) → Prop}
-- look behind the rules: a good timetable
set_option maxRecDepth 100000 in
theorem s_7g (O : Ok σ) (hW : WQ σ N) (hI : IV σ W A N) (hA : ∀ s r, A s r → LX (σ 1 6) s r (N 56) (N 57)) (hG : Gd σ (alr σ) (N 56) (N 57)) (ho : ∀ l, l < (σ 1 6) → (N 38 l).testBit (N 56 l * 3 + N 57 l) = true) {x : Int32} {y3 : Value} : ∃ M', ev xs (d + 4) 7 7 ([.ref 54, .int x, .retAddr 9, y3], [], hc σ N R) = some (.inl none, hc σ M' R) ∧ Fr [54, 58, 59, 60] N M' ∧ M' 54 8 = N 54 8 ∧ M' 54 9 = N 54 9 ∧ IV σ W (fun s r => A s r ∨ AG (σ 1 6) s r (N 56) (N 57)) M' := by
  obtain ⟨hD1, hD2, hH1, hH2, hS, hC, hT, hR, hL, hQ⟩ := Ok_b O
  obtain ⟨w1, w2, w3, w4, w5, w6, w7⟩ := hW
  obtain ⟨i1, i2, i3, i4⟩ := hI
  have h55 : TT 55 := by decide
  have h58 : TT 58 := by decide
  have hwt : wt σ (N 56) (N 57) < 1000 := wt_lt O w6
  have e2 := s_22 (xs := xs) (d := d + 1) (M := N) (R := R) (t := 55) O h55 w6 w7
  rcases i4 with ⟨h5, h6⟩ | ⟨h5, h6, h7, h8, h9, h10, s', r', h11, h12⟩
  · have e3 := s_99 (xs := xs) (d := d + 3) (σ := σ) (M := up N 54 5 1) (R := R) (t := 58) (t2 := 55) h58 h55 (by decide) (by rw [up_n (by decide), w4]; decide)
    obtain ⟨N2, hN2⟩ : ∃ N2, cpt (up N 54 5 1) 58 55 = N2 := ⟨_, rfl⟩
    rw [hN2] at e3
    have n54 : N2 54 = u1 (N 54) 5 1 := by
      rw [← hN2]; unfold cpt
      rw [ur_n (by decide), ur_n (by decide), up_n (by decide), up_n (by decide), up_s]
    have n58a : N2 58 0 = 1 := by
      rw [← hN2]; unfold cpt
      rw [ur_n (by decide), ur_n (by decide), up_s, u1_n (by decide), up_s, u1_s, up_n (by decide)]
      exact w4
    have n58b : N2 58 1 = (σ 1 6) := by
      rw [← hN2]; unfold cpt
      rw [ur_n (by decide), ur_n (by decide), up_s, u1_s, up_n (by decide)]
      exact w5
    have n59 : N2 59 = N 56 := by
      rw [← hN2]; unfold cpt
      rw [ur_n (by decide), ur_s, up_n (by decide)]
    have n60 : N2 60 = N 57 := by
      rw [← hN2]; unfold cpt
      rw [ur_s, up_n (by decide)]
    have nf : Fr [54, 58, 59, 60] N N2 := by
      rw [← hN2]
      exact Fr_u (Fr_u (Fr_p (Fr_p (Fr_p (Fr_r _ _) rfl) rfl) rfl) rfl) rfl
    obtain ⟨N3, hN3⟩ : ∃ N3, up N2 54 7 (wt σ (N 56) (N 57)) = N3 := ⟨_, rfl⟩
    obtain ⟨N4, hN4⟩ : ∃ N4, up N3 54 7 (min (wt σ (N 56) (N 57)) (wt σ (N 56) (N 57))) = N4 := ⟨_, rfl⟩
    have g37 : N3 54 7 = wt σ (N 56) (N 57) := by rw [← hN3, up_s, u1_s]
    have f3 : ∀ b, b ≠ 54 → N4 b = N2 b := fun b hb => by rw [← hN4, up_n hb, ← hN3, up_n hb]
    have g4 : ∀ j, j ≠ 7 → N4 54 j = N2 54 j := fun j hj => by rw [← hN4, up_s, u1_n hj, ← hN3, up_s, u1_n hj]
    have g47 : N4 54 7 = wt σ (N 56) (N 57) := by rw [← hN4, up_s, u1_s, Nat.min_self]
    have nf4 : Fr [54, 58, 59, 60] N N4 := by
      rw [← hN4, ← hN3]
      exact Fr_p (Fr_p nf rfl) rfl
    have tl := s_7t (xs := xs) (d := d) (M := N4) (R := R) (x := x) (y := nI (wt σ (N 56) (N 57))) O (by rw [g4 6 (by decide), n54, u1_n (by decide)]; exact i1) (by rw [nf4 38 rfl]; exact w3) (by rw [nf4 56 rfl]; exact w6) (by rw [nf4 57 rfl]; exact w7) (by rw [nf4 38 rfl, nf4 56 rfl, nf4 57 rfl]; exact ho) 0 (Nat.zero_le _)
    refine ⟨N4, ?_, nf4, ?_, ?_, ?_⟩
    · clear i3 h6 hG ho hA w3 w6 w7 f3 g4 nf nf4
      simp (disch := first | assumption | omega | exact st8_a (Nat.le_of_ble_eq_true rfl)) only [e2, e3, h5, hN3, hN4, g37, iN_min, eb_7_7, eb_7_8, eb_7_9, eb_7_10, eb_7_11, kl_a, kl_d, kl_f, kl_i, kl_l, kl_n, kl_r, xr_1, xr_10, xr_2, xr_27, xr_28, xr_29, xr_3, xr_30, xr_31, xr_32, xr_37, xr_4, xr_43, xr_44, xr_47, xr_5, af_0, af_1, xt_goto, xt_ic_ge, xt_if_eq, xt_if_ne, xt_nop, xt_re, gF_54_0, gF_54_1, gF_54_10, gF_54_2, gF_54_3, gF_54_4, gF_54_5, gF_54_6, gF_54_7, gF_54_9, gF_1_6, gA_2, gA_3, gA_4, gA_5, gA_6, gA_7, gA_8, gA_9, gA_10, gA_11, gA_13, gA_14, gA_16, gA_17, gA_20, gA_21, gA_22, gA_23, gA_24, gA_25, gA_26, gA_27, gA_30, gA_31, gA_32, gA_33, gA_34, gA_35, gA_36, gA_38, gA_39, gA_41, gA_42, gA_46, gA_47, gA_49, gA_50, gA_51, gA_53, gA_56, gA_57, gA_59, gA_60, gP_54_10, gQ_54_10, gP_54_5, gQ_54_5, gP_54_6, gQ_54_6, gP_54_7, tF_0 h55, tF_1 h55, tF_2 h55, tF_3 h55, tA_1 h55, tA_2 h55, tW_1 h55, tW_2 h55, tP_0 h55, tP_1 h55, tF_0 h58, tF_1 h58, tF_2 h58, tF_3 h58, tA_1 h58, tA_2 h58, tW_1 h58, tW_2 h58, tP_0 h58, tP_1 h58, tC_1 h55 h58, tC_2 h55 h58, tC_1 h58 h55, tC_2 h58 h55, xq_106_10_virtualc, xq_15_2_virtualc, xq_22_2_virtualc, xq_99_9_virtualt h55, xq_99_9_virtualt h58, iN_add, iN_mul, iN_sub, iN_and, iN_or, iN_clr, iN_shl, iN_shr, tb_r1, b1_z, b1_or, b1_and, b1_or0, b1_or1, b1_0or, b1_t, b1_f, iN_lt, iN_inj, reduceIte, if_true, if_false, Nat.zero_add, Nat.add_zero, Bool.false_eq_true, Bool.true_eq_false, Nat.lt_irrefl, iN_az, not_true_eq_false, not_false_eq_true, Nat.reduceEqDiff, Nat.reduceLT, Nat.reduceAdd, Nat.reduceMul, Nat.reduceSub]
      exact tl
    · rw [g4 8 (by decide), n54, u1_n (by decide)]
    · rw [g4 9 (by decide), n54, u1_n (by decide)]
    · refine ⟨by rw [g4 6 (by decide), n54, u1_n (by decide)]; exact i1, by rw [g4 10 (by decide), n54, u1_n (by decide)]; exact i2, fun hw h => ?_, .inr ⟨?_, ?_, ?_, ?_, ?_, ?_, N 56, N 57, hG, g47⟩⟩
      · rw [g4 10 (by decide), n54, u1_n (by decide)] at h
        rw [g4 9 (by decide), n54, u1_n (by decide)]
        exact i3 hw h
      · rw [g4 5 (by decide), n54, u1_s]
      · rw [f3 58 (by decide)]; exact n58a
      · rw [f3 58 (by decide)]; exact n58b
      · rw [f3 59 (by decide), f3 60 (by decide), n59, n60]
        exact .inr fun j _ => ⟨rfl, rfl⟩
      · rw [f3 59 (by decide), f3 60 (by decide), n59, n60]
        exact hG
      · rw [f3 59 (by decide), f3 60 (by decide), n59, n60]
        rintro s r hg (h | h) hx
        · exact h6 s r hg h
        · exact LX_as (LX_c1 h hx) (LX_c1 h hx)
  · have hb7 : N 54 7 < 1000 := by rw [h12]; exact wt_lt O fun l hl => (h11.1 l hl).1
    obtain ⟨N4, hN4⟩ : ∃ N4, up N 54 7 (min (N 54 7) (wt σ (N 56) (N 57))) = N4 := ⟨_, rfl⟩
    have f3 : ∀ b, b ≠ 54 → N4 b = N b := fun b hb => by rw [← hN4, up_n hb]
    have g4 : ∀ j, j ≠ 7 → N4 54 j = N 54 j := fun j hj => by rw [← hN4, up_s, u1_n hj]
    have g47 : N4 54 7 = min (N 54 7) (wt σ (N 56) (N 57)) := by rw [← hN4, up_s, u1_s]
    have nf4 : Fr [54, 58, 59, 60] N N4 := by
      rw [← hN4]
      exact Fr_p (Fr_r _ _) rfl
    have tl := s_7t (xs := xs) (d := d) (M := N4) (R := R) (x := x) (y := nI (wt σ (N 56) (N 57))) O (by rw [g4 6 (by decide)]; exact i1) (by rw [nf4 38 rfl]; exact w3) (by rw [nf4 56 rfl]; exact w6) (by rw [nf4 57 rfl]; exact w7) (by rw [nf4 38 rfl, nf4 56 rfl, nf4 57 rfl]; exact ho) 0 (Nat.zero_le _)
    refine ⟨N4, ?_, nf4, g4 8 (by decide), g4 9 (by decide), ?_⟩
    · clear i3 h10 h12 h11 h9 hG ho hA w3 w6 w7 f3 g4 nf4
      simp (disch := first | assumption | omega | exact st8_a (Nat.le_of_ble_eq_true rfl)) only [e2, h5, hN4, iN_min, eb_7_7, eb_7_8, eb_7_11, kl_a, kl_d, kl_f, kl_i, kl_l, kl_n, kl_r, xr_1, xr_10, xr_2, xr_27, xr_28, xr_29, xr_3, xr_30, xr_31, xr_32, xr_37, xr_4, xr_43, xr_44, xr_47, xr_5, af_0, af_1, xt_goto, xt_ic_ge, xt_if_eq, xt_if_ne, xt_nop, xt_re, gF_54_0, gF_54_1, gF_54_10, gF_54_2, gF_54_3, gF_54_4, gF_54_5, gF_54_6, gF_54_7, gF_54_9, gF_1_6, gA_2, gA_3, gA_4, gA_5, gA_6, gA_7, gA_8, gA_9, gA_10, gA_11, gA_13, gA_14, gA_16, gA_17, gA_20, gA_21, gA_22, gA_23, gA_24, gA_25, gA_26, gA_27, gA_30, gA_31, gA_32, gA_33, gA_34, gA_35, gA_36, gA_38, gA_39, gA_41, gA_42, gA_46, gA_47, gA_49, gA_50, gA_51, gA_53, gA_56, gA_57, gA_59, gA_60, gP_54_10, gQ_54_10, gP_54_5, gQ_54_5, gP_54_6, gQ_54_6, gP_54_7, tF_0 h55, tF_1 h55, tF_2 h55, tF_3 h55, tA_1 h55, tA_2 h55, tW_1 h55, tW_2 h55, tP_0 h55, tP_1 h55, tF_0 h58, tF_1 h58, tF_2 h58, tF_3 h58, tA_1 h58, tA_2 h58, tW_1 h58, tW_2 h58, tP_0 h58, tP_1 h58, tC_1 h55 h58, tC_2 h55 h58, tC_1 h58 h55, tC_2 h58 h55, xq_106_10_virtualc, xq_15_2_virtualc, xq_22_2_virtualc, xq_99_9_virtualt h55, xq_99_9_virtualt h58, iN_add, iN_mul, iN_sub, iN_and, iN_or, iN_clr, iN_shl, iN_shr, tb_r1, b1_z, b1_or, b1_and, b1_or0, b1_or1, b1_0or, b1_t, b1_f, iN_lt, iN_inj, reduceIte, if_true, if_false, Nat.zero_add, Nat.add_zero, Bool.false_eq_true, Bool.true_eq_false, Nat.lt_irrefl, iN_az, not_true_eq_false, not_false_eq_true, Nat.reduceEqDiff, Nat.reduceLT, Nat.reduceAdd, Nat.reduceMul, Nat.reduceSub]
      exact tl
    · refine ⟨by rw [g4 6 (by decide)]; exact i1, by rw [g4 10 (by decide)]; exact i2, fun hw h => ?_, .inr ⟨?_, ?_, ?_, ?_, ?_, ?_, ?_⟩⟩
      · rw [g4 10 (by decide)] at h
        rw [g4 9 (by decide)]
        exact i3 hw h
      · rw [g4 5 (by decide)]; exact h5
      · rw [f3 58 (by decide)]; exact h6
      · rw [f3 58 (by decide)]; exact h7
      · rw [f3 59 (by decide), f3 60 (by decide)]
        exact .inl h8
      · rw [f3 59 (by decide), f3 60 (by decide)]
        exact h9
      · rw [f3 59 (by decide), f3 60 (by decide)]
        rintro s r hg (h | h) hx
        · exact h10 s r hg h hx
        · exact LX_as (LX_c1 h hx) (hA _ _ h8)
      · rw [g47]
        by_cases h : N 54 7 ≤ wt σ (N 56) (N 57)
        · exact ⟨s', r', h11, by rw [Nat.min_eq_left h]; exact h12⟩
        · exact ⟨N 56, N 57, hG, by rw [Nat.min_eq_right (by omega)]⟩
set_option maxRecDepth 100000 in
theorem s_7 (O : Ok σ) (hK : KI σ M) (hW : WQ σ M) (hI : IV σ W A M) (hA : ∀ s r, A s r → LX (σ 1 6) s r (M 56) (M 57)) (hf : flt σ (M 56) (M 57) = 0) : ∃ M', ev xs (d + 4) 7 0 ([.ref 54, .retAddr 9, .retAddr 9, .retAddr 9], [], hc σ M R) = some (.inl none, hc σ M' R) ∧ Fr [54, 58, 59, 60] M M' ∧ M' 54 8 = M 54 8 ∧ M' 54 9 = M 54 9 ∧ IV σ W (fun s r => A s r ∨ AG (σ 1 6) s r (M 56) (M 57)) M' := by
  obtain ⟨hD1, hD2, hH1, hH2, hS, hC, hT, hR, hL, hQ⟩ := Ok_b O
  have hW2 := hW
  obtain ⟨w1, w2, w3, w4, w5, w6, w7⟩ := hW2
  have hI2 := hI
  obtain ⟨i1, i2, i3, i4⟩ := hI2
  have h55 : TT 55 := by decide
  have hbl := brk_lt O (M 56) (M 57)
  have e1 := s_15 (xs := xs) (d := d) (M := M) (R := R) (t := 55) O h55 w6 w7
  -- behind the wanted rules
  have key : ∃ x, x < 2 ∧ (W → x = 1 → ∃ s r, Gd σ (M 54 9) s r) ∧ ev xs (d + 4) 7 0 ([.ref 54, .retAddr 9, .retAddr 9, .retAddr 9], [], hc σ M R) = if nI (brk σ (M 56) (M 57)) = nI 0 then ev xs (d + 4) 7 7 ([.ref 54, .int (nI (brk σ (M 56) (M 57))), .retAddr 9, .retAddr 9], [], hc σ (up M 54 10 x) R) else ev xs (d + 4) 7 6 ([.ref 54, .int (nI (brk σ (M 56) (M 57))), .retAddr 9, .retAddr 9], [], hc σ (up M 54 10 x) R) := by
    by_cases h10 : M 54 10 = 0
    · by_cases hw : brk σ (M 56) (M 57) &&& M 54 9 = 0
      · refine ⟨1, by decide, fun _ _ => ⟨M 56, M 57, fun l hl => ⟨w6 l hl, w7 l hl⟩, hf, brk_and hw⟩, ?_⟩
        clear i3 i4 w3 hA
        rw [eb_7_0]
        simp (disch := first | assumption | omega | exact st8_a (Nat.le_of_ble_eq_true rfl)) only [e1, hw, h10, eb_7_1, eb_7_2, eb_7_3, eb_7_5, kl_a, kl_d, kl_f, kl_i, kl_l, kl_n, kl_r, xr_1, xr_10, xr_2, xr_27, xr_28, xr_29, xr_3, xr_30, xr_31, xr_32, xr_37, xr_4, xr_43, xr_44, xr_47, xr_5, af_0, af_1, xt_goto, xt_ic_ge, xt_if_eq, xt_if_ne, xt_nop, xt_re, gF_54_0, gF_54_1, gF_54_10, gF_54_2, gF_54_3, gF_54_4, gF_54_5, gF_54_6, gF_54_7, gF_54_9, gF_1_6, gA_2, gA_3, gA_4, gA_5, gA_6, gA_7, gA_8, gA_9, gA_10, gA_11, gA_13, gA_14, gA_16, gA_17, gA_20, gA_21, gA_22, gA_23, gA_24, gA_25, gA_26, gA_27, gA_30, gA_31, gA_32, gA_33, gA_34, gA_35, gA_36, gA_38, gA_39, gA_41, gA_42, gA_46, gA_47, gA_49, gA_50, gA_51, gA_53, gA_56, gA_57, gA_59, gA_60, gP_54_10, gQ_54_10, gP_54_5, gQ_54_5, gP_54_6, gQ_54_6, gP_54_7, tF_0 h55, tF_1 h55, tF_2 h55, tF_3 h55, tA_1 h55, tA_2 h55, tW_1 h55, tW_2 h55, tP_0 h55, tP_1 h55, xq_106_10_virtualc, xq_15_2_virtualc, xq_22_2_virtualc, xq_99_9_virtualt h55, iN_add, iN_mul, iN_sub, iN_and, iN_or, iN_clr, iN_shl, iN_shr, tb_r1, b1_z, b1_or, b1_and, b1_or0, b1_or1, b1_0or, b1_t, b1_f, iN_lt, iN_inj, reduceIte, if_true, if_false, Nat.zero_add, Nat.add_zero, Bool.false_eq_true, Bool.true_eq_false, Nat.lt_irrefl, iN_az, not_true_eq_false, not_false_eq_true, Nat.reduceEqDiff, Nat.reduceLT, Nat.reduceAdd, Nat.reduceMul, Nat.reduceSub]
      · refine ⟨0, by decide, fun _ h => absurd h (by decide), ?_⟩
        clear i3 i4 w3 hA
        rw [eb_7_0]
        simp (disch := first | assumption | omega | exact st8_a (Nat.le_of_ble_eq_true rfl)) only [e1, hw, h10, eb_7_1, eb_7_2, eb_7_4, eb_7_5, kl_a, kl_d, kl_f, kl_i, kl_l, kl_n, kl_r, xr_1, xr_10, xr_2, xr_27, xr_28, xr_29, xr_3, xr_30, xr_31, xr_32, xr_37, xr_4, xr_43, xr_44, xr_47, xr_5, af_0, af_1, xt_goto, xt_ic_ge, xt_if_eq, xt_if_ne, xt_nop, xt_re, gF_54_0, gF_54_1, gF_54_10, gF_54_2, gF_54_3, gF_54_4, gF_54_5, gF_54_6, gF_54_7, gF_54_9, gF_1_6, gA_2, gA_3, gA_4, gA_5, gA_6, gA_7, gA_8, gA_9, gA_10, gA_11, gA_13, gA_14, gA_16, gA_17, gA_20, gA_21, gA_22, gA_23, gA_24, gA_25, gA_26, gA_27, gA_30, gA_31, gA_32, gA_33, gA_34, gA_35, gA_36, gA_38, gA_39, gA_41, gA_42, gA_46, gA_47, gA_49, gA_50, gA_51, gA_53, gA_56, gA_57, gA_59, gA_60, gP_54_10, gQ_54_10, gP_54_5, gQ_54_5, gP_54_6, gQ_54_6, gP_54_7, tF_0 h55, tF_1 h55, tF_2 h55, tF_3 h55, tA_1 h55, tA_2 h55, tW_1 h55, tW_2 h55, tP_0 h55, tP_1 h55, xq_106_10_virtualc, xq_15_2_virtualc, xq_22_2_virtualc, xq_99_9_virtualt h55, iN_add, iN_mul, iN_sub, iN_and, iN_or, iN_clr, iN_shl, iN_shr, tb_r1, b1_z, b1_or, b1_and, b1_or0, b1_or1, b1_0or, b1_t, b1_f, iN_lt, iN_inj, reduceIte, if_true, if_false, Nat.zero_add, Nat.add_zero, Bool.false_eq_true, Bool.true_eq_false, Nat.lt_irrefl, iN_az, not_true_eq_false, not_false_eq_true, Nat.reduceEqDiff, Nat.reduceLT, Nat.reduceAdd, Nat.reduceMul, Nat.reduceSub]
    · have h11 : M 54 10 = 1 := by omega
      refine ⟨1, by decide, fun hW _ => i3 hW h11, ?_⟩
      clear i3 i4 w3 hA
      rw [eb_7_0]
      simp (disch := first | assumption | omega | exact st8_a (Nat.le_of_ble_eq_true rfl)) only [e1, h11, eb_7_1, eb_7_3, eb_7_5, kl_a, kl_d, kl_f, kl_i, kl_l, kl_n, kl_r, xr_1, xr_10, xr_2, xr_27, xr_28, xr_29, xr_3, xr_30, xr_31, xr_32, xr_37, xr_4, xr_43, xr_44, xr_47, xr_5, af_0, af_1, xt_goto, xt_ic_ge, xt_if_eq, xt_if_ne, xt_nop, xt_re, gF_54_0, gF_54_1, gF_54_10, gF_54_2, gF_54_3, gF_54_4, gF_54_5, gF_54_6, gF_54_7, gF_54_9, gF_1_6, gA_2, gA_3, gA_4, gA_5, gA_6, gA_7, gA_8, gA_9, gA_10, gA_11, gA_13, gA_14, gA_16, gA_17, gA_20, gA_21, gA_22, gA_23, gA_24, gA_25, gA_26, gA_27, gA_30, gA_31, gA_32, gA_33, gA_34, gA_35, gA_36, gA_38, gA_39, gA_41, gA_42, gA_46, gA_47, gA_49, gA_50, gA_51, gA_53, gA_56, gA_57, gA_59, gA_60, gP_54_10, gQ_54_10, gP_54_5, gQ_54_5, gP_54_6, gQ_54_6, gP_54_7, tF_0 h55, tF_1 h55, tF_2 h55, tF_3 h55, tA_1 h55, tA_2 h55, tW_1 h55, tW_2 h55, tP_0 h55, tP_1 h55, xq_106_10_virtualc, xq_15_2_virtualc, xq_22_2_virtualc, xq_99_9_virtualt h55, iN_add, iN_mul, iN_sub, iN_and, iN_or, iN_clr, iN_shl, iN_shr, tb_r1, b1_z, b1_or, b1_and, b1_or0, b1_or1, b1_0or, b1_t, b1_f, iN_lt, iN_inj, reduceIte, if_true, if_false, Nat.zero_add, Nat.add_zero, Bool.false_eq_true, Bool.true_eq_false, Nat.lt_irrefl, iN_az, not_true_eq_false, not_false_eq_true, Nat.reduceEqDiff, Nat.reduceLT, Nat.reduceAdd, Nat.reduceMul, Nat.reduceSub]
  obtain ⟨x, x2, x3, e2⟩ := key
  obtain ⟨N, hN⟩ : ∃ N, up M 54 10 x = N := ⟨_, rfl⟩
  rw [hN] at e2
  have f3 : ∀ b, b ≠ 54 → N b = M b := fun b hb => by rw [← hN, up_n hb]
  have g4 : ∀ j, j ≠ 10 → N 54 j = M 54 j := fun j hj => by rw [← hN, up_s, u1_n hj]
  have g10 : N 54 10 = x := by rw [← hN, up_s, u1_s]
  have nf : Fr [54, 58, 59, 60] M N := by
    rw [← hN]
    exact Fr_p (Fr_r _ _) rfl
  have hIN : IV σ W A N := by
    refine ⟨by rw [g4 6 (by decide)]; exact i1, by rw [g10]; exact x2, fun hw h => ?_, ?_⟩
    · rw [g10] at h
      rw [g4 9 (by decide)]
      exact x3 hw h
    · rw [g4 5 (by decide), g4 7 (by decide), f3 58 (by decide), f3 59 (by decide), f3 60 (by decide)]
      exact i4
  by_cases hb : brk σ (M 56) (M 57) = 0
  · have hG : Gd σ (alr σ) (M 56) (M 57) := ⟨fun l hl => ⟨w6 l hl, w7 l hl⟩, hf, brk_and (by rw [hb]; exact Nat.zero_and _)⟩
    have hv := w3.2 _ (good_SS O hK hG)
    rw [hb, if_pos rfl] at e2
    have hWN : WQ σ N := ⟨by rw [g4 8 (by decide)]; exact w1, by rw [g4 8 (by decide)]; exact w2, by rw [f3 38 (by decide)]; exact w3, by rw [f3 55 (by decide)]; exact w4, by rw [f3 55 (by decide)]; exact w5, by rw [f3 56 (by decide)]; exact w6, by rw [f3 57 (by decide)]; exact w7⟩
    obtain ⟨M', e3, f5, g8, g9, j⟩ := s_7g (xs := xs) (d := d) (R := R) (x := nI 0) (y3 := .retAddr 9) O hWN hIN (by rw [f3 56 (by decide), f3 57 (by decide)]; exact hA) (by rw [f3 56 (by decide), f3 57 (by decide)]; exact hG) (fun l hl => by rw [f3 38 (by decide), f3 56 (by decide), f3 57 (by decide)]; exact hv l hl _ (gx_tb.mpr rfl))
    rw [f3 56 (by decide), f3 57 (by decide)] at j
    exact ⟨M', e2.trans e3, Fr_t nf f5, g8.trans (g4 8 (by decide)), g9.trans (g4 9 (by decide)), j⟩
  · refine ⟨N, ?_, nf, g4 8 (by decide), g4 9 (by decide), IV_c hIN fun s r hg => ⟨Or.inl, ?_⟩⟩
    · rw [e2, if_neg (by rw [iN_inj hbl (by decide)]; exact hb), eb_7_6]
      clear i3 i4 w3 hA e1 e2 hIN x3 f3 g4
      simp (disch := first | assumption | omega | exact st8_a (Nat.le_of_ble_eq_true rfl)) only [eb_7_6, kl_a, kl_d, kl_f, kl_i, kl_l, kl_n, kl_r, xr_1, xr_10, xr_2, xr_27, xr_28, xr_29, xr_3, xr_30, xr_31, xr_32, xr_37, xr_4, xr_43, xr_44, xr_47, xr_5, af_0, af_1, xt_goto, xt_ic_ge, xt_if_eq, xt_if_ne, xt_nop, xt_re, gF_54_0, gF_54_1, gF_54_10, gF_54_2, gF_54_3, gF_54_4, gF_54_5, gF_54_6, gF_54_7, gF_54_9, gF_1_6, gA_2, gA_3, gA_4, gA_5, gA_6, gA_7, gA_8, gA_9, gA_10, gA_11, gA_13, gA_14, gA_16, gA_17, gA_20, gA_21, gA_22, gA_23, gA_24, gA_25, gA_26, gA_27, gA_30, gA_31, gA_32, gA_33, gA_34, gA_35, gA_36, gA_38, gA_39, gA_41, gA_42, gA_46, gA_47, gA_49, gA_50, gA_51, gA_53, gA_56, gA_57, gA_59, gA_60, gP_54_10, gQ_54_10, gP_54_5, gQ_54_5, gP_54_6, gQ_54_6, gP_54_7, xq_106_10_virtualc, xq_15_2_virtualc, xq_22_2_virtualc, iN_add, iN_mul, iN_sub, iN_and, iN_or, iN_clr, iN_shl, iN_shr, tb_r1, b1_z, b1_or, b1_and, b1_or0, b1_or1, b1_0or, b1_t, b1_f, iN_lt, iN_inj, reduceIte, if_true, if_false, Nat.zero_add, Nat.add_zero, Bool.false_eq_true, Bool.true_eq_false, Nat.lt_irrefl, iN_az, not_true_eq_false, not_false_eq_true, Nat.reduceEqDiff, Nat.reduceLT, Nat.reduceAdd, Nat.reduceMul, Nat.reduceSub]
    · rintro (h | h)
      · exact h
      · refine absurd ?_ hb
        refine z_tb.mpr fun q => ?_
        rw [← Bool.not_eq_true, brk_tb]
        rintro ⟨hq, h2⟩
        have h3 := (Gd_cg O h hg).2.2 q hq (by unfold alr; rw [ones_tb]; exact decide_eq_true hq)
        rw [h2] at h3
        cases h3
end Cd
