/-! THE CLASS Question: the costs -/
section Qf
variable {xs : List Int32} {d : Nat} {σ M : Nat → Nat → Nat} {R h : ab_H} {l o s i u q n set k t : Nat}
/-- the values of all lessons have the costs Wf, and the slots theirs -/
def CW (σ M : Nat → Nat → Nat) (Wf : Nat → Nat → Nat → Nat) (k : Nat) : Prop := ∀ l, l < k → (∀ s, s < (σ 1 2) → ∀ r, r < (σ 1 5) → M 26 (vi l s r) = Wf l s r) ∧ SC σ M l
set_option maxRecDepth 100000 in
theorem SC_u {σ M : Nat → Nat → Nat} {l : Nat} {g : Nat → Nat} (h : SC σ M l) (hg : ∀ s, s < (σ 1 2) → ∀ r, r < (σ 1 5) → g (vi l s r) = M 26 (vi l s r)) : SC σ (ur M 26 g) l := by
  intro s hs
  rw [ur_n (by decide)]
  refine ⟨(h s hs).1, fun r hr hb => ?_⟩
  rw [ur_n (by decide)] at hb
  rw [ur_s, hg s hs r hr]
  exact (h s hs).2 r hr hb
set_option maxRecDepth 100000 in
theorem CW_p {σ M : Nat → Nat → Nat} {Wf : Nat → Nat → Nat → Nat} {k : Nat} (O : Ok σ) (hk : k < (σ 1 6)) {g : Nat → Nat} (h : CW σ M Wf k) (hv : ∀ s, s < (σ 1 2) → ∀ r, r < (σ 1 5) → M 26 (vi k s r) = Wf k s r) (hg : ∀ j, (∀ s, s < (σ 1 2) → j ≠ k * 6 + s) → g j = M 27 j) (hs : SC σ (ur M 27 g) k) : CW σ (ur M 27 g) Wf (k + 1) := by
  obtain ⟨hD1, hD2, hH1, hH2, hS, hC, hT, hR, hL, hQ⟩ := Ok_b O
  intro l hl
  by_cases e : l = k
  · subst e
    exact ⟨fun s hs r hr => by rw [ur_n (by decide)]; exact hv s hs r hr, hs⟩
  · obtain ⟨h1, h2⟩ := h l (by omega)
    refine ⟨fun s hs r hr => by rw [ur_n (by decide)]; exact h1 s hs r hr, fun s hs => ?_⟩
    have e2 : g (l * 6 + s) = M 27 (l * 6 + s) := hg _ fun s2 hs2 => by omega
    rw [ur_s, ur_n (by decide), ur_n (by decide), e2]
    exact h2 s hs
set_option maxRecDepth 100000 in
theorem s_40 (O : Ok σ) (h21 : ∀ l, l < (σ 1 6) → M 21 l < 8) (h26 : ∀ j, M 26 j ≤ 27) : ∃ M', ev xs (d + 2) 40 0 ([.ref 19, .retAddr 9, .retAddr 9, .retAddr 9], [], hc σ M R) = some (.inl none, hc σ M' R) ∧ Fr [19, 26, 27] M M' ∧ M' 19 = u1 (M 19) 10 1 ∧ (∀ j, M' 26 j ≤ 27) ∧ CW σ M' (wv σ) (σ 1 6) := by
  obtain ⟨hD1, hD2, hH1, hH2, hS, hC, hT, hR, hL, hQ⟩ := Ok_b O
  have key : ∀ k, k ≤ (σ 1 6) → ∀ N y2 y3, (Fr [19, 26, 27] M N ∧ N 19 = u1 (M 19) 10 1 ∧ (∀ j, N 26 j ≤ 27) ∧ CW σ N (wv σ) k) → ∃ M', ev xs (d + 2) 40 1 ([.ref 19, .int (nI k), y2, y3], [], hc σ N R) = some (.inl none, hc σ M' R) ∧ Fr [19, 26, 27] M M' ∧ M' 19 = u1 (M 19) 10 1 ∧ (∀ j, M' 26 j ≤ 27) ∧ CW σ M' (wv σ) (σ 1 6) := by
    refine lp (σ 1 6) ?_ ?_
    · rintro N y2 y3 hN
      refine ⟨N, ?_, hN⟩
      rw [eb_40_1]
      simp (disch := first | assumption | omega | exact st8_a (Nat.le_of_ble_eq_true rfl)) only [eb_40_0, eb_40_2, eb_40_4, eb_40_6, eb_40_7, eb_40_8, eb_40_9, eb_40_10, eb_40_11, eb_40_12, kl_a, kl_d, kl_f, kl_i, kl_l, kl_n, kl_r, xr_1, xr_10, xr_2, xr_27, xr_28, xr_29, xr_3, xr_30, xr_31, xr_32, xr_37, xr_4, xr_42, xr_43, xr_5, xr_73, af_0, af_1, xt_goto, xt_ic_ge, xt_nop, xt_re, gF_19_0, gF_19_7, gF_1_2, gF_1_5, gF_1_6, gW_2, gW_3, gW_4, gW_5, gW_6, gW_7, gW_8, gW_9, gW_10, gW_11, gW_13, gW_14, gW_16, gW_17, gW_20, gW_21, gW_22, gW_23, gW_24, gW_25, gW_26, gW_27, gW_30, gW_31, gW_32, gW_33, gW_34, gW_35, gW_36, gW_38, gW_39, gW_41, gW_42, gW_46, gW_47, gW_49, gW_50, gW_51, gW_53, gW_56, gW_57, gW_59, gW_60, gP_19_10, xq_28_200_static, xq_43_3_virtualc, xq_68_6_virtualc, iN_add, iN_mul, iN_sub, iN_and, iN_or, iN_clr, iN_shl, iN_shr, tb_r1, b1_z, b1_or, b1_and, b1_or0, b1_or1, b1_0or, b1_t, b1_f, iN_lt, iN_inj, reduceIte, if_true, if_false, Nat.zero_add, Nat.add_zero, Bool.false_eq_true, Bool.true_eq_false, Nat.lt_irrefl, iN_az, not_true_eq_false, not_false_eq_true, Nat.reduceEqDiff, Nat.reduceLT, Nat.reduceAdd, Nat.reduceMul, Nat.reduceSub]
    · rintro k hk ih N y2 y3 ⟨f1, f2, f3, f4⟩
      have inn : ∀ j, j ≤ (σ 1 2) → ∀ N y3, (Fr [19, 26, 27] M N ∧ N 19 = u1 (M 19) 10 1 ∧ (∀ j, N 26 j ≤ 27) ∧ CW σ N (wv σ) k ∧ ∀ s, s < j → ∀ r, r < (σ 1 5) → N 26 (vi k s r) = wv σ k s r) → ∃ M', ev xs (d + 2) 40 3 ([.ref 19, .int (nI k), .int (nI j), y3], [], hc σ N R) = some (.inl none, hc σ M' R) ∧ Fr [19, 26, 27] M M' ∧ M' 19 = u1 (M 19) 10 1 ∧ (∀ j, M' 26 j ≤ 27) ∧ CW σ M' (wv σ) (σ 1 6) := by
        refine lp (σ 1 2) ?_ ?_
        · rintro N y3 ⟨f1, f2, f3, f4, f5⟩
          obtain ⟨g, e, q1, q2⟩ := s_43 (xs := xs) (d := d) (M := N) (R := R) O hk (by rw [f1 21 rfl]; exact h21 k hk) (fun j _ => f3 j)
          obtain ⟨M', e2, q⟩ := ih (ur N 27 g) (.int (nI (σ 1 2))) y3 ⟨Fr_u f1 rfl, by rw [ur_n (by decide)]; exact f2, fun j => by rw [ur_n (by decide)]; exact f3 j, CW_p O hk f4 f5 q1 q2⟩
          refine ⟨M', ?_, q⟩
          rw [eb_40_3]
          simp (disch := first | assumption | omega | exact st8_a (Nat.le_of_ble_eq_true rfl)) only [e, eb_40_0, eb_40_2, eb_40_4, eb_40_6, eb_40_7, eb_40_8, eb_40_9, eb_40_10, eb_40_11, eb_40_12, kl_a, kl_d, kl_f, kl_i, kl_l, kl_n, kl_r, xr_1, xr_10, xr_2, xr_27, xr_28, xr_29, xr_3, xr_30, xr_31, xr_32, xr_37, xr_4, xr_42, xr_43, xr_5, xr_73, af_0, af_1, xt_goto, xt_ic_ge, xt_nop, xt_re, gF_19_0, gF_19_7, gF_1_2, gF_1_5, gF_1_6, gW_2, gW_3, gW_4, gW_5, gW_6, gW_7, gW_8, gW_9, gW_10, gW_11, gW_13, gW_14, gW_16, gW_17, gW_20, gW_21, gW_22, gW_23, gW_24, gW_25, gW_26, gW_27, gW_30, gW_31, gW_32, gW_33, gW_34, gW_35, gW_36, gW_38, gW_39, gW_41, gW_42, gW_46, gW_47, gW_49, gW_50, gW_51, gW_53, gW_56, gW_57, gW_59, gW_60, gP_19_10, xq_28_200_static, xq_43_3_virtualc, xq_68_6_virtualc, iN_add, iN_mul, iN_sub, iN_and, iN_or, iN_clr, iN_shl, iN_shr, tb_r1, b1_z, b1_or, b1_and, b1_or0, b1_or1, b1_0or, b1_t, b1_f, iN_lt, iN_inj, reduceIte, if_true, if_false, Nat.zero_add, Nat.add_zero, Bool.false_eq_true, Bool.true_eq_false, Nat.lt_irrefl, iN_az, not_true_eq_false, not_false_eq_true, Nat.reduceEqDiff, Nat.reduceLT, Nat.reduceAdd, Nat.reduceMul, Nat.reduceSub]
          exact e2
        · rintro j hj ih2 N y3 ⟨f1, f2, f3, f4, f5⟩
          have inn2 : ∀ p, p ≤ (σ 1 5) → ∀ N, (Fr [19, 26, 27] M N ∧ N 19 = u1 (M 19) 10 1 ∧ (∀ j, N 26 j ≤ 27) ∧ CW σ N (wv σ) k ∧ (∀ s, s < j → ∀ r, r < (σ 1 5) → N 26 (vi k s r) = wv σ k s r) ∧ ∀ r, r < p → N 26 (vi k j r) = wv σ k j r) → ∃ M', ev xs (d + 2) 40 5 ([.ref 19, .int (nI k), .int (nI j), .int (nI p)], [], hc σ N R) = some (.inl none, hc σ M' R) ∧ Fr [19, 26, 27] M M' ∧ M' 19 = u1 (M 19) 10 1 ∧ (∀ j, M' 26 j ≤ 27) ∧ CW σ M' (wv σ) (σ 1 6) := by
            refine lp (σ 1 5) ?_ ?_
            · rintro N ⟨f1, f2, f3, f4, f5, f6⟩
              obtain ⟨M', e2, q⟩ := ih2 N (.int (nI (σ 1 5))) ⟨f1, f2, f3, f4, fun s hs => by
                by_cases e : s = j
                · subst e; exact f6
                · exact f5 s (by omega)⟩
              refine ⟨M', ?_, q⟩
              rw [eb_40_5]
              simp (disch := first | assumption | omega | exact st8_a (Nat.le_of_ble_eq_true rfl)) only [eb_40_0, eb_40_2, eb_40_4, eb_40_6, eb_40_7, eb_40_8, eb_40_9, eb_40_10, eb_40_11, eb_40_12, kl_a, kl_d, kl_f, kl_i, kl_l, kl_n, kl_r, xr_1, xr_10, xr_2, xr_27, xr_28, xr_29, xr_3, xr_30, xr_31, xr_32, xr_37, xr_4, xr_42, xr_43, xr_5, xr_73, af_0, af_1, xt_goto, xt_ic_ge, xt_nop, xt_re, gF_19_0, gF_19_7, gF_1_2, gF_1_5, gF_1_6, gW_2, gW_3, gW_4, gW_5, gW_6, gW_7, gW_8, gW_9, gW_10, gW_11, gW_13, gW_14, gW_16, gW_17, gW_20, gW_21, gW_22, gW_23, gW_24, gW_25, gW_26, gW_27, gW_30, gW_31, gW_32, gW_33, gW_34, gW_35, gW_36, gW_38, gW_39, gW_41, gW_42, gW_46, gW_47, gW_49, gW_50, gW_51, gW_53, gW_56, gW_57, gW_59, gW_60, gP_19_10, xq_28_200_static, xq_43_3_virtualc, xq_68_6_virtualc, iN_add, iN_mul, iN_sub, iN_and, iN_or, iN_clr, iN_shl, iN_shr, tb_r1, b1_z, b1_or, b1_and, b1_or0, b1_or1, b1_0or, b1_t, b1_f, iN_lt, iN_inj, reduceIte, if_true, if_false, Nat.zero_add, Nat.add_zero, Bool.false_eq_true, Bool.true_eq_false, Nat.lt_irrefl, iN_az, not_true_eq_false, not_false_eq_true, Nat.reduceEqDiff, Nat.reduceLT, Nat.reduceAdd, Nat.reduceMul, Nat.reduceSub]
              exact e2
            · rintro p hp ih3 N ⟨f1, f2, f3, f4, f5, f6⟩
              have hv : vi k j p < 108 := by unfold vi; omega
              have e4 : (k * 6 + j) * 3 + p = vi k j p := rfl
              have hw := wv_le O (l := k) (r := p) hj
              obtain ⟨M', e2, q⟩ := ih3 (up N 26 (vi k j p) (wv σ k j p)) ⟨Fr_p f1 rfl, by rw [up_n (by decide)]; exact f2, fun j2 => by
                rw [up_s]
                unfold u1
                split
                · exact hw
                · exact f3 j2, fun l hl => ⟨fun s hs r hr => by
                rw [up_s, u1_n (fun h => by have := vi_inj (by omega) (by omega) (by omega) (by omega) h; omega)]
                exact (f4 l hl).1 s hs r hr, SC_u (f4 l hl).2 fun s hs r hr => u1_n (fun h => by have := vi_inj (by omega) (by omega) (by omega) (by omega) h; omega)⟩, fun s hs r hr => by
                rw [up_s, u1_n (fun h => by have := vi_inj (by omega) (by omega) (by omega) (by omega) h; omega)]
                exact f5 s hs r hr, fun r hr => by
                rw [up_s]
                by_cases e : r = p
                · rw [e, u1_s]
                · rw [u1_n (fun h => by have := vi_inj (by omega) (by omega) (by omega) (by omega) h; omega)]
                  exact f6 r (by omega)⟩
              refine ⟨M', ?_, q⟩
              rw [eb_40_5]
              simp (disch := first | assumption | omega | exact st8_a (Nat.le_of_ble_eq_true rfl)) only [hp, s_28, e4, s_68 O hk hj hp, eb_40_0, eb_40_2, eb_40_4, eb_40_6, eb_40_7, eb_40_8, eb_40_9, eb_40_10, eb_40_11, eb_40_12, kl_a, kl_d, kl_f, kl_i, kl_l, kl_n, kl_r, xr_1, xr_10, xr_2, xr_27, xr_28, xr_29, xr_3, xr_30, xr_31, xr_32, xr_37, xr_4, xr_42, xr_43, xr_5, xr_73, af_0, af_1, xt_goto, xt_ic_ge, xt_nop, xt_re, gF_19_0, gF_19_7, gF_1_2, gF_1_5, gF_1_6, gW_2, gW_3, gW_4, gW_5, gW_6, gW_7, gW_8, gW_9, gW_10, gW_11, gW_13, gW_14, gW_16, gW_17, gW_20, gW_21, gW_22, gW_23, gW_24, gW_25, gW_26, gW_27, gW_30, gW_31, gW_32, gW_33, gW_34, gW_35, gW_36, gW_38, gW_39, gW_41, gW_42, gW_46, gW_47, gW_49, gW_50, gW_51, gW_53, gW_56, gW_57, gW_59, gW_60, gP_19_10, xq_28_200_static, xq_43_3_virtualc, xq_68_6_virtualc, iN_add, iN_mul, iN_sub, iN_and, iN_or, iN_clr, iN_shl, iN_shr, tb_r1, b1_z, b1_or, b1_and, b1_or0, b1_or1, b1_0or, b1_t, b1_f, iN_lt, iN_inj, reduceIte, if_true, if_false, Nat.zero_add, Nat.add_zero, Bool.false_eq_true, Bool.true_eq_false, Nat.lt_irrefl, iN_az, not_true_eq_false, not_false_eq_true, Nat.reduceEqDiff, Nat.reduceLT, Nat.reduceAdd, Nat.reduceMul, Nat.reduceSub]
              exact e2
          obtain ⟨M', e2, q⟩ := inn2 0 (Nat.zero_le _) N ⟨f1, f2, f3, f4, f5, fun r hr => absurd hr (Nat.not_lt_zero r)⟩
          refine ⟨M', ?_, q⟩
          rw [eb_40_3]
          simp (disch := first | assumption | omega | exact st8_a (Nat.le_of_ble_eq_true rfl)) only [hj, eb_40_0, eb_40_2, eb_40_4, eb_40_6, eb_40_7, eb_40_8, eb_40_9, eb_40_10, eb_40_11, eb_40_12, kl_a, kl_d, kl_f, kl_i, kl_l, kl_n, kl_r, xr_1, xr_10, xr_2, xr_27, xr_28, xr_29, xr_3, xr_30, xr_31, xr_32, xr_37, xr_4, xr_42, xr_43, xr_5, xr_73, af_0, af_1, xt_goto, xt_ic_ge, xt_nop, xt_re, gF_19_0, gF_19_7, gF_1_2, gF_1_5, gF_1_6, gW_2, gW_3, gW_4, gW_5, gW_6, gW_7, gW_8, gW_9, gW_10, gW_11, gW_13, gW_14, gW_16, gW_17, gW_20, gW_21, gW_22, gW_23, gW_24, gW_25, gW_26, gW_27, gW_30, gW_31, gW_32, gW_33, gW_34, gW_35, gW_36, gW_38, gW_39, gW_41, gW_42, gW_46, gW_47, gW_49, gW_50, gW_51, gW_53, gW_56, gW_57, gW_59, gW_60, gP_19_10, xq_28_200_static, xq_43_3_virtualc, xq_68_6_virtualc, iN_add, iN_mul, iN_sub, iN_and, iN_or, iN_clr, iN_shl, iN_shr, tb_r1, b1_z, b1_or, b1_and, b1_or0, b1_or1, b1_0or, b1_t, b1_f, iN_lt, iN_inj, reduceIte, if_true, if_false, Nat.zero_add, Nat.add_zero, Bool.false_eq_true, Bool.true_eq_false, Nat.lt_irrefl, iN_az, not_true_eq_false, not_false_eq_true, Nat.reduceEqDiff, Nat.reduceLT, Nat.reduceAdd, Nat.reduceMul, Nat.reduceSub]
          exact e2
      obtain ⟨M', e2, q⟩ := inn 0 (Nat.zero_le _) N y3 ⟨f1, f2, f3, f4, fun s hs => absurd hs (Nat.not_lt_zero s)⟩
      refine ⟨M', ?_, q⟩
      rw [eb_40_1]
      simp (disch := first | assumption | omega | exact st8_a (Nat.le_of_ble_eq_true rfl)) only [hk, eb_40_0, eb_40_2, eb_40_4, eb_40_6, eb_40_7, eb_40_8, eb_40_9, eb_40_10, eb_40_11, eb_40_12, kl_a, kl_d, kl_f, kl_i, kl_l, kl_n, kl_r, xr_1, xr_10, xr_2, xr_27, xr_28, xr_29, xr_3, xr_30, xr_31, xr_32, xr_37, xr_4, xr_42, xr_43, xr_5, xr_73, af_0, af_1, xt_goto, xt_ic_ge, xt_nop, xt_re, gF_19_0, gF_19_7, gF_1_2, gF_1_5, gF_1_6, gW_2, gW_3, gW_4, gW_5, gW_6, gW_7, gW_8, gW_9, gW_10, gW_11, gW_13, gW_14, gW_16, gW_17, gW_20, gW_21, gW_22, gW_23, gW_24, gW_25, gW_26, gW_27, gW_30, gW_31, gW_32, gW_33, gW_34, gW_35, gW_36, gW_38, gW_39, gW_41, gW_42, gW_46, gW_47, gW_49, gW_50, gW_51, gW_53, gW_56, gW_57, gW_59, gW_60, gP_19_10, xq_28_200_static, xq_43_3_virtualc, xq_68_6_virtualc, iN_add, iN_mul, iN_sub, iN_and, iN_or, iN_clr, iN_shl, iN_shr, tb_r1, b1_z, b1_or, b1_and, b1_or0, b1_or1, b1_0or, b1_t, b1_f, iN_lt, iN_inj, reduceIte, if_true, if_false, Nat.zero_add, Nat.add_zero, Bool.false_eq_true, Bool.true_eq_false, Nat.lt_irrefl, iN_az, not_true_eq_false, not_false_eq_true, Nat.reduceEqDiff, Nat.reduceLT, Nat.reduceAdd, Nat.reduceMul, Nat.reduceSub]
      exact e2
  obtain ⟨M', e, q⟩ := key 0 (Nat.zero_le _) (up M 19 10 1) (.retAddr 9) (.retAddr 9) ⟨Fr_p (Fr_r _ _) rfl, up_s _ _ _ _, fun j => by rw [up_n (by decide)]; exact h26 j, fun l hl => absurd hl (Nat.not_lt_zero l)⟩
  refine ⟨M', ?_, q⟩
  simp (disch := first | assumption | omega | exact st8_a (Nat.le_of_ble_eq_true rfl)) only [eb_40_0, eb_40_2, eb_40_4, eb_40_6, eb_40_7, eb_40_8, eb_40_9, eb_40_10, eb_40_11, eb_40_12, kl_a, kl_d, kl_f, kl_i, kl_l, kl_n, kl_r, xr_1, xr_10, xr_2, xr_27, xr_28, xr_29, xr_3, xr_30, xr_31, xr_32, xr_37, xr_4, xr_42, xr_43, xr_5, xr_73, af_0, af_1, xt_goto, xt_ic_ge, xt_nop, xt_re, gF_19_0, gF_19_7, gF_1_2, gF_1_5, gF_1_6, gW_2, gW_3, gW_4, gW_5, gW_6, gW_7, gW_8, gW_9, gW_10, gW_11, gW_13, gW_14, gW_16, gW_17, gW_20, gW_21, gW_22, gW_23, gW_24, gW_25, gW_26, gW_27, gW_30, gW_31, gW_32, gW_33, gW_34, gW_35, gW_36, gW_38, gW_39, gW_41, gW_42, gW_46, gW_47, gW_49, gW_50, gW_51, gW_53, gW_56, gW_57, gW_59, gW_60, gP_19_10, xq_28_200_static, xq_43_3_virtualc, xq_68_6_virtualc, iN_add, iN_mul, iN_sub, iN_and, iN_or, iN_clr, iN_shl, iN_shr, tb_r1, b1_z, b1_or, b1_and, b1_or0, b1_or1, b1_0or, b1_t, b1_f, iN_lt, iN_inj, reduceIte, if_true, if_false, Nat.zero_add, Nat.add_zero, Bool.false_eq_true, Bool.true_eq_false, Nat.lt_irrefl, iN_az, not_true_eq_false, not_false_eq_true, Nat.reduceEqDiff, Nat.reduceLT, Nat.reduceAdd, Nat.reduceMul, Nat.reduceSub]
  exact e
/-- what it costs to be another value than that of a timetable -/
def wch (s0 r0 : Nat → Nat) (l s r : Nat) : Nat := if s = s0 l ∧ r = r0 l then 0 else 1
set_option maxRecDepth 100000 in
theorem s_41 (O : Ok σ) (ht : TT t) (hb : ∀ l, l < (σ 1 6) → M (t + 1) l < 2147483648 ∧ M (t + 2) l < 2147483648) (h21 : ∀ l, l < (σ 1 6) → M 21 l < 8) (h26 : ∀ j, M 26 j ≤ 27) : ∃ M', ev xs (d + 2) 41 0 ([.ref 19, .ref t, .retAddr 9, .retAddr 9, .retAddr 9, .retAddr 9], [], hc σ M R) = some (.inl none, hc σ M' R) ∧ Fr [19, 26, 27] M M' ∧ M' 19 = u1 (M 19) 10 2 ∧ (∀ j, M' 26 j ≤ 27) ∧ CW σ M' (wch (M (t + 1)) (M (t + 2))) (σ 1 6) := by
  obtain ⟨hD1, hD2, hH1, hH2, hS, hC, hT, hR, hL, hQ⟩ := Ok_b O
  have ht1 : [19, 26, 27].contains (t + 1) = false := by rcases ht with rfl | rfl | rfl | rfl | rfl | rfl | rfl <;> rfl
  have ht2 : [19, 26, 27].contains (t + 2) = false := by rcases ht with rfl | rfl | rfl | rfl | rfl | rfl | rfl <;> rfl
  have key : ∀ k, k ≤ (σ 1 6) → ∀ N y2 y3 y4, (Fr [19, 26, 27] M N ∧ N 19 = u1 (M 19) 10 2 ∧ (∀ j, N 26 j ≤ 27) ∧ CW σ N (wch (M (t + 1)) (M (t + 2))) k) → ∃ M', ev xs (d + 2) 41 1 ([.ref 19, .ref t, .int (nI k), y2, y3, y4], [], hc σ N R) = some (.inl none, hc σ M' R) ∧ Fr [19, 26, 27] M M' ∧ M' 19 = u1 (M 19) 10 2 ∧ (∀ j, M' 26 j ≤ 27) ∧ CW σ M' (wch (M (t + 1)) (M (t + 2))) (σ 1 6) := by
    refine lp (σ 1 6) ?_ ?_
    · rintro N y2 y3 y4 hN
      refine ⟨N, ?_, hN⟩
      rw [eb_41_1]
      simp (disch := first | assumption | omega | exact st8_a (Nat.le_of_ble_eq_true rfl)) only [eb_41_0, eb_41_2, eb_41_4, eb_41_6, eb_41_7, eb_41_8, eb_41_9, eb_41_10, eb_41_11, eb_41_12, eb_41_13, eb_41_14, eb_41_15, eb_41_16, eb_41_17, eb_41_18, kl_a, kl_d, kl_f, kl_i, kl_l, kl_n, kl_r, xr_1, xr_10, xr_11, xr_12, xr_13, xr_14, xr_15, xr_2, xr_27, xr_3, xr_30, xr_31, xr_32, xr_33, xr_34, xr_35, xr_36, xr_37, xr_4, xr_40, xr_42, xr_43, xr_5, xr_65, af_0, af_1, xt_goto, xt_ic_ge, xt_ic_ne, xt_if_eq, xt_nop, xt_re, gF_19_0, gF_19_7, gF_1_2, gF_1_5, gF_1_6, gA_2, gA_3, gA_4, gA_5, gA_6, gA_7, gA_8, gA_9, gA_10, gA_11, gA_13, gA_14, gA_16, gA_17, gA_20, gA_21, gA_22, gA_23, gA_24, gA_25, gA_26, gA_27, gA_30, gA_31, gA_32, gA_33, gA_34, gA_35, gA_36, gA_38, gA_39, gA_41, gA_42, gA_46, gA_47, gA_49, gA_50, gA_51, gA_53, gA_56, gA_57, gA_59, gA_60, gW_2, gW_3, gW_4, gW_5, gW_6, gW_7, gW_8, gW_9, gW_10, gW_11, gW_13, gW_14, gW_16, gW_17, gW_20, gW_21, gW_22, gW_23, gW_24, gW_25, gW_26, gW_27, gW_30, gW_31, gW_32, gW_33, gW_34, gW_35, gW_36, gW_38, gW_39, gW_41, gW_42, gW_46, gW_47, gW_49, gW_50, gW_51, gW_53, gW_56, gW_57, gW_59, gW_60, gP_19_10, tF_0 ht, tF_1 ht, tF_2 ht, tF_3 ht, tA_1 ht, tA_2 ht, tW_1 ht, tW_2 ht, tP_0 ht, tP_1 ht, xq_28_200_static, xq_43_3_virtualc, iN_add, iN_mul, iN_sub, iN_and, iN_or, iN_clr, iN_shl, iN_shr, tb_r1, b1_z, b1_or, b1_and, b1_or0, b1_or1, b1_0or, b1_t, b1_f, iN_lt, iN_inj, reduceIte, if_true, if_false, Nat.zero_add, Nat.add_zero, Bool.false_eq_true, Bool.true_eq_false, Nat.lt_irrefl, iN_az, not_true_eq_false, not_false_eq_true, Nat.reduceEqDiff, Nat.reduceLT, Nat.reduceAdd, Nat.reduceMul, Nat.reduceSub]
    · rintro k hk ih N y2 y3 y4 ⟨f1, f2, f3, f4⟩
      obtain ⟨hb1, hb2⟩ := hb k hk
      have inn : ∀ j, j ≤ (σ 1 2) → ∀ N y3 y4, (Fr [19, 26, 27] M N ∧ N 19 = u1 (M 19) 10 2 ∧ (∀ j, N 26 j ≤ 27) ∧ CW σ N (wch (M (t + 1)) (M (t + 2))) k ∧ ∀ s, s < j → ∀ r, r < (σ 1 5) → N 26 (vi k s r) = wch (M (t + 1)) (M (t + 2)) k s r) → ∃ M', ev xs (d + 2) 41 3 ([.ref 19, .ref t, .int (nI k), .int (nI j), y3, y4], [], hc σ N R) = some (.inl none, hc σ M' R) ∧ Fr [19, 26, 27] M M' ∧ M' 19 = u1 (M 19) 10 2 ∧ (∀ j, M' 26 j ≤ 27) ∧ CW σ M' (wch (M (t + 1)) (M (t + 2))) (σ 1 6) := by
        refine lp (σ 1 2) ?_ ?_
        · rintro N y3 y4 ⟨f1, f2, f3, f4, f5⟩
          obtain ⟨g, e, q1, q2⟩ := s_43 (xs := xs) (d := d) (M := N) (R := R) O hk (by rw [f1 21 rfl]; exact h21 k hk) (fun j _ => f3 j)
          obtain ⟨M', e2, q⟩ := ih (ur N 27 g) (.int (nI (σ 1 2))) y3 y4 ⟨Fr_u f1 rfl, by rw [ur_n (by decide)]; exact f2, fun j => by rw [ur_n (by decide)]; exact f3 j, CW_p O hk f4 f5 q1 q2⟩
          refine ⟨M', ?_, q⟩
          rw [eb_41_3]
          simp (disch := first | assumption | omega | exact st8_a (Nat.le_of_ble_eq_true rfl)) only [e, eb_41_0, eb_41_2, eb_41_4, eb_41_6, eb_41_7, eb_41_8, eb_41_9, eb_41_10, eb_41_11, eb_41_12, eb_41_13, eb_41_14, eb_41_15, eb_41_16, eb_41_17, eb_41_18, kl_a, kl_d, kl_f, kl_i, kl_l, kl_n, kl_r, xr_1, xr_10, xr_11, xr_12, xr_13, xr_14, xr_15, xr_2, xr_27, xr_3, xr_30, xr_31, xr_32, xr_33, xr_34, xr_35, xr_36, xr_37, xr_4, xr_40, xr_42, xr_43, xr_5, xr_65, af_0, af_1, xt_goto, xt_ic_ge, xt_ic_ne, xt_if_eq, xt_nop, xt_re, gF_19_0, gF_19_7, gF_1_2, gF_1_5, gF_1_6, gA_2, gA_3, gA_4, gA_5, gA_6, gA_7, gA_8, gA_9, gA_10, gA_11, gA_13, gA_14, gA_16, gA_17, gA_20, gA_21, gA_22, gA_23, gA_24, gA_25, gA_26, gA_27, gA_30, gA_31, gA_32, gA_33, gA_34, gA_35, gA_36, gA_38, gA_39, gA_41, gA_42, gA_46, gA_47, gA_49, gA_50, gA_51, gA_53, gA_56, gA_57, gA_59, gA_60, gW_2, gW_3, gW_4, gW_5, gW_6, gW_7, gW_8, gW_9, gW_10, gW_11, gW_13, gW_14, gW_16, gW_17, gW_20, gW_21, gW_22, gW_23, gW_24, gW_25, gW_26, gW_27, gW_30, gW_31, gW_32, gW_33, gW_34, gW_35, gW_36, gW_38, gW_39, gW_41, gW_42, gW_46, gW_47, gW_49, gW_50, gW_51, gW_53, gW_56, gW_57, gW_59, gW_60, gP_19_10, tF_0 ht, tF_1 ht, tF_2 ht, tF_3 ht, tA_1 ht, tA_2 ht, tW_1 ht, tW_2 ht, tP_0 ht, tP_1 ht, xq_28_200_static, xq_43_3_virtualc, iN_add, iN_mul, iN_sub, iN_and, iN_or, iN_clr, iN_shl, iN_shr, tb_r1, b1_z, b1_or, b1_and, b1_or0, b1_or1, b1_0or, b1_t, b1_f, iN_lt, iN_inj, reduceIte, if_true, if_false, Nat.zero_add, Nat.add_zero, Bool.false_eq_true, Bool.true_eq_false, Nat.lt_irrefl, iN_az, not_true_eq_false, not_false_eq_true, Nat.reduceEqDiff, Nat.reduceLT, Nat.reduceAdd, Nat.reduceMul, Nat.reduceSub]
          exact e2
        · rintro j hj ih2 N y3 y4 ⟨f1, f2, f3, f4, f5⟩
          have inn2 : ∀ p, p ≤ (σ 1 5) → ∀ N y4, (Fr [19, 26, 27] M N ∧ N 19 = u1 (M 19) 10 2 ∧ (∀ j, N 26 j ≤ 27) ∧ CW σ N (wch (M (t + 1)) (M (t + 2))) k ∧ (∀ s, s < j → ∀ r, r < (σ 1 5) → N 26 (vi k s r) = wch (M (t + 1)) (M (t + 2)) k s r) ∧ ∀ r, r < p → N 26 (vi k j r) = wch (M (t + 1)) (M (t + 2)) k j r) → ∃ M', ev xs (d + 2) 41 5 ([.ref 19, .ref t, .int (nI k), .int (nI j), .int (nI p), y4], [], hc σ N R) = some (.inl none, hc σ M' R) ∧ Fr [19, 26, 27] M M' ∧ M' 19 = u1 (M 19) 10 2 ∧ (∀ j, M' 26 j ≤ 27) ∧ CW σ M' (wch (M (t + 1)) (M (t + 2))) (σ 1 6) := by
            refine lp (σ 1 5) ?_ ?_
            · rintro N y4 ⟨f1, f2, f3, f4, f5, f6⟩
              obtain ⟨M', e2, q⟩ := ih2 N (.int (nI (σ 1 5))) y4 ⟨f1, f2, f3, f4, fun s hs => by
                by_cases e : s = j
                · subst e; exact f6
                · exact f5 s (by omega)⟩
              refine ⟨M', ?_, q⟩
              rw [eb_41_5]
              simp (disch := first | assumption | omega | exact st8_a (Nat.le_of_ble_eq_true rfl)) only [eb_41_0, eb_41_2, eb_41_4, eb_41_6, eb_41_7, eb_41_8, eb_41_9, eb_41_10, eb_41_11, eb_41_12, eb_41_13, eb_41_14, eb_41_15, eb_41_16, eb_41_17, eb_41_18, kl_a, kl_d, kl_f, kl_i, kl_l, kl_n, kl_r, xr_1, xr_10, xr_11, xr_12, xr_13, xr_14, xr_15, xr_2, xr_27, xr_3, xr_30, xr_31, xr_32, xr_33, xr_34, xr_35, xr_36, xr_37, xr_4, xr_40, xr_42, xr_43, xr_5, xr_65, af_0, af_1, xt_goto, xt_ic_ge, xt_ic_ne, xt_if_eq, xt_nop, xt_re, gF_19_0, gF_19_7, gF_1_2, gF_1_5, gF_1_6, gA_2, gA_3, gA_4, gA_5, gA_6, gA_7, gA_8, gA_9, gA_10, gA_11, gA_13, gA_14, gA_16, gA_17, gA_20, gA_21, gA_22, gA_23, gA_24, gA_25, gA_26, gA_27, gA_30, gA_31, gA_32, gA_33, gA_34, gA_35, gA_36, gA_38, gA_39, gA_41, gA_42, gA_46, gA_47, gA_49, gA_50, gA_51, gA_53, gA_56, gA_57, gA_59, gA_60, gW_2, gW_3, gW_4, gW_5, gW_6, gW_7, gW_8, gW_9, gW_10, gW_11, gW_13, gW_14, gW_16, gW_17, gW_20, gW_21, gW_22, gW_23, gW_24, gW_25, gW_26, gW_27, gW_30, gW_31, gW_32, gW_33, gW_34, gW_35, gW_36, gW_38, gW_39, gW_41, gW_42, gW_46, gW_47, gW_49, gW_50, gW_51, gW_53, gW_56, gW_57, gW_59, gW_60, gP_19_10, tF_0 ht, tF_1 ht, tF_2 ht, tF_3 ht, tA_1 ht, tA_2 ht, tW_1 ht, tW_2 ht, tP_0 ht, tP_1 ht, xq_28_200_static, xq_43_3_virtualc, iN_add, iN_mul, iN_sub, iN_and, iN_or, iN_clr, iN_shl, iN_shr, tb_r1, b1_z, b1_or, b1_and, b1_or0, b1_or1, b1_0or, b1_t, b1_f, iN_lt, iN_inj, reduceIte, if_true, if_false, Nat.zero_add, Nat.add_zero, Bool.false_eq_true, Bool.true_eq_false, Nat.lt_irrefl, iN_az, not_true_eq_false, not_false_eq_true, Nat.reduceEqDiff, Nat.reduceLT, Nat.reduceAdd, Nat.reduceMul, Nat.reduceSub]
              exact e2
            · rintro p hp ih3 N y4 ⟨f1, f2, f3, f4, f5, f6⟩
              have hv : vi k j p < 108 := by unfold vi; omega
              have e4 : (k * 6 + j) * 3 + p = vi k j p := rfl
              have e5 : N (t + 1) = M (t + 1) := f1 _ ht1
              have e6 : N (t + 2) = M (t + 2) := f1 _ ht2
              have step : ∀ w y4, w = wch (M (t + 1)) (M (t + 2)) k j p → w ≤ 27 → ∃ M', ev xs (d + 2) 41 5 ([.ref 19, .ref t, .int (nI k), .int (nI j), .int (nI (p + 1)), y4], [], hc σ (up N 26 (vi k j p) w) R) = some (.inl none, hc σ M' R) ∧ Fr [19, 26, 27] M M' ∧ M' 19 = u1 (M 19) 10 2 ∧ (∀ j, M' 26 j ≤ 27) ∧ CW σ M' (wch (M (t + 1)) (M (t + 2))) (σ 1 6) := by
                intro w y4 hw hw2
                refine ih3 (up N 26 (vi k j p) w) y4 ⟨Fr_p f1 rfl, by rw [up_n (by decide)]; exact f2, fun j2 => by
                  rw [up_s]
                  unfold u1
                  split
                  · exact hw2
                  · exact f3 j2, fun l hl => ⟨fun s hs r hr => by
                  rw [up_s, u1_n (fun h => by have := vi_inj (by omega) (by omega) (by omega) (by omega) h; omega)]
                  exact (f4 l hl).1 s hs r hr, SC_u (f4 l hl).2 fun s hs r hr => u1_n (fun h => by have := vi_inj (by omega) (by omega) (by omega) (by omega) h; omega)⟩, fun s hs r hr => by
                  rw [up_s, u1_n (fun h => by have := vi_inj (by omega) (by omega) (by omega) (by omega) h; omega)]
                  exact f5 s hs r hr, fun r hr => by
                  rw [up_s]
                  by_cases e : r = p
                  · rw [e, u1_s]; exact hw
                  · rw [u1_n (fun h => by have := vi_inj (by omega) (by omega) (by omega) (by omega) h; omega)]
                    exact f6 r (by omega)⟩
              rw [eb_41_5]
              by_cases h1 : j = M (t + 1) k
              · by_cases h2 : p = M (t + 2) k
                · obtain ⟨M', e2, q⟩ := step 0 (.int (nI 1)) (by unfold wch; rw [if_pos ⟨h1, h2⟩]) (by decide)
                  refine ⟨M', ?_, q⟩
                  simp (disch := first | assumption | omega | exact st8_a (Nat.le_of_ble_eq_true rfl)) only [hp, e5, e6, eq_true h1, eq_true h2, s_28, e4, eb_41_0, eb_41_2, eb_41_4, eb_41_6, eb_41_7, eb_41_8, eb_41_9, eb_41_10, eb_41_11, eb_41_12, eb_41_13, eb_41_14, eb_41_15, eb_41_16, eb_41_17, eb_41_18, kl_a, kl_d, kl_f, kl_i, kl_l, kl_n, kl_r, xr_1, xr_10, xr_11, xr_12, xr_13, xr_14, xr_15, xr_2, xr_27, xr_3, xr_30, xr_31, xr_32, xr_33, xr_34, xr_35, xr_36, xr_37, xr_4, xr_40, xr_42, xr_43, xr_5, xr_65, af_0, af_1, xt_goto, xt_ic_ge, xt_ic_ne, xt_if_eq, xt_nop, xt_re, gF_19_0, gF_19_7, gF_1_2, gF_1_5, gF_1_6, gA_2, gA_3, gA_4, gA_5, gA_6, gA_7, gA_8, gA_9, gA_10, gA_11, gA_13, gA_14, gA_16, gA_17, gA_20, gA_21, gA_22, gA_23, gA_24, gA_25, gA_26, gA_27, gA_30, gA_31, gA_32, gA_33, gA_34, gA_35, gA_36, gA_38, gA_39, gA_41, gA_42, gA_46, gA_47, gA_49, gA_50, gA_51, gA_53, gA_56, gA_57, gA_59, gA_60, gW_2, gW_3, gW_4, gW_5, gW_6, gW_7, gW_8, gW_9, gW_10, gW_11, gW_13, gW_14, gW_16, gW_17, gW_20, gW_21, gW_22, gW_23, gW_24, gW_25, gW_26, gW_27, gW_30, gW_31, gW_32, gW_33, gW_34, gW_35, gW_36, gW_38, gW_39, gW_41, gW_42, gW_46, gW_47, gW_49, gW_50, gW_51, gW_53, gW_56, gW_57, gW_59, gW_60, gP_19_10, tF_0 ht, tF_1 ht, tF_2 ht, tF_3 ht, tA_1 ht, tA_2 ht, tW_1 ht, tW_2 ht, tP_0 ht, tP_1 ht, xq_28_200_static, xq_43_3_virtualc, iN_add, iN_mul, iN_sub, iN_and, iN_or, iN_clr, iN_shl, iN_shr, tb_r1, b1_z, b1_or, b1_and, b1_or0, b1_or1, b1_0or, b1_t, b1_f, iN_lt, iN_inj, reduceIte, if_true, if_false, Nat.zero_add, Nat.add_zero, Bool.false_eq_true, Bool.true_eq_false, Nat.lt_irrefl, iN_az, not_true_eq_false, not_false_eq_true, Nat.reduceEqDiff, Nat.reduceLT, Nat.reduceAdd, Nat.reduceMul, Nat.reduceSub]
                  exact e2
                · obtain ⟨M', e2, q⟩ := step 1 (.int (nI 0)) (by unfold wch; rw [if_neg (fun z => h2 z.2)]) (by decide)
                  refine ⟨M', ?_, q⟩
                  simp (disch := first | assumption | omega | exact st8_a (Nat.le_of_ble_eq_true rfl)) only [hp, e5, e6, eq_true h1, h2, s_28, e4, eb_41_0, eb_41_2, eb_41_4, eb_41_6, eb_41_7, eb_41_8, eb_41_9, eb_41_10, eb_41_11, eb_41_12, eb_41_13, eb_41_14, eb_41_15, eb_41_16, eb_41_17, eb_41_18, kl_a, kl_d, kl_f, kl_i, kl_l, kl_n, kl_r, xr_1, xr_10, xr_11, xr_12, xr_13, xr_14, xr_15, xr_2, xr_27, xr_3, xr_30, xr_31, xr_32, xr_33, xr_34, xr_35, xr_36, xr_37, xr_4, xr_40, xr_42, xr_43, xr_5, xr_65, af_0, af_1, xt_goto, xt_ic_ge, xt_ic_ne, xt_if_eq, xt_nop, xt_re, gF_19_0, gF_19_7, gF_1_2, gF_1_5, gF_1_6, gA_2, gA_3, gA_4, gA_5, gA_6, gA_7, gA_8, gA_9, gA_10, gA_11, gA_13, gA_14, gA_16, gA_17, gA_20, gA_21, gA_22, gA_23, gA_24, gA_25, gA_26, gA_27, gA_30, gA_31, gA_32, gA_33, gA_34, gA_35, gA_36, gA_38, gA_39, gA_41, gA_42, gA_46, gA_47, gA_49, gA_50, gA_51, gA_53, gA_56, gA_57, gA_59, gA_60, gW_2, gW_3, gW_4, gW_5, gW_6, gW_7, gW_8, gW_9, gW_10, gW_11, gW_13, gW_14, gW_16, gW_17, gW_20, gW_21, gW_22, gW_23, gW_24, gW_25, gW_26, gW_27, gW_30, gW_31, gW_32, gW_33, gW_34, gW_35, gW_36, gW_38, gW_39, gW_41, gW_42, gW_46, gW_47, gW_49, gW_50, gW_51, gW_53, gW_56, gW_57, gW_59, gW_60, gP_19_10, tF_0 ht, tF_1 ht, tF_2 ht, tF_3 ht, tA_1 ht, tA_2 ht, tW_1 ht, tW_2 ht, tP_0 ht, tP_1 ht, xq_28_200_static, xq_43_3_virtualc, iN_add, iN_mul, iN_sub, iN_and, iN_or, iN_clr, iN_shl, iN_shr, tb_r1, b1_z, b1_or, b1_and, b1_or0, b1_or1, b1_0or, b1_t, b1_f, iN_lt, iN_inj, reduceIte, if_true, if_false, Nat.zero_add, Nat.add_zero, Bool.false_eq_true, Bool.true_eq_false, Nat.lt_irrefl, iN_az, not_true_eq_false, not_false_eq_true, Nat.reduceEqDiff, Nat.reduceLT, Nat.reduceAdd, Nat.reduceMul, Nat.reduceSub]
                  exact e2
              · obtain ⟨M', e2, q⟩ := step 1 (.int (nI 0)) (by unfold wch; rw [if_neg (fun z => h1 z.1)]) (by decide)
                refine ⟨M', ?_, q⟩
                simp (disch := first | assumption | omega | exact st8_a (Nat.le_of_ble_eq_true rfl)) only [hp, e5, e6, h1, s_28, e4, eb_41_0, eb_41_2, eb_41_4, eb_41_6, eb_41_7, eb_41_8, eb_41_9, eb_41_10, eb_41_11, eb_41_12, eb_41_13, eb_41_14, eb_41_15, eb_41_16, eb_41_17, eb_41_18, kl_a, kl_d, kl_f, kl_i, kl_l, kl_n, kl_r, xr_1, xr_10, xr_11, xr_12, xr_13, xr_14, xr_15, xr_2, xr_27, xr_3, xr_30, xr_31, xr_32, xr_33, xr_34, xr_35, xr_36, xr_37, xr_4, xr_40, xr_42, xr_43, xr_5, xr_65, af_0, af_1, xt_goto, xt_ic_ge, xt_ic_ne, xt_if_eq, xt_nop, xt_re, gF_19_0, gF_19_7, gF_1_2, gF_1_5, gF_1_6, gA_2, gA_3, gA_4, gA_5, gA_6, gA_7, gA_8, gA_9, gA_10, gA_11, gA_13, gA_14, gA_16, gA_17, gA_20, gA_21, gA_22, gA_23, gA_24, gA_25, gA_26, gA_27, gA_30, gA_31, gA_32, gA_33, gA_34, gA_35, gA_36, gA_38, gA_39, gA_41, gA_42, gA_46, gA_47, gA_49, gA_50, gA_51, gA_53, gA_56, gA_57, gA_59, gA_60, gW_2, gW_3, gW_4, gW_5, gW_6, gW_7, gW_8, gW_9, gW_10, gW_11, gW_13, gW_14, gW_16, gW_17, gW_20, gW_21, gW_22, gW_23, gW_24, gW_25, gW_26, gW_27, gW_30, gW_31, gW_32, gW_33, gW_34, gW_35, gW_36, gW_38, gW_39, gW_41, gW_42, gW_46, gW_47, gW_49, gW_50, gW_51, gW_53, gW_56, gW_57, gW_59, gW_60, gP_19_10, tF_0 ht, tF_1 ht, tF_2 ht, tF_3 ht, tA_1 ht, tA_2 ht, tW_1 ht, tW_2 ht, tP_0 ht, tP_1 ht, xq_28_200_static, xq_43_3_virtualc, iN_add, iN_mul, iN_sub, iN_and, iN_or, iN_clr, iN_shl, iN_shr, tb_r1, b1_z, b1_or, b1_and, b1_or0, b1_or1, b1_0or, b1_t, b1_f, iN_lt, iN_inj, reduceIte, if_true, if_false, Nat.zero_add, Nat.add_zero, Bool.false_eq_true, Bool.true_eq_false, Nat.lt_irrefl, iN_az, not_true_eq_false, not_false_eq_true, Nat.reduceEqDiff, Nat.reduceLT, Nat.reduceAdd, Nat.reduceMul, Nat.reduceSub]
                exact e2
          obtain ⟨M', e2, q⟩ := inn2 0 (Nat.zero_le _) N y4 ⟨f1, f2, f3, f4, f5, fun r hr => absurd hr (Nat.not_lt_zero r)⟩
          refine ⟨M', ?_, q⟩
          rw [eb_41_3]
          simp (disch := first | assumption | omega | exact st8_a (Nat.le_of_ble_eq_true rfl)) only [hj, eb_41_0, eb_41_2, eb_41_4, eb_41_6, eb_41_7, eb_41_8, eb_41_9, eb_41_10, eb_41_11, eb_41_12, eb_41_13, eb_41_14, eb_41_15, eb_41_16, eb_41_17, eb_41_18, kl_a, kl_d, kl_f, kl_i, kl_l, kl_n, kl_r, xr_1, xr_10, xr_11, xr_12, xr_13, xr_14, xr_15, xr_2, xr_27, xr_3, xr_30, xr_31, xr_32, xr_33, xr_34, xr_35, xr_36, xr_37, xr_4, xr_40, xr_42, xr_43, xr_5, xr_65, af_0, af_1, xt_goto, xt_ic_ge, xt_ic_ne, xt_if_eq, xt_nop, xt_re, gF_19_0, gF_19_7, gF_1_2, gF_1_5, gF_1_6, gA_2, gA_3, gA_4, gA_5, gA_6, gA_7, gA_8, gA_9, gA_10, gA_11, gA_13, gA_14, gA_16, gA_17, gA_20, gA_21, gA_22, gA_23, gA_24, gA_25, gA_26, gA_27, gA_30, gA_31, gA_32, gA_33, gA_34, gA_35, gA_36, gA_38, gA_39, gA_41, gA_42, gA_46, gA_47, gA_49, gA_50, gA_51, gA_53, gA_56, gA_57, gA_59, gA_60, gW_2, gW_3, gW_4, gW_5, gW_6, gW_7, gW_8, gW_9, gW_10, gW_11, gW_13, gW_14, gW_16, gW_17, gW_20, gW_21, gW_22, gW_23, gW_24, gW_25, gW_26, gW_27, gW_30, gW_31, gW_32, gW_33, gW_34, gW_35, gW_36, gW_38, gW_39, gW_41, gW_42, gW_46, gW_47, gW_49, gW_50, gW_51, gW_53, gW_56, gW_57, gW_59, gW_60, gP_19_10, tF_0 ht, tF_1 ht, tF_2 ht, tF_3 ht, tA_1 ht, tA_2 ht, tW_1 ht, tW_2 ht, tP_0 ht, tP_1 ht, xq_28_200_static, xq_43_3_virtualc, iN_add, iN_mul, iN_sub, iN_and, iN_or, iN_clr, iN_shl, iN_shr, tb_r1, b1_z, b1_or, b1_and, b1_or0, b1_or1, b1_0or, b1_t, b1_f, iN_lt, iN_inj, reduceIte, if_true, if_false, Nat.zero_add, Nat.add_zero, Bool.false_eq_true, Bool.true_eq_false, Nat.lt_irrefl, iN_az, not_true_eq_false, not_false_eq_true, Nat.reduceEqDiff, Nat.reduceLT, Nat.reduceAdd, Nat.reduceMul, Nat.reduceSub]
          exact e2
      obtain ⟨M', e2, q⟩ := inn 0 (Nat.zero_le _) N y3 y4 ⟨f1, f2, f3, f4, fun s hs => absurd hs (Nat.not_lt_zero s)⟩
      refine ⟨M', ?_, q⟩
      rw [eb_41_1]
      simp (disch := first | assumption | omega | exact st8_a (Nat.le_of_ble_eq_true rfl)) only [hk, eb_41_0, eb_41_2, eb_41_4, eb_41_6, eb_41_7, eb_41_8, eb_41_9, eb_41_10, eb_41_11, eb_41_12, eb_41_13, eb_41_14, eb_41_15, eb_41_16, eb_41_17, eb_41_18, kl_a, kl_d, kl_f, kl_i, kl_l, kl_n, kl_r, xr_1, xr_10, xr_11, xr_12, xr_13, xr_14, xr_15, xr_2, xr_27, xr_3, xr_30, xr_31, xr_32, xr_33, xr_34, xr_35, xr_36, xr_37, xr_4, xr_40, xr_42, xr_43, xr_5, xr_65, af_0, af_1, xt_goto, xt_ic_ge, xt_ic_ne, xt_if_eq, xt_nop, xt_re, gF_19_0, gF_19_7, gF_1_2, gF_1_5, gF_1_6, gA_2, gA_3, gA_4, gA_5, gA_6, gA_7, gA_8, gA_9, gA_10, gA_11, gA_13, gA_14, gA_16, gA_17, gA_20, gA_21, gA_22, gA_23, gA_24, gA_25, gA_26, gA_27, gA_30, gA_31, gA_32, gA_33, gA_34, gA_35, gA_36, gA_38, gA_39, gA_41, gA_42, gA_46, gA_47, gA_49, gA_50, gA_51, gA_53, gA_56, gA_57, gA_59, gA_60, gW_2, gW_3, gW_4, gW_5, gW_6, gW_7, gW_8, gW_9, gW_10, gW_11, gW_13, gW_14, gW_16, gW_17, gW_20, gW_21, gW_22, gW_23, gW_24, gW_25, gW_26, gW_27, gW_30, gW_31, gW_32, gW_33, gW_34, gW_35, gW_36, gW_38, gW_39, gW_41, gW_42, gW_46, gW_47, gW_49, gW_50, gW_51, gW_53, gW_56, gW_57, gW_59, gW_60, gP_19_10, tF_0 ht, tF_1 ht, tF_2 ht, tF_3 ht, tA_1 ht, tA_2 ht, tW_1 ht, tW_2 ht, tP_0 ht, tP_1 ht, xq_28_200_static, xq_43_3_virtualc, iN_add, iN_mul, iN_sub, iN_and, iN_or, iN_clr, iN_shl, iN_shr, tb_r1, b1_z, b1_or, b1_and, b1_or0, b1_or1, b1_0or, b1_t, b1_f, iN_lt, iN_inj, reduceIte, if_true, if_false, Nat.zero_add, Nat.add_zero, Bool.false_eq_true, Bool.true_eq_false, Nat.lt_irrefl, iN_az, not_true_eq_false, not_false_eq_true, Nat.reduceEqDiff, Nat.reduceLT, Nat.reduceAdd, Nat.reduceMul, Nat.reduceSub]
      exact e2
  obtain ⟨M', e, q⟩ := key 0 (Nat.zero_le _) (up M 19 10 2) (.retAddr 9) (.retAddr 9) (.retAddr 9) ⟨Fr_p (Fr_r _ _) rfl, up_s _ _ _ _, fun j => by rw [up_n (by decide)]; exact h26 j, fun l hl => absurd hl (Nat.not_lt_zero l)⟩
  refine ⟨M', ?_, q⟩
  simp (disch := first | assumption | omega | exact st8_a (Nat.le_of_ble_eq_true rfl)) only [eb_41_0, eb_41_2, eb_41_4, eb_41_6, eb_41_7, eb_41_8, eb_41_9, eb_41_10, eb_41_11, eb_41_12, eb_41_13, eb_41_14, eb_41_15, eb_41_16, eb_41_17, eb_41_18, kl_a, kl_d, kl_f, kl_i, kl_l, kl_n, kl_r, xr_1, xr_10, xr_11, xr_12, xr_13, xr_14, xr_15, xr_2, xr_27, xr_3, xr_30, xr_31, xr_32, xr_33, xr_34, xr_35, xr_36, xr_37, xr_4, xr_40, xr_42, xr_43, xr_5, xr_65, af_0, af_1, xt_goto, xt_ic_ge, xt_ic_ne, xt_if_eq, xt_nop, xt_re, gF_19_0, gF_19_7, gF_1_2, gF_1_5, gF_1_6, gA_2, gA_3, gA_4, gA_5, gA_6, gA_7, gA_8, gA_9, gA_10, gA_11, gA_13, gA_14, gA_16, gA_17, gA_20, gA_21, gA_22, gA_23, gA_24, gA_25, gA_26, gA_27, gA_30, gA_31, gA_32, gA_33, gA_34, gA_35, gA_36, gA_38, gA_39, gA_41, gA_42, gA_46, gA_47, gA_49, gA_50, gA_51, gA_53, gA_56, gA_57, gA_59, gA_60, gW_2, gW_3, gW_4, gW_5, gW_6, gW_7, gW_8, gW_9, gW_10, gW_11, gW_13, gW_14, gW_16, gW_17, gW_20, gW_21, gW_22, gW_23, gW_24, gW_25, gW_26, gW_27, gW_30, gW_31, gW_32, gW_33, gW_34, gW_35, gW_36, gW_38, gW_39, gW_41, gW_42, gW_46, gW_47, gW_49, gW_50, gW_51, gW_53, gW_56, gW_57, gW_59, gW_60, gP_19_10, tF_0 ht, tF_1 ht, tF_2 ht, tF_3 ht, tA_1 ht, tA_2 ht, tW_1 ht, tW_2 ht, tP_0 ht, tP_1 ht, xq_28_200_static, xq_43_3_virtualc, iN_add, iN_mul, iN_sub, iN_and, iN_or, iN_clr, iN_shl, iN_shr, tb_r1, b1_z, b1_or, b1_and, b1_or0, b1_or1, b1_0or, b1_t, b1_f, iN_lt, iN_inj, reduceIte, if_true, if_false, Nat.zero_add, Nat.add_zero, Bool.false_eq_true, Bool.true_eq_false, Nat.lt_irrefl, iN_az, not_true_eq_false, not_false_eq_true, Nat.reduceEqDiff, Nat.reduceLT, Nat.reduceAdd, Nat.reduceMul, Nat.reduceSub]
  exact e
set_option maxRecDepth 100000 in
theorem s_42 : ev xs d 42 0 ([.ref 19], [], hc σ M R) = some (.inl none, hc σ (up M 19 10 3) R) := by
  simp (disch := first | assumption | omega | exact st8_a (Nat.le_of_ble_eq_true rfl)) only [eb_42_0, xr_1, xr_2, xr_3, xr_4, xr_5, xr_71, xt_re, gP_19_10, iN_add, iN_mul, iN_sub, iN_and, iN_or, iN_clr, iN_shl, iN_shr, tb_r1, b1_z, b1_or, b1_and, b1_or0, b1_or1, b1_0or, b1_t, b1_f, iN_lt, iN_inj, reduceIte, if_true, if_false, Nat.zero_add, Nat.add_zero, Bool.false_eq_true, Bool.true_eq_false, Nat.lt_irrefl, iN_az, not_true_eq_false, not_false_eq_true, Nat.reduceEqDiff, Nat.reduceLT, Nat.reduceAdd, Nat.reduceMul, Nat.reduceSub]
end Qf
