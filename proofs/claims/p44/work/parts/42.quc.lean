/-! THE CLASS Question: costs; the rules taken in; ask -/
def vi (l s r : Nat) : Nat := (l * 6 + s) * 3 + r
set_option maxRecDepth 100000 in
theorem vi_inj {l s r l2 s2 r2 : Nat} (hs : s < 6) (hr : r < 3) (hs2 : s2 < 6) (hr2 : r2 < 3) (h : vi l s r = vi l2 s2 r2) : l = l2 ∧ s = s2 ∧ r = r2 := by
  unfold vi at h
  omega
/-- the slots of a lesson have their costs -/
def SC (σ M : Nat → Nat → Nat) (l : Nat) : Prop := ∀ s, s < (σ 1 2) → M 27 (l * 6 + s) ≤ 27 ∧ ∀ r, r < (σ 1 5) → (M 21 l).testBit r = true → M 27 (l * 6 + s) ≤ M 26 (vi l s r)
set_option maxRecDepth 100000 in
theorem fa_s {k : Nat} {P : Nat → Prop} : (∀ q, q < k + 1 → P q) ↔ (∀ q, q < k → P q) ∧ P k := by
  constructor
  · intro h
    exact ⟨fun q hq => h q (by omega), h k (by omega)⟩
  · rintro ⟨h1, h2⟩ q hq
    by_cases e : q = k
    · subst e; exact h2
    · exact h1 q (by omega)
section Qc
variable {xs : List Int32} {d : Nat} {σ M : Nat → Nat → Nat} {R h : ab_H} {l o s i u q n set k : Nat}
set_option maxRecDepth 100000 in
theorem s_43 (O : Ok σ) (hl : l < (σ 1 6)) (h21 : M 21 l < 8) (h26 : ∀ j, j < 108 → M 26 j ≤ 27) : ∃ g, ev xs (d + 1) 43 0 ([.ref 19, .int (nI l), .retAddr 9, .retAddr 9, .retAddr 9], [], hc σ M R) = some (.inl none, hc σ (ur M 27 g) R) ∧ (∀ j, (∀ s, s < (σ 1 2) → j ≠ l * 6 + s) → g j = M 27 j) ∧ SC σ (ur M 27 g) l := by
  obtain ⟨hD1, hD2, hH1, hH2, hS, hC, hT, hR, hL, hQ⟩ := Ok_b O
  have key : ∀ k, k ≤ (σ 1 2) → ∀ g0 y1 y2, ((∀ j, (∀ s, s < (σ 1 2) → j ≠ l * 6 + s) → g0 j = M 27 j) ∧ ∀ s, s < k → g0 (l * 6 + s) ≤ 27 ∧ ∀ r, r < (σ 1 5) → (M 21 l).testBit r = true → g0 (l * 6 + s) ≤ M 26 (vi l s r)) → ∃ g, ev xs (d + 1) 43 1 ([.ref 19, .int (nI l), .int (nI k), y1, y2], [], hc σ (ur M 27 g0) R) = some (.inl none, hc σ (ur M 27 g) R) ∧ (∀ j, (∀ s, s < (σ 1 2) → j ≠ l * 6 + s) → g j = M 27 j) ∧ SC σ (ur M 27 g) l := by
    refine lp (σ 1 2) ?_ ?_
    · intro g0 y1 y2 hg
      refine ⟨g0, ?_, hg.1, fun s hs => by rw [ur_s, ur_n (by decide), ur_n (by decide)]; exact hg.2 s hs⟩
      rw [eb_43_1]
      simp (disch := first | assumption | omega | exact st8_a (Nat.le_of_ble_eq_true rfl)) only [eb_43_0, eb_43_2, eb_43_4, eb_43_5, eb_43_6, eb_43_7, eb_43_8, eb_43_9, eb_43_10, eb_43_11, eb_43_12, kl_a, kl_d, kl_f, kl_i, kl_l, kl_n, kl_r, xr_1, xr_10, xr_2, xr_27, xr_28, xr_3, xr_30, xr_31, xr_32, xr_33, xr_34, xr_37, xr_38, xr_4, xr_40, xr_41, xr_42, xr_44, xr_47, xr_48, xr_5, xr_55, xr_89, af_0, af_1, xt_goto, xt_ic_ge, xt_ic_ne, xt_if_eq, xt_nop, xt_re, gF_19_0, gF_19_2, gF_19_7, gF_19_8, gF_1_2, gF_1_5, gA_2, gA_3, gA_4, gA_5, gA_6, gA_7, gA_8, gA_9, gA_10, gA_11, gA_13, gA_14, gA_16, gA_17, gA_20, gA_21, gA_22, gA_23, gA_24, gA_25, gA_26, gA_27, gA_30, gA_31, gA_32, gA_33, gA_34, gA_35, gA_36, gA_38, gA_39, gA_41, gA_42, gA_46, gA_47, gA_49, gA_50, gA_51, gA_53, gA_56, gA_57, gA_59, gA_60, gW_2, gW_3, gW_4, gW_5, gW_6, gW_7, gW_8, gW_9, gW_10, gW_11, gW_13, gW_14, gW_16, gW_17, gW_20, gW_21, gW_22, gW_23, gW_24, gW_25, gW_26, gW_27, gW_30, gW_31, gW_32, gW_33, gW_34, gW_35, gW_36, gW_38, gW_39, gW_41, gW_42, gW_46, gW_47, gW_49, gW_50, gW_51, gW_53, gW_56, gW_57, gW_59, gW_60, xq_28_200_static, iN_add, iN_mul, iN_sub, iN_and, iN_or, iN_clr, iN_shl, iN_shr, tb_r1, b1_z, b1_or, b1_and, b1_or0, b1_or1, b1_0or, b1_t, b1_f, iN_lt, iN_inj, reduceIte, if_true, if_false, Nat.zero_add, Nat.add_zero, Bool.false_eq_true, Bool.true_eq_false, Nat.lt_irrefl, iN_az, not_true_eq_false, not_false_eq_true, Nat.reduceEqDiff, Nat.reduceLT, Nat.reduceAdd, Nat.reduceMul, Nat.reduceSub]
    · intro k hk ih g0 y1 y2 hg
      have hlk : l * 6 + k < 36 := by omega
      have fin : ∀ x y2, x ≤ 27 → (∀ r, r < (σ 1 5) → (M 21 l).testBit r = true → x ≤ M 26 (vi l k r)) → ∀ w, ∃ g, ev xs (d + 1) 43 1 ([.ref 19, .int (nI l), .int (nI (k + 1)), w, y2], [], hc σ (ur M 27 (u1 g0 (l * 6 + k) x)) R) = some (.inl none, hc σ (ur M 27 g) R) ∧ (∀ j, (∀ s, s < (σ 1 2) → j ≠ l * 6 + s) → g j = M 27 j) ∧ SC σ (ur M 27 g) l := by
        intro x y2 hx1 hx2 w
        refine ih (u1 g0 (l * 6 + k) x) w y2 ⟨fun j hj => ?_, fun s hs => ?_⟩
        · rw [u1_n (hj k hk)]
          exact hg.1 j hj
        · by_cases e : s = k
          · subst e
            rw [u1_s]
            exact ⟨hx1, hx2⟩
          · rw [u1_n (by omega)]
            exact hg.2 s (by omega)
      have inn : ∀ j, j ≤ (σ 1 5) → ∀ x, (∀ r, r < j → (M 21 l).testBit r = true → x ≤ M 26 (vi l k r)) → (x = 100000 ∨ x ≤ 27) → ∃ g, ev xs (d + 1) 43 3 ([.ref 19, .int (nI l), .int (nI k), .int (nI x), .int (nI j)], [], hc σ (ur M 27 g0) R) = some (.inl none, hc σ (ur M 27 g) R) ∧ (∀ j, (∀ s, s < (σ 1 2) → j ≠ l * 6 + s) → g j = M 27 j) ∧ SC σ (ur M 27 g) l := by
        refine lp (σ 1 5) ?_ ?_
        · intro x hx hx2
          rw [eb_43_3]
          by_cases e : x = 100000
          · subst e
            obtain ⟨g, e1, q1⟩ := fin 0 (.int (nI (σ 1 5))) (by omega) (fun r hr hb => Nat.zero_le _) (.int (nI 100000))
            refine ⟨g, ?_, q1⟩
            simp (disch := first | assumption | omega | exact st8_a (Nat.le_of_ble_eq_true rfl)) only [ur_up, eb_43_0, eb_43_2, eb_43_4, eb_43_5, eb_43_6, eb_43_7, eb_43_8, eb_43_9, eb_43_10, eb_43_11, eb_43_12, kl_a, kl_d, kl_f, kl_i, kl_l, kl_n, kl_r, xr_1, xr_10, xr_2, xr_27, xr_28, xr_3, xr_30, xr_31, xr_32, xr_33, xr_34, xr_37, xr_38, xr_4, xr_40, xr_41, xr_42, xr_44, xr_47, xr_48, xr_5, xr_55, xr_89, af_0, af_1, xt_goto, xt_ic_ge, xt_ic_ne, xt_if_eq, xt_nop, xt_re, gF_19_0, gF_19_2, gF_19_7, gF_19_8, gF_1_2, gF_1_5, gA_2, gA_3, gA_4, gA_5, gA_6, gA_7, gA_8, gA_9, gA_10, gA_11, gA_13, gA_14, gA_16, gA_17, gA_20, gA_21, gA_22, gA_23, gA_24, gA_25, gA_26, gA_27, gA_30, gA_31, gA_32, gA_33, gA_34, gA_35, gA_36, gA_38, gA_39, gA_41, gA_42, gA_46, gA_47, gA_49, gA_50, gA_51, gA_53, gA_56, gA_57, gA_59, gA_60, gW_2, gW_3, gW_4, gW_5, gW_6, gW_7, gW_8, gW_9, gW_10, gW_11, gW_13, gW_14, gW_16, gW_17, gW_20, gW_21, gW_22, gW_23, gW_24, gW_25, gW_26, gW_27, gW_30, gW_31, gW_32, gW_33, gW_34, gW_35, gW_36, gW_38, gW_39, gW_41, gW_42, gW_46, gW_47, gW_49, gW_50, gW_51, gW_53, gW_56, gW_57, gW_59, gW_60, xq_28_200_static, iN_add, iN_mul, iN_sub, iN_and, iN_or, iN_clr, iN_shl, iN_shr, tb_r1, b1_z, b1_or, b1_and, b1_or0, b1_or1, b1_0or, b1_t, b1_f, iN_lt, iN_inj, reduceIte, if_true, if_false, Nat.zero_add, Nat.add_zero, Bool.false_eq_true, Bool.true_eq_false, Nat.lt_irrefl, iN_az, not_true_eq_false, not_false_eq_true, Nat.reduceEqDiff, Nat.reduceLT, Nat.reduceAdd, Nat.reduceMul, Nat.reduceSub]
            exact e1
          · obtain ⟨g, e1, q1⟩ := fin x (.int (nI (σ 1 5))) (by omega) hx (.int (nI x))
            refine ⟨g, ?_, q1⟩
            simp (disch := first | assumption | omega | exact st8_a (Nat.le_of_ble_eq_true rfl)) only [e, ur_up, eb_43_0, eb_43_2, eb_43_4, eb_43_5, eb_43_6, eb_43_7, eb_43_8, eb_43_9, eb_43_10, eb_43_11, eb_43_12, kl_a, kl_d, kl_f, kl_i, kl_l, kl_n, kl_r, xr_1, xr_10, xr_2, xr_27, xr_28, xr_3, xr_30, xr_31, xr_32, xr_33, xr_34, xr_37, xr_38, xr_4, xr_40, xr_41, xr_42, xr_44, xr_47, xr_48, xr_5, xr_55, xr_89, af_0, af_1, xt_goto, xt_ic_ge, xt_ic_ne, xt_if_eq, xt_nop, xt_re, gF_19_0, gF_19_2, gF_19_7, gF_19_8, gF_1_2, gF_1_5, gA_2, gA_3, gA_4, gA_5, gA_6, gA_7, gA_8, gA_9, gA_10, gA_11, gA_13, gA_14, gA_16, gA_17, gA_20, gA_21, gA_22, gA_23, gA_24, gA_25, gA_26, gA_27, gA_30, gA_31, gA_32, gA_33, gA_34, gA_35, gA_36, gA_38, gA_39, gA_41, gA_42, gA_46, gA_47, gA_49, gA_50, gA_51, gA_53, gA_56, gA_57, gA_59, gA_60, gW_2, gW_3, gW_4, gW_5, gW_6, gW_7, gW_8, gW_9, gW_10, gW_11, gW_13, gW_14, gW_16, gW_17, gW_20, gW_21, gW_22, gW_23, gW_24, gW_25, gW_26, gW_27, gW_30, gW_31, gW_32, gW_33, gW_34, gW_35, gW_36, gW_38, gW_39, gW_41, gW_42, gW_46, gW_47, gW_49, gW_50, gW_51, gW_53, gW_56, gW_57, gW_59, gW_60, xq_28_200_static, iN_add, iN_mul, iN_sub, iN_and, iN_or, iN_clr, iN_shl, iN_shr, tb_r1, b1_z, b1_or, b1_and, b1_or0, b1_or1, b1_0or, b1_t, b1_f, iN_lt, iN_inj, reduceIte, if_true, if_false, Nat.zero_add, Nat.add_zero, Bool.false_eq_true, Bool.true_eq_false, Nat.lt_irrefl, iN_az, not_true_eq_false, not_false_eq_true, Nat.reduceEqDiff, Nat.reduceLT, Nat.reduceAdd, Nat.reduceMul, Nat.reduceSub]
            exact e1
        · intro j hj ih2 x hx hx2
          have e1 : ur M 27 g0 21 l = M 21 l := by rw [ur_n (by decide)]
          have hv : vi l k j < 108 := by unfold vi; omega
          have e2 : ur M 27 g0 26 (vi l k j) = M 26 (vi l k j) := by rw [ur_n (by decide)]
          have e3 := h26 (vi l k j) hv
          have e4 : (l * 6 + k) * 3 + j = vi l k j := rfl
          rw [eb_43_3]
          cases hb : (M 21 l).testBit j
          · obtain ⟨g, e5, q1⟩ := ih2 x (fun r hr hbr => by
              by_cases hrj : r = j
              · subst hrj; rw [hb] at hbr; cases hbr
              · exact hx r (by omega) hbr) hx2
            refine ⟨g, ?_, q1⟩
            simp (disch := first | assumption | omega | exact st8_a (Nat.le_of_ble_eq_true rfl)) only [hj, e1, hb, eb_43_0, eb_43_2, eb_43_4, eb_43_5, eb_43_6, eb_43_7, eb_43_8, eb_43_9, eb_43_10, eb_43_11, eb_43_12, kl_a, kl_d, kl_f, kl_i, kl_l, kl_n, kl_r, xr_1, xr_10, xr_2, xr_27, xr_28, xr_3, xr_30, xr_31, xr_32, xr_33, xr_34, xr_37, xr_38, xr_4, xr_40, xr_41, xr_42, xr_44, xr_47, xr_48, xr_5, xr_55, xr_89, af_0, af_1, xt_goto, xt_ic_ge, xt_ic_ne, xt_if_eq, xt_nop, xt_re, gF_19_0, gF_19_2, gF_19_7, gF_19_8, gF_1_2, gF_1_5, gA_2, gA_3, gA_4, gA_5, gA_6, gA_7, gA_8, gA_9, gA_10, gA_11, gA_13, gA_14, gA_16, gA_17, gA_20, gA_21, gA_22, gA_23, gA_24, gA_25, gA_26, gA_27, gA_30, gA_31, gA_32, gA_33, gA_34, gA_35, gA_36, gA_38, gA_39, gA_41, gA_42, gA_46, gA_47, gA_49, gA_50, gA_51, gA_53, gA_56, gA_57, gA_59, gA_60, gW_2, gW_3, gW_4, gW_5, gW_6, gW_7, gW_8, gW_9, gW_10, gW_11, gW_13, gW_14, gW_16, gW_17, gW_20, gW_21, gW_22, gW_23, gW_24, gW_25, gW_26, gW_27, gW_30, gW_31, gW_32, gW_33, gW_34, gW_35, gW_36, gW_38, gW_39, gW_41, gW_42, gW_46, gW_47, gW_49, gW_50, gW_51, gW_53, gW_56, gW_57, gW_59, gW_60, xq_28_200_static, iN_add, iN_mul, iN_sub, iN_and, iN_or, iN_clr, iN_shl, iN_shr, tb_r1, b1_z, b1_or, b1_and, b1_or0, b1_or1, b1_0or, b1_t, b1_f, iN_lt, iN_inj, reduceIte, if_true, if_false, Nat.zero_add, Nat.add_zero, Bool.false_eq_true, Bool.true_eq_false, Nat.lt_irrefl, iN_az, not_true_eq_false, not_false_eq_true, Nat.reduceEqDiff, Nat.reduceLT, Nat.reduceAdd, Nat.reduceMul, Nat.reduceSub]
            exact e5
          · obtain ⟨g, e5, q1⟩ := ih2 (min x (M 26 (vi l k j))) (fun r hr hbr => by
              by_cases hrj : r = j
              · subst hrj; exact Nat.min_le_right _ _
              · exact Nat.le_trans (Nat.min_le_left _ _) (hx r (by omega) hbr)) (by omega)
            refine ⟨g, ?_, q1⟩
            simp (disch := first | assumption | omega | exact st8_a (Nat.le_of_ble_eq_true rfl)) only [hj, e1, hb, s_28, e4, e2, eb_43_0, eb_43_2, eb_43_4, eb_43_5, eb_43_6, eb_43_7, eb_43_8, eb_43_9, eb_43_10, eb_43_11, eb_43_12, kl_a, kl_d, kl_f, kl_i, kl_l, kl_n, kl_r, xr_1, xr_10, xr_2, xr_27, xr_28, xr_3, xr_30, xr_31, xr_32, xr_33, xr_34, xr_37, xr_38, xr_4, xr_40, xr_41, xr_42, xr_44, xr_47, xr_48, xr_5, xr_55, xr_89, af_0, af_1, xt_goto, xt_ic_ge, xt_ic_ne, xt_if_eq, xt_nop, xt_re, gF_19_0, gF_19_2, gF_19_7, gF_19_8, gF_1_2, gF_1_5, gA_2, gA_3, gA_4, gA_5, gA_6, gA_7, gA_8, gA_9, gA_10, gA_11, gA_13, gA_14, gA_16, gA_17, gA_20, gA_21, gA_22, gA_23, gA_24, gA_25, gA_26, gA_27, gA_30, gA_31, gA_32, gA_33, gA_34, gA_35, gA_36, gA_38, gA_39, gA_41, gA_42, gA_46, gA_47, gA_49, gA_50, gA_51, gA_53, gA_56, gA_57, gA_59, gA_60, gW_2, gW_3, gW_4, gW_5, gW_6, gW_7, gW_8, gW_9, gW_10, gW_11, gW_13, gW_14, gW_16, gW_17, gW_20, gW_21, gW_22, gW_23, gW_24, gW_25, gW_26, gW_27, gW_30, gW_31, gW_32, gW_33, gW_34, gW_35, gW_36, gW_38, gW_39, gW_41, gW_42, gW_46, gW_47, gW_49, gW_50, gW_51, gW_53, gW_56, gW_57, gW_59, gW_60, xq_28_200_static, iN_add, iN_mul, iN_sub, iN_and, iN_or, iN_clr, iN_shl, iN_shr, tb_r1, b1_z, b1_or, b1_and, b1_or0, b1_or1, b1_0or, b1_t, b1_f, iN_lt, iN_inj, reduceIte, if_true, if_false, Nat.zero_add, Nat.add_zero, Bool.false_eq_true, Bool.true_eq_false, Nat.lt_irrefl, iN_az, not_true_eq_false, not_false_eq_true, Nat.reduceEqDiff, Nat.reduceLT, Nat.reduceAdd, Nat.reduceMul, Nat.reduceSub]
            exact e5
      obtain ⟨g, e1, q1⟩ := inn 0 (Nat.zero_le _) 100000 (fun r hr => absurd hr (Nat.not_lt_zero r)) (.inl rfl)
      refine ⟨g, ?_, q1⟩
      rw [eb_43_1]
      simp (disch := first | assumption | omega | exact st8_a (Nat.le_of_ble_eq_true rfl)) only [hk, eb_43_0, eb_43_2, eb_43_4, eb_43_5, eb_43_6, eb_43_7, eb_43_8, eb_43_9, eb_43_10, eb_43_11, eb_43_12, kl_a, kl_d, kl_f, kl_i, kl_l, kl_n, kl_r, xr_1, xr_10, xr_2, xr_27, xr_28, xr_3, xr_30, xr_31, xr_32, xr_33, xr_34, xr_37, xr_38, xr_4, xr_40, xr_41, xr_42, xr_44, xr_47, xr_48, xr_5, xr_55, xr_89, af_0, af_1, xt_goto, xt_ic_ge, xt_ic_ne, xt_if_eq, xt_nop, xt_re, gF_19_0, gF_19_2, gF_19_7, gF_19_8, gF_1_2, gF_1_5, gA_2, gA_3, gA_4, gA_5, gA_6, gA_7, gA_8, gA_9, gA_10, gA_11, gA_13, gA_14, gA_16, gA_17, gA_20, gA_21, gA_22, gA_23, gA_24, gA_25, gA_26, gA_27, gA_30, gA_31, gA_32, gA_33, gA_34, gA_35, gA_36, gA_38, gA_39, gA_41, gA_42, gA_46, gA_47, gA_49, gA_50, gA_51, gA_53, gA_56, gA_57, gA_59, gA_60, gW_2, gW_3, gW_4, gW_5, gW_6, gW_7, gW_8, gW_9, gW_10, gW_11, gW_13, gW_14, gW_16, gW_17, gW_20, gW_21, gW_22, gW_23, gW_24, gW_25, gW_26, gW_27, gW_30, gW_31, gW_32, gW_33, gW_34, gW_35, gW_36, gW_38, gW_39, gW_41, gW_42, gW_46, gW_47, gW_49, gW_50, gW_51, gW_53, gW_56, gW_57, gW_59, gW_60, xq_28_200_static, iN_add, iN_mul, iN_sub, iN_and, iN_or, iN_clr, iN_shl, iN_shr, tb_r1, b1_z, b1_or, b1_and, b1_or0, b1_or1, b1_0or, b1_t, b1_f, iN_lt, iN_inj, reduceIte, if_true, if_false, Nat.zero_add, Nat.add_zero, Bool.false_eq_true, Bool.true_eq_false, Nat.lt_irrefl, iN_az, not_true_eq_false, not_false_eq_true, Nat.reduceEqDiff, Nat.reduceLT, Nat.reduceAdd, Nat.reduceMul, Nat.reduceSub]
      exact e1
  obtain ⟨g, e, q⟩ := key 0 (Nat.zero_le _) (M 27) (.retAddr 9) (.retAddr 9) ⟨fun _ _ => rfl, fun s hs => absurd hs (Nat.not_lt_zero s)⟩
  refine ⟨g, ?_, q⟩
  rw [ur_id] at e
  simp (disch := first | assumption | omega | exact st8_a (Nat.le_of_ble_eq_true rfl)) only [eb_43_0, eb_43_2, eb_43_4, eb_43_5, eb_43_6, eb_43_7, eb_43_8, eb_43_9, eb_43_10, eb_43_11, eb_43_12, kl_a, kl_d, kl_f, kl_i, kl_l, kl_n, kl_r, xr_1, xr_10, xr_2, xr_27, xr_28, xr_3, xr_30, xr_31, xr_32, xr_33, xr_34, xr_37, xr_38, xr_4, xr_40, xr_41, xr_42, xr_44, xr_47, xr_48, xr_5, xr_55, xr_89, af_0, af_1, xt_goto, xt_ic_ge, xt_ic_ne, xt_if_eq, xt_nop, xt_re, gF_19_0, gF_19_2, gF_19_7, gF_19_8, gF_1_2, gF_1_5, gA_2, gA_3, gA_4, gA_5, gA_6, gA_7, gA_8, gA_9, gA_10, gA_11, gA_13, gA_14, gA_16, gA_17, gA_20, gA_21, gA_22, gA_23, gA_24, gA_25, gA_26, gA_27, gA_30, gA_31, gA_32, gA_33, gA_34, gA_35, gA_36, gA_38, gA_39, gA_41, gA_42, gA_46, gA_47, gA_49, gA_50, gA_51, gA_53, gA_56, gA_57, gA_59, gA_60, gW_2, gW_3, gW_4, gW_5, gW_6, gW_7, gW_8, gW_9, gW_10, gW_11, gW_13, gW_14, gW_16, gW_17, gW_20, gW_21, gW_22, gW_23, gW_24, gW_25, gW_26, gW_27, gW_30, gW_31, gW_32, gW_33, gW_34, gW_35, gW_36, gW_38, gW_39, gW_41, gW_42, gW_46, gW_47, gW_49, gW_50, gW_51, gW_53, gW_56, gW_57, gW_59, gW_60, xq_28_200_static, iN_add, iN_mul, iN_sub, iN_and, iN_or, iN_clr, iN_shl, iN_shr, tb_r1, b1_z, b1_or, b1_and, b1_or0, b1_or1, b1_0or, b1_t, b1_f, iN_lt, iN_inj, reduceIte, if_true, if_false, Nat.zero_add, Nat.add_zero, Bool.false_eq_true, Bool.true_eq_false, Nat.lt_irrefl, iN_az, not_true_eq_false, not_false_eq_true, Nat.reduceEqDiff, Nat.reduceLT, Nat.reduceAdd, Nat.reduceMul, Nat.reduceSub]
  exact e
set_option maxRecDepth 100000 in
theorem s_39 (O : Ok σ) (hl : l < (σ 1 6)) {st ro : Nat} (hro : ro < 8) (h26 : ∀ j, j < 108 → M 26 j ≤ 27) : ∃ g, ev xs (d + 2) 39 0 ([.ref 19, .int (nI l), .int (nI st), .int (nI ro)], [], hc σ M R) = some (.inl none, hc σ (ur (up (up M 20 l st) 21 l ro) 27 g) R) ∧ (∀ j, (∀ s, s < (σ 1 2) → j ≠ l * 6 + s) → g j = M 27 j) ∧ SC σ (ur (up (up M 20 l st) 21 l ro) 27 g) l := by
  obtain ⟨hD1, hD2, hH1, hH2, hS, hC, hT, hR, hL, hQ⟩ := Ok_b O
  obtain ⟨g, e, q1, q2⟩ := s_43 (xs := xs) (d := d) (M := up (up M 20 l st) 21 l ro) (R := R) O hl (by rw [up_s, u1_s]; exact hro) (by intro j hj; rw [up_n (by decide), up_n (by decide)]; exact h26 j hj)
  refine ⟨g, ?_, q1, q2⟩
  simp (disch := first | assumption | omega | exact st8_a (Nat.le_of_ble_eq_true rfl)) only [e, eb_39_0, eb_39_1, xr_1, xr_2, xr_28, xr_3, xr_31, xr_37, xr_4, xr_5, af_0, af_1, xt_re, gF_19_1, gF_19_2, gW_2, gW_3, gW_4, gW_5, gW_6, gW_7, gW_8, gW_9, gW_10, gW_11, gW_13, gW_14, gW_16, gW_17, gW_20, gW_21, gW_22, gW_23, gW_24, gW_25, gW_26, gW_27, gW_30, gW_31, gW_32, gW_33, gW_34, gW_35, gW_36, gW_38, gW_39, gW_41, gW_42, gW_46, gW_47, gW_49, gW_50, gW_51, gW_53, gW_56, gW_57, gW_59, gW_60, xq_43_3_virtualc, iN_add, iN_mul, iN_sub, iN_and, iN_or, iN_clr, iN_shl, iN_shr, tb_r1, b1_z, b1_or, b1_and, b1_or0, b1_or1, b1_0or, b1_t, b1_f, iN_lt, iN_inj, reduceIte, if_true, if_false, Nat.zero_add, Nat.add_zero, Bool.false_eq_true, Bool.true_eq_false, Nat.lt_irrefl, iN_az, not_true_eq_false, not_false_eq_true, Nat.reduceEqDiff, Nat.reduceLT, Nat.reduceAdd, Nat.reduceMul, Nat.reduceSub]
set_option maxRecDepth 100000 in
theorem s0_s : s0 σ set (k + 1) l s ↔ s0 σ set k l s ∧ (set.testBit k = true → (σ 8 k = 0 → σ 9 k = l → (cov σ l s).testBit (σ 10 k) = false) ∧ (σ 8 k = 7 → σ 9 k = σ 6 l → (cov σ l s).testBit (σ 10 k) = false)) := by
  unfold s0
  rw [fa_s, and_assoc]
set_option maxRecDepth 100000 in
theorem r0_s : r0 σ set (k + 1) l s ↔ r0 σ set k l s ∧ (set.testBit k = true → σ 8 k = 6 → σ 9 k = l → s = σ 10 k) := by
  unfold r0
  rw [fa_s, and_assoc]
set_option maxRecDepth 100000 in
theorem f0_s : f0 σ set (k + 1) l s o i ↔ f0 σ set k l s o i ∧ (set.testBit k = true → 2 ≤ σ 8 k → σ 8 k ≤ 5 → (σ 9 k = l → σ 10 k = o → kp2 σ k s i = true) ∧ (σ 9 k = o → σ 10 k = l → kp2 σ k i s = true)) := by
  unfold f0
  rw [fa_s, and_assoc]
set_option maxRecDepth 100000 in
theorem dq_n {t x : Nat} (hd : dq σ set k t x) (h : ¬ (set.testBit k = true ∧ σ 8 k = 1 ∧ σ 9 k = t)) : dq σ set (k + 1) t x := by
  obtain ⟨h1, h2, h3⟩ := hd
  refine ⟨fa_s.mpr ⟨h1, fun a b c => absurd ⟨a, b, c⟩ h⟩, h2, ?_⟩
  rcases h3 with h3 | ⟨q, hq, h3⟩
  · exact .inl h3
  · exact .inr ⟨q, by omega, h3⟩
set_option maxRecDepth 100000 in
theorem AQ_n (hA : AQ σ set k M) (h : set.testBit k = false) : AQ σ set (k + 1) M := by
  obtain ⟨a1, a2, a3, a4, a5⟩ := hA
  have hn : ¬ set.testBit k = true := by rw [h]; decide
  refine ⟨fun l hl i => ?_, fun l hl i => ?_, fun l s o i hl ho hlo hs => ?_, fun t ht => dq_n (a4 t ht) fun q => hn q.1, a5⟩
  · rw [a1 l hl i, s0_s]
    exact ⟨fun ⟨p, q⟩ => ⟨p, q, fun z => absurd z hn⟩, fun ⟨p, q, _⟩ => ⟨p, q⟩⟩
  · rw [a2 l hl i, r0_s]
    exact ⟨fun ⟨p, q⟩ => ⟨p, q, fun z => absurd z hn⟩, fun ⟨p, q, _⟩ => ⟨p, q⟩⟩
  · rw [a3 l s o i hl ho hlo hs, f0_s]
    exact ⟨fun ⟨p, q⟩ => ⟨p, q, fun z => absurd z hn⟩, fun ⟨p, q, _⟩ => ⟨p, q⟩⟩
set_option maxRecDepth 100000 in
theorem and1s {a b : Nat} : a &&& 1 <<< b = 0 ↔ a.testBit b = false := by
  rw [z_tb]
  constructor
  · intro h
    have := h b
    rw [Nat.testBit_and, tb_1s] at this
    simpa using this
  · intro h i
    rw [Nat.testBit_and, tb_1s]
    by_cases e : i = b
    · subst e; simp [h]
    · simp [e]
set_option maxRecDepth 100000 in
theorem s_32 (O : Ok σ) (hk : k < (σ 1 7)) (hset : set.testBit k = true) (hA : AQ σ set k M) : ∃ M', ev xs (d + 3) 32 0 ([.ref 19, .int (nI k), .retAddr 9, .retAddr 9], [], hc σ M R) = some (.inl none, hc σ M' R) ∧ Fr [20, 21, 22, 23] M M' ∧ AQ σ set (k + 1) M' := by
  obtain ⟨hD1, hD2, hH1, hH2, hS, hC, hT, hR, hL, hQ⟩ := Ok_b O
  obtain ⟨a1, a2, a3, a4, a5⟩ := hA
  rcases rk_c O hk with h | h | h | h | h
  · obtain ⟨ha, hb⟩ := rk_0 O hk h
    obtain ⟨x, e, q⟩ := s_37 (xs := xs) (d := d + 2) (M := M) (R := R) (u := 1 <<< σ 10 k) O ha (a5 _ ha)
    refine ⟨up M 20 (σ 9 k) x, ?_, Fr_p (Fr_r _ _) rfl, ?_⟩
    · simp (disch := first | assumption | omega | exact st8_a (Nat.le_of_ble_eq_true rfl)) only [h, e, eb_32_0, eb_32_1, eb_32_2, eb_32_3, eb_32_4, eb_32_5, eb_32_6, eb_32_7, eb_32_8, kl_a, kl_d, kl_f, kl_i, kl_l, kl_n, kl_r, xr_1, xr_2, xr_27, xr_28, xr_3, xr_30, xr_31, xr_32, xr_37, xr_4, xr_44, xr_47, xr_5, xr_58, xr_74, af_0, af_1, xt_goto, xt_re, xt_t0, xt_t2, sw_32_0_0, sw_32_0_1, sw_32_0_2, sw_32_0_3, sw_32_0_4, sw_32_0_5, sw_32_0_6, sw_32_0_7, sw_32_0_8, sw_32_0_9, gF_19_0, gF_19_2, gF_19_3, gF_1_15, gF_1_16, gF_1_17, gA_2, gA_3, gA_4, gA_5, gA_6, gA_7, gA_8, gA_9, gA_10, gA_11, gA_13, gA_14, gA_16, gA_17, gA_20, gA_21, gA_22, gA_23, gA_24, gA_25, gA_26, gA_27, gA_30, gA_31, gA_32, gA_33, gA_34, gA_35, gA_36, gA_38, gA_39, gA_41, gA_42, gA_46, gA_47, gA_49, gA_50, gA_51, gA_53, gA_56, gA_57, gA_59, gA_60, gW_2, gW_3, gW_4, gW_5, gW_6, gW_7, gW_8, gW_9, gW_10, gW_11, gW_13, gW_14, gW_16, gW_17, gW_20, gW_21, gW_22, gW_23, gW_24, gW_25, gW_26, gW_27, gW_30, gW_31, gW_32, gW_33, gW_34, gW_35, gW_36, gW_38, gW_39, gW_41, gW_42, gW_46, gW_47, gW_49, gW_50, gW_51, gW_53, gW_56, gW_57, gW_59, gW_60, xq_33_3_virtualc, xq_37_3_virtualc, xq_38_3_virtualc, iN_add, iN_mul, iN_sub, iN_and, iN_or, iN_clr, iN_shl, iN_shr, tb_r1, b1_z, b1_or, b1_and, b1_or0, b1_or1, b1_0or, b1_t, b1_f, iN_lt, iN_inj, reduceIte, if_true, if_false, Nat.zero_add, Nat.add_zero, Bool.false_eq_true, Bool.true_eq_false, Nat.lt_irrefl, iN_az, not_true_eq_false, not_false_eq_true, Nat.reduceEqDiff, Nat.reduceLT, Nat.reduceAdd, Nat.reduceMul, Nat.reduceSub]
    · refine ⟨fun l hl i => ?_, fun l hl i => ?_, fun l s o i hl ho hlo hs => ?_, fun t ht => by rw [up_n (by decide)]; exact dq_n (a4 t ht) fun z => by omega, fun l hl s hs => by rw [up_n (by decide)]; exact a5 l hl s hs⟩
      · rw [up_s, s0_s]
        by_cases e1 : l = σ 9 k
        · subst e1
          rw [u1_s, q i]
          have := a1 _ ha i
          simp only [Bool.and_eq_true, Bool.not_eq_true', Bool.and_eq_false_iff, decide_eq_false_iff_not, ne_eq, Decidable.not_not, and1s, this]
          constructor
          · rintro ⟨⟨p1, p2⟩, p3 | p3⟩
            · exact absurd p1 p3
            · exact ⟨p1, p2, fun _ => ⟨fun _ _ => p3, fun z => by omega⟩⟩
          · rintro ⟨p1, p2, p3⟩
            exact ⟨⟨p1, p2⟩, .inr ((p3 hset).1 h trivial)⟩
        · rw [u1_n e1, a1 l hl i]
          exact ⟨fun ⟨p, q⟩ => ⟨p, q, fun _ => ⟨fun _ z => absurd z.symm e1, fun z => by omega⟩⟩, fun ⟨p, q, _⟩ => ⟨p, q⟩⟩
      · rw [up_n (by decide), a2 l hl i, r0_s]
        exact ⟨fun ⟨p, q⟩ => ⟨p, q, fun _ z => by omega⟩, fun ⟨p, q, _⟩ => ⟨p, q⟩⟩
      · rw [up_n (by decide), a3 l s o i hl ho hlo hs, f0_s]
        exact ⟨fun ⟨p, q⟩ => ⟨p, q, fun _ z => by omega⟩, fun ⟨p, q, _⟩ => ⟨p, q⟩⟩
  · obtain ⟨ha, hb⟩ := rk_1 O hk h
    have hd := a4 _ ha
    have hd3 := hd.2.1
    refine ⟨up M 22 (σ 9 k) (min (M 22 (σ 9 k)) (σ 10 k)), ?_, Fr_p (Fr_r _ _) rfl, ?_⟩
    · simp (disch := first | assumption | omega | exact st8_a (Nat.le_of_ble_eq_true rfl)) only [h, eb_32_0, eb_32_1, eb_32_2, eb_32_3, eb_32_4, eb_32_5, eb_32_6, eb_32_7, eb_32_8, kl_a, kl_d, kl_f, kl_i, kl_l, kl_n, kl_r, xr_1, xr_2, xr_27, xr_28, xr_3, xr_30, xr_31, xr_32, xr_37, xr_4, xr_44, xr_47, xr_5, xr_58, xr_74, af_0, af_1, xt_goto, xt_re, xt_t0, xt_t2, sw_32_0_0, sw_32_0_1, sw_32_0_2, sw_32_0_3, sw_32_0_4, sw_32_0_5, sw_32_0_6, sw_32_0_7, sw_32_0_8, sw_32_0_9, gF_19_0, gF_19_2, gF_19_3, gF_1_15, gF_1_16, gF_1_17, gA_2, gA_3, gA_4, gA_5, gA_6, gA_7, gA_8, gA_9, gA_10, gA_11, gA_13, gA_14, gA_16, gA_17, gA_20, gA_21, gA_22, gA_23, gA_24, gA_25, gA_26, gA_27, gA_30, gA_31, gA_32, gA_33, gA_34, gA_35, gA_36, gA_38, gA_39, gA_41, gA_42, gA_46, gA_47, gA_49, gA_50, gA_51, gA_53, gA_56, gA_57, gA_59, gA_60, gW_2, gW_3, gW_4, gW_5, gW_6, gW_7, gW_8, gW_9, gW_10, gW_11, gW_13, gW_14, gW_16, gW_17, gW_20, gW_21, gW_22, gW_23, gW_24, gW_25, gW_26, gW_27, gW_30, gW_31, gW_32, gW_33, gW_34, gW_35, gW_36, gW_38, gW_39, gW_41, gW_42, gW_46, gW_47, gW_49, gW_50, gW_51, gW_53, gW_56, gW_57, gW_59, gW_60, xq_33_3_virtualc, xq_37_3_virtualc, xq_38_3_virtualc, iN_add, iN_mul, iN_sub, iN_and, iN_or, iN_clr, iN_shl, iN_shr, tb_r1, b1_z, b1_or, b1_and, b1_or0, b1_or1, b1_0or, b1_t, b1_f, iN_lt, iN_inj, reduceIte, if_true, if_false, Nat.zero_add, Nat.add_zero, Bool.false_eq_true, Bool.true_eq_false, Nat.lt_irrefl, iN_az, not_true_eq_false, not_false_eq_true, Nat.reduceEqDiff, Nat.reduceLT, Nat.reduceAdd, Nat.reduceMul, Nat.reduceSub]
    · refine ⟨fun l hl i => ?_, fun l hl i => ?_, fun l s o i hl ho hlo hs => ?_, fun t ht => ?_, fun l hl s hs => by rw [up_n (by decide)]; exact a5 l hl s hs⟩
      · rw [up_n (by decide), a1 l hl i, s0_s]
        exact ⟨fun ⟨p, q⟩ => ⟨p, q, fun _ => ⟨fun z => by omega, fun z => by omega⟩⟩, fun ⟨p, q, _⟩ => ⟨p, q⟩⟩
      · rw [up_n (by decide), a2 l hl i, r0_s]
        exact ⟨fun ⟨p, q⟩ => ⟨p, q, fun _ z => by omega⟩, fun ⟨p, q, _⟩ => ⟨p, q⟩⟩
      · rw [up_n (by decide), a3 l s o i hl ho hlo hs, f0_s]
        exact ⟨fun ⟨p, q⟩ => ⟨p, q, fun _ z => by omega⟩, fun ⟨p, q, _⟩ => ⟨p, q⟩⟩
      · rw [up_s]
        by_cases e1 : t = σ 9 k
        · subst e1
          rw [u1_s]
          obtain ⟨d1, d2, d3⟩ := hd
          by_cases e2 : M 22 (σ 9 k) ≤ σ 10 k
          · rw [Nat.min_eq_left e2]
            refine ⟨fa_s.mpr ⟨d1, fun _ _ _ => e2⟩, d2, ?_⟩
            rcases d3 with d3 | ⟨q, hq, d3⟩
            · exact .inl d3
            · exact .inr ⟨q, by omega, d3⟩
          · rw [Nat.min_eq_right (by omega)]
            refine ⟨fa_s.mpr ⟨fun q hq x1 x2 x3 => ?_, fun _ _ _ => Nat.le_refl _⟩, by omega, .inr ⟨k, by omega, hset, h, rfl, rfl⟩⟩
            have := d1 q hq x1 x2 x3
            omega
        · rw [u1_n e1]
          exact dq_n (a4 t ht) fun z => e1 z.2.2.symm
  · obtain ⟨ha, hb⟩ := rk_6 O hk h
    refine ⟨up M 21 (σ 9 k) (M 21 (σ 9 k) &&& 1 <<< σ 10 k), ?_, Fr_p (Fr_r _ _) rfl, ?_⟩
    · simp (disch := first | assumption | omega | exact st8_a (Nat.le_of_ble_eq_true rfl)) only [h, eb_32_0, eb_32_1, eb_32_2, eb_32_3, eb_32_4, eb_32_5, eb_32_6, eb_32_7, eb_32_8, kl_a, kl_d, kl_f, kl_i, kl_l, kl_n, kl_r, xr_1, xr_2, xr_27, xr_28, xr_3, xr_30, xr_31, xr_32, xr_37, xr_4, xr_44, xr_47, xr_5, xr_58, xr_74, af_0, af_1, xt_goto, xt_re, xt_t0, xt_t2, sw_32_0_0, sw_32_0_1, sw_32_0_2, sw_32_0_3, sw_32_0_4, sw_32_0_5, sw_32_0_6, sw_32_0_7, sw_32_0_8, sw_32_0_9, gF_19_0, gF_19_2, gF_19_3, gF_1_15, gF_1_16, gF_1_17, gA_2, gA_3, gA_4, gA_5, gA_6, gA_7, gA_8, gA_9, gA_10, gA_11, gA_13, gA_14, gA_16, gA_17, gA_20, gA_21, gA_22, gA_23, gA_24, gA_25, gA_26, gA_27, gA_30, gA_31, gA_32, gA_33, gA_34, gA_35, gA_36, gA_38, gA_39, gA_41, gA_42, gA_46, gA_47, gA_49, gA_50, gA_51, gA_53, gA_56, gA_57, gA_59, gA_60, gW_2, gW_3, gW_4, gW_5, gW_6, gW_7, gW_8, gW_9, gW_10, gW_11, gW_13, gW_14, gW_16, gW_17, gW_20, gW_21, gW_22, gW_23, gW_24, gW_25, gW_26, gW_27, gW_30, gW_31, gW_32, gW_33, gW_34, gW_35, gW_36, gW_38, gW_39, gW_41, gW_42, gW_46, gW_47, gW_49, gW_50, gW_51, gW_53, gW_56, gW_57, gW_59, gW_60, xq_33_3_virtualc, xq_37_3_virtualc, xq_38_3_virtualc, iN_add, iN_mul, iN_sub, iN_and, iN_or, iN_clr, iN_shl, iN_shr, tb_r1, b1_z, b1_or, b1_and, b1_or0, b1_or1, b1_0or, b1_t, b1_f, iN_lt, iN_inj, reduceIte, if_true, if_false, Nat.zero_add, Nat.add_zero, Bool.false_eq_true, Bool.true_eq_false, Nat.lt_irrefl, iN_az, not_true_eq_false, not_false_eq_true, Nat.reduceEqDiff, Nat.reduceLT, Nat.reduceAdd, Nat.reduceMul, Nat.reduceSub]
    · refine ⟨fun l hl i => ?_, fun l hl i => ?_, fun l s o i hl ho hlo hs => ?_, fun t ht => by rw [up_n (by decide)]; exact dq_n (a4 t ht) fun z => by omega, fun l hl s hs => by rw [up_n (by decide)]; exact a5 l hl s hs⟩
      · rw [up_n (by decide), a1 l hl i, s0_s]
        exact ⟨fun ⟨p, q⟩ => ⟨p, q, fun _ => ⟨fun z => by omega, fun z => by omega⟩⟩, fun ⟨p, q, _⟩ => ⟨p, q⟩⟩
      · rw [up_s, r0_s]
        by_cases e1 : l = σ 9 k
        · subst e1
          rw [u1_s, Nat.testBit_and, tb_1s, Bool.and_eq_true, decide_eq_true_eq, a2 _ ha i]
          constructor
          · rintro ⟨⟨p1, p2⟩, p3⟩
            exact ⟨p1, p2, fun _ _ _ => p3⟩
          · rintro ⟨p1, p2, p3⟩
            exact ⟨⟨p1, p2⟩, p3 hset h rfl⟩
        · rw [u1_n e1, a2 l hl i]
          exact ⟨fun ⟨p, q⟩ => ⟨p, q, fun _ _ z => absurd z.symm e1⟩, fun ⟨p, q, _⟩ => ⟨p, q⟩⟩
      · rw [up_n (by decide), a3 l s o i hl ho hlo hs, f0_s]
        exact ⟨fun ⟨p, q⟩ => ⟨p, q, fun _ z => by omega⟩, fun ⟨p, q, _⟩ => ⟨p, q⟩⟩
  · obtain ⟨ha, hb⟩ := rk_7 O hk h
    obtain ⟨g, e, q⟩ := s_38 (xs := xs) (d := d + 1) (M := M) (R := R) (u := σ 9 k) (n := 1 <<< σ 10 k) O (by omega) a5
    refine ⟨ur M 20 g, ?_, Fr_u (Fr_r _ _) rfl, ?_⟩
    · simp (disch := first | assumption | omega | exact st8_a (Nat.le_of_ble_eq_true rfl)) only [h, e, eb_32_0, eb_32_1, eb_32_2, eb_32_3, eb_32_4, eb_32_5, eb_32_6, eb_32_7, eb_32_8, kl_a, kl_d, kl_f, kl_i, kl_l, kl_n, kl_r, xr_1, xr_2, xr_27, xr_28, xr_3, xr_30, xr_31, xr_32, xr_37, xr_4, xr_44, xr_47, xr_5, xr_58, xr_74, af_0, af_1, xt_goto, xt_re, xt_t0, xt_t2, sw_32_0_0, sw_32_0_1, sw_32_0_2, sw_32_0_3, sw_32_0_4, sw_32_0_5, sw_32_0_6, sw_32_0_7, sw_32_0_8, sw_32_0_9, gF_19_0, gF_19_2, gF_19_3, gF_1_15, gF_1_16, gF_1_17, gA_2, gA_3, gA_4, gA_5, gA_6, gA_7, gA_8, gA_9, gA_10, gA_11, gA_13, gA_14, gA_16, gA_17, gA_20, gA_21, gA_22, gA_23, gA_24, gA_25, gA_26, gA_27, gA_30, gA_31, gA_32, gA_33, gA_34, gA_35, gA_36, gA_38, gA_39, gA_41, gA_42, gA_46, gA_47, gA_49, gA_50, gA_51, gA_53, gA_56, gA_57, gA_59, gA_60, gW_2, gW_3, gW_4, gW_5, gW_6, gW_7, gW_8, gW_9, gW_10, gW_11, gW_13, gW_14, gW_16, gW_17, gW_20, gW_21, gW_22, gW_23, gW_24, gW_25, gW_26, gW_27, gW_30, gW_31, gW_32, gW_33, gW_34, gW_35, gW_36, gW_38, gW_39, gW_41, gW_42, gW_46, gW_47, gW_49, gW_50, gW_51, gW_53, gW_56, gW_57, gW_59, gW_60, xq_33_3_virtualc, xq_37_3_virtualc, xq_38_3_virtualc, iN_add, iN_mul, iN_sub, iN_and, iN_or, iN_clr, iN_shl, iN_shr, tb_r1, b1_z, b1_or, b1_and, b1_or0, b1_or1, b1_0or, b1_t, b1_f, iN_lt, iN_inj, reduceIte, if_true, if_false, Nat.zero_add, Nat.add_zero, Bool.false_eq_true, Bool.true_eq_false, Nat.lt_irrefl, iN_az, not_true_eq_false, not_false_eq_true, Nat.reduceEqDiff, Nat.reduceLT, Nat.reduceAdd, Nat.reduceMul, Nat.reduceSub]
    · refine ⟨fun l hl i => ?_, fun l hl i => ?_, fun l s o i hl ho hlo hs => ?_, fun t ht => by rw [ur_n (by decide)]; exact dq_n (a4 t ht) fun z => by omega, fun l hl s hs => by rw [ur_n (by decide)]; exact a5 l hl s hs⟩
      · rw [ur_s, s0_s, q l hl i]
        have := a1 l hl i
        simp only [Bool.and_eq_true, Bool.not_eq_true', Bool.and_eq_false_iff, decide_eq_false_iff_not, ne_eq, Decidable.not_not, and1s, this]
        constructor
        · rintro ⟨⟨p1, p2⟩, p3 | p3 | p3⟩
          · exact ⟨p1, p2, fun _ => ⟨fun z => by omega, fun _ z => absurd z.symm p3⟩⟩
          · exact absurd p1 p3
          · exact ⟨p1, p2, fun _ => ⟨fun z => by omega, fun _ _ => p3⟩⟩
        · rintro ⟨p1, p2, p3⟩
          refine ⟨⟨p1, p2⟩, ?_⟩
          by_cases z : σ 6 l = σ 9 k
          · exact .inr (.inr ((p3 hset).2 h z.symm))
          · exact .inl z
      · rw [ur_n (by decide), a2 l hl i, r0_s]
        exact ⟨fun ⟨p, q⟩ => ⟨p, q, fun _ z => by omega⟩, fun ⟨p, q, _⟩ => ⟨p, q⟩⟩
      · rw [ur_n (by decide), a3 l s o i hl ho hlo hs, f0_s]
        exact ⟨fun ⟨p, q⟩ => ⟨p, q, fun _ z => by omega⟩, fun ⟨p, q, _⟩ => ⟨p, q⟩⟩
  · obtain ⟨ha, hb, hne⟩ := rk_2 O hk h
    have h2 : 2 ≤ σ 8 k := by omega
    have h5 : σ 8 k ≤ 5 := by omega
    obtain ⟨f, e, q⟩ := s_33 (xs := xs) (d := d) (M := M) (R := R) O hk h2 h5
    refine ⟨ur M 23 f, ?_, Fr_u (Fr_r _ _) rfl, ?_⟩
    · rcases h with h | h | h | h <;> simp (disch := first | assumption | omega | exact st8_a (Nat.le_of_ble_eq_true rfl)) only [h, e, eb_32_0, eb_32_1, eb_32_2, eb_32_3, eb_32_4, eb_32_5, eb_32_6, eb_32_7, eb_32_8, kl_a, kl_d, kl_f, kl_i, kl_l, kl_n, kl_r, xr_1, xr_2, xr_27, xr_28, xr_3, xr_30, xr_31, xr_32, xr_37, xr_4, xr_44, xr_47, xr_5, xr_58, xr_74, af_0, af_1, xt_goto, xt_re, xt_t0, xt_t2, sw_32_0_0, sw_32_0_1, sw_32_0_2, sw_32_0_3, sw_32_0_4, sw_32_0_5, sw_32_0_6, sw_32_0_7, sw_32_0_8, sw_32_0_9, gF_19_0, gF_19_2, gF_19_3, gF_1_15, gF_1_16, gF_1_17, gA_2, gA_3, gA_4, gA_5, gA_6, gA_7, gA_8, gA_9, gA_10, gA_11, gA_13, gA_14, gA_16, gA_17, gA_20, gA_21, gA_22, gA_23, gA_24, gA_25, gA_26, gA_27, gA_30, gA_31, gA_32, gA_33, gA_34, gA_35, gA_36, gA_38, gA_39, gA_41, gA_42, gA_46, gA_47, gA_49, gA_50, gA_51, gA_53, gA_56, gA_57, gA_59, gA_60, gW_2, gW_3, gW_4, gW_5, gW_6, gW_7, gW_8, gW_9, gW_10, gW_11, gW_13, gW_14, gW_16, gW_17, gW_20, gW_21, gW_22, gW_23, gW_24, gW_25, gW_26, gW_27, gW_30, gW_31, gW_32, gW_33, gW_34, gW_35, gW_36, gW_38, gW_39, gW_41, gW_42, gW_46, gW_47, gW_49, gW_50, gW_51, gW_53, gW_56, gW_57, gW_59, gW_60, xq_33_3_virtualc, xq_37_3_virtualc, xq_38_3_virtualc, iN_add, iN_mul, iN_sub, iN_and, iN_or, iN_clr, iN_shl, iN_shr, tb_r1, b1_z, b1_or, b1_and, b1_or0, b1_or1, b1_0or, b1_t, b1_f, iN_lt, iN_inj, reduceIte, if_true, if_false, Nat.zero_add, Nat.add_zero, Bool.false_eq_true, Bool.true_eq_false, Nat.lt_irrefl, iN_az, not_true_eq_false, not_false_eq_true, Nat.reduceEqDiff, Nat.reduceLT, Nat.reduceAdd, Nat.reduceMul, Nat.reduceSub]
    · refine ⟨fun l hl i => ?_, fun l hl i => ?_, fun l s o i hl ho hlo hs => ?_, fun t ht => by rw [ur_n (by decide)]; exact dq_n (a4 t ht) fun z => by omega, fun l hl s hs => by rw [ur_n (by decide)]; exact a5 l hl s hs⟩
      · rw [ur_n (by decide), a1 l hl i, s0_s]
        exact ⟨fun ⟨p, q⟩ => ⟨p, q, fun _ => ⟨fun z => by omega, fun z => by omega⟩⟩, fun ⟨p, q, _⟩ => ⟨p, q⟩⟩
      · rw [ur_n (by decide), a2 l hl i, r0_s]
        exact ⟨fun ⟨p, q⟩ => ⟨p, q, fun _ z => by omega⟩, fun ⟨p, q, _⟩ => ⟨p, q⟩⟩
      · rw [ur_s, q l s o i (by omega) (by omega) (by omega), a3 l s o i hl ho hlo hs, f0_s]
        constructor
        · rintro ⟨⟨p1, p2⟩, p3, p4⟩
          refine ⟨p1, p2, fun _ _ _ => ⟨fun z1 z2 => ?_, fun z1 z2 => ?_⟩⟩
          · cases hh : kp2 σ k s i
            · exact absurd ⟨z1.symm, z2.symm, hs, p1, hh⟩ p3
            · rfl
          · cases hh : kp2 σ k i s
            · exact absurd ⟨z2.symm, z1.symm, p1, hs, hh⟩ p4
            · rfl
        · rintro ⟨p1, p2, p3⟩
          obtain ⟨p4, p5⟩ := p3 hset h2 h5
          refine ⟨⟨p1, p2⟩, ?_, ?_⟩
          · rintro ⟨z1, z2, z3, z4, z5⟩
            rw [p4 z1.symm z2.symm] at z5
            cases z5
          · rintro ⟨z1, z2, z3, z4, z5⟩
            rw [p5 z2.symm z1.symm] at z5
            cases z5
end Qc
