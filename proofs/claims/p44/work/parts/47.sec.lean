/-! THE CLASS Search: rooms, record -/
/-- n numbers from the k-th on -/
def rs (n k : Nat) (f : Nat → Nat) : Nat := match n with
  | 0 => 0
  | n + 1 => f k + rs n (k + 1) f
set_option maxRecDepth 100000 in
theorem sm_h {n : Nat} {f : Nat → Nat} : sm (n + 1) f = f 0 + sm n fun i => f (i + 1) := by
  induction n with
  | zero => simp [sm]
  | succ n ih => rw [sm, ih, sm]; omega
set_option maxRecDepth 100000 in
theorem rs_sm {n : Nat} : ∀ {k : Nat} {f : Nat → Nat}, rs n k f = sm n fun i => f (k + i) := by
  induction n with
  | zero => intro k f; rfl
  | succ n ih =>
    intro k f
    rw [rs, ih, sm_h]
    congr 1
    exact sm_cg fun i _ => by rw [show k + 1 + i = k + (i + 1) by omega]
set_option maxRecDepth 100000 in
theorem rs_cg {n : Nat} : ∀ {k : Nat} {f g : Nat → Nat}, (∀ j, k ≤ j → j < k + n → f j = g j) → rs n k f = rs n k g := by
  intro k f g h
  rw [rs_sm, rs_sm]
  exact sm_cg fun i hi => h _ (by omega) (by omega)
/-- what a room costs above the slot -/
def mo (M : Nat → Nat → Nat) (l r : Nat) : Nat := M 26 (vi l (M 34 l) r) - M 27 (l * 6 + M 34 l)
/-- rooms for the lessons from the k-th on -/
def SO (σ M : Nat → Nat → Nat) (k dp sp : Nat) (ρ : Nat → Nat) : Prop :=
  (∀ j, j < k → ρ (M 33 j) = M 35 (M 33 j)) ∧ (∀ j, k ≤ j → j < dp → (M 21 (M 33 j)).testBit (ρ (M 33 j)) = true) ∧
  (∀ i j, i < j → k ≤ j → j < dp → cov σ (M 33 j) (M 34 (M 33 j)) &&& cov σ (M 33 i) (M 34 (M 33 i)) ≠ 0 → ρ (M 33 j) ≠ ρ (M 33 i)) ∧
  rs (dp - k) k (fun j => mo M (M 33 j) (ρ (M 33 j))) ≤ sp
section Se
variable {xs : List Int32} {σ : Nat → Nat → Nat} {R : ab_H} {dp : Nat}
set_option maxRecDepth 100000 in
theorem s_84 (O : Ok σ) (hdp : dp ≤ 6) : ∀ n k sp D (M : Nat → Nat → Nat), dp - k = n → n + 1 ≤ D → k ≤ 6 → sp ≤ 1000000 → (∀ j, j < dp → M 33 j < (σ 1 6)) → (∀ i j, i < j → j < dp → M 33 i ≠ M 33 j) → (∀ j, j < dp → M 34 (M 33 j) < (σ 1 2)) → (∀ j, j < k → j < dp → M 35 (M 33 j) < (σ 1 5)) → QW σ M → ∃ g, ∃ b : Bool, ev xs D 84 0 ([.ref 28, .int (nI k), .int (nI dp), .int (nI sp), .retAddr 9, .retAddr 9, .retAddr 9, .retAddr 9, .retAddr 9], [], hc σ M R) = some (.inl (some (.int (nI (b1 b)))), hc σ (ur M 35 g) R) ∧ (∀ j, j < k → j < dp → g (M 33 j) = M 35 (M 33 j)) ∧ (b = true → SO σ M k dp sp g) ∧ (b = false → ∀ ρ, ¬ SO σ M k dp sp ρ) := by
  obtain ⟨hD1, hD2, hH1, hH2, hS, hC, hT, hR, hL, hQ⟩ := Ok_b O
  intro n
  induction n with
  | zero =>
    intro k sp D M hn hD hk6 hsp h33 hdis h34 h35 hW
    obtain ⟨d, rfl⟩ : ∃ d, D = d + 1 := ⟨D - 1, by omega⟩
    refine ⟨M 35, true, ?_, fun _ _ _ => rfl, fun _ => ⟨fun _ _ => rfl, fun j h1 h2 => by omega, fun i j h1 h2 h3 => by omega, ?_⟩, fun h => (by cases h)⟩
    · rw [ur_id]
      have h1 : ¬ k < dp := by omega
      simp (disch := first | assumption | omega | exact st8_a (Nat.le_of_ble_eq_true rfl)) only [h1, eb_84_0, eb_84_1, eb_84_2, eb_84_3, eb_84_4, eb_84_6, eb_84_7, eb_84_8, eb_84_9, eb_84_10, eb_84_11, eb_84_12, eb_84_13, kl_a, kl_d, kl_f, kl_i, kl_l, kl_n, kl_r, xr_1, xr_10, xr_2, xr_27, xr_28, xr_3, xr_31, xr_33, xr_34, xr_35, xr_36, xr_37, xr_38, xr_4, xr_41, xr_44, xr_48, xr_5, xr_55, xr_56, xr_57, xr_61, xr_62, xr_64, xr_75, xr_77, xr_91, xr_96, xr_98, af_0, af_1, xt_goto, xt_ib, xt_ic, xt_ic_ge, xt_ic_gt, xt_ic_lt, xt_if_eq, xt_ir, xt_nop, gF_19_2, gF_19_7, gF_19_8, gF_1_5, gF_28_0, gF_28_1, gF_28_4, gF_28_5, gF_28_6, gA_2, gA_3, gA_4, gA_5, gA_6, gA_7, gA_8, gA_9, gA_10, gA_11, gA_13, gA_14, gA_16, gA_17, gA_20, gA_21, gA_22, gA_23, gA_24, gA_25, gA_26, gA_27, gA_30, gA_31, gA_32, gA_33, gA_34, gA_35, gA_36, gA_38, gA_39, gA_41, gA_42, gA_46, gA_47, gA_49, gA_50, gA_51, gA_53, gA_56, gA_57, gA_59, gA_60, gW_2, gW_3, gW_4, gW_5, gW_6, gW_7, gW_8, gW_9, gW_10, gW_11, gW_13, gW_14, gW_16, gW_17, gW_20, gW_21, gW_22, gW_23, gW_24, gW_25, gW_26, gW_27, gW_30, gW_31, gW_32, gW_33, gW_34, gW_35, gW_36, gW_38, gW_39, gW_41, gW_42, gW_46, gW_47, gW_49, gW_50, gW_51, gW_53, gW_56, gW_57, gW_59, gW_60, xq_28_200_static, xq_84_7_virtualc, xq_85_7_virtualc, iN_add, iN_mul, iN_sub, iN_and, iN_or, iN_clr, iN_shl, iN_shr, tb_r1, b1_z, b1_or, b1_and, b1_or0, b1_or1, b1_0or, b1_t, b1_f, iN_lt, iN_inj, reduceIte, if_true, if_false, Nat.zero_add, Nat.add_zero, Bool.false_eq_true, Bool.true_eq_false, Nat.lt_irrefl, iN_az, not_true_eq_false, not_false_eq_true, Nat.reduceEqDiff, Nat.reduceLT, Nat.reduceAdd, Nat.reduceMul, Nat.reduceSub]
    · rw [hn]
      exact Nat.zero_le _
  | succ n ih =>
    intro k sp D M hn hD hk6 hsp h33 hdis h34 h35 hW
    obtain ⟨d, rfl⟩ : ∃ d, D = d + 1 := ⟨D - 1, by omega⟩
    have hk : k < dp := by omega
    have hk6 : k < 6 := by omega
    have hl := h33 k hk
    have hs := h34 k hk
    have h21 := QW_21 O hW hl
    have h26 := hW.2.2.2.2.2.2.2.1
    have hsc := hW.2.2.2.2.2.2.2.2.1 _ hl _ hs
    obtain ⟨tk, etk, qtk⟩ := s_85 (xs := xs) (d := d) (M := M) (R := R) (k := k) O (by omega) (fun j hj => h33 j (by omega)) (fun j hj => h34 j (by omega)) (fun j hj => h35 j hj (by omega)) hk6 hW.2.2.2.2.1
    have hop : clr (M 21 (M 33 k)) tk < 2 ^ 3 := clr_lt h21
    have key : ∀ j, j ≤ (σ 1 5) → ∀ g0 y, (∀ i, i < k → g0 (M 33 i) = M 35 (M 33 i)) → (∀ ρ, SO σ M k dp sp ρ → ¬ ρ (M 33 k) < j) → ∃ g, ∃ b : Bool, ev xs (d + 1) 84 5 ([.ref 28, .int (nI k), .int (nI dp), .int (nI sp), .int (nI (M 33 k)), .int (nI (M 34 (M 33 k))), .int (nI (clr (M 21 (M 33 k)) tk)), .int (nI j), y], [], hc σ (ur M 35 g0) R) = some (.inl (some (.int (nI (b1 b)))), hc σ (ur M 35 g) R) ∧ (∀ j, j < k → j < dp → g (M 33 j) = M 35 (M 33 j)) ∧ (b = true → SO σ M k dp sp g) ∧ (b = false → ∀ ρ, ¬ SO σ M k dp sp ρ) := by
      refine lp (σ 1 5) ?_ ?_
      · intro g0 y hg hn
        refine ⟨g0, false, ?_, fun j hj _ => hg j hj, fun h => (by cases h), fun _ ρ hρ => hn ρ hρ (hW.2.1 _ hl _ (hρ.2.1 k (Nat.le_refl _) hk))⟩
        rw [eb_84_5]
        simp (disch := first | assumption | omega | exact st8_a (Nat.le_of_ble_eq_true rfl)) only [eb_84_0, eb_84_1, eb_84_2, eb_84_3, eb_84_4, eb_84_6, eb_84_7, eb_84_8, eb_84_9, eb_84_10, eb_84_11, eb_84_12, eb_84_13, kl_a, kl_d, kl_f, kl_i, kl_l, kl_n, kl_r, xr_1, xr_10, xr_2, xr_27, xr_28, xr_3, xr_31, xr_33, xr_34, xr_35, xr_36, xr_37, xr_38, xr_4, xr_41, xr_44, xr_48, xr_5, xr_55, xr_56, xr_57, xr_61, xr_62, xr_64, xr_75, xr_77, xr_91, xr_96, xr_98, af_0, af_1, xt_goto, xt_ib, xt_ic, xt_ic_ge, xt_ic_gt, xt_ic_lt, xt_if_eq, xt_ir, xt_nop, gF_19_2, gF_19_7, gF_19_8, gF_1_5, gF_28_0, gF_28_1, gF_28_4, gF_28_5, gF_28_6, gA_2, gA_3, gA_4, gA_5, gA_6, gA_7, gA_8, gA_9, gA_10, gA_11, gA_13, gA_14, gA_16, gA_17, gA_20, gA_21, gA_22, gA_23, gA_24, gA_25, gA_26, gA_27, gA_30, gA_31, gA_32, gA_33, gA_34, gA_35, gA_36, gA_38, gA_39, gA_41, gA_42, gA_46, gA_47, gA_49, gA_50, gA_51, gA_53, gA_56, gA_57, gA_59, gA_60, gW_2, gW_3, gW_4, gW_5, gW_6, gW_7, gW_8, gW_9, gW_10, gW_11, gW_13, gW_14, gW_16, gW_17, gW_20, gW_21, gW_22, gW_23, gW_24, gW_25, gW_26, gW_27, gW_30, gW_31, gW_32, gW_33, gW_34, gW_35, gW_36, gW_38, gW_39, gW_41, gW_42, gW_46, gW_47, gW_49, gW_50, gW_51, gW_53, gW_56, gW_57, gW_59, gW_60, xq_28_200_static, xq_84_7_virtualc, xq_85_7_virtualc, iN_add, iN_mul, iN_sub, iN_and, iN_or, iN_clr, iN_shl, iN_shr, tb_r1, b1_z, b1_or, b1_and, b1_or0, b1_or1, b1_0or, b1_t, b1_f, iN_lt, iN_inj, reduceIte, if_true, if_false, Nat.zero_add, Nat.add_zero, Bool.false_eq_true, Bool.true_eq_false, Nat.lt_irrefl, iN_az, not_true_eq_false, not_false_eq_true, Nat.reduceEqDiff, Nat.reduceLT, Nat.reduceAdd, Nat.reduceMul, Nat.reduceSub]
      · intro j hj ih2 g0 y hg hno
        have e26 : ur M 35 g0 26 = M 26 := ur_n (by decide)
        have e27 : ur M 35 g0 27 = M 27 := ur_n (by decide)
        have hv : vi (M 33 k) (M 34 (M 33 k)) j < 108 := by unfold vi; omega
        have e4 : (M 33 k * 6 + M 34 (M 33 k)) * 3 + j = vi (M 33 k) (M 34 (M 33 k)) j := rfl
        have e5 : M 33 k * 6 + M 34 (M 33 k) < 36 := by omega
        have b26 := h26 (vi (M 33 k) (M 34 (M 33 k)) j)
        -- on to the next room
        have next : (∀ ρ, SO σ M k dp sp ρ → ρ (M 33 k) ≠ j) → ∀ g1 y, (∀ i, i < k → g1 (M 33 i) = M 35 (M 33 i)) → ∃ g, ∃ b : Bool, ev xs (d + 1) 84 5 ([.ref 28, .int (nI k), .int (nI dp), .int (nI sp), .int (nI (M 33 k)), .int (nI (M 34 (M 33 k))), .int (nI (clr (M 21 (M 33 k)) tk)), .int (nI (j + 1)), y], [], hc σ (ur M 35 g1) R) = some (.inl (some (.int (nI (b1 b)))), hc σ (ur M 35 g) R) ∧ (∀ j, j < k → j < dp → g (M 33 j) = M 35 (M 33 j)) ∧ (b = true → SO σ M k dp sp g) ∧ (b = false → ∀ ρ, ¬ SO σ M k dp sp ρ) := fun h g1 y hg1 => ih2 g1 y hg1 fun ρ hρ => by
          have h1 := hno ρ hρ
          have h2 := h ρ hρ
          omega
        rw [eb_84_5]
        cases hb : (clr (M 21 (M 33 k)) tk).testBit j
        · have hb2 := hb
          rw [clr_tb, Bool.and_eq_false_iff] at hb2
          obtain ⟨g, b, e, q⟩ := next (fun ρ hρ hj2 => by
            have h1 := hρ.2.1 k (Nat.le_refl _) hk
            rw [hj2] at h1
            rcases hb2 with hb2 | hb2
            · rw [h1] at hb2; cases hb2
            · rw [Bool.not_eq_false'] at hb2
              obtain ⟨i, hi, h2, h3⟩ := (qtk j).mp hb2
              exact hρ.2.2.1 i k hi (Nat.le_refl _) hk h2 (by rw [hj2, hρ.1 i hi, h3])) g0 (.int (nI (M 26 (vi (M 33 k) (M 34 (M 33 k)) j)) - nI (M 27 (M 33 k * 6 + M 34 (M 33 k))))) hg
          refine ⟨g, b, ?_, q⟩
          simp (disch := first | assumption | omega | exact st8_a (Nat.le_of_ble_eq_true rfl)) only [hj, s_28, e4, e26, e27, hb, eb_84_0, eb_84_1, eb_84_2, eb_84_3, eb_84_4, eb_84_6, eb_84_7, eb_84_8, eb_84_9, eb_84_10, eb_84_11, eb_84_12, eb_84_13, kl_a, kl_d, kl_f, kl_i, kl_l, kl_n, kl_r, xr_1, xr_10, xr_2, xr_27, xr_28, xr_3, xr_31, xr_33, xr_34, xr_35, xr_36, xr_37, xr_38, xr_4, xr_41, xr_44, xr_48, xr_5, xr_55, xr_56, xr_57, xr_61, xr_62, xr_64, xr_75, xr_77, xr_91, xr_96, xr_98, af_0, af_1, xt_goto, xt_ib, xt_ic, xt_ic_ge, xt_ic_gt, xt_ic_lt, xt_if_eq, xt_ir, xt_nop, gF_19_2, gF_19_7, gF_19_8, gF_1_5, gF_28_0, gF_28_1, gF_28_4, gF_28_5, gF_28_6, gA_2, gA_3, gA_4, gA_5, gA_6, gA_7, gA_8, gA_9, gA_10, gA_11, gA_13, gA_14, gA_16, gA_17, gA_20, gA_21, gA_22, gA_23, gA_24, gA_25, gA_26, gA_27, gA_30, gA_31, gA_32, gA_33, gA_34, gA_35, gA_36, gA_38, gA_39, gA_41, gA_42, gA_46, gA_47, gA_49, gA_50, gA_51, gA_53, gA_56, gA_57, gA_59, gA_60, gW_2, gW_3, gW_4, gW_5, gW_6, gW_7, gW_8, gW_9, gW_10, gW_11, gW_13, gW_14, gW_16, gW_17, gW_20, gW_21, gW_22, gW_23, gW_24, gW_25, gW_26, gW_27, gW_30, gW_31, gW_32, gW_33, gW_34, gW_35, gW_36, gW_38, gW_39, gW_41, gW_42, gW_46, gW_47, gW_49, gW_50, gW_51, gW_53, gW_56, gW_57, gW_59, gW_60, xq_28_200_static, xq_84_7_virtualc, xq_85_7_virtualc, iN_add, iN_mul, iN_and, iN_or, iN_clr, iN_shl, iN_shr, tb_r1, b1_z, b1_or, b1_and, b1_or0, b1_or1, b1_0or, b1_t, b1_f, iN_lt, iN_inj, reduceIte, if_true, if_false, Nat.zero_add, Nat.add_zero, Bool.false_eq_true, Bool.true_eq_false, Nat.lt_irrefl, iN_az, not_true_eq_false, not_false_eq_true, Nat.reduceEqDiff, Nat.reduceLT, Nat.reduceAdd, Nat.reduceMul, Nat.reduceSub]
          exact e
        · have hb2 := hb
          rw [clr_tb, Bool.and_eq_true, Bool.not_eq_true'] at hb2
          have hle := hsc.2 j hj hb2.1
          have em : M 26 (vi (M 33 k) (M 34 (M 33 k)) j) - M 27 (M 33 k * 6 + M 34 (M 33 k)) = mo M (M 33 k) j := rfl
          have hmo : mo M (M 33 k) j ≤ 27 := by unfold mo; omega
          have hrs : ∀ ρ : Nat → Nat, rs (dp - k) k (fun j => mo M (M 33 j) (ρ (M 33 j))) = mo M (M 33 k) (ρ (M 33 k)) + rs (dp - (k + 1)) (k + 1) (fun j => mo M (M 33 j) (ρ (M 33 j))) := by
            intro ρ
            rw [show dp - k = dp - (k + 1) + 1 by omega, rs]
          by_cases hsp2 : sp < mo M (M 33 k) j
          · obtain ⟨g, b, e, q⟩ := next (fun ρ hρ hj2 => by
              have h1 := hρ.2.2.2
              rw [hrs, hj2] at h1
              omega) g0 (.int (nI (mo M (M 33 k) j))) hg
            refine ⟨g, b, ?_, q⟩
            simp (disch := first | assumption | omega | exact st8_a (Nat.le_of_ble_eq_true rfl)) only [hj, s_28, e4, e26, e27, em, hb, hsp2, eb_84_0, eb_84_1, eb_84_2, eb_84_3, eb_84_4, eb_84_6, eb_84_7, eb_84_8, eb_84_9, eb_84_10, eb_84_11, eb_84_12, eb_84_13, kl_a, kl_d, kl_f, kl_i, kl_l, kl_n, kl_r, xr_1, xr_10, xr_2, xr_27, xr_28, xr_3, xr_31, xr_33, xr_34, xr_35, xr_36, xr_37, xr_38, xr_4, xr_41, xr_44, xr_48, xr_5, xr_55, xr_56, xr_57, xr_61, xr_62, xr_64, xr_75, xr_77, xr_91, xr_96, xr_98, af_0, af_1, xt_goto, xt_ib, xt_ic, xt_ic_ge, xt_ic_gt, xt_ic_lt, xt_if_eq, xt_ir, xt_nop, gF_19_2, gF_19_7, gF_19_8, gF_1_5, gF_28_0, gF_28_1, gF_28_4, gF_28_5, gF_28_6, gA_2, gA_3, gA_4, gA_5, gA_6, gA_7, gA_8, gA_9, gA_10, gA_11, gA_13, gA_14, gA_16, gA_17, gA_20, gA_21, gA_22, gA_23, gA_24, gA_25, gA_26, gA_27, gA_30, gA_31, gA_32, gA_33, gA_34, gA_35, gA_36, gA_38, gA_39, gA_41, gA_42, gA_46, gA_47, gA_49, gA_50, gA_51, gA_53, gA_56, gA_57, gA_59, gA_60, gW_2, gW_3, gW_4, gW_5, gW_6, gW_7, gW_8, gW_9, gW_10, gW_11, gW_13, gW_14, gW_16, gW_17, gW_20, gW_21, gW_22, gW_23, gW_24, gW_25, gW_26, gW_27, gW_30, gW_31, gW_32, gW_33, gW_34, gW_35, gW_36, gW_38, gW_39, gW_41, gW_42, gW_46, gW_47, gW_49, gW_50, gW_51, gW_53, gW_56, gW_57, gW_59, gW_60, xq_28_200_static, xq_84_7_virtualc, xq_85_7_virtualc, iN_add, iN_mul, iN_sub, iN_and, iN_or, iN_clr, iN_shl, iN_shr, tb_r1, b1_z, b1_or, b1_and, b1_or0, b1_or1, b1_0or, b1_t, b1_f, iN_lt, iN_inj, reduceIte, if_true, if_false, Nat.zero_add, Nat.add_zero, Bool.false_eq_true, Bool.true_eq_false, Nat.lt_irrefl, iN_az, not_true_eq_false, not_false_eq_true, Nat.reduceEqDiff, Nat.reduceLT, Nat.reduceAdd, Nat.reduceMul, Nat.reduceSub]
            exact e
          · have hne : ∀ i, i < k → M 33 i ≠ M 33 k := fun i hi => hdis i k hi hk
            obtain ⟨g1, b1', e1, q1, q2, q3⟩ := ih (k + 1) (sp - mo M (M 33 k) j) d (ur M 35 (u1 g0 (M 33 k) j)) (by omega) (by omega) (by omega) (by omega) h33 hdis h34 (fun i hi hi2 => by
              show u1 g0 (M 33 k) j (M 33 i) < (σ 1 5)
              by_cases e : i = k
              · subst e; rw [u1_s]; exact hj
              · rw [u1_n (hne i (by omega)), hg i (by omega)]
                exact h35 i (by omega) hi2) hW
            rw [ur_ur] at e1
            have f1 : ∀ i, i < k → g1 (M 33 i) = M 35 (M 33 i) := by
              intro i hi
              have h1 := q1 i (by omega) (by omega)
              have h2 : ur M 35 (u1 g0 (M 33 k) j) 35 (M 33 i) = u1 g0 (M 33 k) j (M 33 i) := rfl
              rw [show (ur M 35 (u1 g0 (M 33 k) j)) 33 = M 33 from rfl, h2, u1_n (hne i hi), hg i hi] at h1
              exact h1
            have f2 : b1' = true → SO σ M k dp sp g1 := by
              intro hb1
              obtain ⟨z1, z2, z3, z4⟩ := q2 hb1
              have hk1 : g1 (M 33 k) = j := by
                have h1 := z1 k (by omega)
                have h2 : ur M 35 (u1 g0 (M 33 k) j) 35 (M 33 k) = u1 g0 (M 33 k) j (M 33 k) := rfl
                rw [show (ur M 35 (u1 g0 (M 33 k) j)) 33 = M 33 from rfl, h2, u1_s] at h1
                exact h1
              refine ⟨f1, fun i h1 h2 => ?_, fun i i2 h1 h2 h3 h4 => ?_, ?_⟩
              · by_cases e : i = k
                · subst e; rw [hk1]; exact hb2.1
                · exact z2 i (by omega) h2
              · by_cases e : i2 = k
                · subst e
                  rw [hk1, f1 i h1]
                  intro hh
                  have : tk.testBit j = true := (qtk j).mpr ⟨i, h1, h4, hh.symm⟩
                  rw [hb2.2] at this
                  cases this
                · exact z3 i i2 h1 (by omega) h3 h4
              · rw [hrs, hk1]
                have z4 : rs (dp - (k + 1)) (k + 1) (fun j => mo M (M 33 j) (g1 (M 33 j))) ≤ sp - mo M (M 33 k) j := z4
                omega
            have f3 : b1' = false → ∀ ρ, SO σ M k dp sp ρ → ρ (M 33 k) ≠ j := by
              intro hb1 ρ hρ hj2
              refine q3 hb1 ρ ⟨fun i hi => ?_, fun i h1 h2 => hρ.2.1 i (by omega) h2, fun i i2 h1 h2 h3 h4 => hρ.2.2.1 i i2 h1 (by omega) h3 h4, ?_⟩
              · show ρ (M 33 i) = u1 g0 (M 33 k) j (M 33 i)
                by_cases e : i = k
                · subst e; rw [u1_s]; exact hj2
                · rw [u1_n (hne i (by omega)), hg i (by omega)]
                  exact hρ.1 i (by omega)
              · have h1 := hρ.2.2.2
                rw [hrs, hj2] at h1
                show rs (dp - (k + 1)) (k + 1) (fun j => mo M (M 33 j) (ρ (M 33 j))) ≤ _
                omega
            cases b1'
            · obtain ⟨g, b, e, q⟩ := next (f3 rfl) g1 (.int (nI (mo M (M 33 k) j))) f1
              refine ⟨g, b, ?_, q⟩
              simp (disch := first | assumption | omega | exact st8_a (Nat.le_of_ble_eq_true rfl)) only [hj, s_28, e4, e26, e27, em, hb, hsp2, ur_up, e1, eb_84_0, eb_84_1, eb_84_2, eb_84_3, eb_84_4, eb_84_6, eb_84_7, eb_84_8, eb_84_9, eb_84_10, eb_84_11, eb_84_12, eb_84_13, kl_a, kl_d, kl_f, kl_i, kl_l, kl_n, kl_r, xr_1, xr_10, xr_2, xr_27, xr_28, xr_3, xr_31, xr_33, xr_34, xr_35, xr_36, xr_37, xr_38, xr_4, xr_41, xr_44, xr_48, xr_5, xr_55, xr_56, xr_57, xr_61, xr_62, xr_64, xr_75, xr_77, xr_91, xr_96, xr_98, af_0, af_1, xt_goto, xt_ib, xt_ic, xt_ic_ge, xt_ic_gt, xt_ic_lt, xt_if_eq, xt_ir, xt_nop, gF_19_2, gF_19_7, gF_19_8, gF_1_5, gF_28_0, gF_28_1, gF_28_4, gF_28_5, gF_28_6, gA_2, gA_3, gA_4, gA_5, gA_6, gA_7, gA_8, gA_9, gA_10, gA_11, gA_13, gA_14, gA_16, gA_17, gA_20, gA_21, gA_22, gA_23, gA_24, gA_25, gA_26, gA_27, gA_30, gA_31, gA_32, gA_33, gA_34, gA_35, gA_36, gA_38, gA_39, gA_41, gA_42, gA_46, gA_47, gA_49, gA_50, gA_51, gA_53, gA_56, gA_57, gA_59, gA_60, gW_2, gW_3, gW_4, gW_5, gW_6, gW_7, gW_8, gW_9, gW_10, gW_11, gW_13, gW_14, gW_16, gW_17, gW_20, gW_21, gW_22, gW_23, gW_24, gW_25, gW_26, gW_27, gW_30, gW_31, gW_32, gW_33, gW_34, gW_35, gW_36, gW_38, gW_39, gW_41, gW_42, gW_46, gW_47, gW_49, gW_50, gW_51, gW_53, gW_56, gW_57, gW_59, gW_60, xq_28_200_static, xq_84_7_virtualc, xq_85_7_virtualc, iN_add, iN_mul, iN_sub, iN_and, iN_or, iN_clr, iN_shl, iN_shr, tb_r1, b1_z, b1_or, b1_and, b1_or0, b1_or1, b1_0or, b1_t, b1_f, iN_lt, iN_inj, reduceIte, if_true, if_false, Nat.zero_add, Nat.add_zero, Bool.false_eq_true, Bool.true_eq_false, Nat.lt_irrefl, iN_az, not_true_eq_false, not_false_eq_true, Nat.reduceEqDiff, Nat.reduceLT, Nat.reduceAdd, Nat.reduceMul, Nat.reduceSub]
              exact e
            · refine ⟨g1, true, ?_, fun i hi _ => f1 i hi, fun _ => f2 rfl, fun h => (by cases h)⟩
              simp (disch := first | assumption | omega | exact st8_a (Nat.le_of_ble_eq_true rfl)) only [hj, s_28, e4, e26, e27, em, hb, hsp2, ur_up, e1, eb_84_0, eb_84_1, eb_84_2, eb_84_3, eb_84_4, eb_84_6, eb_84_7, eb_84_8, eb_84_9, eb_84_10, eb_84_11, eb_84_12, eb_84_13, kl_a, kl_d, kl_f, kl_i, kl_l, kl_n, kl_r, xr_1, xr_10, xr_2, xr_27, xr_28, xr_3, xr_31, xr_33, xr_34, xr_35, xr_36, xr_37, xr_38, xr_4, xr_41, xr_44, xr_48, xr_5, xr_55, xr_56, xr_57, xr_61, xr_62, xr_64, xr_75, xr_77, xr_91, xr_96, xr_98, af_0, af_1, xt_goto, xt_ib, xt_ic, xt_ic_ge, xt_ic_gt, xt_ic_lt, xt_if_eq, xt_ir, xt_nop, gF_19_2, gF_19_7, gF_19_8, gF_1_5, gF_28_0, gF_28_1, gF_28_4, gF_28_5, gF_28_6, gA_2, gA_3, gA_4, gA_5, gA_6, gA_7, gA_8, gA_9, gA_10, gA_11, gA_13, gA_14, gA_16, gA_17, gA_20, gA_21, gA_22, gA_23, gA_24, gA_25, gA_26, gA_27, gA_30, gA_31, gA_32, gA_33, gA_34, gA_35, gA_36, gA_38, gA_39, gA_41, gA_42, gA_46, gA_47, gA_49, gA_50, gA_51, gA_53, gA_56, gA_57, gA_59, gA_60, gW_2, gW_3, gW_4, gW_5, gW_6, gW_7, gW_8, gW_9, gW_10, gW_11, gW_13, gW_14, gW_16, gW_17, gW_20, gW_21, gW_22, gW_23, gW_24, gW_25, gW_26, gW_27, gW_30, gW_31, gW_32, gW_33, gW_34, gW_35, gW_36, gW_38, gW_39, gW_41, gW_42, gW_46, gW_47, gW_49, gW_50, gW_51, gW_53, gW_56, gW_57, gW_59, gW_60, xq_28_200_static, xq_84_7_virtualc, xq_85_7_virtualc, iN_add, iN_mul, iN_sub, iN_and, iN_or, iN_clr, iN_shl, iN_shr, tb_r1, b1_z, b1_or, b1_and, b1_or0, b1_or1, b1_0or, b1_t, b1_f, iN_lt, iN_inj, reduceIte, if_true, if_false, Nat.zero_add, Nat.add_zero, Bool.false_eq_true, Bool.true_eq_false, Nat.lt_irrefl, iN_az, not_true_eq_false, not_false_eq_true, Nat.reduceEqDiff, Nat.reduceLT, Nat.reduceAdd, Nat.reduceMul, Nat.reduceSub]
    obtain ⟨g, b, e, q⟩ := key 0 (Nat.zero_le _) (M 35) (.retAddr 9) (fun _ _ => rfl) (fun ρ _ => Nat.not_lt_zero _)
    refine ⟨g, b, ?_, q⟩
    rw [ur_id] at e
    simp (disch := first | assumption | omega | exact st8_a (Nat.le_of_ble_eq_true rfl)) only [hk, hk6, etk, eb_84_0, eb_84_1, eb_84_2, eb_84_3, eb_84_4, eb_84_6, eb_84_7, eb_84_8, eb_84_9, eb_84_10, eb_84_11, eb_84_12, eb_84_13, kl_a, kl_d, kl_f, kl_i, kl_l, kl_n, kl_r, xr_1, xr_10, xr_2, xr_27, xr_28, xr_3, xr_31, xr_33, xr_34, xr_35, xr_36, xr_37, xr_38, xr_4, xr_41, xr_44, xr_48, xr_5, xr_55, xr_56, xr_57, xr_61, xr_62, xr_64, xr_75, xr_77, xr_91, xr_96, xr_98, af_0, af_1, xt_goto, xt_ib, xt_ic, xt_ic_ge, xt_ic_gt, xt_ic_lt, xt_if_eq, xt_ir, xt_nop, gF_19_2, gF_19_7, gF_19_8, gF_1_5, gF_28_0, gF_28_1, gF_28_4, gF_28_5, gF_28_6, gA_2, gA_3, gA_4, gA_5, gA_6, gA_7, gA_8, gA_9, gA_10, gA_11, gA_13, gA_14, gA_16, gA_17, gA_20, gA_21, gA_22, gA_23, gA_24, gA_25, gA_26, gA_27, gA_30, gA_31, gA_32, gA_33, gA_34, gA_35, gA_36, gA_38, gA_39, gA_41, gA_42, gA_46, gA_47, gA_49, gA_50, gA_51, gA_53, gA_56, gA_57, gA_59, gA_60, gW_2, gW_3, gW_4, gW_5, gW_6, gW_7, gW_8, gW_9, gW_10, gW_11, gW_13, gW_14, gW_16, gW_17, gW_20, gW_21, gW_22, gW_23, gW_24, gW_25, gW_26, gW_27, gW_30, gW_31, gW_32, gW_33, gW_34, gW_35, gW_36, gW_38, gW_39, gW_41, gW_42, gW_46, gW_47, gW_49, gW_50, gW_51, gW_53, gW_56, gW_57, gW_59, gW_60, xq_28_200_static, xq_84_7_virtualc, xq_85_7_virtualc, iN_add, iN_mul, iN_sub, iN_and, iN_or, iN_clr, iN_shl, iN_shr, tb_r1, b1_z, b1_or, b1_and, b1_or0, b1_or1, b1_0or, b1_t, b1_f, iN_lt, iN_inj, reduceIte, if_true, if_false, Nat.zero_add, Nat.add_zero, Bool.false_eq_true, Bool.true_eq_false, Nat.lt_irrefl, iN_az, not_true_eq_false, not_false_eq_true, Nat.reduceEqDiff, Nat.reduceLT, Nat.reduceAdd, Nat.reduceMul, Nat.reduceSub]
    exact e
end Se
