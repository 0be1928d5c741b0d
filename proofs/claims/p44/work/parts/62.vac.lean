/-! THE CLASS Values: crowds -/
def sl7 (s : Nat) : Nat := 7 <<< (s * 3)
def CV (σ : Nat → Nat → Nat) (Y V : Nat → Nat) : Prop := ∀ l, l < (σ 1 6) → V l = cl σ Y l
set_option maxRecDepth 100000 in
theorem sl7_tb (s i : Nat) : (sl7 s).testBit i = (decide (s * 3 ≤ i) && decide (i < s * 3 + 3)) := by
  unfold sl7
  have h := Nat.testBit_two_pow_sub_one 3 (i - s * 3)
  rw [show (2 : Nat) ^ 3 - 1 = 7 from rfl] at h
  rw [Nat.testBit_shiftLeft, h]
  by_cases h1 : s * 3 ≤ i
  · simp only [ge_iff_le, h1, decide_true, Bool.true_and]
    congr 1
    apply propext
    omega
  · simp [h1]
set_option maxRecDepth 100000 in
theorem sl7_z {a s : Nat} : a &&& sl7 s = 0 ↔ a >>> (s * 3) &&& 7 = 0 := by
  rw [sh7_z, z_tb]
  constructor
  · intro h r hr
    have := h (s * 3 + r)
    rw [Nat.testBit_and, sl7_tb] at this
    simpa [hr] using this
  · intro h i
    rw [Nat.testBit_and, sl7_tb]
    by_cases h1 : s * 3 ≤ i
    · by_cases h2 : i < s * 3 + 3
      · have := h (i - s * 3) (by omega)
        rw [show s * 3 + (i - s * 3) = i by omega] at this
        rw [this]; rfl
      · simp [h2]
    · simp [h1]
section Vc
variable {xs : List Int32} {σ M : Nat → Nat → Nat} {R : ab_H} {d l s r o u n : Nat} {T : (Nat → Nat) → Prop} {X Y Z W : Nat → Nat} {b c : Bool}
set_option maxRecDepth 100000 in
theorem cl_0 (h : Y l = 0) : cl σ Y l = 0 := by
  unfold cl
  apply z_tb.mpr
  intro i
  cases hh : (orn (σ 1 2) fun s => if Y l >>> (s * 3) &&& 7 = 0 then 0 else cov σ l s).testBit i
  · rfl
  · obtain ⟨k, _, h2⟩ := orn_tb.mp hh
    rw [h] at h2
    simp at h2
set_option maxRecDepth 100000 in
theorem cl_cg (h : Y l = Z l) : cl σ Y l = cl σ Z l := by
  unfold cl
  rw [h]
set_option maxRecDepth 100000 in
theorem cl_lt (O : Ok σ) : cl σ Y l < 64 := by
  unfold cl
  refine orn_lt (e := 6) fun i hi => ?_
  split
  · decide
  · exact cov_lt O hi
set_option maxRecDepth 100000 in
theorem s_119 (O : Ok σ) (hX : ∀ X, T X → Su σ X Y → ∀ l, l < (σ 1 6) → X l = 0) {V : Nat → Nat} (hY : ∀ l, l < (σ 1 6) → Y l < 262144) : ∃ Z V2 b, ev xs (d + 3) 119 0 ([.ref 37, .retAddr 9, .retAddr 9], [], hc σ (ur (ur M 38 Y) 39 V) R) = some (.inl (some (.int (nI (b1 b)))), hc σ (ur (ur M 38 Z) 39 V2) R) ∧ DR σ T Y Z b ∧ ∀ l, l < (σ 1 6) → Z l = 0 ∧ V2 l = 0 := by
  obtain ⟨hD1, hD2, hH1, hH2, hS, hC, hT, hR, hL, hQ⟩ := Ok_b O
  have key : ∀ k, k ≤ (σ 1 6) → ∀ Y V (a : Bool), (∀ X, T X → Su σ X Y → ∀ l, l < (σ 1 6) → X l = 0) → (∀ l, l < (σ 1 6) → Y l < 262144) → ∃ Z V2 b, ev xs (d + 3) 119 1 ([.ref 37, .int (nI (b1 a)), .int (nI k)], [], hc σ (ur (ur M 38 Y) 39 V) R) = some (.inl (some (.int (nI (b1 (a || b))))), hc σ (ur (ur M 38 Z) 39 V2) R) ∧ DR σ T Y Z b ∧ (∀ l, l < (σ 1 6) → k ≤ l → Z l = 0 ∧ V2 l = 0) ∧ ∀ l, l < k → Z l = Y l ∧ V2 l = V l := by
    refine lp (σ 1 6) ?_ ?_
    · intro Y V a hX hY
      refine ⟨Y, V, false, ?_, DR_r, fun l h1 h2 => by omega, fun l _ => ⟨rfl, rfl⟩⟩
      rw [eb_119_1, Bool.or_false]
      simp (disch := first | assumption | omega | exact st8_a (Nat.le_of_ble_eq_true rfl)) only [eb_119_7, kl_a, kl_d, kl_f, kl_i, kl_l, kl_n, kl_r, xr_1, xr_10, xr_2, xr_27, xr_28, xr_29, xr_3, xr_30, xr_31, xr_4, xr_42, xr_5, xt_goto, xt_ib, xt_ic, xt_ic_ge, xt_if_eq, xt_if_ne, xt_ir, xt_nop, gF_37_0, gF_37_2, gF_37_3, gF_1_6, gA_2, gA_3, gA_4, gA_5, gA_6, gA_7, gA_8, gA_9, gA_10, gA_11, gA_13, gA_14, gA_16, gA_17, gA_20, gA_21, gA_22, gA_23, gA_24, gA_25, gA_26, gA_27, gA_30, gA_31, gA_32, gA_33, gA_34, gA_35, gA_36, gA_38, gA_39, gA_41, gA_42, gA_46, gA_47, gA_49, gA_50, gA_51, gA_53, gA_56, gA_57, gA_59, gA_60, gW_2, gW_3, gW_4, gW_5, gW_6, gW_7, gW_8, gW_9, gW_10, gW_11, gW_13, gW_14, gW_16, gW_17, gW_20, gW_21, gW_22, gW_23, gW_24, gW_25, gW_26, gW_27, gW_30, gW_31, gW_32, gW_33, gW_34, gW_35, gW_36, gW_38, gW_39, gW_41, gW_42, gW_46, gW_47, gW_49, gW_50, gW_51, gW_53, gW_56, gW_57, gW_59, gW_60, iN_add, iN_mul, iN_sub, iN_and, iN_or, iN_clr, iN_shl, iN_shr, tb_r1, b1_z, b1_or, b1_and, b1_or0, b1_or1, b1_0or, b1_t, b1_f, iN_lt, iN_inj, reduceIte, if_true, if_false, Nat.zero_add, Nat.add_zero, Bool.false_eq_true, Bool.true_eq_false, Nat.lt_irrefl, iN_az, not_true_eq_false, not_false_eq_true, Nat.reduceEqDiff, Nat.reduceLT, Nat.reduceAdd, Nat.reduceMul, Nat.reduceSub]
    · intro k hk ih Y V a hX hY
      have hw := hY k hk
      have e3 : ur (ur M 38 (u1 Y k 0)) 39 (u1 V k 0) = up (up (ur (ur M 38 Y) 39 V) 38 k 0) 39 k 0 := by
        funext b j
        unfold ur up u1
        by_cases h1 : b = 38
        · subst h1; simp
        · by_cases h2 : b = 39
          · subst h2; simp
          · simp [h1, h2]
      have hDR : DR σ T Y (u1 Y k 0) (decide (Y k ≠ 0)) := by
        by_cases h : Y k = 0
        · rw [decide_eq_false (by simpa using h)]
          refine DR_e fun l hl => ?_
          by_cases h2 : l = k
          · subst h2; rw [u1_s, h]
          · rw [u1_n h2]
        · rw [decide_eq_true (by simpa using h)]
          have := DR_m (T := T) hk hw (m := Y k) (by rw [Nat.and_self]; exact h) fun X hT hS => by rw [hX X hT hS k hk, Nat.zero_and]
          have e0 : clr (Y k) (Y k) = 0 := by unfold clr; rw [Nat.and_self, Nat.xor_self]
          rw [e0] at this
          exact this
      obtain ⟨Z, V2, b, e, q1, q2, q3⟩ := ih (u1 Y k 0) (u1 V k 0) (a || decide (Y k ≠ 0)) (fun X hT hS l hl => hX X hT (Su_t hS hDR.1) l hl) (Su_lt hDR.1 hY)
      refine ⟨Z, V2, decide (Y k ≠ 0) || b, ?_, DR_t hDR q1, fun l h1 h2 => ?_, fun l h1 => ?_⟩
      · rw [e3] at e
        rw [← Bool.or_assoc]
        rw [eb_119_1]
        clear q1 q2 q3 ih hDR hX e3
        by_cases h : Y k = 0
        · rw [decide_eq_false (by simpa using h)] at e ⊢
          rw [Bool.or_false] at e ⊢
          cases a
          · simp (disch := first | assumption | omega | exact st8_a (Nat.le_of_ble_eq_true rfl)) only [hk, ur_s, ur_n, h, eb_119_2, eb_119_3, eb_119_5, eb_119_6, kl_a, kl_d, kl_f, kl_i, kl_l, kl_n, kl_r, xr_1, xr_10, xr_2, xr_27, xr_28, xr_29, xr_3, xr_30, xr_31, xr_4, xr_42, xr_5, xt_goto, xt_ib, xt_ic, xt_ic_ge, xt_if_eq, xt_if_ne, xt_ir, xt_nop, gF_37_0, gF_37_2, gF_37_3, gF_1_6, gA_2, gA_3, gA_4, gA_5, gA_6, gA_7, gA_8, gA_9, gA_10, gA_11, gA_13, gA_14, gA_16, gA_17, gA_20, gA_21, gA_22, gA_23, gA_24, gA_25, gA_26, gA_27, gA_30, gA_31, gA_32, gA_33, gA_34, gA_35, gA_36, gA_38, gA_39, gA_41, gA_42, gA_46, gA_47, gA_49, gA_50, gA_51, gA_53, gA_56, gA_57, gA_59, gA_60, gW_2, gW_3, gW_4, gW_5, gW_6, gW_7, gW_8, gW_9, gW_10, gW_11, gW_13, gW_14, gW_16, gW_17, gW_20, gW_21, gW_22, gW_23, gW_24, gW_25, gW_26, gW_27, gW_30, gW_31, gW_32, gW_33, gW_34, gW_35, gW_36, gW_38, gW_39, gW_41, gW_42, gW_46, gW_47, gW_49, gW_50, gW_51, gW_53, gW_56, gW_57, gW_59, gW_60, iN_add, iN_mul, iN_sub, iN_and, iN_or, iN_clr, iN_shl, iN_shr, tb_r1, b1_z, b1_or, b1_and, b1_or0, b1_or1, b1_0or, b1_t, b1_f, iN_lt, iN_inj, reduceIte, if_true, if_false, Nat.zero_add, Nat.add_zero, Bool.false_eq_true, Bool.true_eq_false, Nat.lt_irrefl, iN_az, not_true_eq_false, not_false_eq_true, Nat.reduceEqDiff, Nat.reduceLT, Nat.reduceAdd, Nat.reduceMul, Nat.reduceSub]
            exact e
          · simp (disch := first | assumption | omega | exact st8_a (Nat.le_of_ble_eq_true rfl)) only [hk, ur_s, ur_n, h, eb_119_2, eb_119_4, eb_119_6, kl_a, kl_d, kl_f, kl_i, kl_l, kl_n, kl_r, xr_1, xr_10, xr_2, xr_27, xr_28, xr_29, xr_3, xr_30, xr_31, xr_4, xr_42, xr_5, xt_goto, xt_ib, xt_ic, xt_ic_ge, xt_if_eq, xt_if_ne, xt_ir, xt_nop, gF_37_0, gF_37_2, gF_37_3, gF_1_6, gA_2, gA_3, gA_4, gA_5, gA_6, gA_7, gA_8, gA_9, gA_10, gA_11, gA_13, gA_14, gA_16, gA_17, gA_20, gA_21, gA_22, gA_23, gA_24, gA_25, gA_26, gA_27, gA_30, gA_31, gA_32, gA_33, gA_34, gA_35, gA_36, gA_38, gA_39, gA_41, gA_42, gA_46, gA_47, gA_49, gA_50, gA_51, gA_53, gA_56, gA_57, gA_59, gA_60, gW_2, gW_3, gW_4, gW_5, gW_6, gW_7, gW_8, gW_9, gW_10, gW_11, gW_13, gW_14, gW_16, gW_17, gW_20, gW_21, gW_22, gW_23, gW_24, gW_25, gW_26, gW_27, gW_30, gW_31, gW_32, gW_33, gW_34, gW_35, gW_36, gW_38, gW_39, gW_41, gW_42, gW_46, gW_47, gW_49, gW_50, gW_51, gW_53, gW_56, gW_57, gW_59, gW_60, iN_add, iN_mul, iN_sub, iN_and, iN_or, iN_clr, iN_shl, iN_shr, tb_r1, b1_z, b1_or, b1_and, b1_or0, b1_or1, b1_0or, b1_t, b1_f, iN_lt, iN_inj, reduceIte, if_true, if_false, Nat.zero_add, Nat.add_zero, Bool.false_eq_true, Bool.true_eq_false, Nat.lt_irrefl, iN_az, not_true_eq_false, not_false_eq_true, Nat.reduceEqDiff, Nat.reduceLT, Nat.reduceAdd, Nat.reduceMul, Nat.reduceSub]
            exact e
        · rw [decide_eq_true (by simpa using h)] at e ⊢
          rw [Bool.or_true, Bool.true_or] at e ⊢
          cases a
          · simp (disch := first | assumption | omega | exact st8_a (Nat.le_of_ble_eq_true rfl)) only [hk, ur_s, ur_n, h, eb_119_2, eb_119_3, eb_119_4, eb_119_6, kl_a, kl_d, kl_f, kl_i, kl_l, kl_n, kl_r, xr_1, xr_10, xr_2, xr_27, xr_28, xr_29, xr_3, xr_30, xr_31, xr_4, xr_42, xr_5, xt_goto, xt_ib, xt_ic, xt_ic_ge, xt_if_eq, xt_if_ne, xt_ir, xt_nop, gF_37_0, gF_37_2, gF_37_3, gF_1_6, gA_2, gA_3, gA_4, gA_5, gA_6, gA_7, gA_8, gA_9, gA_10, gA_11, gA_13, gA_14, gA_16, gA_17, gA_20, gA_21, gA_22, gA_23, gA_24, gA_25, gA_26, gA_27, gA_30, gA_31, gA_32, gA_33, gA_34, gA_35, gA_36, gA_38, gA_39, gA_41, gA_42, gA_46, gA_47, gA_49, gA_50, gA_51, gA_53, gA_56, gA_57, gA_59, gA_60, gW_2, gW_3, gW_4, gW_5, gW_6, gW_7, gW_8, gW_9, gW_10, gW_11, gW_13, gW_14, gW_16, gW_17, gW_20, gW_21, gW_22, gW_23, gW_24, gW_25, gW_26, gW_27, gW_30, gW_31, gW_32, gW_33, gW_34, gW_35, gW_36, gW_38, gW_39, gW_41, gW_42, gW_46, gW_47, gW_49, gW_50, gW_51, gW_53, gW_56, gW_57, gW_59, gW_60, iN_add, iN_mul, iN_sub, iN_and, iN_or, iN_clr, iN_shl, iN_shr, tb_r1, b1_z, b1_or, b1_and, b1_or0, b1_or1, b1_0or, b1_t, b1_f, iN_lt, iN_inj, reduceIte, if_true, if_false, Nat.zero_add, Nat.add_zero, Bool.false_eq_true, Bool.true_eq_false, Nat.lt_irrefl, iN_az, not_true_eq_false, not_false_eq_true, Nat.reduceEqDiff, Nat.reduceLT, Nat.reduceAdd, Nat.reduceMul, Nat.reduceSub]
            exact e
          · simp (disch := first | assumption | omega | exact st8_a (Nat.le_of_ble_eq_true rfl)) only [hk, ur_s, ur_n, h, eb_119_2, eb_119_4, eb_119_6, kl_a, kl_d, kl_f, kl_i, kl_l, kl_n, kl_r, xr_1, xr_10, xr_2, xr_27, xr_28, xr_29, xr_3, xr_30, xr_31, xr_4, xr_42, xr_5, xt_goto, xt_ib, xt_ic, xt_ic_ge, xt_if_eq, xt_if_ne, xt_ir, xt_nop, gF_37_0, gF_37_2, gF_37_3, gF_1_6, gA_2, gA_3, gA_4, gA_5, gA_6, gA_7, gA_8, gA_9, gA_10, gA_11, gA_13, gA_14, gA_16, gA_17, gA_20, gA_21, gA_22, gA_23, gA_24, gA_25, gA_26, gA_27, gA_30, gA_31, gA_32, gA_33, gA_34, gA_35, gA_36, gA_38, gA_39, gA_41, gA_42, gA_46, gA_47, gA_49, gA_50, gA_51, gA_53, gA_56, gA_57, gA_59, gA_60, gW_2, gW_3, gW_4, gW_5, gW_6, gW_7, gW_8, gW_9, gW_10, gW_11, gW_13, gW_14, gW_16, gW_17, gW_20, gW_21, gW_22, gW_23, gW_24, gW_25, gW_26, gW_27, gW_30, gW_31, gW_32, gW_33, gW_34, gW_35, gW_36, gW_38, gW_39, gW_41, gW_42, gW_46, gW_47, gW_49, gW_50, gW_51, gW_53, gW_56, gW_57, gW_59, gW_60, iN_add, iN_mul, iN_sub, iN_and, iN_or, iN_clr, iN_shl, iN_shr, tb_r1, b1_z, b1_or, b1_and, b1_or0, b1_or1, b1_0or, b1_t, b1_f, iN_lt, iN_inj, reduceIte, if_true, if_false, Nat.zero_add, Nat.add_zero, Bool.false_eq_true, Bool.true_eq_false, Nat.lt_irrefl, iN_az, not_true_eq_false, not_false_eq_true, Nat.reduceEqDiff, Nat.reduceLT, Nat.reduceAdd, Nat.reduceMul, Nat.reduceSub]
            exact e
      · by_cases h3 : l = k
        · subst h3
          have := q3 l (by omega)
          rw [this.1, this.2, u1_s, u1_s]
          exact ⟨rfl, rfl⟩
        · exact q2 l h1 (by omega)
      · have := q3 l (by omega)
        rw [this.1, this.2, u1_n (by omega), u1_n (by omega)]
        exact ⟨rfl, rfl⟩
  obtain ⟨Z, V2, b, e, q1, q2, q3⟩ := key 0 (Nat.zero_le _) Y V false hX hY
  refine ⟨Z, V2, b, ?_, q1, fun l hl => q2 l hl (Nat.zero_le _)⟩
  rw [Bool.false_or] at e
  clear q1 q2 q3 key hX
  simp (disch := first | assumption | omega | exact st8_a (Nat.le_of_ble_eq_true rfl)) only [eb_119_0, kl_a, kl_d, kl_f, kl_i, kl_l, kl_n, kl_r, xr_1, xr_10, xr_2, xr_27, xr_28, xr_29, xr_3, xr_30, xr_31, xr_4, xr_42, xr_5, xt_goto, xt_ib, xt_ic, xt_ic_ge, xt_if_eq, xt_if_ne, xt_ir, xt_nop, gF_37_0, gF_37_2, gF_37_3, gF_1_6, gA_2, gA_3, gA_4, gA_5, gA_6, gA_7, gA_8, gA_9, gA_10, gA_11, gA_13, gA_14, gA_16, gA_17, gA_20, gA_21, gA_22, gA_23, gA_24, gA_25, gA_26, gA_27, gA_30, gA_31, gA_32, gA_33, gA_34, gA_35, gA_36, gA_38, gA_39, gA_41, gA_42, gA_46, gA_47, gA_49, gA_50, gA_51, gA_53, gA_56, gA_57, gA_59, gA_60, gW_2, gW_3, gW_4, gW_5, gW_6, gW_7, gW_8, gW_9, gW_10, gW_11, gW_13, gW_14, gW_16, gW_17, gW_20, gW_21, gW_22, gW_23, gW_24, gW_25, gW_26, gW_27, gW_30, gW_31, gW_32, gW_33, gW_34, gW_35, gW_36, gW_38, gW_39, gW_41, gW_42, gW_46, gW_47, gW_49, gW_50, gW_51, gW_53, gW_56, gW_57, gW_59, gW_60, iN_add, iN_mul, iN_sub, iN_and, iN_or, iN_clr, iN_shl, iN_shr, tb_r1, b1_z, b1_or, b1_and, b1_or0, b1_or1, b1_0or, b1_t, b1_f, iN_lt, iN_inj, reduceIte, if_true, if_false, Nat.zero_add, Nat.add_zero, Bool.false_eq_true, Bool.true_eq_false, Nat.lt_irrefl, iN_az, not_true_eq_false, not_false_eq_true, Nat.reduceEqDiff, Nat.reduceLT, Nat.reduceAdd, Nat.reduceMul, Nat.reduceSub]
  exact e
end Vc
