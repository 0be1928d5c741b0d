/-! THE CLASS Values: dropCrowded -/
def grp (σ : Nat → Nat → Nat) (p u : Nat) : Nat := en (σ 1 6) fun l => decide (σ p l = u)
def CR (σ : Nat → Nat → Nat) (Y : Nat → Nat) : Prop := ∀ p, (p = 5 ∨ p = 6) → ∀ u, u < 4 → CG σ Y (grp σ p u)
section Vf
variable {xs : List Int32} {σ M : Nat → Nat → Nat} {R : ab_H} {d l s r o u n g set : Nat} {T : (Nat → Nat) → Prop} {X Y Z W V : Nat → Nat} {b : Bool}
set_option maxRecDepth 100000 in
theorem grp_lt (O : Ok σ) {p : Nat} : grp σ p u < 64 := by
  obtain ⟨hD1, hD2, hH1, hH2, hS, hC, hT, hR, hL, hQ⟩ := Ok_b O
  unfold grp
  exact Nat.lt_of_lt_of_le (en_lt _ _) (Nat.pow_le_pow_right (n := 2) (j := 6) (by decide) (by omega))
set_option maxRecDepth 100000 in
theorem CG_cg (h : ∀ l, l < (σ 1 6) → Z l = Y l) (hh : CG σ Z g) : CG σ Y g := fun set hs => CI_cg h (hh set hs)
set_option maxRecDepth 100000 in
theorem s_113 (O : Ok σ) (hc25 : ∀ l, l < (σ 1 6) → ∀ s, s < (σ 1 2) → M 25 (l * 6 + s) = cov σ l s) (hTT : ∀ X, T X → CR σ X) (hY : ∀ l, l < (σ 1 6) → Y l < 262144) : ∃ Z V2 b, ev xs (d + 5) 113 0 ([.ref 37, .retAddr 9, .retAddr 9], [], hc σ (ur (ur M 38 Y) 39 V) R) = some (.inl (some (.int (nI (b1 b)))), hc σ (ur (ur M 38 Z) 39 V2) R) ∧ DR σ T Y Z b ∧ (b = false → CR σ Y) := by
  obtain ⟨hD1, hD2, hH1, hH2, hS, hC, hT, hR, hL, hQ⟩ := Ok_b O
  have k2 : ∀ k, k ≤ 4 → ∀ (Y V : Nat → Nat), (∀ l, l < (σ 1 6) → Y l < 262144) → ∀ (a : Bool), ∃ Z V2 b, ev xs (d + 5) 113 10 ([.ref 37, .int (nI (b1 a)), .int (nI k)], [], hc σ (ur (ur M 38 Y) 39 V) R) = some (.inl (some (.int (nI (b1 (a || b))))), hc σ (ur (ur M 38 Z) 39 V2) R) ∧ DR σ T Y Z b ∧ (b = false → ∀ u, k ≤ u → u < 4 → CG σ Y (grp σ 6 u)) := by
    refine lp 4 ?_ ?_
    · intro Y V hY a
      refine ⟨Y, V, false, ?_, DR_r, fun _ u h1 h2 => by omega⟩
      rw [eb_113_10, Bool.or_false]
      simp (disch := first | assumption | omega | exact st8_a (Nat.le_of_ble_eq_true rfl)) only [eb_113_18, kl_a, kl_d, kl_f, kl_i, kl_l, kl_n, kl_r, xr_1, xr_10, xr_2, xr_27, xr_28, xr_29, xr_3, xr_30, xr_31, xr_4, xr_42, xr_5, xr_67, af_0, af_1, xt_goto, xt_ib, xt_ic, xt_ic_ge, xt_if_eq, xt_if_ne, xt_ir, xt_nop, gF_37_0, gF_1_12, gF_1_13, xq_114_10_virtualc, xq_115_10_virtualc, iN_add, iN_mul, iN_sub, iN_and, iN_or, iN_clr, iN_shl, iN_shr, tb_r1, b1_z, b1_or, b1_and, b1_or0, b1_or1, b1_0or, b1_t, b1_f, iN_lt, iN_inj, reduceIte, if_true, if_false, Nat.zero_add, Nat.add_zero, Bool.false_eq_true, Bool.true_eq_false, Nat.lt_irrefl, iN_az, not_true_eq_false, not_false_eq_true, Nat.reduceEqDiff, Nat.reduceLT, Nat.reduceAdd, Nat.reduceMul, Nat.reduceSub]
    · intro k hk ih Y V hY a
      have e1 := s_114 (xs := xs) (d := d + 4) (M := ur (ur M 38 Y) 39 V) (R := R) (u := k) O (p := 6) (Or.inr rfl) (by omega)
      have hg := grp_lt O (u := k) (p := 6)
      unfold grp at hg
      obtain ⟨Z1, V1, b1', e2, p1, p2⟩ := s_115 (xs := xs) (d := d) (M := M) (R := R) (V := V) (T := T) (g := en (σ 1 6) fun l => decide (σ 6 l = k)) O hg hc25 (fun X hX => hTT X hX 6 (Or.inr rfl) k hk) hY
      obtain ⟨Z, V2, b, e, q1, q2⟩ := ih Z1 V1 (Su_lt p1.1 hY) (a || b1')
      refine ⟨Z, V2, b1' || b, ?_, DR_t p1 q1, fun h u h1 h2 => ?_⟩
      · rw [← Bool.or_assoc]
        rw [eb_113_10]
        clear q1 q2 p1 p2 ih
        cases b1' <;> cases a
        · simp (disch := first | assumption | omega | exact st8_a (Nat.le_of_ble_eq_true rfl)) only [hk, e1, e2, eb_113_11, eb_113_12, eb_113_13, eb_113_14, eb_113_16, eb_113_17, kl_a, kl_d, kl_f, kl_i, kl_l, kl_n, kl_r, xr_1, xr_10, xr_2, xr_27, xr_28, xr_29, xr_3, xr_30, xr_31, xr_4, xr_42, xr_5, xr_67, af_0, af_1, xt_goto, xt_ib, xt_ic, xt_ic_ge, xt_if_eq, xt_if_ne, xt_ir, xt_nop, gF_37_0, gF_1_12, gF_1_13, xq_114_10_virtualc, xq_115_10_virtualc, iN_add, iN_mul, iN_sub, iN_and, iN_or, iN_clr, iN_shl, iN_shr, tb_r1, b1_z, b1_or, b1_and, b1_or0, b1_or1, b1_0or, b1_t, b1_f, iN_lt, iN_inj, reduceIte, if_true, if_false, Nat.zero_add, Nat.add_zero, Bool.false_eq_true, Bool.true_eq_false, Nat.lt_irrefl, iN_az, not_true_eq_false, not_false_eq_true, Nat.reduceEqDiff, Nat.reduceLT, Nat.reduceAdd, Nat.reduceMul, Nat.reduceSub]
          exact e
        · simp (disch := first | assumption | omega | exact st8_a (Nat.le_of_ble_eq_true rfl)) only [hk, e1, e2, eb_113_11, eb_113_12, eb_113_13, eb_113_14, eb_113_15, eb_113_17, kl_a, kl_d, kl_f, kl_i, kl_l, kl_n, kl_r, xr_1, xr_10, xr_2, xr_27, xr_28, xr_29, xr_3, xr_30, xr_31, xr_4, xr_42, xr_5, xr_67, af_0, af_1, xt_goto, xt_ib, xt_ic, xt_ic_ge, xt_if_eq, xt_if_ne, xt_ir, xt_nop, gF_37_0, gF_1_12, gF_1_13, xq_114_10_virtualc, xq_115_10_virtualc, iN_add, iN_mul, iN_sub, iN_and, iN_or, iN_clr, iN_shl, iN_shr, tb_r1, b1_z, b1_or, b1_and, b1_or0, b1_or1, b1_0or, b1_t, b1_f, iN_lt, iN_inj, reduceIte, if_true, if_false, Nat.zero_add, Nat.add_zero, Bool.false_eq_true, Bool.true_eq_false, Nat.lt_irrefl, iN_az, not_true_eq_false, not_false_eq_true, Nat.reduceEqDiff, Nat.reduceLT, Nat.reduceAdd, Nat.reduceMul, Nat.reduceSub]
          exact e
        · simp (disch := first | assumption | omega | exact st8_a (Nat.le_of_ble_eq_true rfl)) only [hk, e1, e2, eb_113_11, eb_113_12, eb_113_13, eb_113_15, eb_113_17, kl_a, kl_d, kl_f, kl_i, kl_l, kl_n, kl_r, xr_1, xr_10, xr_2, xr_27, xr_28, xr_29, xr_3, xr_30, xr_31, xr_4, xr_42, xr_5, xr_67, af_0, af_1, xt_goto, xt_ib, xt_ic, xt_ic_ge, xt_if_eq, xt_if_ne, xt_ir, xt_nop, gF_37_0, gF_1_12, gF_1_13, xq_114_10_virtualc, xq_115_10_virtualc, iN_add, iN_mul, iN_sub, iN_and, iN_or, iN_clr, iN_shl, iN_shr, tb_r1, b1_z, b1_or, b1_and, b1_or0, b1_or1, b1_0or, b1_t, b1_f, iN_lt, iN_inj, reduceIte, if_true, if_false, Nat.zero_add, Nat.add_zero, Bool.false_eq_true, Bool.true_eq_false, Nat.lt_irrefl, iN_az, not_true_eq_false, not_false_eq_true, Nat.reduceEqDiff, Nat.reduceLT, Nat.reduceAdd, Nat.reduceMul, Nat.reduceSub]
          exact e
        · simp (disch := first | assumption | omega | exact st8_a (Nat.le_of_ble_eq_true rfl)) only [hk, e1, e2, eb_113_11, eb_113_12, eb_113_13, eb_113_15, eb_113_17, kl_a, kl_d, kl_f, kl_i, kl_l, kl_n, kl_r, xr_1, xr_10, xr_2, xr_27, xr_28, xr_29, xr_3, xr_30, xr_31, xr_4, xr_42, xr_5, xr_67, af_0, af_1, xt_goto, xt_ib, xt_ic, xt_ic_ge, xt_if_eq, xt_if_ne, xt_ir, xt_nop, gF_37_0, gF_1_12, gF_1_13, xq_114_10_virtualc, xq_115_10_virtualc, iN_add, iN_mul, iN_sub, iN_and, iN_or, iN_clr, iN_shl, iN_shr, tb_r1, b1_z, b1_or, b1_and, b1_or0, b1_or1, b1_0or, b1_t, b1_f, iN_lt, iN_inj, reduceIte, if_true, if_false, Nat.zero_add, Nat.add_zero, Bool.false_eq_true, Bool.true_eq_false, Nat.lt_irrefl, iN_az, not_true_eq_false, not_false_eq_true, Nat.reduceEqDiff, Nat.reduceLT, Nat.reduceAdd, Nat.reduceMul, Nat.reduceSub]
          exact e
      · rw [Bool.or_eq_false_iff] at h
        by_cases hu : u = k
        · subst hu
          exact p2 h.1
        · exact CG_cg (p1.2.1 h.1) (q2 h.2 u (by omega) h2)
  have k1 : ∀ k, k ≤ 4 → ∀ (Y V : Nat → Nat), (∀ l, l < (σ 1 6) → Y l < 262144) → ∀ (a : Bool), ∃ Z V2 b, ev xs (d + 5) 113 1 ([.ref 37, .int (nI (b1 a)), .int (nI k)], [], hc σ (ur (ur M 38 Y) 39 V) R) = some (.inl (some (.int (nI (b1 (a || b))))), hc σ (ur (ur M 38 Z) 39 V2) R) ∧ DR σ T Y Z b ∧ (b = false → (∀ u, k ≤ u → u < 4 → CG σ Y (grp σ 5 u)) ∧ ∀ u, u < 4 → CG σ Y (grp σ 6 u)) := by
    refine lp 4 ?_ ?_
    · intro Y V hY a
      obtain ⟨Z, V2, b, e, q1, q2⟩ := k2 0 (by decide) Y V hY a
      refine ⟨Z, V2, b, ?_, q1, fun h => ⟨fun u h1 h2 => by omega, fun u h2 => q2 h u (Nat.zero_le _) h2⟩⟩
      rw [eb_113_1]
      clear q1 q2 k2
      simp (disch := first | assumption | omega | exact st8_a (Nat.le_of_ble_eq_true rfl)) only [eb_113_9, kl_a, kl_d, kl_f, kl_i, kl_l, kl_n, kl_r, xr_1, xr_10, xr_2, xr_27, xr_28, xr_29, xr_3, xr_30, xr_31, xr_4, xr_42, xr_5, xr_67, af_0, af_1, xt_goto, xt_ib, xt_ic, xt_ic_ge, xt_if_eq, xt_if_ne, xt_ir, xt_nop, gF_37_0, gF_1_12, gF_1_13, xq_114_10_virtualc, xq_115_10_virtualc, iN_add, iN_mul, iN_sub, iN_and, iN_or, iN_clr, iN_shl, iN_shr, tb_r1, b1_z, b1_or, b1_and, b1_or0, b1_or1, b1_0or, b1_t, b1_f, iN_lt, iN_inj, reduceIte, if_true, if_false, Nat.zero_add, Nat.add_zero, Bool.false_eq_true, Bool.true_eq_false, Nat.lt_irrefl, iN_az, not_true_eq_false, not_false_eq_true, Nat.reduceEqDiff, Nat.reduceLT, Nat.reduceAdd, Nat.reduceMul, Nat.reduceSub]
      exact e
    · intro k hk ih Y V hY a
      have e1 := s_114 (xs := xs) (d := d + 4) (M := ur (ur M 38 Y) 39 V) (R := R) (u := k) O (p := 5) (Or.inl rfl) (by omega)
      have hg := grp_lt O (u := k) (p := 5)
      unfold grp at hg
      obtain ⟨Z1, V1, b1', e2, p1, p2⟩ := s_115 (xs := xs) (d := d) (M := M) (R := R) (V := V) (T := T) (g := en (σ 1 6) fun l => decide (σ 5 l = k)) O hg hc25 (fun X hX => hTT X hX 5 (Or.inl rfl) k hk) hY
      obtain ⟨Z, V2, b, e, q1, q2⟩ := ih Z1 V1 (Su_lt p1.1 hY) (a || b1')
      refine ⟨Z, V2, b1' || b, ?_, DR_t p1 q1, fun h => ?_⟩
      · rw [← Bool.or_assoc]
        rw [eb_113_1]
        clear q1 q2 p1 p2 ih k2
        cases b1' <;> cases a
        · simp (disch := first | assumption | omega | exact st8_a (Nat.le_of_ble_eq_true rfl)) only [hk, e1, e2, eb_113_2, eb_113_3, eb_113_4, eb_113_5, eb_113_7, eb_113_8, kl_a, kl_d, kl_f, kl_i, kl_l, kl_n, kl_r, xr_1, xr_10, xr_2, xr_27, xr_28, xr_29, xr_3, xr_30, xr_31, xr_4, xr_42, xr_5, xr_67, af_0, af_1, xt_goto, xt_ib, xt_ic, xt_ic_ge, xt_if_eq, xt_if_ne, xt_ir, xt_nop, gF_37_0, gF_1_12, gF_1_13, xq_114_10_virtualc, xq_115_10_virtualc, iN_add, iN_mul, iN_sub, iN_and, iN_or, iN_clr, iN_shl, iN_shr, tb_r1, b1_z, b1_or, b1_and, b1_or0, b1_or1, b1_0or, b1_t, b1_f, iN_lt, iN_inj, reduceIte, if_true, if_false, Nat.zero_add, Nat.add_zero, Bool.false_eq_true, Bool.true_eq_false, Nat.lt_irrefl, iN_az, not_true_eq_false, not_false_eq_true, Nat.reduceEqDiff, Nat.reduceLT, Nat.reduceAdd, Nat.reduceMul, Nat.reduceSub]
          exact e
        · simp (disch := first | assumption | omega | exact st8_a (Nat.le_of_ble_eq_true rfl)) only [hk, e1, e2, eb_113_2, eb_113_3, eb_113_4, eb_113_5, eb_113_6, eb_113_8, kl_a, kl_d, kl_f, kl_i, kl_l, kl_n, kl_r, xr_1, xr_10, xr_2, xr_27, xr_28, xr_29, xr_3, xr_30, xr_31, xr_4, xr_42, xr_5, xr_67, af_0, af_1, xt_goto, xt_ib, xt_ic, xt_ic_ge, xt_if_eq, xt_if_ne, xt_ir, xt_nop, gF_37_0, gF_1_12, gF_1_13, xq_114_10_virtualc, xq_115_10_virtualc, iN_add, iN_mul, iN_sub, iN_and, iN_or, iN_clr, iN_shl, iN_shr, tb_r1, b1_z, b1_or, b1_and, b1_or0, b1_or1, b1_0or, b1_t, b1_f, iN_lt, iN_inj, reduceIte, if_true, if_false, Nat.zero_add, Nat.add_zero, Bool.false_eq_true, Bool.true_eq_false, Nat.lt_irrefl, iN_az, not_true_eq_false, not_false_eq_true, Nat.reduceEqDiff, Nat.reduceLT, Nat.reduceAdd, Nat.reduceMul, Nat.reduceSub]
          exact e
        · simp (disch := first | assumption | omega | exact st8_a (Nat.le_of_ble_eq_true rfl)) only [hk, e1, e2, eb_113_2, eb_113_3, eb_113_4, eb_113_6, eb_113_8, kl_a, kl_d, kl_f, kl_i, kl_l, kl_n, kl_r, xr_1, xr_10, xr_2, xr_27, xr_28, xr_29, xr_3, xr_30, xr_31, xr_4, xr_42, xr_5, xr_67, af_0, af_1, xt_goto, xt_ib, xt_ic, xt_ic_ge, xt_if_eq, xt_if_ne, xt_ir, xt_nop, gF_37_0, gF_1_12, gF_1_13, xq_114_10_virtualc, xq_115_10_virtualc, iN_add, iN_mul, iN_sub, iN_and, iN_or, iN_clr, iN_shl, iN_shr, tb_r1, b1_z, b1_or, b1_and, b1_or0, b1_or1, b1_0or, b1_t, b1_f, iN_lt, iN_inj, reduceIte, if_true, if_false, Nat.zero_add, Nat.add_zero, Bool.false_eq_true, Bool.true_eq_false, Nat.lt_irrefl, iN_az, not_true_eq_false, not_false_eq_true, Nat.reduceEqDiff, Nat.reduceLT, Nat.reduceAdd, Nat.reduceMul, Nat.reduceSub]
          exact e
        · simp (disch := first | assumption | omega | exact st8_a (Nat.le_of_ble_eq_true rfl)) only [hk, e1, e2, eb_113_2, eb_113_3, eb_113_4, eb_113_6, eb_113_8, kl_a, kl_d, kl_f, kl_i, kl_l, kl_n, kl_r, xr_1, xr_10, xr_2, xr_27, xr_28, xr_29, xr_3, xr_30, xr_31, xr_4, xr_42, xr_5, xr_67, af_0, af_1, xt_goto, xt_ib, xt_ic, xt_ic_ge, xt_if_eq, xt_if_ne, xt_ir, xt_nop, gF_37_0, gF_1_12, gF_1_13, xq_114_10_virtualc, xq_115_10_virtualc, iN_add, iN_mul, iN_sub, iN_and, iN_or, iN_clr, iN_shl, iN_shr, tb_r1, b1_z, b1_or, b1_and, b1_or0, b1_or1, b1_0or, b1_t, b1_f, iN_lt, iN_inj, reduceIte, if_true, if_false, Nat.zero_add, Nat.add_zero, Bool.false_eq_true, Bool.true_eq_false, Nat.lt_irrefl, iN_az, not_true_eq_false, not_false_eq_true, Nat.reduceEqDiff, Nat.reduceLT, Nat.reduceAdd, Nat.reduceMul, Nat.reduceSub]
          exact e
      · rw [Bool.or_eq_false_iff] at h
        refine ⟨fun u h1 h2 => ?_, fun u h2 => CG_cg (p1.2.1 h.1) ((q2 h.2).2 u h2)⟩
        by_cases hu : u = k
        · subst hu
          exact p2 h.1
        · exact CG_cg (p1.2.1 h.1) ((q2 h.2).1 u (by omega) h2)
  obtain ⟨Z, V2, b, e, q1, q2⟩ := k1 0 (by decide) Y V hY false
  refine ⟨Z, V2, b, ?_, q1, fun h p hp u hu => ?_⟩
  · rw [Bool.false_or] at e
    clear q1 q2 k1 k2
    simp (disch := first | assumption | omega | exact st8_a (Nat.le_of_ble_eq_true rfl)) only [eb_113_0, kl_a, kl_d, kl_f, kl_i, kl_l, kl_n, kl_r, xr_1, xr_10, xr_2, xr_27, xr_28, xr_29, xr_3, xr_30, xr_31, xr_4, xr_42, xr_5, xr_67, af_0, af_1, xt_goto, xt_ib, xt_ic, xt_ic_ge, xt_if_eq, xt_if_ne, xt_ir, xt_nop, gF_37_0, gF_1_12, gF_1_13, xq_114_10_virtualc, xq_115_10_virtualc, iN_add, iN_mul, iN_sub, iN_and, iN_or, iN_clr, iN_shl, iN_shr, tb_r1, b1_z, b1_or, b1_and, b1_or0, b1_or1, b1_0or, b1_t, b1_f, iN_lt, iN_inj, reduceIte, if_true, if_false, Nat.zero_add, Nat.add_zero, Bool.false_eq_true, Bool.true_eq_false, Nat.lt_irrefl, iN_az, not_true_eq_false, not_false_eq_true, Nat.reduceEqDiff, Nat.reduceLT, Nat.reduceAdd, Nat.reduceMul, Nat.reduceSub]
    exact e
  · rcases hp with rfl | rfl
    · exact (q2 h).1 u (Nat.zero_le _) hu
    · exact (q2 h).2 u hu
end Vf
