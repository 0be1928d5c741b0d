/-! THE CLASS Exams: fill, spread -/
/-- days of the lessons of u from i on that go with those before -/
def xag (u i : Nat) (g f : Nat → Nat) : Prop := ∀ j, j < i → u.testBit j = true → g j = f j
/-- g is smaller than f at the first lesson of u where they part -/
def xls (σ : Nat → Nat → Nat) (u i : Nat) (g f : Nat → Nat) : Prop := ∃ k, i ≤ k ∧ k < (σ 1 6) ∧ u.testBit k = true ∧ xag u k g f ∧ g k < f k
section Xb
variable {xs : List Int32} {σ M N : Nat → Nat → Nat} {R : ab_H} {d k a b u i v n : Nat} {f g : Nat → Nat}
set_option maxRecDepth 100000 in
theorem xfr_cg (h : xag u i g f) (hx : xfr σ u f i v) : xfr σ u g i v := fun j hj hu hv => hx j hj hu (by rw [← h j hj hu]; exact hv)
set_option maxRecDepth 100000 in
theorem xag_s (h : xag u i g f) : xag u i f g := fun j hj hu => (h j hj hu).symm
/-- what fill does: the smallest days that go, if any do -/
def XF (σ : Nat → Nat → Nat) (u n i : Nat) (f f' : Nat → Nat) (b : Bool) : Prop :=
  (∀ j, j < i → f' j = f j) ∧ (∀ j, f' j < 4294967296) ∧
  (b = false → ∀ g, xag u i g f → ¬ GA σ u n i g) ∧
  (b = true → GA σ u n i f' ∧ ∀ g, xag u i g f → GA σ u n i g → ¬ xls σ u i g f')
set_option maxRecDepth 100000 in
theorem s_10 (O : Ok σ) (hu : u < 64) (hn : n ≤ 6) : ∀ k i, i + k = (σ 1 6) → ∀ M : Nat → Nat → Nat, (∀ j, M 53 j < 4294967296) → ∃ f', ∃ b : Bool, ev xs (d + k + 2) 10 0 ([.ref 52, .int (nI u), .int (nI i), .int (nI n), .retAddr 9], [], hc σ M R) = some (.inl (some (.int (nI (b1 b)))), hc σ (ur M 53 f') R) ∧ XF σ u n i (M 53) f' b := by
  obtain ⟨hD1, hD2, hH1, hH2, hS, hC, hT, hR, hL, hQ⟩ := Ok_b O
  intro k
  induction k with
  | zero =>
    intro i hi M hM
    refine ⟨M 53, true, ?_, fun _ _ => rfl, hM, fun h => (by cases h), fun _ => ⟨fun j h1 h2 => by omega, fun g _ _ ⟨k, h1, h2, _⟩ => by omega⟩⟩
    have h1 : ¬ i < (σ 1 6) := by omega
    rw [ur_id]
    simp (disch := first | assumption | omega | exact st8_a (Nat.le_of_ble_eq_true rfl)) only [h1, eb_10_0, eb_10_1, kl_a, kl_d, kl_f, kl_i, kl_l, kl_n, kl_r, xr_1, xr_10, xr_2, xr_27, xr_28, xr_3, xr_31, xr_33, xr_34, xr_37, xr_38, xr_4, xr_40, xr_44, xr_5, xr_55, af_0, af_1, xt_goto, xt_ib, xt_ic, xt_ic_ge, xt_ic_lt, xt_if_eq, xt_if_ne, xt_ir, xt_nop, gF_52_0, gF_52_1, gF_1_6, gW_2, gW_3, gW_4, gW_5, gW_6, gW_7, gW_8, gW_9, gW_10, gW_11, gW_13, gW_14, gW_16, gW_17, gW_20, gW_21, gW_22, gW_23, gW_24, gW_25, gW_26, gW_27, gW_30, gW_31, gW_32, gW_33, gW_34, gW_35, gW_36, gW_38, gW_39, gW_41, gW_42, gW_46, gW_47, gW_49, gW_50, gW_51, gW_53, gW_56, gW_57, gW_59, gW_60, xq_10_1_virtualc, xq_11_1_virtualc, iN_add, iN_mul, iN_sub, iN_and, iN_or, iN_clr, iN_shl, iN_shr, tb_r1, b1_z, b1_or, b1_and, b1_or0, b1_or1, b1_0or, b1_t, b1_f, iN_lt, iN_inj, reduceIte, if_true, if_false, Nat.zero_add, Nat.add_zero, Bool.false_eq_true, Bool.true_eq_false, Nat.lt_irrefl, iN_az, not_true_eq_false, not_false_eq_true, Nat.reduceEqDiff, Nat.reduceLT, Nat.reduceAdd, Nat.reduceMul, Nat.reduceSub]
  | succ k ih =>
    intro i hi M hM
    have hiL : i < (σ 1 6) := by omega
    have hi6 : i < 6 := by omega
    by_cases h1 : u.testBit i = true
    · have key : ∀ v, v ≤ n → ∀ M2 : Nat → Nat → Nat, (∃ q, M2 = ur M 53 q) → (∀ j, j < i → M2 53 j = M 53 j) → (∀ j, M2 53 j < 4294967296) → (∀ g, xag u i g (M 53) → GA σ u n i g → ¬ g i < v) → ∃ f', ∃ b : Bool, ev xs (d + (k + 1) + 2) 10 6 ([.ref 52, .int (nI u), .int (nI i), .int (nI n), .int (nI v)], [], hc σ M2 R) = some (.inl (some (.int (nI (b1 b)))), hc σ (ur M 53 f') R) ∧ XF σ u n i (M 53) f' b := by
        refine lp n ?_ ?_
        · rintro M2 ⟨q0, rfl⟩ hag hb2 hno
          refine ⟨q0, false, ?_, fun j hj => by rw [← hag j hj, ur_s], fun j => by have := hb2 j; rw [ur_s] at this; exact this, fun _ g hg hga => hno g hg hga (hga i (Nat.le_refl _) hiL h1).1, fun h => (by cases h)⟩
          rw [eb_10_6]
          clear hno ih hag
          simp (disch := first | assumption | omega | exact st8_a (Nat.le_of_ble_eq_true rfl)) only [eb_10_13, kl_a, kl_d, kl_f, kl_i, kl_l, kl_n, kl_r, xr_1, xr_10, xr_2, xr_27, xr_28, xr_3, xr_31, xr_33, xr_34, xr_37, xr_38, xr_4, xr_40, xr_44, xr_5, xr_55, af_0, af_1, xt_goto, xt_ib, xt_ic, xt_ic_ge, xt_ic_lt, xt_if_eq, xt_if_ne, xt_ir, xt_nop, gF_52_0, gF_52_1, gF_1_6, gW_2, gW_3, gW_4, gW_5, gW_6, gW_7, gW_8, gW_9, gW_10, gW_11, gW_13, gW_14, gW_16, gW_17, gW_20, gW_21, gW_22, gW_23, gW_24, gW_25, gW_26, gW_27, gW_30, gW_31, gW_32, gW_33, gW_34, gW_35, gW_36, gW_38, gW_39, gW_41, gW_42, gW_46, gW_47, gW_49, gW_50, gW_51, gW_53, gW_56, gW_57, gW_59, gW_60, xq_10_1_virtualc, xq_11_1_virtualc, iN_add, iN_mul, iN_sub, iN_and, iN_or, iN_clr, iN_shl, iN_shr, tb_r1, b1_z, b1_or, b1_and, b1_or0, b1_or1, b1_0or, b1_t, b1_f, iN_lt, iN_inj, reduceIte, if_true, if_false, Nat.zero_add, Nat.add_zero, Bool.false_eq_true, Bool.true_eq_false, Nat.lt_irrefl, iN_az, not_true_eq_false, not_false_eq_true, Nat.reduceEqDiff, Nat.reduceLT, Nat.reduceAdd, Nat.reduceMul, Nat.reduceSub]
        · intro v hv ihv M2 hq0 hag hb2 hno
          obtain ⟨b0, e0, x0⟩ := s_11 (xs := xs) (d := d + k + 1) (M := M2) (R := R) O hu hiL (show v < 6 by omega) hb2
          have agM : xag u i (M2 53) (M 53) := fun j hj _ => hag j hj
          have skip : ∀ M3 : Nat → Nat → Nat, (∃ q, M3 = ur M 53 q) → (∀ j, j < i → M3 53 j = M 53 j) → (∀ j, M3 53 j < 4294967296) → (∀ g, xag u i g (M 53) → GA σ u n i g → ¬ g i = v) → ∃ f', ∃ b : Bool, ev xs (d + (k + 1) + 2) 10 6 ([.ref 52, .int (nI u), .int (nI i), .int (nI n), .int (nI (v + 1))], [], hc σ M3 R) = some (.inl (some (.int (nI (b1 b)))), hc σ (ur M 53 f') R) ∧ XF σ u n i (M 53) f' b := fun M3 q1 q2 q3 q4 => ihv M3 q1 q2 q3 fun g z1 z2 z3 => by
            have := hno g z1 z2
            have := q4 g z1 z2
            omega
          rw [show d + k + 1 + 1 = d + (k + 1) + 1 from rfl] at e0
          rw [eb_10_6]
          cases b0
          · obtain ⟨f', b, e, q⟩ := skip M2 hq0 hag hb2 fun g z1 z2 z3 => by
              have h5 := (z2 i (Nat.le_refl _) hiL h1).2
              rw [z3] at h5
              have := x0.mpr (xfr_cg (fun j hj hu => by rw [hag j hj]; exact (z1 j hj hu).symm) h5)
              cases this
            refine ⟨f', b, ?_, q⟩
            clear q ih ihv hno hag skip x0 agM hq0
            simp (disch := first | assumption | omega | exact st8_a (Nat.le_of_ble_eq_true rfl)) only [hv, e0, eb_10_7, eb_10_8, eb_10_12, kl_a, kl_d, kl_f, kl_i, kl_l, kl_n, kl_r, xr_1, xr_10, xr_2, xr_27, xr_28, xr_3, xr_31, xr_33, xr_34, xr_37, xr_38, xr_4, xr_40, xr_44, xr_5, xr_55, af_0, af_1, xt_goto, xt_ib, xt_ic, xt_ic_ge, xt_ic_lt, xt_if_eq, xt_if_ne, xt_ir, xt_nop, gF_52_0, gF_52_1, gF_1_6, gW_2, gW_3, gW_4, gW_5, gW_6, gW_7, gW_8, gW_9, gW_10, gW_11, gW_13, gW_14, gW_16, gW_17, gW_20, gW_21, gW_22, gW_23, gW_24, gW_25, gW_26, gW_27, gW_30, gW_31, gW_32, gW_33, gW_34, gW_35, gW_36, gW_38, gW_39, gW_41, gW_42, gW_46, gW_47, gW_49, gW_50, gW_51, gW_53, gW_56, gW_57, gW_59, gW_60, xq_10_1_virtualc, xq_11_1_virtualc, iN_add, iN_mul, iN_sub, iN_and, iN_or, iN_clr, iN_shl, iN_shr, tb_r1, b1_z, b1_or, b1_and, b1_or0, b1_or1, b1_0or, b1_t, b1_f, iN_lt, iN_inj, reduceIte, if_true, if_false, Nat.zero_add, Nat.add_zero, Bool.false_eq_true, Bool.true_eq_false, Nat.lt_irrefl, iN_az, not_true_eq_false, not_false_eq_true, Nat.reduceEqDiff, Nat.reduceLT, Nat.reduceAdd, Nat.reduceMul, Nat.reduceSub]
            exact e
          · have hfree := x0.mp rfl
            have hM3 : ∀ j, up M2 53 i v 53 j < 4294967296 := fun j => by
              rw [up_s]
              by_cases h : j = i
              · rw [h, u1_s]; omega
              · rw [u1_n h]; exact hb2 j
            obtain ⟨f1, b1', e2, p1, p2, p3, p4⟩ := ih (i + 1) (by omega) (up M2 53 i v) hM3
            have hf1i : f1 i = v := by rw [p1 i (by omega), up_s, u1_s]
            have hf1 : ∀ j, j < i → f1 j = M 53 j := fun j hj => by rw [p1 j (by omega), up_s, u1_n (by omega), hag j hj]
            have hsame : ∀ g, xag u i g (M 53) → g i = v → xag u (i + 1) g (up M2 53 i v 53) := fun g hg hgv j hj huj => by
              rw [up_s]
              by_cases h : j = i
              · rw [h, u1_s, hgv]
              · rw [u1_n h, hg j (by omega) huj, hag j (by omega)]
            have hur : ur (up M2 53 i v) 53 f1 = ur M 53 f1 := by
              obtain ⟨q, rfl⟩ := hq0
              rw [ur_up, ur_ur]
            rw [hur, show d + k + 2 = d + (k + 1) + 1 from rfl] at e2
            cases b1'
            · obtain ⟨f', b, e, q⟩ := skip (ur M 53 f1) ⟨f1, rfl⟩ (fun j hj => by rw [ur_s]; exact hf1 j hj) (fun j => by rw [ur_s]; exact p2 j) fun g z1 z2 z3 => p3 rfl g (hsame g z1 z3) fun j h2 h3 h4 => z2 j (by omega) h3 h4
              refine ⟨f', b, ?_, q⟩
              clear q ih ihv hno hag skip x0 agM hq0 hfree p3 p4 hsame
              simp (disch := first | assumption | omega | exact st8_a (Nat.le_of_ble_eq_true rfl)) only [hv, e0, e2, eb_10_7, eb_10_8, eb_10_9, eb_10_10, eb_10_12, kl_a, kl_d, kl_f, kl_i, kl_l, kl_n, kl_r, xr_1, xr_10, xr_2, xr_27, xr_28, xr_3, xr_31, xr_33, xr_34, xr_37, xr_38, xr_4, xr_40, xr_44, xr_5, xr_55, af_0, af_1, xt_goto, xt_ib, xt_ic, xt_ic_ge, xt_ic_lt, xt_if_eq, xt_if_ne, xt_ir, xt_nop, gF_52_0, gF_52_1, gF_1_6, gW_2, gW_3, gW_4, gW_5, gW_6, gW_7, gW_8, gW_9, gW_10, gW_11, gW_13, gW_14, gW_16, gW_17, gW_20, gW_21, gW_22, gW_23, gW_24, gW_25, gW_26, gW_27, gW_30, gW_31, gW_32, gW_33, gW_34, gW_35, gW_36, gW_38, gW_39, gW_41, gW_42, gW_46, gW_47, gW_49, gW_50, gW_51, gW_53, gW_56, gW_57, gW_59, gW_60, xq_10_1_virtualc, xq_11_1_virtualc, iN_add, iN_mul, iN_sub, iN_and, iN_or, iN_clr, iN_shl, iN_shr, tb_r1, b1_z, b1_or, b1_and, b1_or0, b1_or1, b1_0or, b1_t, b1_f, iN_lt, iN_inj, reduceIte, if_true, if_false, Nat.zero_add, Nat.add_zero, Bool.false_eq_true, Bool.true_eq_false, Nat.lt_irrefl, iN_az, not_true_eq_false, not_false_eq_true, Nat.reduceEqDiff, Nat.reduceLT, Nat.reduceAdd, Nat.reduceMul, Nat.reduceSub]
              exact e
            · obtain ⟨p5, p6⟩ := p4 rfl
              refine ⟨f1, true, ?_, hf1, p2, fun h => (by cases h), fun _ => ⟨fun j h2 h3 h4 => ?_, fun g z1 z2 ⟨m, h2, h3, h4, h5, h6⟩ => ?_⟩⟩
              · clear ih ihv hno hag skip x0 agM hq0 hfree p3 p4 hsame p5 p6
                simp (disch := first | assumption | omega | exact st8_a (Nat.le_of_ble_eq_true rfl)) only [hv, e0, e2, eb_10_7, eb_10_8, eb_10_9, eb_10_10, eb_10_11, kl_a, kl_d, kl_f, kl_i, kl_l, kl_n, kl_r, xr_1, xr_10, xr_2, xr_27, xr_28, xr_3, xr_31, xr_33, xr_34, xr_37, xr_38, xr_4, xr_40, xr_44, xr_5, xr_55, af_0, af_1, xt_goto, xt_ib, xt_ic, xt_ic_ge, xt_ic_lt, xt_if_eq, xt_if_ne, xt_ir, xt_nop, gF_52_0, gF_52_1, gF_1_6, gW_2, gW_3, gW_4, gW_5, gW_6, gW_7, gW_8, gW_9, gW_10, gW_11, gW_13, gW_14, gW_16, gW_17, gW_20, gW_21, gW_22, gW_23, gW_24, gW_25, gW_26, gW_27, gW_30, gW_31, gW_32, gW_33, gW_34, gW_35, gW_36, gW_38, gW_39, gW_41, gW_42, gW_46, gW_47, gW_49, gW_50, gW_51, gW_53, gW_56, gW_57, gW_59, gW_60, xq_10_1_virtualc, xq_11_1_virtualc, iN_add, iN_mul, iN_sub, iN_and, iN_or, iN_clr, iN_shl, iN_shr, tb_r1, b1_z, b1_or, b1_and, b1_or0, b1_or1, b1_0or, b1_t, b1_f, iN_lt, iN_inj, reduceIte, if_true, if_false, Nat.zero_add, Nat.add_zero, Bool.false_eq_true, Bool.true_eq_false, Nat.lt_irrefl, iN_az, not_true_eq_false, not_false_eq_true, Nat.reduceEqDiff, Nat.reduceLT, Nat.reduceAdd, Nat.reduceMul, Nat.reduceSub]
              · by_cases hji : j = i
                · subst hji
                  rw [hf1i]
                  refine ⟨hv, xfr_cg (f := M2 53) (fun t ht _ => ?_) hfree⟩
                  rw [hf1 t ht, hag t ht]
                · exact p5 j (by omega) h3 h4
              · by_cases hmi : m = i
                · subst hmi
                  rw [hf1i] at h6
                  exact hno g z1 z2 h6
                · have hgi : g i = v := by rw [h5 i (by omega) h1, hf1i]
                  exact p6 g (hsame g z1 hgi) (fun j a1 a2 a3 => z2 j (by omega) a2 a3) ⟨m, by omega, h3, h4, h5, h6⟩
      obtain ⟨f', b, e, q⟩ := key 0 (Nat.zero_le _) M ⟨M 53, (ur_id _ _).symm⟩ (fun _ _ => rfl) hM fun g _ _ h => by omega
      refine ⟨f', b, ?_, q⟩
      clear q key ih
      simp (disch := first | assumption | omega | exact st8_a (Nat.le_of_ble_eq_true rfl)) only [hiL, h1, eb_10_0, eb_10_2, eb_10_5, kl_a, kl_d, kl_f, kl_i, kl_l, kl_n, kl_r, xr_1, xr_10, xr_2, xr_27, xr_28, xr_3, xr_31, xr_33, xr_34, xr_37, xr_38, xr_4, xr_40, xr_44, xr_5, xr_55, af_0, af_1, xt_goto, xt_ib, xt_ic, xt_ic_ge, xt_ic_lt, xt_if_eq, xt_if_ne, xt_ir, xt_nop, gF_52_0, gF_52_1, gF_1_6, gW_2, gW_3, gW_4, gW_5, gW_6, gW_7, gW_8, gW_9, gW_10, gW_11, gW_13, gW_14, gW_16, gW_17, gW_20, gW_21, gW_22, gW_23, gW_24, gW_25, gW_26, gW_27, gW_30, gW_31, gW_32, gW_33, gW_34, gW_35, gW_36, gW_38, gW_39, gW_41, gW_42, gW_46, gW_47, gW_49, gW_50, gW_51, gW_53, gW_56, gW_57, gW_59, gW_60, xq_10_1_virtualc, xq_11_1_virtualc, iN_add, iN_mul, iN_sub, iN_and, iN_or, iN_clr, iN_shl, iN_shr, tb_r1, b1_z, b1_or, b1_and, b1_or0, b1_or1, b1_0or, b1_t, b1_f, iN_lt, iN_inj, reduceIte, if_true, if_false, Nat.zero_add, Nat.add_zero, Bool.false_eq_true, Bool.true_eq_false, Nat.lt_irrefl, iN_az, not_true_eq_false, not_false_eq_true, Nat.reduceEqDiff, Nat.reduceLT, Nat.reduceAdd, Nat.reduceMul, Nat.reduceSub]
      exact e
    · have h1 : u.testBit i = false := by simpa using h1
      obtain ⟨f', b, e, p1, p2, p3, p4⟩ := ih (i + 1) (by omega) M hM
      have hup : ∀ g : Nat → Nat, xag u i g (M 53) → xag u (i + 1) g (M 53) := fun g hg j hj huj => by
        by_cases h : j = i
        · rw [h, h1] at huj; cases huj
        · exact hg j (by omega) huj
      refine ⟨f', b, ?_, fun j hj => p1 j (by omega), p2, fun h g hg hga => p3 h g (hup g hg) fun j a1 a2 a3 => hga j (by omega) a2 a3, fun h => ⟨fun j a1 a2 a3 => ?_, fun g hg hga ⟨m, h2, h3, h4, h5, h6⟩ => ?_⟩⟩
      · rw [show d + k + 2 = d + (k + 1) + 1 from rfl] at e
        clear p1 p2 p3 p4 ih hup
        rw [eb_10_0]
        simp (disch := first | assumption | omega | exact st8_a (Nat.le_of_ble_eq_true rfl)) only [hiL, h1, e, eb_10_2, eb_10_3, eb_10_4, kl_a, kl_d, kl_f, kl_i, kl_l, kl_n, kl_r, xr_1, xr_10, xr_2, xr_27, xr_28, xr_3, xr_31, xr_33, xr_34, xr_37, xr_38, xr_4, xr_40, xr_44, xr_5, xr_55, af_0, af_1, xt_goto, xt_ib, xt_ic, xt_ic_ge, xt_ic_lt, xt_if_eq, xt_if_ne, xt_ir, xt_nop, gF_52_0, gF_52_1, gF_1_6, gW_2, gW_3, gW_4, gW_5, gW_6, gW_7, gW_8, gW_9, gW_10, gW_11, gW_13, gW_14, gW_16, gW_17, gW_20, gW_21, gW_22, gW_23, gW_24, gW_25, gW_26, gW_27, gW_30, gW_31, gW_32, gW_33, gW_34, gW_35, gW_36, gW_38, gW_39, gW_41, gW_42, gW_46, gW_47, gW_49, gW_50, gW_51, gW_53, gW_56, gW_57, gW_59, gW_60, xq_10_1_virtualc, xq_11_1_virtualc, iN_add, iN_mul, iN_sub, iN_and, iN_or, iN_clr, iN_shl, iN_shr, tb_r1, b1_z, b1_or, b1_and, b1_or0, b1_or1, b1_0or, b1_t, b1_f, iN_lt, iN_inj, reduceIte, if_true, if_false, Nat.zero_add, Nat.add_zero, Bool.false_eq_true, Bool.true_eq_false, Nat.lt_irrefl, iN_az, not_true_eq_false, not_false_eq_true, Nat.reduceEqDiff, Nat.reduceLT, Nat.reduceAdd, Nat.reduceMul, Nat.reduceSub]
      · by_cases hji : j = i
        · rw [hji, h1] at a3; cases a3
        · exact (p4 h).1 j (by omega) a2 a3
      · by_cases hmi : m = i
        · rw [hmi, h1] at h4; cases h4
        · exact (p4 h).2 g (hup g hg) (fun j a1 a2 a3 => hga j (by omega) a2 a3) ⟨m, by omega, h3, h4, h5, h6⟩
/-- the fewest days, at most six -/
def XS (σ : Nat → Nat → Nat) (u : Nat) (g : Nat → Nat) (n : Nat) : Prop := GA σ u n 0 g ∧ (∀ m, m < n → ∀ g2, ¬ GA σ u m 0 g2) ∧ ∀ g2, GA σ u n 0 g2 → ¬ xls σ u 0 g2 g
set_option maxRecDepth 100000 in
theorem GA_6 (O : Ok σ) : GA σ u 6 0 fun j => j := by
  obtain ⟨hD1, hD2, hH1, hH2, hS, hC, hT, hR, hL, hQ⟩ := Ok_b O
  intro j h1 h2 h3
  refine ⟨show j < 6 by omega, fun i hi _ hij => ?_⟩
  have hij2 : i = j := hij
  omega
set_option maxRecDepth 100000 in
theorem s_9 (O : Ok σ) (hu : u < 64) {M : Nat → Nat → Nat} (hM : ∀ j, M 53 j < 4294967296) : ∃ f, ∃ v, ev xs (d + 9) 9 0 ([.ref 52, .int (nI u), .retAddr 9], [], hc σ M R) = some (.inl (some (.int (nI (v)))), hc σ (ur M 53 f) R) ∧ (∀ j, f j < 4294967296) ∧ v ≤ 6 ∧ XS σ u f v := by
  obtain ⟨hD1, hD2, hH1, hH2, hS, hC, hT, hR, hL, hQ⟩ := Ok_b O
  have call : ∀ n, n ≤ 6 → ∀ M : Nat → Nat → Nat, (∀ j, M 53 j < 4294967296) → ∃ f', ∃ b : Bool, ev xs (d + 8) 10 0 ([.ref 52, .int (nI u), .int (nI 0), .int (nI n), .retAddr 9], [], hc σ M R) = some (.inl (some (.int (nI (b1 b)))), hc σ (ur M 53 f') R) ∧ XF σ u n 0 (M 53) f' b := by
    intro n hn M hM
    have := s_10 (xs := xs) (d := d + (6 - (σ 1 6))) (R := R) O hu hn (σ 1 6) 0 (Nat.zero_add _) M hM
    rw [show d + (6 - (σ 1 6)) + (σ 1 6) + 2 = d + 8 by omega] at this
    exact this
  have key : ∀ n, n ≤ 6 → ∀ M2 : Nat → Nat → Nat, (∃ q, M2 = ur M 53 q) → (∀ j, M2 53 j < 4294967296) → (∀ m, m < n → ∀ g2, ¬ GA σ u m 0 g2) → ∃ f, ∃ v, ev xs (d + 9) 9 1 ([.ref 52, .int (nI u), .int (nI n)], [], hc σ M2 R) = some (.inl (some (.int (nI (v)))), hc σ (ur M 53 f) R) ∧ (∀ j, f j < 4294967296) ∧ v ≤ 6 ∧ XS σ u f v := by
    refine lp 6 ?_ ?_
    · rintro M2 ⟨q, rfl⟩ hb hno
      obtain ⟨f, b, e, p1, p2, p3, p4⟩ := call 6 (by decide) (ur M 53 q) hb
      cases b
      · exact absurd (GA_6 O) (p3 rfl _ fun j hj => by omega)
      · obtain ⟨p5, p6⟩ := p4 rfl
        rw [ur_ur] at e
        refine ⟨f, 6, ?_, p2, by decide, p5, hno, fun g2 hg => p6 g2 (fun j hj => by omega) hg⟩
        rw [eb_9_1]
        clear p1 p3 p4 p5 p6 hno call
        simp (disch := first | assumption | omega | exact st8_a (Nat.le_of_ble_eq_true rfl)) only [e, eb_9_6, eb_9_7, kl_a, kl_d, kl_f, kl_i, kl_l, kl_n, kl_r, xr_1, xr_10, xr_2, xr_28, xr_3, xr_30, xr_31, xr_4, xr_42, xr_48, xr_5, xr_53, xr_54, af_0, af_1, xt_goto, xt_ib, xt_ic, xt_ic_ge, xt_if_eq, xt_ir, xt_nop, xq_10_1_virtualc, iN_add, iN_mul, iN_sub, iN_and, iN_or, iN_clr, iN_shl, iN_shr, tb_r1, b1_z, b1_or, b1_and, b1_or0, b1_or1, b1_0or, b1_t, b1_f, iN_lt, iN_inj, reduceIte, if_true, if_false, Nat.zero_add, Nat.add_zero, Bool.false_eq_true, Bool.true_eq_false, Nat.lt_irrefl, iN_az, not_true_eq_false, not_false_eq_true, Nat.reduceEqDiff, Nat.reduceLT, Nat.reduceAdd, Nat.reduceMul, Nat.reduceSub]
    · rintro n hn ih M2 ⟨q, rfl⟩ hb hno
      obtain ⟨f, b, e, p1, p2, p3, p4⟩ := call n (by omega) (ur M 53 q) hb
      rw [ur_ur] at e
      cases b
      · obtain ⟨f2, v, e2, r⟩ := ih (ur M 53 f) ⟨f, rfl⟩ (fun j => by rw [ur_s]; exact p2 j) fun m hm g2 hg => by
          by_cases h : m = n
          · rw [h] at hg
            exact p3 rfl g2 (fun j hj => by omega) hg
          · exact hno m (by omega) g2 hg
        refine ⟨f2, v, ?_, r⟩
        rw [eb_9_1]
        clear p1 p3 p4 hno call r ih
        simp (disch := first | assumption | omega | exact st8_a (Nat.le_of_ble_eq_true rfl)) only [hn, e, eb_9_2, eb_9_3, eb_9_5, kl_a, kl_d, kl_f, kl_i, kl_l, kl_n, kl_r, xr_1, xr_10, xr_2, xr_28, xr_3, xr_30, xr_31, xr_4, xr_42, xr_48, xr_5, xr_53, xr_54, af_0, af_1, xt_goto, xt_ib, xt_ic, xt_ic_ge, xt_if_eq, xt_ir, xt_nop, xq_10_1_virtualc, iN_add, iN_mul, iN_sub, iN_and, iN_or, iN_clr, iN_shl, iN_shr, tb_r1, b1_z, b1_or, b1_and, b1_or0, b1_or1, b1_0or, b1_t, b1_f, iN_lt, iN_inj, reduceIte, if_true, if_false, Nat.zero_add, Nat.add_zero, Bool.false_eq_true, Bool.true_eq_false, Nat.lt_irrefl, iN_az, not_true_eq_false, not_false_eq_true, Nat.reduceEqDiff, Nat.reduceLT, Nat.reduceAdd, Nat.reduceMul, Nat.reduceSub]
        exact e2
      · obtain ⟨p5, p6⟩ := p4 rfl
        refine ⟨f, n, ?_, p2, by omega, p5, hno, fun g2 hg => p6 g2 (fun j hj => by omega) hg⟩
        rw [eb_9_1]
        clear p1 p3 p4 p5 p6 hno call ih
        simp (disch := first | assumption | omega | exact st8_a (Nat.le_of_ble_eq_true rfl)) only [hn, e, eb_9_2, eb_9_3, eb_9_4, kl_a, kl_d, kl_f, kl_i, kl_l, kl_n, kl_r, xr_1, xr_10, xr_2, xr_28, xr_3, xr_30, xr_31, xr_4, xr_42, xr_48, xr_5, xr_53, xr_54, af_0, af_1, xt_goto, xt_ib, xt_ic, xt_ic_ge, xt_if_eq, xt_ir, xt_nop, xq_10_1_virtualc, iN_add, iN_mul, iN_sub, iN_and, iN_or, iN_clr, iN_shl, iN_shr, tb_r1, b1_z, b1_or, b1_and, b1_or0, b1_or1, b1_0or, b1_t, b1_f, iN_lt, iN_inj, reduceIte, if_true, if_false, Nat.zero_add, Nat.add_zero, Bool.false_eq_true, Bool.true_eq_false, Nat.lt_irrefl, iN_az, not_true_eq_false, not_false_eq_true, Nat.reduceEqDiff, Nat.reduceLT, Nat.reduceAdd, Nat.reduceMul, Nat.reduceSub]
  obtain ⟨f, v, e, q⟩ := key 0 (Nat.zero_le _) M ⟨M 53, (ur_id _ _).symm⟩ hM fun m hm => by omega
  refine ⟨f, v, ?_, q⟩
  clear q key call
  simp (disch := first | assumption | omega | exact st8_a (Nat.le_of_ble_eq_true rfl)) only [eb_9_0, kl_a, kl_d, kl_f, kl_i, kl_l, kl_n, kl_r, xr_1, xr_10, xr_2, xr_28, xr_3, xr_30, xr_31, xr_4, xr_42, xr_48, xr_5, xr_53, xr_54, af_0, af_1, xt_goto, xt_ib, xt_ic, xt_ic_ge, xt_if_eq, xt_ir, xt_nop, xq_10_1_virtualc, iN_add, iN_mul, iN_sub, iN_and, iN_or, iN_clr, iN_shl, iN_shr, tb_r1, b1_z, b1_or, b1_and, b1_or0, b1_or1, b1_0or, b1_t, b1_f, iN_lt, iN_inj, reduceIte, if_true, if_false, Nat.zero_add, Nat.add_zero, Bool.false_eq_true, Bool.true_eq_false, Nat.lt_irrefl, iN_az, not_true_eq_false, not_false_eq_true, Nat.reduceEqDiff, Nat.reduceLT, Nat.reduceAdd, Nat.reduceMul, Nat.reduceSub]
  exact e
end Xb
