/-! THE CLASS Question: ask, and the costs -/
/-- what a question is after ask: the rows, and what was taken away in vain -/
def AskQ (σ : Nat → Nat → Nat) (set : Nat) (M : Nat → Nat → Nat) : Prop :=
  (∀ l, l < (σ 1 6) → ∀ i, (M 20 l).testBit i = true → i < (σ 1 2) ∧ s0 σ set (σ 1 7) l i) ∧
  (∀ l, l < (σ 1 6) → ∀ i, (M 21 l).testBit i = true ↔ i < (σ 1 5) ∧ r0 σ set (σ 1 7) l i) ∧
  (∀ l s o i, l < (σ 1 6) → o < (σ 1 6) → l ≠ o → s < (σ 1 2) → (fb (M 23) l s o i = true ↔ i < (σ 1 2) ∧ f0 σ set (σ 1 7) l s o i ∧ ¬ (kr M l o ∧ cov σ l s &&& cov σ o i ≠ 0))) ∧
  (∀ t, t < (σ 1 4) → dq σ set (σ 1 7) t (M 22 t)) ∧
  (∀ l, l < (σ 1 6) → ∀ s, s < (σ 1 2) → M 25 (l * 6 + s) = cov σ l s) ∧
  (∀ X, FX σ (M 23) X → (∀ l, l < (σ 1 6) → ∀ s r, X l s r → s0 σ set (σ 1 7) l s) → JX σ X (M 20))
section Qe
variable {xs : List Int32} {d : Nat} {σ M : Nat → Nat → Nat} {R h : ab_H} {l o s i u q n set k : Nat}
set_option maxRecDepth 100000 in
theorem fl_c {a n v : Nat} (ha : (hc σ M R)[a]? = some (oI (ar n (M a)))) (hu : ∀ f, (hc σ M R).set a (oI (ar n f)) = hc σ (ur M a f) R) (hn : n < 2000000) : ev xs d 278 0 ([.ref a, .int (nI v), .retAddr 9, .retAddr 9], [], hc σ M R) = some (.inl none, hc σ (ur M a fun _ => v) R) := by
  rw [s_278 ha hn, hu]
set_option maxRecDepth 100000 in
theorem kr_s {M : Nat → Nat → Nat} {l o : Nat} : kr M l o ↔ kr M o l := by
  unfold kr
  constructor <;> rintro ⟨a, b⟩ <;> exact ⟨a.symm, by rw [← a] at *; exact b⟩
set_option maxRecDepth 100000 in
theorem s_26 (O : Ok σ) (hset : set < 1024) (hch : M 1 8 < 4294967296) (hkn : M 19 11 < 4294967296) (hG : M 19 11 = M 1 8 → GO σ M) : ∃ M', ev xs (d + 4) 26 0 ([.ref 19, .int (nI set), .retAddr 9, .retAddr 9], [], hc σ M R) = some (.inl none, hc σ M' R) ∧ Fr [19, 20, 21, 22, 23, 24, 25, 26, 27] M M' ∧ GO σ M' ∧ AskQ σ set M' ∧ M' 19 10 = 0 ∧ M' 19 11 = M 1 8 ∧ (∀ j, M' 26 j = 0) ∧ ∀ j, M' 27 j = 0 := by
  obtain ⟨hD1, hD2, hH1, hH2, hS, hC, hT, hR, hL, hQ⟩ := Ok_b O
  -- the rounds that take lonely starts away
  have last : ∀ j, j ≤ 37 → ∀ N (b : Bool), (Fr [19, 20, 21, 22, 23, 24, 25, 26, 27] M N ∧ GO σ N ∧ AskQ σ set N ∧ N 19 10 = 0 ∧ N 19 11 = M 1 8 ∧ (∀ j, N 26 j = 0) ∧ ∀ j, N 27 j = 0) → ∃ M', ev xs (d + 4) 26 22 ([.ref 19, .int (nI set), .int (nI (b1 b)), .int (nI j)], [], hc σ N R) = some (.inl none, hc σ M' R) ∧ Fr [19, 20, 21, 22, 23, 24, 25, 26, 27] M M' ∧ GO σ M' ∧ AskQ σ set M' ∧ M' 19 10 = 0 ∧ M' 19 11 = M 1 8 ∧ (∀ j, M' 26 j = 0) ∧ ∀ j, M' 27 j = 0 := by
    refine lp 37 ?_ ?_
    · intro N b hN
      refine ⟨N, ?_, hN⟩
      rw [eb_26_22]
      simp (disch := first | assumption | omega | exact st8_a (Nat.le_of_ble_eq_true rfl)) only [eb_26_0, eb_26_1, eb_26_2, eb_26_3, eb_26_4, eb_26_5, eb_26_7, eb_26_8, eb_26_9, eb_26_11, eb_26_12, eb_26_13, eb_26_14, eb_26_16, eb_26_18, eb_26_19, eb_26_20, eb_26_21, eb_26_23, eb_26_24, eb_26_25, eb_26_26, kl_a, kl_d, kl_f, kl_i, kl_l, kl_n, kl_r, xr_1, xr_10, xr_2, xr_27, xr_28, xr_3, xr_30, xr_31, xr_32, xr_37, xr_4, xr_42, xr_43, xr_44, xr_5, xr_55, xr_69, xr_71, af_0, af_1, xt_goto, xt_ic_eq, xt_ic_ge, xt_ic_gt, xt_if_eq, xt_nop, xt_re, gL_23, gL_42, gL_61, gF_19_0, gF_19_11, gF_19_3, gF_19_4, gF_19_5, gF_19_7, gF_19_8, gF_1_6, gF_1_7, gF_1_8, gC_24_23, gC_34_30, gC_35_31, gP_19_10, gP_19_11, xq_278_200_static, xq_29_3_virtualc, xq_31_3_virtualc, xq_32_3_virtualc, xq_34_3_virtualc, xq_35_3_virtualc, iN_add, iN_mul, iN_sub, iN_and, iN_or, iN_clr, iN_shl, iN_shr, tb_r1, b1_z, b1_or, b1_and, b1_or0, b1_or1, b1_0or, b1_t, b1_f, iN_lt, iN_inj, reduceIte, if_true, if_false, Nat.zero_add, Nat.add_zero, Bool.false_eq_true, Bool.true_eq_false, Nat.lt_irrefl, iN_az, not_true_eq_false, not_false_eq_true, Nat.reduceEqDiff, Nat.reduceLT, Nat.reduceAdd, Nat.reduceMul, Nat.reduceSub]
    · intro j hj ih N b hN
      have hj2 : ¬ 36 < j := by omega
      rw [eb_26_22]
      cases b
      · refine ⟨N, ?_, hN⟩
        simp (disch := first | assumption | omega | exact st8_a (Nat.le_of_ble_eq_true rfl)) only [hj2, eb_26_0, eb_26_1, eb_26_2, eb_26_3, eb_26_4, eb_26_5, eb_26_7, eb_26_8, eb_26_9, eb_26_11, eb_26_12, eb_26_13, eb_26_14, eb_26_16, eb_26_18, eb_26_19, eb_26_20, eb_26_21, eb_26_23, eb_26_24, eb_26_25, eb_26_26, kl_a, kl_d, kl_f, kl_i, kl_l, kl_n, kl_r, xr_1, xr_10, xr_2, xr_27, xr_28, xr_3, xr_30, xr_31, xr_32, xr_37, xr_4, xr_42, xr_43, xr_44, xr_5, xr_55, xr_69, xr_71, af_0, af_1, xt_goto, xt_ic_eq, xt_ic_ge, xt_ic_gt, xt_if_eq, xt_nop, xt_re, gL_23, gL_42, gL_61, gF_19_0, gF_19_11, gF_19_3, gF_19_4, gF_19_5, gF_19_7, gF_19_8, gF_1_6, gF_1_7, gF_1_8, gC_24_23, gC_34_30, gC_35_31, gP_19_10, gP_19_11, xq_278_200_static, xq_29_3_virtualc, xq_31_3_virtualc, xq_32_3_virtualc, xq_34_3_virtualc, xq_35_3_virtualc, iN_add, iN_mul, iN_sub, iN_and, iN_or, iN_clr, iN_shl, iN_shr, tb_r1, b1_z, b1_or, b1_and, b1_or0, b1_or1, b1_0or, b1_t, b1_f, iN_lt, iN_inj, reduceIte, if_true, if_false, Nat.zero_add, Nat.add_zero, Bool.false_eq_true, Bool.true_eq_false, Nat.lt_irrefl, iN_az, not_true_eq_false, not_false_eq_true, Nat.reduceEqDiff, Nat.reduceLT, Nat.reduceAdd, Nat.reduceMul, Nat.reduceSub]
      · obtain ⟨f1, f2, f3, f4, f5, f6, f7⟩ := hN
        obtain ⟨a1, a2, a3, a4, a5, a6⟩ := f3
        obtain ⟨g, b2, e, q1, q2⟩ := s_35 (xs := xs) (d := d + 1) (M := N) (R := R) O (fun l hl => by
          have h1 := mask_lt (n := (σ 1 2)) fun i hi => (a1 l hl i hi).1
          have h2 : 2 ^ (σ 1 2) ≤ 2 ^ 6 := Nat.pow_le_pow_right (by decide) (by omega)
          omega)
        obtain ⟨M', e2, q3⟩ := ih (ur N 20 g) b2 ⟨Fr_u f1 rfl, ⟨by rw [ur_n (by decide)]; exact f2.1, by rw [ur_n (by decide), ur_n (by decide)]; exact f2.2⟩, ⟨fun l hl i hi => a1 l hl i (q1 l hl i (by rw [ur_s] at hi; exact hi)), fun l hl i => by rw [ur_n (by decide)]; exact a2 l hl i, fun l s o i hl ho hlo hs => by
          unfold kr
          rw [ur_n (by decide), ur_n (by decide)]
          exact a3 l s o i hl ho hlo hs, fun t ht => by rw [ur_n (by decide)]; exact a4 t ht, fun l hl s hs => by rw [ur_n (by decide)]; exact a5 l hl s hs, fun X hX hX2 => by
          rw [ur_n (by decide)] at hX
          rw [ur_s]
          exact q2 X hX (a6 X hX hX2)⟩, by rw [ur_n (by decide)]; exact f4, by rw [ur_n (by decide)]; exact f5, fun j => by rw [ur_n (by decide)]; exact f6 j, fun j => by rw [ur_n (by decide)]; exact f7 j⟩
        refine ⟨M', ?_, q3⟩
        simp (disch := first | assumption | omega | exact st8_a (Nat.le_of_ble_eq_true rfl)) only [hj2, e, eb_26_0, eb_26_1, eb_26_2, eb_26_3, eb_26_4, eb_26_5, eb_26_7, eb_26_8, eb_26_9, eb_26_11, eb_26_12, eb_26_13, eb_26_14, eb_26_16, eb_26_18, eb_26_19, eb_26_20, eb_26_21, eb_26_23, eb_26_24, eb_26_25, eb_26_26, kl_a, kl_d, kl_f, kl_i, kl_l, kl_n, kl_r, xr_1, xr_10, xr_2, xr_27, xr_28, xr_3, xr_30, xr_31, xr_32, xr_37, xr_4, xr_42, xr_43, xr_44, xr_5, xr_55, xr_69, xr_71, af_0, af_1, xt_goto, xt_ic_eq, xt_ic_ge, xt_ic_gt, xt_if_eq, xt_nop, xt_re, gL_23, gL_42, gL_61, gF_19_0, gF_19_11, gF_19_3, gF_19_4, gF_19_5, gF_19_7, gF_19_8, gF_1_6, gF_1_7, gF_1_8, gC_24_23, gC_34_30, gC_35_31, gP_19_10, gP_19_11, xq_278_200_static, xq_29_3_virtualc, xq_31_3_virtualc, xq_32_3_virtualc, xq_34_3_virtualc, xq_35_3_virtualc, iN_add, iN_mul, iN_sub, iN_and, iN_or, iN_clr, iN_shl, iN_shr, tb_r1, b1_z, b1_or, b1_and, b1_or0, b1_or1, b1_0or, b1_t, b1_f, iN_lt, iN_inj, reduceIte, if_true, if_false, Nat.zero_add, Nat.add_zero, Bool.false_eq_true, Bool.true_eq_false, Nat.lt_irrefl, iN_az, not_true_eq_false, not_false_eq_true, Nat.reduceEqDiff, Nat.reduceLT, Nat.reduceAdd, Nat.reduceMul, Nat.reduceSub]
        exact e2
  -- pairs of lessons with one room
  have rooms : ∀ k, k ≤ (σ 1 6) → ∀ N y, (Fr [19, 20, 21, 22, 23, 24, 25, 26, 27] M N ∧ GO σ N ∧ N 19 10 = 0 ∧ N 19 11 = M 1 8 ∧ (∀ j, N 26 j = 0) ∧ (∀ j, N 27 j = 0) ∧ (∀ l, l < (σ 1 6) → ∀ i, (N 20 l).testBit i = true ↔ i < (σ 1 2) ∧ s0 σ set (σ 1 7) l i) ∧ (∀ l, l < (σ 1 6) → ∀ i, (N 21 l).testBit i = true ↔ i < (σ 1 5) ∧ r0 σ set (σ 1 7) l i) ∧ (∀ l s o i, l < (σ 1 6) → o < (σ 1 6) → l ≠ o → s < (σ 1 2) → (fb (N 23) l s o i = true ↔ i < (σ 1 2) ∧ f0 σ set (σ 1 7) l s o i ∧ ¬ ((l < k ∧ o < k) ∧ kr N l o ∧ cov σ l s &&& cov σ o i ≠ 0))) ∧ (∀ t, t < (σ 1 4) → dq σ set (σ 1 7) t (N 22 t)) ∧ (∀ l, l < (σ 1 6) → ∀ s, s < (σ 1 2) → N 25 (l * 6 + s) = cov σ l s)) → ∃ M', ev xs (d + 4) 26 15 ([.ref 19, .int (nI set), .int (nI k), y], [], hc σ N R) = some (.inl none, hc σ M' R) ∧ Fr [19, 20, 21, 22, 23, 24, 25, 26, 27] M M' ∧ GO σ M' ∧ AskQ σ set M' ∧ M' 19 10 = 0 ∧ M' 19 11 = M 1 8 ∧ (∀ j, M' 26 j = 0) ∧ ∀ j, M' 27 j = 0 := by
    refine lp (σ 1 6) ?_ ?_
    · rintro N y ⟨f1, f2, f4, f5, f6, f7, a1, a2, a3, a4, a5⟩
      obtain ⟨M', e, q⟩ := last 0 (Nat.zero_le _) N true ⟨f1, f2, ⟨fun l hl i hi => (a1 l hl i).mp hi, a2, fun l s o i hl ho hlo hs => by
        rw [a3 l s o i hl ho hlo hs]
        constructor
        · rintro ⟨z1, z2, z3⟩
          exact ⟨z1, z2, fun z => z3 ⟨⟨hl, ho⟩, z⟩⟩
        · rintro ⟨z1, z2, z3⟩
          exact ⟨z1, z2, fun z => z3 z.2⟩, a4, a5, fun X hX hX2 l hl s r hx => (a1 l hl s).mpr ⟨(hX l hl s r hx).1, hX2 l hl s r hx⟩⟩, f4, f5, f6, f7⟩
      refine ⟨M', ?_, q⟩
      rw [eb_26_15]
      simp (disch := first | assumption | omega | exact st8_a (Nat.le_of_ble_eq_true rfl)) only [eb_26_0, eb_26_1, eb_26_2, eb_26_3, eb_26_4, eb_26_5, eb_26_7, eb_26_8, eb_26_9, eb_26_11, eb_26_12, eb_26_13, eb_26_14, eb_26_16, eb_26_18, eb_26_19, eb_26_20, eb_26_21, eb_26_23, eb_26_24, eb_26_25, eb_26_26, kl_a, kl_d, kl_f, kl_i, kl_l, kl_n, kl_r, xr_1, xr_10, xr_2, xr_27, xr_28, xr_3, xr_30, xr_31, xr_32, xr_37, xr_4, xr_42, xr_43, xr_44, xr_5, xr_55, xr_69, xr_71, af_0, af_1, xt_goto, xt_ic_eq, xt_ic_ge, xt_ic_gt, xt_if_eq, xt_nop, xt_re, gL_23, gL_42, gL_61, gF_19_0, gF_19_11, gF_19_3, gF_19_4, gF_19_5, gF_19_7, gF_19_8, gF_1_6, gF_1_7, gF_1_8, gC_24_23, gC_34_30, gC_35_31, gP_19_10, gP_19_11, xq_278_200_static, xq_29_3_virtualc, xq_31_3_virtualc, xq_32_3_virtualc, xq_34_3_virtualc, xq_35_3_virtualc, iN_add, iN_mul, iN_sub, iN_and, iN_or, iN_clr, iN_shl, iN_shr, tb_r1, b1_z, b1_or, b1_and, b1_or0, b1_or1, b1_0or, b1_t, b1_f, iN_lt, iN_inj, reduceIte, if_true, if_false, Nat.zero_add, Nat.add_zero, Bool.false_eq_true, Bool.true_eq_false, Nat.lt_irrefl, iN_az, not_true_eq_false, not_false_eq_true, Nat.reduceEqDiff, Nat.reduceLT, Nat.reduceAdd, Nat.reduceMul, Nat.reduceSub]
      exact e
    · rintro k hk ih N y ⟨f1, f2, f4, f5, f6, f7, a1, a2, a3, a4, a5⟩
      have inn : ∀ j, j ≤ k → ∀ N, (Fr [19, 20, 21, 22, 23, 24, 25, 26, 27] M N ∧ GO σ N ∧ N 19 10 = 0 ∧ N 19 11 = M 1 8 ∧ (∀ j, N 26 j = 0) ∧ (∀ j, N 27 j = 0) ∧ (∀ l, l < (σ 1 6) → ∀ i, (N 20 l).testBit i = true ↔ i < (σ 1 2) ∧ s0 σ set (σ 1 7) l i) ∧ (∀ l, l < (σ 1 6) → ∀ i, (N 21 l).testBit i = true ↔ i < (σ 1 5) ∧ r0 σ set (σ 1 7) l i) ∧ (∀ l s o i, l < (σ 1 6) → o < (σ 1 6) → l ≠ o → s < (σ 1 2) → (fb (N 23) l s o i = true ↔ i < (σ 1 2) ∧ f0 σ set (σ 1 7) l s o i ∧ ¬ ((l < k ∧ o < k ∨ l = k ∧ o < j ∨ o = k ∧ l < j) ∧ kr N l o ∧ cov σ l s &&& cov σ o i ≠ 0))) ∧ (∀ t, t < (σ 1 4) → dq σ set (σ 1 7) t (N 22 t)) ∧ (∀ l, l < (σ 1 6) → ∀ s, s < (σ 1 2) → N 25 (l * 6 + s) = cov σ l s)) → ∃ M', ev xs (d + 4) 26 17 ([.ref 19, .int (nI set), .int (nI k), .int (nI j)], [], hc σ N R) = some (.inl none, hc σ M' R) ∧ Fr [19, 20, 21, 22, 23, 24, 25, 26, 27] M M' ∧ GO σ M' ∧ AskQ σ set M' ∧ M' 19 10 = 0 ∧ M' 19 11 = M 1 8 ∧ (∀ j, M' 26 j = 0) ∧ ∀ j, M' 27 j = 0 := by
        refine lp k ?_ ?_
        · rintro N ⟨f1, f2, f4, f5, f6, f7, a1, a2, a3, a4, a5⟩
          obtain ⟨M', e, q⟩ := ih N (.int (nI k)) ⟨f1, f2, f4, f5, f6, f7, a1, a2, fun l s o i hl ho hlo hs => by
            rw [a3 l s o i hl ho hlo hs]
            have : (l < k ∧ o < k ∨ l = k ∧ o < k ∨ o = k ∧ l < k) ↔ l < k + 1 ∧ o < k + 1 := by omega
            rw [this], a4, a5⟩
          refine ⟨M', ?_, q⟩
          rw [eb_26_17]
          simp (disch := first | assumption | omega | exact st8_a (Nat.le_of_ble_eq_true rfl)) only [eb_26_0, eb_26_1, eb_26_2, eb_26_3, eb_26_4, eb_26_5, eb_26_7, eb_26_8, eb_26_9, eb_26_11, eb_26_12, eb_26_13, eb_26_14, eb_26_16, eb_26_18, eb_26_19, eb_26_20, eb_26_21, eb_26_23, eb_26_24, eb_26_25, eb_26_26, kl_a, kl_d, kl_f, kl_i, kl_l, kl_n, kl_r, xr_1, xr_10, xr_2, xr_27, xr_28, xr_3, xr_30, xr_31, xr_32, xr_37, xr_4, xr_42, xr_43, xr_44, xr_5, xr_55, xr_69, xr_71, af_0, af_1, xt_goto, xt_ic_eq, xt_ic_ge, xt_ic_gt, xt_if_eq, xt_nop, xt_re, gL_23, gL_42, gL_61, gF_19_0, gF_19_11, gF_19_3, gF_19_4, gF_19_5, gF_19_7, gF_19_8, gF_1_6, gF_1_7, gF_1_8, gC_24_23, gC_34_30, gC_35_31, gP_19_10, gP_19_11, xq_278_200_static, xq_29_3_virtualc, xq_31_3_virtualc, xq_32_3_virtualc, xq_34_3_virtualc, xq_35_3_virtualc, iN_add, iN_mul, iN_sub, iN_and, iN_or, iN_clr, iN_shl, iN_shr, tb_r1, b1_z, b1_or, b1_and, b1_or0, b1_or1, b1_0or, b1_t, b1_f, iN_lt, iN_inj, reduceIte, if_true, if_false, Nat.zero_add, Nat.add_zero, Bool.false_eq_true, Bool.true_eq_false, Nat.lt_irrefl, iN_az, not_true_eq_false, not_false_eq_true, Nat.reduceEqDiff, Nat.reduceLT, Nat.reduceAdd, Nat.reduceMul, Nat.reduceSub]
          exact e
        · rintro j hj ih2 N ⟨f1, f2, f4, f5, f6, f7, a1, a2, a3, a4, a5⟩
          have hjl : j < (σ 1 6) := by omega
          obtain ⟨f, e, q⟩ := s_34 (xs := xs) (d := d + 1) (M := N) (R := R) O hk hjl (by omega) (fun l hl => by
            have h1 := mask_lt (n := (σ 1 5)) fun i hi => ((a2 l hl i).mp hi).1
            have h2 : 2 ^ (σ 1 5) ≤ 2 ^ 3 := Nat.pow_le_pow_right (by decide) (by omega)
            omega) a5
          obtain ⟨M', e2, q2⟩ := ih2 (ur N 23 f) ⟨Fr_u f1 rfl, ⟨by rw [ur_n (by decide)]; exact f2.1, by rw [ur_n (by decide), ur_n (by decide)]; exact f2.2⟩, by rw [ur_n (by decide)]; exact f4, by rw [ur_n (by decide)]; exact f5, fun j => by rw [ur_n (by decide)]; exact f6 j, fun j => by rw [ur_n (by decide)]; exact f7 j, fun l hl i => by rw [ur_n (by decide)]; exact a1 l hl i, fun l hl i => by rw [ur_n (by decide)]; exact a2 l hl i, fun l s o i hl ho hlo hs => by
            have hk0 : kr (ur N 23 f) l o ↔ kr N l o := by
              unfold kr
              rw [ur_n (by decide)]
            rw [ur_s, q l s o i (by omega) (by omega) (by omega), a3 l s o i hl ho hlo hs, hk0]
            constructor
            · rintro ⟨⟨z1, z2, z3⟩, z4, z5⟩
              refine ⟨z1, z2, ?_⟩
              rintro ⟨w1, w2, w3⟩
              by_cases w4 : l < k ∧ o < k ∨ l = k ∧ o < j ∨ o = k ∧ l < j
              · exact z3 ⟨w4, w2, w3⟩
              · have w5 : l = k ∧ o = j ∨ l = j ∧ o = k := by omega
                rcases w5 with ⟨rfl, rfl⟩ | ⟨rfl, rfl⟩
                · exact z4 ⟨rfl, rfl, w2, hs, z1, w3⟩
                · exact z5 ⟨rfl, rfl, kr_s.mp w2, z1, hs, by rw [Nat.and_comm]; exact w3⟩
            · rintro ⟨z1, z2, z3⟩
              refine ⟨⟨z1, z2, fun w => z3 ⟨by omega, w.2⟩⟩, ?_, ?_⟩
              · rintro ⟨w1, w2, w3, w4, w5, w6⟩
                exact z3 ⟨by omega, by rw [w1, w2]; exact w3, by rw [w1, w2]; exact w6⟩
              · rintro ⟨w1, w2, w3, w4, w5, w6⟩
                exact z3 ⟨by omega, by rw [w1, w2]; exact kr_s.mp w3, by rw [w1, w2, Nat.and_comm]; exact w6⟩, fun t ht => by rw [ur_n (by decide)]; exact a4 t ht, fun l hl s hs => by rw [ur_n (by decide)]; exact a5 l hl s hs⟩
          refine ⟨M', ?_, q2⟩
          rw [eb_26_17]
          simp (disch := first | assumption | omega | exact st8_a (Nat.le_of_ble_eq_true rfl)) only [hj, e, eb_26_0, eb_26_1, eb_26_2, eb_26_3, eb_26_4, eb_26_5, eb_26_7, eb_26_8, eb_26_9, eb_26_11, eb_26_12, eb_26_13, eb_26_14, eb_26_16, eb_26_18, eb_26_19, eb_26_20, eb_26_21, eb_26_23, eb_26_24, eb_26_25, eb_26_26, kl_a, kl_d, kl_f, kl_i, kl_l, kl_n, kl_r, xr_1, xr_10, xr_2, xr_27, xr_28, xr_3, xr_30, xr_31, xr_32, xr_37, xr_4, xr_42, xr_43, xr_44, xr_5, xr_55, xr_69, xr_71, af_0, af_1, xt_goto, xt_ic_eq, xt_ic_ge, xt_ic_gt, xt_if_eq, xt_nop, xt_re, gL_23, gL_42, gL_61, gF_19_0, gF_19_11, gF_19_3, gF_19_4, gF_19_5, gF_19_7, gF_19_8, gF_1_6, gF_1_7, gF_1_8, gC_24_23, gC_34_30, gC_35_31, gP_19_10, gP_19_11, xq_278_200_static, xq_29_3_virtualc, xq_31_3_virtualc, xq_32_3_virtualc, xq_34_3_virtualc, xq_35_3_virtualc, iN_add, iN_mul, iN_sub, iN_and, iN_or, iN_clr, iN_shl, iN_shr, tb_r1, b1_z, b1_or, b1_and, b1_or0, b1_or1, b1_0or, b1_t, b1_f, iN_lt, iN_inj, reduceIte, if_true, if_false, Nat.zero_add, Nat.add_zero, Bool.false_eq_true, Bool.true_eq_false, Nat.lt_irrefl, iN_az, not_true_eq_false, not_false_eq_true, Nat.reduceEqDiff, Nat.reduceLT, Nat.reduceAdd, Nat.reduceMul, Nat.reduceSub]
          exact e2
      obtain ⟨M', e, q⟩ := inn 0 (Nat.zero_le _) N ⟨f1, f2, f4, f5, f6, f7, a1, a2, fun l s o i hl ho hlo hs => by
        rw [a3 l s o i hl ho hlo hs]
        have : (l < k ∧ o < k ∨ l = k ∧ o < 0 ∨ o = k ∧ l < 0) ↔ l < k ∧ o < k := by omega
        rw [this], a4, a5⟩
      refine ⟨M', ?_, q⟩
      rw [eb_26_15]
      simp (disch := first | assumption | omega | exact st8_a (Nat.le_of_ble_eq_true rfl)) only [hk, eb_26_0, eb_26_1, eb_26_2, eb_26_3, eb_26_4, eb_26_5, eb_26_7, eb_26_8, eb_26_9, eb_26_11, eb_26_12, eb_26_13, eb_26_14, eb_26_16, eb_26_18, eb_26_19, eb_26_20, eb_26_21, eb_26_23, eb_26_24, eb_26_25, eb_26_26, kl_a, kl_d, kl_f, kl_i, kl_l, kl_n, kl_r, xr_1, xr_10, xr_2, xr_27, xr_28, xr_3, xr_30, xr_31, xr_32, xr_37, xr_4, xr_42, xr_43, xr_44, xr_5, xr_55, xr_69, xr_71, af_0, af_1, xt_goto, xt_ic_eq, xt_ic_ge, xt_ic_gt, xt_if_eq, xt_nop, xt_re, gL_23, gL_42, gL_61, gF_19_0, gF_19_11, gF_19_3, gF_19_4, gF_19_5, gF_19_7, gF_19_8, gF_1_6, gF_1_7, gF_1_8, gC_24_23, gC_34_30, gC_35_31, gP_19_10, gP_19_11, xq_278_200_static, xq_29_3_virtualc, xq_31_3_virtualc, xq_32_3_virtualc, xq_34_3_virtualc, xq_35_3_virtualc, iN_add, iN_mul, iN_sub, iN_and, iN_or, iN_clr, iN_shl, iN_shr, tb_r1, b1_z, b1_or, b1_and, b1_or0, b1_or1, b1_0or, b1_t, b1_f, iN_lt, iN_inj, reduceIte, if_true, if_false, Nat.zero_add, Nat.add_zero, Bool.false_eq_true, Bool.true_eq_false, Nat.lt_irrefl, iN_az, not_true_eq_false, not_false_eq_true, Nat.reduceEqDiff, Nat.reduceLT, Nat.reduceAdd, Nat.reduceMul, Nat.reduceSub]
      exact e
  -- the rules
  have rules : ∀ k, k ≤ (σ 1 7) → ∀ N, (Fr [19, 20, 21, 22, 23, 24, 25, 26, 27] M N ∧ GO σ N ∧ N 19 10 = 0 ∧ N 19 11 = M 1 8 ∧ (∀ j, N 26 j = 0) ∧ (∀ j, N 27 j = 0) ∧ AQ σ set k N) → ∃ M', ev xs (d + 4) 26 10 ([.ref 19, .int (nI set), .int (nI k), .retAddr 9], [], hc σ N R) = some (.inl none, hc σ M' R) ∧ Fr [19, 20, 21, 22, 23, 24, 25, 26, 27] M M' ∧ GO σ M' ∧ AskQ σ set M' ∧ M' 19 10 = 0 ∧ M' 19 11 = M 1 8 ∧ (∀ j, M' 26 j = 0) ∧ ∀ j, M' 27 j = 0 := by
    refine lp (σ 1 7) ?_ ?_
    · rintro N ⟨f1, f2, f4, f5, f6, f7, a1, a2, a3, a4, a5⟩
      obtain ⟨M', e, q⟩ := rooms 0 (Nat.zero_le _) N (.retAddr 9) ⟨f1, f2, f4, f5, f6, f7, a1, a2, fun l s o i hl ho hlo hs => by
        rw [a3 l s o i hl ho hlo hs]
        exact ⟨fun ⟨z1, z2⟩ => ⟨z1, z2, fun z => absurd z.1.1 (Nat.not_lt_zero l)⟩, fun ⟨z1, z2, _⟩ => ⟨z1, z2⟩⟩, a4, a5⟩
      refine ⟨M', ?_, q⟩
      rw [eb_26_10]
      simp (disch := first | assumption | omega | exact st8_a (Nat.le_of_ble_eq_true rfl)) only [eb_26_0, eb_26_1, eb_26_2, eb_26_3, eb_26_4, eb_26_5, eb_26_7, eb_26_8, eb_26_9, eb_26_11, eb_26_12, eb_26_13, eb_26_14, eb_26_16, eb_26_18, eb_26_19, eb_26_20, eb_26_21, eb_26_23, eb_26_24, eb_26_25, eb_26_26, kl_a, kl_d, kl_f, kl_i, kl_l, kl_n, kl_r, xr_1, xr_10, xr_2, xr_27, xr_28, xr_3, xr_30, xr_31, xr_32, xr_37, xr_4, xr_42, xr_43, xr_44, xr_5, xr_55, xr_69, xr_71, af_0, af_1, xt_goto, xt_ic_eq, xt_ic_ge, xt_ic_gt, xt_if_eq, xt_nop, xt_re, gL_23, gL_42, gL_61, gF_19_0, gF_19_11, gF_19_3, gF_19_4, gF_19_5, gF_19_7, gF_19_8, gF_1_6, gF_1_7, gF_1_8, gC_24_23, gC_34_30, gC_35_31, gP_19_10, gP_19_11, xq_278_200_static, xq_29_3_virtualc, xq_31_3_virtualc, xq_32_3_virtualc, xq_34_3_virtualc, xq_35_3_virtualc, iN_add, iN_mul, iN_sub, iN_and, iN_or, iN_clr, iN_shl, iN_shr, tb_r1, b1_z, b1_or, b1_and, b1_or0, b1_or1, b1_0or, b1_t, b1_f, iN_lt, iN_inj, reduceIte, if_true, if_false, Nat.zero_add, Nat.add_zero, Bool.false_eq_true, Bool.true_eq_false, Nat.lt_irrefl, iN_az, not_true_eq_false, not_false_eq_true, Nat.reduceEqDiff, Nat.reduceLT, Nat.reduceAdd, Nat.reduceMul, Nat.reduceSub]
      exact e
    · rintro k hk ih N ⟨f1, f2, f4, f5, f6, f7, hA⟩
      rw [eb_26_10]
      cases h1 : set.testBit k
      · obtain ⟨M', e, q⟩ := ih N ⟨f1, f2, f4, f5, f6, f7, AQ_n hA h1⟩
        refine ⟨M', ?_, q⟩
        simp (disch := first | assumption | omega | exact st8_a (Nat.le_of_ble_eq_true rfl)) only [hk, h1, eb_26_0, eb_26_1, eb_26_2, eb_26_3, eb_26_4, eb_26_5, eb_26_7, eb_26_8, eb_26_9, eb_26_11, eb_26_12, eb_26_13, eb_26_14, eb_26_16, eb_26_18, eb_26_19, eb_26_20, eb_26_21, eb_26_23, eb_26_24, eb_26_25, eb_26_26, kl_a, kl_d, kl_f, kl_i, kl_l, kl_n, kl_r, xr_1, xr_10, xr_2, xr_27, xr_28, xr_3, xr_30, xr_31, xr_32, xr_37, xr_4, xr_42, xr_43, xr_44, xr_5, xr_55, xr_69, xr_71, af_0, af_1, xt_goto, xt_ic_eq, xt_ic_ge, xt_ic_gt, xt_if_eq, xt_nop, xt_re, gL_23, gL_42, gL_61, gF_19_0, gF_19_11, gF_19_3, gF_19_4, gF_19_5, gF_19_7, gF_19_8, gF_1_6, gF_1_7, gF_1_8, gC_24_23, gC_34_30, gC_35_31, gP_19_10, gP_19_11, xq_278_200_static, xq_29_3_virtualc, xq_31_3_virtualc, xq_32_3_virtualc, xq_34_3_virtualc, xq_35_3_virtualc, iN_add, iN_mul, iN_sub, iN_and, iN_or, iN_clr, iN_shl, iN_shr, tb_r1, b1_z, b1_or, b1_and, b1_or0, b1_or1, b1_0or, b1_t, b1_f, iN_lt, iN_inj, reduceIte, if_true, if_false, Nat.zero_add, Nat.add_zero, Bool.false_eq_true, Bool.true_eq_false, Nat.lt_irrefl, iN_az, not_true_eq_false, not_false_eq_true, Nat.reduceEqDiff, Nat.reduceLT, Nat.reduceAdd, Nat.reduceMul, Nat.reduceSub]
        exact e
      · obtain ⟨N2, e2, g1, g2⟩ := s_32 (xs := xs) (d := d) (M := N) (R := R) O hk h1 hA
        obtain ⟨M', e, q⟩ := ih N2 ⟨Fr_t f1 (Fr_w g1 fun a ha => by simp at ha ⊢; omega), ⟨by rw [g1 19 rfl]; exact f2.1, by rw [g1 25 rfl, g1 24 rfl]; exact f2.2⟩, by rw [g1 19 rfl]; exact f4, by rw [g1 19 rfl]; exact f5, fun j => by rw [g1 26 rfl]; exact f6 j, fun j => by rw [g1 27 rfl]; exact f7 j, g2⟩
        refine ⟨M', ?_, q⟩
        simp (disch := first | assumption | omega | exact st8_a (Nat.le_of_ble_eq_true rfl)) only [hk, h1, e2, eb_26_0, eb_26_1, eb_26_2, eb_26_3, eb_26_4, eb_26_5, eb_26_7, eb_26_8, eb_26_9, eb_26_11, eb_26_12, eb_26_13, eb_26_14, eb_26_16, eb_26_18, eb_26_19, eb_26_20, eb_26_21, eb_26_23, eb_26_24, eb_26_25, eb_26_26, kl_a, kl_d, kl_f, kl_i, kl_l, kl_n, kl_r, xr_1, xr_10, xr_2, xr_27, xr_28, xr_3, xr_30, xr_31, xr_32, xr_37, xr_4, xr_42, xr_43, xr_44, xr_5, xr_55, xr_69, xr_71, af_0, af_1, xt_goto, xt_ic_eq, xt_ic_ge, xt_ic_gt, xt_if_eq, xt_nop, xt_re, gL_23, gL_42, gL_61, gF_19_0, gF_19_11, gF_19_3, gF_19_4, gF_19_5, gF_19_7, gF_19_8, gF_1_6, gF_1_7, gF_1_8, gC_24_23, gC_34_30, gC_35_31, gP_19_10, gP_19_11, xq_278_200_static, xq_29_3_virtualc, xq_31_3_virtualc, xq_32_3_virtualc, xq_34_3_virtualc, xq_35_3_virtualc, iN_add, iN_mul, iN_sub, iN_and, iN_or, iN_clr, iN_shl, iN_shr, tb_r1, b1_z, b1_or, b1_and, b1_or0, b1_or1, b1_0or, b1_t, b1_f, iN_lt, iN_inj, reduceIte, if_true, if_false, Nat.zero_add, Nat.add_zero, Bool.false_eq_true, Bool.true_eq_false, Nat.lt_irrefl, iN_az, not_true_eq_false, not_false_eq_true, Nat.reduceEqDiff, Nat.reduceLT, Nat.reduceAdd, Nat.reduceMul, Nat.reduceSub]
        exact e
  -- the lessons' own slots and rooms
  have lessons : ∀ k, k ≤ (σ 1 6) → ∀ N, (Fr [19, 20, 21, 22, 23, 24, 25, 26, 27] M N ∧ GO σ N ∧ N 19 10 = 0 ∧ N 19 11 = M 1 8 ∧ (∀ j, N 26 j = 0) ∧ (∀ j, N 27 j = 0) ∧ N 23 = N 24 ∧ (∀ t, t < 4 → N 22 t = 3) ∧ ∀ l, l < k → N 20 l = en (σ 1 2) (sty σ l) ∧ N 21 l = en (σ 1 5) (sts σ l)) → ∃ M', ev xs (d + 4) 26 6 ([.ref 19, .int (nI set), .int (nI k), .retAddr 9], [], hc σ N R) = some (.inl none, hc σ M' R) ∧ Fr [19, 20, 21, 22, 23, 24, 25, 26, 27] M M' ∧ GO σ M' ∧ AskQ σ set M' ∧ M' 19 10 = 0 ∧ M' 19 11 = M 1 8 ∧ (∀ j, M' 26 j = 0) ∧ ∀ j, M' 27 j = 0 := by
    refine lp (σ 1 6) ?_ ?_
    · rintro N ⟨f1, f2, f4, f5, f6, f7, f8, f9, f10⟩
      obtain ⟨M', e, q⟩ := rules 0 (Nat.zero_le _) N ⟨f1, f2, f4, f5, f6, f7, fun l hl i => by
        rw [(f10 l hl).1, en_tb, Bool.and_eq_true, decide_eq_true_eq]
        unfold s0
        simp, fun l hl i => by
        rw [(f10 l hl).2, en_tb, Bool.and_eq_true, decide_eq_true_eq]
        unfold r0
        simp, fun l s o i hl ho hlo hs => by
        have h1 := ((f2.2 l hl s hs).2 o ho)
        unfold fb f0
        rw [f8, h1]
        constructor
        · intro h
          exact ⟨gp_tb2 h, (gp_tb (gp_tb2 h)).mp h, fun q hq => absurd hq (Nat.not_lt_zero q)⟩
        · rintro ⟨h, h2, -⟩
          exact (gp_tb h).mpr h2, fun t ht => ⟨fun q hq => absurd hq (Nat.not_lt_zero q), by rw [f9 t (by omega)]; decide, .inl (f9 t (by omega))⟩, fun l hl s hs => (f2.2 l hl s hs).1⟩
      refine ⟨M', ?_, q⟩
      rw [eb_26_6]
      simp (disch := first | assumption | omega | exact st8_a (Nat.le_of_ble_eq_true rfl)) only [eb_26_0, eb_26_1, eb_26_2, eb_26_3, eb_26_4, eb_26_5, eb_26_7, eb_26_8, eb_26_9, eb_26_11, eb_26_12, eb_26_13, eb_26_14, eb_26_16, eb_26_18, eb_26_19, eb_26_20, eb_26_21, eb_26_23, eb_26_24, eb_26_25, eb_26_26, kl_a, kl_d, kl_f, kl_i, kl_l, kl_n, kl_r, xr_1, xr_10, xr_2, xr_27, xr_28, xr_3, xr_30, xr_31, xr_32, xr_37, xr_4, xr_42, xr_43, xr_44, xr_5, xr_55, xr_69, xr_71, af_0, af_1, xt_goto, xt_ic_eq, xt_ic_ge, xt_ic_gt, xt_if_eq, xt_nop, xt_re, gL_23, gL_42, gL_61, gF_19_0, gF_19_11, gF_19_3, gF_19_4, gF_19_5, gF_19_7, gF_19_8, gF_1_6, gF_1_7, gF_1_8, gC_24_23, gC_34_30, gC_35_31, gP_19_10, gP_19_11, xq_278_200_static, xq_29_3_virtualc, xq_31_3_virtualc, xq_32_3_virtualc, xq_34_3_virtualc, xq_35_3_virtualc, iN_add, iN_mul, iN_sub, iN_and, iN_or, iN_clr, iN_shl, iN_shr, tb_r1, b1_z, b1_or, b1_and, b1_or0, b1_or1, b1_0or, b1_t, b1_f, iN_lt, iN_inj, reduceIte, if_true, if_false, Nat.zero_add, Nat.add_zero, Bool.false_eq_true, Bool.true_eq_false, Nat.lt_irrefl, iN_az, not_true_eq_false, not_false_eq_true, Nat.reduceEqDiff, Nat.reduceLT, Nat.reduceAdd, Nat.reduceMul, Nat.reduceSub]
      exact e
    · rintro k hk ih N ⟨f1, f2, f4, f5, f6, f7, f8, f9, f10⟩
      obtain ⟨M', e, q⟩ := ih (up (up N 20 k (en (σ 1 2) (sty σ k))) 21 k (en (σ 1 5) (sts σ k))) ⟨Fr_p (Fr_p f1 rfl) rfl, ⟨by rw [up_n (by decide), up_n (by decide)]; exact f2.1, by rw [up_n (by decide), up_n (by decide), up_n (by decide), up_n (by decide)]; exact f2.2⟩, by rw [up_n (by decide), up_n (by decide)]; exact f4, by rw [up_n (by decide), up_n (by decide)]; exact f5, fun j => by rw [up_n (by decide), up_n (by decide)]; exact f6 j, fun j => by rw [up_n (by decide), up_n (by decide)]; exact f7 j, by rw [up_n (by decide), up_n (by decide), up_n (by decide), up_n (by decide)]; exact f8, fun t ht => by rw [up_n (by decide), up_n (by decide)]; exact f9 t ht, fun l hl => by
        rw [up_s, up_n (show (20 : Nat) ≠ 21 by decide), up_s, up_n (show (21 : Nat) ≠ 20 by decide)]
        by_cases e : l = k
        · subst e
          rw [u1_s, u1_s]
          exact ⟨rfl, rfl⟩
        · rw [u1_n e, u1_n e]
          exact f10 l (by omega)⟩
      refine ⟨M', ?_, q⟩
      rw [eb_26_6]
      simp (disch := first | assumption | omega | exact st8_a (Nat.le_of_ble_eq_true rfl)) only [hk, s_31 O hk, eb_26_0, eb_26_1, eb_26_2, eb_26_3, eb_26_4, eb_26_5, eb_26_7, eb_26_8, eb_26_9, eb_26_11, eb_26_12, eb_26_13, eb_26_14, eb_26_16, eb_26_18, eb_26_19, eb_26_20, eb_26_21, eb_26_23, eb_26_24, eb_26_25, eb_26_26, kl_a, kl_d, kl_f, kl_i, kl_l, kl_n, kl_r, xr_1, xr_10, xr_2, xr_27, xr_28, xr_3, xr_30, xr_31, xr_32, xr_37, xr_4, xr_42, xr_43, xr_44, xr_5, xr_55, xr_69, xr_71, af_0, af_1, xt_goto, xt_ic_eq, xt_ic_ge, xt_ic_gt, xt_if_eq, xt_nop, xt_re, gL_23, gL_42, gL_61, gF_19_0, gF_19_11, gF_19_3, gF_19_4, gF_19_5, gF_19_7, gF_19_8, gF_1_6, gF_1_7, gF_1_8, gC_24_23, gC_34_30, gC_35_31, gP_19_10, gP_19_11, xq_278_200_static, xq_29_3_virtualc, xq_31_3_virtualc, xq_32_3_virtualc, xq_34_3_virtualc, xq_35_3_virtualc, iN_add, iN_mul, iN_sub, iN_and, iN_or, iN_clr, iN_shl, iN_shr, tb_r1, b1_z, b1_or, b1_and, b1_or0, b1_or1, b1_0or, b1_t, b1_f, iN_lt, iN_inj, reduceIte, if_true, if_false, Nat.zero_add, Nat.add_zero, Bool.false_eq_true, Bool.true_eq_false, Nat.lt_irrefl, iN_az, not_true_eq_false, not_false_eq_true, Nat.reduceEqDiff, Nat.reduceLT, Nat.reduceAdd, Nat.reduceMul, Nat.reduceSub]
      exact e
  -- the beginning
  have start : ∀ N, Fr [19, 20, 21, 22, 23, 24, 25, 26, 27] M N → GO σ N → N 19 11 = M 1 8 → ∃ M', ev xs (d + 4) 26 2 ([.ref 19, .int (nI set), .retAddr 9, .retAddr 9], [], hc σ N R) = some (.inl none, hc σ M' R) ∧ Fr [19, 20, 21, 22, 23, 24, 25, 26, 27] M M' ∧ GO σ M' ∧ AskQ σ set M' ∧ M' 19 10 = 0 ∧ M' 19 11 = M 1 8 ∧ (∀ j, M' 26 j = 0) ∧ ∀ j, M' 27 j = 0 := by
    intro N f1 f2 f5
    have k1 : ∀ N', ev xs (d + 3) 278 0 ([.ref 26, .int (nI 0), .retAddr 9, .retAddr 9], [], hc σ N' R) = some (.inl none, hc σ (ur N' 26 fun _ => 0) R) := fun N' => fl_c rfl (fun _ => rfl) (by decide)
    have k2 : ∀ N', ev xs (d + 3) 278 0 ([.ref 27, .int (nI 0), .retAddr 9, .retAddr 9], [], hc σ N' R) = some (.inl none, hc σ (ur N' 27 fun _ => 0) R) := fun N' => fl_c rfl (fun _ => rfl) (by decide)
    have k3 : ∀ N', ev xs (d + 3) 278 0 ([.ref 22, .int (nI 3), .retAddr 9, .retAddr 9], [], hc σ N' R) = some (.inl none, hc σ (ur N' 22 fun _ => 3) R) := fun N' => fl_c rfl (fun _ => rfl) (by decide)
    obtain ⟨M', e, q⟩ := lessons 0 (Nat.zero_le _) (ur (ur (ur (ur (up N 19 10 0) 26 fun _ => 0) 27 fun _ => 0) 22 fun _ => 3) 23 (N 24)) ⟨Fr_u (Fr_u (Fr_u (Fr_u (Fr_p f1 rfl) rfl) rfl) rfl) rfl, ⟨f2.1, f2.2⟩, rfl, f5, fun j => rfl, fun j => rfl, rfl, fun t ht => rfl, fun l hl => absurd hl (Nat.not_lt_zero l)⟩
    refine ⟨M', ?_, q⟩
    simp (disch := first | assumption | omega | exact st8_a (Nat.le_of_ble_eq_true rfl)) only [k1, k2, k3, eb_26_2, eb_26_3, eb_26_4, eb_26_5, kl_a, kl_d, kl_f, kl_i, kl_l, kl_n, kl_r, xr_1, xr_10, xr_2, xr_27, xr_28, xr_3, xr_30, xr_31, xr_32, xr_37, xr_4, xr_42, xr_43, xr_44, xr_5, xr_55, xr_69, xr_71, af_0, af_1, xt_goto, xt_ic_eq, xt_ic_ge, xt_ic_gt, xt_if_eq, xt_nop, xt_re, gL_23, gL_42, gL_61, gF_19_0, gF_19_11, gF_19_3, gF_19_4, gF_19_5, gF_19_7, gF_19_8, gF_1_6, gF_1_7, gF_1_8, gC_24_23, gC_34_30, gC_35_31, gP_19_10, gP_19_11, xq_278_200_static, xq_29_3_virtualc, xq_31_3_virtualc, xq_32_3_virtualc, xq_34_3_virtualc, xq_35_3_virtualc, iN_add, iN_mul, iN_sub, iN_and, iN_or, iN_clr, iN_shl, iN_shr, tb_r1, b1_z, b1_or, b1_and, b1_or0, b1_or1, b1_0or, b1_t, b1_f, iN_lt, iN_inj, reduceIte, if_true, if_false, Nat.zero_add, Nat.add_zero, Bool.false_eq_true, Bool.true_eq_false, Nat.lt_irrefl, iN_az, not_true_eq_false, not_false_eq_true, Nat.reduceEqDiff, Nat.reduceLT, Nat.reduceAdd, Nat.reduceMul, Nat.reduceSub]
    exact e
  by_cases h1 : M 19 11 = M 1 8
  · obtain ⟨M', e, q⟩ := start M (Fr_r _ _) (hG h1) h1
    refine ⟨M', ?_, q⟩
    simp (disch := first | assumption | omega | exact st8_a (Nat.le_of_ble_eq_true rfl)) only [h1, eb_26_0, eb_26_1, kl_a, kl_d, kl_f, kl_i, kl_l, kl_n, kl_r, xr_1, xr_10, xr_2, xr_27, xr_28, xr_3, xr_30, xr_31, xr_32, xr_37, xr_4, xr_42, xr_43, xr_44, xr_5, xr_55, xr_69, xr_71, af_0, af_1, xt_goto, xt_ic_eq, xt_ic_ge, xt_ic_gt, xt_if_eq, xt_nop, xt_re, gL_23, gL_42, gL_61, gF_19_0, gF_19_11, gF_19_3, gF_19_4, gF_19_5, gF_19_7, gF_19_8, gF_1_6, gF_1_7, gF_1_8, gC_24_23, gC_34_30, gC_35_31, gP_19_10, gP_19_11, xq_278_200_static, xq_29_3_virtualc, xq_31_3_virtualc, xq_32_3_virtualc, xq_34_3_virtualc, xq_35_3_virtualc, iN_add, iN_mul, iN_sub, iN_and, iN_or, iN_clr, iN_shl, iN_shr, tb_r1, b1_z, b1_or, b1_and, b1_or0, b1_or1, b1_0or, b1_t, b1_f, iN_lt, iN_inj, reduceIte, if_true, if_false, Nat.zero_add, Nat.add_zero, Bool.false_eq_true, Bool.true_eq_false, Nat.lt_irrefl, iN_az, not_true_eq_false, not_false_eq_true, Nat.reduceEqDiff, Nat.reduceLT, Nat.reduceAdd, Nat.reduceMul, Nat.reduceSub]
    exact e
  · obtain ⟨N, e1, g1, g2, g3, g4⟩ := s_29 (xs := xs) (d := d + 1) (M := up M 19 11 (M 1 8)) (R := R) O
    obtain ⟨M', e, q⟩ := start N (Fr_t (Fr_p (Fr_r _ _) rfl) (Fr_w g1 fun a ha => by simp at ha ⊢; omega)) g2 g4
    refine ⟨M', ?_, q⟩
    simp (disch := first | assumption | omega | exact st8_a (Nat.le_of_ble_eq_true rfl)) only [h1, e1, eb_26_0, eb_26_1, kl_a, kl_d, kl_f, kl_i, kl_l, kl_n, kl_r, xr_1, xr_10, xr_2, xr_27, xr_28, xr_3, xr_30, xr_31, xr_32, xr_37, xr_4, xr_42, xr_43, xr_44, xr_5, xr_55, xr_69, xr_71, af_0, af_1, xt_goto, xt_ic_eq, xt_ic_ge, xt_ic_gt, xt_if_eq, xt_nop, xt_re, gL_23, gL_42, gL_61, gF_19_0, gF_19_11, gF_19_3, gF_19_4, gF_19_5, gF_19_7, gF_19_8, gF_1_6, gF_1_7, gF_1_8, gC_24_23, gC_34_30, gC_35_31, gP_19_10, gP_19_11, xq_278_200_static, xq_29_3_virtualc, xq_31_3_virtualc, xq_32_3_virtualc, xq_34_3_virtualc, xq_35_3_virtualc, iN_add, iN_mul, iN_sub, iN_and, iN_or, iN_clr, iN_shl, iN_shr, tb_r1, b1_z, b1_or, b1_and, b1_or0, b1_or1, b1_0or, b1_t, b1_f, iN_lt, iN_inj, reduceIte, if_true, if_false, Nat.zero_add, Nat.add_zero, Bool.false_eq_true, Bool.true_eq_false, Nat.lt_irrefl, iN_az, not_true_eq_false, not_false_eq_true, Nat.reduceEqDiff, Nat.reduceLT, Nat.reduceAdd, Nat.reduceMul, Nat.reduceSub]
    exact e
end Qe
