/-! THE MODEL: away, bound, matched, share -/
/-- the weight of a value if it is left -/
def lwf (σ : Nat → Nat → Nat) (l u v : Nat) : Nat := if u.testBit v = true then wq σ l v else 2147483647
section Mdh
variable {xs : List Int32} {d m n k i j p a b c u v l q z w y t nn : Nat} {τ M σ W K : Nat → Nat → Nat} {μ μ0 : Nat → Nat} {ν ν0 : Nat → Value} {A B Q T T2 h : ab_H} {s r g f X Z Y tab s0 r0 : Nat → Nat} {L st : List Value} {β : Value} {hs : List (Nat × Nat)} {tt : ab_T} {rr : List ab_I}
set_option maxRecDepth 100000 in
theorem m_213e (O : Ok σ) (H : Mo σ μ ν h) (hl : l < (σ 1 6)) (hu : u < 262144) : ev xs (d + 3) 213 0 ([.ref 62, .int (nI l), .int (nI u), .retAddr 9, .retAddr 9], [], h) = some (.inl (some (.int (nI (mno ((σ 1 2) * (σ 1 5)) (lwf σ l u))))), h) := by
  obtain ⟨hD1, hD2, hH1, hH2, hS, hC, hT, hR, hL, hQ⟩ := Ok_b O
  have hV : (σ 1 2) * (σ 1 5) ≤ 18 := vle O
  have e := m_189 (xs := xs) (d := d + 2) O H
  have hb : ∀ k, k ≤ (σ 1 2) * (σ 1 5) → mno k (lwf σ l u) ≤ 2147483647 := fun k hk => mno_b fun v hv => by
    unfold lwf
    split
    · exact Nat.le_trans (wv_le O (vb O (show v < (σ 1 2) * (σ 1 5) by omega)).2.1) (by decide)
    · exact Nat.le_refl _
  have key : ∀ k, k ≤ (σ 1 2) * (σ 1 5) → ev xs (d + 3) 213 1 ([.ref 62, .int (nI l), .int (nI u), .int (nI (mno k (lwf σ l u))), .int (nI k)], [], h) = some (.inl (some (.int (nI (mno ((σ 1 2) * (σ 1 5)) (lwf σ l u))))), h) := by
    refine lp ((σ 1 2) * (σ 1 5)) ?_ ?_
    · rw [eb_213_1]
      clear hb
      simp (disch := first | assumption | omega | exact st8_a (Nat.le_of_ble_eq_true rfl)) only [e, eb_213_2, eb_213_8, kl_a, kl_d, kl_f, kl_i, kl_l, kl_n, kl_r, xr_1, xr_10, xr_2, xr_27, xr_28, xr_3, xr_31, xr_32, xr_33, xr_34, xr_37, xr_4, xr_40, xr_41, xr_44, xr_47, xr_5, xr_55, xr_76, af_0, af_1, xt_goto, xt_ib, xt_ic, xt_ic_ge, xt_ic_ne, xt_ir, xt_nop, mF_6 H, xq_189_13_virtualm H, xq_211_13_virtualm H, iN_add, iN_mul, iN_sub, iN_and, iN_or, iN_clr, iN_shl, iN_shr, tb_r1, b1_z, b1_or, b1_and, b1_or0, b1_or1, b1_0or, b1_t, b1_f, iN_lt, iN_inj, reduceIte, if_true, if_false, Nat.zero_add, Nat.add_zero, Bool.false_eq_true, Bool.true_eq_false, Nat.lt_irrefl, iN_az, not_true_eq_false, not_false_eq_true, Nat.reduceEqDiff, Nat.reduceLT, Nat.reduceAdd, Nat.reduceMul, Nat.reduceSub]
    · intro k hk ih
      have hk32 : k < 32 := by omega
      have hm := hb k (by omega)
      rw [mno] at ih
      by_cases hk1 : u.testBit k = true
      · have e2 := m_211 (xs := xs) (d := d) O H hl hk
        have hwl : wv σ l (k / (σ 1 5)) (k % (σ 1 5)) ≤ 27 := wv_le O (vb O hk).2.1
        rw [show lwf σ l u k = wv σ l (k / (σ 1 5)) (k % (σ 1 5)) from if_pos hk1] at ih
        rw [eb_213_1]
        clear hb
        simp (disch := first | assumption | omega | exact st8_a (Nat.le_of_ble_eq_true rfl)) only [e, hk, hk1, e2, eb_213_2, eb_213_3, eb_213_4, eb_213_5, eb_213_7, kl_a, kl_d, kl_f, kl_i, kl_l, kl_n, kl_r, xr_1, xr_10, xr_2, xr_27, xr_28, xr_3, xr_31, xr_32, xr_33, xr_34, xr_37, xr_4, xr_40, xr_41, xr_44, xr_47, xr_5, xr_55, xr_76, af_0, af_1, xt_goto, xt_ib, xt_ic, xt_ic_ge, xt_ic_ne, xt_ir, xt_nop, mF_6 H, xq_189_13_virtualm H, xq_211_13_virtualm H, iN_add, iN_mul, iN_sub, iN_and, iN_or, iN_clr, iN_shl, iN_shr, tb_r1, b1_z, b1_or, b1_and, b1_or0, b1_or1, b1_0or, b1_t, b1_f, iN_lt, iN_inj, reduceIte, if_true, if_false, Nat.zero_add, Nat.add_zero, Bool.false_eq_true, Bool.true_eq_false, Nat.lt_irrefl, iN_az, not_true_eq_false, not_false_eq_true, Nat.reduceEqDiff, Nat.reduceLT, Nat.reduceAdd, Nat.reduceMul, Nat.reduceSub]
        exact ih
      · have hk2 : u.testBit k = false := by simpa using hk1
        rw [show lwf σ l u k = 2147483647 from if_neg hk1, Nat.min_eq_left hm] at ih
        rw [eb_213_1]
        clear hb
        simp (disch := first | assumption | omega | exact st8_a (Nat.le_of_ble_eq_true rfl)) only [e, hk, hk2, eb_213_2, eb_213_3, eb_213_6, eb_213_7, kl_a, kl_d, kl_f, kl_i, kl_l, kl_n, kl_r, xr_1, xr_10, xr_2, xr_27, xr_28, xr_3, xr_31, xr_32, xr_33, xr_34, xr_37, xr_4, xr_40, xr_41, xr_44, xr_47, xr_5, xr_55, xr_76, af_0, af_1, xt_goto, xt_ib, xt_ic, xt_ic_ge, xt_ic_ne, xt_ir, xt_nop, mF_6 H, xq_189_13_virtualm H, xq_211_13_virtualm H, iN_add, iN_mul, iN_sub, iN_and, iN_or, iN_clr, iN_shl, iN_shr, tb_r1, b1_z, b1_or, b1_and, b1_or0, b1_or1, b1_0or, b1_t, b1_f, iN_lt, iN_inj, reduceIte, if_true, if_false, Nat.zero_add, Nat.add_zero, Bool.false_eq_true, Bool.true_eq_false, Nat.lt_irrefl, iN_az, not_true_eq_false, not_false_eq_true, Nat.reduceEqDiff, Nat.reduceLT, Nat.reduceAdd, Nat.reduceMul, Nat.reduceSub]
        exact ih
  have e3 := key 0 (Nat.zero_le _)
  rw [mno] at e3
  clear hb key
  simp (disch := first | assumption | omega | exact st8_a (Nat.le_of_ble_eq_true rfl)) only [eb_213_0, kl_a, kl_d, kl_f, kl_i, kl_l, kl_n, kl_r, xr_1, xr_10, xr_2, xr_27, xr_28, xr_3, xr_31, xr_32, xr_33, xr_34, xr_37, xr_4, xr_40, xr_41, xr_44, xr_47, xr_5, xr_55, xr_76, af_0, af_1, xt_goto, xt_ib, xt_ic, xt_ic_ge, xt_ic_ne, xt_ir, xt_nop, mF_6 H, xq_189_13_virtualm H, xq_211_13_virtualm H, iN_add, iN_mul, iN_sub, iN_and, iN_or, iN_clr, iN_shl, iN_shr, tb_r1, b1_z, b1_or, b1_and, b1_or0, b1_or1, b1_0or, b1_t, b1_f, iN_lt, iN_inj, reduceIte, if_true, if_false, Nat.zero_add, Nat.add_zero, Bool.false_eq_true, Bool.true_eq_false, Nat.lt_irrefl, iN_az, not_true_eq_false, not_false_eq_true, Nat.reduceEqDiff, Nat.reduceLT, Nat.reduceAdd, Nat.reduceMul, Nat.reduceSub]
  exact e3
set_option maxRecDepth 100000 in
theorem lwt_eq (O : Ok σ) (hb : ∀ v, (Z l).testBit v = true → v < (σ 1 2) * (σ 1 5)) : lwt σ (Cv σ Z) l = mno ((σ 1 2) * (σ 1 5)) (lwf σ l (Z l)) := by
  obtain ⟨hD1, hD2, hH1, hH2, hS, hC, hT, hR, hL, hQ⟩ := Ok_b O
  refine Nat.le_antisymm (mno_ge (mno_b fun s hs => mno_b fun r hr => ?_) fun v hv => ?_) (mno_ge (mno_b fun v hv => ?_) fun s hs => mno_ge (mno_b fun v hv => ?_) fun r hr => ?_)
  · unfold lwr
    split
    · exact Nat.le_trans (wv_le O hs) (by decide)
    · exact Nat.le_refl _
  · obtain ⟨-, w1, w2, -, -⟩ := vb O hv
    have h1 : lwt σ (Cv σ Z) l ≤ lwr σ (Cv σ Z) l (v / (σ 1 5)) (v % (σ 1 5)) := Nat.le_trans (mno_le w1) (mno_le w2)
    refine Nat.le_trans h1 ?_
    unfold lwr lwf
    by_cases e : (Z l).testBit v = true
    · rw [if_pos e, if_pos ((Cv_v O hv).mpr e)]
      exact Nat.le_refl _
    · rw [if_neg e, if_neg fun z => e ((Cv_v O hv).mp z)]
      exact Nat.le_refl _
  · unfold lwf
    split
    · exact Nat.le_trans (wv_le O (vb O hv).2.1) (by decide)
    · exact Nat.le_refl _
  · unfold lwf
    split
    · exact Nat.le_trans (wv_le O (vb O hv).2.1) (by decide)
    · exact Nat.le_refl _
  · have hv : s * (σ 1 5) + r < (σ 1 2) * (σ 1 5) := tv_b (s := fun _ => s) (r := fun _ => r) (l := 0) hs hr
    refine Nat.le_trans (mno_le hv) ?_
    unfold lwr lwf
    by_cases e : (Z l).testBit (s * (σ 1 5) + r) = true
    · rw [if_pos e, if_pos ((Cv_b O hs hr).mpr e)]
      have h1 : (s * (σ 1 5) + r) / (σ 1 5) = s := tv_d (s := fun _ => s) (r := fun _ => r) (l := 0) hr
      have h2 : (s * (σ 1 5) + r) % (σ 1 5) = r := tv_m (s := fun _ => s) (r := fun _ => r) (l := 0) hr
      unfold wq
      rw [h1, h2]
      exact Nat.le_refl _
    · rw [if_neg e, if_neg fun z => e ((Cv_b O hs hr).mp z)]
      exact Nat.le_refl _
set_option maxRecDepth 100000 in
theorem Cv_0 (O : Ok σ) (hb : ∀ v, (Z l).testBit v = true → v < (σ 1 2) * (σ 1 5)) : Cv σ Z l = 0 ↔ Z l = 0 := by
  constructor
  · intro h
    by_cases e : Z l = 0
    · exact e
    · obtain ⟨v, hv⟩ := nz_tb.mp e
      have := (Cv_v (X := Z) (l := l) O (hb v hv)).mpr hv
      rw [h, Nat.zero_testBit] at this
      cases this
  · intro h
    by_cases e : Cv σ Z l = 0
    · exact e
    · obtain ⟨v, hv⟩ := nz_tb.mp e
      have := (Cv_tb.mp hv).2.2
      rw [h, Nat.zero_testBit] at this
      cases this
-- bound
set_option maxRecDepth 100000 in
theorem m_258 (O : Ok σ) (hX : VS σ X) : ∃ T v, ev xs (d + 8) 258 0 ([.ref 62, .retAddr 9, .retAddr 9, .retAddr 9], [], mh τ M σ μ ν Q) = some (.inl (some (.int (nI (v)))), mh τ M σ (u1 μ 0 0) ν (Q ++ T)) ∧ GT T 19 1833 ∧ ((∃ l, l < (σ 1 6) ∧ X l = 0) ∧ v = 4294967295 ∨ (∀ l, l < (σ 1 6) → X l ≠ 0) ∧ v = sm (σ 1 6) (lwt σ X)) := by
  obtain ⟨hD1, hD2, hH1, hH2, hS, hC, hT, hR, hL, hQ⟩ := Ok_b O
  obtain ⟨T, Z, e, q1, q2, q3, q4, q5⟩ := m_219q (xs := xs) (d := d) (τ := τ) (M := M) (μ := u1 μ 0 0) (ν := ν) (Q := Q) O
  have hXZ : ∀ l, l < (σ 1 6) → X l = Cv σ Z l := fun l hl => VS_u hX q3 hl
  have hlw : ∀ l, l < (σ 1 6) → lwt σ X l = mno ((σ 1 2) * (σ 1 5)) (lwf σ l (Z l)) := fun l hl => by
    rw [← lwt_eq O (q5 l hl)]
    have : ∀ s r, lwr σ X l s r = lwr σ (Cv σ Z) l s r := fun s r => by unfold lwr; rw [hXZ l hl]
    unfold lwt lwq
    rw [show lwr σ X l = lwr σ (Cv σ Z) l from funext fun s => funext fun r => this s r]
  have h0 : ∀ l, l < (σ 1 6) → (X l = 0 ↔ Z l = 0) := fun l hl => by rw [hXZ l hl]; exact Cv_0 O (q5 l hl)
  have hle : ∀ l, l < (σ 1 6) → Z l ≠ 0 → mno ((σ 1 2) * (σ 1 5)) (lwf σ l (Z l)) ≤ 27 := fun l hl hz => by
    obtain ⟨v, hv⟩ := nz_tb.mp hz
    refine Nat.le_trans (mno_le (q5 l hl v hv)) ?_
    unfold lwf
    rw [if_pos hv]
    exact wv_le O (vb O (q5 l hl v hv)).2.1
  have key : ∀ k, k ≤ (σ 1 6) → (∀ j, j < k → Z j ≠ 0) → sm k (lwt σ X) ≤ 27 * k → ∃ v, ev xs (d + 8) 258 2 ([.ref 62, .ref (72 + (Q.length + 18)), .int (nI (sm k (lwt σ X))), .int (nI k)], [], mh τ M σ (u1 μ 0 0) ν (Q ++ T)) = some (.inl (some (.int (nI (v)))), mh τ M σ (u1 μ 0 0) ν (Q ++ T)) ∧ ((∃ l, l < (σ 1 6) ∧ X l = 0) ∧ v = 4294967295 ∨ (∀ l, l < (σ 1 6) → X l ≠ 0) ∧ v = sm (σ 1 6) (lwt σ X)) := by
    refine lp (σ 1 6) ?_ ?_
    · intro h _
      refine ⟨_, ?_, .inr ⟨fun l hl z => h l hl ((h0 l hl).mp z), rfl⟩⟩
      rw [eb_258_2]
      clear h h0 hle hlw hXZ q2 q3 q4 q5 hX
      simp (disch := first | assumption | omega | exact st8_a (Nat.le_of_ble_eq_true rfl)) only [eb_258_7, kl_a, kl_d, kl_f, kl_i, kl_l, kl_n, kl_r, xr_1, xr_10, xr_11, xr_12, xr_13, xr_14, xr_146, xr_147, xr_148, xr_149, xr_15, xr_150, xr_2, xr_3, xr_30, xr_31, xr_32, xr_37, xr_38, xr_4, xr_43, xr_5, xr_64, af_0, af_1, xt_goto, xt_ib, xt_ic, xt_ic_ge, xt_if_ne, xt_ir, xt_nop, mF_8 mh_Mo, mA_63 mh_Mo, mA_64 mh_Mo, mA_65 mh_Mo, mA_66 mh_Mo, mA_67 mh_Mo, mA_68 mh_Mo, mA_69 mh_Mo, mA_70 mh_Mo, mA_71 mh_Mo, xq_213_13_virtualm mh_Mo, xq_219_13_virtualm mh_Mo, pF_0, pF_1, pF_2, pF_5, pF_6, pF_8, pF_12, pF_16, pF_17, pF_18, pF_22, pF_24, pF_19, pF_20, pF_21, pF_23, pN_19, pN_20, pN_21, pN_23, pA_63, pA_64, pA_65, pA_66, pA_67, pA_68, pA_69, pA_70, pA_71, iN_add, iN_mul, iN_sub, iN_and, iN_or, iN_clr, iN_shl, iN_shr, tb_r1, b1_z, b1_or, b1_and, b1_or0, b1_or1, b1_0or, b1_t, b1_f, iN_lt, iN_inj, reduceIte, if_true, if_false, Nat.zero_add, Nat.add_zero, Bool.false_eq_true, Bool.true_eq_false, Nat.lt_irrefl, iN_az, not_true_eq_false, not_false_eq_true, Nat.reduceEqDiff, Nat.reduceLT, Nat.reduceAdd, Nat.reduceMul, Nat.reduceSub]
    · intro k hk ih h hsm
      have hk6 : k < 6 := by omega
      have hz4 := q4 k hk
      by_cases hz : Z k = 0
      · refine ⟨4294967295, ?_, .inl ⟨⟨k, hk, (h0 k hk).mpr hz⟩, rfl⟩⟩
        rw [eb_258_2]
        clear h h0 hle hlw hXZ q2 q3 q4 q5 hX ih
        simp (disch := first | assumption | omega | exact st8_a (Nat.le_of_ble_eq_true rfl)) only [hk, pQ_l q1, hz, eb_258_3, eb_258_4, kl_a, kl_d, kl_f, kl_i, kl_l, kl_n, kl_r, xr_1, xr_10, xr_11, xr_12, xr_13, xr_14, xr_146, xr_147, xr_148, xr_149, xr_15, xr_150, xr_2, xr_3, xr_30, xr_31, xr_32, xr_37, xr_38, xr_4, xr_43, xr_5, xr_64, af_0, af_1, xt_goto, xt_ib, xt_ic, xt_ic_ge, xt_if_ne, xt_ir, xt_nop, mF_8 mh_Mo, mA_63 mh_Mo, mA_64 mh_Mo, mA_65 mh_Mo, mA_66 mh_Mo, mA_67 mh_Mo, mA_68 mh_Mo, mA_69 mh_Mo, mA_70 mh_Mo, mA_71 mh_Mo, xq_213_13_virtualm mh_Mo, xq_219_13_virtualm mh_Mo, pF_0, pF_1, pF_2, pF_5, pF_6, pF_8, pF_12, pF_16, pF_17, pF_18, pF_22, pF_24, pF_19, pF_20, pF_21, pF_23, pN_19, pN_20, pN_21, pN_23, pA_63, pA_64, pA_65, pA_66, pA_67, pA_68, pA_69, pA_70, pA_71, iN_add, iN_mul, iN_sub, iN_and, iN_or, iN_clr, iN_shl, iN_shr, tb_r1, b1_z, b1_or, b1_and, b1_or0, b1_or1, b1_0or, b1_t, b1_f, iN_lt, iN_inj, reduceIte, if_true, if_false, Nat.zero_add, Nat.add_zero, Bool.false_eq_true, Bool.true_eq_false, Nat.lt_irrefl, iN_az, not_true_eq_false, not_false_eq_true, Nat.reduceEqDiff, Nat.reduceLT, Nat.reduceAdd, Nat.reduceMul, Nat.reduceSub]
      · have hm := hle k hk hz
        have e2 := m_213e (xs := xs) (d := d + 4) O (mh_Mo (τ := τ) (M := M) (σ := σ) (μ := u1 μ 0 0) (ν := ν) (Q := Q ++ T)) hk hz4
        obtain ⟨v, e3, g⟩ := ih (fun j hj => by
          by_cases e : j = k
          · rw [e]; exact hz
          · exact h j (by omega)) (by rw [sm, hlw k hk]; omega)
        refine ⟨v, ?_, g⟩
        rw [sm, hlw k hk] at e3
        rw [eb_258_2]
        clear h h0 hle hlw hXZ q2 q3 q4 q5 hX ih g
        simp (disch := first | assumption | omega | exact st8_a (Nat.le_of_ble_eq_true rfl)) only [hk, pQ_l q1, hz, e2, eb_258_3, eb_258_5, eb_258_6, kl_a, kl_d, kl_f, kl_i, kl_l, kl_n, kl_r, xr_1, xr_10, xr_11, xr_12, xr_13, xr_14, xr_146, xr_147, xr_148, xr_149, xr_15, xr_150, xr_2, xr_3, xr_30, xr_31, xr_32, xr_37, xr_38, xr_4, xr_43, xr_5, xr_64, af_0, af_1, xt_goto, xt_ib, xt_ic, xt_ic_ge, xt_if_ne, xt_ir, xt_nop, mF_8 mh_Mo, mA_63 mh_Mo, mA_64 mh_Mo, mA_65 mh_Mo, mA_66 mh_Mo, mA_67 mh_Mo, mA_68 mh_Mo, mA_69 mh_Mo, mA_70 mh_Mo, mA_71 mh_Mo, xq_213_13_virtualm mh_Mo, xq_219_13_virtualm mh_Mo, pF_0, pF_1, pF_2, pF_5, pF_6, pF_8, pF_12, pF_16, pF_17, pF_18, pF_22, pF_24, pF_19, pF_20, pF_21, pF_23, pN_19, pN_20, pN_21, pN_23, pA_63, pA_64, pA_65, pA_66, pA_67, pA_68, pA_69, pA_70, pA_71, iN_add, iN_mul, iN_sub, iN_and, iN_or, iN_clr, iN_shl, iN_shr, tb_r1, b1_z, b1_or, b1_and, b1_or0, b1_or1, b1_0or, b1_t, b1_f, iN_lt, iN_inj, reduceIte, if_true, if_false, Nat.zero_add, Nat.add_zero, Bool.false_eq_true, Bool.true_eq_false, Nat.lt_irrefl, iN_az, not_true_eq_false, not_false_eq_true, Nat.reduceEqDiff, Nat.reduceLT, Nat.reduceAdd, Nat.reduceMul, Nat.reduceSub]
        exact e3
  obtain ⟨v, e2, g⟩ := key 0 (Nat.zero_le _) (fun j hj => absurd hj (Nat.not_lt_zero j)) (Nat.zero_le _)
  refine ⟨T, v, ?_, q2, g⟩
  rw [sm] at e2
  clear h0 hle hlw hXZ q2 q3 q4 q5 hX g key
  simp (disch := first | assumption | omega | exact st8_a (Nat.le_of_ble_eq_true rfl)) only [e, eb_258_0, eb_258_1, kl_a, kl_d, kl_f, kl_i, kl_l, kl_n, kl_r, xr_1, xr_10, xr_11, xr_12, xr_13, xr_14, xr_146, xr_147, xr_148, xr_149, xr_15, xr_150, xr_2, xr_3, xr_30, xr_31, xr_32, xr_37, xr_38, xr_4, xr_43, xr_5, xr_64, af_0, af_1, xt_goto, xt_ib, xt_ic, xt_ic_ge, xt_if_ne, xt_ir, xt_nop, mF_8 mh_Mo, mA_63 mh_Mo, mA_64 mh_Mo, mA_65 mh_Mo, mA_66 mh_Mo, mA_67 mh_Mo, mA_68 mh_Mo, mA_69 mh_Mo, mA_70 mh_Mo, mA_71 mh_Mo, xq_213_13_virtualm mh_Mo, xq_219_13_virtualm mh_Mo, pF_0, pF_1, pF_2, pF_5, pF_6, pF_8, pF_12, pF_16, pF_17, pF_18, pF_22, pF_24, pF_19, pF_20, pF_21, pF_23, pN_19, pN_20, pN_21, pN_23, pA_63, pA_64, pA_65, pA_66, pA_67, pA_68, pA_69, pA_70, pA_71, iN_add, iN_mul, iN_sub, iN_and, iN_or, iN_clr, iN_shl, iN_shr, tb_r1, b1_z, b1_or, b1_and, b1_or0, b1_or1, b1_0or, b1_t, b1_f, iN_lt, iN_inj, reduceIte, if_true, if_false, Nat.zero_add, Nat.add_zero, Bool.false_eq_true, Bool.true_eq_false, Nat.lt_irrefl, iN_az, not_true_eq_false, not_false_eq_true, Nat.reduceEqDiff, Nat.reduceLT, Nat.reduceAdd, Nat.reduceMul, Nat.reduceSub]
  exact e2
-- matched, share
set_option maxRecDepth 100000 in
theorem m_253x (O : Ok σ) (hu : u < 4294967296) (h : ¬ u < (σ 1 2)) : ev xs (d + 2) 253 0 ([.ref 62, .int (nI u)], [], mh τ M σ μ ν Q) = some (.inl (some (.int (nI (0)))), mh τ M σ (u1 μ 0 1) ν Q) := by
  simp (disch := first | assumption | omega | exact st8_a (Nat.le_of_ble_eq_true rfl)) only [m_193 O mh_Mo hu, decide_eq_false h, en0, eb_253_0, eb_253_1, eb_253_2, eb_253_5, eb_253_7, xr_1, xr_10, xr_2, xr_27, xr_28, xr_3, xr_4, xr_5, xr_65, af_0, af_1, xt_goto, xt_ib, xt_ic, xt_if_eq, xt_if_ne, xt_ir, xq_187_13_virtualm mh_Mo, xq_193_13_virtualm mh_Mo, xq_234_13_virtualm mh_Mo, xq_252_13_virtualm mh_Mo, pF_0, pF_1, pF_2, pF_5, pF_6, pF_8, pF_12, pF_16, pF_17, pF_18, pF_22, pF_24, pF_19, pF_20, pF_21, pF_23, pN_19, pN_20, pN_21, pN_23, pA_63, pA_64, pA_65, pA_66, pA_67, pA_68, pA_69, pA_70, pA_71, iN_add, iN_mul, iN_sub, iN_and, iN_or, iN_clr, iN_shl, iN_shr, tb_r1, b1_z, b1_or, b1_and, b1_or0, b1_or1, b1_0or, b1_t, b1_f, iN_lt, iN_inj, reduceIte, if_true, if_false, Nat.zero_add, Nat.add_zero, Bool.false_eq_true, Bool.true_eq_false, Nat.lt_irrefl, iN_az, not_true_eq_false, not_false_eq_true, Nat.reduceEqDiff, Nat.reduceLT, Nat.reduceAdd, Nat.reduceMul, Nat.reduceSub]
set_option maxRecDepth 100000 in
theorem m_253n (O : Ok σ) (h : u < (σ 1 2)) (hν : ν 0 = .null) : ev xs (d + 2) 253 0 ([.ref 62, .int (nI u)], [], mh τ M σ μ ν Q) = some (.inl (some (.int (nI (0)))), mh τ M σ (u1 μ 0 2) ν Q) := by
  obtain ⟨hD1, hD2, hH1, hH2, hS, hC, hT, hR, hL, hQ⟩ := Ok_b O
  have hu : u < 4294967296 := by omega
  simp (disch := first | assumption | omega | exact st8_a (Nat.le_of_ble_eq_true rfl)) only [m_193 O mh_Mo hu, decide_eq_true h, en1, m_234n hν, uu, eb_253_0, eb_253_1, eb_253_2, eb_253_3, eb_253_4, eb_253_5, eb_253_7, xr_1, xr_10, xr_2, xr_27, xr_28, xr_3, xr_4, xr_5, xr_65, af_0, af_1, xt_goto, xt_ib, xt_ic, xt_if_eq, xt_if_ne, xt_ir, xq_187_13_virtualm mh_Mo, xq_193_13_virtualm mh_Mo, xq_234_13_virtualm mh_Mo, xq_252_13_virtualm mh_Mo, pF_0, pF_1, pF_2, pF_5, pF_6, pF_8, pF_12, pF_16, pF_17, pF_18, pF_22, pF_24, pF_19, pF_20, pF_21, pF_23, pN_19, pN_20, pN_21, pN_23, pA_63, pA_64, pA_65, pA_66, pA_67, pA_68, pA_69, pA_70, pA_71, iN_add, iN_mul, iN_sub, iN_and, iN_or, iN_clr, iN_shl, iN_shr, tb_r1, b1_z, b1_or, b1_and, b1_or0, b1_or1, b1_0or, b1_t, b1_f, iN_lt, iN_inj, reduceIte, if_true, if_false, Nat.zero_add, Nat.add_zero, Bool.false_eq_true, Bool.true_eq_false, Nat.lt_irrefl, iN_az, not_true_eq_false, not_false_eq_true, Nat.reduceEqDiff, Nat.reduceLT, Nat.reduceAdd, Nat.reduceMul, Nat.reduceSub]
set_option maxRecDepth 100000 in
theorem m_253 (O : Ok σ) (h : u < (σ 1 2)) (hν : ν 0 = .ref (72 + i)) (hi : Q[i]? = some (oI (ar (σ 1 6) (tv σ s r)))) (hb : ∀ l, l < (σ 1 6) → s l < (σ 1 2) ∧ r l < (σ 1 5)) : ev xs (d + 8) 253 0 ([.ref 62, .int (nI u)], [], mh τ M σ μ ν Q) = some (.inl (some (.int (nI (mtf σ (σ 1 5) 0 (lin σ s u))))), mh τ M σ (u1 μ 0 0) ν Q) := by
  obtain ⟨hD1, hD2, hH1, hH2, hS, hC, hT, hR, hL, hQ⟩ := Ok_b O
  have hu : u < 4294967296 := by omega
  have e := m_252 (xs := xs) (d := d + (3 - (σ 1 5))) (y := u) O (mh_Mo (τ := τ) (M := M) (μ := u1 μ 0 0) (ν := ν) (Q := Q)) hν (mh_Q.trans hi) (fun l hl => tv_b (hb l hl).1 (hb l hl).2) h (σ 1 5) 0 (Nat.zero_add _) 0 (by decide)
  rw [show d + (3 - (σ 1 5)) + (σ 1 5) + 4 = d + 7 by omega] at e
  have e2 : clr (lnt σ (tv σ s r) u) 0 = lin σ s u := by
    have e3 : lnt σ (tv σ s r) u = lin σ s u := en_cg fun l hl => by
      show (cov σ l (tv σ s r l / (σ 1 5))).testBit u = _
      rw [tv_d (hb l hl).2]
    rw [e3]
    exact Nat.eq_of_testBit_eq fun i => by rw [clr_tb, Nat.zero_testBit, Bool.not_false, Bool.and_true]
  rw [e2] at e
  clear hb hi e2
  simp (disch := first | assumption | omega | exact st8_a (Nat.le_of_ble_eq_true rfl)) only [m_193 O mh_Mo hu, decide_eq_true h, en1, m_234r hν, uu, e, eb_253_0, eb_253_1, eb_253_2, eb_253_3, eb_253_4, eb_253_6, eb_253_7, xr_1, xr_10, xr_2, xr_27, xr_28, xr_3, xr_4, xr_5, xr_65, af_0, af_1, xt_goto, xt_ib, xt_ic, xt_if_eq, xt_if_ne, xt_ir, xq_187_13_virtualm mh_Mo, xq_193_13_virtualm mh_Mo, xq_234_13_virtualm mh_Mo, xq_252_13_virtualm mh_Mo, pF_0, pF_1, pF_2, pF_5, pF_6, pF_8, pF_12, pF_16, pF_17, pF_18, pF_22, pF_24, pF_19, pF_20, pF_21, pF_23, pN_19, pN_20, pN_21, pN_23, pA_63, pA_64, pA_65, pA_66, pA_67, pA_68, pA_69, pA_70, pA_71, iN_add, iN_mul, iN_sub, iN_and, iN_or, iN_clr, iN_shl, iN_shr, tb_r1, b1_z, b1_or, b1_and, b1_or0, b1_or1, b1_0or, b1_t, b1_f, iN_lt, iN_inj, reduceIte, if_true, if_false, Nat.zero_add, Nat.add_zero, Bool.false_eq_true, Bool.true_eq_false, Nat.lt_irrefl, iN_az, not_true_eq_false, not_false_eq_true, Nat.reduceEqDiff, Nat.reduceLT, Nat.reduceAdd, Nat.reduceMul, Nat.reduceSub]
set_option maxRecDepth 100000 in
theorem m_265x (O : Ok σ) (hu : u < 4294967296) (h : ¬ u < (σ 1 4)) : ev xs (d + 2) 265 0 ([.ref 62, .int (nI u)], [], mh τ M σ μ ν Q) = some (.inl (some (.int (nI (0)))), mh τ M σ (u1 μ 0 1) ν Q) := by
  simp (disch := first | assumption | omega | exact st8_a (Nat.le_of_ble_eq_true rfl)) only [m_191 O mh_Mo hu, decide_eq_false h, en0, eb_265_0, eb_265_1, eb_265_2, eb_265_5, eb_265_7, xr_1, xr_10, xr_2, xr_27, xr_28, xr_3, xr_4, xr_5, xr_65, af_0, af_1, xt_goto, xt_ib, xt_ic, xt_if_eq, xt_if_ne, xt_ir, mF_19 mh_Mo, mF_8 mh_Mo, xq_187_13_virtualm mh_Mo, xq_191_13_virtualm mh_Mo, xq_214_13_virtualm mh_Mo, xq_234_13_virtualm mh_Mo, pF_0, pF_1, pF_2, pF_5, pF_6, pF_8, pF_12, pF_16, pF_17, pF_18, pF_22, pF_24, pF_19, pF_20, pF_21, pF_23, pN_19, pN_20, pN_21, pN_23, pA_63, pA_64, pA_65, pA_66, pA_67, pA_68, pA_69, pA_70, pA_71, iN_add, iN_mul, iN_sub, iN_and, iN_or, iN_clr, iN_shl, iN_shr, tb_r1, b1_z, b1_or, b1_and, b1_or0, b1_or1, b1_0or, b1_t, b1_f, iN_lt, iN_inj, reduceIte, if_true, if_false, Nat.zero_add, Nat.add_zero, Bool.false_eq_true, Bool.true_eq_false, Nat.lt_irrefl, iN_az, not_true_eq_false, not_false_eq_true, Nat.reduceEqDiff, Nat.reduceLT, Nat.reduceAdd, Nat.reduceMul, Nat.reduceSub]
set_option maxRecDepth 100000 in
theorem m_265n (O : Ok σ) (h : u < (σ 1 4)) (hν : ν 0 = .null) : ev xs (d + 2) 265 0 ([.ref 62, .int (nI u)], [], mh τ M σ μ ν Q) = some (.inl (some (.int (nI (0)))), mh τ M σ (u1 μ 0 2) ν Q) := by
  obtain ⟨hD1, hD2, hH1, hH2, hS, hC, hT, hR, hL, hQ⟩ := Ok_b O
  have hu : u < 4294967296 := by omega
  simp (disch := first | assumption | omega | exact st8_a (Nat.le_of_ble_eq_true rfl)) only [m_191 O mh_Mo hu, decide_eq_true h, en1, m_234n hν, uu, eb_265_0, eb_265_1, eb_265_2, eb_265_3, eb_265_4, eb_265_5, eb_265_7, xr_1, xr_10, xr_2, xr_27, xr_28, xr_3, xr_4, xr_5, xr_65, af_0, af_1, xt_goto, xt_ib, xt_ic, xt_if_eq, xt_if_ne, xt_ir, mF_19 mh_Mo, mF_8 mh_Mo, xq_187_13_virtualm mh_Mo, xq_191_13_virtualm mh_Mo, xq_214_13_virtualm mh_Mo, xq_234_13_virtualm mh_Mo, pF_0, pF_1, pF_2, pF_5, pF_6, pF_8, pF_12, pF_16, pF_17, pF_18, pF_22, pF_24, pF_19, pF_20, pF_21, pF_23, pN_19, pN_20, pN_21, pN_23, pA_63, pA_64, pA_65, pA_66, pA_67, pA_68, pA_69, pA_70, pA_71, iN_add, iN_mul, iN_sub, iN_and, iN_or, iN_clr, iN_shl, iN_shr, tb_r1, b1_z, b1_or, b1_and, b1_or0, b1_or1, b1_0or, b1_t, b1_f, iN_lt, iN_inj, reduceIte, if_true, if_false, Nat.zero_add, Nat.add_zero, Bool.false_eq_true, Bool.true_eq_false, Nat.lt_irrefl, iN_az, not_true_eq_false, not_false_eq_true, Nat.reduceEqDiff, Nat.reduceLT, Nat.reduceAdd, Nat.reduceMul, Nat.reduceSub]
set_option maxRecDepth 100000 in
theorem m_265 (O : Ok σ) (h : u < (σ 1 4)) (hν : ν 0 = .ref (72 + i)) (hi : Q[i]? = some (oI (ar (σ 1 6) (tv σ s r)))) (hb : ∀ l, l < (σ 1 6) → s l < (σ 1 2) ∧ r l < (σ 1 5)) : ev xs (d + 4) 265 0 ([.ref 62, .int (nI u)], [], mh τ M σ μ ν Q) = some (.inl (some (.int (nI (shr σ s u)))), mh τ M σ (u1 μ 0 0) ν Q) := by
  obtain ⟨hD1, hD2, hH1, hH2, hS, hC, hT, hR, hL, hQ⟩ := Ok_b O
  have hu : u < 4294967296 := by omega
  have e := m_214 (xs := xs) (d := d) (u := u) O (mh_Mo (τ := τ) (M := M) (μ := u1 μ 0 0) (ν := ν) (Q := Q)) (mh_Q.trans hi) hL (Nat.le_refl _) (Nat.le_refl _) (fun l hl => tv_b (hb l hl).1 (hb l hl).2) (show u < 2147483648 by omega)
  have e2 : shm σ u (tv σ s r) (σ 1 6) = shr σ s u := shr_cg fun l hl => tv_d (hb l hl).2
  rw [e2] at e
  clear hb hi e2
  simp (disch := first | assumption | omega | exact st8_a (Nat.le_of_ble_eq_true rfl)) only [m_191 O mh_Mo hu, decide_eq_true h, en1, m_234r hν, hν, uu, e, eb_265_0, eb_265_1, eb_265_2, eb_265_3, eb_265_4, eb_265_6, eb_265_7, xr_1, xr_10, xr_2, xr_27, xr_28, xr_3, xr_4, xr_5, xr_65, af_0, af_1, xt_goto, xt_ib, xt_ic, xt_if_eq, xt_if_ne, xt_ir, mF_19 mh_Mo, mF_8 mh_Mo, xq_187_13_virtualm mh_Mo, xq_191_13_virtualm mh_Mo, xq_214_13_virtualm mh_Mo, xq_234_13_virtualm mh_Mo, pF_0, pF_1, pF_2, pF_5, pF_6, pF_8, pF_12, pF_16, pF_17, pF_18, pF_22, pF_24, pF_19, pF_20, pF_21, pF_23, pN_19, pN_20, pN_21, pN_23, pA_63, pA_64, pA_65, pA_66, pA_67, pA_68, pA_69, pA_70, pA_71, iN_add, iN_mul, iN_sub, iN_and, iN_or, iN_clr, iN_shl, iN_shr, tb_r1, b1_z, b1_or, b1_and, b1_or0, b1_or1, b1_0or, b1_t, b1_f, iN_lt, iN_inj, reduceIte, if_true, if_false, Nat.zero_add, Nat.add_zero, Bool.false_eq_true, Bool.true_eq_false, Nat.lt_irrefl, iN_az, not_true_eq_false, not_false_eq_true, Nat.reduceEqDiff, Nat.reduceLT, Nat.reduceAdd, Nat.reduceMul, Nat.reduceSub]
-- away
set_option maxRecDepth 100000 in
theorem WT_fw (hL : (σ 1 6) ≤ 6) {set : Nat} (h : FW 0 W K) (hWT : WT σ set k t y W) : WT σ set k t y K := by
  obtain ⟨h7, h5, h6⟩ := hWT
  refine ⟨fun l hl v => ?_, fun a b u h1 h2 h3 h4 v => ?_, fun i hi => ?_⟩
  · rw [h.2.1 l (by omega)]
    exact h7 l hl v
  · rw [h.1 5 (by decide) (by decide)]
    exact h5 a b u h1 h2 h3 h4 v
  · rw [h.1 6 (by decide) (by decide)]
    exact h6 i hi
set_option maxRecDepth 100000 in
theorem dn_sm {t u : Nat → Nat} : ∀ n k, dn t u n k = sm n fun x => b1 (decide (t (k + x) ≠ u (k + x))) := by
  intro n
  induction n with
  | zero => intro k; rfl
  | succ n ih =>
    intro k
    show b1 (decide (t k ≠ u k)) + dn t u n (k + 1) = _
    rw [sm_hd, ih, Nat.add_zero, sm_cg (n := n) fun x _ => by rw [show k + 1 + x = k + (x + 1) by omega]]
    rfl
set_option maxRecDepth 100000 in
theorem dn_dif (h1 : ∀ l, l < (σ 1 6) → r l < (σ 1 5)) (h2 : ∀ l, l < (σ 1 6) → r0 l < (σ 1 5)) : dn (tv σ s r) (tv σ s0 r0) (σ 1 6) 0 = dif (σ 1 6) s r s0 r0 := by
  rw [dn_sm]
  refine sm_cg fun l hl => ?_
  rw [Nat.zero_add]
  by_cases e : s l = s0 l ∧ r l = r0 l
  · have : tv σ s r l = tv σ s0 r0 l := by
      unfold tv
      rw [e.1, e.2]
    rw [decide_eq_false (fun z => z this), decide_eq_false (fun z : s l ≠ s0 l => z e.1), decide_eq_false (fun z : r l ≠ r0 l => z e.2)]
    rfl
  · have : tv σ s r l ≠ tv σ s0 r0 l := fun z => e ⟨by rw [← tv_d (σ := σ) (s := s) (h1 l hl), z, tv_d (h2 l hl)], by rw [← tv_m (σ := σ) (s := s) (h1 l hl), z, tv_m (h2 l hl)]⟩
    rw [decide_eq_true this]
    by_cases e1 : s l = s0 l
    · have e2 : r l ≠ r0 l := fun z => e ⟨e1, z⟩
      rw [decide_eq_true e2, Bool.or_true]
    · rw [decide_eq_true (show s l ≠ s0 l from e1), Bool.true_or]
set_option maxRecDepth 100000 in
theorem m_262x (O : Ok σ) (ha : a < 4294967296) (hb : b < 4294967296) (h : ¬ (a < (σ 1 4) ∧ b < (σ 1 0))) : ev xs (d + 3) 262 0 ([.ref 62, .int (nI a), .int (nI b), .retAddr 9, .retAddr 9], [], mh τ M σ μ ν Q) = some (.inl (some (.int (nI (0)))), mh τ M σ (u1 μ 0 1) ν Q) := by
  have e := m_261 (xs := xs) (d := d) (τ := τ) (M := M) (μ := μ) (ν := ν) (Q := Q) O ha hb
  rw [if_neg h] at e
  simp (disch := first | assumption | omega | exact st8_a (Nat.le_of_ble_eq_true rfl)) only [e, eb_262_0, eb_262_1, eb_262_4, kl_a, kl_d, kl_f, kl_i, kl_l, kl_n, kl_r, xr_1, xr_10, xr_145, xr_158, xr_159, xr_160, xr_161, xr_162, xr_2, xr_21, xr_22, xr_23, xr_24, xr_25, xr_28, xr_3, xr_31, xr_33, xr_34, xr_4, xr_40, xr_5, xr_64, xr_65, xr_8, xr_9, af_0, af_1, xt_goto, xt_ib, xt_ic, xt_ic_gt, xt_if_eq, xt_if_ne, xt_ir, xt_nop, mF_19 mh_Mo, mF_8 mh_Mo, xq_172_100_special, xq_217_13_virtualm mh_Mo, xq_234_13_virtualm mh_Mo, xq_261_13_virtualm mh_Mo, pF_0, pF_1, pF_2, pF_5, pF_6, pF_8, pF_12, pF_16, pF_17, pF_18, pF_22, pF_24, pF_19, pF_20, pF_21, pF_23, pN_19, pN_20, pN_21, pN_23, pA_63, pA_64, pA_65, pA_66, pA_67, pA_68, pA_69, pA_70, pA_71, iN_add, iN_mul, iN_sub, iN_and, iN_or, iN_clr, iN_shl, iN_shr, tb_r1, b1_z, b1_or, b1_and, b1_or0, b1_or1, b1_0or, b1_t, b1_f, iN_lt, iN_inj, reduceIte, if_true, if_false, Nat.zero_add, Nat.add_zero, Bool.false_eq_true, Bool.true_eq_false, Nat.lt_irrefl, iN_az, not_true_eq_false, not_false_eq_true, Nat.reduceEqDiff, Nat.reduceLT, Nat.reduceAdd, Nat.reduceMul, Nat.reduceSub]
set_option maxRecDepth 100000 in
theorem m_262n (O : Ok σ) (h : a < (σ 1 4) ∧ b < (σ 1 0)) (hν : ν 0 = .null) : ev xs (d + 3) 262 0 ([.ref 62, .int (nI a), .int (nI b), .retAddr 9, .retAddr 9], [], mh τ M σ μ ν Q) = some (.inl (some (.int (nI (0)))), mh τ M σ (u1 μ 0 2) ν Q) := by
  obtain ⟨hD1, hD2, hH1, hH2, hS, hC, hT, hR, hL, hQ⟩ := Ok_b O
  have e := m_261 (xs := xs) (d := d) (τ := τ) (M := M) (μ := μ) (ν := ν) (Q := Q) O (show a < 4294967296 by omega) (show b < 4294967296 by omega)
  rw [if_pos h] at e
  simp (disch := first | assumption | omega | exact st8_a (Nat.le_of_ble_eq_true rfl)) only [e, m_234n hν, uu, eb_262_0, eb_262_1, eb_262_2, eb_262_3, eb_262_4, kl_a, kl_d, kl_f, kl_i, kl_l, kl_n, kl_r, xr_1, xr_10, xr_145, xr_158, xr_159, xr_160, xr_161, xr_162, xr_2, xr_21, xr_22, xr_23, xr_24, xr_25, xr_28, xr_3, xr_31, xr_33, xr_34, xr_4, xr_40, xr_5, xr_64, xr_65, xr_8, xr_9, af_0, af_1, xt_goto, xt_ib, xt_ic, xt_ic_gt, xt_if_eq, xt_if_ne, xt_ir, xt_nop, mF_19 mh_Mo, mF_8 mh_Mo, xq_172_100_special, xq_217_13_virtualm mh_Mo, xq_234_13_virtualm mh_Mo, xq_261_13_virtualm mh_Mo, pF_0, pF_1, pF_2, pF_5, pF_6, pF_8, pF_12, pF_16, pF_17, pF_18, pF_22, pF_24, pF_19, pF_20, pF_21, pF_23, pN_19, pN_20, pN_21, pN_23, pA_63, pA_64, pA_65, pA_66, pA_67, pA_68, pA_69, pA_70, pA_71, iN_add, iN_mul, iN_sub, iN_and, iN_or, iN_clr, iN_shl, iN_shr, tb_r1, b1_z, b1_or, b1_and, b1_or0, b1_or1, b1_0or, b1_t, b1_f, iN_lt, iN_inj, reduceIte, if_true, if_false, Nat.zero_add, Nat.add_zero, Bool.false_eq_true, Bool.true_eq_false, Nat.lt_irrefl, iN_az, not_true_eq_false, not_false_eq_true, Nat.reduceEqDiff, Nat.reduceLT, Nat.reduceAdd, Nat.reduceMul, Nat.reduceSub]
set_option maxRecDepth 100000 in
theorem m_262 (O : Ok σ) (h : a < (σ 1 4) ∧ b < (σ 1 0)) (hν : ν 0 = .ref (72 + i)) (hi : Q[i]? = some (oI (ar (σ 1 6) (tv σ s0 r0)))) (hb : ∀ l, l < (σ 1 6) → s0 l < (σ 1 2) ∧ r0 l < (σ 1 5)) : ∃ ν' T v, ev xs (d + 14) 262 0 ([.ref 62, .int (nI a), .int (nI b), .retAddr 9, .retAddr 9], [], mh τ M σ μ ν Q) = some (.inl (some (.int (nI (v)))), mh τ M σ (u1 μ 0 0) ν' (Q ++ T)) ∧ GT T 19 1833 ∧ MOU σ ν ν' Q.length (Q ++ T) v (fun s r => Gd σ (alr σ) s r ∧ NB σ a b s) (fun s r => dif (σ 1 6) s r s0 r0) := by
  obtain ⟨hD1, hD2, hH1, hH2, hS, hC, hT, hR, hL, hQ⟩ := Ok_b O
  have H := mh_Mo (τ := τ) (M := M) (σ := σ) (μ := u1 μ 0 0) (ν := ν) (Q := Q)
  have e := m_261 (xs := xs) (d := d + 11) (τ := τ) (M := M) (μ := μ) (ν := ν) (Q := Q) O (show a < 4294967296 by omega) (show b < 4294967296 by omega)
  rw [if_pos h] at e
  obtain ⟨W, e1, hB, hZ⟩ := m_172 (xs := xs) (d := d + 8) O H
  have e2 := fun W => m_217 (xs := xs) (d := d + 13) O (Mo_hw (nn := (σ 1 6)) (W := W) (β := .null) (T := []) H)
  have hX : WX σ W := ⟨hB, fun i hi j _ => hZ (10 + i) (by omega) j⟩
  obtain ⟨K, e3, f3, hWT⟩ := m_174 (xs := xs) (d := d + 8) (β := .null) (T := []) (t := a) (y := b) O H (alr_lt O) (.inr h) hB
  have hX3 := WX_tk f3 hX
  have hq : (mh τ M σ (u1 μ 0 0) ν Q)[72 + i]? = some (oI (ar (σ 1 6) (tv σ s0 r0))) := mh_Q.trans hi
  have hr : ∀ l, l < (σ 1 6) → r0 l < (σ 1 5) := fun l hl => (hb l hl).2
  have hdl : ∀ s r, dif (σ 1 6) s r s0 r0 ≤ (σ 1 6) := fun s r => by
    have := sm_le (n := (σ 1 6)) (c := 1) (f := fun l => b1 (decide (s l ≠ s0 l) || decide (r l ≠ r0 l))) fun l _ => by
      have := b1_lt (decide (s l ≠ s0 l) || decide (r l ≠ r0 l))
      show b1 _ ≤ 1
      omega
    rw [Nat.mul_one] at this
    exact this
  have key : ∀ k, k ≤ (σ 1 6) + 1 → ∀ W, WX σ W → WT σ (alr σ) (σ 1 7) a b W → (∀ s r, Gd σ (alr σ) s r ∧ NB σ a b s → k ≤ dif (σ 1 6) s r s0 r0) → ∃ ν' T v, ev xs (d + 14) 262 9 ([.ref 62, .int (nI a), .int (nI b), .ref (mh τ M σ (u1 μ 0 0) ν Q).length, .int (nI k)], [], hw (mh τ M σ (u1 μ 0 0) ν Q) (σ 1 6) W .null []) = some (.inl (some (.int (nI (v)))), mh τ M σ (u1 μ 0 0) ν' (Q ++ T)) ∧ GT T 19 1833 ∧ MOU σ ν ν' Q.length (Q ++ T) v (fun s r => Gd σ (alr σ) s r ∧ NB σ a b s) (fun s r => dif (σ 1 6) s r s0 r0) := by
    refine lp ((σ 1 6) + 1) ?_ ?_
    · intro W hX hWT hk
      refine ⟨ν, wcs (72 + Q.length) (σ 1 6) W .null ++ [], 4294967295, ?_, GT_w (GT_ww hL (c := 0) (Nat.le_refl _) SZ_0) (by decide) (by decide), fun _ _ => rfl, .inl ⟨rfl, rfl, fun s r hG => ?_⟩⟩
      · rw [← hw_mh, eb_262_9]
        clear hk hX hWT hX3 f3 hB hZ hi hq hb hr hdl
        have hlt : (σ 1 6) < (σ 1 6) + 1 := Nat.lt_succ_self _
        simp (disch := first | assumption | omega | exact st8_a (Nat.le_of_ble_eq_true rfl)) only [hlt, eb_262_15, kl_a, kl_d, kl_f, kl_i, kl_l, kl_n, kl_r, xr_1, xr_10, xr_145, xr_158, xr_159, xr_160, xr_161, xr_162, xr_2, xr_21, xr_22, xr_23, xr_24, xr_25, xr_28, xr_3, xr_31, xr_33, xr_34, xr_4, xr_40, xr_5, xr_64, xr_65, xr_8, xr_9, af_0, af_1, xt_goto, xt_ib, xt_ic, xt_ic_gt, xt_if_eq, xt_if_ne, xt_ir, xt_nop, mF_19 mh_Mo, mF_8 mh_Mo, xq_172_100_special, xq_217_13_virtualm mh_Mo, xq_234_13_virtualm mh_Mo, xq_261_13_virtualm mh_Mo, pF_0, pF_1, pF_2, pF_5, pF_6, pF_8, pF_12, pF_16, pF_17, pF_18, pF_22, pF_24, pF_19, pF_20, pF_21, pF_23, pN_19, pN_20, pN_21, pN_23, pA_63, pA_64, pA_65, pA_66, pA_67, pA_68, pA_69, pA_70, pA_71, wF_0, wF_1, wF_2, wF_3, wF_4, wF_5, wF_6, wF_7, wF_8, wF_9, wF_10, wF_11, wF_12, wF_13, wP_9, wP_10, wL_5, wC_5, wC_17, wD, hw_app, hw_len, wA_1, wA_2, wA_3, wA_4, wA_5, wA_6, wA_7, wA_8, wA_17, wW_1, wW_2, wW_3, wW_4, wW_5, wW_6, wW_7, wW_8, wW_17, mF_19 (Mo_hw H), mF_8 (Mo_hw H), xq_174_12_virtual wy_c, xq_180_12_virtual wy_c, xq_181_62_virtual wy_c, xq_217_13_virtualm (Mo_hw H), xq_234_13_virtualm (Mo_hw H), xq_261_13_virtualm (Mo_hw H), pW_19, pWn_19, iN_add, iN_mul, iN_sub, iN_and, iN_or, iN_clr, iN_shl, iN_shr, tb_r1, b1_z, b1_or, b1_and, b1_or0, b1_or1, b1_0or, b1_t, b1_f, iN_lt, iN_inj, reduceIte, if_true, if_false, Nat.zero_add, Nat.add_zero, Bool.false_eq_true, Bool.true_eq_false, Nat.lt_irrefl, iN_az, not_true_eq_false, not_false_eq_true, Nat.reduceEqDiff, Nat.reduceLT, Nat.reduceAdd, Nat.reduceMul, Nat.reduceSub]
      · have := hk s r hG
        have := hdl s r
        omega
    · intro k hk ih W hX hWT hkd
      have hI := WT_IW O hX hWT
      obtain ⟨N, f, e4, f2, g1, g2⟩ := m_180 (xs := xs) (d := d + (7 - (σ 1 6))) (β := .null) (T := []) O H hq (fun l hl => by have := tv_b (σ := σ) (hb l hl).1 (hb l hl).2; have := vle O; omega) (σ 1 6) 0 k (Nat.zero_add _) (by omega) W hI
      rw [show d + (7 - (σ 1 6)) + (σ 1 6) + 6 = d + 13 by omega] at e4
      have at0 : ∀ t : Nat → Nat, AT 0 t (W 8) := fun t j hj => absurd hj (Nat.not_lt_zero j)
      have hk6 : ¬ (σ 1 6) < k := by omega
      cases f
      · obtain ⟨ν', T, v, e5, q⟩ := ih N (WX_fw f2 hX) (WT_fw hL f2 hWT) fun s r hG => by
          have h1 := hkd s r hG
          have h2 := g1 rfl _ (PA_G O hWT hG.1 hG.2) (at0 _)
          rw [dn_dif (fun l hl => (hG.1.1 l hl).2) hr] at h2
          omega
        refine ⟨ν', T, v, ?_, q⟩
        rw [← e5, eb_262_9]
        rw [b1_f] at e4
        clear q hkd hX hWT hX3 f3 hB hZ hi hq hb hr hdl ih g1 g2 f2 hI at0
        simp (disch := first | assumption | omega | exact st8_a (Nat.le_of_ble_eq_true rfl)) only [hk6, hν, e4, eb_262_10, eb_262_11, eb_262_14, kl_a, kl_d, kl_f, kl_i, kl_l, kl_n, kl_r, xr_1, xr_10, xr_145, xr_158, xr_159, xr_160, xr_161, xr_162, xr_2, xr_21, xr_22, xr_23, xr_24, xr_25, xr_28, xr_3, xr_31, xr_33, xr_34, xr_4, xr_40, xr_5, xr_64, xr_65, xr_8, xr_9, af_0, af_1, xt_goto, xt_ib, xt_ic, xt_ic_gt, xt_if_eq, xt_if_ne, xt_ir, xt_nop, mF_19 mh_Mo, mF_8 mh_Mo, xq_172_100_special, xq_217_13_virtualm mh_Mo, xq_234_13_virtualm mh_Mo, xq_261_13_virtualm mh_Mo, pF_0, pF_1, pF_2, pF_5, pF_6, pF_8, pF_12, pF_16, pF_17, pF_18, pF_22, pF_24, pF_19, pF_20, pF_21, pF_23, pN_19, pN_20, pN_21, pN_23, pA_63, pA_64, pA_65, pA_66, pA_67, pA_68, pA_69, pA_70, pA_71, wF_0, wF_1, wF_2, wF_3, wF_4, wF_5, wF_6, wF_7, wF_8, wF_9, wF_10, wF_11, wF_12, wF_13, wP_9, wP_10, wL_5, wC_5, wC_17, wD, hw_app, hw_len, wA_1, wA_2, wA_3, wA_4, wA_5, wA_6, wA_7, wA_8, wA_17, wW_1, wW_2, wW_3, wW_4, wW_5, wW_6, wW_7, wW_8, wW_17, mF_19 (Mo_hw H), mF_8 (Mo_hw H), xq_174_12_virtual wy_c, xq_180_12_virtual wy_c, xq_181_62_virtual wy_c, xq_217_13_virtualm (Mo_hw H), xq_234_13_virtualm (Mo_hw H), xq_261_13_virtualm (Mo_hw H), pW_19, pWn_19, iN_add, iN_mul, iN_sub, iN_and, iN_or, iN_clr, iN_shl, iN_shr, tb_r1, b1_z, b1_or, b1_and, b1_or0, b1_or1, b1_0or, b1_t, b1_f, iN_lt, iN_inj, reduceIte, if_true, if_false, Nat.zero_add, Nat.add_zero, Bool.false_eq_true, Bool.true_eq_false, Nat.lt_irrefl, iN_az, not_true_eq_false, not_false_eq_true, Nat.reduceEqDiff, Nat.reduceLT, Nat.reduceAdd, Nat.reduceMul, Nat.reduceSub]
      · obtain ⟨g3, g4, g5⟩ := g2 rfl
        obtain ⟨p1, p2, p3⟩ := (PA_Gd O hWT).mp g3
        have e6 := m_181 (xs := xs) (d := d + 12) (W := N) (β := .null) (T := []) O H
        rw [List.length_nil, List.nil_append] at e6
        have p4 : ∀ l, l < (σ 1 6) → N 8 l % (σ 1 5) < (σ 1 5) := fun l hl => (vb O (p1 l hl)).2.2.1
        have p5 : dif (σ 1 6) (fun l => N 8 l / (σ 1 5)) (fun l => N 8 l % (σ 1 5)) s0 r0 ≤ k := by
          rw [← dn_dif (σ := σ) p4 hr, tv_t]
          exact g4
        have p6 := hkd _ _ ⟨p2, p3⟩
        refine ⟨uv ν 0 (.ref (72 + (Q.length + (18 + 0)))), wcs (72 + Q.length) (σ 1 6) N .null ++ [oI (ar (σ 1 6) (N 8))], k, ?_, GT_w (GT_ww hL (c := 1) (Nat.le_refl _) SZ_1) (by decide) (by decide), fun _ h => if_neg h, .inr ⟨Q.length + (18 + 0), fun l => N 8 l / (σ 1 5), fun l => N 8 l % (σ 1 5), if_pos rfl, Nat.le_add_right _ _, ?_, fun l hl => ⟨(vb O (p1 l hl)).2.1, (vb O (p1 l hl)).2.2.1⟩, ⟨p2, p3⟩, Nat.le_antisymm p5 p6, by omega, hkd, fun s r hG hd hx => ?_⟩⟩
        · rw [len_w (τ := τ) (M := M) (σ := σ) (μ := u1 μ 0 0) (ν := ν), ← hw_mh, eb_262_9]
          rw [b1_t] at e4
          clear hkd hX hWT hX3 f3 hB hZ hi hq hb hr hdl ih g1 g2 f2 hI at0 g3 g4 g5 p1 p2 p3 p4 p5 p6
          simp (disch := first | assumption | omega | exact st8_a (Nat.le_of_ble_eq_true rfl)) only [hk6, hν, e4, e6, eb_262_10, eb_262_11, eb_262_12, eb_262_13, kl_a, kl_d, kl_f, kl_i, kl_l, kl_n, kl_r, xr_1, xr_10, xr_145, xr_158, xr_159, xr_160, xr_161, xr_162, xr_2, xr_21, xr_22, xr_23, xr_24, xr_25, xr_28, xr_3, xr_31, xr_33, xr_34, xr_4, xr_40, xr_5, xr_64, xr_65, xr_8, xr_9, af_0, af_1, xt_goto, xt_ib, xt_ic, xt_ic_gt, xt_if_eq, xt_if_ne, xt_ir, xt_nop, mF_19 mh_Mo, mF_8 mh_Mo, xq_172_100_special, xq_217_13_virtualm mh_Mo, xq_234_13_virtualm mh_Mo, xq_261_13_virtualm mh_Mo, pF_0, pF_1, pF_2, pF_5, pF_6, pF_8, pF_12, pF_16, pF_17, pF_18, pF_22, pF_24, pF_19, pF_20, pF_21, pF_23, pN_19, pN_20, pN_21, pN_23, pA_63, pA_64, pA_65, pA_66, pA_67, pA_68, pA_69, pA_70, pA_71, wF_0, wF_1, wF_2, wF_3, wF_4, wF_5, wF_6, wF_7, wF_8, wF_9, wF_10, wF_11, wF_12, wF_13, wP_9, wP_10, wL_5, wC_5, wC_17, wD, hw_app, hw_len, wA_1, wA_2, wA_3, wA_4, wA_5, wA_6, wA_7, wA_8, wA_17, wW_1, wW_2, wW_3, wW_4, wW_5, wW_6, wW_7, wW_8, wW_17, mF_19 (Mo_hw H), mF_8 (Mo_hw H), xq_174_12_virtual wy_c, xq_180_12_virtual wy_c, xq_181_62_virtual wy_c, xq_217_13_virtualm (Mo_hw H), xq_234_13_virtualm (Mo_hw H), xq_261_13_virtualm (Mo_hw H), pW_19, pWn_19, iN_add, iN_mul, iN_sub, iN_and, iN_or, iN_clr, iN_shl, iN_shr, tb_r1, b1_z, b1_or, b1_and, b1_or0, b1_or1, b1_0or, b1_t, b1_f, iN_lt, iN_inj, reduceIte, if_true, if_false, Nat.zero_add, Nat.add_zero, Bool.false_eq_true, Bool.true_eq_false, Nat.lt_irrefl, iN_az, not_true_eq_false, not_false_eq_true, Nat.reduceEqDiff, Nat.reduceLT, Nat.reduceAdd, Nat.reduceMul, Nat.reduceSub]
        · rw [gt_w, tv_t]
          rfl
        · have hr3 : ∀ l, l < (σ 1 6) → r l < (σ 1 5) := fun l hl => (hG.1.1 l hl).2
          refine g5 _ (PA_G O hWT hG.1 hG.2) (at0 _) ?_ (TX_n O hr3 hx)
          rw [dn_dif hr3 hr]
          exact Nat.le_of_eq hd
  obtain ⟨ν', T, v, e5, q⟩ := key 0 (Nat.zero_le _) K hX3 hWT fun _ _ _ => Nat.zero_le _
  refine ⟨ν', T, v, ?_, q⟩
  rw [← e5]
  clear q hX hWT hX3 f3 hB hZ hi hq hb hr hdl key
  simp (disch := first | assumption | omega | exact st8_a (Nat.le_of_ble_eq_true rfl)) only [e, m_234r hν, uu, xr_145, e1, e2, e3, eb_262_0, eb_262_1, eb_262_2, eb_262_3, eb_262_5, eb_262_6, eb_262_7, eb_262_8, kl_a, kl_d, kl_f, kl_i, kl_l, kl_n, kl_r, xr_1, xr_10, xr_158, xr_159, xr_160, xr_161, xr_162, xr_2, xr_21, xr_22, xr_23, xr_24, xr_25, xr_28, xr_3, xr_31, xr_33, xr_34, xr_4, xr_40, xr_5, xr_64, xr_65, xr_8, xr_9, af_0, af_1, xt_goto, xt_ib, xt_ic, xt_ic_gt, xt_if_eq, xt_if_ne, xt_ir, xt_nop, mF_19 mh_Mo, mF_8 mh_Mo, xq_172_100_special, xq_217_13_virtualm mh_Mo, xq_234_13_virtualm mh_Mo, xq_261_13_virtualm mh_Mo, pF_0, pF_1, pF_2, pF_5, pF_6, pF_8, pF_12, pF_16, pF_17, pF_18, pF_22, pF_24, pF_19, pF_20, pF_21, pF_23, pN_19, pN_20, pN_21, pN_23, pA_63, pA_64, pA_65, pA_66, pA_67, pA_68, pA_69, pA_70, pA_71, wF_0, wF_1, wF_2, wF_3, wF_4, wF_5, wF_6, wF_7, wF_8, wF_9, wF_10, wF_11, wF_12, wF_13, wP_9, wP_10, wL_5, wC_5, wC_17, wD, hw_app, hw_len, wA_1, wA_2, wA_3, wA_4, wA_5, wA_6, wA_7, wA_8, wA_17, wW_1, wW_2, wW_3, wW_4, wW_5, wW_6, wW_7, wW_8, wW_17, mF_19 (Mo_hw H), mF_8 (Mo_hw H), xq_174_12_virtual wy_c, xq_180_12_virtual wy_c, xq_181_62_virtual wy_c, xq_217_13_virtualm (Mo_hw H), xq_234_13_virtualm (Mo_hw H), xq_261_13_virtualm (Mo_hw H), pW_19, pWn_19, iN_add, iN_mul, iN_sub, iN_and, iN_or, iN_clr, iN_shl, iN_shr, tb_r1, b1_z, b1_or, b1_and, b1_or0, b1_or1, b1_0or, b1_t, b1_f, iN_lt, iN_inj, reduceIte, if_true, if_false, Nat.zero_add, Nat.add_zero, Bool.false_eq_true, Bool.true_eq_false, Nat.lt_irrefl, iN_az, not_true_eq_false, not_false_eq_true, Nat.reduceEqDiff, Nat.reduceLT, Nat.reduceAdd, Nat.reduceMul, Nat.reduceSub]
end Mdh
