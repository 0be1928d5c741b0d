/-! THE MODEL: away, bound, matched, share -/
/-- the weight of a value if it is left -/
def lwf (σ : Nat → Nat → Nat) (l u v : Nat) : Nat := if u.testBit v = true then wq σ l v else 2147483647
section Mdh
variable {xs : List Int32} {d m n k i j p a b c u v l q z w y t nn : Nat} {τ M σ W K : Nat → Nat → Nat} {μ μ0 : Nat → Nat} {ν ν0 : Nat → Value} {A B Q T T2 h : ab_H} {s r g f X Z Y tab s0 r0 : Nat → Nat} {L st : List Value} {β : Value} {hs : List (Nat × Nat)} {tt : ab_T} {rr : List ab_I}
set_option maxRecDepth 100000 in
theorem m_213e (O : Ok σ) (H : Mo σ μ ν h) (hl : l < (σ 1 6)) (hu : u < 262144) : ev xs (d + 3) 213 0 ([.ref 62, .int (nI l), .int (nI u), .retAddr 9, .retAddr 9], [], h) = some (.inl (some (.int (nI (mno ((σ 1 2) * (σ 1 5)) (lwf σ l u))))), h) := by
  obtain ⟨hD1, hD2, hH1, hH2, hS, hC, hT, hR, hL, hQ⟩ := Ok_b O
  have hV : (σ 1 2) * (σ 1 5) ≤ 18 := vle O
  have e := m_189 (xs := xs) (d := d + 2) O H
  have hb : ∀ k, k ≤ (σ 1 2) * (σ 1 5) → mno k (lwf σ l u) ≤ 2147483647 := fun k hk => mno_b fun v hv => by
    unfold lwf
    split
    · exact Nat.le_trans (wv_le O (vb O (show v < (σ 1 2) * (σ 1 5) by omega)).2.1) (by decide)
    · exact Nat.le_refl _
  have key : ∀ k, k ≤ (σ 1 2) * (σ 1 5) → ev xs (d + 3) 213 1 ([.ref 62, .int (nI l), .int (nI u), .int (nI (mno k (lwf σ l u))), .int (nI k)], [], h) = some (.inl (some (.int (nI (mno ((σ 1 2) * (σ 1 5)) (lwf σ l u))))), h) := by
    refine lp ((σ 1 2) * (σ 1 5)) ?_ ?_
    · rw [eb_213_1]
      clear hb
      simp (disch := first | assumption | omega | exact st8_a (Nat.le_of_ble_eq_true rfl)) only [e, eb_213_2, eb_213_8, kl_a, kl_d, kl_f, kl_i, kl_l, kl_n, kl_r, xr_1, xr_10, xr_2, xr_27, xr_28, xr_3, xr_31, xr_32, xr_33, xr_34, xr_37, xr_4, xr_40, xr_41, xr_44, xr_47, xr_5, xr_55, xr_76, af_0, af_1, xt_goto, xt_ib, xt_ic, xt_ic_ge, xt_ic_ne, xt_ir, xt_nop, mF_6 H, xq_189_13_virtualm H, xq_211_13_virtualm H, iN_add, iN_mul, iN_sub, iN_and, iN_or, iN_clr, iN_shl, iN_shr, tb_r1, b1_z, b1_or, b1_and, b1_or0, b1_or1, b1_0or, b1_t, b1_f, iN_lt, iN_inj, reduceIte, if_true, if_false, Nat.zero_add, Nat.add_zero, Bool.false_eq_true, Bool.true_eq_false, Nat.lt_irrefl, iN_az, not_true_eq_false, not_false_eq_true, Nat.reduceEqDiff, Nat.reduceLT, Nat.reduceAdd, Nat.reduceMul, Nat.reduceSub]
    · intro k hk ih
      have hk32 : k < 32 := by omega
      have hm := hb k (by omega)
      rw [mno] at ih
      by_cases hk1 : u.testBit k = true
      · have e2 := m_211 (xs := xs) (d := d) O H hl hk
        have hwl : wv σ l (k / (σ 1 5)) (k % (σ 1 5)) ≤ 27 := wv_le O (vb O hk).2.1
        rw [show lwf σ l u k = wv σ l (k / (σ 1 5)) (k % (σ 1 5)) from if_pos hk1] at ih
        rw [eb_213_1]
        clear hb
        simp (disch := first | assumption | omega | exact st8_a (Nat.le_of_ble_eq_true rfl)) only [e, hk, hk1, e2, eb_213_2, eb_213_3, eb_213_4, eb_213_5, eb_213_7, kl_a, kl_d, kl_f, kl_i, kl_l, kl_n, kl_r, xr_1, xr_10, xr_2, xr_27, xr_28, xr_3, xr_31, xr_32, xr_33, xr_34, xr_37, xr_4, xr_40, xr_41, xr_44, xr_47, xr_5, xr_55, xr_76, af_0, af_1, xt_goto, xt_ib, xt_ic, xt_ic_ge, xt_ic_ne, xt_ir, xt_nop, mF_6 H, xq_189_13_virtualm H, xq_211_13_virtualm H, iN_add, iN_mul, iN_sub, iN_and, iN_or, iN_clr, iN_shl, iN_shr, tb_r1, b1_z, b1_or, b1_and, b1_or0, b1_or1, b1_0or, b1_t, b1_f, iN_lt, iN_inj, reduceIte, if_true, if_false, Nat.zero_add, Nat.add_zero, Bool.false_eq_true, Bool.true_eq_false, Nat.lt_irrefl, iN_az, not_true_eq_false, not_false_eq_true, Nat.reduceEqDiff, Nat.reduceLT, Nat.reduceAdd, Nat.reduceMul, Nat.reduceSub]
        exact ih
      · have hk2 : u.testBit k = false := by simpa using hk1
        rw [show lwf σ l u k = 2147483647 from if_neg hk1, Nat.min_eq_left hm] at ih
        rw [eb_213_1]
        clear hb
        simp (disch := first | assumption | omega | exact st8_a (Nat.le_of_ble_eq_true rfl)) only [e, hk, hk2, eb_213_2, eb_213_3, eb_213_6, eb_213_7, kl_a, kl_d, kl_f, kl_i, kl_l, kl_n, kl_r, xr_1, xr_10, xr_2, xr_27, xr_28, xr_3, xr_31, xr_32, xr_33, xr_34, xr_37, xr_4, xr_40, xr_41, xr_44, xr_47, xr_5, xr_55, xr_76, af_0, af_1, xt_goto, xt_ib, xt_ic, xt_ic_ge, xt_ic_ne, xt_ir, xt_nop, mF_6 H, xq_189_13_virtualm H, xq_211_13_virtualm H, iN_add, iN_mul, iN_sub, iN_and, iN_or, iN_clr, iN_shl, iN_shr, tb_r1, b1_z, b1_or, b1_and, b1_or0, b1_or1, b1_0or, b1_t, b1_f, iN_lt, iN_inj, reduceIte, if_true, if_false, Nat.zero_add, Nat.add_zero, Bool.false_eq_true, Bool.true_eq_false, Nat.lt_irrefl, iN_az, not_true_eq_false, not_false_eq_true, Nat.reduceEqDiff, Nat.reduceLT, Nat.reduceAdd, Nat.reduceMul, Nat.reduceSub]
        exact ih
  have e3 := key 0 (Nat.zero_le _)
  rw [mno] at e3
  clear hb key
  simp (disch := first | assumption | omega | exact st8_a (Nat.le_of_ble_eq_true rfl)) only [eb_213_0, kl_a, kl_d, kl_f, kl_i, kl_l, kl_n, kl_r, xr_1, xr_10, xr_2, xr_27, xr_28, xr_3, xr_31, xr_32, xr_33, xr_34, xr_37, xr_4, xr_40, xr_41, xr_44, xr_47, xr_5, xr_55, xr_76, af_0, af_1, xt_goto, xt_ib, xt_ic, xt_ic_ge, xt_ic_ne, xt_ir, xt_nop, mF_6 H, xq_189_13_virtualm H, xq_211_13_virtualm H, iN_add, iN_mul, iN_sub, iN_and, iN_or, iN_clr, iN_shl, iN_shr, tb_r1, b1_z, b1_or, b1_and, b1_or0, b1_or1, b1_0or, b1_t, b1_f, iN_lt, iN_inj, reduceIte, if_true, if_false, Nat.zero_add, Nat.add_zero, Bool.false_eq_true, Bool.true_eq_false, Nat.lt_irrefl, iN_az, not_true_eq_false, not_false_eq_true, Nat.reduceEqDiff, Nat.reduceLT, Nat.reduceAdd, Nat.reduceMul, Nat.reduceSub]
  exact e3
set_option maxRecDepth 100000 in
theorem lwt_eq (O : Ok σ) (hb : ∀ v, (Z l).testBit v = true → v < (σ 1 2) * (σ 1 5)) : lwt σ (Cv σ Z) l = mno ((σ 1 2) * (σ 1 5)) (lwf σ l (Z l)) := by
  obtain ⟨hD1, hD2, hH1, hH2, hS, hC, hT, hR, hL, hQ⟩ := Ok_b O
  refine Nat.le_antisymm (mno_ge (mno_b fun s hs => mno_b fun r hr => ?_) fun v hv => ?_) (mno_ge (mno_b fun v hv => ?_) fun s hs => mno_ge (mno_b fun v hv => ?_) fun r hr => ?_)
  · unfold lwr
    split
    · exact Nat.le_trans (wv_le O hs) (by decide)
    · exact Nat.le_refl _
  · obtain ⟨-, w1, w2, -, -⟩ := vb O hv
    have h1 : lwt σ (Cv σ Z) l ≤ lwr σ (Cv σ Z) l (v / (σ 1 5)) (v % (σ 1 5)) := Nat.le_trans (mno_le w1) (mno_le w2)
    refine Nat.le_trans h1 ?_
    unfold lwr lwf
    by_cases e : (Z l).testBit v = true
    · rw [if_pos e, if_pos ((Cv_v O hv).mpr e)]
      exact Nat.le_refl _
    · rw [if_neg e, if_neg fun z => e ((Cv_v O hv).mp z)]
      exact Nat.le_refl _
  · unfold lwf
    split
    · exact Nat.le_trans (wv_le O (vb O hv).2.1) (by decide)
    · exact Nat.le_refl _
  · unfold lwf
    split
    · exact Nat.le_trans (wv_le O (vb O hv).2.1) (by decide)
    · exact Nat.le_refl _
  · have hv : s * (σ 1 5) + r < (σ 1 2) * (σ 1 5) := tv_b (s := fun _ => s) (r := fun _ => r) (l := 0) hs hr
    refine Nat.le_trans (mno_le hv) ?_
    unfold lwr lwf
    by_cases e : (Z l).testBit (s * (σ 1 5) + r) = true
    · rw [if_pos e, if_pos ((Cv_b O hs hr).mpr e)]
      have h1 : (s * (σ 1 5) + r) / (σ 1 5) = s := tv_d (s := fun _ => s) (r := fun _ => r) (l := 0) hr
      have h2 : (s * (σ 1 5) + r) % (σ 1 5) = r := tv_m (s := fun _ => s) (r := fun _ => r) (l := 0) hr
      unfold wq
      rw [h1, h2]
      exact Nat.le_refl _
    · rw [if_neg e, if_neg fun z => e ((Cv_b O hs hr).mp z)]
      exact Nat.le_refl _
set_option maxRecDepth 100000 in
theorem Cv_0 (O : Ok σ) (hb : ∀ v, (Z l).testBit v = true → v < (σ 1 2) * (σ 1 5)) : Cv σ Z l = 0 ↔ Z l = 0 := by
  constructor
  · intro h
    by_cases e : Z l = 0
    · exact e
    · obtain ⟨v, hv⟩ := nz_tb.mp e
      have := (Cv_v (X := Z) (l := l) O (hb v hv)).mpr hv
      rw [h, Nat.zero_testBit] at this
      cases this
  · intro h
    by_cases e : Cv σ Z l = 0
    · exact e
    · obtain ⟨v, hv⟩ := nz_tb.mp e
      have := (Cv_tb.mp hv).2.2
      rw [h, Nat.zero_testBit] at this
      cases this
-- bound
set_option maxRecDepth 100000 in
theorem m_258 (O : Ok σ) (hX : VS σ X) : ∃ T v, ev xs (d + 8) 258 0 ([.ref 62, .retAddr 9, .retAddr 9, .retAddr 9], [], mh τ M σ μ ν Q) = some (.inl (some (.int (nI (v)))), mh τ M σ (u1 μ 0 0) ν (Q ++ T)) ∧ GT T 19 1833 ∧ ((∃ l, l < (σ 1 6) ∧ X l = 0) ∧ v = 4294967295 ∨ (∀ l, l < (σ 1 6) → X l ≠ 0) ∧ v = sm (σ 1 6) (lwt σ X)) := by
  obtain ⟨hD1, hD2, hH1, hH2, hS, hC, hT, hR, hL, hQ⟩ := Ok_b O
  obtain ⟨T, Z, e, q1, q2, q3, q4, q5⟩ := m_219q (xs := xs) (d := d) (τ := τ) (M := M) (μ := u1 μ 0 0) (ν := ν) (Q := Q) O
  have hXZ : ∀ l, l < (σ 1 6) → X l = Cv σ Z l := fun l hl => VS_u hX q3 hl
  have hlw : ∀ l, l < (σ 1 6) → lwt σ X l = mno ((σ 1 2) * (σ 1 5)) (lwf σ l (Z l)) := fun l hl => by
    rw [← lwt_eq O (q5 l hl)]
    have : ∀ s r, lwr σ X l s r = lwr σ (Cv σ Z) l s r := fun s r => by unfold lwr; rw [hXZ l hl]
    unfold lwt lwq
    rw [show lwr σ X l = lwr σ (Cv σ Z) l from funext fun s => funext fun r => this s r]
  have h0 : ∀ l, l < (σ 1 6) → (X l = 0 ↔ Z l = 0) := fun l hl => by rw [hXZ l hl]; exact Cv_0 O (q5 l hl)
  have hle : ∀ l, l < (σ 1 6) → Z l ≠ 0 → mno ((σ 1 2) * (σ 1 5)) (lwf σ l (Z l)) ≤ 27 := fun l hl hz => by
    obtain ⟨v, hv⟩ := nz_tb.mp hz
    refine Nat.le_trans (mno_le (q5 l hl v hv)) ?_
    unfold lwf
    rw [if_pos hv]
    exact wv_le O (vb O (q5 l hl v hv)).2.1
  have key : ∀ k, k ≤ (σ 1 6) → (∀ j, j < k → Z j ≠ 0) → sm k (lwt σ X) ≤ 27 * k → ∃ v, ev xs (d + 8) 258 2 ([.ref 62, .ref (72 + (Q.length + 18)), .int (nI (sm k (lwt σ X))), .int (nI k)], [], mh τ M σ (u1 μ 0 0) ν (Q ++ T)) = some (.inl (some (.int (nI (v)))), mh τ M σ (u1 μ 0 0) ν (Q ++ T)) ∧ ((∃ l, l < (σ 1 6) ∧ X l = 0) ∧ v = 4294967295 ∨ (∀ l, l < (σ 1 6) → X l ≠ 0) ∧ v = sm (σ 1 6) (lwt σ X)) := by
    refine lp (σ 1 6) ?_ ?_
    · intro h _
      refine ⟨_, ?_, .inr ⟨fun l hl z => h l hl ((h0 l hl).mp z), rfl⟩⟩
      rw [eb_258_2]
      clear h h0 hle hlw hXZ q2 q3 q4 q5 hX
      simp (disch := first | assumption | omega | exact st8_a (Nat.le_of_ble_eq_true rfl)) only [eb_258_7, kl_a, kl_d, kl_f, kl_i, kl_l, kl_n, kl_r, xr_1, xr_10, xr_11, xr_12, xr_13, xr_14, xr_146, xr_147, xr_148, xr_149, xr_15, xr_150, xr_2, xr_3, xr_30, xr_31, xr_32, xr_37, xr_38, xr_4, xr_43, xr_5, xr_64, af_0, af_1, xt_goto, xt_ib, xt_ic, xt_ic_ge, xt_if_ne, xt_ir, xt_nop, mF_8 mh_Mo, mA_63 mh_Mo, mA_64 mh_Mo, mA_65 mh_Mo, mA_66 mh_Mo, mA_67 mh_Mo, mA_68 mh_Mo, mA_69 mh_Mo, mA_70 mh_Mo, mA_71 mh_Mo, xq_213_13_virtualm mh_Mo, xq_219_13_virtualm mh_Mo, pF_0, pF_1, pF_2, pF_5, pF_6, pF_8, pF_12, pF_16, pF_17, pF_18, pF_22, pF_24, pF_19, pF_20, pF_21, pF_23, pN_19, pN_20, pN_21, pN_23, pA_63, pA_64, pA_65, pA_66, pA_67, pA_68, pA_69, pA_70, pA_71, iN_add, iN_mul, iN_sub, iN_and, iN_or, iN_clr, iN_shl, iN_shr, tb_r1, b1_z, b1_or, b1_and, b1_or0, b1_or1, b1_0or, b1_t, b1_f, iN_lt, iN_inj, reduceIte, if_true, if_false, Nat.zero_add, Nat.add_zero, Bool.false_eq_true, Bool.true_eq_false, Nat.lt_irrefl, iN_az, not_true_eq_false, not_false_eq_true, Nat.reduceEqDiff, Nat.reduceLT, Nat.reduceAdd, Nat.reduceMul, Nat.reduceSub]
    · intro k hk ih h hsm
      have hk6 : k < 6 := by omega
      have hz4 := q4 k hk
      by_cases hz : Z k = 0
      · refine ⟨4294967295, ?_, .inl ⟨⟨k, hk, (h0 k hk).mpr hz⟩, rfl⟩⟩
        rw [eb_258_2]
        clear h h0 hle hlw hXZ q2 q3 q4 q5 hX ih
        simp (disch := first | assumption | omega | exact st8_a (Nat.le_of_ble_eq_true rfl)) only [hk, pQ_l q1, hz, eb_258_3, eb_258_4, kl_a, kl_d, kl_f, kl_i, kl_l, kl_n, kl_r, xr_1, xr_10, xr_11, xr_12, xr_13, xr_14, xr_146, xr_147, xr_148, xr_149, xr_15, xr_150, xr_2, xr_3, xr_30, xr_31, xr_32, xr_37, xr_38, xr_4, xr_43, xr_5, xr_64, af_0, af_1, xt_goto, xt_ib, xt_ic, xt_ic_ge, xt_if_ne, xt_ir, xt_nop, mF_8 mh_Mo, mA_63 mh_Mo, mA_64 mh_Mo, mA_65 mh_Mo, mA_66 mh_Mo, mA_67 mh_Mo, mA_68 mh_Mo, mA_69 mh_Mo, mA_70 mh_Mo, mA_71 mh_Mo, xq_213_13_virtualm mh_Mo, xq_219_13_virtualm mh_Mo, pF_0, pF_1, pF_2, pF_5, pF_6, pF_8, pF_12, pF_16, pF_17, pF_18, pF_22, pF_24, pF_19, pF_20, pF_21, pF_23, pN_19, pN_20, pN_21, pN_23, pA_63, pA_64, pA_65, pA_66, pA_67, pA_68, pA_69, pA_70, pA_71, iN_add, iN_mul, iN_sub, iN_and, iN_or, iN_clr, iN_shl, iN_shr, tb_r1, b1_z, b1_or, b1_and, b1_or0, b1_or1, b1_0or, b1_t, b1_f, iN_lt, iN_inj, reduceIte, if_true, if_false, Nat.zero_add, Nat.add_zero, Bool.false_eq_true, Bool.true_eq_false, Nat.lt_irrefl, iN_az, not_true_eq_false, not_false_eq_true, Nat.reduceEqDiff, Nat.reduceLT, Nat.reduceAdd, Nat.reduceMul, Nat.reduceSub]
      · have hm := hle k hk hz
        have e2 := m_213e (xs := xs) (d := d + 4) O (mh_Mo (τ := τ) (M := M) (σ := σ) (μ := u1 μ 0 0) (ν := ν) (Q := Q ++ T)) hk hz4
        obtain ⟨v, e3, g⟩ := ih (fun j hj => by
          by_cases e : j = k
          · rw [e]; exact hz
          · exact h j (by omega)) (by rw [sm, hlw k hk]; omega)
        refine ⟨v, ?_, g⟩
        rw [sm, hlw k hk] at e3
        rw [eb_258_2]
        clear h h0 hle hlw hXZ q2 q3 q4 q5 hX ih g
        simp (disch := first | assumption | omega | exact st8_a (Nat.le_of_ble_eq_true rfl)) only [hk, pQ_l q1, hz, e2, eb_258_3, eb_258_5, eb_258_6, kl_a, kl_d, kl_f, kl_i, kl_l, kl_n, kl_r, xr_1, xr_10, xr_11, xr_12, xr_13, xr_14, xr_146, xr_147, xr_148, xr_149, xr_15, xr_150, xr_2, xr_3, xr_30, xr_31, xr_32, xr_37, xr_38, xr_4, xr_43, xr_5, xr_64, af_0, af_1, xt_goto, xt_ib, xt_ic, xt_ic_ge, xt_if_ne, xt_ir, xt_nop, mF_8 mh_Mo, mA_63 mh_Mo, mA_64 mh_Mo, mA_65 mh_Mo, mA_66 mh_Mo, mA_67 mh_Mo, mA_68 mh_Mo, mA_69 mh_Mo, mA_70 mh_Mo, mA_71 mh_Mo, xq_213_13_virtualm mh_Mo, xq_219_13_virtualm mh_Mo, pF_0, pF_1, pF_2, pF_5, pF_6, pF_8, pF_12, pF_16, pF_17, pF_18, pF_22, pF_24, pF_19, pF_20, pF_21, pF_23, pN_19, pN_20, pN_21, pN_23, pA_63, pA_64, pA_65, pA_66, pA_67, pA_68, pA_69, pA_70, pA_71, iN_add, iN_mul, iN_sub, iN_and, iN_or, iN_clr, iN_shl, iN_shr, tb_r1, b1_z, b1_or, b1_and, b1_or0, b1_or1, b1_0or, b1_t, b1_f, iN_lt, iN_inj, reduceIte, if_true, if_false, Nat.zero_add, Nat.add_zero, Bool.false_eq_true, Bool.true_eq_false, Nat.lt_irrefl, iN_az, not_true_eq_false, not_false_eq_true, Nat.reduceEqDiff, Nat.reduceLT, Nat.reduceAdd, Nat.reduceMul, Nat.reduceSub]
        exact e3
  obtain ⟨v, e2, g⟩ := key 0 (Nat.zero_le _) (fun j hj => absurd hj (Nat.not_lt_zero j)) (Nat.zero_le _)
  refine ⟨T, v, ?_, q2, g⟩
  rw [sm] at e2
  clear h0 hle hlw hXZ q2 q3 q4 q5 hX g key
  simp (disch := first | assumption | omega | exact st8_a (Nat.le_of_ble_eq_true rfl)) only [e, eb_258_0, eb_258_1, kl_a, kl_d, kl_f, kl_i, kl_l, kl_n, kl_r, xr_1, xr_10, xr_11, xr_12, xr_13, xr_14, xr_146, xr_147, xr_148, xr_149, xr_15, xr_150, xr_2, xr_3, xr_30, xr_31, xr_32, xr_37, xr_38, xr_4, xr_43, xr_5, xr_64, af_0, af_1, xt_goto, xt_ib, xt_ic, xt_ic_ge, xt_if_ne, xt_ir, xt_nop, mF_8 mh_Mo, mA_63 mh_Mo, mA_64 mh_Mo, mA_65 mh_Mo, mA_66 mh_Mo, mA_67 mh_Mo, mA_68 mh_Mo, mA_69 mh_Mo, mA_70 mh_Mo, mA_71 mh_Mo, xq_213_13_virtualm mh_Mo, xq_219_13_virtualm mh_Mo, pF_0, pF_1, pF_2, pF_5, pF_6, pF_8, pF_12, pF_16, pF_17, pF_18, pF_22, pF_24, pF_19, pF_20, pF_21, pF_23, pN_19, pN_20, pN_21, pN_23, pA_63, pA_64, pA_65, pA_66, pA_67, pA_68, pA_69, pA_70, pA_71, iN_add, iN_mul, iN_sub, iN_and, iN_or, iN_clr, iN_shl, iN_shr, tb_r1, b1_z, b1_or, b1_and, b1_or0, b1_or1, b1_0or, b1_t, b1_f, iN_lt, iN_inj, reduceIte, if_true, if_false, Nat.zero_add, Nat.add_zero, Bool.false_eq_true, Bool.true_eq_false, Nat.lt_irrefl, iN_az, not_true_eq_false, not_false_eq_true, Nat.reduceEqDiff, Nat.reduceLT, Nat.reduceAdd, Nat.reduceMul, Nat.reduceSub]
  exact e2
end Mdh
