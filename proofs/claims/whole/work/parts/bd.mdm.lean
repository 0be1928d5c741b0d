/-! THE MODEL: exams -/
/-- whether day v goes for lesson i, as the model asks -/
def frb (σ : Nat → Nat → Nat) (u i v : Nat) (f : Nat → Nat) (k : Nat) : Bool := al k fun j => !(u.testBit j && ((sc σ i j || stc σ i j) && decide (f j = v)))
section Mdm
variable {xs : List Int32} {d m n k i j p a b c u v l q z w y t nn kd : Nat} {τ M σ W K : Nat → Nat → Nat} {μ μ0 : Nat → Nat} {ν ν0 : Nat → Value} {A B Q T T2 h : ab_H} {s r g f X Z Y tab s0 r0 F s2 r2 : Nat → Nat} {L st : List Value} {β : Value}
set_option maxRecDepth 100000 in
theorem frb_x : frb σ u i v f i = true ↔ xfr σ u f i v := by
  unfold frb xfr
  rw [al_t]
  constructor
  · intro h j hj h1 h2
    have := h j hj
    simp [h1, h2] at this
    exact this
  · intro h j hj
    by_cases h1 : u.testBit j = true
    · by_cases h2 : f j = v
      · have := h j hj h1 h2
        simp [this.1, this.2]
      · simp [h2]
    · have h1 : u.testBit j = false := by simpa using h1
      simp [h1]
set_option maxRecDepth 100000 in
theorem m_266f (O : Ok σ) (hu : u < 64) (hi : i < (σ 1 6)) (hv : v < 6) (hf : ∀ j, f j < 4294967296) {x3 : Int32} : ∀ k, k ≤ i → ∀ x8, ∃ x8', ev xs d 266 8 ([.ref 62, .int (nI u), .int (nI i), .int x3, .ref (72 + Q.length), .int (nI v), .int (nI (b1 (frb σ u i v f k))), .int (nI k), x8], [], mh τ M σ μ ν (Q ++ [oI (ar 6 f)])) = ev xs d 266 20 ([.ref 62, .int (nI u), .int (nI i), .int x3, .ref (72 + Q.length), .int (nI v), .int (nI (b1 (frb σ u i v f i))), .int (nI i), x8'], [], mh τ M σ μ ν (Q ++ [oI (ar 6 f)])) := by
  obtain ⟨hD1, hD2, hH1, hH2, hS, hC, hT, hR, hL, hQ⟩ := Ok_b O
  refine lp i ?_ ?_
  · intro x8
    refine ⟨x8, ?_⟩
    rw [eb_266_8]
    clear hf
    simp (disch := first | assumption | omega | exact st8_a (Nat.le_of_ble_eq_true rfl)) only [kl_a, kl_d, kl_f, kl_i, kl_l, kl_n, kl_r, xr_1, xr_10, xr_2, xr_27, xr_28, xr_3, xr_31, xr_35, xr_36, xr_37, xr_38, xr_39, xr_4, xr_44, xr_5, xr_55, xr_56, xr_57, xr_61, xr_62, xr_80, xr_81, xr_82, xr_83, xr_84, xr_91, xr_96, xr_98, af_0, af_1, xt_goto, xt_ib, xt_ic, xt_ic_eq, xt_ic_ge, xt_ic_ne, xt_if_eq, xt_if_ne, xt_ir, xt_nop, mF_10 mh_Mo, mF_8 mh_Mo, mF_9 mh_Mo, mA_63 mh_Mo, mA_64 mh_Mo, mA_65 mh_Mo, mA_66 mh_Mo, mA_67 mh_Mo, mA_68 mh_Mo, mA_69 mh_Mo, mA_70 mh_Mo, mA_71 mh_Mo, xq_266_13_virtualm mh_Mo, pF_0, pF_1, pF_2, pF_5, pF_6, pF_8, pF_12, pF_16, pF_17, pF_18, pF_22, pF_24, pF_19, pF_20, pF_21, pF_23, pN_19, pN_20, pN_21, pN_23, pA_63, pA_64, pA_65, pA_66, pA_67, pA_68, pA_69, pA_70, pA_71, iN_add, iN_mul, iN_sub, iN_and, iN_or, iN_clr, iN_shl, iN_shr, tb_r1, b1_z, b1_or, b1_and, b1_or0, b1_or1, b1_0or, b1_t, b1_f, iN_lt, iN_inj, reduceIte, if_true, if_false, Nat.zero_add, Nat.add_zero, Bool.false_eq_true, Bool.true_eq_false, Nat.lt_irrefl, iN_az, not_true_eq_false, not_false_eq_true, Nat.reduceEqDiff, Nat.reduceLT, Nat.reduceAdd, Nat.reduceMul, Nat.reduceSub]
  · intro k hk ih x8
    have q1 := gt_last (B := Q) (x := oI (ar 6 f))
    have hk6 : k < 6 := by omega
    have hi6 : i < 6 := by omega
    have c1 := Ok_l O (show k < (σ 1 6) by omega)
    have c2 := Ok_l O hi
    have hfk := hf k
    have hp : frb σ u i v f (k + 1) = (frb σ u i v f k && !(u.testBit k && ((sc σ i k || stc σ i k) && decide (f k = v)))) := rfl
    have hsm : ∃ sm : Bool, sm = (sc σ i k || stc σ i k) := ⟨_, rfl⟩
    obtain ⟨sm, hsm⟩ := hsm
    have st : ev xs d 266 8 ([.ref 62, .int (nI u), .int (nI i), .int x3, .ref (72 + Q.length), .int (nI v), .int (nI (b1 (frb σ u i v f k))), .int (nI k), x8], [], mh τ M σ μ ν (Q ++ [oI (ar 6 f)])) = ev xs d 266 13 ([.ref 62, .int (nI u), .int (nI i), .int x3, .ref (72 + Q.length), .int (nI v), .int (nI (b1 (frb σ u i v f k))), .int (nI k), x8], [.int (nI (b1 sm))], mh τ M σ μ ν (Q ++ [oI (ar 6 f)])) := by
      rw [eb_266_8]
      clear hf ih hp
      by_cases h1 : σ 5 k = σ 5 i
      · have : sm = true := by
          rw [hsm, show sc σ i k = true from decide_eq_true h1.symm, Bool.true_or]
        rw [this]
        clear hsm
        simp (disch := first | assumption | omega | exact st8_a (Nat.le_of_ble_eq_true rfl)) only [hk, eq_true h1, eb_266_9, eb_266_11, kl_a, kl_d, kl_f, kl_i, kl_l, kl_n, kl_r, xr_1, xr_10, xr_2, xr_27, xr_28, xr_3, xr_31, xr_35, xr_36, xr_37, xr_38, xr_39, xr_4, xr_44, xr_5, xr_55, xr_56, xr_57, xr_61, xr_62, xr_80, xr_81, xr_82, xr_83, xr_84, xr_91, xr_96, xr_98, af_0, af_1, xt_goto, xt_ib, xt_ic, xt_ic_eq, xt_ic_ge, xt_ic_ne, xt_if_eq, xt_if_ne, xt_ir, xt_nop, mF_10 mh_Mo, mF_8 mh_Mo, mF_9 mh_Mo, mA_63 mh_Mo, mA_64 mh_Mo, mA_65 mh_Mo, mA_66 mh_Mo, mA_67 mh_Mo, mA_68 mh_Mo, mA_69 mh_Mo, mA_70 mh_Mo, mA_71 mh_Mo, xq_266_13_virtualm mh_Mo, pF_0, pF_1, pF_2, pF_5, pF_6, pF_8, pF_12, pF_16, pF_17, pF_18, pF_22, pF_24, pF_19, pF_20, pF_21, pF_23, pN_19, pN_20, pN_21, pN_23, pA_63, pA_64, pA_65, pA_66, pA_67, pA_68, pA_69, pA_70, pA_71, iN_add, iN_mul, iN_sub, iN_and, iN_or, iN_clr, iN_shl, iN_shr, tb_r1, b1_z, b1_or, b1_and, b1_or0, b1_or1, b1_0or, b1_t, b1_f, iN_lt, iN_inj, reduceIte, if_true, if_false, Nat.zero_add, Nat.add_zero, Bool.false_eq_true, Bool.true_eq_false, Nat.lt_irrefl, iN_az, not_true_eq_false, not_false_eq_true, Nat.reduceEqDiff, Nat.reduceLT, Nat.reduceAdd, Nat.reduceMul, Nat.reduceSub]
      · have e1 : sc σ i k = false := decide_eq_false fun z => h1 z.symm
        by_cases h2 : σ 6 k = σ 6 i
        · have : sm = true := by
            rw [hsm, e1, show stc σ i k = true from decide_eq_true h2.symm, Bool.false_or]
          rw [this]
          clear hsm
          simp (disch := first | assumption | omega | exact st8_a (Nat.le_of_ble_eq_true rfl)) only [hk, h1, eq_true h2, eb_266_9, eb_266_10, eb_266_11, kl_a, kl_d, kl_f, kl_i, kl_l, kl_n, kl_r, xr_1, xr_10, xr_2, xr_27, xr_28, xr_3, xr_31, xr_35, xr_36, xr_37, xr_38, xr_39, xr_4, xr_44, xr_5, xr_55, xr_56, xr_57, xr_61, xr_62, xr_80, xr_81, xr_82, xr_83, xr_84, xr_91, xr_96, xr_98, af_0, af_1, xt_goto, xt_ib, xt_ic, xt_ic_eq, xt_ic_ge, xt_ic_ne, xt_if_eq, xt_if_ne, xt_ir, xt_nop, mF_10 mh_Mo, mF_8 mh_Mo, mF_9 mh_Mo, mA_63 mh_Mo, mA_64 mh_Mo, mA_65 mh_Mo, mA_66 mh_Mo, mA_67 mh_Mo, mA_68 mh_Mo, mA_69 mh_Mo, mA_70 mh_Mo, mA_71 mh_Mo, xq_266_13_virtualm mh_Mo, pF_0, pF_1, pF_2, pF_5, pF_6, pF_8, pF_12, pF_16, pF_17, pF_18, pF_22, pF_24, pF_19, pF_20, pF_21, pF_23, pN_19, pN_20, pN_21, pN_23, pA_63, pA_64, pA_65, pA_66, pA_67, pA_68, pA_69, pA_70, pA_71, iN_add, iN_mul, iN_sub, iN_and, iN_or, iN_clr, iN_shl, iN_shr, tb_r1, b1_z, b1_or, b1_and, b1_or0, b1_or1, b1_0or, b1_t, b1_f, iN_lt, iN_inj, reduceIte, if_true, if_false, Nat.zero_add, Nat.add_zero, Bool.false_eq_true, Bool.true_eq_false, Nat.lt_irrefl, iN_az, not_true_eq_false, not_false_eq_true, Nat.reduceEqDiff, Nat.reduceLT, Nat.reduceAdd, Nat.reduceMul, Nat.reduceSub]
        · have : sm = false := by
            rw [hsm, e1, show stc σ i k = false from decide_eq_false fun z => h2 z.symm, Bool.false_or]
          rw [this]
          clear hsm
          simp (disch := first | assumption | omega | exact st8_a (Nat.le_of_ble_eq_true rfl)) only [hk, h1, h2, eb_266_9, eb_266_10, eb_266_12, kl_a, kl_d, kl_f, kl_i, kl_l, kl_n, kl_r, xr_1, xr_10, xr_2, xr_27, xr_28, xr_3, xr_31, xr_35, xr_36, xr_37, xr_38, xr_39, xr_4, xr_44, xr_5, xr_55, xr_56, xr_57, xr_61, xr_62, xr_80, xr_81, xr_82, xr_83, xr_84, xr_91, xr_96, xr_98, af_0, af_1, xt_goto, xt_ib, xt_ic, xt_ic_eq, xt_ic_ge, xt_ic_ne, xt_if_eq, xt_if_ne, xt_ir, xt_nop, mF_10 mh_Mo, mF_8 mh_Mo, mF_9 mh_Mo, mA_63 mh_Mo, mA_64 mh_Mo, mA_65 mh_Mo, mA_66 mh_Mo, mA_67 mh_Mo, mA_68 mh_Mo, mA_69 mh_Mo, mA_70 mh_Mo, mA_71 mh_Mo, xq_266_13_virtualm mh_Mo, pF_0, pF_1, pF_2, pF_5, pF_6, pF_8, pF_12, pF_16, pF_17, pF_18, pF_22, pF_24, pF_19, pF_20, pF_21, pF_23, pN_19, pN_20, pN_21, pN_23, pA_63, pA_64, pA_65, pA_66, pA_67, pA_68, pA_69, pA_70, pA_71, iN_add, iN_mul, iN_sub, iN_and, iN_or, iN_clr, iN_shl, iN_shr, tb_r1, b1_z, b1_or, b1_and, b1_or0, b1_or1, b1_0or, b1_t, b1_f, iN_lt, iN_inj, reduceIte, if_true, if_false, Nat.zero_add, Nat.add_zero, Bool.false_eq_true, Bool.true_eq_false, Nat.lt_irrefl, iN_az, not_true_eq_false, not_false_eq_true, Nat.reduceEqDiff, Nat.reduceLT, Nat.reduceAdd, Nat.reduceMul, Nat.reduceSub]
    rw [← hsm] at hp
    obtain ⟨x8', ih⟩ := ih (.int (nI (b1 sm)))
    refine ⟨x8', ?_⟩
    rw [hp] at ih
    rw [st, ← ih]
    clear st ih hp hsm hf
    cases frb σ u i v f k
    · rw [Bool.false_and]
      cases sm
      · simp (disch := first | assumption | omega | exact st8_a (Nat.le_of_ble_eq_true rfl)) only [hk, eb_266_13, eb_266_18, eb_266_19, kl_a, kl_d, kl_f, kl_i, kl_l, kl_n, kl_r, xr_1, xr_10, xr_2, xr_27, xr_28, xr_3, xr_31, xr_35, xr_36, xr_37, xr_38, xr_39, xr_4, xr_44, xr_5, xr_55, xr_56, xr_57, xr_61, xr_62, xr_80, xr_81, xr_82, xr_83, xr_84, xr_91, xr_96, xr_98, af_0, af_1, xt_goto, xt_ib, xt_ic, xt_ic_eq, xt_ic_ge, xt_ic_ne, xt_if_eq, xt_if_ne, xt_ir, xt_nop, mF_10 mh_Mo, mF_8 mh_Mo, mF_9 mh_Mo, mA_63 mh_Mo, mA_64 mh_Mo, mA_65 mh_Mo, mA_66 mh_Mo, mA_67 mh_Mo, mA_68 mh_Mo, mA_69 mh_Mo, mA_70 mh_Mo, mA_71 mh_Mo, xq_266_13_virtualm mh_Mo, pF_0, pF_1, pF_2, pF_5, pF_6, pF_8, pF_12, pF_16, pF_17, pF_18, pF_22, pF_24, pF_19, pF_20, pF_21, pF_23, pN_19, pN_20, pN_21, pN_23, pA_63, pA_64, pA_65, pA_66, pA_67, pA_68, pA_69, pA_70, pA_71, iN_add, iN_mul, iN_sub, iN_and, iN_or, iN_clr, iN_shl, iN_shr, tb_r1, b1_z, b1_or, b1_and, b1_or0, b1_or1, b1_0or, b1_t, b1_f, iN_lt, iN_inj, reduceIte, if_true, if_false, Nat.zero_add, Nat.add_zero, Bool.false_eq_true, Bool.true_eq_false, Nat.lt_irrefl, iN_az, not_true_eq_false, not_false_eq_true, Nat.reduceEqDiff, Nat.reduceLT, Nat.reduceAdd, Nat.reduceMul, Nat.reduceSub]
      · simp (disch := first | assumption | omega | exact st8_a (Nat.le_of_ble_eq_true rfl)) only [hk, eb_266_13, eb_266_18, eb_266_19, kl_a, kl_d, kl_f, kl_i, kl_l, kl_n, kl_r, xr_1, xr_10, xr_2, xr_27, xr_28, xr_3, xr_31, xr_35, xr_36, xr_37, xr_38, xr_39, xr_4, xr_44, xr_5, xr_55, xr_56, xr_57, xr_61, xr_62, xr_80, xr_81, xr_82, xr_83, xr_84, xr_91, xr_96, xr_98, af_0, af_1, xt_goto, xt_ib, xt_ic, xt_ic_eq, xt_ic_ge, xt_ic_ne, xt_if_eq, xt_if_ne, xt_ir, xt_nop, mF_10 mh_Mo, mF_8 mh_Mo, mF_9 mh_Mo, mA_63 mh_Mo, mA_64 mh_Mo, mA_65 mh_Mo, mA_66 mh_Mo, mA_67 mh_Mo, mA_68 mh_Mo, mA_69 mh_Mo, mA_70 mh_Mo, mA_71 mh_Mo, xq_266_13_virtualm mh_Mo, pF_0, pF_1, pF_2, pF_5, pF_6, pF_8, pF_12, pF_16, pF_17, pF_18, pF_22, pF_24, pF_19, pF_20, pF_21, pF_23, pN_19, pN_20, pN_21, pN_23, pA_63, pA_64, pA_65, pA_66, pA_67, pA_68, pA_69, pA_70, pA_71, iN_add, iN_mul, iN_sub, iN_and, iN_or, iN_clr, iN_shl, iN_shr, tb_r1, b1_z, b1_or, b1_and, b1_or0, b1_or1, b1_0or, b1_t, b1_f, iN_lt, iN_inj, reduceIte, if_true, if_false, Nat.zero_add, Nat.add_zero, Bool.false_eq_true, Bool.true_eq_false, Nat.lt_irrefl, iN_az, not_true_eq_false, not_false_eq_true, Nat.reduceEqDiff, Nat.reduceLT, Nat.reduceAdd, Nat.reduceMul, Nat.reduceSub]
    · rw [Bool.true_and]
      by_cases h1 : u.testBit k = true
      · rw [h1, Bool.true_and]
        cases sm
        · rw [Bool.false_and, Bool.not_false]
          simp (disch := first | assumption | omega | exact st8_a (Nat.le_of_ble_eq_true rfl)) only [hk, h1, eb_266_13, eb_266_14, eb_266_15, eb_266_17, eb_266_19, kl_a, kl_d, kl_f, kl_i, kl_l, kl_n, kl_r, xr_1, xr_10, xr_2, xr_27, xr_28, xr_3, xr_31, xr_35, xr_36, xr_37, xr_38, xr_39, xr_4, xr_44, xr_5, xr_55, xr_56, xr_57, xr_61, xr_62, xr_80, xr_81, xr_82, xr_83, xr_84, xr_91, xr_96, xr_98, af_0, af_1, xt_goto, xt_ib, xt_ic, xt_ic_eq, xt_ic_ge, xt_ic_ne, xt_if_eq, xt_if_ne, xt_ir, xt_nop, mF_10 mh_Mo, mF_8 mh_Mo, mF_9 mh_Mo, mA_63 mh_Mo, mA_64 mh_Mo, mA_65 mh_Mo, mA_66 mh_Mo, mA_67 mh_Mo, mA_68 mh_Mo, mA_69 mh_Mo, mA_70 mh_Mo, mA_71 mh_Mo, xq_266_13_virtualm mh_Mo, pF_0, pF_1, pF_2, pF_5, pF_6, pF_8, pF_12, pF_16, pF_17, pF_18, pF_22, pF_24, pF_19, pF_20, pF_21, pF_23, pN_19, pN_20, pN_21, pN_23, pA_63, pA_64, pA_65, pA_66, pA_67, pA_68, pA_69, pA_70, pA_71, iN_add, iN_mul, iN_sub, iN_and, iN_or, iN_clr, iN_shl, iN_shr, tb_r1, b1_z, b1_or, b1_and, b1_or0, b1_or1, b1_0or, b1_t, b1_f, iN_lt, iN_inj, reduceIte, if_true, if_false, Nat.zero_add, Nat.add_zero, Bool.false_eq_true, Bool.true_eq_false, Nat.lt_irrefl, iN_az, not_true_eq_false, not_false_eq_true, Nat.reduceEqDiff, Nat.reduceLT, Nat.reduceAdd, Nat.reduceMul, Nat.reduceSub]
        · rw [Bool.true_and]
          by_cases h2 : f k = v
          · rw [decide_eq_true h2, Bool.not_true]
            simp (disch := first | assumption | omega | exact st8_a (Nat.le_of_ble_eq_true rfl)) only [hk, h1, pQ_l q1, eq_true h2, eb_266_13, eb_266_14, eb_266_15, eb_266_16, eb_266_18, eb_266_19, kl_a, kl_d, kl_f, kl_i, kl_l, kl_n, kl_r, xr_1, xr_10, xr_2, xr_27, xr_28, xr_3, xr_31, xr_35, xr_36, xr_37, xr_38, xr_39, xr_4, xr_44, xr_5, xr_55, xr_56, xr_57, xr_61, xr_62, xr_80, xr_81, xr_82, xr_83, xr_84, xr_91, xr_96, xr_98, af_0, af_1, xt_goto, xt_ib, xt_ic, xt_ic_eq, xt_ic_ge, xt_ic_ne, xt_if_eq, xt_if_ne, xt_ir, xt_nop, mF_10 mh_Mo, mF_8 mh_Mo, mF_9 mh_Mo, mA_63 mh_Mo, mA_64 mh_Mo, mA_65 mh_Mo, mA_66 mh_Mo, mA_67 mh_Mo, mA_68 mh_Mo, mA_69 mh_Mo, mA_70 mh_Mo, mA_71 mh_Mo, xq_266_13_virtualm mh_Mo, pF_0, pF_1, pF_2, pF_5, pF_6, pF_8, pF_12, pF_16, pF_17, pF_18, pF_22, pF_24, pF_19, pF_20, pF_21, pF_23, pN_19, pN_20, pN_21, pN_23, pA_63, pA_64, pA_65, pA_66, pA_67, pA_68, pA_69, pA_70, pA_71, iN_add, iN_mul, iN_sub, iN_and, iN_or, iN_clr, iN_shl, iN_shr, tb_r1, b1_z, b1_or, b1_and, b1_or0, b1_or1, b1_0or, b1_t, b1_f, iN_lt, iN_inj, reduceIte, if_true, if_false, Nat.zero_add, Nat.add_zero, Bool.false_eq_true, Bool.true_eq_false, Nat.lt_irrefl, iN_az, not_true_eq_false, not_false_eq_true, Nat.reduceEqDiff, Nat.reduceLT, Nat.reduceAdd, Nat.reduceMul, Nat.reduceSub]
          · rw [decide_eq_false h2, Bool.not_false]
            simp (disch := first | assumption | omega | exact st8_a (Nat.le_of_ble_eq_true rfl)) only [hk, h1, pQ_l q1, h2, eb_266_13, eb_266_14, eb_266_15, eb_266_16, eb_266_17, eb_266_19, kl_a, kl_d, kl_f, kl_i, kl_l, kl_n, kl_r, xr_1, xr_10, xr_2, xr_27, xr_28, xr_3, xr_31, xr_35, xr_36, xr_37, xr_38, xr_39, xr_4, xr_44, xr_5, xr_55, xr_56, xr_57, xr_61, xr_62, xr_80, xr_81, xr_82, xr_83, xr_84, xr_91, xr_96, xr_98, af_0, af_1, xt_goto, xt_ib, xt_ic, xt_ic_eq, xt_ic_ge, xt_ic_ne, xt_if_eq, xt_if_ne, xt_ir, xt_nop, mF_10 mh_Mo, mF_8 mh_Mo, mF_9 mh_Mo, mA_63 mh_Mo, mA_64 mh_Mo, mA_65 mh_Mo, mA_66 mh_Mo, mA_67 mh_Mo, mA_68 mh_Mo, mA_69 mh_Mo, mA_70 mh_Mo, mA_71 mh_Mo, xq_266_13_virtualm mh_Mo, pF_0, pF_1, pF_2, pF_5, pF_6, pF_8, pF_12, pF_16, pF_17, pF_18, pF_22, pF_24, pF_19, pF_20, pF_21, pF_23, pN_19, pN_20, pN_21, pN_23, pA_63, pA_64, pA_65, pA_66, pA_67, pA_68, pA_69, pA_70, pA_71, iN_add, iN_mul, iN_sub, iN_and, iN_or, iN_clr, iN_shl, iN_shr, tb_r1, b1_z, b1_or, b1_and, b1_or0, b1_or1, b1_0or, b1_t, b1_f, iN_lt, iN_inj, reduceIte, if_true, if_false, Nat.zero_add, Nat.add_zero, Bool.false_eq_true, Bool.true_eq_false, Nat.lt_irrefl, iN_az, not_true_eq_false, not_false_eq_true, Nat.reduceEqDiff, Nat.reduceLT, Nat.reduceAdd, Nat.reduceMul, Nat.reduceSub]
      · have h1 : u.testBit k = false := by simpa using h1
        rw [h1, Bool.false_and, Bool.not_false]
        cases sm
        · simp (disch := first | assumption | omega | exact st8_a (Nat.le_of_ble_eq_true rfl)) only [hk, h1, eb_266_13, eb_266_14, eb_266_17, eb_266_19, kl_a, kl_d, kl_f, kl_i, kl_l, kl_n, kl_r, xr_1, xr_10, xr_2, xr_27, xr_28, xr_3, xr_31, xr_35, xr_36, xr_37, xr_38, xr_39, xr_4, xr_44, xr_5, xr_55, xr_56, xr_57, xr_61, xr_62, xr_80, xr_81, xr_82, xr_83, xr_84, xr_91, xr_96, xr_98, af_0, af_1, xt_goto, xt_ib, xt_ic, xt_ic_eq, xt_ic_ge, xt_ic_ne, xt_if_eq, xt_if_ne, xt_ir, xt_nop, mF_10 mh_Mo, mF_8 mh_Mo, mF_9 mh_Mo, mA_63 mh_Mo, mA_64 mh_Mo, mA_65 mh_Mo, mA_66 mh_Mo, mA_67 mh_Mo, mA_68 mh_Mo, mA_69 mh_Mo, mA_70 mh_Mo, mA_71 mh_Mo, xq_266_13_virtualm mh_Mo, pF_0, pF_1, pF_2, pF_5, pF_6, pF_8, pF_12, pF_16, pF_17, pF_18, pF_22, pF_24, pF_19, pF_20, pF_21, pF_23, pN_19, pN_20, pN_21, pN_23, pA_63, pA_64, pA_65, pA_66, pA_67, pA_68, pA_69, pA_70, pA_71, iN_add, iN_mul, iN_sub, iN_and, iN_or, iN_clr, iN_shl, iN_shr, tb_r1, b1_z, b1_or, b1_and, b1_or0, b1_or1, b1_0or, b1_t, b1_f, iN_lt, iN_inj, reduceIte, if_true, if_false, Nat.zero_add, Nat.add_zero, Bool.false_eq_true, Bool.true_eq_false, Nat.lt_irrefl, iN_az, not_true_eq_false, not_false_eq_true, Nat.reduceEqDiff, Nat.reduceLT, Nat.reduceAdd, Nat.reduceMul, Nat.reduceSub]
        · simp (disch := first | assumption | omega | exact st8_a (Nat.le_of_ble_eq_true rfl)) only [hk, h1, eb_266_13, eb_266_14, eb_266_17, eb_266_19, kl_a, kl_d, kl_f, kl_i, kl_l, kl_n, kl_r, xr_1, xr_10, xr_2, xr_27, xr_28, xr_3, xr_31, xr_35, xr_36, xr_37, xr_38, xr_39, xr_4, xr_44, xr_5, xr_55, xr_56, xr_57, xr_61, xr_62, xr_80, xr_81, xr_82, xr_83, xr_84, xr_91, xr_96, xr_98, af_0, af_1, xt_goto, xt_ib, xt_ic, xt_ic_eq, xt_ic_ge, xt_ic_ne, xt_if_eq, xt_if_ne, xt_ir, xt_nop, mF_10 mh_Mo, mF_8 mh_Mo, mF_9 mh_Mo, mA_63 mh_Mo, mA_64 mh_Mo, mA_65 mh_Mo, mA_66 mh_Mo, mA_67 mh_Mo, mA_68 mh_Mo, mA_69 mh_Mo, mA_70 mh_Mo, mA_71 mh_Mo, xq_266_13_virtualm mh_Mo, pF_0, pF_1, pF_2, pF_5, pF_6, pF_8, pF_12, pF_16, pF_17, pF_18, pF_22, pF_24, pF_19, pF_20, pF_21, pF_23, pN_19, pN_20, pN_21, pN_23, pA_63, pA_64, pA_65, pA_66, pA_67, pA_68, pA_69, pA_70, pA_71, iN_add, iN_mul, iN_sub, iN_and, iN_or, iN_clr, iN_shl, iN_shr, tb_r1, b1_z, b1_or, b1_and, b1_or0, b1_or1, b1_0or, b1_t, b1_f, iN_lt, iN_inj, reduceIte, if_true, if_false, Nat.zero_add, Nat.add_zero, Bool.false_eq_true, Bool.true_eq_false, Nat.lt_irrefl, iN_az, not_true_eq_false, not_false_eq_true, Nat.reduceEqDiff, Nat.reduceLT, Nat.reduceAdd, Nat.reduceMul, Nat.reduceSub]
set_option maxRecDepth 100000 in
theorem m_266 (O : Ok σ) (hu : u < 64) (hn : n ≤ 6) : ∀ k i, i + k = (σ 1 6) → ∀ f : Nat → Nat, (∀ j, f j < 4294967296) → ∃ f', ∃ b : Bool, ev xs (d + k + 1) 266 0 ([.ref 62, .int (nI u), .int (nI i), .int (nI n), .ref (72 + Q.length), .retAddr 9, .retAddr 9, .retAddr 9, .retAddr 9], [], mh τ M σ μ ν (Q ++ [oI (ar 6 f)])) = some (.inl (some (.int (nI (b1 b)))), mh τ M σ μ ν (Q ++ [oI (ar 6 f')])) ∧ XF σ u n i f f' b := by
  obtain ⟨hD1, hD2, hH1, hH2, hS, hC, hT, hR, hL, hQ⟩ := Ok_b O
  intro k
  induction k with
  | zero =>
    intro i hi f hM
    refine ⟨f, true, ?_, fun _ _ => rfl, hM, fun h => (by cases h), fun _ => ⟨fun j h1 h2 => by omega, fun g _ _ ⟨k, h1, h2, _⟩ => by omega⟩⟩
    have h1 : i = (σ 1 6) := by omega
    clear hM
    simp (disch := first | assumption | omega | exact st8_a (Nat.le_of_ble_eq_true rfl)) only [eq_true h1, eb_266_0, eb_266_1, kl_a, kl_d, kl_f, kl_i, kl_l, kl_n, kl_r, xr_1, xr_10, xr_2, xr_27, xr_28, xr_3, xr_31, xr_35, xr_36, xr_37, xr_38, xr_39, xr_4, xr_44, xr_5, xr_55, xr_56, xr_57, xr_61, xr_62, xr_80, xr_81, xr_82, xr_83, xr_84, xr_91, xr_96, xr_98, af_0, af_1, xt_goto, xt_ib, xt_ic, xt_ic_eq, xt_ic_ge, xt_ic_ne, xt_if_eq, xt_if_ne, xt_ir, xt_nop, mF_10 mh_Mo, mF_8 mh_Mo, mF_9 mh_Mo, mA_63 mh_Mo, mA_64 mh_Mo, mA_65 mh_Mo, mA_66 mh_Mo, mA_67 mh_Mo, mA_68 mh_Mo, mA_69 mh_Mo, mA_70 mh_Mo, mA_71 mh_Mo, xq_266_13_virtualm mh_Mo, pF_0, pF_1, pF_2, pF_5, pF_6, pF_8, pF_12, pF_16, pF_17, pF_18, pF_22, pF_24, pF_19, pF_20, pF_21, pF_23, pN_19, pN_20, pN_21, pN_23, pA_63, pA_64, pA_65, pA_66, pA_67, pA_68, pA_69, pA_70, pA_71, iN_add, iN_mul, iN_sub, iN_and, iN_or, iN_clr, iN_shl, iN_shr, tb_r1, b1_z, b1_or, b1_and, b1_or0, b1_or1, b1_0or, b1_t, b1_f, iN_lt, iN_inj, reduceIte, if_true, if_false, Nat.zero_add, Nat.add_zero, Bool.false_eq_true, Bool.true_eq_false, Nat.lt_irrefl, iN_az, not_true_eq_false, not_false_eq_true, Nat.reduceEqDiff, Nat.reduceLT, Nat.reduceAdd, Nat.reduceMul, Nat.reduceSub]
  | succ k ih =>
    intro i hi f hM
    have hiL : i < (σ 1 6) := by omega
    have hiL2 : ¬ i = (σ 1 6) := by omega
    have hi6 : i < 6 := by omega
    by_cases h1 : u.testBit i = true
    · have key : ∀ v, v ≤ n → ∀ (f2 : Nat → Nat) x6 x7 x8, (∀ j, j < i → f2 j = f j) → (∀ j, f2 j < 4294967296) → (∀ g, xag u i g f → GA σ u n i g → ¬ g i < v) → ∃ f', ∃ b : Bool, ev xs (d + (k + 1) + 1) 266 6 ([.ref 62, .int (nI u), .int (nI i), .int (nI n), .ref (72 + Q.length), .int (nI v), x6, x7, x8], [], mh τ M σ μ ν (Q ++ [oI (ar 6 f2)])) = some (.inl (some (.int (nI (b1 b)))), mh τ M σ μ ν (Q ++ [oI (ar 6 f')])) ∧ XF σ u n i f f' b := by
        refine lp n ?_ ?_
        · intro f2 x6 x7 x8 hag hb2 hno
          refine ⟨f2, false, ?_, hag, hb2, fun _ g hg hga => hno g hg hga (hga i (Nat.le_refl _) hiL h1).1, fun h => (by cases h)⟩
          rw [eb_266_6]
          clear hno ih hag hM hb2
          simp (disch := first | assumption | omega | exact st8_a (Nat.le_of_ble_eq_true rfl)) only [eb_266_25, kl_a, kl_d, kl_f, kl_i, kl_l, kl_n, kl_r, xr_1, xr_10, xr_2, xr_27, xr_28, xr_3, xr_31, xr_35, xr_36, xr_37, xr_38, xr_39, xr_4, xr_44, xr_5, xr_55, xr_56, xr_57, xr_61, xr_62, xr_80, xr_81, xr_82, xr_83, xr_84, xr_91, xr_96, xr_98, af_0, af_1, xt_goto, xt_ib, xt_ic, xt_ic_eq, xt_ic_ge, xt_ic_ne, xt_if_eq, xt_if_ne, xt_ir, xt_nop, mF_10 mh_Mo, mF_8 mh_Mo, mF_9 mh_Mo, mA_63 mh_Mo, mA_64 mh_Mo, mA_65 mh_Mo, mA_66 mh_Mo, mA_67 mh_Mo, mA_68 mh_Mo, mA_69 mh_Mo, mA_70 mh_Mo, mA_71 mh_Mo, xq_266_13_virtualm mh_Mo, pF_0, pF_1, pF_2, pF_5, pF_6, pF_8, pF_12, pF_16, pF_17, pF_18, pF_22, pF_24, pF_19, pF_20, pF_21, pF_23, pN_19, pN_20, pN_21, pN_23, pA_63, pA_64, pA_65, pA_66, pA_67, pA_68, pA_69, pA_70, pA_71, iN_add, iN_mul, iN_sub, iN_and, iN_or, iN_clr, iN_shl, iN_shr, tb_r1, b1_z, b1_or, b1_and, b1_or0, b1_or1, b1_0or, b1_t, b1_f, iN_lt, iN_inj, reduceIte, if_true, if_false, Nat.zero_add, Nat.add_zero, Bool.false_eq_true, Bool.true_eq_false, Nat.lt_irrefl, iN_az, not_true_eq_false, not_false_eq_true, Nat.reduceEqDiff, Nat.reduceLT, Nat.reduceAdd, Nat.reduceMul, Nat.reduceSub]
        · intro v hv ihv f2 x6 x7 x8 hag hb2 hno
          obtain ⟨x8', e0⟩ := m_266f (xs := xs) (d := d + (k + 1) + 1) (τ := τ) (M := M) (μ := μ) (ν := ν) (Q := Q) (x3 := nI n) O hu hiL (show v < 6 by omega) hb2 0 (Nat.zero_le _) x8
          rw [show frb σ u i v f2 0 = true from rfl, b1_t] at e0
          have x0 := frb_x (σ := σ) (u := u) (i := i) (v := v) (f := f2)
          have q1 := gt_last (B := Q) (x := oI (ar 6 f2))
          have agM : xag u i f2 f := fun j hj _ => hag j hj
          have hM3 : ∀ j, u1 f2 i v j < 4294967296 := fun j => by
            by_cases h : j = i
            · rw [h, u1_s]; omega
            · rw [u1_n h]; exact hb2 j
          have skip : ∀ (f3 : Nat → Nat) x6 x7 x8, (∀ j, j < i → f3 j = f j) → (∀ j, f3 j < 4294967296) → (∀ g, xag u i g f → GA σ u n i g → ¬ g i = v) → ∃ f', ∃ b : Bool, ev xs (d + (k + 1) + 1) 266 6 ([.ref 62, .int (nI u), .int (nI i), .int (nI n), .ref (72 + Q.length), .int (nI (v + 1)), x6, x7, x8], [], mh τ M σ μ ν (Q ++ [oI (ar 6 f3)])) = some (.inl (some (.int (nI (b1 b)))), mh τ M σ μ ν (Q ++ [oI (ar 6 f')])) ∧ XF σ u n i f f' b := fun f3 x6 x7 x8 q2 q3 q4 => ihv f3 x6 x7 x8 q2 q3 fun g z1 z2 z3 => by
            have := hno g z1 z2
            have := q4 g z1 z2
            omega
          cases hb0 : frb σ u i v f2 i
          · rw [hb0, b1_f] at e0
            obtain ⟨f', b, e, q⟩ := skip (u1 f2 i v) (.int (nI 0)) (.int (nI i)) x8' (fun j hj => by rw [u1_n (by omega)]; exact hag j hj) hM3 fun g z1 z2 z3 => by
              have h5 := (z2 i (Nat.le_refl _) hiL h1).2
              rw [z3] at h5
              have := x0.mpr (xfr_cg (fun j hj hu => by rw [hag j hj]; exact (z1 j hj hu).symm) h5)
              rw [hb0] at this
              cases this
            refine ⟨f', b, ?_, q⟩
            rw [← e, eb_266_6]
            clear q ih ihv hno hag skip x0 agM hM hb2 hM3 e hb0
            simp (disch := first | assumption | omega | exact st8_a (Nat.le_of_ble_eq_true rfl)) only [hv, eb_266_7, kl_a, kl_d, kl_f, kl_i, kl_l, kl_n, kl_r, xr_1, xr_10, xr_2, xr_27, xr_28, xr_3, xr_31, xr_35, xr_36, xr_37, xr_38, xr_39, xr_4, xr_44, xr_5, xr_55, xr_56, xr_57, xr_61, xr_62, xr_80, xr_81, xr_82, xr_83, xr_84, xr_91, xr_96, xr_98, af_0, af_1, xt_goto, xt_ib, xt_ic, xt_ic_eq, xt_ic_ge, xt_ic_ne, xt_if_eq, xt_if_ne, xt_ir, xt_nop, mF_10 mh_Mo, mF_8 mh_Mo, mF_9 mh_Mo, mA_63 mh_Mo, mA_64 mh_Mo, mA_65 mh_Mo, mA_66 mh_Mo, mA_67 mh_Mo, mA_68 mh_Mo, mA_69 mh_Mo, mA_70 mh_Mo, mA_71 mh_Mo, xq_266_13_virtualm mh_Mo, pF_0, pF_1, pF_2, pF_5, pF_6, pF_8, pF_12, pF_16, pF_17, pF_18, pF_22, pF_24, pF_19, pF_20, pF_21, pF_23, pN_19, pN_20, pN_21, pN_23, pA_63, pA_64, pA_65, pA_66, pA_67, pA_68, pA_69, pA_70, pA_71, iN_add, iN_mul, iN_sub, iN_and, iN_or, iN_clr, iN_shl, iN_shr, tb_r1, b1_z, b1_or, b1_and, b1_or0, b1_or1, b1_0or, b1_t, b1_f, iN_lt, iN_inj, reduceIte, if_true, if_false, Nat.zero_add, Nat.add_zero, Bool.false_eq_true, Bool.true_eq_false, Nat.lt_irrefl, iN_az, not_true_eq_false, not_false_eq_true, Nat.reduceEqDiff, Nat.reduceLT, Nat.reduceAdd, Nat.reduceMul, Nat.reduceSub]
            rw [e0]
            simp (disch := first | assumption | omega | exact st8_a (Nat.le_of_ble_eq_true rfl)) only [pQ_s q1, st_last, eb_266_20, eb_266_24, kl_a, kl_d, kl_f, kl_i, kl_l, kl_n, kl_r, xr_1, xr_10, xr_2, xr_27, xr_28, xr_3, xr_31, xr_35, xr_36, xr_37, xr_38, xr_39, xr_4, xr_44, xr_5, xr_55, xr_56, xr_57, xr_61, xr_62, xr_80, xr_81, xr_82, xr_83, xr_84, xr_91, xr_96, xr_98, af_0, af_1, xt_goto, xt_ib, xt_ic, xt_ic_eq, xt_ic_ge, xt_ic_ne, xt_if_eq, xt_if_ne, xt_ir, xt_nop, mF_10 mh_Mo, mF_8 mh_Mo, mF_9 mh_Mo, mA_63 mh_Mo, mA_64 mh_Mo, mA_65 mh_Mo, mA_66 mh_Mo, mA_67 mh_Mo, mA_68 mh_Mo, mA_69 mh_Mo, mA_70 mh_Mo, mA_71 mh_Mo, xq_266_13_virtualm mh_Mo, pF_0, pF_1, pF_2, pF_5, pF_6, pF_8, pF_12, pF_16, pF_17, pF_18, pF_22, pF_24, pF_19, pF_20, pF_21, pF_23, pN_19, pN_20, pN_21, pN_23, pA_63, pA_64, pA_65, pA_66, pA_67, pA_68, pA_69, pA_70, pA_71, iN_add, iN_mul, iN_sub, iN_and, iN_or, iN_clr, iN_shl, iN_shr, tb_r1, b1_z, b1_or, b1_and, b1_or0, b1_or1, b1_0or, b1_t, b1_f, iN_lt, iN_inj, reduceIte, if_true, if_false, Nat.zero_add, Nat.add_zero, Bool.false_eq_true, Bool.true_eq_false, Nat.lt_irrefl, iN_az, not_true_eq_false, not_false_eq_true, Nat.reduceEqDiff, Nat.reduceLT, Nat.reduceAdd, Nat.reduceMul, Nat.reduceSub]
          · rw [hb0, b1_t] at e0
            have hfree := x0.mp hb0
            obtain ⟨f1, b1', e2, p1, p2, p3, p4⟩ := ih (i + 1) (by omega) (u1 f2 i v) hM3
            have hf1i : f1 i = v := by rw [p1 i (by omega), u1_s]
            have hf1 : ∀ j, j < i → f1 j = f j := fun j hj => by rw [p1 j (by omega), u1_n (by omega), hag j hj]
            have hsame : ∀ g, xag u i g f → g i = v → xag u (i + 1) g (u1 f2 i v) := fun g hg hgv j hj huj => by
              by_cases h : j = i
              · rw [h, u1_s, hgv]
              · rw [u1_n h, hg j (by omega) huj, hag j (by omega)]
            rw [show d + k + 1 = d + (k + 1) from rfl] at e2
            cases b1'
            · rw [b1_f] at e2
              obtain ⟨f', b, e, q⟩ := skip f1 (.int (nI 1)) (.int (nI i)) x8' hf1 p2 fun g z1 z2 z3 => p3 rfl g (hsame g z1 z3) fun j h2 h3 h4 => z2 j (by omega) h3 h4
              refine ⟨f', b, ?_, q⟩
              rw [← e, eb_266_6]
              clear q ih ihv hno hag skip x0 agM hfree p3 p4 hsame hM hb2 hM3 e hb0 p1 p2 hf1
              simp (disch := first | assumption | omega | exact st8_a (Nat.le_of_ble_eq_true rfl)) only [hv, eb_266_7, kl_a, kl_d, kl_f, kl_i, kl_l, kl_n, kl_r, xr_1, xr_10, xr_2, xr_27, xr_28, xr_3, xr_31, xr_35, xr_36, xr_37, xr_38, xr_39, xr_4, xr_44, xr_5, xr_55, xr_56, xr_57, xr_61, xr_62, xr_80, xr_81, xr_82, xr_83, xr_84, xr_91, xr_96, xr_98, af_0, af_1, xt_goto, xt_ib, xt_ic, xt_ic_eq, xt_ic_ge, xt_ic_ne, xt_if_eq, xt_if_ne, xt_ir, xt_nop, mF_10 mh_Mo, mF_8 mh_Mo, mF_9 mh_Mo, mA_63 mh_Mo, mA_64 mh_Mo, mA_65 mh_Mo, mA_66 mh_Mo, mA_67 mh_Mo, mA_68 mh_Mo, mA_69 mh_Mo, mA_70 mh_Mo, mA_71 mh_Mo, xq_266_13_virtualm mh_Mo, pF_0, pF_1, pF_2, pF_5, pF_6, pF_8, pF_12, pF_16, pF_17, pF_18, pF_22, pF_24, pF_19, pF_20, pF_21, pF_23, pN_19, pN_20, pN_21, pN_23, pA_63, pA_64, pA_65, pA_66, pA_67, pA_68, pA_69, pA_70, pA_71, iN_add, iN_mul, iN_sub, iN_and, iN_or, iN_clr, iN_shl, iN_shr, tb_r1, b1_z, b1_or, b1_and, b1_or0, b1_or1, b1_0or, b1_t, b1_f, iN_lt, iN_inj, reduceIte, if_true, if_false, Nat.zero_add, Nat.add_zero, Bool.false_eq_true, Bool.true_eq_false, Nat.lt_irrefl, iN_az, not_true_eq_false, not_false_eq_true, Nat.reduceEqDiff, Nat.reduceLT, Nat.reduceAdd, Nat.reduceMul, Nat.reduceSub]
              rw [e0]
              simp (disch := first | assumption | omega | exact st8_a (Nat.le_of_ble_eq_true rfl)) only [pQ_s q1, st_last, e2, eb_266_20, eb_266_21, eb_266_22, eb_266_24, kl_a, kl_d, kl_f, kl_i, kl_l, kl_n, kl_r, xr_1, xr_10, xr_2, xr_27, xr_28, xr_3, xr_31, xr_35, xr_36, xr_37, xr_38, xr_39, xr_4, xr_44, xr_5, xr_55, xr_56, xr_57, xr_61, xr_62, xr_80, xr_81, xr_82, xr_83, xr_84, xr_91, xr_96, xr_98, af_0, af_1, xt_goto, xt_ib, xt_ic, xt_ic_eq, xt_ic_ge, xt_ic_ne, xt_if_eq, xt_if_ne, xt_ir, xt_nop, mF_10 mh_Mo, mF_8 mh_Mo, mF_9 mh_Mo, mA_63 mh_Mo, mA_64 mh_Mo, mA_65 mh_Mo, mA_66 mh_Mo, mA_67 mh_Mo, mA_68 mh_Mo, mA_69 mh_Mo, mA_70 mh_Mo, mA_71 mh_Mo, xq_266_13_virtualm mh_Mo, pF_0, pF_1, pF_2, pF_5, pF_6, pF_8, pF_12, pF_16, pF_17, pF_18, pF_22, pF_24, pF_19, pF_20, pF_21, pF_23, pN_19, pN_20, pN_21, pN_23, pA_63, pA_64, pA_65, pA_66, pA_67, pA_68, pA_69, pA_70, pA_71, iN_add, iN_mul, iN_sub, iN_and, iN_or, iN_clr, iN_shl, iN_shr, tb_r1, b1_z, b1_or, b1_and, b1_or0, b1_or1, b1_0or, b1_t, b1_f, iN_lt, iN_inj, reduceIte, if_true, if_false, Nat.zero_add, Nat.add_zero, Bool.false_eq_true, Bool.true_eq_false, Nat.lt_irrefl, iN_az, not_true_eq_false, not_false_eq_true, Nat.reduceEqDiff, Nat.reduceLT, Nat.reduceAdd, Nat.reduceMul, Nat.reduceSub]
            · rw [b1_t] at e2
              obtain ⟨p5, p6⟩ := p4 rfl
              refine ⟨f1, true, ?_, hf1, p2, fun h => (by cases h), fun _ => ⟨fun j h2 h3 h4 => ?_, fun g z1 z2 ⟨m, h2, h3, h4, h5, h6⟩ => ?_⟩⟩
              · rw [eb_266_6]
                clear ih ihv hno hag skip x0 agM hfree p3 p4 hsame p5 p6 hM hb2 hM3 hb0 p1 p2 hf1
                simp (disch := first | assumption | omega | exact st8_a (Nat.le_of_ble_eq_true rfl)) only [hv, eb_266_7, kl_a, kl_d, kl_f, kl_i, kl_l, kl_n, kl_r, xr_1, xr_10, xr_2, xr_27, xr_28, xr_3, xr_31, xr_35, xr_36, xr_37, xr_38, xr_39, xr_4, xr_44, xr_5, xr_55, xr_56, xr_57, xr_61, xr_62, xr_80, xr_81, xr_82, xr_83, xr_84, xr_91, xr_96, xr_98, af_0, af_1, xt_goto, xt_ib, xt_ic, xt_ic_eq, xt_ic_ge, xt_ic_ne, xt_if_eq, xt_if_ne, xt_ir, xt_nop, mF_10 mh_Mo, mF_8 mh_Mo, mF_9 mh_Mo, mA_63 mh_Mo, mA_64 mh_Mo, mA_65 mh_Mo, mA_66 mh_Mo, mA_67 mh_Mo, mA_68 mh_Mo, mA_69 mh_Mo, mA_70 mh_Mo, mA_71 mh_Mo, xq_266_13_virtualm mh_Mo, pF_0, pF_1, pF_2, pF_5, pF_6, pF_8, pF_12, pF_16, pF_17, pF_18, pF_22, pF_24, pF_19, pF_20, pF_21, pF_23, pN_19, pN_20, pN_21, pN_23, pA_63, pA_64, pA_65, pA_66, pA_67, pA_68, pA_69, pA_70, pA_71, iN_add, iN_mul, iN_sub, iN_and, iN_or, iN_clr, iN_shl, iN_shr, tb_r1, b1_z, b1_or, b1_and, b1_or0, b1_or1, b1_0or, b1_t, b1_f, iN_lt, iN_inj, reduceIte, if_true, if_false, Nat.zero_add, Nat.add_zero, Bool.false_eq_true, Bool.true_eq_false, Nat.lt_irrefl, iN_az, not_true_eq_false, not_false_eq_true, Nat.reduceEqDiff, Nat.reduceLT, Nat.reduceAdd, Nat.reduceMul, Nat.reduceSub]
                rw [e0]
                simp (disch := first | assumption | omega | exact st8_a (Nat.le_of_ble_eq_true rfl)) only [pQ_s q1, st_last, e2, eb_266_20, eb_266_21, eb_266_22, eb_266_23, kl_a, kl_d, kl_f, kl_i, kl_l, kl_n, kl_r, xr_1, xr_10, xr_2, xr_27, xr_28, xr_3, xr_31, xr_35, xr_36, xr_37, xr_38, xr_39, xr_4, xr_44, xr_5, xr_55, xr_56, xr_57, xr_61, xr_62, xr_80, xr_81, xr_82, xr_83, xr_84, xr_91, xr_96, xr_98, af_0, af_1, xt_goto, xt_ib, xt_ic, xt_ic_eq, xt_ic_ge, xt_ic_ne, xt_if_eq, xt_if_ne, xt_ir, xt_nop, mF_10 mh_Mo, mF_8 mh_Mo, mF_9 mh_Mo, mA_63 mh_Mo, mA_64 mh_Mo, mA_65 mh_Mo, mA_66 mh_Mo, mA_67 mh_Mo, mA_68 mh_Mo, mA_69 mh_Mo, mA_70 mh_Mo, mA_71 mh_Mo, xq_266_13_virtualm mh_Mo, pF_0, pF_1, pF_2, pF_5, pF_6, pF_8, pF_12, pF_16, pF_17, pF_18, pF_22, pF_24, pF_19, pF_20, pF_21, pF_23, pN_19, pN_20, pN_21, pN_23, pA_63, pA_64, pA_65, pA_66, pA_67, pA_68, pA_69, pA_70, pA_71, iN_add, iN_mul, iN_sub, iN_and, iN_or, iN_clr, iN_shl, iN_shr, tb_r1, b1_z, b1_or, b1_and, b1_or0, b1_or1, b1_0or, b1_t, b1_f, iN_lt, iN_inj, reduceIte, if_true, if_false, Nat.zero_add, Nat.add_zero, Bool.false_eq_true, Bool.true_eq_false, Nat.lt_irrefl, iN_az, not_true_eq_false, not_false_eq_true, Nat.reduceEqDiff, Nat.reduceLT, Nat.reduceAdd, Nat.reduceMul, Nat.reduceSub]
              · by_cases hji : j = i
                · subst hji
                  rw [hf1i]
                  refine ⟨hv, xfr_cg (f := f2) (fun t ht _ => ?_) hfree⟩
                  rw [hf1 t ht, hag t ht]
                · exact p5 j (by omega) h3 h4
              · by_cases hmi : m = i
                · subst hmi
                  rw [hf1i] at h6
                  exact hno g z1 z2 h6
                · have hgi : g i = v := by rw [h5 i (by omega) h1, hf1i]
                  exact p6 g (hsame g z1 hgi) (fun j a1 a2 a3 => z2 j (by omega) a2 a3) ⟨m, by omega, h3, h4, h5, h6⟩
      obtain ⟨f', b, e, q⟩ := key 0 (Nat.zero_le _) f (.retAddr 9) (.retAddr 9) (.retAddr 9) (fun _ _ => rfl) hM fun g _ _ h => by omega
      refine ⟨f', b, ?_, q⟩
      rw [← e, eb_266_0]
      clear q key ih hM e
      simp (disch := first | assumption | omega | exact st8_a (Nat.le_of_ble_eq_true rfl)) only [hiL2, h1, eb_266_2, eb_266_5, kl_a, kl_d, kl_f, kl_i, kl_l, kl_n, kl_r, xr_1, xr_10, xr_2, xr_27, xr_28, xr_3, xr_31, xr_35, xr_36, xr_37, xr_38, xr_39, xr_4, xr_44, xr_5, xr_55, xr_56, xr_57, xr_61, xr_62, xr_80, xr_81, xr_82, xr_83, xr_84, xr_91, xr_96, xr_98, af_0, af_1, xt_goto, xt_ib, xt_ic, xt_ic_eq, xt_ic_ge, xt_ic_ne, xt_if_eq, xt_if_ne, xt_ir, xt_nop, mF_10 mh_Mo, mF_8 mh_Mo, mF_9 mh_Mo, mA_63 mh_Mo, mA_64 mh_Mo, mA_65 mh_Mo, mA_66 mh_Mo, mA_67 mh_Mo, mA_68 mh_Mo, mA_69 mh_Mo, mA_70 mh_Mo, mA_71 mh_Mo, xq_266_13_virtualm mh_Mo, pF_0, pF_1, pF_2, pF_5, pF_6, pF_8, pF_12, pF_16, pF_17, pF_18, pF_22, pF_24, pF_19, pF_20, pF_21, pF_23, pN_19, pN_20, pN_21, pN_23, pA_63, pA_64, pA_65, pA_66, pA_67, pA_68, pA_69, pA_70, pA_71, iN_add, iN_mul, iN_sub, iN_and, iN_or, iN_clr, iN_shl, iN_shr, tb_r1, b1_z, b1_or, b1_and, b1_or0, b1_or1, b1_0or, b1_t, b1_f, iN_lt, iN_inj, reduceIte, if_true, if_false, Nat.zero_add, Nat.add_zero, Bool.false_eq_true, Bool.true_eq_false, Nat.lt_irrefl, iN_az, not_true_eq_false, not_false_eq_true, Nat.reduceEqDiff, Nat.reduceLT, Nat.reduceAdd, Nat.reduceMul, Nat.reduceSub]
    · have h1 : u.testBit i = false := by simpa using h1
      obtain ⟨f', b, e, p1, p2, p3, p4⟩ := ih (i + 1) (by omega) f hM
      have hup : ∀ g : Nat → Nat, xag u i g f → xag u (i + 1) g f := fun g hg j hj huj => by
        by_cases h : j = i
        · rw [h, h1] at huj; cases huj
        · exact hg j (by omega) huj
      refine ⟨f', b, ?_, fun j hj => p1 j (by omega), p2, fun h g hg hga => p3 h g (hup g hg) fun j a1 a2 a3 => hga j (by omega) a2 a3, fun h => ⟨fun j a1 a2 a3 => ?_, fun g hg hga ⟨m, h2, h3, h4, h5, h6⟩ => ?_⟩⟩
      · rw [show d + k + 1 = d + (k + 1) from rfl] at e
        clear p1 p2 p3 p4 ih hup hM
        rw [eb_266_0]
        simp (disch := first | assumption | omega | exact st8_a (Nat.le_of_ble_eq_true rfl)) only [hiL2, h1, e, eb_266_2, eb_266_3, eb_266_4, kl_a, kl_d, kl_f, kl_i, kl_l, kl_n, kl_r, xr_1, xr_10, xr_2, xr_27, xr_28, xr_3, xr_31, xr_35, xr_36, xr_37, xr_38, xr_39, xr_4, xr_44, xr_5, xr_55, xr_56, xr_57, xr_61, xr_62, xr_80, xr_81, xr_82, xr_83, xr_84, xr_91, xr_96, xr_98, af_0, af_1, xt_goto, xt_ib, xt_ic, xt_ic_eq, xt_ic_ge, xt_ic_ne, xt_if_eq, xt_if_ne, xt_ir, xt_nop, mF_10 mh_Mo, mF_8 mh_Mo, mF_9 mh_Mo, mA_63 mh_Mo, mA_64 mh_Mo, mA_65 mh_Mo, mA_66 mh_Mo, mA_67 mh_Mo, mA_68 mh_Mo, mA_69 mh_Mo, mA_70 mh_Mo, mA_71 mh_Mo, xq_266_13_virtualm mh_Mo, pF_0, pF_1, pF_2, pF_5, pF_6, pF_8, pF_12, pF_16, pF_17, pF_18, pF_22, pF_24, pF_19, pF_20, pF_21, pF_23, pN_19, pN_20, pN_21, pN_23, pA_63, pA_64, pA_65, pA_66, pA_67, pA_68, pA_69, pA_70, pA_71, iN_add, iN_mul, iN_sub, iN_and, iN_or, iN_clr, iN_shl, iN_shr, tb_r1, b1_z, b1_or, b1_and, b1_or0, b1_or1, b1_0or, b1_t, b1_f, iN_lt, iN_inj, reduceIte, if_true, if_false, Nat.zero_add, Nat.add_zero, Bool.false_eq_true, Bool.true_eq_false, Nat.lt_irrefl, iN_az, not_true_eq_false, not_false_eq_true, Nat.reduceEqDiff, Nat.reduceLT, Nat.reduceAdd, Nat.reduceMul, Nat.reduceSub]
      · by_cases hji : j = i
        · rw [hji, h1] at a3; cases a3
        · exact (p4 h).1 j (by omega) a2 a3
      · by_cases hmi : m = i
        · rw [hmi, h1] at h4; cases h4
        · exact (p4 h).2 g (hup g hg) (fun j a1 a2 a3 => hga j (by omega) a2 a3) ⟨m, by omega, h3, h4, h5, h6⟩
set_option maxRecDepth 100000 in
theorem m_267 (O : Ok σ) (hu : u < 64) (hf : ∀ j, f j < 4294967296) : ∃ g v, ev xs (d + 9) 267 0 ([.ref 62, .int (nI u), .ref (72 + Q.length), .retAddr 9], [], mh τ M σ μ ν (Q ++ [oI (ar 6 f)])) = some (.inl (some (.int (nI (v)))), mh τ M σ μ ν (Q ++ [oI (ar 6 g)])) ∧ v ≤ 6 ∧ XS σ u g v ∧ ∀ j, g j < 4294967296 := by
  obtain ⟨hD1, hD2, hH1, hH2, hS, hC, hT, hR, hL, hQ⟩ := Ok_b O
  have call : ∀ n, n ≤ 6 → ∀ f : Nat → Nat, (∀ j, f j < 4294967296) → ∃ f', ∃ b : Bool, ev xs (d + 8) 266 0 ([.ref 62, .int (nI u), .int (nI 0), .int (nI n), .ref (72 + Q.length), .retAddr 9, .retAddr 9, .retAddr 9, .retAddr 9], [], mh τ M σ μ ν (Q ++ [oI (ar 6 f)])) = some (.inl (some (.int (nI (b1 b)))), mh τ M σ μ ν (Q ++ [oI (ar 6 f')])) ∧ XF σ u n 0 f f' b := by
    intro n hn f hM
    have := m_266 (xs := xs) (d := d + (7 - (σ 1 6))) (τ := τ) (M := M) (μ := μ) (ν := ν) (Q := Q) O hu hn (σ 1 6) 0 (Nat.zero_add _) f hM
    rw [show d + (7 - (σ 1 6)) + (σ 1 6) + 1 = d + 8 by omega] at this
    exact this
  have ag : ∀ g f : Nat → Nat, xag u 0 g f := fun _ _ j hj => absurd hj (Nat.not_lt_zero j)
  have key : ∀ n, n ≤ 6 → ∀ f : Nat → Nat, (∀ j, f j < 4294967296) → (∀ m, m < n → ∀ g2, ¬ GA σ u m 0 g2) → ∃ g v, ev xs (d + 9) 267 1 ([.ref 62, .int (nI u), .ref (72 + Q.length), .int (nI n)], [], mh τ M σ μ ν (Q ++ [oI (ar 6 f)])) = some (.inl (some (.int (nI (v)))), mh τ M σ μ ν (Q ++ [oI (ar 6 g)])) ∧ v ≤ 6 ∧ XS σ u g v ∧ ∀ j, g j < 4294967296 := by
    refine lp 6 ?_ ?_
    · intro f hb hno
      obtain ⟨f', b, e, p1, p2, p3, p4⟩ := call 6 (by decide) f hb
      cases b
      · exact absurd (GA_6 O) (p3 rfl _ (ag _ _))
      · obtain ⟨p5, p6⟩ := p4 rfl
        refine ⟨f', 6, ?_, Nat.le_refl _, ⟨p5, hno, fun g2 h => p6 g2 (ag _ _) h⟩, p2⟩
        rw [b1_t] at e
        rw [eb_267_1]
        clear call hno p1 p2 p3 p4 p5 p6 hb hf ag
        simp (disch := first | assumption | omega | exact st8_a (Nat.le_of_ble_eq_true rfl)) only [e, eb_267_2, eb_267_4, kl_a, kl_d, kl_f, kl_i, kl_l, kl_n, kl_r, xr_1, xr_10, xr_16, xr_17, xr_18, xr_19, xr_2, xr_20, xr_28, xr_3, xr_32, xr_37, xr_4, xr_43, xr_5, af_0, af_1, xt_goto, xt_ib, xt_ic, xt_if_ne, xt_ir, xt_nop, xq_266_13_virtualm mh_Mo, pF_0, pF_1, pF_2, pF_5, pF_6, pF_8, pF_12, pF_16, pF_17, pF_18, pF_22, pF_24, pF_19, pF_20, pF_21, pF_23, pN_19, pN_20, pN_21, pN_23, pA_63, pA_64, pA_65, pA_66, pA_67, pA_68, pA_69, pA_70, pA_71, iN_add, iN_mul, iN_sub, iN_and, iN_or, iN_clr, iN_shl, iN_shr, tb_r1, b1_z, b1_or, b1_and, b1_or0, b1_or1, b1_0or, b1_t, b1_f, iN_lt, iN_inj, reduceIte, if_true, if_false, Nat.zero_add, Nat.add_zero, Bool.false_eq_true, Bool.true_eq_false, Nat.lt_irrefl, iN_az, not_true_eq_false, not_false_eq_true, Nat.reduceEqDiff, Nat.reduceLT, Nat.reduceAdd, Nat.reduceMul, Nat.reduceSub]
    · intro n hn ih f hb hno
      obtain ⟨f', b, e, p1, p2, p3, p4⟩ := call n (by omega) f hb
      cases b
      · obtain ⟨g, v, e2, q⟩ := ih f' p2 fun m hm g2 => by
          by_cases h : m = n
          · rw [h]; exact p3 rfl g2 (ag _ _)
          · exact hno m (by omega) g2
        refine ⟨g, v, ?_, q⟩
        rw [b1_f] at e
        rw [← e2, eb_267_1]
        clear call hno p1 p2 p3 p4 hb hf ag ih q e2
        simp (disch := first | assumption | omega | exact st8_a (Nat.le_of_ble_eq_true rfl)) only [e, eb_267_2, eb_267_3, kl_a, kl_d, kl_f, kl_i, kl_l, kl_n, kl_r, xr_1, xr_10, xr_16, xr_17, xr_18, xr_19, xr_2, xr_20, xr_28, xr_3, xr_32, xr_37, xr_4, xr_43, xr_5, af_0, af_1, xt_goto, xt_ib, xt_ic, xt_if_ne, xt_ir, xt_nop, xq_266_13_virtualm mh_Mo, pF_0, pF_1, pF_2, pF_5, pF_6, pF_8, pF_12, pF_16, pF_17, pF_18, pF_22, pF_24, pF_19, pF_20, pF_21, pF_23, pN_19, pN_20, pN_21, pN_23, pA_63, pA_64, pA_65, pA_66, pA_67, pA_68, pA_69, pA_70, pA_71, iN_add, iN_mul, iN_sub, iN_and, iN_or, iN_clr, iN_shl, iN_shr, tb_r1, b1_z, b1_or, b1_and, b1_or0, b1_or1, b1_0or, b1_t, b1_f, iN_lt, iN_inj, reduceIte, if_true, if_false, Nat.zero_add, Nat.add_zero, Bool.false_eq_true, Bool.true_eq_false, Nat.lt_irrefl, iN_az, not_true_eq_false, not_false_eq_true, Nat.reduceEqDiff, Nat.reduceLT, Nat.reduceAdd, Nat.reduceMul, Nat.reduceSub]
      · obtain ⟨p5, p6⟩ := p4 rfl
        refine ⟨f', n, ?_, by omega, ⟨p5, hno, fun g2 h => p6 g2 (ag _ _) h⟩, p2⟩
        rw [b1_t] at e
        rw [eb_267_1]
        clear call hno p1 p2 p3 p4 p5 p6 hb hf ag ih
        simp (disch := first | assumption | omega | exact st8_a (Nat.le_of_ble_eq_true rfl)) only [e, eb_267_2, eb_267_4, kl_a, kl_d, kl_f, kl_i, kl_l, kl_n, kl_r, xr_1, xr_10, xr_16, xr_17, xr_18, xr_19, xr_2, xr_20, xr_28, xr_3, xr_32, xr_37, xr_4, xr_43, xr_5, af_0, af_1, xt_goto, xt_ib, xt_ic, xt_if_ne, xt_ir, xt_nop, xq_266_13_virtualm mh_Mo, pF_0, pF_1, pF_2, pF_5, pF_6, pF_8, pF_12, pF_16, pF_17, pF_18, pF_22, pF_24, pF_19, pF_20, pF_21, pF_23, pN_19, pN_20, pN_21, pN_23, pA_63, pA_64, pA_65, pA_66, pA_67, pA_68, pA_69, pA_70, pA_71, iN_add, iN_mul, iN_sub, iN_and, iN_or, iN_clr, iN_shl, iN_shr, tb_r1, b1_z, b1_or, b1_and, b1_or0, b1_or1, b1_0or, b1_t, b1_f, iN_lt, iN_inj, reduceIte, if_true, if_false, Nat.zero_add, Nat.add_zero, Bool.false_eq_true, Bool.true_eq_false, Nat.lt_irrefl, iN_az, not_true_eq_false, not_false_eq_true, Nat.reduceEqDiff, Nat.reduceLT, Nat.reduceAdd, Nat.reduceMul, Nat.reduceSub]
  obtain ⟨g, v, e, q⟩ := key 0 (Nat.zero_le _) f hf fun m hm => absurd hm (Nat.not_lt_zero m)
  refine ⟨g, v, ?_, q⟩
  clear call key q hf ag
  simp (disch := first | assumption | omega | exact st8_a (Nat.le_of_ble_eq_true rfl)) only [eb_267_0, kl_a, kl_d, kl_f, kl_i, kl_l, kl_n, kl_r, xr_1, xr_10, xr_16, xr_17, xr_18, xr_19, xr_2, xr_20, xr_28, xr_3, xr_32, xr_37, xr_4, xr_43, xr_5, af_0, af_1, xt_goto, xt_ib, xt_ic, xt_if_ne, xt_ir, xt_nop, xq_266_13_virtualm mh_Mo, pF_0, pF_1, pF_2, pF_5, pF_6, pF_8, pF_12, pF_16, pF_17, pF_18, pF_22, pF_24, pF_19, pF_20, pF_21, pF_23, pN_19, pN_20, pN_21, pN_23, pA_63, pA_64, pA_65, pA_66, pA_67, pA_68, pA_69, pA_70, pA_71, iN_add, iN_mul, iN_sub, iN_and, iN_or, iN_clr, iN_shl, iN_shr, tb_r1, b1_z, b1_or, b1_and, b1_or0, b1_or1, b1_0or, b1_t, b1_f, iN_lt, iN_inj, reduceIte, if_true, if_false, Nat.zero_add, Nat.add_zero, Bool.false_eq_true, Bool.true_eq_false, Nat.lt_irrefl, iN_az, not_true_eq_false, not_false_eq_true, Nat.reduceEqDiff, Nat.reduceLT, Nat.reduceAdd, Nat.reduceMul, Nat.reduceSub]
  exact e
set_option maxRecDepth 100000 in
theorem m_268 (O : Ok σ) (hu : u < 4294967296) : ev xs d 268 0 ([.ref 62, .int (nI u)], [], mh τ M σ μ ν Q) = some (.inl (some (.int (nI (b1 (decide (u < 1 <<< (σ 1 6))))))), mh τ M σ μ ν Q) := by
  obtain ⟨hD1, hD2, hH1, hH2, hS, hC, hT, hR, hL, hQ⟩ := Ok_b O
  have h64 : 1 <<< (σ 1 6) ≤ 64 := by
    rw [Nat.one_shiftLeft]
    exact Nat.pow_le_pow_right (n := 2) (j := 6) (by decide) hL
  have h1 := one_shl (σ 1 6)
  by_cases h2 : 2147483648 ≤ u
  · rw [decide_eq_false (by omega)]
    simp (disch := first | assumption | omega | exact st8_a (Nat.le_of_ble_eq_true rfl)) only [eq_true (iN_neg h2 hu), eb_268_0, eb_268_3, eb_268_4, xr_1, xr_10, xr_2, xr_27, xr_28, xr_3, xr_4, xr_5, xr_58, xt_goto, xt_ib, xt_ic, xt_ic_ge, xt_if_lt, xt_ir, xt_nop, mF_8 mh_Mo, pF_0, pF_1, pF_2, pF_5, pF_6, pF_8, pF_12, pF_16, pF_17, pF_18, pF_22, pF_24, pF_19, pF_20, pF_21, pF_23, pN_19, pN_20, pN_21, pN_23, pA_63, pA_64, pA_65, pA_66, pA_67, pA_68, pA_69, pA_70, pA_71, iN_add, iN_mul, iN_sub, iN_and, iN_or, iN_clr, iN_shl, iN_shr, tb_r1, b1_z, b1_or, b1_and, b1_or0, b1_or1, b1_0or, b1_t, b1_f, iN_lt, iN_inj, reduceIte, if_true, if_false, Nat.zero_add, Nat.add_zero, Bool.false_eq_true, Bool.true_eq_false, Nat.lt_irrefl, iN_az, not_true_eq_false, not_false_eq_true, Nat.reduceEqDiff, Nat.reduceLT, Nat.reduceAdd, Nat.reduceMul, Nat.reduceSub]
  · by_cases h3 : u < 1 <<< (σ 1 6)
    · rw [decide_eq_true h3]
      simp (disch := first | assumption | omega | exact st8_a (Nat.le_of_ble_eq_true rfl)) only [Nat.not_lt_zero, h3, eb_268_0, eb_268_1, eb_268_2, eb_268_4, xr_1, xr_10, xr_2, xr_27, xr_28, xr_3, xr_4, xr_5, xr_58, xt_goto, xt_ib, xt_ic, xt_ic_ge, xt_if_lt, xt_ir, xt_nop, mF_8 mh_Mo, pF_0, pF_1, pF_2, pF_5, pF_6, pF_8, pF_12, pF_16, pF_17, pF_18, pF_22, pF_24, pF_19, pF_20, pF_21, pF_23, pN_19, pN_20, pN_21, pN_23, pA_63, pA_64, pA_65, pA_66, pA_67, pA_68, pA_69, pA_70, pA_71, iN_add, iN_mul, iN_sub, iN_and, iN_or, iN_clr, iN_shl, iN_shr, tb_r1, b1_z, b1_or, b1_and, b1_or0, b1_or1, b1_0or, b1_t, b1_f, iN_lt, iN_inj, reduceIte, if_true, if_false, Nat.zero_add, Nat.add_zero, Bool.false_eq_true, Bool.true_eq_false, Nat.lt_irrefl, iN_az, not_true_eq_false, not_false_eq_true, Nat.reduceEqDiff, Nat.reduceLT, Nat.reduceAdd, Nat.reduceMul, Nat.reduceSub]
    · rw [decide_eq_false h3]
      simp (disch := first | assumption | omega | exact st8_a (Nat.le_of_ble_eq_true rfl)) only [Nat.not_lt_zero, h3, eb_268_0, eb_268_1, eb_268_3, eb_268_4, xr_1, xr_10, xr_2, xr_27, xr_28, xr_3, xr_4, xr_5, xr_58, xt_goto, xt_ib, xt_ic, xt_ic_ge, xt_if_lt, xt_ir, xt_nop, mF_8 mh_Mo, pF_0, pF_1, pF_2, pF_5, pF_6, pF_8, pF_12, pF_16, pF_17, pF_18, pF_22, pF_24, pF_19, pF_20, pF_21, pF_23, pN_19, pN_20, pN_21, pN_23, pA_63, pA_64, pA_65, pA_66, pA_67, pA_68, pA_69, pA_70, pA_71, iN_add, iN_mul, iN_sub, iN_and, iN_or, iN_clr, iN_shl, iN_shr, tb_r1, b1_z, b1_or, b1_and, b1_or0, b1_or1, b1_0or, b1_t, b1_f, iN_lt, iN_inj, reduceIte, if_true, if_false, Nat.zero_add, Nat.add_zero, Bool.false_eq_true, Bool.true_eq_false, Nat.lt_irrefl, iN_az, not_true_eq_false, not_false_eq_true, Nat.reduceEqDiff, Nat.reduceLT, Nat.reduceAdd, Nat.reduceMul, Nat.reduceSub]
set_option maxRecDepth 100000 in
theorem m_269x (O : Ok σ) (hu : u < 4294967296) (h : ¬ u < 1 <<< (σ 1 6)) : ev xs (d + 1) 269 0 ([.ref 62, .int (nI u)], [], mh τ M σ μ ν Q) = some (.inl (some (.int (nI (0)))), mh τ M σ (u1 μ 0 1) ν Q) := by
  have e := m_268 (xs := xs) (d := d) (τ := τ) (M := M) (μ := μ) (ν := ν) (Q := Q) O hu
  rw [decide_eq_false h] at e
  simp (disch := first | assumption | omega | exact st8_a (Nat.le_of_ble_eq_true rfl)) only [e, en0, eb_269_0, eb_269_1, eb_269_2, eb_269_3, eb_269_5, xr_1, xr_10, xr_2, xr_27, xr_28, xr_3, xr_4, xr_48, xr_5, af_0, af_1, xt_goto, xt_ib, xt_ic, xt_if_eq, xt_ir, xq_187_13_virtualm mh_Mo, xq_267_13_virtualm mh_Mo, xq_268_13_virtualm mh_Mo, pF_0, pF_1, pF_2, pF_5, pF_6, pF_8, pF_12, pF_16, pF_17, pF_18, pF_22, pF_24, pF_19, pF_20, pF_21, pF_23, pN_19, pN_20, pN_21, pN_23, pA_63, pA_64, pA_65, pA_66, pA_67, pA_68, pA_69, pA_70, pA_71, iN_add, iN_mul, iN_sub, iN_and, iN_or, iN_clr, iN_shl, iN_shr, tb_r1, b1_z, b1_or, b1_and, b1_or0, b1_or1, b1_0or, b1_t, b1_f, iN_lt, iN_inj, reduceIte, if_true, if_false, Nat.zero_add, Nat.add_zero, Bool.false_eq_true, Bool.true_eq_false, Nat.lt_irrefl, iN_az, not_true_eq_false, not_false_eq_true, Nat.reduceEqDiff, Nat.reduceLT, Nat.reduceAdd, Nat.reduceMul, Nat.reduceSub]
set_option maxRecDepth 100000 in
theorem m_269 (O : Ok σ) (h : u < 1 <<< (σ 1 6)) : ∃ g v, ev xs (d + 10) 269 0 ([.ref 62, .int (nI u)], [], mh τ M σ μ ν Q) = some (.inl (some (.int (nI (v)))), mh τ M σ (u1 μ 0 0) ν (Q ++ [oI (ar 6 g)])) ∧ v ≤ 6 ∧ XS σ u g v := by
  have h64 := L64 O h
  have e := m_268 (xs := xs) (d := d + 9) (τ := τ) (M := M) (μ := μ) (ν := ν) (Q := Q) O (show u < 4294967296 by omega)
  rw [decide_eq_true h] at e
  obtain ⟨g, v, e2, q1, q2, -⟩ := m_267 (xs := xs) (d := d) (τ := τ) (M := M) (μ := u1 μ 0 0) (ν := ν) (Q := Q) (f := fun _ => 0) O h64 fun _ => (by decide)
  refine ⟨g, v, ?_, q1, q2⟩
  clear q2 h
  simp (disch := first | assumption | omega | exact st8_a (Nat.le_of_ble_eq_true rfl)) only [e, en1, xr_49, mh_len, mh_app, e2, eb_269_0, eb_269_1, eb_269_2, eb_269_4, eb_269_5, xr_1, xr_10, xr_2, xr_27, xr_28, xr_3, xr_4, xr_48, xr_5, af_0, af_1, xt_goto, xt_ib, xt_ic, xt_if_eq, xt_ir, xq_187_13_virtualm mh_Mo, xq_267_13_virtualm mh_Mo, xq_268_13_virtualm mh_Mo, pF_0, pF_1, pF_2, pF_5, pF_6, pF_8, pF_12, pF_16, pF_17, pF_18, pF_22, pF_24, pF_19, pF_20, pF_21, pF_23, pN_19, pN_20, pN_21, pN_23, pA_63, pA_64, pA_65, pA_66, pA_67, pA_68, pA_69, pA_70, pA_71, iN_add, iN_mul, iN_sub, iN_and, iN_or, iN_clr, iN_shl, iN_shr, tb_r1, b1_z, b1_or, b1_and, b1_or0, b1_or1, b1_0or, b1_t, b1_f, iN_lt, iN_inj, reduceIte, if_true, if_false, Nat.zero_add, Nat.add_zero, Bool.false_eq_true, Bool.true_eq_false, Nat.lt_irrefl, iN_az, not_true_eq_false, not_false_eq_true, Nat.reduceEqDiff, Nat.reduceLT, Nat.reduceAdd, Nat.reduceMul, Nat.reduceSub]
set_option maxRecDepth 100000 in
theorem m_270x (O : Ok σ) (hl : l < 4294967296) (h : ¬ l < (σ 1 6)) : ev xs (d + 2) 270 0 ([.ref 62, .int (nI u), .int (nI l), .retAddr 9, .retAddr 9], [], mh τ M σ μ ν Q) = some (.inl (some (.int (nI (0)))), mh τ M σ (u1 μ 0 1) ν Q) := by
  simp (disch := first | assumption | omega | exact st8_a (Nat.le_of_ble_eq_true rfl)) only [m_190 O mh_Mo hl, decide_eq_false h, en0, eb_270_0, eb_270_1, eb_270_2, eb_270_10, kl_a, kl_d, kl_f, kl_i, kl_l, kl_n, kl_r, xr_1, xr_10, xr_158, xr_159, xr_160, xr_161, xr_162, xr_2, xr_21, xr_22, xr_23, xr_24, xr_25, xr_27, xr_28, xr_3, xr_31, xr_33, xr_4, xr_44, xr_48, xr_5, xr_55, xr_65, af_0, af_1, xt_goto, xt_ib, xt_ic, xt_ic_ne, xt_if_eq, xt_if_ne, xt_ir, xt_nop, mA_63 mh_Mo, mA_64 mh_Mo, mA_65 mh_Mo, mA_66 mh_Mo, mA_67 mh_Mo, mA_68 mh_Mo, mA_69 mh_Mo, mA_70 mh_Mo, mA_71 mh_Mo, xq_187_13_virtualm mh_Mo, xq_190_13_virtualm mh_Mo, xq_267_13_virtualm mh_Mo, xq_268_13_virtualm mh_Mo, pF_0, pF_1, pF_2, pF_5, pF_6, pF_8, pF_12, pF_16, pF_17, pF_18, pF_22, pF_24, pF_19, pF_20, pF_21, pF_23, pN_19, pN_20, pN_21, pN_23, pA_63, pA_64, pA_65, pA_66, pA_67, pA_68, pA_69, pA_70, pA_71, iN_add, iN_mul, iN_sub, iN_and, iN_or, iN_clr, iN_shl, iN_shr, tb_r1, b1_z, b1_or, b1_and, b1_or0, b1_or1, b1_0or, b1_t, b1_f, iN_lt, iN_inj, reduceIte, if_true, if_false, Nat.zero_add, Nat.add_zero, Bool.false_eq_true, Bool.true_eq_false, Nat.lt_irrefl, iN_az, not_true_eq_false, not_false_eq_true, Nat.reduceEqDiff, Nat.reduceLT, Nat.reduceAdd, Nat.reduceMul, Nat.reduceSub]
set_option maxRecDepth 100000 in
theorem m_270y (O : Ok σ) (hu : u < 4294967296) (hl : l < (σ 1 6)) (h : ¬ (u < 1 <<< (σ 1 6) ∧ u.testBit l = true)) : ev xs (d + 2) 270 0 ([.ref 62, .int (nI u), .int (nI l), .retAddr 9, .retAddr 9], [], mh τ M σ μ ν Q) = some (.inl (some (.int (nI (0)))), mh τ M σ (u1 μ 0 2) ν Q) := by
  obtain ⟨hD1, hD2, hH1, hH2, hS, hC, hT, hR, hL, hQ⟩ := Ok_b O
  have hl2 : l < 4294967296 := by omega
  have e := m_268 (xs := xs) (d := d + 1) (τ := τ) (M := M) (μ := u1 μ 0 0) (ν := ν) (Q := Q) O hu
  by_cases h1 : u < 1 <<< (σ 1 6)
  · have h2 : u.testBit l = false := by
      cases hh : u.testBit l
      · rfl
      · exact absurd ⟨h1, hh⟩ h
    have h64 := L64 O h1
    rw [decide_eq_true h1] at e
    clear h
    simp (disch := first | assumption | omega | exact st8_a (Nat.le_of_ble_eq_true rfl)) only [m_190 O mh_Mo hl2, decide_eq_true hl, en1, en0, uu, e, h2, eb_270_0, eb_270_1, eb_270_2, eb_270_3, eb_270_4, eb_270_5, eb_270_7, eb_270_8, eb_270_9, eb_270_10, kl_a, kl_d, kl_f, kl_i, kl_l, kl_n, kl_r, xr_1, xr_10, xr_158, xr_159, xr_160, xr_161, xr_162, xr_2, xr_21, xr_22, xr_23, xr_24, xr_25, xr_27, xr_28, xr_3, xr_31, xr_33, xr_4, xr_44, xr_48, xr_5, xr_55, xr_65, af_0, af_1, xt_goto, xt_ib, xt_ic, xt_ic_ne, xt_if_eq, xt_if_ne, xt_ir, xt_nop, mA_63 mh_Mo, mA_64 mh_Mo, mA_65 mh_Mo, mA_66 mh_Mo, mA_67 mh_Mo, mA_68 mh_Mo, mA_69 mh_Mo, mA_70 mh_Mo, mA_71 mh_Mo, xq_187_13_virtualm mh_Mo, xq_190_13_virtualm mh_Mo, xq_267_13_virtualm mh_Mo, xq_268_13_virtualm mh_Mo, pF_0, pF_1, pF_2, pF_5, pF_6, pF_8, pF_12, pF_16, pF_17, pF_18, pF_22, pF_24, pF_19, pF_20, pF_21, pF_23, pN_19, pN_20, pN_21, pN_23, pA_63, pA_64, pA_65, pA_66, pA_67, pA_68, pA_69, pA_70, pA_71, iN_add, iN_mul, iN_sub, iN_and, iN_or, iN_clr, iN_shl, iN_shr, tb_r1, b1_z, b1_or, b1_and, b1_or0, b1_or1, b1_0or, b1_t, b1_f, iN_lt, iN_inj, reduceIte, if_true, if_false, Nat.zero_add, Nat.add_zero, Bool.false_eq_true, Bool.true_eq_false, Nat.lt_irrefl, iN_az, not_true_eq_false, not_false_eq_true, Nat.reduceEqDiff, Nat.reduceLT, Nat.reduceAdd, Nat.reduceMul, Nat.reduceSub]
  · rw [decide_eq_false h1] at e
    clear h
    simp (disch := first | assumption | omega | exact st8_a (Nat.le_of_ble_eq_true rfl)) only [m_190 O mh_Mo hl2, decide_eq_true hl, en1, en0, uu, e, eb_270_0, eb_270_1, eb_270_2, eb_270_3, eb_270_4, eb_270_7, eb_270_8, eb_270_9, eb_270_10, kl_a, kl_d, kl_f, kl_i, kl_l, kl_n, kl_r, xr_1, xr_10, xr_158, xr_159, xr_160, xr_161, xr_162, xr_2, xr_21, xr_22, xr_23, xr_24, xr_25, xr_27, xr_28, xr_3, xr_31, xr_33, xr_4, xr_44, xr_48, xr_5, xr_55, xr_65, af_0, af_1, xt_goto, xt_ib, xt_ic, xt_ic_ne, xt_if_eq, xt_if_ne, xt_ir, xt_nop, mA_63 mh_Mo, mA_64 mh_Mo, mA_65 mh_Mo, mA_66 mh_Mo, mA_67 mh_Mo, mA_68 mh_Mo, mA_69 mh_Mo, mA_70 mh_Mo, mA_71 mh_Mo, xq_187_13_virtualm mh_Mo, xq_190_13_virtualm mh_Mo, xq_267_13_virtualm mh_Mo, xq_268_13_virtualm mh_Mo, pF_0, pF_1, pF_2, pF_5, pF_6, pF_8, pF_12, pF_16, pF_17, pF_18, pF_22, pF_24, pF_19, pF_20, pF_21, pF_23, pN_19, pN_20, pN_21, pN_23, pA_63, pA_64, pA_65, pA_66, pA_67, pA_68, pA_69, pA_70, pA_71, iN_add, iN_mul, iN_sub, iN_and, iN_or, iN_clr, iN_shl, iN_shr, tb_r1, b1_z, b1_or, b1_and, b1_or0, b1_or1, b1_0or, b1_t, b1_f, iN_lt, iN_inj, reduceIte, if_true, if_false, Nat.zero_add, Nat.add_zero, Bool.false_eq_true, Bool.true_eq_false, Nat.lt_irrefl, iN_az, not_true_eq_false, not_false_eq_true, Nat.reduceEqDiff, Nat.reduceLT, Nat.reduceAdd, Nat.reduceMul, Nat.reduceSub]
set_option maxRecDepth 100000 in
theorem m_270 (O : Ok σ) (hl : l < (σ 1 6)) (h : u < 1 <<< (σ 1 6)) (h2 : u.testBit l = true) : ∃ g v, ev xs (d + 10) 270 0 ([.ref 62, .int (nI u), .int (nI l), .retAddr 9, .retAddr 9], [], mh τ M σ μ ν Q) = some (.inl (some (.int (nI (g l)))), mh τ M σ (u1 μ 0 0) ν (Q ++ [oI (ar 6 g)])) ∧ v ≤ 6 ∧ XS σ u g v := by
  obtain ⟨hD1, hD2, hH1, hH2, hS, hC, hT, hR, hL, hQ⟩ := Ok_b O
  have h64 := L64 O h
  have hl2 : l < 4294967296 := by omega
  have hl6 : l < 6 := by omega
  have e := m_268 (xs := xs) (d := d + 9) (τ := τ) (M := M) (μ := u1 μ 0 0) (ν := ν) (Q := Q) O (show u < 4294967296 by omega)
  rw [decide_eq_true h] at e
  obtain ⟨g, v, e2, q1, q2, -⟩ := m_267 (xs := xs) (d := d) (τ := τ) (M := M) (μ := u1 μ 0 0) (ν := ν) (Q := Q) (f := fun _ => 0) O h64 fun _ => (by decide)
  refine ⟨g, v, ?_, q1, q2⟩
  have q3 := gt_last (B := Q) (x := oI (ar 6 g))
  clear q2 h
  simp (disch := first | assumption | omega | exact st8_a (Nat.le_of_ble_eq_true rfl)) only [m_190 O mh_Mo hl2, decide_eq_true hl, e, h2, en1, uu, xr_49, mh_len, mh_app, e2, pQ_l q3, eb_270_0, eb_270_1, eb_270_2, eb_270_3, eb_270_4, eb_270_5, eb_270_6, eb_270_8, eb_270_9, eb_270_11, eb_270_12, kl_a, kl_d, kl_f, kl_i, kl_l, kl_n, kl_r, xr_1, xr_10, xr_158, xr_159, xr_160, xr_161, xr_162, xr_2, xr_21, xr_22, xr_23, xr_24, xr_25, xr_27, xr_28, xr_3, xr_31, xr_33, xr_4, xr_44, xr_48, xr_5, xr_55, xr_65, af_0, af_1, xt_goto, xt_ib, xt_ic, xt_ic_ne, xt_if_eq, xt_if_ne, xt_ir, xt_nop, mA_63 mh_Mo, mA_64 mh_Mo, mA_65 mh_Mo, mA_66 mh_Mo, mA_67 mh_Mo, mA_68 mh_Mo, mA_69 mh_Mo, mA_70 mh_Mo, mA_71 mh_Mo, xq_187_13_virtualm mh_Mo, xq_190_13_virtualm mh_Mo, xq_267_13_virtualm mh_Mo, xq_268_13_virtualm mh_Mo, pF_0, pF_1, pF_2, pF_5, pF_6, pF_8, pF_12, pF_16, pF_17, pF_18, pF_22, pF_24, pF_19, pF_20, pF_21, pF_23, pN_19, pN_20, pN_21, pN_23, pA_63, pA_64, pA_65, pA_66, pA_67, pA_68, pA_69, pA_70, pA_71, iN_add, iN_mul, iN_sub, iN_and, iN_or, iN_clr, iN_shl, iN_shr, tb_r1, b1_z, b1_or, b1_and, b1_or0, b1_or1, b1_0or, b1_t, b1_f, iN_lt, iN_inj, reduceIte, if_true, if_false, Nat.zero_add, Nat.add_zero, Bool.false_eq_true, Bool.true_eq_false, Nat.lt_irrefl, iN_az, not_true_eq_false, not_false_eq_true, Nat.reduceEqDiff, Nat.reduceLT, Nat.reduceAdd, Nat.reduceMul, Nat.reduceSub]
set_option maxRecDepth 100000 in
theorem XS_u {m2 : Nat} (h : XS σ u f n) (h2 : XS σ u g m2) : n = m2 ∧ ∀ l, l < (σ 1 6) → u.testBit l = true → f l = g l := by
  have e : n = m2 := by
    rcases Nat.lt_trichotomy n m2 with z | z | z
    · exact absurd h.1 (h2.2.1 n z f)
    · exact z
    · exact absurd h2.1 (h.2.1 m2 z g)
  subst e
  refine ⟨rfl, ?_⟩
  have key : ∀ k, k ≤ (σ 1 6) → ∀ l, l < k → u.testBit l = true → f l = g l := by
    intro k
    induction k with
    | zero => intro _ l hl; exact absurd hl (Nat.not_lt_zero l)
    | succ k ih =>
      intro hk l hl hb
      by_cases e : l = k
      · subst e
        rcases Nat.lt_trichotomy (f l) (g l) with z | z | z
        · exact absurd ⟨l, Nat.zero_le _, by omega, hb, fun j hj hu => ih (by omega) j hj hu, z⟩ (h2.2.2 f h.1)
        · exact z
        · exact absurd ⟨l, Nat.zero_le _, by omega, hb, fun j hj hu => (ih (by omega) j hj hu).symm, z⟩ (h.2.2 g h2.1)
      · exact ih (by omega) l (by omega) hb
  exact key (σ 1 6) (Nat.le_refl _)
end Mdm
