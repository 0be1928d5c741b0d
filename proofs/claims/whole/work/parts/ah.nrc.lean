/-! THE MODEL: takesBySets, narrowed -/
section Nrc
variable {xs : List Int32} {d n m m2 : Nat} {h0 T : ab_H} {σ W N K : Nat → Nat → Nat} {μ : Nat → Nat} {ν : Nat → Value} {β : Value} {a b u k v w x y q set l i t B nn o s r g : Nat} {X Y Z : Nat → Nat} {c : ab_O}
-- the slots and lengths of a set
set_option maxRecDepth 100000 in
theorem m_222s (O : Ok σ) (H : Mo σ μ ν h0) (hset : set < 64) (hY : ∀ l, l < (σ 1 6) → Y l < 262144) (hb : ∀ l, l < (σ 1 6) → ∀ v, (Y l).testBit v = true → v < (σ 1 2) * (σ 1 5)) {x2 x3 x4 x5 : Int32} {y10 y11 y12 : Value} : ∀ l, l ≤ (σ 1 6) → ∀ z n, z = (orn l fun l => if set.testBit l = true then cl σ (Cv σ Y) l else 0) → n = (sm l fun l => if set.testBit l = true then σ 7 l else 0) → ev xs (d + 4) 222 14 ([.ref 62, .ref (h0.length + 18), .int x2, .int x3, .int x4, .int x5, .int (nI set), .int (nI z), .int (nI n), .int (nI l), y10, y11, y12], [], hw h0 (σ 1 6) W β [oI (ar 6 Y)]) = ev xs (d + 4) 222 20 ([.ref 62, .ref (h0.length + 18), .int x2, .int x3, .int x4, .int x5, .int (nI set), .int (nI (cst σ (cl σ (Cv σ Y)) set)), .int (nI (lns σ set)), .int (nI (σ 1 6)), y10, y11, y12], [], hw h0 (σ 1 6) W β [oI (ar 6 Y)]) := by
  obtain ⟨hD1, hD2, hH1, hH2, hS, hC, hT, hR, hL, hQ⟩ := Ok_b O
  refine lp (σ 1 6) ?_ ?_
  · intro z n hz hn
    rw [eb_222_14]
    clear hb hY
    simp (disch := first | assumption | omega | exact st8_a (Nat.le_of_ble_eq_true rfl)) only [kl_a, kl_d, kl_f, kl_i, kl_l, kl_n, kl_r, xr_1, xr_10, xr_11, xr_12, xr_13, xr_14, xr_15, xr_151, xr_152, xr_153, xr_154, xr_155, xr_156, xr_2, xr_27, xr_3, xr_31, xr_33, xr_34, xr_35, xr_36, xr_37, xr_38, xr_39, xr_4, xr_41, xr_44, xr_45, xr_5, xr_55, xr_56, xr_57, xr_58, xr_61, xr_62, xr_63, xr_64, xr_74, xr_75, xr_91, xr_92, xr_93, xr_94, xr_95, xr_96, xr_97, af_0, af_1, xt_goto, xt_ib, xt_ic, xt_ic_eq, xt_ic_ge, xt_ic_gt, xt_ic_lt, xt_ic_ne, xt_if_eq, xt_if_ne, xt_ir, xt_nop, wF_0, wF_1, wF_2, wF_3, wF_4, wF_5, wF_6, wF_7, wF_8, wF_9, wF_10, wF_11, wF_12, wF_13, wP_9, wP_10, wL_5, wC_5, wC_17, wD, hw_app, hw_len, wA_1, wA_2, wA_3, wA_4, wA_5, wA_6, wA_7, wA_8, wA_17, wW_1, wW_2, wW_3, wW_4, wW_5, wW_6, wW_7, wW_8, wW_17, mF_10 (Mo_hw H), mF_11 (Mo_hw H), mF_6 (Mo_hw H), mF_8 (Mo_hw H), mF_9 (Mo_hw H), mA_63 (Mo_hw H), mA_64 (Mo_hw H), mA_65 (Mo_hw H), mA_66 (Mo_hw H), mA_67 (Mo_hw H), mA_68 (Mo_hw H), mA_69 (Mo_hw H), mA_70 (Mo_hw H), mA_71 (Mo_hw H), xq_189_13_virtualm (Mo_hw H), xq_196_13_virtualm (Mo_hw H), xq_221_13_virtualm (Mo_hw H), xq_277_200_static, iN_add, iN_mul, iN_sub, iN_and, iN_or, iN_clr, iN_shl, iN_shr, tb_r1, b1_z, b1_or, b1_and, b1_or0, b1_or1, b1_0or, b1_t, b1_f, iN_lt, iN_inj, reduceIte, if_true, if_false, Nat.zero_add, Nat.add_zero, Bool.false_eq_true, Bool.true_eq_false, Nat.lt_irrefl, iN_az, not_true_eq_false, not_false_eq_true, Nat.reduceEqDiff, Nat.reduceLT, Nat.reduceAdd, Nat.reduceMul, Nat.reduceSub]
    rw [hz, hn]
    rfl
  · intro l hl ih z n hz hn
    have hl6 : l < 6 := by omega
    have e1 := m_221 (xs := xs) (d := d) O (Mo_hw (nn := (σ 1 6)) (W := W) (β := β) (T := [oI (ar 6 Y)]) H) hl (hY l hl)
    rw [clm_cl O (hb l hl)] at e1
    have ih := ih (z ||| if set.testBit l = true then cl σ (Cv σ Y) l else 0) (n + if set.testBit l = true then σ 7 l else 0) (by rw [hz]; rfl) (by rw [hn]; rfl)
    rw [eb_222_14]
    clear hb hY hz hn
    cases hs : set.testBit l
    · rw [hs, if_neg (by decide), if_neg (by decide)] at ih
      simp (disch := first | assumption | omega | exact st8_a (Nat.le_of_ble_eq_true rfl)) only [hl, hs, hT_ld, Nat.zero_mul, eb_222_15, eb_222_18, eb_222_19, kl_a, kl_d, kl_f, kl_i, kl_l, kl_n, kl_r, xr_1, xr_10, xr_11, xr_12, xr_13, xr_14, xr_15, xr_151, xr_152, xr_153, xr_154, xr_155, xr_156, xr_2, xr_27, xr_3, xr_31, xr_33, xr_34, xr_35, xr_36, xr_37, xr_38, xr_39, xr_4, xr_41, xr_44, xr_45, xr_5, xr_55, xr_56, xr_57, xr_58, xr_61, xr_62, xr_63, xr_64, xr_74, xr_75, xr_91, xr_92, xr_93, xr_94, xr_95, xr_96, xr_97, af_0, af_1, xt_goto, xt_ib, xt_ic, xt_ic_eq, xt_ic_ge, xt_ic_gt, xt_ic_lt, xt_ic_ne, xt_if_eq, xt_if_ne, xt_ir, xt_nop, wF_0, wF_1, wF_2, wF_3, wF_4, wF_5, wF_6, wF_7, wF_8, wF_9, wF_10, wF_11, wF_12, wF_13, wP_9, wP_10, wL_5, wC_5, wC_17, wD, hw_app, hw_len, wA_1, wA_2, wA_3, wA_4, wA_5, wA_6, wA_7, wA_8, wA_17, wW_1, wW_2, wW_3, wW_4, wW_5, wW_6, wW_7, wW_8, wW_17, mF_10 (Mo_hw H), mF_11 (Mo_hw H), mF_6 (Mo_hw H), mF_8 (Mo_hw H), mF_9 (Mo_hw H), mA_63 (Mo_hw H), mA_64 (Mo_hw H), mA_65 (Mo_hw H), mA_66 (Mo_hw H), mA_67 (Mo_hw H), mA_68 (Mo_hw H), mA_69 (Mo_hw H), mA_70 (Mo_hw H), mA_71 (Mo_hw H), xq_189_13_virtualm (Mo_hw H), xq_196_13_virtualm (Mo_hw H), xq_221_13_virtualm (Mo_hw H), xq_277_200_static, iN_add, iN_mul, iN_sub, iN_and, iN_or, iN_clr, iN_shl, iN_shr, tb_r1, b1_z, b1_or, b1_and, b1_or0, b1_or1, b1_0or, b1_t, b1_f, iN_lt, iN_inj, reduceIte, if_true, if_false, Nat.zero_add, Nat.add_zero, Bool.false_eq_true, Bool.true_eq_false, Nat.lt_irrefl, iN_az, not_true_eq_false, not_false_eq_true, Nat.reduceEqDiff, Nat.reduceLT, Nat.reduceAdd, Nat.reduceMul, Nat.reduceSub]
      exact ih
    · rw [hs, if_pos rfl, if_pos rfl] at ih
      simp (disch := first | assumption | omega | exact st8_a (Nat.le_of_ble_eq_true rfl)) only [hl, hs, e1, hT_ld, Nat.one_mul, eb_222_15, eb_222_16, eb_222_17, eb_222_19, kl_a, kl_d, kl_f, kl_i, kl_l, kl_n, kl_r, xr_1, xr_10, xr_11, xr_12, xr_13, xr_14, xr_15, xr_151, xr_152, xr_153, xr_154, xr_155, xr_156, xr_2, xr_27, xr_3, xr_31, xr_33, xr_34, xr_35, xr_36, xr_37, xr_38, xr_39, xr_4, xr_41, xr_44, xr_45, xr_5, xr_55, xr_56, xr_57, xr_58, xr_61, xr_62, xr_63, xr_64, xr_74, xr_75, xr_91, xr_92, xr_93, xr_94, xr_95, xr_96, xr_97, af_0, af_1, xt_goto, xt_ib, xt_ic, xt_ic_eq, xt_ic_ge, xt_ic_gt, xt_ic_lt, xt_ic_ne, xt_if_eq, xt_if_ne, xt_ir, xt_nop, wF_0, wF_1, wF_2, wF_3, wF_4, wF_5, wF_6, wF_7, wF_8, wF_9, wF_10, wF_11, wF_12, wF_13, wP_9, wP_10, wL_5, wC_5, wC_17, wD, hw_app, hw_len, wA_1, wA_2, wA_3, wA_4, wA_5, wA_6, wA_7, wA_8, wA_17, wW_1, wW_2, wW_3, wW_4, wW_5, wW_6, wW_7, wW_8, wW_17, mF_10 (Mo_hw H), mF_11 (Mo_hw H), mF_6 (Mo_hw H), mF_8 (Mo_hw H), mF_9 (Mo_hw H), mA_63 (Mo_hw H), mA_64 (Mo_hw H), mA_65 (Mo_hw H), mA_66 (Mo_hw H), mA_67 (Mo_hw H), mA_68 (Mo_hw H), mA_69 (Mo_hw H), mA_70 (Mo_hw H), mA_71 (Mo_hw H), xq_189_13_virtualm (Mo_hw H), xq_196_13_virtualm (Mo_hw H), xq_221_13_virtualm (Mo_hw H), xq_277_200_static, iN_add, iN_mul, iN_sub, iN_and, iN_or, iN_clr, iN_shl, iN_shr, tb_r1, b1_z, b1_or, b1_and, b1_or0, b1_or1, b1_0or, b1_t, b1_f, iN_lt, iN_inj, reduceIte, if_true, if_false, Nat.zero_add, Nat.add_zero, Bool.false_eq_true, Bool.true_eq_false, Nat.lt_irrefl, iN_az, not_true_eq_false, not_false_eq_true, Nat.reduceEqDiff, Nat.reduceLT, Nat.reduceAdd, Nat.reduceMul, Nat.reduceSub]
      exact ih
-- all sets from one on
set_option maxRecDepth 100000 in
theorem m_222o (O : Ok σ) (H : Mo σ μ ν h0) (hg : g < 64) (hTT : ∀ X, TS σ X → CG σ (Cv σ X) g) (hB : B = 1 <<< (σ 1 6)) {x2 x3 : Int32} : ∀ k, k ≤ B → ∀ (Y : Nat → Nat), (∀ l, l < (σ 1 6) → Y l < 262144) → (∀ l, l < (σ 1 6) → ∀ v, (Y l).testBit v = true → v < (σ 1 2) * (σ 1 5)) → ∀ (a : Bool) y7 y8 y9 y10 y11 y12, ∃ Z b, ev xs (d + 4) 222 10 ([.ref 62, .ref (h0.length + 18), .int x2, .int x3, .int (nI g), .int (nI (b1 a)), .int (nI k), y7, y8, y9, y10, y11, y12], [], hw h0 (σ 1 6) W β [oI (ar 6 Y)]) = some (.inl (some (.int (nI (b1 (a || b))))), hw h0 (σ 1 6) W β [oI (ar 6 Z)]) ∧ DR σ (TS σ) Y Z b ∧ (b = false → ∀ set, k ≤ set → set < B → clr set g = 0 → CI σ (Cv σ Y) g set) := by
  obtain ⟨hD1, hD2, hH1, hH2, hS, hC, hT, hR, hL, hQ⟩ := Ok_b O
  have hB64 : B ≤ 64 := by
    rw [hB, Nat.one_shiftLeft]
    exact Nat.pow_le_pow_right (n := 2) (j := 6) (by decide) hL
  refine lp B ?_ ?_
  · intro Y hY hb a y7 y8 y9 y10 y11 y12
    refine ⟨Y, false, ?_, DR_r, fun _ set h1 h2 => by omega⟩
    rw [eb_222_10, Bool.or_false]
    clear hY hb hTT
    simp (disch := first | assumption | omega | exact st8_a (Nat.le_of_ble_eq_true rfl)) only [← hB, eb_222_42, kl_a, kl_d, kl_f, kl_i, kl_l, kl_n, kl_r, xr_1, xr_10, xr_11, xr_12, xr_13, xr_14, xr_15, xr_151, xr_152, xr_153, xr_154, xr_155, xr_156, xr_2, xr_27, xr_3, xr_31, xr_33, xr_34, xr_35, xr_36, xr_37, xr_38, xr_39, xr_4, xr_41, xr_44, xr_45, xr_5, xr_55, xr_56, xr_57, xr_58, xr_61, xr_62, xr_63, xr_64, xr_74, xr_75, xr_91, xr_92, xr_93, xr_94, xr_95, xr_96, xr_97, af_0, af_1, xt_goto, xt_ib, xt_ic, xt_ic_eq, xt_ic_ge, xt_ic_gt, xt_ic_lt, xt_ic_ne, xt_if_eq, xt_if_ne, xt_ir, xt_nop, wF_0, wF_1, wF_2, wF_3, wF_4, wF_5, wF_6, wF_7, wF_8, wF_9, wF_10, wF_11, wF_12, wF_13, wP_9, wP_10, wL_5, wC_5, wC_17, wD, hw_app, hw_len, wA_1, wA_2, wA_3, wA_4, wA_5, wA_6, wA_7, wA_8, wA_17, wW_1, wW_2, wW_3, wW_4, wW_5, wW_6, wW_7, wW_8, wW_17, mF_10 (Mo_hw H), mF_11 (Mo_hw H), mF_6 (Mo_hw H), mF_8 (Mo_hw H), mF_9 (Mo_hw H), mA_63 (Mo_hw H), mA_64 (Mo_hw H), mA_65 (Mo_hw H), mA_66 (Mo_hw H), mA_67 (Mo_hw H), mA_68 (Mo_hw H), mA_69 (Mo_hw H), mA_70 (Mo_hw H), mA_71 (Mo_hw H), xq_189_13_virtualm (Mo_hw H), xq_196_13_virtualm (Mo_hw H), xq_221_13_virtualm (Mo_hw H), xq_277_200_static, iN_add, iN_mul, iN_sub, iN_and, iN_or, iN_clr, iN_shl, iN_shr, tb_r1, b1_z, b1_or, b1_and, b1_or0, b1_or1, b1_0or, iN_lt, iN_inj, reduceIte, if_true, if_false, Nat.zero_add, Nat.add_zero, Bool.false_eq_true, Bool.true_eq_false, Nat.lt_irrefl, iN_az, not_true_eq_false, not_false_eq_true, Nat.reduceEqDiff, Nat.reduceLT, Nat.reduceAdd, Nat.reduceMul, Nat.reduceSub]
  · intro k hk ih Y hY hb a y7 y8 y9 y10 y11 y12
    have hk64 : k < 64 := by omega
    have hcl : clr k g < 64 := clr_lt (n := 6) hk64
    by_cases h1 : clr k g = 0
    · have hmm := pc_le 10 (cst σ (cl σ (Cv σ Y)) k)
      have hnn := lns_le O (u := k)
      have h64 := cst_lt O (Y := Cv σ Y) (u := k)
      have e1 := m_222s (xs := xs) (d := d) (W := W) (β := β) (x2 := x2) (x3 := x3) (x4 := nI g) (x5 := nI (b1 a)) (y10 := y10) (y11 := y11) (y12 := y12) O H hk64 hY hb 0 (Nat.zero_le _) 0 0 rfl rfl
      have e2 := s_277 (xs := xs) (d := d + 3) (a := cst σ (cl σ (Cv σ Y)) k) (h := hw h0 (σ 1 6) W β [oI (ar 6 Y)]) (by omega)
      have st : ev xs (d + 4) 222 10 ([.ref 62, .ref (h0.length + 18), .int x2, .int x3, .int (nI g), .int (nI (b1 a)), .int (nI k), y7, y8, y9, y10, y11, y12], [], hw h0 (σ 1 6) W β [oI (ar 6 Y)]) = ev xs (d + 4) 222 22 ([.ref 62, .ref (h0.length + 18), .int x2, .int x3, .int (nI g), .int (nI (b1 a)), .int (nI k), .int (nI (cst σ (cl σ (Cv σ Y)) k)), .int (nI (lns σ k)), .int (nI (pc 10 (cst σ (cl σ (Cv σ Y)) k))), .int (nI 0), y11, y12], [], hw h0 (σ 1 6) W β [oI (ar 6 Y)]) := by
        rw [eb_222_10]
        clear hY hb hTT ih
        simp (disch := first | assumption | omega | exact st8_a (Nat.le_of_ble_eq_true rfl)) only [← hB, hk, h1, eb_222_11, eb_222_13, kl_a, kl_d, kl_f, kl_i, kl_l, kl_n, kl_r, xr_1, xr_10, xr_11, xr_12, xr_13, xr_14, xr_15, xr_151, xr_152, xr_153, xr_154, xr_155, xr_156, xr_2, xr_27, xr_3, xr_31, xr_33, xr_34, xr_35, xr_36, xr_37, xr_38, xr_39, xr_4, xr_41, xr_44, xr_45, xr_5, xr_55, xr_56, xr_57, xr_58, xr_61, xr_62, xr_63, xr_64, xr_74, xr_75, xr_91, xr_92, xr_93, xr_94, xr_95, xr_96, xr_97, af_0, af_1, xt_goto, xt_ib, xt_ic, xt_ic_eq, xt_ic_ge, xt_ic_gt, xt_ic_lt, xt_ic_ne, xt_if_eq, xt_if_ne, xt_ir, xt_nop, wF_0, wF_1, wF_2, wF_3, wF_4, wF_5, wF_6, wF_7, wF_8, wF_9, wF_10, wF_11, wF_12, wF_13, wP_9, wP_10, wL_5, wC_5, wC_17, wD, hw_app, hw_len, wA_1, wA_2, wA_3, wA_4, wA_5, wA_6, wA_7, wA_8, wA_17, wW_1, wW_2, wW_3, wW_4, wW_5, wW_6, wW_7, wW_8, wW_17, mF_10 (Mo_hw H), mF_11 (Mo_hw H), mF_6 (Mo_hw H), mF_8 (Mo_hw H), mF_9 (Mo_hw H), mA_63 (Mo_hw H), mA_64 (Mo_hw H), mA_65 (Mo_hw H), mA_66 (Mo_hw H), mA_67 (Mo_hw H), mA_68 (Mo_hw H), mA_69 (Mo_hw H), mA_70 (Mo_hw H), mA_71 (Mo_hw H), xq_189_13_virtualm (Mo_hw H), xq_196_13_virtualm (Mo_hw H), xq_221_13_virtualm (Mo_hw H), xq_277_200_static, iN_add, iN_mul, iN_sub, iN_and, iN_or, iN_clr, iN_shl, iN_shr, tb_r1, b1_z, b1_or, b1_and, b1_or0, b1_or1, b1_0or, iN_lt, iN_inj, reduceIte, if_true, if_false, Nat.zero_add, Nat.add_zero, Bool.false_eq_true, Bool.true_eq_false, Nat.lt_irrefl, iN_az, not_true_eq_false, not_false_eq_true, Nat.reduceEqDiff, Nat.reduceLT, Nat.reduceAdd, Nat.reduceMul, Nat.reduceSub]
        rw [e1, eb_222_20]
        clear e1
        simp (disch := first | assumption | omega | exact st8_a (Nat.le_of_ble_eq_true rfl)) only [e2, eb_222_21, kl_a, kl_d, kl_f, kl_i, kl_l, kl_n, kl_r, xr_1, xr_10, xr_11, xr_12, xr_13, xr_14, xr_15, xr_151, xr_152, xr_153, xr_154, xr_155, xr_156, xr_2, xr_27, xr_3, xr_31, xr_33, xr_34, xr_35, xr_36, xr_37, xr_38, xr_39, xr_4, xr_41, xr_44, xr_45, xr_5, xr_55, xr_56, xr_57, xr_58, xr_61, xr_62, xr_63, xr_64, xr_74, xr_75, xr_91, xr_92, xr_93, xr_94, xr_95, xr_96, xr_97, af_0, af_1, xt_goto, xt_ib, xt_ic, xt_ic_eq, xt_ic_ge, xt_ic_gt, xt_ic_lt, xt_ic_ne, xt_if_eq, xt_if_ne, xt_ir, xt_nop, wF_0, wF_1, wF_2, wF_3, wF_4, wF_5, wF_6, wF_7, wF_8, wF_9, wF_10, wF_11, wF_12, wF_13, wP_9, wP_10, wL_5, wC_5, wC_17, wD, hw_app, hw_len, wA_1, wA_2, wA_3, wA_4, wA_5, wA_6, wA_7, wA_8, wA_17, wW_1, wW_2, wW_3, wW_4, wW_5, wW_6, wW_7, wW_8, wW_17, mF_10 (Mo_hw H), mF_11 (Mo_hw H), mF_6 (Mo_hw H), mF_8 (Mo_hw H), mF_9 (Mo_hw H), mA_63 (Mo_hw H), mA_64 (Mo_hw H), mA_65 (Mo_hw H), mA_66 (Mo_hw H), mA_67 (Mo_hw H), mA_68 (Mo_hw H), mA_69 (Mo_hw H), mA_70 (Mo_hw H), mA_71 (Mo_hw H), xq_189_13_virtualm (Mo_hw H), xq_196_13_virtualm (Mo_hw H), xq_221_13_virtualm (Mo_hw H), xq_277_200_static, iN_add, iN_mul, iN_sub, iN_and, iN_or, iN_clr, iN_shl, iN_shr, tb_r1, b1_z, b1_or, b1_and, b1_or0, b1_or1, b1_0or, iN_lt, iN_inj, reduceIte, if_true, if_false, Nat.zero_add, Nat.add_zero, Bool.false_eq_true, Bool.true_eq_false, Nat.lt_irrefl, iN_az, not_true_eq_false, not_false_eq_true, Nat.reduceEqDiff, Nat.reduceLT, Nat.reduceAdd, Nat.reduceMul, Nat.reduceSub]
      by_cases h2 : lns σ k < pc 10 (cst σ (cl σ (Cv σ Y)) k)
      · obtain ⟨Z, b, e3, p1, p2⟩ := ih Y hY hb a (.int (nI (cst σ (cl σ (Cv σ Y)) k))) (.int (nI (lns σ k))) (.int (nI (pc 10 (cst σ (cl σ (Cv σ Y)) k)))) (.int (nI 0)) y11 y12
        refine ⟨Z, b, ?_, p1, fun hbf set q1 q2 q3 => ?_⟩
        · rw [st, ← e3, eb_222_22]
          clear hY hb hTT ih e1 e2 e3 st p1 p2
          by_cases hL0 : 0 < (σ 1 6)
          · simp (disch := first | assumption | omega | exact st8_a (Nat.le_of_ble_eq_true rfl)) only [hL0, h2, eb_222_23, eb_222_41, kl_a, kl_d, kl_f, kl_i, kl_l, kl_n, kl_r, xr_1, xr_10, xr_11, xr_12, xr_13, xr_14, xr_15, xr_151, xr_152, xr_153, xr_154, xr_155, xr_156, xr_2, xr_27, xr_3, xr_31, xr_33, xr_34, xr_35, xr_36, xr_37, xr_38, xr_39, xr_4, xr_41, xr_44, xr_45, xr_5, xr_55, xr_56, xr_57, xr_58, xr_61, xr_62, xr_63, xr_64, xr_74, xr_75, xr_91, xr_92, xr_93, xr_94, xr_95, xr_96, xr_97, af_0, af_1, xt_goto, xt_ib, xt_ic, xt_ic_eq, xt_ic_ge, xt_ic_gt, xt_ic_lt, xt_ic_ne, xt_if_eq, xt_if_ne, xt_ir, xt_nop, wF_0, wF_1, wF_2, wF_3, wF_4, wF_5, wF_6, wF_7, wF_8, wF_9, wF_10, wF_11, wF_12, wF_13, wP_9, wP_10, wL_5, wC_5, wC_17, wD, hw_app, hw_len, wA_1, wA_2, wA_3, wA_4, wA_5, wA_6, wA_7, wA_8, wA_17, wW_1, wW_2, wW_3, wW_4, wW_5, wW_6, wW_7, wW_8, wW_17, mF_10 (Mo_hw H), mF_11 (Mo_hw H), mF_6 (Mo_hw H), mF_8 (Mo_hw H), mF_9 (Mo_hw H), mA_63 (Mo_hw H), mA_64 (Mo_hw H), mA_65 (Mo_hw H), mA_66 (Mo_hw H), mA_67 (Mo_hw H), mA_68 (Mo_hw H), mA_69 (Mo_hw H), mA_70 (Mo_hw H), mA_71 (Mo_hw H), xq_189_13_virtualm (Mo_hw H), xq_196_13_virtualm (Mo_hw H), xq_221_13_virtualm (Mo_hw H), xq_277_200_static, iN_add, iN_mul, iN_sub, iN_and, iN_or, iN_clr, iN_shl, iN_shr, tb_r1, b1_z, b1_or, b1_and, b1_or0, b1_or1, b1_0or, iN_lt, iN_inj, reduceIte, if_true, if_false, Nat.zero_add, Nat.add_zero, Bool.false_eq_true, Bool.true_eq_false, Nat.lt_irrefl, iN_az, not_true_eq_false, not_false_eq_true, Nat.reduceEqDiff, Nat.reduceLT, Nat.reduceAdd, Nat.reduceMul, Nat.reduceSub]
          · simp (disch := first | assumption | omega | exact st8_a (Nat.le_of_ble_eq_true rfl)) only [hL0, h2, eb_222_23, eb_222_41, kl_a, kl_d, kl_f, kl_i, kl_l, kl_n, kl_r, xr_1, xr_10, xr_11, xr_12, xr_13, xr_14, xr_15, xr_151, xr_152, xr_153, xr_154, xr_155, xr_156, xr_2, xr_27, xr_3, xr_31, xr_33, xr_34, xr_35, xr_36, xr_37, xr_38, xr_39, xr_4, xr_41, xr_44, xr_45, xr_5, xr_55, xr_56, xr_57, xr_58, xr_61, xr_62, xr_63, xr_64, xr_74, xr_75, xr_91, xr_92, xr_93, xr_94, xr_95, xr_96, xr_97, af_0, af_1, xt_goto, xt_ib, xt_ic, xt_ic_eq, xt_ic_ge, xt_ic_gt, xt_ic_lt, xt_ic_ne, xt_if_eq, xt_if_ne, xt_ir, xt_nop, wF_0, wF_1, wF_2, wF_3, wF_4, wF_5, wF_6, wF_7, wF_8, wF_9, wF_10, wF_11, wF_12, wF_13, wP_9, wP_10, wL_5, wC_5, wC_17, wD, hw_app, hw_len, wA_1, wA_2, wA_3, wA_4, wA_5, wA_6, wA_7, wA_8, wA_17, wW_1, wW_2, wW_3, wW_4, wW_5, wW_6, wW_7, wW_8, wW_17, mF_10 (Mo_hw H), mF_11 (Mo_hw H), mF_6 (Mo_hw H), mF_8 (Mo_hw H), mF_9 (Mo_hw H), mA_63 (Mo_hw H), mA_64 (Mo_hw H), mA_65 (Mo_hw H), mA_66 (Mo_hw H), mA_67 (Mo_hw H), mA_68 (Mo_hw H), mA_69 (Mo_hw H), mA_70 (Mo_hw H), mA_71 (Mo_hw H), xq_189_13_virtualm (Mo_hw H), xq_196_13_virtualm (Mo_hw H), xq_221_13_virtualm (Mo_hw H), xq_277_200_static, iN_add, iN_mul, iN_sub, iN_and, iN_or, iN_clr, iN_shl, iN_shr, tb_r1, b1_z, b1_or, b1_and, b1_or0, b1_or1, b1_0or, iN_lt, iN_inj, reduceIte, if_true, if_false, Nat.zero_add, Nat.add_zero, Bool.false_eq_true, Bool.true_eq_false, Nat.lt_irrefl, iN_az, not_true_eq_false, not_false_eq_true, Nat.reduceEqDiff, Nat.reduceLT, Nat.reduceAdd, Nat.reduceMul, Nat.reduceSub]
        · by_cases e : set = k
          · rw [e]
            exact .inr ⟨by omega, fun z => by omega⟩
          · exact p2 hbf set (by omega) q2 q3
      · obtain ⟨Z1, c1, z10, z11, z12, e3, p1, p2⟩ := m_222l (xs := xs) (d := d) (W := W) (β := β) (set := k) (x2 := x2) (x3 := x3) (m := pc 10 (cst σ (cl σ (Cv σ Y)) k)) (n := lns σ k) (sl := cst σ (cl σ (Cv σ Y)) k) O H (by omega) hnn hmm hg (fun X hX hSX l hl hc v hv => by
          have hvb := hX.2 l hl v hv
          have hvc := (Cv_v O hvb).mpr hv
          have hci := hTT X hX k h1
          have hsu := Cv_sub O hSX
          unfold tkb
          rw [Bool.or_eq_false_iff, decide_eq_false_iff_not, decide_eq_false_iff_not]
          by_cases h3 : pc 10 (cst σ (cl σ (Cv σ Y)) k) < lns σ k
          · have := CI_neg hci hsu h3 l hl
            rw [this, Nat.zero_testBit] at hvc
            cases hvc
          · refine ⟨h3, fun hcov => ?_⟩
            have heq : pc 10 (cst σ (cl σ (Cv σ Y)) k) = lns σ k := by omega
            have h4 := CI_eq O hci hsu heq l hl (hc heq) (v / (σ 1 5)) (vb O hvb).2.1 hcov
            have h5 := z_tb.mp h4 (v / (σ 1 5) * 3 + v % (σ 1 5))
            have h6 := vb O hvb
            rw [Nat.testBit_and, hvc, sl7_tb, decide_eq_true (by omega), decide_eq_true (by omega)] at h5
            cases h5) hb 0 (Nat.zero_le _) Y Su_r hY a y11 y12
        obtain ⟨Z, b, e4, r1, r2⟩ := ih Z1 (Su_lt p1.1 hY) (fun l hl v hv => hb l hl v (p1.1 l hl v hv)) (a || c1) (.int (nI (cst σ (cl σ (Cv σ Y)) k))) (.int (nI (lns σ k))) (.int (nI (pc 10 (cst σ (cl σ (Cv σ Y)) k)))) z10 z11 z12
        refine ⟨Z, c1 || b, ?_, DR_t p1 r1, fun hbf set q1 q2 q3 => ?_⟩
        · rw [← Bool.or_assoc, st, e3, ← e4, eb_222_41]
          clear hY hb hTT ih e1 e2 e3 e4 st p1 p2 r1 r2
          simp (disch := first | assumption | omega | exact st8_a (Nat.le_of_ble_eq_true rfl)) only [kl_a, kl_d, kl_f, kl_i, kl_l, kl_n, kl_r, xr_1, xr_10, xr_11, xr_12, xr_13, xr_14, xr_15, xr_151, xr_152, xr_153, xr_154, xr_155, xr_156, xr_2, xr_27, xr_3, xr_31, xr_33, xr_34, xr_35, xr_36, xr_37, xr_38, xr_39, xr_4, xr_41, xr_44, xr_45, xr_5, xr_55, xr_56, xr_57, xr_58, xr_61, xr_62, xr_63, xr_64, xr_74, xr_75, xr_91, xr_92, xr_93, xr_94, xr_95, xr_96, xr_97, af_0, af_1, xt_goto, xt_ib, xt_ic, xt_ic_eq, xt_ic_ge, xt_ic_gt, xt_ic_lt, xt_ic_ne, xt_if_eq, xt_if_ne, xt_ir, xt_nop, wF_0, wF_1, wF_2, wF_3, wF_4, wF_5, wF_6, wF_7, wF_8, wF_9, wF_10, wF_11, wF_12, wF_13, wP_9, wP_10, wL_5, wC_5, wC_17, wD, hw_app, hw_len, wA_1, wA_2, wA_3, wA_4, wA_5, wA_6, wA_7, wA_8, wA_17, wW_1, wW_2, wW_3, wW_4, wW_5, wW_6, wW_7, wW_8, wW_17, mF_10 (Mo_hw H), mF_11 (Mo_hw H), mF_6 (Mo_hw H), mF_8 (Mo_hw H), mF_9 (Mo_hw H), mA_63 (Mo_hw H), mA_64 (Mo_hw H), mA_65 (Mo_hw H), mA_66 (Mo_hw H), mA_67 (Mo_hw H), mA_68 (Mo_hw H), mA_69 (Mo_hw H), mA_70 (Mo_hw H), mA_71 (Mo_hw H), xq_189_13_virtualm (Mo_hw H), xq_196_13_virtualm (Mo_hw H), xq_221_13_virtualm (Mo_hw H), xq_277_200_static, iN_add, iN_mul, iN_sub, iN_and, iN_or, iN_clr, iN_shl, iN_shr, tb_r1, b1_z, b1_or, b1_and, b1_or0, b1_or1, b1_0or, iN_lt, iN_inj, reduceIte, if_true, if_false, Nat.zero_add, Nat.add_zero, Bool.false_eq_true, Bool.true_eq_false, Nat.lt_irrefl, iN_az, not_true_eq_false, not_false_eq_true, Nat.reduceEqDiff, Nat.reduceLT, Nat.reduceAdd, Nat.reduceMul, Nat.reduceSub]
        · rw [Bool.or_eq_false_iff] at hbf
          have hz := p1.2.1 hbf.1
          by_cases e : set = k
          · rw [e]
            have h5 := p2 hbf.1
            by_cases h3 : pc 10 (cst σ (cl σ (Cv σ Y)) k) < lns σ k
            · refine .inl fun l hl => z_tb.mpr fun i => ?_
              cases hi : (Cv σ Y l).testBit i
              · rfl
              · obtain ⟨-, -, h6⟩ := Cv_tb.mp hi
                have := h5 l (Nat.zero_le _) hl (fun z => by omega) _ h6
                unfold tkb at this
                rw [decide_eq_true h3, Bool.true_or] at this
                cases this
            · refine .inr ⟨by omega, fun heq l hl hlg s hs hne => ?_⟩
              obtain ⟨j, hj⟩ := nz_tb.mp hne
              rw [Nat.testBit_and, Bool.and_eq_true, sl7_tb, Bool.and_eq_true, decide_eq_true_eq, decide_eq_true_eq] at hj
              obtain ⟨-, h6, h7⟩ := Cv_tb.mp hj.1
              have := h5 l (Nat.zero_le _) hl (fun _ => hlg) _ h7
              unfold tkb at this
              rw [Bool.or_eq_false_iff, decide_eq_false_iff_not (p := cov σ l _ &&& _ ≠ 0)] at this
              have h8 := this.2
              have hd : (j / 3 * (σ 1 5) + j % 3) / (σ 1 5) = s := by
                rw [Nat.mul_comm, Nat.mul_add_div (by omega), Nat.div_eq_of_lt h6, Nat.add_zero]
                omega
              rw [hd] at h8
              exact Classical.byContradiction fun z => h8 z
          · have := r2 hbf.2 set (by omega) q2 q3
            exact CI_cg (Z := Cv σ Z1) (fun l hl => by unfold Cv; rw [hz l hl]) this
    · obtain ⟨Z, b, e3, p1, p2⟩ := ih Y hY hb a y7 y8 y9 y10 y11 y12
      refine ⟨Z, b, ?_, p1, fun hbf set q1 q2 q3 => ?_⟩
      · rw [← e3, eb_222_10]
        clear hY hb hTT ih e3 p1 p2
        simp (disch := first | assumption | omega | exact st8_a (Nat.le_of_ble_eq_true rfl)) only [← hB, hk, h1, eb_222_11, eb_222_12, eb_222_41, kl_a, kl_d, kl_f, kl_i, kl_l, kl_n, kl_r, xr_1, xr_10, xr_11, xr_12, xr_13, xr_14, xr_15, xr_151, xr_152, xr_153, xr_154, xr_155, xr_156, xr_2, xr_27, xr_3, xr_31, xr_33, xr_34, xr_35, xr_36, xr_37, xr_38, xr_39, xr_4, xr_41, xr_44, xr_45, xr_5, xr_55, xr_56, xr_57, xr_58, xr_61, xr_62, xr_63, xr_64, xr_74, xr_75, xr_91, xr_92, xr_93, xr_94, xr_95, xr_96, xr_97, af_0, af_1, xt_goto, xt_ib, xt_ic, xt_ic_eq, xt_ic_ge, xt_ic_gt, xt_ic_lt, xt_ic_ne, xt_if_eq, xt_if_ne, xt_ir, xt_nop, wF_0, wF_1, wF_2, wF_3, wF_4, wF_5, wF_6, wF_7, wF_8, wF_9, wF_10, wF_11, wF_12, wF_13, wP_9, wP_10, wL_5, wC_5, wC_17, wD, hw_app, hw_len, wA_1, wA_2, wA_3, wA_4, wA_5, wA_6, wA_7, wA_8, wA_17, wW_1, wW_2, wW_3, wW_4, wW_5, wW_6, wW_7, wW_8, wW_17, mF_10 (Mo_hw H), mF_11 (Mo_hw H), mF_6 (Mo_hw H), mF_8 (Mo_hw H), mF_9 (Mo_hw H), mA_63 (Mo_hw H), mA_64 (Mo_hw H), mA_65 (Mo_hw H), mA_66 (Mo_hw H), mA_67 (Mo_hw H), mA_68 (Mo_hw H), mA_69 (Mo_hw H), mA_70 (Mo_hw H), mA_71 (Mo_hw H), xq_189_13_virtualm (Mo_hw H), xq_196_13_virtualm (Mo_hw H), xq_221_13_virtualm (Mo_hw H), xq_277_200_static, iN_add, iN_mul, iN_sub, iN_and, iN_or, iN_clr, iN_shl, iN_shr, tb_r1, b1_z, b1_or, b1_and, b1_or0, b1_or1, b1_0or, iN_lt, iN_inj, reduceIte, if_true, if_false, Nat.zero_add, Nat.add_zero, Bool.false_eq_true, Bool.true_eq_false, Nat.lt_irrefl, iN_az, not_true_eq_false, not_false_eq_true, Nat.reduceEqDiff, Nat.reduceLT, Nat.reduceAdd, Nat.reduceMul, Nat.reduceSub]
      · by_cases e : set = k
        · rw [e] at q3
          exact absurd q3 h1
        · exact p2 hbf set (by omega) q2 q3
-- takesBySets
set_option maxRecDepth 100000 in
theorem m_222 (O : Ok σ) (H : Mo σ μ ν h0) (hu : u < 4) (cc : Bool) (hY : ∀ l, l < (σ 1 6) → Y l < 262144) (hb : ∀ l, l < (σ 1 6) → ∀ v, (Y l).testBit v = true → v < (σ 1 2) * (σ 1 5)) : ∃ Z b, ev xs (d + 4) 222 0 ([.ref 62, .ref (h0.length + 18), .int (nI u), .int (nI (b1 cc)), .retAddr 9, .retAddr 9, .retAddr 9, .retAddr 9, .retAddr 9, .retAddr 9, .retAddr 9, .retAddr 9, .retAddr 9], [], hw h0 (σ 1 6) W β [oI (ar 6 Y)]) = some (.inl (some (.int (nI (b1 b)))), hw h0 (σ 1 6) W β [oI (ar 6 Z)]) ∧ DR σ (TS σ) Y Z b ∧ (b = false → CG σ (Cv σ Y) (grp σ (if cc = true then 5 else 6) u)) := by
  obtain ⟨hD1, hD2, hH1, hH2, hS, hC, hT, hR, hL, hQ⟩ := Ok_b O
  obtain ⟨p, hp⟩ : ∃ p, p = if cc = true then 5 else 6 := ⟨_, rfl⟩
  rw [← hp]
  have hp56 : p = 5 ∨ p = 6 := by
    rw [hp]
    cases cc
    · exact .inr rfl
    · exact .inl rfl
  have hg64 : grp σ p u < 64 := by
    have h1 := en_lt (σ 1 6) fun l => decide (σ p l = u)
    have h2 : 2 ^ (σ 1 6) ≤ 2 ^ 6 := Nat.pow_le_pow_right (by decide) hL
    unfold grp
    omega
  have key : ∀ l, l ≤ (σ 1 6) → ∀ g, g = (en l fun l => decide (σ p l = u)) → ev xs (d + 4) 222 1 ([.ref 62, .ref (h0.length + 18), .int (nI u), .int (nI (b1 cc)), .int (nI g), .int (nI l), .retAddr 9, .retAddr 9, .retAddr 9, .retAddr 9, .retAddr 9, .retAddr 9, .retAddr 9], [], hw h0 (σ 1 6) W β [oI (ar 6 Y)]) = ev xs (d + 4) 222 10 ([.ref 62, .ref (h0.length + 18), .int (nI u), .int (nI (b1 cc)), .int (nI (grp σ p u)), .int (nI 0), .int (nI 1), .retAddr 9, .retAddr 9, .retAddr 9, .retAddr 9, .retAddr 9, .retAddr 9], [], hw h0 (σ 1 6) W β [oI (ar 6 Y)]) := by
    refine lp (σ 1 6) ?_ ?_
    · intro g hg
      rw [eb_222_1, hg]
      clear hY hb
      simp (disch := first | assumption | omega | exact st8_a (Nat.le_of_ble_eq_true rfl)) only [eb_222_9, kl_a, kl_d, kl_f, kl_i, kl_l, kl_n, kl_r, xr_1, xr_10, xr_11, xr_12, xr_13, xr_14, xr_15, xr_151, xr_152, xr_153, xr_154, xr_155, xr_156, xr_2, xr_27, xr_3, xr_31, xr_33, xr_34, xr_35, xr_36, xr_37, xr_38, xr_39, xr_4, xr_41, xr_44, xr_45, xr_5, xr_55, xr_56, xr_57, xr_58, xr_61, xr_62, xr_63, xr_64, xr_74, xr_75, xr_91, xr_92, xr_93, xr_94, xr_95, xr_96, xr_97, af_0, af_1, xt_goto, xt_ib, xt_ic, xt_ic_eq, xt_ic_ge, xt_ic_gt, xt_ic_lt, xt_ic_ne, xt_if_eq, xt_if_ne, xt_ir, xt_nop, wF_0, wF_1, wF_2, wF_3, wF_4, wF_5, wF_6, wF_7, wF_8, wF_9, wF_10, wF_11, wF_12, wF_13, wP_9, wP_10, wL_5, wC_5, wC_17, wD, hw_app, hw_len, wA_1, wA_2, wA_3, wA_4, wA_5, wA_6, wA_7, wA_8, wA_17, wW_1, wW_2, wW_3, wW_4, wW_5, wW_6, wW_7, wW_8, wW_17, mF_10 (Mo_hw H), mF_11 (Mo_hw H), mF_6 (Mo_hw H), mF_8 (Mo_hw H), mF_9 (Mo_hw H), mA_63 (Mo_hw H), mA_64 (Mo_hw H), mA_65 (Mo_hw H), mA_66 (Mo_hw H), mA_67 (Mo_hw H), mA_68 (Mo_hw H), mA_69 (Mo_hw H), mA_70 (Mo_hw H), mA_71 (Mo_hw H), xq_189_13_virtualm (Mo_hw H), xq_196_13_virtualm (Mo_hw H), xq_221_13_virtualm (Mo_hw H), xq_277_200_static, iN_add, iN_mul, iN_sub, iN_and, iN_or, iN_clr, iN_shl, iN_shr, tb_r1, b1_z, b1_or, b1_and, b1_or0, b1_or1, b1_0or, iN_lt, iN_inj, reduceIte, if_true, if_false, Nat.zero_add, Nat.add_zero, Bool.false_eq_true, Bool.true_eq_false, Nat.lt_irrefl, iN_az, not_true_eq_false, not_false_eq_true, Nat.reduceEqDiff, Nat.reduceLT, Nat.reduceAdd, Nat.reduceMul, Nat.reduceSub]
      rfl
    · intro l hl ih g hg
      have hl6 : l < 6 := by omega
      obtain ⟨c1, c2, c3⟩ := Ok_l O hl
      rw [eb_222_1]
      have ih2 := ih (g ||| if σ p l = u then 1 <<< l else 0) (by
        rw [en_st, hg]
        by_cases h : σ p l = u
        · rw [if_pos h, if_pos (decide_eq_true h)]
        · rw [if_neg h, if_neg (by rw [decide_eq_true_eq]; exact h), Nat.or_zero])
      clear hY hb ih hg
      cases cc
      · have hp : p = 6 := hp
        subst hp
        rw [b1_f] at ih2 ⊢
        by_cases h : σ 6 l = u
        · rw [if_pos h] at ih2
          simp (disch := first | assumption | omega | exact st8_a (Nat.le_of_ble_eq_true rfl)) only [hl, eq_true h, eb_222_2, eb_222_4, eb_222_5, eb_222_6, eb_222_8, kl_a, kl_d, kl_f, kl_i, kl_l, kl_n, kl_r, xr_1, xr_10, xr_11, xr_12, xr_13, xr_14, xr_15, xr_151, xr_152, xr_153, xr_154, xr_155, xr_156, xr_2, xr_27, xr_3, xr_31, xr_33, xr_34, xr_35, xr_36, xr_37, xr_38, xr_39, xr_4, xr_41, xr_44, xr_45, xr_5, xr_55, xr_56, xr_57, xr_58, xr_61, xr_62, xr_63, xr_64, xr_74, xr_75, xr_91, xr_92, xr_93, xr_94, xr_95, xr_96, xr_97, af_0, af_1, xt_goto, xt_ib, xt_ic, xt_ic_eq, xt_ic_ge, xt_ic_gt, xt_ic_lt, xt_ic_ne, xt_if_eq, xt_if_ne, xt_ir, xt_nop, wF_0, wF_1, wF_2, wF_3, wF_4, wF_5, wF_6, wF_7, wF_8, wF_9, wF_10, wF_11, wF_12, wF_13, wP_9, wP_10, wL_5, wC_5, wC_17, wD, hw_app, hw_len, wA_1, wA_2, wA_3, wA_4, wA_5, wA_6, wA_7, wA_8, wA_17, wW_1, wW_2, wW_3, wW_4, wW_5, wW_6, wW_7, wW_8, wW_17, mF_10 (Mo_hw H), mF_11 (Mo_hw H), mF_6 (Mo_hw H), mF_8 (Mo_hw H), mF_9 (Mo_hw H), mA_63 (Mo_hw H), mA_64 (Mo_hw H), mA_65 (Mo_hw H), mA_66 (Mo_hw H), mA_67 (Mo_hw H), mA_68 (Mo_hw H), mA_69 (Mo_hw H), mA_70 (Mo_hw H), mA_71 (Mo_hw H), xq_189_13_virtualm (Mo_hw H), xq_196_13_virtualm (Mo_hw H), xq_221_13_virtualm (Mo_hw H), xq_277_200_static, iN_add, iN_mul, iN_sub, iN_and, iN_or, iN_clr, iN_shl, iN_shr, tb_r1, b1_z, b1_or, b1_and, b1_or0, b1_or1, b1_0or, b1_t, b1_f, iN_lt, iN_inj, reduceIte, if_true, if_false, Nat.zero_add, Nat.add_zero, Bool.false_eq_true, Bool.true_eq_false, Nat.lt_irrefl, iN_az, not_true_eq_false, not_false_eq_true, Nat.reduceEqDiff, Nat.reduceLT, Nat.reduceAdd, Nat.reduceMul, Nat.reduceSub]
          exact ih2
        · rw [if_neg h] at ih2
          simp (disch := first | assumption | omega | exact st8_a (Nat.le_of_ble_eq_true rfl)) only [hl, h, eb_222_2, eb_222_4, eb_222_5, eb_222_7, eb_222_8, kl_a, kl_d, kl_f, kl_i, kl_l, kl_n, kl_r, xr_1, xr_10, xr_11, xr_12, xr_13, xr_14, xr_15, xr_151, xr_152, xr_153, xr_154, xr_155, xr_156, xr_2, xr_27, xr_3, xr_31, xr_33, xr_34, xr_35, xr_36, xr_37, xr_38, xr_39, xr_4, xr_41, xr_44, xr_45, xr_5, xr_55, xr_56, xr_57, xr_58, xr_61, xr_62, xr_63, xr_64, xr_74, xr_75, xr_91, xr_92, xr_93, xr_94, xr_95, xr_96, xr_97, af_0, af_1, xt_goto, xt_ib, xt_ic, xt_ic_eq, xt_ic_ge, xt_ic_gt, xt_ic_lt, xt_ic_ne, xt_if_eq, xt_if_ne, xt_ir, xt_nop, wF_0, wF_1, wF_2, wF_3, wF_4, wF_5, wF_6, wF_7, wF_8, wF_9, wF_10, wF_11, wF_12, wF_13, wP_9, wP_10, wL_5, wC_5, wC_17, wD, hw_app, hw_len, wA_1, wA_2, wA_3, wA_4, wA_5, wA_6, wA_7, wA_8, wA_17, wW_1, wW_2, wW_3, wW_4, wW_5, wW_6, wW_7, wW_8, wW_17, mF_10 (Mo_hw H), mF_11 (Mo_hw H), mF_6 (Mo_hw H), mF_8 (Mo_hw H), mF_9 (Mo_hw H), mA_63 (Mo_hw H), mA_64 (Mo_hw H), mA_65 (Mo_hw H), mA_66 (Mo_hw H), mA_67 (Mo_hw H), mA_68 (Mo_hw H), mA_69 (Mo_hw H), mA_70 (Mo_hw H), mA_71 (Mo_hw H), xq_189_13_virtualm (Mo_hw H), xq_196_13_virtualm (Mo_hw H), xq_221_13_virtualm (Mo_hw H), xq_277_200_static, iN_add, iN_mul, iN_sub, iN_and, iN_or, iN_clr, iN_shl, iN_shr, tb_r1, b1_z, b1_or, b1_and, b1_or0, b1_or1, b1_0or, b1_t, b1_f, iN_lt, iN_inj, reduceIte, if_true, if_false, Nat.zero_add, Nat.add_zero, Bool.false_eq_true, Bool.true_eq_false, Nat.lt_irrefl, iN_az, not_true_eq_false, not_false_eq_true, Nat.reduceEqDiff, Nat.reduceLT, Nat.reduceAdd, Nat.reduceMul, Nat.reduceSub]
          exact ih2
      · have hp : p = 5 := hp
        subst hp
        rw [b1_t] at ih2 ⊢
        by_cases h : σ 5 l = u
        · rw [if_pos h] at ih2
          simp (disch := first | assumption | omega | exact st8_a (Nat.le_of_ble_eq_true rfl)) only [hl, eq_true h, eb_222_2, eb_222_3, eb_222_5, eb_222_6, eb_222_8, kl_a, kl_d, kl_f, kl_i, kl_l, kl_n, kl_r, xr_1, xr_10, xr_11, xr_12, xr_13, xr_14, xr_15, xr_151, xr_152, xr_153, xr_154, xr_155, xr_156, xr_2, xr_27, xr_3, xr_31, xr_33, xr_34, xr_35, xr_36, xr_37, xr_38, xr_39, xr_4, xr_41, xr_44, xr_45, xr_5, xr_55, xr_56, xr_57, xr_58, xr_61, xr_62, xr_63, xr_64, xr_74, xr_75, xr_91, xr_92, xr_93, xr_94, xr_95, xr_96, xr_97, af_0, af_1, xt_goto, xt_ib, xt_ic, xt_ic_eq, xt_ic_ge, xt_ic_gt, xt_ic_lt, xt_ic_ne, xt_if_eq, xt_if_ne, xt_ir, xt_nop, wF_0, wF_1, wF_2, wF_3, wF_4, wF_5, wF_6, wF_7, wF_8, wF_9, wF_10, wF_11, wF_12, wF_13, wP_9, wP_10, wL_5, wC_5, wC_17, wD, hw_app, hw_len, wA_1, wA_2, wA_3, wA_4, wA_5, wA_6, wA_7, wA_8, wA_17, wW_1, wW_2, wW_3, wW_4, wW_5, wW_6, wW_7, wW_8, wW_17, mF_10 (Mo_hw H), mF_11 (Mo_hw H), mF_6 (Mo_hw H), mF_8 (Mo_hw H), mF_9 (Mo_hw H), mA_63 (Mo_hw H), mA_64 (Mo_hw H), mA_65 (Mo_hw H), mA_66 (Mo_hw H), mA_67 (Mo_hw H), mA_68 (Mo_hw H), mA_69 (Mo_hw H), mA_70 (Mo_hw H), mA_71 (Mo_hw H), xq_189_13_virtualm (Mo_hw H), xq_196_13_virtualm (Mo_hw H), xq_221_13_virtualm (Mo_hw H), xq_277_200_static, iN_add, iN_mul, iN_sub, iN_and, iN_or, iN_clr, iN_shl, iN_shr, tb_r1, b1_z, b1_or, b1_and, b1_or0, b1_or1, b1_0or, b1_t, b1_f, iN_lt, iN_inj, reduceIte, if_true, if_false, Nat.zero_add, Nat.add_zero, Bool.false_eq_true, Bool.true_eq_false, Nat.lt_irrefl, iN_az, not_true_eq_false, not_false_eq_true, Nat.reduceEqDiff, Nat.reduceLT, Nat.reduceAdd, Nat.reduceMul, Nat.reduceSub]
          exact ih2
        · rw [if_neg h] at ih2
          simp (disch := first | assumption | omega | exact st8_a (Nat.le_of_ble_eq_true rfl)) only [hl, h, eb_222_2, eb_222_3, eb_222_5, eb_222_7, eb_222_8, kl_a, kl_d, kl_f, kl_i, kl_l, kl_n, kl_r, xr_1, xr_10, xr_11, xr_12, xr_13, xr_14, xr_15, xr_151, xr_152, xr_153, xr_154, xr_155, xr_156, xr_2, xr_27, xr_3, xr_31, xr_33, xr_34, xr_35, xr_36, xr_37, xr_38, xr_39, xr_4, xr_41, xr_44, xr_45, xr_5, xr_55, xr_56, xr_57, xr_58, xr_61, xr_62, xr_63, xr_64, xr_74, xr_75, xr_91, xr_92, xr_93, xr_94, xr_95, xr_96, xr_97, af_0, af_1, xt_goto, xt_ib, xt_ic, xt_ic_eq, xt_ic_ge, xt_ic_gt, xt_ic_lt, xt_ic_ne, xt_if_eq, xt_if_ne, xt_ir, xt_nop, wF_0, wF_1, wF_2, wF_3, wF_4, wF_5, wF_6, wF_7, wF_8, wF_9, wF_10, wF_11, wF_12, wF_13, wP_9, wP_10, wL_5, wC_5, wC_17, wD, hw_app, hw_len, wA_1, wA_2, wA_3, wA_4, wA_5, wA_6, wA_7, wA_8, wA_17, wW_1, wW_2, wW_3, wW_4, wW_5, wW_6, wW_7, wW_8, wW_17, mF_10 (Mo_hw H), mF_11 (Mo_hw H), mF_6 (Mo_hw H), mF_8 (Mo_hw H), mF_9 (Mo_hw H), mA_63 (Mo_hw H), mA_64 (Mo_hw H), mA_65 (Mo_hw H), mA_66 (Mo_hw H), mA_67 (Mo_hw H), mA_68 (Mo_hw H), mA_69 (Mo_hw H), mA_70 (Mo_hw H), mA_71 (Mo_hw H), xq_189_13_virtualm (Mo_hw H), xq_196_13_virtualm (Mo_hw H), xq_221_13_virtualm (Mo_hw H), xq_277_200_static, iN_add, iN_mul, iN_sub, iN_and, iN_or, iN_clr, iN_shl, iN_shr, tb_r1, b1_z, b1_or, b1_and, b1_or0, b1_or1, b1_0or, b1_t, b1_f, iN_lt, iN_inj, reduceIte, if_true, if_false, Nat.zero_add, Nat.add_zero, Bool.false_eq_true, Bool.true_eq_false, Nat.lt_irrefl, iN_az, not_true_eq_false, not_false_eq_true, Nat.reduceEqDiff, Nat.reduceLT, Nat.reduceAdd, Nat.reduceMul, Nat.reduceSub]
          exact ih2
  have hone := one_shl (σ 1 6)
  obtain ⟨Z, b, e, q1, q2⟩ := m_222o (xs := xs) (d := d) (W := W) (β := β) (g := grp σ p u) (x2 := nI u) (x3 := nI (b1 cc)) O H hg64 (fun X hX => hX.1.2.2 p hp56 u hu) rfl 1 hone Y hY hb false (.retAddr 9) (.retAddr 9) (.retAddr 9) (.retAddr 9) (.retAddr 9) (.retAddr 9)
  rw [Bool.false_or, b1_f] at e
  refine ⟨Z, b, ?_, q1, fun hbf set hs => ?_⟩
  · rw [← e, ← key 0 (Nat.zero_le _) 0 rfl]
    clear hY hb key e q1 q2
    simp (disch := first | assumption | omega | exact st8_a (Nat.le_of_ble_eq_true rfl)) only [eb_222_0, kl_a, kl_d, kl_f, kl_i, kl_l, kl_n, kl_r, xr_1, xr_10, xr_11, xr_12, xr_13, xr_14, xr_15, xr_151, xr_152, xr_153, xr_154, xr_155, xr_156, xr_2, xr_27, xr_3, xr_31, xr_33, xr_34, xr_35, xr_36, xr_37, xr_38, xr_39, xr_4, xr_41, xr_44, xr_45, xr_5, xr_55, xr_56, xr_57, xr_58, xr_61, xr_62, xr_63, xr_64, xr_74, xr_75, xr_91, xr_92, xr_93, xr_94, xr_95, xr_96, xr_97, af_0, af_1, xt_goto, xt_ib, xt_ic, xt_ic_eq, xt_ic_ge, xt_ic_gt, xt_ic_lt, xt_ic_ne, xt_if_eq, xt_if_ne, xt_ir, xt_nop, wF_0, wF_1, wF_2, wF_3, wF_4, wF_5, wF_6, wF_7, wF_8, wF_9, wF_10, wF_11, wF_12, wF_13, wP_9, wP_10, wL_5, wC_5, wC_17, wD, hw_app, hw_len, wA_1, wA_2, wA_3, wA_4, wA_5, wA_6, wA_7, wA_8, wA_17, wW_1, wW_2, wW_3, wW_4, wW_5, wW_6, wW_7, wW_8, wW_17, mF_10 (Mo_hw H), mF_11 (Mo_hw H), mF_6 (Mo_hw H), mF_8 (Mo_hw H), mF_9 (Mo_hw H), mA_63 (Mo_hw H), mA_64 (Mo_hw H), mA_65 (Mo_hw H), mA_66 (Mo_hw H), mA_67 (Mo_hw H), mA_68 (Mo_hw H), mA_69 (Mo_hw H), mA_70 (Mo_hw H), mA_71 (Mo_hw H), xq_189_13_virtualm (Mo_hw H), xq_196_13_virtualm (Mo_hw H), xq_221_13_virtualm (Mo_hw H), xq_277_200_static, iN_add, iN_mul, iN_sub, iN_and, iN_or, iN_clr, iN_shl, iN_shr, tb_r1, b1_z, b1_or, b1_and, b1_or0, b1_or1, b1_0or, iN_lt, iN_inj, reduceIte, if_true, if_false, Nat.zero_add, Nat.add_zero, Bool.false_eq_true, Bool.true_eq_false, Nat.lt_irrefl, iN_az, not_true_eq_false, not_false_eq_true, Nat.reduceEqDiff, Nat.reduceLT, Nat.reduceAdd, Nat.reduceMul, Nat.reduceSub]
  · by_cases h0 : set = 0
    · rw [h0]
      exact CI_0
    · refine q2 hbf set (by omega) ?_ hs
      rw [Nat.one_shiftLeft]
      refine mask_lt (n := (σ 1 6)) fun i hi => ?_
      have h1 := z_tb.mp hs i
      rw [clr_tb, hi, Bool.true_and, Bool.not_eq_false'] at h1
      unfold grp at h1
      rw [en_tb, Bool.and_eq_true, decide_eq_true_eq] at h1
      exact h1.1
end Nrc
