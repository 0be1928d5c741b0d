/-! THE MODEL: its ways, what can be kept, the core -/
/-- the Ways between its uses -/
def WX (σ W : Nat → Nat → Nat) : Prop := WB σ W ∧ ZR σ W
section Mca
variable {xs : List Int32} {d n m : Nat} {h h0 T : ab_H} {σ W N K : Nat → Nat → Nat} {μ : Nat → Nat} {ν : Nat → Value} {β : Value} {a b u k v w x y q set l i t : Nat}
set_option maxRecDepth 100000 in
theorem WX_fw (h : FW 0 W N) (hX : WX σ W) : WX σ N := by
  obtain ⟨⟨b0, b1', b2, b3, b4⟩, hZ⟩ := hX
  refine ⟨⟨by rw [h.1 0 (by decide) (by decide)]; exact b0, by rw [h.1 1 (by decide) (by decide)]; exact b1', by rw [h.1 2 (by decide) (by decide)]; exact b2, by rw [h.1 3 (by decide) (by decide)]; exact b3, by rw [h.1 4 (by decide) (by decide)]; exact b4⟩, ZR_c (fun b h1 h2 => h.1 b (by omega) (by omega)) hZ⟩
set_option maxRecDepth 100000 in
theorem WX_tk (h : ∀ b, b ≠ 5 → b ≠ 6 → b ≠ 7 → N b = W b) (hX : WX σ W) : WX σ N := by
  obtain ⟨⟨b0, b1', b2, b3, b4⟩, hZ⟩ := hX
  refine ⟨⟨by rw [h 0 (by decide) (by decide) (by decide)]; exact b0, by rw [h 1 (by decide) (by decide) (by decide)]; exact b1', by rw [h 2 (by decide) (by decide) (by decide)]; exact b2, by rw [h 3 (by decide) (by decide) (by decide)]; exact b3, by rw [h 4 (by decide) (by decide) (by decide)]; exact b4⟩, ZR_c (fun b h1 h2 => h b (by omega) (by omega) (by omega)) hZ⟩
set_option maxRecDepth 100000 in
theorem WT_IW (O : Ok σ) (hX : WX σ W) (hWT : WT σ set (σ 1 7) t y W) : IW σ 0 W := by
  obtain ⟨hD1, hD2, hH1, hH2, hS, hC, hT, hR, hL, hQ⟩ := Ok_b O
  obtain ⟨h7, h5, h6⟩ := hWT
  refine ⟨⟨hX.1.1, fun l hl v hv => ((h7 l hl v).mp hv).1.1, fun i hi => okm_b (h6 i (by omega))⟩, fun l _ hl v => ?_, fun j hj => absurd hj (Nat.not_lt_zero j)⟩
  rw [Nat.mul_zero, Nat.zero_add]
  exact ⟨fun h => ⟨h, fun j hj => absurd hj (Nat.not_lt_zero j)⟩, fun h => h.1⟩
set_option maxRecDepth 100000 in
theorem m_217 (O : Ok σ) (H : Mo σ μ ν h) : ev xs d 217 0 ([.ref 62], [], h) = some (.inl (some (.int (nI (alr σ)))), h) := by
  obtain ⟨hD1, hD2, hH1, hH2, hS, hC, hT, hR, hL, hQ⟩ := Ok_b O
  have h1 := one_shl (σ 1 7)
  unfold alr
  simp (disch := first | assumption | omega | exact st8_a (Nat.le_of_ble_eq_true rfl)) only [eb_217_0, xr_1, xr_2, xr_27, xr_3, xr_4, xr_5, xr_58, xr_77, xt_ib, xt_ic, xt_ir, mF_12 H, iN_add, iN_mul, iN_sub, iN_and, iN_or, iN_clr, iN_shl, iN_shr, tb_r1, b1_z, b1_or, b1_and, b1_or0, b1_or1, b1_0or, b1_t, b1_f, iN_lt, iN_inj, reduceIte, if_true, if_false, Nat.zero_add, Nat.add_zero, Bool.false_eq_true, Bool.true_eq_false, Nat.lt_irrefl, iN_az, not_true_eq_false, not_false_eq_true, Nat.reduceEqDiff, Nat.reduceLT, Nat.reduceAdd, Nat.reduceMul, Nat.reduceSub]
-- ways
set_option maxRecDepth 100000 in
theorem m_218 (O : Ok σ) (H : Mo σ μ ν h0) : ∃ W, ev xs (d + 6) 218 0 ([.ref 62, .retAddr 9], [], h0) = some (.inl (some (.ref h0.length)), hw h0 (σ 1 6) W .null []) ∧ WX σ W ∧ WT σ (alr σ) (σ 1 7) 4294967295 0 W := by
  obtain ⟨hD1, hD2, hH1, hH2, hS, hC, hT, hR, hL, hQ⟩ := Ok_b O
  obtain ⟨W, e1, hB, hZ⟩ := m_172 (xs := xs) (d := d) O H
  have e2 := m_217 (xs := xs) (d := d + 5) O (Mo_hw (nn := (σ 1 6)) (W := W) (β := .null) (T := []) H)
  obtain ⟨W2, e3, f, hWT⟩ := m_174 (xs := xs) (d := d) (β := .null) (T := []) (t := 4294967295) (y := 0) O H (alr_lt O) (.inl rfl) hB
  refine ⟨W2, ?_, WX_tk f ⟨hB, fun i hi j _ => hZ (10 + i) (by omega) j⟩, hWT⟩
  clear hB hZ f hWT
  simp (disch := first | assumption | omega | exact st8_a (Nat.le_of_ble_eq_true rfl)) only [xr_145, e1, e2, e3, eb_218_0, eb_218_1, eb_218_2, eb_218_3, kl_a, kl_d, kl_f, kl_i, kl_l, kl_n, kl_r, xr_1, xr_10, xr_11, xr_12, xr_13, xr_14, xr_146, xr_147, xr_148, xr_149, xr_15, xr_150, xr_2, xr_3, xr_4, xr_5, xr_64, xr_8, xr_9, af_0, af_1, xt_ar, wF_0, wF_1, wF_2, wF_3, wF_4, wF_5, wF_6, wF_7, wF_8, wF_9, wF_10, wF_11, wF_12, wF_13, wP_9, wP_10, wL_5, wC_5, wC_17, wD, hw_app, hw_len, wA_1, wA_2, wA_3, wA_4, wA_5, wA_6, wA_7, wA_8, wA_17, wW_1, wW_2, wW_3, wW_4, wW_5, wW_6, wW_7, wW_8, wW_17, xq_172_100_special, xq_174_12_virtual wy_c, xq_217_13_virtualm (Mo_hw H), iN_add, iN_mul, iN_sub, iN_and, iN_or, iN_clr, iN_shl, iN_shr, tb_r1, b1_z, b1_or, b1_and, b1_or0, b1_or1, b1_0or, b1_t, b1_f, iN_lt, iN_inj, reduceIte, if_true, if_false, Nat.zero_add, Nat.add_zero, Bool.false_eq_true, Bool.true_eq_false, Nat.lt_irrefl, iN_az, not_true_eq_false, not_false_eq_true, Nat.reduceEqDiff, Nat.reduceLT, Nat.reduceAdd, Nat.reduceMul, Nat.reduceSub]
-- whether a set can be kept
set_option maxRecDepth 100000 in
theorem m_244 (O : Ok σ) (H : Mo σ μ ν h0) (hX : WX σ W) (hset : set < 1024) (ht : t = 4294967295 ∨ (t < (σ 1 4) ∧ y < (σ 1 0))) : ∃ N, ∃ b : Bool, ev xs (d + 14) 244 0 ([.ref h0.length, .int (nI set), .int (nI t), .int (nI y)], [], hw h0 (σ 1 6) W β T) = some (.inl (some (.int (nI (b1 b)))), hw h0 (σ 1 6) N β T) ∧ WX σ N ∧ (b = true ↔ KB σ t y set) := by
  obtain ⟨hD1, hD2, hH1, hH2, hS, hC, hT, hR, hL, hQ⟩ := Ok_b O
  obtain ⟨W2, e1, f, hWT⟩ := m_174 (xs := xs) (d := d + 8) (β := β) (T := T) O H hset ht hX.1
  have hX2 := WX_tk f hX
  obtain ⟨N, b, e2, f2, g1, g2⟩ := m_177 (xs := xs) (d := d) (β := β) (T := T) O H (WT_IW O hX2 hWT)
  refine ⟨N, b, ?_, WX_fw f2 hX2, ?_⟩
  · clear hX hX2 f hWT f2 g1 g2 ht
    simp (disch := first | assumption | omega | exact st8_a (Nat.le_of_ble_eq_true rfl)) only [e1, e2, eb_244_0, eb_244_1, eb_244_2, xr_1, xr_2, xr_28, xr_3, xr_31, xr_37, xr_4, xr_5, af_0, af_1, xt_ib, xt_ic, xt_ir, wF_0, wF_1, wF_2, wF_3, wF_4, wF_5, wF_6, wF_7, wF_8, wF_9, wF_10, wF_11, wF_12, wF_13, wP_9, wP_10, wL_5, wC_5, wC_17, wD, hw_app, hw_len, wA_1, wA_2, wA_3, wA_4, wA_5, wA_6, wA_7, wA_8, wA_17, wW_1, wW_2, wW_3, wW_4, wW_5, wW_6, wW_7, wW_8, wW_17, xq_174_12_virtual wy_c, xq_177_12_virtual wy_c, iN_add, iN_mul, iN_sub, iN_and, iN_or, iN_clr, iN_shl, iN_shr, tb_r1, b1_z, b1_or, b1_and, b1_or0, b1_or1, b1_0or, b1_t, b1_f, iN_lt, iN_inj, reduceIte, if_true, if_false, Nat.zero_add, Nat.add_zero, Bool.false_eq_true, Bool.true_eq_false, Nat.lt_irrefl, iN_az, not_true_eq_false, not_false_eq_true, Nat.reduceEqDiff, Nat.reduceLT, Nat.reduceAdd, Nat.reduceMul, Nat.reduceSub]
  · rw [← KB_PA O hWT]
    constructor
    · exact fun hb => ⟨_, (g2 hb).1⟩
    · rintro ⟨s, hs⟩
      cases b
      · exact absurd hs (g1 rfl s)
      · rfl
-- the set that is left
set_option maxRecDepth 100000 in
theorem m_245 (O : Ok σ) (H : Mo σ μ ν h0) (ht : t = 4294967295 ∨ (t < (σ 1 4) ∧ y < (σ 1 0))) : ∃ N, ∃ v, ev xs (d + 15) 245 0 ([.ref 62, .int (nI t), .int (nI y), .retAddr 9, .retAddr 9, .retAddr 9, .retAddr 9], [], h0) = some (.inl (some (.int (nI (v)))), hw h0 (σ 1 6) N .null []) ∧ ((KB σ t y (alr σ) ∧ v = 4294967295) ∨ (¬ KB σ t y (alr σ) ∧ v < 1024 ∧ ST σ t y (σ 1 7) (alr σ) v)) := by
  obtain ⟨hD1, hD2, hH1, hH2, hS, hC, hT, hR, hL, hQ⟩ := Ok_b O
  obtain ⟨W, e1, hB, hZ⟩ := m_172 (xs := xs) (d := d + 9) O H
  have hX : WX σ W := ⟨hB, fun i hi j _ => hZ (10 + i) (by omega) j⟩
  have e2 := m_217 (xs := xs) (d := d + 14) O (Mo_hw (nn := (σ 1 6)) (W := W) (β := .null) (T := []) H)
  have hal := alr_lt O
  obtain ⟨N, b, e3, f1, f2⟩ := m_244 (xs := xs) (d := d) (β := .null) (T := []) O H hX hal ht
  cases b
  · have lp1 : ∀ k, k ≤ (σ 1 7) → ∀ N u z, u < 1024 → WX σ N → ∃ M', ∃ v, ev xs (d + 15) 245 6 ([.ref 62, .int (nI t), .int (nI y), .ref h0.length, .int (nI u), .int (nI k - nI 1), z], [], hw h0 (σ 1 6) N .null []) = some (.inl (some (.int (nI (v)))), hw h0 (σ 1 6) M' .null []) ∧ v < 1024 ∧ ST σ t y k u v := by
      intro k
      induction k with
      | zero =>
        intro hk N u z hu g1
        refine ⟨N, u, ?_, hu, rfl⟩
        rw [nI_m1, eb_245_6]
        simp (disch := first | assumption | omega | exact st8_a (Nat.le_of_ble_eq_true rfl)) only [nI_ng, eb_245_12, kl_a, kl_d, kl_f, kl_i, kl_l, kl_n, kl_r, xr_1, xr_145, xr_158, xr_159, xr_160, xr_161, xr_162, xr_163, xr_2, xr_21, xr_22, xr_23, xr_24, xr_25, xr_27, xr_28, xr_3, xr_31, xr_33, xr_34, xr_35, xr_36, xr_4, xr_44, xr_5, xr_56, xr_57, xr_58, xr_64, xr_75, xr_77, xr_8, xr_9, af_0, af_1, xt_goto, xt_ib, xt_ic, xt_if_eq, xt_if_lt, xt_ir, xt_nop, wF_0, wF_1, wF_2, wF_3, wF_4, wF_5, wF_6, wF_7, wF_8, wF_9, wF_10, wF_11, wF_12, wF_13, wP_9, wP_10, wL_5, wC_5, wC_17, wD, hw_app, hw_len, wA_1, wA_2, wA_3, wA_4, wA_5, wA_6, wA_7, wA_8, wA_17, wW_1, wW_2, wW_3, wW_4, wW_5, wW_6, wW_7, wW_8, wW_17, mF_12 (Mo_hw H), xq_172_100_special, xq_217_13_virtualm (Mo_hw H), xq_244_200_static, iN_add, iN_mul, iN_sub, iN_and, iN_or, iN_clr, iN_shl, iN_shr, tb_r1, b1_z, b1_or, b1_and, b1_or0, b1_or1, b1_0or, b1_t, b1_f, iN_lt, iN_inj, reduceIte, if_true, if_false, Nat.zero_add, Nat.add_zero, Bool.false_eq_true, Bool.true_eq_false, Nat.lt_irrefl, iN_az, not_true_eq_false, not_false_eq_true, Nat.reduceEqDiff, Nat.reduceLT, Nat.reduceAdd, Nat.reduceMul, Nat.reduceSub]
      | succ k ih =>
        intro hk N u z hu g1
        have hu2 : clr u (1 <<< k) < 1024 := clr_lt (n := 10) hu
        obtain ⟨N1, b, e1, h1, h2⟩ := m_244 (xs := xs) (d := d) (β := .null) (T := []) O H g1 hu2 ht
        have em1 : nI (k + 1) - nI 1 = nI k := by rw [iN_sub (by omega), Nat.add_sub_cancel]
        rw [em1, eb_245_6]
        cases b
        · obtain ⟨M', v, e2, q3, q4⟩ := ih (by omega) N1 (clr u (1 <<< k)) (.int (nI (clr u (1 <<< k)))) hu2 h1
          refine ⟨M', v, ?_, q3, fun z => ?_, fun _ => q4⟩
          · clear q3 q4 ih h2 ht h1 g1 hX hB hZ f1 f2
            simp (disch := first | assumption | omega | exact st8_a (Nat.le_of_ble_eq_true rfl)) only [Nat.not_lt_zero, e1, eb_245_7, eb_245_8, eb_245_10, eb_245_11, kl_a, kl_d, kl_f, kl_i, kl_l, kl_n, kl_r, xr_1, xr_145, xr_158, xr_159, xr_160, xr_161, xr_162, xr_163, xr_2, xr_21, xr_22, xr_23, xr_24, xr_25, xr_27, xr_28, xr_3, xr_31, xr_33, xr_34, xr_35, xr_36, xr_4, xr_44, xr_5, xr_56, xr_57, xr_58, xr_64, xr_75, xr_77, xr_8, xr_9, af_0, af_1, xt_goto, xt_ib, xt_ic, xt_if_eq, xt_if_lt, xt_ir, xt_nop, wF_0, wF_1, wF_2, wF_3, wF_4, wF_5, wF_6, wF_7, wF_8, wF_9, wF_10, wF_11, wF_12, wF_13, wP_9, wP_10, wL_5, wC_5, wC_17, wD, hw_app, hw_len, wA_1, wA_2, wA_3, wA_4, wA_5, wA_6, wA_7, wA_8, wA_17, wW_1, wW_2, wW_3, wW_4, wW_5, wW_6, wW_7, wW_8, wW_17, mF_12 (Mo_hw H), xq_172_100_special, xq_217_13_virtualm (Mo_hw H), xq_244_200_static, iN_add, iN_mul, iN_and, iN_or, iN_clr, iN_shl, iN_shr, tb_r1, b1_z, b1_or, b1_and, b1_or0, b1_or1, b1_0or, b1_t, b1_f, iN_lt, iN_inj, reduceIte, if_true, if_false, Nat.zero_add, Nat.add_zero, Bool.false_eq_true, Bool.true_eq_false, Nat.lt_irrefl, iN_az, not_true_eq_false, not_false_eq_true, Nat.reduceEqDiff, Nat.reduceLT, Nat.reduceAdd, Nat.reduceMul, Nat.reduceSub]
            exact e2
          · have := h2.mpr z
            cases this
        · obtain ⟨M', v, e2, q3, q4⟩ := ih (by omega) N1 u (.int (nI (clr u (1 <<< k)))) hu h1
          refine ⟨M', v, ?_, q3, fun z => q4, fun z => absurd (h2.mp rfl) z⟩
          clear q3 q4 ih h2 ht h1 g1 hX hB hZ f1 f2
          simp (disch := first | assumption | omega | exact st8_a (Nat.le_of_ble_eq_true rfl)) only [Nat.not_lt_zero, e1, eb_245_7, eb_245_8, eb_245_9, eb_245_11, kl_a, kl_d, kl_f, kl_i, kl_l, kl_n, kl_r, xr_1, xr_145, xr_158, xr_159, xr_160, xr_161, xr_162, xr_163, xr_2, xr_21, xr_22, xr_23, xr_24, xr_25, xr_27, xr_28, xr_3, xr_31, xr_33, xr_34, xr_35, xr_36, xr_4, xr_44, xr_5, xr_56, xr_57, xr_58, xr_64, xr_75, xr_77, xr_8, xr_9, af_0, af_1, xt_goto, xt_ib, xt_ic, xt_if_eq, xt_if_lt, xt_ir, xt_nop, wF_0, wF_1, wF_2, wF_3, wF_4, wF_5, wF_6, wF_7, wF_8, wF_9, wF_10, wF_11, wF_12, wF_13, wP_9, wP_10, wL_5, wC_5, wC_17, wD, hw_app, hw_len, wA_1, wA_2, wA_3, wA_4, wA_5, wA_6, wA_7, wA_8, wA_17, wW_1, wW_2, wW_3, wW_4, wW_5, wW_6, wW_7, wW_8, wW_17, mF_12 (Mo_hw H), xq_172_100_special, xq_217_13_virtualm (Mo_hw H), xq_244_200_static, iN_add, iN_mul, iN_and, iN_or, iN_clr, iN_shl, iN_shr, tb_r1, b1_z, b1_or, b1_and, b1_or0, b1_or1, b1_0or, b1_t, b1_f, iN_lt, iN_inj, reduceIte, if_true, if_false, Nat.zero_add, Nat.add_zero, Bool.false_eq_true, Bool.true_eq_false, Nat.lt_irrefl, iN_az, not_true_eq_false, not_false_eq_true, Nat.reduceEqDiff, Nat.reduceLT, Nat.reduceAdd, Nat.reduceMul, Nat.reduceSub]
          exact e2
    obtain ⟨M', v, e4, q3, q4⟩ := lp1 (σ 1 7) (Nat.le_refl _) N (alr σ) (.retAddr 9) hal f1
    refine ⟨M', v, ?_, Or.inr ⟨fun z => ?_, q3, q4⟩⟩
    · rw [b1_f] at e3
      clear q3 q4 lp1 ht hX hB hZ f1 f2
      simp (disch := first | assumption | omega | exact st8_a (Nat.le_of_ble_eq_true rfl)) only [xr_145, e1, e2, e3, eb_245_0, eb_245_1, eb_245_2, eb_245_3, eb_245_5, kl_a, kl_d, kl_f, kl_i, kl_l, kl_n, kl_r, xr_1, xr_158, xr_159, xr_160, xr_161, xr_162, xr_163, xr_2, xr_21, xr_22, xr_23, xr_24, xr_25, xr_27, xr_28, xr_3, xr_31, xr_33, xr_34, xr_35, xr_36, xr_4, xr_44, xr_5, xr_56, xr_57, xr_58, xr_64, xr_75, xr_77, xr_8, xr_9, af_0, af_1, xt_goto, xt_ib, xt_ic, xt_if_eq, xt_if_lt, xt_ir, xt_nop, wF_0, wF_1, wF_2, wF_3, wF_4, wF_5, wF_6, wF_7, wF_8, wF_9, wF_10, wF_11, wF_12, wF_13, wP_9, wP_10, wL_5, wC_5, wC_17, wD, hw_app, hw_len, wA_1, wA_2, wA_3, wA_4, wA_5, wA_6, wA_7, wA_8, wA_17, wW_1, wW_2, wW_3, wW_4, wW_5, wW_6, wW_7, wW_8, wW_17, mF_12 (Mo_hw H), xq_172_100_special, xq_217_13_virtualm (Mo_hw H), xq_244_200_static, iN_add, iN_mul, iN_and, iN_or, iN_clr, iN_shl, iN_shr, tb_r1, b1_z, b1_or, b1_and, b1_or0, b1_or1, b1_0or, b1_t, b1_f, iN_lt, iN_inj, reduceIte, if_true, if_false, Nat.zero_add, Nat.add_zero, Bool.false_eq_true, Bool.true_eq_false, Nat.lt_irrefl, iN_az, not_true_eq_false, not_false_eq_true, Nat.reduceEqDiff, Nat.reduceLT, Nat.reduceAdd, Nat.reduceMul, Nat.reduceSub]
      exact e4
    · have := f2.mpr z
      cases this
  · refine ⟨N, 4294967295, ?_, Or.inl ⟨f2.mp rfl, rfl⟩⟩
    clear ht hX hB hZ f1 f2
    simp (disch := first | assumption | omega | exact st8_a (Nat.le_of_ble_eq_true rfl)) only [xr_145, e1, e2, e3, eb_245_0, eb_245_1, eb_245_2, eb_245_3, eb_245_4, kl_a, kl_d, kl_f, kl_i, kl_l, kl_n, kl_r, xr_1, xr_158, xr_159, xr_160, xr_161, xr_162, xr_163, xr_2, xr_21, xr_22, xr_23, xr_24, xr_25, xr_27, xr_28, xr_3, xr_31, xr_33, xr_34, xr_35, xr_36, xr_4, xr_44, xr_5, xr_56, xr_57, xr_58, xr_64, xr_75, xr_77, xr_8, xr_9, af_0, af_1, xt_goto, xt_ib, xt_ic, xt_if_eq, xt_if_lt, xt_ir, xt_nop, wF_0, wF_1, wF_2, wF_3, wF_4, wF_5, wF_6, wF_7, wF_8, wF_9, wF_10, wF_11, wF_12, wF_13, wP_9, wP_10, wL_5, wC_5, wC_17, wD, hw_app, hw_len, wA_1, wA_2, wA_3, wA_4, wA_5, wA_6, wA_7, wA_8, wA_17, wW_1, wW_2, wW_3, wW_4, wW_5, wW_6, wW_7, wW_8, wW_17, mF_12 (Mo_hw H), xq_172_100_special, xq_217_13_virtualm (Mo_hw H), xq_244_200_static, iN_add, iN_mul, iN_sub, iN_and, iN_or, iN_clr, iN_shl, iN_shr, tb_r1, b1_z, b1_or, b1_and, b1_or0, b1_or1, b1_0or, b1_t, b1_f, iN_lt, iN_inj, reduceIte, if_true, if_false, Nat.zero_add, Nat.add_zero, Bool.false_eq_true, Bool.true_eq_false, Nat.lt_irrefl, iN_az, not_true_eq_false, not_false_eq_true, Nat.reduceEqDiff, Nat.reduceLT, Nat.reduceAdd, Nat.reduceMul, Nat.reduceSub]
end Mca
