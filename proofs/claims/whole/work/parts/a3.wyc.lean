/-! THE MODEL'S Ways: take -/
/-- what a lesson's values must keep alone, with the rules of set below k, and a wish -/
def ow (σ : Nat → Nat → Nat) (t y l v : Nat) : Prop := v < (σ 1 2) * (σ 1 5) ∧ sty σ l (v / (σ 1 5)) = true ∧ sts σ l (v % (σ 1 5)) = true ∧ (σ 6 l = t → cov σ l (v / (σ 1 5)) &&& dm σ y = 0)
def okw (σ : Nat → Nat → Nat) (set k t y l v : Nat) : Prop := ow σ t y l v ∧ ∀ q, q < k → set.testBit q = true → ka σ q l v = true
def okp (σ : Nat → Nat → Nat) (set k a u b v : Nat) : Prop := v < (σ 1 2) * (σ 1 5) ∧ cl2 σ a u b v = 0 ∧ ∀ q, q < k → set.testBit q = true → 2 ≤ σ 8 q → σ 8 q ≤ 5 → (σ 9 q = a → σ 10 q = b → kp2 σ q (u / (σ 1 5)) (v / (σ 1 5)) = true) ∧ (σ 9 q = b → σ 10 q = a → kp2 σ q (v / (σ 1 5)) (u / (σ 1 5)) = true)
def okm (σ : Nat → Nat → Nat) (set k i x : Nat) : Prop := ∀ n, n ≤ x ↔ n ≤ (σ 1 1) ∧ ∀ q, q < k → set.testBit q = true → σ 8 q = 1 → σ 9 q = i → n ≤ σ 10 q
/-- the rows behind the rules of set below k -/
def WT (σ : Nat → Nat → Nat) (set k t y : Nat) (W : Nat → Nat → Nat) : Prop :=
  (∀ l, l < (σ 1 6) → ∀ v, (W 7 l).testBit v = true ↔ okw σ set k t y l v) ∧
  (∀ a b u, a < (σ 1 6) → b < (σ 1 6) → a ≠ b → u < (σ 1 2) * (σ 1 5) → ∀ v, (W 5 (wix a u b)).testBit v = true ↔ okp σ set k a u b v) ∧
  ∀ i, i < 4 → okm σ set k i (W 6 i)
section Wyc
variable {xs : List Int32} {d m n : Nat} {h0 T A : ab_H} {σ W : Nat → Nat → Nat} {μ : Nat → Nat} {ν : Nat → Value} {β : Value} {a b u k v t y q set l i : Nat} {c : ab_O} {y2 y3 y4 y5 y6 : Value}
set_option maxRecDepth 100000 in
theorem okw_s : okw σ set (k + 1) t y l v ↔ okw σ set k t y l v ∧ (set.testBit k = true → ka σ k l v = true) := by
  unfold okw
  rw [fa_s (P := fun q => set.testBit q = true → ka σ q l v = true), and_assoc]
set_option maxRecDepth 100000 in
theorem okp_s : okp σ set (k + 1) a u b v ↔ okp σ set k a u b v ∧ (set.testBit k = true → 2 ≤ σ 8 k → σ 8 k ≤ 5 → (σ 9 k = a → σ 10 k = b → kp2 σ k (u / (σ 1 5)) (v / (σ 1 5)) = true) ∧ (σ 9 k = b → σ 10 k = a → kp2 σ k (v / (σ 1 5)) (u / (σ 1 5)) = true)) := by
  unfold okp
  rw [fa_s (P := fun q => set.testBit q = true → 2 ≤ σ 8 q → σ 8 q ≤ 5 → (σ 9 q = a → σ 10 q = b → kp2 σ q (u / (σ 1 5)) (v / (σ 1 5)) = true) ∧ (σ 9 q = b → σ 10 q = a → kp2 σ q (v / (σ 1 5)) (u / (σ 1 5)) = true)), and_assoc, and_assoc]
set_option maxRecDepth 100000 in
theorem okm_s {x : Nat} (h : okm σ set k i x) : okm σ set (k + 1) i (if set.testBit k = true ∧ σ 8 k = 1 ∧ σ 9 k = i then min x (σ 10 k) else x) := by
  intro n
  have h0 := h n
  rw [fa_s (P := fun q => set.testBit q = true → σ 8 q = 1 → σ 9 q = i → n ≤ σ 10 q)]
  split
  · rename_i h2
    rw [Nat.le_min]
    constructor
    · rintro ⟨h3, h4⟩
      exact ⟨(h0.mp h3).1, (h0.mp h3).2, fun _ _ _ => h4⟩
    · rintro ⟨h3, h5, h4⟩
      exact ⟨h0.mpr ⟨h3, h5⟩, h4 h2.1 h2.2.1 h2.2.2⟩
  · rename_i h2
    constructor
    · intro h3
      exact ⟨(h0.mp h3).1, (h0.mp h3).2, fun h4 h5 h6 => absurd ⟨h4, h5, h6⟩ h2⟩
    · exact fun h3 => h0.mpr ⟨h3.1, h3.2.1⟩
set_option maxRecDepth 100000 in
theorem okm_b {x : Nat} (h : okm σ set k i x) : x ≤ (σ 1 1) := ((h x).mp (Nat.le_refl _)).1
set_option maxRecDepth 100000 in
theorem b18 (hV : (σ 1 2) * (σ 1 5) ≤ 18) {x : Nat} {P : Nat → Prop} (h : ∀ v, x.testBit v = true ↔ P v) (hp : ∀ v, P v → v < (σ 1 2) * (σ 1 5)) : x < 262144 := mask_lt (n := 18) fun i hi => by
  have := hp i ((h i).mp hi)
  omega
set_option maxRecDepth 100000 in
theorem and_m {x : Nat} (h : x < 262144) : x &&& 4294967295 = x := by
  refine Nat.eq_of_testBit_eq fun i => ?_
  rw [Nat.testBit_and]
  by_cases hi : i < 32
  · rw [tb_nn i hi, Bool.and_true]
  · rw [Nat.testBit_lt_two_pow (Nat.lt_of_lt_of_le h (show 262144 ≤ 2 ^ i from Nat.le_trans (by decide) (Nat.pow_le_pow_right (n := 2) (i := 18) (by decide) (by omega))))]
    rfl
-- the first loop: most
set_option maxRecDepth 100000 in
theorem m_174a (O : Ok σ) (H : Mo σ μ ν h0) {x1 x2 x3 : Int32} : ∃ f y4, ev xs (d + 5) 174 0 ([.ref h0.length, .int x1, .int x2, .int x3, .retAddr 9, .retAddr 9], [], hw h0 (σ 1 6) W β T) = ev xs (d + 5) 174 4 ([.ref h0.length, .int x1, .int x2, .int x3, .int (nI 0), y4], [], hw h0 (σ 1 6) (ur (ur W 5 (W 2)) 6 f) β T) ∧ ∀ i, i < 4 → f i = (σ 1 1) := by
  obtain ⟨hD1, hD2, hH1, hH2, hS, hC, hT, hR, hL, hQ⟩ := Ok_b O
  have key : ∀ k, k ≤ 4 → ∀ W, (∀ i, i < k → W 6 i = (σ 1 1)) → ∃ f, ev xs (d + 5) 174 1 ([.ref h0.length, .int x1, .int x2, .int x3, .int (nI k), .retAddr 9], [], hw h0 (σ 1 6) W β T) = ev xs (d + 5) 174 4 ([.ref h0.length, .int x1, .int x2, .int x3, .int (nI 0), .retAddr 9], [], hw h0 (σ 1 6) (ur W 6 f) β T) ∧ ∀ i, i < 4 → f i = (σ 1 1) := by
    refine lp 4 ?_ ?_
    · intro W h
      refine ⟨W 6, ?_, h⟩
      rw [ur_id, eb_174_1]
      clear h
      simp (disch := first | assumption | omega | exact st8_a (Nat.le_of_ble_eq_true rfl)) only [eb_174_3, kl_a, kl_d, kl_f, kl_i, kl_l, kl_n, kl_r, xr_1, xr_10, xr_134, xr_2, xr_27, xr_28, xr_3, xr_31, xr_33, xr_34, xr_35, xr_36, xr_37, xr_38, xr_39, xr_4, xr_40, xr_41, xr_44, xr_47, xr_48, xr_5, xr_55, xr_58, xr_64, xr_65, xr_67, xr_69, xr_74, xr_75, af_0, af_1, xt_goto, xt_ic_ge, xt_ic_ne, xt_if_eq, xt_if_ne, xt_nop, xt_re, wF_0, wF_1, wF_2, wF_3, wF_4, wF_5, wF_6, wF_7, wF_8, wF_9, wF_10, wF_11, wF_12, wF_13, wP_9, wP_10, wL_5, wC_5, wC_17, wD, hw_app, hw_len, wA_1, wA_2, wA_3, wA_4, wA_5, wA_6, wA_7, wA_8, wA_17, wW_1, wW_2, wW_3, wW_4, wW_5, wW_6, wW_7, wW_8, wW_17, mF_1 (Mo_hw H), mF_10 (Mo_hw H), mF_12 (Mo_hw H), mF_13 (Mo_hw H), mF_14 (Mo_hw H), mF_15 (Mo_hw H), mF_8 (Mo_hw H), mA_63 (Mo_hw H), mA_64 (Mo_hw H), mA_65 (Mo_hw H), mA_66 (Mo_hw H), mA_67 (Mo_hw H), mA_68 (Mo_hw H), mA_69 (Mo_hw H), mA_70 (Mo_hw H), mA_71 (Mo_hw H), xq_173_12_virtual wy_c, xq_196_63_virtualm (Mo_hw H), xq_201_63_virtualm (Mo_hw H), xq_205_63_virtualm (Mo_hw H), iN_add, iN_mul, iN_sub, iN_and, iN_or, iN_clr, iN_shl, iN_shr, tb_r1, b1_z, b1_or, b1_and, b1_or0, b1_or1, b1_0or, b1_t, b1_f, iN_lt, iN_inj, reduceIte, if_true, if_false, Nat.zero_add, Nat.add_zero, Bool.false_eq_true, Bool.true_eq_false, Nat.lt_irrefl, iN_az, not_true_eq_false, not_false_eq_true, Nat.reduceEqDiff, Nat.reduceLT, Nat.reduceAdd, Nat.reduceMul, Nat.reduceSub]
    · intro k hk ih W h
      obtain ⟨f, e, h2⟩ := ih (up W 6 k (σ 1 1)) fun i hi => by
        rw [up_s]
        by_cases e : i = k
        · rw [e, u1_s]
        · rw [u1_n e]; exact h i (by omega)
      refine ⟨f, ?_, h2⟩
      rw [up_ur, ur_ur] at e
      rw [eb_174_1]
      clear h ih h2
      simp (disch := first | assumption | omega | exact st8_a (Nat.le_of_ble_eq_true rfl)) only [hk, eb_174_2, kl_a, kl_d, kl_f, kl_i, kl_l, kl_n, kl_r, xr_1, xr_10, xr_134, xr_2, xr_27, xr_28, xr_3, xr_31, xr_33, xr_34, xr_35, xr_36, xr_37, xr_38, xr_39, xr_4, xr_40, xr_41, xr_44, xr_47, xr_48, xr_5, xr_55, xr_58, xr_64, xr_65, xr_67, xr_69, xr_74, xr_75, af_0, af_1, xt_goto, xt_ic_ge, xt_ic_ne, xt_if_eq, xt_if_ne, xt_nop, xt_re, wF_0, wF_1, wF_2, wF_3, wF_4, wF_5, wF_6, wF_7, wF_8, wF_9, wF_10, wF_11, wF_12, wF_13, wP_9, wP_10, wL_5, wC_5, wC_17, wD, hw_app, hw_len, wA_1, wA_2, wA_3, wA_4, wA_5, wA_6, wA_7, wA_8, wA_17, wW_1, wW_2, wW_3, wW_4, wW_5, wW_6, wW_7, wW_8, wW_17, mF_1 (Mo_hw H), mF_10 (Mo_hw H), mF_12 (Mo_hw H), mF_13 (Mo_hw H), mF_14 (Mo_hw H), mF_15 (Mo_hw H), mF_8 (Mo_hw H), mA_63 (Mo_hw H), mA_64 (Mo_hw H), mA_65 (Mo_hw H), mA_66 (Mo_hw H), mA_67 (Mo_hw H), mA_68 (Mo_hw H), mA_69 (Mo_hw H), mA_70 (Mo_hw H), mA_71 (Mo_hw H), xq_173_12_virtual wy_c, xq_196_63_virtualm (Mo_hw H), xq_201_63_virtualm (Mo_hw H), xq_205_63_virtualm (Mo_hw H), iN_add, iN_mul, iN_sub, iN_and, iN_or, iN_clr, iN_shl, iN_shr, tb_r1, b1_z, b1_or, b1_and, b1_or0, b1_or1, b1_0or, b1_t, b1_f, iN_lt, iN_inj, reduceIte, if_true, if_false, Nat.zero_add, Nat.add_zero, Bool.false_eq_true, Bool.true_eq_false, Nat.lt_irrefl, iN_az, not_true_eq_false, not_false_eq_true, Nat.reduceEqDiff, Nat.reduceLT, Nat.reduceAdd, Nat.reduceMul, Nat.reduceSub]
      rw [up_ur]
      exact e
  obtain ⟨f, e, h⟩ := key 0 (Nat.zero_le _) (ur W 5 (W 2)) fun i hi => absurd hi (Nat.not_lt_zero i)
  refine ⟨f, .retAddr 9, ?_, h⟩
  rw [← e]
  simp (disch := first | assumption | omega | exact st8_a (Nat.le_of_ble_eq_true rfl)) only [eb_174_0, kl_a, kl_d, kl_f, kl_i, kl_l, kl_n, kl_r, xr_1, xr_10, xr_134, xr_2, xr_27, xr_28, xr_3, xr_31, xr_33, xr_34, xr_35, xr_36, xr_37, xr_38, xr_39, xr_4, xr_40, xr_41, xr_44, xr_47, xr_48, xr_5, xr_55, xr_58, xr_64, xr_65, xr_67, xr_69, xr_74, xr_75, af_0, af_1, xt_goto, xt_ic_ge, xt_ic_ne, xt_if_eq, xt_if_ne, xt_nop, xt_re, wF_0, wF_1, wF_2, wF_3, wF_4, wF_5, wF_6, wF_7, wF_8, wF_9, wF_10, wF_11, wF_12, wF_13, wP_9, wP_10, wL_5, wC_5, wC_17, wD, hw_app, hw_len, wA_1, wA_2, wA_3, wA_4, wA_5, wA_6, wA_7, wA_8, wA_17, wW_1, wW_2, wW_3, wW_4, wW_5, wW_6, wW_7, wW_8, wW_17, mF_1 (Mo_hw H), mF_10 (Mo_hw H), mF_12 (Mo_hw H), mF_13 (Mo_hw H), mF_14 (Mo_hw H), mF_15 (Mo_hw H), mF_8 (Mo_hw H), mA_63 (Mo_hw H), mA_64 (Mo_hw H), mA_65 (Mo_hw H), mA_66 (Mo_hw H), mA_67 (Mo_hw H), mA_68 (Mo_hw H), mA_69 (Mo_hw H), mA_70 (Mo_hw H), mA_71 (Mo_hw H), xq_173_12_virtual wy_c, xq_196_63_virtualm (Mo_hw H), xq_201_63_virtualm (Mo_hw H), xq_205_63_virtualm (Mo_hw H), iN_add, iN_mul, iN_sub, iN_and, iN_or, iN_clr, iN_shl, iN_shr, tb_r1, b1_z, b1_or, b1_and, b1_or0, b1_or1, b1_0or, b1_t, b1_f, iN_lt, iN_inj, reduceIte, if_true, if_false, Nat.zero_add, Nat.add_zero, Bool.false_eq_true, Bool.true_eq_false, Nat.lt_irrefl, iN_az, not_true_eq_false, not_false_eq_true, Nat.reduceEqDiff, Nat.reduceLT, Nat.reduceAdd, Nat.reduceMul, Nat.reduceSub]
-- the second: what a lesson may have alone, without rules
set_option maxRecDepth 100000 in
theorem m_174b (O : Ok σ) (H : Mo σ μ ν h0) (hW : W 0 0 = (σ 1 2) * (σ 1 5)) (hW1 : ∀ a, a < (σ 1 6) → W 1 a = bgn σ a) {x1 : Int32} (ht : t = 4294967295 ∨ (t < (σ 1 4) ∧ y < (σ 1 0))) : ∀ k, k ≤ (σ 1 6) → ∀ g y5, (∀ l, l < k → ∀ v, (g l).testBit v = true ↔ ow σ t y l v) → ∃ f y6, ev xs (d + 5) 174 4 ([.ref h0.length, .int x1, .int (nI t), .int (nI y), .int (nI k), y5], [], hw h0 (σ 1 6) (ur W 7 g) β T) = ev xs (d + 5) 174 16 ([.ref h0.length, .int x1, .int (nI t), .int (nI y), .int (nI 0), y6], [], hw h0 (σ 1 6) (ur W 7 f) β T) ∧ (∀ l, l < (σ 1 6) → ∀ v, (f l).testBit v = true ↔ ow σ t y l v) := by
  obtain ⟨hD1, hD2, hH1, hH2, hS, hC, hT, hR, hL, hQ⟩ := Ok_b O
  have hV := vle O
  refine lp (σ 1 6) ?_ ?_
  · intro g y5 h
    refine ⟨g, y5, ?_, h⟩
    rw [eb_174_4]
    clear h
    simp (disch := first | assumption | omega | exact st8_a (Nat.le_of_ble_eq_true rfl)) only [eb_174_15, kl_a, kl_d, kl_f, kl_i, kl_l, kl_n, kl_r, xr_1, xr_10, xr_134, xr_2, xr_27, xr_28, xr_3, xr_31, xr_33, xr_34, xr_35, xr_36, xr_37, xr_38, xr_39, xr_4, xr_40, xr_41, xr_44, xr_47, xr_48, xr_5, xr_55, xr_58, xr_64, xr_65, xr_67, xr_69, xr_74, xr_75, af_0, af_1, xt_goto, xt_ic_ge, xt_ic_ne, xt_if_eq, xt_if_ne, xt_nop, xt_re, wF_0, wF_1, wF_2, wF_3, wF_4, wF_5, wF_6, wF_7, wF_8, wF_9, wF_10, wF_11, wF_12, wF_13, wP_9, wP_10, wL_5, wC_5, wC_17, wD, hw_app, hw_len, wA_1, wA_2, wA_3, wA_4, wA_5, wA_6, wA_7, wA_8, wA_17, wW_1, wW_2, wW_3, wW_4, wW_5, wW_6, wW_7, wW_8, wW_17, mF_1 (Mo_hw H), mF_10 (Mo_hw H), mF_12 (Mo_hw H), mF_13 (Mo_hw H), mF_14 (Mo_hw H), mF_15 (Mo_hw H), mF_8 (Mo_hw H), mA_63 (Mo_hw H), mA_64 (Mo_hw H), mA_65 (Mo_hw H), mA_66 (Mo_hw H), mA_67 (Mo_hw H), mA_68 (Mo_hw H), mA_69 (Mo_hw H), mA_70 (Mo_hw H), mA_71 (Mo_hw H), xq_173_12_virtual wy_c, xq_196_63_virtualm (Mo_hw H), xq_201_63_virtualm (Mo_hw H), xq_205_63_virtualm (Mo_hw H), iN_add, iN_mul, iN_sub, iN_and, iN_or, iN_clr, iN_shl, iN_shr, tb_r1, b1_z, b1_or, b1_and, b1_or0, b1_or1, b1_0or, b1_t, b1_f, iN_lt, iN_inj, reduceIte, if_true, if_false, Nat.zero_add, Nat.add_zero, Bool.false_eq_true, Bool.true_eq_false, Nat.lt_irrefl, iN_az, not_true_eq_false, not_false_eq_true, Nat.reduceEqDiff, Nat.reduceLT, Nat.reduceAdd, Nat.reduceMul, Nat.reduceSub]
  · intro k hk ih g y5 h
    have hWg : ∀ f, ur W 7 f 0 0 = (σ 1 2) * (σ 1 5) := fun f => by rw [ur_n (by decide)]; exact hW
    have hW1g : ∀ f, ur W 7 f 1 k = bgn σ k := fun f => by rw [ur_n (by decide)]; exact hW1 k hk
    obtain ⟨c1, c2, c3⟩ := Ok_l O hk
    -- the inner loop
    have inn : ∀ j, j ≤ (σ 1 2) * (σ 1 5) → ∀ x, (∀ v, x.testBit v = true ↔ v < (σ 1 2) * (σ 1 5) ∧ sty σ k (v / (σ 1 5)) = true ∧ sts σ k (v % (σ 1 5)) = true ∧ (v < j → σ 6 k = t → cov σ k (v / (σ 1 5)) &&& dm σ y = 0)) → (j = 0 ∨ σ 6 k = t) → ∃ f y6, ev xs (d + 5) 174 6 ([.ref h0.length, .int x1, .int (nI t), .int (nI y), .int (nI k), .int (nI j)], [], hw h0 (σ 1 6) (ur W 7 (u1 g k x)) β T) = ev xs (d + 5) 174 16 ([.ref h0.length, .int x1, .int (nI t), .int (nI y), .int (nI 0), y6], [], hw h0 (σ 1 6) (ur W 7 f) β T) ∧ (∀ l, l < (σ 1 6) → ∀ v, (f l).testBit v = true ↔ ow σ t y l v) := by
      have goon : ∀ j x, (∀ v, x.testBit v = true ↔ ow σ t y k v) → ∃ f y6, ev xs (d + 5) 174 4 ([.ref h0.length, .int x1, .int (nI t), .int (nI y), .int (nI (k + 1)), .int (nI j)], [], hw h0 (σ 1 6) (ur W 7 (u1 g k x)) β T) = ev xs (d + 5) 174 16 ([.ref h0.length, .int x1, .int (nI t), .int (nI y), .int (nI 0), y6], [], hw h0 (σ 1 6) (ur W 7 f) β T) ∧ (∀ l, l < (σ 1 6) → ∀ v, (f l).testBit v = true ↔ ow σ t y l v) := fun j x hx => ih (u1 g k x) (.int (nI j)) fun l hl v => by
        by_cases e : l = k
        · rw [e, u1_s]; exact hx v
        · rw [u1_n e]; exact h l (by omega) v
      refine lp ((σ 1 2) * (σ 1 5)) ?_ ?_
      · intro x hx _
        obtain ⟨f, y6, e, h1⟩ := goon ((σ 1 2) * (σ 1 5)) x fun v => by
          rw [hx v]
          unfold ow
          constructor
          · rintro ⟨h1, h2, h3, h4⟩
            exact ⟨h1, h2, h3, h4 h1⟩
          · rintro ⟨h1, h2, h3, h4⟩
            exact ⟨h1, h2, h3, fun _ => h4⟩
        refine ⟨f, y6, ?_, h1⟩
        rw [eb_174_6]
        clear hx goon ih h h1 hW1g hW1
        simp (disch := first | assumption | omega | exact st8_a (Nat.le_of_ble_eq_true rfl)) only [hWg, eb_174_14, kl_a, kl_d, kl_f, kl_i, kl_l, kl_n, kl_r, xr_1, xr_10, xr_134, xr_2, xr_27, xr_28, xr_3, xr_31, xr_33, xr_34, xr_35, xr_36, xr_37, xr_38, xr_39, xr_4, xr_40, xr_41, xr_44, xr_47, xr_48, xr_5, xr_55, xr_58, xr_64, xr_65, xr_67, xr_69, xr_74, xr_75, af_0, af_1, xt_goto, xt_ic_ge, xt_ic_ne, xt_if_eq, xt_if_ne, xt_nop, xt_re, wF_0, wF_1, wF_2, wF_3, wF_4, wF_5, wF_6, wF_7, wF_8, wF_9, wF_10, wF_11, wF_12, wF_13, wP_9, wP_10, wL_5, wC_5, wC_17, wD, hw_app, hw_len, wA_1, wA_2, wA_3, wA_4, wA_5, wA_6, wA_7, wA_8, wA_17, wW_1, wW_2, wW_3, wW_4, wW_5, wW_6, wW_7, wW_8, wW_17, mF_1 (Mo_hw H), mF_10 (Mo_hw H), mF_12 (Mo_hw H), mF_13 (Mo_hw H), mF_14 (Mo_hw H), mF_15 (Mo_hw H), mF_8 (Mo_hw H), mA_63 (Mo_hw H), mA_64 (Mo_hw H), mA_65 (Mo_hw H), mA_66 (Mo_hw H), mA_67 (Mo_hw H), mA_68 (Mo_hw H), mA_69 (Mo_hw H), mA_70 (Mo_hw H), mA_71 (Mo_hw H), xq_173_12_virtual wy_c, xq_196_63_virtualm (Mo_hw H), xq_201_63_virtualm (Mo_hw H), xq_205_63_virtualm (Mo_hw H), iN_add, iN_mul, iN_sub, iN_and, iN_or, iN_clr, iN_shl, iN_shr, tb_r1, b1_z, b1_or, b1_and, b1_or0, b1_or1, b1_0or, b1_t, b1_f, iN_lt, iN_inj, reduceIte, if_true, if_false, Nat.zero_add, Nat.add_zero, Bool.false_eq_true, Bool.true_eq_false, Nat.lt_irrefl, iN_az, not_true_eq_false, not_false_eq_true, Nat.reduceEqDiff, Nat.reduceLT, Nat.reduceAdd, Nat.reduceMul, Nat.reduceSub]
        exact e
      · intro j hj ih2 x hx hj0
        have hx18 : x < 262144 := b18 hV hx fun v hv => hv.1
        by_cases ht2 : σ 6 k = t
        · have hy : y < (σ 1 0) := by
            rcases ht with ht | ht
            · have : σ 6 k = 4294967295 := ht2.trans ht
              omega
            · exact ht.2
          have s1 := m_196 (xs := xs) (d := d + 2) O (Mo_hw (nn := (σ 1 6)) (W := ur W 7 (u1 g k x)) (β := β) (T := T) H) hk hj
          have s2 := m_205 (xs := xs) (d := d + 4) O (Mo_hw (nn := (σ 1 6)) (W := ur W 7 (u1 g k x)) (β := β) (T := T) H) hy
          have hcl := cov_lt O (l := k) (vb O hj).2.1
          have hj32 : j < 32 := by omega
          have am := and_m hx18
          by_cases hc : cov σ k (j / (σ 1 5)) &&& dm σ y = 0
          · obtain ⟨f, y6, e, h1⟩ := ih2 x (fun v => by
              rw [hx v]
              constructor
              · rintro ⟨h1, h2, h3, h4⟩
                refine ⟨h1, h2, h3, fun h5 h6 => ?_⟩
                by_cases e : v = j
                · rw [e]; exact hc
                · exact h4 (by omega) h6
              · rintro ⟨h1, h2, h3, h4⟩
                exact ⟨h1, h2, h3, fun h5 h6 => h4 (by omega) h6⟩) (.inr ht2)
            refine ⟨f, y6, ?_, h1⟩
            rw [eb_174_6]
            clear hx ih ih2 h h1 hW1g hW1 ht
            simp (disch := first | assumption | omega | exact st8_a (Nat.le_of_ble_eq_true rfl)) only [hWg, hj, eq_true ht2, s1, s2, hc, ur_up, ur_s, u1_s, am, eb_174_7, eb_174_8, eb_174_9, eb_174_10, eb_174_11, eb_174_13, kl_a, kl_d, kl_f, kl_i, kl_l, kl_n, kl_r, xr_1, xr_10, xr_134, xr_2, xr_27, xr_28, xr_3, xr_31, xr_33, xr_34, xr_35, xr_36, xr_37, xr_38, xr_39, xr_4, xr_40, xr_41, xr_44, xr_47, xr_48, xr_5, xr_55, xr_58, xr_64, xr_65, xr_67, xr_69, xr_74, xr_75, af_0, af_1, xt_goto, xt_ic_ge, xt_ic_ne, xt_if_eq, xt_if_ne, xt_nop, xt_re, wF_0, wF_1, wF_2, wF_3, wF_4, wF_5, wF_6, wF_7, wF_8, wF_9, wF_10, wF_11, wF_12, wF_13, wP_9, wP_10, wL_5, wC_5, wC_17, wD, hw_app, hw_len, wA_1, wA_2, wA_3, wA_4, wA_5, wA_6, wA_7, wA_8, wA_17, wW_1, wW_2, wW_3, wW_4, wW_5, wW_6, wW_7, wW_8, wW_17, mF_1 (Mo_hw H), mF_10 (Mo_hw H), mF_12 (Mo_hw H), mF_13 (Mo_hw H), mF_14 (Mo_hw H), mF_15 (Mo_hw H), mF_8 (Mo_hw H), mA_63 (Mo_hw H), mA_64 (Mo_hw H), mA_65 (Mo_hw H), mA_66 (Mo_hw H), mA_67 (Mo_hw H), mA_68 (Mo_hw H), mA_69 (Mo_hw H), mA_70 (Mo_hw H), mA_71 (Mo_hw H), xq_173_12_virtual wy_c, xq_196_63_virtualm (Mo_hw H), xq_201_63_virtualm (Mo_hw H), xq_205_63_virtualm (Mo_hw H), iN_add, iN_mul, iN_sub, iN_and, iN_or, iN_clr, iN_shl, iN_shr, tb_r1, b1_z, b1_or, b1_and, b1_or0, b1_or1, b1_0or, b1_t, b1_f, iN_lt, iN_inj, reduceIte, if_true, if_false, Nat.zero_add, Nat.add_zero, Bool.false_eq_true, Bool.true_eq_false, Nat.lt_irrefl, iN_az, not_true_eq_false, not_false_eq_true, Nat.reduceEqDiff, Nat.reduceLT, Nat.reduceAdd, Nat.reduceMul, Nat.reduceSub]
            rw [show u1 (u1 g k x) k x = u1 g k x from by funext z; unfold u1; split <;> rfl]
            exact e
          · obtain ⟨f, y6, e, h1⟩ := ih2 (clr x (1 <<< j)) (fun v => by
              rw [clr_b, Bool.and_eq_true, hx v, Bool.not_eq_true', decide_eq_false_iff_not]
              constructor
              · rintro ⟨⟨h1, h2, h3, h4⟩, h0⟩
                exact ⟨h1, h2, h3, fun h5 h6 => h4 (by omega) h6⟩
              · rintro ⟨h1, h2, h3, h4⟩
                refine ⟨⟨h1, h2, h3, fun h5 h6 => h4 (by omega) h6⟩, fun e => hc ?_⟩
                rw [← e]
                exact h4 (by omega) ht2) (.inr ht2)
            refine ⟨f, y6, ?_, h1⟩
            rw [eb_174_6]
            clear hx ih ih2 h h1 hW1g hW1 ht
            simp (disch := first | assumption | omega | exact st8_a (Nat.le_of_ble_eq_true rfl)) only [hWg, hj, eq_true ht2, s1, s2, hc, ur_up, ur_s, u1_s, eb_174_7, eb_174_8, eb_174_9, eb_174_10, eb_174_12, eb_174_13, kl_a, kl_d, kl_f, kl_i, kl_l, kl_n, kl_r, xr_1, xr_10, xr_134, xr_2, xr_27, xr_28, xr_3, xr_31, xr_33, xr_34, xr_35, xr_36, xr_37, xr_38, xr_39, xr_4, xr_40, xr_41, xr_44, xr_47, xr_48, xr_5, xr_55, xr_58, xr_64, xr_65, xr_67, xr_69, xr_74, xr_75, af_0, af_1, xt_goto, xt_ic_ge, xt_ic_ne, xt_if_eq, xt_if_ne, xt_nop, xt_re, wF_0, wF_1, wF_2, wF_3, wF_4, wF_5, wF_6, wF_7, wF_8, wF_9, wF_10, wF_11, wF_12, wF_13, wP_9, wP_10, wL_5, wC_5, wC_17, wD, hw_app, hw_len, wA_1, wA_2, wA_3, wA_4, wA_5, wA_6, wA_7, wA_8, wA_17, wW_1, wW_2, wW_3, wW_4, wW_5, wW_6, wW_7, wW_8, wW_17, mF_1 (Mo_hw H), mF_10 (Mo_hw H), mF_12 (Mo_hw H), mF_13 (Mo_hw H), mF_14 (Mo_hw H), mF_15 (Mo_hw H), mF_8 (Mo_hw H), mA_63 (Mo_hw H), mA_64 (Mo_hw H), mA_65 (Mo_hw H), mA_66 (Mo_hw H), mA_67 (Mo_hw H), mA_68 (Mo_hw H), mA_69 (Mo_hw H), mA_70 (Mo_hw H), mA_71 (Mo_hw H), xq_173_12_virtual wy_c, xq_196_63_virtualm (Mo_hw H), xq_201_63_virtualm (Mo_hw H), xq_205_63_virtualm (Mo_hw H), iN_add, iN_mul, iN_sub, iN_and, iN_or, iN_clr, iN_shl, iN_shr, tb_r1, b1_z, b1_or, b1_and, b1_or0, b1_or1, b1_0or, b1_t, b1_f, iN_lt, iN_inj, reduceIte, if_true, if_false, Nat.zero_add, Nat.add_zero, Bool.false_eq_true, Bool.true_eq_false, Nat.lt_irrefl, iN_az, not_true_eq_false, not_false_eq_true, Nat.reduceEqDiff, Nat.reduceLT, Nat.reduceAdd, Nat.reduceMul, Nat.reduceSub]
            rw [show u1 (u1 g k x) k (clr x (1 <<< j)) = u1 g k (clr x (1 <<< j)) from by funext z; unfold u1; split <;> rfl]
            exact e
        · obtain ⟨f, y6, e, h1⟩ := goon j x fun v => by
            rw [hx v]
            unfold ow
            constructor
            · rintro ⟨h1, h2, h3, h4⟩
              exact ⟨h1, h2, h3, fun h5 => absurd h5 ht2⟩
            · rintro ⟨h1, h2, h3, h4⟩
              exact ⟨h1, h2, h3, fun _ h5 => absurd h5 ht2⟩
          refine ⟨f, y6, ?_, h1⟩
          have htb : t < 4294967296 := by omega
          rw [eb_174_6]
          clear hx ih ih2 h h1 hW1g hW1 ht
          simp (disch := first | assumption | omega | exact st8_a (Nat.le_of_ble_eq_true rfl)) only [hWg, hj, ht2, eb_174_7, eb_174_14, kl_a, kl_d, kl_f, kl_i, kl_l, kl_n, kl_r, xr_1, xr_10, xr_134, xr_2, xr_27, xr_28, xr_3, xr_31, xr_33, xr_34, xr_35, xr_36, xr_37, xr_38, xr_39, xr_4, xr_40, xr_41, xr_44, xr_47, xr_48, xr_5, xr_55, xr_58, xr_64, xr_65, xr_67, xr_69, xr_74, xr_75, af_0, af_1, xt_goto, xt_ic_ge, xt_ic_ne, xt_if_eq, xt_if_ne, xt_nop, xt_re, wF_0, wF_1, wF_2, wF_3, wF_4, wF_5, wF_6, wF_7, wF_8, wF_9, wF_10, wF_11, wF_12, wF_13, wP_9, wP_10, wL_5, wC_5, wC_17, wD, hw_app, hw_len, wA_1, wA_2, wA_3, wA_4, wA_5, wA_6, wA_7, wA_8, wA_17, wW_1, wW_2, wW_3, wW_4, wW_5, wW_6, wW_7, wW_8, wW_17, mF_1 (Mo_hw H), mF_10 (Mo_hw H), mF_12 (Mo_hw H), mF_13 (Mo_hw H), mF_14 (Mo_hw H), mF_15 (Mo_hw H), mF_8 (Mo_hw H), mA_63 (Mo_hw H), mA_64 (Mo_hw H), mA_65 (Mo_hw H), mA_66 (Mo_hw H), mA_67 (Mo_hw H), mA_68 (Mo_hw H), mA_69 (Mo_hw H), mA_70 (Mo_hw H), mA_71 (Mo_hw H), xq_173_12_virtual wy_c, xq_196_63_virtualm (Mo_hw H), xq_201_63_virtualm (Mo_hw H), xq_205_63_virtualm (Mo_hw H), iN_add, iN_mul, iN_sub, iN_and, iN_or, iN_clr, iN_shl, iN_shr, tb_r1, b1_z, b1_or, b1_and, b1_or0, b1_or1, b1_0or, b1_t, b1_f, iN_lt, iN_inj, reduceIte, if_true, if_false, Nat.zero_add, Nat.add_zero, Bool.false_eq_true, Bool.true_eq_false, Nat.lt_irrefl, iN_az, not_true_eq_false, not_false_eq_true, Nat.reduceEqDiff, Nat.reduceLT, Nat.reduceAdd, Nat.reduceMul, Nat.reduceSub]
          exact e
    obtain ⟨f, y6, e, h1⟩ := inn 0 (Nat.zero_le _) (bgn σ k) (fun v => by
      unfold bgn
      rw [en_tb, Bool.and_eq_true, decide_eq_true_eq, Bool.and_eq_true]
      constructor
      · rintro ⟨h1, h2, h3⟩
        exact ⟨h1, h2, h3, fun h => absurd h (Nat.not_lt_zero _)⟩
      · rintro ⟨h1, h2, h3, _⟩
        exact ⟨h1, h2, h3⟩) (.inl rfl)
    refine ⟨f, y6, ?_, h1⟩
    rw [eb_174_4]
    clear inn ih h h1 hW1 ht
    simp (disch := first | assumption | omega | exact st8_a (Nat.le_of_ble_eq_true rfl)) only [hk, hW1g, ur_up, ur_s, eb_174_5, kl_a, kl_d, kl_f, kl_i, kl_l, kl_n, kl_r, xr_1, xr_10, xr_134, xr_2, xr_27, xr_28, xr_3, xr_31, xr_33, xr_34, xr_35, xr_36, xr_37, xr_38, xr_39, xr_4, xr_40, xr_41, xr_44, xr_47, xr_48, xr_5, xr_55, xr_58, xr_64, xr_65, xr_67, xr_69, xr_74, xr_75, af_0, af_1, xt_goto, xt_ic_ge, xt_ic_ne, xt_if_eq, xt_if_ne, xt_nop, xt_re, wF_0, wF_1, wF_2, wF_3, wF_4, wF_5, wF_6, wF_7, wF_8, wF_9, wF_10, wF_11, wF_12, wF_13, wP_9, wP_10, wL_5, wC_5, wC_17, wD, hw_app, hw_len, wA_1, wA_2, wA_3, wA_4, wA_5, wA_6, wA_7, wA_8, wA_17, wW_1, wW_2, wW_3, wW_4, wW_5, wW_6, wW_7, wW_8, wW_17, mF_1 (Mo_hw H), mF_10 (Mo_hw H), mF_12 (Mo_hw H), mF_13 (Mo_hw H), mF_14 (Mo_hw H), mF_15 (Mo_hw H), mF_8 (Mo_hw H), mA_63 (Mo_hw H), mA_64 (Mo_hw H), mA_65 (Mo_hw H), mA_66 (Mo_hw H), mA_67 (Mo_hw H), mA_68 (Mo_hw H), mA_69 (Mo_hw H), mA_70 (Mo_hw H), mA_71 (Mo_hw H), xq_173_12_virtual wy_c, xq_196_63_virtualm (Mo_hw H), xq_201_63_virtualm (Mo_hw H), xq_205_63_virtualm (Mo_hw H), iN_add, iN_mul, iN_sub, iN_and, iN_or, iN_clr, iN_shl, iN_shr, tb_r1, b1_z, b1_or, b1_and, b1_or0, b1_or1, b1_0or, b1_t, b1_f, iN_lt, iN_inj, reduceIte, if_true, if_false, Nat.zero_add, Nat.add_zero, Bool.false_eq_true, Bool.true_eq_false, Nat.lt_irrefl, iN_az, not_true_eq_false, not_false_eq_true, Nat.reduceEqDiff, Nat.reduceLT, Nat.reduceAdd, Nat.reduceMul, Nat.reduceSub]
    exact e
-- a rule's values alone
set_option maxRecDepth 100000 in
theorem m_174c (hL : (σ 1 6) ≤ 6) (hQ : (σ 1 7) ≤ 10) (hk : k < (σ 1 7)) (H : Mo σ μ ν h0) (hW3 : ∀ a, a < (σ 1 6) → W 3 (6 * k + a) = aln σ k a) {x1 x2 x3 : Int32} : ∀ j, j ≤ (σ 1 6) → ∀ g, (∀ l, l < j → ∀ v, (g l).testBit v = ((W 7 l).testBit v && (aln σ k l).testBit v)) → (∀ l, j ≤ l → g l = W 7 l) → ∃ f y5, ev xs (d + 5) 174 20 ([.ref h0.length, .int x1, .int x2, .int x3, .int (nI k), .int (nI j)], [], hw h0 (σ 1 6) (ur W 7 g) β T) = ev xs (d + 5) 174 22 ([.ref h0.length, .int x1, .int x2, .int x3, .int (nI k), y5], [], hw h0 (σ 1 6) (ur W 7 f) β T) ∧ ∀ l, l < (σ 1 6) → ∀ v, (f l).testBit v = ((W 7 l).testBit v && (aln σ k l).testBit v) := by
  refine lp (σ 1 6) ?_ ?_
  · intro g h1 h2
    refine ⟨g, .int (nI (σ 1 6)), ?_, h1⟩
    rw [eb_174_20]
    clear h1 h2
    simp (disch := first | assumption | omega | exact st8_a (Nat.le_of_ble_eq_true rfl)) only [kl_a, kl_d, kl_f, kl_i, kl_l, kl_n, kl_r, xr_1, xr_10, xr_134, xr_2, xr_27, xr_28, xr_3, xr_31, xr_33, xr_34, xr_35, xr_36, xr_37, xr_38, xr_39, xr_4, xr_40, xr_41, xr_44, xr_47, xr_48, xr_5, xr_55, xr_58, xr_64, xr_65, xr_67, xr_69, xr_74, xr_75, af_0, af_1, xt_goto, xt_ic_ge, xt_ic_ne, xt_if_eq, xt_if_ne, xt_nop, xt_re, wF_0, wF_1, wF_2, wF_3, wF_4, wF_5, wF_6, wF_7, wF_8, wF_9, wF_10, wF_11, wF_12, wF_13, wP_9, wP_10, wL_5, wC_5, wC_17, wD, hw_app, hw_len, wA_1, wA_2, wA_3, wA_4, wA_5, wA_6, wA_7, wA_8, wA_17, wW_1, wW_2, wW_3, wW_4, wW_5, wW_6, wW_7, wW_8, wW_17, mF_1 (Mo_hw H), mF_10 (Mo_hw H), mF_12 (Mo_hw H), mF_13 (Mo_hw H), mF_14 (Mo_hw H), mF_15 (Mo_hw H), mF_8 (Mo_hw H), mA_63 (Mo_hw H), mA_64 (Mo_hw H), mA_65 (Mo_hw H), mA_66 (Mo_hw H), mA_67 (Mo_hw H), mA_68 (Mo_hw H), mA_69 (Mo_hw H), mA_70 (Mo_hw H), mA_71 (Mo_hw H), xq_173_12_virtual wy_c, xq_196_63_virtualm (Mo_hw H), xq_201_63_virtualm (Mo_hw H), xq_205_63_virtualm (Mo_hw H), iN_add, iN_mul, iN_sub, iN_and, iN_or, iN_clr, iN_shl, iN_shr, tb_r1, b1_z, b1_or, b1_and, b1_or0, b1_or1, b1_0or, b1_t, b1_f, iN_lt, iN_inj, reduceIte, if_true, if_false, Nat.zero_add, Nat.add_zero, Bool.false_eq_true, Bool.true_eq_false, Nat.lt_irrefl, iN_az, not_true_eq_false, not_false_eq_true, Nat.reduceEqDiff, Nat.reduceLT, Nat.reduceAdd, Nat.reduceMul, Nat.reduceSub]
  · intro j hj ih g h1 h2
    have h3 : ur W 7 g 3 (6 * k + j) = aln σ k j := by rw [ur_n (by decide)]; exact hW3 j hj
    obtain ⟨f, y5, e, h4⟩ := ih (u1 g j (g j &&& aln σ k j)) (fun l hl v => by
      by_cases e : l = j
      · rw [e, u1_s, Nat.testBit_and, h2 j (Nat.le_refl _)]
      · rw [u1_n e]; exact h1 l (by omega) v) (fun l hl => by rw [u1_n (by omega)]; exact h2 l (by omega))
    refine ⟨f, y5, ?_, h4⟩
    have hx : 6 * k + j < 60 := by omega
    rw [eb_174_20]
    clear h1 h2 h4 ih
    simp (disch := first | assumption | omega | exact st8_a (Nat.le_of_ble_eq_true rfl)) only [hj, ur_up, ur_s, h3, eb_174_21, kl_a, kl_d, kl_f, kl_i, kl_l, kl_n, kl_r, xr_1, xr_10, xr_134, xr_2, xr_27, xr_28, xr_3, xr_31, xr_33, xr_34, xr_35, xr_36, xr_37, xr_38, xr_39, xr_4, xr_40, xr_41, xr_44, xr_47, xr_48, xr_5, xr_55, xr_58, xr_64, xr_65, xr_67, xr_69, xr_74, xr_75, af_0, af_1, xt_goto, xt_ic_ge, xt_ic_ne, xt_if_eq, xt_if_ne, xt_nop, xt_re, wF_0, wF_1, wF_2, wF_3, wF_4, wF_5, wF_6, wF_7, wF_8, wF_9, wF_10, wF_11, wF_12, wF_13, wP_9, wP_10, wL_5, wC_5, wC_17, wD, hw_app, hw_len, wA_1, wA_2, wA_3, wA_4, wA_5, wA_6, wA_7, wA_8, wA_17, wW_1, wW_2, wW_3, wW_4, wW_5, wW_6, wW_7, wW_8, wW_17, mF_1 (Mo_hw H), mF_10 (Mo_hw H), mF_12 (Mo_hw H), mF_13 (Mo_hw H), mF_14 (Mo_hw H), mF_15 (Mo_hw H), mF_8 (Mo_hw H), mA_63 (Mo_hw H), mA_64 (Mo_hw H), mA_65 (Mo_hw H), mA_66 (Mo_hw H), mA_67 (Mo_hw H), mA_68 (Mo_hw H), mA_69 (Mo_hw H), mA_70 (Mo_hw H), mA_71 (Mo_hw H), xq_173_12_virtual wy_c, xq_196_63_virtualm (Mo_hw H), xq_201_63_virtualm (Mo_hw H), xq_205_63_virtualm (Mo_hw H), iN_add, iN_mul, iN_sub, iN_and, iN_or, iN_clr, iN_shl, iN_shr, tb_r1, b1_z, b1_or, b1_and, b1_or0, b1_or1, b1_0or, b1_t, b1_f, iN_lt, iN_inj, reduceIte, if_true, if_false, Nat.zero_add, Nat.add_zero, Bool.false_eq_true, Bool.true_eq_false, Nat.lt_irrefl, iN_az, not_true_eq_false, not_false_eq_true, Nat.reduceEqDiff, Nat.reduceLT, Nat.reduceAdd, Nat.reduceMul, Nat.reduceSub]
    exact e
-- a rule of two
set_option maxRecDepth 100000 in
theorem m_174d (O : Ok σ) (hk : k < (σ 1 7)) (H : Mo σ μ ν h0) (hW : W 0 0 = (σ 1 2) * (σ 1 5)) (hW4 : ∀ u, 2 ≤ σ 8 k → σ 8 k ≤ 5 → u < (σ 1 2) * (σ 1 5) → W 4 (36 * k + u) = of1 σ k u ∧ W 4 (18 * (2 * k + 1) + u) = of2 σ k u) (h2 : 2 ≤ σ 8 k) (h5 : σ 8 k ≤ 5) {x1 x2 x3 : Int32} : ∀ u, u ≤ (σ 1 2) * (σ 1 5) → ∀ g, (∀ x, x < u → (∀ v, (g (wix (σ 9 k) x (σ 10 k))).testBit v = ((W 5 (wix (σ 9 k) x (σ 10 k))).testBit v && (of1 σ k x).testBit v)) ∧ ∀ v, (g (wix (σ 10 k) x (σ 9 k))).testBit v = ((W 5 (wix (σ 10 k) x (σ 9 k))).testBit v && (of2 σ k x).testBit v)) → (∀ j, (∀ x, x < u → j ≠ wix (σ 9 k) x (σ 10 k) ∧ j ≠ wix (σ 10 k) x (σ 9 k)) → g j = W 5 j) → ∃ f y5, ev xs (d + 5) 174 25 ([.ref h0.length, .int x1, .int x2, .int x3, .int (nI k), .int (nI u)], [], hw h0 (σ 1 6) (ur W 5 g) β T) = ev xs (d + 5) 174 31 ([.ref h0.length, .int x1, .int x2, .int x3, .int (nI k), y5], [], hw h0 (σ 1 6) (ur W 5 f) β T) ∧ (∀ x, x < (σ 1 2) * (σ 1 5) → (∀ v, (f (wix (σ 9 k) x (σ 10 k))).testBit v = ((W 5 (wix (σ 9 k) x (σ 10 k))).testBit v && (of1 σ k x).testBit v)) ∧ ∀ v, (f (wix (σ 10 k) x (σ 9 k))).testBit v = ((W 5 (wix (σ 10 k) x (σ 9 k))).testBit v && (of2 σ k x).testBit v)) ∧ ∀ j, (∀ x, x < (σ 1 2) * (σ 1 5) → j ≠ wix (σ 9 k) x (σ 10 k) ∧ j ≠ wix (σ 10 k) x (σ 9 k)) → f j = W 5 j := by
  obtain ⟨hD1, hD2, hH1, hH2, hS, hC, hT, hR, hL, hQ⟩ := Ok_b O
  have hV := vle O
  obtain ⟨ha, hb, hab⟩ := rk_2 O hk (by omega)
  refine lp ((σ 1 2) * (σ 1 5)) ?_ ?_
  · intro g h1 h3
    refine ⟨g, .int (nI ((σ 1 2) * (σ 1 5))), ?_, h1, h3⟩
    have hW0 : ur W 5 g 0 0 = (σ 1 2) * (σ 1 5) := by rw [ur_n (by decide)]; exact hW
    rw [eb_174_25]
    clear h1 h3
    simp (disch := first | assumption | omega | exact st8_a (Nat.le_of_ble_eq_true rfl)) only [hW0, kl_a, kl_d, kl_f, kl_i, kl_l, kl_n, kl_r, xr_1, xr_10, xr_134, xr_2, xr_27, xr_28, xr_3, xr_31, xr_33, xr_34, xr_35, xr_36, xr_37, xr_38, xr_39, xr_4, xr_40, xr_41, xr_44, xr_47, xr_48, xr_5, xr_55, xr_58, xr_64, xr_65, xr_67, xr_69, xr_74, xr_75, af_0, af_1, xt_goto, xt_ic_ge, xt_ic_ne, xt_if_eq, xt_if_ne, xt_nop, xt_re, wF_0, wF_1, wF_2, wF_3, wF_4, wF_5, wF_6, wF_7, wF_8, wF_9, wF_10, wF_11, wF_12, wF_13, wP_9, wP_10, wL_5, wC_5, wC_17, wD, hw_app, hw_len, wA_1, wA_2, wA_3, wA_4, wA_5, wA_6, wA_7, wA_8, wA_17, wW_1, wW_2, wW_3, wW_4, wW_5, wW_6, wW_7, wW_8, wW_17, mF_1 (Mo_hw H), mF_10 (Mo_hw H), mF_12 (Mo_hw H), mF_13 (Mo_hw H), mF_14 (Mo_hw H), mF_15 (Mo_hw H), mF_8 (Mo_hw H), mA_63 (Mo_hw H), mA_64 (Mo_hw H), mA_65 (Mo_hw H), mA_66 (Mo_hw H), mA_67 (Mo_hw H), mA_68 (Mo_hw H), mA_69 (Mo_hw H), mA_70 (Mo_hw H), mA_71 (Mo_hw H), xq_173_12_virtual wy_c, xq_196_63_virtualm (Mo_hw H), xq_201_63_virtualm (Mo_hw H), xq_205_63_virtualm (Mo_hw H), iN_add, iN_mul, iN_sub, iN_and, iN_or, iN_clr, iN_shl, iN_shr, tb_r1, b1_z, b1_or, b1_and, b1_or0, b1_or1, b1_0or, b1_t, b1_f, iN_lt, iN_inj, reduceIte, if_true, if_false, Nat.zero_add, Nat.add_zero, Bool.false_eq_true, Bool.true_eq_false, Nat.lt_irrefl, iN_az, not_true_eq_false, not_false_eq_true, Nat.reduceEqDiff, Nat.reduceLT, Nat.reduceAdd, Nat.reduceMul, Nat.reduceSub]
  · intro u hu ih g h1 h3
    have hW0 : ∀ f, ur W 5 f 0 0 = (σ 1 2) * (σ 1 5) := fun f => by rw [ur_n (by decide)]; exact hW
    have h41 : ∀ f, ur W 5 f 4 (36 * k + u) = of1 σ k u := fun f => by rw [ur_n (by decide)]; exact (hW4 u h2 h5 hu).1
    have h42 : ∀ f, ur W 5 f 4 (18 * (2 * k + 1) + u) = of2 σ k u := fun f => by rw [ur_n (by decide)]; exact (hW4 u h2 h5 hu).2
    have n1 : ∀ x, x < u → wix (σ 9 k) u (σ 10 k) ≠ wix (σ 9 k) x (σ 10 k) ∧ wix (σ 9 k) u (σ 10 k) ≠ wix (σ 10 k) x (σ 9 k) := fun x hx => ⟨fun z => by have := wix_i (by omega) (by omega) (by omega) (by omega) z; omega, fun z => by have := wix_i (by omega) (by omega) (by omega) (by omega) z; omega⟩
    have n2 : ∀ x, x < u → wix (σ 10 k) u (σ 9 k) ≠ wix (σ 9 k) x (σ 10 k) ∧ wix (σ 10 k) u (σ 9 k) ≠ wix (σ 10 k) x (σ 9 k) := fun x hx => ⟨fun z => by have := wix_i (by omega) (by omega) (by omega) (by omega) z; omega, fun z => by have := wix_i (by omega) (by omega) (by omega) (by omega) z; omega⟩
    have n3 : wix (σ 10 k) u (σ 9 k) ≠ wix (σ 9 k) u (σ 10 k) := fun z => by have := wix_i (by omega) (by omega) (by omega) (by omega) z; omega
    obtain ⟨f, y5, e, h6, h7⟩ := ih (u1 (u1 g (wix (σ 9 k) u (σ 10 k)) (g (wix (σ 9 k) u (σ 10 k)) &&& of1 σ k u)) (wix (σ 10 k) u (σ 9 k)) (g (wix (σ 10 k) u (σ 9 k)) &&& of2 σ k u)) (fun x hx => by
      by_cases e : x = u
      · rw [e]
        refine ⟨fun v => ?_, fun v => ?_⟩
        · rw [u1_n n3.symm, u1_s, Nat.testBit_and, h3 _ n1]
        · rw [u1_s, Nat.testBit_and, h3 _ n2]
      · have hx2 : x < u := by omega
        refine ⟨fun v => ?_, fun v => ?_⟩
        · rw [u1_n (n2 x hx2).1.symm, u1_n (n1 x hx2).1.symm]
          exact (h1 x hx2).1 v
        · rw [u1_n (n2 x hx2).2.symm, u1_n (n1 x hx2).2.symm]
          exact (h1 x hx2).2 v) (fun j hj => by
      rw [u1_n (hj u (Nat.lt_succ_self u)).2, u1_n (hj u (Nat.lt_succ_self u)).1]
      exact h3 j fun x hx => hj x (by omega))
    refine ⟨f, y5, ?_, h6, h7⟩
    have e1 := m_201 (xs := xs) (d := d + 4) O (Mo_hw (nn := (σ 1 6)) (W := ur W 5 g) (β := β) (T := T) H) hk
    rw [decide_eq_true h2, decide_eq_true h5] at e1
    have w1 : wix (σ 9 k) u (σ 10 k) < 648 := by unfold wix; omega
    have w2 : wix (σ 10 k) u (σ 9 k) < 648 := by unfold wix; omega
    have w3 : 36 * k + u < 360 := by omega
    have w4 : 18 * (2 * k + 1) + u < 360 := by omega
    have n4 : u1 g (wix (σ 9 k) u (σ 10 k)) (g (wix (σ 9 k) u (σ 10 k)) &&& of1 σ k u) (wix (σ 10 k) u (σ 9 k)) = g (wix (σ 10 k) u (σ 9 k)) := u1_n n3
    rw [eb_174_25]
    clear h1 h3 h6 h7 ih n1 n2 n3 hW4 hW
    simp (disch := first | assumption | omega | exact st8_a (Nat.le_of_ble_eq_true rfl)) only [hW0, hu, e1, Bool.and_self, m_173, ur_up, ur_s, h41, h42, n4, eb_174_26, eb_174_27, eb_174_28, eb_174_29, eb_174_30, kl_a, kl_d, kl_f, kl_i, kl_l, kl_n, kl_r, xr_1, xr_10, xr_134, xr_2, xr_27, xr_28, xr_3, xr_31, xr_33, xr_34, xr_35, xr_36, xr_37, xr_38, xr_39, xr_4, xr_40, xr_41, xr_44, xr_47, xr_48, xr_5, xr_55, xr_58, xr_64, xr_65, xr_67, xr_69, xr_74, xr_75, af_0, af_1, xt_goto, xt_ic_ge, xt_ic_ne, xt_if_eq, xt_if_ne, xt_nop, xt_re, wF_0, wF_1, wF_2, wF_3, wF_4, wF_5, wF_6, wF_7, wF_8, wF_9, wF_10, wF_11, wF_12, wF_13, wP_9, wP_10, wL_5, wC_5, wC_17, wD, hw_app, hw_len, wA_1, wA_2, wA_3, wA_4, wA_5, wA_6, wA_7, wA_8, wA_17, wW_1, wW_2, wW_3, wW_4, wW_5, wW_6, wW_7, wW_8, wW_17, mF_1 (Mo_hw H), mF_10 (Mo_hw H), mF_12 (Mo_hw H), mF_13 (Mo_hw H), mF_14 (Mo_hw H), mF_15 (Mo_hw H), mF_8 (Mo_hw H), mA_63 (Mo_hw H), mA_64 (Mo_hw H), mA_65 (Mo_hw H), mA_66 (Mo_hw H), mA_67 (Mo_hw H), mA_68 (Mo_hw H), mA_69 (Mo_hw H), mA_70 (Mo_hw H), mA_71 (Mo_hw H), xq_173_12_virtual wy_c, xq_196_63_virtualm (Mo_hw H), xq_201_63_virtualm (Mo_hw H), xq_205_63_virtualm (Mo_hw H), iN_add, iN_mul, iN_sub, iN_and, iN_or, iN_clr, iN_shl, iN_shr, tb_r1, b1_z, b1_or, b1_and, b1_or0, b1_or1, b1_0or, b1_t, b1_f, iN_lt, iN_inj, reduceIte, if_true, if_false, Nat.zero_add, Nat.add_zero, Bool.false_eq_true, Bool.true_eq_false, Nat.lt_irrefl, iN_az, not_true_eq_false, not_false_eq_true, Nat.reduceEqDiff, Nat.reduceLT, Nat.reduceAdd, Nat.reduceMul, Nat.reduceSub]
    exact e
set_option maxRecDepth 100000 in
theorem WT_n (h : WT σ set k t y W) (hs : set.testBit k = false) : WT σ set (k + 1) t y W := by
  obtain ⟨h1, h2, h3⟩ := h
  refine ⟨fun l hl v => ?_, fun a b u ha hb hab hu v => ?_, fun i hi => ?_⟩
  · rw [h1 l hl v, okw_s, hs]
    exact ⟨fun h => ⟨h, fun z => by cases z⟩, fun h => h.1⟩
  · rw [h2 a b u ha hb hab hu v, okp_s, hs]
    exact ⟨fun h => ⟨h, fun z => by cases z⟩, fun h => h.1⟩
  · have := okm_s (h3 i hi)
    rw [if_neg (fun z => by rw [hs] at z; exact absurd z.1 (by decide))] at this
    exact this
set_option maxRecDepth 100000 in
theorem aln_tb : (aln σ k l).testBit v = true ↔ v < (σ 1 2) * (σ 1 5) ∧ ka σ k l v = true := by
  unfold aln
  rw [en_tb, Bool.and_eq_true, decide_eq_true_eq]
set_option maxRecDepth 100000 in
theorem WT_s (O : Ok σ) (hk : k < (σ 1 7)) (h : WT σ set k t y W) (hs : set.testBit k = true) {W2 : Nat → Nat → Nat} (h7 : ∀ l, l < (σ 1 6) → ∀ v, (W2 7 l).testBit v = ((W 7 l).testBit v && (aln σ k l).testBit v)) (h6 : ∀ i, i < 4 → W2 6 i = if set.testBit k = true ∧ σ 8 k = 1 ∧ σ 9 k = i then min (W 6 i) (σ 10 k) else W 6 i) (h51 : 2 ≤ σ 8 k → σ 8 k ≤ 5 → (∀ x, x < (σ 1 2) * (σ 1 5) → (∀ v, (W2 5 (wix (σ 9 k) x (σ 10 k))).testBit v = ((W 5 (wix (σ 9 k) x (σ 10 k))).testBit v && (of1 σ k x).testBit v)) ∧ ∀ v, (W2 5 (wix (σ 10 k) x (σ 9 k))).testBit v = ((W 5 (wix (σ 10 k) x (σ 9 k))).testBit v && (of2 σ k x).testBit v)) ∧ ∀ j, (∀ x, x < (σ 1 2) * (σ 1 5) → j ≠ wix (σ 9 k) x (σ 10 k) ∧ j ≠ wix (σ 10 k) x (σ 9 k)) → W2 5 j = W 5 j) (h50 : ¬ (2 ≤ σ 8 k ∧ σ 8 k ≤ 5) → W2 5 = W 5) : WT σ set (k + 1) t y W2 := by
  obtain ⟨hD1, hD2, hH1, hH2, hS, hC, hT, hR, hL, hQ⟩ := Ok_b O
  have hV := vle O
  obtain ⟨h1, h2, h3⟩ := h
  refine ⟨fun l hl v => ?_, fun a b u ha hb hab hu v => ?_, fun i hi => ?_⟩
  · rw [h7 l hl v, Bool.and_eq_true, h1 l hl v, okw_s, aln_tb]
    exact ⟨fun h => ⟨h.1, fun _ => h.2.2⟩, fun h => ⟨h.1, h.1.1.1, h.2 hs⟩⟩
  · rw [okp_s, ← h2 a b u ha hb hab hu v]
    by_cases h22 : 2 ≤ σ 8 k ∧ σ 8 k ≤ 5
    · obtain ⟨ra6, rb6, rab⟩ := rk_2 O hk (by omega)
      obtain ⟨g1, g2⟩ := h51 h22.1 h22.2
      by_cases e1 : σ 9 k = a ∧ σ 10 k = b
      · obtain ⟨e1, e2⟩ := e1
        subst e1 e2
        rw [(g1 u hu).1 v, Bool.and_eq_true]
        unfold of1
        rw [en_tb, Bool.and_eq_true, decide_eq_true_eq]
        constructor
        · rintro ⟨h3, h4, h5⟩
          exact ⟨h3, fun _ _ _ => ⟨fun _ _ => h5, fun z => absurd z rab⟩⟩
        · rintro ⟨h3, h4⟩
          exact ⟨h3, ((h2 _ _ u ha hb hab hu v).mp h3).1, (h4 hs h22.1 h22.2).1 rfl rfl⟩
      · by_cases e2 : σ 9 k = b ∧ σ 10 k = a
        · obtain ⟨e2, e3⟩ := e2
          subst e2 e3
          rw [(g1 u hu).2 v, Bool.and_eq_true]
          unfold of2
          rw [en_tb, Bool.and_eq_true, decide_eq_true_eq]
          constructor
          · rintro ⟨h3, h4, h5⟩
            exact ⟨h3, fun _ _ _ => ⟨fun z => absurd z rab, fun _ _ => h5⟩⟩
          · rintro ⟨h3, h4⟩
            exact ⟨h3, ((h2 _ _ u ha hb hab hu v).mp h3).1, (h4 hs h22.1 h22.2).2 rfl rfl⟩
        · rw [g2 _ fun x hx => ⟨fun z => by have := wix_i (by omega) (by omega) (by omega) (by omega) z; exact e1 ⟨this.1.symm, this.2.2.symm⟩, fun z => by have := wix_i (by omega) (by omega) (by omega) (by omega) z; exact e2 ⟨this.2.2.symm, this.1.symm⟩⟩]
          exact ⟨fun h => ⟨h, fun _ _ _ => ⟨fun z1 z2 => absurd ⟨z1, z2⟩ e1, fun z1 z2 => absurd ⟨z1, z2⟩ e2⟩⟩, fun h => h.1⟩
    · rw [h50 h22]
      exact ⟨fun h => ⟨h, fun _ z1 z2 => absurd ⟨z1, z2⟩ h22⟩, fun h => h.1⟩
  · rw [h6 i hi]
    exact okm_s (h3 i hi)
set_option maxRecDepth 100000 in
theorem m_174q (O : Ok σ) (H : Mo σ μ ν h0) (hset : set < 1024) {x2 x3 : Int32} : ∀ k, k ≤ (σ 1 7) → ∀ W y5, WB σ W → WT σ set k t y W → ∃ W', ev xs (d + 5) 174 16 ([.ref h0.length, .int (nI set), .int x2, .int x3, .int (nI k), y5], [], hw h0 (σ 1 6) W β T) = some (.inl none, hw h0 (σ 1 6) W' β T) ∧ (∀ b, b ≠ 5 → b ≠ 6 → b ≠ 7 → W' b = W b) ∧ WT σ set (σ 1 7) t y W' := by
  obtain ⟨hD1, hD2, hH1, hH2, hS, hC, hT, hR, hL, hQ⟩ := Ok_b O
  have hV := vle O
  refine lp (σ 1 7) ?_ ?_
  · intro W y5 hB hT
    refine ⟨W, ?_, fun _ _ _ _ => rfl, hT⟩
    rw [eb_174_16]
    clear hB hT
    simp (disch := first | assumption | omega | exact st8_a (Nat.le_of_ble_eq_true rfl)) only [eb_174_32, kl_a, kl_d, kl_f, kl_i, kl_l, kl_n, kl_r, xr_1, xr_10, xr_134, xr_2, xr_27, xr_28, xr_3, xr_31, xr_33, xr_34, xr_35, xr_36, xr_37, xr_38, xr_39, xr_4, xr_40, xr_41, xr_44, xr_47, xr_48, xr_5, xr_55, xr_58, xr_64, xr_65, xr_67, xr_69, xr_74, xr_75, af_0, af_1, xt_goto, xt_ic_ge, xt_ic_ne, xt_if_eq, xt_if_ne, xt_nop, xt_re, wF_0, wF_1, wF_2, wF_3, wF_4, wF_5, wF_6, wF_7, wF_8, wF_9, wF_10, wF_11, wF_12, wF_13, wP_9, wP_10, wL_5, wC_5, wC_17, wD, hw_app, hw_len, wA_1, wA_2, wA_3, wA_4, wA_5, wA_6, wA_7, wA_8, wA_17, wW_1, wW_2, wW_3, wW_4, wW_5, wW_6, wW_7, wW_8, wW_17, mF_1 (Mo_hw H), mF_10 (Mo_hw H), mF_12 (Mo_hw H), mF_13 (Mo_hw H), mF_14 (Mo_hw H), mF_15 (Mo_hw H), mF_8 (Mo_hw H), mA_63 (Mo_hw H), mA_64 (Mo_hw H), mA_65 (Mo_hw H), mA_66 (Mo_hw H), mA_67 (Mo_hw H), mA_68 (Mo_hw H), mA_69 (Mo_hw H), mA_70 (Mo_hw H), mA_71 (Mo_hw H), xq_173_12_virtual wy_c, xq_196_63_virtualm (Mo_hw H), xq_201_63_virtualm (Mo_hw H), xq_205_63_virtualm (Mo_hw H), iN_add, iN_mul, iN_sub, iN_and, iN_or, iN_clr, iN_shl, iN_shr, tb_r1, b1_z, b1_or, b1_and, b1_or0, b1_or1, b1_0or, b1_t, b1_f, iN_lt, iN_inj, reduceIte, if_true, if_false, Nat.zero_add, Nat.add_zero, Bool.false_eq_true, Bool.true_eq_false, Nat.lt_irrefl, iN_az, not_true_eq_false, not_false_eq_true, Nat.reduceEqDiff, Nat.reduceLT, Nat.reduceAdd, Nat.reduceMul, Nat.reduceSub]
  · intro k hk ih W y5 hB hT
    obtain ⟨b0, b1', b2, b3, b4⟩ := hB
    cases hs : set.testBit k
    · obtain ⟨W', e, f, h⟩ := ih W y5 ⟨b0, b1', b2, b3, b4⟩ (WT_n hT hs)
      refine ⟨W', ?_, f, h⟩
      rw [eb_174_16]
      clear hT ih f h b1' b2 b3 b4
      simp (disch := first | assumption | omega | exact st8_a (Nat.le_of_ble_eq_true rfl)) only [hk, hs, eb_174_17, eb_174_18, eb_174_31, kl_a, kl_d, kl_f, kl_i, kl_l, kl_n, kl_r, xr_1, xr_10, xr_134, xr_2, xr_27, xr_28, xr_3, xr_31, xr_33, xr_34, xr_35, xr_36, xr_37, xr_38, xr_39, xr_4, xr_40, xr_41, xr_44, xr_47, xr_48, xr_5, xr_55, xr_58, xr_64, xr_65, xr_67, xr_69, xr_74, xr_75, af_0, af_1, xt_goto, xt_ic_ge, xt_ic_ne, xt_if_eq, xt_if_ne, xt_nop, xt_re, wF_0, wF_1, wF_2, wF_3, wF_4, wF_5, wF_6, wF_7, wF_8, wF_9, wF_10, wF_11, wF_12, wF_13, wP_9, wP_10, wL_5, wC_5, wC_17, wD, hw_app, hw_len, wA_1, wA_2, wA_3, wA_4, wA_5, wA_6, wA_7, wA_8, wA_17, wW_1, wW_2, wW_3, wW_4, wW_5, wW_6, wW_7, wW_8, wW_17, mF_1 (Mo_hw H), mF_10 (Mo_hw H), mF_12 (Mo_hw H), mF_13 (Mo_hw H), mF_14 (Mo_hw H), mF_15 (Mo_hw H), mF_8 (Mo_hw H), mA_63 (Mo_hw H), mA_64 (Mo_hw H), mA_65 (Mo_hw H), mA_66 (Mo_hw H), mA_67 (Mo_hw H), mA_68 (Mo_hw H), mA_69 (Mo_hw H), mA_70 (Mo_hw H), mA_71 (Mo_hw H), xq_173_12_virtual wy_c, xq_196_63_virtualm (Mo_hw H), xq_201_63_virtualm (Mo_hw H), xq_205_63_virtualm (Mo_hw H), iN_add, iN_mul, iN_sub, iN_and, iN_or, iN_clr, iN_shl, iN_shr, tb_r1, b1_z, b1_or, b1_and, b1_or0, b1_or1, b1_0or, b1_t, b1_f, iN_lt, iN_inj, reduceIte, if_true, if_false, Nat.zero_add, Nat.add_zero, Bool.false_eq_true, Bool.true_eq_false, Nat.lt_irrefl, iN_az, not_true_eq_false, not_false_eq_true, Nat.reduceEqDiff, Nat.reduceLT, Nat.reduceAdd, Nat.reduceMul, Nat.reduceSub]
      exact e
    · obtain ⟨f, y7, e1, hf⟩ := m_174c (xs := xs) (d := d) (β := β) (T := T) (W := W) (x1 := nI set) (x2 := x2) (x3 := x3) hL hQ hk H (fun a ha => b3 k a hk ha) 0 (Nat.zero_le _) (W 7) (fun l hl => absurd hl (Nat.not_lt_zero l)) (fun _ _ => rfl)
      rw [ur_id] at e1
      -- the most of a teacher
      have hmost : ∃ W2, ev xs (d + 5) 174 22 ([.ref h0.length, .int (nI set), .int x2, .int x3, .int (nI k), y7], [], hw h0 (σ 1 6) (ur W 7 f) β T) = ev xs (d + 5) 174 25 ([.ref h0.length, .int (nI set), .int x2, .int x3, .int (nI k), .int (nI 0)], [], hw h0 (σ 1 6) W2 β T) ∧ (∀ b, b ≠ 6 → W2 b = ur W 7 f b) ∧ ∀ i, i < 4 → W2 6 i = if set.testBit k = true ∧ σ 8 k = 1 ∧ σ 9 k = i then min (W 6 i) (σ 10 k) else W 6 i := by
        have k8 := rk_lt O hk
        by_cases h1 : σ 8 k = 1
        · obtain ⟨r1, r2⟩ := rk_1 O hk h1
          have r3 : σ 9 k < 4 := by omega
          have r4 := okm_b (hT.2.2 (σ 9 k) r3)
          have r5 : ur W 7 f 6 = W 6 := ur_n (by decide)
          refine ⟨up (ur W 7 f) 6 (σ 9 k) (min (W 6 (σ 9 k)) (σ 10 k)), ?_, fun b hb => up_n hb, fun i hi => ?_⟩
          · rw [eb_174_22]
            clear hT ih hf b1' b2 b3 b4
            simp (disch := first | assumption | omega | exact st8_a (Nat.le_of_ble_eq_true rfl)) only [h1, r5, eb_174_23, eb_174_24, kl_a, kl_d, kl_f, kl_i, kl_l, kl_n, kl_r, xr_1, xr_10, xr_134, xr_2, xr_27, xr_28, xr_3, xr_31, xr_33, xr_34, xr_35, xr_36, xr_37, xr_38, xr_39, xr_4, xr_40, xr_41, xr_44, xr_47, xr_48, xr_5, xr_55, xr_58, xr_64, xr_65, xr_67, xr_69, xr_74, xr_75, af_0, af_1, xt_goto, xt_ic_ge, xt_ic_ne, xt_if_eq, xt_if_ne, xt_nop, xt_re, wF_0, wF_1, wF_2, wF_3, wF_4, wF_5, wF_6, wF_7, wF_8, wF_9, wF_10, wF_11, wF_12, wF_13, wP_9, wP_10, wL_5, wC_5, wC_17, wD, hw_app, hw_len, wA_1, wA_2, wA_3, wA_4, wA_5, wA_6, wA_7, wA_8, wA_17, wW_1, wW_2, wW_3, wW_4, wW_5, wW_6, wW_7, wW_8, wW_17, mF_1 (Mo_hw H), mF_10 (Mo_hw H), mF_12 (Mo_hw H), mF_13 (Mo_hw H), mF_14 (Mo_hw H), mF_15 (Mo_hw H), mF_8 (Mo_hw H), mA_63 (Mo_hw H), mA_64 (Mo_hw H), mA_65 (Mo_hw H), mA_66 (Mo_hw H), mA_67 (Mo_hw H), mA_68 (Mo_hw H), mA_69 (Mo_hw H), mA_70 (Mo_hw H), mA_71 (Mo_hw H), xq_173_12_virtual wy_c, xq_196_63_virtualm (Mo_hw H), xq_201_63_virtualm (Mo_hw H), xq_205_63_virtualm (Mo_hw H), iN_add, iN_mul, iN_sub, iN_and, iN_or, iN_clr, iN_shl, iN_shr, tb_r1, b1_z, b1_or, b1_and, b1_or0, b1_or1, b1_0or, b1_t, b1_f, iN_lt, iN_inj, reduceIte, if_true, if_false, Nat.zero_add, Nat.add_zero, Bool.false_eq_true, Bool.true_eq_false, Nat.lt_irrefl, iN_az, not_true_eq_false, not_false_eq_true, Nat.reduceEqDiff, Nat.reduceLT, Nat.reduceAdd, Nat.reduceMul, Nat.reduceSub]
          · rw [up_s]
            by_cases e : i = σ 9 k
            · rw [e, u1_s, if_pos ⟨hs, h1, rfl⟩]
            · rw [u1_n e, if_neg (fun z => e z.2.2.symm), r5]
        · refine ⟨ur W 7 f, ?_, fun _ _ => rfl, fun i hi => ?_⟩
          · rw [eb_174_22]
            clear hT ih hf b1' b2 b3 b4
            simp (disch := first | assumption | omega | exact st8_a (Nat.le_of_ble_eq_true rfl)) only [h1, eb_174_24, kl_a, kl_d, kl_f, kl_i, kl_l, kl_n, kl_r, xr_1, xr_10, xr_134, xr_2, xr_27, xr_28, xr_3, xr_31, xr_33, xr_34, xr_35, xr_36, xr_37, xr_38, xr_39, xr_4, xr_40, xr_41, xr_44, xr_47, xr_48, xr_5, xr_55, xr_58, xr_64, xr_65, xr_67, xr_69, xr_74, xr_75, af_0, af_1, xt_goto, xt_ic_ge, xt_ic_ne, xt_if_eq, xt_if_ne, xt_nop, xt_re, wF_0, wF_1, wF_2, wF_3, wF_4, wF_5, wF_6, wF_7, wF_8, wF_9, wF_10, wF_11, wF_12, wF_13, wP_9, wP_10, wL_5, wC_5, wC_17, wD, hw_app, hw_len, wA_1, wA_2, wA_3, wA_4, wA_5, wA_6, wA_7, wA_8, wA_17, wW_1, wW_2, wW_3, wW_4, wW_5, wW_6, wW_7, wW_8, wW_17, mF_1 (Mo_hw H), mF_10 (Mo_hw H), mF_12 (Mo_hw H), mF_13 (Mo_hw H), mF_14 (Mo_hw H), mF_15 (Mo_hw H), mF_8 (Mo_hw H), mA_63 (Mo_hw H), mA_64 (Mo_hw H), mA_65 (Mo_hw H), mA_66 (Mo_hw H), mA_67 (Mo_hw H), mA_68 (Mo_hw H), mA_69 (Mo_hw H), mA_70 (Mo_hw H), mA_71 (Mo_hw H), xq_173_12_virtual wy_c, xq_196_63_virtualm (Mo_hw H), xq_201_63_virtualm (Mo_hw H), xq_205_63_virtualm (Mo_hw H), iN_add, iN_mul, iN_sub, iN_and, iN_or, iN_clr, iN_shl, iN_shr, tb_r1, b1_z, b1_or, b1_and, b1_or0, b1_or1, b1_0or, b1_t, b1_f, iN_lt, iN_inj, reduceIte, if_true, if_false, Nat.zero_add, Nat.add_zero, Bool.false_eq_true, Bool.true_eq_false, Nat.lt_irrefl, iN_az, not_true_eq_false, not_false_eq_true, Nat.reduceEqDiff, Nat.reduceLT, Nat.reduceAdd, Nat.reduceMul, Nat.reduceSub]
          · rw [if_neg (fun z => h1 z.2.1), ur_n (by decide)]
      obtain ⟨W2, e2, w2, w6⟩ := hmost
      have u0 : W2 0 0 = (σ 1 2) * (σ 1 5) := by rw [w2 0 (by decide), ur_n (by decide)]; exact b0
      have u4 : W2 4 = W 4 := by rw [w2 4 (by decide), ur_n (by decide)]
      have u5 : W2 5 = W 5 := by rw [w2 5 (by decide), ur_n (by decide)]
      have u7 : W2 7 = f := by rw [w2 7 (by decide), ur_s]
      have fr : ∀ g b, b ≠ 5 → b ≠ 6 → b ≠ 7 → ur W2 5 g b = W b := fun g b h5 h6 h7 => by rw [ur_n h5, w2 b h6, ur_n h7]
      have hpair : ∃ g y8, ev xs (d + 5) 174 25 ([.ref h0.length, .int (nI set), .int x2, .int x3, .int (nI k), .int (nI 0)], [], hw h0 (σ 1 6) W2 β T) = ev xs (d + 5) 174 31 ([.ref h0.length, .int (nI set), .int x2, .int x3, .int (nI k), y8], [], hw h0 (σ 1 6) (ur W2 5 g) β T) ∧ WT σ set (k + 1) t y (ur W2 5 g) := by
        by_cases h22 : 2 ≤ σ 8 k ∧ σ 8 k ≤ 5
        · obtain ⟨g, y8, e3, g1, g2⟩ := m_174d (xs := xs) (d := d) (β := β) (T := T) (W := W2) (x1 := nI set) (x2 := x2) (x3 := x3) O hk H u0 (fun u p1 p2 p3 => by rw [u4]; exact b4 k u hk p1 p2 p3) h22.1 h22.2 0 (Nat.zero_le _) (W2 5) (fun x hx => absurd hx (Nat.not_lt_zero x)) (fun _ _ => rfl)
          rw [ur_id] at e3
          rw [u5] at g1 g2
          refine ⟨g, y8, e3, WT_s O hk hT hs (fun l hl v => ?_) (fun i hi => ?_) (fun _ _ => ?_) (fun z => absurd h22 z)⟩
          · rw [ur_n (by decide), u7]; exact hf l hl v
          · rw [ur_n (by decide)]; exact w6 i hi
          · rw [ur_s]; exact ⟨g1, g2⟩
        · refine ⟨W2 5, .int (nI 0), ?_, WT_s O hk hT hs (fun l hl v => ?_) (fun i hi => ?_) (fun z1 z2 => absurd ⟨z1, z2⟩ h22) (fun _ => ?_)⟩
          · rw [ur_id]
            by_cases hz : (σ 1 2) * (σ 1 5) = 0
            · rw [eb_174_25]
              clear hT ih hf b1' b2 b3 b4 h22 w2 w6 fr
              simp (disch := first | assumption | omega | exact st8_a (Nat.le_of_ble_eq_true rfl)) only [u0, hz, kl_a, kl_d, kl_f, kl_i, kl_l, kl_n, kl_r, xr_1, xr_10, xr_134, xr_2, xr_27, xr_28, xr_3, xr_31, xr_33, xr_34, xr_35, xr_36, xr_37, xr_38, xr_39, xr_4, xr_40, xr_41, xr_44, xr_47, xr_48, xr_5, xr_55, xr_58, xr_64, xr_65, xr_67, xr_69, xr_74, xr_75, af_0, af_1, xt_goto, xt_ic_ge, xt_ic_ne, xt_if_eq, xt_if_ne, xt_nop, xt_re, wF_0, wF_1, wF_2, wF_3, wF_4, wF_5, wF_6, wF_7, wF_8, wF_9, wF_10, wF_11, wF_12, wF_13, wP_9, wP_10, wL_5, wC_5, wC_17, wD, hw_app, hw_len, wA_1, wA_2, wA_3, wA_4, wA_5, wA_6, wA_7, wA_8, wA_17, wW_1, wW_2, wW_3, wW_4, wW_5, wW_6, wW_7, wW_8, wW_17, mF_1 (Mo_hw H), mF_10 (Mo_hw H), mF_12 (Mo_hw H), mF_13 (Mo_hw H), mF_14 (Mo_hw H), mF_15 (Mo_hw H), mF_8 (Mo_hw H), mA_63 (Mo_hw H), mA_64 (Mo_hw H), mA_65 (Mo_hw H), mA_66 (Mo_hw H), mA_67 (Mo_hw H), mA_68 (Mo_hw H), mA_69 (Mo_hw H), mA_70 (Mo_hw H), mA_71 (Mo_hw H), xq_173_12_virtual wy_c, xq_196_63_virtualm (Mo_hw H), xq_201_63_virtualm (Mo_hw H), xq_205_63_virtualm (Mo_hw H), iN_add, iN_mul, iN_sub, iN_and, iN_or, iN_clr, iN_shl, iN_shr, tb_r1, b1_z, b1_or, b1_and, b1_or0, b1_or1, b1_0or, b1_t, b1_f, iN_lt, iN_inj, reduceIte, if_true, if_false, Nat.zero_add, Nat.add_zero, Bool.false_eq_true, Bool.true_eq_false, Nat.lt_irrefl, iN_az, not_true_eq_false, not_false_eq_true, Nat.reduceEqDiff, Nat.reduceLT, Nat.reduceAdd, Nat.reduceMul, Nat.reduceSub]
            · have hz2 : 0 < (σ 1 2) * (σ 1 5) := Nat.pos_of_ne_zero hz
              have s1 := m_201 (xs := xs) (d := d + 4) O (Mo_hw (nn := (σ 1 6)) (W := W2) (β := β) (T := T) H) hk
              have hb : (decide (2 ≤ σ 8 k) && decide (σ 8 k ≤ 5)) = false := by
                rw [← Bool.not_eq_true, Bool.and_eq_true, decide_eq_true_eq, decide_eq_true_eq]
                exact h22
              rw [hb] at s1
              rw [eb_174_25]
              clear hT ih hf b1' b2 b3 b4 h22 w2 w6 fr hb
              simp (disch := first | assumption | omega | exact st8_a (Nat.le_of_ble_eq_true rfl)) only [u0, hz2, s1, eb_174_26, eb_174_27, kl_a, kl_d, kl_f, kl_i, kl_l, kl_n, kl_r, xr_1, xr_10, xr_134, xr_2, xr_27, xr_28, xr_3, xr_31, xr_33, xr_34, xr_35, xr_36, xr_37, xr_38, xr_39, xr_4, xr_40, xr_41, xr_44, xr_47, xr_48, xr_5, xr_55, xr_58, xr_64, xr_65, xr_67, xr_69, xr_74, xr_75, af_0, af_1, xt_goto, xt_ic_ge, xt_ic_ne, xt_if_eq, xt_if_ne, xt_nop, xt_re, wF_0, wF_1, wF_2, wF_3, wF_4, wF_5, wF_6, wF_7, wF_8, wF_9, wF_10, wF_11, wF_12, wF_13, wP_9, wP_10, wL_5, wC_5, wC_17, wD, hw_app, hw_len, wA_1, wA_2, wA_3, wA_4, wA_5, wA_6, wA_7, wA_8, wA_17, wW_1, wW_2, wW_3, wW_4, wW_5, wW_6, wW_7, wW_8, wW_17, mF_1 (Mo_hw H), mF_10 (Mo_hw H), mF_12 (Mo_hw H), mF_13 (Mo_hw H), mF_14 (Mo_hw H), mF_15 (Mo_hw H), mF_8 (Mo_hw H), mA_63 (Mo_hw H), mA_64 (Mo_hw H), mA_65 (Mo_hw H), mA_66 (Mo_hw H), mA_67 (Mo_hw H), mA_68 (Mo_hw H), mA_69 (Mo_hw H), mA_70 (Mo_hw H), mA_71 (Mo_hw H), xq_173_12_virtual wy_c, xq_196_63_virtualm (Mo_hw H), xq_201_63_virtualm (Mo_hw H), xq_205_63_virtualm (Mo_hw H), iN_add, iN_mul, iN_sub, iN_and, iN_or, iN_clr, iN_shl, iN_shr, tb_r1, b1_z, b1_or, b1_and, b1_or0, b1_or1, b1_0or, b1_t, b1_f, iN_lt, iN_inj, reduceIte, if_true, if_false, Nat.zero_add, Nat.add_zero, Bool.false_eq_true, Bool.true_eq_false, Nat.lt_irrefl, iN_az, not_true_eq_false, not_false_eq_true, Nat.reduceEqDiff, Nat.reduceLT, Nat.reduceAdd, Nat.reduceMul, Nat.reduceSub]
          · rw [ur_n (by decide), u7]; exact hf l hl v
          · rw [ur_n (by decide)]; exact w6 i hi
          · rw [ur_s, u5]
      obtain ⟨g, y8, e3, hT3⟩ := hpair
      obtain ⟨W', e4, f4, h4⟩ := ih (ur W2 5 g) y8 ⟨by rw [fr _ 0 (by decide) (by decide) (by decide)]; exact b0, by rw [fr _ 1 (by decide) (by decide) (by decide)]; exact b1', by rw [fr _ 2 (by decide) (by decide) (by decide)]; exact b2, by rw [fr _ 3 (by decide) (by decide) (by decide)]; exact b3, by rw [fr _ 4 (by decide) (by decide) (by decide)]; exact b4⟩ hT3
      refine ⟨W', ?_, fun b p5 p6 p7 => (f4 b p5 p6 p7).trans (fr g b p5 p6 p7), h4⟩
      rw [eb_174_16]
      clear hT ih hf b1' b2 b3 b4 w2 w6 fr hT3 f4 h4
      simp (disch := first | assumption | omega | exact st8_a (Nat.le_of_ble_eq_true rfl)) only [hk, hs, eb_174_17, eb_174_19, kl_a, kl_d, kl_f, kl_i, kl_l, kl_n, kl_r, xr_1, xr_10, xr_134, xr_2, xr_27, xr_28, xr_3, xr_31, xr_33, xr_34, xr_35, xr_36, xr_37, xr_38, xr_39, xr_4, xr_40, xr_41, xr_44, xr_47, xr_48, xr_5, xr_55, xr_58, xr_64, xr_65, xr_67, xr_69, xr_74, xr_75, af_0, af_1, xt_goto, xt_ic_ge, xt_ic_ne, xt_if_eq, xt_if_ne, xt_nop, xt_re, wF_0, wF_1, wF_2, wF_3, wF_4, wF_5, wF_6, wF_7, wF_8, wF_9, wF_10, wF_11, wF_12, wF_13, wP_9, wP_10, wL_5, wC_5, wC_17, wD, hw_app, hw_len, wA_1, wA_2, wA_3, wA_4, wA_5, wA_6, wA_7, wA_8, wA_17, wW_1, wW_2, wW_3, wW_4, wW_5, wW_6, wW_7, wW_8, wW_17, mF_1 (Mo_hw H), mF_10 (Mo_hw H), mF_12 (Mo_hw H), mF_13 (Mo_hw H), mF_14 (Mo_hw H), mF_15 (Mo_hw H), mF_8 (Mo_hw H), mA_63 (Mo_hw H), mA_64 (Mo_hw H), mA_65 (Mo_hw H), mA_66 (Mo_hw H), mA_67 (Mo_hw H), mA_68 (Mo_hw H), mA_69 (Mo_hw H), mA_70 (Mo_hw H), mA_71 (Mo_hw H), xq_173_12_virtual wy_c, xq_196_63_virtualm (Mo_hw H), xq_201_63_virtualm (Mo_hw H), xq_205_63_virtualm (Mo_hw H), iN_add, iN_mul, iN_sub, iN_and, iN_or, iN_clr, iN_shl, iN_shr, tb_r1, b1_z, b1_or, b1_and, b1_or0, b1_or1, b1_0or, b1_t, b1_f, iN_lt, iN_inj, reduceIte, if_true, if_false, Nat.zero_add, Nat.add_zero, Bool.false_eq_true, Bool.true_eq_false, Nat.lt_irrefl, iN_az, not_true_eq_false, not_false_eq_true, Nat.reduceEqDiff, Nat.reduceLT, Nat.reduceAdd, Nat.reduceMul, Nat.reduceSub]
      rw [e1, e2, e3, eb_174_31]
      simp (disch := first | assumption | omega | exact st8_a (Nat.le_of_ble_eq_true rfl)) only [kl_a, kl_d, kl_f, kl_i, kl_l, kl_n, kl_r, xr_1, xr_10, xr_134, xr_2, xr_27, xr_28, xr_3, xr_31, xr_33, xr_34, xr_35, xr_36, xr_37, xr_38, xr_39, xr_4, xr_40, xr_41, xr_44, xr_47, xr_48, xr_5, xr_55, xr_58, xr_64, xr_65, xr_67, xr_69, xr_74, xr_75, af_0, af_1, xt_goto, xt_ic_ge, xt_ic_ne, xt_if_eq, xt_if_ne, xt_nop, xt_re, wF_0, wF_1, wF_2, wF_3, wF_4, wF_5, wF_6, wF_7, wF_8, wF_9, wF_10, wF_11, wF_12, wF_13, wP_9, wP_10, wL_5, wC_5, wC_17, wD, hw_app, hw_len, wA_1, wA_2, wA_3, wA_4, wA_5, wA_6, wA_7, wA_8, wA_17, wW_1, wW_2, wW_3, wW_4, wW_5, wW_6, wW_7, wW_8, wW_17, mF_1 (Mo_hw H), mF_10 (Mo_hw H), mF_12 (Mo_hw H), mF_13 (Mo_hw H), mF_14 (Mo_hw H), mF_15 (Mo_hw H), mF_8 (Mo_hw H), mA_63 (Mo_hw H), mA_64 (Mo_hw H), mA_65 (Mo_hw H), mA_66 (Mo_hw H), mA_67 (Mo_hw H), mA_68 (Mo_hw H), mA_69 (Mo_hw H), mA_70 (Mo_hw H), mA_71 (Mo_hw H), xq_173_12_virtual wy_c, xq_196_63_virtualm (Mo_hw H), xq_201_63_virtualm (Mo_hw H), xq_205_63_virtualm (Mo_hw H), iN_add, iN_mul, iN_sub, iN_and, iN_or, iN_clr, iN_shl, iN_shr, tb_r1, b1_z, b1_or, b1_and, b1_or0, b1_or1, b1_0or, b1_t, b1_f, iN_lt, iN_inj, reduceIte, if_true, if_false, Nat.zero_add, Nat.add_zero, Bool.false_eq_true, Bool.true_eq_false, Nat.lt_irrefl, iN_az, not_true_eq_false, not_false_eq_true, Nat.reduceEqDiff, Nat.reduceLT, Nat.reduceAdd, Nat.reduceMul, Nat.reduceSub]
      exact e4
-- take: the rules of set, and a wish
set_option maxRecDepth 100000 in
theorem m_174 (O : Ok σ) (H : Mo σ μ ν h0) (hset : set < 1024) (ht : t = 4294967295 ∨ (t < (σ 1 4) ∧ y < (σ 1 0))) (hB : WB σ W) : ∃ W', ev xs (d + 5) 174 0 ([.ref h0.length, .int (nI set), .int (nI t), .int (nI y), .retAddr 9, .retAddr 9], [], hw h0 (σ 1 6) W β T) = some (.inl none, hw h0 (σ 1 6) W' β T) ∧ (∀ b, b ≠ 5 → b ≠ 6 → b ≠ 7 → W' b = W b) ∧ WT σ set (σ 1 7) t y W' := by
  obtain ⟨hD1, hD2, hH1, hH2, hS, hC, hT, hR, hL, hQ⟩ := Ok_b O
  have hB2 := hB
  obtain ⟨b0, b1', b2, b3, b4⟩ := hB2
  obtain ⟨f6, y4, e1, h6⟩ := m_174a (xs := xs) (d := d) (β := β) (T := T) (W := W) (x1 := nI set) (x2 := nI t) (x3 := nI y) O H
  obtain ⟨f7, y6, e2, h7⟩ := m_174b (xs := xs) (d := d) (β := β) (T := T) (W := ur (ur W 5 (W 2)) 6 f6) (x1 := nI set) (t := t) (y := y) O H (by rw [ur_n (by decide), ur_n (by decide)]; exact b0) (by rw [ur_n (by decide), ur_n (by decide)]; exact b1') ht 0 (Nat.zero_le _) (ur (ur W 5 (W 2)) 6 f6 7) y4 (fun l hl => absurd hl (Nat.not_lt_zero l))
  rw [ur_id] at e2
  have fr : ∀ b, b ≠ 5 → b ≠ 6 → b ≠ 7 → ur (ur (ur W 5 (W 2)) 6 f6) 7 f7 b = W b := fun b p5 p6 p7 => by rw [ur_n p7, ur_n p6, ur_n p5]
  obtain ⟨W', e3, f3, h3⟩ := m_174q (xs := xs) (d := d) (β := β) (T := T) (t := t) (y := y) (x2 := nI t) (x3 := nI y) O H hset 0 (Nat.zero_le _) (ur (ur (ur W 5 (W 2)) 6 f6) 7 f7) y6 ⟨by rw [fr 0 (by decide) (by decide) (by decide)]; exact b0, by rw [fr 1 (by decide) (by decide) (by decide)]; exact b1', by rw [fr 2 (by decide) (by decide) (by decide)]; exact b2, by rw [fr 3 (by decide) (by decide) (by decide)]; exact b3, by rw [fr 4 (by decide) (by decide) (by decide)]; exact b4⟩ ⟨fun l hl v => by
      rw [ur_s, h7 l hl v]
      exact ⟨fun h => ⟨h, fun q hq => absurd hq (Nat.not_lt_zero q)⟩, fun h => h.1⟩, fun a b u ha hb hab hu v => by
      rw [ur_n (by decide), ur_n (by decide), ur_s, b2 a u b ha hu hb]
      unfold bsd okp
      rw [if_neg (Ne.symm hab), en_tb, Bool.and_eq_true, decide_eq_true_eq, decide_eq_true_eq]
      exact ⟨fun h => ⟨h.1, h.2, fun q hq => absurd hq (Nat.not_lt_zero q)⟩, fun h => ⟨h.1, h.2.1⟩⟩, fun i hi n => by
      rw [ur_n (by decide), ur_s, h6 i hi]
      exact ⟨fun h => ⟨h, fun q hq => absurd hq (Nat.not_lt_zero q)⟩, fun h => h.1⟩⟩
  exact ⟨W', e1.trans (e2.trans e3), fun b p5 p6 p7 => (f3 b p5 p6 p7).trans (fr b p5 p6 p7), h3⟩
end Wyc
