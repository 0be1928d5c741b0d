/-! THE MODEL: shares, their order -/
/-- the share of a teacher by the first m lessons -/
def shm (σ : Nat → Nat → Nat) (u : Nat) (tab : Nat → Nat) (m : Nat) : Nat := sm m fun l => b1 (decide (σ 6 l = u) && decide (cov σ l (tab l / (σ 1 5)) &&& lh σ ≠ 0))
/-- a row that goes down, on the first n places -/
def DS (n : Nat) (f : Nat → Nat) : Prop := ∀ i j, i < j → j < n → f j ≤ f i
/-- smaller at the first of n places where they differ -/
def LL (n : Nat) (f g : Nat → Nat) : Prop := ∃ k, k < n ∧ (∀ j, j < k → f j = g j) ∧ f k < g k
section Wyj
variable {xs : List Int32} {d m n : Nat} {h h0 T A : ab_H} {σ W N K : Nat → Nat → Nat} {μ : Nat → Nat} {ν : Nat → Value} {β : Value} {a b u k v x y q set l i p p2 nn : Nat} {t s r tab f g F G : Nat → Nat}
set_option maxRecDepth 100000 in
theorem an_lh (O : Ok σ) (c : Nat) : (an (σ 1 0) fun y => c.testBit (y * (σ 1 1) + (σ 1 1) - 1)) = decide (c &&& lh σ ≠ 0) := by
  rw [Bool.eq_iff_iff, an_t, decide_eq_true_eq, lh_or O, nz_tb]
  constructor
  · rintro ⟨y, hy, h⟩
    refine ⟨y * (σ 1 1) + (σ 1 1) - 1, ?_⟩
    rw [Nat.testBit_and, h, Bool.true_and]
    exact orn_tb.mpr ⟨y, hy, by rw [tb_1s]; exact decide_eq_true rfl⟩
  · rintro ⟨i, h⟩
    rw [Nat.testBit_and, Bool.and_eq_true] at h
    obtain ⟨y, hy, h2⟩ := orn_tb.mp h.2
    rw [tb_1s, decide_eq_true_eq] at h2
    exact ⟨y, hy, by rw [← h2]; exact h.1⟩
set_option maxRecDepth 100000 in
theorem m_214 (O : Ok σ) (H : Mo σ μ ν h) (hq : h[p]? = some (oI (ar n tab))) (hn : n ≤ 6) {m : Nat} (hm : m ≤ n) (hml : m ≤ (σ 1 6)) (ht : ∀ l, l < m → tab l < (σ 1 2) * (σ 1 5)) (hu : u < 2147483648) : ev xs (d + 3) 214 0 ([.ref 62, .int (nI u), .ref p, .int (nI m), .retAddr 9, .retAddr 9, .retAddr 9, .retAddr 9], [], h) = some (.inl (some (.int (nI (shm σ u tab m)))), h) := by
  obtain ⟨hD1, hD2, hH1, hH2, hS, hC, hT, hR, hL, hQ⟩ := Ok_b O
  have key : ∀ k, k ≤ m → ∀ z y6 y7, z = shm σ u tab k → ev xs (d + 3) 214 1 ([.ref 62, .int (nI u), .ref p, .int (nI m), .int (nI z), .int (nI k), y6, y7], [], h) = some (.inl (some (.int (nI (shm σ u tab m)))), h) := by
    refine lp m ?_ ?_
    · intro z y6 y7 hz
      rw [eb_214_1, hz]
      clear ht
      simp (disch := first | assumption | omega | exact st8_a (Nat.le_of_ble_eq_true rfl)) only [eb_214_15, kl_a, kl_d, kl_f, kl_i, kl_l, kl_n, kl_r, xr_1, xr_10, xr_16, xr_17, xr_18, xr_19, xr_2, xr_20, xr_27, xr_28, xr_3, xr_33, xr_34, xr_35, xr_36, xr_37, xr_38, xr_39, xr_4, xr_41, xr_44, xr_5, xr_55, xr_56, xr_57, xr_61, xr_62, xr_77, xr_98, af_0, af_1, xt_goto, xt_ib, xt_ic, xt_ic_ge, xt_ic_ne, xt_if_eq, xt_if_ne, xt_ir, xt_nop, mF_0 H, mF_1 H, mF_10 H, mA_63 H, mA_64 H, mA_65 H, mA_66 H, mA_67 H, mA_68 H, mA_69 H, mA_70 H, mA_71 H, xq_196_13_virtualm H, iN_add, iN_mul, iN_sub, iN_and, iN_or, iN_clr, iN_shl, iN_shr, tb_r1, b1_z, b1_or, b1_and, b1_or0, b1_or1, b1_0or, b1_t, b1_f, iN_lt, iN_inj, reduceIte, if_true, if_false, Nat.zero_add, Nat.add_zero, Bool.false_eq_true, Bool.true_eq_false, Nat.lt_irrefl, iN_az, not_true_eq_false, not_false_eq_true, Nat.reduceEqDiff, Nat.reduceLT, Nat.reduceAdd, Nat.reduceMul, Nat.reduceSub]
    · intro k hk ih z y6 y7 hz
      have hkL : k < (σ 1 6) := by omega
      obtain ⟨c1, c2, c3⟩ := Ok_l O hkL
      have e1 := m_196 (xs := xs) (d := d) O H hkL (ht k hk)
      have hcl := cov_lt O (l := k) (vb O (ht k hk)).2.1
      have inn : ∀ y, y ≤ (σ 1 0) → ∀ c : Bool, c = (an y fun y => (cov σ k (tab k / (σ 1 5))).testBit (y * (σ 1 1) + (σ 1 1) - 1)) → ev xs (d + 3) 214 3 ([.ref 62, .int (nI u), .ref p, .int (nI m), .int (nI z), .int (nI k), .int (nI (b1 c)), .int (nI y)], [], h) = ev xs (d + 3) 214 10 ([.ref 62, .int (nI u), .ref p, .int (nI m), .int (nI z), .int (nI k), .int (nI (b1 (decide (cov σ k (tab k / (σ 1 5)) &&& lh σ ≠ 0)))), .int (nI (σ 1 0))], [], h) := by
        refine lp (σ 1 0) ?_ ?_
        · intro c hc
          rw [eb_214_3, hc, an_lh O]
          clear ih ht
          simp (disch := first | assumption | omega | exact st8_a (Nat.le_of_ble_eq_true rfl)) only [kl_a, kl_d, kl_f, kl_i, kl_l, kl_n, kl_r, xr_1, xr_10, xr_16, xr_17, xr_18, xr_19, xr_2, xr_20, xr_27, xr_28, xr_3, xr_33, xr_34, xr_35, xr_36, xr_37, xr_38, xr_39, xr_4, xr_41, xr_44, xr_5, xr_55, xr_56, xr_57, xr_61, xr_62, xr_77, xr_98, af_0, af_1, xt_goto, xt_ib, xt_ic, xt_ic_ge, xt_ic_ne, xt_if_eq, xt_if_ne, xt_ir, xt_nop, mF_0 H, mF_1 H, mF_10 H, mA_63 H, mA_64 H, mA_65 H, mA_66 H, mA_67 H, mA_68 H, mA_69 H, mA_70 H, mA_71 H, xq_196_13_virtualm H, iN_add, iN_mul, iN_sub, iN_and, iN_or, iN_clr, iN_shl, iN_shr, tb_r1, b1_z, b1_or, b1_and, b1_or0, b1_or1, b1_0or, b1_t, b1_f, iN_lt, iN_inj, reduceIte, if_true, if_false, Nat.zero_add, Nat.add_zero, Bool.false_eq_true, Bool.true_eq_false, Nat.lt_irrefl, iN_az, not_true_eq_false, not_false_eq_true, Nat.reduceEqDiff, Nat.reduceLT, Nat.reduceAdd, Nat.reduceMul, Nat.reduceSub]
        · intro y hy ih2 c hc
          have hyb : y * (σ 1 1) + (σ 1 1) - 1 < 32 := by
            have : y = 0 ∨ y = 1 := by omega
            rcases this with rfl | rfl <;> omega
          have hyh : 1 ≤ y * (σ 1 1) + (σ 1 1) := by omega
          have ih2 := ih2 (c || (cov σ k (tab k / (σ 1 5))).testBit (y * (σ 1 1) + (σ 1 1) - 1)) (by rw [hc]; rfl)
          rw [eb_214_3]
          clear ih ht hc
          cases c
          · rw [Bool.false_or] at ih2
            rw [b1_f]
            cases hc2 : (cov σ k (tab k / (σ 1 5))).testBit (y * (σ 1 1) + (σ 1 1) - 1)
            · rw [hc2, b1_f] at ih2
              simp (disch := first | assumption | omega | exact st8_a (Nat.le_of_ble_eq_true rfl)) only [hy, hk, q_ia hq, e1, hc2, eb_214_4, eb_214_5, eb_214_6, eb_214_8, eb_214_9, kl_a, kl_d, kl_f, kl_i, kl_l, kl_n, kl_r, xr_1, xr_10, xr_16, xr_17, xr_18, xr_19, xr_2, xr_20, xr_27, xr_28, xr_3, xr_33, xr_34, xr_35, xr_36, xr_37, xr_38, xr_39, xr_4, xr_41, xr_44, xr_5, xr_55, xr_56, xr_57, xr_61, xr_62, xr_77, xr_98, af_0, af_1, xt_goto, xt_ib, xt_ic, xt_ic_ge, xt_ic_ne, xt_if_eq, xt_if_ne, xt_ir, xt_nop, mF_0 H, mF_1 H, mF_10 H, mA_63 H, mA_64 H, mA_65 H, mA_66 H, mA_67 H, mA_68 H, mA_69 H, mA_70 H, mA_71 H, xq_196_13_virtualm H, iN_add, iN_mul, iN_sub, iN_and, iN_or, iN_clr, iN_shl, iN_shr, tb_r1, b1_z, b1_or, b1_and, b1_or0, b1_or1, b1_0or, b1_t, b1_f, iN_lt, iN_inj, reduceIte, if_true, if_false, Nat.zero_add, Nat.add_zero, Bool.false_eq_true, Bool.true_eq_false, Nat.lt_irrefl, iN_az, not_true_eq_false, not_false_eq_true, Nat.reduceEqDiff, Nat.reduceLT, Nat.reduceAdd, Nat.reduceMul, Nat.reduceSub]
              exact ih2
            · rw [hc2, b1_t] at ih2
              simp (disch := first | assumption | omega | exact st8_a (Nat.le_of_ble_eq_true rfl)) only [hy, hk, q_ia hq, e1, hc2, eb_214_4, eb_214_5, eb_214_6, eb_214_7, eb_214_9, kl_a, kl_d, kl_f, kl_i, kl_l, kl_n, kl_r, xr_1, xr_10, xr_16, xr_17, xr_18, xr_19, xr_2, xr_20, xr_27, xr_28, xr_3, xr_33, xr_34, xr_35, xr_36, xr_37, xr_38, xr_39, xr_4, xr_41, xr_44, xr_5, xr_55, xr_56, xr_57, xr_61, xr_62, xr_77, xr_98, af_0, af_1, xt_goto, xt_ib, xt_ic, xt_ic_ge, xt_ic_ne, xt_if_eq, xt_if_ne, xt_ir, xt_nop, mF_0 H, mF_1 H, mF_10 H, mA_63 H, mA_64 H, mA_65 H, mA_66 H, mA_67 H, mA_68 H, mA_69 H, mA_70 H, mA_71 H, xq_196_13_virtualm H, iN_add, iN_mul, iN_sub, iN_and, iN_or, iN_clr, iN_shl, iN_shr, tb_r1, b1_z, b1_or, b1_and, b1_or0, b1_or1, b1_0or, b1_t, b1_f, iN_lt, iN_inj, reduceIte, if_true, if_false, Nat.zero_add, Nat.add_zero, Bool.false_eq_true, Bool.true_eq_false, Nat.lt_irrefl, iN_az, not_true_eq_false, not_false_eq_true, Nat.reduceEqDiff, Nat.reduceLT, Nat.reduceAdd, Nat.reduceMul, Nat.reduceSub]
              exact ih2
          · rw [Bool.true_or, b1_t] at ih2
            rw [b1_t]
            simp (disch := first | assumption | omega | exact st8_a (Nat.le_of_ble_eq_true rfl)) only [hy, eb_214_4, eb_214_7, eb_214_9, kl_a, kl_d, kl_f, kl_i, kl_l, kl_n, kl_r, xr_1, xr_10, xr_16, xr_17, xr_18, xr_19, xr_2, xr_20, xr_27, xr_28, xr_3, xr_33, xr_34, xr_35, xr_36, xr_37, xr_38, xr_39, xr_4, xr_41, xr_44, xr_5, xr_55, xr_56, xr_57, xr_61, xr_62, xr_77, xr_98, af_0, af_1, xt_goto, xt_ib, xt_ic, xt_ic_ge, xt_ic_ne, xt_if_eq, xt_if_ne, xt_ir, xt_nop, mF_0 H, mF_1 H, mF_10 H, mA_63 H, mA_64 H, mA_65 H, mA_66 H, mA_67 H, mA_68 H, mA_69 H, mA_70 H, mA_71 H, xq_196_13_virtualm H, iN_add, iN_mul, iN_sub, iN_and, iN_or, iN_clr, iN_shl, iN_shr, tb_r1, b1_z, b1_or, b1_and, b1_or0, b1_or1, b1_0or, b1_t, b1_f, iN_lt, iN_inj, reduceIte, if_true, if_false, Nat.zero_add, Nat.add_zero, Bool.false_eq_true, Bool.true_eq_false, Nat.lt_irrefl, iN_az, not_true_eq_false, not_false_eq_true, Nat.reduceEqDiff, Nat.reduceLT, Nat.reduceAdd, Nat.reduceMul, Nat.reduceSub]
            exact ih2
      have inn0 := inn 0 (Nat.zero_le _) false rfl
      rw [b1_f] at inn0
      rw [eb_214_1]
      clear inn ht
      have fin : ∀ z2, z2 = shm σ u tab (k + 1) → ev xs (d + 3) 214 1 ([.ref 62, .int (nI u), .ref p, .int (nI m), .int (nI z2), .int (nI (k + 1)), .int (nI (b1 (decide (cov σ k (tab k / (σ 1 5)) &&& lh σ ≠ 0)))), .int (nI (σ 1 0))], [], h) = some (.inl (some (.int (nI (shm σ u tab m)))), h) := fun z2 hz2 => ih z2 _ _ hz2
      clear ih
      by_cases hc : cov σ k (tab k / (σ 1 5)) &&& lh σ = 0
      · rw [decide_eq_false (fun z => z hc), b1_f] at inn0 fin
        have hd : decide (cov σ k (tab k / (σ 1 5)) &&& lh σ ≠ 0) = false := decide_eq_false (fun z => z hc)
        have fin := fin (z + 0) (by rw [hz]; unfold shm; rw [sm, hd, Bool.and_false]; rfl)
        simp (disch := first | assumption | omega | exact st8_a (Nat.le_of_ble_eq_true rfl)) only [hk, eb_214_2, kl_a, kl_d, kl_f, kl_i, kl_l, kl_n, kl_r, xr_1, xr_10, xr_16, xr_17, xr_18, xr_19, xr_2, xr_20, xr_27, xr_28, xr_3, xr_33, xr_34, xr_35, xr_36, xr_37, xr_38, xr_39, xr_4, xr_41, xr_44, xr_5, xr_55, xr_56, xr_57, xr_61, xr_62, xr_77, xr_98, af_0, af_1, xt_goto, xt_ib, xt_ic, xt_ic_ge, xt_ic_ne, xt_if_eq, xt_if_ne, xt_ir, xt_nop, mF_0 H, mF_1 H, mF_10 H, mA_63 H, mA_64 H, mA_65 H, mA_66 H, mA_67 H, mA_68 H, mA_69 H, mA_70 H, mA_71 H, xq_196_13_virtualm H, iN_add, iN_mul, iN_sub, iN_and, iN_or, iN_clr, iN_shl, iN_shr, tb_r1, b1_z, b1_or, b1_and, b1_or0, b1_or1, b1_0or, b1_t, b1_f, iN_lt, iN_inj, reduceIte, if_true, if_false, Nat.zero_add, Nat.add_zero, Bool.false_eq_true, Bool.true_eq_false, Nat.lt_irrefl, iN_az, not_true_eq_false, not_false_eq_true, Nat.reduceEqDiff, Nat.reduceLT, Nat.reduceAdd, Nat.reduceMul, Nat.reduceSub]
        rw [inn0, eb_214_10]
        simp (disch := first | assumption | omega | exact st8_a (Nat.le_of_ble_eq_true rfl)) only [eb_214_13, eb_214_14, kl_a, kl_d, kl_f, kl_i, kl_l, kl_n, kl_r, xr_1, xr_10, xr_16, xr_17, xr_18, xr_19, xr_2, xr_20, xr_27, xr_28, xr_3, xr_33, xr_34, xr_35, xr_36, xr_37, xr_38, xr_39, xr_4, xr_41, xr_44, xr_5, xr_55, xr_56, xr_57, xr_61, xr_62, xr_77, xr_98, af_0, af_1, xt_goto, xt_ib, xt_ic, xt_ic_ge, xt_ic_ne, xt_if_eq, xt_if_ne, xt_ir, xt_nop, mF_0 H, mF_1 H, mF_10 H, mA_63 H, mA_64 H, mA_65 H, mA_66 H, mA_67 H, mA_68 H, mA_69 H, mA_70 H, mA_71 H, xq_196_13_virtualm H, iN_add, iN_mul, iN_sub, iN_and, iN_or, iN_clr, iN_shl, iN_shr, tb_r1, b1_z, b1_or, b1_and, b1_or0, b1_or1, b1_0or, b1_t, b1_f, iN_lt, iN_inj, reduceIte, if_true, if_false, Nat.zero_add, Nat.add_zero, Bool.false_eq_true, Bool.true_eq_false, Nat.lt_irrefl, iN_az, not_true_eq_false, not_false_eq_true, Nat.reduceEqDiff, Nat.reduceLT, Nat.reduceAdd, Nat.reduceMul, Nat.reduceSub]
        exact fin
      · rw [decide_eq_true hc, b1_t] at inn0 fin
        by_cases htu : σ 6 k = u
        · have fin := fin (z + 1) (by rw [hz]; unfold shm; rw [sm, decide_eq_true hc, decide_eq_true htu]; rfl)
          simp (disch := first | assumption | omega | exact st8_a (Nat.le_of_ble_eq_true rfl)) only [hk, eb_214_2, kl_a, kl_d, kl_f, kl_i, kl_l, kl_n, kl_r, xr_1, xr_10, xr_16, xr_17, xr_18, xr_19, xr_2, xr_20, xr_27, xr_28, xr_3, xr_33, xr_34, xr_35, xr_36, xr_37, xr_38, xr_39, xr_4, xr_41, xr_44, xr_5, xr_55, xr_56, xr_57, xr_61, xr_62, xr_77, xr_98, af_0, af_1, xt_goto, xt_ib, xt_ic, xt_ic_ge, xt_ic_ne, xt_if_eq, xt_if_ne, xt_ir, xt_nop, mF_0 H, mF_1 H, mF_10 H, mA_63 H, mA_64 H, mA_65 H, mA_66 H, mA_67 H, mA_68 H, mA_69 H, mA_70 H, mA_71 H, xq_196_13_virtualm H, iN_add, iN_mul, iN_sub, iN_and, iN_or, iN_clr, iN_shl, iN_shr, tb_r1, b1_z, b1_or, b1_and, b1_or0, b1_or1, b1_0or, b1_t, b1_f, iN_lt, iN_inj, reduceIte, if_true, if_false, Nat.zero_add, Nat.add_zero, Bool.false_eq_true, Bool.true_eq_false, Nat.lt_irrefl, iN_az, not_true_eq_false, not_false_eq_true, Nat.reduceEqDiff, Nat.reduceLT, Nat.reduceAdd, Nat.reduceMul, Nat.reduceSub]
          rw [inn0, eb_214_10]
          simp (disch := first | assumption | omega | exact st8_a (Nat.le_of_ble_eq_true rfl)) only [eq_true htu, eb_214_11, eb_214_12, eb_214_14, kl_a, kl_d, kl_f, kl_i, kl_l, kl_n, kl_r, xr_1, xr_10, xr_16, xr_17, xr_18, xr_19, xr_2, xr_20, xr_27, xr_28, xr_3, xr_33, xr_34, xr_35, xr_36, xr_37, xr_38, xr_39, xr_4, xr_41, xr_44, xr_5, xr_55, xr_56, xr_57, xr_61, xr_62, xr_77, xr_98, af_0, af_1, xt_goto, xt_ib, xt_ic, xt_ic_ge, xt_ic_ne, xt_if_eq, xt_if_ne, xt_ir, xt_nop, mF_0 H, mF_1 H, mF_10 H, mA_63 H, mA_64 H, mA_65 H, mA_66 H, mA_67 H, mA_68 H, mA_69 H, mA_70 H, mA_71 H, xq_196_13_virtualm H, iN_add, iN_mul, iN_sub, iN_and, iN_or, iN_clr, iN_shl, iN_shr, tb_r1, b1_z, b1_or, b1_and, b1_or0, b1_or1, b1_0or, b1_t, b1_f, iN_lt, iN_inj, reduceIte, if_true, if_false, Nat.zero_add, Nat.add_zero, Bool.false_eq_true, Bool.true_eq_false, Nat.lt_irrefl, iN_az, not_true_eq_false, not_false_eq_true, Nat.reduceEqDiff, Nat.reduceLT, Nat.reduceAdd, Nat.reduceMul, Nat.reduceSub]
          exact fin
        · have fin := fin (z + 0) (by rw [hz]; unfold shm; rw [sm, decide_eq_false htu, Bool.false_and]; rfl)
          simp (disch := first | assumption | omega | exact st8_a (Nat.le_of_ble_eq_true rfl)) only [hk, eb_214_2, kl_a, kl_d, kl_f, kl_i, kl_l, kl_n, kl_r, xr_1, xr_10, xr_16, xr_17, xr_18, xr_19, xr_2, xr_20, xr_27, xr_28, xr_3, xr_33, xr_34, xr_35, xr_36, xr_37, xr_38, xr_39, xr_4, xr_41, xr_44, xr_5, xr_55, xr_56, xr_57, xr_61, xr_62, xr_77, xr_98, af_0, af_1, xt_goto, xt_ib, xt_ic, xt_ic_ge, xt_ic_ne, xt_if_eq, xt_if_ne, xt_ir, xt_nop, mF_0 H, mF_1 H, mF_10 H, mA_63 H, mA_64 H, mA_65 H, mA_66 H, mA_67 H, mA_68 H, mA_69 H, mA_70 H, mA_71 H, xq_196_13_virtualm H, iN_add, iN_mul, iN_sub, iN_and, iN_or, iN_clr, iN_shl, iN_shr, tb_r1, b1_z, b1_or, b1_and, b1_or0, b1_or1, b1_0or, b1_t, b1_f, iN_lt, iN_inj, reduceIte, if_true, if_false, Nat.zero_add, Nat.add_zero, Bool.false_eq_true, Bool.true_eq_false, Nat.lt_irrefl, iN_az, not_true_eq_false, not_false_eq_true, Nat.reduceEqDiff, Nat.reduceLT, Nat.reduceAdd, Nat.reduceMul, Nat.reduceSub]
          rw [inn0, eb_214_10]
          simp (disch := first | assumption | omega | exact st8_a (Nat.le_of_ble_eq_true rfl)) only [htu, eb_214_11, eb_214_13, eb_214_14, kl_a, kl_d, kl_f, kl_i, kl_l, kl_n, kl_r, xr_1, xr_10, xr_16, xr_17, xr_18, xr_19, xr_2, xr_20, xr_27, xr_28, xr_3, xr_33, xr_34, xr_35, xr_36, xr_37, xr_38, xr_39, xr_4, xr_41, xr_44, xr_5, xr_55, xr_56, xr_57, xr_61, xr_62, xr_77, xr_98, af_0, af_1, xt_goto, xt_ib, xt_ic, xt_ic_ge, xt_ic_ne, xt_if_eq, xt_if_ne, xt_ir, xt_nop, mF_0 H, mF_1 H, mF_10 H, mA_63 H, mA_64 H, mA_65 H, mA_66 H, mA_67 H, mA_68 H, mA_69 H, mA_70 H, mA_71 H, xq_196_13_virtualm H, iN_add, iN_mul, iN_sub, iN_and, iN_or, iN_clr, iN_shl, iN_shr, tb_r1, b1_z, b1_or, b1_and, b1_or0, b1_or1, b1_0or, b1_t, b1_f, iN_lt, iN_inj, reduceIte, if_true, if_false, Nat.zero_add, Nat.add_zero, Bool.false_eq_true, Bool.true_eq_false, Nat.lt_irrefl, iN_az, not_true_eq_false, not_false_eq_true, Nat.reduceEqDiff, Nat.reduceLT, Nat.reduceAdd, Nat.reduceMul, Nat.reduceSub]
          exact fin
  have key := key 0 (Nat.zero_le _) 0 (.retAddr 9) (.retAddr 9) rfl
  clear ht
  simp (disch := first | assumption | omega | exact st8_a (Nat.le_of_ble_eq_true rfl)) only [eb_214_0, kl_a, kl_d, kl_f, kl_i, kl_l, kl_n, kl_r, xr_1, xr_10, xr_16, xr_17, xr_18, xr_19, xr_2, xr_20, xr_27, xr_28, xr_3, xr_33, xr_34, xr_35, xr_36, xr_37, xr_38, xr_39, xr_4, xr_41, xr_44, xr_5, xr_55, xr_56, xr_57, xr_61, xr_62, xr_77, xr_98, af_0, af_1, xt_goto, xt_ib, xt_ic, xt_ic_ge, xt_ic_ne, xt_if_eq, xt_if_ne, xt_ir, xt_nop, mF_0 H, mF_1 H, mF_10 H, mA_63 H, mA_64 H, mA_65 H, mA_66 H, mA_67 H, mA_68 H, mA_69 H, mA_70 H, mA_71 H, xq_196_13_virtualm H, iN_add, iN_mul, iN_sub, iN_and, iN_or, iN_clr, iN_shl, iN_shr, tb_r1, b1_z, b1_or, b1_and, b1_or0, b1_or1, b1_0or, b1_t, b1_f, iN_lt, iN_inj, reduceIte, if_true, if_false, Nat.zero_add, Nat.add_zero, Bool.false_eq_true, Bool.true_eq_false, Nat.lt_irrefl, iN_az, not_true_eq_false, not_false_eq_true, Nat.reduceEqDiff, Nat.reduceLT, Nat.reduceAdd, Nat.reduceMul, Nat.reduceSub]
  exact key
set_option maxRecDepth 100000 in
theorem LL_s : LL (n + 1) f g ↔ LL n f g ∨ ((∀ j, j < n → f j = g j) ∧ f n < g n) := by
  constructor
  · rintro ⟨k, hk, h1, h2⟩
    by_cases e : k = n
    · subst e; exact .inr ⟨h1, h2⟩
    · exact .inl ⟨k, by omega, h1, h2⟩
  · rintro (⟨k, hk, h1, h2⟩ | ⟨h1, h2⟩)
    · exact ⟨k, by omega, h1, h2⟩
    · exact ⟨n, Nat.lt_succ_self n, h1, h2⟩
-- whether one row of four is fairer
set_option maxRecDepth 100000 in
theorem m_216 (H : Mo σ μ ν h) (h1 : h[p]? = some (oI (ar 4 f))) (h2 : h[p2]? = some (oI (ar 4 g))) (b1' : ∀ j, j < 4 → f j < 2147483648) (b2' : ∀ j, j < 4 → g j < 2147483648) : ∃ b : Bool, ev xs d 216 0 ([.ref p, .ref p2, .retAddr 9], [], h) = some (.inl (some (.int (nI (b1 b)))), h) ∧ (b = true ↔ LL 4 f g) := by
  have key : ∀ k, k ≤ 4 → (∀ j, j < k → f j = g j) → ∃ b : Bool, ev xs d 216 1 ([.ref p, .ref p2, .int (nI k)], [], h) = some (.inl (some (.int (nI (b1 b)))), h) ∧ (b = true ↔ LL 4 f g) := by
    refine lp 4 ?_ ?_
    · intro he
      refine ⟨false, ?_, ⟨fun z => (by cases z), ?_⟩⟩
      · rw [eb_216_1]
        clear he
        simp (disch := first | assumption | omega | exact st8_a (Nat.le_of_ble_eq_true rfl)) only [q_ln h1, eb_216_8, kl_a, kl_d, kl_f, kl_i, kl_l, kl_n, kl_r, xr_1, xr_10, xr_11, xr_12, xr_13, xr_14, xr_15, xr_2, xr_27, xr_3, xr_30, xr_31, xr_4, xr_42, xr_5, xt_goto, xt_ib, xt_ic, xt_ic_eq, xt_ic_ge, xt_ir, xt_nop, mA_63 H, mA_64 H, mA_65 H, mA_66 H, mA_67 H, mA_68 H, mA_69 H, mA_70 H, mA_71 H, iN_add, iN_mul, iN_sub, iN_and, iN_or, iN_clr, iN_shl, iN_shr, tb_r1, b1_z, b1_or, b1_and, b1_or0, b1_or1, b1_0or, b1_t, b1_f, iN_lt, iN_inj, reduceIte, if_true, if_false, Nat.zero_add, Nat.add_zero, Bool.false_eq_true, Bool.true_eq_false, Nat.lt_irrefl, iN_az, not_true_eq_false, not_false_eq_true, Nat.reduceEqDiff, Nat.reduceLT, Nat.reduceAdd, Nat.reduceMul, Nat.reduceSub]
      · rintro ⟨k, hk, -, h4⟩
        have := he k hk
        omega
    · intro k hk ih he
      have f1 := b1' k hk
      have g1 := b2' k hk
      by_cases e : f k = g k
      · obtain ⟨b, e2, hb⟩ := ih fun j hj => by
          by_cases ej : j = k
          · rw [ej]; exact e
          · exact he j (by omega)
        refine ⟨b, ?_, hb⟩
        rw [eb_216_1]
        clear he ih hb b1' b2'
        simp (disch := first | assumption | omega | exact st8_a (Nat.le_of_ble_eq_true rfl)) only [hk, q_ln h1, q_ia h1, q_ia h2, eq_true e, eb_216_2, eb_216_7, kl_a, kl_d, kl_f, kl_i, kl_l, kl_n, kl_r, xr_1, xr_10, xr_11, xr_12, xr_13, xr_14, xr_15, xr_2, xr_27, xr_3, xr_30, xr_31, xr_4, xr_42, xr_5, xt_goto, xt_ib, xt_ic, xt_ic_eq, xt_ic_ge, xt_ir, xt_nop, mA_63 H, mA_64 H, mA_65 H, mA_66 H, mA_67 H, mA_68 H, mA_69 H, mA_70 H, mA_71 H, iN_add, iN_mul, iN_sub, iN_and, iN_or, iN_clr, iN_shl, iN_shr, tb_r1, b1_z, b1_or, b1_and, b1_or0, b1_or1, b1_0or, b1_t, b1_f, iN_lt, iN_inj, reduceIte, if_true, if_false, Nat.zero_add, Nat.add_zero, Bool.false_eq_true, Bool.true_eq_false, Nat.lt_irrefl, iN_az, not_true_eq_false, not_false_eq_true, Nat.reduceEqDiff, Nat.reduceLT, Nat.reduceAdd, Nat.reduceMul, Nat.reduceSub]
        exact e2
      · by_cases lt : f k < g k
        · refine ⟨true, ?_, ⟨fun _ => ⟨k, hk, he, lt⟩, fun _ => rfl⟩⟩
          rw [eb_216_1]
          clear he ih b1' b2'
          simp (disch := first | assumption | omega | exact st8_a (Nat.le_of_ble_eq_true rfl)) only [hk, q_ln h1, q_ia h1, q_ia h2, e, lt, eb_216_2, eb_216_3, eb_216_4, eb_216_6, kl_a, kl_d, kl_f, kl_i, kl_l, kl_n, kl_r, xr_1, xr_10, xr_11, xr_12, xr_13, xr_14, xr_15, xr_2, xr_27, xr_3, xr_30, xr_31, xr_4, xr_42, xr_5, xt_goto, xt_ib, xt_ic, xt_ic_eq, xt_ic_ge, xt_ir, xt_nop, mA_63 H, mA_64 H, mA_65 H, mA_66 H, mA_67 H, mA_68 H, mA_69 H, mA_70 H, mA_71 H, iN_add, iN_mul, iN_sub, iN_and, iN_or, iN_clr, iN_shl, iN_shr, tb_r1, b1_z, b1_or, b1_and, b1_or0, b1_or1, b1_0or, b1_t, b1_f, iN_lt, iN_inj, reduceIte, if_true, if_false, Nat.zero_add, Nat.add_zero, Bool.false_eq_true, Bool.true_eq_false, Nat.lt_irrefl, iN_az, not_true_eq_false, not_false_eq_true, Nat.reduceEqDiff, Nat.reduceLT, Nat.reduceAdd, Nat.reduceMul, Nat.reduceSub]
        · refine ⟨false, ?_, ⟨fun z => (by cases z), ?_⟩⟩
          · rw [eb_216_1]
            clear he ih b1' b2'
            simp (disch := first | assumption | omega | exact st8_a (Nat.le_of_ble_eq_true rfl)) only [hk, q_ln h1, q_ia h1, q_ia h2, e, lt, eb_216_2, eb_216_3, eb_216_5, eb_216_6, kl_a, kl_d, kl_f, kl_i, kl_l, kl_n, kl_r, xr_1, xr_10, xr_11, xr_12, xr_13, xr_14, xr_15, xr_2, xr_27, xr_3, xr_30, xr_31, xr_4, xr_42, xr_5, xt_goto, xt_ib, xt_ic, xt_ic_eq, xt_ic_ge, xt_ir, xt_nop, mA_63 H, mA_64 H, mA_65 H, mA_66 H, mA_67 H, mA_68 H, mA_69 H, mA_70 H, mA_71 H, iN_add, iN_mul, iN_sub, iN_and, iN_or, iN_clr, iN_shl, iN_shr, tb_r1, b1_z, b1_or, b1_and, b1_or0, b1_or1, b1_0or, b1_t, b1_f, iN_lt, iN_inj, reduceIte, if_true, if_false, Nat.zero_add, Nat.add_zero, Bool.false_eq_true, Bool.true_eq_false, Nat.lt_irrefl, iN_az, not_true_eq_false, not_false_eq_true, Nat.reduceEqDiff, Nat.reduceLT, Nat.reduceAdd, Nat.reduceMul, Nat.reduceSub]
          · rintro ⟨j, hj, h3, h4⟩
            by_cases e1 : j < k
            · have := he j e1
              omega
            · by_cases e2 : j = k
              · rw [e2] at h4
                exact absurd h4 lt
              · exact absurd (h3 k (by omega)) e
  obtain ⟨b, e, hb⟩ := key 0 (Nat.zero_le _) fun j hj => absurd hj (Nat.not_lt_zero j)
  refine ⟨b, ?_, hb⟩
  clear hb key b1' b2'
  simp (disch := first | assumption | omega | exact st8_a (Nat.le_of_ble_eq_true rfl)) only [eb_216_0, kl_a, kl_d, kl_f, kl_i, kl_l, kl_n, kl_r, xr_1, xr_10, xr_11, xr_12, xr_13, xr_14, xr_15, xr_2, xr_27, xr_3, xr_30, xr_31, xr_4, xr_42, xr_5, xt_goto, xt_ib, xt_ic, xt_ic_eq, xt_ic_ge, xt_ir, xt_nop, mA_63 H, mA_64 H, mA_65 H, mA_66 H, mA_67 H, mA_68 H, mA_69 H, mA_70 H, mA_71 H, iN_add, iN_mul, iN_sub, iN_and, iN_or, iN_clr, iN_shl, iN_shr, tb_r1, b1_z, b1_or, b1_and, b1_or0, b1_or1, b1_0or, b1_t, b1_f, iN_lt, iN_inj, reduceIte, if_true, if_false, Nat.zero_add, Nat.add_zero, Bool.false_eq_true, Bool.true_eq_false, Nat.lt_irrefl, iN_az, not_true_eq_false, not_false_eq_true, Nat.reduceEqDiff, Nat.reduceLT, Nat.reduceAdd, Nat.reduceMul, Nat.reduceSub]
  exact e
/-- a sum without the place i -/
def sx (n i : Nat) (f : Nat → Nat) : Nat := sm n fun j => if j = i then 0 else f j
set_option maxRecDepth 100000 in
theorem sx_e (hi : i < n) : sm n f = sx n i f + f i := by
  unfold sx
  have := sm_u (n := n) (l := i) (f := f) (g := fun j => if j = i then 0 else f j) hi fun j _ hj => (if_neg hj).symm
  rw [if_pos rfl] at this
  omega
set_option maxRecDepth 100000 in
theorem sx_c (h : ∀ j, j < n → j ≠ i → f j = g j) : sx n i f = sx n i g := sm_cg fun j hj => by
  by_cases e : j = i
  · rw [if_pos e, if_pos e]
  · rw [if_neg e, if_neg e, h j hj e]
-- a value moves one place up, the hole one down
set_option maxRecDepth 100000 in
theorem sx_m (hi : i + 1 < n) : sx n i (fun j => G (u1 f (i + 1) (f i) j)) = sx n (i + 1) fun j => G (f j) := by
  have h1 := sx_e (n := n) (i := i) (f := fun j => G (u1 f (i + 1) (f i) j)) (by omega)
  have h2 := sx_e (n := n) (i := i + 1) (f := fun j => G (u1 f (i + 1) (f i) j)) hi
  have h3 : sx n (i + 1) (fun j => G (u1 f (i + 1) (f i) j)) = sx n (i + 1) fun j => G (f j) := sx_c fun j _ hj => by
    show G (u1 f (i + 1) (f i) j) = _
    rw [u1_n hj]
  have h4 : G (u1 f (i + 1) (f i) i) = G (f i) := by rw [u1_n (by omega)]
  have h5 : G (u1 f (i + 1) (f i) (i + 1)) = G (f i) := by rw [u1_s]
  omega
/-- the places up to n but i go down -/
def DX (n i : Nat) (f : Nat → Nat) : Prop := ∀ a b, a < b → b < n → a ≠ i → b ≠ i → f b ≤ f a
set_option maxRecDepth 100000 in
theorem DX_m (hi : i + 1 < n) (h : DX n (i + 1) f) : DX n i (u1 f (i + 1) (f i)) := by
  intro a b hab hb ha hbi
  by_cases e1 : a = i + 1
  · rw [e1, u1_s, u1_n (by omega)]
    exact h i b (by omega) hb (by omega) (by omega)
  · by_cases e2 : b = i + 1
    · rw [e2, u1_s, u1_n e1]
      by_cases e3 : a = i
      · rw [e3]; exact Nat.le_refl _
      · exact h a i (by omega) (by omega) e1 (by omega)
    · rw [u1_n e1, u1_n e2]
      exact h a b hab hb e1 e2
set_option maxRecDepth 100000 in
theorem DX_e (h : DX n i f) (h1 : ∀ a, a < i → x ≤ f a) (h2 : ∀ b, i < b → b < n → f b ≤ x) : DS n (u1 f i x) := by
  intro a b hab hb
  by_cases e1 : a = i
  · rw [e1, u1_s, u1_n (by omega)]
    exact h2 b (by omega) hb
  · by_cases e2 : b = i
    · rw [e2, u1_s, u1_n e1]
      exact h1 a (by omega)
    · rw [u1_n e1, u1_n e2]
      exact h a b hab hb e1 e2
end Wyj
