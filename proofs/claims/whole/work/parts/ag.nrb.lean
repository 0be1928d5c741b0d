/-! THE MODEL: what is left, by sets -/
def clm (σ : Nat → Nat → Nat) (l u : Nat) : Nat := orn ((σ 1 2) * (σ 1 5)) fun v => if u.testBit v = true then cov σ l (v / (σ 1 5)) else 0
section Nrb
variable {xs : List Int32} {d n m m2 : Nat} {hs : List (Nat × Nat)} {tt : ab_T} {rr : List ab_I} {qq : Nat × Nat × Nat} {Lc st : List Value} {h h0 T : ab_H} {σ W N K : Nat → Nat → Nat} {μ : Nat → Nat} {ν : Nat → Value} {β : Value} {a b u k v w x y q set l i t B nn o s r : Nat} {f g X Y Z : Nat → Nat} {c : ab_O}
set_option maxRecDepth 100000 in
theorem m_221 (O : Ok σ) (H : Mo σ μ ν h) (hl : l < (σ 1 6)) (hu : u < 262144) : ev xs (d + 3) 221 0 ([.ref 62, .int (nI l), .int (nI u), .retAddr 9, .retAddr 9], [], h) = some (.inl (some (.int (nI (clm σ l u)))), h) := by
  obtain ⟨hD1, hD2, hH1, hH2, hS, hC, hT, hR, hL, hQ⟩ := Ok_b O
  have hV := vle O
  have key : ∀ k, k ≤ (σ 1 2) * (σ 1 5) → ∀ z, z = (orn k fun v => if u.testBit v = true then cov σ l (v / (σ 1 5)) else 0) → ev xs (d + 3) 221 1 ([.ref 62, .int (nI l), .int (nI u), .int (nI z), .int (nI k)], [], h) = some (.inl (some (.int (nI (clm σ l u)))), h) := by
    refine lp ((σ 1 2) * (σ 1 5)) ?_ ?_
    · intro z hz
      have e := m_189 (xs := xs) (d := d + 2) O H
      rw [eb_221_1, hz]
      simp (disch := first | assumption | omega | exact st8_a (Nat.le_of_ble_eq_true rfl)) only [e, eb_221_2, eb_221_8, kl_a, kl_d, kl_f, kl_i, kl_l, kl_n, kl_r, xr_1, xr_10, xr_2, xr_27, xr_28, xr_3, xr_31, xr_32, xr_33, xr_34, xr_37, xr_4, xr_40, xr_41, xr_44, xr_45, xr_5, xr_55, af_0, af_1, xt_goto, xt_ib, xt_ic, xt_ic_ge, xt_ic_ne, xt_ir, xt_nop, mF_6 H, xq_189_13_virtualm H, xq_196_13_virtualm H, iN_add, iN_mul, iN_sub, iN_and, iN_or, iN_clr, iN_shl, iN_shr, tb_r1, b1_z, b1_or, b1_and, b1_or0, b1_or1, b1_0or, b1_t, b1_f, iN_lt, iN_inj, reduceIte, if_true, if_false, Nat.zero_add, Nat.add_zero, Bool.false_eq_true, Bool.true_eq_false, Nat.lt_irrefl, iN_az, not_true_eq_false, not_false_eq_true, Nat.reduceEqDiff, Nat.reduceLT, Nat.reduceAdd, Nat.reduceMul, Nat.reduceSub]
      rfl
    · intro k hk ih z hz
      have e := m_189 (xs := xs) (d := d + 2) O H
      have hk32 : k < 32 := by omega
      have e2 := m_196 (xs := xs) (d := d) O H hl hk
      have ih := ih (z ||| if u.testBit k = true then cov σ l (k / (σ 1 5)) else 0) (by rw [hz]; rfl)
      rw [eb_221_1]
      clear hz
      cases hk1 : u.testBit k
      · rw [hk1, if_neg (by decide)] at ih
        simp (disch := first | assumption | omega | exact st8_a (Nat.le_of_ble_eq_true rfl)) only [e, hk, hk1, eb_221_2, eb_221_3, eb_221_6, eb_221_7, kl_a, kl_d, kl_f, kl_i, kl_l, kl_n, kl_r, xr_1, xr_10, xr_2, xr_27, xr_28, xr_3, xr_31, xr_32, xr_33, xr_34, xr_37, xr_4, xr_40, xr_41, xr_44, xr_45, xr_5, xr_55, af_0, af_1, xt_goto, xt_ib, xt_ic, xt_ic_ge, xt_ic_ne, xt_ir, xt_nop, mF_6 H, xq_189_13_virtualm H, xq_196_13_virtualm H, iN_add, iN_mul, iN_sub, iN_and, iN_or, iN_clr, iN_shl, iN_shr, tb_r1, b1_z, b1_or, b1_and, b1_or0, b1_or1, b1_0or, b1_t, b1_f, iN_lt, iN_inj, reduceIte, if_true, if_false, Nat.zero_add, Nat.add_zero, Bool.false_eq_true, Bool.true_eq_false, Nat.lt_irrefl, iN_az, not_true_eq_false, not_false_eq_true, Nat.reduceEqDiff, Nat.reduceLT, Nat.reduceAdd, Nat.reduceMul, Nat.reduceSub]
        exact ih
      · rw [hk1, if_pos rfl] at ih
        simp (disch := first | assumption | omega | exact st8_a (Nat.le_of_ble_eq_true rfl)) only [e, hk, hk1, e2, eb_221_2, eb_221_3, eb_221_4, eb_221_5, eb_221_7, kl_a, kl_d, kl_f, kl_i, kl_l, kl_n, kl_r, xr_1, xr_10, xr_2, xr_27, xr_28, xr_3, xr_31, xr_32, xr_33, xr_34, xr_37, xr_4, xr_40, xr_41, xr_44, xr_45, xr_5, xr_55, af_0, af_1, xt_goto, xt_ib, xt_ic, xt_ic_ge, xt_ic_ne, xt_ir, xt_nop, mF_6 H, xq_189_13_virtualm H, xq_196_13_virtualm H, iN_add, iN_mul, iN_sub, iN_and, iN_or, iN_clr, iN_shl, iN_shr, tb_r1, b1_z, b1_or, b1_and, b1_or0, b1_or1, b1_0or, b1_t, b1_f, iN_lt, iN_inj, reduceIte, if_true, if_false, Nat.zero_add, Nat.add_zero, Bool.false_eq_true, Bool.true_eq_false, Nat.lt_irrefl, iN_az, not_true_eq_false, not_false_eq_true, Nat.reduceEqDiff, Nat.reduceLT, Nat.reduceAdd, Nat.reduceMul, Nat.reduceSub]
        exact ih
  have key := key 0 (Nat.zero_le _) 0 rfl
  simp (disch := first | assumption | omega | exact st8_a (Nat.le_of_ble_eq_true rfl)) only [eb_221_0, kl_a, kl_d, kl_f, kl_i, kl_l, kl_n, kl_r, xr_1, xr_10, xr_2, xr_27, xr_28, xr_3, xr_31, xr_32, xr_33, xr_34, xr_37, xr_4, xr_40, xr_41, xr_44, xr_45, xr_5, xr_55, af_0, af_1, xt_goto, xt_ib, xt_ic, xt_ic_ge, xt_ic_ne, xt_ir, xt_nop, mF_6 H, xq_189_13_virtualm H, xq_196_13_virtualm H, iN_add, iN_mul, iN_sub, iN_and, iN_or, iN_clr, iN_shl, iN_shr, tb_r1, b1_z, b1_or, b1_and, b1_or0, b1_or1, b1_0or, b1_t, b1_f, iN_lt, iN_inj, reduceIte, if_true, if_false, Nat.zero_add, Nat.add_zero, Bool.false_eq_true, Bool.true_eq_false, Nat.lt_irrefl, iN_az, not_true_eq_false, not_false_eq_true, Nat.reduceEqDiff, Nat.reduceLT, Nat.reduceAdd, Nat.reduceMul, Nat.reduceSub]
  exact key
set_option maxRecDepth 100000 in
theorem clm_cl (O : Ok σ) (hb : ∀ v, (Y l).testBit v = true → v < (σ 1 2) * (σ 1 5)) : clm σ l (Y l) = cl σ (Cv σ Y) l := by
  obtain ⟨hD1, hD2, hH1, hH2, hS, hC, hT, hR, hL, hQ⟩ := Ok_b O
  refine Nat.eq_of_testBit_eq fun i => ?_
  rw [Bool.eq_iff_iff, cl_tb]
  unfold clm
  rw [orn_tb]
  constructor
  · rintro ⟨v, hv, h⟩
    by_cases h1 : (Y l).testBit v = true
    · rw [if_pos h1] at h
      obtain ⟨v1, v2, v3, v4, v5⟩ := vb O hv
      refine ⟨v / (σ 1 5), v2, nz_tb.mpr ⟨v / (σ 1 5) * 3 + v % (σ 1 5), ?_⟩, h⟩
      rw [Nat.testBit_and, (Cv_v O hv).mpr h1, sl7_tb, decide_eq_true (by omega), decide_eq_true (by omega)]
      rfl
    · rw [if_neg h1, Nat.zero_testBit] at h
      cases h
  · rintro ⟨s, hs, h1, h2⟩
    obtain ⟨j, hj⟩ := nz_tb.mp h1
    rw [Nat.testBit_and, Bool.and_eq_true, sl7_tb, Bool.and_eq_true, decide_eq_true_eq, decide_eq_true_eq] at hj
    obtain ⟨hj, hj2, hj3⟩ := hj
    obtain ⟨-, h6, h7⟩ := Cv_tb.mp hj
    have e : j / 3 = s := by omega
    rw [e] at h7
    have hv := hb _ h7
    have hd : (s * (σ 1 5) + j % 3) / (σ 1 5) = s := by rw [Nat.mul_comm, Nat.mul_add_div (by omega), Nat.div_eq_of_lt h6, Nat.add_zero]
    exact ⟨_, hv, by rw [if_pos h7, hd]; exact h2⟩
set_option maxRecDepth 100000 in
theorem DR_x {T : (Nat → Nat) → Prop} (hl : l < (σ 1 6)) (hY : Y l < 262144) (hsub : ∀ i, x.testBit i = true → (Y l).testBit i = true) (hX : ∀ X, T X → Su σ X Y → ∀ i, (X l).testBit i = true → x.testBit i = true) : DR σ T Y (u1 Y l x) (decide (x ≠ Y l)) := by
  by_cases e : x = Y l
  · rw [decide_eq_false (fun z => z e)]
    refine DR_e fun k hk => ?_
    by_cases h : k = l
    · rw [h, u1_s, e]
    · rw [u1_n h]
  · rw [decide_eq_true e]
    have hne : ∃ i, (Y l).testBit i = true ∧ x.testBit i = false := by
      refine Classical.byContradiction fun z => e (Nat.eq_of_testBit_eq fun i => ?_)
      cases h1 : x.testBit i
      · cases h2 : (Y l).testBit i
        · rfl
        · exact absurd ⟨i, h2, h1⟩ z
      · exact (hsub i h1).symm
    refine ⟨fun k hk i hi => ?_, fun z => (by cases z), fun _ => ?_, fun X hT hS k hk i hi => ?_⟩
    · by_cases h : k = l
      · rw [h] at hi ⊢
        rw [u1_s] at hi
        exact hsub i hi
      · rw [u1_n h] at hi
        exact hi
    · obtain ⟨i, h1, h2⟩ := hne
      have hi18 : i < 18 := by
        by_cases h3 : i < 18
        · exact h3
        · rw [Nat.testBit_lt_two_pow (Nat.lt_of_lt_of_le hY (Nat.pow_le_pow_right (n := 2) (i := 18) (by decide) (by omega)))] at h1
          cases h1
      refine sm_slt (k := l) (fun k hk => ?_) hl ?_
      · by_cases h : k = l
        · rw [h, u1_s]
          exact pc_sb hsub
        · rw [u1_n h]
          exact Nat.le_refl _
      · rw [u1_s]
        exact pc_slt hsub hi18 h1 h2
    · by_cases h : k = l
      · rw [h] at hi ⊢
        rw [u1_s]
        exact hX X hT hS i hi
      · rw [u1_n h]
        exact hS k hk i hi
set_option maxRecDepth 100000 in
theorem u1_same : u1 Y l (Y l) = Y := by
  funext z
  by_cases h : z = l
  · rw [h, u1_s]
  · rw [u1_n h]
set_option maxRecDepth 100000 in
theorem u1_twice : u1 (u1 Y l a) l b = u1 Y l b := by
  funext z
  by_cases h : z = l
  · rw [h, u1_s, u1_s]
  · rw [u1_n h, u1_n h, u1_n h]
/-- what a set takes from a lesson -/
def tkb (σ : Nat → Nat → Nat) (lt : Bool) (sl l v : Nat) : Bool := lt || decide (cov σ l (v / (σ 1 5)) &&& sl ≠ 0)
-- the values of a lesson that go
set_option maxRecDepth 100000 in
theorem m_222v (O : Ok σ) (H : Mo σ μ ν h0) (hl : l < (σ 1 6)) (hmb : m ≤ 10) (hnb : n ≤ 12) {x2 x3 x4 x5 x6 x11 : Int32} {sl : Nat} : ∀ v, v ≤ (σ 1 2) * (σ 1 5) → ∀ (Y : Nat → Nat), Y l < 262144 → ∃ x, ev xs (d + 4) 222 28 ([.ref 62, .ref (h0.length + 18), .int x2, .int x3, .int x4, .int x5, .int x6, .int (nI sl), .int (nI n), .int (nI m), .int (nI l), .int x11, .int (nI v)], [], hw h0 (σ 1 6) W β [oI (ar 6 Y)]) = ev xs (d + 4) 222 36 ([.ref 62, .ref (h0.length + 18), .int x2, .int x3, .int x4, .int x5, .int x6, .int (nI sl), .int (nI n), .int (nI m), .int (nI l), .int x11, .int (nI ((σ 1 2) * (σ 1 5)))], [], hw h0 (σ 1 6) W β [oI (ar 6 (u1 Y l x))]) ∧ ∀ i, x.testBit i = ((Y l).testBit i && !(decide (v ≤ i) && (decide (i < (σ 1 2) * (σ 1 5)) && tkb σ (decide (m < n)) sl l i))) := by
  obtain ⟨hD1, hD2, hH1, hH2, hS, hC, hT, hR, hL, hQ⟩ := Ok_b O
  have hV := vle O
  have hl6 : l < 6 := by omega
  refine lp ((σ 1 2) * (σ 1 5)) ?_ ?_
  · intro Y hY
    have e := m_189 (xs := xs) (d := d + 3) O (Mo_hw (nn := (σ 1 6)) (W := W) (β := β) (T := [oI (ar 6 Y)]) H)
    refine ⟨Y l, ?_, fun i => ?_⟩
    · rw [u1_same, eb_222_28]
      clear hY
      simp (disch := first | assumption | omega | exact st8_a (Nat.le_of_ble_eq_true rfl)) only [e, eb_222_29, kl_a, kl_d, kl_f, kl_i, kl_l, kl_n, kl_r, xr_1, xr_10, xr_11, xr_12, xr_13, xr_14, xr_15, xr_151, xr_152, xr_153, xr_154, xr_155, xr_156, xr_2, xr_27, xr_3, xr_31, xr_33, xr_34, xr_35, xr_36, xr_37, xr_38, xr_39, xr_4, xr_41, xr_44, xr_45, xr_5, xr_55, xr_56, xr_57, xr_58, xr_61, xr_62, xr_63, xr_64, xr_74, xr_75, xr_91, xr_92, xr_93, xr_94, xr_95, xr_96, xr_97, af_0, af_1, xt_goto, xt_ib, xt_ic, xt_ic_eq, xt_ic_ge, xt_ic_gt, xt_ic_lt, xt_ic_ne, xt_if_eq, xt_if_ne, xt_ir, xt_nop, wF_0, wF_1, wF_2, wF_3, wF_4, wF_5, wF_6, wF_7, wF_8, wF_9, wF_10, wF_11, wF_12, wF_13, wP_9, wP_10, wL_5, wC_5, wC_17, wD, hw_app, hw_len, wA_1, wA_2, wA_3, wA_4, wA_5, wA_6, wA_7, wA_8, wA_17, wW_1, wW_2, wW_3, wW_4, wW_5, wW_6, wW_7, wW_8, wW_17, mF_10 (Mo_hw H), mF_11 (Mo_hw H), mF_6 (Mo_hw H), mF_8 (Mo_hw H), mF_9 (Mo_hw H), mA_63 (Mo_hw H), mA_64 (Mo_hw H), mA_65 (Mo_hw H), mA_66 (Mo_hw H), mA_67 (Mo_hw H), mA_68 (Mo_hw H), mA_69 (Mo_hw H), mA_70 (Mo_hw H), mA_71 (Mo_hw H), xq_189_13_virtualm (Mo_hw H), xq_196_13_virtualm (Mo_hw H), xq_221_13_virtualm (Mo_hw H), xq_277_200_static, iN_add, iN_mul, iN_sub, iN_and, iN_or, iN_clr, iN_shl, iN_shr, tb_r1, b1_z, b1_or, b1_and, b1_or0, b1_or1, b1_0or, b1_t, b1_f, iN_lt, iN_inj, reduceIte, if_true, if_false, Nat.zero_add, Nat.add_zero, Bool.false_eq_true, Bool.true_eq_false, Nat.lt_irrefl, iN_az, not_true_eq_false, not_false_eq_true, Nat.reduceEqDiff, Nat.reduceLT, Nat.reduceAdd, Nat.reduceMul, Nat.reduceSub]
    · by_cases h1 : (σ 1 2) * (σ 1 5) ≤ i
      · rw [decide_eq_false (show ¬ i < (σ 1 2) * (σ 1 5) by omega), Bool.false_and, Bool.and_false]
        simp
      · rw [decide_eq_false h1, Bool.false_and]
        simp
  · intro v hv ih Y hY
    have e := m_189 (xs := xs) (d := d + 3) O (Mo_hw (nn := (σ 1 6)) (W := W) (β := β) (T := [oI (ar 6 Y)]) H)
    have e2 := m_196 (xs := xs) (d := d + 1) O (Mo_hw (nn := (σ 1 6)) (W := W) (β := β) (T := [oI (ar 6 Y)]) H) hl hv
    have hcl := cov_lt O (l := l) (vb O hv).2.1
    have hv32 : v < 32 := by omega
    have am := and_m hY
    cases hk : tkb σ (decide (m < n)) sl l v
    · obtain ⟨x, e3, q⟩ := ih Y hY
      refine ⟨x, ?_, fun i => ?_⟩
      · unfold tkb at hk
        rw [Bool.or_eq_false_iff, decide_eq_false_iff_not, decide_eq_false_iff_not] at hk
        have hk1 := hk.1
        have hk2 : cov σ l (v / (σ 1 5)) &&& sl = 0 := Classical.byContradiction fun z => hk.2 z
        rw [eb_222_28]
        clear ih q hk
        simp (disch := first | assumption | omega | exact st8_a (Nat.le_of_ble_eq_true rfl)) only [e, hv, e2, hT_ld, hT_st, hk1, hk2, am, eb_222_29, eb_222_30, eb_222_31, eb_222_32, eb_222_34, eb_222_35, kl_a, kl_d, kl_f, kl_i, kl_l, kl_n, kl_r, xr_1, xr_10, xr_11, xr_12, xr_13, xr_14, xr_15, xr_151, xr_152, xr_153, xr_154, xr_155, xr_156, xr_2, xr_27, xr_3, xr_31, xr_33, xr_34, xr_35, xr_36, xr_37, xr_38, xr_39, xr_4, xr_41, xr_44, xr_45, xr_5, xr_55, xr_56, xr_57, xr_58, xr_61, xr_62, xr_63, xr_64, xr_74, xr_75, xr_91, xr_92, xr_93, xr_94, xr_95, xr_96, xr_97, af_0, af_1, xt_goto, xt_ib, xt_ic, xt_ic_eq, xt_ic_ge, xt_ic_gt, xt_ic_lt, xt_ic_ne, xt_if_eq, xt_if_ne, xt_ir, xt_nop, wF_0, wF_1, wF_2, wF_3, wF_4, wF_5, wF_6, wF_7, wF_8, wF_9, wF_10, wF_11, wF_12, wF_13, wP_9, wP_10, wL_5, wC_5, wC_17, wD, hw_app, hw_len, wA_1, wA_2, wA_3, wA_4, wA_5, wA_6, wA_7, wA_8, wA_17, wW_1, wW_2, wW_3, wW_4, wW_5, wW_6, wW_7, wW_8, wW_17, mF_10 (Mo_hw H), mF_11 (Mo_hw H), mF_6 (Mo_hw H), mF_8 (Mo_hw H), mF_9 (Mo_hw H), mA_63 (Mo_hw H), mA_64 (Mo_hw H), mA_65 (Mo_hw H), mA_66 (Mo_hw H), mA_67 (Mo_hw H), mA_68 (Mo_hw H), mA_69 (Mo_hw H), mA_70 (Mo_hw H), mA_71 (Mo_hw H), xq_189_13_virtualm (Mo_hw H), xq_196_13_virtualm (Mo_hw H), xq_221_13_virtualm (Mo_hw H), xq_277_200_static, iN_add, iN_mul, iN_sub, iN_and, iN_or, iN_clr, iN_shl, iN_shr, tb_r1, b1_z, b1_or, b1_and, b1_or0, b1_or1, b1_0or, b1_t, b1_f, iN_lt, iN_inj, reduceIte, if_true, if_false, Nat.zero_add, Nat.add_zero, Bool.false_eq_true, Bool.true_eq_false, Nat.lt_irrefl, iN_az, not_true_eq_false, not_false_eq_true, Nat.reduceEqDiff, Nat.reduceLT, Nat.reduceAdd, Nat.reduceMul, Nat.reduceSub]
        rw [u1_same]
        exact e3
      · rw [q i]
        by_cases h1 : i = v
        · rw [h1, hk]
          simp
        · rw [show decide (v + 1 ≤ i) = decide (v ≤ i) from by
            by_cases h2 : v ≤ i
            · rw [decide_eq_true h2, decide_eq_true (show v + 1 ≤ i by omega)]
            · rw [decide_eq_false h2, decide_eq_false (show ¬ v + 1 ≤ i by omega)]]
    · obtain ⟨x, e3, q⟩ := ih (u1 Y l (clr (Y l) (1 <<< v))) (by rw [u1_s]; exact clr_lt (n := 18) hY)
      refine ⟨x, ?_, fun i => ?_⟩
      · rw [u1_twice] at e3
        rw [eb_222_28]
        by_cases hk1 : m < n
        · clear ih q hk
          simp (disch := first | assumption | omega | exact st8_a (Nat.le_of_ble_eq_true rfl)) only [e, hv, e2, hT_ld, hT_st, hk1, eb_222_29, eb_222_30, eb_222_33, eb_222_35, kl_a, kl_d, kl_f, kl_i, kl_l, kl_n, kl_r, xr_1, xr_10, xr_11, xr_12, xr_13, xr_14, xr_15, xr_151, xr_152, xr_153, xr_154, xr_155, xr_156, xr_2, xr_27, xr_3, xr_31, xr_33, xr_34, xr_35, xr_36, xr_37, xr_38, xr_39, xr_4, xr_41, xr_44, xr_45, xr_5, xr_55, xr_56, xr_57, xr_58, xr_61, xr_62, xr_63, xr_64, xr_74, xr_75, xr_91, xr_92, xr_93, xr_94, xr_95, xr_96, xr_97, af_0, af_1, xt_goto, xt_ib, xt_ic, xt_ic_eq, xt_ic_ge, xt_ic_gt, xt_ic_lt, xt_ic_ne, xt_if_eq, xt_if_ne, xt_ir, xt_nop, wF_0, wF_1, wF_2, wF_3, wF_4, wF_5, wF_6, wF_7, wF_8, wF_9, wF_10, wF_11, wF_12, wF_13, wP_9, wP_10, wL_5, wC_5, wC_17, wD, hw_app, hw_len, wA_1, wA_2, wA_3, wA_4, wA_5, wA_6, wA_7, wA_8, wA_17, wW_1, wW_2, wW_3, wW_4, wW_5, wW_6, wW_7, wW_8, wW_17, mF_10 (Mo_hw H), mF_11 (Mo_hw H), mF_6 (Mo_hw H), mF_8 (Mo_hw H), mF_9 (Mo_hw H), mA_63 (Mo_hw H), mA_64 (Mo_hw H), mA_65 (Mo_hw H), mA_66 (Mo_hw H), mA_67 (Mo_hw H), mA_68 (Mo_hw H), mA_69 (Mo_hw H), mA_70 (Mo_hw H), mA_71 (Mo_hw H), xq_189_13_virtualm (Mo_hw H), xq_196_13_virtualm (Mo_hw H), xq_221_13_virtualm (Mo_hw H), xq_277_200_static, iN_add, iN_mul, iN_sub, iN_and, iN_or, iN_clr, iN_shl, iN_shr, tb_r1, b1_z, b1_or, b1_and, b1_or0, b1_or1, b1_0or, b1_t, b1_f, iN_lt, iN_inj, reduceIte, if_true, if_false, Nat.zero_add, Nat.add_zero, Bool.false_eq_true, Bool.true_eq_false, Nat.lt_irrefl, iN_az, not_true_eq_false, not_false_eq_true, Nat.reduceEqDiff, Nat.reduceLT, Nat.reduceAdd, Nat.reduceMul, Nat.reduceSub]
          exact e3
        · unfold tkb at hk
          rw [decide_eq_false hk1, Bool.false_or, decide_eq_true_eq] at hk
          clear ih q
          simp (disch := first | assumption | omega | exact st8_a (Nat.le_of_ble_eq_true rfl)) only [e, hv, e2, hT_ld, hT_st, hk1, hk, eb_222_29, eb_222_30, eb_222_31, eb_222_32, eb_222_33, eb_222_35, kl_a, kl_d, kl_f, kl_i, kl_l, kl_n, kl_r, xr_1, xr_10, xr_11, xr_12, xr_13, xr_14, xr_15, xr_151, xr_152, xr_153, xr_154, xr_155, xr_156, xr_2, xr_27, xr_3, xr_31, xr_33, xr_34, xr_35, xr_36, xr_37, xr_38, xr_39, xr_4, xr_41, xr_44, xr_45, xr_5, xr_55, xr_56, xr_57, xr_58, xr_61, xr_62, xr_63, xr_64, xr_74, xr_75, xr_91, xr_92, xr_93, xr_94, xr_95, xr_96, xr_97, af_0, af_1, xt_goto, xt_ib, xt_ic, xt_ic_eq, xt_ic_ge, xt_ic_gt, xt_ic_lt, xt_ic_ne, xt_if_eq, xt_if_ne, xt_ir, xt_nop, wF_0, wF_1, wF_2, wF_3, wF_4, wF_5, wF_6, wF_7, wF_8, wF_9, wF_10, wF_11, wF_12, wF_13, wP_9, wP_10, wL_5, wC_5, wC_17, wD, hw_app, hw_len, wA_1, wA_2, wA_3, wA_4, wA_5, wA_6, wA_7, wA_8, wA_17, wW_1, wW_2, wW_3, wW_4, wW_5, wW_6, wW_7, wW_8, wW_17, mF_10 (Mo_hw H), mF_11 (Mo_hw H), mF_6 (Mo_hw H), mF_8 (Mo_hw H), mF_9 (Mo_hw H), mA_63 (Mo_hw H), mA_64 (Mo_hw H), mA_65 (Mo_hw H), mA_66 (Mo_hw H), mA_67 (Mo_hw H), mA_68 (Mo_hw H), mA_69 (Mo_hw H), mA_70 (Mo_hw H), mA_71 (Mo_hw H), xq_189_13_virtualm (Mo_hw H), xq_196_13_virtualm (Mo_hw H), xq_221_13_virtualm (Mo_hw H), xq_277_200_static, iN_add, iN_mul, iN_sub, iN_and, iN_or, iN_clr, iN_shl, iN_shr, tb_r1, b1_z, b1_or, b1_and, b1_or0, b1_or1, b1_0or, b1_t, b1_f, iN_lt, iN_inj, reduceIte, if_true, if_false, Nat.zero_add, Nat.add_zero, Bool.false_eq_true, Bool.true_eq_false, Nat.lt_irrefl, iN_az, not_true_eq_false, not_false_eq_true, Nat.reduceEqDiff, Nat.reduceLT, Nat.reduceAdd, Nat.reduceMul, Nat.reduceSub]
          exact e3
      · rw [q i, u1_s, clr_b]
        by_cases h1 : i = v
        · rw [h1, hk, decide_eq_true (Nat.le_refl v), decide_eq_true hv, decide_eq_true (rfl : v = v)]
          simp
        · rw [decide_eq_false h1, show decide (v + 1 ≤ i) = decide (v ≤ i) from by
            by_cases h2 : v ≤ i
            · rw [decide_eq_true h2, decide_eq_true (show v + 1 ≤ i by omega)]
            · rw [decide_eq_false h2, decide_eq_false (show ¬ v + 1 ≤ i by omega)]]
          simp
-- what a set takes from all
set_option maxRecDepth 100000 in
theorem m_222l (O : Ok σ) (H : Mo σ μ ν h0) (hmn : m ≤ n) (hnb : n ≤ 12) (hmb : m ≤ 10) {g set sl : Nat} (hg : g < 64) {Y0 : Nat → Nat} (hX : ∀ X, TS σ X → Su σ X Y0 → ∀ l, l < (σ 1 6) → (m = n → (clr g set).testBit l = true) → ∀ v, (X l).testBit v = true → tkb σ (decide (m < n)) sl l v = false) (hB : ∀ l, l < (σ 1 6) → ∀ v, (Y0 l).testBit v = true → v < (σ 1 2) * (σ 1 5)) {x2 x3 : Int32} : ∀ l, l ≤ (σ 1 6) → ∀ (Y : Nat → Nat), Su σ Y Y0 → (∀ l, l < (σ 1 6) → Y l < 262144) → ∀ (a : Bool) y11 y12, ∃ Z b z10 z11 z12, ev xs (d + 4) 222 22 ([.ref 62, .ref (h0.length + 18), .int x2, .int x3, .int (nI g), .int (nI (b1 a)), .int (nI set), .int (nI sl), .int (nI n), .int (nI m), .int (nI l), y11, y12], [], hw h0 (σ 1 6) W β [oI (ar 6 Y)]) = ev xs (d + 4) 222 41 ([.ref 62, .ref (h0.length + 18), .int x2, .int x3, .int (nI g), .int (nI (b1 (a || b))), .int (nI set), .int (nI sl), .int (nI n), .int (nI m), z10, z11, z12], [], hw h0 (σ 1 6) W β [oI (ar 6 Z)]) ∧ DR σ (TS σ) Y Z b ∧ (b = false → ∀ l', l ≤ l' → l' < (σ 1 6) → (m = n → (clr g set).testBit l' = true) → ∀ v, (Y l').testBit v = true → tkb σ (decide (m < n)) sl l' v = false) := by
  obtain ⟨hD1, hD2, hH1, hH2, hS, hC, hT, hR, hL, hQ⟩ := Ok_b O
  have hV := vle O
  refine lp (σ 1 6) ?_ ?_
  · intro Y hS hY a y11 y12
    refine ⟨Y, false, .int (nI (σ 1 6)), y11, y12, ?_, DR_r, fun _ l' h1 h2 => by omega⟩
    rw [eb_222_22, Bool.or_false]
    clear hX hB hS hY
    simp (disch := first | assumption | omega | exact st8_a (Nat.le_of_ble_eq_true rfl)) only [kl_a, kl_d, kl_f, kl_i, kl_l, kl_n, kl_r, xr_1, xr_10, xr_11, xr_12, xr_13, xr_14, xr_15, xr_151, xr_152, xr_153, xr_154, xr_155, xr_156, xr_2, xr_27, xr_3, xr_31, xr_33, xr_34, xr_35, xr_36, xr_37, xr_38, xr_39, xr_4, xr_41, xr_44, xr_45, xr_5, xr_55, xr_56, xr_57, xr_58, xr_61, xr_62, xr_63, xr_64, xr_74, xr_75, xr_91, xr_92, xr_93, xr_94, xr_95, xr_96, xr_97, af_0, af_1, xt_goto, xt_ib, xt_ic, xt_ic_eq, xt_ic_ge, xt_ic_gt, xt_ic_lt, xt_ic_ne, xt_if_eq, xt_if_ne, xt_ir, xt_nop, wF_0, wF_1, wF_2, wF_3, wF_4, wF_5, wF_6, wF_7, wF_8, wF_9, wF_10, wF_11, wF_12, wF_13, wP_9, wP_10, wL_5, wC_5, wC_17, wD, hw_app, hw_len, wA_1, wA_2, wA_3, wA_4, wA_5, wA_6, wA_7, wA_8, wA_17, wW_1, wW_2, wW_3, wW_4, wW_5, wW_6, wW_7, wW_8, wW_17, mF_10 (Mo_hw H), mF_11 (Mo_hw H), mF_6 (Mo_hw H), mF_8 (Mo_hw H), mF_9 (Mo_hw H), mA_63 (Mo_hw H), mA_64 (Mo_hw H), mA_65 (Mo_hw H), mA_66 (Mo_hw H), mA_67 (Mo_hw H), mA_68 (Mo_hw H), mA_69 (Mo_hw H), mA_70 (Mo_hw H), mA_71 (Mo_hw H), xq_189_13_virtualm (Mo_hw H), xq_196_13_virtualm (Mo_hw H), xq_221_13_virtualm (Mo_hw H), xq_277_200_static, iN_add, iN_mul, iN_sub, iN_and, iN_or, iN_clr, iN_shl, iN_shr, tb_r1, b1_z, b1_or, b1_and, b1_or0, b1_or1, b1_0or, iN_lt, iN_inj, reduceIte, if_true, if_false, Nat.zero_add, Nat.add_zero, Bool.false_eq_true, Bool.true_eq_false, Nat.lt_irrefl, iN_az, not_true_eq_false, not_false_eq_true, Nat.reduceEqDiff, Nat.reduceLT, Nat.reduceAdd, Nat.reduceMul, Nat.reduceSub]
  · intro l hl ih Y hS hY a y11 y12
    have hYl := hY l hl
    have hl6 : l < 6 := by omega
    have hcg : clr g set < 64 := clr_lt (n := 6) hg
    have hnm : ¬ n < m := by omega
    by_cases hc : m = n → (clr g set).testBit l = true
    · obtain ⟨x, e1, q⟩ := m_222v (xs := xs) (d := d) (W := W) (β := β) (x2 := x2) (x3 := x3) (x4 := nI g) (x5 := nI (b1 a)) (x6 := nI set) (x11 := nI (Y l)) (sl := sl) O H hl hmb hnb 0 (Nat.zero_le _) Y hYl
      have hsub : ∀ i, x.testBit i = true → (Y l).testBit i = true := fun i hi => by
        rw [q i, Bool.and_eq_true] at hi
        exact hi.1
      have hdr : DR σ (TS σ) Y (u1 Y l x) (decide (x ≠ Y l)) := DR_x hl hYl hsub fun X hT hSX i hi => by
        have h1 := hX X hT (Su_t hSX hS) l hl hc i hi
        rw [q i, hSX l hl i hi, h1, Bool.and_false, Bool.and_false]
        rfl
      obtain ⟨Z, b, z10, z11, z12, e2, p1, p2⟩ := ih (u1 Y l x) (Su_t hdr.1 hS) (Su_lt hdr.1 hY) (a || decide (x ≠ Y l)) (.int (nI (Y l))) (.int (nI ((σ 1 2) * (σ 1 5))))
      refine ⟨Z, decide (x ≠ Y l) || b, z10, z11, z12, ?_, DR_t hdr p1, fun hb l' h1 h2 h3 v hv => ?_⟩
      · rw [← Bool.or_assoc, ← e2, eb_222_22]
        have hst : ∀ P : ab_R, ev xs (d + 4) 222 36 ([.ref 62, .ref (h0.length + 18), .int x2, .int x3, .int (nI g), .int (nI (b1 a)), .int (nI set), .int (nI sl), .int (nI n), .int (nI m), .int (nI l), .int (nI (Y l)), .int (nI ((σ 1 2) * (σ 1 5)))], [], hw h0 (σ 1 6) W β [oI (ar 6 (u1 Y l x))]) = P → ev xs (d + 4) 222 22 ([.ref 62, .ref (h0.length + 18), .int x2, .int x3, .int (nI g), .int (nI (b1 (a || decide (x ≠ Y l)))), .int (nI set), .int (nI sl), .int (nI n), .int (nI m), .int (nI (l + 1)), .int (nI (Y l)), .int (nI ((σ 1 2) * (σ 1 5)))], [], hw h0 (σ 1 6) W β [oI (ar 6 (u1 Y l x))]) = P := fun P hP => by
          rw [← hP]
          have hx18 : x < 262144 := mask_lt (n := 18) fun i hi => by
            by_cases h3 : i < 18
            · exact h3
            · have h4 := hsub i hi
              rw [Nat.testBit_lt_two_pow (Nat.lt_of_lt_of_le hYl (Nat.pow_le_pow_right (n := 2) (i := 18) (by decide) (by omega)))] at h4
              cases h4
          have us : u1 Y l x l = x := u1_s _ _ _
          clear hX hB hS hY ih e1 e2 q hsub hdr p1 p2 hc hP
          symm
          by_cases hx : x = Y l
          · rw [decide_eq_false (fun z => z hx), Bool.or_false]
            have hx2 : (x = Y l) = True := eq_true hx
            simp (disch := first | assumption | omega | exact st8_a (Nat.le_of_ble_eq_true rfl)) only [hT_ld, us, hx2, eb_222_36, eb_222_38, eb_222_39, eb_222_40, kl_a, kl_d, kl_f, kl_i, kl_l, kl_n, kl_r, xr_1, xr_10, xr_11, xr_12, xr_13, xr_14, xr_15, xr_151, xr_152, xr_153, xr_154, xr_155, xr_156, xr_2, xr_27, xr_3, xr_31, xr_33, xr_34, xr_35, xr_36, xr_37, xr_38, xr_39, xr_4, xr_41, xr_44, xr_45, xr_5, xr_55, xr_56, xr_57, xr_58, xr_61, xr_62, xr_63, xr_64, xr_74, xr_75, xr_91, xr_92, xr_93, xr_94, xr_95, xr_96, xr_97, af_0, af_1, xt_goto, xt_ib, xt_ic, xt_ic_eq, xt_ic_ge, xt_ic_gt, xt_ic_lt, xt_ic_ne, xt_if_eq, xt_if_ne, xt_ir, xt_nop, wF_0, wF_1, wF_2, wF_3, wF_4, wF_5, wF_6, wF_7, wF_8, wF_9, wF_10, wF_11, wF_12, wF_13, wP_9, wP_10, wL_5, wC_5, wC_17, wD, hw_app, hw_len, wA_1, wA_2, wA_3, wA_4, wA_5, wA_6, wA_7, wA_8, wA_17, wW_1, wW_2, wW_3, wW_4, wW_5, wW_6, wW_7, wW_8, wW_17, mF_10 (Mo_hw H), mF_11 (Mo_hw H), mF_6 (Mo_hw H), mF_8 (Mo_hw H), mF_9 (Mo_hw H), mA_63 (Mo_hw H), mA_64 (Mo_hw H), mA_65 (Mo_hw H), mA_66 (Mo_hw H), mA_67 (Mo_hw H), mA_68 (Mo_hw H), mA_69 (Mo_hw H), mA_70 (Mo_hw H), mA_71 (Mo_hw H), xq_189_13_virtualm (Mo_hw H), xq_196_13_virtualm (Mo_hw H), xq_221_13_virtualm (Mo_hw H), xq_277_200_static, iN_add, iN_mul, iN_sub, iN_and, iN_or, iN_clr, iN_shl, iN_shr, tb_r1, b1_z, b1_or, b1_and, b1_or0, b1_or1, b1_0or, iN_lt, iN_inj, reduceIte, if_true, if_false, Nat.zero_add, Nat.add_zero, Bool.false_eq_true, Bool.true_eq_false, Nat.lt_irrefl, iN_az, not_true_eq_false, not_false_eq_true, Nat.reduceEqDiff, Nat.reduceLT, Nat.reduceAdd, Nat.reduceMul, Nat.reduceSub]
          · rw [decide_eq_true hx, Bool.or_true]
            simp (disch := first | assumption | omega | exact st8_a (Nat.le_of_ble_eq_true rfl)) only [hT_ld, us, hx, eb_222_36, eb_222_37, eb_222_39, eb_222_40, kl_a, kl_d, kl_f, kl_i, kl_l, kl_n, kl_r, xr_1, xr_10, xr_11, xr_12, xr_13, xr_14, xr_15, xr_151, xr_152, xr_153, xr_154, xr_155, xr_156, xr_2, xr_27, xr_3, xr_31, xr_33, xr_34, xr_35, xr_36, xr_37, xr_38, xr_39, xr_4, xr_41, xr_44, xr_45, xr_5, xr_55, xr_56, xr_57, xr_58, xr_61, xr_62, xr_63, xr_64, xr_74, xr_75, xr_91, xr_92, xr_93, xr_94, xr_95, xr_96, xr_97, af_0, af_1, xt_goto, xt_ib, xt_ic, xt_ic_eq, xt_ic_ge, xt_ic_gt, xt_ic_lt, xt_ic_ne, xt_if_eq, xt_if_ne, xt_ir, xt_nop, wF_0, wF_1, wF_2, wF_3, wF_4, wF_5, wF_6, wF_7, wF_8, wF_9, wF_10, wF_11, wF_12, wF_13, wP_9, wP_10, wL_5, wC_5, wC_17, wD, hw_app, hw_len, wA_1, wA_2, wA_3, wA_4, wA_5, wA_6, wA_7, wA_8, wA_17, wW_1, wW_2, wW_3, wW_4, wW_5, wW_6, wW_7, wW_8, wW_17, mF_10 (Mo_hw H), mF_11 (Mo_hw H), mF_6 (Mo_hw H), mF_8 (Mo_hw H), mF_9 (Mo_hw H), mA_63 (Mo_hw H), mA_64 (Mo_hw H), mA_65 (Mo_hw H), mA_66 (Mo_hw H), mA_67 (Mo_hw H), mA_68 (Mo_hw H), mA_69 (Mo_hw H), mA_70 (Mo_hw H), mA_71 (Mo_hw H), xq_189_13_virtualm (Mo_hw H), xq_196_13_virtualm (Mo_hw H), xq_221_13_virtualm (Mo_hw H), xq_277_200_static, iN_add, iN_mul, iN_sub, iN_and, iN_or, iN_clr, iN_shl, iN_shr, tb_r1, b1_z, b1_or, b1_and, b1_or0, b1_or1, b1_0or, b1_t, b1_f, iN_lt, iN_inj, reduceIte, if_true, if_false, Nat.zero_add, Nat.add_zero, Bool.false_eq_true, Bool.true_eq_false, Nat.lt_irrefl, iN_az, not_true_eq_false, not_false_eq_true, Nat.reduceEqDiff, Nat.reduceLT, Nat.reduceAdd, Nat.reduceMul, Nat.reduceSub]
        refine Eq.trans ?_ (hst _ rfl).symm
        rw [← e1]
        clear hX hB hS hY ih e1 e2 q hsub hdr p1 p2 hst
        by_cases hmn2 : m = n
        · have hc := hc hmn2
          have hmn3 : (m = n) = True := eq_true hmn2
          simp (disch := first | assumption | omega | exact st8_a (Nat.le_of_ble_eq_true rfl)) only [hT_ld, hl, hnm, hmn3, hc, show b1 true = 1 from rfl, eb_222_23, eb_222_24, eb_222_25, eb_222_27, kl_a, kl_d, kl_f, kl_i, kl_l, kl_n, kl_r, xr_1, xr_10, xr_11, xr_12, xr_13, xr_14, xr_15, xr_151, xr_152, xr_153, xr_154, xr_155, xr_156, xr_2, xr_27, xr_3, xr_31, xr_33, xr_34, xr_35, xr_36, xr_37, xr_38, xr_39, xr_4, xr_41, xr_44, xr_45, xr_5, xr_55, xr_56, xr_57, xr_58, xr_61, xr_62, xr_63, xr_64, xr_74, xr_75, xr_91, xr_92, xr_93, xr_94, xr_95, xr_96, xr_97, af_0, af_1, xt_goto, xt_ib, xt_ic, xt_ic_eq, xt_ic_ge, xt_ic_gt, xt_ic_lt, xt_ic_ne, xt_if_eq, xt_if_ne, xt_ir, xt_nop, wF_0, wF_1, wF_2, wF_3, wF_4, wF_5, wF_6, wF_7, wF_8, wF_9, wF_10, wF_11, wF_12, wF_13, wP_9, wP_10, wL_5, wC_5, wC_17, wD, hw_app, hw_len, wA_1, wA_2, wA_3, wA_4, wA_5, wA_6, wA_7, wA_8, wA_17, wW_1, wW_2, wW_3, wW_4, wW_5, wW_6, wW_7, wW_8, wW_17, mF_10 (Mo_hw H), mF_11 (Mo_hw H), mF_6 (Mo_hw H), mF_8 (Mo_hw H), mF_9 (Mo_hw H), mA_63 (Mo_hw H), mA_64 (Mo_hw H), mA_65 (Mo_hw H), mA_66 (Mo_hw H), mA_67 (Mo_hw H), mA_68 (Mo_hw H), mA_69 (Mo_hw H), mA_70 (Mo_hw H), mA_71 (Mo_hw H), xq_189_13_virtualm (Mo_hw H), xq_196_13_virtualm (Mo_hw H), xq_221_13_virtualm (Mo_hw H), xq_277_200_static, iN_add, iN_mul, iN_sub, iN_and, iN_or, iN_clr, iN_shl, iN_shr, tb_r1, b1_z, b1_or, b1_and, b1_or0, b1_or1, b1_0or, iN_lt, iN_inj, reduceIte, if_true, if_false, Nat.zero_add, Nat.add_zero, Bool.false_eq_true, Bool.true_eq_false, Nat.lt_irrefl, iN_az, not_true_eq_false, not_false_eq_true, Nat.reduceEqDiff, Nat.reduceLT, Nat.reduceAdd, Nat.reduceMul, Nat.reduceSub]
        · simp (disch := first | assumption | omega | exact st8_a (Nat.le_of_ble_eq_true rfl)) only [hT_ld, hl, hnm, hmn2, eb_222_23, eb_222_24, eb_222_27, kl_a, kl_d, kl_f, kl_i, kl_l, kl_n, kl_r, xr_1, xr_10, xr_11, xr_12, xr_13, xr_14, xr_15, xr_151, xr_152, xr_153, xr_154, xr_155, xr_156, xr_2, xr_27, xr_3, xr_31, xr_33, xr_34, xr_35, xr_36, xr_37, xr_38, xr_39, xr_4, xr_41, xr_44, xr_45, xr_5, xr_55, xr_56, xr_57, xr_58, xr_61, xr_62, xr_63, xr_64, xr_74, xr_75, xr_91, xr_92, xr_93, xr_94, xr_95, xr_96, xr_97, af_0, af_1, xt_goto, xt_ib, xt_ic, xt_ic_eq, xt_ic_ge, xt_ic_gt, xt_ic_lt, xt_ic_ne, xt_if_eq, xt_if_ne, xt_ir, xt_nop, wF_0, wF_1, wF_2, wF_3, wF_4, wF_5, wF_6, wF_7, wF_8, wF_9, wF_10, wF_11, wF_12, wF_13, wP_9, wP_10, wL_5, wC_5, wC_17, wD, hw_app, hw_len, wA_1, wA_2, wA_3, wA_4, wA_5, wA_6, wA_7, wA_8, wA_17, wW_1, wW_2, wW_3, wW_4, wW_5, wW_6, wW_7, wW_8, wW_17, mF_10 (Mo_hw H), mF_11 (Mo_hw H), mF_6 (Mo_hw H), mF_8 (Mo_hw H), mF_9 (Mo_hw H), mA_63 (Mo_hw H), mA_64 (Mo_hw H), mA_65 (Mo_hw H), mA_66 (Mo_hw H), mA_67 (Mo_hw H), mA_68 (Mo_hw H), mA_69 (Mo_hw H), mA_70 (Mo_hw H), mA_71 (Mo_hw H), xq_189_13_virtualm (Mo_hw H), xq_196_13_virtualm (Mo_hw H), xq_221_13_virtualm (Mo_hw H), xq_277_200_static, iN_add, iN_mul, iN_sub, iN_and, iN_or, iN_clr, iN_shl, iN_shr, tb_r1, b1_z, b1_or, b1_and, b1_or0, b1_or1, b1_0or, iN_lt, iN_inj, reduceIte, if_true, if_false, Nat.zero_add, Nat.add_zero, Bool.false_eq_true, Bool.true_eq_false, Nat.lt_irrefl, iN_az, not_true_eq_false, not_false_eq_true, Nat.reduceEqDiff, Nat.reduceLT, Nat.reduceAdd, Nat.reduceMul, Nat.reduceSub]
      · rw [Bool.or_eq_false_iff, decide_eq_false_iff_not] at hb
        have hx : x = Y l := Classical.byContradiction fun z => hb.1 z
        by_cases e : l' = l
        · rw [e] at hv ⊢
          have h4 := q v
          rw [hx, hv, Bool.true_and] at h4
          have hvb := hB l hl v (hS l hl v hv)
          rw [decide_eq_true (Nat.zero_le v), decide_eq_true hvb, Bool.true_and, Bool.true_and] at h4
          simpa using h4
        · refine p2 hb.2 l' (by omega) h2 h3 v ?_
          rw [u1_n e]
          exact hv
    · have hmn2 : m = n := Classical.byContradiction fun z => hc fun h => absurd h z
      have hcl : (clr g set).testBit l = false := by
        cases h : (clr g set).testBit l
        · rfl
        · exact absurd (fun _ => h) hc
      obtain ⟨Z, b, z10, z11, z12, e2, p1, p2⟩ := ih Y hS hY a y11 y12
      refine ⟨Z, b, z10, z11, z12, ?_, p1, fun hb l' h1 h2 h3 => ?_⟩
      · rw [← e2, eb_222_22]
        have hmn3 : (m = n) = True := eq_true hmn2
        clear hX hB hS hY ih e2 p1 p2 hc
        simp (disch := first | assumption | omega | exact st8_a (Nat.le_of_ble_eq_true rfl)) only [hT_ld, hl, hnm, hmn3, hcl, show b1 false = 0 from rfl, eb_222_23, eb_222_24, eb_222_25, eb_222_26, eb_222_40, kl_a, kl_d, kl_f, kl_i, kl_l, kl_n, kl_r, xr_1, xr_10, xr_11, xr_12, xr_13, xr_14, xr_15, xr_151, xr_152, xr_153, xr_154, xr_155, xr_156, xr_2, xr_27, xr_3, xr_31, xr_33, xr_34, xr_35, xr_36, xr_37, xr_38, xr_39, xr_4, xr_41, xr_44, xr_45, xr_5, xr_55, xr_56, xr_57, xr_58, xr_61, xr_62, xr_63, xr_64, xr_74, xr_75, xr_91, xr_92, xr_93, xr_94, xr_95, xr_96, xr_97, af_0, af_1, xt_goto, xt_ib, xt_ic, xt_ic_eq, xt_ic_ge, xt_ic_gt, xt_ic_lt, xt_ic_ne, xt_if_eq, xt_if_ne, xt_ir, xt_nop, wF_0, wF_1, wF_2, wF_3, wF_4, wF_5, wF_6, wF_7, wF_8, wF_9, wF_10, wF_11, wF_12, wF_13, wP_9, wP_10, wL_5, wC_5, wC_17, wD, hw_app, hw_len, wA_1, wA_2, wA_3, wA_4, wA_5, wA_6, wA_7, wA_8, wA_17, wW_1, wW_2, wW_3, wW_4, wW_5, wW_6, wW_7, wW_8, wW_17, mF_10 (Mo_hw H), mF_11 (Mo_hw H), mF_6 (Mo_hw H), mF_8 (Mo_hw H), mF_9 (Mo_hw H), mA_63 (Mo_hw H), mA_64 (Mo_hw H), mA_65 (Mo_hw H), mA_66 (Mo_hw H), mA_67 (Mo_hw H), mA_68 (Mo_hw H), mA_69 (Mo_hw H), mA_70 (Mo_hw H), mA_71 (Mo_hw H), xq_189_13_virtualm (Mo_hw H), xq_196_13_virtualm (Mo_hw H), xq_221_13_virtualm (Mo_hw H), xq_277_200_static, iN_add, iN_mul, iN_sub, iN_and, iN_or, iN_clr, iN_shl, iN_shr, tb_r1, b1_z, b1_or, b1_and, b1_or0, b1_or1, b1_0or, iN_lt, iN_inj, reduceIte, if_true, if_false, Nat.zero_add, Nat.add_zero, Bool.false_eq_true, Bool.true_eq_false, Nat.lt_irrefl, iN_az, not_true_eq_false, not_false_eq_true, Nat.reduceEqDiff, Nat.reduceLT, Nat.reduceAdd, Nat.reduceMul, Nat.reduceSub]
      · by_cases e : l' = l
        · rw [e] at h3
          exact absurd h3 hc
        · exact p2 hb l' (by omega) h2 h3
end Nrb
