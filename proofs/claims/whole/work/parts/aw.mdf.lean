/-! THE MODEL: values left, simple questions about the present timetable -/
/-- what a call lays down on the heap -/
def GT (T : ab_H) (c s : Nat) : Prop := T.length ≤ c ∧ ab_hsz T ≤ s
section Mdf
variable {xs : List Int32} {d m n k i j p a b c u v l q z w : Nat} {τ M σ W : Nat → Nat → Nat} {μ μ0 : Nat → Nat} {ν ν0 : Nat → Value} {A B Q T T2 h : ab_H} {s r g f X Z Y tab : Nat → Nat} {st : List Value} {x y : Int32} {β : Value}
set_option maxRecDepth 100000 in
theorem hsz_a : ab_hsz (A ++ B) = ab_hsz A + ab_hsz B := by
  unfold ab_hsz
  rw [List.map_append, List.sum_append]
set_option maxRecDepth 100000 in
theorem hsz_1 {o : ab_O} : ab_hsz [o] = ab_osz o := by
  unfold ab_hsz
  rw [List.map_cons, List.map_nil, List.sum_cons, List.sum_nil, Nat.add_zero]
set_option maxRecDepth 100000 in
theorem GT_a {c1 s1 c2 s2 : Nat} (h : GT A c1 s1) (h2 : GT B c2 s2) : GT (A ++ B) (c1 + c2) (s1 + s2) := ⟨by rw [List.length_append]; exact Nat.add_le_add h.1 h2.1, by rw [hsz_a]; exact Nat.add_le_add h.2 h2.2⟩
set_option maxRecDepth 100000 in
theorem GT_w {c1 s1 c2 s2 : Nat} (h : GT A c1 s1) (hc : c1 ≤ c2) (hs : s1 ≤ s2) : GT A c2 s2 := ⟨Nat.le_trans h.1 hc, Nat.le_trans h.2 hs⟩
set_option maxRecDepth 100000 in
theorem GT_0 : GT [] 0 0 := ⟨Nat.le_refl _, Nat.le_refl _⟩
set_option maxRecDepth 100000 in
theorem GT_1 (hn : n ≤ a) : GT [oI (ar n f)] 1 a := ⟨Nat.le_refl _, by rw [hsz_1]; show (ar n f).length ≤ a; rw [ar_len]; exact hn⟩
set_option maxRecDepth 100000 in
theorem GT_wc (hn : n ≤ 6) : GT (wcs w n W β) 18 1827 := ⟨Nat.le_refl _, by
  have : ab_hsz (wcs w n W β) = 1821 + n := by
    unfold ab_hsz wcs
    simp only [List.map_cons, List.map_nil, List.sum_cons, List.sum_nil, ab_osz, ar_len, List.length_cons, List.length_nil]
    show (if 14 ≤ 12 then 6 else 14) + _ = _
    rw [if_neg (by decide)]
    omega
  omega⟩
set_option maxRecDepth 100000 in
theorem GT_sz (hL : (σ 1 6) ≤ 6) (hc : T.length ≤ c) (hS : SZ σ T) : GT T c (6 * c) := ⟨hc, by
  have : ∀ T : ab_H, SZ σ T → ab_hsz T ≤ 6 * T.length := by
    intro T
    induction T with
    | nil => intro _; exact Nat.le_refl _
    | cons o T ih =>
      intro h
      have h1 := ih fun o ho => h o (List.mem_cons_of_mem _ ho)
      obtain ⟨f, hf⟩ := h o List.mem_cons_self
      have h2 : ab_hsz (o :: T) = ab_osz o + ab_hsz T := hsz_a (A := [o]) (B := T) |>.trans (by rw [hsz_1])
      have h3 : ab_osz o = (σ 1 6) := by rw [hf]; exact ar_len _ _
      rw [h2, List.length_cons]
      omega
  have := this T hS
  omega⟩
-- values in the class's layout and in the model's
set_option maxRecDepth 100000 in
theorem pc_Cv (O : Ok σ) : ∀ s, s ≤ (σ 1 2) → ∀ r, r ≤ (σ 1 5) → (s < (σ 1 2) ∨ r = 0) → pc (s * 3 + r) (Cv σ X l) = pc (s * (σ 1 5) + r) (X l) := by
  obtain ⟨hD1, hD2, hH1, hH2, hS, hC, hT, hR, hL, hQ⟩ := Ok_b O
  intro s
  induction s with
  | zero =>
    intro _ r hr h0
    have key : ∀ r, r ≤ (σ 1 5) → (0 < (σ 1 2) ∨ r = 0) → pc r (Cv σ X l) = pc r (X l) := by
      intro r
      induction r with
      | zero => intro _ _; rfl
      | succ r ih =>
        intro hr h0
        have e := Cv_b (X := X) (l := l) O (s := 0) (r := r) (by omega) (by omega)
        rw [Nat.zero_mul, Nat.zero_mul, Nat.zero_add] at e
        rw [pc, pc, ih (by omega) (.inl (by omega)), Bool.eq_iff_iff.mpr e]
    rw [Nat.zero_mul, Nat.zero_mul, Nat.zero_add]
    exact key r hr h0
  | succ s ihs =>
    intro hs r
    induction r with
    | zero =>
      intro _ _
      have e := ihs (by omega) (σ 1 5) (Nat.le_refl _) (.inl (by omega))
      rw [show (s + 1) * 3 + 0 = s * 3 + 3 by omega, show (s + 1) * (σ 1 5) + 0 = s * (σ 1 5) + (σ 1 5) by rw [Nat.add_zero, Nat.add_mul, Nat.one_mul], ← e]
      refine pc_same (by omega) fun i h1 h2 => ?_
      cases hc : (Cv σ X l).testBit i
      · rfl
      · have := (Cv_tb.mp hc).2.1
        omega
    | succ r ih =>
      intro hr h0
      have h1 : s + 1 < (σ 1 2) := by omega
      have e := Cv_b (X := X) (l := l) O (s := s + 1) (r := r) h1 (by omega)
      rw [← Nat.add_assoc, ← Nat.add_assoc, pc, pc, ih (by omega) (.inl h1), Bool.eq_iff_iff.mpr e]
set_option maxRecDepth 100000 in
theorem pc_CvA (O : Ok σ) (hb : ∀ v, (X l).testBit v = true → v < (σ 1 2) * (σ 1 5)) : pc 18 (Cv σ X l) = pc 18 (X l) := by
  obtain ⟨hD1, hD2, hH1, hH2, hS, hC, hT, hR, hL, hQ⟩ := Ok_b O
  have e := pc_Cv (X := X) (l := l) O (σ 1 2) (Nat.le_refl _) 0 (Nat.zero_le _) (.inr rfl)
  rw [Nat.add_zero, Nat.add_zero] at e
  have h1 : (σ 1 2) * (σ 1 5) ≤ 6 * 3 := Nat.mul_le_mul (by omega) hR
  have e18 : pc 18 (X l) = pc ((σ 1 2) * (σ 1 5)) (X l) := pc_same h1 fun i h1 h2 => by
    cases hc : (X l).testBit i
    · rfl
    · have := hb i hc
      omega
  rw [e18, ← e]
  refine pc_same (by omega) fun i h1 h2 => ?_
  cases hc : (Cv σ X l).testBit i
  · rfl
  · obtain ⟨q1, q2, q3⟩ := Cv_tb.mp hc
    have q4 := hb _ q3
    have q5 : (σ 1 2) ≤ i / 3 := by omega
    have q6 : (σ 1 2) * (σ 1 5) ≤ i / 3 * (σ 1 5) := Nat.mul_le_mul_right _ q5
    omega
set_option maxRecDepth 100000 in
theorem m_219q (O : Ok σ) : ∃ T Z, ev xs (d + 7) 219 0 ([.ref 62, .retAddr 9, .retAddr 9, .retAddr 9, .retAddr 9], [], mh τ M σ μ ν Q) = some (.inl (some (.ref (72 + (Q.length + 18)))), mh τ M σ μ ν (Q ++ T)) ∧ (Q ++ T)[Q.length + 18]? = some (oI (ar 6 Z)) ∧ GT T 19 1833 ∧ VS σ (Cv σ Z) ∧ (∀ l, l < (σ 1 6) → Z l < 262144) ∧ ∀ l, l < (σ 1 6) → ∀ v, (Z l).testBit v = true → v < (σ 1 2) * (σ 1 5) := by
  obtain ⟨hD1, hD2, hH1, hH2, hS, hC, hT, hR, hL, hQ⟩ := Ok_b O
  obtain ⟨W, Z, e, q1, q2, q3⟩ := m_219 (xs := xs) (d := d) O (mh_Mo (τ := τ) (M := M) (μ := μ) (ν := ν) (Q := Q))
  rw [hw_mh, mh_len, Nat.add_assoc] at e
  refine ⟨_, Z, e, ?_, GT_a (GT_wc hL) (GT_1 (Nat.le_refl _)), q1, q2, q3⟩
  rw [List.getElem?_append_right (Nat.le_add_right _ _), Nat.add_sub_cancel_left]
  rfl
set_option maxRecDepth 100000 in
theorem m_231x (O : Ok σ) (hu : u < 4294967296) (h : ¬ u < (σ 1 6)) : ev xs (d + 2) 231 0 ([.ref 62, .int (nI u)], [], mh τ M σ μ ν Q) = some (.inl (some (.int (nI (0)))), mh τ M σ (u1 μ 0 1) ν Q) := by
  simp (disch := first | assumption | omega | exact st8_a (Nat.le_of_ble_eq_true rfl)) only [m_190 O mh_Mo hu, decide_eq_false h, en0, eb_231_0, eb_231_1, eb_231_2, eb_231_3, eb_231_6, xr_1, xr_10, xr_2, xr_27, xr_28, xr_3, xr_4, xr_5, af_0, af_1, xt_goto, xt_ib, xt_ic, xt_if_eq, xt_ir, mA_63 mh_Mo, mA_64 mh_Mo, mA_65 mh_Mo, mA_66 mh_Mo, mA_67 mh_Mo, mA_68 mh_Mo, mA_69 mh_Mo, mA_70 mh_Mo, mA_71 mh_Mo, xq_187_13_virtualm mh_Mo, xq_190_13_virtualm mh_Mo, xq_219_13_virtualm mh_Mo, xq_277_200_static, pF_0, pF_1, pF_2, pF_5, pF_6, pF_8, pF_12, pF_16, pF_17, pF_18, pF_22, pF_24, pF_19, pF_20, pF_21, pF_23, pN_19, pN_20, pN_21, pN_23, pA_63, pA_64, pA_65, pA_66, pA_67, pA_68, pA_69, pA_70, pA_71, iN_add, iN_mul, iN_sub, iN_and, iN_or, iN_clr, iN_shl, iN_shr, tb_r1, b1_z, b1_or, b1_and, b1_or0, b1_or1, b1_0or, b1_t, b1_f, iN_lt, iN_inj, reduceIte, if_true, if_false, Nat.zero_add, Nat.add_zero, Bool.false_eq_true, Bool.true_eq_false, Nat.lt_irrefl, iN_az, not_true_eq_false, not_false_eq_true, Nat.reduceEqDiff, Nat.reduceLT, Nat.reduceAdd, Nat.reduceMul, Nat.reduceSub]
set_option maxRecDepth 100000 in
theorem m_231 (O : Ok σ) (h : u < (σ 1 6)) (hX : VS σ X) : ∃ T, ev xs (d + 8) 231 0 ([.ref 62, .int (nI u)], [], mh τ M σ μ ν Q) = some (.inl (some (.int (nI (pc 18 (X u))))), mh τ M σ (u1 μ 0 0) ν (Q ++ T)) ∧ GT T 19 1833 := by
  obtain ⟨hD1, hD2, hH1, hH2, hS, hC, hT, hR, hL, hQ⟩ := Ok_b O
  have hu : u < 4294967296 := by omega
  have hu6 : u < 6 := by omega
  obtain ⟨T, Z, e, q1, q2, q3, q4, q5⟩ := m_219q (xs := xs) (d := d) (τ := τ) (M := M) (μ := u1 μ 0 0) (ν := ν) (Q := Q) O
  refine ⟨T, ?_, q2⟩
  have hz := q4 u h
  have e2 := s_277v (xs := xs) (d := d + 7) (h := mh τ M σ (u1 μ 0 0) ν (Q ++ T)) hz
  have e3 : pc 18 (X u) = pc 18 (Z u) := by rw [VS_u hX q3 h, pc_CvA O (q5 u h)]
  rw [e3]
  clear q2 q3 q4 q5 hX hz
  simp (disch := first | assumption | omega | exact st8_a (Nat.le_of_ble_eq_true rfl)) only [m_190 O mh_Mo hu, decide_eq_true h, en1, e, pQ_l q1, e2, eb_231_0, eb_231_1, eb_231_2, eb_231_4, eb_231_5, eb_231_6, xr_1, xr_10, xr_2, xr_27, xr_28, xr_3, xr_4, xr_5, af_0, af_1, xt_goto, xt_ib, xt_ic, xt_if_eq, xt_ir, mA_63 mh_Mo, mA_64 mh_Mo, mA_65 mh_Mo, mA_66 mh_Mo, mA_67 mh_Mo, mA_68 mh_Mo, mA_69 mh_Mo, mA_70 mh_Mo, mA_71 mh_Mo, xq_187_13_virtualm mh_Mo, xq_190_13_virtualm mh_Mo, xq_219_13_virtualm mh_Mo, xq_277_200_static, pF_0, pF_1, pF_2, pF_5, pF_6, pF_8, pF_12, pF_16, pF_17, pF_18, pF_22, pF_24, pF_19, pF_20, pF_21, pF_23, pN_19, pN_20, pN_21, pN_23, pA_63, pA_64, pA_65, pA_66, pA_67, pA_68, pA_69, pA_70, pA_71, iN_add, iN_mul, iN_sub, iN_and, iN_or, iN_clr, iN_shl, iN_shr, tb_r1, b1_z, b1_or, b1_and, b1_or0, b1_or1, b1_0or, b1_t, b1_f, iN_lt, iN_inj, reduceIte, if_true, if_false, Nat.zero_add, Nat.add_zero, Bool.false_eq_true, Bool.true_eq_false, Nat.lt_irrefl, iN_az, not_true_eq_false, not_false_eq_true, Nat.reduceEqDiff, Nat.reduceLT, Nat.reduceAdd, Nat.reduceMul, Nat.reduceSub]
set_option maxRecDepth 100000 in
theorem m_232x (O : Ok σ) (hu : u < 4294967296) (h : ¬ u < (σ 1 6)) {y : Int32} : ev xs (d + 2) 232 0 ([.ref 62, .int (nI u), .int y, .retAddr 9, .retAddr 9, .retAddr 9], [], mh τ M σ μ ν Q) = some (.inl (some (.int (nI (0)))), mh τ M σ (u1 μ 0 1) ν Q) := by
  simp (disch := first | assumption | omega | exact st8_a (Nat.le_of_ble_eq_true rfl)) only [m_190 O mh_Mo hu, decide_eq_false h, en0, eb_232_0, eb_232_1, eb_232_2, eb_232_3, kl_a, kl_d, kl_f, kl_i, kl_l, kl_n, kl_r, xr_1, xr_10, xr_2, xr_27, xr_28, xr_3, xr_31, xr_32, xr_33, xr_34, xr_35, xr_36, xr_37, xr_39, xr_4, xr_40, xr_41, xr_44, xr_5, xr_55, xr_65, af_0, af_1, xt_goto, xt_ib, xt_ic, xt_ic_ge, xt_ic_ne, xt_if_eq, xt_ir, xt_nop, mF_6 mh_Mo, mA_63 mh_Mo, mA_64 mh_Mo, mA_65 mh_Mo, mA_66 mh_Mo, mA_67 mh_Mo, mA_68 mh_Mo, mA_69 mh_Mo, mA_70 mh_Mo, mA_71 mh_Mo, xq_187_13_virtualm mh_Mo, xq_189_13_virtualm mh_Mo, xq_190_13_virtualm mh_Mo, xq_194_13_virtualm mh_Mo, xq_219_13_virtualm mh_Mo, pF_0, pF_1, pF_2, pF_5, pF_6, pF_8, pF_12, pF_16, pF_17, pF_18, pF_22, pF_24, pF_19, pF_20, pF_21, pF_23, pN_19, pN_20, pN_21, pN_23, pA_63, pA_64, pA_65, pA_66, pA_67, pA_68, pA_69, pA_70, pA_71, iN_add, iN_mul, iN_sub, iN_and, iN_or, iN_clr, iN_shl, iN_shr, tb_r1, b1_z, b1_or, b1_and, b1_or0, b1_or1, b1_0or, b1_t, b1_f, iN_lt, iN_inj, reduceIte, if_true, if_false, Nat.zero_add, Nat.add_zero, Bool.false_eq_true, Bool.true_eq_false, Nat.lt_irrefl, iN_az, not_true_eq_false, not_false_eq_true, Nat.reduceEqDiff, Nat.reduceLT, Nat.reduceAdd, Nat.reduceMul, Nat.reduceSub]
-- the u-th value
set_option maxRecDepth 100000 in
theorem m_232l (O : Ok σ) (hz : z < 262144) (hu : u < 4294967296) {x : Int32} : ∀ k, k ≤ (σ 1 2) * (σ 1 5) → (∀ v, v < k → z.testBit v = true → pc v z ≠ u) → (∃ v, v < (σ 1 2) * (σ 1 5) ∧ z.testBit v = true ∧ pc v z = u ∧ ev xs (d + 1) 232 6 ([.ref 62, .int x, .int (nI u), .int (nI z), .int (nI (pc k z)), .int (nI k)], [], mh τ M σ μ ν Q) = some (.inl (some (.int (nI (v / (σ 1 5) * 10 + v % (σ 1 5))))), mh τ M σ μ ν Q)) ∨ ((∀ v, v < (σ 1 2) * (σ 1 5) → z.testBit v = true → pc v z ≠ u) ∧ ev xs (d + 1) 232 6 ([.ref 62, .int x, .int (nI u), .int (nI z), .int (nI (pc k z)), .int (nI k)], [], mh τ M σ μ ν Q) = some (.inl (some (.int (nI (0)))), mh τ M σ (u1 μ 0 2) ν Q)) := by
  obtain ⟨hD1, hD2, hH1, hH2, hS, hC, hT, hR, hL, hQ⟩ := Ok_b O
  have h1 : (σ 1 2) * (σ 1 5) ≤ 6 * 3 := Nat.mul_le_mul (by omega) hR
  have e1 := fun d => m_189 (xs := xs) (d := d) O (mh_Mo (τ := τ) (M := M) (μ := μ) (ν := ν) (Q := Q))
  refine lp ((σ 1 2) * (σ 1 5)) ?_ ?_
  · intro h
    refine .inr ⟨h, ?_⟩
    rw [eb_232_6]
    clear h
    simp (disch := first | assumption | omega | exact st8_a (Nat.le_of_ble_eq_true rfl)) only [e1, eb_232_7, eb_232_14, kl_a, kl_d, kl_f, kl_i, kl_l, kl_n, kl_r, xr_1, xr_10, xr_2, xr_27, xr_28, xr_3, xr_31, xr_32, xr_33, xr_34, xr_35, xr_36, xr_37, xr_39, xr_4, xr_40, xr_41, xr_44, xr_5, xr_55, xr_65, af_0, af_1, xt_goto, xt_ib, xt_ic, xt_ic_ge, xt_ic_ne, xt_if_eq, xt_ir, xt_nop, mF_6 mh_Mo, mA_63 mh_Mo, mA_64 mh_Mo, mA_65 mh_Mo, mA_66 mh_Mo, mA_67 mh_Mo, mA_68 mh_Mo, mA_69 mh_Mo, mA_70 mh_Mo, mA_71 mh_Mo, xq_187_13_virtualm mh_Mo, xq_189_13_virtualm mh_Mo, xq_190_13_virtualm mh_Mo, xq_194_13_virtualm mh_Mo, xq_219_13_virtualm mh_Mo, pF_0, pF_1, pF_2, pF_5, pF_6, pF_8, pF_12, pF_16, pF_17, pF_18, pF_22, pF_24, pF_19, pF_20, pF_21, pF_23, pN_19, pN_20, pN_21, pN_23, pA_63, pA_64, pA_65, pA_66, pA_67, pA_68, pA_69, pA_70, pA_71, iN_add, iN_mul, iN_sub, iN_and, iN_or, iN_clr, iN_shl, iN_shr, tb_r1, b1_z, b1_or, b1_and, b1_or0, b1_or1, b1_0or, b1_t, b1_f, iN_lt, iN_inj, reduceIte, if_true, if_false, Nat.zero_add, Nat.add_zero, Bool.false_eq_true, Bool.true_eq_false, Nat.lt_irrefl, iN_az, not_true_eq_false, not_false_eq_true, Nat.reduceEqDiff, Nat.reduceLT, Nat.reduceAdd, Nat.reduceMul, Nat.reduceSub]
  · intro k hk ih h
    have hk18 : k < 18 := by omega
    have hpk := pc_le k z
    have hz2 : z < 2147483648 := by omega
    rw [eb_232_6]
    cases hb : z.testBit k
    · have ih := ih fun v hv h2 => by
        by_cases e : v = k
        · rw [e, hb] at h2
          cases h2
        · exact h v (by omega) h2
      rw [pc, hb, b1_f, Nat.add_zero] at ih
      have ee : ev xs (d + 1) 232 6 ([.ref 62, .int x, .int (nI u), .int (nI z), .int (nI (pc k z)), .int (nI k)], [], mh τ M σ μ ν Q) = ev xs (d + 1) 232 6 ([.ref 62, .int x, .int (nI u), .int (nI z), .int (nI (pc k z)), .int (nI (k + 1))], [], mh τ M σ μ ν Q) := by
        rw [eb_232_6]
        clear ih h
        simp (disch := first | assumption | omega | exact st8_a (Nat.le_of_ble_eq_true rfl)) only [e1, hk, hb, eb_232_7, eb_232_8, eb_232_13, kl_a, kl_d, kl_f, kl_i, kl_l, kl_n, kl_r, xr_1, xr_10, xr_2, xr_27, xr_28, xr_3, xr_31, xr_32, xr_33, xr_34, xr_35, xr_36, xr_37, xr_39, xr_4, xr_40, xr_41, xr_44, xr_5, xr_55, xr_65, af_0, af_1, xt_goto, xt_ib, xt_ic, xt_ic_ge, xt_ic_ne, xt_if_eq, xt_ir, xt_nop, mF_6 mh_Mo, mA_63 mh_Mo, mA_64 mh_Mo, mA_65 mh_Mo, mA_66 mh_Mo, mA_67 mh_Mo, mA_68 mh_Mo, mA_69 mh_Mo, mA_70 mh_Mo, mA_71 mh_Mo, xq_187_13_virtualm mh_Mo, xq_189_13_virtualm mh_Mo, xq_190_13_virtualm mh_Mo, xq_194_13_virtualm mh_Mo, xq_219_13_virtualm mh_Mo, pF_0, pF_1, pF_2, pF_5, pF_6, pF_8, pF_12, pF_16, pF_17, pF_18, pF_22, pF_24, pF_19, pF_20, pF_21, pF_23, pN_19, pN_20, pN_21, pN_23, pA_63, pA_64, pA_65, pA_66, pA_67, pA_68, pA_69, pA_70, pA_71, iN_add, iN_mul, iN_sub, iN_and, iN_or, iN_clr, iN_shl, iN_shr, tb_r1, b1_z, b1_or, b1_and, b1_or0, b1_or1, b1_0or, b1_t, b1_f, iN_lt, iN_inj, reduceIte, if_true, if_false, Nat.zero_add, Nat.add_zero, Bool.false_eq_true, Bool.true_eq_false, Nat.lt_irrefl, iN_az, not_true_eq_false, not_false_eq_true, Nat.reduceEqDiff, Nat.reduceLT, Nat.reduceAdd, Nat.reduceMul, Nat.reduceSub]
      rw [eb_232_6] at ee
      rw [ee]
      exact ih
    · by_cases hp : pc k z = u
      · refine .inl ⟨k, hk, hb, hp, ?_⟩
        clear ih h
        simp (disch := first | assumption | omega | exact st8_a (Nat.le_of_ble_eq_true rfl)) only [e1, hk, hb, eq_true hp, m_194 O mh_Mo hk, eb_232_7, eb_232_8, eb_232_9, eb_232_10, eb_232_11, kl_a, kl_d, kl_f, kl_i, kl_l, kl_n, kl_r, xr_1, xr_10, xr_2, xr_27, xr_28, xr_3, xr_31, xr_32, xr_33, xr_34, xr_35, xr_36, xr_37, xr_39, xr_4, xr_40, xr_41, xr_44, xr_5, xr_55, xr_65, af_0, af_1, xt_goto, xt_ib, xt_ic, xt_ic_ge, xt_ic_ne, xt_if_eq, xt_ir, xt_nop, mF_6 mh_Mo, mA_63 mh_Mo, mA_64 mh_Mo, mA_65 mh_Mo, mA_66 mh_Mo, mA_67 mh_Mo, mA_68 mh_Mo, mA_69 mh_Mo, mA_70 mh_Mo, mA_71 mh_Mo, xq_187_13_virtualm mh_Mo, xq_189_13_virtualm mh_Mo, xq_190_13_virtualm mh_Mo, xq_194_13_virtualm mh_Mo, xq_219_13_virtualm mh_Mo, pF_0, pF_1, pF_2, pF_5, pF_6, pF_8, pF_12, pF_16, pF_17, pF_18, pF_22, pF_24, pF_19, pF_20, pF_21, pF_23, pN_19, pN_20, pN_21, pN_23, pA_63, pA_64, pA_65, pA_66, pA_67, pA_68, pA_69, pA_70, pA_71, iN_add, iN_mul, iN_sub, iN_and, iN_or, iN_clr, iN_shl, iN_shr, tb_r1, b1_z, b1_or, b1_and, b1_or0, b1_or1, b1_0or, b1_t, b1_f, iN_lt, iN_inj, reduceIte, if_true, if_false, Nat.zero_add, Nat.add_zero, Bool.false_eq_true, Bool.true_eq_false, Nat.lt_irrefl, iN_az, not_true_eq_false, not_false_eq_true, Nat.reduceEqDiff, Nat.reduceLT, Nat.reduceAdd, Nat.reduceMul, Nat.reduceSub]
      · have ih := ih fun v hv h2 => by
          by_cases e : v = k
          · rw [e]; exact hp
          · exact h v (by omega) h2
        rw [pc, hb, b1_t] at ih
        have ee : ev xs (d + 1) 232 6 ([.ref 62, .int x, .int (nI u), .int (nI z), .int (nI (pc k z)), .int (nI k)], [], mh τ M σ μ ν Q) = ev xs (d + 1) 232 6 ([.ref 62, .int x, .int (nI u), .int (nI z), .int (nI (pc k z + 1)), .int (nI (k + 1))], [], mh τ M σ μ ν Q) := by
          rw [eb_232_6]
          clear ih h
          simp (disch := first | assumption | omega | exact st8_a (Nat.le_of_ble_eq_true rfl)) only [e1, hk, hb, hp, eb_232_7, eb_232_8, eb_232_9, eb_232_12, eb_232_13, kl_a, kl_d, kl_f, kl_i, kl_l, kl_n, kl_r, xr_1, xr_10, xr_2, xr_27, xr_28, xr_3, xr_31, xr_32, xr_33, xr_34, xr_35, xr_36, xr_37, xr_39, xr_4, xr_40, xr_41, xr_44, xr_5, xr_55, xr_65, af_0, af_1, xt_goto, xt_ib, xt_ic, xt_ic_ge, xt_ic_ne, xt_if_eq, xt_ir, xt_nop, mF_6 mh_Mo, mA_63 mh_Mo, mA_64 mh_Mo, mA_65 mh_Mo, mA_66 mh_Mo, mA_67 mh_Mo, mA_68 mh_Mo, mA_69 mh_Mo, mA_70 mh_Mo, mA_71 mh_Mo, xq_187_13_virtualm mh_Mo, xq_189_13_virtualm mh_Mo, xq_190_13_virtualm mh_Mo, xq_194_13_virtualm mh_Mo, xq_219_13_virtualm mh_Mo, pF_0, pF_1, pF_2, pF_5, pF_6, pF_8, pF_12, pF_16, pF_17, pF_18, pF_22, pF_24, pF_19, pF_20, pF_21, pF_23, pN_19, pN_20, pN_21, pN_23, pA_63, pA_64, pA_65, pA_66, pA_67, pA_68, pA_69, pA_70, pA_71, iN_add, iN_mul, iN_sub, iN_and, iN_or, iN_clr, iN_shl, iN_shr, tb_r1, b1_z, b1_or, b1_and, b1_or0, b1_or1, b1_0or, b1_t, b1_f, iN_lt, iN_inj, reduceIte, if_true, if_false, Nat.zero_add, Nat.add_zero, Bool.false_eq_true, Bool.true_eq_false, Nat.lt_irrefl, iN_az, not_true_eq_false, not_false_eq_true, Nat.reduceEqDiff, Nat.reduceLT, Nat.reduceAdd, Nat.reduceMul, Nat.reduceSub]
        rw [eb_232_6] at ee
        rw [ee]
        exact ih
set_option maxRecDepth 100000 in
theorem pc_ex {u z : Nat} : ∀ n, u < pc n z → ∃ v, v < n ∧ z.testBit v = true ∧ pc v z = u := by
  intro n
  induction n with
  | zero => intro h; exact absurd h (Nat.not_lt_zero _)
  | succ n ih =>
    intro h
    by_cases h1 : u < pc n z
    · obtain ⟨v, h2, h3⟩ := ih h1
      exact ⟨v, by omega, h3⟩
    · rw [pc] at h
      cases hb : z.testBit n
      · rw [hb, b1_f] at h
        omega
      · rw [hb, b1_t] at h
        exact ⟨n, Nat.lt_succ_self n, hb, by omega⟩
set_option maxRecDepth 100000 in
theorem pc_mo {z : Nat} : ∀ n m, n ≤ m → pc n z ≤ pc m z := by
  intro n m
  induction m with
  | zero => intro h; rw [show n = 0 by omega]; exact Nat.le_refl _
  | succ m ih =>
    intro h
    by_cases e : n = m + 1
    · rw [e]; exact Nat.le_refl _
    · rw [pc]
      have := ih (by omega)
      omega
set_option maxRecDepth 100000 in
theorem pc_un {z : Nat} (h1 : z.testBit i = true) (h2 : z.testBit j = true) (h : pc i z = pc j z) : i = j := by
  have a1 : pc (i + 1) z = pc i z + 1 := by rw [pc, h1, b1_t]
  have a2 : pc (j + 1) z = pc j z + 1 := by rw [pc, h2, b1_t]
  by_cases e : i < j
  · have := pc_mo (z := z) (i + 1) j e
    omega
  · by_cases e2 : j < i
    · have := pc_mo (z := z) (j + 1) i e2
      omega
    · omega
set_option maxRecDepth 100000 in
theorem m_232 (O : Ok σ) (h : l < (σ 1 6)) (hX : VS σ X) (hu : u < 4294967296) : ∃ T, GT T 19 1833 ∧ ((¬ u < pc 18 (X l) ∧ ev xs (d + 8) 232 0 ([.ref 62, .int (nI l), .int (nI u), .retAddr 9, .retAddr 9, .retAddr 9], [], mh τ M σ μ ν Q) = some (.inl (some (.int (nI (0)))), mh τ M σ (u1 μ 0 2) ν (Q ++ T))) ∨ ∃ s r, s < (σ 1 2) ∧ r < (σ 1 5) ∧ (X l).testBit (s * 3 + r) = true ∧ pc (s * 3 + r) (X l) = u ∧ ev xs (d + 8) 232 0 ([.ref 62, .int (nI l), .int (nI u), .retAddr 9, .retAddr 9, .retAddr 9], [], mh τ M σ μ ν Q) = some (.inl (some (.int (nI (10 * s + r)))), mh τ M σ (u1 μ 0 0) ν (Q ++ T))) := by
  obtain ⟨hD1, hD2, hH1, hH2, hS, hC, hT, hR, hL, hQ⟩ := Ok_b O
  have hl : l < 4294967296 := by omega
  have hl6 : l < 6 := by omega
  obtain ⟨T, Z, e, q1, q2, q3, q4, q5⟩ := m_219q (xs := xs) (d := d) (τ := τ) (M := M) (μ := u1 μ 0 0) (ν := ν) (Q := Q) O
  have hXZ := VS_u hX q3 h
  have hz := q4 l h
  have hst : ev xs (d + 8) 232 0 ([.ref 62, .int (nI l), .int (nI u), .retAddr 9, .retAddr 9, .retAddr 9], [], mh τ M σ μ ν Q) = ev xs (d + 8) 232 6 ([.ref 62, .int (nI l), .int (nI u), .int (nI (Z l)), .int (nI 0), .int (nI 0)], [], mh τ M σ (u1 μ 0 0) ν (Q ++ T)) := by
    clear q2 q3 q4 q5 hX hz hXZ
    simp (disch := first | assumption | omega | exact st8_a (Nat.le_of_ble_eq_true rfl)) only [m_190 O mh_Mo hl, decide_eq_true h, en1, e, pQ_l q1, eb_232_0, eb_232_1, eb_232_2, eb_232_4, eb_232_5, kl_a, kl_d, kl_f, kl_i, kl_l, kl_n, kl_r, xr_1, xr_10, xr_2, xr_27, xr_28, xr_3, xr_31, xr_32, xr_33, xr_34, xr_35, xr_36, xr_37, xr_39, xr_4, xr_40, xr_41, xr_44, xr_5, xr_55, xr_65, af_0, af_1, xt_goto, xt_ib, xt_ic, xt_ic_ge, xt_ic_ne, xt_if_eq, xt_ir, xt_nop, mF_6 mh_Mo, mA_63 mh_Mo, mA_64 mh_Mo, mA_65 mh_Mo, mA_66 mh_Mo, mA_67 mh_Mo, mA_68 mh_Mo, mA_69 mh_Mo, mA_70 mh_Mo, mA_71 mh_Mo, xq_187_13_virtualm mh_Mo, xq_189_13_virtualm mh_Mo, xq_190_13_virtualm mh_Mo, xq_194_13_virtualm mh_Mo, xq_219_13_virtualm mh_Mo, pF_0, pF_1, pF_2, pF_5, pF_6, pF_8, pF_12, pF_16, pF_17, pF_18, pF_22, pF_24, pF_19, pF_20, pF_21, pF_23, pN_19, pN_20, pN_21, pN_23, pA_63, pA_64, pA_65, pA_66, pA_67, pA_68, pA_69, pA_70, pA_71, iN_add, iN_mul, iN_sub, iN_and, iN_or, iN_clr, iN_shl, iN_shr, tb_r1, b1_z, b1_or, b1_and, b1_or0, b1_or1, b1_0or, b1_t, b1_f, iN_lt, iN_inj, reduceIte, if_true, if_false, Nat.zero_add, Nat.add_zero, Bool.false_eq_true, Bool.true_eq_false, Nat.lt_irrefl, iN_az, not_true_eq_false, not_false_eq_true, Nat.reduceEqDiff, Nat.reduceLT, Nat.reduceAdd, Nat.reduceMul, Nat.reduceSub]
  refine ⟨T, q2, ?_⟩
  rw [hst, hXZ]
  rcases m_232l (xs := xs) (d := d + 7) (τ := τ) (M := M) (μ := u1 μ 0 0) (ν := ν) (Q := Q ++ T) (x := nI l) O hz hu 0 (Nat.zero_le _) (fun v hv => absurd hv (Nat.not_lt_zero v)) with ⟨v, v1, v2, v3, v4⟩ | ⟨v1, v2⟩
  · obtain ⟨-, w1, w2, -, -⟩ := vb O v1
    have hd := Nat.div_add_mod v (σ 1 5)
    have hd' : v / (σ 1 5) * (σ 1 5) + v % (σ 1 5) = v := by rw [Nat.mul_comm]; exact hd
    refine .inr ⟨v / (σ 1 5), v % (σ 1 5), w1, w2, (Cv_v O v1).mpr v2, ?_, ?_⟩
    · rw [pc_Cv O (v / (σ 1 5)) (by omega) (v % (σ 1 5)) (by omega) (.inl w1), hd', v3]
    · rw [Nat.mul_comm 10]
      exact v4
  · refine .inl ⟨fun z => ?_, ?_⟩
    · rw [pc_CvA O (q5 l h)] at z
      obtain ⟨v, y1, y2, y3⟩ := pc_ex 18 z
      exact v1 v (q5 l h v y2) y2 y3
    · rw [uu] at v2
      exact v2
-- the present timetable's simple questions
set_option maxRecDepth 100000 in
theorem m_238n (hν : ν 0 = .null) : ev xs (d + 2) 238 0 ([.ref 62], [], mh τ M σ μ ν Q) = some (.inl (some (.int (nI (0)))), mh τ M σ (u1 μ 0 1) ν Q) := by
  simp (disch := first | assumption | omega | exact st8_a (Nat.le_of_ble_eq_true rfl)) only [m_234n hν, eb_238_0, eb_238_1, eb_238_2, eb_238_4, xr_1, xr_10, xr_2, xr_27, xr_3, xr_4, xr_5, af_0, af_1, xt_goto, xt_ib, xt_ic, xt_if_eq, xt_ir, mF_19 mh_Mo, xq_208_13_virtualm mh_Mo, xq_234_13_virtualm mh_Mo, pF_0, pF_1, pF_2, pF_5, pF_6, pF_8, pF_12, pF_16, pF_17, pF_18, pF_22, pF_24, pF_19, pF_20, pF_21, pF_23, pN_19, pN_20, pN_21, pN_23, pA_63, pA_64, pA_65, pA_66, pA_67, pA_68, pA_69, pA_70, pA_71, iN_add, iN_mul, iN_sub, iN_and, iN_or, iN_clr, iN_shl, iN_shr, tb_r1, b1_z, b1_or, b1_and, b1_or0, b1_or1, b1_0or, b1_t, b1_f, iN_lt, iN_inj, reduceIte, if_true, if_false, Nat.zero_add, Nat.add_zero, Bool.false_eq_true, Bool.true_eq_false, Nat.lt_irrefl, iN_az, not_true_eq_false, not_false_eq_true, Nat.reduceEqDiff, Nat.reduceLT, Nat.reduceAdd, Nat.reduceMul, Nat.reduceSub]
set_option maxRecDepth 100000 in
theorem m_238 (O : Ok σ) (hν : ν 0 = .ref (72 + i)) (hi : Q[i]? = some (oI (ar (σ 1 6) (tv σ s r)))) (hb : ∀ l, l < (σ 1 6) → s l < (σ 1 2) ∧ r l < (σ 1 5)) : ev xs (d + 6) 238 0 ([.ref 62], [], mh τ M σ μ ν Q) = some (.inl (some (.int (nI (brk σ s r)))), mh τ M σ (u1 μ 0 0) ν Q) := by
  obtain ⟨hD1, hD2, hH1, hH2, hS, hC, hT, hR, hL, hQ⟩ := Ok_b O
  have ha := tv_AG (σ := σ) (s := s) (n := (σ 1 6)) fun l hl => (hb l hl).2
  have e := m_208 (xs := xs) (d := d) O (mh_Mo (τ := τ) (M := M) (μ := u1 μ 0 0) (ν := ν)) (mh_Q.trans hi) hL (Nat.le_refl _) fun l hl => tv_b (hb l hl).1 (hb l hl).2
  rw [brk_cg O ha] at e
  clear ha hb hi
  simp (disch := first | assumption | omega | exact st8_a (Nat.le_of_ble_eq_true rfl)) only [m_234r hν, hν, e, eb_238_0, eb_238_1, eb_238_3, eb_238_4, xr_1, xr_10, xr_2, xr_27, xr_3, xr_4, xr_5, af_0, af_1, xt_goto, xt_ib, xt_ic, xt_if_eq, xt_ir, mF_19 mh_Mo, xq_208_13_virtualm mh_Mo, xq_234_13_virtualm mh_Mo, pF_0, pF_1, pF_2, pF_5, pF_6, pF_8, pF_12, pF_16, pF_17, pF_18, pF_22, pF_24, pF_19, pF_20, pF_21, pF_23, pN_19, pN_20, pN_21, pN_23, pA_63, pA_64, pA_65, pA_66, pA_67, pA_68, pA_69, pA_70, pA_71, iN_add, iN_mul, iN_sub, iN_and, iN_or, iN_clr, iN_shl, iN_shr, tb_r1, b1_z, b1_or, b1_and, b1_or0, b1_or1, b1_0or, b1_t, b1_f, iN_lt, iN_inj, reduceIte, if_true, if_false, Nat.zero_add, Nat.add_zero, Bool.false_eq_true, Bool.true_eq_false, Nat.lt_irrefl, iN_az, not_true_eq_false, not_false_eq_true, Nat.reduceEqDiff, Nat.reduceLT, Nat.reduceAdd, Nat.reduceMul, Nat.reduceSub]
set_option maxRecDepth 100000 in
theorem m_239n (hν : ν 0 = .null) : ev xs (d + 2) 239 0 ([.ref 62], [], mh τ M σ μ ν Q) = some (.inl (some (.int (nI (0)))), mh τ M σ (u1 μ 0 1) ν Q) := by
  simp (disch := first | assumption | omega | exact st8_a (Nat.le_of_ble_eq_true rfl)) only [m_234n hν, eb_239_0, eb_239_1, eb_239_2, eb_239_4, xr_1, xr_10, xr_2, xr_27, xr_3, xr_4, xr_5, af_0, af_1, xt_goto, xt_ib, xt_ic, xt_if_eq, xt_ir, mF_19 mh_Mo, xq_209_13_virtualm mh_Mo, xq_234_13_virtualm mh_Mo, pF_0, pF_1, pF_2, pF_5, pF_6, pF_8, pF_12, pF_16, pF_17, pF_18, pF_22, pF_24, pF_19, pF_20, pF_21, pF_23, pN_19, pN_20, pN_21, pN_23, pA_63, pA_64, pA_65, pA_66, pA_67, pA_68, pA_69, pA_70, pA_71, iN_add, iN_mul, iN_sub, iN_and, iN_or, iN_clr, iN_shl, iN_shr, tb_r1, b1_z, b1_or, b1_and, b1_or0, b1_or1, b1_0or, b1_t, b1_f, iN_lt, iN_inj, reduceIte, if_true, if_false, Nat.zero_add, Nat.add_zero, Bool.false_eq_true, Bool.true_eq_false, Nat.lt_irrefl, iN_az, not_true_eq_false, not_false_eq_true, Nat.reduceEqDiff, Nat.reduceLT, Nat.reduceAdd, Nat.reduceMul, Nat.reduceSub]
set_option maxRecDepth 100000 in
theorem m_239 (O : Ok σ) (hν : ν 0 = .ref (72 + i)) (hi : Q[i]? = some (oI (ar (σ 1 6) (tv σ s r)))) (hb : ∀ l, l < (σ 1 6) → s l < (σ 1 2) ∧ r l < (σ 1 5)) : ev xs (d + 5) 239 0 ([.ref 62], [], mh τ M σ μ ν Q) = some (.inl (some (.int (nI (flt σ s r)))), mh τ M σ (u1 μ 0 0) ν Q) := by
  obtain ⟨hD1, hD2, hH1, hH2, hS, hC, hT, hR, hL, hQ⟩ := Ok_b O
  have ha := tv_AG (σ := σ) (s := s) (n := (σ 1 6)) fun l hl => (hb l hl).2
  have e := m_209 (xs := xs) (d := d) O (mh_Mo (τ := τ) (M := M) (μ := u1 μ 0 0) (ν := ν)) (mh_Q.trans hi) hL (Nat.le_refl _) fun l hl => tv_b (hb l hl).1 (hb l hl).2
  rw [flt_cg ha] at e
  clear ha hb hi
  simp (disch := first | assumption | omega | exact st8_a (Nat.le_of_ble_eq_true rfl)) only [m_234r hν, hν, e, eb_239_0, eb_239_1, eb_239_3, eb_239_4, xr_1, xr_10, xr_2, xr_27, xr_3, xr_4, xr_5, af_0, af_1, xt_goto, xt_ib, xt_ic, xt_if_eq, xt_ir, mF_19 mh_Mo, xq_209_13_virtualm mh_Mo, xq_234_13_virtualm mh_Mo, pF_0, pF_1, pF_2, pF_5, pF_6, pF_8, pF_12, pF_16, pF_17, pF_18, pF_22, pF_24, pF_19, pF_20, pF_21, pF_23, pN_19, pN_20, pN_21, pN_23, pA_63, pA_64, pA_65, pA_66, pA_67, pA_68, pA_69, pA_70, pA_71, iN_add, iN_mul, iN_sub, iN_and, iN_or, iN_clr, iN_shl, iN_shr, tb_r1, b1_z, b1_or, b1_and, b1_or0, b1_or1, b1_0or, b1_t, b1_f, iN_lt, iN_inj, reduceIte, if_true, if_false, Nat.zero_add, Nat.add_zero, Bool.false_eq_true, Bool.true_eq_false, Nat.lt_irrefl, iN_az, not_true_eq_false, not_false_eq_true, Nat.reduceEqDiff, Nat.reduceLT, Nat.reduceAdd, Nat.reduceMul, Nat.reduceSub]
set_option maxRecDepth 100000 in
theorem m_256n (hν : ν 0 = .null) : ev xs (d + 2) 256 0 ([.ref 62], [], mh τ M σ μ ν Q) = some (.inl (some (.int (nI (0)))), mh τ M σ (u1 μ 0 1) ν Q) := by
  simp (disch := first | assumption | omega | exact st8_a (Nat.le_of_ble_eq_true rfl)) only [m_234n hν, eb_256_0, eb_256_1, eb_256_2, eb_256_4, xr_1, xr_10, xr_2, xr_27, xr_3, xr_4, xr_5, af_0, af_1, xt_goto, xt_ib, xt_ic, xt_if_eq, xt_ir, mF_19 mh_Mo, xq_212_13_virtualm mh_Mo, xq_234_13_virtualm mh_Mo, pF_0, pF_1, pF_2, pF_5, pF_6, pF_8, pF_12, pF_16, pF_17, pF_18, pF_22, pF_24, pF_19, pF_20, pF_21, pF_23, pN_19, pN_20, pN_21, pN_23, pA_63, pA_64, pA_65, pA_66, pA_67, pA_68, pA_69, pA_70, pA_71, iN_add, iN_mul, iN_sub, iN_and, iN_or, iN_clr, iN_shl, iN_shr, tb_r1, b1_z, b1_or, b1_and, b1_or0, b1_or1, b1_0or, b1_t, b1_f, iN_lt, iN_inj, reduceIte, if_true, if_false, Nat.zero_add, Nat.add_zero, Bool.false_eq_true, Bool.true_eq_false, Nat.lt_irrefl, iN_az, not_true_eq_false, not_false_eq_true, Nat.reduceEqDiff, Nat.reduceLT, Nat.reduceAdd, Nat.reduceMul, Nat.reduceSub]
set_option maxRecDepth 100000 in
theorem m_256 (O : Ok σ) (hν : ν 0 = .ref (72 + i)) (hi : Q[i]? = some (oI (ar (σ 1 6) (tv σ s r)))) (hb : ∀ l, l < (σ 1 6) → s l < (σ 1 2) ∧ r l < (σ 1 5)) : ev xs (d + 5) 256 0 ([.ref 62], [], mh τ M σ μ ν Q) = some (.inl (some (.int (nI (wt σ s r)))), mh τ M σ (u1 μ 0 0) ν Q) := by
  obtain ⟨hD1, hD2, hH1, hH2, hS, hC, hT, hR, hL, hQ⟩ := Ok_b O
  have ha := tv_AG (σ := σ) (s := s) (n := (σ 1 6)) fun l hl => (hb l hl).2
  have e := m_212 (xs := xs) (d := d) O (mh_Mo (τ := τ) (M := M) (μ := u1 μ 0 0) (ν := ν)) (mh_Q.trans hi) hL (Nat.le_refl _) fun l hl => tv_b (hb l hl).1 (hb l hl).2
  rw [wt_cg ha] at e
  clear ha hb hi
  simp (disch := first | assumption | omega | exact st8_a (Nat.le_of_ble_eq_true rfl)) only [m_234r hν, hν, e, eb_256_0, eb_256_1, eb_256_3, eb_256_4, xr_1, xr_10, xr_2, xr_27, xr_3, xr_4, xr_5, af_0, af_1, xt_goto, xt_ib, xt_ic, xt_if_eq, xt_ir, mF_19 mh_Mo, xq_212_13_virtualm mh_Mo, xq_234_13_virtualm mh_Mo, pF_0, pF_1, pF_2, pF_5, pF_6, pF_8, pF_12, pF_16, pF_17, pF_18, pF_22, pF_24, pF_19, pF_20, pF_21, pF_23, pN_19, pN_20, pN_21, pN_23, pA_63, pA_64, pA_65, pA_66, pA_67, pA_68, pA_69, pA_70, pA_71, iN_add, iN_mul, iN_sub, iN_and, iN_or, iN_clr, iN_shl, iN_shr, tb_r1, b1_z, b1_or, b1_and, b1_or0, b1_or1, b1_0or, b1_t, b1_f, iN_lt, iN_inj, reduceIte, if_true, if_false, Nat.zero_add, Nat.add_zero, Bool.false_eq_true, Bool.true_eq_false, Nat.lt_irrefl, iN_az, not_true_eq_false, not_false_eq_true, Nat.reduceEqDiff, Nat.reduceLT, Nat.reduceAdd, Nat.reduceMul, Nat.reduceSub]
set_option maxRecDepth 100000 in
theorem m_237x (O : Ok σ) (hu : u < 4294967296) (h : ¬ u < (σ 1 6)) : ev xs (d + 2) 237 0 ([.ref 62, .int (nI u)], [], mh τ M σ μ ν Q) = some (.inl (some (.int (nI (0)))), mh τ M σ (u1 μ 0 1) ν Q) := by
  simp (disch := first | assumption | omega | exact st8_a (Nat.le_of_ble_eq_true rfl)) only [m_190 O mh_Mo hu, decide_eq_false h, en0, eb_237_0, eb_237_1, eb_237_2, eb_237_5, eb_237_7, xr_1, xr_10, xr_2, xr_27, xr_28, xr_3, xr_4, xr_5, xr_65, af_0, af_1, xt_goto, xt_ib, xt_ic, xt_if_eq, xt_if_ne, xt_ir, mF_19 mh_Mo, mA_63 mh_Mo, mA_64 mh_Mo, mA_65 mh_Mo, mA_66 mh_Mo, mA_67 mh_Mo, mA_68 mh_Mo, mA_69 mh_Mo, mA_70 mh_Mo, mA_71 mh_Mo, xq_187_13_virtualm mh_Mo, xq_190_13_virtualm mh_Mo, xq_194_13_virtualm mh_Mo, xq_234_13_virtualm mh_Mo, pF_0, pF_1, pF_2, pF_5, pF_6, pF_8, pF_12, pF_16, pF_17, pF_18, pF_22, pF_24, pF_19, pF_20, pF_21, pF_23, pN_19, pN_20, pN_21, pN_23, pA_63, pA_64, pA_65, pA_66, pA_67, pA_68, pA_69, pA_70, pA_71, iN_add, iN_mul, iN_sub, iN_and, iN_or, iN_clr, iN_shl, iN_shr, tb_r1, b1_z, b1_or, b1_and, b1_or0, b1_or1, b1_0or, b1_t, b1_f, iN_lt, iN_inj, reduceIte, if_true, if_false, Nat.zero_add, Nat.add_zero, Bool.false_eq_true, Bool.true_eq_false, Nat.lt_irrefl, iN_az, not_true_eq_false, not_false_eq_true, Nat.reduceEqDiff, Nat.reduceLT, Nat.reduceAdd, Nat.reduceMul, Nat.reduceSub]
set_option maxRecDepth 100000 in
theorem m_237n (O : Ok σ) (h : u < (σ 1 6)) (hν : ν 0 = .null) : ev xs (d + 2) 237 0 ([.ref 62, .int (nI u)], [], mh τ M σ μ ν Q) = some (.inl (some (.int (nI (0)))), mh τ M σ (u1 μ 0 2) ν Q) := by
  obtain ⟨hD1, hD2, hH1, hH2, hS, hC, hT, hR, hL, hQ⟩ := Ok_b O
  have hu : u < 4294967296 := by omega
  simp (disch := first | assumption | omega | exact st8_a (Nat.le_of_ble_eq_true rfl)) only [m_190 O mh_Mo hu, decide_eq_true h, en1, m_234n hν, uu, eb_237_0, eb_237_1, eb_237_2, eb_237_3, eb_237_4, eb_237_5, eb_237_7, xr_1, xr_10, xr_2, xr_27, xr_28, xr_3, xr_4, xr_5, xr_65, af_0, af_1, xt_goto, xt_ib, xt_ic, xt_if_eq, xt_if_ne, xt_ir, mF_19 mh_Mo, mA_63 mh_Mo, mA_64 mh_Mo, mA_65 mh_Mo, mA_66 mh_Mo, mA_67 mh_Mo, mA_68 mh_Mo, mA_69 mh_Mo, mA_70 mh_Mo, mA_71 mh_Mo, xq_187_13_virtualm mh_Mo, xq_190_13_virtualm mh_Mo, xq_194_13_virtualm mh_Mo, xq_234_13_virtualm mh_Mo, pF_0, pF_1, pF_2, pF_5, pF_6, pF_8, pF_12, pF_16, pF_17, pF_18, pF_22, pF_24, pF_19, pF_20, pF_21, pF_23, pN_19, pN_20, pN_21, pN_23, pA_63, pA_64, pA_65, pA_66, pA_67, pA_68, pA_69, pA_70, pA_71, iN_add, iN_mul, iN_sub, iN_and, iN_or, iN_clr, iN_shl, iN_shr, tb_r1, b1_z, b1_or, b1_and, b1_or0, b1_or1, b1_0or, b1_t, b1_f, iN_lt, iN_inj, reduceIte, if_true, if_false, Nat.zero_add, Nat.add_zero, Bool.false_eq_true, Bool.true_eq_false, Nat.lt_irrefl, iN_az, not_true_eq_false, not_false_eq_true, Nat.reduceEqDiff, Nat.reduceLT, Nat.reduceAdd, Nat.reduceMul, Nat.reduceSub]
set_option maxRecDepth 100000 in
theorem m_237 (O : Ok σ) (h : u < (σ 1 6)) (hν : ν 0 = .ref (72 + i)) (hi : Q[i]? = some (oI (ar (σ 1 6) (tv σ s r)))) (hb : ∀ l, l < (σ 1 6) → s l < (σ 1 2) ∧ r l < (σ 1 5)) : ev xs (d + 2) 237 0 ([.ref 62, .int (nI u)], [], mh τ M σ μ ν Q) = some (.inl (some (.int (nI (10 * s u + r u)))), mh τ M σ (u1 μ 0 0) ν Q) := by
  obtain ⟨hD1, hD2, hH1, hH2, hS, hC, hT, hR, hL, hQ⟩ := Ok_b O
  have hu : u < 4294967296 := by omega
  have e := m_194 (xs := xs) (d := d + 1) O (mh_Mo (τ := τ) (M := M) (μ := u1 μ 0 0) (ν := ν) (Q := Q)) (tv_b (hb u h).1 (hb u h).2)
  rw [tv_d (hb u h).2, tv_m (hb u h).2, Nat.mul_comm] at e
  clear hb
  simp (disch := first | assumption | omega | exact st8_a (Nat.le_of_ble_eq_true rfl)) only [m_190 O mh_Mo hu, decide_eq_true h, en1, m_234r hν, hν, uu, pQ_l hi, e, eb_237_0, eb_237_1, eb_237_2, eb_237_3, eb_237_4, eb_237_6, eb_237_7, xr_1, xr_10, xr_2, xr_27, xr_28, xr_3, xr_4, xr_5, xr_65, af_0, af_1, xt_goto, xt_ib, xt_ic, xt_if_eq, xt_if_ne, xt_ir, mF_19 mh_Mo, mA_63 mh_Mo, mA_64 mh_Mo, mA_65 mh_Mo, mA_66 mh_Mo, mA_67 mh_Mo, mA_68 mh_Mo, mA_69 mh_Mo, mA_70 mh_Mo, mA_71 mh_Mo, xq_187_13_virtualm mh_Mo, xq_190_13_virtualm mh_Mo, xq_194_13_virtualm mh_Mo, xq_234_13_virtualm mh_Mo, pF_0, pF_1, pF_2, pF_5, pF_6, pF_8, pF_12, pF_16, pF_17, pF_18, pF_22, pF_24, pF_19, pF_20, pF_21, pF_23, pN_19, pN_20, pN_21, pN_23, pA_63, pA_64, pA_65, pA_66, pA_67, pA_68, pA_69, pA_70, pA_71, iN_add, iN_mul, iN_sub, iN_and, iN_or, iN_clr, iN_shl, iN_shr, tb_r1, b1_z, b1_or, b1_and, b1_or0, b1_or1, b1_0or, b1_t, b1_f, iN_lt, iN_inj, reduceIte, if_true, if_false, Nat.zero_add, Nat.add_zero, Bool.false_eq_true, Bool.true_eq_false, Nat.lt_irrefl, iN_az, not_true_eq_false, not_false_eq_true, Nat.reduceEqDiff, Nat.reduceLT, Nat.reduceAdd, Nat.reduceMul, Nat.reduceSub]
end Mdf
