/-! THE MODEL'S METHODS THAT ONLY READ -/
/-- whether all of n are so -/
def al (n : Nat) (p : Nat → Bool) : Bool := match n with
  | 0 => true
  | n + 1 => al n p && p n
set_option maxRecDepth 100000 in
theorem al_t {n : Nat} {p : Nat → Bool} : al n p = true ↔ ∀ i, i < n → p i = true := by
  induction n with
  | zero => simp [al]
  | succ n ih =>
    rw [al, Bool.and_eq_true, ih]
    constructor
    · intro ⟨h1, h2⟩ i hi
      by_cases hn : i = n
      · subst hn; exact h2
      · exact h1 i (by omega)
    · intro h
      exact ⟨fun i hi => h i (by omega), h n (by omega)⟩
set_option maxRecDepth 100000 in
theorem al_f {n : Nat} {p : Nat → Bool} : al n p = false ↔ ∃ i, i < n ∧ p i = false := by
  rw [← Bool.not_eq_true, al_t]
  simp
/-- whether one of n is so -/
def an (n : Nat) (p : Nat → Bool) : Bool := match n with
  | 0 => false
  | n + 1 => an n p || p n
set_option maxRecDepth 100000 in
theorem an_t {n : Nat} {p : Nat → Bool} : an n p = true ↔ ∃ i, i < n ∧ p i = true := by
  induction n with
  | zero => simp [an]
  | succ n ih =>
    rw [an, Bool.or_eq_true, ih]
    constructor
    · intro h
      rcases h with ⟨i, hi, h⟩ | h
      · exact ⟨i, by omega, h⟩
      · exact ⟨n, by omega, h⟩
    · intro ⟨i, hi, h⟩
      by_cases hn : i = n
      · subst hn; exact .inr h
      · exact .inl ⟨i, by omega, h⟩
set_option maxRecDepth 100000 in
theorem vb {σ : Nat → Nat → Nat} (O : Ok σ) {v : Nat} (hv : v < (σ 1 2) * (σ 1 5)) : v < 18 ∧ v / (σ 1 5) < (σ 1 2) ∧ v % (σ 1 5) < (σ 1 5) ∧ 0 < (σ 1 5) ∧ v / (σ 1 5) < 6 := by
  obtain ⟨hD1, hD2, hH1, hH2, hS, hC, hT, hR, hL, hQ⟩ := Ok_b O
  have h1 : 0 < (σ 1 5) := by
    rcases Nat.eq_zero_or_pos (σ 1 5) with h | h
    · rw [h] at hv; omega
    · exact h
  have h2 : (σ 1 2) * (σ 1 5) ≤ 6 * 3 := Nat.mul_le_mul (by omega) hR
  have h3 : v / (σ 1 5) < (σ 1 2) := (Nat.div_lt_iff_lt_mul h1).mpr hv
  exact ⟨by omega, h3, Nat.mod_lt _ h1, h1, by omega⟩
set_option maxRecDepth 100000 in
theorem hou_m {σ : Nat → Nat → Nat} (O : Ok σ) {s : Nat} (hs : s < (σ 1 2)) : s % (σ 1 1) = hou σ s := by
  obtain ⟨hD1, hD2, hH1, hH2, hS, hC, hT, hR, hL, hQ⟩ := Ok_b O
  unfold hou
  have h1 : (σ 1 1) = 1 ∨ (σ 1 1) = 2 ∨ (σ 1 1) = 3 := by omega
  rcases h1 with h | h | h <;> rw [h] at hS ⊢ <;> split <;> omega
set_option maxRecDepth 100000 in
theorem dy_m {σ : Nat → Nat → Nat} (O : Ok σ) {s : Nat} (hs : s < (σ 1 2)) : s / (σ 1 1) = dy σ s := by
  obtain ⟨hD1, hD2, hH1, hH2, hS, hC, hT, hR, hL, hQ⟩ := Ok_b O
  unfold dy
  have h1 : (σ 1 1) = 1 ∨ (σ 1 1) = 2 ∨ (σ 1 1) = 3 := by omega
  rcases h1 with h | h | h <;> rw [h] at hS ⊢ <;> split <;> omega
set_option maxRecDepth 100000 in
theorem las_m {σ : Nat → Nat → Nat} (O : Ok σ) {l s : Nat} (hl : l < (σ 1 6)) (hs : s < (σ 1 2)) : min (s + σ 7 l - 1) ((σ 1 2) - 1) = las σ l s := by
  obtain ⟨hD1, hD2, hH1, hH2, hS, hC, hT, hR, hL, hQ⟩ := Ok_b O
  obtain ⟨h1, h2, h3⟩ := Ok_l O hl
  unfold las
  split <;> omega
set_option maxRecDepth 100000 in
theorem cov_m {σ : Nat → Nat → Nat} (O : Ok σ) {l s : Nat} (hl : l < (σ 1 6)) (hs : s < (σ 1 2)) : 1 <<< s ||| 1 <<< las σ l s = cov σ l s := by
  obtain ⟨hD1, hD2, hH1, hH2, hS, hC, hT, hR, hL, hQ⟩ := Ok_b O
  unfold las cov
  have h2 : s = 0 ∨ s = 1 ∨ s = 2 ∨ s = 3 ∨ s = 4 ∨ s = 5 := by omega
  split <;> rcases h2 with rfl | rfl | rfl | rfl | rfl | rfl <;> decide
/-- whether a lesson keeps a rule that names it or its teacher alone -/
def ka (σ : Nat → Nat → Nat) (q l v : Nat) : Bool :=
  if σ 8 q = 0 then decide (σ 9 q ≠ l) || !(cov σ l (v / (σ 1 5))).testBit (σ 10 q)
  else if σ 8 q = 6 then decide (σ 9 q ≠ l) || decide (v % (σ 1 5) = σ 10 q)
  else if σ 8 q = 7 then decide (σ 9 q ≠ σ 6 l) || !(cov σ l (v / (σ 1 5))).testBit (σ 10 q)
  else true
section Md
variable {xs : List Int32} {d : Nat} {σ : Nat → Nat → Nat} {μ : Nat → Nat} {ν : Nat → Value} {h : ab_H} {l o u v q : Nat} {tab : Nat → Nat} {n p : Nat}
set_option maxRecDepth 100000 in
theorem m_186 (H : Mo σ μ ν h) : ev xs d 186 0 ([.ref 62], [], h) = some (.inl (some (.int (nI (μ 0)))), h) := by
  simp (disch := first | assumption | omega | exact st8_a (Nat.le_of_ble_eq_true rfl)) only [eb_186_0, xr_1, xr_2, xr_3, xr_4, xr_5, xt_ib, xt_ic, xt_ir, mF_22 H, iN_add, iN_mul, iN_sub, iN_and, iN_or, iN_clr, iN_shl, iN_shr, tb_r1, b1_z, b1_or, b1_and, b1_or0, b1_or1, b1_0or, b1_t, b1_f, iN_lt, iN_inj, reduceIte, if_true, if_false, Nat.zero_add, Nat.add_zero, Bool.false_eq_true, Bool.true_eq_false, Nat.lt_irrefl, iN_az, not_true_eq_false, not_false_eq_true, Nat.reduceEqDiff, Nat.reduceLT, Nat.reduceAdd, Nat.reduceMul, Nat.reduceSub]
set_option maxRecDepth 100000 in
theorem m_188 {x a b : Int32} : ev xs d 188 0 ([.int x, .int a, .int b], [], h) = some (.inl (some (.int (nI (b1 (!decide (x < a) && !decide (b < x)))))), h) := by
  by_cases h1 : x < a <;> by_cases h2 : b < x <;> simp (disch := first | assumption | omega | exact st8_a (Nat.le_of_ble_eq_true rfl)) only [h1, h2, decide_true, decide_false, Bool.not_true, Bool.not_false, Bool.and_true, Bool.and_false, eb_188_0, eb_188_1, eb_188_2, eb_188_3, eb_188_4, xr_10, xr_27, xr_28, xr_31, xr_72, xt_goto, xt_ib, xt_ic, xt_ic_gt, xt_ic_lt, xt_ir, xt_nop, iN_add, iN_mul, iN_sub, iN_and, iN_or, iN_clr, iN_shl, iN_shr, tb_r1, b1_z, b1_or, b1_and, b1_or0, b1_or1, b1_0or, b1_t, b1_f, iN_lt, iN_inj, reduceIte, if_true, if_false, Nat.zero_add, Nat.add_zero, Bool.false_eq_true, Bool.true_eq_false, Nat.lt_irrefl, iN_az, not_true_eq_false, not_false_eq_true, Nat.reduceEqDiff, Nat.reduceLT, Nat.reduceAdd, Nat.reduceMul, Nat.reduceSub]
set_option maxRecDepth 100000 in
theorem m_189 (O : Ok σ) (H : Mo σ μ ν h) : ev xs d 189 0 ([.ref 62], [], h) = some (.inl (some (.int (nI ((σ 1 2))))), h) := by
  have : (σ 1 2) = (σ 1 0) * (σ 1 1) := O.2.2.1
  simp (disch := first | assumption | omega | exact st8_a (Nat.le_of_ble_eq_true rfl)) only [← this, eb_189_0, xr_1, xr_2, xr_3, xr_4, xr_41, xr_5, xt_ib, xt_ic, xt_ir, mF_0 H, mF_1 H, iN_add, iN_mul, iN_sub, iN_and, iN_or, iN_clr, iN_shl, iN_shr, tb_r1, b1_z, b1_or, b1_and, b1_or0, b1_or1, b1_0or, b1_t, b1_f, iN_lt, iN_inj, reduceIte, if_true, if_false, Nat.zero_add, Nat.add_zero, Bool.false_eq_true, Bool.true_eq_false, Nat.lt_irrefl, iN_az, not_true_eq_false, not_false_eq_true, Nat.reduceEqDiff, Nat.reduceLT, Nat.reduceAdd, Nat.reduceMul, Nat.reduceSub]
set_option maxRecDepth 100000 in
theorem isn (k n : Nat) (hk : k < 4294967296) (hn : n < 1000) : (!decide (nI k < nI 0) && !decide (nI n - nI 1 < nI k)) = decide (k < n) := by
  simp only [iN_ltg hk (show 0 < 4294967296 by decide)]
  by_cases h0 : n = 0
  · subst h0
    simp only [show nI 0 - nI 1 = nI 4294967295 from rfl, iN_ltg (show 4294967295 < 4294967296 by decide) hk]
    by_cases h1 : (k + 2147483648) % 4294967296 < (0 + 2147483648) % 4294967296
    · simp [h1]
    · have h2 : (4294967295 + 2147483648) % 4294967296 < (k + 2147483648) % 4294967296 := by omega
      simp [h1, h2]
  · simp only [iN_sub (show 1 ≤ n by omega), iN_ltg (show n - 1 < 4294967296 by omega) hk]
    by_cases h1 : (k + 2147483648) % 4294967296 < (0 + 2147483648) % 4294967296
    · have : ¬ k < n := by omega
      simp [h1, this]
    · by_cases h2 : (n - 1 + 2147483648) % 4294967296 < (k + 2147483648) % 4294967296
      · have : ¬ k < n := by omega
        simp [h1, h2, this]
      · have : k < n := by omega
        simp [h1, h2, this]
set_option maxRecDepth 100000 in
theorem m_190 (O : Ok σ) (H : Mo σ μ ν h) (hu : u < 4294967296) : ev xs (d + 1) 190 0 ([.ref 62, .int (nI u)], [], h) = some (.inl (some (.int (nI (b1 (decide (u < (σ 1 6))))))), h) := by
  obtain ⟨hD1, hD2, hH1, hH2, hS, hC, hT, hR, hL, hQ⟩ := Ok_b O
  simp (disch := first | assumption | omega | exact st8_a (Nat.le_of_ble_eq_true rfl)) only [m_188, isn u (σ 1 6) hu (by omega), eb_190_0, eb_190_1, xr_1, xr_10, xr_2, xr_27, xr_28, xr_3, xr_4, xr_5, xr_77, af_0, af_1, xt_ib, xt_ic, xt_ir, mF_8 H, xq_188_200_static, iN_add, iN_mul, iN_and, iN_or, iN_clr, iN_shl, iN_shr, tb_r1, b1_z, b1_or, b1_and, b1_or0, b1_or1, b1_0or, b1_t, b1_f, iN_lt, iN_inj, reduceIte, if_true, if_false, Nat.zero_add, Nat.add_zero, Bool.false_eq_true, Bool.true_eq_false, Nat.lt_irrefl, iN_az, not_true_eq_false, not_false_eq_true, Nat.reduceEqDiff, Nat.reduceLT, Nat.reduceAdd, Nat.reduceMul, Nat.reduceSub]
set_option maxRecDepth 100000 in
theorem m_191 (O : Ok σ) (H : Mo σ μ ν h) (hu : u < 4294967296) : ev xs (d + 1) 191 0 ([.ref 62, .int (nI u)], [], h) = some (.inl (some (.int (nI (b1 (decide (u < (σ 1 4))))))), h) := by
  obtain ⟨hD1, hD2, hH1, hH2, hS, hC, hT, hR, hL, hQ⟩ := Ok_b O
  simp (disch := first | assumption | omega | exact st8_a (Nat.le_of_ble_eq_true rfl)) only [m_188, isn u (σ 1 4) hu (by omega), eb_191_0, eb_191_1, xr_1, xr_10, xr_2, xr_27, xr_28, xr_3, xr_4, xr_5, xr_77, af_0, af_1, xt_ib, xt_ic, xt_ir, mF_5 H, xq_188_200_static, iN_add, iN_mul, iN_and, iN_or, iN_clr, iN_shl, iN_shr, tb_r1, b1_z, b1_or, b1_and, b1_or0, b1_or1, b1_0or, b1_t, b1_f, iN_lt, iN_inj, reduceIte, if_true, if_false, Nat.zero_add, Nat.add_zero, Bool.false_eq_true, Bool.true_eq_false, Nat.lt_irrefl, iN_az, not_true_eq_false, not_false_eq_true, Nat.reduceEqDiff, Nat.reduceLT, Nat.reduceAdd, Nat.reduceMul, Nat.reduceSub]
set_option maxRecDepth 100000 in
theorem m_192 (O : Ok σ) (H : Mo σ μ ν h) (hu : u < 4294967296) : ev xs (d + 1) 192 0 ([.ref 62, .int (nI u)], [], h) = some (.inl (some (.int (nI (b1 (decide (u < (σ 1 5))))))), h) := by
  obtain ⟨hD1, hD2, hH1, hH2, hS, hC, hT, hR, hL, hQ⟩ := Ok_b O
  simp (disch := first | assumption | omega | exact st8_a (Nat.le_of_ble_eq_true rfl)) only [m_188, isn u (σ 1 5) hu (by omega), eb_192_0, eb_192_1, xr_1, xr_10, xr_2, xr_27, xr_28, xr_3, xr_4, xr_5, xr_77, af_0, af_1, xt_ib, xt_ic, xt_ir, mF_6 H, xq_188_200_static, iN_add, iN_mul, iN_and, iN_or, iN_clr, iN_shl, iN_shr, tb_r1, b1_z, b1_or, b1_and, b1_or0, b1_or1, b1_0or, b1_t, b1_f, iN_lt, iN_inj, reduceIte, if_true, if_false, Nat.zero_add, Nat.add_zero, Bool.false_eq_true, Bool.true_eq_false, Nat.lt_irrefl, iN_az, not_true_eq_false, not_false_eq_true, Nat.reduceEqDiff, Nat.reduceLT, Nat.reduceAdd, Nat.reduceMul, Nat.reduceSub]
set_option maxRecDepth 100000 in
theorem m_193 (O : Ok σ) (H : Mo σ μ ν h) (hu : u < 4294967296) : ev xs (d + 1) 193 0 ([.ref 62, .int (nI u)], [], h) = some (.inl (some (.int (nI (b1 (decide (u < (σ 1 2))))))), h) := by
  obtain ⟨hD1, hD2, hH1, hH2, hS, hC, hT, hR, hL, hQ⟩ := Ok_b O
  simp (disch := first | assumption | omega | exact st8_a (Nat.le_of_ble_eq_true rfl)) only [m_189 O H, m_188, isn u (σ 1 2) hu (by omega), eb_193_0, eb_193_1, eb_193_2, xr_1, xr_10, xr_2, xr_27, xr_28, xr_3, xr_4, xr_5, xr_77, af_0, af_1, xt_ib, xt_ic, xt_ir, xq_188_200_static, xq_189_13_virtualm H, iN_add, iN_mul, iN_and, iN_or, iN_clr, iN_shl, iN_shr, tb_r1, b1_z, b1_or, b1_and, b1_or0, b1_or1, b1_0or, b1_t, b1_f, iN_lt, iN_inj, reduceIte, if_true, if_false, Nat.zero_add, Nat.add_zero, Bool.false_eq_true, Bool.true_eq_false, Nat.lt_irrefl, iN_az, not_true_eq_false, not_false_eq_true, Nat.reduceEqDiff, Nat.reduceLT, Nat.reduceAdd, Nat.reduceMul, Nat.reduceSub]
set_option maxRecDepth 100000 in
theorem m_194 (O : Ok σ) (H : Mo σ μ ν h) (hv : v < (σ 1 2) * (σ 1 5)) : ev xs d 194 0 ([.ref 62, .int (nI v)], [], h) = some (.inl (some (.int (nI (v / (σ 1 5) * 10 + v % (σ 1 5))))), h) := by
  obtain ⟨hD1, hD2, hH1, hH2, hS, hC, hT, hR, hL, hQ⟩ := Ok_b O
  obtain ⟨v1, v2, v3, v4, v5⟩ := vb O hv
  simp (disch := first | assumption | omega | exact st8_a (Nat.le_of_ble_eq_true rfl)) only [eb_194_0, xr_1, xr_141, xr_143, xr_2, xr_28, xr_3, xr_38, xr_4, xr_41, xr_5, xr_86, xt_ib, xt_ic, xt_ir, mF_6 H, iN_add, iN_mul, iN_sub, iN_and, iN_or, iN_clr, iN_shl, iN_shr, tb_r1, b1_z, b1_or, b1_and, b1_or0, b1_or1, b1_0or, b1_t, b1_f, iN_lt, iN_inj, reduceIte, if_true, if_false, Nat.zero_add, Nat.add_zero, Bool.false_eq_true, Bool.true_eq_false, Nat.lt_irrefl, iN_az, not_true_eq_false, not_false_eq_true, Nat.reduceEqDiff, Nat.reduceLT, Nat.reduceAdd, Nat.reduceMul, Nat.reduceSub]
set_option maxRecDepth 100000 in
theorem m_195 (O : Ok σ) (H : Mo σ μ ν h) (hl : l < (σ 1 6)) (hv : v < (σ 1 2) * (σ 1 5)) : ev xs (d + 1) 195 0 ([.ref 62, .int (nI l), .int (nI v)], [], h) = some (.inl (some (.int (nI (las σ l (v / (σ 1 5)))))), h) := by
  obtain ⟨hD1, hD2, hH1, hH2, hS, hC, hT, hR, hL, hQ⟩ := Ok_b O
  obtain ⟨v1, v2, v3, v4, v5⟩ := vb O hv
  obtain ⟨h1, h2, h3⟩ := Ok_l O hl
  have e0 : 1 ≤ σ 7 l := by omega
  have e1 := Nat.le_trans e0 (Nat.le_add_left (σ 7 l) (v / (σ 1 5)))
  have e2 : v / (σ 1 5) + σ 7 l - 1 < 2147483648 := by omega
  rw [← las_m O hl v2]
  simp (disch := first | assumption | omega | exact st8_a (Nat.le_of_ble_eq_true rfl)) only [m_189 O H, eb_195_0, eb_195_1, xr_1, xr_141, xr_2, xr_27, xr_28, xr_3, xr_31, xr_38, xr_4, xr_47, xr_5, xr_77, af_0, af_1, xt_ib, xt_ic, xt_ir, mF_11 H, mF_6 H, mA_63 H, mA_64 H, mA_65 H, mA_66 H, mA_67 H, mA_68 H, mA_69 H, mA_70 H, mA_71 H, xq_189_13_virtualm H, iN_add, iN_mul, iN_sub, iN_and, iN_or, iN_clr, iN_shl, iN_shr, tb_r1, b1_z, b1_or, b1_and, b1_or0, b1_or1, b1_0or, b1_t, b1_f, iN_lt, iN_inj, reduceIte, if_true, if_false, Nat.zero_add, Nat.add_zero, Bool.false_eq_true, Bool.true_eq_false, Nat.lt_irrefl, iN_az, not_true_eq_false, not_false_eq_true, Nat.reduceEqDiff, Nat.reduceLT, Nat.reduceAdd, Nat.reduceMul, Nat.reduceSub]
set_option maxRecDepth 100000 in
theorem m_196 (O : Ok σ) (H : Mo σ μ ν h) (hl : l < (σ 1 6)) (hv : v < (σ 1 2) * (σ 1 5)) : ev xs (d + 2) 196 0 ([.ref 62, .int (nI l), .int (nI v)], [], h) = some (.inl (some (.int (nI (cov σ l (v / (σ 1 5)))))), h) := by
  obtain ⟨hD1, hD2, hH1, hH2, hS, hC, hT, hR, hL, hQ⟩ := Ok_b O
  obtain ⟨v1, v2, v3, v4, v5⟩ := vb O hv
  have h4 := las_lt (σ := σ) (l := l) v2
  rw [← cov_m O hl v2]
  simp (disch := first | assumption | omega | exact st8_a (Nat.le_of_ble_eq_true rfl)) only [m_195 O H hl hv, eb_196_0, eb_196_1, xr_1, xr_141, xr_2, xr_27, xr_28, xr_3, xr_31, xr_4, xr_45, xr_5, xr_58, af_0, af_1, xt_ib, xt_ic, xt_ir, mF_6 H, xq_195_13_virtualm H, iN_add, iN_mul, iN_sub, iN_and, iN_or, iN_clr, iN_shl, iN_shr, tb_r1, b1_z, b1_or, b1_and, b1_or0, b1_or1, b1_0or, b1_t, b1_f, iN_lt, iN_inj, reduceIte, if_true, if_false, Nat.zero_add, Nat.add_zero, Bool.false_eq_true, Bool.true_eq_false, Nat.lt_irrefl, iN_az, not_true_eq_false, not_false_eq_true, Nat.reduceEqDiff, Nat.reduceLT, Nat.reduceAdd, Nat.reduceMul, Nat.reduceSub]
set_option maxRecDepth 100000 in
theorem m_197 (O : Ok σ) (H : Mo σ μ ν h) (hv : v < (σ 1 2) * (σ 1 5)) : ev xs d 197 0 ([.ref 62, .int (nI v)], [], h) = some (.inl (some (.int (nI (dy σ (v / (σ 1 5)))))), h) := by
  obtain ⟨hD1, hD2, hH1, hH2, hS, hC, hT, hR, hL, hQ⟩ := Ok_b O
  obtain ⟨v1, v2, v3, v4, v5⟩ := vb O hv
  simp (disch := first | assumption | omega | exact st8_a (Nat.le_of_ble_eq_true rfl)) only [dy_m O v2, eb_197_0, xr_1, xr_141, xr_2, xr_28, xr_3, xr_4, xr_5, xt_ib, xt_ic, xt_ir, mF_1 H, mF_6 H, iN_add, iN_mul, iN_sub, iN_and, iN_or, iN_clr, iN_shl, iN_shr, tb_r1, b1_z, b1_or, b1_and, b1_or0, b1_or1, b1_0or, b1_t, b1_f, iN_lt, iN_inj, reduceIte, if_true, if_false, Nat.zero_add, Nat.add_zero, Bool.false_eq_true, Bool.true_eq_false, Nat.lt_irrefl, iN_az, not_true_eq_false, not_false_eq_true, Nat.reduceEqDiff, Nat.reduceLT, Nat.reduceAdd, Nat.reduceMul, Nat.reduceSub]
set_option maxRecDepth 100000 in
theorem m_198 (O : Ok σ) (H : Mo σ μ ν h) (hl : l < (σ 1 6)) (hv : v < (σ 1 2) * (σ 1 5)) : ev xs d 198 0 ([.ref 62, .int (nI l), .int (nI v)], [], h) = some (.inl (some (.int (nI (b1 (sty σ l (v / (σ 1 5))))))), h) := by
  obtain ⟨hD1, hD2, hH1, hH2, hS, hC, hT, hR, hL, hQ⟩ := Ok_b O
  obtain ⟨v1, v2, v3, v4, v5⟩ := vb O hv
  obtain ⟨h1, h2, h3⟩ := Ok_l O hl
  have h4 := hou_lt O v2
  by_cases h5 : (σ 1 1) < hou σ (v / (σ 1 5)) + σ 7 l
  · have : sty σ l (v / (σ 1 5)) = false := by
      unfold sty
      rw [decide_eq_false (by omega), decide_eq_false (by omega)]
      rfl
    simp (disch := first | assumption | omega | exact st8_a (Nat.le_of_ble_eq_true rfl)) only [hou_m O v2, h5, this, eb_198_0, eb_198_1, eb_198_2, eb_198_3, xr_1, xr_10, xr_141, xr_143, xr_2, xr_27, xr_28, xr_3, xr_31, xr_38, xr_4, xr_5, xt_goto, xt_ib, xt_ic, xt_ic_gt, xt_ir, xt_nop, mF_1 H, mF_11 H, mF_6 H, mA_63 H, mA_64 H, mA_65 H, mA_66 H, mA_67 H, mA_68 H, mA_69 H, mA_70 H, mA_71 H, iN_add, iN_mul, iN_sub, iN_and, iN_or, iN_clr, iN_shl, iN_shr, tb_r1, b1_z, b1_or, b1_and, b1_or0, b1_or1, b1_0or, b1_t, b1_f, iN_lt, iN_inj, reduceIte, if_true, if_false, Nat.zero_add, Nat.add_zero, Bool.false_eq_true, Bool.true_eq_false, Nat.lt_irrefl, iN_az, not_true_eq_false, not_false_eq_true, Nat.reduceEqDiff, Nat.reduceLT, Nat.reduceAdd, Nat.reduceMul, Nat.reduceSub]
  · have : sty σ l (v / (σ 1 5)) = true := by
      unfold sty
      rcases h3 with h3 | h3
      · rw [decide_eq_true h3]; rfl
      · rw [decide_eq_true (p := hou σ (v / (σ 1 5)) + 1 < (σ 1 1)) (by omega), Bool.or_true]
    simp (disch := first | assumption | omega | exact st8_a (Nat.le_of_ble_eq_true rfl)) only [hou_m O v2, h5, this, eb_198_0, eb_198_1, eb_198_2, eb_198_3, xr_1, xr_10, xr_141, xr_143, xr_2, xr_27, xr_28, xr_3, xr_31, xr_38, xr_4, xr_5, xt_goto, xt_ib, xt_ic, xt_ic_gt, xt_ir, xt_nop, mF_1 H, mF_11 H, mF_6 H, mA_63 H, mA_64 H, mA_65 H, mA_66 H, mA_67 H, mA_68 H, mA_69 H, mA_70 H, mA_71 H, iN_add, iN_mul, iN_sub, iN_and, iN_or, iN_clr, iN_shl, iN_shr, tb_r1, b1_z, b1_or, b1_and, b1_or0, b1_or1, b1_0or, b1_t, b1_f, iN_lt, iN_inj, reduceIte, if_true, if_false, Nat.zero_add, Nat.add_zero, Bool.false_eq_true, Bool.true_eq_false, Nat.lt_irrefl, iN_az, not_true_eq_false, not_false_eq_true, Nat.reduceEqDiff, Nat.reduceLT, Nat.reduceAdd, Nat.reduceMul, Nat.reduceSub]
set_option maxRecDepth 100000 in
theorem m_199 (O : Ok σ) (H : Mo σ μ ν h) (hl : l < (σ 1 6)) (hv : v < (σ 1 2) * (σ 1 5)) : ev xs d 199 0 ([.ref 62, .int (nI l), .int (nI v)], [], h) = some (.inl (some (.int (nI (b1 (sts σ l (v % (σ 1 5))))))), h) := by
  obtain ⟨hD1, hD2, hH1, hH2, hS, hC, hT, hR, hL, hQ⟩ := Ok_b O
  obtain ⟨v1, v2, v3, v4, v5⟩ := vb O hv
  obtain ⟨h1, h2, h3⟩ := Ok_l O hl
  have h4 := Ok_c O h1
  have h5 := Ok_r O v3
  by_cases h6 : σ 4 (v % (σ 1 5)) < σ 2 (σ 5 l)
  · have : ¬ σ 2 (σ 5 l) ≤ σ 4 (v % (σ 1 5)) := by omega
    simp (disch := first | assumption | omega | exact st8_a (Nat.le_of_ble_eq_true rfl)) only [sts, h6, this, decide_false, eb_199_0, eb_199_1, eb_199_2, eb_199_3, xr_1, xr_10, xr_143, xr_2, xr_27, xr_28, xr_3, xr_31, xr_4, xr_5, xt_goto, xt_ib, xt_ic, xt_ic_lt, xt_ir, xt_nop, mF_3 H, mF_6 H, mF_7 H, mF_9 H, mA_63 H, mA_64 H, mA_65 H, mA_66 H, mA_67 H, mA_68 H, mA_69 H, mA_70 H, mA_71 H, iN_add, iN_mul, iN_sub, iN_and, iN_or, iN_clr, iN_shl, iN_shr, tb_r1, b1_z, b1_or, b1_and, b1_or0, b1_or1, b1_0or, b1_t, b1_f, iN_lt, iN_inj, reduceIte, if_true, if_false, Nat.zero_add, Nat.add_zero, Bool.false_eq_true, Bool.true_eq_false, Nat.lt_irrefl, iN_az, not_true_eq_false, not_false_eq_true, Nat.reduceEqDiff, Nat.reduceLT, Nat.reduceAdd, Nat.reduceMul, Nat.reduceSub]
  · have : σ 2 (σ 5 l) ≤ σ 4 (v % (σ 1 5)) := by omega
    simp (disch := first | assumption | omega | exact st8_a (Nat.le_of_ble_eq_true rfl)) only [sts, h6, this, decide_true, eb_199_0, eb_199_1, eb_199_2, eb_199_3, xr_1, xr_10, xr_143, xr_2, xr_27, xr_28, xr_3, xr_31, xr_4, xr_5, xt_goto, xt_ib, xt_ic, xt_ic_lt, xt_ir, xt_nop, mF_3 H, mF_6 H, mF_7 H, mF_9 H, mA_63 H, mA_64 H, mA_65 H, mA_66 H, mA_67 H, mA_68 H, mA_69 H, mA_70 H, mA_71 H, iN_add, iN_mul, iN_sub, iN_and, iN_or, iN_clr, iN_shl, iN_shr, tb_r1, b1_z, b1_or, b1_and, b1_or0, b1_or1, b1_0or, b1_t, b1_f, iN_lt, iN_inj, reduceIte, if_true, if_false, Nat.zero_add, Nat.add_zero, Bool.false_eq_true, Bool.true_eq_false, Nat.lt_irrefl, iN_az, not_true_eq_false, not_false_eq_true, Nat.reduceEqDiff, Nat.reduceLT, Nat.reduceAdd, Nat.reduceMul, Nat.reduceSub]
def cl2 (σ : Nat → Nat → Nat) (l u o v : Nat) : Nat := if cov σ l (u / (σ 1 5)) &&& cov σ o (v / (σ 1 5)) = 0 then 0 else b1 (sc σ l o) + b1 (stc σ l o) + b1 (decide (u % (σ 1 5) = v % (σ 1 5)))
set_option maxRecDepth 100000 in
theorem m_200 (O : Ok σ) (H : Mo σ μ ν h) (hl : l < (σ 1 6)) (ho : o < (σ 1 6)) (hu : u < (σ 1 2) * (σ 1 5)) (hv : v < (σ 1 2) * (σ 1 5)) : ev xs (d + 3) 200 0 ([.ref 62, .int (nI l), .int (nI u), .int (nI o), .int (nI v)], [], h) = some (.inl (some (.int (nI (cl2 σ l u o v)))), h) := by
  obtain ⟨hD1, hD2, hH1, hH2, hS, hC, hT, hR, hL, hQ⟩ := Ok_b O
  obtain ⟨u1, u2, u3, u4, u5⟩ := vb O hu
  obtain ⟨v1, v2, v3, v4, v5⟩ := vb O hv
  have c1 := cov_lt O (l := l) u2
  have c2 := cov_lt O (l := o) v2
  have k1 := Ok_l O hl
  have k2 := Ok_l O ho
  unfold cl2 sc stc
  by_cases h1 : cov σ l (u / (σ 1 5)) &&& cov σ o (v / (σ 1 5)) = 0
  · simp (disch := first | assumption | omega | exact st8_a (Nat.le_of_ble_eq_true rfl)) only [m_196 O H hl hu, m_196 O H ho hv, h1, eb_200_0, eb_200_1, eb_200_2, eb_200_3, eb_200_4, eb_200_5, eb_200_6, eb_200_7, eb_200_8, eb_200_9, eb_200_10, eb_200_11, eb_200_12, eb_200_13, xr_1, xr_10, xr_143, xr_2, xr_27, xr_28, xr_3, xr_31, xr_34, xr_37, xr_38, xr_4, xr_44, xr_5, af_0, af_1, xt_goto, xt_ib, xt_ic, xt_ic_ne, xt_if_ne, xt_ir, xt_nop, mF_10 H, mF_6 H, mF_9 H, mA_63 H, mA_64 H, mA_65 H, mA_66 H, mA_67 H, mA_68 H, mA_69 H, mA_70 H, mA_71 H, xq_196_13_virtualm H, iN_add, iN_mul, iN_sub, iN_and, iN_or, iN_clr, iN_shl, iN_shr, tb_r1, b1_z, b1_or, b1_and, b1_or0, b1_or1, b1_0or, b1_t, b1_f, iN_lt, iN_inj, reduceIte, if_true, if_false, Nat.zero_add, Nat.add_zero, Bool.false_eq_true, Bool.true_eq_false, Nat.lt_irrefl, iN_az, not_true_eq_false, not_false_eq_true, Nat.reduceEqDiff, Nat.reduceLT, Nat.reduceAdd, Nat.reduceMul, Nat.reduceSub]
  · by_cases h2 : σ 5 l = σ 5 o <;> by_cases h3 : σ 6 l = σ 6 o <;> by_cases h4 : u % (σ 1 5) = v % (σ 1 5) <;> simp (disch := first | assumption | omega | exact st8_a (Nat.le_of_ble_eq_true rfl)) only [m_196 O H hl hu, m_196 O H ho hv, h1, h2, h3, h4, decide_true, decide_false, eb_200_0, eb_200_1, eb_200_2, eb_200_3, eb_200_4, eb_200_5, eb_200_6, eb_200_7, eb_200_8, eb_200_9, eb_200_10, eb_200_11, eb_200_12, eb_200_13, xr_1, xr_10, xr_143, xr_2, xr_27, xr_28, xr_3, xr_31, xr_34, xr_37, xr_38, xr_4, xr_44, xr_5, af_0, af_1, xt_goto, xt_ib, xt_ic, xt_ic_ne, xt_if_ne, xt_ir, xt_nop, mF_10 H, mF_6 H, mF_9 H, mA_63 H, mA_64 H, mA_65 H, mA_66 H, mA_67 H, mA_68 H, mA_69 H, mA_70 H, mA_71 H, xq_196_13_virtualm H, iN_add, iN_mul, iN_sub, iN_and, iN_or, iN_clr, iN_shl, iN_shr, tb_r1, b1_z, b1_or, b1_and, b1_or0, b1_or1, b1_0or, b1_t, b1_f, iN_lt, iN_inj, reduceIte, if_true, if_false, Nat.zero_add, Nat.add_zero, Bool.false_eq_true, Bool.true_eq_false, Nat.lt_irrefl, iN_az, not_true_eq_false, not_false_eq_true, Nat.reduceEqDiff, Nat.reduceLT, Nat.reduceAdd, Nat.reduceMul, Nat.reduceSub]
set_option maxRecDepth 100000 in
theorem m_201 (O : Ok σ) (H : Mo σ μ ν h) (hq : q < (σ 1 7)) : ev xs d 201 0 ([.ref 62, .int (nI q)], [], h) = some (.inl (some (.int (nI (b1 (decide (2 ≤ σ 8 q) && decide (σ 8 q ≤ 5)))))), h) := by
  obtain ⟨hD1, hD2, hH1, hH2, hS, hC, hT, hR, hL, hQ⟩ := Ok_b O
  have k1 := rk_lt O hq
  by_cases h1 : σ 8 q < 2
  · have : ¬ 2 ≤ σ 8 q := by omega
    simp (disch := first | assumption | omega | exact st8_a (Nat.le_of_ble_eq_true rfl)) only [h1, this, decide_false, Bool.false_and, eb_201_0, eb_201_1, eb_201_2, eb_201_3, eb_201_4, xr_1, xr_10, xr_2, xr_27, xr_28, xr_3, xr_4, xr_5, xr_65, xr_66, xt_goto, xt_ib, xt_ic, xt_ic_gt, xt_ic_lt, xt_ir, xt_nop, mF_13 H, mA_63 H, mA_64 H, mA_65 H, mA_66 H, mA_67 H, mA_68 H, mA_69 H, mA_70 H, mA_71 H, iN_add, iN_mul, iN_sub, iN_and, iN_or, iN_clr, iN_shl, iN_shr, tb_r1, b1_z, b1_or, b1_and, b1_or0, b1_or1, b1_0or, b1_t, b1_f, iN_lt, iN_inj, reduceIte, if_true, if_false, Nat.zero_add, Nat.add_zero, Bool.false_eq_true, Bool.true_eq_false, Nat.lt_irrefl, iN_az, not_true_eq_false, not_false_eq_true, Nat.reduceEqDiff, Nat.reduceLT, Nat.reduceAdd, Nat.reduceMul, Nat.reduceSub]
  · have e1 : 2 ≤ σ 8 q := by omega
    by_cases h2 : 5 < σ 8 q
    · have : ¬ σ 8 q ≤ 5 := by omega
      simp (disch := first | assumption | omega | exact st8_a (Nat.le_of_ble_eq_true rfl)) only [h1, h2, this, decide_false, Bool.and_false, eb_201_0, eb_201_1, eb_201_2, eb_201_3, eb_201_4, xr_1, xr_10, xr_2, xr_27, xr_28, xr_3, xr_4, xr_5, xr_65, xr_66, xt_goto, xt_ib, xt_ic, xt_ic_gt, xt_ic_lt, xt_ir, xt_nop, mF_13 H, mA_63 H, mA_64 H, mA_65 H, mA_66 H, mA_67 H, mA_68 H, mA_69 H, mA_70 H, mA_71 H, iN_add, iN_mul, iN_sub, iN_and, iN_or, iN_clr, iN_shl, iN_shr, tb_r1, b1_z, b1_or, b1_and, b1_or0, b1_or1, b1_0or, b1_t, b1_f, iN_lt, iN_inj, reduceIte, if_true, if_false, Nat.zero_add, Nat.add_zero, Bool.false_eq_true, Bool.true_eq_false, Nat.lt_irrefl, iN_az, not_true_eq_false, not_false_eq_true, Nat.reduceEqDiff, Nat.reduceLT, Nat.reduceAdd, Nat.reduceMul, Nat.reduceSub]
    · have : σ 8 q ≤ 5 := by omega
      simp (disch := first | assumption | omega | exact st8_a (Nat.le_of_ble_eq_true rfl)) only [h1, h2, this, e1, decide_true, Bool.and_true, eb_201_0, eb_201_1, eb_201_2, eb_201_3, eb_201_4, xr_1, xr_10, xr_2, xr_27, xr_28, xr_3, xr_4, xr_5, xr_65, xr_66, xt_goto, xt_ib, xt_ic, xt_ic_gt, xt_ic_lt, xt_ir, xt_nop, mF_13 H, mA_63 H, mA_64 H, mA_65 H, mA_66 H, mA_67 H, mA_68 H, mA_69 H, mA_70 H, mA_71 H, iN_add, iN_mul, iN_sub, iN_and, iN_or, iN_clr, iN_shl, iN_shr, tb_r1, b1_z, b1_or, b1_and, b1_or0, b1_or1, b1_0or, b1_t, b1_f, iN_lt, iN_inj, reduceIte, if_true, if_false, Nat.zero_add, Nat.add_zero, Bool.false_eq_true, Bool.true_eq_false, Nat.lt_irrefl, iN_az, not_true_eq_false, not_false_eq_true, Nat.reduceEqDiff, Nat.reduceLT, Nat.reduceAdd, Nat.reduceMul, Nat.reduceSub]
set_option maxRecDepth 100000 in
theorem m_202 (O : Ok σ) (H : Mo σ μ ν h) (hq : q < (σ 1 7)) (h2 : 2 ≤ σ 8 q) (h5 : σ 8 q ≤ 5) (hu : u < (σ 1 2) * (σ 1 5)) (hv : v < (σ 1 2) * (σ 1 5)) : ev xs (d + 2) 202 0 ([.ref 62, .int (nI q), .int (nI u), .int (nI v), .retAddr 9, .retAddr 9], [], h) = some (.inl (some (.int (nI (b1 (kp2 σ q (u / (σ 1 5)) (v / (σ 1 5))))))), h) := by
  obtain ⟨hD1, hD2, hH1, hH2, hS, hC, hT, hR, hL, hQ⟩ := Ok_b O
  obtain ⟨u1, u2, u3, u4, u5⟩ := vb O hu
  obtain ⟨v1, v2, v3, v4, v5⟩ := vb O hv
  have h8 : σ 8 q = 2 ∨ σ 8 q = 3 ∨ σ 8 q = 4 ∨ σ 8 q = 5 := by omega
  obtain ⟨ha, hb, -⟩ := rk_2 O hq h8
  have h6 := las_lt (σ := σ) (l := σ 9 q) u2
  have h7 := las_lt (σ := σ) (l := σ 10 q) v2
  have k1 : dy σ (u / (σ 1 5)) < 2 := by unfold dy; split <;> omega
  have k2 : dy σ (v / (σ 1 5)) < 2 := by unfold dy; split <;> omega
  unfold kp2
  rcases h8 with h8 | h8 | h8 | h8
  · by_cases e : u / (σ 1 5) = v / (σ 1 5)
    · simp (disch := first | assumption | omega | exact st8_a (Nat.le_of_ble_eq_true rfl)) only [h8, eq_true e, decide_true, eb_202_0, eb_202_1, eb_202_2, eb_202_3, eb_202_4, eb_202_5, eb_202_6, eb_202_7, eb_202_8, eb_202_9, eb_202_10, eb_202_11, eb_202_12, eb_202_13, eb_202_14, eb_202_15, eb_202_16, eb_202_17, eb_202_18, eb_202_19, eb_202_20, eb_202_21, eb_202_22, eb_202_23, eb_202_24, eb_202_25, kl_a, kl_d, kl_f, kl_i, kl_l, kl_n, kl_r, xr_1, xr_10, xr_141, xr_2, xr_27, xr_28, xr_3, xr_31, xr_33, xr_34, xr_35, xr_36, xr_37, xr_38, xr_4, xr_5, af_0, af_1, xt_goto, xt_ib, xt_ic, xt_ic_eq, xt_ic_ge, xt_ic_ne, xt_ir, xt_nop, xt_t0, xt_t2, sw_202_0_0, sw_202_0_1, sw_202_0_2, sw_202_0_3, sw_202_0_4, sw_202_0_5, sw_202_0_6, mF_13 H, mF_14 H, mF_15 H, mF_6 H, mA_63 H, mA_64 H, mA_65 H, mA_66 H, mA_67 H, mA_68 H, mA_69 H, mA_70 H, mA_71 H, xq_195_13_virtualm H, xq_197_13_virtualm H, iN_add, iN_mul, iN_sub, iN_and, iN_or, iN_clr, iN_shl, iN_shr, tb_r1, b1_z, b1_or, b1_and, b1_or0, b1_or1, b1_0or, b1_t, b1_f, iN_lt, iN_inj, reduceIte, if_true, if_false, Nat.zero_add, Nat.add_zero, Bool.false_eq_true, Bool.true_eq_false, Nat.lt_irrefl, iN_az, not_true_eq_false, not_false_eq_true, Nat.reduceEqDiff, Nat.reduceLT, Nat.reduceAdd, Nat.reduceMul, Nat.reduceSub]
    · simp (disch := first | assumption | omega | exact st8_a (Nat.le_of_ble_eq_true rfl)) only [h8, e, decide_false, eb_202_0, eb_202_1, eb_202_2, eb_202_3, eb_202_4, eb_202_5, eb_202_6, eb_202_7, eb_202_8, eb_202_9, eb_202_10, eb_202_11, eb_202_12, eb_202_13, eb_202_14, eb_202_15, eb_202_16, eb_202_17, eb_202_18, eb_202_19, eb_202_20, eb_202_21, eb_202_22, eb_202_23, eb_202_24, eb_202_25, kl_a, kl_d, kl_f, kl_i, kl_l, kl_n, kl_r, xr_1, xr_10, xr_141, xr_2, xr_27, xr_28, xr_3, xr_31, xr_33, xr_34, xr_35, xr_36, xr_37, xr_38, xr_4, xr_5, af_0, af_1, xt_goto, xt_ib, xt_ic, xt_ic_eq, xt_ic_ge, xt_ic_ne, xt_ir, xt_nop, xt_t0, xt_t2, sw_202_0_0, sw_202_0_1, sw_202_0_2, sw_202_0_3, sw_202_0_4, sw_202_0_5, sw_202_0_6, mF_13 H, mF_14 H, mF_15 H, mF_6 H, mA_63 H, mA_64 H, mA_65 H, mA_66 H, mA_67 H, mA_68 H, mA_69 H, mA_70 H, mA_71 H, xq_195_13_virtualm H, xq_197_13_virtualm H, iN_add, iN_mul, iN_sub, iN_and, iN_or, iN_clr, iN_shl, iN_shr, tb_r1, b1_z, b1_or, b1_and, b1_or0, b1_or1, b1_0or, b1_t, b1_f, iN_lt, iN_inj, reduceIte, if_true, if_false, Nat.zero_add, Nat.add_zero, Bool.false_eq_true, Bool.true_eq_false, Nat.lt_irrefl, iN_az, not_true_eq_false, not_false_eq_true, Nat.reduceEqDiff, Nat.reduceLT, Nat.reduceAdd, Nat.reduceMul, Nat.reduceSub]
  · by_cases e : dy σ (u / (σ 1 5)) = dy σ (v / (σ 1 5))
    · simp (disch := first | assumption | omega | exact st8_a (Nat.le_of_ble_eq_true rfl)) only [m_197 O H hu, m_197 O H hv, h8, eq_true e, Nat.reduceEqDiff, ne_eq, decide_false, eb_202_0, eb_202_1, eb_202_2, eb_202_3, eb_202_4, eb_202_5, eb_202_6, eb_202_7, eb_202_8, eb_202_9, eb_202_10, eb_202_11, eb_202_12, eb_202_13, eb_202_14, eb_202_15, eb_202_16, eb_202_17, eb_202_18, eb_202_19, eb_202_20, eb_202_21, eb_202_22, eb_202_23, eb_202_24, eb_202_25, kl_a, kl_d, kl_f, kl_i, kl_l, kl_n, kl_r, xr_1, xr_10, xr_141, xr_2, xr_27, xr_28, xr_3, xr_31, xr_33, xr_34, xr_35, xr_36, xr_37, xr_38, xr_4, xr_5, af_0, af_1, xt_goto, xt_ib, xt_ic, xt_ic_eq, xt_ic_ge, xt_ic_ne, xt_ir, xt_nop, xt_t0, xt_t2, sw_202_0_0, sw_202_0_1, sw_202_0_2, sw_202_0_3, sw_202_0_4, sw_202_0_5, sw_202_0_6, mF_13 H, mF_14 H, mF_15 H, mF_6 H, mA_63 H, mA_64 H, mA_65 H, mA_66 H, mA_67 H, mA_68 H, mA_69 H, mA_70 H, mA_71 H, xq_195_13_virtualm H, xq_197_13_virtualm H, iN_add, iN_mul, iN_sub, iN_and, iN_or, iN_clr, iN_shl, iN_shr, tb_r1, b1_z, b1_or, b1_and, b1_or0, b1_or1, b1_0or, b1_t, b1_f, iN_lt, iN_inj, reduceIte, if_true, if_false, Nat.zero_add, Nat.add_zero, Bool.false_eq_true, Bool.true_eq_false, Nat.lt_irrefl, iN_az, not_true_eq_false, not_false_eq_true, Nat.reduceLT, Nat.reduceAdd, Nat.reduceMul, Nat.reduceSub]
    · simp (disch := first | assumption | omega | exact st8_a (Nat.le_of_ble_eq_true rfl)) only [m_197 O H hu, m_197 O H hv, h8, e, Nat.reduceEqDiff, ne_eq, decide_true, eb_202_0, eb_202_1, eb_202_2, eb_202_3, eb_202_4, eb_202_5, eb_202_6, eb_202_7, eb_202_8, eb_202_9, eb_202_10, eb_202_11, eb_202_12, eb_202_13, eb_202_14, eb_202_15, eb_202_16, eb_202_17, eb_202_18, eb_202_19, eb_202_20, eb_202_21, eb_202_22, eb_202_23, eb_202_24, eb_202_25, kl_a, kl_d, kl_f, kl_i, kl_l, kl_n, kl_r, xr_1, xr_10, xr_141, xr_2, xr_27, xr_28, xr_3, xr_31, xr_33, xr_34, xr_35, xr_36, xr_37, xr_38, xr_4, xr_5, af_0, af_1, xt_goto, xt_ib, xt_ic, xt_ic_eq, xt_ic_ge, xt_ic_ne, xt_ir, xt_nop, xt_t0, xt_t2, sw_202_0_0, sw_202_0_1, sw_202_0_2, sw_202_0_3, sw_202_0_4, sw_202_0_5, sw_202_0_6, mF_13 H, mF_14 H, mF_15 H, mF_6 H, mA_63 H, mA_64 H, mA_65 H, mA_66 H, mA_67 H, mA_68 H, mA_69 H, mA_70 H, mA_71 H, xq_195_13_virtualm H, xq_197_13_virtualm H, iN_add, iN_mul, iN_sub, iN_and, iN_or, iN_clr, iN_shl, iN_shr, tb_r1, b1_z, b1_or, b1_and, b1_or0, b1_or1, b1_0or, b1_t, b1_f, iN_lt, iN_inj, reduceIte, if_true, if_false, Nat.zero_add, Nat.add_zero, Bool.false_eq_true, Bool.true_eq_false, Nat.lt_irrefl, iN_az, not_true_eq_false, not_false_eq_true, Nat.reduceLT, Nat.reduceAdd, Nat.reduceMul, Nat.reduceSub]
  · by_cases e : las σ (σ 9 q) (u / (σ 1 5)) < v / (σ 1 5)
    · simp (disch := first | assumption | omega | exact st8_a (Nat.le_of_ble_eq_true rfl)) only [m_195 O H ha hu, h8, e, Nat.reduceEqDiff, decide_true, eb_202_0, eb_202_1, eb_202_2, eb_202_3, eb_202_4, eb_202_5, eb_202_6, eb_202_7, eb_202_8, eb_202_9, eb_202_10, eb_202_11, eb_202_12, eb_202_13, eb_202_14, eb_202_15, eb_202_16, eb_202_17, eb_202_18, eb_202_19, eb_202_20, eb_202_21, eb_202_22, eb_202_23, eb_202_24, eb_202_25, kl_a, kl_d, kl_f, kl_i, kl_l, kl_n, kl_r, xr_1, xr_10, xr_141, xr_2, xr_27, xr_28, xr_3, xr_31, xr_33, xr_34, xr_35, xr_36, xr_37, xr_38, xr_4, xr_5, af_0, af_1, xt_goto, xt_ib, xt_ic, xt_ic_eq, xt_ic_ge, xt_ic_ne, xt_ir, xt_nop, xt_t0, xt_t2, sw_202_0_0, sw_202_0_1, sw_202_0_2, sw_202_0_3, sw_202_0_4, sw_202_0_5, sw_202_0_6, mF_13 H, mF_14 H, mF_15 H, mF_6 H, mA_63 H, mA_64 H, mA_65 H, mA_66 H, mA_67 H, mA_68 H, mA_69 H, mA_70 H, mA_71 H, xq_195_13_virtualm H, xq_197_13_virtualm H, iN_add, iN_mul, iN_sub, iN_and, iN_or, iN_clr, iN_shl, iN_shr, tb_r1, b1_z, b1_or, b1_and, b1_or0, b1_or1, b1_0or, b1_t, b1_f, iN_lt, iN_inj, reduceIte, if_true, if_false, Nat.zero_add, Nat.add_zero, Bool.false_eq_true, Bool.true_eq_false, Nat.lt_irrefl, iN_az, not_true_eq_false, not_false_eq_true, Nat.reduceLT, Nat.reduceAdd, Nat.reduceMul, Nat.reduceSub]
    · simp (disch := first | assumption | omega | exact st8_a (Nat.le_of_ble_eq_true rfl)) only [m_195 O H ha hu, h8, e, Nat.reduceEqDiff, decide_false, eb_202_0, eb_202_1, eb_202_2, eb_202_3, eb_202_4, eb_202_5, eb_202_6, eb_202_7, eb_202_8, eb_202_9, eb_202_10, eb_202_11, eb_202_12, eb_202_13, eb_202_14, eb_202_15, eb_202_16, eb_202_17, eb_202_18, eb_202_19, eb_202_20, eb_202_21, eb_202_22, eb_202_23, eb_202_24, eb_202_25, kl_a, kl_d, kl_f, kl_i, kl_l, kl_n, kl_r, xr_1, xr_10, xr_141, xr_2, xr_27, xr_28, xr_3, xr_31, xr_33, xr_34, xr_35, xr_36, xr_37, xr_38, xr_4, xr_5, af_0, af_1, xt_goto, xt_ib, xt_ic, xt_ic_eq, xt_ic_ge, xt_ic_ne, xt_ir, xt_nop, xt_t0, xt_t2, sw_202_0_0, sw_202_0_1, sw_202_0_2, sw_202_0_3, sw_202_0_4, sw_202_0_5, sw_202_0_6, mF_13 H, mF_14 H, mF_15 H, mF_6 H, mA_63 H, mA_64 H, mA_65 H, mA_66 H, mA_67 H, mA_68 H, mA_69 H, mA_70 H, mA_71 H, xq_195_13_virtualm H, xq_197_13_virtualm H, iN_add, iN_mul, iN_sub, iN_and, iN_or, iN_clr, iN_shl, iN_shr, tb_r1, b1_z, b1_or, b1_and, b1_or0, b1_or1, b1_0or, b1_t, b1_f, iN_lt, iN_inj, reduceIte, if_true, if_false, Nat.zero_add, Nat.add_zero, Bool.false_eq_true, Bool.true_eq_false, Nat.lt_irrefl, iN_az, not_true_eq_false, not_false_eq_true, Nat.reduceLT, Nat.reduceAdd, Nat.reduceMul, Nat.reduceSub]
  · by_cases e : dy σ (u / (σ 1 5)) = dy σ (v / (σ 1 5))
    · by_cases e1 : v / (σ 1 5) = las σ (σ 9 q) (u / (σ 1 5)) + 1
      · simp (disch := first | assumption | omega | exact st8_a (Nat.le_of_ble_eq_true rfl)) only [m_195 O H ha hu, m_195 O H hb hv, m_197 O H hu, m_197 O H hv, h8, eq_true e, eq_true e1, Nat.reduceEqDiff, decide_true, Bool.true_or, Bool.true_and, eb_202_0, eb_202_1, eb_202_2, eb_202_3, eb_202_4, eb_202_5, eb_202_6, eb_202_7, eb_202_8, eb_202_9, eb_202_10, eb_202_11, eb_202_12, eb_202_13, eb_202_14, eb_202_15, eb_202_16, eb_202_17, eb_202_18, eb_202_19, eb_202_20, eb_202_21, eb_202_22, eb_202_23, eb_202_24, eb_202_25, kl_a, kl_d, kl_f, kl_i, kl_l, kl_n, kl_r, xr_1, xr_10, xr_141, xr_2, xr_27, xr_28, xr_3, xr_31, xr_33, xr_34, xr_35, xr_36, xr_37, xr_38, xr_4, xr_5, af_0, af_1, xt_goto, xt_ib, xt_ic, xt_ic_eq, xt_ic_ge, xt_ic_ne, xt_ir, xt_nop, xt_t0, xt_t2, sw_202_0_0, sw_202_0_1, sw_202_0_2, sw_202_0_3, sw_202_0_4, sw_202_0_5, sw_202_0_6, mF_13 H, mF_14 H, mF_15 H, mF_6 H, mA_63 H, mA_64 H, mA_65 H, mA_66 H, mA_67 H, mA_68 H, mA_69 H, mA_70 H, mA_71 H, xq_195_13_virtualm H, xq_197_13_virtualm H, iN_add, iN_mul, iN_sub, iN_and, iN_or, iN_clr, iN_shl, iN_shr, tb_r1, b1_z, b1_or, b1_and, b1_or0, b1_or1, b1_0or, b1_t, b1_f, iN_lt, iN_inj, reduceIte, if_true, if_false, Nat.zero_add, Nat.add_zero, Bool.false_eq_true, Bool.true_eq_false, Nat.lt_irrefl, iN_az, not_true_eq_false, not_false_eq_true, Nat.reduceLT, Nat.reduceAdd, Nat.reduceMul, Nat.reduceSub]
      · by_cases e2 : u / (σ 1 5) = las σ (σ 10 q) (v / (σ 1 5)) + 1
        · simp (disch := first | assumption | omega | exact st8_a (Nat.le_of_ble_eq_true rfl)) only [m_195 O H ha hu, m_195 O H hb hv, m_197 O H hu, m_197 O H hv, h8, eq_true e, e1, eq_true e2, Nat.reduceEqDiff, decide_true, decide_false, Bool.false_or, Bool.true_and, eb_202_0, eb_202_1, eb_202_2, eb_202_3, eb_202_4, eb_202_5, eb_202_6, eb_202_7, eb_202_8, eb_202_9, eb_202_10, eb_202_11, eb_202_12, eb_202_13, eb_202_14, eb_202_15, eb_202_16, eb_202_17, eb_202_18, eb_202_19, eb_202_20, eb_202_21, eb_202_22, eb_202_23, eb_202_24, eb_202_25, kl_a, kl_d, kl_f, kl_i, kl_l, kl_n, kl_r, xr_1, xr_10, xr_141, xr_2, xr_27, xr_28, xr_3, xr_31, xr_33, xr_34, xr_35, xr_36, xr_37, xr_38, xr_4, xr_5, af_0, af_1, xt_goto, xt_ib, xt_ic, xt_ic_eq, xt_ic_ge, xt_ic_ne, xt_ir, xt_nop, xt_t0, xt_t2, sw_202_0_0, sw_202_0_1, sw_202_0_2, sw_202_0_3, sw_202_0_4, sw_202_0_5, sw_202_0_6, mF_13 H, mF_14 H, mF_15 H, mF_6 H, mA_63 H, mA_64 H, mA_65 H, mA_66 H, mA_67 H, mA_68 H, mA_69 H, mA_70 H, mA_71 H, xq_195_13_virtualm H, xq_197_13_virtualm H, iN_add, iN_mul, iN_sub, iN_and, iN_or, iN_clr, iN_shl, iN_shr, tb_r1, b1_z, b1_or, b1_and, b1_or0, b1_or1, b1_0or, b1_t, b1_f, iN_lt, iN_inj, reduceIte, if_true, if_false, Nat.zero_add, Nat.add_zero, Bool.false_eq_true, Bool.true_eq_false, Nat.lt_irrefl, iN_az, not_true_eq_false, not_false_eq_true, Nat.reduceLT, Nat.reduceAdd, Nat.reduceMul, Nat.reduceSub]
        · simp (disch := first | assumption | omega | exact st8_a (Nat.le_of_ble_eq_true rfl)) only [m_195 O H ha hu, m_195 O H hb hv, m_197 O H hu, m_197 O H hv, h8, eq_true e, e1, e2, Nat.reduceEqDiff, decide_true, decide_false, Bool.false_or, Bool.true_and, eb_202_0, eb_202_1, eb_202_2, eb_202_3, eb_202_4, eb_202_5, eb_202_6, eb_202_7, eb_202_8, eb_202_9, eb_202_10, eb_202_11, eb_202_12, eb_202_13, eb_202_14, eb_202_15, eb_202_16, eb_202_17, eb_202_18, eb_202_19, eb_202_20, eb_202_21, eb_202_22, eb_202_23, eb_202_24, eb_202_25, kl_a, kl_d, kl_f, kl_i, kl_l, kl_n, kl_r, xr_1, xr_10, xr_141, xr_2, xr_27, xr_28, xr_3, xr_31, xr_33, xr_34, xr_35, xr_36, xr_37, xr_38, xr_4, xr_5, af_0, af_1, xt_goto, xt_ib, xt_ic, xt_ic_eq, xt_ic_ge, xt_ic_ne, xt_ir, xt_nop, xt_t0, xt_t2, sw_202_0_0, sw_202_0_1, sw_202_0_2, sw_202_0_3, sw_202_0_4, sw_202_0_5, sw_202_0_6, mF_13 H, mF_14 H, mF_15 H, mF_6 H, mA_63 H, mA_64 H, mA_65 H, mA_66 H, mA_67 H, mA_68 H, mA_69 H, mA_70 H, mA_71 H, xq_195_13_virtualm H, xq_197_13_virtualm H, iN_add, iN_mul, iN_sub, iN_and, iN_or, iN_clr, iN_shl, iN_shr, tb_r1, b1_z, b1_or, b1_and, b1_or0, b1_or1, b1_0or, b1_t, b1_f, iN_lt, iN_inj, reduceIte, if_true, if_false, Nat.zero_add, Nat.add_zero, Bool.false_eq_true, Bool.true_eq_false, Nat.lt_irrefl, iN_az, not_true_eq_false, not_false_eq_true, Nat.reduceLT, Nat.reduceAdd, Nat.reduceMul, Nat.reduceSub]
    · simp (disch := first | assumption | omega | exact st8_a (Nat.le_of_ble_eq_true rfl)) only [m_195 O H ha hu, m_195 O H hb hv, m_197 O H hu, m_197 O H hv, h8, e, Nat.reduceEqDiff, decide_false, Bool.false_and, eb_202_0, eb_202_1, eb_202_2, eb_202_3, eb_202_4, eb_202_5, eb_202_6, eb_202_7, eb_202_8, eb_202_9, eb_202_10, eb_202_11, eb_202_12, eb_202_13, eb_202_14, eb_202_15, eb_202_16, eb_202_17, eb_202_18, eb_202_19, eb_202_20, eb_202_21, eb_202_22, eb_202_23, eb_202_24, eb_202_25, kl_a, kl_d, kl_f, kl_i, kl_l, kl_n, kl_r, xr_1, xr_10, xr_141, xr_2, xr_27, xr_28, xr_3, xr_31, xr_33, xr_34, xr_35, xr_36, xr_37, xr_38, xr_4, xr_5, af_0, af_1, xt_goto, xt_ib, xt_ic, xt_ic_eq, xt_ic_ge, xt_ic_ne, xt_ir, xt_nop, xt_t0, xt_t2, sw_202_0_0, sw_202_0_1, sw_202_0_2, sw_202_0_3, sw_202_0_4, sw_202_0_5, sw_202_0_6, mF_13 H, mF_14 H, mF_15 H, mF_6 H, mA_63 H, mA_64 H, mA_65 H, mA_66 H, mA_67 H, mA_68 H, mA_69 H, mA_70 H, mA_71 H, xq_195_13_virtualm H, xq_197_13_virtualm H, iN_add, iN_mul, iN_sub, iN_and, iN_or, iN_clr, iN_shl, iN_shr, tb_r1, b1_z, b1_or, b1_and, b1_or0, b1_or1, b1_0or, b1_t, b1_f, iN_lt, iN_inj, reduceIte, if_true, if_false, Nat.zero_add, Nat.add_zero, Bool.false_eq_true, Bool.true_eq_false, Nat.lt_irrefl, iN_az, not_true_eq_false, not_false_eq_true, Nat.reduceLT, Nat.reduceAdd, Nat.reduceMul, Nat.reduceSub]
set_option maxRecDepth 100000 in
theorem m_205 (O : Ok σ) (H : Mo σ μ ν h) {y : Nat} (hd : y < (σ 1 0)) : ev xs d 205 0 ([.ref 62, .int (nI y)], [], h) = some (.inl (some (.int (nI (dm σ y)))), h) := by
  obtain ⟨hD1, hD2, hH1, hH2, hS, hC, hT, hR, hL, hQ⟩ := Ok_b O
  have h1 := one_shl (σ 1 1)
  have h2 : y * (σ 1 1) < 32 := by
    have : y = 0 ∨ y = 1 := by omega
    rcases this with rfl | rfl <;> omega
  simp (disch := first | assumption | omega | exact st8_a (Nat.le_of_ble_eq_true rfl)) only [dm, eb_205_0, xr_1, xr_2, xr_27, xr_28, xr_3, xr_4, xr_41, xr_5, xr_58, xr_77, xt_ib, xt_ic, xt_ir, mF_1 H, iN_add, iN_mul, iN_sub, iN_and, iN_or, iN_clr, iN_shl, iN_shr, tb_r1, b1_z, b1_or, b1_and, b1_or0, b1_or1, b1_0or, b1_t, b1_f, iN_lt, iN_inj, reduceIte, if_true, if_false, Nat.zero_add, Nat.add_zero, Bool.false_eq_true, Bool.true_eq_false, Nat.lt_irrefl, iN_az, not_true_eq_false, not_false_eq_true, Nat.reduceEqDiff, Nat.reduceLT, Nat.reduceAdd, Nat.reduceMul, Nat.reduceSub]
set_option maxRecDepth 100000 in
theorem lks_k (k : Nat) : lks [0, 6, 7] [1, 7, 12, 18] k = if k = 0 then 1 else if k = 6 then 7 else if k = 7 then 12 else 18 := by
  unfold lks
  by_cases h0 : k = 0
  · subst h0; rfl
  · by_cases h1 : k = 6
    · subst h1; rfl
    · by_cases h2 : k = 7
      · subst h2; rfl
      · have : [0, 6, 7].findIdx? (fun q => q == k) = none := by
          rw [List.findIdx?_eq_none_iff]
          intro x hx
          simp at hx
          rcases hx with rfl | rfl | rfl <;> simp <;> omega
        rw [this, if_neg h0, if_neg h1, if_neg h2]
        rfl
set_option maxRecDepth 100000 in
theorem xt_ka {xs : List Int32} {d m n : Nat} {hs : List (Nat × Nat)} {c : Nat × Nat × Nat} {L st : List Value} {h : ab_H} {x : Nat} (hx : x < 2147483648) : rt xs d m hs (.lookupswitch 138 #[(0, 34), (6, 68), (7, 99)], n, c, [1, 7, 12, 18]) [] (L, .int (nI x) :: st, h) = ev xs d m (if x = 0 then 1 else if x = 6 then 7 else if x = 7 then 12 else 18) (L, st, h) := by
  rw [← lks_k]
  refine xt_ls hx fun y => ?_
  have e0 : ((0 : Int) == (y : Int)) = (0 == y) := by rw [Bool.eq_iff_iff]; simp; omega
  have e6 : ((6 : Int) == (y : Int)) = (6 == y) := by rw [Bool.eq_iff_iff]; simp; omega
  have e7 : ((7 : Int) == (y : Int)) = (7 == y) := by rw [Bool.eq_iff_iff]; simp; omega
  simp only [List.findIdx?_cons, List.findIdx?_nil, e0, e6, e7]
set_option maxRecDepth 100000 in
theorem m_203 (O : Ok σ) (H : Mo σ μ ν h) (hq : q < (σ 1 7)) (hl : l < (σ 1 6)) (hv : v < (σ 1 2) * (σ 1 5)) : ev xs (d + 3) 203 0 ([.ref 62, .int (nI q), .int (nI l), .int (nI v)], [], h) = some (.inl (some (.int (nI (b1 (ka σ q l v))))), h) := by
  obtain ⟨hD1, hD2, hH1, hH2, hS, hC, hT, hR, hL, hQ⟩ := Ok_b O
  obtain ⟨v1, v2, v3, v4, v5⟩ := vb O hv
  have k1 := rk_lt O hq
  have c1 := cov_lt O (l := l) v2
  obtain ⟨j1, j2, j3⟩ := Ok_l O hl
  unfold ka
  by_cases h0 : σ 8 q = 0
  · obtain ⟨ha, hb⟩ := rk_0 O hq h0
    by_cases e : σ 9 q = l
    · cases h2 : (cov σ l (v / (σ 1 5))).testBit (σ 10 q) <;> simp (disch := first | assumption | omega | exact st8_a (Nat.le_of_ble_eq_true rfl)) only [xt_ka, m_196 O H hl hv, h0, eq_true e, h2, ne_eq, decide_false, Bool.false_or, Bool.not_true, Bool.not_false, eb_203_0, eb_203_1, eb_203_2, eb_203_3, eb_203_4, eb_203_5, eb_203_6, eb_203_7, eb_203_8, eb_203_9, eb_203_10, eb_203_11, eb_203_12, eb_203_13, eb_203_14, eb_203_15, eb_203_16, eb_203_17, eb_203_18, xr_1, xr_10, xr_143, xr_2, xr_27, xr_28, xr_3, xr_31, xr_37, xr_4, xr_44, xr_5, xr_55, af_0, af_1, xt_goto, xt_ib, xt_ic, xt_ic_ne, xt_if_ne, xt_ir, xt_nop, mF_10 H, mF_13 H, mF_14 H, mF_15 H, mF_6 H, mA_63 H, mA_64 H, mA_65 H, mA_66 H, mA_67 H, mA_68 H, mA_69 H, mA_70 H, mA_71 H, xq_196_13_virtualm H, iN_add, iN_mul, iN_sub, iN_and, iN_or, iN_clr, iN_shl, iN_shr, tb_r1, b1_z, b1_or, b1_and, b1_or0, b1_or1, b1_0or, b1_t, b1_f, iN_lt, iN_inj, reduceIte, if_true, if_false, Nat.zero_add, Nat.add_zero, Bool.false_eq_true, Bool.true_eq_false, Nat.lt_irrefl, iN_az, not_true_eq_false, not_false_eq_true, Nat.reduceEqDiff, Nat.reduceLT, Nat.reduceAdd, Nat.reduceMul, Nat.reduceSub]
    · simp (disch := first | assumption | omega | exact st8_a (Nat.le_of_ble_eq_true rfl)) only [xt_ka, h0, e, ne_eq, decide_true, Bool.true_or, eb_203_0, eb_203_1, eb_203_2, eb_203_3, eb_203_4, eb_203_5, eb_203_6, eb_203_7, eb_203_8, eb_203_9, eb_203_10, eb_203_11, eb_203_12, eb_203_13, eb_203_14, eb_203_15, eb_203_16, eb_203_17, eb_203_18, xr_1, xr_10, xr_143, xr_2, xr_27, xr_28, xr_3, xr_31, xr_37, xr_4, xr_44, xr_5, xr_55, af_0, af_1, xt_goto, xt_ib, xt_ic, xt_ic_ne, xt_if_ne, xt_ir, xt_nop, mF_10 H, mF_13 H, mF_14 H, mF_15 H, mF_6 H, mA_63 H, mA_64 H, mA_65 H, mA_66 H, mA_67 H, mA_68 H, mA_69 H, mA_70 H, mA_71 H, xq_196_13_virtualm H, iN_add, iN_mul, iN_sub, iN_and, iN_or, iN_clr, iN_shl, iN_shr, tb_r1, b1_z, b1_or, b1_and, b1_or0, b1_or1, b1_0or, b1_t, b1_f, iN_lt, iN_inj, reduceIte, if_true, if_false, Nat.zero_add, Nat.add_zero, Bool.false_eq_true, Bool.true_eq_false, Nat.lt_irrefl, iN_az, not_true_eq_false, not_false_eq_true, Nat.reduceEqDiff, Nat.reduceLT, Nat.reduceAdd, Nat.reduceMul, Nat.reduceSub]
  · by_cases h6 : σ 8 q = 6
    · obtain ⟨ha, hb⟩ := rk_6 O hq h6
      by_cases e : σ 9 q = l
      · by_cases e2 : v % (σ 1 5) = σ 10 q <;> simp (disch := first | assumption | omega | exact st8_a (Nat.le_of_ble_eq_true rfl)) only [xt_ka, h6, eq_true e, e2, ne_eq, decide_true, decide_false, Bool.false_or, Bool.or_false, Bool.or_true, eb_203_0, eb_203_1, eb_203_2, eb_203_3, eb_203_4, eb_203_5, eb_203_6, eb_203_7, eb_203_8, eb_203_9, eb_203_10, eb_203_11, eb_203_12, eb_203_13, eb_203_14, eb_203_15, eb_203_16, eb_203_17, eb_203_18, xr_1, xr_10, xr_143, xr_2, xr_27, xr_28, xr_3, xr_31, xr_37, xr_4, xr_44, xr_5, xr_55, af_0, af_1, xt_goto, xt_ib, xt_ic, xt_ic_ne, xt_if_ne, xt_ir, xt_nop, mF_10 H, mF_13 H, mF_14 H, mF_15 H, mF_6 H, mA_63 H, mA_64 H, mA_65 H, mA_66 H, mA_67 H, mA_68 H, mA_69 H, mA_70 H, mA_71 H, xq_196_13_virtualm H, iN_add, iN_mul, iN_sub, iN_and, iN_or, iN_clr, iN_shl, iN_shr, tb_r1, b1_z, b1_or, b1_and, b1_or0, b1_or1, b1_0or, b1_t, b1_f, iN_lt, iN_inj, reduceIte, if_true, if_false, Nat.zero_add, Nat.add_zero, Bool.false_eq_true, Bool.true_eq_false, Nat.lt_irrefl, iN_az, not_true_eq_false, not_false_eq_true, Nat.reduceEqDiff, Nat.reduceLT, Nat.reduceAdd, Nat.reduceMul, Nat.reduceSub]
      · simp (disch := first | assumption | omega | exact st8_a (Nat.le_of_ble_eq_true rfl)) only [xt_ka, h6, e, ne_eq, decide_true, Bool.true_or, eb_203_0, eb_203_1, eb_203_2, eb_203_3, eb_203_4, eb_203_5, eb_203_6, eb_203_7, eb_203_8, eb_203_9, eb_203_10, eb_203_11, eb_203_12, eb_203_13, eb_203_14, eb_203_15, eb_203_16, eb_203_17, eb_203_18, xr_1, xr_10, xr_143, xr_2, xr_27, xr_28, xr_3, xr_31, xr_37, xr_4, xr_44, xr_5, xr_55, af_0, af_1, xt_goto, xt_ib, xt_ic, xt_ic_ne, xt_if_ne, xt_ir, xt_nop, mF_10 H, mF_13 H, mF_14 H, mF_15 H, mF_6 H, mA_63 H, mA_64 H, mA_65 H, mA_66 H, mA_67 H, mA_68 H, mA_69 H, mA_70 H, mA_71 H, xq_196_13_virtualm H, iN_add, iN_mul, iN_sub, iN_and, iN_or, iN_clr, iN_shl, iN_shr, tb_r1, b1_z, b1_or, b1_and, b1_or0, b1_or1, b1_0or, b1_t, b1_f, iN_lt, iN_inj, reduceIte, if_true, if_false, Nat.zero_add, Nat.add_zero, Bool.false_eq_true, Bool.true_eq_false, Nat.lt_irrefl, iN_az, not_true_eq_false, not_false_eq_true, Nat.reduceEqDiff, Nat.reduceLT, Nat.reduceAdd, Nat.reduceMul, Nat.reduceSub]
    · by_cases h7 : σ 8 q = 7
      · obtain ⟨ha, hb⟩ := rk_7 O hq h7
        by_cases e : σ 9 q = σ 6 l
        · cases h2 : (cov σ l (v / (σ 1 5))).testBit (σ 10 q) <;> simp (disch := first | assumption | omega | exact st8_a (Nat.le_of_ble_eq_true rfl)) only [xt_ka, m_196 O H hl hv, h7, eq_true e, h2, ne_eq, decide_false, Bool.false_or, Bool.not_true, Bool.not_false, eb_203_0, eb_203_1, eb_203_2, eb_203_3, eb_203_4, eb_203_5, eb_203_6, eb_203_7, eb_203_8, eb_203_9, eb_203_10, eb_203_11, eb_203_12, eb_203_13, eb_203_14, eb_203_15, eb_203_16, eb_203_17, eb_203_18, xr_1, xr_10, xr_143, xr_2, xr_27, xr_28, xr_3, xr_31, xr_37, xr_4, xr_44, xr_5, xr_55, af_0, af_1, xt_goto, xt_ib, xt_ic, xt_ic_ne, xt_if_ne, xt_ir, xt_nop, mF_10 H, mF_13 H, mF_14 H, mF_15 H, mF_6 H, mA_63 H, mA_64 H, mA_65 H, mA_66 H, mA_67 H, mA_68 H, mA_69 H, mA_70 H, mA_71 H, xq_196_13_virtualm H, iN_add, iN_mul, iN_sub, iN_and, iN_or, iN_clr, iN_shl, iN_shr, tb_r1, b1_z, b1_or, b1_and, b1_or0, b1_or1, b1_0or, b1_t, b1_f, iN_lt, iN_inj, reduceIte, if_true, if_false, Nat.zero_add, Nat.add_zero, Bool.false_eq_true, Bool.true_eq_false, Nat.lt_irrefl, iN_az, not_true_eq_false, not_false_eq_true, Nat.reduceEqDiff, Nat.reduceLT, Nat.reduceAdd, Nat.reduceMul, Nat.reduceSub]
        · simp (disch := first | assumption | omega | exact st8_a (Nat.le_of_ble_eq_true rfl)) only [xt_ka, h7, e, ne_eq, decide_true, Bool.true_or, eb_203_0, eb_203_1, eb_203_2, eb_203_3, eb_203_4, eb_203_5, eb_203_6, eb_203_7, eb_203_8, eb_203_9, eb_203_10, eb_203_11, eb_203_12, eb_203_13, eb_203_14, eb_203_15, eb_203_16, eb_203_17, eb_203_18, xr_1, xr_10, xr_143, xr_2, xr_27, xr_28, xr_3, xr_31, xr_37, xr_4, xr_44, xr_5, xr_55, af_0, af_1, xt_goto, xt_ib, xt_ic, xt_ic_ne, xt_if_ne, xt_ir, xt_nop, mF_10 H, mF_13 H, mF_14 H, mF_15 H, mF_6 H, mA_63 H, mA_64 H, mA_65 H, mA_66 H, mA_67 H, mA_68 H, mA_69 H, mA_70 H, mA_71 H, xq_196_13_virtualm H, iN_add, iN_mul, iN_sub, iN_and, iN_or, iN_clr, iN_shl, iN_shr, tb_r1, b1_z, b1_or, b1_and, b1_or0, b1_or1, b1_0or, b1_t, b1_f, iN_lt, iN_inj, reduceIte, if_true, if_false, Nat.zero_add, Nat.add_zero, Bool.false_eq_true, Bool.true_eq_false, Nat.lt_irrefl, iN_az, not_true_eq_false, not_false_eq_true, Nat.reduceEqDiff, Nat.reduceLT, Nat.reduceAdd, Nat.reduceMul, Nat.reduceSub]
      · simp (disch := first | assumption | omega | exact st8_a (Nat.le_of_ble_eq_true rfl)) only [xt_ka, h0, h6, h7, eb_203_0, eb_203_1, eb_203_2, eb_203_3, eb_203_4, eb_203_5, eb_203_6, eb_203_7, eb_203_8, eb_203_9, eb_203_10, eb_203_11, eb_203_12, eb_203_13, eb_203_14, eb_203_15, eb_203_16, eb_203_17, eb_203_18, xr_1, xr_10, xr_143, xr_2, xr_27, xr_28, xr_3, xr_31, xr_37, xr_4, xr_44, xr_5, xr_55, af_0, af_1, xt_goto, xt_ib, xt_ic, xt_ic_ne, xt_if_ne, xt_ir, xt_nop, mF_10 H, mF_13 H, mF_14 H, mF_15 H, mF_6 H, mA_63 H, mA_64 H, mA_65 H, mA_66 H, mA_67 H, mA_68 H, mA_69 H, mA_70 H, mA_71 H, xq_196_13_virtualm H, iN_add, iN_mul, iN_sub, iN_and, iN_or, iN_clr, iN_shl, iN_shr, tb_r1, b1_z, b1_or, b1_and, b1_or0, b1_or1, b1_0or, b1_t, b1_f, iN_lt, iN_inj, reduceIte, if_true, if_false, Nat.zero_add, Nat.add_zero, Bool.false_eq_true, Bool.true_eq_false, Nat.lt_irrefl, iN_az, not_true_eq_false, not_false_eq_true, Nat.reduceEqDiff, Nat.reduceLT, Nat.reduceAdd, Nat.reduceMul, Nat.reduceSub]
end Md
