/-! THE MODEL: errors -/
/-- how many begins the lessons below k have together -/
def pr (σ : Nat → Nat → Nat) : Nat → Nat
  | 0 => 1
  | k + 1 => pr σ k * pc 18 (bgn σ k)
/-- the number of a table among all -/
def rk (σ : Nat → Nat → Nat) (t : Nat → Nat) : Nat → Nat
  | 0 => 0
  | k + 1 => rk σ t k * pc 18 (bgn σ k) + pc (t k) (bgn σ k)
def ENt (σ : Nat → Nat → Nat) (k : Nat) (t : Nat → Nat) : Prop := ∀ l, l < k → (bgn σ l).testBit (t l) = true
def dcd (t f : Nat → Nat) (k : Nat) : Nat → Nat := fun l => if l < k then t l else f l
section Mdo
variable {xs : List Int32} {d m2 n k i j p a b c u v l q z w y x nn : Nat} {hs : List (Nat × Nat)} {tt : ab_T} {rr : List ab_I} {qq : Nat × Nat × Nat} {Lc st : List Value} {τ M σ W N : Nat → Nat → Nat} {μ : Nat → Nat} {ν : Nat → Value} {h0 T T0 T2 : ab_H} {β : Value} {t s r f g t0 t1 : Nat → Nat}
set_option maxRecDepth 100000 in
theorem bgn_t : (bgn σ l).testBit v = true ↔ v < (σ 1 2) * (σ 1 5) ∧ sty σ l (v / (σ 1 5)) = true ∧ sts σ l (v % (σ 1 5)) = true := by
  unfold bgn
  rw [en_tb, Bool.and_eq_true, Bool.and_eq_true, decide_eq_true_iff]
set_option maxRecDepth 100000 in
theorem bgn_lt (O : Ok σ) : bgn σ l < 262144 := by
  have h1 := vle O
  exact Nat.lt_of_lt_of_le (en_lt _ _) (Nat.pow_le_pow_right (n := 2) (j := 18) (by decide) h1)
set_option maxRecDepth 100000 in
theorem pc_bt (hb : (bgn σ l).testBit v = true) (O : Ok σ) : pc v (bgn σ l) < pc 18 (bgn σ l) := by
  have h1 := vle O
  have h2 := (bgn_t.mp hb).1
  have := pc_mo (z := bgn σ l) (v + 1) 18 (by omega)
  rw [pc, hb, b1_t] at this
  omega
set_option maxRecDepth 100000 in
theorem pr_b (O : Ok σ) : ∀ k, k ≤ 6 → pr σ k ≤ 18 ^ k := by
  intro k
  induction k with
  | zero => intro _; exact Nat.le_refl _
  | succ k ih =>
    intro hk
    rw [pr, Nat.pow_succ]
    exact Nat.mul_le_mul (ih (by omega)) (pc_le 18 _)
set_option maxRecDepth 100000 in
theorem pr_31 (O : Ok σ) (hk : k ≤ 6) : pr σ k < 2147483648 := by
  have h1 := pr_b O k hk
  have h2 : 18 ^ k ≤ 18 ^ 6 := Nat.pow_le_pow_right (by decide) hk
  have h3 : 18 ^ 6 < 2147483648 := by decide
  omega
set_option maxRecDepth 100000 in
theorem rk_l2 (O : Ok σ) : ∀ k, ENt σ k t → rk σ t k < pr σ k := by
  intro k
  induction k with
  | zero => intro _; exact Nat.one_pos
  | succ k ih =>
    intro h
    have h1 := ih fun l hl => h l (by omega)
    have h2 := pc_bt (h k (Nat.lt_succ_self k)) O
    rw [rk, pr]
    have h3 : (rk σ t k + 1) * pc 18 (bgn σ k) ≤ pr σ k * pc 18 (bgn σ k) := Nat.mul_le_mul_right _ h1
    rw [Nat.add_mul, Nat.one_mul] at h3
    omega
set_option maxRecDepth 100000 in
theorem rk_mo (O : Ok σ) : ∀ k, ENt σ k t → ENt σ k s → TX k t s → rk σ t k < rk σ s k := by
  intro k
  induction k with
  | zero => intro _ _ ⟨j, hj, _⟩; exact absurd hj (Nat.not_lt_zero j)
  | succ k ih =>
    intro h1 h2 ⟨j, hj, h3, h4⟩
    have e1 := pc_bt (h1 k (Nat.lt_succ_self k)) O
    rw [rk, rk]
    by_cases e : j = k
    · subst e
      have h5 : rk σ t j = rk σ s j := by
        have key : ∀ i, i ≤ j → rk σ t i = rk σ s i := by
          intro i
          induction i with
          | zero => intro _; rfl
          | succ i ih2 => intro hi; rw [rk, rk, ih2 (by omega), h3 i (by omega)]
        exact key j (Nat.le_refl _)
      have h6 := pc_mo (z := bgn σ j) (t j + 1) (s j) h4
      rw [pc, h1 j (Nat.lt_succ_self j), b1_t] at h6
      rw [h5]
      omega
    · have h5 := ih (fun l hl => h1 l (by omega)) (fun l hl => h2 l (by omega)) ⟨j, by omega, h3, h4⟩
      have h6 : (rk σ t k + 1) * pc 18 (bgn σ k) ≤ rk σ s k * pc 18 (bgn σ k) := Nat.mul_le_mul_right _ h5
      rw [Nat.add_mul, Nat.one_mul] at h6
      omega
set_option maxRecDepth 100000 in
theorem TX_tr {n : Nat} : TX n t s ∨ TX n s t ∨ AT n t s := by
  induction n with
  | zero => exact .inr (.inr fun j hj => absurd hj (Nat.not_lt_zero j))
  | succ n ih =>
    rcases ih with h | h | h
    · exact .inl (TX_w (Nat.le_succ n) h)
    · exact .inr (.inl (TX_w (Nat.le_succ n) h))
    · rcases Nat.lt_trichotomy (t n) (s n) with e | e | e
      · exact .inl ⟨n, Nat.lt_succ_self n, h, e⟩
      · refine .inr (.inr fun j hj => ?_)
        by_cases hjn : j = n
        · rw [hjn]; exact e
        · exact h j (by omega)
      · exact .inr (.inl ⟨n, Nat.lt_succ_self n, AT_s h, e⟩)
set_option maxRecDepth 100000 in
theorem PA_EN (O : Ok σ) (hWT : WT σ (alr σ) (σ 1 7) 4294967295 0 W) (h : PA σ W (σ 1 6) t) : ENt σ (σ 1 6) t := by
  obtain ⟨h1, h2, -⟩ := (PA_Gd O hWT).mp h
  intro l hl
  obtain ⟨h3, h4⟩ := ((flt_0 _ _).mp h2.2.1).1 l hl
  exact bgn_t.mpr ⟨h1 l hl, h3, h4⟩
-- arrays behind the Ways
set_option maxRecDepth 100000 in
theorem hTl (hq : T[i]? = some (oI (ar n f))) (hk : k < n) (hn : n ≤ 100000) : rt xs d m2 hs tt ((.iaload, qq) :: rr) (Lc, .int (nI k) :: .ref (h0.length + (18 + i)) :: st, hw h0 nn W β T) = rt xs d m2 hs tt rr (Lc, .int (nI (f k)) :: st, hw h0 nn W β T) := q_ia (hw_T.trans hq) hk (by omega)
set_option maxRecDepth 100000 in
theorem hTs (hk : k < n) (hn : n ≤ 100000) : rt xs d m2 hs tt ((.iastore, qq) :: rr) (Lc, .int (nI v) :: .int (nI k) :: .ref (h0.length + (18 + T0.length)) :: st, hw h0 nn W β (T0 ++ (oI (ar n f) :: T2))) = rt xs d m2 hs tt rr (Lc, st, hw h0 nn W β (T0 ++ (oI (ar n (u1 f k v)) :: T2))) := by
  rw [q_is (hw_T.trans gt_mid) hk (by omega), hw_Ts, st_mid]
-- the product
set_option maxRecDepth 100000 in
theorem m_275p (O : Ok σ) (H : Mo σ μ ν h0) (hW : ∀ a, a < (σ 1 6) → W 1 a = bgn σ a) {y5 y6 y7 y8 y9 y10 y11 y12 y13 y14 y15 y16 y17 : Value} : ∀ k, k ≤ (σ 1 6) → ev xs (d + 1) 275 2 ([.ref 62, .ref h0.length, .long (lN (pr σ k)), .retAddr 9, .int (nI k), y5, y6, y7, y8, y9, y10, y11, y12, y13, y14, y15, y16, y17], [], hw h0 (σ 1 6) W β T) = ev xs (d + 1) 275 2 ([.ref 62, .ref h0.length, .long (lN (pr σ (σ 1 6))), .retAddr 9, .int (nI (σ 1 6)), y5, y6, y7, y8, y9, y10, y11, y12, y13, y14, y15, y16, y17], [], hw h0 (σ 1 6) W β T) := by
  obtain ⟨hD1, hD2, hH1, hH2, hS, hC, hT, hR, hL, hQ⟩ := Ok_b O
  refine lp (σ 1 6) rfl ?_
  intro k hk ih
  have hk6 : k < 6 := by omega
  have hp := pc_le 18 (bgn σ k)
  have e := fun h => s_277v (xs := xs) (d := d) (h := h) (bgn_lt (l := k) O)
  have hb := bgn_lt (l := k) O
  have hi := lN_i2l (a := pc 18 (bgn σ k)) (by omega)
  have hw1 := hW k hk
  rw [← ih, pr, eb_275_2]
  clear ih hW
  simp (disch := first | assumption | omega | exact st8_a (Nat.le_of_ble_eq_true rfl)) only [hk, hw1, e, hi, lN_mul, eb_275_3, eb_275_4, kl_a, kl_d, kl_f, kl_i, kl_l, kl_n, kl_r, xr_1, xr_10, xr_11, xr_115, xr_119, xr_12, xr_120, xr_121, xr_13, xr_14, xr_146, xr_147, xr_148, xr_149, xr_15, xr_150, xr_152, xr_153, xr_154, xr_156, xr_157, xr_175, xr_176, xr_177, xr_178, xr_179, xr_180, xr_181, xr_182, xr_183, xr_184, xr_185, xr_186, xr_187, xr_188, xr_189, xr_190, xr_191, xr_192, xr_193, xr_194, xr_195, xr_196, xr_197, xr_198, xr_199, xr_2, xr_200, xr_201, xr_202, xr_203, xr_204, xr_205, xr_206, xr_207, xr_208, xr_209, xr_210, xr_211, xr_212, xr_213, xr_214, xr_215, xr_216, xr_217, xr_218, xr_219, xr_220, xr_221, xr_222, xr_27, xr_3, xr_33, xr_34, xr_35, xr_36, xr_38, xr_4, xr_40, xr_44, xr_47, xr_5, xr_55, xr_64, xr_76, xr_77, xr_80, xr_81, xr_82, xr_83, xr_84, xr_91, xr_92, xr_93, xr_94, xr_95, xr_96, af_0, af_1, xt_goto, xt_ib, xt_ic, xt_ic_eq, xt_ic_ge, xt_ic_ne, xt_if_eq, xt_if_ge, xt_if_le, xt_if_lt, xt_if_ne, xt_ir, xt_nn_0, xt_nn_1, xt_nop, xt_nu_0, xt_nu_1, wF_0, wF_1, wF_2, wF_3, wF_4, wF_5, wF_6, wF_7, wF_8, wF_9, wF_10, wF_11, wF_12, wF_13, wP_9, wP_10, wL_5, wC_5, wC_17, wD, hw_app, hw_len, wA_1, wA_2, wA_3, wA_4, wA_5, wA_6, wA_7, wA_8, wA_17, wW_1, wW_2, wW_3, wW_4, wW_5, wW_6, wW_7, wW_8, wW_17, mF_8 (Mo_hw H), mA_63 (Mo_hw H), mA_64 (Mo_hw H), mA_65 (Mo_hw H), mA_66 (Mo_hw H), mA_67 (Mo_hw H), mA_68 (Mo_hw H), mA_69 (Mo_hw H), mA_70 (Mo_hw H), mA_71 (Mo_hw H), xq_177_12_virtual wy_c, xq_182_12_virtual wy_c, xq_183_12_virtual wy_c, xq_208_13_virtualm (Mo_hw H), xq_209_13_virtualm (Mo_hw H), xq_212_13_virtualm (Mo_hw H), xq_218_13_virtualm (Mo_hw H), xq_219_13_virtualm (Mo_hw H), xq_245_13_virtualm (Mo_hw H), xq_276_200_static, xq_277_200_static, iN_add, iN_mul, iN_sub, iN_and, iN_or, iN_clr, iN_shl, iN_shr, tb_r1, b1_z, b1_or, b1_and, b1_or0, b1_or1, b1_0or, b1_t, b1_f, iN_lt, iN_inj, reduceIte, if_true, if_false, Nat.zero_add, Nat.add_zero, Bool.false_eq_true, Bool.true_eq_false, Nat.lt_irrefl, iN_az, not_true_eq_false, not_false_eq_true, Nat.reduceEqDiff, Nat.reduceLT, Nat.reduceAdd, Nat.reduceMul, Nat.reduceSub]
set_option maxRecDepth 100000 in
theorem dcd_0 : dcd t f 0 = f := by
  funext l
  exact if_neg (Nat.not_lt_zero _)
set_option maxRecDepth 100000 in
theorem dcd_s : dcd t (u1 f k (t k)) k = dcd t f (k + 1) := by
  funext l
  unfold dcd
  by_cases h : l < k
  · rw [if_pos h, if_pos (by omega)]
  · rw [if_neg h]
    by_cases e : l = k
    · rw [e, u1_s, if_pos (Nat.lt_succ_self k)]
    · rw [u1_n e, if_neg (by omega)]
-- the table of a number
set_option maxRecDepth 100000 in
theorem m_275d (O : Ok σ) (H : Mo σ μ ν h0) (hW : ∀ a, a < (σ 1 6) → W 1 a = bgn σ a) {y4 y5 y7 y8 y9 y10 y11 y17 : Value} {lp1 : Int64} : ∀ k, k ≤ (σ 1 6) → ∀ x, x < pr σ k → ∀ f y16, ∃ t x' y16', ENt σ k t ∧ rk σ t k = x ∧ ev xs (d + 1) 275 12 ([.ref 62, .ref h0.length, .long lp1, .retAddr 9, y4, y5, .ref (h0.length + (18 + T0.length)), y7, y8, y9, y10, y11, .retAddr 9, .long (lN x), .retAddr 9, .int (nI k - nI 1), y16, y17], [], hw h0 (σ 1 6) W β (T0 ++ (oI (ar (σ 1 6) f) :: T2))) = ev xs (d + 1) 275 16 ([.ref 62, .ref h0.length, .long lp1, .retAddr 9, y4, y5, .ref (h0.length + (18 + T0.length)), y7, y8, y9, y10, y11, .retAddr 9, .long x', .retAddr 9, .int (nI 4294967295), y16', y17], [], hw h0 (σ 1 6) W β (T0 ++ (oI (ar (σ 1 6) (dcd t f k)) :: T2))) := by
  obtain ⟨hD1, hD2, hH1, hH2, hS, hC, hT, hR, hL, hQ⟩ := Ok_b O
  intro k
  induction k with
  | zero =>
    intro _ x hx f y16
    refine ⟨fun _ => 0, lN x, y16, fun l hl => absurd hl (Nat.not_lt_zero l), ?_, ?_⟩
    · have : x < 1 := hx
      rw [rk]
      omega
    · rw [nI_m1, dcd_0, eb_275_12]
      clear hW
      simp (disch := first | assumption | omega | exact st8_a (Nat.le_of_ble_eq_true rfl)) only [nI_ng, kl_a, kl_d, kl_f, kl_i, kl_l, kl_n, kl_r, xr_1, xr_10, xr_11, xr_115, xr_119, xr_12, xr_120, xr_121, xr_13, xr_14, xr_146, xr_147, xr_148, xr_149, xr_15, xr_150, xr_152, xr_153, xr_154, xr_156, xr_157, xr_175, xr_176, xr_177, xr_178, xr_179, xr_180, xr_181, xr_182, xr_183, xr_184, xr_185, xr_186, xr_187, xr_188, xr_189, xr_190, xr_191, xr_192, xr_193, xr_194, xr_195, xr_196, xr_197, xr_198, xr_199, xr_2, xr_200, xr_201, xr_202, xr_203, xr_204, xr_205, xr_206, xr_207, xr_208, xr_209, xr_210, xr_211, xr_212, xr_213, xr_214, xr_215, xr_216, xr_217, xr_218, xr_219, xr_220, xr_221, xr_222, xr_27, xr_3, xr_33, xr_34, xr_35, xr_36, xr_38, xr_4, xr_40, xr_44, xr_47, xr_5, xr_55, xr_64, xr_76, xr_77, xr_80, xr_81, xr_82, xr_83, xr_84, xr_91, xr_92, xr_93, xr_94, xr_95, xr_96, af_0, af_1, xt_goto, xt_ib, xt_ic, xt_ic_eq, xt_ic_ge, xt_ic_ne, xt_if_eq, xt_if_ge, xt_if_le, xt_if_lt, xt_if_ne, xt_ir, xt_nn_0, xt_nn_1, xt_nop, xt_nu_0, xt_nu_1, wF_0, wF_1, wF_2, wF_3, wF_4, wF_5, wF_6, wF_7, wF_8, wF_9, wF_10, wF_11, wF_12, wF_13, wP_9, wP_10, wL_5, wC_5, wC_17, wD, hw_app, hw_len, wA_1, wA_2, wA_3, wA_4, wA_5, wA_6, wA_7, wA_8, wA_17, wW_1, wW_2, wW_3, wW_4, wW_5, wW_6, wW_7, wW_8, wW_17, mF_8 (Mo_hw H), mA_63 (Mo_hw H), mA_64 (Mo_hw H), mA_65 (Mo_hw H), mA_66 (Mo_hw H), mA_67 (Mo_hw H), mA_68 (Mo_hw H), mA_69 (Mo_hw H), mA_70 (Mo_hw H), mA_71 (Mo_hw H), xq_177_12_virtual wy_c, xq_182_12_virtual wy_c, xq_183_12_virtual wy_c, xq_208_13_virtualm (Mo_hw H), xq_209_13_virtualm (Mo_hw H), xq_212_13_virtualm (Mo_hw H), xq_218_13_virtualm (Mo_hw H), xq_219_13_virtualm (Mo_hw H), xq_245_13_virtualm (Mo_hw H), xq_276_200_static, xq_277_200_static, iN_add, iN_mul, iN_sub, iN_and, iN_or, iN_clr, iN_shl, iN_shr, tb_r1, b1_z, b1_or, b1_and, b1_or0, b1_or1, b1_0or, b1_t, b1_f, iN_lt, iN_inj, reduceIte, if_true, if_false, Nat.zero_add, Nat.add_zero, Bool.false_eq_true, Bool.true_eq_false, Nat.lt_irrefl, iN_az, not_true_eq_false, not_false_eq_true, Nat.reduceEqDiff, Nat.reduceLT, Nat.reduceAdd, Nat.reduceMul, Nat.reduceSub]
  | succ k ih =>
    intro hk x hx f y16
    have hkL : k < (σ 1 6) := by omega
    have hk6 : k < 6 := by omega
    have em1 : nI (k + 1) - nI 1 = nI k := by rw [iN_sub (by omega), Nat.add_sub_cancel]
    have hp := pc_le 18 (bgn σ k)
    have hb := bgn_lt (l := k) O
    have e := fun h => s_277v (xs := xs) (d := d) (h := h) hb
    have hi := lN_i2l (a := pc 18 (bgn σ k)) (by omega)
    have hw1 := hW k hkL
    have hx31 := pr_31 O (show k + 1 ≤ 6 by omega)
    rw [pr] at hx
    have hc0 : 0 < pc 18 (bgn σ k) := by
      rcases Nat.eq_zero_or_pos (pc 18 (bgn σ k)) with h | h
      · rw [h, Nat.mul_zero] at hx
        omega
      · exact h
    rw [pr] at hx31
    have hx2 : x < 2147483648 := by omega
    have hd := pk_lDiv (a := x) (b := pc 18 (bgn σ k)) (by omega) hc0 (by omega)
    have hr := pk_lRem (a := x) (b := pc 18 (bgn σ k)) (by omega) hc0 (by omega)
    rw [hd] at hr
    have hml := Nat.mod_lt x hc0
    have hdl : x / pc 18 (bgn σ k) < pr σ k := (Nat.div_lt_iff_lt_mul hc0).mpr hx
    have hn0 : ¬ lN (pc 18 (bgn σ k)) = 0 := fun z => by
      have := (lN_eq (a := pc 18 (bgn σ k)) (b := 0) (by omega) (by decide)).mp z
      omega
    obtain ⟨v, v1, v2, v3, e2⟩ := m_276 (xs := xs) (d := d) (h := hw h0 (σ 1 6) W β (T0 ++ (oI (ar (σ 1 6) f) :: T2))) hb hml
    obtain ⟨t, x', y16', q1, q2, e3⟩ := ih (by omega) _ hdl (u1 f k v) (.int (nI (pc 18 (bgn σ k))))
    refine ⟨u1 t k v, x', y16', fun l hl => ?_, ?_, ?_⟩
    · by_cases h : l = k
      · rw [h, u1_s]; exact v2
      · rw [u1_n h]; exact q1 l (by omega)
    · have h5 : ∀ i, i ≤ k → rk σ (u1 t k v) i = rk σ t i := by
        intro i
        induction i with
        | zero => intro _; rfl
        | succ i ih2 => intro hi; rw [rk, rk, ih2 (by omega), u1_n (by omega)]
      rw [rk, h5 k (Nat.le_refl _), u1_s, q2, v3]
      exact Nat.div_add_mod' _ _
    · have h6 : dcd (u1 t k v) f (k + 1) = dcd t (u1 f k v) k := by
        have := dcd_s (t := u1 t k v) (f := f) (k := k)
        rw [u1_s] at this
        rw [← this]
        funext l
        unfold dcd
        by_cases h : l < k
        · rw [if_pos h, if_pos h, u1_n (by omega)]
        · rw [if_neg h, if_neg h]
      rw [h6, ← e3, em1, eb_275_12]
      clear ih e3 h6 q1 q2 v2 v3 hW hx hx31
      simp (disch := first | assumption | omega | exact st8_a (Nat.le_of_ble_eq_true rfl)) only [Nat.not_lt_zero, hkL, hw1, e, hi, xr_208 hn0, xr_210 hn0, hr, hd, lN_i, e2, hTs, eb_275_13, eb_275_14, eb_275_15, kl_a, kl_d, kl_f, kl_i, kl_l, kl_n, kl_r, xr_1, xr_10, xr_11, xr_115, xr_119, xr_12, xr_120, xr_121, xr_13, xr_14, xr_146, xr_147, xr_148, xr_149, xr_15, xr_150, xr_152, xr_153, xr_154, xr_156, xr_157, xr_175, xr_176, xr_177, xr_178, xr_179, xr_180, xr_181, xr_182, xr_183, xr_184, xr_185, xr_186, xr_187, xr_188, xr_189, xr_190, xr_191, xr_192, xr_193, xr_194, xr_195, xr_196, xr_197, xr_198, xr_199, xr_2, xr_200, xr_201, xr_202, xr_203, xr_204, xr_205, xr_206, xr_207, xr_208, xr_209, xr_210, xr_211, xr_212, xr_213, xr_214, xr_215, xr_216, xr_217, xr_218, xr_219, xr_220, xr_221, xr_222, xr_27, xr_3, xr_33, xr_34, xr_35, xr_36, xr_38, xr_4, xr_40, xr_44, xr_47, xr_5, xr_55, xr_64, xr_76, xr_77, xr_80, xr_81, xr_82, xr_83, xr_84, xr_91, xr_92, xr_93, xr_94, xr_95, xr_96, af_0, af_1, xt_goto, xt_ib, xt_ic, xt_ic_eq, xt_ic_ge, xt_ic_ne, xt_if_eq, xt_if_ge, xt_if_le, xt_if_lt, xt_if_ne, xt_ir, xt_nn_0, xt_nn_1, xt_nop, xt_nu_0, xt_nu_1, wF_0, wF_1, wF_2, wF_3, wF_4, wF_5, wF_6, wF_7, wF_8, wF_9, wF_10, wF_11, wF_12, wF_13, wP_9, wP_10, wL_5, wC_5, wC_17, wD, hw_app, hw_len, wA_1, wA_2, wA_3, wA_4, wA_5, wA_6, wA_7, wA_8, wA_17, wW_1, wW_2, wW_3, wW_4, wW_5, wW_6, wW_7, wW_8, wW_17, mF_8 (Mo_hw H), mA_63 (Mo_hw H), mA_64 (Mo_hw H), mA_65 (Mo_hw H), mA_66 (Mo_hw H), mA_67 (Mo_hw H), mA_68 (Mo_hw H), mA_69 (Mo_hw H), mA_70 (Mo_hw H), mA_71 (Mo_hw H), xq_177_12_virtual wy_c, xq_182_12_virtual wy_c, xq_183_12_virtual wy_c, xq_208_13_virtualm (Mo_hw H), xq_209_13_virtualm (Mo_hw H), xq_212_13_virtualm (Mo_hw H), xq_218_13_virtualm (Mo_hw H), xq_219_13_virtualm (Mo_hw H), xq_245_13_virtualm (Mo_hw H), xq_276_200_static, xq_277_200_static, iN_add, iN_mul, iN_and, iN_or, iN_clr, iN_shl, iN_shr, tb_r1, b1_z, b1_or, b1_and, b1_or0, b1_or1, b1_0or, b1_t, b1_f, iN_lt, iN_inj, reduceIte, if_true, if_false, Nat.zero_add, Nat.add_zero, Bool.false_eq_true, Bool.true_eq_false, Nat.lt_irrefl, iN_az, not_true_eq_false, not_false_eq_true, Nat.reduceEqDiff, Nat.reduceLT, Nat.reduceAdd, Nat.reduceMul, Nat.reduceSub]
/-- what the walk through all tables keeps -/
def EIV (σ W : Nat → Nat → Nat) (len m n : Nat) (x7 : Value) (x8 : Nat) (T2 : ab_H) : Prop :=
  (x7 = .null ∧ T2 = [] ∧ x8 = 2147483647 ∧ ∀ t, PA σ W (σ 1 6) t → ¬ rk σ t (σ 1 6) < n) ∨ ∃ t0, x7 = .ref (len + (18 + (m + 1))) ∧ T2 = [oI (ar (σ 1 6) t0)] ∧ PA σ W (σ 1 6) t0 ∧ (∀ t, PA σ W (σ 1 6) t → rk σ t0 (σ 1 6) ≤ rk σ t (σ 1 6)) ∧ ∃ t1, PA σ W (σ 1 6) t1 ∧ x8 = wtt σ t1
set_option maxRecDepth 100000 in
theorem m_275b (O : Ok σ) (H : Mo σ μ ν h0) (hWT : WT σ (alr σ) (σ 1 7) 4294967295 0 W) (hcore : (KB σ 4294967295 0 (alr σ) ∧ c = 4294967295) ∨ (¬ KB σ 4294967295 0 (alr σ) ∧ c < 1024 ∧ ST σ 4294967295 0 (σ 1 7) (alr σ) c)) (hZ : T0[i]? = some (oI (ar 6 g))) (hg : ∀ l, l < (σ 1 6) → g l < 262144) (hgt : ∀ t, PA σ W (σ 1 6) t → ∀ l, l < (σ 1 6) → (g l).testBit (t l) = true) (ht : ENt σ (σ 1 6) t) {K : Nat → Nat → Nat} (hn : rk σ t (σ 1 6) = n) {x7 y13 y16 y17 : Value} {lp1 : Int64} (hI : EIV σ W h0.length T0.length n x7 z T2) : ∃ x7' z' T2' y15 y16' y17', ev xs (d + 6) 275 16 ([.ref 62, .ref h0.length, .long lp1, .retAddr 9, .ref (h0.length + (18 + i)), .int (nI c), .ref (h0.length + (18 + T0.length)), x7, .int (nI z), .int (nI 0), .int (nI 0), .long (lN n), .retAddr 9, y13, .retAddr 9, .int (nI 4294967295), y16, y17], [], hw h0 (σ 1 6) K β (T0 ++ (oI (ar (σ 1 6) t) :: T2))) = ev xs (d + 6) 275 10 ([.ref 62, .ref h0.length, .long lp1, .retAddr 9, .ref (h0.length + (18 + i)), .int (nI c), .ref (h0.length + (18 + T0.length)), x7', .int (nI z'), .int (nI 0), .int (nI 0), .long (lN (n + 1)), .retAddr 9, y13, .retAddr 9, .int y15, .int y16', y17'], [], hw h0 (σ 1 6) K β (T0 ++ (oI (ar (σ 1 6) t) :: T2'))) ∧ EIV σ W h0.length T0.length (n + 1) x7' z' T2' := by
  obtain ⟨hD1, hD2, hH1, hH2, hS, hC, hT, hR, hL, hQ⟩ := Ok_b O
  have hbt : ∀ l, l < (σ 1 6) → t l < (σ 1 2) * (σ 1 5) := fun l hl => (bgn_t.mp (ht l hl)).1
  have hq : ∀ T2, (hw h0 (σ 1 6) K β (T0 ++ (oI (ar (σ 1 6) t) :: T2)))[h0.length + (18 + T0.length)]? = some (oI (ar (σ 1 6) t)) := fun T2 => hw_T.trans gt_mid
  have e1 := fun T2 => m_209 (xs := xs) (d := d + 1) O (Mo_hw H) (hq T2) hL (Nat.le_refl _) hbt
  have e2 := fun T2 => m_208 (xs := xs) (d := d) O (Mo_hw H) (hq T2) hL (Nat.le_refl _) hbt
  have e3 := fun T2 => m_212 (xs := xs) (d := d + 1) O (Mo_hw H) (hq T2) hL (Nat.le_refl _) hbt
  have hbl := brk_lt O (fun l => t l / (σ 1 5)) fun l => t l % (σ 1 5)
  have hfl := flt_lt O (fun l => t l / (σ 1 5)) fun l => t l % (σ 1 5)
  have hwl : wt σ (fun l => t l / (σ 1 5)) (fun l => t l % (σ 1 5)) < 1000 := wt_lt O fun l hl => (vb O (hbt l hl)).2.1
  have hnb : ¬ PA σ W (σ 1 6) t → EIV σ W h0.length T0.length (n + 1) x7 z T2 := fun hno => by
    rcases hI with ⟨h1, h2, h3, h4⟩ | h
    · refine .inl ⟨h1, h2, h3, fun s hs hlt => ?_⟩
      have hs2 := PA_EN O hWT hs
      by_cases e : rk σ s (σ 1 6) = n
      · have : AT (σ 1 6) s t := by
          rcases TX_tr (n := (σ 1 6)) (t := s) (s := t) with h | h | h
          · have := rk_mo O (σ 1 6) hs2 ht h
            omega
          · have := rk_mo O (σ 1 6) ht hs2 h
            omega
          · exact h
        exact hno (PA_cg this hs)
      · exact h4 s hs (by omega)
    · exact .inr h
  have hla : lN n + lN 1 = lN (n + 1) := lN_add n 1
  have hl1 : (1 : Int64) = lN 1 := rfl
  by_cases hf : flt σ (fun l => t l / (σ 1 5)) (fun l => t l % (σ 1 5)) = 0
  · have hcc : ¬ c = 4294967295 → ¬ brk σ (fun l => t l / (σ 1 5)) (fun l => t l % (σ 1 5)) &&& c = 0 := fun hc hbc => by
      rcases hcore with ⟨-, h2⟩ | ⟨h1, h2, h3⟩
      · exact hc h2
      · refine ST_no (σ 1 7) _ _ h3 h1 ⟨fun l => t l / (σ 1 5), fun l => t l % (σ 1 5), ⟨fun l hl => ⟨(vb O (hbt l hl)).2.1, (vb O (hbt l hl)).2.2.1⟩, hf, fun q hq hb => ?_⟩, .inl rfl⟩
        cases hk : kpq σ (fun l => t l / (σ 1 5)) (fun l => t l % (σ 1 5)) q
        · have : (brk σ (fun l => t l / (σ 1 5)) (fun l => t l % (σ 1 5)) &&& c).testBit q = true := by
            rw [Nat.testBit_and, hb, Bool.and_true]
            unfold brk
            rw [en_tb, decide_eq_true hq, hk]
            rfl
          rw [hbc, Nat.zero_testBit] at this
          cases this
        · rfl
    have hc32 : c < 4294967296 := by
      rcases hcore with ⟨-, h2⟩ | ⟨-, h2, -⟩ <;> omega
    rw [hf] at e1
    have st : ev xs (d + 6) 275 16 ([.ref 62, .ref h0.length, .long lp1, .retAddr 9, .ref (h0.length + (18 + i)), .int (nI c), .ref (h0.length + (18 + T0.length)), x7, .int (nI z), .int (nI 0), .int (nI 0), .long (lN n), .retAddr 9, y13, .retAddr 9, .int (nI 4294967295), y16, y17], [], hw h0 (σ 1 6) K β (T0 ++ (oI (ar (σ 1 6) t) :: T2))) = ev xs (d + 6) 275 28 ([.ref 62, .ref h0.length, .long lp1, .retAddr 9, .ref (h0.length + (18 + i)), .int (nI c), .ref (h0.length + (18 + T0.length)), x7, .int (nI z), .int (nI 0), .int (nI 0), .long (lN n), .retAddr 9, y13, .retAddr 9, .int (nI 1), .int (nI (brk σ (fun l => t l / (σ 1 5)) (fun l => t l % (σ 1 5)))), y17], [], hw h0 (σ 1 6) K β (T0 ++ (oI (ar (σ 1 6) t) :: T2))) := by
      clear hnb hI hgt hg hZ hq e3 hWT
      by_cases hc : c = 4294967295
      · clear hcc hcore
        simp (disch := first | assumption | omega | exact st8_a (Nat.le_of_ble_eq_true rfl)) only [e1, e2, eq_true hc, eb_275_16, eb_275_17, eb_275_18, eb_275_20, eb_275_21, eb_275_22, eb_275_23, eb_275_26, eb_275_27, kl_a, kl_d, kl_f, kl_i, kl_l, kl_n, kl_r, xr_1, xr_10, xr_11, xr_115, xr_119, xr_12, xr_120, xr_121, xr_13, xr_14, xr_146, xr_147, xr_148, xr_149, xr_15, xr_150, xr_152, xr_153, xr_154, xr_156, xr_157, xr_175, xr_176, xr_177, xr_178, xr_179, xr_180, xr_181, xr_182, xr_183, xr_184, xr_185, xr_186, xr_187, xr_188, xr_189, xr_190, xr_191, xr_192, xr_193, xr_194, xr_195, xr_196, xr_197, xr_198, xr_199, xr_2, xr_200, xr_201, xr_202, xr_203, xr_204, xr_205, xr_206, xr_207, xr_208, xr_209, xr_210, xr_211, xr_212, xr_213, xr_214, xr_215, xr_216, xr_217, xr_218, xr_219, xr_220, xr_221, xr_222, xr_27, xr_3, xr_33, xr_34, xr_35, xr_36, xr_38, xr_4, xr_40, xr_44, xr_47, xr_5, xr_55, xr_64, xr_76, xr_77, xr_80, xr_81, xr_82, xr_83, xr_84, xr_91, xr_92, xr_93, xr_94, xr_95, xr_96, af_0, af_1, xt_goto, xt_ib, xt_ic, xt_ic_eq, xt_ic_ge, xt_ic_ne, xt_if_eq, xt_if_ge, xt_if_le, xt_if_lt, xt_if_ne, xt_ir, xt_nn_0, xt_nn_1, xt_nop, xt_nu_0, xt_nu_1, wF_0, wF_1, wF_2, wF_3, wF_4, wF_5, wF_6, wF_7, wF_8, wF_9, wF_10, wF_11, wF_12, wF_13, wP_9, wP_10, wL_5, wC_5, wC_17, wD, hw_app, hw_len, wA_1, wA_2, wA_3, wA_4, wA_5, wA_6, wA_7, wA_8, wA_17, wW_1, wW_2, wW_3, wW_4, wW_5, wW_6, wW_7, wW_8, wW_17, mF_8 (Mo_hw H), mA_63 (Mo_hw H), mA_64 (Mo_hw H), mA_65 (Mo_hw H), mA_66 (Mo_hw H), mA_67 (Mo_hw H), mA_68 (Mo_hw H), mA_69 (Mo_hw H), mA_70 (Mo_hw H), mA_71 (Mo_hw H), xq_177_12_virtual wy_c, xq_182_12_virtual wy_c, xq_183_12_virtual wy_c, xq_208_13_virtualm (Mo_hw H), xq_209_13_virtualm (Mo_hw H), xq_212_13_virtualm (Mo_hw H), xq_218_13_virtualm (Mo_hw H), xq_219_13_virtualm (Mo_hw H), xq_245_13_virtualm (Mo_hw H), xq_276_200_static, xq_277_200_static, iN_add, iN_mul, iN_sub, iN_and, iN_or, iN_clr, iN_shl, iN_shr, tb_r1, b1_z, b1_or, b1_and, b1_or0, b1_or1, b1_0or, b1_t, b1_f, iN_lt, iN_inj, reduceIte, if_true, if_false, Nat.zero_add, Nat.add_zero, Bool.false_eq_true, Bool.true_eq_false, Nat.lt_irrefl, iN_az, not_true_eq_false, not_false_eq_true, Nat.reduceEqDiff, Nat.reduceLT, Nat.reduceAdd, Nat.reduceMul, Nat.reduceSub]
      · have hc2 := hcc hc
        have hc3 : c < 2147483648 := by
          rcases hcore with ⟨-, h2⟩ | ⟨-, h2, -⟩ <;> omega
        clear hcc hcore
        simp (disch := first | assumption | omega | exact st8_a (Nat.le_of_ble_eq_true rfl)) only [e1, e2, hc, hc2, eb_275_16, eb_275_17, eb_275_18, eb_275_20, eb_275_21, eb_275_22, eb_275_23, eb_275_24, eb_275_26, eb_275_27, kl_a, kl_d, kl_f, kl_i, kl_l, kl_n, kl_r, xr_1, xr_10, xr_11, xr_115, xr_119, xr_12, xr_120, xr_121, xr_13, xr_14, xr_146, xr_147, xr_148, xr_149, xr_15, xr_150, xr_152, xr_153, xr_154, xr_156, xr_157, xr_175, xr_176, xr_177, xr_178, xr_179, xr_180, xr_181, xr_182, xr_183, xr_184, xr_185, xr_186, xr_187, xr_188, xr_189, xr_190, xr_191, xr_192, xr_193, xr_194, xr_195, xr_196, xr_197, xr_198, xr_199, xr_2, xr_200, xr_201, xr_202, xr_203, xr_204, xr_205, xr_206, xr_207, xr_208, xr_209, xr_210, xr_211, xr_212, xr_213, xr_214, xr_215, xr_216, xr_217, xr_218, xr_219, xr_220, xr_221, xr_222, xr_27, xr_3, xr_33, xr_34, xr_35, xr_36, xr_38, xr_4, xr_40, xr_44, xr_47, xr_5, xr_55, xr_64, xr_76, xr_77, xr_80, xr_81, xr_82, xr_83, xr_84, xr_91, xr_92, xr_93, xr_94, xr_95, xr_96, af_0, af_1, xt_goto, xt_ib, xt_ic, xt_ic_eq, xt_ic_ge, xt_ic_ne, xt_if_eq, xt_if_ge, xt_if_le, xt_if_lt, xt_if_ne, xt_ir, xt_nn_0, xt_nn_1, xt_nop, xt_nu_0, xt_nu_1, wF_0, wF_1, wF_2, wF_3, wF_4, wF_5, wF_6, wF_7, wF_8, wF_9, wF_10, wF_11, wF_12, wF_13, wP_9, wP_10, wL_5, wC_5, wC_17, wD, hw_app, hw_len, wA_1, wA_2, wA_3, wA_4, wA_5, wA_6, wA_7, wA_8, wA_17, wW_1, wW_2, wW_3, wW_4, wW_5, wW_6, wW_7, wW_8, wW_17, mF_8 (Mo_hw H), mA_63 (Mo_hw H), mA_64 (Mo_hw H), mA_65 (Mo_hw H), mA_66 (Mo_hw H), mA_67 (Mo_hw H), mA_68 (Mo_hw H), mA_69 (Mo_hw H), mA_70 (Mo_hw H), mA_71 (Mo_hw H), xq_177_12_virtual wy_c, xq_182_12_virtual wy_c, xq_183_12_virtual wy_c, xq_208_13_virtualm (Mo_hw H), xq_209_13_virtualm (Mo_hw H), xq_212_13_virtualm (Mo_hw H), xq_218_13_virtualm (Mo_hw H), xq_219_13_virtualm (Mo_hw H), xq_245_13_virtualm (Mo_hw H), xq_276_200_static, xq_277_200_static, iN_add, iN_mul, iN_sub, iN_and, iN_or, iN_clr, iN_shl, iN_shr, tb_r1, b1_z, b1_or, b1_and, b1_or0, b1_or1, b1_0or, b1_t, b1_f, iN_lt, iN_inj, reduceIte, if_true, if_false, Nat.zero_add, Nat.add_zero, Bool.false_eq_true, Bool.true_eq_false, Nat.lt_irrefl, iN_az, not_true_eq_false, not_false_eq_true, Nat.reduceEqDiff, Nat.reduceLT, Nat.reduceAdd, Nat.reduceMul, Nat.reduceSub]
    rw [st]
    clear st
    by_cases hb : brk σ (fun l => t l / (σ 1 5)) (fun l => t l % (σ 1 5)) = 0
    · have hP : PA σ W (σ 1 6) t := by
        refine (PA_Gd O hWT).mpr ⟨hbt, ⟨fun l hl => ⟨(vb O (hbt l hl)).2.1, (vb O (hbt l hl)).2.2.1⟩, hf, fun q hq _ => ?_⟩, .inl rfl⟩
        cases hk : kpq σ (fun l => t l / (σ 1 5)) (fun l => t l % (σ 1 5)) q
        · have : (brk σ (fun l => t l / (σ 1 5)) (fun l => t l % (σ 1 5))).testBit q = true := by
            unfold brk
            rw [en_tb, decide_eq_true hq, hk]
            rfl
          rw [hb, Nat.zero_testBit] at this
          cases this
        · rfl
      have k36 : ∀ (x7 : Value) (z : Nat) (T2 : ab_H) l, l ≤ (σ 1 6) → ev xs (d + 6) 275 36 ([.ref 62, .ref h0.length, .long lp1, .retAddr 9, .ref (h0.length + (18 + i)), .int (nI c), .ref (h0.length + (18 + T0.length)), x7, .int (nI z), .int (nI 0), .int (nI 0), .long (lN n), .retAddr 9, y13, .retAddr 9, .int (nI 1), .int (nI 0), .int (nI l)], [], hw h0 (σ 1 6) K β (T0 ++ (oI (ar (σ 1 6) t) :: T2))) = ev xs (d + 6) 275 10 ([.ref 62, .ref h0.length, .long lp1, .retAddr 9, .ref (h0.length + (18 + i)), .int (nI c), .ref (h0.length + (18 + T0.length)), x7, .int (nI z), .int (nI 0), .int (nI 0), .long (lN (n + 1)), .retAddr 9, y13, .retAddr 9, .int (nI 1), .int (nI 0), .int (nI (σ 1 6))], [], hw h0 (σ 1 6) K β (T0 ++ (oI (ar (σ 1 6) t) :: T2))) := by
        intro x7 z T2
        refine lp (σ 1 6) ?_ ?_
        · rw [← hla, eb_275_36]
          clear hcc hcore hnb hI hgt hg hZ hq e1 e2 e3 hWT hP
          simp (disch := first | assumption | omega | exact st8_a (Nat.le_of_ble_eq_true rfl)) only [hl1, eb_275_42, kl_a, kl_d, kl_f, kl_i, kl_l, kl_n, kl_r, xr_1, xr_10, xr_11, xr_115, xr_119, xr_12, xr_120, xr_121, xr_13, xr_14, xr_146, xr_147, xr_148, xr_149, xr_15, xr_150, xr_152, xr_153, xr_154, xr_156, xr_157, xr_175, xr_176, xr_177, xr_178, xr_179, xr_180, xr_181, xr_182, xr_183, xr_184, xr_185, xr_186, xr_187, xr_188, xr_189, xr_190, xr_191, xr_192, xr_193, xr_194, xr_195, xr_196, xr_197, xr_198, xr_199, xr_2, xr_200, xr_201, xr_202, xr_203, xr_204, xr_205, xr_206, xr_207, xr_208, xr_209, xr_210, xr_211, xr_212, xr_213, xr_214, xr_215, xr_216, xr_217, xr_218, xr_219, xr_220, xr_221, xr_222, xr_27, xr_3, xr_33, xr_34, xr_35, xr_36, xr_38, xr_4, xr_40, xr_44, xr_47, xr_5, xr_55, xr_64, xr_76, xr_77, xr_80, xr_81, xr_82, xr_83, xr_84, xr_91, xr_92, xr_93, xr_94, xr_95, xr_96, af_0, af_1, xt_goto, xt_ib, xt_ic, xt_ic_eq, xt_ic_ge, xt_ic_ne, xt_if_eq, xt_if_ge, xt_if_le, xt_if_lt, xt_if_ne, xt_ir, xt_nn_0, xt_nn_1, xt_nop, xt_nu_0, xt_nu_1, wF_0, wF_1, wF_2, wF_3, wF_4, wF_5, wF_6, wF_7, wF_8, wF_9, wF_10, wF_11, wF_12, wF_13, wP_9, wP_10, wL_5, wC_5, wC_17, wD, hw_app, hw_len, wA_1, wA_2, wA_3, wA_4, wA_5, wA_6, wA_7, wA_8, wA_17, wW_1, wW_2, wW_3, wW_4, wW_5, wW_6, wW_7, wW_8, wW_17, mF_8 (Mo_hw H), mA_63 (Mo_hw H), mA_64 (Mo_hw H), mA_65 (Mo_hw H), mA_66 (Mo_hw H), mA_67 (Mo_hw H), mA_68 (Mo_hw H), mA_69 (Mo_hw H), mA_70 (Mo_hw H), mA_71 (Mo_hw H), xq_177_12_virtual wy_c, xq_182_12_virtual wy_c, xq_183_12_virtual wy_c, xq_208_13_virtualm (Mo_hw H), xq_209_13_virtualm (Mo_hw H), xq_212_13_virtualm (Mo_hw H), xq_218_13_virtualm (Mo_hw H), xq_219_13_virtualm (Mo_hw H), xq_245_13_virtualm (Mo_hw H), xq_276_200_static, xq_277_200_static, iN_add, iN_mul, iN_sub, iN_and, iN_or, iN_clr, iN_shl, iN_shr, tb_r1, b1_z, b1_or, b1_and, b1_or0, b1_or1, b1_0or, b1_t, b1_f, iN_lt, iN_inj, reduceIte, if_true, if_false, Nat.zero_add, Nat.add_zero, Bool.false_eq_true, Bool.true_eq_false, Nat.lt_irrefl, iN_az, not_true_eq_false, not_false_eq_true, Nat.reduceEqDiff, Nat.reduceLT, Nat.reduceAdd, Nat.reduceMul, Nat.reduceSub]
        · intro l hl ih
          have q1 : (T0 ++ (oI (ar (σ 1 6) t) :: T2))[i]? = _ := gt_ap hZ
          have q2 : (T0 ++ (oI (ar (σ 1 6) t) :: T2))[T0.length]? = some (oI (ar (σ 1 6) t)) := gt_mid
          have hl6 : l < 6 := by omega
          have b1' := hgt t hP l hl
          have b2' := hg l hl
          have b3' := hbt l hl
          have b4' := vle O
          rw [← ih, eb_275_36]
          clear ih hcc hcore hnb hI hgt hg hZ hq e1 e2 e3 hWT hP
          simp (disch := first | assumption | omega | exact st8_a (Nat.le_of_ble_eq_true rfl)) only [hl, hTl q1, hTl q2, b1', eb_275_37, eb_275_38, eb_275_40, eb_275_41, kl_a, kl_d, kl_f, kl_i, kl_l, kl_n, kl_r, xr_1, xr_10, xr_11, xr_115, xr_119, xr_12, xr_120, xr_121, xr_13, xr_14, xr_146, xr_147, xr_148, xr_149, xr_15, xr_150, xr_152, xr_153, xr_154, xr_156, xr_157, xr_175, xr_176, xr_177, xr_178, xr_179, xr_180, xr_181, xr_182, xr_183, xr_184, xr_185, xr_186, xr_187, xr_188, xr_189, xr_190, xr_191, xr_192, xr_193, xr_194, xr_195, xr_196, xr_197, xr_198, xr_199, xr_2, xr_200, xr_201, xr_202, xr_203, xr_204, xr_205, xr_206, xr_207, xr_208, xr_209, xr_210, xr_211, xr_212, xr_213, xr_214, xr_215, xr_216, xr_217, xr_218, xr_219, xr_220, xr_221, xr_222, xr_27, xr_3, xr_33, xr_34, xr_35, xr_36, xr_38, xr_4, xr_40, xr_44, xr_47, xr_5, xr_55, xr_64, xr_76, xr_77, xr_80, xr_81, xr_82, xr_83, xr_84, xr_91, xr_92, xr_93, xr_94, xr_95, xr_96, af_0, af_1, xt_goto, xt_ib, xt_ic, xt_ic_eq, xt_ic_ge, xt_ic_ne, xt_if_eq, xt_if_ge, xt_if_le, xt_if_lt, xt_if_ne, xt_ir, xt_nn_0, xt_nn_1, xt_nop, xt_nu_0, xt_nu_1, wF_0, wF_1, wF_2, wF_3, wF_4, wF_5, wF_6, wF_7, wF_8, wF_9, wF_10, wF_11, wF_12, wF_13, wP_9, wP_10, wL_5, wC_5, wC_17, wD, hw_app, hw_len, wA_1, wA_2, wA_3, wA_4, wA_5, wA_6, wA_7, wA_8, wA_17, wW_1, wW_2, wW_3, wW_4, wW_5, wW_6, wW_7, wW_8, wW_17, mF_8 (Mo_hw H), mA_63 (Mo_hw H), mA_64 (Mo_hw H), mA_65 (Mo_hw H), mA_66 (Mo_hw H), mA_67 (Mo_hw H), mA_68 (Mo_hw H), mA_69 (Mo_hw H), mA_70 (Mo_hw H), mA_71 (Mo_hw H), xq_177_12_virtual wy_c, xq_182_12_virtual wy_c, xq_183_12_virtual wy_c, xq_208_13_virtualm (Mo_hw H), xq_209_13_virtualm (Mo_hw H), xq_212_13_virtualm (Mo_hw H), xq_218_13_virtualm (Mo_hw H), xq_219_13_virtualm (Mo_hw H), xq_245_13_virtualm (Mo_hw H), xq_276_200_static, xq_277_200_static, iN_add, iN_mul, iN_sub, iN_and, iN_or, iN_clr, iN_shl, iN_shr, tb_r1, b1_z, b1_or, b1_and, b1_or0, b1_or1, b1_0or, b1_t, b1_f, iN_lt, iN_inj, reduceIte, if_true, if_false, Nat.zero_add, Nat.add_zero, Bool.false_eq_true, Bool.true_eq_false, Nat.lt_irrefl, iN_az, not_true_eq_false, not_false_eq_true, Nat.reduceEqDiff, Nat.reduceLT, Nat.reduceAdd, Nat.reduceMul, Nat.reduceSub]
      rcases hI with ⟨h1, h2, h3, h4⟩ | ⟨t0, h1, h2, h3, h4, t1, h5, h6⟩
      · have ec := m_182 (xs := xs) (d := d + 5) (W := K) (β := β) (T := T0 ++ (oI (ar (σ 1 6) t) :: [])) O H (hq [])
        rw [show (T0 ++ (oI (ar (σ 1 6) t) :: [])).length = T0.length + 1 by rw [List.length_append]; rfl, List.append_assoc, List.cons_append, List.nil_append] at ec
        refine ⟨.ref (h0.length + (18 + (T0.length + 1))), wtt σ t, [oI (ar (σ 1 6) t)], nI 1, nI 0, .int (nI (σ 1 6)), ?_, .inr ⟨t, rfl, rfl, hP, fun s hs => ?_, t, hP, rfl⟩⟩
        · have hmin : min 2147483647 (wt σ (fun l => t l / (σ 1 5)) (fun l => t l % (σ 1 5))) = wt σ (fun l => t l / (σ 1 5)) (fun l => t l % (σ 1 5)) := Nat.min_eq_right (by omega)
          subst h1
          subst h2
          subst h3
          rw [← k36 _ _ _ 0 (Nat.zero_le _), hb]
          show _ = ev xs (d + 6) 275 36 ([.ref 62, .ref h0.length, .long lp1, .retAddr 9, .ref (h0.length + (18 + i)), .int (nI c), .ref (h0.length + (18 + T0.length)), .ref (h0.length + (18 + (T0.length + 1))), .int (nI (wt σ (fun l => t l / (σ 1 5)) (fun l => t l % (σ 1 5)))), .int (nI 0), .int (nI 0), .long (lN n), .retAddr 9, y13, .retAddr 9, .int (nI 1), .int (nI 0), .int (nI 0)], [], hw h0 (σ 1 6) K β (T0 ++ (oI (ar (σ 1 6) t) :: [oI (ar (σ 1 6) t)])))
          have e3' := e3 [oI (ar (σ 1 6) t)]
          clear k36 hcc hcore hnb hgt hg hZ hq e1 e2 e3 hWT hP h4
          simp (disch := first | assumption | omega | exact st8_a (Nat.le_of_ble_eq_true rfl)) only [ec, e3', hmin, eb_275_28, eb_275_30, eb_275_31, eb_275_32, eb_275_34, eb_275_35, kl_a, kl_d, kl_f, kl_i, kl_l, kl_n, kl_r, xr_1, xr_10, xr_11, xr_115, xr_119, xr_12, xr_120, xr_121, xr_13, xr_14, xr_146, xr_147, xr_148, xr_149, xr_15, xr_150, xr_152, xr_153, xr_154, xr_156, xr_157, xr_175, xr_176, xr_177, xr_178, xr_179, xr_180, xr_181, xr_182, xr_183, xr_184, xr_185, xr_186, xr_187, xr_188, xr_189, xr_190, xr_191, xr_192, xr_193, xr_194, xr_195, xr_196, xr_197, xr_198, xr_199, xr_2, xr_200, xr_201, xr_202, xr_203, xr_204, xr_205, xr_206, xr_207, xr_208, xr_209, xr_210, xr_211, xr_212, xr_213, xr_214, xr_215, xr_216, xr_217, xr_218, xr_219, xr_220, xr_221, xr_222, xr_27, xr_3, xr_33, xr_34, xr_35, xr_36, xr_38, xr_4, xr_40, xr_44, xr_47, xr_5, xr_55, xr_64, xr_76, xr_77, xr_80, xr_81, xr_82, xr_83, xr_84, xr_91, xr_92, xr_93, xr_94, xr_95, xr_96, af_0, af_1, xt_goto, xt_ib, xt_ic, xt_ic_eq, xt_ic_ge, xt_ic_ne, xt_if_eq, xt_if_ge, xt_if_le, xt_if_lt, xt_if_ne, xt_ir, xt_nn_0, xt_nn_1, xt_nop, xt_nu_0, xt_nu_1, wF_0, wF_1, wF_2, wF_3, wF_4, wF_5, wF_6, wF_7, wF_8, wF_9, wF_10, wF_11, wF_12, wF_13, wP_9, wP_10, wL_5, wC_5, wC_17, wD, hw_app, hw_len, wA_1, wA_2, wA_3, wA_4, wA_5, wA_6, wA_7, wA_8, wA_17, wW_1, wW_2, wW_3, wW_4, wW_5, wW_6, wW_7, wW_8, wW_17, mF_8 (Mo_hw H), mA_63 (Mo_hw H), mA_64 (Mo_hw H), mA_65 (Mo_hw H), mA_66 (Mo_hw H), mA_67 (Mo_hw H), mA_68 (Mo_hw H), mA_69 (Mo_hw H), mA_70 (Mo_hw H), mA_71 (Mo_hw H), xq_177_12_virtual wy_c, xq_182_12_virtual wy_c, xq_183_12_virtual wy_c, xq_208_13_virtualm (Mo_hw H), xq_209_13_virtualm (Mo_hw H), xq_212_13_virtualm (Mo_hw H), xq_218_13_virtualm (Mo_hw H), xq_219_13_virtualm (Mo_hw H), xq_245_13_virtualm (Mo_hw H), xq_276_200_static, xq_277_200_static, iN_add, iN_mul, iN_sub, iN_and, iN_or, iN_clr, iN_shl, iN_shr, tb_r1, b1_z, b1_or, b1_and, b1_or0, b1_or1, b1_0or, b1_t, b1_f, iN_lt, iN_inj, reduceIte, if_true, if_false, Nat.zero_add, Nat.add_zero, Bool.false_eq_true, Bool.true_eq_false, Nat.lt_irrefl, iN_az, not_true_eq_false, not_false_eq_true, Nat.reduceEqDiff, Nat.reduceLT, Nat.reduceAdd, Nat.reduceMul, Nat.reduceSub]
        · have := h4 s hs
          omega
      · refine ⟨x7, min z (wtt σ t), T2, nI 1, nI 0, .int (nI (σ 1 6)), ?_, .inr ⟨t0, h1, h2, h3, h4, ?_⟩⟩
        · have hz : z < 1000 := by
            obtain ⟨w1, w2, -⟩ := (PA_Gd O hWT).mp h5
            rw [h6]
            exact wt_lt O fun l hl => (vb O (w1 l hl)).2.1
          subst h1
          rw [← k36 _ _ _ 0 (Nat.zero_le _), hb]
          show _ = ev xs (d + 6) 275 36 ([.ref 62, .ref h0.length, .long lp1, .retAddr 9, .ref (h0.length + (18 + i)), .int (nI c), .ref (h0.length + (18 + T0.length)), .ref (h0.length + (18 + (T0.length + 1))), .int (nI (min z (wt σ (fun l => t l / (σ 1 5)) (fun l => t l % (σ 1 5))))), .int (nI 0), .int (nI 0), .long (lN n), .retAddr 9, y13, .retAddr 9, .int (nI 1), .int (nI 0), .int (nI 0)], [], hw h0 (σ 1 6) K β (T0 ++ (oI (ar (σ 1 6) t) :: T2)))
          have e3' := e3 T2
          clear k36 hcc hcore hnb hgt hg hZ hq e1 e2 e3 hWT hP h3 h4 h5 h6
          simp (disch := first | assumption | omega | exact st8_a (Nat.le_of_ble_eq_true rfl)) only [e3', eb_275_28, eb_275_30, eb_275_33, eb_275_34, eb_275_35, kl_a, kl_d, kl_f, kl_i, kl_l, kl_n, kl_r, xr_1, xr_10, xr_11, xr_115, xr_119, xr_12, xr_120, xr_121, xr_13, xr_14, xr_146, xr_147, xr_148, xr_149, xr_15, xr_150, xr_152, xr_153, xr_154, xr_156, xr_157, xr_175, xr_176, xr_177, xr_178, xr_179, xr_180, xr_181, xr_182, xr_183, xr_184, xr_185, xr_186, xr_187, xr_188, xr_189, xr_190, xr_191, xr_192, xr_193, xr_194, xr_195, xr_196, xr_197, xr_198, xr_199, xr_2, xr_200, xr_201, xr_202, xr_203, xr_204, xr_205, xr_206, xr_207, xr_208, xr_209, xr_210, xr_211, xr_212, xr_213, xr_214, xr_215, xr_216, xr_217, xr_218, xr_219, xr_220, xr_221, xr_222, xr_27, xr_3, xr_33, xr_34, xr_35, xr_36, xr_38, xr_4, xr_40, xr_44, xr_47, xr_5, xr_55, xr_64, xr_76, xr_77, xr_80, xr_81, xr_82, xr_83, xr_84, xr_91, xr_92, xr_93, xr_94, xr_95, xr_96, af_0, af_1, xt_goto, xt_ib, xt_ic, xt_ic_eq, xt_ic_ge, xt_ic_ne, xt_if_eq, xt_if_ge, xt_if_le, xt_if_lt, xt_if_ne, xt_ir, xt_nn_0, xt_nn_1, xt_nop, xt_nu_0, xt_nu_1, wF_0, wF_1, wF_2, wF_3, wF_4, wF_5, wF_6, wF_7, wF_8, wF_9, wF_10, wF_11, wF_12, wF_13, wP_9, wP_10, wL_5, wC_5, wC_17, wD, hw_app, hw_len, wA_1, wA_2, wA_3, wA_4, wA_5, wA_6, wA_7, wA_8, wA_17, wW_1, wW_2, wW_3, wW_4, wW_5, wW_6, wW_7, wW_8, wW_17, mF_8 (Mo_hw H), mA_63 (Mo_hw H), mA_64 (Mo_hw H), mA_65 (Mo_hw H), mA_66 (Mo_hw H), mA_67 (Mo_hw H), mA_68 (Mo_hw H), mA_69 (Mo_hw H), mA_70 (Mo_hw H), mA_71 (Mo_hw H), xq_177_12_virtual wy_c, xq_182_12_virtual wy_c, xq_183_12_virtual wy_c, xq_208_13_virtualm (Mo_hw H), xq_209_13_virtualm (Mo_hw H), xq_212_13_virtualm (Mo_hw H), xq_218_13_virtualm (Mo_hw H), xq_219_13_virtualm (Mo_hw H), xq_245_13_virtualm (Mo_hw H), xq_276_200_static, xq_277_200_static, iN_add, iN_mul, iN_sub, iN_and, iN_or, iN_clr, iN_shl, iN_shr, tb_r1, b1_z, b1_or, b1_and, b1_or0, b1_or1, b1_0or, b1_t, b1_f, iN_lt, iN_inj, reduceIte, if_true, if_false, Nat.zero_add, Nat.add_zero, Bool.false_eq_true, Bool.true_eq_false, Nat.lt_irrefl, iN_az, not_true_eq_false, not_false_eq_true, Nat.reduceEqDiff, Nat.reduceLT, Nat.reduceAdd, Nat.reduceMul, Nat.reduceSub]
        · by_cases e : z ≤ wtt σ t
          · exact ⟨t1, h5, by rw [Nat.min_eq_left e, h6]⟩
          · exact ⟨t, hP, Nat.min_eq_right (by omega)⟩
    · refine ⟨x7, z, T2, nI 1, nI (brk σ (fun l => t l / (σ 1 5)) (fun l => t l % (σ 1 5))), y17, ?_, hnb fun hP => hb ?_⟩
      · rw [← hla]
        clear hcc hcore hnb hI hgt hg hZ hq e1 e2 e3 hWT
        simp (disch := first | assumption | omega | exact st8_a (Nat.le_of_ble_eq_true rfl)) only [hb, hl1, eb_275_28, eb_275_29, eb_275_42, kl_a, kl_d, kl_f, kl_i, kl_l, kl_n, kl_r, xr_1, xr_10, xr_11, xr_115, xr_119, xr_12, xr_120, xr_121, xr_13, xr_14, xr_146, xr_147, xr_148, xr_149, xr_15, xr_150, xr_152, xr_153, xr_154, xr_156, xr_157, xr_175, xr_176, xr_177, xr_178, xr_179, xr_180, xr_181, xr_182, xr_183, xr_184, xr_185, xr_186, xr_187, xr_188, xr_189, xr_190, xr_191, xr_192, xr_193, xr_194, xr_195, xr_196, xr_197, xr_198, xr_199, xr_2, xr_200, xr_201, xr_202, xr_203, xr_204, xr_205, xr_206, xr_207, xr_208, xr_209, xr_210, xr_211, xr_212, xr_213, xr_214, xr_215, xr_216, xr_217, xr_218, xr_219, xr_220, xr_221, xr_222, xr_27, xr_3, xr_33, xr_34, xr_35, xr_36, xr_38, xr_4, xr_40, xr_44, xr_47, xr_5, xr_55, xr_64, xr_76, xr_77, xr_80, xr_81, xr_82, xr_83, xr_84, xr_91, xr_92, xr_93, xr_94, xr_95, xr_96, af_0, af_1, xt_goto, xt_ib, xt_ic, xt_ic_eq, xt_ic_ge, xt_ic_ne, xt_if_eq, xt_if_ge, xt_if_le, xt_if_lt, xt_if_ne, xt_ir, xt_nn_0, xt_nn_1, xt_nop, xt_nu_0, xt_nu_1, wF_0, wF_1, wF_2, wF_3, wF_4, wF_5, wF_6, wF_7, wF_8, wF_9, wF_10, wF_11, wF_12, wF_13, wP_9, wP_10, wL_5, wC_5, wC_17, wD, hw_app, hw_len, wA_1, wA_2, wA_3, wA_4, wA_5, wA_6, wA_7, wA_8, wA_17, wW_1, wW_2, wW_3, wW_4, wW_5, wW_6, wW_7, wW_8, wW_17, mF_8 (Mo_hw H), mA_63 (Mo_hw H), mA_64 (Mo_hw H), mA_65 (Mo_hw H), mA_66 (Mo_hw H), mA_67 (Mo_hw H), mA_68 (Mo_hw H), mA_69 (Mo_hw H), mA_70 (Mo_hw H), mA_71 (Mo_hw H), xq_177_12_virtual wy_c, xq_182_12_virtual wy_c, xq_183_12_virtual wy_c, xq_208_13_virtualm (Mo_hw H), xq_209_13_virtualm (Mo_hw H), xq_212_13_virtualm (Mo_hw H), xq_218_13_virtualm (Mo_hw H), xq_219_13_virtualm (Mo_hw H), xq_245_13_virtualm (Mo_hw H), xq_276_200_static, xq_277_200_static, iN_add, iN_mul, iN_sub, iN_and, iN_or, iN_clr, iN_shl, iN_shr, tb_r1, b1_z, b1_or, b1_and, b1_or0, b1_or1, b1_0or, b1_t, b1_f, iN_lt, iN_inj, reduceIte, if_true, if_false, Nat.zero_add, Nat.add_zero, Bool.false_eq_true, Bool.true_eq_false, Nat.lt_irrefl, iN_az, not_true_eq_false, not_false_eq_true, Nat.reduceEqDiff, Nat.reduceLT, Nat.reduceAdd, Nat.reduceMul, Nat.reduceSub]
      · obtain ⟨-, h2, -⟩ := (PA_Gd O hWT).mp hP
        refine Nat.eq_of_testBit_eq fun q => ?_
        rw [Nat.zero_testBit]
        unfold brk
        rw [en_tb]
        by_cases hq : q < (σ 1 7)
        · rw [h2.2.2 q hq (alr_b hq), Bool.not_true, Bool.and_false]
        · rw [decide_eq_false hq, Bool.false_and]
  · refine ⟨x7, z, T2, nI 0, nI (brk σ (fun l => t l / (σ 1 5)) (fun l => t l % (σ 1 5))), y17, ?_, hnb fun hP => hf ((PA_Gd O hWT).mp hP).2.1.2.1⟩
    rw [← hla]
    clear hcore hnb hI hgt hg hZ hq e3 hWT
    simp (disch := first | assumption | omega | exact st8_a (Nat.le_of_ble_eq_true rfl)) only [e1, e2, hf, hl1, eb_275_16, eb_275_17, eb_275_19, eb_275_20, eb_275_21, eb_275_22, eb_275_26, eb_275_27, eb_275_42, kl_a, kl_d, kl_f, kl_i, kl_l, kl_n, kl_r, xr_1, xr_10, xr_11, xr_115, xr_119, xr_12, xr_120, xr_121, xr_13, xr_14, xr_146, xr_147, xr_148, xr_149, xr_15, xr_150, xr_152, xr_153, xr_154, xr_156, xr_157, xr_175, xr_176, xr_177, xr_178, xr_179, xr_180, xr_181, xr_182, xr_183, xr_184, xr_185, xr_186, xr_187, xr_188, xr_189, xr_190, xr_191, xr_192, xr_193, xr_194, xr_195, xr_196, xr_197, xr_198, xr_199, xr_2, xr_200, xr_201, xr_202, xr_203, xr_204, xr_205, xr_206, xr_207, xr_208, xr_209, xr_210, xr_211, xr_212, xr_213, xr_214, xr_215, xr_216, xr_217, xr_218, xr_219, xr_220, xr_221, xr_222, xr_27, xr_3, xr_33, xr_34, xr_35, xr_36, xr_38, xr_4, xr_40, xr_44, xr_47, xr_5, xr_55, xr_64, xr_76, xr_77, xr_80, xr_81, xr_82, xr_83, xr_84, xr_91, xr_92, xr_93, xr_94, xr_95, xr_96, af_0, af_1, xt_goto, xt_ib, xt_ic, xt_ic_eq, xt_ic_ge, xt_ic_ne, xt_if_eq, xt_if_ge, xt_if_le, xt_if_lt, xt_if_ne, xt_ir, xt_nn_0, xt_nn_1, xt_nop, xt_nu_0, xt_nu_1, wF_0, wF_1, wF_2, wF_3, wF_4, wF_5, wF_6, wF_7, wF_8, wF_9, wF_10, wF_11, wF_12, wF_13, wP_9, wP_10, wL_5, wC_5, wC_17, wD, hw_app, hw_len, wA_1, wA_2, wA_3, wA_4, wA_5, wA_6, wA_7, wA_8, wA_17, wW_1, wW_2, wW_3, wW_4, wW_5, wW_6, wW_7, wW_8, wW_17, mF_8 (Mo_hw H), mA_63 (Mo_hw H), mA_64 (Mo_hw H), mA_65 (Mo_hw H), mA_66 (Mo_hw H), mA_67 (Mo_hw H), mA_68 (Mo_hw H), mA_69 (Mo_hw H), mA_70 (Mo_hw H), mA_71 (Mo_hw H), xq_177_12_virtual wy_c, xq_182_12_virtual wy_c, xq_183_12_virtual wy_c, xq_208_13_virtualm (Mo_hw H), xq_209_13_virtualm (Mo_hw H), xq_212_13_virtualm (Mo_hw H), xq_218_13_virtualm (Mo_hw H), xq_219_13_virtualm (Mo_hw H), xq_245_13_virtualm (Mo_hw H), xq_276_200_static, xq_277_200_static, iN_add, iN_mul, iN_sub, iN_and, iN_or, iN_clr, iN_shl, iN_shr, tb_r1, b1_z, b1_or, b1_and, b1_or0, b1_or1, b1_0or, b1_t, b1_f, iN_lt, iN_inj, reduceIte, if_true, if_false, Nat.zero_add, Nat.add_zero, Bool.false_eq_true, Bool.true_eq_false, Nat.lt_irrefl, iN_az, not_true_eq_false, not_false_eq_true, Nat.reduceEqDiff, Nat.reduceLT, Nat.reduceAdd, Nat.reduceMul, Nat.reduceSub]
end Mdo
