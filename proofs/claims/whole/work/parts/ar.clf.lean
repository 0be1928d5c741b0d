/-! THE CLASS ITSELF: print, count, sums, errors -/
def bdk (σ : Nat → Nat → Nat) (kd : Nat) : Nat := if kd = 0 then (σ 1 3) else if kd = 1 then (σ 1 4) else (σ 1 5)
def plen (σ : Nat → Nat → Nat) (y : Nat) : Nat := y + if (σ 1 1) < y then 1 else 0
section Clf
variable {xs : List Int32} {σ M N K M' : Nat → Nat → Nat} {R : ab_H} {d e k a b c u i n m l x y v set g t kd : Nat} {s r s0 r0 f : Nat → Nat} {p : Nat → Prop}
set_option maxRecDepth 100000 in
theorem s_164 (h : M 0 13 < 7) (hv : v < 128) : ev xs d 164 0 ([.ref 0, .int (nI v)], [], hc σ M R) = some (.inl none, hc σ (up (up M 61 (M 0 13) v) 0 13 (M 0 13 + 1)) R) := by
  have hl : ∀ {m2 : Nat} {hs : List (Nat × Nat)} {tt : ab_T} {rr : List ab_I} {qq : Nat × Nat × Nat} {Lc st : List Value}, rt xs d m2 hs tt ((.arraylength, qq) :: rr) (Lc, .ref 61 :: st, hc σ M R) = rt xs d m2 hs tt rr (Lc, .int (nI 7) :: st, hc σ M R) := by
    intros
    apply rt_s
    rfl
  have hi : ∀ {m2 : Nat} {hs : List (Nat × Nat)} {tt : ab_T} {rr : List ab_I} {qq : Nat × Nat × Nat} {Lc st : List Value}, rt xs d m2 hs tt ((.i2b, qq) :: rr) (Lc, .int (nI v) :: st, hc σ M R) = rt xs d m2 hs tt rr (Lc, .int (nI v) :: st, hc σ M R) := by
    intros
    apply rt_s
    show some (_, Value.int (nI v).toInt8.toInt32 :: _, _) = _
    rw [b1_i8 v hv]
  have hb : ∀ {m2 : Nat} {hs : List (Nat × Nat)} {tt : ab_T} {rr : List ab_I} {qq : Nat × Nat × Nat} {Lc st : List Value}, rt xs d m2 hs tt ((.bastore, qq) :: rr) (Lc, .int (nI v) :: .int (nI (M 0 13)) :: .ref 61 :: st, hc σ M R) = rt xs d m2 hs tt rr (Lc, st, hc σ (up M 61 (M 0 13) v) R) := by
    intros
    exact q_bs c61 h (by decide) hv
  simp (disch := first | assumption | omega | exact st8_a (Nat.le_of_ble_eq_true rfl)) only [h, hl, hi, hb, eb_164_0, eb_164_1, eb_164_2, xr_1, xr_129, xr_2, xr_27, xr_28, xr_3, xr_38, xr_4, xr_5, xr_8, xr_9, xt_ic_ge, xt_nop, xt_re, gL_23, gL_42, gL_61, gF_0_12, gF_0_13, gP_0_13, iN_add, iN_mul, iN_sub, iN_and, iN_or, iN_clr, iN_shl, iN_shr, tb_r1, b1_z, b1_or, b1_and, b1_or0, b1_or1, b1_0or, b1_t, b1_f, iN_lt, iN_inj, reduceIte, if_true, if_false, Nat.zero_add, Nat.add_zero, Bool.false_eq_true, Bool.true_eq_false, Nat.lt_irrefl, iN_az, not_true_eq_false, not_false_eq_true, Nat.reduceEqDiff, Nat.reduceLT, Nat.reduceAdd, Nat.reduceMul, Nat.reduceSub]
  rfl
set_option maxRecDepth 100000 in
theorem CHs_u (h : CHs p n a) (h2 : CHs p n b) : a = b := by
  rcases h with ⟨l, h1, h3, h4, h5⟩ | ⟨h1, h5⟩
  · rcases h2 with ⟨k, g1, g3, g4, g5⟩ | ⟨g1, g5⟩
    · have : l = k := by
        rcases Nat.lt_trichotomy l k with z | z | z
        · exact absurd h3 (g4 l z)
        · exact z
        · exact absurd g3 (h4 k z)
      omega
    · exact absurd h3 (g1 l h1)
  · rcases h2 with ⟨k, g1, g3, g4, g5⟩ | ⟨g1, g5⟩
    · exact absurd g3 (h1 k g1)
    · omega
set_option maxRecDepth 100000 in
theorem PRT_u (O : Ok σ) {f g : Nat → Nat} (h : PRT σ s r kd n f) (h2 : PRT σ s r kd n g) (hk : k < (σ 1 2) + (σ 1 0) - 1) : f k = g k := by
  obtain ⟨hD1, hD2, hH1, hH2, hS, hC, hT, hR, hL, hQ⟩ := Ok_b O
  by_cases h3 : (σ 1 0) = 2 ∧ k = (σ 1 1)
  · rw [h3.2, h.2 h3.1, h2.2 h3.1]
  · have key : ∀ y, y < (σ 1 2) → y + y / (σ 1 1) = k → f k = g k := fun y hy e => by
      rw [← e]
      exact CHs_u (h.1 y hy) (h2.1 y hy)
    by_cases h4 : k < (σ 1 1)
    · exact key k (by omega) (by rw [Nat.div_eq_of_lt h4, Nat.add_zero])
    · have h5 : (σ 1 0) = 2 := by omega
      have h6 : k ≠ (σ 1 1) := fun z => h3 ⟨h5, z⟩
      refine key (k - 1) (by omega) ?_
      have h7 : (k - 1) / (σ 1 1) = 1 := Nat.div_eq_of_lt_le (by omega) (by omega)
      omega
set_option maxRecDepth 100000 in
theorem s_139x (hk : kd < 4294967296) (h : ¬ kd ≤ 2) {y : Int32} : ev xs d 139 0 ([.ref 0, .int (nI kd), .int y, .retAddr 9, .retAddr 9, .retAddr 9], [], hc σ M R) = some (.inr 0, hc σ M (R ++ [ex9])) := by
  rcases rng hk (show 0 ≤ 2 by decide) (by decide) with ⟨a1, a2, a3⟩ | ⟨a1, a2 | ⟨a2, a3⟩⟩
  · exact absurd a1.2 h
  · simp (disch := first | assumption | omega | exact st8_a (Nat.le_of_ble_eq_true rfl)) only [a2, hc_app, eb_139_0, eb_139_2, kl_a, kl_d, kl_f, kl_i, kl_l, kl_n, kl_r, xr_1, xr_10, xr_111, xr_112, xr_113, xr_2, xr_27, xr_28, xr_3, xr_31, xr_32, xr_33, xr_34, xr_35, xr_36, xr_37, xr_38, xr_4, xr_40, xr_5, xr_64, xr_65, af_0, af_1, xt_goto, xt_ib, xt_ic, xt_ic_ge, xt_ic_le, xt_ic_lt, xt_ic_ne, xt_if_le, xt_if_lt, xt_if_ne, xt_ir, xt_nop, xt_th, gF_0_0, gF_0_1, gF_0_13, gF_0_3, gF_1_2, gF_1_3, gF_1_4, gF_1_5, gP_0_13, xq_164_11_virtualc, xq_165_11_virtualc, xq_21_2_virtualc, xq_59_6_virtualc, iN_add, iN_mul, iN_sub, iN_and, iN_or, iN_clr, iN_shl, iN_shr, tb_r1, b1_z, b1_or, b1_and, b1_or0, b1_or1, b1_0or, b1_t, b1_f, iN_inj, reduceIte, if_true, if_false, Nat.zero_add, Nat.add_zero, Bool.false_eq_true, Bool.true_eq_false, Nat.lt_irrefl, iN_az, not_true_eq_false, not_false_eq_true, Nat.reduceEqDiff, Nat.reduceLT, Nat.reduceAdd, Nat.reduceMul, Nat.reduceSub]
  · simp (disch := first | assumption | omega | exact st8_a (Nat.le_of_ble_eq_true rfl)) only [a2, a3, hc_app, eb_139_0, eb_139_1, eb_139_2, kl_a, kl_d, kl_f, kl_i, kl_l, kl_n, kl_r, xr_1, xr_10, xr_111, xr_112, xr_113, xr_2, xr_27, xr_28, xr_3, xr_31, xr_32, xr_33, xr_34, xr_35, xr_36, xr_37, xr_38, xr_4, xr_40, xr_5, xr_64, xr_65, af_0, af_1, xt_goto, xt_ib, xt_ic, xt_ic_ge, xt_ic_le, xt_ic_lt, xt_ic_ne, xt_if_le, xt_if_lt, xt_if_ne, xt_ir, xt_nop, xt_th, gF_0_0, gF_0_1, gF_0_13, gF_0_3, gF_1_2, gF_1_3, gF_1_4, gF_1_5, gP_0_13, xq_164_11_virtualc, xq_165_11_virtualc, xq_21_2_virtualc, xq_59_6_virtualc, iN_add, iN_mul, iN_sub, iN_and, iN_or, iN_clr, iN_shl, iN_shr, tb_r1, b1_z, b1_or, b1_and, b1_or0, b1_or1, b1_0or, b1_t, b1_f, iN_inj, reduceIte, if_true, if_false, Nat.zero_add, Nat.add_zero, Bool.false_eq_true, Bool.true_eq_false, Nat.lt_irrefl, iN_az, not_true_eq_false, not_false_eq_true, Nat.reduceEqDiff, Nat.reduceLT, Nat.reduceAdd, Nat.reduceMul, Nat.reduceSub]
set_option maxRecDepth 100000 in
theorem s_139g (O : Ok σ) (h : kd ≤ 2) {y : Int32} : ev xs d 139 0 ([.ref 0, .int (nI kd), .int y, .retAddr 9, .retAddr 9, .retAddr 9], [], hc σ M R) = ev xs d 139 8 ([.ref 0, .int (nI kd), .int y, .retAddr 9, .retAddr 9, .retAddr 9], [.int (nI (bdk σ kd))], hc σ M R) := by
  have : kd = 0 ∨ kd = 1 ∨ kd = 2 := by omega
  rcases this with rfl | rfl | rfl
  · simp (disch := first | assumption | omega | exact st8_a (Nat.le_of_ble_eq_true rfl)) only [Nat.not_lt_zero, eb_139_0, eb_139_1, eb_139_3, eb_139_4, kl_a, kl_d, kl_f, kl_i, kl_l, kl_n, kl_r, xr_1, xr_10, xr_111, xr_112, xr_113, xr_2, xr_27, xr_28, xr_3, xr_31, xr_32, xr_33, xr_34, xr_35, xr_36, xr_37, xr_38, xr_4, xr_40, xr_5, xr_64, xr_65, af_0, af_1, xt_goto, xt_ib, xt_ic, xt_ic_ge, xt_ic_le, xt_ic_lt, xt_ic_ne, xt_if_le, xt_if_lt, xt_if_ne, xt_ir, xt_nop, xt_th, gF_0_0, gF_0_1, gF_0_13, gF_0_3, gF_1_2, gF_1_3, gF_1_4, gF_1_5, gP_0_13, xq_164_11_virtualc, xq_165_11_virtualc, xq_21_2_virtualc, xq_59_6_virtualc, iN_add, iN_mul, iN_sub, iN_and, iN_or, iN_clr, iN_shl, iN_shr, tb_r1, b1_z, b1_or, b1_and, b1_or0, b1_or1, b1_0or, b1_t, b1_f, iN_lt, iN_inj, reduceIte, if_true, if_false, Nat.zero_add, Nat.add_zero, Bool.false_eq_true, Bool.true_eq_false, Nat.lt_irrefl, iN_az, not_true_eq_false, not_false_eq_true, Nat.reduceEqDiff, Nat.reduceLT, Nat.reduceAdd, Nat.reduceMul, Nat.reduceSub]
    rfl
  · simp (disch := first | assumption | omega | exact st8_a (Nat.le_of_ble_eq_true rfl)) only [Nat.not_lt_zero, eb_139_0, eb_139_1, eb_139_3, eb_139_5, eb_139_6, kl_a, kl_d, kl_f, kl_i, kl_l, kl_n, kl_r, xr_1, xr_10, xr_111, xr_112, xr_113, xr_2, xr_27, xr_28, xr_3, xr_31, xr_32, xr_33, xr_34, xr_35, xr_36, xr_37, xr_38, xr_4, xr_40, xr_5, xr_64, xr_65, af_0, af_1, xt_goto, xt_ib, xt_ic, xt_ic_ge, xt_ic_le, xt_ic_lt, xt_ic_ne, xt_if_le, xt_if_lt, xt_if_ne, xt_ir, xt_nop, xt_th, gF_0_0, gF_0_1, gF_0_13, gF_0_3, gF_1_2, gF_1_3, gF_1_4, gF_1_5, gP_0_13, xq_164_11_virtualc, xq_165_11_virtualc, xq_21_2_virtualc, xq_59_6_virtualc, iN_add, iN_mul, iN_sub, iN_and, iN_or, iN_clr, iN_shl, iN_shr, tb_r1, b1_z, b1_or, b1_and, b1_or0, b1_or1, b1_0or, b1_t, b1_f, iN_lt, iN_inj, reduceIte, if_true, if_false, Nat.zero_add, Nat.add_zero, Bool.false_eq_true, Bool.true_eq_false, Nat.lt_irrefl, iN_az, not_true_eq_false, not_false_eq_true, Nat.reduceEqDiff, Nat.reduceLT, Nat.reduceAdd, Nat.reduceMul, Nat.reduceSub]
    rfl
  · simp (disch := first | assumption | omega | exact st8_a (Nat.le_of_ble_eq_true rfl)) only [Nat.not_lt_zero, eb_139_0, eb_139_1, eb_139_3, eb_139_5, eb_139_7, kl_a, kl_d, kl_f, kl_i, kl_l, kl_n, kl_r, xr_1, xr_10, xr_111, xr_112, xr_113, xr_2, xr_27, xr_28, xr_3, xr_31, xr_32, xr_33, xr_34, xr_35, xr_36, xr_37, xr_38, xr_4, xr_40, xr_5, xr_64, xr_65, af_0, af_1, xt_goto, xt_ib, xt_ic, xt_ic_ge, xt_ic_le, xt_ic_lt, xt_ic_ne, xt_if_le, xt_if_lt, xt_if_ne, xt_ir, xt_nop, xt_th, gF_0_0, gF_0_1, gF_0_13, gF_0_3, gF_1_2, gF_1_3, gF_1_4, gF_1_5, gP_0_13, xq_164_11_virtualc, xq_165_11_virtualc, xq_21_2_virtualc, xq_59_6_virtualc, iN_add, iN_mul, iN_sub, iN_and, iN_or, iN_clr, iN_shl, iN_shr, tb_r1, b1_z, b1_or, b1_and, b1_or0, b1_or1, b1_0or, b1_t, b1_f, iN_lt, iN_inj, reduceIte, if_true, if_false, Nat.zero_add, Nat.add_zero, Bool.false_eq_true, Bool.true_eq_false, Nat.lt_irrefl, iN_az, not_true_eq_false, not_false_eq_true, Nat.reduceEqDiff, Nat.reduceLT, Nat.reduceAdd, Nat.reduceMul, Nat.reduceSub]
    rfl
set_option maxRecDepth 100000 in
theorem bdk_4 (O : Ok σ) : bdk σ kd ≤ 4 := by
  obtain ⟨hD1, hD2, hH1, hH2, hS, hC, hT, hR, hL, hQ⟩ := Ok_b O
  unfold bdk
  split
  · exact hC
  · split <;> omega
set_option maxRecDepth 100000 in
theorem s_139y (O : Ok σ) (h : kd ≤ 2) (hn : n < 4294967296) (hb : ¬ n < bdk σ kd) : ev xs d 139 0 ([.ref 0, .int (nI kd), .int (nI n), .retAddr 9, .retAddr 9, .retAddr 9], [], hc σ M R) = some (.inr 2, hc σ M (R ++ [ex9])) := by
  have h4 := bdk_4 (kd := kd) O
  rw [s_139g O h]
  by_cases h2 : 2147483648 ≤ n
  · simp (disch := first | assumption | omega | exact st8_a (Nat.le_of_ble_eq_true rfl)) only [eq_true (iN_neg h2 hn), hc_app, eb_139_8, eb_139_10, kl_a, kl_d, kl_f, kl_i, kl_l, kl_n, kl_r, xr_1, xr_10, xr_111, xr_112, xr_113, xr_2, xr_27, xr_28, xr_3, xr_31, xr_32, xr_33, xr_34, xr_35, xr_36, xr_37, xr_38, xr_4, xr_40, xr_5, xr_64, xr_65, af_0, af_1, xt_goto, xt_ib, xt_ic, xt_ic_ge, xt_ic_le, xt_ic_lt, xt_ic_ne, xt_if_le, xt_if_lt, xt_if_ne, xt_ir, xt_nop, xt_th, gF_0_0, gF_0_1, gF_0_13, gF_0_3, gF_1_2, gF_1_3, gF_1_4, gF_1_5, gP_0_13, xq_164_11_virtualc, xq_165_11_virtualc, xq_21_2_virtualc, xq_59_6_virtualc, iN_add, iN_mul, iN_sub, iN_and, iN_or, iN_clr, iN_shl, iN_shr, tb_r1, b1_z, b1_or, b1_and, b1_or0, b1_or1, b1_0or, b1_t, b1_f, iN_lt, iN_inj, reduceIte, if_true, if_false, Nat.zero_add, Nat.add_zero, Bool.false_eq_true, Bool.true_eq_false, Nat.lt_irrefl, iN_az, not_true_eq_false, not_false_eq_true, Nat.reduceEqDiff, Nat.reduceLT, Nat.reduceAdd, Nat.reduceMul, Nat.reduceSub]
  · simp (disch := first | assumption | omega | exact st8_a (Nat.le_of_ble_eq_true rfl)) only [Nat.not_lt_zero, hb, hc_app, eb_139_8, eb_139_9, eb_139_10, kl_a, kl_d, kl_f, kl_i, kl_l, kl_n, kl_r, xr_1, xr_10, xr_111, xr_112, xr_113, xr_2, xr_27, xr_28, xr_3, xr_31, xr_32, xr_33, xr_34, xr_35, xr_36, xr_37, xr_38, xr_4, xr_40, xr_5, xr_64, xr_65, af_0, af_1, xt_goto, xt_ib, xt_ic, xt_ic_ge, xt_ic_le, xt_ic_lt, xt_ic_ne, xt_if_le, xt_if_lt, xt_if_ne, xt_ir, xt_nop, xt_th, gF_0_0, gF_0_1, gF_0_13, gF_0_3, gF_1_2, gF_1_3, gF_1_4, gF_1_5, gP_0_13, xq_164_11_virtualc, xq_165_11_virtualc, xq_21_2_virtualc, xq_59_6_virtualc, iN_add, iN_mul, iN_sub, iN_and, iN_or, iN_clr, iN_shl, iN_shr, tb_r1, b1_z, b1_or, b1_and, b1_or0, b1_or1, b1_0or, b1_t, b1_f, iN_lt, iN_inj, reduceIte, if_true, if_false, Nat.zero_add, Nat.add_zero, Bool.false_eq_true, Bool.true_eq_false, Nat.lt_irrefl, iN_az, not_true_eq_false, not_false_eq_true, Nat.reduceEqDiff, Nat.reduceLT, Nat.reduceAdd, Nat.reduceMul, Nat.reduceSub]
set_option maxRecDepth 100000 in
theorem s_139z (O : Ok σ) (h : kd ≤ 2) (hb : n < bdk σ kd) (h12 : M 12 0 = 0) : ev xs (d + 1) 139 0 ([.ref 0, .int (nI kd), .int (nI n), .retAddr 9, .retAddr 9, .retAddr 9], [], hc σ M R) = some (.inr 1, hc σ M (R ++ [ex9])) := by
  have h4 := bdk_4 (kd := kd) O
  have a3 := (s_165 (xs := xs) (d := d) (σ := σ) (M := M) (R := R) (by rw [h12]; decide)).2 (by omega)
  rw [s_139g O h]
  simp (disch := first | assumption | omega | exact st8_a (Nat.le_of_ble_eq_true rfl)) only [Nat.not_lt_zero, hb, a3, af_x, eb_139_8, eb_139_9, eb_139_11, kl_a, kl_d, kl_f, kl_i, kl_l, kl_n, kl_r, xr_1, xr_10, xr_111, xr_112, xr_113, xr_2, xr_27, xr_28, xr_3, xr_31, xr_32, xr_33, xr_34, xr_35, xr_36, xr_37, xr_38, xr_4, xr_40, xr_5, xr_64, xr_65, af_0, af_1, xt_goto, xt_ib, xt_ic, xt_ic_ge, xt_ic_le, xt_ic_lt, xt_ic_ne, xt_if_le, xt_if_lt, xt_if_ne, xt_ir, xt_nop, xt_th, gF_0_0, gF_0_1, gF_0_13, gF_0_3, gF_1_2, gF_1_3, gF_1_4, gF_1_5, gP_0_13, xq_164_11_virtualc, xq_165_11_virtualc, xq_21_2_virtualc, xq_59_6_virtualc, iN_add, iN_mul, iN_sub, iN_and, iN_or, iN_clr, iN_shl, iN_shr, tb_r1, b1_z, b1_or, b1_and, b1_or0, b1_or1, b1_0or, b1_t, b1_f, iN_lt, iN_inj, reduceIte, if_true, if_false, Nat.zero_add, Nat.add_zero, Bool.false_eq_true, Bool.true_eq_false, Nat.lt_irrefl, iN_az, not_true_eq_false, not_false_eq_true, Nat.reduceEqDiff, Nat.reduceLT, Nat.reduceAdd, Nat.reduceMul, Nat.reduceSub]
set_option maxRecDepth 100000 in
theorem stx {v : Nat} : up (up (up (ur M 61 f) 0 13 n) 61 n v) 0 13 (n + 1) = up (ur M 61 (u1 f n v)) 0 13 (n + 1) := by
  funext b j
  by_cases h0 : b = 0
  · subst h0
    rw [up_s, up_s, up_n (by decide), up_s]
    by_cases hj : j = 13
    · rw [hj, u1_s, u1_s]
    · rw [u1_n hj, u1_n hj, u1_n hj, ur_n (by decide), ur_n (by decide)]
  · by_cases h1 : b = 61
    · subst h1
      rw [up_n (by decide), up_s, up_n (by decide), ur_s, up_n (by decide), ur_s]
    · rw [up_n h0, up_n h1, up_n h0, ur_n h1, up_n h0, ur_n h1]
set_option maxRecDepth 100000 in
theorem s_139c (O : Ok σ) (h : kd ≤ 2) (hb : n < bdk σ kd) (hbt : ∀ l, l < (σ 1 6) → M 13 l < (σ 1 2) ∧ M 14 l < (σ 1 5)) (hy : y < (σ 1 2)) {f : Nat → Nat} {len : Nat} (hlen : len = y + y / (σ 1 1)) {x3 : Int32} {y5 : Value} : ∃ c y6, CHs (own σ (M 13) (M 14) kd n y) (σ 1 6) c ∧ c < 128 ∧ ev xs (d + 3) 139 18 ([.ref 0, .int (nI kd), .int (nI n), .int x3, .int (nI y), y5], [], hc σ (up (ur M 61 f) 0 13 len) R) = ev xs (d + 3) 139 13 ([.ref 0, .int (nI kd), .int (nI n), .int x3, .int (nI (y + 1)), y6], [], hc σ (up (ur M 61 (u1 f len c)) 0 13 (len + 1)) R) := by
  obtain ⟨hD1, hD2, hH1, hH2, hS, hC, hT, hR, hL, hQ⟩ := Ok_b O
  have h4 := bdk_4 (kd := kd) O
  have h12t : TT 12 := by decide
  have hlen7 : len < 7 := by
    have : y / (σ 1 1) ≤ 1 := by
      have : y < 2 * (σ 1 1) := by omega
      have := Nat.div_lt_of_lt_mul (show y < (σ 1 1) * 2 by omega)
      omega
    omega
  have x13 : up (ur M 61 f) 0 13 len 13 = M 13 := by rw [up_n (by decide), ur_n (by decide)]
  have x14 : up (ur M 61 f) 0 13 len 14 = M 14 := by rw [up_n (by decide), ur_n (by decide)]
  have x0 : up (ur M 61 f) 0 13 len 0 13 = len := by rw [up_s, u1_s]
  obtain ⟨v, hv, e1⟩ := s_21 (xs := xs) (d := d) (σ := σ) (M := up (ur M 61 f) 0 13 len) (R := R) (t := 12) (kd := kd) (n := n) (u := y) O h12t (fun l hl => by rw [x13]; exact (hbt l hl).1) (fun l hl => by rw [x14]; exact (hbt l hl).2) (by omega) (by omega) hy
  rw [x13, x14] at hv
  have wr : ∀ c, c < 128 → ev xs (d + 2) 164 0 ([.ref 0, .int (nI c)], [], hc σ (up (ur M 61 f) 0 13 len) R) = some (.inl none, hc σ (up (ur M 61 (u1 f len c)) 0 13 (len + 1)) R) := fun c hc => by
    have e := s_164 (xs := xs) (d := d + 2) (σ := σ) (M := up (ur M 61 f) 0 13 len) (R := R) (by rw [x0]; exact hlen7) hc
    rw [x0, stx] at e
    exact e
  rcases hv with ⟨l, hvl, hl, h1, h2⟩ | ⟨hvl, h2⟩
  · rw [hvl] at e1
    have e2 := wr (48 + l) (by omega)
    refine ⟨48 + l, .int (nI l), .inl ⟨l, hl, h1, h2, rfl⟩, by omega, ?_⟩
    have hne : ¬ l = 4294967295 := by omega
    clear h1 h2 hbt wr
    simp (disch := first | assumption | omega | exact st8_a (Nat.le_of_ble_eq_true rfl)) only [e1, hne, e2, eb_139_18, eb_139_19, eb_139_21, eb_139_22, eb_139_23, kl_a, kl_d, kl_f, kl_i, kl_l, kl_n, kl_r, xr_1, xr_10, xr_111, xr_112, xr_113, xr_2, xr_27, xr_28, xr_3, xr_31, xr_32, xr_33, xr_34, xr_35, xr_36, xr_37, xr_38, xr_4, xr_40, xr_5, xr_64, xr_65, af_0, af_1, xt_goto, xt_ib, xt_ic, xt_ic_ge, xt_ic_le, xt_ic_lt, xt_ic_ne, xt_if_le, xt_if_lt, xt_if_ne, xt_ir, xt_nop, xt_th, gF_0_0, gF_0_1, gF_0_13, gF_0_3, gF_1_2, gF_1_3, gF_1_4, gF_1_5, gP_0_13, xq_164_11_virtualc, xq_165_11_virtualc, xq_21_2_virtualc, xq_59_6_virtualc, iN_add, iN_mul, iN_sub, iN_and, iN_or, iN_clr, iN_shl, iN_shr, tb_r1, b1_z, b1_or, b1_and, b1_or0, b1_or1, b1_0or, b1_t, b1_f, iN_lt, iN_inj, reduceIte, if_true, if_false, Nat.zero_add, Nat.add_zero, Bool.false_eq_true, Bool.true_eq_false, Nat.lt_irrefl, iN_az, not_true_eq_false, not_false_eq_true, Nat.reduceEqDiff, Nat.reduceLT, Nat.reduceAdd, Nat.reduceMul, Nat.reduceSub]
  · rw [hvl] at e1
    have e2 := wr 46 (by decide)
    refine ⟨46, .int (nI 4294967295), .inr ⟨h2, rfl⟩, by decide, ?_⟩
    clear h2 hbt wr
    simp (disch := first | assumption | omega | exact st8_a (Nat.le_of_ble_eq_true rfl)) only [e1, e2, eb_139_18, eb_139_19, eb_139_20, eb_139_22, eb_139_23, kl_a, kl_d, kl_f, kl_i, kl_l, kl_n, kl_r, xr_1, xr_10, xr_111, xr_112, xr_113, xr_2, xr_27, xr_28, xr_3, xr_31, xr_32, xr_33, xr_34, xr_35, xr_36, xr_37, xr_38, xr_4, xr_40, xr_5, xr_64, xr_65, af_0, af_1, xt_goto, xt_ib, xt_ic, xt_ic_ge, xt_ic_le, xt_ic_lt, xt_ic_ne, xt_if_le, xt_if_lt, xt_if_ne, xt_ir, xt_nop, xt_th, gF_0_0, gF_0_1, gF_0_13, gF_0_3, gF_1_2, gF_1_3, gF_1_4, gF_1_5, gP_0_13, xq_164_11_virtualc, xq_165_11_virtualc, xq_21_2_virtualc, xq_59_6_virtualc, iN_add, iN_mul, iN_sub, iN_and, iN_or, iN_clr, iN_shl, iN_shr, tb_r1, b1_z, b1_or, b1_and, b1_or0, b1_or1, b1_0or, b1_t, b1_f, iN_lt, iN_inj, reduceIte, if_true, if_false, Nat.zero_add, Nat.add_zero, Bool.false_eq_true, Bool.true_eq_false, Nat.lt_irrefl, iN_az, not_true_eq_false, not_false_eq_true, Nat.reduceEqDiff, Nat.reduceLT, Nat.reduceAdd, Nat.reduceMul, Nat.reduceSub]
set_option maxRecDepth 100000 in
theorem s_139 (O : Ok σ) (h : kd ≤ 2) (hb : n < bdk σ kd) (h12 : M 12 0 = 1) (hbt : ∀ l, l < (σ 1 6) → M 13 l < (σ 1 2) ∧ M 14 l < (σ 1 5)) : ∃ f, ev xs (d + 3) 139 0 ([.ref 0, .int (nI kd), .int (nI n), .retAddr 9, .retAddr 9, .retAddr 9], [], hc σ M R) = some (.inl (some (.int (nI ((σ 1 2) + (σ 1 0) - 1)))), hc σ (up (ur M 61 f) 0 13 ((σ 1 2) + (σ 1 0) - 1)) R) ∧ PRT σ (M 13) (M 14) kd n f ∧ ∀ k, k < (σ 1 2) + (σ 1 0) - 1 → f k < 128 := by
  obtain ⟨hD1, hD2, hH1, hH2, hS, hC, hT, hR, hL, hQ⟩ := Ok_b O
  have h4 := bdk_4 (kd := kd) O
  have h12t : TT 12 := by decide
  have key : ∀ y, y ≤ (σ 1 2) → ∀ (f : Nat → Nat) (y5 : Value), (∀ z, z < y → CHs (own σ (M 13) (M 14) kd n z) (σ 1 6) (f (z + z / (σ 1 1)))) → ((σ 1 1) < y → f (σ 1 1) = 124) → (∀ k, k < plen σ y → f k < 128) → ∃ f2, ev xs (d + 3) 139 13 ([.ref 0, .int (nI kd), .int (nI n), .int (nI (bdk σ kd)), .int (nI y), y5], [], hc σ (up (ur M 61 f) 0 13 (plen σ y)) R) = some (.inl (some (.int (nI ((σ 1 2) + (σ 1 0) - 1)))), hc σ (up (ur M 61 f2) 0 13 ((σ 1 2) + (σ 1 0) - 1)) R) ∧ PRT σ (M 13) (M 14) kd n f2 ∧ ∀ k, k < (σ 1 2) + (σ 1 0) - 1 → f2 k < 128 := by
    refine lp (σ 1 2) ?_ ?_
    · intro f y5 h1 h2 h3
      have hpl : plen σ (σ 1 2) = (σ 1 2) + (σ 1 0) - 1 := by
        unfold plen
        split <;> omega
      rw [hpl] at h3 ⊢
      refine ⟨f, ?_, ⟨h1, fun hd => h2 (by omega)⟩, h3⟩
      have x0 : up (ur M 61 f) 0 13 ((σ 1 2) + (σ 1 0) - 1) 0 13 = (σ 1 2) + (σ 1 0) - 1 := by rw [up_s, u1_s]
      rw [eb_139_13]
      clear h1 h2 h3 hbt
      simp (disch := first | assumption | omega | exact st8_a (Nat.le_of_ble_eq_true rfl)) only [x0, eb_139_24, kl_a, kl_d, kl_f, kl_i, kl_l, kl_n, kl_r, xr_1, xr_10, xr_111, xr_112, xr_113, xr_2, xr_27, xr_28, xr_3, xr_31, xr_32, xr_33, xr_34, xr_35, xr_36, xr_37, xr_38, xr_4, xr_40, xr_5, xr_64, xr_65, af_0, af_1, xt_goto, xt_ib, xt_ic, xt_ic_ge, xt_ic_le, xt_ic_lt, xt_ic_ne, xt_if_le, xt_if_lt, xt_if_ne, xt_ir, xt_nop, xt_th, gF_0_0, gF_0_1, gF_0_13, gF_0_3, gF_1_2, gF_1_3, gF_1_4, gF_1_5, gP_0_13, xq_164_11_virtualc, xq_165_11_virtualc, xq_21_2_virtualc, xq_59_6_virtualc, iN_add, iN_mul, iN_sub, iN_and, iN_or, iN_clr, iN_shl, iN_shr, tb_r1, b1_z, b1_or, b1_and, b1_or0, b1_or1, b1_0or, b1_t, b1_f, iN_lt, iN_inj, reduceIte, if_true, if_false, Nat.zero_add, Nat.add_zero, Bool.false_eq_true, Bool.true_eq_false, Nat.lt_irrefl, iN_az, not_true_eq_false, not_false_eq_true, Nat.reduceEqDiff, Nat.reduceLT, Nat.reduceAdd, Nat.reduceMul, Nat.reduceSub]
    · intro y hy ih f y5 h1 h2 h3
      by_cases hyH : y = (σ 1 1)
      · have hpl : plen σ y = (σ 1 1) := by
          unfold plen
          rw [if_neg (by omega)]
          exact hyH
        have hyd : y / (σ 1 1) = 1 := by rw [hyH]; exact Nat.div_self (by omega)
        have e0 := s_164 (xs := xs) (d := d + 2) (σ := σ) (M := up (ur M 61 f) 0 13 (plen σ y)) (R := R) (v := 124) (by rw [up_s, u1_s, hpl]; omega) (by decide)
        have x0 : up (ur M 61 f) 0 13 (plen σ y) 0 13 = plen σ y := by rw [up_s, u1_s]
        rw [x0, stx] at e0
        obtain ⟨c, y6, c1, c2, e1⟩ := s_139c (xs := xs) (d := d) (R := R) (f := u1 f (plen σ y) 124) (len := plen σ y + 1) (x3 := nI (bdk σ kd)) (y5 := y5) O h hb hbt hy (by rw [hpl, hyd, hyH])
        have hpl2 : plen σ (y + 1) = plen σ y + 1 + 1 := by
          rw [hpl]
          unfold plen
          rw [if_pos (by omega)]
          omega
        obtain ⟨g, e2, q⟩ := ih (u1 (u1 f (plen σ y) 124) (plen σ y + 1) c) y6 (fun z hz => by
          by_cases e : z = y
          · rw [e, show y + y / (σ 1 1) = plen σ y + 1 by rw [hpl, hyd, hyH], u1_s]
            exact c1
          · have hz0 : z / (σ 1 1) = 0 := Nat.div_eq_of_lt (by omega)
            rw [u1_n (by rw [hpl]; omega), u1_n (by rw [hpl]; omega)]
            exact h1 z (by omega)) (fun _ => by rw [u1_n (by rw [hpl]; omega), hpl, u1_s]) (fun k hk => by
          rw [hpl2] at hk
          by_cases e : k = plen σ y + 1
          · rw [e, u1_s]; exact c2
          · rw [u1_n e]
            by_cases e2 : k = plen σ y
            · rw [e2, u1_s]; decide
            · rw [u1_n e2]; exact h3 k (by omega))
        rw [hpl2] at e2
        refine ⟨g, ?_, q⟩
        have hh : hou σ y = 0 := by
          unfold hou
          rw [if_neg (by omega)]
          omega
        have e5 := s_59 (xs := xs) (d := d + 2) (M := up (ur M 61 f) 0 13 (plen σ y)) (R := R) O hy
        rw [hh] at e5
        have hy0 : 0 < y := by omega
        rw [eb_139_13]
        clear h1 h2 h3 hbt q ih c1 hh hpl hpl2 hyd
        simp (disch := first | assumption | omega | exact st8_a (Nat.le_of_ble_eq_true rfl)) only [hy, hy0, e5, e0, eb_139_14, eb_139_15, eb_139_16, eb_139_17, kl_a, kl_d, kl_f, kl_i, kl_l, kl_n, kl_r, xr_1, xr_10, xr_111, xr_112, xr_113, xr_2, xr_27, xr_28, xr_3, xr_31, xr_32, xr_33, xr_34, xr_35, xr_36, xr_37, xr_38, xr_4, xr_40, xr_5, xr_64, xr_65, af_0, af_1, xt_goto, xt_ib, xt_ic, xt_ic_ge, xt_ic_le, xt_ic_lt, xt_ic_ne, xt_if_le, xt_if_lt, xt_if_ne, xt_ir, xt_nop, xt_th, gF_0_0, gF_0_1, gF_0_13, gF_0_3, gF_1_2, gF_1_3, gF_1_4, gF_1_5, gP_0_13, xq_164_11_virtualc, xq_165_11_virtualc, xq_21_2_virtualc, xq_59_6_virtualc, iN_add, iN_mul, iN_sub, iN_and, iN_or, iN_clr, iN_shl, iN_shr, tb_r1, b1_z, b1_or, b1_and, b1_or0, b1_or1, b1_0or, b1_t, b1_f, iN_lt, iN_inj, reduceIte, if_true, if_false, Nat.zero_add, Nat.add_zero, Bool.false_eq_true, Bool.true_eq_false, Nat.lt_irrefl, iN_az, not_true_eq_false, not_false_eq_true, Nat.reduceEqDiff, Nat.reduceLT, Nat.reduceAdd, Nat.reduceMul, Nat.reduceSub]
        rw [e1]
        exact e2
      · have hpl : plen σ y = y + y / (σ 1 1) := by
          unfold plen
          by_cases h5 : (σ 1 1) < y
          · rw [if_pos h5, show y / (σ 1 1) = 1 from Nat.div_eq_of_lt_le (by omega) (by omega)]
          · rw [if_neg h5, Nat.div_eq_of_lt (by omega)]
        have hpl2 : plen σ (y + 1) = plen σ y + 1 := by
          unfold plen
          by_cases h5 : (σ 1 1) < y
          · rw [if_pos h5, if_pos (by omega)]
          · rw [if_neg h5, if_neg (by omega)]
        obtain ⟨c, y6, c1, c2, e1⟩ := s_139c (xs := xs) (d := d) (R := R) (f := f) (len := plen σ y) (x3 := nI (bdk σ kd)) (y5 := y5) O h hb hbt hy hpl
        have mono : ∀ z, z < y → z + z / (σ 1 1) < plen σ y := fun z hz => by
          rw [hpl]
          have := Nat.div_le_div_right (c := (σ 1 1)) (Nat.le_of_lt hz)
          omega
        obtain ⟨g, e2, q⟩ := ih (u1 f (plen σ y) c) y6 (fun z hz => by
          by_cases e : z = y
          · rw [e, ← hpl, u1_s]
            exact c1
          · rw [u1_n (by have := mono z (by omega); omega)]
            exact h1 z (by omega)) (fun h5 => by
          rw [u1_n (by unfold plen; split <;> omega)]
          exact h2 (by omega)) (fun k hk => by
          rw [hpl2] at hk
          by_cases e : k = plen σ y
          · rw [e, u1_s]; exact c2
          · rw [u1_n e]; exact h3 k (by omega))
        rw [hpl2] at e2
        refine ⟨g, ?_, q⟩
        have st : ev xs (d + 3) 139 13 ([.ref 0, .int (nI kd), .int (nI n), .int (nI (bdk σ kd)), .int (nI y), y5], [], hc σ (up (ur M 61 f) 0 13 (plen σ y)) R) = ev xs (d + 3) 139 18 ([.ref 0, .int (nI kd), .int (nI n), .int (nI (bdk σ kd)), .int (nI y), y5], [], hc σ (up (ur M 61 f) 0 13 (plen σ y)) R) := by
          rw [eb_139_13]
          clear h1 h2 h3 hbt q ih c1 hpl hpl2 mono e1 e2
          by_cases hy0 : 0 < y
          · have hh : ¬ hou σ y = 0 := by
              unfold hou
              split <;> omega
            have hh2 := hou_lt O hy
            have e5 := s_59 (xs := xs) (d := d + 2) (M := up (ur M 61 f) 0 13 (plen σ y)) (R := R) O hy
            simp (disch := first | assumption | omega | exact st8_a (Nat.le_of_ble_eq_true rfl)) only [hy, hy0, e5, hh, eb_139_14, eb_139_15, eb_139_16, kl_a, kl_d, kl_f, kl_i, kl_l, kl_n, kl_r, xr_1, xr_10, xr_111, xr_112, xr_113, xr_2, xr_27, xr_28, xr_3, xr_31, xr_32, xr_33, xr_34, xr_35, xr_36, xr_37, xr_38, xr_4, xr_40, xr_5, xr_64, xr_65, af_0, af_1, xt_goto, xt_ib, xt_ic, xt_ic_ge, xt_ic_le, xt_ic_lt, xt_ic_ne, xt_if_le, xt_if_lt, xt_if_ne, xt_ir, xt_nop, xt_th, gF_0_0, gF_0_1, gF_0_13, gF_0_3, gF_1_2, gF_1_3, gF_1_4, gF_1_5, gP_0_13, xq_164_11_virtualc, xq_165_11_virtualc, xq_21_2_virtualc, xq_59_6_virtualc, iN_add, iN_mul, iN_sub, iN_and, iN_or, iN_clr, iN_shl, iN_shr, tb_r1, b1_z, b1_or, b1_and, b1_or0, b1_or1, b1_0or, b1_t, b1_f, iN_lt, iN_inj, reduceIte, if_true, if_false, Nat.zero_add, Nat.add_zero, Bool.false_eq_true, Bool.true_eq_false, Nat.lt_irrefl, iN_az, not_true_eq_false, not_false_eq_true, Nat.reduceEqDiff, Nat.reduceLT, Nat.reduceAdd, Nat.reduceMul, Nat.reduceSub]
          · simp (disch := first | assumption | omega | exact st8_a (Nat.le_of_ble_eq_true rfl)) only [hy, hy0, eb_139_14, kl_a, kl_d, kl_f, kl_i, kl_l, kl_n, kl_r, xr_1, xr_10, xr_111, xr_112, xr_113, xr_2, xr_27, xr_28, xr_3, xr_31, xr_32, xr_33, xr_34, xr_35, xr_36, xr_37, xr_38, xr_4, xr_40, xr_5, xr_64, xr_65, af_0, af_1, xt_goto, xt_ib, xt_ic, xt_ic_ge, xt_ic_le, xt_ic_lt, xt_ic_ne, xt_if_le, xt_if_lt, xt_if_ne, xt_ir, xt_nop, xt_th, gF_0_0, gF_0_1, gF_0_13, gF_0_3, gF_1_2, gF_1_3, gF_1_4, gF_1_5, gP_0_13, xq_164_11_virtualc, xq_165_11_virtualc, xq_21_2_virtualc, xq_59_6_virtualc, iN_add, iN_mul, iN_sub, iN_and, iN_or, iN_clr, iN_shl, iN_shr, tb_r1, b1_z, b1_or, b1_and, b1_or0, b1_or1, b1_0or, b1_t, b1_f, iN_lt, iN_inj, reduceIte, if_true, if_false, Nat.zero_add, Nat.add_zero, Bool.false_eq_true, Bool.true_eq_false, Nat.lt_irrefl, iN_az, not_true_eq_false, not_false_eq_true, Nat.reduceEqDiff, Nat.reduceLT, Nat.reduceAdd, Nat.reduceMul, Nat.reduceSub]
        rw [st, e1]
        exact e2
  obtain ⟨f, e, q⟩ := key 0 (Nat.zero_le _) (M 61) (.retAddr 9) (fun z hz => absurd hz (Nat.not_lt_zero z)) (fun z => absurd z (Nat.not_lt_zero _)) (fun k hk => by unfold plen at hk; rw [if_neg (Nat.not_lt_zero _)] at hk; exact absurd hk (Nat.not_lt_zero _))
  refine ⟨f, ?_, q⟩
  have a3 := (s_165 (xs := xs) (d := d + 2) (σ := σ) (M := M) (R := R) (by rw [h12]; decide)).1 h12
  rw [ur_id, show plen σ 0 = 0 from rfl] at e
  rw [s_139g O h]
  clear q hbt key
  simp (disch := first | assumption | omega | exact st8_a (Nat.le_of_ble_eq_true rfl)) only [Nat.not_lt_zero, hb, a3, eb_139_8, eb_139_9, eb_139_11, eb_139_12, kl_a, kl_d, kl_f, kl_i, kl_l, kl_n, kl_r, xr_1, xr_10, xr_111, xr_112, xr_113, xr_2, xr_27, xr_28, xr_3, xr_31, xr_32, xr_33, xr_34, xr_35, xr_36, xr_37, xr_38, xr_4, xr_40, xr_5, xr_64, xr_65, af_0, af_1, xt_goto, xt_ib, xt_ic, xt_ic_ge, xt_ic_le, xt_ic_lt, xt_ic_ne, xt_if_le, xt_if_lt, xt_if_ne, xt_ir, xt_nop, xt_th, gF_0_0, gF_0_1, gF_0_13, gF_0_3, gF_1_2, gF_1_3, gF_1_4, gF_1_5, gP_0_13, xq_164_11_virtualc, xq_165_11_virtualc, xq_21_2_virtualc, xq_59_6_virtualc, iN_add, iN_mul, iN_sub, iN_and, iN_or, iN_clr, iN_shl, iN_shr, tb_r1, b1_z, b1_or, b1_and, b1_or0, b1_or1, b1_0or, b1_t, b1_f, iN_lt, iN_inj, reduceIte, if_true, if_false, Nat.zero_add, Nat.add_zero, Bool.false_eq_true, Bool.true_eq_false, Nat.lt_irrefl, iN_az, not_true_eq_false, not_false_eq_true, Nat.reduceEqDiff, Nat.reduceLT, Nat.reduceAdd, Nat.reduceMul, Nat.reduceSub]
  exact e
end Clf
