/-! THE LAW: all of it -/
def nxt (ρ u : Int32) : Int32 := ((ρ ^^^ u) * nI 1103515245 + nI 12345) ^^^ ((((ρ ^^^ u) * nI 1103515245 + nI 12345).toUInt32 >>> ((nI 15).toUInt32 &&& Int32.toUInt32 31)).toInt32)
set_option maxRecDepth 100000 in
theorem hsz_c2 {σ M : Nat → Nat → Nat} : ab_hsz (hc σ M []) ≤ 5000 := by
  have e : ab_hsz (hc σ M []) = ab_hsz (hc (fun _ _ => 0) (fun _ _ => 0) []) := rfl
  rw [e]
  decide +kernel
set_option maxRecDepth 100000 in
theorem hc_len {σ M : Nat → Nat → Nat} {R : ab_H} : (hc σ M R).length = 62 + R.length := by
  have e : hc σ M R = hc σ M [] ++ R := rfl
  rw [e, List.length_append]
  rfl
set_option maxRecDepth 100000 in
theorem hc_sz {σ M : Nat → Nat → Nat} {R : ab_H} : ab_hsz (hc σ M R) ≤ 5000 + ab_hsz R := by
  have e : hc σ M R = hc σ M [] ++ R := rfl
  have := hsz_c2 (σ := σ) (M := M)
  rw [e, ab_hsz_app]
  omega
set_option maxRecDepth 100000 in
theorem Ok_0 : Ok sg0 := by
  refine ⟨by decide, by decide, by decide, by decide, fun l hl => absurd hl (Nat.not_lt_zero l), fun l hl => absurd hl (Nat.not_lt_zero l), fun l hl => absurd hl (Nat.not_lt_zero l), fun i hi => ?_, fun l hl => absurd hl (Nat.not_lt_zero l)⟩
  have : i = 0 ∨ i = 1 ∨ i = 2 := by omega
  rcases this with rfl | rfl | rfl <;> decide
set_option maxRecDepth 100000 in
theorem BI_0 : BI sg0 M_0 0 := by
  have hK : KI sg0 M_0 := ⟨by decide, .inl rfl, fun z => absurd z (by decide), fun j => (by show (0 : Nat) < 64; decide)⟩
  exact ⟨⟨⟨hK, .inl rfl, fun z => absurd z (by decide)⟩, ⟨hK, .inl rfl, fun z => absurd z (by decide)⟩, by decide, fun j => (by show (0 : Nat) < 4294967296; decide)⟩, rfl, rfl, by decide, Nat.le_refl _⟩
section Pl
variable {xs : List Int32} {d m2 n k : Nat} {σ M M0 N W : Nat → Nat → Nat} {ρ w1 u : Int32} {R h E Q Q2 : ab_H} {B w : Nat → Nat} {c : ab_O} {S : ab_S} {x2 x3 : Value}
set_option maxRecDepth 100000 in
theorem y_1 (hl : xs.length < 2000000) : ∀ k, k ≤ xs.length → ∀ ρ, ∃ ρ2, ev xs (d + 61) 300 1 ([.retAddr 1, .ref 0, .int (nI k), .retAddr 9], [], [oI [ρ]]) = ev xs (d + 61) 300 3 ([.retAddr 1, .ref 0, .int (nI xs.length), .retAddr 9], [], [oI [ρ2]]) := by
  refine lp xs.length ?_ ?_
  · intro ρ
    refine ⟨ρ, ?_⟩
    rw [eb_300_1]
    simp (disch := first | assumption | omega | exact st8_a (Nat.le_of_ble_eq_true rfl)) only [lxl hl, kl_a, kl_d, kl_f, kl_i, kl_l, kl_n, kl_r, xr_1, xr_10, xr_11, xr_12, xr_13, xr_135, xr_136, xr_137, xr_138, xr_139, xr_14, xr_145, xr_146, xr_147, xr_148, xr_149, xr_15, xr_150, xr_158, xr_159, xr_16, xr_160, xr_161, xr_162, xr_17, xr_18, xr_19, xr_2, xr_20, xr_21, xr_22, xr_223, xr_23, xr_232, xr_24, xr_25, xr_251, xr_252, xr_27, xr_272, xr_273, xr_3, xr_30, xr_31, xr_38, xr_4, xr_41, xr_42, xr_5, xr_74, xr_75, xr_8, xr_9, af_0, af_1, xt_goto, xt_ib, xt_ic, xt_ic_ge, xt_if_eq, xt_if_ne, xt_ir, xt_nop, lL_74, lF_8, lA_64, lA_65, lA_66, lA_67, lA_68, lA_69, lA_70, lA_71, lA_72, lA_73, lA_75, lA_62, lW_64, lW_65, lW_66, lW_67, lW_68, lW_69, lW_70, lW_71, lW_72, lW_73, lW_75, lW_62, xq_121_100_special, xq_162_11_virtualc, xq_280_101_special, xq_288_12_virtualm, xq_293_200_static, xq_295_200_static, xq_296_200_static, xq_297_200_static, xq_298_200_static, iN_add, iN_mul, iN_sub, iN_and, iN_or, iN_clr, iN_shl, iN_shr, tb_r1, b1_z, b1_or, b1_and, b1_or0, b1_or1, b1_0or, b1_t, b1_f, iN_lt, iN_inj, reduceIte, if_true, if_false, Nat.zero_add, Nat.add_zero, Bool.false_eq_true, Bool.true_eq_false, Nat.lt_irrefl, iN_az, not_true_eq_false, not_false_eq_true, Nat.reduceEqDiff, Nat.reduceLT, Nat.reduceAdd, Nat.reduceMul, Nat.reduceSub]
  · intro k hk ih ρ
    obtain ⟨u, hu⟩ : ∃ u, xs[k]? = some u := ⟨_, List.getElem?_eq_getElem hk⟩
    obtain ⟨ρ2, e⟩ := ih (nxt ρ u)
    refine ⟨ρ2, ?_⟩
    rw [← e, eb_300_1]
    unfold nxt
    clear ih e
    simp (disch := first | assumption | omega | exact st8_a (Nat.le_of_ble_eq_true rfl)) only [hk, lxl hl, lxs hu, sA, sW, eb_300_2, kl_a, kl_d, kl_f, kl_i, kl_l, kl_n, kl_r, xr_1, xr_10, xr_11, xr_12, xr_13, xr_135, xr_136, xr_137, xr_138, xr_139, xr_14, xr_145, xr_146, xr_147, xr_148, xr_149, xr_15, xr_150, xr_158, xr_159, xr_16, xr_160, xr_161, xr_162, xr_17, xr_18, xr_19, xr_2, xr_20, xr_21, xr_22, xr_223, xr_23, xr_232, xr_24, xr_25, xr_251, xr_252, xr_27, xr_272, xr_273, xr_3, xr_30, xr_31, xr_38, xr_4, xr_41, xr_42, xr_5, xr_74, xr_75, xr_8, xr_9, af_0, af_1, xt_goto, xt_ib, xt_ic, xt_ic_ge, xt_if_eq, xt_if_ne, xt_ir, xt_nop, lL_74, lF_8, lA_64, lA_65, lA_66, lA_67, lA_68, lA_69, lA_70, lA_71, lA_72, lA_73, lA_75, lA_62, lW_64, lW_65, lW_66, lW_67, lW_68, lW_69, lW_70, lW_71, lW_72, lW_73, lW_75, lW_62, xq_121_100_special, xq_162_11_virtualc, xq_280_101_special, xq_288_12_virtualm, xq_293_200_static, xq_295_200_static, xq_296_200_static, xq_297_200_static, xq_298_200_static, iN_add, iN_mul, iN_sub, iN_and, iN_or, iN_clr, iN_shl, iN_shr, tb_r1, b1_z, b1_or, b1_and, b1_or0, b1_or1, b1_0or, b1_t, b1_f, iN_lt, iN_inj, reduceIte, if_true, if_false, Nat.zero_add, Nat.add_zero, Bool.false_eq_true, Bool.true_eq_false, Nat.lt_irrefl, iN_az, not_true_eq_false, not_false_eq_true, Nat.reduceEqDiff, Nat.reduceLT, Nat.reduceAdd, Nat.reduceMul, Nat.reduceSub]
set_option maxRecDepth 100000 in
theorem y_0 : ev xs (d + 61) 300 0 (ab_in 4 [.retAddr 1] []) = ev xs (d + 61) 300 1 ([.retAddr 1, .ref 0, .int (nI 0), .retAddr 9], [], [oI [nI 17]]) := by
  show ev xs (d + 61) 300 0 ([.retAddr 1, .retAddr 9, .retAddr 9, .retAddr 9], [], []) = _
  simp (disch := first | assumption | omega | exact st8_a (Nat.le_of_ble_eq_true rfl)) only [sN, sW, eb_300_0, kl_a, kl_d, kl_f, kl_i, kl_l, kl_n, kl_r, xr_1, xr_10, xr_11, xr_12, xr_13, xr_135, xr_136, xr_137, xr_138, xr_139, xr_14, xr_145, xr_146, xr_147, xr_148, xr_149, xr_15, xr_150, xr_158, xr_159, xr_16, xr_160, xr_161, xr_162, xr_17, xr_18, xr_19, xr_2, xr_20, xr_21, xr_22, xr_223, xr_23, xr_232, xr_24, xr_25, xr_251, xr_252, xr_27, xr_272, xr_273, xr_3, xr_30, xr_31, xr_38, xr_4, xr_41, xr_42, xr_5, xr_74, xr_75, xr_8, xr_9, af_0, af_1, xt_goto, xt_ib, xt_ic, xt_ic_ge, xt_if_eq, xt_if_ne, xt_ir, xt_nop, lL_74, lF_8, lA_64, lA_65, lA_66, lA_67, lA_68, lA_69, lA_70, lA_71, lA_72, lA_73, lA_75, lA_62, lW_64, lW_65, lW_66, lW_67, lW_68, lW_69, lW_70, lW_71, lW_72, lW_73, lW_75, lW_62, xq_121_100_special, xq_162_11_virtualc, xq_280_101_special, xq_288_12_virtualm, xq_293_200_static, xq_295_200_static, xq_296_200_static, xq_297_200_static, xq_298_200_static, iN_add, iN_mul, iN_sub, iN_and, iN_or, iN_clr, iN_shl, iN_shr, tb_r1, b1_z, b1_or, b1_and, b1_or0, b1_or1, b1_0or, b1_t, b1_f, iN_lt, iN_inj, reduceIte, if_true, if_false, Nat.zero_add, Nat.add_zero, Bool.false_eq_true, Bool.true_eq_false, Nat.lt_irrefl, iN_az, not_true_eq_false, not_false_eq_true, Nat.reduceEqDiff, Nat.reduceLT, Nat.reduceAdd, Nat.reduceMul, Nat.reduceSub]
set_option maxRecDepth 100000 in
theorem y_3 {a : Nat} : ev xs (d + 61) 300 3 ([.retAddr 1, .ref 0, .int (nI a), .retAddr 9], [], [oI [ρ]]) = ev xs (d + 61) 300 6 ([.retAddr 1, .ref 62, .ref 0, .retAddr 9], [.ref 63], hc sg0 M_0 (LR ρ (up (up sg0 1 0 0) 1 1 0) 0 (TSS 0) (fun _ => 0) [])) := by
  have e1 : ev xs (d + 60) 121 0 ([.ref 1], [], [oI [ρ], .inl (11, ab_def 11)]) = some (.inl none, H1 ρ) := m_121 (d := d + 58)
  have e2 := m_280 (xs := xs) (d := d + 60) (ρ := ρ)
  have s4 : ev xs (d + 61) 300 4 ([.retAddr 1, .ref 0, .int (nI a), .retAddr 9], [.ref 1], H1 ρ) = ev xs (d + 61) 300 5 ([.retAddr 1, .ref 62, .int (nI a), .retAddr 9], [.ref 0], hc sg0 M_0 [oI [ρ]]) := by
    rw [eb_300_4, xt_rot (S := ([.retAddr 1, .ref 0, .int (nI a), .retAddr 9], [.ref 1], H1 ρ)) (Nat.le_refl 63), rot_1, HT1_hc]
  have s3 : ev xs (d + 61) 300 3 ([.retAddr 1, .ref 0, .int (nI a), .retAddr 9], [], [oI [ρ]]) = ev xs (d + 61) 300 4 ([.retAddr 1, .ref 0, .int (nI a), .retAddr 9], [.ref 1], H1 ρ) := by
    clear s4 e2
    simp (disch := first | assumption | omega | exact st8_a (Nat.le_of_ble_eq_true rfl)) only [sL, sAp, e1, eb_300_3, kl_a, kl_d, kl_f, kl_i, kl_l, kl_n, kl_r, xr_1, xr_10, xr_11, xr_12, xr_13, xr_135, xr_136, xr_137, xr_138, xr_139, xr_14, xr_145, xr_146, xr_147, xr_148, xr_149, xr_15, xr_150, xr_158, xr_159, xr_16, xr_160, xr_161, xr_162, xr_17, xr_18, xr_19, xr_2, xr_20, xr_21, xr_22, xr_223, xr_23, xr_232, xr_24, xr_25, xr_251, xr_252, xr_27, xr_272, xr_273, xr_3, xr_30, xr_31, xr_38, xr_4, xr_41, xr_42, xr_5, xr_74, xr_75, xr_8, xr_9, af_0, af_1, xt_goto, xt_ib, xt_ic, xt_ic_ge, xt_if_eq, xt_if_ne, xt_ir, xt_nop, lL_74, lF_8, lA_64, lA_65, lA_66, lA_67, lA_68, lA_69, lA_70, lA_71, lA_72, lA_73, lA_75, lA_62, lW_64, lW_65, lW_66, lW_67, lW_68, lW_69, lW_70, lW_71, lW_72, lW_73, lW_75, lW_62, xq_121_100_special, xq_162_11_virtualc, xq_280_101_special, xq_288_12_virtualm, xq_293_200_static, xq_295_200_static, xq_296_200_static, xq_297_200_static, xq_298_200_static, iN_add, iN_mul, iN_sub, iN_and, iN_or, iN_clr, iN_shl, iN_shr, tb_r1, b1_z, b1_or, b1_and, b1_or0, b1_or1, b1_0or, b1_t, b1_f, iN_lt, iN_inj, reduceIte, if_true, if_false, Nat.zero_add, Nat.add_zero, Bool.false_eq_true, Bool.true_eq_false, Nat.lt_irrefl, iN_az, not_true_eq_false, not_false_eq_true, Nat.reduceEqDiff, Nat.reduceLT, Nat.reduceAdd, Nat.reduceMul, Nat.reduceSub]
  rw [s3, s4]
  clear s3 s4 e1
  simp (disch := first | assumption | omega | exact st8_a (Nat.le_of_ble_eq_true rfl)) only [hc_63, hc_app, sAp, e2, eb_300_5, kl_a, kl_d, kl_f, kl_i, kl_l, kl_n, kl_r, xr_1, xr_10, xr_11, xr_12, xr_13, xr_135, xr_136, xr_137, xr_138, xr_139, xr_14, xr_145, xr_146, xr_147, xr_148, xr_149, xr_15, xr_150, xr_158, xr_159, xr_16, xr_160, xr_161, xr_162, xr_17, xr_18, xr_19, xr_2, xr_20, xr_21, xr_22, xr_223, xr_23, xr_232, xr_24, xr_25, xr_251, xr_252, xr_27, xr_272, xr_273, xr_3, xr_30, xr_31, xr_38, xr_4, xr_41, xr_42, xr_5, xr_74, xr_75, xr_8, xr_9, af_0, af_1, xt_goto, xt_ib, xt_ic, xt_ic_ge, xt_if_eq, xt_if_ne, xt_ir, xt_nop, lL_74, lF_8, lA_64, lA_65, lA_66, lA_67, lA_68, lA_69, lA_70, lA_71, lA_72, lA_73, lA_75, lA_62, lW_64, lW_65, lW_66, lW_67, lW_68, lW_69, lW_70, lW_71, lW_72, lW_73, lW_75, lW_62, xq_121_100_special, xq_162_11_virtualc, xq_280_101_special, xq_288_12_virtualm, xq_293_200_static, xq_295_200_static, xq_296_200_static, xq_297_200_static, xq_298_200_static, iN_add, iN_mul, iN_sub, iN_and, iN_or, iN_clr, iN_shl, iN_shr, tb_r1, b1_z, b1_or, b1_and, b1_or0, b1_or1, b1_0or, b1_t, b1_f, iN_lt, iN_inj, reduceIte, if_true, if_false, Nat.zero_add, Nat.add_zero, Bool.false_eq_true, Bool.true_eq_false, Nat.lt_irrefl, iN_az, not_true_eq_false, not_false_eq_true, Nat.reduceEqDiff, Nat.reduceLT, Nat.reduceAdd, Nat.reduceMul, Nat.reduceSub]
-- the law's end, whatever lies behind the class's cells
set_option maxRecDepth 100000 in
theorem y_end (O : Ok σ) (hC' : CIv σ M) {k : Nat} (hk : k = 9 ∨ k = 22) : ∃ N, ev xs (d + 61) 300 k ([.retAddr 1, .ref 62, .ref 0, .ref 63], [], hc σ M R) = some (.inl (some (.int (nI (1)))), hc σ N R) := by
  obtain ⟨N, e1, -, -⟩ := s_162 (xs := xs) (d := d + 38) (M := M) (R := R) O hC'
  refine ⟨N, ?_⟩
  clear hC'
  rcases hk with rfl | rfl
  · simp (disch := first | assumption | omega | exact st8_a (Nat.le_of_ble_eq_true rfl)) only [e1, eb_300_9, eb_300_10, eb_300_11, eb_300_13, kl_a, kl_d, kl_f, kl_i, kl_l, kl_n, kl_r, xr_1, xr_10, xr_11, xr_12, xr_13, xr_135, xr_136, xr_137, xr_138, xr_139, xr_14, xr_145, xr_146, xr_147, xr_148, xr_149, xr_15, xr_150, xr_158, xr_159, xr_16, xr_160, xr_161, xr_162, xr_17, xr_18, xr_19, xr_2, xr_20, xr_21, xr_22, xr_223, xr_23, xr_232, xr_24, xr_25, xr_251, xr_252, xr_27, xr_272, xr_273, xr_3, xr_30, xr_31, xr_38, xr_4, xr_41, xr_42, xr_5, xr_74, xr_75, xr_8, xr_9, af_0, af_1, xt_goto, xt_ib, xt_ic, xt_ic_ge, xt_if_eq, xt_if_ne, xt_ir, xt_nop, lL_74, lF_8, lA_64, lA_65, lA_66, lA_67, lA_68, lA_69, lA_70, lA_71, lA_72, lA_73, lA_75, lA_62, lW_64, lW_65, lW_66, lW_67, lW_68, lW_69, lW_70, lW_71, lW_72, lW_73, lW_75, lW_62, xq_121_100_special, xq_162_11_virtualc, xq_280_101_special, xq_288_12_virtualm, xq_293_200_static, xq_295_200_static, xq_296_200_static, xq_297_200_static, xq_298_200_static, iN_add, iN_mul, iN_sub, iN_and, iN_or, iN_clr, iN_shl, iN_shr, tb_r1, b1_z, b1_or, b1_and, b1_or0, b1_or1, b1_0or, b1_t, b1_f, iN_lt, iN_inj, reduceIte, if_true, if_false, Nat.zero_add, Nat.add_zero, Bool.false_eq_true, Bool.true_eq_false, Nat.lt_irrefl, iN_az, not_true_eq_false, not_false_eq_true, Nat.reduceEqDiff, Nat.reduceLT, Nat.reduceAdd, Nat.reduceMul, Nat.reduceSub]
  · simp (disch := first | assumption | omega | exact st8_a (Nat.le_of_ble_eq_true rfl)) only [e1, eb_300_22, eb_300_23, eb_300_24, eb_300_26, kl_a, kl_d, kl_f, kl_i, kl_l, kl_n, kl_r, xr_1, xr_10, xr_11, xr_12, xr_13, xr_135, xr_136, xr_137, xr_138, xr_139, xr_14, xr_145, xr_146, xr_147, xr_148, xr_149, xr_15, xr_150, xr_158, xr_159, xr_16, xr_160, xr_161, xr_162, xr_17, xr_18, xr_19, xr_2, xr_20, xr_21, xr_22, xr_223, xr_23, xr_232, xr_24, xr_25, xr_251, xr_252, xr_27, xr_272, xr_273, xr_3, xr_30, xr_31, xr_38, xr_4, xr_41, xr_42, xr_5, xr_74, xr_75, xr_8, xr_9, af_0, af_1, xt_goto, xt_ib, xt_ic, xt_ic_ge, xt_if_eq, xt_if_ne, xt_ir, xt_nop, lL_74, lF_8, lA_64, lA_65, lA_66, lA_67, lA_68, lA_69, lA_70, lA_71, lA_72, lA_73, lA_75, lA_62, lW_64, lW_65, lW_66, lW_67, lW_68, lW_69, lW_70, lW_71, lW_72, lW_73, lW_75, lW_62, xq_121_100_special, xq_162_11_virtualc, xq_280_101_special, xq_288_12_virtualm, xq_293_200_static, xq_295_200_static, xq_296_200_static, xq_297_200_static, xq_298_200_static, iN_add, iN_mul, iN_sub, iN_and, iN_or, iN_clr, iN_shl, iN_shr, tb_r1, b1_z, b1_or, b1_and, b1_or0, b1_or1, b1_0or, b1_t, b1_f, iN_lt, iN_inj, reduceIte, if_true, if_false, Nat.zero_add, Nat.add_zero, Bool.false_eq_true, Bool.true_eq_false, Nat.lt_irrefl, iN_az, not_true_eq_false, not_false_eq_true, Nat.reduceEqDiff, Nat.reduceLT, Nat.reduceAdd, Nat.reduceMul, Nat.reduceSub]
set_option maxRecDepth 100000 in
theorem y_14 (O : Ok σ) (hB : BG σ M) (hTA : TA σ n W B) : ∃ N ρ2 Q2, SW ((oI (ar (σ 1 6) w) :: RWS σ n W)) Q2 (4000 + 2 * n) ∧ ev xs (d + 61) 300 14 ([.retAddr 1, .ref 62, .ref 0, .ref 63], [], HS σ M ρ n B w W) = some (.inl (some (.int (nI (1)))), hc σ N (LR ρ2 σ n (TSS n) B Q2)) := by
  obtain ⟨-, hC', h12, h15, h151, ⟨⟨t1, t2⟩, ⟨l1, l2⟩, r1, r2⟩, q6⟩ := hB
  have hI : IC σ M M := ⟨hC', PB0_r, .inl h12⟩
  obtain ⟨N1, E, i1, hE, e1⟩ := p_295 (xs := xs) (d := d + 20) (ρ := ρ) (w := w) O l2 t2 hTA hI
  obtain ⟨N2, i2, e2⟩ := p_296 (xs := xs) (d := d + 20) (ρ := ρ) (w := w) (E := E) O hTA i1
  obtain ⟨N3, ρ3, c3, p3, e3⟩ := p_297 (xs := xs) (d := d + 20) (ρ := ρ) (w := w) (E := E) O t1 hTA i2 h15 h151
  obtain ⟨N4, ρ4, Q4, c4, hS4, e4⟩ := p_298 (xs := xs) (d := d + 20) (ρ := ρ3) (n := n) (Ts := TSS n) (B := B) (Q := (oI (ar (σ 1 6) w) :: RWS σ n W) ++ E) O l1 l2 r1 ⟨c3, p3⟩
  obtain ⟨N5, e5⟩ := y_end (xs := xs) (d := d) (R := LR ρ4 σ n (TSS n) B Q4) O c4 (.inr rfl)
  rw [show d + 20 + 40 = d + 60 from rfl] at e1 e2 e3 e4
  have hHE : HE σ M ρ n B w W [] = HS σ M ρ n B w W := by
    show hc σ M (LR ρ σ n (TSS n) B ((oI (ar (σ 1 6) w) :: RWS σ n W) ++ [])) = _
    rw [List.append_nil]
  rw [hHE] at e1
  refine ⟨N5, ρ4, Q4, ?_, ?_⟩
  · obtain ⟨a1, a2⟩ := hS4
    obtain ⟨b1', b2'⟩ := hE
    have hn := TA_n hTA
    rw [List.length_append] at a1
    rw [ab_hsz_app] at a2
    exact ⟨by omega, by omega⟩
  · rw [← e5]
    clear hTA hI i1 i2 c3 p3 c4 hS4 hE e5 hC' hHE
    simp (disch := first | assumption | omega | exact st8_a (Nat.le_of_ble_eq_true rfl)) only [e1, e2, e3, e4, eb_300_14, eb_300_15, eb_300_16, eb_300_17, eb_300_18, eb_300_19, eb_300_20, eb_300_21, kl_a, kl_d, kl_f, kl_i, kl_l, kl_n, kl_r, xr_1, xr_10, xr_11, xr_12, xr_13, xr_135, xr_136, xr_137, xr_138, xr_139, xr_14, xr_145, xr_146, xr_147, xr_148, xr_149, xr_15, xr_150, xr_158, xr_159, xr_16, xr_160, xr_161, xr_162, xr_17, xr_18, xr_19, xr_2, xr_20, xr_21, xr_22, xr_223, xr_23, xr_232, xr_24, xr_25, xr_251, xr_252, xr_27, xr_272, xr_273, xr_3, xr_30, xr_31, xr_38, xr_4, xr_41, xr_42, xr_5, xr_74, xr_75, xr_8, xr_9, af_0, af_1, xt_goto, xt_ib, xt_ic, xt_ic_ge, xt_if_eq, xt_if_ne, xt_ir, xt_nop, lL_74, lF_8, lA_64, lA_65, lA_66, lA_67, lA_68, lA_69, lA_70, lA_71, lA_72, lA_73, lA_75, lA_62, lW_64, lW_65, lW_66, lW_67, lW_68, lW_69, lW_70, lW_71, lW_72, lW_73, lW_75, lW_62, xq_121_100_special, xq_162_11_virtualc, xq_280_101_special, xq_288_12_virtualm, xq_293_200_static, xq_295_200_static, xq_296_200_static, xq_297_200_static, xq_298_200_static, iN_add, iN_mul, iN_sub, iN_and, iN_or, iN_clr, iN_shl, iN_shr, tb_r1, b1_z, b1_or, b1_and, b1_or0, b1_or1, b1_0or, b1_t, b1_f, iN_lt, iN_inj, reduceIte, if_true, if_false, Nat.zero_add, Nat.add_zero, Bool.false_eq_true, Bool.true_eq_false, Nat.lt_irrefl, iN_az, not_true_eq_false, not_false_eq_true, Nat.reduceEqDiff, Nat.reduceLT, Nat.reduceAdd, Nat.reduceMul, Nat.reduceSub]
set_option maxRecDepth 100000 in
theorem y_6 : ∃ h2, h2.length ≤ 765074 ∧ ab_hsz h2 ≤ 6806245 ∧ ev xs (d + 61) 300 6 ([.retAddr 1, .ref 62, .ref 0, .retAddr 9], [.ref 63], hc sg0 M_0 (LR ρ (up (up sg0 1 0 0) 1 1 0) 0 (TSS 0) (fun _ => 0) [])) = some (.inl (some (.int (nI (1)))), h2) := by
  obtain ⟨σ, M, ρ1, hB, e1⟩ := p_293 (xs := xs) (d := d + 58) (ρ := ρ) (N := 0) (Ts := TSS 0) (B := fun _ => 0) (Q := []) Ok_0 BI_0 rfl rfl rfl rfl rfl 0 0
  rw [show d + 58 + 2 = d + 60 from rfl] at e1
  have O := hB.1
  have l2 := hB.2.2.2.2.2.1.2.1.2
  have hLI : LI σ (fun t v => LX 0 t v (tsl fun _ => 0) (trm fun _ => 0)) 0 (fun _ _ => 0) (fun _ => 0) := by
    refine ⟨⟨fun k hk => absurd hk (Nat.not_lt_zero k), fun j k _ hk => absurd hk (Nat.not_lt_zero k), fun t v _ hp => ?_⟩, Nat.zero_le _, fun k hk => absurd hk (Nat.not_lt_zero k), fun _ _ => rfl⟩
    obtain ⟨k, hk, -⟩ := hp
    exact absurd hk (Nat.not_lt_zero k)
  have key := p_288 (xs := xs) (d := d + (55 - (σ 1 6))) (M := M) (ρ := ρ1) O (σ 1 6) 0 (Nat.zero_add _) (fun _ => 0) 0 (fun _ _ => 0) (fun _ => 0) (fun l hl => absurd hl (Nat.not_lt_zero l)) (fun j hj => absurd hj (Nat.not_lt_zero j)) hLI
  rw [show d + (55 - (σ 1 6)) + (σ 1 6) + 5 = d + 60 by omega] at key
  have hR0 : (HS σ M ρ1 0 (fun _ => 0) (fun _ => 0) fun _ _ => 0) = hc σ M (LR ρ1 σ 0 (TSS 0) (fun _ => 0) [oI (ar (σ 1 6) fun _ => 0)]) := rfl
  rw [hR0] at key
  have h6 : (σ 1 6) ≤ 100000 := by omega
  rcases key with ⟨n, W, B, w, hI2, -, e2⟩ | ⟨R, hR4, e2⟩
  · have hTA : TA σ n W B := LI_c hI2 fun t v _ => ⟨fun _ => trivial, fun _ => .inr fun j hj => absurd hj (Nat.not_lt_zero j)⟩
    obtain ⟨N, ρ2, Q2, hS2, e3⟩ := y_14 (xs := xs) (d := d) (ρ := ρ1) (w := w) O hB hTA
    have hn := TA_n hTA
    refine ⟨hc σ N (LR ρ2 σ n (TSS n) B Q2), ?_, ?_, ?_⟩
    rotate_left 2
    · rw [← e3]
      clear hB O hLI hI2 hTA e3 hR0 hS2
      simp (disch := first | assumption | omega | exact st8_a (Nat.le_of_ble_eq_true rfl)) only [e1, xr_49, LR_len, LR_app, List.length_nil, List.nil_append, e2, eb_300_6, eb_300_7, eb_300_8, kl_a, kl_d, kl_f, kl_i, kl_l, kl_n, kl_r, xr_1, xr_10, xr_11, xr_12, xr_13, xr_135, xr_136, xr_137, xr_138, xr_139, xr_14, xr_145, xr_146, xr_147, xr_148, xr_149, xr_15, xr_150, xr_158, xr_159, xr_16, xr_160, xr_161, xr_162, xr_17, xr_18, xr_19, xr_2, xr_20, xr_21, xr_22, xr_223, xr_23, xr_232, xr_24, xr_25, xr_251, xr_252, xr_27, xr_272, xr_273, xr_3, xr_30, xr_31, xr_38, xr_4, xr_41, xr_42, xr_5, xr_74, xr_75, xr_8, xr_9, af_0, af_1, xt_goto, xt_ib, xt_ic, xt_ic_ge, xt_if_eq, xt_if_ne, xt_ir, xt_nop, lL_74, lF_8, lA_64, lA_65, lA_66, lA_67, lA_68, lA_69, lA_70, lA_71, lA_72, lA_73, lA_75, lA_62, lW_64, lW_65, lW_66, lW_67, lW_68, lW_69, lW_70, lW_71, lW_72, lW_73, lW_75, lW_62, xq_121_100_special, xq_162_11_virtualc, xq_280_101_special, xq_288_12_virtualm, xq_293_200_static, xq_295_200_static, xq_296_200_static, xq_297_200_static, xq_298_200_static, iN_add, iN_mul, iN_sub, iN_and, iN_or, iN_clr, iN_shl, iN_shr, tb_r1, b1_z, b1_or, b1_and, b1_or0, b1_or1, b1_0or, b1_t, b1_f, iN_lt, iN_inj, reduceIte, if_true, if_false, Nat.zero_add, Nat.add_zero, Bool.false_eq_true, Bool.true_eq_false, Nat.lt_irrefl, iN_az, not_true_eq_false, not_false_eq_true, Nat.reduceEqDiff, Nat.reduceLT, Nat.reduceAdd, Nat.reduceMul, Nat.reduceSub]
    · obtain ⟨a1, a2⟩ := hS2
      obtain ⟨s1, s2⟩ := LR_sz (ρ := ρ2) (τ := σ) (N := n) (Ts := TSS n) (B := B) (Q := Q2)
      rw [List.length_cons, RWS_len] at a1
      rw [hc_len, s1]
      omega
    · obtain ⟨a1, a2⟩ := hS2
      obtain ⟨s1, s2⟩ := LR_sz (ρ := ρ2) (τ := σ) (N := n) (Ts := TSS n) (B := B) (Q := Q2)
      have h7 := RWS_sz O n W
      have h8 := hc_sz (σ := σ) (M := N) (R := LR ρ2 σ n (TSS n) B Q2)
      rw [s2, TSS_len] at h8
      rw [hsz_c, hsz_I] at a2
      omega
  · obtain ⟨N, e3⟩ := y_end (xs := xs) (d := d) (R := R) O hB.2.1 (.inl rfl)
    refine ⟨hc σ N R, ?_, ?_, ?_⟩
    rotate_left 2
    · rw [← e3]
      clear hB O hLI e3 hR0 hR4
      simp (disch := first | assumption | omega | exact st8_a (Nat.le_of_ble_eq_true rfl)) only [e1, xr_49, LR_len, LR_app, List.length_nil, List.nil_append, e2, eb_300_6, eb_300_7, eb_300_8, kl_a, kl_d, kl_f, kl_i, kl_l, kl_n, kl_r, xr_1, xr_10, xr_11, xr_12, xr_13, xr_135, xr_136, xr_137, xr_138, xr_139, xr_14, xr_145, xr_146, xr_147, xr_148, xr_149, xr_15, xr_150, xr_158, xr_159, xr_16, xr_160, xr_161, xr_162, xr_17, xr_18, xr_19, xr_2, xr_20, xr_21, xr_22, xr_223, xr_23, xr_232, xr_24, xr_25, xr_251, xr_252, xr_27, xr_272, xr_273, xr_3, xr_30, xr_31, xr_38, xr_4, xr_41, xr_42, xr_5, xr_74, xr_75, xr_8, xr_9, af_0, af_1, xt_goto, xt_ib, xt_ic, xt_ic_ge, xt_if_eq, xt_if_ne, xt_ir, xt_nop, lL_74, lF_8, lA_64, lA_65, lA_66, lA_67, lA_68, lA_69, lA_70, lA_71, lA_72, lA_73, lA_75, lA_62, lW_64, lW_65, lW_66, lW_67, lW_68, lW_69, lW_70, lW_71, lW_72, lW_73, lW_75, lW_62, xq_121_100_special, xq_162_11_virtualc, xq_280_101_special, xq_288_12_virtualm, xq_293_200_static, xq_295_200_static, xq_296_200_static, xq_297_200_static, xq_298_200_static, iN_add, iN_mul, iN_sub, iN_and, iN_or, iN_clr, iN_shl, iN_shr, tb_r1, b1_z, b1_or, b1_and, b1_or0, b1_or1, b1_0or, b1_t, b1_f, iN_lt, iN_inj, reduceIte, if_true, if_false, Nat.zero_add, Nat.add_zero, Bool.false_eq_true, Bool.true_eq_false, Nat.lt_irrefl, iN_az, not_true_eq_false, not_false_eq_true, Nat.reduceEqDiff, Nat.reduceLT, Nat.reduceAdd, Nat.reduceMul, Nat.reduceSub]
    · obtain ⟨a1, a2⟩ := hR4
      rw [hc_len]
      omega
    · obtain ⟨a1, a2⟩ := hR4
      have h8 := hc_sz (σ := σ) (M := N) (R := R)
      omega
end Pl
/-- what is left, with this claim's room -/
def ab_MainR : Prop := ∀ xs : List Int32, xs.length ≤ 260 → ∃ (n d : Nat) (h' : ab_H), d ≤ 800 ∧ ab_go ab_mt (ab_fx xs) n d 300 0 (ab_in 4 [.retAddr 1] []) = some (.inl (some (.int 1)), h') ∧ h'.length ≤ 765074 ∧ ab_hsz h' ≤ 6806245
set_option maxRecDepth 100000 in
theorem ab_main : ab_MainR := by
  intro xs hl
  obtain ⟨ρ, e1⟩ := y_1 (xs := xs) (d := 0) (by omega) 0 (Nat.zero_le _) (nI 17)
  obtain ⟨h2, g1, g2, e2⟩ := y_6 (xs := xs) (d := 0) (ρ := ρ)
  have e : ev xs (0 + 61) 300 0 (ab_in 4 [.retAddr 1] []) = some (.inl (some (.int (nI (1)))), h2) := by
    rw [y_0, e1, y_3, e2]
  obtain ⟨fuel, hf⟩ := ab_ev_iff.mp e
  exact ⟨fuel, 0 + 61, h2, by decide, hf, g1, g2⟩
