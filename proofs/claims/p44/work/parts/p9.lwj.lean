/-! THE LAW: exams, the rooms of a slot -/
section Pj
variable {xs : List Int32} {d : Nat} {σ M M0 M1 N W : Nat → Nat → Nat} {ρ : Int32} {n : Nat} {Ts : List (Option Nat)} {B w : Nat → Nat} {Q : ab_H} {l o u v q t i x y k a b e j m : Nat} {s r s2 r2 g f dy : Nat → Nat} {x3 x4 x5 x6 x7 x8 x9 x10 x11 x12 x13 : Int32} {y6 y7 y8 y9 y10 y11 y12 y13 y14 : Value}
/-- a table lies there, of slots and rooms that exist -/
def GW (σ M : Nat → Nat → Nat) : Prop := CIv σ M ∧ M 12 0 = 1 ∧ ∀ l, l < (σ 1 6) → M 13 l < (σ 1 2) ∧ M 14 l < (σ 1 5)
-- lessons placed anyhow
set_option maxRecDepth 100000 in
theorem x_68 (O : Ok σ) (hR1 : 1 ≤ (σ 1 5)) : ∀ l, l ≤ (σ 1 6) → ∀ M ρ y8, CIv σ M → (GW σ M ∨ (M 12 0 = 0 ∧ l < (σ 1 6))) → ∃ N ρ2 z8, GW σ N ∧ ev xs (d + 40) 298 68 ([.ref 0, .ref 63, .ref 62, .int x3, .int x4, .int x5, .int x6, .int (nI l), y8, y9, y10, y11, y12, y13, y14], [], HX σ M ρ n Ts B Q) = ev xs (d + 40) 298 74 ([.ref 0, .ref 63, .ref 62, .int x3, .int x4, .int x5, .int x6, .int (nI (σ 1 6)), z8, y9, y10, y11, y12, y13, y14], [], HX σ N ρ2 n Ts B Q) := by
  obtain ⟨hD1, hD2, hH1, hH2, hS, hC, hT, hR, hL, hQ⟩ := Ok_b O
  refine lp (σ 1 6) ?_ ?_
  · intro M ρ y8 hC' hG
    have hG2 : GW σ M := hG.resolve_right fun z => Nat.lt_irrefl _ z.2
    refine ⟨M, ρ, y8, hG2, ?_⟩
    rw [eb_298_68]
    clear hC' hG hG2
    simp (disch := first | assumption | omega | exact st8_a (Nat.le_of_ble_eq_true rfl)) only [kl_a, kl_d, kl_f, kl_i, kl_l, kl_n, kl_r, xr_1, xr_10, xr_11, xr_12, xr_13, xr_14, xr_141, xr_143, xr_15, xr_151, xr_152, xr_153, xr_154, xr_155, xr_156, xr_16, xr_17, xr_18, xr_19, xr_2, xr_20, xr_220, xr_221, xr_258, xr_259, xr_260, xr_261, xr_262, xr_263, xr_264, xr_265, xr_266, xr_267, xr_268, xr_269, xr_27, xr_270, xr_271, xr_3, xr_32, xr_33, xr_34, xr_35, xr_36, xr_37, xr_38, xr_4, xr_41, xr_44, xr_5, xr_55, xr_56, xr_57, xr_58, xr_60, xr_61, xr_62, xr_63, xr_77, xr_91, xr_92, xr_93, xr_94, xr_95, xr_96, xr_98, af_0, af_1, xt_goto, xt_ib, xt_ic, xt_ic_eq, xt_ic_ge, xt_ic_gt, xt_ic_le, xt_ic_lt, xt_ic_ne, xt_if_eq, xt_if_ne, xt_ir, xt_nop, lF_10, lF_2, lF_3, lF_5, lF_8, lF_9, lA_64, lA_65, lA_66, lA_67, lA_68, lA_69, lA_70, lA_71, lA_72, lA_73, lA_75, lA_62, lW_64, lW_65, lW_66, lW_67, lW_68, lW_69, lW_70, lW_71, lW_72, lW_73, lW_75, lW_62, xq_133_11_virtualc, xq_134_11_virtualc, xq_145_11_virtualc, xq_146_11_virtualc, xq_156_11_virtualc, xq_157_11_virtualc, xq_277_200_static, xq_281_12_virtualm, xq_282_12_virtualm, xq_292_200_static, iN_add, iN_mul, iN_sub, iN_and, iN_or, iN_clr, iN_shl, iN_shr, tb_r1, b1_z, b1_or, b1_and, b1_or0, b1_or1, b1_0or, b1_t, b1_f, iN_lt, iN_inj, reduceIte, if_true, if_false, Nat.zero_add, Nat.add_zero, Bool.false_eq_true, Bool.true_eq_false, Nat.lt_irrefl, iN_az, not_true_eq_false, not_false_eq_true, Nat.reduceEqDiff, Nat.reduceLT, Nat.reduceAdd, Nat.reduceMul, Nat.reduceSub]
  · intro l hl ih M ρ y8 hC' hG
    obtain ⟨a, ρ1, ha, e1⟩ := p_292 (xs := xs) (d := d + 39) (σ := σ) (M := M) (τ := σ) (ρ := ρ) (N := n) (Ts := Ts) (B := B) (Q := Q) (k := (σ 1 2)) (by omega) (by omega)
    obtain ⟨b, ρ2, hb, e2⟩ := p_292 (xs := xs) (d := d + 39) (σ := σ) (M := M) (τ := σ) (ρ := ρ1) (N := n) (Ts := Ts) (B := B) (Q := Q) (k := (σ 1 5)) (by omega) (by omega)
    have e0 := p_281 (xs := xs) (d := d + 39) (σ := σ) (M := M) (ρ := ρ) (N := n) (Ts := Ts) (B := B) (Q := Q) O
    have pl : ∃ N v, GW σ N ∧ ev xs (d + 39) 133 0 ([.ref 0, .int (nI l), .int (nI a), .int (nI b), .retAddr 9], [], hc σ M (LR ρ2 σ n Ts B Q)) = some (.inl (some (.int (nI (v)))), hc σ N (LR ρ2 σ n Ts B Q)) := by
      have key : ∀ N, N 12 0 = 1 → (∀ j, j < (σ 1 6) → N 13 j < (σ 1 2) ∧ N 14 j < (σ 1 5)) → (∀ b, b ≠ 12 → b ≠ 13 → b ≠ 14 → N b = M b) → GW σ (up (up N 13 l a) 14 l b) := fun N h1 h2 h3 => by
        refine ⟨CIv_c hC' (h3 1 (by decide) (by decide) (by decide)) (h3 19 (by decide) (by decide) (by decide)) (h3 24 (by decide) (by decide) (by decide)) (h3 25 (by decide) (by decide) (by decide)) (h3 32 (by decide) (by decide) (by decide)) (h3 37 (by decide) (by decide) (by decide)) (h3 38 (by decide) (by decide) (by decide)) (h3 40 (by decide) (by decide) (by decide)) (h3 41 (by decide) (by decide) (by decide)) (h3 54 (by decide) (by decide) (by decide)) (h3 53 (by decide) (by decide) (by decide)), h1, fun j hj => ?_⟩
        show u1 (N 13) l a j < (σ 1 2) ∧ u1 (N 14) l b j < (σ 1 5)
        by_cases e : j = l
        · rw [e, u1_s, u1_s]
          exact ⟨ha, hb⟩
        · rw [u1_n e, u1_n e]
          exact h2 j hj
      rcases hG with hG | ⟨h12, -⟩
      · exact ⟨_, _, key M hG.2.1 hG.2.2 (fun _ _ _ _ => rfl), s_133 (xs := xs) (d := d + 37) (M := M) (R := LR ρ2 σ n Ts B Q) O hl ha hb hG.2.1⟩
      · refine ⟨_, _, key (beg σ M) rfl (fun j hj => ?_) (fun b h1 h2 h3 => ?_), s_133n (xs := xs) (d := d + 37) (M := M) (R := LR ρ2 σ n Ts B Q) O hl ha hb h12⟩
        · show 0 < (σ 1 2) ∧ 0 < (σ 1 5)
          omega
        · unfold beg
          rw [ur_n h3, ur_n h2, up_n h1, up_n h1]
    obtain ⟨N, v, hN, e3⟩ := pl
    obtain ⟨N2, ρ3, z8, hN2, e4⟩ := ih N ρ2 (.int (nI v)) hN.1 (.inl hN)
    refine ⟨N2, ρ3, z8, hN2, ?_⟩
    rw [← e4, eb_298_68]
    clear ih hC' hG hN hN2 e4
    simp (disch := first | assumption | omega | exact st8_a (Nat.le_of_ble_eq_true rfl)) only [hl, e0, e1, e2, e3, eb_298_69, eb_298_70, eb_298_71, eb_298_72, eb_298_73, kl_a, kl_d, kl_f, kl_i, kl_l, kl_n, kl_r, xr_1, xr_10, xr_11, xr_12, xr_13, xr_14, xr_141, xr_143, xr_15, xr_151, xr_152, xr_153, xr_154, xr_155, xr_156, xr_16, xr_17, xr_18, xr_19, xr_2, xr_20, xr_220, xr_221, xr_258, xr_259, xr_260, xr_261, xr_262, xr_263, xr_264, xr_265, xr_266, xr_267, xr_268, xr_269, xr_27, xr_270, xr_271, xr_3, xr_32, xr_33, xr_34, xr_35, xr_36, xr_37, xr_38, xr_4, xr_41, xr_44, xr_5, xr_55, xr_56, xr_57, xr_58, xr_60, xr_61, xr_62, xr_63, xr_77, xr_91, xr_92, xr_93, xr_94, xr_95, xr_96, xr_98, af_0, af_1, xt_goto, xt_ib, xt_ic, xt_ic_eq, xt_ic_ge, xt_ic_gt, xt_ic_le, xt_ic_lt, xt_ic_ne, xt_if_eq, xt_if_ne, xt_ir, xt_nop, lF_10, lF_2, lF_3, lF_5, lF_8, lF_9, lA_64, lA_65, lA_66, lA_67, lA_68, lA_69, lA_70, lA_71, lA_72, lA_73, lA_75, lA_62, lW_64, lW_65, lW_66, lW_67, lW_68, lW_69, lW_70, lW_71, lW_72, lW_73, lW_75, lW_62, xq_133_11_virtualc, xq_134_11_virtualc, xq_145_11_virtualc, xq_146_11_virtualc, xq_156_11_virtualc, xq_157_11_virtualc, xq_277_200_static, xq_281_12_virtualm, xq_282_12_virtualm, xq_292_200_static, iN_add, iN_mul, iN_sub, iN_and, iN_or, iN_clr, iN_shl, iN_shr, tb_r1, b1_z, b1_or, b1_and, b1_or0, b1_or1, b1_0or, b1_t, b1_f, iN_lt, iN_inj, reduceIte, if_true, if_false, Nat.zero_add, Nat.add_zero, Bool.false_eq_true, Bool.true_eq_false, Nat.lt_irrefl, iN_az, not_true_eq_false, not_false_eq_true, Nat.reduceEqDiff, Nat.reduceLT, Nat.reduceAdd, Nat.reduceMul, Nat.reduceSub]
-- how many lessons the slot has
set_option maxRecDepth 100000 in
theorem x_77 (O : Ok σ) (hG : GW σ M) {sl : Nat} (hsl : sl < (σ 1 2)) : ∀ l, l ≤ (σ 1 6) → ev xs (d + 40) 298 77 ([.ref 0, .ref 63, .ref 62, .int x3, .int x4, .int x5, .int x6, .int (nI sl), .int (nI (sm l fun l => b1 ((cov σ l (M 13 l)).testBit sl))), .int (nI l), y10, y11, y12, y13, y14], [], HX σ M ρ n Ts B Q) = ev xs (d + 40) 298 81 ([.ref 0, .ref 63, .ref 62, .int x3, .int x4, .int x5, .int x6, .int (nI sl), .int (nI (pc 10 (lin σ (M 13) sl))), .int (nI (σ 1 6)), y10, y11, y12, y13, y14], [], HX σ M ρ n Ts B Q) := by
  obtain ⟨hD1, hD2, hH1, hH2, hS, hC, hT, hR, hL, hQ⟩ := Ok_b O
  refine lp (σ 1 6) ?_ ?_
  · have hp : pc 10 (lin σ (M 13) sl) = sm (σ 1 6) fun l => b1 ((cov σ l (M 13 l)).testBit sl) := by
      unfold lin
      rw [pc_same (n := (σ 1 6)) (by omega) (fun i h1 _ => by rw [en_tb, decide_eq_false (by omega)]; rfl), pc_sm]
      exact sm_cg fun i hi => by rw [en_tb, decide_eq_true hi, Bool.true_and]
    rw [eb_298_77, hp]
    clear hG hp
    simp (disch := first | assumption | omega | exact st8_a (Nat.le_of_ble_eq_true rfl)) only [kl_a, kl_d, kl_f, kl_i, kl_l, kl_n, kl_r, xr_1, xr_10, xr_11, xr_12, xr_13, xr_14, xr_141, xr_143, xr_15, xr_151, xr_152, xr_153, xr_154, xr_155, xr_156, xr_16, xr_17, xr_18, xr_19, xr_2, xr_20, xr_220, xr_221, xr_258, xr_259, xr_260, xr_261, xr_262, xr_263, xr_264, xr_265, xr_266, xr_267, xr_268, xr_269, xr_27, xr_270, xr_271, xr_3, xr_32, xr_33, xr_34, xr_35, xr_36, xr_37, xr_38, xr_4, xr_41, xr_44, xr_5, xr_55, xr_56, xr_57, xr_58, xr_60, xr_61, xr_62, xr_63, xr_77, xr_91, xr_92, xr_93, xr_94, xr_95, xr_96, xr_98, af_0, af_1, xt_goto, xt_ib, xt_ic, xt_ic_eq, xt_ic_ge, xt_ic_gt, xt_ic_le, xt_ic_lt, xt_ic_ne, xt_if_eq, xt_if_ne, xt_ir, xt_nop, lF_10, lF_2, lF_3, lF_5, lF_8, lF_9, lA_64, lA_65, lA_66, lA_67, lA_68, lA_69, lA_70, lA_71, lA_72, lA_73, lA_75, lA_62, lW_64, lW_65, lW_66, lW_67, lW_68, lW_69, lW_70, lW_71, lW_72, lW_73, lW_75, lW_62, xq_133_11_virtualc, xq_134_11_virtualc, xq_145_11_virtualc, xq_146_11_virtualc, xq_156_11_virtualc, xq_157_11_virtualc, xq_277_200_static, xq_281_12_virtualm, xq_282_12_virtualm, xq_292_200_static, iN_add, iN_mul, iN_sub, iN_and, iN_or, iN_clr, iN_shl, iN_shr, tb_r1, b1_z, b1_or, b1_and, b1_or0, b1_or1, b1_0or, b1_t, b1_f, iN_lt, iN_inj, reduceIte, if_true, if_false, Nat.zero_add, Nat.add_zero, Bool.false_eq_true, Bool.true_eq_false, Nat.lt_irrefl, iN_az, not_true_eq_false, not_false_eq_true, Nat.reduceEqDiff, Nat.reduceLT, Nat.reduceAdd, Nat.reduceMul, Nat.reduceSub]
  · intro l hl ih
    obtain ⟨h1, h2⟩ := hG.2.2 l hl
    have e1 := s_134 (xs := xs) (d := d + 38) (σ := σ) (M := M) (R := LR ρ σ n Ts B Q) O hl hG.2.1
    have h3 : (10 * M 13 l + M 14 l) / 10 = M 13 l := by omega
    have e2 := p_282 (xs := xs) (d := d + 38) (σ := σ) (M := M) (ρ := ρ) (N := n) (Ts := Ts) (B := B) (Q := Q) (v := 10 * M 13 l + M 14 l) O hl (by rw [h3]; exact h1)
    rw [h3] at e2
    have hcv := cov_lt O (l := l) h1
    have hs := sm_le (n := l) (c := 1) (f := fun l => b1 ((cov σ l (M 13 l)).testBit sl)) fun i _ => Nat.le_of_lt_succ (b1_lt _)
    rw [sm] at ih
    rw [← ih, eb_298_77]
    clear hG ih
    simp (disch := first | assumption | omega | exact st8_a (Nat.le_of_ble_eq_true rfl)) only [hl, e1, e2, eb_298_78, eb_298_79, eb_298_80, kl_a, kl_d, kl_f, kl_i, kl_l, kl_n, kl_r, xr_1, xr_10, xr_11, xr_12, xr_13, xr_14, xr_141, xr_143, xr_15, xr_151, xr_152, xr_153, xr_154, xr_155, xr_156, xr_16, xr_17, xr_18, xr_19, xr_2, xr_20, xr_220, xr_221, xr_258, xr_259, xr_260, xr_261, xr_262, xr_263, xr_264, xr_265, xr_266, xr_267, xr_268, xr_269, xr_27, xr_270, xr_271, xr_3, xr_32, xr_33, xr_34, xr_35, xr_36, xr_37, xr_38, xr_4, xr_41, xr_44, xr_5, xr_55, xr_56, xr_57, xr_58, xr_60, xr_61, xr_62, xr_63, xr_77, xr_91, xr_92, xr_93, xr_94, xr_95, xr_96, xr_98, af_0, af_1, xt_goto, xt_ib, xt_ic, xt_ic_eq, xt_ic_ge, xt_ic_gt, xt_ic_le, xt_ic_lt, xt_ic_ne, xt_if_eq, xt_if_ne, xt_ir, xt_nop, lF_10, lF_2, lF_3, lF_5, lF_8, lF_9, lA_64, lA_65, lA_66, lA_67, lA_68, lA_69, lA_70, lA_71, lA_72, lA_73, lA_75, lA_62, lW_64, lW_65, lW_66, lW_67, lW_68, lW_69, lW_70, lW_71, lW_72, lW_73, lW_75, lW_62, xq_133_11_virtualc, xq_134_11_virtualc, xq_145_11_virtualc, xq_146_11_virtualc, xq_156_11_virtualc, xq_157_11_virtualc, xq_277_200_static, xq_281_12_virtualm, xq_282_12_virtualm, xq_292_200_static, iN_add, iN_mul, iN_sub, iN_and, iN_or, iN_clr, iN_shl, iN_shr, tb_r1, b1_z, b1_or, b1_and, b1_or0, b1_or1, b1_0or, b1_t, b1_f, iN_lt, iN_inj, reduceIte, if_true, if_false, Nat.zero_add, Nat.add_zero, Bool.false_eq_true, Bool.true_eq_false, Nat.lt_irrefl, iN_az, not_true_eq_false, not_false_eq_true, Nat.reduceEqDiff, Nat.reduceLT, Nat.reduceAdd, Nat.reduceMul, Nat.reduceSub]
set_option maxRecDepth 100000 in
theorem fun1_p : ∀ k, (fun1 σ u k = 0 → ∀ i, i < k → clr i u = 0 → pc 10 i ≤ rfo σ i) ∧ (fun1 σ u k ≠ 0 → rfo σ (fun1 σ u k) < pc 10 (fun1 σ u k) ∧ clr (fun1 σ u k) u = 0) := by
  intro k
  induction k with
  | zero => exact ⟨fun _ i hi => absurd hi (Nat.not_lt_zero i), fun h => absurd rfl h⟩
  | succ k ih =>
    rw [fun1]
    by_cases c : clr k u = 0 ∧ rfo σ k < pc 10 k ∧ (fun1 σ u k = 0 ∨ pc 10 k < pc 10 (fun1 σ u k))
    · rw [if_pos c]
      refine ⟨fun h => ?_, fun _ => ⟨c.2.1, c.1⟩⟩
      have := c.2.1
      rw [h, show pc 10 0 = 0 from by decide] at this
      omega
    · rw [if_neg c]
      refine ⟨fun h i hi hc2 => ?_, ih.2⟩
      by_cases e : i = k
      · rw [e] at hc2 ⊢
        by_cases h3 : rfo σ k < pc 10 k
        · exact absurd ⟨hc2, h3, .inl h⟩ c
        · omega
      · exact ih.1 h i (by omega) hc2
set_option maxRecDepth 100000 in
theorem fun1_z (O : Ok σ) (hu : ∀ i, u.testBit i = true → i < (σ 1 6)) : (fun1 σ u (u + 1) = 0 ↔ mtf σ (σ 1 5) 0 u = pc 10 u) ∧ mtf σ (σ 1 5) 0 u ≤ pc 10 u := by
  obtain ⟨hD1, hD2, hH1, hH2, hS, hC, hT, hR, hL, hQ⟩ := Ok_b O
  have hd := mtf_d (σ := σ) (u := u) hL hu
  obtain ⟨h1, h2⟩ := fun1_p (σ := σ) (u := u) (u + 1)
  refine ⟨⟨fun h => ?_, fun h => ?_⟩, by omega⟩
  · have h3 := h1 h
    have h4 : dfc σ u (u + 1) ≤ 0 := by
      unfold dfc
      rw [mxn_le]
      intro i hi
      by_cases c : clr i u = 0
      · rw [if_pos c]
        have := h3 i hi c
        omega
      · rw [if_neg c]
        exact Nat.le_refl _
    omega
  · by_cases c : fun1 σ u (u + 1) = 0
    · exact c
    · obtain ⟨h3, h4⟩ := h2 c
      have h5 : dfc σ u (u + 1) ≤ 0 := by omega
      unfold dfc at h5
      rw [mxn_le] at h5
      have h6 := h5 (fun1 σ u (u + 1)) (by
        have hsub : fun1 σ u (u + 1) = fun1 σ u (u + 1) &&& u := Nat.eq_of_testBit_eq fun i => by
          have := z_tb.mp h4 i
          rw [clr_tb] at this
          rw [Nat.testBit_and]
          cases h7 : (fun1 σ u (u + 1)).testBit i
          · rfl
          · rw [h7] at this
            simpa using this
        have : fun1 σ u (u + 1) ≤ u := by
          rw [hsub]
          exact Nat.and_le_right
        omega)
      rw [if_pos h4] at h6
      omega
-- the rooms that fit one of the set
set_option maxRecDepth 100000 in
theorem x_86 (O : Ok σ) (hf : v < 64) (hr : k < (σ 1 5)) : ∀ l, l ≤ (σ 1 6) → ev xs (d + 40) 298 86 ([.ref 0, .ref 63, .ref 62, .int x3, .int x4, .int x5, .int x6, .int x7, .int x8, .int (nI v), .int x10, .int x11, .int (nI k), .int (nI (b1 (an l fun l => v.testBit l && sts σ l k))), .int (nI l)], [], HX σ M ρ n Ts B Q) = ev xs (d + 40) 298 93 ([.ref 0, .ref 63, .ref 62, .int x3, .int x4, .int x5, .int x6, .int x7, .int x8, .int (nI v), .int x10, .int x11, .int (nI k), .int (nI (b1 (rfs σ v k))), .int (nI (σ 1 6))], [], HX σ M ρ n Ts B Q) := by
  obtain ⟨hD1, hD2, hH1, hH2, hS, hC, hT, hR, hL, hQ⟩ := Ok_b O
  refine lp (σ 1 6) ?_ ?_
  · rw [eb_298_86]
    unfold rfs
    simp (disch := first | assumption | omega | exact st8_a (Nat.le_of_ble_eq_true rfl)) only [kl_a, kl_d, kl_f, kl_i, kl_l, kl_n, kl_r, xr_1, xr_10, xr_11, xr_12, xr_13, xr_14, xr_141, xr_143, xr_15, xr_151, xr_152, xr_153, xr_154, xr_155, xr_156, xr_16, xr_17, xr_18, xr_19, xr_2, xr_20, xr_220, xr_221, xr_258, xr_259, xr_260, xr_261, xr_262, xr_263, xr_264, xr_265, xr_266, xr_267, xr_268, xr_269, xr_27, xr_270, xr_271, xr_3, xr_32, xr_33, xr_34, xr_35, xr_36, xr_37, xr_38, xr_4, xr_41, xr_44, xr_5, xr_55, xr_56, xr_57, xr_58, xr_60, xr_61, xr_62, xr_63, xr_77, xr_91, xr_92, xr_93, xr_94, xr_95, xr_96, xr_98, af_0, af_1, xt_goto, xt_ib, xt_ic, xt_ic_eq, xt_ic_ge, xt_ic_gt, xt_ic_le, xt_ic_lt, xt_ic_ne, xt_if_eq, xt_if_ne, xt_ir, xt_nop, lF_10, lF_2, lF_3, lF_5, lF_8, lF_9, lA_64, lA_65, lA_66, lA_67, lA_68, lA_69, lA_70, lA_71, lA_72, lA_73, lA_75, lA_62, lW_64, lW_65, lW_66, lW_67, lW_68, lW_69, lW_70, lW_71, lW_72, lW_73, lW_75, lW_62, xq_133_11_virtualc, xq_134_11_virtualc, xq_145_11_virtualc, xq_146_11_virtualc, xq_156_11_virtualc, xq_157_11_virtualc, xq_277_200_static, xq_281_12_virtualm, xq_282_12_virtualm, xq_292_200_static, iN_add, iN_mul, iN_sub, iN_and, iN_or, iN_clr, iN_shl, iN_shr, tb_r1, b1_z, b1_or, b1_and, b1_or0, b1_or1, b1_0or, b1_t, b1_f, iN_lt, iN_inj, reduceIte, if_true, if_false, Nat.zero_add, Nat.add_zero, Bool.false_eq_true, Bool.true_eq_false, Nat.lt_irrefl, iN_az, not_true_eq_false, not_false_eq_true, Nat.reduceEqDiff, Nat.reduceLT, Nat.reduceAdd, Nat.reduceMul, Nat.reduceSub]
  · intro l hl ih
    obtain ⟨h1, h2, h3⟩ := Ok_l O hl
    have c1 := Ok_c O h1
    have c2 := Ok_r O hr
    rw [an] at ih
    rw [← ih, eb_298_86]
    clear ih
    cases h4 : an l fun l => v.testBit l && sts σ l k
    · rw [Bool.false_or]
      cases h5 : v.testBit l
      · rw [Bool.false_and]
        simp (disch := first | assumption | omega | exact st8_a (Nat.le_of_ble_eq_true rfl)) only [hl, h5, eb_298_87, eb_298_88, eb_298_91, eb_298_92, kl_a, kl_d, kl_f, kl_i, kl_l, kl_n, kl_r, xr_1, xr_10, xr_11, xr_12, xr_13, xr_14, xr_141, xr_143, xr_15, xr_151, xr_152, xr_153, xr_154, xr_155, xr_156, xr_16, xr_17, xr_18, xr_19, xr_2, xr_20, xr_220, xr_221, xr_258, xr_259, xr_260, xr_261, xr_262, xr_263, xr_264, xr_265, xr_266, xr_267, xr_268, xr_269, xr_27, xr_270, xr_271, xr_3, xr_32, xr_33, xr_34, xr_35, xr_36, xr_37, xr_38, xr_4, xr_41, xr_44, xr_5, xr_55, xr_56, xr_57, xr_58, xr_60, xr_61, xr_62, xr_63, xr_77, xr_91, xr_92, xr_93, xr_94, xr_95, xr_96, xr_98, af_0, af_1, xt_goto, xt_ib, xt_ic, xt_ic_eq, xt_ic_ge, xt_ic_gt, xt_ic_le, xt_ic_lt, xt_ic_ne, xt_if_eq, xt_if_ne, xt_ir, xt_nop, lF_10, lF_2, lF_3, lF_5, lF_8, lF_9, lA_64, lA_65, lA_66, lA_67, lA_68, lA_69, lA_70, lA_71, lA_72, lA_73, lA_75, lA_62, lW_64, lW_65, lW_66, lW_67, lW_68, lW_69, lW_70, lW_71, lW_72, lW_73, lW_75, lW_62, xq_133_11_virtualc, xq_134_11_virtualc, xq_145_11_virtualc, xq_146_11_virtualc, xq_156_11_virtualc, xq_157_11_virtualc, xq_277_200_static, xq_281_12_virtualm, xq_282_12_virtualm, xq_292_200_static, iN_add, iN_mul, iN_sub, iN_and, iN_or, iN_clr, iN_shl, iN_shr, tb_r1, b1_z, b1_or, b1_and, b1_or0, b1_or1, b1_0or, b1_t, b1_f, iN_lt, iN_inj, reduceIte, if_true, if_false, Nat.zero_add, Nat.add_zero, Bool.false_eq_true, Bool.true_eq_false, Nat.lt_irrefl, iN_az, not_true_eq_false, not_false_eq_true, Nat.reduceEqDiff, Nat.reduceLT, Nat.reduceAdd, Nat.reduceMul, Nat.reduceSub]
      · rw [Bool.true_and]
        unfold sts
        by_cases h6 : σ 4 k < σ 2 (σ 5 l)
        · rw [decide_eq_false (by omega)]
          simp (disch := first | assumption | omega | exact st8_a (Nat.le_of_ble_eq_true rfl)) only [hl, h5, h6, eb_298_87, eb_298_88, eb_298_89, eb_298_91, eb_298_92, kl_a, kl_d, kl_f, kl_i, kl_l, kl_n, kl_r, xr_1, xr_10, xr_11, xr_12, xr_13, xr_14, xr_141, xr_143, xr_15, xr_151, xr_152, xr_153, xr_154, xr_155, xr_156, xr_16, xr_17, xr_18, xr_19, xr_2, xr_20, xr_220, xr_221, xr_258, xr_259, xr_260, xr_261, xr_262, xr_263, xr_264, xr_265, xr_266, xr_267, xr_268, xr_269, xr_27, xr_270, xr_271, xr_3, xr_32, xr_33, xr_34, xr_35, xr_36, xr_37, xr_38, xr_4, xr_41, xr_44, xr_5, xr_55, xr_56, xr_57, xr_58, xr_60, xr_61, xr_62, xr_63, xr_77, xr_91, xr_92, xr_93, xr_94, xr_95, xr_96, xr_98, af_0, af_1, xt_goto, xt_ib, xt_ic, xt_ic_eq, xt_ic_ge, xt_ic_gt, xt_ic_le, xt_ic_lt, xt_ic_ne, xt_if_eq, xt_if_ne, xt_ir, xt_nop, lF_10, lF_2, lF_3, lF_5, lF_8, lF_9, lA_64, lA_65, lA_66, lA_67, lA_68, lA_69, lA_70, lA_71, lA_72, lA_73, lA_75, lA_62, lW_64, lW_65, lW_66, lW_67, lW_68, lW_69, lW_70, lW_71, lW_72, lW_73, lW_75, lW_62, xq_133_11_virtualc, xq_134_11_virtualc, xq_145_11_virtualc, xq_146_11_virtualc, xq_156_11_virtualc, xq_157_11_virtualc, xq_277_200_static, xq_281_12_virtualm, xq_282_12_virtualm, xq_292_200_static, iN_add, iN_mul, iN_sub, iN_and, iN_or, iN_clr, iN_shl, iN_shr, tb_r1, b1_z, b1_or, b1_and, b1_or0, b1_or1, b1_0or, b1_t, b1_f, iN_lt, iN_inj, reduceIte, if_true, if_false, Nat.zero_add, Nat.add_zero, Bool.false_eq_true, Bool.true_eq_false, Nat.lt_irrefl, iN_az, not_true_eq_false, not_false_eq_true, Nat.reduceEqDiff, Nat.reduceLT, Nat.reduceAdd, Nat.reduceMul, Nat.reduceSub]
        · rw [decide_eq_true (by omega)]
          simp (disch := first | assumption | omega | exact st8_a (Nat.le_of_ble_eq_true rfl)) only [hl, h5, h6, eb_298_87, eb_298_88, eb_298_89, eb_298_90, eb_298_92, kl_a, kl_d, kl_f, kl_i, kl_l, kl_n, kl_r, xr_1, xr_10, xr_11, xr_12, xr_13, xr_14, xr_141, xr_143, xr_15, xr_151, xr_152, xr_153, xr_154, xr_155, xr_156, xr_16, xr_17, xr_18, xr_19, xr_2, xr_20, xr_220, xr_221, xr_258, xr_259, xr_260, xr_261, xr_262, xr_263, xr_264, xr_265, xr_266, xr_267, xr_268, xr_269, xr_27, xr_270, xr_271, xr_3, xr_32, xr_33, xr_34, xr_35, xr_36, xr_37, xr_38, xr_4, xr_41, xr_44, xr_5, xr_55, xr_56, xr_57, xr_58, xr_60, xr_61, xr_62, xr_63, xr_77, xr_91, xr_92, xr_93, xr_94, xr_95, xr_96, xr_98, af_0, af_1, xt_goto, xt_ib, xt_ic, xt_ic_eq, xt_ic_ge, xt_ic_gt, xt_ic_le, xt_ic_lt, xt_ic_ne, xt_if_eq, xt_if_ne, xt_ir, xt_nop, lF_10, lF_2, lF_3, lF_5, lF_8, lF_9, lA_64, lA_65, lA_66, lA_67, lA_68, lA_69, lA_70, lA_71, lA_72, lA_73, lA_75, lA_62, lW_64, lW_65, lW_66, lW_67, lW_68, lW_69, lW_70, lW_71, lW_72, lW_73, lW_75, lW_62, xq_133_11_virtualc, xq_134_11_virtualc, xq_145_11_virtualc, xq_146_11_virtualc, xq_156_11_virtualc, xq_157_11_virtualc, xq_277_200_static, xq_281_12_virtualm, xq_282_12_virtualm, xq_292_200_static, iN_add, iN_mul, iN_sub, iN_and, iN_or, iN_clr, iN_shl, iN_shr, tb_r1, b1_z, b1_or, b1_and, b1_or0, b1_or1, b1_0or, b1_t, b1_f, iN_lt, iN_inj, reduceIte, if_true, if_false, Nat.zero_add, Nat.add_zero, Bool.false_eq_true, Bool.true_eq_false, Nat.lt_irrefl, iN_az, not_true_eq_false, not_false_eq_true, Nat.reduceEqDiff, Nat.reduceLT, Nat.reduceAdd, Nat.reduceMul, Nat.reduceSub]
    · rw [Bool.true_or]
      simp (disch := first | assumption | omega | exact st8_a (Nat.le_of_ble_eq_true rfl)) only [hl, eb_298_87, eb_298_90, eb_298_92, kl_a, kl_d, kl_f, kl_i, kl_l, kl_n, kl_r, xr_1, xr_10, xr_11, xr_12, xr_13, xr_14, xr_141, xr_143, xr_15, xr_151, xr_152, xr_153, xr_154, xr_155, xr_156, xr_16, xr_17, xr_18, xr_19, xr_2, xr_20, xr_220, xr_221, xr_258, xr_259, xr_260, xr_261, xr_262, xr_263, xr_264, xr_265, xr_266, xr_267, xr_268, xr_269, xr_27, xr_270, xr_271, xr_3, xr_32, xr_33, xr_34, xr_35, xr_36, xr_37, xr_38, xr_4, xr_41, xr_44, xr_5, xr_55, xr_56, xr_57, xr_58, xr_60, xr_61, xr_62, xr_63, xr_77, xr_91, xr_92, xr_93, xr_94, xr_95, xr_96, xr_98, af_0, af_1, xt_goto, xt_ib, xt_ic, xt_ic_eq, xt_ic_ge, xt_ic_gt, xt_ic_le, xt_ic_lt, xt_ic_ne, xt_if_eq, xt_if_ne, xt_ir, xt_nop, lF_10, lF_2, lF_3, lF_5, lF_8, lF_9, lA_64, lA_65, lA_66, lA_67, lA_68, lA_69, lA_70, lA_71, lA_72, lA_73, lA_75, lA_62, lW_64, lW_65, lW_66, lW_67, lW_68, lW_69, lW_70, lW_71, lW_72, lW_73, lW_75, lW_62, xq_133_11_virtualc, xq_134_11_virtualc, xq_145_11_virtualc, xq_146_11_virtualc, xq_156_11_virtualc, xq_157_11_virtualc, xq_277_200_static, xq_281_12_virtualm, xq_282_12_virtualm, xq_292_200_static, iN_add, iN_mul, iN_sub, iN_and, iN_or, iN_clr, iN_shl, iN_shr, tb_r1, b1_z, b1_or, b1_and, b1_or0, b1_or1, b1_0or, b1_t, b1_f, iN_lt, iN_inj, reduceIte, if_true, if_false, Nat.zero_add, Nat.add_zero, Bool.false_eq_true, Bool.true_eq_false, Nat.lt_irrefl, iN_az, not_true_eq_false, not_false_eq_true, Nat.reduceEqDiff, Nat.reduceLT, Nat.reduceAdd, Nat.reduceMul, Nat.reduceSub]
set_option maxRecDepth 100000 in
theorem x_84 (O : Ok σ) (hf : v < 64) : ∀ k, k ≤ (σ 1 5) → ∀ y13 y14, ∃ z12 z13 z14, ev xs (d + 40) 298 84 ([.ref 0, .ref 63, .ref 62, .int x3, .int x4, .int x5, .int x6, .int x7, .int x8, .int (nI v), .int x10, .int (nI (sm k fun r => b1 (rfs σ v r))), .int (nI k), y13, y14], [], HX σ M ρ n Ts B Q) = ev xs (d + 40) 298 97 ([.ref 0, .ref 63, .ref 62, .int x3, .int x4, .int x5, .int x6, .int x7, .int x8, .int (nI v), .int x10, .int (nI (rfo σ v)), z12, z13, z14], [], HX σ M ρ n Ts B Q) := by
  obtain ⟨hD1, hD2, hH1, hH2, hS, hC, hT, hR, hL, hQ⟩ := Ok_b O
  refine lp (σ 1 5) ?_ ?_
  · intro y13 y14
    refine ⟨.int (nI (σ 1 5)), y13, y14, ?_⟩
    rw [eb_298_84]
    simp (disch := first | assumption | omega | exact st8_a (Nat.le_of_ble_eq_true rfl)) only [kl_a, kl_d, kl_f, kl_i, kl_l, kl_n, kl_r, xr_1, xr_10, xr_11, xr_12, xr_13, xr_14, xr_141, xr_143, xr_15, xr_151, xr_152, xr_153, xr_154, xr_155, xr_156, xr_16, xr_17, xr_18, xr_19, xr_2, xr_20, xr_220, xr_221, xr_258, xr_259, xr_260, xr_261, xr_262, xr_263, xr_264, xr_265, xr_266, xr_267, xr_268, xr_269, xr_27, xr_270, xr_271, xr_3, xr_32, xr_33, xr_34, xr_35, xr_36, xr_37, xr_38, xr_4, xr_41, xr_44, xr_5, xr_55, xr_56, xr_57, xr_58, xr_60, xr_61, xr_62, xr_63, xr_77, xr_91, xr_92, xr_93, xr_94, xr_95, xr_96, xr_98, af_0, af_1, xt_goto, xt_ib, xt_ic, xt_ic_eq, xt_ic_ge, xt_ic_gt, xt_ic_le, xt_ic_lt, xt_ic_ne, xt_if_eq, xt_if_ne, xt_ir, xt_nop, lF_10, lF_2, lF_3, lF_5, lF_8, lF_9, lA_64, lA_65, lA_66, lA_67, lA_68, lA_69, lA_70, lA_71, lA_72, lA_73, lA_75, lA_62, lW_64, lW_65, lW_66, lW_67, lW_68, lW_69, lW_70, lW_71, lW_72, lW_73, lW_75, lW_62, xq_133_11_virtualc, xq_134_11_virtualc, xq_145_11_virtualc, xq_146_11_virtualc, xq_156_11_virtualc, xq_157_11_virtualc, xq_277_200_static, xq_281_12_virtualm, xq_282_12_virtualm, xq_292_200_static, iN_add, iN_mul, iN_sub, iN_and, iN_or, iN_clr, iN_shl, iN_shr, tb_r1, b1_z, b1_or, b1_and, b1_or0, b1_or1, b1_0or, b1_t, b1_f, iN_lt, iN_inj, reduceIte, if_true, if_false, Nat.zero_add, Nat.add_zero, Bool.false_eq_true, Bool.true_eq_false, Nat.lt_irrefl, iN_az, not_true_eq_false, not_false_eq_true, Nat.reduceEqDiff, Nat.reduceLT, Nat.reduceAdd, Nat.reduceMul, Nat.reduceSub]
    rfl
  · intro k hk ih y13 y14
    obtain ⟨z12, z13, z14, e⟩ := ih (.int (nI (b1 (rfs σ v k)))) (.int (nI (σ 1 6)))
    refine ⟨z12, z13, z14, ?_⟩
    rw [← e]
    clear ih e
    have hs := sm_le (n := k) (c := 1) (f := fun r => b1 (rfs σ v r)) fun i _ => Nat.le_of_lt_succ (b1_lt _)
    have e1 := x_86 (xs := xs) (d := d) (M := M) (ρ := ρ) (n := n) (Ts := Ts) (B := B) (Q := Q) (x3 := x3) (x4 := x4) (x5 := x5) (x6 := x6) (x7 := x7) (x8 := x8) (x10 := x10) (x11 := nI (sm k fun r => b1 (rfs σ v r))) O hf hk 0 (Nat.zero_le _)
    have st : ev xs (d + 40) 298 84 ([.ref 0, .ref 63, .ref 62, .int x3, .int x4, .int x5, .int x6, .int x7, .int x8, .int (nI v), .int x10, .int (nI (sm k fun r => b1 (rfs σ v r))), .int (nI k), y13, y14], [], HX σ M ρ n Ts B Q) = ev xs (d + 40) 298 93 ([.ref 0, .ref 63, .ref 62, .int x3, .int x4, .int x5, .int x6, .int x7, .int x8, .int (nI v), .int x10, .int (nI (sm k fun r => b1 (rfs σ v r))), .int (nI k), .int (nI (b1 (rfs σ v k))), .int (nI (σ 1 6))], [], HX σ M ρ n Ts B Q) := by
      rw [← e1, eb_298_84]
      clear e1
      simp (disch := first | assumption | omega | exact st8_a (Nat.le_of_ble_eq_true rfl)) only [hk, eb_298_85, kl_a, kl_d, kl_f, kl_i, kl_l, kl_n, kl_r, xr_1, xr_10, xr_11, xr_12, xr_13, xr_14, xr_141, xr_143, xr_15, xr_151, xr_152, xr_153, xr_154, xr_155, xr_156, xr_16, xr_17, xr_18, xr_19, xr_2, xr_20, xr_220, xr_221, xr_258, xr_259, xr_260, xr_261, xr_262, xr_263, xr_264, xr_265, xr_266, xr_267, xr_268, xr_269, xr_27, xr_270, xr_271, xr_3, xr_32, xr_33, xr_34, xr_35, xr_36, xr_37, xr_38, xr_4, xr_41, xr_44, xr_5, xr_55, xr_56, xr_57, xr_58, xr_60, xr_61, xr_62, xr_63, xr_77, xr_91, xr_92, xr_93, xr_94, xr_95, xr_96, xr_98, af_0, af_1, xt_goto, xt_ib, xt_ic, xt_ic_eq, xt_ic_ge, xt_ic_gt, xt_ic_le, xt_ic_lt, xt_ic_ne, xt_if_eq, xt_if_ne, xt_ir, xt_nop, lF_10, lF_2, lF_3, lF_5, lF_8, lF_9, lA_64, lA_65, lA_66, lA_67, lA_68, lA_69, lA_70, lA_71, lA_72, lA_73, lA_75, lA_62, lW_64, lW_65, lW_66, lW_67, lW_68, lW_69, lW_70, lW_71, lW_72, lW_73, lW_75, lW_62, xq_133_11_virtualc, xq_134_11_virtualc, xq_145_11_virtualc, xq_146_11_virtualc, xq_156_11_virtualc, xq_157_11_virtualc, xq_277_200_static, xq_281_12_virtualm, xq_282_12_virtualm, xq_292_200_static, iN_add, iN_mul, iN_sub, iN_and, iN_or, iN_clr, iN_shl, iN_shr, tb_r1, b1_z, b1_or, b1_and, b1_or0, b1_or1, b1_0or, b1_t, b1_f, iN_lt, iN_inj, reduceIte, if_true, if_false, Nat.zero_add, Nat.add_zero, Bool.false_eq_true, Bool.true_eq_false, Nat.lt_irrefl, iN_az, not_true_eq_false, not_false_eq_true, Nat.reduceEqDiff, Nat.reduceLT, Nat.reduceAdd, Nat.reduceMul, Nat.reduceSub]
      rfl
    rw [st, sm]
    clear st e1
    cases h : rfs σ v k
    · simp (disch := first | assumption | omega | exact st8_a (Nat.le_of_ble_eq_true rfl)) only [eb_298_93, eb_298_95, eb_298_96, kl_a, kl_d, kl_f, kl_i, kl_l, kl_n, kl_r, xr_1, xr_10, xr_11, xr_12, xr_13, xr_14, xr_141, xr_143, xr_15, xr_151, xr_152, xr_153, xr_154, xr_155, xr_156, xr_16, xr_17, xr_18, xr_19, xr_2, xr_20, xr_220, xr_221, xr_258, xr_259, xr_260, xr_261, xr_262, xr_263, xr_264, xr_265, xr_266, xr_267, xr_268, xr_269, xr_27, xr_270, xr_271, xr_3, xr_32, xr_33, xr_34, xr_35, xr_36, xr_37, xr_38, xr_4, xr_41, xr_44, xr_5, xr_55, xr_56, xr_57, xr_58, xr_60, xr_61, xr_62, xr_63, xr_77, xr_91, xr_92, xr_93, xr_94, xr_95, xr_96, xr_98, af_0, af_1, xt_goto, xt_ib, xt_ic, xt_ic_eq, xt_ic_ge, xt_ic_gt, xt_ic_le, xt_ic_lt, xt_ic_ne, xt_if_eq, xt_if_ne, xt_ir, xt_nop, lF_10, lF_2, lF_3, lF_5, lF_8, lF_9, lA_64, lA_65, lA_66, lA_67, lA_68, lA_69, lA_70, lA_71, lA_72, lA_73, lA_75, lA_62, lW_64, lW_65, lW_66, lW_67, lW_68, lW_69, lW_70, lW_71, lW_72, lW_73, lW_75, lW_62, xq_133_11_virtualc, xq_134_11_virtualc, xq_145_11_virtualc, xq_146_11_virtualc, xq_156_11_virtualc, xq_157_11_virtualc, xq_277_200_static, xq_281_12_virtualm, xq_282_12_virtualm, xq_292_200_static, iN_add, iN_mul, iN_sub, iN_and, iN_or, iN_clr, iN_shl, iN_shr, tb_r1, b1_z, b1_or, b1_and, b1_or0, b1_or1, b1_0or, b1_t, b1_f, iN_lt, iN_inj, reduceIte, if_true, if_false, Nat.zero_add, Nat.add_zero, Bool.false_eq_true, Bool.true_eq_false, Nat.lt_irrefl, iN_az, not_true_eq_false, not_false_eq_true, Nat.reduceEqDiff, Nat.reduceLT, Nat.reduceAdd, Nat.reduceMul, Nat.reduceSub]
    · simp (disch := first | assumption | omega | exact st8_a (Nat.le_of_ble_eq_true rfl)) only [eb_298_93, eb_298_94, eb_298_96, kl_a, kl_d, kl_f, kl_i, kl_l, kl_n, kl_r, xr_1, xr_10, xr_11, xr_12, xr_13, xr_14, xr_141, xr_143, xr_15, xr_151, xr_152, xr_153, xr_154, xr_155, xr_156, xr_16, xr_17, xr_18, xr_19, xr_2, xr_20, xr_220, xr_221, xr_258, xr_259, xr_260, xr_261, xr_262, xr_263, xr_264, xr_265, xr_266, xr_267, xr_268, xr_269, xr_27, xr_270, xr_271, xr_3, xr_32, xr_33, xr_34, xr_35, xr_36, xr_37, xr_38, xr_4, xr_41, xr_44, xr_5, xr_55, xr_56, xr_57, xr_58, xr_60, xr_61, xr_62, xr_63, xr_77, xr_91, xr_92, xr_93, xr_94, xr_95, xr_96, xr_98, af_0, af_1, xt_goto, xt_ib, xt_ic, xt_ic_eq, xt_ic_ge, xt_ic_gt, xt_ic_le, xt_ic_lt, xt_ic_ne, xt_if_eq, xt_if_ne, xt_ir, xt_nop, lF_10, lF_2, lF_3, lF_5, lF_8, lF_9, lA_64, lA_65, lA_66, lA_67, lA_68, lA_69, lA_70, lA_71, lA_72, lA_73, lA_75, lA_62, lW_64, lW_65, lW_66, lW_67, lW_68, lW_69, lW_70, lW_71, lW_72, lW_73, lW_75, lW_62, xq_133_11_virtualc, xq_134_11_virtualc, xq_145_11_virtualc, xq_146_11_virtualc, xq_156_11_virtualc, xq_157_11_virtualc, xq_277_200_static, xq_281_12_virtualm, xq_282_12_virtualm, xq_292_200_static, iN_add, iN_mul, iN_sub, iN_and, iN_or, iN_clr, iN_shl, iN_shr, tb_r1, b1_z, b1_or, b1_and, b1_or0, b1_or1, b1_0or, b1_t, b1_f, iN_lt, iN_inj, reduceIte, if_true, if_false, Nat.zero_add, Nat.add_zero, Bool.false_eq_true, Bool.true_eq_false, Nat.lt_irrefl, iN_az, not_true_eq_false, not_false_eq_true, Nat.reduceEqDiff, Nat.reduceLT, Nat.reduceAdd, Nat.reduceMul, Nat.reduceSub]
-- the law's last method
set_option maxRecDepth 100000 in
theorem p_298 (O : Ok σ) (hL1 : 1 ≤ (σ 1 6)) (hL4 : (σ 1 6) ≤ 4) (hR1 : 1 ≤ (σ 1 5)) (hE : EXi σ M) : ∃ N ρ2 Q2, CIv σ N ∧ SW Q Q2 700 ∧ ev xs (d + 40) 298 0 ([.ref 0, .ref 63, .ref 62, .retAddr 9, .retAddr 9, .retAddr 9, .retAddr 9, .retAddr 9, .retAddr 9, .retAddr 9, .retAddr 9, .retAddr 9, .retAddr 9, .retAddr 9, .retAddr 9], [], HX σ M ρ n Ts B Q) = some (.inl (some (.int (nI (1)))), HX σ N ρ2 n Ts B Q2) := by
  obtain ⟨hD1, hD2, hH1, hH2, hS, hC, hT, hR, hL, hQ⟩ := Ok_b O
  obtain ⟨hp0, hp16⟩ := p1_lt hL1 hL4
  obtain ⟨u, ρ1, hu, e1⟩ := p_292 (xs := xs) (d := d + 39) (σ := σ) (M := M) (τ := σ) (ρ := ρ) (N := n) (Ts := Ts) (B := B) (Q := Q) (k := 1 <<< (σ 1 6)) (by omega) (by omega)
  obtain ⟨N1, v, hE1, hv, ⟨f, hX⟩, e2⟩ := x_1 (xs := xs) (d := d) (ρ := ρ1) (n := n) (Ts := Ts) (B := B) (Q := Q) O hE hu (by omega)
  obtain ⟨N2, z7, z8, z9, hE2, e3⟩ := x_12 (xs := xs) (d := d) (ρ := ρ1) (n := n) (Ts := Ts) (B := B) (Q := Q) (y10 := .retAddr 9) (y11 := .retAddr 9) (y12 := .retAddr 9) (y13 := .retAddr 9) (y14 := .retAddr 9) O hu (by omega) hv hX 0 (Nat.zero_le _) N1 (.retAddr 9) (.retAddr 9) (.retAddr 9) hE1
  have e4 := x_40 (xs := xs) (d := d) (M := N2) (ρ := ρ1) (n := n) (Ts := Ts) (B := B) (Q := Q) (x3 := nI u) (x5 := nI 1) (y8 := z8) (y9 := z9) (y10 := .retAddr 9) (y11 := .retAddr 9) (y12 := .retAddr 9) (y13 := .retAddr 9) (y14 := .retAddr 9) O hL4 hv 0 (Nat.zero_le _)
  have hw : max 1 (v - 1) ^ (σ 1 6) ≤ 700 := by
    have h1 : max 1 (v - 1) ≤ 5 := by omega
    have h2 := Nat.pow_le_pow_left h1 (σ 1 6)
    have h3 : 5 ^ (σ 1 6) ≤ 5 ^ 4 := Nat.pow_le_pow_right (by decide) hL4
    have h4 : (5 : Nat) ^ 4 = 625 := rfl
    omega
  obtain ⟨Q3, w7, w8, w9, w10, w11, w12, w13, hS3, e5⟩ := x_43 (xs := xs) (d := d) (M := N2) (ρ := ρ1) (n := n) (Ts := Ts) (B := B) (y14 := .retAddr 9) O hL4 (by omega) hv hX hw 0 (Nat.zero_le _) Q z8 z9 (.retAddr 9) (.retAddr 9) (.retAddr 9) (.retAddr 9) (⟨Nat.le_refl _, Nat.le_refl _⟩ : SW Q Q 0)
  have hG0 : GW σ N2 ∨ (N2 12 0 = 0 ∧ 0 < (σ 1 6)) := by
    rcases hE2.2 with h | ⟨h1, h2, h3⟩
    · exact .inr ⟨h, hL1⟩
    · exact .inl ⟨hE2.1, h1, h3⟩
  obtain ⟨N3, ρ3, y8, hG3, e6⟩ := x_68 (xs := xs) (d := d) (n := n) (Ts := Ts) (B := B) (Q := Q3) (x3 := nI u) (x4 := nI v) (x5 := nI 1) (x6 := nI (max 1 (v - 1) ^ (σ 1 6))) (y9 := w9) (y10 := w10) (y11 := w11) (y12 := w12) (y13 := w13) (y14 := .retAddr 9) O hR1 0 (Nat.zero_le _) N2 ρ1 w8 hE2.1 hG0
  obtain ⟨sl, ρ4, hsl, e7⟩ := p_292 (xs := xs) (d := d + 39) (σ := σ) (M := N3) (τ := σ) (ρ := ρ3) (N := n) (Ts := Ts) (B := B) (Q := Q3) (k := (σ 1 2)) (by omega) (by omega)
  have e8 := p_281 (xs := xs) (d := d + 39) (σ := σ) (M := N3) (ρ := ρ3) (N := n) (Ts := Ts) (B := B) (Q := Q3) O
  have e9 := x_77 (xs := xs) (d := d) (ρ := ρ4) (n := n) (Ts := Ts) (B := B) (Q := Q3) (x3 := nI u) (x4 := nI v) (x5 := nI 1) (x6 := nI (max 1 (v - 1) ^ (σ 1 6))) (y10 := w10) (y11 := w11) (y12 := w12) (y13 := w13) (y14 := .retAddr 9) O hG3 hsl 0 (Nat.zero_le _)
  have e10 := s_146 (xs := xs) (d := d + 35) (M := N3) (R := LR ρ4 σ n Ts B Q3) O hsl hG3.2.1 hG3.2.2
  have e11 := s_145 (xs := xs) (d := d + 35) (M := N3) (R := LR ρ4 σ n Ts B Q3) O hsl hG3.2.1 hG3.2.2
  have hu64 := lin_64 (σ := σ) (s := N3 13) (y := sl) O
  obtain ⟨U, hU⟩ : ∃ U, lin σ (N3 13) sl = U := ⟨_, rfl⟩
  have hUb : ∀ i, U.testBit i = true → i < (σ 1 6) := fun i hi => by
    rw [← hU] at hi
    unfold lin at hi
    rw [en_tb, Bool.and_eq_true, decide_eq_true_eq] at hi
    exact hi.1
  rw [hU] at e9 e10 e11 hu64
  obtain ⟨hz, hle⟩ := fun1_z O hUb
  have hf := fun1_lt (σ := σ) (u := U) (by omega) (U + 1) (Nat.le_refl _)
  have hne := (fun1_p (σ := σ) (u := U) (U + 1)).2
  have hpU := pc_le 10 U
  obtain ⟨F, hF⟩ : ∃ F, fun1 σ U (U + 1) = F := ⟨_, rfl⟩
  obtain ⟨MT, hMT⟩ : ∃ MT, mtf σ (σ 1 5) 0 U = MT := ⟨_, rfl⟩
  obtain ⟨PU, hPU⟩ : ∃ PU, pc 10 U = PU := ⟨_, rfl⟩
  rw [hF] at e10 hz hf hne
  rw [hMT] at e11 hz hle
  rw [hPU] at e9 hz hle hpU
  obtain ⟨z12, z13, z14, e12⟩ := x_84 (xs := xs) (d := d) (M := N3) (ρ := ρ4) (n := n) (Ts := Ts) (B := B) (Q := Q3) (v := F) (x3 := nI u) (x4 := nI v) (x5 := nI 1) (x6 := nI (max 1 (v - 1) ^ (σ 1 6))) (x7 := nI sl) (x8 := nI PU) (x10 := nI MT) O (by omega) 0 (Nat.zero_le _) w13 (.retAddr 9)
  have hS7 : SW Q Q3 700 := ⟨by have := hS3.1; omega, by have := hS3.2; omega⟩
  refine ⟨N3, ρ4, Q3, hG3.1, hS7, ?_⟩
  have fin : ev xs (d + 40) 298 97 ([.ref 0, .ref 63, .ref 62, .int (nI u), .int (nI v), .int (nI 1), .int (nI (max 1 (v - 1) ^ (σ 1 6))), .int (nI sl), .int (nI PU), .int (nI F), .int (nI MT), .int (nI (rfo σ F)), z12, z13, z14], [], HX σ N3 ρ4 n Ts B Q3) = some (.inl (some (.int (nI (1)))), HX σ N3 ρ4 n Ts B Q3) := by
    have hF2 : F < 1024 := by omega
    have e13 := s_277 (xs := xs) (d := d + 39) (h := HX σ N3 ρ4 n Ts B Q3) hF2
    have hpF := pc_le 10 F
    have hlt : ¬ PU < MT := by omega
    have hrf := rfo_le (u := F) O
    clear hE hE1 hE2 hX hG0 hG3 hS3 hS7 e1 e2 e3 e4 e5 e6 e7 e8 e9 e10 e11 e12 hUb
    by_cases c : F = 0
    · have c2 := hz.mp c
      rw [c] at e13 ⊢
      rw [c2]
      clear hne hz
      simp (disch := first | assumption | omega | exact st8_a (Nat.le_of_ble_eq_true rfl)) only [eb_298_97, eb_298_98, eb_298_99, eb_298_101, eb_298_102, eb_298_104, eb_298_105, eb_298_108, eb_298_109, eb_298_111, kl_a, kl_d, kl_f, kl_i, kl_l, kl_n, kl_r, xr_1, xr_10, xr_11, xr_12, xr_13, xr_14, xr_141, xr_143, xr_15, xr_151, xr_152, xr_153, xr_154, xr_155, xr_156, xr_16, xr_17, xr_18, xr_19, xr_2, xr_20, xr_220, xr_221, xr_258, xr_259, xr_260, xr_261, xr_262, xr_263, xr_264, xr_265, xr_266, xr_267, xr_268, xr_269, xr_27, xr_270, xr_271, xr_3, xr_32, xr_33, xr_34, xr_35, xr_36, xr_37, xr_38, xr_4, xr_41, xr_44, xr_5, xr_55, xr_56, xr_57, xr_58, xr_60, xr_61, xr_62, xr_63, xr_77, xr_91, xr_92, xr_93, xr_94, xr_95, xr_96, xr_98, af_0, af_1, xt_goto, xt_ib, xt_ic, xt_ic_eq, xt_ic_ge, xt_ic_gt, xt_ic_le, xt_ic_lt, xt_ic_ne, xt_if_eq, xt_if_ne, xt_ir, xt_nop, lF_10, lF_2, lF_3, lF_5, lF_8, lF_9, lA_64, lA_65, lA_66, lA_67, lA_68, lA_69, lA_70, lA_71, lA_72, lA_73, lA_75, lA_62, lW_64, lW_65, lW_66, lW_67, lW_68, lW_69, lW_70, lW_71, lW_72, lW_73, lW_75, lW_62, xq_133_11_virtualc, xq_134_11_virtualc, xq_145_11_virtualc, xq_146_11_virtualc, xq_156_11_virtualc, xq_157_11_virtualc, xq_277_200_static, xq_281_12_virtualm, xq_282_12_virtualm, xq_292_200_static, iN_add, iN_mul, iN_sub, iN_and, iN_or, iN_clr, iN_shl, iN_shr, tb_r1, b1_z, b1_or, b1_and, b1_or0, b1_or1, b1_0or, b1_t, b1_f, iN_lt, iN_inj, reduceIte, if_true, if_false, Nat.zero_add, Nat.add_zero, Bool.false_eq_true, Bool.true_eq_false, Nat.lt_irrefl, iN_az, not_true_eq_false, not_false_eq_true, Nat.reduceEqDiff, Nat.reduceLT, Nat.reduceAdd, Nat.reduceMul, Nat.reduceSub]
    · have c2 : ¬ MT = PU := fun z => c (hz.mpr z)
      have c3 := (hne c).1
      clear hne hz
      simp (disch := first | assumption | omega | exact st8_a (Nat.le_of_ble_eq_true rfl)) only [c, c2, e13, c3, hlt, eb_298_97, eb_298_98, eb_298_100, eb_298_101, eb_298_103, eb_298_104, eb_298_105, eb_298_106, eb_298_107, eb_298_108, eb_298_109, eb_298_111, kl_a, kl_d, kl_f, kl_i, kl_l, kl_n, kl_r, xr_1, xr_10, xr_11, xr_12, xr_13, xr_14, xr_141, xr_143, xr_15, xr_151, xr_152, xr_153, xr_154, xr_155, xr_156, xr_16, xr_17, xr_18, xr_19, xr_2, xr_20, xr_220, xr_221, xr_258, xr_259, xr_260, xr_261, xr_262, xr_263, xr_264, xr_265, xr_266, xr_267, xr_268, xr_269, xr_27, xr_270, xr_271, xr_3, xr_32, xr_33, xr_34, xr_35, xr_36, xr_37, xr_38, xr_4, xr_41, xr_44, xr_5, xr_55, xr_56, xr_57, xr_58, xr_60, xr_61, xr_62, xr_63, xr_77, xr_91, xr_92, xr_93, xr_94, xr_95, xr_96, xr_98, af_0, af_1, xt_goto, xt_ib, xt_ic, xt_ic_eq, xt_ic_ge, xt_ic_gt, xt_ic_le, xt_ic_lt, xt_ic_ne, xt_if_eq, xt_if_ne, xt_ir, xt_nop, lF_10, lF_2, lF_3, lF_5, lF_8, lF_9, lA_64, lA_65, lA_66, lA_67, lA_68, lA_69, lA_70, lA_71, lA_72, lA_73, lA_75, lA_62, lW_64, lW_65, lW_66, lW_67, lW_68, lW_69, lW_70, lW_71, lW_72, lW_73, lW_75, lW_62, xq_133_11_virtualc, xq_134_11_virtualc, xq_145_11_virtualc, xq_146_11_virtualc, xq_156_11_virtualc, xq_157_11_virtualc, xq_277_200_static, xq_281_12_virtualm, xq_282_12_virtualm, xq_292_200_static, iN_add, iN_mul, iN_sub, iN_and, iN_or, iN_clr, iN_shl, iN_shr, tb_r1, b1_z, b1_or, b1_and, b1_or0, b1_or1, b1_0or, b1_t, b1_f, iN_lt, iN_inj, reduceIte, if_true, if_false, Nat.zero_add, Nat.add_zero, Bool.false_eq_true, Bool.true_eq_false, Nat.lt_irrefl, iN_az, not_true_eq_false, not_false_eq_true, Nat.reduceEqDiff, Nat.reduceLT, Nat.reduceAdd, Nat.reduceMul, Nat.reduceSub]
  rw [← fin, ← e12]
  clear fin e12 hz hne
  have s1 : ev xs (d + 40) 298 81 ([.ref 0, .ref 63, .ref 62, .int (nI u), .int (nI v), .int (nI 1), .int (nI (max 1 (v - 1) ^ (σ 1 6))), .int (nI sl), .int (nI PU), .int (nI (σ 1 6)), w10, w11, w12, w13, .retAddr 9], [], HX σ N3 ρ4 n Ts B Q3) = ev xs (d + 40) 298 84 ([.ref 0, .ref 63, .ref 62, .int (nI u), .int (nI v), .int (nI 1), .int (nI (max 1 (v - 1) ^ (σ 1 6))), .int (nI sl), .int (nI PU), .int (nI F), .int (nI MT), .int (nI 0), .int (nI 0), w13, .retAddr 9], [], HX σ N3 ρ4 n Ts B Q3) := by
    clear hE hE1 hE2 hX hG0 hG3 hS3 hS7 e1 e2 e3 e4 e5 e6 e7 e8 e9 hUb
    simp (disch := first | assumption | omega | exact st8_a (Nat.le_of_ble_eq_true rfl)) only [e10, e11, eb_298_81, eb_298_82, eb_298_83, kl_a, kl_d, kl_f, kl_i, kl_l, kl_n, kl_r, xr_1, xr_10, xr_11, xr_12, xr_13, xr_14, xr_141, xr_143, xr_15, xr_151, xr_152, xr_153, xr_154, xr_155, xr_156, xr_16, xr_17, xr_18, xr_19, xr_2, xr_20, xr_220, xr_221, xr_258, xr_259, xr_260, xr_261, xr_262, xr_263, xr_264, xr_265, xr_266, xr_267, xr_268, xr_269, xr_27, xr_270, xr_271, xr_3, xr_32, xr_33, xr_34, xr_35, xr_36, xr_37, xr_38, xr_4, xr_41, xr_44, xr_5, xr_55, xr_56, xr_57, xr_58, xr_60, xr_61, xr_62, xr_63, xr_77, xr_91, xr_92, xr_93, xr_94, xr_95, xr_96, xr_98, af_0, af_1, xt_goto, xt_ib, xt_ic, xt_ic_eq, xt_ic_ge, xt_ic_gt, xt_ic_le, xt_ic_lt, xt_ic_ne, xt_if_eq, xt_if_ne, xt_ir, xt_nop, lF_10, lF_2, lF_3, lF_5, lF_8, lF_9, lA_64, lA_65, lA_66, lA_67, lA_68, lA_69, lA_70, lA_71, lA_72, lA_73, lA_75, lA_62, lW_64, lW_65, lW_66, lW_67, lW_68, lW_69, lW_70, lW_71, lW_72, lW_73, lW_75, lW_62, xq_133_11_virtualc, xq_134_11_virtualc, xq_145_11_virtualc, xq_146_11_virtualc, xq_156_11_virtualc, xq_157_11_virtualc, xq_277_200_static, xq_281_12_virtualm, xq_282_12_virtualm, xq_292_200_static, iN_add, iN_mul, iN_sub, iN_and, iN_or, iN_clr, iN_shl, iN_shr, tb_r1, b1_z, b1_or, b1_and, b1_or0, b1_or1, b1_0or, b1_t, b1_f, iN_lt, iN_inj, reduceIte, if_true, if_false, Nat.zero_add, Nat.add_zero, Bool.false_eq_true, Bool.true_eq_false, Nat.lt_irrefl, iN_az, not_true_eq_false, not_false_eq_true, Nat.reduceEqDiff, Nat.reduceLT, Nat.reduceAdd, Nat.reduceMul, Nat.reduceSub]
  have s2 : ev xs (d + 40) 298 74 ([.ref 0, .ref 63, .ref 62, .int (nI u), .int (nI v), .int (nI 1), .int (nI (max 1 (v - 1) ^ (σ 1 6))), .int (nI (σ 1 6)), y8, w9, w10, w11, w12, w13, .retAddr 9], [], HX σ N3 ρ3 n Ts B Q3) = ev xs (d + 40) 298 77 ([.ref 0, .ref 63, .ref 62, .int (nI u), .int (nI v), .int (nI 1), .int (nI (max 1 (v - 1) ^ (σ 1 6))), .int (nI sl), .int (nI 0), .int (nI 0), w10, w11, w12, w13, .retAddr 9], [], HX σ N3 ρ4 n Ts B Q3) := by
    clear hE hE1 hE2 hX hG0 hG3 hS3 hS7 e1 e2 e3 e4 e5 e6 e9 e10 e11 hUb s1
    simp (disch := first | assumption | omega | exact st8_a (Nat.le_of_ble_eq_true rfl)) only [e7, e8, eb_298_74, eb_298_75, eb_298_76, kl_a, kl_d, kl_f, kl_i, kl_l, kl_n, kl_r, xr_1, xr_10, xr_11, xr_12, xr_13, xr_14, xr_141, xr_143, xr_15, xr_151, xr_152, xr_153, xr_154, xr_155, xr_156, xr_16, xr_17, xr_18, xr_19, xr_2, xr_20, xr_220, xr_221, xr_258, xr_259, xr_260, xr_261, xr_262, xr_263, xr_264, xr_265, xr_266, xr_267, xr_268, xr_269, xr_27, xr_270, xr_271, xr_3, xr_32, xr_33, xr_34, xr_35, xr_36, xr_37, xr_38, xr_4, xr_41, xr_44, xr_5, xr_55, xr_56, xr_57, xr_58, xr_60, xr_61, xr_62, xr_63, xr_77, xr_91, xr_92, xr_93, xr_94, xr_95, xr_96, xr_98, af_0, af_1, xt_goto, xt_ib, xt_ic, xt_ic_eq, xt_ic_ge, xt_ic_gt, xt_ic_le, xt_ic_lt, xt_ic_ne, xt_if_eq, xt_if_ne, xt_ir, xt_nop, lF_10, lF_2, lF_3, lF_5, lF_8, lF_9, lA_64, lA_65, lA_66, lA_67, lA_68, lA_69, lA_70, lA_71, lA_72, lA_73, lA_75, lA_62, lW_64, lW_65, lW_66, lW_67, lW_68, lW_69, lW_70, lW_71, lW_72, lW_73, lW_75, lW_62, xq_133_11_virtualc, xq_134_11_virtualc, xq_145_11_virtualc, xq_146_11_virtualc, xq_156_11_virtualc, xq_157_11_virtualc, xq_277_200_static, xq_281_12_virtualm, xq_282_12_virtualm, xq_292_200_static, iN_add, iN_mul, iN_sub, iN_and, iN_or, iN_clr, iN_shl, iN_shr, tb_r1, b1_z, b1_or, b1_and, b1_or0, b1_or1, b1_0or, b1_t, b1_f, iN_lt, iN_inj, reduceIte, if_true, if_false, Nat.zero_add, Nat.add_zero, Bool.false_eq_true, Bool.true_eq_false, Nat.lt_irrefl, iN_az, not_true_eq_false, not_false_eq_true, Nat.reduceEqDiff, Nat.reduceLT, Nat.reduceAdd, Nat.reduceMul, Nat.reduceSub]
  rw [sm] at e9 ⊢
  rw [← s1, ← e9, ← s2, ← e6]
  clear s1 s2 e9 e6 e7 e8 e10 e11 hUb hG0 hG3 hS7
  have s3 : ev xs (d + 40) 298 67 ([.ref 0, .ref 63, .ref 62, .int (nI u), .int (nI v), .int (nI 1), .int (nI (max 1 (v - 1) ^ (σ 1 6))), .int w7, w8, w9, w10, w11, w12, w13, .retAddr 9], [], HX σ N2 ρ1 n Ts B Q3) = ev xs (d + 40) 298 68 ([.ref 0, .ref 63, .ref 62, .int (nI u), .int (nI v), .int (nI 1), .int (nI (max 1 (v - 1) ^ (σ 1 6))), .int (nI 0), w8, w9, w10, w11, w12, w13, .retAddr 9], [], HX σ N2 ρ1 n Ts B Q3) := by
    clear hE hE1 hE2 hX hS3 e1 e2 e3 e4 e5
    simp (disch := first | assumption | omega | exact st8_a (Nat.le_of_ble_eq_true rfl)) only [eb_298_67, kl_a, kl_d, kl_f, kl_i, kl_l, kl_n, kl_r, xr_1, xr_10, xr_11, xr_12, xr_13, xr_14, xr_141, xr_143, xr_15, xr_151, xr_152, xr_153, xr_154, xr_155, xr_156, xr_16, xr_17, xr_18, xr_19, xr_2, xr_20, xr_220, xr_221, xr_258, xr_259, xr_260, xr_261, xr_262, xr_263, xr_264, xr_265, xr_266, xr_267, xr_268, xr_269, xr_27, xr_270, xr_271, xr_3, xr_32, xr_33, xr_34, xr_35, xr_36, xr_37, xr_38, xr_4, xr_41, xr_44, xr_5, xr_55, xr_56, xr_57, xr_58, xr_60, xr_61, xr_62, xr_63, xr_77, xr_91, xr_92, xr_93, xr_94, xr_95, xr_96, xr_98, af_0, af_1, xt_goto, xt_ib, xt_ic, xt_ic_eq, xt_ic_ge, xt_ic_gt, xt_ic_le, xt_ic_lt, xt_ic_ne, xt_if_eq, xt_if_ne, xt_ir, xt_nop, lF_10, lF_2, lF_3, lF_5, lF_8, lF_9, lA_64, lA_65, lA_66, lA_67, lA_68, lA_69, lA_70, lA_71, lA_72, lA_73, lA_75, lA_62, lW_64, lW_65, lW_66, lW_67, lW_68, lW_69, lW_70, lW_71, lW_72, lW_73, lW_75, lW_62, xq_133_11_virtualc, xq_134_11_virtualc, xq_145_11_virtualc, xq_146_11_virtualc, xq_156_11_virtualc, xq_157_11_virtualc, xq_277_200_static, xq_281_12_virtualm, xq_282_12_virtualm, xq_292_200_static, iN_add, iN_mul, iN_sub, iN_and, iN_or, iN_clr, iN_shl, iN_shr, tb_r1, b1_z, b1_or, b1_and, b1_or0, b1_or1, b1_0or, b1_t, b1_f, iN_lt, iN_inj, reduceIte, if_true, if_false, Nat.zero_add, Nat.add_zero, Bool.false_eq_true, Bool.true_eq_false, Nat.lt_irrefl, iN_az, not_true_eq_false, not_false_eq_true, Nat.reduceEqDiff, Nat.reduceLT, Nat.reduceAdd, Nat.reduceMul, Nat.reduceSub]
  have s4 : ev xs (d + 40) 298 42 ([.ref 0, .ref 63, .ref 62, .int (nI u), .int (nI v), .int (nI 1), .int (nI (max 1 (v - 1) ^ (σ 1 6))), .int (nI (σ 1 6)), z8, z9, .retAddr 9, .retAddr 9, .retAddr 9, .retAddr 9, .retAddr 9], [], HX σ N2 ρ1 n Ts B Q) = ev xs (d + 40) 298 43 ([.ref 0, .ref 63, .ref 62, .int (nI u), .int (nI v), .int (nI 1), .int (nI (max 1 (v - 1) ^ (σ 1 6))), .int (nI 0), z8, z9, .retAddr 9, .retAddr 9, .retAddr 9, .retAddr 9, .retAddr 9], [], HX σ N2 ρ1 n Ts B Q) := by
    clear hE hE1 hE2 hX hS3 e1 e2 e3 e4 e5 s3
    simp (disch := first | assumption | omega | exact st8_a (Nat.le_of_ble_eq_true rfl)) only [eb_298_42, kl_a, kl_d, kl_f, kl_i, kl_l, kl_n, kl_r, xr_1, xr_10, xr_11, xr_12, xr_13, xr_14, xr_141, xr_143, xr_15, xr_151, xr_152, xr_153, xr_154, xr_155, xr_156, xr_16, xr_17, xr_18, xr_19, xr_2, xr_20, xr_220, xr_221, xr_258, xr_259, xr_260, xr_261, xr_262, xr_263, xr_264, xr_265, xr_266, xr_267, xr_268, xr_269, xr_27, xr_270, xr_271, xr_3, xr_32, xr_33, xr_34, xr_35, xr_36, xr_37, xr_38, xr_4, xr_41, xr_44, xr_5, xr_55, xr_56, xr_57, xr_58, xr_60, xr_61, xr_62, xr_63, xr_77, xr_91, xr_92, xr_93, xr_94, xr_95, xr_96, xr_98, af_0, af_1, xt_goto, xt_ib, xt_ic, xt_ic_eq, xt_ic_ge, xt_ic_gt, xt_ic_le, xt_ic_lt, xt_ic_ne, xt_if_eq, xt_if_ne, xt_ir, xt_nop, lF_10, lF_2, lF_3, lF_5, lF_8, lF_9, lA_64, lA_65, lA_66, lA_67, lA_68, lA_69, lA_70, lA_71, lA_72, lA_73, lA_75, lA_62, lW_64, lW_65, lW_66, lW_67, lW_68, lW_69, lW_70, lW_71, lW_72, lW_73, lW_75, lW_62, xq_133_11_virtualc, xq_134_11_virtualc, xq_145_11_virtualc, xq_146_11_virtualc, xq_156_11_virtualc, xq_157_11_virtualc, xq_277_200_static, xq_281_12_virtualm, xq_282_12_virtualm, xq_292_200_static, iN_add, iN_mul, iN_sub, iN_and, iN_or, iN_clr, iN_shl, iN_shr, tb_r1, b1_z, b1_or, b1_and, b1_or0, b1_or1, b1_0or, b1_t, b1_f, iN_lt, iN_inj, reduceIte, if_true, if_false, Nat.zero_add, Nat.add_zero, Bool.false_eq_true, Bool.true_eq_false, Nat.lt_irrefl, iN_az, not_true_eq_false, not_false_eq_true, Nat.reduceEqDiff, Nat.reduceLT, Nat.reduceAdd, Nat.reduceMul, Nat.reduceSub]
  have s5 : ev xs (d + 40) 298 39 ([.ref 0, .ref 63, .ref 62, .int (nI u), .int (nI v), .int (nI 1), .int (nI (σ 1 6)), z7, z8, z9, .retAddr 9, .retAddr 9, .retAddr 9, .retAddr 9, .retAddr 9], [], HX σ N2 ρ1 n Ts B Q) = ev xs (d + 40) 298 40 ([.ref 0, .ref 63, .ref 62, .int (nI u), .int (nI v), .int (nI 1), .int (nI (max 1 (v - 1) ^ 0)), .int (nI 0), z8, z9, .retAddr 9, .retAddr 9, .retAddr 9, .retAddr 9, .retAddr 9], [], HX σ N2 ρ1 n Ts B Q) := by
    clear hE hE1 hE2 hX hS3 e1 e2 e3 e4 e5 s3 s4
    rw [Nat.pow_zero]
    simp (disch := first | assumption | omega | exact st8_a (Nat.le_of_ble_eq_true rfl)) only [eb_298_39, kl_a, kl_d, kl_f, kl_i, kl_l, kl_n, kl_r, xr_1, xr_10, xr_11, xr_12, xr_13, xr_14, xr_141, xr_143, xr_15, xr_151, xr_152, xr_153, xr_154, xr_155, xr_156, xr_16, xr_17, xr_18, xr_19, xr_2, xr_20, xr_220, xr_221, xr_258, xr_259, xr_260, xr_261, xr_262, xr_263, xr_264, xr_265, xr_266, xr_267, xr_268, xr_269, xr_27, xr_270, xr_271, xr_3, xr_32, xr_33, xr_34, xr_35, xr_36, xr_37, xr_38, xr_4, xr_41, xr_44, xr_5, xr_55, xr_56, xr_57, xr_58, xr_60, xr_61, xr_62, xr_63, xr_77, xr_91, xr_92, xr_93, xr_94, xr_95, xr_96, xr_98, af_0, af_1, xt_goto, xt_ib, xt_ic, xt_ic_eq, xt_ic_ge, xt_ic_gt, xt_ic_le, xt_ic_lt, xt_ic_ne, xt_if_eq, xt_if_ne, xt_ir, xt_nop, lF_10, lF_2, lF_3, lF_5, lF_8, lF_9, lA_64, lA_65, lA_66, lA_67, lA_68, lA_69, lA_70, lA_71, lA_72, lA_73, lA_75, lA_62, lW_64, lW_65, lW_66, lW_67, lW_68, lW_69, lW_70, lW_71, lW_72, lW_73, lW_75, lW_62, xq_133_11_virtualc, xq_134_11_virtualc, xq_145_11_virtualc, xq_146_11_virtualc, xq_156_11_virtualc, xq_157_11_virtualc, xq_277_200_static, xq_281_12_virtualm, xq_282_12_virtualm, xq_292_200_static, iN_add, iN_mul, iN_sub, iN_and, iN_or, iN_clr, iN_shl, iN_shr, tb_r1, b1_z, b1_or, b1_and, b1_or0, b1_or1, b1_0or, b1_t, b1_f, iN_lt, iN_inj, reduceIte, if_true, if_false, Nat.zero_add, Nat.add_zero, Bool.false_eq_true, Bool.true_eq_false, Nat.lt_irrefl, iN_az, not_true_eq_false, not_false_eq_true, Nat.reduceEqDiff, Nat.reduceLT, Nat.reduceAdd, Nat.reduceMul, Nat.reduceSub]
  have s6 : ev xs (d + 40) 298 0 ([.ref 0, .ref 63, .ref 62, .retAddr 9, .retAddr 9, .retAddr 9, .retAddr 9, .retAddr 9, .retAddr 9, .retAddr 9, .retAddr 9, .retAddr 9, .retAddr 9, .retAddr 9, .retAddr 9], [], HX σ M ρ n Ts B Q) = ev xs (d + 40) 298 1 ([.ref 0, .ref 63, .ref 62, .retAddr 9, .retAddr 9, .retAddr 9, .retAddr 9, .retAddr 9, .retAddr 9, .retAddr 9, .retAddr 9, .retAddr 9, .retAddr 9, .retAddr 9, .retAddr 9], [.int (nI u)], HX σ M ρ1 n Ts B Q) := by
    clear hE hE1 hE2 hX hS3 e2 e3 e4 e5 s3 s4 s5
    simp (disch := first | assumption | omega | exact st8_a (Nat.le_of_ble_eq_true rfl)) only [e1, eb_298_0, kl_a, kl_d, kl_f, kl_i, kl_l, kl_n, kl_r, xr_1, xr_10, xr_11, xr_12, xr_13, xr_14, xr_141, xr_143, xr_15, xr_151, xr_152, xr_153, xr_154, xr_155, xr_156, xr_16, xr_17, xr_18, xr_19, xr_2, xr_20, xr_220, xr_221, xr_258, xr_259, xr_260, xr_261, xr_262, xr_263, xr_264, xr_265, xr_266, xr_267, xr_268, xr_269, xr_27, xr_270, xr_271, xr_3, xr_32, xr_33, xr_34, xr_35, xr_36, xr_37, xr_38, xr_4, xr_41, xr_44, xr_5, xr_55, xr_56, xr_57, xr_58, xr_60, xr_61, xr_62, xr_63, xr_77, xr_91, xr_92, xr_93, xr_94, xr_95, xr_96, xr_98, af_0, af_1, xt_goto, xt_ib, xt_ic, xt_ic_eq, xt_ic_ge, xt_ic_gt, xt_ic_le, xt_ic_lt, xt_ic_ne, xt_if_eq, xt_if_ne, xt_ir, xt_nop, lF_10, lF_2, lF_3, lF_5, lF_8, lF_9, lA_64, lA_65, lA_66, lA_67, lA_68, lA_69, lA_70, lA_71, lA_72, lA_73, lA_75, lA_62, lW_64, lW_65, lW_66, lW_67, lW_68, lW_69, lW_70, lW_71, lW_72, lW_73, lW_75, lW_62, xq_133_11_virtualc, xq_134_11_virtualc, xq_145_11_virtualc, xq_146_11_virtualc, xq_156_11_virtualc, xq_157_11_virtualc, xq_277_200_static, xq_281_12_virtualm, xq_282_12_virtualm, xq_292_200_static, iN_add, iN_mul, iN_sub, iN_and, iN_or, iN_clr, iN_shl, iN_shr, tb_r1, b1_z, b1_or, b1_and, b1_or0, b1_or1, b1_0or, b1_t, b1_f, iN_lt, iN_inj, reduceIte, if_true, if_false, Nat.zero_add, Nat.add_zero, Bool.false_eq_true, Bool.true_eq_false, Nat.lt_irrefl, iN_az, not_true_eq_false, not_false_eq_true, Nat.reduceEqDiff, Nat.reduceLT, Nat.reduceAdd, Nat.reduceMul, Nat.reduceSub]
  rw [← s3, ← e5, ← s4, ← e4, ← s5, ← e3, ← e2, ← s6]
end Pj
